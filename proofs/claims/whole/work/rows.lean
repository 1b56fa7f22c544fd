section
-- ===== PART A: goes FIRST, ahead of the names: the tables' words, and 'selects' of the private methods out of them =====
/-- a private method of a class that the tables say can be made, by its rows of tables_1 -/
def lw_okq (q : MethodName × Nat) : Prop := (q.1.cls ≠ "java/lang/invoke/MethodHandle" ∧ q.1.cls ≠ "java/lang/invoke/VarHandle") ∧ Cond.instantiable q.1.cls q.2 ∈ tables_1 ∧ Cond.privateMethod q.1 ∈ tables_1 ∧ Cond.instanceMethod q.1 ∈ tables_1
theorem lw_p0 : lw_okq (⟨"MatchSeeker$Row", "empty", "()V"⟩, 3) := ⟨⟨by decide +kernel, by decide +kernel⟩, List.mem_of_getElem? (i := 20) (by decide +kernel), List.mem_of_getElem? (i := 263) (by decide +kernel), List.mem_of_getElem? (i := 264) (by decide +kernel)⟩
theorem lw_p1 : lw_okq (⟨"MatchSeeker$Finder", "forgetData", "()V"⟩, 15) := ⟨⟨by decide +kernel, by decide +kernel⟩, List.mem_of_getElem? (i := 95) (by decide +kernel), List.mem_of_getElem? (i := 267) (by decide +kernel), List.mem_of_getElem? (i := 268) (by decide +kernel)⟩
theorem lw_p2 : lw_okq (⟨"MatchSeeker$Finder", "unlink", "()V"⟩, 15) := ⟨⟨by decide +kernel, by decide +kernel⟩, List.mem_of_getElem? (i := 95) (by decide +kernel), List.mem_of_getElem? (i := 271) (by decide +kernel), List.mem_of_getElem? (i := 272) (by decide +kernel)⟩
theorem lw_p3 : lw_okq (⟨"MatchSeeker$Found", "forget", "()V"⟩, 14) := ⟨⟨by decide +kernel, by decide +kernel⟩, List.mem_of_getElem? (i := 185) (by decide +kernel), List.mem_of_getElem? (i := 278) (by decide +kernel), List.mem_of_getElem? (i := 279) (by decide +kernel)⟩
theorem lw_p4 : lw_okq (⟨"MatchSeeker$Row", "takes", "(J)Z"⟩, 3) := ⟨⟨by decide +kernel, by decide +kernel⟩, List.mem_of_getElem? (i := 20) (by decide +kernel), List.mem_of_getElem? (i := 289) (by decide +kernel), List.mem_of_getElem? (i := 290) (by decide +kernel)⟩
theorem lw_p5 : lw_okq (⟨"MatchSeeker$Row", "append", "(JI)V"⟩, 3) := ⟨⟨by decide +kernel, by decide +kernel⟩, List.mem_of_getElem? (i := 20) (by decide +kernel), List.mem_of_getElem? (i := 294) (by decide +kernel), List.mem_of_getElem? (i := 295) (by decide +kernel)⟩
theorem lw_p6 : lw_okq (⟨"MatchSeeker$Row", "makeRoom", "(I)V"⟩, 3) := ⟨⟨by decide +kernel, by decide +kernel⟩, List.mem_of_getElem? (i := 20) (by decide +kernel), List.mem_of_getElem? (i := 298) (by decide +kernel), List.mem_of_getElem? (i := 299) (by decide +kernel)⟩
theorem lw_p7 : lw_okq (⟨"MatchSeeker$Row", "repeat", "(II)V"⟩, 3) := ⟨⟨by decide +kernel, by decide +kernel⟩, List.mem_of_getElem? (i := 20) (by decide +kernel), List.mem_of_getElem? (i := 326) (by decide +kernel), List.mem_of_getElem? (i := 327) (by decide +kernel)⟩
theorem lw_p8 : lw_okq (⟨"MatchSeeker$Row", "hasPlace", "(I)Z"⟩, 3) := ⟨⟨by decide +kernel, by decide +kernel⟩, List.mem_of_getElem? (i := 20) (by decide +kernel), List.mem_of_getElem? (i := 348) (by decide +kernel), List.mem_of_getElem? (i := 349) (by decide +kernel)⟩
theorem lw_p9 : lw_okq (⟨"MatchSeeker$Finder", "readData", "()V"⟩, 15) := ⟨⟨by decide +kernel, by decide +kernel⟩, List.mem_of_getElem? (i := 95) (by decide +kernel), List.mem_of_getElem? (i := 352) (by decide +kernel), List.mem_of_getElem? (i := 353) (by decide +kernel)⟩
theorem lw_p10 : lw_okq (⟨"MatchSeeker$Finder", "enlarge", "(I)V"⟩, 15) := ⟨⟨by decide +kernel, by decide +kernel⟩, List.mem_of_getElem? (i := 95) (by decide +kernel), List.mem_of_getElem? (i := 357) (by decide +kernel), List.mem_of_getElem? (i := 358) (by decide +kernel)⟩
theorem lw_p11 : lw_okq (⟨"MatchSeeker$Finder", "slotOf", "(I)I"⟩, 15) := ⟨⟨by decide +kernel, by decide +kernel⟩, List.mem_of_getElem? (i := 95) (by decide +kernel), List.mem_of_getElem? (i := 361) (by decide +kernel), List.mem_of_getElem? (i := 362) (by decide +kernel)⟩
theorem lw_p12 : lw_okq (⟨"MatchSeeker$Finder", "seek", "(II)V"⟩, 15) := ⟨⟨by decide +kernel, by decide +kernel⟩, List.mem_of_getElem? (i := 95) (by decide +kernel), List.mem_of_getElem? (i := 366) (by decide +kernel), List.mem_of_getElem? (i := 367) (by decide +kernel)⟩
theorem lw_p13 : lw_okq (⟨"MatchSeeker$Finder", "seekNearest", "(I)V"⟩, 15) := ⟨⟨by decide +kernel, by decide +kernel⟩, List.mem_of_getElem? (i := 95) (by decide +kernel), List.mem_of_getElem? (i := 370) (by decide +kernel), List.mem_of_getElem? (i := 371) (by decide +kernel)⟩
theorem lw_p14 : lw_okq (⟨"MatchSeeker$Finder", "startAt", "(II)V"⟩, 15) := ⟨⟨by decide +kernel, by decide +kernel⟩, List.mem_of_getElem? (i := 95) (by decide +kernel), List.mem_of_getElem? (i := 374) (by decide +kernel), List.mem_of_getElem? (i := 375) (by decide +kernel)⟩
theorem lw_p15 : lw_okq (⟨"MatchSeeker$Rule", "endOf", "(I)I"⟩, 8) := ⟨⟨by decide +kernel, by decide +kernel⟩, List.mem_of_getElem? (i := 46) (by decide +kernel), List.mem_of_getElem? (i := 381) (by decide +kernel), List.mem_of_getElem? (i := 382) (by decide +kernel)⟩
def lw_privs_1 : List (MethodName × Nat) := [(⟨"MatchSeeker$Row", "empty", "()V"⟩, 3), (⟨"MatchSeeker$Finder", "forgetData", "()V"⟩, 15), (⟨"MatchSeeker$Finder", "unlink", "()V"⟩, 15), (⟨"MatchSeeker$Found", "forget", "()V"⟩, 14), (⟨"MatchSeeker$Row", "takes", "(J)Z"⟩, 3), (⟨"MatchSeeker$Row", "append", "(JI)V"⟩, 3), (⟨"MatchSeeker$Row", "makeRoom", "(I)V"⟩, 3), (⟨"MatchSeeker$Row", "repeat", "(II)V"⟩, 3), (⟨"MatchSeeker$Row", "hasPlace", "(I)Z"⟩, 3), (⟨"MatchSeeker$Finder", "readData", "()V"⟩, 15), (⟨"MatchSeeker$Finder", "enlarge", "(I)V"⟩, 15), (⟨"MatchSeeker$Finder", "slotOf", "(I)I"⟩, 15), (⟨"MatchSeeker$Finder", "seek", "(II)V"⟩, 15), (⟨"MatchSeeker$Finder", "seekNearest", "(I)V"⟩, 15), (⟨"MatchSeeker$Finder", "startAt", "(II)V"⟩, 15), (⟨"MatchSeeker$Rule", "endOf", "(I)I"⟩, 8)]
theorem lw_r1 : ∀ q ∈ lw_privs_1, lw_okq q := List.forall_mem_cons.mpr ⟨lw_p0, List.forall_mem_cons.mpr ⟨lw_p1, List.forall_mem_cons.mpr ⟨lw_p2, List.forall_mem_cons.mpr ⟨lw_p3, List.forall_mem_cons.mpr ⟨lw_p4, List.forall_mem_cons.mpr ⟨lw_p5, List.forall_mem_cons.mpr ⟨lw_p6, List.forall_mem_cons.mpr ⟨lw_p7, List.forall_mem_cons.mpr ⟨lw_p8, List.forall_mem_cons.mpr ⟨lw_p9, List.forall_mem_cons.mpr ⟨lw_p10, List.forall_mem_cons.mpr ⟨lw_p11, List.forall_mem_cons.mpr ⟨lw_p12, List.forall_mem_cons.mpr ⟨lw_p13, List.forall_mem_cons.mpr ⟨lw_p14, List.forall_mem_cons.mpr ⟨lw_p15, fun _ h => absurd h List.not_mem_nil⟩⟩⟩⟩⟩⟩⟩⟩⟩⟩⟩⟩⟩⟩⟩⟩
theorem lw_p16 : lw_okq (⟨"MatchSeeker$Rule", "lastOf", "(I)I"⟩, 8) := ⟨⟨by decide +kernel, by decide +kernel⟩, List.mem_of_getElem? (i := 46) (by decide +kernel), List.mem_of_getElem? (i := 387) (by decide +kernel), List.mem_of_getElem? (i := 388) (by decide +kernel)⟩
theorem lw_p17 : lw_okq (⟨"MatchSeeker$Finder", "findLonger", "()Z"⟩, 15) := ⟨⟨by decide +kernel, by decide +kernel⟩, List.mem_of_getElem? (i := 95) (by decide +kernel), List.mem_of_getElem? (i := 391) (by decide +kernel), List.mem_of_getElem? (i := 392) (by decide +kernel)⟩
theorem lw_p18 : lw_okq (⟨"MatchSeeker$Finder", "sameBytes", "(III)I"⟩, 15) := ⟨⟨by decide +kernel, by decide +kernel⟩, List.mem_of_getElem? (i := 95) (by decide +kernel), List.mem_of_getElem? (i := 395) (by decide +kernel), List.mem_of_getElem? (i := 396) (by decide +kernel)⟩
theorem lw_p19 : lw_okq (⟨"MatchSeeker$Finder", "seekLongestIfNotNext", "(I)V"⟩, 15) := ⟨⟨by decide +kernel, by decide +kernel⟩, List.mem_of_getElem? (i := 95) (by decide +kernel), List.mem_of_getElem? (i := 399) (by decide +kernel), List.mem_of_getElem? (i := 400) (by decide +kernel)⟩
theorem lw_p20 : lw_okq (⟨"MatchSeeker$Finder", "seekLongest", "(I)V"⟩, 15) := ⟨⟨by decide +kernel, by decide +kernel⟩, List.mem_of_getElem? (i := 95) (by decide +kernel), List.mem_of_getElem? (i := 403) (by decide +kernel), List.mem_of_getElem? (i := 404) (by decide +kernel)⟩
theorem lw_p21 : lw_okq (⟨"MatchSeeker$Finder", "matchesAt", "(I)I"⟩, 15) := ⟨⟨by decide +kernel, by decide +kernel⟩, List.mem_of_getElem? (i := 95) (by decide +kernel), List.mem_of_getElem? (i := 411) (by decide +kernel), List.mem_of_getElem? (i := 412) (by decide +kernel)⟩
theorem lw_p22 : lw_okq (⟨"MatchSeeker$Found", "begin", "()V"⟩, 14) := ⟨⟨by decide +kernel, by decide +kernel⟩, List.mem_of_getElem? (i := 185) (by decide +kernel), List.mem_of_getElem? (i := 419) (by decide +kernel), List.mem_of_getElem? (i := 420) (by decide +kernel)⟩
theorem lw_p23 : lw_okq (⟨"MatchSeeker", "followPlan", "()V"⟩, 5) := ⟨⟨by decide +kernel, by decide +kernel⟩, List.mem_of_getElem? (i := 12) (by decide +kernel), List.mem_of_getElem? (i := 425) (by decide +kernel), List.mem_of_getElem? (i := 426) (by decide +kernel)⟩
theorem lw_p24 : lw_okq (⟨"MatchSeeker$Plan", "make", "()V"⟩, 8) := ⟨⟨by decide +kernel, by decide +kernel⟩, List.mem_of_getElem? (i := 152) (by decide +kernel), List.mem_of_getElem? (i := 429) (by decide +kernel), List.mem_of_getElem? (i := 430) (by decide +kernel)⟩
theorem lw_p25 : lw_okq (⟨"MatchSeeker$Plan", "makeRoom", "(I)V"⟩, 8) := ⟨⟨by decide +kernel, by decide +kernel⟩, List.mem_of_getElem? (i := 152) (by decide +kernel), List.mem_of_getElem? (i := 433) (by decide +kernel), List.mem_of_getElem? (i := 434) (by decide +kernel)⟩
theorem lw_p26 : lw_okq (⟨"MatchSeeker$Plan", "addEnd", "(I)V"⟩, 8) := ⟨⟨by decide +kernel, by decide +kernel⟩, List.mem_of_getElem? (i := 152) (by decide +kernel), List.mem_of_getElem? (i := 441) (by decide +kernel), List.mem_of_getElem? (i := 442) (by decide +kernel)⟩
theorem lw_p27 : lw_okq (⟨"MatchSeeker$Plan", "takeLiteral", "(I)V"⟩, 8) := ⟨⟨by decide +kernel, by decide +kernel⟩, List.mem_of_getElem? (i := 152) (by decide +kernel), List.mem_of_getElem? (i := 445) (by decide +kernel), List.mem_of_getElem? (i := 446) (by decide +kernel)⟩
theorem lw_p28 : lw_okq (⟨"MatchSeeker$Plan", "takeBestMatch", "(II)V"⟩, 8) := ⟨⟨by decide +kernel, by decide +kernel⟩, List.mem_of_getElem? (i := 152) (by decide +kernel), List.mem_of_getElem? (i := 449) (by decide +kernel), List.mem_of_getElem? (i := 450) (by decide +kernel)⟩
theorem lw_p29 : lw_okq (⟨"MatchSeeker$Finder", "expectAtMost", "(I)V"⟩, 15) := ⟨⟨by decide +kernel, by decide +kernel⟩, List.mem_of_getElem? (i := 95) (by decide +kernel), List.mem_of_getElem? (i := 455) (by decide +kernel), List.mem_of_getElem? (i := 456) (by decide +kernel)⟩
theorem lw_p30 : lw_okq (⟨"MatchSeeker$Plan", "consider", "(III)V"⟩, 8) := ⟨⟨by decide +kernel, by decide +kernel⟩, List.mem_of_getElem? (i := 152) (by decide +kernel), List.mem_of_getElem? (i := 460) (by decide +kernel), List.mem_of_getElem? (i := 461) (by decide +kernel)⟩
theorem lw_p31 : lw_okq (⟨"MatchSeeker$Plan", "cheapestEnd", "(I)I"⟩, 8) := ⟨⟨by decide +kernel, by decide +kernel⟩, List.mem_of_getElem? (i := 152) (by decide +kernel), List.mem_of_getElem? (i := 464) (by decide +kernel), List.mem_of_getElem? (i := 465) (by decide +kernel)⟩
def lw_privs_2 : List (MethodName × Nat) := [(⟨"MatchSeeker$Rule", "lastOf", "(I)I"⟩, 8), (⟨"MatchSeeker$Finder", "findLonger", "()Z"⟩, 15), (⟨"MatchSeeker$Finder", "sameBytes", "(III)I"⟩, 15), (⟨"MatchSeeker$Finder", "seekLongestIfNotNext", "(I)V"⟩, 15), (⟨"MatchSeeker$Finder", "seekLongest", "(I)V"⟩, 15), (⟨"MatchSeeker$Finder", "matchesAt", "(I)I"⟩, 15), (⟨"MatchSeeker$Found", "begin", "()V"⟩, 14), (⟨"MatchSeeker", "followPlan", "()V"⟩, 5), (⟨"MatchSeeker$Plan", "make", "()V"⟩, 8), (⟨"MatchSeeker$Plan", "makeRoom", "(I)V"⟩, 8), (⟨"MatchSeeker$Plan", "addEnd", "(I)V"⟩, 8), (⟨"MatchSeeker$Plan", "takeLiteral", "(I)V"⟩, 8), (⟨"MatchSeeker$Plan", "takeBestMatch", "(II)V"⟩, 8), (⟨"MatchSeeker$Finder", "expectAtMost", "(I)V"⟩, 15), (⟨"MatchSeeker$Plan", "consider", "(III)V"⟩, 8), (⟨"MatchSeeker$Plan", "cheapestEnd", "(I)I"⟩, 8)]
theorem lw_r2 : ∀ q ∈ lw_privs_2, lw_okq q := List.forall_mem_cons.mpr ⟨lw_p16, List.forall_mem_cons.mpr ⟨lw_p17, List.forall_mem_cons.mpr ⟨lw_p18, List.forall_mem_cons.mpr ⟨lw_p19, List.forall_mem_cons.mpr ⟨lw_p20, List.forall_mem_cons.mpr ⟨lw_p21, List.forall_mem_cons.mpr ⟨lw_p22, List.forall_mem_cons.mpr ⟨lw_p23, List.forall_mem_cons.mpr ⟨lw_p24, List.forall_mem_cons.mpr ⟨lw_p25, List.forall_mem_cons.mpr ⟨lw_p26, List.forall_mem_cons.mpr ⟨lw_p27, List.forall_mem_cons.mpr ⟨lw_p28, List.forall_mem_cons.mpr ⟨lw_p29, List.forall_mem_cons.mpr ⟨lw_p30, List.forall_mem_cons.mpr ⟨lw_p31, fun _ h => absurd h List.not_mem_nil⟩⟩⟩⟩⟩⟩⟩⟩⟩⟩⟩⟩⟩⟩⟩⟩
theorem lw_p32 : lw_okq (⟨"MatchSeeker$Found", "add", "(II)V"⟩, 14) := ⟨⟨by decide +kernel, by decide +kernel⟩, List.mem_of_getElem? (i := 185) (by decide +kernel), List.mem_of_getElem? (i := 471) (by decide +kernel), List.mem_of_getElem? (i := 472) (by decide +kernel)⟩
theorem lw_p33 : lw_okq (⟨"MatchSeeker", "takeWhatIsSought", "()V"⟩, 5) := ⟨⟨by decide +kernel, by decide +kernel⟩, List.mem_of_getElem? (i := 12) (by decide +kernel), List.mem_of_getElem? (i := 478) (by decide +kernel), List.mem_of_getElem? (i := 479) (by decide +kernel)⟩
theorem lw_p34 : lw_okq (⟨"MatchSeeker$Found", "differences", "()I"⟩, 14) := ⟨⟨by decide +kernel, by decide +kernel⟩, List.mem_of_getElem? (i := 185) (by decide +kernel), List.mem_of_getElem? (i := 494) (by decide +kernel), List.mem_of_getElem? (i := 495) (by decide +kernel)⟩
theorem lw_p35 : lw_okq (⟨"MatchSeeker$Found", "rebuild", "()V"⟩, 14) := ⟨⟨by decide +kernel, by decide +kernel⟩, List.mem_of_getElem? (i := 185) (by decide +kernel), List.mem_of_getElem? (i := 498) (by decide +kernel), List.mem_of_getElem? (i := 499) (by decide +kernel)⟩
theorem lw_p36 : lw_okq (⟨"MatchSeeker$Found", "copyFromData", "(II)I"⟩, 14) := ⟨⟨by decide +kernel, by decide +kernel⟩, List.mem_of_getElem? (i := 185) (by decide +kernel), List.mem_of_getElem? (i := 502) (by decide +kernel), List.mem_of_getElem? (i := 503) (by decide +kernel)⟩
theorem lw_p37 : lw_okq (⟨"MatchSeeker$Found", "copyFromRebuilt", "(III)I"⟩, 14) := ⟨⟨by decide +kernel, by decide +kernel⟩, List.mem_of_getElem? (i := 185) (by decide +kernel), List.mem_of_getElem? (i := 507) (by decide +kernel), List.mem_of_getElem? (i := 508) (by decide +kernel)⟩
theorem lw_p38 : lw_okq (⟨"MatchSeekerModel", "chosen", "(II)Z"⟩, 26) := ⟨⟨by decide +kernel, by decide +kernel⟩, List.mem_of_getElem? (i := 515) (by decide +kernel), List.mem_of_getElem? (i := 634) (by decide +kernel), List.mem_of_getElem? (i := 635) (by decide +kernel)⟩
theorem lw_p39 : lw_okq (⟨"MatchSeekerModel", "nearest", "(II)Z"⟩, 26) := ⟨⟨by decide +kernel, by decide +kernel⟩, List.mem_of_getElem? (i := 515) (by decide +kernel), List.mem_of_getElem? (i := 638) (by decide +kernel), List.mem_of_getElem? (i := 639) (by decide +kernel)⟩
theorem lw_p40 : lw_okq (⟨"MatchSeekerModel", "room", "(I)I"⟩, 26) := ⟨⟨by decide +kernel, by decide +kernel⟩, List.mem_of_getElem? (i := 515) (by decide +kernel), List.mem_of_getElem? (i := 642) (by decide +kernel), List.mem_of_getElem? (i := 643) (by decide +kernel)⟩
theorem lw_p41 : lw_okq (⟨"MatchSeekerModel", "end", "()I"⟩, 26) := ⟨⟨by decide +kernel, by decide +kernel⟩, List.mem_of_getElem? (i := 515) (by decide +kernel), List.mem_of_getElem? (i := 646) (by decide +kernel), List.mem_of_getElem? (i := 647) (by decide +kernel)⟩
theorem lw_p42 : lw_okq (⟨"MatchSeekerModel", "last", "()I"⟩, 26) := ⟨⟨by decide +kernel, by decide +kernel⟩, List.mem_of_getElem? (i := 515) (by decide +kernel), List.mem_of_getElem? (i := 650) (by decide +kernel), List.mem_of_getElem? (i := 651) (by decide +kernel)⟩
theorem lw_p43 : lw_okq (⟨"MatchSeekerModel", "lowest", "(I)I"⟩, 26) := ⟨⟨by decide +kernel, by decide +kernel⟩, List.mem_of_getElem? (i := 515) (by decide +kernel), List.mem_of_getElem? (i := 654) (by decide +kernel), List.mem_of_getElem? (i := 655) (by decide +kernel)⟩
theorem lw_p44 : lw_okq (⟨"MatchSeekerModel", "alike", "(III)I"⟩, 26) := ⟨⟨by decide +kernel, by decide +kernel⟩, List.mem_of_getElem? (i := 515) (by decide +kernel), List.mem_of_getElem? (i := 658) (by decide +kernel), List.mem_of_getElem? (i := 659) (by decide +kernel)⟩
theorem lw_p45 : lw_okq (⟨"MatchSeekerModel", "longest", "(I)Z"⟩, 26) := ⟨⟨by decide +kernel, by decide +kernel⟩, List.mem_of_getElem? (i := 515) (by decide +kernel), List.mem_of_getElem? (i := 662) (by decide +kernel), List.mem_of_getElem? (i := 663) (by decide +kernel)⟩
theorem lw_p46 : lw_okq (⟨"MatchSeekerModel", "reckon", "()V"⟩, 26) := ⟨⟨by decide +kernel, by decide +kernel⟩, List.mem_of_getElem? (i := 515) (by decide +kernel), List.mem_of_getElem? (i := 674) (by decide +kernel), List.mem_of_getElem? (i := 675) (by decide +kernel)⟩
theorem lw_p47 : lw_okq (⟨"MatchSeekerModel", "better", "(III)V"⟩, 26) := ⟨⟨by decide +kernel, by decide +kernel⟩, List.mem_of_getElem? (i := 515) (by decide +kernel), List.mem_of_getElem? (i := 678) (by decide +kernel), List.mem_of_getElem? (i := 679) (by decide +kernel)⟩
def lw_privs_3 : List (MethodName × Nat) := [(⟨"MatchSeeker$Found", "add", "(II)V"⟩, 14), (⟨"MatchSeeker", "takeWhatIsSought", "()V"⟩, 5), (⟨"MatchSeeker$Found", "differences", "()I"⟩, 14), (⟨"MatchSeeker$Found", "rebuild", "()V"⟩, 14), (⟨"MatchSeeker$Found", "copyFromData", "(II)I"⟩, 14), (⟨"MatchSeeker$Found", "copyFromRebuilt", "(III)I"⟩, 14), (⟨"MatchSeekerModel", "chosen", "(II)Z"⟩, 26), (⟨"MatchSeekerModel", "nearest", "(II)Z"⟩, 26), (⟨"MatchSeekerModel", "room", "(I)I"⟩, 26), (⟨"MatchSeekerModel", "end", "()I"⟩, 26), (⟨"MatchSeekerModel", "last", "()I"⟩, 26), (⟨"MatchSeekerModel", "lowest", "(I)I"⟩, 26), (⟨"MatchSeekerModel", "alike", "(III)I"⟩, 26), (⟨"MatchSeekerModel", "longest", "(I)Z"⟩, 26), (⟨"MatchSeekerModel", "reckon", "()V"⟩, 26), (⟨"MatchSeekerModel", "better", "(III)V"⟩, 26)]
theorem lw_r3 : ∀ q ∈ lw_privs_3, lw_okq q := List.forall_mem_cons.mpr ⟨lw_p32, List.forall_mem_cons.mpr ⟨lw_p33, List.forall_mem_cons.mpr ⟨lw_p34, List.forall_mem_cons.mpr ⟨lw_p35, List.forall_mem_cons.mpr ⟨lw_p36, List.forall_mem_cons.mpr ⟨lw_p37, List.forall_mem_cons.mpr ⟨lw_p38, List.forall_mem_cons.mpr ⟨lw_p39, List.forall_mem_cons.mpr ⟨lw_p40, List.forall_mem_cons.mpr ⟨lw_p41, List.forall_mem_cons.mpr ⟨lw_p42, List.forall_mem_cons.mpr ⟨lw_p43, List.forall_mem_cons.mpr ⟨lw_p44, List.forall_mem_cons.mpr ⟨lw_p45, List.forall_mem_cons.mpr ⟨lw_p46, List.forall_mem_cons.mpr ⟨lw_p47, fun _ h => absurd h List.not_mem_nil⟩⟩⟩⟩⟩⟩⟩⟩⟩⟩⟩⟩⟩⟩⟩⟩
theorem lw_p48 : lw_okq (⟨"MatchSeekerModel", "reckoned", "(I)Z"⟩, 26) := ⟨⟨by decide +kernel, by decide +kernel⟩, List.mem_of_getElem? (i := 515) (by decide +kernel), List.mem_of_getElem? (i := 685) (by decide +kernel), List.mem_of_getElem? (i := 686) (by decide +kernel)⟩
theorem lw_p49 : lw_okq (⟨"MatchSeekerModel", "match", "()V"⟩, 26) := ⟨⟨by decide +kernel, by decide +kernel⟩, List.mem_of_getElem? (i := 515) (by decide +kernel), List.mem_of_getElem? (i := 689) (by decide +kernel), List.mem_of_getElem? (i := 690) (by decide +kernel)⟩
theorem lw_p50 : lw_okq (⟨"MatchSeekerModel", "literal", "()V"⟩, 26) := ⟨⟨by decide +kernel, by decide +kernel⟩, List.mem_of_getElem? (i := 515) (by decide +kernel), List.mem_of_getElem? (i := 693) (by decide +kernel), List.mem_of_getElem? (i := 694) (by decide +kernel)⟩
def lw_privs_4 : List (MethodName × Nat) := [(⟨"MatchSeekerModel", "reckoned", "(I)Z"⟩, 26), (⟨"MatchSeekerModel", "match", "()V"⟩, 26), (⟨"MatchSeekerModel", "literal", "()V"⟩, 26)]
theorem lw_r4 : ∀ q ∈ lw_privs_4, lw_okq q := List.forall_mem_cons.mpr ⟨lw_p48, List.forall_mem_cons.mpr ⟨lw_p49, List.forall_mem_cons.mpr ⟨lw_p50, fun _ h => absurd h List.not_mem_nil⟩⟩⟩
def lw_privs : List (MethodName × Nat) := lw_privs_1 ++ (lw_privs_2 ++ (lw_privs_3 ++ (lw_privs_4)))
def lw_tbl : List Cond := k2_sels lw_privs ++ tables_1
theorem lw_privs_ok : ∀ q ∈ lw_privs, lw_okq q := by
  show ∀ q ∈ lw_privs_1 ++ (lw_privs_2 ++ (lw_privs_3 ++ (lw_privs_4))), lw_okq q
  exact List.forall_mem_append.mpr ⟨lw_r1, List.forall_mem_append.mpr ⟨lw_r2, List.forall_mem_append.mpr ⟨lw_r3, lw_r4⟩⟩⟩
end
section
theorem zmem {i : Nat} {w : Cond} {l : List Cond} (h : l[i]? = some w) : w ∈ l := List.mem_of_getElem? h
/-- the good words of the tables, with the private methods' selections: every method's words -/
def zALL : List Cond := lw_tbl.filter goodWord
theorem zall {w : Cond} (h : w ∈ tables_1) (g : goodWord w = true) : w ∈ zALL := List.mem_filter.mpr ⟨List.mem_append_right _ h, g⟩
theorem zalls {w : Cond} (h : w ∈ k2_sels lw_privs) (g : goodWord w = true) : w ∈ zALL := List.mem_filter.mpr ⟨List.mem_append_left _ h, g⟩
theorem zALL_tbl : ∀ w ∈ zALL, w ∈ lw_tbl := fun _ h => (List.mem_filter.mp h).1
theorem zALL_good : ∀ w ∈ zALL, ((w.onTables && w.keeps) = true ∨ ∃ ty, w = .arrayClass ty) := fun _ h => good_of_word ((List.mem_filter.mp h).2)
theorem zg {c : Cond} (h : c ∈ zALL) : GoodIn zALL (c :: zALL) := fun w hw => by
  rcases List.mem_cons.mp hw with e | e
  · rw [e]; exact ⟨h, zALL_good c h⟩
  · exact ⟨e, zALL_good w e⟩
def zIsN (w : Cond) : Bool := match w with
  | .fieldLinkNest _ _ _ _ _ _ => true
  | .methodLinkNest _ _ _ _ => true
  | _ => false
def nwL : List Cond := tables_1.filter zIsN
theorem znw {w : Cond} (h : w ∈ tables_1) (g : zIsN w = true) : w ∈ nwL := List.mem_filter.mpr ⟨h, g⟩
theorem nwL_tbl : ∀ w ∈ nwL, w ∈ lw_tbl := fun _ h => List.mem_append_right _ ((List.mem_filter.mp h).1)
theorem nwL_is : ∀ w ∈ nwL, zIsN w = true := fun _ h => (List.mem_filter.mp h).2
theorem zt1 {w : Cond} (h : w ∈ tables_1_1) : w ∈ tables_1 := List.mem_append_left _ h
theorem zt2 {w : Cond} (h : w ∈ tables_1_2) : w ∈ tables_1 := List.mem_append_right _ (List.mem_append_left _ h)
theorem zt3 {w : Cond} (h : w ∈ tables_1_3) : w ∈ tables_1 := List.mem_append_right _ (List.mem_append_right _ h)
def RX0 : String := "MatchSeeker$Finder"
def TX0 : u_T := fun k => match k with
  | 0 => ("MatchSeeker$Finder", "row", "LMatchSeeker$Row;", true)
  | 1 => ("MatchSeeker$Finder", "law", "LMatchSeeker$Rule;", true)
  | 2 => ("MatchSeeker$Finder", "latestInSlot", "[I", false)
  | 3 => ("MatchSeeker$Finder", "linkedBefore", "[I", false)
  | 4 => ("MatchSeeker$Finder", "linked", "I", false)
  | 5 => ("MatchSeeker$Finder", "linkedLeast", "I", false)
  | 6 => ("MatchSeeker$Finder", "sameFrom", "[I", false)
  | 7 => ("MatchSeeker$Finder", "sameTo", "[I", false)
  | 8 => ("MatchSeeker$Finder", "place", "I", false)
  | 9 => ("MatchSeeker$Finder", "candidate", "I", false)
  | 10 => ("MatchSeeker$Finder", "lowest", "I", false)
  | 11 => ("MatchSeeker$Finder", "limit", "I", false)
  | 12 => ("MatchSeeker$Finder", "toBeat", "I", false)
  | 13 => ("MatchSeeker$Finder", "length", "I", false)
  | _ => ("MatchSeeker$Finder", "distance", "I", false)
def tyX0 : Nat → FieldType := fun k => match k with
  | 0 => .object "MatchSeeker$Row"
  | 1 => .object "MatchSeeker$Rule"
  | 2 => .array .int
  | 3 => .array .int
  | 4 => .int
  | 5 => .int
  | 6 => .array .int
  | 7 => .array .int
  | 8 => .int
  | 9 => .int
  | 10 => .int
  | 11 => .int
  | 12 => .int
  | 13 => .int
  | _ => .int
abbrev wsX00 : List Cond := u_ws RX0 TX0 15
theorem nmX0 : ∀ a, a < 15 → ∀ b, b < 15 → a ≠ b → (TX0 a).2.1 ≠ (TX0 b).2.1 := by decide +kernel
theorem tyX0_ok : ∀ k, k < 15 → parseFieldDescriptor (TX0 k).2.2.1 = some (tyX0 k) := by decide +kernel
set_option maxRecDepth 100000 in
theorem iwX0 : ∀ w ∈ wsX00, w ∈ zALL := by decide +kernel
def RX1 : String := "MatchSeeker$Found"
def TX1 : u_T := fun k => match k with
  | 0 => ("MatchSeeker$Found", "row", "LMatchSeeker$Row;", true)
  | 1 => ("MatchSeeker$Found", "law", "LMatchSeeker$Rule;", true)
  | 2 => ("MatchSeeker$Found", "literalsBefore", "[I", false)
  | 3 => ("MatchSeeker$Found", "lengths", "[I", false)
  | 4 => ("MatchSeeker$Found", "distances", "[I", false)
  | 5 => ("MatchSeeker$Found", "stretches", "I", false)
  | 6 => ("MatchSeeker$Found", "tail", "I", false)
  | 7 => ("MatchSeeker$Found", "literals", "I", false)
  | 8 => ("MatchSeeker$Found", "cost", "I", false)
  | 9 => ("MatchSeeker$Found", "greatestLength", "I", false)
  | 10 => ("MatchSeeker$Found", "greatestDistance", "I", false)
  | 11 => ("MatchSeeker$Found", "bytesThen", "I", false)
  | 12 => ("MatchSeeker$Found", "pastThen", "I", false)
  | _ => ("MatchSeeker$Found", "rebuilt", "[B", false)
def tyX1 : Nat → FieldType := fun k => match k with
  | 0 => .object "MatchSeeker$Row"
  | 1 => .object "MatchSeeker$Rule"
  | 2 => .array .int
  | 3 => .array .int
  | 4 => .array .int
  | 5 => .int
  | 6 => .int
  | 7 => .int
  | 8 => .int
  | 9 => .int
  | 10 => .int
  | 11 => .int
  | 12 => .int
  | _ => .array .byte
abbrev wsX10 : List Cond := u_ws RX1 TX1 14
theorem nmX1 : ∀ a, a < 14 → ∀ b, b < 14 → a ≠ b → (TX1 a).2.1 ≠ (TX1 b).2.1 := by decide +kernel
theorem tyX1_ok : ∀ k, k < 14 → parseFieldDescriptor (TX1 k).2.2.1 = some (tyX1 k) := by decide +kernel
set_option maxRecDepth 100000 in
theorem iwX1 : ∀ w ∈ wsX10, w ∈ zALL := by decide +kernel
def RX2 : String := "MatchSeeker$Plan"
def TX2 : u_T := fun k => match k with
  | 0 => ("MatchSeeker$Plan", "row", "LMatchSeeker$Row;", true)
  | 1 => ("MatchSeeker$Plan", "law", "LMatchSeeker$Rule;", true)
  | 2 => ("MatchSeeker$Plan", "finder", "LMatchSeeker$Finder;", true)
  | 3 => ("MatchSeeker$Plan", "cost", "[I", false)
  | 4 => ("MatchSeeker$Plan", "length", "[I", false)
  | 5 => ("MatchSeeker$Plan", "distance", "[I", false)
  | 6 => ("MatchSeeker$Plan", "ends", "[I", false)
  | _ => ("MatchSeeker$Plan", "endCount", "I", false)
def tyX2 : Nat → FieldType := fun k => match k with
  | 0 => .object "MatchSeeker$Row"
  | 1 => .object "MatchSeeker$Rule"
  | 2 => .object "MatchSeeker$Finder"
  | 3 => .array .int
  | 4 => .array .int
  | 5 => .array .int
  | 6 => .array .int
  | _ => .int
abbrev wsX20 : List Cond := u_ws RX2 TX2 8
theorem nmX2 : ∀ a, a < 8 → ∀ b, b < 8 → a ≠ b → (TX2 a).2.1 ≠ (TX2 b).2.1 := by decide +kernel
theorem tyX2_ok : ∀ k, k < 8 → parseFieldDescriptor (TX2 k).2.2.1 = some (tyX2 k) := by decide +kernel
set_option maxRecDepth 100000 in
theorem iwX2 : ∀ w ∈ wsX20, w ∈ zALL := by decide +kernel
def RX3 : String := "MatchSeeker$Row"
def TX3 : u_T := fun k => match k with
  | 0 => ("MatchSeeker$Row", "bytes", "[B", false)
  | 1 => ("MatchSeeker$Row", "filled", "I", false)
  | _ => ("MatchSeeker$Row", "past", "I", false)
def tyX3 : Nat → FieldType := fun k => match k with
  | 0 => .array .byte
  | 1 => .int
  | _ => .int
abbrev wsX30 : List Cond := u_ws RX3 TX3 3
theorem nmX3 : ∀ a, a < 3 → ∀ b, b < 3 → a ≠ b → (TX3 a).2.1 ≠ (TX3 b).2.1 := by decide +kernel
theorem tyX3_ok : ∀ k, k < 3 → parseFieldDescriptor (TX3 k).2.2.1 = some (tyX3 k) := by decide +kernel
set_option maxRecDepth 100000 in
theorem iwX3 : ∀ w ∈ wsX30, w ∈ zALL := by decide +kernel
def RX4 : String := "MatchSeeker$Rule"
def TX4 : u_T := fun k => match k with
  | 0 => ("MatchSeeker$Rule", "way", "I", false)
  | 1 => ("MatchSeeker$Rule", "window", "I", false)
  | 2 => ("MatchSeeker$Rule", "least", "I", false)
  | 3 => ("MatchSeeker$Rule", "cap", "I", false)
  | 4 => ("MatchSeeker$Rule", "gapBehindLast", "I", false)
  | 5 => ("MatchSeeker$Rule", "gapBehindEnd", "I", false)
  | 6 => ("MatchSeeker$Rule", "literalPrice", "I", false)
  | _ => ("MatchSeeker$Rule", "matchPrice", "I", false)
def tyX4 : Nat → FieldType := fun k => match k with
  | 0 => .int
  | 1 => .int
  | 2 => .int
  | 3 => .int
  | 4 => .int
  | 5 => .int
  | 6 => .int
  | _ => .int
abbrev wsX40 : List Cond := u_ws RX4 TX4 8
theorem nmX4 : ∀ a, a < 8 → ∀ b, b < 8 → a ≠ b → (TX4 a).2.1 ≠ (TX4 b).2.1 := by decide +kernel
theorem tyX4_ok : ∀ k, k < 8 → parseFieldDescriptor (TX4 k).2.2.1 = some (tyX4 k) := by decide +kernel
set_option maxRecDepth 100000 in
theorem iwX4 : ∀ w ∈ wsX40, w ∈ zALL := by decide +kernel
def RX5 : String := "MatchSeeker"
def TX5 : u_T := fun k => match k with
  | 0 => ("MatchSeeker", "row", "LMatchSeeker$Row;", true)
  | 1 => ("MatchSeeker", "law", "LMatchSeeker$Rule;", true)
  | 2 => ("MatchSeeker", "finder", "LMatchSeeker$Finder;", true)
  | 3 => ("MatchSeeker", "plan", "LMatchSeeker$Plan;", true)
  | _ => ("MatchSeeker", "found", "LMatchSeeker$Found;", true)
def tyX5 : Nat → FieldType := fun k => match k with
  | 0 => .object "MatchSeeker$Row"
  | 1 => .object "MatchSeeker$Rule"
  | 2 => .object "MatchSeeker$Finder"
  | 3 => .object "MatchSeeker$Plan"
  | _ => .object "MatchSeeker$Found"
abbrev wsX50 : List Cond := u_ws RX5 TX5 5
theorem nmX5 : ∀ a, a < 5 → ∀ b, b < 5 → a ≠ b → (TX5 a).2.1 ≠ (TX5 b).2.1 := by decide +kernel
theorem tyX5_ok : ∀ k, k < 5 → parseFieldDescriptor (TX5 k).2.2.1 = some (tyX5 k) := by decide +kernel
set_option maxRecDepth 100000 in
theorem iwX5 : ∀ w ∈ wsX50, w ∈ zALL := by decide +kernel
def RX6 : String := "MatchSeekerModel"
def TX6 : u_T := fun k => match k with
  | 0 => ("MatchSeekerModel", "data", "[B", true)
  | 1 => ("MatchSeekerModel", "n", "I", false)
  | 2 => ("MatchSeekerModel", "h", "I", false)
  | 3 => ("MatchSeekerModel", "way", "I", false)
  | 4 => ("MatchSeekerModel", "window", "I", false)
  | 5 => ("MatchSeekerModel", "least", "I", false)
  | 6 => ("MatchSeekerModel", "cap", "I", false)
  | 7 => ("MatchSeekerModel", "a", "I", false)
  | 8 => ("MatchSeekerModel", "b", "I", false)
  | 9 => ("MatchSeekerModel", "literalPrice", "I", false)
  | 10 => ("MatchSeekerModel", "matchPrice", "I", false)
  | 11 => ("MatchSeekerModel", "before", "[I", true)
  | 12 => ("MatchSeekerModel", "length", "[I", true)
  | 13 => ("MatchSeekerModel", "distance", "[I", true)
  | 14 => ("MatchSeekerModel", "found", "I", false)
  | 15 => ("MatchSeekerModel", "tail", "I", false)
  | 16 => ("MatchSeekerModel", "cost", "I", false)
  | 17 => ("MatchSeekerModel", "allLiterals", "I", false)
  | 18 => ("MatchSeekerModel", "had", "I", false)
  | 19 => ("MatchSeekerModel", "hadHistory", "I", false)
  | 20 => ("MatchSeekerModel", "again", "[B", true)
  | 21 => ("MatchSeekerModel", "cheapest", "[I", true)
  | 22 => ("MatchSeekerModel", "firstLength", "[I", true)
  | 23 => ("MatchSeekerModel", "firstDistance", "[I", true)
  | 24 => ("MatchSeekerModel", "gotLength", "I", false)
  | _ => ("MatchSeekerModel", "gotDistance", "I", false)
def tyX6 : Nat → FieldType := fun k => match k with
  | 0 => .array .byte
  | 1 => .int
  | 2 => .int
  | 3 => .int
  | 4 => .int
  | 5 => .int
  | 6 => .int
  | 7 => .int
  | 8 => .int
  | 9 => .int
  | 10 => .int
  | 11 => .array .int
  | 12 => .array .int
  | 13 => .array .int
  | 14 => .int
  | 15 => .int
  | 16 => .int
  | 17 => .int
  | 18 => .int
  | 19 => .int
  | 20 => .array .byte
  | 21 => .array .int
  | 22 => .array .int
  | 23 => .array .int
  | 24 => .int
  | _ => .int
abbrev wsX60 : List Cond := u_ws RX6 TX6 26
theorem nmX6 : ∀ a, a < 26 → ∀ b, b < 26 → a ≠ b → (TX6 a).2.1 ≠ (TX6 b).2.1 := by decide +kernel
theorem tyX6_ok : ∀ k, k < 26 → parseFieldDescriptor (TX6 k).2.2.1 = some (tyX6 k) := by decide +kernel
set_option maxRecDepth 100000 in
theorem iwX6 : ∀ w ∈ wsX60, w ∈ zALL := by decide +kernel
def RJ7 : String := "java/util/Arrays"
def RL : String := "MatchSeekerLaw"
abbrev vwCl : List vw_C := [(RX0, TX0, 15), (RX1, TX1, 14), (RX2, TX2, 8), (RX3, TX3, 3), (RX4, TX4, 8), (RX5, TX5, 5), (RX6, TX6, 26)]
end
section
theorem aw_0 : Cond.initialized "MatchSeekerLaw" ∈ zALL := zall (zt1 (zmem (i := 0) (by decide +kernel))) rfl
theorem aw_1 : Cond.initialized "MatchSeeker" ∈ zALL := zall (zt1 (zmem (i := 1) (by decide +kernel))) rfl
theorem aw_2 : Cond.initialized "MatchSeeker$Row" ∈ zALL := zall (zt1 (zmem (i := 2) (by decide +kernel))) rfl
theorem aw_3 : Cond.initialized "MatchSeeker$Rule" ∈ zALL := zall (zt1 (zmem (i := 3) (by decide +kernel))) rfl
theorem aw_4 : Cond.initialized "MatchSeeker$Finder" ∈ zALL := zall (zt1 (zmem (i := 4) (by decide +kernel))) rfl
theorem aw_5 : Cond.initialized "MatchSeeker$Plan" ∈ zALL := zall (zt1 (zmem (i := 5) (by decide +kernel))) rfl
theorem aw_6 : Cond.initialized "MatchSeeker$Found" ∈ zALL := zall (zt1 (zmem (i := 6) (by decide +kernel))) rfl
theorem aw_7 : Cond.initialized "MatchSeekerModel" ∈ zALL := zall (zt1 (zmem (i := 7) (by decide +kernel))) rfl
theorem aw_8 : Cond.initialized "java/util/Arrays" ∈ zALL := zall (zt1 (zmem (i := 8) (by decide +kernel))) rfl
theorem aw_9 : Cond.initialized "java/lang/Math" ∈ zALL := zall (zt1 (zmem (i := 9) (by decide +kernel))) rfl
theorem aw_10 : Cond.initialized "java/lang/System" ∈ zALL := zall (zt1 (zmem (i := 10) (by decide +kernel))) rfl
theorem aw_11 : Cond.classLink "MatchSeekerLaw" (7 : Nat) "MatchSeeker" ∈ zALL := zall (zt1 (zmem (i := 11) (by decide +kernel))) rfl
theorem aw_12 : Cond.instantiable "MatchSeeker" (5 : Nat) ∈ zALL := zall (zt1 (zmem (i := 12) (by decide +kernel))) rfl
theorem aw_13 : Cond.methodLink "MatchSeekerLaw" (9 : Nat) ({ cls := "MatchSeeker", name := "<init>", desc := "()V" } : Jvm.MethodName) ∈ zALL := zall (zt1 (zmem (i := 13) (by decide +kernel))) rfl
theorem aw_14 : Cond.instanceMethod ({ cls := "MatchSeeker", name := "<init>", desc := "()V" } : Jvm.MethodName) ∈ zALL := zall (zt1 (zmem (i := 14) (by decide +kernel))) rfl
theorem aw_15 : Cond.code ({ cls := "MatchSeeker", name := "<init>", desc := "()V" } : Jvm.MethodName) prog_1_method_1_code (1 : Nat) (Option.none : Option Jvm.ClassFile.FieldType) ∈ zALL := zall (zt1 (zmem (i := 15) (by decide +kernel))) rfl
theorem aw_16 : Cond.methodLink "MatchSeeker" (1 : Nat) ({ cls := "java/lang/Object", name := "<init>", desc := "()V" } : Jvm.MethodName) ∈ zALL := zall (zt1 (zmem (i := 16) (by decide +kernel))) rfl
theorem aw_17 : Cond.instanceMethod ({ cls := "java/lang/Object", name := "<init>", desc := "()V" } : Jvm.MethodName) ∈ zALL := zall (zt1 (zmem (i := 17) (by decide +kernel))) rfl
theorem aw_18 : Cond.code ({ cls := "java/lang/Object", name := "<init>", desc := "()V" } : Jvm.MethodName) object_method_1_code (1 : Nat) (Option.none : Option Jvm.ClassFile.FieldType) ∈ zALL := zall (zt1 (zmem (i := 18) (by decide +kernel))) rfl
theorem aw_19 : Cond.classLink "MatchSeeker" (7 : Nat) "MatchSeeker$Row" ∈ zALL := zall (zt1 (zmem (i := 19) (by decide +kernel))) rfl
theorem aw_20 : Cond.instantiable "MatchSeeker$Row" (3 : Nat) ∈ zALL := zall (zt1 (zmem (i := 20) (by decide +kernel))) rfl
theorem nw_21 : Cond.methodLinkNest "MatchSeeker" (9 : Nat) ({ cls := "MatchSeeker$Row", name := "<init>", desc := "()V" } : Jvm.MethodName) "MatchSeeker" ∈ nwL := znw (zt1 (zmem (i := 21) (by decide +kernel))) rfl
theorem aw_22 : Cond.instanceMethod ({ cls := "MatchSeeker$Row", name := "<init>", desc := "()V" } : Jvm.MethodName) ∈ zALL := zall (zt1 (zmem (i := 22) (by decide +kernel))) rfl
theorem aw_23 : Cond.code ({ cls := "MatchSeeker$Row", name := "<init>", desc := "()V" } : Jvm.MethodName) prog_5_method_1_code (1 : Nat) (Option.none : Option Jvm.ClassFile.FieldType) ∈ zALL := zall (zt1 (zmem (i := 23) (by decide +kernel))) rfl
theorem aw_24 : Cond.methodLink "MatchSeeker$Row" (3 : Nat) ({ cls := "java/lang/Object", name := "<init>", desc := "()V" } : Jvm.MethodName) ∈ zALL := zall (zt1 (zmem (i := 24) (by decide +kernel))) rfl
theorem aw_25 : Cond.fieldLink "MatchSeeker$Row" (9 : Nat) "MatchSeeker$Row" "bytes" "[B" ∈ zALL := zall (zt1 (zmem (i := 25) (by decide +kernel))) rfl
theorem nw_26 : Cond.fieldLinkNest "MatchSeeker$Found" (97 : Nat) "MatchSeeker$Row" "bytes" "[B" "MatchSeeker" ∈ nwL := znw (zt1 (zmem (i := 26) (by decide +kernel))) rfl
theorem nw_27 : Cond.fieldLinkNest "MatchSeeker$Finder" (90 : Nat) "MatchSeeker$Row" "bytes" "[B" "MatchSeeker" ∈ nwL := znw (zt1 (zmem (i := 27) (by decide +kernel))) rfl
theorem aw_28 : Cond.fieldLink "MatchSeeker$Row" (15 : Nat) "MatchSeeker$Row" "filled" "I" ∈ zALL := zall (zt1 (zmem (i := 28) (by decide +kernel))) rfl
theorem nw_29 : Cond.fieldLinkNest "MatchSeeker$Plan" (40 : Nat) "MatchSeeker$Row" "filled" "I" "MatchSeeker" ∈ nwL := znw (zt1 (zmem (i := 29) (by decide +kernel))) rfl
theorem nw_30 : Cond.fieldLinkNest "MatchSeeker$Found" (61 : Nat) "MatchSeeker$Row" "filled" "I" "MatchSeeker" ∈ nwL := znw (zt1 (zmem (i := 30) (by decide +kernel))) rfl
theorem nw_31 : Cond.fieldLinkNest "MatchSeeker" (69 : Nat) "MatchSeeker$Row" "filled" "I" "MatchSeeker" ∈ nwL := znw (zt1 (zmem (i := 31) (by decide +kernel))) rfl
theorem nw_32 : Cond.fieldLinkNest "MatchSeeker$Finder" (74 : Nat) "MatchSeeker$Row" "filled" "I" "MatchSeeker" ∈ nwL := znw (zt1 (zmem (i := 32) (by decide +kernel))) rfl
theorem aw_33 : Cond.fieldLink "MatchSeeker$Row" (19 : Nat) "MatchSeeker$Row" "past" "I" ∈ zALL := zall (zt1 (zmem (i := 33) (by decide +kernel))) rfl
theorem nw_34 : Cond.fieldLinkNest "MatchSeeker$Plan" (45 : Nat) "MatchSeeker$Row" "past" "I" "MatchSeeker" ∈ nwL := znw (zt1 (zmem (i := 34) (by decide +kernel))) rfl
theorem nw_35 : Cond.fieldLinkNest "MatchSeeker$Found" (66 : Nat) "MatchSeeker$Row" "past" "I" "MatchSeeker" ∈ nwL := znw (zt1 (zmem (i := 35) (by decide +kernel))) rfl
theorem nw_36 : Cond.fieldLinkNest "MatchSeeker" (77 : Nat) "MatchSeeker$Row" "past" "I" "MatchSeeker" ∈ nwL := znw (zt1 (zmem (i := 36) (by decide +kernel))) rfl
theorem aw_44 : Cond.arrayClass Jvm.ClassFile.FieldType.byte ∈ zALL := zall (zt1 (zmem (i := 44) (by decide +kernel))) rfl
theorem aw_45 : Cond.classLink "MatchSeeker" (16 : Nat) "MatchSeeker$Rule" ∈ zALL := zall (zt1 (zmem (i := 45) (by decide +kernel))) rfl
theorem aw_46 : Cond.instantiable "MatchSeeker$Rule" (8 : Nat) ∈ zALL := zall (zt1 (zmem (i := 46) (by decide +kernel))) rfl
theorem nw_47 : Cond.methodLinkNest "MatchSeeker" (18 : Nat) ({ cls := "MatchSeeker$Rule", name := "<init>", desc := "()V" } : Jvm.MethodName) "MatchSeeker" ∈ nwL := znw (zt1 (zmem (i := 47) (by decide +kernel))) rfl
theorem aw_48 : Cond.instanceMethod ({ cls := "MatchSeeker$Rule", name := "<init>", desc := "()V" } : Jvm.MethodName) ∈ zALL := zall (zt1 (zmem (i := 48) (by decide +kernel))) rfl
theorem aw_49 : Cond.code ({ cls := "MatchSeeker$Rule", name := "<init>", desc := "()V" } : Jvm.MethodName) prog_6_method_1_code (1 : Nat) (Option.none : Option Jvm.ClassFile.FieldType) ∈ zALL := zall (zt1 (zmem (i := 49) (by decide +kernel))) rfl
theorem aw_50 : Cond.methodLink "MatchSeeker$Rule" (3 : Nat) ({ cls := "java/lang/Object", name := "<init>", desc := "()V" } : Jvm.MethodName) ∈ zALL := zall (zt1 (zmem (i := 50) (by decide +kernel))) rfl
theorem aw_51 : Cond.constant "MatchSeeker$Rule" (15 : Nat) (65536 : Int32) ∈ zALL := zall (zt1 (zmem (i := 51) (by decide +kernel))) rfl
theorem aw_52 : Cond.constant "MatchSeeker$Rule" (22 : Nat) (131072 : Int32) ∈ zALL := zall (zt1 (zmem (i := 52) (by decide +kernel))) rfl
theorem aw_53 : Cond.fieldLink "MatchSeeker$Rule" (9 : Nat) "MatchSeeker$Rule" "way" "I" ∈ zALL := zall (zt1 (zmem (i := 53) (by decide +kernel))) rfl
theorem nw_54 : Cond.fieldLinkNest "MatchSeeker" (82 : Nat) "MatchSeeker$Rule" "way" "I" "MatchSeeker" ∈ nwL := znw (zt1 (zmem (i := 54) (by decide +kernel))) rfl
theorem aw_55 : Cond.fieldLink "MatchSeeker$Rule" (16 : Nat) "MatchSeeker$Rule" "window" "I" ∈ zALL := zall (zt1 (zmem (i := 55) (by decide +kernel))) rfl
theorem nw_56 : Cond.fieldLinkNest "MatchSeeker" (85 : Nat) "MatchSeeker$Rule" "window" "I" "MatchSeeker" ∈ nwL := znw (zt1 (zmem (i := 56) (by decide +kernel))) rfl
theorem nw_57 : Cond.fieldLinkNest "MatchSeeker$Finder" (117 : Nat) "MatchSeeker$Rule" "window" "I" "MatchSeeker" ∈ nwL := znw (zt1 (zmem (i := 57) (by decide +kernel))) rfl
theorem aw_58 : Cond.fieldLink "MatchSeeker$Rule" (19 : Nat) "MatchSeeker$Rule" "least" "I" ∈ zALL := zall (zt1 (zmem (i := 58) (by decide +kernel))) rfl
theorem nw_59 : Cond.fieldLinkNest "MatchSeeker$Plan" (59 : Nat) "MatchSeeker$Rule" "least" "I" "MatchSeeker" ∈ nwL := znw (zt1 (zmem (i := 59) (by decide +kernel))) rfl
theorem nw_60 : Cond.fieldLinkNest "MatchSeeker$Finder" (69 : Nat) "MatchSeeker$Rule" "least" "I" "MatchSeeker" ∈ nwL := znw (zt1 (zmem (i := 60) (by decide +kernel))) rfl
theorem nw_61 : Cond.fieldLinkNest "MatchSeeker" (88 : Nat) "MatchSeeker$Rule" "least" "I" "MatchSeeker" ∈ nwL := znw (zt1 (zmem (i := 61) (by decide +kernel))) rfl
theorem aw_62 : Cond.fieldLink "MatchSeeker$Rule" (23 : Nat) "MatchSeeker$Rule" "cap" "I" ∈ zALL := zall (zt1 (zmem (i := 62) (by decide +kernel))) rfl
theorem nw_63 : Cond.fieldLinkNest "MatchSeeker" (91 : Nat) "MatchSeeker$Rule" "cap" "I" "MatchSeeker" ∈ nwL := znw (zt1 (zmem (i := 63) (by decide +kernel))) rfl
theorem nw_64 : Cond.fieldLinkNest "MatchSeeker$Finder" (126 : Nat) "MatchSeeker$Rule" "cap" "I" "MatchSeeker" ∈ nwL := znw (zt1 (zmem (i := 64) (by decide +kernel))) rfl
theorem aw_65 : Cond.fieldLink "MatchSeeker$Rule" (26 : Nat) "MatchSeeker$Rule" "gapBehindLast" "I" ∈ zALL := zall (zt1 (zmem (i := 65) (by decide +kernel))) rfl
theorem nw_66 : Cond.fieldLinkNest "MatchSeeker" (94 : Nat) "MatchSeeker$Rule" "gapBehindLast" "I" "MatchSeeker" ∈ nwL := znw (zt1 (zmem (i := 66) (by decide +kernel))) rfl
theorem aw_67 : Cond.fieldLink "MatchSeeker$Rule" (29 : Nat) "MatchSeeker$Rule" "gapBehindEnd" "I" ∈ zALL := zall (zt1 (zmem (i := 67) (by decide +kernel))) rfl
theorem nw_68 : Cond.fieldLinkNest "MatchSeeker" (97 : Nat) "MatchSeeker$Rule" "gapBehindEnd" "I" "MatchSeeker" ∈ nwL := znw (zt1 (zmem (i := 68) (by decide +kernel))) rfl
theorem aw_69 : Cond.fieldLink "MatchSeeker$Rule" (32 : Nat) "MatchSeeker$Rule" "literalPrice" "I" ∈ zALL := zall (zt1 (zmem (i := 69) (by decide +kernel))) rfl
theorem nw_70 : Cond.fieldLinkNest "MatchSeeker$Plan" (85 : Nat) "MatchSeeker$Rule" "literalPrice" "I" "MatchSeeker" ∈ nwL := znw (zt1 (zmem (i := 70) (by decide +kernel))) rfl
theorem nw_71 : Cond.fieldLinkNest "MatchSeeker$Found" (73 : Nat) "MatchSeeker$Rule" "literalPrice" "I" "MatchSeeker" ∈ nwL := znw (zt1 (zmem (i := 71) (by decide +kernel))) rfl
theorem nw_72 : Cond.fieldLinkNest "MatchSeeker" (100 : Nat) "MatchSeeker$Rule" "literalPrice" "I" "MatchSeeker" ∈ nwL := znw (zt1 (zmem (i := 72) (by decide +kernel))) rfl
theorem aw_73 : Cond.fieldLink "MatchSeeker$Rule" (35 : Nat) "MatchSeeker$Rule" "matchPrice" "I" ∈ zALL := zall (zt1 (zmem (i := 73) (by decide +kernel))) rfl
theorem nw_74 : Cond.fieldLinkNest "MatchSeeker$Found" (78 : Nat) "MatchSeeker$Rule" "matchPrice" "I" "MatchSeeker" ∈ nwL := znw (zt1 (zmem (i := 74) (by decide +kernel))) rfl
theorem nw_75 : Cond.fieldLinkNest "MatchSeeker$Plan" (110 : Nat) "MatchSeeker$Rule" "matchPrice" "I" "MatchSeeker" ∈ nwL := znw (zt1 (zmem (i := 75) (by decide +kernel))) rfl
theorem nw_76 : Cond.fieldLinkNest "MatchSeeker" (103 : Nat) "MatchSeeker$Rule" "matchPrice" "I" "MatchSeeker" ∈ nwL := znw (zt1 (zmem (i := 76) (by decide +kernel))) rfl
theorem aw_94 : Cond.classLink "MatchSeeker" (23 : Nat) "MatchSeeker$Finder" ∈ zALL := zall (zt1 (zmem (i := 94) (by decide +kernel))) rfl
theorem aw_95 : Cond.instantiable "MatchSeeker$Finder" (15 : Nat) ∈ zALL := zall (zt1 (zmem (i := 95) (by decide +kernel))) rfl
theorem nw_96 : Cond.methodLinkNest "MatchSeeker" (25 : Nat) ({ cls := "MatchSeeker$Finder", name := "<init>", desc := "(LMatchSeeker$Row;LMatchSeeker$Rule;)V" } : Jvm.MethodName) "MatchSeeker" ∈ nwL := znw (zt1 (zmem (i := 96) (by decide +kernel))) rfl
theorem aw_97 : Cond.instanceMethod ({ cls := "MatchSeeker$Finder", name := "<init>", desc := "(LMatchSeeker$Row;LMatchSeeker$Rule;)V" } : Jvm.MethodName) ∈ zALL := zall (zt1 (zmem (i := 97) (by decide +kernel))) rfl
theorem aw_98 : Cond.code ({ cls := "MatchSeeker$Finder", name := "<init>", desc := "(LMatchSeeker$Row;LMatchSeeker$Rule;)V" } : Jvm.MethodName) prog_2_method_1_code (3 : Nat) (Option.none : Option Jvm.ClassFile.FieldType) ∈ zALL := zall (zt1 (zmem (i := 98) (by decide +kernel))) rfl
theorem aw_99 : Cond.methodLink "MatchSeeker$Finder" (3 : Nat) ({ cls := "java/lang/Object", name := "<init>", desc := "()V" } : Jvm.MethodName) ∈ zALL := zall (zt1 (zmem (i := 99) (by decide +kernel))) rfl
theorem aw_100 : Cond.fieldLink "MatchSeeker$Finder" (52 : Nat) "MatchSeeker$Finder" "row" "LMatchSeeker$Row;" ∈ zALL := zall (zt1 (zmem (i := 100) (by decide +kernel))) rfl
theorem aw_101 : Cond.fieldLink "MatchSeeker$Finder" (56 : Nat) "MatchSeeker$Finder" "law" "LMatchSeeker$Rule;" ∈ zALL := zall (zt1 (zmem (i := 101) (by decide +kernel))) rfl
theorem aw_102 : Cond.fieldLink "MatchSeeker$Finder" (9 : Nat) "MatchSeeker$Finder" "latestInSlot" "[I" ∈ zALL := zall (zt1 (zmem (i := 102) (by decide +kernel))) rfl
theorem aw_103 : Cond.fieldLink "MatchSeeker$Finder" (15 : Nat) "MatchSeeker$Finder" "linkedBefore" "[I" ∈ zALL := zall (zt1 (zmem (i := 103) (by decide +kernel))) rfl
theorem aw_104 : Cond.fieldLink "MatchSeeker$Finder" (18 : Nat) "MatchSeeker$Finder" "linked" "I" ∈ zALL := zall (zt1 (zmem (i := 104) (by decide +kernel))) rfl
theorem aw_105 : Cond.fieldLink "MatchSeeker$Finder" (22 : Nat) "MatchSeeker$Finder" "linkedLeast" "I" ∈ zALL := zall (zt1 (zmem (i := 105) (by decide +kernel))) rfl
theorem aw_106 : Cond.fieldLink "MatchSeeker$Finder" (25 : Nat) "MatchSeeker$Finder" "sameFrom" "[I" ∈ zALL := zall (zt1 (zmem (i := 106) (by decide +kernel))) rfl
theorem aw_107 : Cond.fieldLink "MatchSeeker$Finder" (28 : Nat) "MatchSeeker$Finder" "sameTo" "[I" ∈ zALL := zall (zt1 (zmem (i := 107) (by decide +kernel))) rfl
theorem aw_108 : Cond.fieldLink "MatchSeeker$Finder" (31 : Nat) "MatchSeeker$Finder" "place" "I" ∈ zALL := zall (zt1 (zmem (i := 108) (by decide +kernel))) rfl
theorem aw_109 : Cond.fieldLink "MatchSeeker$Finder" (34 : Nat) "MatchSeeker$Finder" "candidate" "I" ∈ zALL := zall (zt1 (zmem (i := 109) (by decide +kernel))) rfl
theorem aw_110 : Cond.fieldLink "MatchSeeker$Finder" (37 : Nat) "MatchSeeker$Finder" "lowest" "I" ∈ zALL := zall (zt1 (zmem (i := 110) (by decide +kernel))) rfl
theorem aw_111 : Cond.fieldLink "MatchSeeker$Finder" (40 : Nat) "MatchSeeker$Finder" "limit" "I" ∈ zALL := zall (zt1 (zmem (i := 111) (by decide +kernel))) rfl
theorem aw_112 : Cond.fieldLink "MatchSeeker$Finder" (43 : Nat) "MatchSeeker$Finder" "toBeat" "I" ∈ zALL := zall (zt1 (zmem (i := 112) (by decide +kernel))) rfl
theorem aw_113 : Cond.fieldLink "MatchSeeker$Finder" (46 : Nat) "MatchSeeker$Finder" "length" "I" ∈ zALL := zall (zt1 (zmem (i := 113) (by decide +kernel))) rfl
theorem nw_114 : Cond.fieldLinkNest "MatchSeeker$Plan" (72 : Nat) "MatchSeeker$Finder" "length" "I" "MatchSeeker" ∈ nwL := znw (zt1 (zmem (i := 114) (by decide +kernel))) rfl
theorem nw_115 : Cond.fieldLinkNest "MatchSeeker" (116 : Nat) "MatchSeeker$Finder" "length" "I" "MatchSeeker" ∈ nwL := znw (zt1 (zmem (i := 115) (by decide +kernel))) rfl
theorem aw_116 : Cond.fieldLink "MatchSeeker$Finder" (49 : Nat) "MatchSeeker$Finder" "distance" "I" ∈ zALL := zall (zt1 (zmem (i := 116) (by decide +kernel))) rfl
theorem nw_117 : Cond.fieldLinkNest "MatchSeeker$Plan" (101 : Nat) "MatchSeeker$Finder" "distance" "I" "MatchSeeker" ∈ nwL := znw (zt1 (zmem (i := 117) (by decide +kernel))) rfl
theorem nw_118 : Cond.fieldLinkNest "MatchSeeker" (119 : Nat) "MatchSeeker$Finder" "distance" "I" "MatchSeeker" ∈ nwL := znw (zt1 (zmem (i := 118) (by decide +kernel))) rfl
theorem aw_150 : Cond.arrayClass Jvm.ClassFile.FieldType.int ∈ zALL := zall (zt1 (zmem (i := 150) (by decide +kernel))) rfl
theorem aw_151 : Cond.classLink "MatchSeeker" (32 : Nat) "MatchSeeker$Plan" ∈ zALL := zall (zt1 (zmem (i := 151) (by decide +kernel))) rfl
theorem aw_152 : Cond.instantiable "MatchSeeker$Plan" (8 : Nat) ∈ zALL := zall (zt1 (zmem (i := 152) (by decide +kernel))) rfl
theorem nw_153 : Cond.methodLinkNest "MatchSeeker" (34 : Nat) ({ cls := "MatchSeeker$Plan", name := "<init>", desc := "(LMatchSeeker$Row;LMatchSeeker$Rule;LMatchSeeker$Finder;)V" } : Jvm.MethodName) "MatchSeeker" ∈ nwL := znw (zt1 (zmem (i := 153) (by decide +kernel))) rfl
theorem aw_154 : Cond.instanceMethod ({ cls := "MatchSeeker$Plan", name := "<init>", desc := "(LMatchSeeker$Row;LMatchSeeker$Rule;LMatchSeeker$Finder;)V" } : Jvm.MethodName) ∈ zALL := zall (zt1 (zmem (i := 154) (by decide +kernel))) rfl
theorem aw_155 : Cond.code ({ cls := "MatchSeeker$Plan", name := "<init>", desc := "(LMatchSeeker$Row;LMatchSeeker$Rule;LMatchSeeker$Finder;)V" } : Jvm.MethodName) prog_4_method_1_code (4 : Nat) (Option.none : Option Jvm.ClassFile.FieldType) ∈ zALL := zall (zt1 (zmem (i := 155) (by decide +kernel))) rfl
theorem aw_156 : Cond.methodLink "MatchSeeker$Plan" (3 : Nat) ({ cls := "java/lang/Object", name := "<init>", desc := "()V" } : Jvm.MethodName) ∈ zALL := zall (zt1 (zmem (i := 156) (by decide +kernel))) rfl
theorem aw_157 : Cond.fieldLink "MatchSeeker$Plan" (28 : Nat) "MatchSeeker$Plan" "row" "LMatchSeeker$Row;" ∈ zALL := zall (zt1 (zmem (i := 157) (by decide +kernel))) rfl
theorem aw_158 : Cond.fieldLink "MatchSeeker$Plan" (32 : Nat) "MatchSeeker$Plan" "law" "LMatchSeeker$Rule;" ∈ zALL := zall (zt1 (zmem (i := 158) (by decide +kernel))) rfl
theorem aw_159 : Cond.fieldLink "MatchSeeker$Plan" (36 : Nat) "MatchSeeker$Plan" "finder" "LMatchSeeker$Finder;" ∈ zALL := zall (zt1 (zmem (i := 159) (by decide +kernel))) rfl
theorem aw_160 : Cond.fieldLink "MatchSeeker$Plan" (9 : Nat) "MatchSeeker$Plan" "cost" "[I" ∈ zALL := zall (zt1 (zmem (i := 160) (by decide +kernel))) rfl
theorem aw_161 : Cond.fieldLink "MatchSeeker$Plan" (15 : Nat) "MatchSeeker$Plan" "length" "[I" ∈ zALL := zall (zt1 (zmem (i := 161) (by decide +kernel))) rfl
theorem nw_162 : Cond.fieldLinkNest "MatchSeeker" (179 : Nat) "MatchSeeker$Plan" "length" "[I" "MatchSeeker" ∈ nwL := znw (zt1 (zmem (i := 162) (by decide +kernel))) rfl
theorem aw_163 : Cond.fieldLink "MatchSeeker$Plan" (18 : Nat) "MatchSeeker$Plan" "distance" "[I" ∈ zALL := zall (zt1 (zmem (i := 163) (by decide +kernel))) rfl
theorem nw_164 : Cond.fieldLinkNest "MatchSeeker" (181 : Nat) "MatchSeeker$Plan" "distance" "[I" "MatchSeeker" ∈ nwL := znw (zt1 (zmem (i := 164) (by decide +kernel))) rfl
theorem aw_165 : Cond.fieldLink "MatchSeeker$Plan" (21 : Nat) "MatchSeeker$Plan" "ends" "[I" ∈ zALL := zall (zt1 (zmem (i := 165) (by decide +kernel))) rfl
theorem aw_166 : Cond.fieldLink "MatchSeeker$Plan" (24 : Nat) "MatchSeeker$Plan" "endCount" "I" ∈ zALL := zall (zt1 (zmem (i := 166) (by decide +kernel))) rfl
theorem aw_184 : Cond.classLink "MatchSeeker" (41 : Nat) "MatchSeeker$Found" ∈ zALL := zall (zt1 (zmem (i := 184) (by decide +kernel))) rfl
theorem aw_185 : Cond.instantiable "MatchSeeker$Found" (14 : Nat) ∈ zALL := zall (zt1 (zmem (i := 185) (by decide +kernel))) rfl
theorem nw_186 : Cond.methodLinkNest "MatchSeeker" (43 : Nat) ({ cls := "MatchSeeker$Found", name := "<init>", desc := "(LMatchSeeker$Row;LMatchSeeker$Rule;)V" } : Jvm.MethodName) "MatchSeeker" ∈ nwL := znw (zt1 (zmem (i := 186) (by decide +kernel))) rfl
theorem aw_187 : Cond.instanceMethod ({ cls := "MatchSeeker$Found", name := "<init>", desc := "(LMatchSeeker$Row;LMatchSeeker$Rule;)V" } : Jvm.MethodName) ∈ zALL := zall (zt1 (zmem (i := 187) (by decide +kernel))) rfl
theorem aw_188 : Cond.code ({ cls := "MatchSeeker$Found", name := "<init>", desc := "(LMatchSeeker$Row;LMatchSeeker$Rule;)V" } : Jvm.MethodName) prog_3_method_1_code (3 : Nat) (Option.none : Option Jvm.ClassFile.FieldType) ∈ zALL := zall (zt1 (zmem (i := 188) (by decide +kernel))) rfl
theorem aw_189 : Cond.methodLink "MatchSeeker$Found" (3 : Nat) ({ cls := "java/lang/Object", name := "<init>", desc := "()V" } : Jvm.MethodName) ∈ zALL := zall (zt1 (zmem (i := 189) (by decide +kernel))) rfl
theorem aw_190 : Cond.fieldLink "MatchSeeker$Found" (50 : Nat) "MatchSeeker$Found" "row" "LMatchSeeker$Row;" ∈ zALL := zall (zt1 (zmem (i := 190) (by decide +kernel))) rfl
theorem aw_191 : Cond.fieldLink "MatchSeeker$Found" (54 : Nat) "MatchSeeker$Found" "law" "LMatchSeeker$Rule;" ∈ zALL := zall (zt1 (zmem (i := 191) (by decide +kernel))) rfl
theorem aw_192 : Cond.fieldLink "MatchSeeker$Found" (9 : Nat) "MatchSeeker$Found" "literalsBefore" "[I" ∈ zALL := zall (zt1 (zmem (i := 192) (by decide +kernel))) rfl
theorem nw_193 : Cond.fieldLinkNest "MatchSeeker" (138 : Nat) "MatchSeeker$Found" "literalsBefore" "[I" "MatchSeeker" ∈ nwL := znw (zt1 (zmem (i := 193) (by decide +kernel))) rfl
theorem aw_194 : Cond.fieldLink "MatchSeeker$Found" (15 : Nat) "MatchSeeker$Found" "lengths" "[I" ∈ zALL := zall (zt1 (zmem (i := 194) (by decide +kernel))) rfl
theorem nw_195 : Cond.fieldLinkNest "MatchSeeker" (142 : Nat) "MatchSeeker$Found" "lengths" "[I" "MatchSeeker" ∈ nwL := znw (zt1 (zmem (i := 195) (by decide +kernel))) rfl
theorem aw_196 : Cond.fieldLink "MatchSeeker$Found" (18 : Nat) "MatchSeeker$Found" "distances" "[I" ∈ zALL := zall (zt1 (zmem (i := 196) (by decide +kernel))) rfl
theorem nw_197 : Cond.fieldLinkNest "MatchSeeker" (145 : Nat) "MatchSeeker$Found" "distances" "[I" "MatchSeeker" ∈ nwL := znw (zt1 (zmem (i := 197) (by decide +kernel))) rfl
theorem aw_198 : Cond.fieldLink "MatchSeeker$Found" (21 : Nat) "MatchSeeker$Found" "stretches" "I" ∈ zALL := zall (zt1 (zmem (i := 198) (by decide +kernel))) rfl
theorem nw_199 : Cond.fieldLinkNest "MatchSeeker" (135 : Nat) "MatchSeeker$Found" "stretches" "I" "MatchSeeker" ∈ nwL := znw (zt1 (zmem (i := 199) (by decide +kernel))) rfl
theorem aw_200 : Cond.fieldLink "MatchSeeker$Found" (25 : Nat) "MatchSeeker$Found" "tail" "I" ∈ zALL := zall (zt1 (zmem (i := 200) (by decide +kernel))) rfl
theorem nw_201 : Cond.fieldLinkNest "MatchSeeker" (148 : Nat) "MatchSeeker$Found" "tail" "I" "MatchSeeker" ∈ nwL := znw (zt1 (zmem (i := 201) (by decide +kernel))) rfl
theorem aw_202 : Cond.fieldLink "MatchSeeker$Found" (28 : Nat) "MatchSeeker$Found" "literals" "I" ∈ zALL := zall (zt1 (zmem (i := 202) (by decide +kernel))) rfl
theorem nw_203 : Cond.fieldLinkNest "MatchSeeker" (151 : Nat) "MatchSeeker$Found" "literals" "I" "MatchSeeker" ∈ nwL := znw (zt1 (zmem (i := 203) (by decide +kernel))) rfl
theorem aw_204 : Cond.fieldLink "MatchSeeker$Found" (31 : Nat) "MatchSeeker$Found" "cost" "I" ∈ zALL := zall (zt1 (zmem (i := 204) (by decide +kernel))) rfl
theorem nw_205 : Cond.fieldLinkNest "MatchSeeker" (154 : Nat) "MatchSeeker$Found" "cost" "I" "MatchSeeker" ∈ nwL := znw (zt1 (zmem (i := 205) (by decide +kernel))) rfl
theorem aw_206 : Cond.fieldLink "MatchSeeker$Found" (34 : Nat) "MatchSeeker$Found" "greatestLength" "I" ∈ zALL := zall (zt1 (zmem (i := 206) (by decide +kernel))) rfl
theorem nw_207 : Cond.fieldLinkNest "MatchSeeker" (157 : Nat) "MatchSeeker$Found" "greatestLength" "I" "MatchSeeker" ∈ nwL := znw (zt1 (zmem (i := 207) (by decide +kernel))) rfl
theorem aw_208 : Cond.fieldLink "MatchSeeker$Found" (37 : Nat) "MatchSeeker$Found" "greatestDistance" "I" ∈ zALL := zall (zt1 (zmem (i := 208) (by decide +kernel))) rfl
theorem nw_209 : Cond.fieldLinkNest "MatchSeeker" (160 : Nat) "MatchSeeker$Found" "greatestDistance" "I" "MatchSeeker" ∈ nwL := znw (zt1 (zmem (i := 209) (by decide +kernel))) rfl
theorem aw_210 : Cond.fieldLink "MatchSeeker$Found" (40 : Nat) "MatchSeeker$Found" "bytesThen" "I" ∈ zALL := zall (zt1 (zmem (i := 210) (by decide +kernel))) rfl
theorem aw_211 : Cond.fieldLink "MatchSeeker$Found" (43 : Nat) "MatchSeeker$Found" "pastThen" "I" ∈ zALL := zall (zt1 (zmem (i := 211) (by decide +kernel))) rfl
theorem aw_212 : Cond.fieldLink "MatchSeeker$Found" (46 : Nat) "MatchSeeker$Found" "rebuilt" "[B" ∈ zALL := zall (zt1 (zmem (i := 212) (by decide +kernel))) rfl
theorem aw_242 : Cond.fieldLink "MatchSeeker" (10 : Nat) "MatchSeeker" "row" "LMatchSeeker$Row;" ∈ zALL := zall (zt2 (zmem (i := 2) (by decide +kernel))) rfl
theorem aw_243 : Cond.fieldLink "MatchSeeker" (19 : Nat) "MatchSeeker" "law" "LMatchSeeker$Rule;" ∈ zALL := zall (zt2 (zmem (i := 3) (by decide +kernel))) rfl
theorem aw_244 : Cond.fieldLink "MatchSeeker" (28 : Nat) "MatchSeeker" "finder" "LMatchSeeker$Finder;" ∈ zALL := zall (zt2 (zmem (i := 4) (by decide +kernel))) rfl
theorem aw_245 : Cond.fieldLink "MatchSeeker" (37 : Nat) "MatchSeeker" "plan" "LMatchSeeker$Plan;" ∈ zALL := zall (zt2 (zmem (i := 5) (by decide +kernel))) rfl
theorem aw_246 : Cond.fieldLink "MatchSeeker" (44 : Nat) "MatchSeeker" "found" "LMatchSeeker$Found;" ∈ zALL := zall (zt2 (zmem (i := 6) (by decide +kernel))) rfl
theorem aw_258 : Cond.methodLink "MatchSeekerLaw" (13 : Nat) ({ cls := "MatchSeeker", name := "clear", desc := "()V" } : Jvm.MethodName) ∈ zALL := zall (zt2 (zmem (i := 18) (by decide +kernel))) rfl
theorem aw_259 : Cond.instanceMethod ({ cls := "MatchSeeker", name := "clear", desc := "()V" } : Jvm.MethodName) ∈ zALL := zall (zt2 (zmem (i := 19) (by decide +kernel))) rfl
theorem aw_260 : Cond.selects "MatchSeeker" ({ cls := "MatchSeeker", name := "clear", desc := "()V" } : Jvm.MethodName) ({ cls := "MatchSeeker", name := "clear", desc := "()V" } : Jvm.MethodName) ∈ zALL := zall (zt2 (zmem (i := 20) (by decide +kernel))) rfl
theorem aw_261 : Cond.code ({ cls := "MatchSeeker", name := "clear", desc := "()V" } : Jvm.MethodName) prog_1_method_2_code (1 : Nat) (Option.none : Option Jvm.ClassFile.FieldType) ∈ zALL := zall (zt2 (zmem (i := 21) (by decide +kernel))) rfl
theorem nw_262 : Cond.methodLinkNest "MatchSeeker" (48 : Nat) ({ cls := "MatchSeeker$Row", name := "empty", desc := "()V" } : Jvm.MethodName) "MatchSeeker" ∈ nwL := znw (zt2 (zmem (i := 22) (by decide +kernel))) rfl
theorem aw_264 : Cond.instanceMethod ({ cls := "MatchSeeker$Row", name := "empty", desc := "()V" } : Jvm.MethodName) ∈ zALL := zall (zt2 (zmem (i := 24) (by decide +kernel))) rfl
theorem aw_265 : Cond.code ({ cls := "MatchSeeker$Row", name := "empty", desc := "()V" } : Jvm.MethodName) prog_5_method_4_code (1 : Nat) (Option.none : Option Jvm.ClassFile.FieldType) ∈ zALL := zall (zt2 (zmem (i := 25) (by decide +kernel))) rfl
theorem nw_266 : Cond.methodLinkNest "MatchSeeker" (51 : Nat) ({ cls := "MatchSeeker$Finder", name := "forgetData", desc := "()V" } : Jvm.MethodName) "MatchSeeker" ∈ nwL := znw (zt2 (zmem (i := 26) (by decide +kernel))) rfl
theorem aw_268 : Cond.instanceMethod ({ cls := "MatchSeeker$Finder", name := "forgetData", desc := "()V" } : Jvm.MethodName) ∈ zALL := zall (zt2 (zmem (i := 28) (by decide +kernel))) rfl
theorem aw_269 : Cond.code ({ cls := "MatchSeeker$Finder", name := "forgetData", desc := "()V" } : Jvm.MethodName) prog_2_method_2_code (1 : Nat) (Option.none : Option Jvm.ClassFile.FieldType) ∈ zALL := zall (zt2 (zmem (i := 29) (by decide +kernel))) rfl
theorem aw_270 : Cond.methodLink "MatchSeeker$Finder" (60 : Nat) ({ cls := "MatchSeeker$Finder", name := "unlink", desc := "()V" } : Jvm.MethodName) ∈ zALL := zall (zt2 (zmem (i := 30) (by decide +kernel))) rfl
theorem aw_272 : Cond.instanceMethod ({ cls := "MatchSeeker$Finder", name := "unlink", desc := "()V" } : Jvm.MethodName) ∈ zALL := zall (zt2 (zmem (i := 32) (by decide +kernel))) rfl
theorem aw_273 : Cond.code ({ cls := "MatchSeeker$Finder", name := "unlink", desc := "()V" } : Jvm.MethodName) prog_2_method_3_code (1 : Nat) (Option.none : Option Jvm.ClassFile.FieldType) ∈ zALL := zall (zt2 (zmem (i := 33) (by decide +kernel))) rfl
theorem aw_274 : Cond.methodLink "MatchSeeker$Finder" (63 : Nat) ({ cls := "java/util/Arrays", name := "fill", desc := "([II)V" } : Jvm.MethodName) ∈ zALL := zall (zt2 (zmem (i := 34) (by decide +kernel))) rfl
theorem aw_275 : Cond.static ({ cls := "java/util/Arrays", name := "fill", desc := "([II)V" } : Jvm.MethodName) ∈ zALL := zall (zt2 (zmem (i := 35) (by decide +kernel))) rfl
theorem aw_276 : Cond.code ({ cls := "java/util/Arrays", name := "fill", desc := "([II)V" } : Jvm.MethodName) prog_12_method_103_code (4 : Nat) (Option.none : Option Jvm.ClassFile.FieldType) ∈ zALL := zall (zt2 (zmem (i := 36) (by decide +kernel))) rfl
theorem nw_277 : Cond.methodLinkNest "MatchSeeker" (54 : Nat) ({ cls := "MatchSeeker$Found", name := "forget", desc := "()V" } : Jvm.MethodName) "MatchSeeker" ∈ nwL := znw (zt2 (zmem (i := 37) (by decide +kernel))) rfl
theorem aw_279 : Cond.instanceMethod ({ cls := "MatchSeeker$Found", name := "forget", desc := "()V" } : Jvm.MethodName) ∈ zALL := zall (zt2 (zmem (i := 39) (by decide +kernel))) rfl
theorem aw_280 : Cond.code ({ cls := "MatchSeeker$Found", name := "forget", desc := "()V" } : Jvm.MethodName) prog_3_method_2_code (1 : Nat) (Option.none : Option Jvm.ClassFile.FieldType) ∈ zALL := zall (zt2 (zmem (i := 40) (by decide +kernel))) rfl
theorem aw_281 : Cond.methodLink "MatchSeekerLaw" (19 : Nat) ({ cls := "MatchSeeker", name := "write", desc := "(JI)Z" } : Jvm.MethodName) ∈ zALL := zall (zt2 (zmem (i := 41) (by decide +kernel))) rfl
theorem aw_282 : Cond.instanceMethod ({ cls := "MatchSeeker", name := "write", desc := "(JI)Z" } : Jvm.MethodName) ∈ zALL := zall (zt2 (zmem (i := 42) (by decide +kernel))) rfl
theorem aw_283 : Cond.selects "MatchSeeker" ({ cls := "MatchSeeker", name := "write", desc := "(JI)Z" } : Jvm.MethodName) ({ cls := "MatchSeeker", name := "write", desc := "(JI)Z" } : Jvm.MethodName) ∈ zALL := zall (zt2 (zmem (i := 43) (by decide +kernel))) rfl
theorem aw_284 : Cond.code ({ cls := "MatchSeeker", name := "write", desc := "(JI)Z" } : Jvm.MethodName) prog_1_method_3_code (4 : Nat) (Option.some Jvm.ClassFile.FieldType.boolean) ∈ zALL := zall (zt2 (zmem (i := 44) (by decide +kernel))) rfl
theorem aw_285 : Cond.methodLink "MatchSeeker" (57 : Nat) ({ cls := "MatchSeeker", name := "within", desc := "(III)Z" } : Jvm.MethodName) ∈ zALL := zall (zt2 (zmem (i := 45) (by decide +kernel))) rfl
theorem aw_286 : Cond.static ({ cls := "MatchSeeker", name := "within", desc := "(III)Z" } : Jvm.MethodName) ∈ zALL := zall (zt2 (zmem (i := 46) (by decide +kernel))) rfl
theorem aw_287 : Cond.code ({ cls := "MatchSeeker", name := "within", desc := "(III)Z" } : Jvm.MethodName) prog_1_method_17_code (3 : Nat) (Option.some Jvm.ClassFile.FieldType.boolean) ∈ zALL := zall (zt2 (zmem (i := 47) (by decide +kernel))) rfl
theorem nw_288 : Cond.methodLinkNest "MatchSeeker" (61 : Nat) ({ cls := "MatchSeeker$Row", name := "takes", desc := "(J)Z" } : Jvm.MethodName) "MatchSeeker" ∈ nwL := znw (zt2 (zmem (i := 48) (by decide +kernel))) rfl
theorem aw_290 : Cond.instanceMethod ({ cls := "MatchSeeker$Row", name := "takes", desc := "(J)Z" } : Jvm.MethodName) ∈ zALL := zall (zt2 (zmem (i := 50) (by decide +kernel))) rfl
theorem aw_291 : Cond.code ({ cls := "MatchSeeker$Row", name := "takes", desc := "(J)Z" } : Jvm.MethodName) prog_5_method_3_code (3 : Nat) (Option.some Jvm.ClassFile.FieldType.boolean) ∈ zALL := zall (zt2 (zmem (i := 51) (by decide +kernel))) rfl
theorem aw_292 : Cond.constant "MatchSeeker$Row" (22 : Nat) (32768 : Int32) ∈ zALL := zall (zt2 (zmem (i := 52) (by decide +kernel))) rfl
theorem nw_293 : Cond.methodLinkNest "MatchSeeker" (65 : Nat) ({ cls := "MatchSeeker$Row", name := "append", desc := "(JI)V" } : Jvm.MethodName) "MatchSeeker" ∈ nwL := znw (zt2 (zmem (i := 53) (by decide +kernel))) rfl
theorem aw_295 : Cond.instanceMethod ({ cls := "MatchSeeker$Row", name := "append", desc := "(JI)V" } : Jvm.MethodName) ∈ zALL := zall (zt2 (zmem (i := 55) (by decide +kernel))) rfl
theorem aw_296 : Cond.code ({ cls := "MatchSeeker$Row", name := "append", desc := "(JI)V" } : Jvm.MethodName) prog_5_method_5_code (5 : Nat) (Option.none : Option Jvm.ClassFile.FieldType) ∈ zALL := zall (zt2 (zmem (i := 56) (by decide +kernel))) rfl
theorem aw_297 : Cond.methodLink "MatchSeeker$Row" (23 : Nat) ({ cls := "MatchSeeker$Row", name := "makeRoom", desc := "(I)V" } : Jvm.MethodName) ∈ zALL := zall (zt2 (zmem (i := 57) (by decide +kernel))) rfl
theorem aw_299 : Cond.instanceMethod ({ cls := "MatchSeeker$Row", name := "makeRoom", desc := "(I)V" } : Jvm.MethodName) ∈ zALL := zall (zt2 (zmem (i := 59) (by decide +kernel))) rfl
theorem aw_300 : Cond.code ({ cls := "MatchSeeker$Row", name := "makeRoom", desc := "(I)V" } : Jvm.MethodName) prog_5_method_7_code (2 : Nat) (Option.none : Option Jvm.ClassFile.FieldType) ∈ zALL := zall (zt2 (zmem (i := 60) (by decide +kernel))) rfl
theorem nw_301 : Cond.methodLinkNest "MatchSeeker$Row" (27 : Nat) ({ cls := "MatchSeeker", name := "roomFor", desc := "(I)I" } : Jvm.MethodName) "MatchSeeker" ∈ nwL := znw (zt2 (zmem (i := 61) (by decide +kernel))) rfl
theorem aw_302 : Cond.static ({ cls := "MatchSeeker", name := "roomFor", desc := "(I)I" } : Jvm.MethodName) ∈ zALL := zall (zt2 (zmem (i := 62) (by decide +kernel))) rfl
theorem aw_303 : Cond.code ({ cls := "MatchSeeker", name := "roomFor", desc := "(I)I" } : Jvm.MethodName) prog_1_method_18_code (2 : Nat) (Option.some Jvm.ClassFile.FieldType.int) ∈ zALL := zall (zt2 (zmem (i := 63) (by decide +kernel))) rfl
theorem aw_304 : Cond.constant "MatchSeeker" (183 : Nat) (32768 : Int32) ∈ zALL := zall (zt2 (zmem (i := 64) (by decide +kernel))) rfl
theorem aw_305 : Cond.methodLink "MatchSeeker$Row" (31 : Nat) ({ cls := "java/util/Arrays", name := "copyOf", desc := "([BI)[B" } : Jvm.MethodName) ∈ zALL := zall (zt2 (zmem (i := 65) (by decide +kernel))) rfl
theorem aw_306 : Cond.static ({ cls := "java/util/Arrays", name := "copyOf", desc := "([BI)[B" } : Jvm.MethodName) ∈ zALL := zall (zt2 (zmem (i := 66) (by decide +kernel))) rfl
theorem aw_307 : Cond.code ({ cls := "java/util/Arrays", name := "copyOf", desc := "([BI)[B" } : Jvm.MethodName) prog_12_method_121_code (3 : Nat) (Option.some (Jvm.ClassFile.FieldType.array Jvm.ClassFile.FieldType.byte)) ∈ zALL := zall (zt2 (zmem (i := 67) (by decide +kernel))) rfl
theorem aw_308 : Cond.methodLink "java/util/Arrays" (310 : Nat) ({ cls := "[B", name := "clone", desc := "()Ljava/lang/Object;" } : Jvm.MethodName) ∈ zALL := zall (zt2 (zmem (i := 68) (by decide +kernel))) rfl
theorem aw_310 : Cond.native ({ cls := "java/lang/Object", name := "clone", desc := "()Ljava/lang/Object;" } : Jvm.MethodName) ∈ zALL := zall (zt2 (zmem (i := 70) (by decide +kernel))) rfl
theorem aw_311 : Cond.instanceMethod ({ cls := "java/lang/Object", name := "clone", desc := "()Ljava/lang/Object;" } : Jvm.MethodName) ∈ zALL := zall (zt2 (zmem (i := 71) (by decide +kernel))) rfl
theorem aw_312 : Cond.selects "[B" ({ cls := "[B", name := "clone", desc := "()Ljava/lang/Object;" } : Jvm.MethodName) ({ cls := "java/lang/Object", name := "clone", desc := "()Ljava/lang/Object;" } : Jvm.MethodName) ∈ zALL := zall (zt2 (zmem (i := 72) (by decide +kernel))) rfl
theorem aw_314 : Cond.classLink "java/util/Arrays" (311 : Nat) "[B" ∈ zALL := zall (zt2 (zmem (i := 74) (by decide +kernel))) rfl
theorem aw_315 : Cond.methodLink "java/util/Arrays" (304 : Nat) ({ cls := "java/lang/Math", name := "min", desc := "(II)I" } : Jvm.MethodName) ∈ zALL := zall (zt2 (zmem (i := 75) (by decide +kernel))) rfl
theorem aw_316 : Cond.static ({ cls := "java/lang/Math", name := "min", desc := "(II)I" } : Jvm.MethodName) ∈ zALL := zall (zt2 (zmem (i := 76) (by decide +kernel))) rfl
theorem aw_317 : Cond.code ({ cls := "java/lang/Math", name := "min", desc := "(II)I" } : Jvm.MethodName) prog_10_method_69_code (2 : Nat) (Option.some Jvm.ClassFile.FieldType.int) ∈ zALL := zall (zt2 (zmem (i := 77) (by decide +kernel))) rfl
theorem aw_318 : Cond.methodLink "java/util/Arrays" (150 : Nat) ({ cls := "java/lang/System", name := "arraycopy", desc := "(Ljava/lang/Object;ILjava/lang/Object;II)V" } : Jvm.MethodName) ∈ zALL := zall (zt2 (zmem (i := 78) (by decide +kernel))) rfl
theorem aw_319 : Cond.static ({ cls := "java/lang/System", name := "arraycopy", desc := "(Ljava/lang/Object;ILjava/lang/Object;II)V" } : Jvm.MethodName) ∈ zALL := zall (zt2 (zmem (i := 79) (by decide +kernel))) rfl
theorem aw_320 : Cond.native ({ cls := "java/lang/System", name := "arraycopy", desc := "(Ljava/lang/Object;ILjava/lang/Object;II)V" } : Jvm.MethodName) ∈ zALL := zall (zt2 (zmem (i := 80) (by decide +kernel))) rfl
theorem aw_321 : Cond.methodLink "MatchSeekerLaw" (24 : Nat) ({ cls := "MatchSeeker", name := "again", desc := "(II)Z" } : Jvm.MethodName) ∈ zALL := zall (zt2 (zmem (i := 81) (by decide +kernel))) rfl
theorem aw_322 : Cond.instanceMethod ({ cls := "MatchSeeker", name := "again", desc := "(II)Z" } : Jvm.MethodName) ∈ zALL := zall (zt2 (zmem (i := 82) (by decide +kernel))) rfl
theorem aw_323 : Cond.selects "MatchSeeker" ({ cls := "MatchSeeker", name := "again", desc := "(II)Z" } : Jvm.MethodName) ({ cls := "MatchSeeker", name := "again", desc := "(II)Z" } : Jvm.MethodName) ∈ zALL := zall (zt2 (zmem (i := 83) (by decide +kernel))) rfl
theorem aw_324 : Cond.code ({ cls := "MatchSeeker", name := "again", desc := "(II)Z" } : Jvm.MethodName) prog_1_method_4_code (3 : Nat) (Option.some Jvm.ClassFile.FieldType.boolean) ∈ zALL := zall (zt2 (zmem (i := 84) (by decide +kernel))) rfl
theorem nw_325 : Cond.methodLinkNest "MatchSeeker" (73 : Nat) ({ cls := "MatchSeeker$Row", name := "repeat", desc := "(II)V" } : Jvm.MethodName) "MatchSeeker" ∈ nwL := znw (zt2 (zmem (i := 85) (by decide +kernel))) rfl
theorem aw_327 : Cond.instanceMethod ({ cls := "MatchSeeker$Row", name := "repeat", desc := "(II)V" } : Jvm.MethodName) ∈ zALL := zall (zt2 (zmem (i := 87) (by decide +kernel))) rfl
theorem aw_328 : Cond.code ({ cls := "MatchSeeker$Row", name := "repeat", desc := "(II)V" } : Jvm.MethodName) prog_5_method_6_code (4 : Nat) (Option.none : Option Jvm.ClassFile.FieldType) ∈ zALL := zall (zt2 (zmem (i := 88) (by decide +kernel))) rfl
theorem aw_329 : Cond.methodLink "MatchSeekerLaw" (29 : Nat) ({ cls := "MatchSeeker", name := "history", desc := "(I)Z" } : Jvm.MethodName) ∈ zALL := zall (zt2 (zmem (i := 89) (by decide +kernel))) rfl
theorem aw_330 : Cond.instanceMethod ({ cls := "MatchSeeker", name := "history", desc := "(I)Z" } : Jvm.MethodName) ∈ zALL := zall (zt2 (zmem (i := 90) (by decide +kernel))) rfl
theorem aw_331 : Cond.selects "MatchSeeker" ({ cls := "MatchSeeker", name := "history", desc := "(I)Z" } : Jvm.MethodName) ({ cls := "MatchSeeker", name := "history", desc := "(I)Z" } : Jvm.MethodName) ∈ zALL := zall (zt2 (zmem (i := 91) (by decide +kernel))) rfl
theorem aw_332 : Cond.code ({ cls := "MatchSeeker", name := "history", desc := "(I)Z" } : Jvm.MethodName) prog_1_method_5_code (2 : Nat) (Option.some Jvm.ClassFile.FieldType.boolean) ∈ zALL := zall (zt2 (zmem (i := 92) (by decide +kernel))) rfl
theorem aw_333 : Cond.methodLink "MatchSeekerLaw" (34 : Nat) ({ cls := "MatchSeeker", name := "rule", desc := "(IIII)Z" } : Jvm.MethodName) ∈ zALL := zall (zt2 (zmem (i := 93) (by decide +kernel))) rfl
theorem aw_334 : Cond.instanceMethod ({ cls := "MatchSeeker", name := "rule", desc := "(IIII)Z" } : Jvm.MethodName) ∈ zALL := zall (zt2 (zmem (i := 94) (by decide +kernel))) rfl
theorem aw_335 : Cond.selects "MatchSeeker" ({ cls := "MatchSeeker", name := "rule", desc := "(IIII)Z" } : Jvm.MethodName) ({ cls := "MatchSeeker", name := "rule", desc := "(IIII)Z" } : Jvm.MethodName) ∈ zALL := zall (zt2 (zmem (i := 95) (by decide +kernel))) rfl
theorem aw_336 : Cond.code ({ cls := "MatchSeeker", name := "rule", desc := "(IIII)Z" } : Jvm.MethodName) prog_1_method_6_code (5 : Nat) (Option.some Jvm.ClassFile.FieldType.boolean) ∈ zALL := zall (zt2 (zmem (i := 96) (by decide +kernel))) rfl
theorem aw_337 : Cond.constant "MatchSeeker" (80 : Nat) (65536 : Int32) ∈ zALL := zall (zt2 (zmem (i := 97) (by decide +kernel))) rfl
theorem aw_338 : Cond.constant "MatchSeeker" (81 : Nat) (131072 : Int32) ∈ zALL := zall (zt2 (zmem (i := 98) (by decide +kernel))) rfl
theorem aw_339 : Cond.methodLink "MatchSeekerLaw" (39 : Nat) ({ cls := "MatchSeeker", name := "bounds", desc := "(IIII)Z" } : Jvm.MethodName) ∈ zALL := zall (zt2 (zmem (i := 99) (by decide +kernel))) rfl
theorem aw_340 : Cond.instanceMethod ({ cls := "MatchSeeker", name := "bounds", desc := "(IIII)Z" } : Jvm.MethodName) ∈ zALL := zall (zt2 (zmem (i := 100) (by decide +kernel))) rfl
theorem aw_341 : Cond.selects "MatchSeeker" ({ cls := "MatchSeeker", name := "bounds", desc := "(IIII)Z" } : Jvm.MethodName) ({ cls := "MatchSeeker", name := "bounds", desc := "(IIII)Z" } : Jvm.MethodName) ∈ zALL := zall (zt2 (zmem (i := 101) (by decide +kernel))) rfl
theorem aw_342 : Cond.code ({ cls := "MatchSeeker", name := "bounds", desc := "(IIII)Z" } : Jvm.MethodName) prog_1_method_7_code (5 : Nat) (Option.some Jvm.ClassFile.FieldType.boolean) ∈ zALL := zall (zt2 (zmem (i := 102) (by decide +kernel))) rfl
theorem aw_343 : Cond.methodLink "MatchSeekerLaw" (43 : Nat) ({ cls := "MatchSeeker", name := "at", desc := "(III)I" } : Jvm.MethodName) ∈ zALL := zall (zt2 (zmem (i := 103) (by decide +kernel))) rfl
theorem aw_344 : Cond.instanceMethod ({ cls := "MatchSeeker", name := "at", desc := "(III)I" } : Jvm.MethodName) ∈ zALL := zall (zt2 (zmem (i := 104) (by decide +kernel))) rfl
theorem aw_345 : Cond.selects "MatchSeeker" ({ cls := "MatchSeeker", name := "at", desc := "(III)I" } : Jvm.MethodName) ({ cls := "MatchSeeker", name := "at", desc := "(III)I" } : Jvm.MethodName) ∈ zALL := zall (zt2 (zmem (i := 105) (by decide +kernel))) rfl
theorem aw_346 : Cond.code ({ cls := "MatchSeeker", name := "at", desc := "(III)I" } : Jvm.MethodName) prog_1_method_8_code (4 : Nat) (Option.some Jvm.ClassFile.FieldType.int) ∈ zALL := zall (zt2 (zmem (i := 106) (by decide +kernel))) rfl
theorem nw_347 : Cond.methodLinkNest "MatchSeeker" (106 : Nat) ({ cls := "MatchSeeker$Row", name := "hasPlace", desc := "(I)Z" } : Jvm.MethodName) "MatchSeeker" ∈ nwL := znw (zt2 (zmem (i := 107) (by decide +kernel))) rfl
theorem aw_349 : Cond.instanceMethod ({ cls := "MatchSeeker$Row", name := "hasPlace", desc := "(I)Z" } : Jvm.MethodName) ∈ zALL := zall (zt2 (zmem (i := 109) (by decide +kernel))) rfl
theorem aw_350 : Cond.code ({ cls := "MatchSeeker$Row", name := "hasPlace", desc := "(I)Z" } : Jvm.MethodName) prog_5_method_2_code (2 : Nat) (Option.some Jvm.ClassFile.FieldType.boolean) ∈ zALL := zall (zt2 (zmem (i := 110) (by decide +kernel))) rfl
theorem nw_351 : Cond.methodLinkNest "MatchSeeker" (110 : Nat) ({ cls := "MatchSeeker$Finder", name := "readData", desc := "()V" } : Jvm.MethodName) "MatchSeeker" ∈ nwL := znw (zt2 (zmem (i := 111) (by decide +kernel))) rfl
theorem aw_353 : Cond.instanceMethod ({ cls := "MatchSeeker$Finder", name := "readData", desc := "()V" } : Jvm.MethodName) ∈ zALL := zall (zt2 (zmem (i := 113) (by decide +kernel))) rfl
theorem aw_354 : Cond.code ({ cls := "MatchSeeker$Finder", name := "readData", desc := "()V" } : Jvm.MethodName) prog_2_method_4_code (2 : Nat) (Option.none : Option Jvm.ClassFile.FieldType) ∈ zALL := zall (zt2 (zmem (i := 114) (by decide +kernel))) rfl
theorem nw_355 : Cond.methodLinkNest "MatchSeeker$Finder" (79 : Nat) ({ cls := "MatchSeeker", name := "roomFor", desc := "(I)I" } : Jvm.MethodName) "MatchSeeker" ∈ nwL := znw (zt2 (zmem (i := 115) (by decide +kernel))) rfl
theorem aw_356 : Cond.methodLink "MatchSeeker$Finder" (83 : Nat) ({ cls := "MatchSeeker$Finder", name := "enlarge", desc := "(I)V" } : Jvm.MethodName) ∈ zALL := zall (zt2 (zmem (i := 116) (by decide +kernel))) rfl
theorem aw_358 : Cond.instanceMethod ({ cls := "MatchSeeker$Finder", name := "enlarge", desc := "(I)V" } : Jvm.MethodName) ∈ zALL := zall (zt2 (zmem (i := 118) (by decide +kernel))) rfl
theorem aw_359 : Cond.code ({ cls := "MatchSeeker$Finder", name := "enlarge", desc := "(I)V" } : Jvm.MethodName) prog_2_method_5_code (2 : Nat) (Option.none : Option Jvm.ClassFile.FieldType) ∈ zALL := zall (zt2 (zmem (i := 119) (by decide +kernel))) rfl
theorem aw_360 : Cond.methodLink "MatchSeeker$Finder" (87 : Nat) ({ cls := "MatchSeeker$Finder", name := "slotOf", desc := "(I)I" } : Jvm.MethodName) ∈ zALL := zall (zt2 (zmem (i := 120) (by decide +kernel))) rfl
theorem aw_362 : Cond.instanceMethod ({ cls := "MatchSeeker$Finder", name := "slotOf", desc := "(I)I" } : Jvm.MethodName) ∈ zALL := zall (zt2 (zmem (i := 122) (by decide +kernel))) rfl
theorem aw_363 : Cond.code ({ cls := "MatchSeeker$Finder", name := "slotOf", desc := "(I)I" } : Jvm.MethodName) prog_2_method_6_code (5 : Nat) (Option.some Jvm.ClassFile.FieldType.int) ∈ zALL := zall (zt2 (zmem (i := 123) (by decide +kernel))) rfl
theorem aw_364 : Cond.constantLong "MatchSeeker$Finder" (94 : Nat) (-7046029254386353131 : Int64) ∈ zALL := zall (zt2 (zmem (i := 124) (by decide +kernel))) rfl
theorem nw_365 : Cond.methodLinkNest "MatchSeeker" (113 : Nat) ({ cls := "MatchSeeker$Finder", name := "seek", desc := "(II)V" } : Jvm.MethodName) "MatchSeeker" ∈ nwL := znw (zt2 (zmem (i := 125) (by decide +kernel))) rfl
theorem aw_367 : Cond.instanceMethod ({ cls := "MatchSeeker$Finder", name := "seek", desc := "(II)V" } : Jvm.MethodName) ∈ zALL := zall (zt2 (zmem (i := 127) (by decide +kernel))) rfl
theorem aw_368 : Cond.code ({ cls := "MatchSeeker$Finder", name := "seek", desc := "(II)V" } : Jvm.MethodName) prog_2_method_7_code (3 : Nat) (Option.none : Option Jvm.ClassFile.FieldType) ∈ zALL := zall (zt2 (zmem (i := 128) (by decide +kernel))) rfl
theorem aw_369 : Cond.methodLink "MatchSeeker$Finder" (96 : Nat) ({ cls := "MatchSeeker$Finder", name := "seekNearest", desc := "(I)V" } : Jvm.MethodName) ∈ zALL := zall (zt2 (zmem (i := 129) (by decide +kernel))) rfl
theorem aw_371 : Cond.instanceMethod ({ cls := "MatchSeeker$Finder", name := "seekNearest", desc := "(I)V" } : Jvm.MethodName) ∈ zALL := zall (zt2 (zmem (i := 131) (by decide +kernel))) rfl
theorem aw_372 : Cond.code ({ cls := "MatchSeeker$Finder", name := "seekNearest", desc := "(I)V" } : Jvm.MethodName) prog_2_method_8_code (2 : Nat) (Option.none : Option Jvm.ClassFile.FieldType) ∈ zALL := zall (zt2 (zmem (i := 132) (by decide +kernel))) rfl
theorem aw_373 : Cond.methodLink "MatchSeeker$Finder" (99 : Nat) ({ cls := "MatchSeeker$Finder", name := "startAt", desc := "(II)V" } : Jvm.MethodName) ∈ zALL := zall (zt2 (zmem (i := 133) (by decide +kernel))) rfl
theorem aw_375 : Cond.instanceMethod ({ cls := "MatchSeeker$Finder", name := "startAt", desc := "(II)V" } : Jvm.MethodName) ∈ zALL := zall (zt2 (zmem (i := 135) (by decide +kernel))) rfl
theorem aw_376 : Cond.code ({ cls := "MatchSeeker$Finder", name := "startAt", desc := "(II)V" } : Jvm.MethodName) prog_2_method_12_code (4 : Nat) (Option.none : Option Jvm.ClassFile.FieldType) ∈ zALL := zall (zt2 (zmem (i := 136) (by decide +kernel))) rfl
theorem aw_377 : Cond.methodLink "MatchSeeker$Finder" (120 : Nat) ({ cls := "java/lang/Math", name := "max", desc := "(II)I" } : Jvm.MethodName) ∈ zALL := zall (zt2 (zmem (i := 137) (by decide +kernel))) rfl
theorem aw_378 : Cond.static ({ cls := "java/lang/Math", name := "max", desc := "(II)I" } : Jvm.MethodName) ∈ zALL := zall (zt2 (zmem (i := 138) (by decide +kernel))) rfl
theorem aw_379 : Cond.code ({ cls := "java/lang/Math", name := "max", desc := "(II)I" } : Jvm.MethodName) prog_10_method_65_code (2 : Nat) (Option.some Jvm.ClassFile.FieldType.int) ∈ zALL := zall (zt2 (zmem (i := 139) (by decide +kernel))) rfl
theorem nw_380 : Cond.methodLinkNest "MatchSeeker$Finder" (129 : Nat) ({ cls := "MatchSeeker$Rule", name := "endOf", desc := "(I)I" } : Jvm.MethodName) "MatchSeeker" ∈ nwL := znw (zt2 (zmem (i := 140) (by decide +kernel))) rfl
theorem aw_382 : Cond.instanceMethod ({ cls := "MatchSeeker$Rule", name := "endOf", desc := "(I)I" } : Jvm.MethodName) ∈ zALL := zall (zt2 (zmem (i := 142) (by decide +kernel))) rfl
theorem aw_383 : Cond.code ({ cls := "MatchSeeker$Rule", name := "endOf", desc := "(I)I" } : Jvm.MethodName) prog_6_method_3_code (2 : Nat) (Option.some Jvm.ClassFile.FieldType.int) ∈ zALL := zall (zt2 (zmem (i := 143) (by decide +kernel))) rfl
theorem aw_384 : Cond.methodLink "MatchSeeker$Rule" (38 : Nat) ({ cls := "java/lang/Math", name := "max", desc := "(II)I" } : Jvm.MethodName) ∈ zALL := zall (zt2 (zmem (i := 144) (by decide +kernel))) rfl
theorem aw_385 : Cond.methodLink "MatchSeeker$Finder" (132 : Nat) ({ cls := "java/lang/Math", name := "min", desc := "(II)I" } : Jvm.MethodName) ∈ zALL := zall (zt2 (zmem (i := 145) (by decide +kernel))) rfl
theorem nw_386 : Cond.methodLinkNest "MatchSeeker$Finder" (135 : Nat) ({ cls := "MatchSeeker$Rule", name := "lastOf", desc := "(I)I" } : Jvm.MethodName) "MatchSeeker" ∈ nwL := znw (zt2 (zmem (i := 146) (by decide +kernel))) rfl
theorem aw_388 : Cond.instanceMethod ({ cls := "MatchSeeker$Rule", name := "lastOf", desc := "(I)I" } : Jvm.MethodName) ∈ zALL := zall (zt2 (zmem (i := 148) (by decide +kernel))) rfl
theorem aw_389 : Cond.code ({ cls := "MatchSeeker$Rule", name := "lastOf", desc := "(I)I" } : Jvm.MethodName) prog_6_method_2_code (2 : Nat) (Option.some Jvm.ClassFile.FieldType.int) ∈ zALL := zall (zt2 (zmem (i := 149) (by decide +kernel))) rfl
theorem aw_390 : Cond.methodLink "MatchSeeker$Finder" (103 : Nat) ({ cls := "MatchSeeker$Finder", name := "findLonger", desc := "()Z" } : Jvm.MethodName) ∈ zALL := zall (zt2 (zmem (i := 150) (by decide +kernel))) rfl
theorem aw_392 : Cond.instanceMethod ({ cls := "MatchSeeker$Finder", name := "findLonger", desc := "()Z" } : Jvm.MethodName) ∈ zALL := zall (zt2 (zmem (i := 152) (by decide +kernel))) rfl
theorem aw_393 : Cond.code ({ cls := "MatchSeeker$Finder", name := "findLonger", desc := "()Z" } : Jvm.MethodName) prog_2_method_14_code (5 : Nat) (Option.some Jvm.ClassFile.FieldType.boolean) ∈ zALL := zall (zt2 (zmem (i := 153) (by decide +kernel))) rfl
theorem aw_394 : Cond.methodLink "MatchSeeker$Finder" (113 : Nat) ({ cls := "MatchSeeker$Finder", name := "sameBytes", desc := "(III)I" } : Jvm.MethodName) ∈ zALL := zall (zt2 (zmem (i := 154) (by decide +kernel))) rfl
theorem aw_396 : Cond.instanceMethod ({ cls := "MatchSeeker$Finder", name := "sameBytes", desc := "(III)I" } : Jvm.MethodName) ∈ zALL := zall (zt2 (zmem (i := 156) (by decide +kernel))) rfl
theorem aw_397 : Cond.code ({ cls := "MatchSeeker$Finder", name := "sameBytes", desc := "(III)I" } : Jvm.MethodName) prog_2_method_15_code (10 : Nat) (Option.some Jvm.ClassFile.FieldType.int) ∈ zALL := zall (zt2 (zmem (i := 157) (by decide +kernel))) rfl
theorem aw_398 : Cond.methodLink "MatchSeeker$Finder" (107 : Nat) ({ cls := "MatchSeeker$Finder", name := "seekLongestIfNotNext", desc := "(I)V" } : Jvm.MethodName) ∈ zALL := zall (zt2 (zmem (i := 158) (by decide +kernel))) rfl
theorem aw_400 : Cond.instanceMethod ({ cls := "MatchSeeker$Finder", name := "seekLongestIfNotNext", desc := "(I)V" } : Jvm.MethodName) ∈ zALL := zall (zt2 (zmem (i := 160) (by decide +kernel))) rfl
theorem aw_401 : Cond.code ({ cls := "MatchSeeker$Finder", name := "seekLongestIfNotNext", desc := "(I)V" } : Jvm.MethodName) prog_2_method_10_code (5 : Nat) (Option.none : Option Jvm.ClassFile.FieldType) ∈ zALL := zall (zt2 (zmem (i := 161) (by decide +kernel))) rfl
theorem aw_402 : Cond.methodLink "MatchSeeker$Finder" (110 : Nat) ({ cls := "MatchSeeker$Finder", name := "seekLongest", desc := "(I)V" } : Jvm.MethodName) ∈ zALL := zall (zt2 (zmem (i := 162) (by decide +kernel))) rfl
theorem aw_404 : Cond.instanceMethod ({ cls := "MatchSeeker$Finder", name := "seekLongest", desc := "(I)V" } : Jvm.MethodName) ∈ zALL := zall (zt2 (zmem (i := 164) (by decide +kernel))) rfl
theorem aw_405 : Cond.code ({ cls := "MatchSeeker$Finder", name := "seekLongest", desc := "(I)V" } : Jvm.MethodName) prog_2_method_9_code (3 : Nat) (Option.none : Option Jvm.ClassFile.FieldType) ∈ zALL := zall (zt2 (zmem (i := 165) (by decide +kernel))) rfl
theorem aw_406 : Cond.methodLink "MatchSeekerLaw" (48 : Nat) ({ cls := "MatchSeeker", name := "count", desc := "(I)I" } : Jvm.MethodName) ∈ zALL := zall (zt2 (zmem (i := 166) (by decide +kernel))) rfl
theorem aw_407 : Cond.instanceMethod ({ cls := "MatchSeeker", name := "count", desc := "(I)I" } : Jvm.MethodName) ∈ zALL := zall (zt2 (zmem (i := 167) (by decide +kernel))) rfl
theorem aw_408 : Cond.selects "MatchSeeker" ({ cls := "MatchSeeker", name := "count", desc := "(I)I" } : Jvm.MethodName) ({ cls := "MatchSeeker", name := "count", desc := "(I)I" } : Jvm.MethodName) ∈ zALL := zall (zt2 (zmem (i := 168) (by decide +kernel))) rfl
theorem aw_409 : Cond.code ({ cls := "MatchSeeker", name := "count", desc := "(I)I" } : Jvm.MethodName) prog_1_method_9_code (2 : Nat) (Option.some Jvm.ClassFile.FieldType.int) ∈ zALL := zall (zt2 (zmem (i := 169) (by decide +kernel))) rfl
theorem nw_410 : Cond.methodLinkNest "MatchSeeker" (122 : Nat) ({ cls := "MatchSeeker$Finder", name := "matchesAt", desc := "(I)I" } : Jvm.MethodName) "MatchSeeker" ∈ nwL := znw (zt2 (zmem (i := 170) (by decide +kernel))) rfl
theorem aw_412 : Cond.instanceMethod ({ cls := "MatchSeeker$Finder", name := "matchesAt", desc := "(I)I" } : Jvm.MethodName) ∈ zALL := zall (zt2 (zmem (i := 172) (by decide +kernel))) rfl
theorem aw_413 : Cond.code ({ cls := "MatchSeeker$Finder", name := "matchesAt", desc := "(I)I" } : Jvm.MethodName) prog_2_method_11_code (4 : Nat) (Option.some Jvm.ClassFile.FieldType.int) ∈ zALL := zall (zt2 (zmem (i := 173) (by decide +kernel))) rfl
theorem aw_414 : Cond.methodLink "MatchSeekerLaw" (53 : Nat) ({ cls := "MatchSeeker", name := "go", desc := "()I" } : Jvm.MethodName) ∈ zALL := zall (zt2 (zmem (i := 174) (by decide +kernel))) rfl
theorem aw_415 : Cond.instanceMethod ({ cls := "MatchSeeker", name := "go", desc := "()I" } : Jvm.MethodName) ∈ zALL := zall (zt2 (zmem (i := 175) (by decide +kernel))) rfl
theorem aw_416 : Cond.selects "MatchSeeker" ({ cls := "MatchSeeker", name := "go", desc := "()I" } : Jvm.MethodName) ({ cls := "MatchSeeker", name := "go", desc := "()I" } : Jvm.MethodName) ∈ zALL := zall (zt2 (zmem (i := 176) (by decide +kernel))) rfl
theorem aw_417 : Cond.code ({ cls := "MatchSeeker", name := "go", desc := "()I" } : Jvm.MethodName) prog_1_method_10_code (2 : Nat) (Option.some Jvm.ClassFile.FieldType.int) ∈ zALL := zall (zt2 (zmem (i := 177) (by decide +kernel))) rfl
theorem nw_418 : Cond.methodLinkNest "MatchSeeker" (126 : Nat) ({ cls := "MatchSeeker$Found", name := "begin", desc := "()V" } : Jvm.MethodName) "MatchSeeker" ∈ nwL := znw (zt2 (zmem (i := 178) (by decide +kernel))) rfl
theorem aw_420 : Cond.instanceMethod ({ cls := "MatchSeeker$Found", name := "begin", desc := "()V" } : Jvm.MethodName) ∈ zALL := zall (zt2 (zmem (i := 180) (by decide +kernel))) rfl
theorem aw_421 : Cond.code ({ cls := "MatchSeeker$Found", name := "begin", desc := "()V" } : Jvm.MethodName) prog_3_method_3_code (2 : Nat) (Option.none : Option Jvm.ClassFile.FieldType) ∈ zALL := zall (zt2 (zmem (i := 181) (by decide +kernel))) rfl
theorem aw_422 : Cond.methodLink "MatchSeeker$Found" (58 : Nat) ({ cls := "MatchSeeker$Found", name := "forget", desc := "()V" } : Jvm.MethodName) ∈ zALL := zall (zt2 (zmem (i := 182) (by decide +kernel))) rfl
theorem nw_423 : Cond.methodLinkNest "MatchSeeker$Found" (69 : Nat) ({ cls := "MatchSeeker", name := "roomFor", desc := "(I)I" } : Jvm.MethodName) "MatchSeeker" ∈ nwL := znw (zt2 (zmem (i := 183) (by decide +kernel))) rfl
theorem aw_424 : Cond.methodLink "MatchSeeker" (129 : Nat) ({ cls := "MatchSeeker", name := "followPlan", desc := "()V" } : Jvm.MethodName) ∈ zALL := zall (zt2 (zmem (i := 184) (by decide +kernel))) rfl
theorem aw_426 : Cond.instanceMethod ({ cls := "MatchSeeker", name := "followPlan", desc := "()V" } : Jvm.MethodName) ∈ zALL := zall (zt2 (zmem (i := 186) (by decide +kernel))) rfl
theorem aw_427 : Cond.code ({ cls := "MatchSeeker", name := "followPlan", desc := "()V" } : Jvm.MethodName) prog_1_method_16_code (3 : Nat) (Option.none : Option Jvm.ClassFile.FieldType) ∈ zALL := zall (zt2 (zmem (i := 187) (by decide +kernel))) rfl
theorem nw_428 : Cond.methodLinkNest "MatchSeeker" (176 : Nat) ({ cls := "MatchSeeker$Plan", name := "make", desc := "()V" } : Jvm.MethodName) "MatchSeeker" ∈ nwL := znw (zt2 (zmem (i := 188) (by decide +kernel))) rfl
theorem aw_430 : Cond.instanceMethod ({ cls := "MatchSeeker$Plan", name := "make", desc := "()V" } : Jvm.MethodName) ∈ zALL := zall (zt2 (zmem (i := 190) (by decide +kernel))) rfl
theorem aw_431 : Cond.code ({ cls := "MatchSeeker$Plan", name := "make", desc := "()V" } : Jvm.MethodName) prog_4_method_2_code (5 : Nat) (Option.none : Option Jvm.ClassFile.FieldType) ∈ zALL := zall (zt2 (zmem (i := 191) (by decide +kernel))) rfl
theorem aw_432 : Cond.methodLink "MatchSeeker$Plan" (48 : Nat) ({ cls := "MatchSeeker$Plan", name := "makeRoom", desc := "(I)V" } : Jvm.MethodName) ∈ zALL := zall (zt2 (zmem (i := 192) (by decide +kernel))) rfl
theorem aw_434 : Cond.instanceMethod ({ cls := "MatchSeeker$Plan", name := "makeRoom", desc := "(I)V" } : Jvm.MethodName) ∈ zALL := zall (zt2 (zmem (i := 194) (by decide +kernel))) rfl
theorem aw_435 : Cond.code ({ cls := "MatchSeeker$Plan", name := "makeRoom", desc := "(I)V" } : Jvm.MethodName) prog_4_method_3_code (3 : Nat) (Option.none : Option Jvm.ClassFile.FieldType) ∈ zALL := zall (zt2 (zmem (i := 195) (by decide +kernel))) rfl
theorem nw_436 : Cond.methodLinkNest "MatchSeeker$Plan" (76 : Nat) ({ cls := "MatchSeeker", name := "roomFor", desc := "(I)I" } : Jvm.MethodName) "MatchSeeker" ∈ nwL := znw (zt2 (zmem (i := 196) (by decide +kernel))) rfl
theorem aw_437 : Cond.methodLink "MatchSeeker$Plan" (79 : Nat) ({ cls := "java/lang/Math", name := "min", desc := "(II)I" } : Jvm.MethodName) ∈ zALL := zall (zt2 (zmem (i := 197) (by decide +kernel))) rfl
theorem nw_438 : Cond.methodLinkNest "MatchSeeker$Plan" (52 : Nat) ({ cls := "MatchSeeker$Rule", name := "lastOf", desc := "(I)I" } : Jvm.MethodName) "MatchSeeker" ∈ nwL := znw (zt2 (zmem (i := 198) (by decide +kernel))) rfl
theorem aw_439 : Cond.constant "MatchSeeker$Plan" (58 : Nat) (32768 : Int32) ∈ zALL := zall (zt2 (zmem (i := 199) (by decide +kernel))) rfl
theorem aw_440 : Cond.methodLink "MatchSeeker$Plan" (62 : Nat) ({ cls := "MatchSeeker$Plan", name := "addEnd", desc := "(I)V" } : Jvm.MethodName) ∈ zALL := zall (zt2 (zmem (i := 200) (by decide +kernel))) rfl
theorem aw_442 : Cond.instanceMethod ({ cls := "MatchSeeker$Plan", name := "addEnd", desc := "(I)V" } : Jvm.MethodName) ∈ zALL := zall (zt2 (zmem (i := 202) (by decide +kernel))) rfl
theorem aw_443 : Cond.code ({ cls := "MatchSeeker$Plan", name := "addEnd", desc := "(I)V" } : Jvm.MethodName) prog_4_method_7_code (2 : Nat) (Option.none : Option Jvm.ClassFile.FieldType) ∈ zALL := zall (zt2 (zmem (i := 203) (by decide +kernel))) rfl
theorem aw_444 : Cond.methodLink "MatchSeeker$Plan" (65 : Nat) ({ cls := "MatchSeeker$Plan", name := "takeLiteral", desc := "(I)V" } : Jvm.MethodName) ∈ zALL := zall (zt2 (zmem (i := 204) (by decide +kernel))) rfl
theorem aw_446 : Cond.instanceMethod ({ cls := "MatchSeeker$Plan", name := "takeLiteral", desc := "(I)V" } : Jvm.MethodName) ∈ zALL := zall (zt2 (zmem (i := 206) (by decide +kernel))) rfl
theorem aw_447 : Cond.code ({ cls := "MatchSeeker$Plan", name := "takeLiteral", desc := "(I)V" } : Jvm.MethodName) prog_4_method_4_code (2 : Nat) (Option.none : Option Jvm.ClassFile.FieldType) ∈ zALL := zall (zt2 (zmem (i := 207) (by decide +kernel))) rfl
theorem aw_448 : Cond.methodLink "MatchSeeker$Plan" (68 : Nat) ({ cls := "MatchSeeker$Plan", name := "takeBestMatch", desc := "(II)V" } : Jvm.MethodName) ∈ zALL := zall (zt2 (zmem (i := 208) (by decide +kernel))) rfl
theorem aw_450 : Cond.instanceMethod ({ cls := "MatchSeeker$Plan", name := "takeBestMatch", desc := "(II)V" } : Jvm.MethodName) ∈ zALL := zall (zt2 (zmem (i := 210) (by decide +kernel))) rfl
theorem aw_451 : Cond.code ({ cls := "MatchSeeker$Plan", name := "takeBestMatch", desc := "(II)V" } : Jvm.MethodName) prog_4_method_5_code (5 : Nat) (Option.none : Option Jvm.ClassFile.FieldType) ∈ zALL := zall (zt2 (zmem (i := 211) (by decide +kernel))) rfl
theorem nw_452 : Cond.methodLinkNest "MatchSeeker$Plan" (88 : Nat) ({ cls := "MatchSeeker$Finder", name := "startAt", desc := "(II)V" } : Jvm.MethodName) "MatchSeeker" ∈ nwL := znw (zt2 (zmem (i := 212) (by decide +kernel))) rfl
theorem aw_453 : Cond.methodLink "MatchSeeker$Plan" (91 : Nat) ({ cls := "java/lang/Math", name := "max", desc := "(II)I" } : Jvm.MethodName) ∈ zALL := zall (zt2 (zmem (i := 213) (by decide +kernel))) rfl
theorem nw_454 : Cond.methodLinkNest "MatchSeeker$Plan" (94 : Nat) ({ cls := "MatchSeeker$Finder", name := "expectAtMost", desc := "(I)V" } : Jvm.MethodName) "MatchSeeker" ∈ nwL := znw (zt2 (zmem (i := 214) (by decide +kernel))) rfl
theorem aw_456 : Cond.instanceMethod ({ cls := "MatchSeeker$Finder", name := "expectAtMost", desc := "(I)V" } : Jvm.MethodName) ∈ zALL := zall (zt2 (zmem (i := 216) (by decide +kernel))) rfl
theorem aw_457 : Cond.code ({ cls := "MatchSeeker$Finder", name := "expectAtMost", desc := "(I)V" } : Jvm.MethodName) prog_2_method_13_code (2 : Nat) (Option.none : Option Jvm.ClassFile.FieldType) ∈ zALL := zall (zt2 (zmem (i := 217) (by decide +kernel))) rfl
theorem nw_458 : Cond.methodLinkNest "MatchSeeker$Plan" (97 : Nat) ({ cls := "MatchSeeker$Finder", name := "findLonger", desc := "()Z" } : Jvm.MethodName) "MatchSeeker" ∈ nwL := znw (zt2 (zmem (i := 218) (by decide +kernel))) rfl
theorem aw_459 : Cond.methodLink "MatchSeeker$Plan" (103 : Nat) ({ cls := "MatchSeeker$Plan", name := "consider", desc := "(III)V" } : Jvm.MethodName) ∈ zALL := zall (zt2 (zmem (i := 219) (by decide +kernel))) rfl
theorem aw_461 : Cond.instanceMethod ({ cls := "MatchSeeker$Plan", name := "consider", desc := "(III)V" } : Jvm.MethodName) ∈ zALL := zall (zt2 (zmem (i := 221) (by decide +kernel))) rfl
theorem aw_462 : Cond.code ({ cls := "MatchSeeker$Plan", name := "consider", desc := "(III)V" } : Jvm.MethodName) prog_4_method_6_code (6 : Nat) (Option.none : Option Jvm.ClassFile.FieldType) ∈ zALL := zall (zt2 (zmem (i := 222) (by decide +kernel))) rfl
theorem aw_463 : Cond.methodLink "MatchSeeker$Plan" (107 : Nat) ({ cls := "MatchSeeker$Plan", name := "cheapestEnd", desc := "(I)I" } : Jvm.MethodName) ∈ zALL := zall (zt2 (zmem (i := 223) (by decide +kernel))) rfl
theorem aw_465 : Cond.instanceMethod ({ cls := "MatchSeeker$Plan", name := "cheapestEnd", desc := "(I)I" } : Jvm.MethodName) ∈ zALL := zall (zt2 (zmem (i := 225) (by decide +kernel))) rfl
theorem aw_466 : Cond.code ({ cls := "MatchSeeker$Plan", name := "cheapestEnd", desc := "(I)I" } : Jvm.MethodName) prog_4_method_8_code (5 : Nat) (Option.some Jvm.ClassFile.FieldType.int) ∈ zALL := zall (zt2 (zmem (i := 226) (by decide +kernel))) rfl
theorem nw_467 : Cond.methodLinkNest "MatchSeeker$Plan" (113 : Nat) ({ cls := "MatchSeeker", name := "bitsOf", desc := "(I)I" } : Jvm.MethodName) "MatchSeeker" ∈ nwL := znw (zt2 (zmem (i := 227) (by decide +kernel))) rfl
theorem aw_468 : Cond.static ({ cls := "MatchSeeker", name := "bitsOf", desc := "(I)I" } : Jvm.MethodName) ∈ zALL := zall (zt2 (zmem (i := 228) (by decide +kernel))) rfl
theorem aw_469 : Cond.code ({ cls := "MatchSeeker", name := "bitsOf", desc := "(I)I" } : Jvm.MethodName) prog_1_method_19_code (2 : Nat) (Option.some Jvm.ClassFile.FieldType.int) ∈ zALL := zall (zt2 (zmem (i := 229) (by decide +kernel))) rfl
theorem nw_470 : Cond.methodLinkNest "MatchSeeker" (167 : Nat) ({ cls := "MatchSeeker$Found", name := "add", desc := "(II)V" } : Jvm.MethodName) "MatchSeeker" ∈ nwL := znw (zt2 (zmem (i := 230) (by decide +kernel))) rfl
theorem aw_472 : Cond.instanceMethod ({ cls := "MatchSeeker$Found", name := "add", desc := "(II)V" } : Jvm.MethodName) ∈ zALL := zall (zt2 (zmem (i := 232) (by decide +kernel))) rfl
theorem aw_473 : Cond.code ({ cls := "MatchSeeker$Found", name := "add", desc := "(II)V" } : Jvm.MethodName) prog_3_method_4_code (3 : Nat) (Option.none : Option Jvm.ClassFile.FieldType) ∈ zALL := zall (zt2 (zmem (i := 233) (by decide +kernel))) rfl
theorem nw_474 : Cond.methodLinkNest "MatchSeeker$Found" (81 : Nat) ({ cls := "MatchSeeker", name := "bitsOf", desc := "(I)I" } : Jvm.MethodName) "MatchSeeker" ∈ nwL := znw (zt2 (zmem (i := 234) (by decide +kernel))) rfl
theorem aw_475 : Cond.methodLink "MatchSeeker$Found" (84 : Nat) ({ cls := "java/lang/Math", name := "max", desc := "(II)I" } : Jvm.MethodName) ∈ zALL := zall (zt2 (zmem (i := 235) (by decide +kernel))) rfl
theorem aw_476 : Cond.methodLink "MatchSeeker" (170 : Nat) ({ cls := "java/lang/Math", name := "max", desc := "(II)I" } : Jvm.MethodName) ∈ zALL := zall (zt2 (zmem (i := 236) (by decide +kernel))) rfl
theorem aw_477 : Cond.methodLink "MatchSeeker" (132 : Nat) ({ cls := "MatchSeeker", name := "takeWhatIsSought", desc := "()V" } : Jvm.MethodName) ∈ zALL := zall (zt2 (zmem (i := 237) (by decide +kernel))) rfl
theorem aw_479 : Cond.instanceMethod ({ cls := "MatchSeeker", name := "takeWhatIsSought", desc := "()V" } : Jvm.MethodName) ∈ zALL := zall (zt2 (zmem (i := 239) (by decide +kernel))) rfl
theorem aw_480 : Cond.code ({ cls := "MatchSeeker", name := "takeWhatIsSought", desc := "()V" } : Jvm.MethodName) prog_1_method_15_code (2 : Nat) (Option.none : Option Jvm.ClassFile.FieldType) ∈ zALL := zall (zt3 (zmem (i := 0) (by decide +kernel))) rfl
theorem aw_481 : Cond.methodLink "MatchSeekerLaw" (58 : Nat) ({ cls := "MatchSeeker", name := "stretch", desc := "(II)I" } : Jvm.MethodName) ∈ zALL := zall (zt3 (zmem (i := 1) (by decide +kernel))) rfl
theorem aw_482 : Cond.instanceMethod ({ cls := "MatchSeeker", name := "stretch", desc := "(II)I" } : Jvm.MethodName) ∈ zALL := zall (zt3 (zmem (i := 2) (by decide +kernel))) rfl
theorem aw_483 : Cond.selects "MatchSeeker" ({ cls := "MatchSeeker", name := "stretch", desc := "(II)I" } : Jvm.MethodName) ({ cls := "MatchSeeker", name := "stretch", desc := "(II)I" } : Jvm.MethodName) ∈ zALL := zall (zt3 (zmem (i := 3) (by decide +kernel))) rfl
theorem aw_484 : Cond.code ({ cls := "MatchSeeker", name := "stretch", desc := "(II)I" } : Jvm.MethodName) prog_1_method_11_code (3 : Nat) (Option.some Jvm.ClassFile.FieldType.int) ∈ zALL := zall (zt3 (zmem (i := 4) (by decide +kernel))) rfl
theorem aw_485 : Cond.methodLink "MatchSeekerLaw" (63 : Nat) ({ cls := "MatchSeeker", name := "about", desc := "(I)I" } : Jvm.MethodName) ∈ zALL := zall (zt3 (zmem (i := 5) (by decide +kernel))) rfl
theorem aw_486 : Cond.instanceMethod ({ cls := "MatchSeeker", name := "about", desc := "(I)I" } : Jvm.MethodName) ∈ zALL := zall (zt3 (zmem (i := 6) (by decide +kernel))) rfl
theorem aw_487 : Cond.selects "MatchSeeker" ({ cls := "MatchSeeker", name := "about", desc := "(I)I" } : Jvm.MethodName) ({ cls := "MatchSeeker", name := "about", desc := "(I)I" } : Jvm.MethodName) ∈ zALL := zall (zt3 (zmem (i := 7) (by decide +kernel))) rfl
theorem aw_488 : Cond.code ({ cls := "MatchSeeker", name := "about", desc := "(I)I" } : Jvm.MethodName) prog_1_method_12_code (2 : Nat) (Option.some Jvm.ClassFile.FieldType.int) ∈ zALL := zall (zt3 (zmem (i := 8) (by decide +kernel))) rfl
theorem aw_489 : Cond.methodLink "MatchSeekerLaw" (67 : Nat) ({ cls := "MatchSeeker", name := "unlike", desc := "()I" } : Jvm.MethodName) ∈ zALL := zall (zt3 (zmem (i := 9) (by decide +kernel))) rfl
theorem aw_490 : Cond.instanceMethod ({ cls := "MatchSeeker", name := "unlike", desc := "()I" } : Jvm.MethodName) ∈ zALL := zall (zt3 (zmem (i := 10) (by decide +kernel))) rfl
theorem aw_491 : Cond.selects "MatchSeeker" ({ cls := "MatchSeeker", name := "unlike", desc := "()I" } : Jvm.MethodName) ({ cls := "MatchSeeker", name := "unlike", desc := "()I" } : Jvm.MethodName) ∈ zALL := zall (zt3 (zmem (i := 11) (by decide +kernel))) rfl
theorem aw_492 : Cond.code ({ cls := "MatchSeeker", name := "unlike", desc := "()I" } : Jvm.MethodName) prog_1_method_13_code (1 : Nat) (Option.some Jvm.ClassFile.FieldType.int) ∈ zALL := zall (zt3 (zmem (i := 12) (by decide +kernel))) rfl
theorem nw_493 : Cond.methodLinkNest "MatchSeeker" (163 : Nat) ({ cls := "MatchSeeker$Found", name := "differences", desc := "()I" } : Jvm.MethodName) "MatchSeeker" ∈ nwL := znw (zt3 (zmem (i := 13) (by decide +kernel))) rfl
theorem aw_495 : Cond.instanceMethod ({ cls := "MatchSeeker$Found", name := "differences", desc := "()I" } : Jvm.MethodName) ∈ zALL := zall (zt3 (zmem (i := 15) (by decide +kernel))) rfl
theorem aw_496 : Cond.code ({ cls := "MatchSeeker$Found", name := "differences", desc := "()I" } : Jvm.MethodName) prog_3_method_5_code (3 : Nat) (Option.some Jvm.ClassFile.FieldType.int) ∈ zALL := zall (zt3 (zmem (i := 16) (by decide +kernel))) rfl
theorem aw_497 : Cond.methodLink "MatchSeeker$Found" (90 : Nat) ({ cls := "MatchSeeker$Found", name := "rebuild", desc := "()V" } : Jvm.MethodName) ∈ zALL := zall (zt3 (zmem (i := 17) (by decide +kernel))) rfl
theorem aw_499 : Cond.instanceMethod ({ cls := "MatchSeeker$Found", name := "rebuild", desc := "()V" } : Jvm.MethodName) ∈ zALL := zall (zt3 (zmem (i := 19) (by decide +kernel))) rfl
theorem aw_500 : Cond.code ({ cls := "MatchSeeker$Found", name := "rebuild", desc := "()V" } : Jvm.MethodName) prog_3_method_6_code (3 : Nat) (Option.none : Option Jvm.ClassFile.FieldType) ∈ zALL := zall (zt3 (zmem (i := 20) (by decide +kernel))) rfl
theorem aw_501 : Cond.methodLink "MatchSeeker$Found" (100 : Nat) ({ cls := "MatchSeeker$Found", name := "copyFromData", desc := "(II)I" } : Jvm.MethodName) ∈ zALL := zall (zt3 (zmem (i := 21) (by decide +kernel))) rfl
theorem aw_503 : Cond.instanceMethod ({ cls := "MatchSeeker$Found", name := "copyFromData", desc := "(II)I" } : Jvm.MethodName) ∈ zALL := zall (zt3 (zmem (i := 23) (by decide +kernel))) rfl
theorem aw_504 : Cond.code ({ cls := "MatchSeeker$Found", name := "copyFromData", desc := "(II)I" } : Jvm.MethodName) prog_3_method_7_code (5 : Nat) (Option.some Jvm.ClassFile.FieldType.int) ∈ zALL := zall (zt3 (zmem (i := 24) (by decide +kernel))) rfl
theorem nw_505 : Cond.methodLinkNest "MatchSeeker$Found" (93 : Nat) ({ cls := "MatchSeeker$Row", name := "hasPlace", desc := "(I)Z" } : Jvm.MethodName) "MatchSeeker" ∈ nwL := znw (zt3 (zmem (i := 25) (by decide +kernel))) rfl
theorem aw_506 : Cond.methodLink "MatchSeeker$Found" (103 : Nat) ({ cls := "MatchSeeker$Found", name := "copyFromRebuilt", desc := "(III)I" } : Jvm.MethodName) ∈ zALL := zall (zt3 (zmem (i := 26) (by decide +kernel))) rfl
theorem aw_508 : Cond.instanceMethod ({ cls := "MatchSeeker$Found", name := "copyFromRebuilt", desc := "(III)I" } : Jvm.MethodName) ∈ zALL := zall (zt3 (zmem (i := 28) (by decide +kernel))) rfl
theorem aw_509 : Cond.code ({ cls := "MatchSeeker$Found", name := "copyFromRebuilt", desc := "(III)I" } : Jvm.MethodName) prog_3_method_8_code (6 : Nat) (Option.some Jvm.ClassFile.FieldType.int) ∈ zALL := zall (zt3 (zmem (i := 29) (by decide +kernel))) rfl
theorem aw_510 : Cond.methodLink "MatchSeekerLaw" (71 : Nat) ({ cls := "MatchSeeker", name := "size", desc := "()I" } : Jvm.MethodName) ∈ zALL := zall (zt3 (zmem (i := 30) (by decide +kernel))) rfl
theorem aw_511 : Cond.instanceMethod ({ cls := "MatchSeeker", name := "size", desc := "()I" } : Jvm.MethodName) ∈ zALL := zall (zt3 (zmem (i := 31) (by decide +kernel))) rfl
theorem aw_512 : Cond.selects "MatchSeeker" ({ cls := "MatchSeeker", name := "size", desc := "()I" } : Jvm.MethodName) ({ cls := "MatchSeeker", name := "size", desc := "()I" } : Jvm.MethodName) ∈ zALL := zall (zt3 (zmem (i := 32) (by decide +kernel))) rfl
theorem aw_513 : Cond.code ({ cls := "MatchSeeker", name := "size", desc := "()I" } : Jvm.MethodName) prog_1_method_14_code (1 : Nat) (Option.some Jvm.ClassFile.FieldType.int) ∈ zALL := zall (zt3 (zmem (i := 33) (by decide +kernel))) rfl
theorem aw_514 : Cond.classLink "MatchSeekerLaw" (10 : Nat) "MatchSeekerModel" ∈ zALL := zall (zt3 (zmem (i := 34) (by decide +kernel))) rfl
theorem aw_515 : Cond.instantiable "MatchSeekerModel" (26 : Nat) ∈ zALL := zall (zt3 (zmem (i := 35) (by decide +kernel))) rfl
theorem aw_516 : Cond.methodLink "MatchSeekerLaw" (12 : Nat) ({ cls := "MatchSeekerModel", name := "<init>", desc := "()V" } : Jvm.MethodName) ∈ zALL := zall (zt3 (zmem (i := 36) (by decide +kernel))) rfl
theorem aw_517 : Cond.instanceMethod ({ cls := "MatchSeekerModel", name := "<init>", desc := "()V" } : Jvm.MethodName) ∈ zALL := zall (zt3 (zmem (i := 37) (by decide +kernel))) rfl
theorem aw_518 : Cond.code ({ cls := "MatchSeekerModel", name := "<init>", desc := "()V" } : Jvm.MethodName) prog_8_method_1_code (1 : Nat) (Option.none : Option Jvm.ClassFile.FieldType) ∈ zALL := zall (zt3 (zmem (i := 38) (by decide +kernel))) rfl
theorem aw_519 : Cond.methodLink "MatchSeekerModel" (1 : Nat) ({ cls := "java/lang/Object", name := "<init>", desc := "()V" } : Jvm.MethodName) ∈ zALL := zall (zt3 (zmem (i := 39) (by decide +kernel))) rfl
theorem aw_520 : Cond.constant "MatchSeekerModel" (7 : Nat) (32768 : Int32) ∈ zALL := zall (zt3 (zmem (i := 40) (by decide +kernel))) rfl
theorem aw_521 : Cond.constant "MatchSeekerModel" (18 : Nat) (65536 : Int32) ∈ zALL := zall (zt3 (zmem (i := 41) (by decide +kernel))) rfl
theorem aw_522 : Cond.constant "MatchSeekerModel" (25 : Nat) (131072 : Int32) ∈ zALL := zall (zt3 (zmem (i := 42) (by decide +kernel))) rfl
theorem aw_523 : Cond.fieldLink "MatchSeekerModel" (8 : Nat) "MatchSeekerModel" "data" "[B" ∈ zALL := zall (zt3 (zmem (i := 43) (by decide +kernel))) rfl
theorem aw_524 : Cond.fieldLink "MatchSeekerModel" (57 : Nat) "MatchSeekerModel" "n" "I" ∈ zALL := zall (zt3 (zmem (i := 44) (by decide +kernel))) rfl
theorem aw_525 : Cond.fieldLink "MatchSeekerModel" (60 : Nat) "MatchSeekerModel" "h" "I" ∈ zALL := zall (zt3 (zmem (i := 45) (by decide +kernel))) rfl
theorem aw_526 : Cond.fieldLink "MatchSeekerModel" (14 : Nat) "MatchSeekerModel" "way" "I" ∈ zALL := zall (zt3 (zmem (i := 46) (by decide +kernel))) rfl
theorem aw_527 : Cond.fieldLink "MatchSeekerModel" (19 : Nat) "MatchSeekerModel" "window" "I" ∈ zALL := zall (zt3 (zmem (i := 47) (by decide +kernel))) rfl
theorem aw_528 : Cond.fieldLink "MatchSeekerModel" (22 : Nat) "MatchSeekerModel" "least" "I" ∈ zALL := zall (zt3 (zmem (i := 48) (by decide +kernel))) rfl
theorem aw_529 : Cond.fieldLink "MatchSeekerModel" (26 : Nat) "MatchSeekerModel" "cap" "I" ∈ zALL := zall (zt3 (zmem (i := 49) (by decide +kernel))) rfl
theorem aw_530 : Cond.fieldLink "MatchSeekerModel" (85 : Nat) "MatchSeekerModel" "a" "I" ∈ zALL := zall (zt3 (zmem (i := 50) (by decide +kernel))) rfl
theorem aw_531 : Cond.fieldLink "MatchSeekerModel" (88 : Nat) "MatchSeekerModel" "b" "I" ∈ zALL := zall (zt3 (zmem (i := 51) (by decide +kernel))) rfl
theorem aw_532 : Cond.fieldLink "MatchSeekerModel" (29 : Nat) "MatchSeekerModel" "literalPrice" "I" ∈ zALL := zall (zt3 (zmem (i := 52) (by decide +kernel))) rfl
theorem aw_533 : Cond.fieldLink "MatchSeekerModel" (32 : Nat) "MatchSeekerModel" "matchPrice" "I" ∈ zALL := zall (zt3 (zmem (i := 53) (by decide +kernel))) rfl
theorem aw_534 : Cond.fieldLink "MatchSeekerModel" (35 : Nat) "MatchSeekerModel" "before" "[I" ∈ zALL := zall (zt3 (zmem (i := 54) (by decide +kernel))) rfl
theorem aw_535 : Cond.fieldLink "MatchSeekerModel" (39 : Nat) "MatchSeekerModel" "length" "[I" ∈ zALL := zall (zt3 (zmem (i := 55) (by decide +kernel))) rfl
theorem aw_536 : Cond.fieldLink "MatchSeekerModel" (42 : Nat) "MatchSeekerModel" "distance" "[I" ∈ zALL := zall (zt3 (zmem (i := 56) (by decide +kernel))) rfl
theorem aw_537 : Cond.fieldLink "MatchSeekerModel" (63 : Nat) "MatchSeekerModel" "found" "I" ∈ zALL := zall (zt3 (zmem (i := 57) (by decide +kernel))) rfl
theorem aw_538 : Cond.fieldLink "MatchSeekerModel" (66 : Nat) "MatchSeekerModel" "tail" "I" ∈ zALL := zall (zt3 (zmem (i := 58) (by decide +kernel))) rfl
theorem aw_539 : Cond.fieldLink "MatchSeekerModel" (69 : Nat) "MatchSeekerModel" "cost" "I" ∈ zALL := zall (zt3 (zmem (i := 59) (by decide +kernel))) rfl
theorem aw_540 : Cond.fieldLink "MatchSeekerModel" (72 : Nat) "MatchSeekerModel" "allLiterals" "I" ∈ zALL := zall (zt3 (zmem (i := 60) (by decide +kernel))) rfl
theorem aw_541 : Cond.fieldLink "MatchSeekerModel" (75 : Nat) "MatchSeekerModel" "had" "I" ∈ zALL := zall (zt3 (zmem (i := 61) (by decide +kernel))) rfl
theorem aw_542 : Cond.fieldLink "MatchSeekerModel" (78 : Nat) "MatchSeekerModel" "hadHistory" "I" ∈ zALL := zall (zt3 (zmem (i := 62) (by decide +kernel))) rfl
theorem aw_543 : Cond.fieldLink "MatchSeekerModel" (45 : Nat) "MatchSeekerModel" "again" "[B" ∈ zALL := zall (zt3 (zmem (i := 63) (by decide +kernel))) rfl
theorem aw_544 : Cond.fieldLink "MatchSeekerModel" (48 : Nat) "MatchSeekerModel" "cheapest" "[I" ∈ zALL := zall (zt3 (zmem (i := 64) (by decide +kernel))) rfl
theorem aw_545 : Cond.fieldLink "MatchSeekerModel" (51 : Nat) "MatchSeekerModel" "firstLength" "[I" ∈ zALL := zall (zt3 (zmem (i := 65) (by decide +kernel))) rfl
theorem aw_546 : Cond.fieldLink "MatchSeekerModel" (54 : Nat) "MatchSeekerModel" "firstDistance" "[I" ∈ zALL := zall (zt3 (zmem (i := 66) (by decide +kernel))) rfl
theorem aw_547 : Cond.fieldLink "MatchSeekerModel" (102 : Nat) "MatchSeekerModel" "gotLength" "I" ∈ zALL := zall (zt3 (zmem (i := 67) (by decide +kernel))) rfl
theorem aw_548 : Cond.fieldLink "MatchSeekerModel" (105 : Nat) "MatchSeekerModel" "gotDistance" "I" ∈ zALL := zall (zt3 (zmem (i := 68) (by decide +kernel))) rfl
theorem aw_602 : Cond.methodLink "MatchSeekerLaw" (16 : Nat) ({ cls := "MatchSeekerModel", name := "clear", desc := "()V" } : Jvm.MethodName) ∈ zALL := zall (zt3 (zmem (i := 122) (by decide +kernel))) rfl
theorem aw_603 : Cond.instanceMethod ({ cls := "MatchSeekerModel", name := "clear", desc := "()V" } : Jvm.MethodName) ∈ zALL := zall (zt3 (zmem (i := 123) (by decide +kernel))) rfl
theorem aw_604 : Cond.selects "MatchSeekerModel" ({ cls := "MatchSeekerModel", name := "clear", desc := "()V" } : Jvm.MethodName) ({ cls := "MatchSeekerModel", name := "clear", desc := "()V" } : Jvm.MethodName) ∈ zALL := zall (zt3 (zmem (i := 124) (by decide +kernel))) rfl
theorem aw_605 : Cond.code ({ cls := "MatchSeekerModel", name := "clear", desc := "()V" } : Jvm.MethodName) prog_8_method_3_code (1 : Nat) (Option.none : Option Jvm.ClassFile.FieldType) ∈ zALL := zall (zt3 (zmem (i := 125) (by decide +kernel))) rfl
theorem aw_606 : Cond.methodLink "MatchSeekerLaw" (23 : Nat) ({ cls := "MatchSeekerModel", name := "write", desc := "(JI)Z" } : Jvm.MethodName) ∈ zALL := zall (zt3 (zmem (i := 126) (by decide +kernel))) rfl
theorem aw_607 : Cond.instanceMethod ({ cls := "MatchSeekerModel", name := "write", desc := "(JI)Z" } : Jvm.MethodName) ∈ zALL := zall (zt3 (zmem (i := 127) (by decide +kernel))) rfl
theorem aw_608 : Cond.selects "MatchSeekerModel" ({ cls := "MatchSeekerModel", name := "write", desc := "(JI)Z" } : Jvm.MethodName) ({ cls := "MatchSeekerModel", name := "write", desc := "(JI)Z" } : Jvm.MethodName) ∈ zALL := zall (zt3 (zmem (i := 128) (by decide +kernel))) rfl
theorem aw_609 : Cond.code ({ cls := "MatchSeekerModel", name := "write", desc := "(JI)Z" } : Jvm.MethodName) prog_8_method_4_code (5 : Nat) (Option.some Jvm.ClassFile.FieldType.boolean) ∈ zALL := zall (zt3 (zmem (i := 129) (by decide +kernel))) rfl
theorem aw_610 : Cond.methodLink "MatchSeekerModel" (81 : Nat) ({ cls := "MatchSeekerModel", name := "within", desc := "(III)Z" } : Jvm.MethodName) ∈ zALL := zall (zt3 (zmem (i := 130) (by decide +kernel))) rfl
theorem aw_611 : Cond.static ({ cls := "MatchSeekerModel", name := "within", desc := "(III)Z" } : Jvm.MethodName) ∈ zALL := zall (zt3 (zmem (i := 131) (by decide +kernel))) rfl
theorem aw_612 : Cond.code ({ cls := "MatchSeekerModel", name := "within", desc := "(III)Z" } : Jvm.MethodName) prog_8_method_2_code (3 : Nat) (Option.some Jvm.ClassFile.FieldType.boolean) ∈ zALL := zall (zt3 (zmem (i := 132) (by decide +kernel))) rfl
theorem aw_613 : Cond.methodLink "MatchSeekerLaw" (28 : Nat) ({ cls := "MatchSeekerModel", name := "again", desc := "(II)Z" } : Jvm.MethodName) ∈ zALL := zall (zt3 (zmem (i := 133) (by decide +kernel))) rfl
theorem aw_614 : Cond.instanceMethod ({ cls := "MatchSeekerModel", name := "again", desc := "(II)Z" } : Jvm.MethodName) ∈ zALL := zall (zt3 (zmem (i := 134) (by decide +kernel))) rfl
theorem aw_615 : Cond.selects "MatchSeekerModel" ({ cls := "MatchSeekerModel", name := "again", desc := "(II)Z" } : Jvm.MethodName) ({ cls := "MatchSeekerModel", name := "again", desc := "(II)Z" } : Jvm.MethodName) ∈ zALL := zall (zt3 (zmem (i := 135) (by decide +kernel))) rfl
theorem aw_616 : Cond.code ({ cls := "MatchSeekerModel", name := "again", desc := "(II)Z" } : Jvm.MethodName) prog_8_method_5_code (4 : Nat) (Option.some Jvm.ClassFile.FieldType.boolean) ∈ zALL := zall (zt3 (zmem (i := 136) (by decide +kernel))) rfl
theorem aw_617 : Cond.methodLink "MatchSeekerLaw" (33 : Nat) ({ cls := "MatchSeekerModel", name := "history", desc := "(I)Z" } : Jvm.MethodName) ∈ zALL := zall (zt3 (zmem (i := 137) (by decide +kernel))) rfl
theorem aw_618 : Cond.instanceMethod ({ cls := "MatchSeekerModel", name := "history", desc := "(I)Z" } : Jvm.MethodName) ∈ zALL := zall (zt3 (zmem (i := 138) (by decide +kernel))) rfl
theorem aw_619 : Cond.selects "MatchSeekerModel" ({ cls := "MatchSeekerModel", name := "history", desc := "(I)Z" } : Jvm.MethodName) ({ cls := "MatchSeekerModel", name := "history", desc := "(I)Z" } : Jvm.MethodName) ∈ zALL := zall (zt3 (zmem (i := 139) (by decide +kernel))) rfl
theorem aw_620 : Cond.code ({ cls := "MatchSeekerModel", name := "history", desc := "(I)Z" } : Jvm.MethodName) prog_8_method_6_code (2 : Nat) (Option.some Jvm.ClassFile.FieldType.boolean) ∈ zALL := zall (zt3 (zmem (i := 140) (by decide +kernel))) rfl
theorem aw_621 : Cond.methodLink "MatchSeekerLaw" (38 : Nat) ({ cls := "MatchSeekerModel", name := "rule", desc := "(IIII)Z" } : Jvm.MethodName) ∈ zALL := zall (zt3 (zmem (i := 141) (by decide +kernel))) rfl
theorem aw_622 : Cond.instanceMethod ({ cls := "MatchSeekerModel", name := "rule", desc := "(IIII)Z" } : Jvm.MethodName) ∈ zALL := zall (zt3 (zmem (i := 142) (by decide +kernel))) rfl
theorem aw_623 : Cond.selects "MatchSeekerModel" ({ cls := "MatchSeekerModel", name := "rule", desc := "(IIII)Z" } : Jvm.MethodName) ({ cls := "MatchSeekerModel", name := "rule", desc := "(IIII)Z" } : Jvm.MethodName) ∈ zALL := zall (zt3 (zmem (i := 143) (by decide +kernel))) rfl
theorem aw_624 : Cond.code ({ cls := "MatchSeekerModel", name := "rule", desc := "(IIII)Z" } : Jvm.MethodName) prog_8_method_7_code (5 : Nat) (Option.some Jvm.ClassFile.FieldType.boolean) ∈ zALL := zall (zt3 (zmem (i := 144) (by decide +kernel))) rfl
theorem aw_625 : Cond.methodLink "MatchSeekerLaw" (42 : Nat) ({ cls := "MatchSeekerModel", name := "bounds", desc := "(IIII)Z" } : Jvm.MethodName) ∈ zALL := zall (zt3 (zmem (i := 145) (by decide +kernel))) rfl
theorem aw_626 : Cond.instanceMethod ({ cls := "MatchSeekerModel", name := "bounds", desc := "(IIII)Z" } : Jvm.MethodName) ∈ zALL := zall (zt3 (zmem (i := 146) (by decide +kernel))) rfl
theorem aw_627 : Cond.selects "MatchSeekerModel" ({ cls := "MatchSeekerModel", name := "bounds", desc := "(IIII)Z" } : Jvm.MethodName) ({ cls := "MatchSeekerModel", name := "bounds", desc := "(IIII)Z" } : Jvm.MethodName) ∈ zALL := zall (zt3 (zmem (i := 147) (by decide +kernel))) rfl
theorem aw_628 : Cond.code ({ cls := "MatchSeekerModel", name := "bounds", desc := "(IIII)Z" } : Jvm.MethodName) prog_8_method_8_code (5 : Nat) (Option.some Jvm.ClassFile.FieldType.boolean) ∈ zALL := zall (zt3 (zmem (i := 148) (by decide +kernel))) rfl
theorem aw_629 : Cond.methodLink "MatchSeekerLaw" (47 : Nat) ({ cls := "MatchSeekerModel", name := "at", desc := "(III)I" } : Jvm.MethodName) ∈ zALL := zall (zt3 (zmem (i := 149) (by decide +kernel))) rfl
theorem aw_630 : Cond.instanceMethod ({ cls := "MatchSeekerModel", name := "at", desc := "(III)I" } : Jvm.MethodName) ∈ zALL := zall (zt3 (zmem (i := 150) (by decide +kernel))) rfl
theorem aw_631 : Cond.selects "MatchSeekerModel" ({ cls := "MatchSeekerModel", name := "at", desc := "(III)I" } : Jvm.MethodName) ({ cls := "MatchSeekerModel", name := "at", desc := "(III)I" } : Jvm.MethodName) ∈ zALL := zall (zt3 (zmem (i := 151) (by decide +kernel))) rfl
theorem aw_632 : Cond.code ({ cls := "MatchSeekerModel", name := "at", desc := "(III)I" } : Jvm.MethodName) prog_8_method_17_code (4 : Nat) (Option.some Jvm.ClassFile.FieldType.int) ∈ zALL := zall (zt3 (zmem (i := 152) (by decide +kernel))) rfl
theorem aw_633 : Cond.methodLink "MatchSeekerModel" (123 : Nat) ({ cls := "MatchSeekerModel", name := "chosen", desc := "(II)Z" } : Jvm.MethodName) ∈ zALL := zall (zt3 (zmem (i := 153) (by decide +kernel))) rfl
theorem aw_635 : Cond.instanceMethod ({ cls := "MatchSeekerModel", name := "chosen", desc := "(II)Z" } : Jvm.MethodName) ∈ zALL := zall (zt3 (zmem (i := 155) (by decide +kernel))) rfl
theorem aw_636 : Cond.code ({ cls := "MatchSeekerModel", name := "chosen", desc := "(II)Z" } : Jvm.MethodName) prog_8_method_16_code (6 : Nat) (Option.some Jvm.ClassFile.FieldType.boolean) ∈ zALL := zall (zt3 (zmem (i := 156) (by decide +kernel))) rfl
theorem aw_637 : Cond.methodLink "MatchSeekerModel" (115 : Nat) ({ cls := "MatchSeekerModel", name := "nearest", desc := "(II)Z" } : Jvm.MethodName) ∈ zALL := zall (zt3 (zmem (i := 157) (by decide +kernel))) rfl
theorem aw_639 : Cond.instanceMethod ({ cls := "MatchSeekerModel", name := "nearest", desc := "(II)Z" } : Jvm.MethodName) ∈ zALL := zall (zt3 (zmem (i := 159) (by decide +kernel))) rfl
theorem aw_640 : Cond.code ({ cls := "MatchSeekerModel", name := "nearest", desc := "(II)Z" } : Jvm.MethodName) prog_8_method_14_code (5 : Nat) (Option.some Jvm.ClassFile.FieldType.boolean) ∈ zALL := zall (zt3 (zmem (i := 160) (by decide +kernel))) rfl
theorem aw_641 : Cond.methodLink "MatchSeekerModel" (98 : Nat) ({ cls := "MatchSeekerModel", name := "room", desc := "(I)I" } : Jvm.MethodName) ∈ zALL := zall (zt3 (zmem (i := 161) (by decide +kernel))) rfl
theorem aw_643 : Cond.instanceMethod ({ cls := "MatchSeekerModel", name := "room", desc := "(I)I" } : Jvm.MethodName) ∈ zALL := zall (zt3 (zmem (i := 163) (by decide +kernel))) rfl
theorem aw_644 : Cond.code ({ cls := "MatchSeekerModel", name := "room", desc := "(I)I" } : Jvm.MethodName) prog_8_method_11_code (3 : Nat) (Option.some Jvm.ClassFile.FieldType.int) ∈ zALL := zall (zt3 (zmem (i := 164) (by decide +kernel))) rfl
theorem aw_645 : Cond.methodLink "MatchSeekerModel" (91 : Nat) ({ cls := "MatchSeekerModel", name := "end", desc := "()I" } : Jvm.MethodName) ∈ zALL := zall (zt3 (zmem (i := 165) (by decide +kernel))) rfl
theorem aw_647 : Cond.instanceMethod ({ cls := "MatchSeekerModel", name := "end", desc := "()I" } : Jvm.MethodName) ∈ zALL := zall (zt3 (zmem (i := 167) (by decide +kernel))) rfl
theorem aw_648 : Cond.code ({ cls := "MatchSeekerModel", name := "end", desc := "()I" } : Jvm.MethodName) prog_8_method_10_code (1 : Nat) (Option.some Jvm.ClassFile.FieldType.int) ∈ zALL := zall (zt3 (zmem (i := 168) (by decide +kernel))) rfl
theorem aw_649 : Cond.methodLink "MatchSeekerModel" (95 : Nat) ({ cls := "MatchSeekerModel", name := "last", desc := "()I" } : Jvm.MethodName) ∈ zALL := zall (zt3 (zmem (i := 169) (by decide +kernel))) rfl
theorem aw_651 : Cond.instanceMethod ({ cls := "MatchSeekerModel", name := "last", desc := "()I" } : Jvm.MethodName) ∈ zALL := zall (zt3 (zmem (i := 171) (by decide +kernel))) rfl
theorem aw_652 : Cond.code ({ cls := "MatchSeekerModel", name := "last", desc := "()I" } : Jvm.MethodName) prog_8_method_9_code (1 : Nat) (Option.some Jvm.ClassFile.FieldType.int) ∈ zALL := zall (zt3 (zmem (i := 172) (by decide +kernel))) rfl
theorem aw_653 : Cond.methodLink "MatchSeekerModel" (108 : Nat) ({ cls := "MatchSeekerModel", name := "lowest", desc := "(I)I" } : Jvm.MethodName) ∈ zALL := zall (zt3 (zmem (i := 173) (by decide +kernel))) rfl
theorem aw_655 : Cond.instanceMethod ({ cls := "MatchSeekerModel", name := "lowest", desc := "(I)I" } : Jvm.MethodName) ∈ zALL := zall (zt3 (zmem (i := 175) (by decide +kernel))) rfl
theorem aw_656 : Cond.code ({ cls := "MatchSeekerModel", name := "lowest", desc := "(I)I" } : Jvm.MethodName) prog_8_method_13_code (2 : Nat) (Option.some Jvm.ClassFile.FieldType.int) ∈ zALL := zall (zt3 (zmem (i := 176) (by decide +kernel))) rfl
theorem aw_657 : Cond.methodLink "MatchSeekerModel" (111 : Nat) ({ cls := "MatchSeekerModel", name := "alike", desc := "(III)I" } : Jvm.MethodName) ∈ zALL := zall (zt3 (zmem (i := 177) (by decide +kernel))) rfl
theorem aw_659 : Cond.instanceMethod ({ cls := "MatchSeekerModel", name := "alike", desc := "(III)I" } : Jvm.MethodName) ∈ zALL := zall (zt3 (zmem (i := 179) (by decide +kernel))) rfl
theorem aw_660 : Cond.code ({ cls := "MatchSeekerModel", name := "alike", desc := "(III)I" } : Jvm.MethodName) prog_8_method_12_code (5 : Nat) (Option.some Jvm.ClassFile.FieldType.int) ∈ zALL := zall (zt3 (zmem (i := 180) (by decide +kernel))) rfl
theorem aw_661 : Cond.methodLink "MatchSeekerModel" (119 : Nat) ({ cls := "MatchSeekerModel", name := "longest", desc := "(I)Z" } : Jvm.MethodName) ∈ zALL := zall (zt3 (zmem (i := 181) (by decide +kernel))) rfl
theorem aw_663 : Cond.instanceMethod ({ cls := "MatchSeekerModel", name := "longest", desc := "(I)Z" } : Jvm.MethodName) ∈ zALL := zall (zt3 (zmem (i := 183) (by decide +kernel))) rfl
theorem aw_664 : Cond.code ({ cls := "MatchSeekerModel", name := "longest", desc := "(I)Z" } : Jvm.MethodName) prog_8_method_15_code (5 : Nat) (Option.some Jvm.ClassFile.FieldType.boolean) ∈ zALL := zall (zt3 (zmem (i := 184) (by decide +kernel))) rfl
theorem aw_665 : Cond.methodLink "MatchSeekerLaw" (52 : Nat) ({ cls := "MatchSeekerModel", name := "count", desc := "(I)I" } : Jvm.MethodName) ∈ zALL := zall (zt3 (zmem (i := 185) (by decide +kernel))) rfl
theorem aw_666 : Cond.instanceMethod ({ cls := "MatchSeekerModel", name := "count", desc := "(I)I" } : Jvm.MethodName) ∈ zALL := zall (zt3 (zmem (i := 186) (by decide +kernel))) rfl
theorem aw_667 : Cond.selects "MatchSeekerModel" ({ cls := "MatchSeekerModel", name := "count", desc := "(I)I" } : Jvm.MethodName) ({ cls := "MatchSeekerModel", name := "count", desc := "(I)I" } : Jvm.MethodName) ∈ zALL := zall (zt3 (zmem (i := 187) (by decide +kernel))) rfl
theorem aw_668 : Cond.code ({ cls := "MatchSeekerModel", name := "count", desc := "(I)I" } : Jvm.MethodName) prog_8_method_18_code (4 : Nat) (Option.some Jvm.ClassFile.FieldType.int) ∈ zALL := zall (zt3 (zmem (i := 188) (by decide +kernel))) rfl
theorem aw_669 : Cond.methodLink "MatchSeekerLaw" (57 : Nat) ({ cls := "MatchSeekerModel", name := "go", desc := "()I" } : Jvm.MethodName) ∈ zALL := zall (zt3 (zmem (i := 189) (by decide +kernel))) rfl
theorem aw_670 : Cond.instanceMethod ({ cls := "MatchSeekerModel", name := "go", desc := "()I" } : Jvm.MethodName) ∈ zALL := zall (zt3 (zmem (i := 190) (by decide +kernel))) rfl
theorem aw_671 : Cond.selects "MatchSeekerModel" ({ cls := "MatchSeekerModel", name := "go", desc := "()I" } : Jvm.MethodName) ({ cls := "MatchSeekerModel", name := "go", desc := "()I" } : Jvm.MethodName) ∈ zALL := zall (zt3 (zmem (i := 191) (by decide +kernel))) rfl
theorem aw_672 : Cond.code ({ cls := "MatchSeekerModel", name := "go", desc := "()I" } : Jvm.MethodName) prog_8_method_22_code (3 : Nat) (Option.some Jvm.ClassFile.FieldType.int) ∈ zALL := zall (zt3 (zmem (i := 192) (by decide +kernel))) rfl
theorem aw_673 : Cond.methodLink "MatchSeekerModel" (129 : Nat) ({ cls := "MatchSeekerModel", name := "reckon", desc := "()V" } : Jvm.MethodName) ∈ zALL := zall (zt3 (zmem (i := 193) (by decide +kernel))) rfl
theorem aw_675 : Cond.instanceMethod ({ cls := "MatchSeekerModel", name := "reckon", desc := "()V" } : Jvm.MethodName) ∈ zALL := zall (zt3 (zmem (i := 195) (by decide +kernel))) rfl
theorem aw_676 : Cond.code ({ cls := "MatchSeekerModel", name := "reckon", desc := "()V" } : Jvm.MethodName) prog_8_method_24_code (8 : Nat) (Option.none : Option Jvm.ClassFile.FieldType) ∈ zALL := zall (zt3 (zmem (i := 196) (by decide +kernel))) rfl
theorem aw_677 : Cond.methodLink "MatchSeekerModel" (141 : Nat) ({ cls := "MatchSeekerModel", name := "better", desc := "(III)V" } : Jvm.MethodName) ∈ zALL := zall (zt3 (zmem (i := 197) (by decide +kernel))) rfl
theorem aw_679 : Cond.instanceMethod ({ cls := "MatchSeekerModel", name := "better", desc := "(III)V" } : Jvm.MethodName) ∈ zALL := zall (zt3 (zmem (i := 199) (by decide +kernel))) rfl
theorem aw_680 : Cond.code ({ cls := "MatchSeekerModel", name := "better", desc := "(III)V" } : Jvm.MethodName) prog_8_method_25_code (7 : Nat) (Option.none : Option Jvm.ClassFile.FieldType) ∈ zALL := zall (zt3 (zmem (i := 200) (by decide +kernel))) rfl
theorem aw_681 : Cond.methodLink "MatchSeekerModel" (126 : Nat) ({ cls := "MatchSeekerModel", name := "bits", desc := "(I)I" } : Jvm.MethodName) ∈ zALL := zall (zt3 (zmem (i := 201) (by decide +kernel))) rfl
theorem aw_682 : Cond.static ({ cls := "MatchSeekerModel", name := "bits", desc := "(I)I" } : Jvm.MethodName) ∈ zALL := zall (zt3 (zmem (i := 202) (by decide +kernel))) rfl
theorem aw_683 : Cond.code ({ cls := "MatchSeekerModel", name := "bits", desc := "(I)I" } : Jvm.MethodName) prog_8_method_19_code (3 : Nat) (Option.some Jvm.ClassFile.FieldType.int) ∈ zALL := zall (zt3 (zmem (i := 203) (by decide +kernel))) rfl
theorem aw_684 : Cond.methodLink "MatchSeekerModel" (132 : Nat) ({ cls := "MatchSeekerModel", name := "reckoned", desc := "(I)Z" } : Jvm.MethodName) ∈ zALL := zall (zt3 (zmem (i := 204) (by decide +kernel))) rfl
theorem aw_686 : Cond.instanceMethod ({ cls := "MatchSeekerModel", name := "reckoned", desc := "(I)Z" } : Jvm.MethodName) ∈ zALL := zall (zt3 (zmem (i := 206) (by decide +kernel))) rfl
theorem aw_687 : Cond.code ({ cls := "MatchSeekerModel", name := "reckoned", desc := "(I)Z" } : Jvm.MethodName) prog_8_method_23_code (2 : Nat) (Option.some Jvm.ClassFile.FieldType.boolean) ∈ zALL := zall (zt3 (zmem (i := 207) (by decide +kernel))) rfl
theorem aw_688 : Cond.methodLink "MatchSeekerModel" (135 : Nat) ({ cls := "MatchSeekerModel", name := "match", desc := "()V" } : Jvm.MethodName) ∈ zALL := zall (zt3 (zmem (i := 208) (by decide +kernel))) rfl
theorem aw_690 : Cond.instanceMethod ({ cls := "MatchSeekerModel", name := "match", desc := "()V" } : Jvm.MethodName) ∈ zALL := zall (zt3 (zmem (i := 210) (by decide +kernel))) rfl
theorem aw_691 : Cond.code ({ cls := "MatchSeekerModel", name := "match", desc := "()V" } : Jvm.MethodName) prog_8_method_21_code (1 : Nat) (Option.none : Option Jvm.ClassFile.FieldType) ∈ zALL := zall (zt3 (zmem (i := 211) (by decide +kernel))) rfl
theorem aw_692 : Cond.methodLink "MatchSeekerModel" (138 : Nat) ({ cls := "MatchSeekerModel", name := "literal", desc := "()V" } : Jvm.MethodName) ∈ zALL := zall (zt3 (zmem (i := 212) (by decide +kernel))) rfl
theorem aw_694 : Cond.instanceMethod ({ cls := "MatchSeekerModel", name := "literal", desc := "()V" } : Jvm.MethodName) ∈ zALL := zall (zt3 (zmem (i := 214) (by decide +kernel))) rfl
theorem aw_695 : Cond.code ({ cls := "MatchSeekerModel", name := "literal", desc := "()V" } : Jvm.MethodName) prog_8_method_20_code (1 : Nat) (Option.none : Option Jvm.ClassFile.FieldType) ∈ zALL := zall (zt3 (zmem (i := 215) (by decide +kernel))) rfl
theorem aw_696 : Cond.methodLink "MatchSeekerLaw" (62 : Nat) ({ cls := "MatchSeekerModel", name := "stretch", desc := "(II)I" } : Jvm.MethodName) ∈ zALL := zall (zt3 (zmem (i := 216) (by decide +kernel))) rfl
theorem aw_697 : Cond.instanceMethod ({ cls := "MatchSeekerModel", name := "stretch", desc := "(II)I" } : Jvm.MethodName) ∈ zALL := zall (zt3 (zmem (i := 217) (by decide +kernel))) rfl
theorem aw_698 : Cond.selects "MatchSeekerModel" ({ cls := "MatchSeekerModel", name := "stretch", desc := "(II)I" } : Jvm.MethodName) ({ cls := "MatchSeekerModel", name := "stretch", desc := "(II)I" } : Jvm.MethodName) ∈ zALL := zall (zt3 (zmem (i := 218) (by decide +kernel))) rfl
theorem aw_699 : Cond.code ({ cls := "MatchSeekerModel", name := "stretch", desc := "(II)I" } : Jvm.MethodName) prog_8_method_26_code (3 : Nat) (Option.some Jvm.ClassFile.FieldType.int) ∈ zALL := zall (zt3 (zmem (i := 219) (by decide +kernel))) rfl
theorem aw_700 : Cond.methodLink "MatchSeekerLaw" (66 : Nat) ({ cls := "MatchSeekerModel", name := "about", desc := "(I)I" } : Jvm.MethodName) ∈ zALL := zall (zt3 (zmem (i := 220) (by decide +kernel))) rfl
theorem aw_701 : Cond.instanceMethod ({ cls := "MatchSeekerModel", name := "about", desc := "(I)I" } : Jvm.MethodName) ∈ zALL := zall (zt3 (zmem (i := 221) (by decide +kernel))) rfl
theorem aw_702 : Cond.selects "MatchSeekerModel" ({ cls := "MatchSeekerModel", name := "about", desc := "(I)I" } : Jvm.MethodName) ({ cls := "MatchSeekerModel", name := "about", desc := "(I)I" } : Jvm.MethodName) ∈ zALL := zall (zt3 (zmem (i := 222) (by decide +kernel))) rfl
theorem aw_703 : Cond.code ({ cls := "MatchSeekerModel", name := "about", desc := "(I)I" } : Jvm.MethodName) prog_8_method_27_code (5 : Nat) (Option.some Jvm.ClassFile.FieldType.int) ∈ zALL := zall (zt3 (zmem (i := 223) (by decide +kernel))) rfl
theorem aw_704 : Cond.methodLink "MatchSeekerLaw" (70 : Nat) ({ cls := "MatchSeekerModel", name := "unlike", desc := "()I" } : Jvm.MethodName) ∈ zALL := zall (zt3 (zmem (i := 224) (by decide +kernel))) rfl
theorem aw_705 : Cond.instanceMethod ({ cls := "MatchSeekerModel", name := "unlike", desc := "()I" } : Jvm.MethodName) ∈ zALL := zall (zt3 (zmem (i := 225) (by decide +kernel))) rfl
theorem aw_706 : Cond.selects "MatchSeekerModel" ({ cls := "MatchSeekerModel", name := "unlike", desc := "()I" } : Jvm.MethodName) ({ cls := "MatchSeekerModel", name := "unlike", desc := "()I" } : Jvm.MethodName) ∈ zALL := zall (zt3 (zmem (i := 226) (by decide +kernel))) rfl
theorem aw_707 : Cond.code ({ cls := "MatchSeekerModel", name := "unlike", desc := "()I" } : Jvm.MethodName) prog_8_method_28_code (5 : Nat) (Option.some Jvm.ClassFile.FieldType.int) ∈ zALL := zall (zt3 (zmem (i := 227) (by decide +kernel))) rfl
theorem aw_708 : Cond.methodLink "MatchSeekerLaw" (74 : Nat) ({ cls := "MatchSeekerModel", name := "size", desc := "()I" } : Jvm.MethodName) ∈ zALL := zall (zt3 (zmem (i := 228) (by decide +kernel))) rfl
theorem aw_709 : Cond.instanceMethod ({ cls := "MatchSeekerModel", name := "size", desc := "()I" } : Jvm.MethodName) ∈ zALL := zall (zt3 (zmem (i := 229) (by decide +kernel))) rfl
theorem aw_710 : Cond.selects "MatchSeekerModel" ({ cls := "MatchSeekerModel", name := "size", desc := "()I" } : Jvm.MethodName) ({ cls := "MatchSeekerModel", name := "size", desc := "()I" } : Jvm.MethodName) ∈ zALL := zall (zt3 (zmem (i := 230) (by decide +kernel))) rfl
theorem aw_711 : Cond.code ({ cls := "MatchSeekerModel", name := "size", desc := "()I" } : Jvm.MethodName) prog_8_method_29_code (1 : Nat) (Option.some Jvm.ClassFile.FieldType.int) ∈ zALL := zall (zt3 (zmem (i := 231) (by decide +kernel))) rfl
theorem aw_712 : Cond.constantLong "MatchSeekerLaw" (17 : Nat) (4294967295 : Int64) ∈ zALL := zall (zt3 (zmem (i := 232) (by decide +kernel))) rfl
theorem as_0 : Cond.selects "MatchSeeker$Row" ({ cls := "MatchSeeker$Row", name := "empty", desc := "()V" } : Jvm.MethodName) ({ cls := "MatchSeeker$Row", name := "empty", desc := "()V" } : Jvm.MethodName) ∈ zALL := zalls (zmem (i := 0) (by decide +kernel)) rfl
theorem as_1 : Cond.selects "MatchSeeker$Finder" ({ cls := "MatchSeeker$Finder", name := "forgetData", desc := "()V" } : Jvm.MethodName) ({ cls := "MatchSeeker$Finder", name := "forgetData", desc := "()V" } : Jvm.MethodName) ∈ zALL := zalls (zmem (i := 1) (by decide +kernel)) rfl
theorem as_2 : Cond.selects "MatchSeeker$Finder" ({ cls := "MatchSeeker$Finder", name := "unlink", desc := "()V" } : Jvm.MethodName) ({ cls := "MatchSeeker$Finder", name := "unlink", desc := "()V" } : Jvm.MethodName) ∈ zALL := zalls (zmem (i := 2) (by decide +kernel)) rfl
theorem as_3 : Cond.selects "MatchSeeker$Found" ({ cls := "MatchSeeker$Found", name := "forget", desc := "()V" } : Jvm.MethodName) ({ cls := "MatchSeeker$Found", name := "forget", desc := "()V" } : Jvm.MethodName) ∈ zALL := zalls (zmem (i := 3) (by decide +kernel)) rfl
theorem as_4 : Cond.selects "MatchSeeker$Row" ({ cls := "MatchSeeker$Row", name := "takes", desc := "(J)Z" } : Jvm.MethodName) ({ cls := "MatchSeeker$Row", name := "takes", desc := "(J)Z" } : Jvm.MethodName) ∈ zALL := zalls (zmem (i := 4) (by decide +kernel)) rfl
theorem as_5 : Cond.selects "MatchSeeker$Row" ({ cls := "MatchSeeker$Row", name := "append", desc := "(JI)V" } : Jvm.MethodName) ({ cls := "MatchSeeker$Row", name := "append", desc := "(JI)V" } : Jvm.MethodName) ∈ zALL := zalls (zmem (i := 5) (by decide +kernel)) rfl
theorem as_6 : Cond.selects "MatchSeeker$Row" ({ cls := "MatchSeeker$Row", name := "makeRoom", desc := "(I)V" } : Jvm.MethodName) ({ cls := "MatchSeeker$Row", name := "makeRoom", desc := "(I)V" } : Jvm.MethodName) ∈ zALL := zalls (zmem (i := 6) (by decide +kernel)) rfl
theorem as_7 : Cond.selects "MatchSeeker$Row" ({ cls := "MatchSeeker$Row", name := "repeat", desc := "(II)V" } : Jvm.MethodName) ({ cls := "MatchSeeker$Row", name := "repeat", desc := "(II)V" } : Jvm.MethodName) ∈ zALL := zalls (zmem (i := 7) (by decide +kernel)) rfl
theorem as_8 : Cond.selects "MatchSeeker$Row" ({ cls := "MatchSeeker$Row", name := "hasPlace", desc := "(I)Z" } : Jvm.MethodName) ({ cls := "MatchSeeker$Row", name := "hasPlace", desc := "(I)Z" } : Jvm.MethodName) ∈ zALL := zalls (zmem (i := 8) (by decide +kernel)) rfl
theorem as_9 : Cond.selects "MatchSeeker$Finder" ({ cls := "MatchSeeker$Finder", name := "readData", desc := "()V" } : Jvm.MethodName) ({ cls := "MatchSeeker$Finder", name := "readData", desc := "()V" } : Jvm.MethodName) ∈ zALL := zalls (zmem (i := 9) (by decide +kernel)) rfl
theorem as_10 : Cond.selects "MatchSeeker$Finder" ({ cls := "MatchSeeker$Finder", name := "enlarge", desc := "(I)V" } : Jvm.MethodName) ({ cls := "MatchSeeker$Finder", name := "enlarge", desc := "(I)V" } : Jvm.MethodName) ∈ zALL := zalls (zmem (i := 10) (by decide +kernel)) rfl
theorem as_11 : Cond.selects "MatchSeeker$Finder" ({ cls := "MatchSeeker$Finder", name := "slotOf", desc := "(I)I" } : Jvm.MethodName) ({ cls := "MatchSeeker$Finder", name := "slotOf", desc := "(I)I" } : Jvm.MethodName) ∈ zALL := zalls (zmem (i := 11) (by decide +kernel)) rfl
theorem as_12 : Cond.selects "MatchSeeker$Finder" ({ cls := "MatchSeeker$Finder", name := "seek", desc := "(II)V" } : Jvm.MethodName) ({ cls := "MatchSeeker$Finder", name := "seek", desc := "(II)V" } : Jvm.MethodName) ∈ zALL := zalls (zmem (i := 12) (by decide +kernel)) rfl
theorem as_13 : Cond.selects "MatchSeeker$Finder" ({ cls := "MatchSeeker$Finder", name := "seekNearest", desc := "(I)V" } : Jvm.MethodName) ({ cls := "MatchSeeker$Finder", name := "seekNearest", desc := "(I)V" } : Jvm.MethodName) ∈ zALL := zalls (zmem (i := 13) (by decide +kernel)) rfl
theorem as_14 : Cond.selects "MatchSeeker$Finder" ({ cls := "MatchSeeker$Finder", name := "startAt", desc := "(II)V" } : Jvm.MethodName) ({ cls := "MatchSeeker$Finder", name := "startAt", desc := "(II)V" } : Jvm.MethodName) ∈ zALL := zalls (zmem (i := 14) (by decide +kernel)) rfl
theorem as_15 : Cond.selects "MatchSeeker$Rule" ({ cls := "MatchSeeker$Rule", name := "endOf", desc := "(I)I" } : Jvm.MethodName) ({ cls := "MatchSeeker$Rule", name := "endOf", desc := "(I)I" } : Jvm.MethodName) ∈ zALL := zalls (zmem (i := 15) (by decide +kernel)) rfl
theorem as_16 : Cond.selects "MatchSeeker$Rule" ({ cls := "MatchSeeker$Rule", name := "lastOf", desc := "(I)I" } : Jvm.MethodName) ({ cls := "MatchSeeker$Rule", name := "lastOf", desc := "(I)I" } : Jvm.MethodName) ∈ zALL := zalls (zmem (i := 16) (by decide +kernel)) rfl
theorem as_17 : Cond.selects "MatchSeeker$Finder" ({ cls := "MatchSeeker$Finder", name := "findLonger", desc := "()Z" } : Jvm.MethodName) ({ cls := "MatchSeeker$Finder", name := "findLonger", desc := "()Z" } : Jvm.MethodName) ∈ zALL := zalls (zmem (i := 17) (by decide +kernel)) rfl
theorem as_18 : Cond.selects "MatchSeeker$Finder" ({ cls := "MatchSeeker$Finder", name := "sameBytes", desc := "(III)I" } : Jvm.MethodName) ({ cls := "MatchSeeker$Finder", name := "sameBytes", desc := "(III)I" } : Jvm.MethodName) ∈ zALL := zalls (zmem (i := 18) (by decide +kernel)) rfl
theorem as_19 : Cond.selects "MatchSeeker$Finder" ({ cls := "MatchSeeker$Finder", name := "seekLongestIfNotNext", desc := "(I)V" } : Jvm.MethodName) ({ cls := "MatchSeeker$Finder", name := "seekLongestIfNotNext", desc := "(I)V" } : Jvm.MethodName) ∈ zALL := zalls (zmem (i := 19) (by decide +kernel)) rfl
theorem as_20 : Cond.selects "MatchSeeker$Finder" ({ cls := "MatchSeeker$Finder", name := "seekLongest", desc := "(I)V" } : Jvm.MethodName) ({ cls := "MatchSeeker$Finder", name := "seekLongest", desc := "(I)V" } : Jvm.MethodName) ∈ zALL := zalls (zmem (i := 20) (by decide +kernel)) rfl
theorem as_21 : Cond.selects "MatchSeeker$Finder" ({ cls := "MatchSeeker$Finder", name := "matchesAt", desc := "(I)I" } : Jvm.MethodName) ({ cls := "MatchSeeker$Finder", name := "matchesAt", desc := "(I)I" } : Jvm.MethodName) ∈ zALL := zalls (zmem (i := 21) (by decide +kernel)) rfl
theorem as_22 : Cond.selects "MatchSeeker$Found" ({ cls := "MatchSeeker$Found", name := "begin", desc := "()V" } : Jvm.MethodName) ({ cls := "MatchSeeker$Found", name := "begin", desc := "()V" } : Jvm.MethodName) ∈ zALL := zalls (zmem (i := 22) (by decide +kernel)) rfl
theorem as_23 : Cond.selects "MatchSeeker" ({ cls := "MatchSeeker", name := "followPlan", desc := "()V" } : Jvm.MethodName) ({ cls := "MatchSeeker", name := "followPlan", desc := "()V" } : Jvm.MethodName) ∈ zALL := zalls (zmem (i := 23) (by decide +kernel)) rfl
theorem as_24 : Cond.selects "MatchSeeker$Plan" ({ cls := "MatchSeeker$Plan", name := "make", desc := "()V" } : Jvm.MethodName) ({ cls := "MatchSeeker$Plan", name := "make", desc := "()V" } : Jvm.MethodName) ∈ zALL := zalls (zmem (i := 24) (by decide +kernel)) rfl
theorem as_25 : Cond.selects "MatchSeeker$Plan" ({ cls := "MatchSeeker$Plan", name := "makeRoom", desc := "(I)V" } : Jvm.MethodName) ({ cls := "MatchSeeker$Plan", name := "makeRoom", desc := "(I)V" } : Jvm.MethodName) ∈ zALL := zalls (zmem (i := 25) (by decide +kernel)) rfl
theorem as_26 : Cond.selects "MatchSeeker$Plan" ({ cls := "MatchSeeker$Plan", name := "addEnd", desc := "(I)V" } : Jvm.MethodName) ({ cls := "MatchSeeker$Plan", name := "addEnd", desc := "(I)V" } : Jvm.MethodName) ∈ zALL := zalls (zmem (i := 26) (by decide +kernel)) rfl
theorem as_27 : Cond.selects "MatchSeeker$Plan" ({ cls := "MatchSeeker$Plan", name := "takeLiteral", desc := "(I)V" } : Jvm.MethodName) ({ cls := "MatchSeeker$Plan", name := "takeLiteral", desc := "(I)V" } : Jvm.MethodName) ∈ zALL := zalls (zmem (i := 27) (by decide +kernel)) rfl
theorem as_28 : Cond.selects "MatchSeeker$Plan" ({ cls := "MatchSeeker$Plan", name := "takeBestMatch", desc := "(II)V" } : Jvm.MethodName) ({ cls := "MatchSeeker$Plan", name := "takeBestMatch", desc := "(II)V" } : Jvm.MethodName) ∈ zALL := zalls (zmem (i := 28) (by decide +kernel)) rfl
theorem as_29 : Cond.selects "MatchSeeker$Finder" ({ cls := "MatchSeeker$Finder", name := "expectAtMost", desc := "(I)V" } : Jvm.MethodName) ({ cls := "MatchSeeker$Finder", name := "expectAtMost", desc := "(I)V" } : Jvm.MethodName) ∈ zALL := zalls (zmem (i := 29) (by decide +kernel)) rfl
theorem as_30 : Cond.selects "MatchSeeker$Plan" ({ cls := "MatchSeeker$Plan", name := "consider", desc := "(III)V" } : Jvm.MethodName) ({ cls := "MatchSeeker$Plan", name := "consider", desc := "(III)V" } : Jvm.MethodName) ∈ zALL := zalls (zmem (i := 30) (by decide +kernel)) rfl
theorem as_31 : Cond.selects "MatchSeeker$Plan" ({ cls := "MatchSeeker$Plan", name := "cheapestEnd", desc := "(I)I" } : Jvm.MethodName) ({ cls := "MatchSeeker$Plan", name := "cheapestEnd", desc := "(I)I" } : Jvm.MethodName) ∈ zALL := zalls (zmem (i := 31) (by decide +kernel)) rfl
theorem as_32 : Cond.selects "MatchSeeker$Found" ({ cls := "MatchSeeker$Found", name := "add", desc := "(II)V" } : Jvm.MethodName) ({ cls := "MatchSeeker$Found", name := "add", desc := "(II)V" } : Jvm.MethodName) ∈ zALL := zalls (zmem (i := 32) (by decide +kernel)) rfl
theorem as_33 : Cond.selects "MatchSeeker" ({ cls := "MatchSeeker", name := "takeWhatIsSought", desc := "()V" } : Jvm.MethodName) ({ cls := "MatchSeeker", name := "takeWhatIsSought", desc := "()V" } : Jvm.MethodName) ∈ zALL := zalls (zmem (i := 33) (by decide +kernel)) rfl
theorem as_34 : Cond.selects "MatchSeeker$Found" ({ cls := "MatchSeeker$Found", name := "differences", desc := "()I" } : Jvm.MethodName) ({ cls := "MatchSeeker$Found", name := "differences", desc := "()I" } : Jvm.MethodName) ∈ zALL := zalls (zmem (i := 34) (by decide +kernel)) rfl
theorem as_35 : Cond.selects "MatchSeeker$Found" ({ cls := "MatchSeeker$Found", name := "rebuild", desc := "()V" } : Jvm.MethodName) ({ cls := "MatchSeeker$Found", name := "rebuild", desc := "()V" } : Jvm.MethodName) ∈ zALL := zalls (zmem (i := 35) (by decide +kernel)) rfl
theorem as_36 : Cond.selects "MatchSeeker$Found" ({ cls := "MatchSeeker$Found", name := "copyFromData", desc := "(II)I" } : Jvm.MethodName) ({ cls := "MatchSeeker$Found", name := "copyFromData", desc := "(II)I" } : Jvm.MethodName) ∈ zALL := zalls (zmem (i := 36) (by decide +kernel)) rfl
theorem as_37 : Cond.selects "MatchSeeker$Found" ({ cls := "MatchSeeker$Found", name := "copyFromRebuilt", desc := "(III)I" } : Jvm.MethodName) ({ cls := "MatchSeeker$Found", name := "copyFromRebuilt", desc := "(III)I" } : Jvm.MethodName) ∈ zALL := zalls (zmem (i := 37) (by decide +kernel)) rfl
theorem as_38 : Cond.selects "MatchSeekerModel" ({ cls := "MatchSeekerModel", name := "chosen", desc := "(II)Z" } : Jvm.MethodName) ({ cls := "MatchSeekerModel", name := "chosen", desc := "(II)Z" } : Jvm.MethodName) ∈ zALL := zalls (zmem (i := 38) (by decide +kernel)) rfl
theorem as_39 : Cond.selects "MatchSeekerModel" ({ cls := "MatchSeekerModel", name := "nearest", desc := "(II)Z" } : Jvm.MethodName) ({ cls := "MatchSeekerModel", name := "nearest", desc := "(II)Z" } : Jvm.MethodName) ∈ zALL := zalls (zmem (i := 39) (by decide +kernel)) rfl
theorem as_40 : Cond.selects "MatchSeekerModel" ({ cls := "MatchSeekerModel", name := "room", desc := "(I)I" } : Jvm.MethodName) ({ cls := "MatchSeekerModel", name := "room", desc := "(I)I" } : Jvm.MethodName) ∈ zALL := zalls (zmem (i := 40) (by decide +kernel)) rfl
theorem as_41 : Cond.selects "MatchSeekerModel" ({ cls := "MatchSeekerModel", name := "end", desc := "()I" } : Jvm.MethodName) ({ cls := "MatchSeekerModel", name := "end", desc := "()I" } : Jvm.MethodName) ∈ zALL := zalls (zmem (i := 41) (by decide +kernel)) rfl
theorem as_42 : Cond.selects "MatchSeekerModel" ({ cls := "MatchSeekerModel", name := "last", desc := "()I" } : Jvm.MethodName) ({ cls := "MatchSeekerModel", name := "last", desc := "()I" } : Jvm.MethodName) ∈ zALL := zalls (zmem (i := 42) (by decide +kernel)) rfl
theorem as_43 : Cond.selects "MatchSeekerModel" ({ cls := "MatchSeekerModel", name := "lowest", desc := "(I)I" } : Jvm.MethodName) ({ cls := "MatchSeekerModel", name := "lowest", desc := "(I)I" } : Jvm.MethodName) ∈ zALL := zalls (zmem (i := 43) (by decide +kernel)) rfl
theorem as_44 : Cond.selects "MatchSeekerModel" ({ cls := "MatchSeekerModel", name := "alike", desc := "(III)I" } : Jvm.MethodName) ({ cls := "MatchSeekerModel", name := "alike", desc := "(III)I" } : Jvm.MethodName) ∈ zALL := zalls (zmem (i := 44) (by decide +kernel)) rfl
theorem as_45 : Cond.selects "MatchSeekerModel" ({ cls := "MatchSeekerModel", name := "longest", desc := "(I)Z" } : Jvm.MethodName) ({ cls := "MatchSeekerModel", name := "longest", desc := "(I)Z" } : Jvm.MethodName) ∈ zALL := zalls (zmem (i := 45) (by decide +kernel)) rfl
theorem as_46 : Cond.selects "MatchSeekerModel" ({ cls := "MatchSeekerModel", name := "reckon", desc := "()V" } : Jvm.MethodName) ({ cls := "MatchSeekerModel", name := "reckon", desc := "()V" } : Jvm.MethodName) ∈ zALL := zalls (zmem (i := 46) (by decide +kernel)) rfl
theorem as_47 : Cond.selects "MatchSeekerModel" ({ cls := "MatchSeekerModel", name := "better", desc := "(III)V" } : Jvm.MethodName) ({ cls := "MatchSeekerModel", name := "better", desc := "(III)V" } : Jvm.MethodName) ∈ zALL := zalls (zmem (i := 47) (by decide +kernel)) rfl
theorem as_48 : Cond.selects "MatchSeekerModel" ({ cls := "MatchSeekerModel", name := "reckoned", desc := "(I)Z" } : Jvm.MethodName) ({ cls := "MatchSeekerModel", name := "reckoned", desc := "(I)Z" } : Jvm.MethodName) ∈ zALL := zalls (zmem (i := 48) (by decide +kernel)) rfl
theorem as_49 : Cond.selects "MatchSeekerModel" ({ cls := "MatchSeekerModel", name := "match", desc := "()V" } : Jvm.MethodName) ({ cls := "MatchSeekerModel", name := "match", desc := "()V" } : Jvm.MethodName) ∈ zALL := zalls (zmem (i := 49) (by decide +kernel)) rfl
theorem as_50 : Cond.selects "MatchSeekerModel" ({ cls := "MatchSeekerModel", name := "literal", desc := "()V" } : Jvm.MethodName) ({ cls := "MatchSeekerModel", name := "literal", desc := "()V" } : Jvm.MethodName) ∈ zALL := zalls (zmem (i := 50) (by decide +kernel)) rfl
end
section
abbrev cX5_init : ByteArray := prog_1_method_1_code
def yX5_init : MethodName := ⟨RX5, "<init>", "()V"⟩
abbrev wsX5_init : List Cond := Cond.code yX5_init cX5_init 1 none :: zALL
theorem kX5_init : Cond.code yX5_init cX5_init 1 none ∈ zALL := aw_15
abbrev cX3_init : ByteArray := prog_5_method_1_code
def yX3_init : MethodName := ⟨RX3, "<init>", "()V"⟩
abbrev wsX3_init : List Cond := Cond.code yX3_init cX3_init 1 none :: zALL
theorem kX3_init : Cond.code yX3_init cX3_init 1 none ∈ zALL := aw_23
abbrev cX4_init : ByteArray := prog_6_method_1_code
def yX4_init : MethodName := ⟨RX4, "<init>", "()V"⟩
abbrev wsX4_init : List Cond := Cond.code yX4_init cX4_init 1 none :: zALL
theorem kX4_init : Cond.code yX4_init cX4_init 1 none ∈ zALL := aw_49
abbrev cX0_init : ByteArray := prog_2_method_1_code
def yX0_init : MethodName := ⟨RX0, "<init>", "(LMatchSeeker$Row;LMatchSeeker$Rule;)V"⟩
abbrev wsX0_init : List Cond := Cond.code yX0_init cX0_init 3 none :: zALL
theorem kX0_init : Cond.code yX0_init cX0_init 3 none ∈ zALL := aw_98
abbrev cX2_init : ByteArray := prog_4_method_1_code
def yX2_init : MethodName := ⟨RX2, "<init>", "(LMatchSeeker$Row;LMatchSeeker$Rule;LMatchSeeker$Finder;)V"⟩
abbrev wsX2_init : List Cond := Cond.code yX2_init cX2_init 4 none :: zALL
theorem kX2_init : Cond.code yX2_init cX2_init 4 none ∈ zALL := aw_155
abbrev cX1_init : ByteArray := prog_3_method_1_code
def yX1_init : MethodName := ⟨RX1, "<init>", "(LMatchSeeker$Row;LMatchSeeker$Rule;)V"⟩
abbrev wsX1_init : List Cond := Cond.code yX1_init cX1_init 3 none :: zALL
theorem kX1_init : Cond.code yX1_init cX1_init 3 none ∈ zALL := aw_188
abbrev cX5_clear : ByteArray := prog_1_method_2_code
def yX5_clear : MethodName := ⟨RX5, "clear", "()V"⟩
abbrev wsX5_clear : List Cond := Cond.code yX5_clear cX5_clear 1 none :: zALL
theorem kX5_clear : Cond.code yX5_clear cX5_clear 1 none ∈ zALL := aw_261
abbrev cX3_empty : ByteArray := prog_5_method_4_code
def yX3_empty : MethodName := ⟨RX3, "empty", "()V"⟩
abbrev wsX3_empty : List Cond := Cond.code yX3_empty cX3_empty 1 none :: zALL
theorem kX3_empty : Cond.code yX3_empty cX3_empty 1 none ∈ zALL := aw_265
abbrev cX0_forgetData : ByteArray := prog_2_method_2_code
def yX0_forgetData : MethodName := ⟨RX0, "forgetData", "()V"⟩
abbrev wsX0_forgetData : List Cond := Cond.code yX0_forgetData cX0_forgetData 1 none :: zALL
theorem kX0_forgetData : Cond.code yX0_forgetData cX0_forgetData 1 none ∈ zALL := aw_269
abbrev cX0_unlink : ByteArray := prog_2_method_3_code
def yX0_unlink : MethodName := ⟨RX0, "unlink", "()V"⟩
abbrev wsX0_unlink : List Cond := Cond.code yX0_unlink cX0_unlink 1 none :: zALL
theorem kX0_unlink : Cond.code yX0_unlink cX0_unlink 1 none ∈ zALL := aw_273
abbrev cJ7_fill : ByteArray := prog_12_method_103_code
def yJ7_fill : MethodName := ⟨RJ7, "fill", "([II)V"⟩
abbrev wsJ7_fill : List Cond := Cond.code yJ7_fill cJ7_fill 4 none :: zALL
theorem kJ7_fill : Cond.code yJ7_fill cJ7_fill 4 none ∈ zALL := aw_276
abbrev cX1_forget : ByteArray := prog_3_method_2_code
def yX1_forget : MethodName := ⟨RX1, "forget", "()V"⟩
abbrev wsX1_forget : List Cond := Cond.code yX1_forget cX1_forget 1 none :: zALL
theorem kX1_forget : Cond.code yX1_forget cX1_forget 1 none ∈ zALL := aw_280
abbrev cX5_write : ByteArray := prog_1_method_3_code
def yX5_write : MethodName := ⟨RX5, "write", "(JI)Z"⟩
abbrev wsX5_write : List Cond := Cond.code yX5_write cX5_write 4 ((Option.some Jvm.ClassFile.FieldType.boolean)) :: zALL
theorem kX5_write : Cond.code yX5_write cX5_write 4 ((Option.some Jvm.ClassFile.FieldType.boolean)) ∈ zALL := aw_284
abbrev cX5_within : ByteArray := prog_1_method_17_code
def yX5_within : MethodName := ⟨RX5, "within", "(III)Z"⟩
abbrev wsX5_within : List Cond := Cond.code yX5_within cX5_within 3 ((Option.some Jvm.ClassFile.FieldType.boolean)) :: zALL
theorem kX5_within : Cond.code yX5_within cX5_within 3 ((Option.some Jvm.ClassFile.FieldType.boolean)) ∈ zALL := aw_287
abbrev cX3_takes : ByteArray := prog_5_method_3_code
def yX3_takes : MethodName := ⟨RX3, "takes", "(J)Z"⟩
abbrev wsX3_takes : List Cond := Cond.code yX3_takes cX3_takes 3 ((Option.some Jvm.ClassFile.FieldType.boolean)) :: zALL
theorem kX3_takes : Cond.code yX3_takes cX3_takes 3 ((Option.some Jvm.ClassFile.FieldType.boolean)) ∈ zALL := aw_291
abbrev cX3_append : ByteArray := prog_5_method_5_code
def yX3_append : MethodName := ⟨RX3, "append", "(JI)V"⟩
abbrev wsX3_append : List Cond := Cond.code yX3_append cX3_append 5 none :: zALL
theorem kX3_append : Cond.code yX3_append cX3_append 5 none ∈ zALL := aw_296
abbrev cX3_makeRoom : ByteArray := prog_5_method_7_code
def yX3_makeRoom : MethodName := ⟨RX3, "makeRoom", "(I)V"⟩
abbrev wsX3_makeRoom : List Cond := Cond.code yX3_makeRoom cX3_makeRoom 2 none :: zALL
theorem kX3_makeRoom : Cond.code yX3_makeRoom cX3_makeRoom 2 none ∈ zALL := aw_300
abbrev cX5_roomFor : ByteArray := prog_1_method_18_code
def yX5_roomFor : MethodName := ⟨RX5, "roomFor", "(I)I"⟩
abbrev wsX5_roomFor : List Cond := Cond.code yX5_roomFor cX5_roomFor 2 ((Option.some Jvm.ClassFile.FieldType.int)) :: zALL
theorem kX5_roomFor : Cond.code yX5_roomFor cX5_roomFor 2 ((Option.some Jvm.ClassFile.FieldType.int)) ∈ zALL := aw_303
abbrev cJ7_copyOf : ByteArray := prog_12_method_121_code
def yJ7_copyOf : MethodName := ⟨RJ7, "copyOf", "([BI)[B"⟩
abbrev wsJ7_copyOf : List Cond := Cond.code yJ7_copyOf cJ7_copyOf 3 ((Option.some (Jvm.ClassFile.FieldType.array Jvm.ClassFile.FieldType.byte))) :: zALL
theorem kJ7_copyOf : Cond.code yJ7_copyOf cJ7_copyOf 3 ((Option.some (Jvm.ClassFile.FieldType.array Jvm.ClassFile.FieldType.byte))) ∈ zALL := aw_307
abbrev cX5_again : ByteArray := prog_1_method_4_code
def yX5_again : MethodName := ⟨RX5, "again", "(II)Z"⟩
abbrev wsX5_again : List Cond := Cond.code yX5_again cX5_again 3 ((Option.some Jvm.ClassFile.FieldType.boolean)) :: zALL
theorem kX5_again : Cond.code yX5_again cX5_again 3 ((Option.some Jvm.ClassFile.FieldType.boolean)) ∈ zALL := aw_324
abbrev cX3_repeat : ByteArray := prog_5_method_6_code
def yX3_repeat : MethodName := ⟨RX3, "repeat", "(II)V"⟩
abbrev wsX3_repeat : List Cond := Cond.code yX3_repeat cX3_repeat 4 none :: zALL
theorem kX3_repeat : Cond.code yX3_repeat cX3_repeat 4 none ∈ zALL := aw_328
abbrev cX5_history : ByteArray := prog_1_method_5_code
def yX5_history : MethodName := ⟨RX5, "history", "(I)Z"⟩
abbrev wsX5_history : List Cond := Cond.code yX5_history cX5_history 2 ((Option.some Jvm.ClassFile.FieldType.boolean)) :: zALL
theorem kX5_history : Cond.code yX5_history cX5_history 2 ((Option.some Jvm.ClassFile.FieldType.boolean)) ∈ zALL := aw_332
abbrev cX5_rule : ByteArray := prog_1_method_6_code
def yX5_rule : MethodName := ⟨RX5, "rule", "(IIII)Z"⟩
abbrev wsX5_rule : List Cond := Cond.code yX5_rule cX5_rule 5 ((Option.some Jvm.ClassFile.FieldType.boolean)) :: zALL
theorem kX5_rule : Cond.code yX5_rule cX5_rule 5 ((Option.some Jvm.ClassFile.FieldType.boolean)) ∈ zALL := aw_336
abbrev cX5_bounds : ByteArray := prog_1_method_7_code
def yX5_bounds : MethodName := ⟨RX5, "bounds", "(IIII)Z"⟩
abbrev wsX5_bounds : List Cond := Cond.code yX5_bounds cX5_bounds 5 ((Option.some Jvm.ClassFile.FieldType.boolean)) :: zALL
theorem kX5_bounds : Cond.code yX5_bounds cX5_bounds 5 ((Option.some Jvm.ClassFile.FieldType.boolean)) ∈ zALL := aw_342
abbrev cX5_at : ByteArray := prog_1_method_8_code
def yX5_at : MethodName := ⟨RX5, "at", "(III)I"⟩
abbrev wsX5_at : List Cond := Cond.code yX5_at cX5_at 4 ((Option.some Jvm.ClassFile.FieldType.int)) :: zALL
theorem kX5_at : Cond.code yX5_at cX5_at 4 ((Option.some Jvm.ClassFile.FieldType.int)) ∈ zALL := aw_346
abbrev cX3_hasPlace : ByteArray := prog_5_method_2_code
def yX3_hasPlace : MethodName := ⟨RX3, "hasPlace", "(I)Z"⟩
abbrev wsX3_hasPlace : List Cond := Cond.code yX3_hasPlace cX3_hasPlace 2 ((Option.some Jvm.ClassFile.FieldType.boolean)) :: zALL
theorem kX3_hasPlace : Cond.code yX3_hasPlace cX3_hasPlace 2 ((Option.some Jvm.ClassFile.FieldType.boolean)) ∈ zALL := aw_350
abbrev cX0_readData : ByteArray := prog_2_method_4_code
def yX0_readData : MethodName := ⟨RX0, "readData", "()V"⟩
abbrev wsX0_readData : List Cond := Cond.code yX0_readData cX0_readData 2 none :: zALL
theorem kX0_readData : Cond.code yX0_readData cX0_readData 2 none ∈ zALL := aw_354
abbrev cX0_enlarge : ByteArray := prog_2_method_5_code
def yX0_enlarge : MethodName := ⟨RX0, "enlarge", "(I)V"⟩
abbrev wsX0_enlarge : List Cond := Cond.code yX0_enlarge cX0_enlarge 2 none :: zALL
theorem kX0_enlarge : Cond.code yX0_enlarge cX0_enlarge 2 none ∈ zALL := aw_359
abbrev cX0_slotOf : ByteArray := prog_2_method_6_code
def yX0_slotOf : MethodName := ⟨RX0, "slotOf", "(I)I"⟩
abbrev wsX0_slotOf : List Cond := Cond.code yX0_slotOf cX0_slotOf 5 ((Option.some Jvm.ClassFile.FieldType.int)) :: zALL
theorem kX0_slotOf : Cond.code yX0_slotOf cX0_slotOf 5 ((Option.some Jvm.ClassFile.FieldType.int)) ∈ zALL := aw_363
abbrev cX0_seek : ByteArray := prog_2_method_7_code
def yX0_seek : MethodName := ⟨RX0, "seek", "(II)V"⟩
abbrev wsX0_seek : List Cond := Cond.code yX0_seek cX0_seek 3 none :: zALL
theorem kX0_seek : Cond.code yX0_seek cX0_seek 3 none ∈ zALL := aw_368
abbrev cX0_seekNearest : ByteArray := prog_2_method_8_code
def yX0_seekNearest : MethodName := ⟨RX0, "seekNearest", "(I)V"⟩
abbrev wsX0_seekNearest : List Cond := Cond.code yX0_seekNearest cX0_seekNearest 2 none :: zALL
theorem kX0_seekNearest : Cond.code yX0_seekNearest cX0_seekNearest 2 none ∈ zALL := aw_372
abbrev cX0_startAt : ByteArray := prog_2_method_12_code
def yX0_startAt : MethodName := ⟨RX0, "startAt", "(II)V"⟩
abbrev wsX0_startAt : List Cond := Cond.code yX0_startAt cX0_startAt 4 none :: zALL
theorem kX0_startAt : Cond.code yX0_startAt cX0_startAt 4 none ∈ zALL := aw_376
abbrev cX4_endOf : ByteArray := prog_6_method_3_code
def yX4_endOf : MethodName := ⟨RX4, "endOf", "(I)I"⟩
abbrev wsX4_endOf : List Cond := Cond.code yX4_endOf cX4_endOf 2 ((Option.some Jvm.ClassFile.FieldType.int)) :: zALL
theorem kX4_endOf : Cond.code yX4_endOf cX4_endOf 2 ((Option.some Jvm.ClassFile.FieldType.int)) ∈ zALL := aw_383
abbrev cX4_lastOf : ByteArray := prog_6_method_2_code
def yX4_lastOf : MethodName := ⟨RX4, "lastOf", "(I)I"⟩
abbrev wsX4_lastOf : List Cond := Cond.code yX4_lastOf cX4_lastOf 2 ((Option.some Jvm.ClassFile.FieldType.int)) :: zALL
theorem kX4_lastOf : Cond.code yX4_lastOf cX4_lastOf 2 ((Option.some Jvm.ClassFile.FieldType.int)) ∈ zALL := aw_389
abbrev cX0_findLonger : ByteArray := prog_2_method_14_code
def yX0_findLonger : MethodName := ⟨RX0, "findLonger", "()Z"⟩
abbrev wsX0_findLonger : List Cond := Cond.code yX0_findLonger cX0_findLonger 5 ((Option.some Jvm.ClassFile.FieldType.boolean)) :: zALL
theorem kX0_findLonger : Cond.code yX0_findLonger cX0_findLonger 5 ((Option.some Jvm.ClassFile.FieldType.boolean)) ∈ zALL := aw_393
abbrev cX0_sameBytes : ByteArray := prog_2_method_15_code
def yX0_sameBytes : MethodName := ⟨RX0, "sameBytes", "(III)I"⟩
abbrev wsX0_sameBytes : List Cond := Cond.code yX0_sameBytes cX0_sameBytes 10 ((Option.some Jvm.ClassFile.FieldType.int)) :: zALL
theorem kX0_sameBytes : Cond.code yX0_sameBytes cX0_sameBytes 10 ((Option.some Jvm.ClassFile.FieldType.int)) ∈ zALL := aw_397
abbrev cX0_seekLongestIfNotNext : ByteArray := prog_2_method_10_code
def yX0_seekLongestIfNotNext : MethodName := ⟨RX0, "seekLongestIfNotNext", "(I)V"⟩
abbrev wsX0_seekLongestIfNotNext : List Cond := Cond.code yX0_seekLongestIfNotNext cX0_seekLongestIfNotNext 5 none :: zALL
theorem kX0_seekLongestIfNotNext : Cond.code yX0_seekLongestIfNotNext cX0_seekLongestIfNotNext 5 none ∈ zALL := aw_401
abbrev cX0_seekLongest : ByteArray := prog_2_method_9_code
def yX0_seekLongest : MethodName := ⟨RX0, "seekLongest", "(I)V"⟩
abbrev wsX0_seekLongest : List Cond := Cond.code yX0_seekLongest cX0_seekLongest 3 none :: zALL
theorem kX0_seekLongest : Cond.code yX0_seekLongest cX0_seekLongest 3 none ∈ zALL := aw_405
abbrev cX5_count : ByteArray := prog_1_method_9_code
def yX5_count : MethodName := ⟨RX5, "count", "(I)I"⟩
abbrev wsX5_count : List Cond := Cond.code yX5_count cX5_count 2 ((Option.some Jvm.ClassFile.FieldType.int)) :: zALL
theorem kX5_count : Cond.code yX5_count cX5_count 2 ((Option.some Jvm.ClassFile.FieldType.int)) ∈ zALL := aw_409
abbrev cX0_matchesAt : ByteArray := prog_2_method_11_code
def yX0_matchesAt : MethodName := ⟨RX0, "matchesAt", "(I)I"⟩
abbrev wsX0_matchesAt : List Cond := Cond.code yX0_matchesAt cX0_matchesAt 4 ((Option.some Jvm.ClassFile.FieldType.int)) :: zALL
theorem kX0_matchesAt : Cond.code yX0_matchesAt cX0_matchesAt 4 ((Option.some Jvm.ClassFile.FieldType.int)) ∈ zALL := aw_413
abbrev cX5_go : ByteArray := prog_1_method_10_code
def yX5_go : MethodName := ⟨RX5, "go", "()I"⟩
abbrev wsX5_go : List Cond := Cond.code yX5_go cX5_go 2 ((Option.some Jvm.ClassFile.FieldType.int)) :: zALL
theorem kX5_go : Cond.code yX5_go cX5_go 2 ((Option.some Jvm.ClassFile.FieldType.int)) ∈ zALL := aw_417
abbrev cX1_begin : ByteArray := prog_3_method_3_code
def yX1_begin : MethodName := ⟨RX1, "begin", "()V"⟩
abbrev wsX1_begin : List Cond := Cond.code yX1_begin cX1_begin 2 none :: zALL
theorem kX1_begin : Cond.code yX1_begin cX1_begin 2 none ∈ zALL := aw_421
abbrev cX5_followPlan : ByteArray := prog_1_method_16_code
def yX5_followPlan : MethodName := ⟨RX5, "followPlan", "()V"⟩
abbrev wsX5_followPlan : List Cond := Cond.code yX5_followPlan cX5_followPlan 3 none :: zALL
theorem kX5_followPlan : Cond.code yX5_followPlan cX5_followPlan 3 none ∈ zALL := aw_427
abbrev cX2_make : ByteArray := prog_4_method_2_code
def yX2_make : MethodName := ⟨RX2, "make", "()V"⟩
abbrev wsX2_make : List Cond := Cond.code yX2_make cX2_make 5 none :: zALL
theorem kX2_make : Cond.code yX2_make cX2_make 5 none ∈ zALL := aw_431
abbrev cX2_makeRoom : ByteArray := prog_4_method_3_code
def yX2_makeRoom : MethodName := ⟨RX2, "makeRoom", "(I)V"⟩
abbrev wsX2_makeRoom : List Cond := Cond.code yX2_makeRoom cX2_makeRoom 3 none :: zALL
theorem kX2_makeRoom : Cond.code yX2_makeRoom cX2_makeRoom 3 none ∈ zALL := aw_435
abbrev cX2_addEnd : ByteArray := prog_4_method_7_code
def yX2_addEnd : MethodName := ⟨RX2, "addEnd", "(I)V"⟩
abbrev wsX2_addEnd : List Cond := Cond.code yX2_addEnd cX2_addEnd 2 none :: zALL
theorem kX2_addEnd : Cond.code yX2_addEnd cX2_addEnd 2 none ∈ zALL := aw_443
abbrev cX2_takeLiteral : ByteArray := prog_4_method_4_code
def yX2_takeLiteral : MethodName := ⟨RX2, "takeLiteral", "(I)V"⟩
abbrev wsX2_takeLiteral : List Cond := Cond.code yX2_takeLiteral cX2_takeLiteral 2 none :: zALL
theorem kX2_takeLiteral : Cond.code yX2_takeLiteral cX2_takeLiteral 2 none ∈ zALL := aw_447
abbrev cX2_takeBestMatch : ByteArray := prog_4_method_5_code
def yX2_takeBestMatch : MethodName := ⟨RX2, "takeBestMatch", "(II)V"⟩
abbrev wsX2_takeBestMatch : List Cond := Cond.code yX2_takeBestMatch cX2_takeBestMatch 5 none :: zALL
theorem kX2_takeBestMatch : Cond.code yX2_takeBestMatch cX2_takeBestMatch 5 none ∈ zALL := aw_451
abbrev cX0_expectAtMost : ByteArray := prog_2_method_13_code
def yX0_expectAtMost : MethodName := ⟨RX0, "expectAtMost", "(I)V"⟩
abbrev wsX0_expectAtMost : List Cond := Cond.code yX0_expectAtMost cX0_expectAtMost 2 none :: zALL
theorem kX0_expectAtMost : Cond.code yX0_expectAtMost cX0_expectAtMost 2 none ∈ zALL := aw_457
abbrev cX2_consider : ByteArray := prog_4_method_6_code
def yX2_consider : MethodName := ⟨RX2, "consider", "(III)V"⟩
abbrev wsX2_consider : List Cond := Cond.code yX2_consider cX2_consider 6 none :: zALL
theorem kX2_consider : Cond.code yX2_consider cX2_consider 6 none ∈ zALL := aw_462
abbrev cX2_cheapestEnd : ByteArray := prog_4_method_8_code
def yX2_cheapestEnd : MethodName := ⟨RX2, "cheapestEnd", "(I)I"⟩
abbrev wsX2_cheapestEnd : List Cond := Cond.code yX2_cheapestEnd cX2_cheapestEnd 5 ((Option.some Jvm.ClassFile.FieldType.int)) :: zALL
theorem kX2_cheapestEnd : Cond.code yX2_cheapestEnd cX2_cheapestEnd 5 ((Option.some Jvm.ClassFile.FieldType.int)) ∈ zALL := aw_466
abbrev cX5_bitsOf : ByteArray := prog_1_method_19_code
def yX5_bitsOf : MethodName := ⟨RX5, "bitsOf", "(I)I"⟩
abbrev wsX5_bitsOf : List Cond := Cond.code yX5_bitsOf cX5_bitsOf 2 ((Option.some Jvm.ClassFile.FieldType.int)) :: zALL
theorem kX5_bitsOf : Cond.code yX5_bitsOf cX5_bitsOf 2 ((Option.some Jvm.ClassFile.FieldType.int)) ∈ zALL := aw_469
abbrev cX1_add : ByteArray := prog_3_method_4_code
def yX1_add : MethodName := ⟨RX1, "add", "(II)V"⟩
abbrev wsX1_add : List Cond := Cond.code yX1_add cX1_add 3 none :: zALL
theorem kX1_add : Cond.code yX1_add cX1_add 3 none ∈ zALL := aw_473
abbrev cX5_takeWhatIsSought : ByteArray := prog_1_method_15_code
def yX5_takeWhatIsSought : MethodName := ⟨RX5, "takeWhatIsSought", "()V"⟩
abbrev wsX5_takeWhatIsSought : List Cond := Cond.code yX5_takeWhatIsSought cX5_takeWhatIsSought 2 none :: zALL
theorem kX5_takeWhatIsSought : Cond.code yX5_takeWhatIsSought cX5_takeWhatIsSought 2 none ∈ zALL := aw_480
abbrev cX5_stretch : ByteArray := prog_1_method_11_code
def yX5_stretch : MethodName := ⟨RX5, "stretch", "(II)I"⟩
abbrev wsX5_stretch : List Cond := Cond.code yX5_stretch cX5_stretch 3 ((Option.some Jvm.ClassFile.FieldType.int)) :: zALL
theorem kX5_stretch : Cond.code yX5_stretch cX5_stretch 3 ((Option.some Jvm.ClassFile.FieldType.int)) ∈ zALL := aw_484
abbrev cX5_about : ByteArray := prog_1_method_12_code
def yX5_about : MethodName := ⟨RX5, "about", "(I)I"⟩
abbrev wsX5_about : List Cond := Cond.code yX5_about cX5_about 2 ((Option.some Jvm.ClassFile.FieldType.int)) :: zALL
theorem kX5_about : Cond.code yX5_about cX5_about 2 ((Option.some Jvm.ClassFile.FieldType.int)) ∈ zALL := aw_488
abbrev cX5_unlike : ByteArray := prog_1_method_13_code
def yX5_unlike : MethodName := ⟨RX5, "unlike", "()I"⟩
abbrev wsX5_unlike : List Cond := Cond.code yX5_unlike cX5_unlike 1 ((Option.some Jvm.ClassFile.FieldType.int)) :: zALL
theorem kX5_unlike : Cond.code yX5_unlike cX5_unlike 1 ((Option.some Jvm.ClassFile.FieldType.int)) ∈ zALL := aw_492
abbrev cX1_differences : ByteArray := prog_3_method_5_code
def yX1_differences : MethodName := ⟨RX1, "differences", "()I"⟩
abbrev wsX1_differences : List Cond := Cond.code yX1_differences cX1_differences 3 ((Option.some Jvm.ClassFile.FieldType.int)) :: zALL
theorem kX1_differences : Cond.code yX1_differences cX1_differences 3 ((Option.some Jvm.ClassFile.FieldType.int)) ∈ zALL := aw_496
abbrev cX1_rebuild : ByteArray := prog_3_method_6_code
def yX1_rebuild : MethodName := ⟨RX1, "rebuild", "()V"⟩
abbrev wsX1_rebuild : List Cond := Cond.code yX1_rebuild cX1_rebuild 3 none :: zALL
theorem kX1_rebuild : Cond.code yX1_rebuild cX1_rebuild 3 none ∈ zALL := aw_500
abbrev cX1_copyFromData : ByteArray := prog_3_method_7_code
def yX1_copyFromData : MethodName := ⟨RX1, "copyFromData", "(II)I"⟩
abbrev wsX1_copyFromData : List Cond := Cond.code yX1_copyFromData cX1_copyFromData 5 ((Option.some Jvm.ClassFile.FieldType.int)) :: zALL
theorem kX1_copyFromData : Cond.code yX1_copyFromData cX1_copyFromData 5 ((Option.some Jvm.ClassFile.FieldType.int)) ∈ zALL := aw_504
abbrev cX1_copyFromRebuilt : ByteArray := prog_3_method_8_code
def yX1_copyFromRebuilt : MethodName := ⟨RX1, "copyFromRebuilt", "(III)I"⟩
abbrev wsX1_copyFromRebuilt : List Cond := Cond.code yX1_copyFromRebuilt cX1_copyFromRebuilt 6 ((Option.some Jvm.ClassFile.FieldType.int)) :: zALL
theorem kX1_copyFromRebuilt : Cond.code yX1_copyFromRebuilt cX1_copyFromRebuilt 6 ((Option.some Jvm.ClassFile.FieldType.int)) ∈ zALL := aw_509
abbrev cX5_size : ByteArray := prog_1_method_14_code
def yX5_size : MethodName := ⟨RX5, "size", "()I"⟩
abbrev wsX5_size : List Cond := Cond.code yX5_size cX5_size 1 ((Option.some Jvm.ClassFile.FieldType.int)) :: zALL
theorem kX5_size : Cond.code yX5_size cX5_size 1 ((Option.some Jvm.ClassFile.FieldType.int)) ∈ zALL := aw_513
abbrev cX6_init : ByteArray := prog_8_method_1_code
def yX6_init : MethodName := ⟨RX6, "<init>", "()V"⟩
abbrev wsX6_init : List Cond := Cond.code yX6_init cX6_init 1 none :: zALL
theorem kX6_init : Cond.code yX6_init cX6_init 1 none ∈ zALL := aw_518
abbrev cX6_clear : ByteArray := prog_8_method_3_code
def yX6_clear : MethodName := ⟨RX6, "clear", "()V"⟩
abbrev wsX6_clear : List Cond := Cond.code yX6_clear cX6_clear 1 none :: zALL
theorem kX6_clear : Cond.code yX6_clear cX6_clear 1 none ∈ zALL := aw_605
abbrev cX6_write : ByteArray := prog_8_method_4_code
def yX6_write : MethodName := ⟨RX6, "write", "(JI)Z"⟩
abbrev wsX6_write : List Cond := Cond.code yX6_write cX6_write 5 ((Option.some Jvm.ClassFile.FieldType.boolean)) :: zALL
theorem kX6_write : Cond.code yX6_write cX6_write 5 ((Option.some Jvm.ClassFile.FieldType.boolean)) ∈ zALL := aw_609
abbrev cX6_within : ByteArray := prog_8_method_2_code
def yX6_within : MethodName := ⟨RX6, "within", "(III)Z"⟩
abbrev wsX6_within : List Cond := Cond.code yX6_within cX6_within 3 ((Option.some Jvm.ClassFile.FieldType.boolean)) :: zALL
theorem kX6_within : Cond.code yX6_within cX6_within 3 ((Option.some Jvm.ClassFile.FieldType.boolean)) ∈ zALL := aw_612
abbrev cX6_again : ByteArray := prog_8_method_5_code
def yX6_again : MethodName := ⟨RX6, "again", "(II)Z"⟩
abbrev wsX6_again : List Cond := Cond.code yX6_again cX6_again 4 ((Option.some Jvm.ClassFile.FieldType.boolean)) :: zALL
theorem kX6_again : Cond.code yX6_again cX6_again 4 ((Option.some Jvm.ClassFile.FieldType.boolean)) ∈ zALL := aw_616
abbrev cX6_history : ByteArray := prog_8_method_6_code
def yX6_history : MethodName := ⟨RX6, "history", "(I)Z"⟩
abbrev wsX6_history : List Cond := Cond.code yX6_history cX6_history 2 ((Option.some Jvm.ClassFile.FieldType.boolean)) :: zALL
theorem kX6_history : Cond.code yX6_history cX6_history 2 ((Option.some Jvm.ClassFile.FieldType.boolean)) ∈ zALL := aw_620
abbrev cX6_rule : ByteArray := prog_8_method_7_code
def yX6_rule : MethodName := ⟨RX6, "rule", "(IIII)Z"⟩
abbrev wsX6_rule : List Cond := Cond.code yX6_rule cX6_rule 5 ((Option.some Jvm.ClassFile.FieldType.boolean)) :: zALL
theorem kX6_rule : Cond.code yX6_rule cX6_rule 5 ((Option.some Jvm.ClassFile.FieldType.boolean)) ∈ zALL := aw_624
abbrev cX6_bounds : ByteArray := prog_8_method_8_code
def yX6_bounds : MethodName := ⟨RX6, "bounds", "(IIII)Z"⟩
abbrev wsX6_bounds : List Cond := Cond.code yX6_bounds cX6_bounds 5 ((Option.some Jvm.ClassFile.FieldType.boolean)) :: zALL
theorem kX6_bounds : Cond.code yX6_bounds cX6_bounds 5 ((Option.some Jvm.ClassFile.FieldType.boolean)) ∈ zALL := aw_628
abbrev cX6_at : ByteArray := prog_8_method_17_code
def yX6_at : MethodName := ⟨RX6, "at", "(III)I"⟩
abbrev wsX6_at : List Cond := Cond.code yX6_at cX6_at 4 ((Option.some Jvm.ClassFile.FieldType.int)) :: zALL
theorem kX6_at : Cond.code yX6_at cX6_at 4 ((Option.some Jvm.ClassFile.FieldType.int)) ∈ zALL := aw_632
abbrev cX6_chosen : ByteArray := prog_8_method_16_code
def yX6_chosen : MethodName := ⟨RX6, "chosen", "(II)Z"⟩
abbrev wsX6_chosen : List Cond := Cond.code yX6_chosen cX6_chosen 6 ((Option.some Jvm.ClassFile.FieldType.boolean)) :: zALL
theorem kX6_chosen : Cond.code yX6_chosen cX6_chosen 6 ((Option.some Jvm.ClassFile.FieldType.boolean)) ∈ zALL := aw_636
abbrev cX6_nearest : ByteArray := prog_8_method_14_code
def yX6_nearest : MethodName := ⟨RX6, "nearest", "(II)Z"⟩
abbrev wsX6_nearest : List Cond := Cond.code yX6_nearest cX6_nearest 5 ((Option.some Jvm.ClassFile.FieldType.boolean)) :: zALL
theorem kX6_nearest : Cond.code yX6_nearest cX6_nearest 5 ((Option.some Jvm.ClassFile.FieldType.boolean)) ∈ zALL := aw_640
abbrev cX6_room : ByteArray := prog_8_method_11_code
def yX6_room : MethodName := ⟨RX6, "room", "(I)I"⟩
abbrev wsX6_room : List Cond := Cond.code yX6_room cX6_room 3 ((Option.some Jvm.ClassFile.FieldType.int)) :: zALL
theorem kX6_room : Cond.code yX6_room cX6_room 3 ((Option.some Jvm.ClassFile.FieldType.int)) ∈ zALL := aw_644
abbrev cX6_end : ByteArray := prog_8_method_10_code
def yX6_end : MethodName := ⟨RX6, "end", "()I"⟩
abbrev wsX6_end : List Cond := Cond.code yX6_end cX6_end 1 ((Option.some Jvm.ClassFile.FieldType.int)) :: zALL
theorem kX6_end : Cond.code yX6_end cX6_end 1 ((Option.some Jvm.ClassFile.FieldType.int)) ∈ zALL := aw_648
abbrev cX6_last : ByteArray := prog_8_method_9_code
def yX6_last : MethodName := ⟨RX6, "last", "()I"⟩
abbrev wsX6_last : List Cond := Cond.code yX6_last cX6_last 1 ((Option.some Jvm.ClassFile.FieldType.int)) :: zALL
theorem kX6_last : Cond.code yX6_last cX6_last 1 ((Option.some Jvm.ClassFile.FieldType.int)) ∈ zALL := aw_652
abbrev cX6_lowest : ByteArray := prog_8_method_13_code
def yX6_lowest : MethodName := ⟨RX6, "lowest", "(I)I"⟩
abbrev wsX6_lowest : List Cond := Cond.code yX6_lowest cX6_lowest 2 ((Option.some Jvm.ClassFile.FieldType.int)) :: zALL
theorem kX6_lowest : Cond.code yX6_lowest cX6_lowest 2 ((Option.some Jvm.ClassFile.FieldType.int)) ∈ zALL := aw_656
abbrev cX6_alike : ByteArray := prog_8_method_12_code
def yX6_alike : MethodName := ⟨RX6, "alike", "(III)I"⟩
abbrev wsX6_alike : List Cond := Cond.code yX6_alike cX6_alike 5 ((Option.some Jvm.ClassFile.FieldType.int)) :: zALL
theorem kX6_alike : Cond.code yX6_alike cX6_alike 5 ((Option.some Jvm.ClassFile.FieldType.int)) ∈ zALL := aw_660
abbrev cX6_longest : ByteArray := prog_8_method_15_code
def yX6_longest : MethodName := ⟨RX6, "longest", "(I)Z"⟩
abbrev wsX6_longest : List Cond := Cond.code yX6_longest cX6_longest 5 ((Option.some Jvm.ClassFile.FieldType.boolean)) :: zALL
theorem kX6_longest : Cond.code yX6_longest cX6_longest 5 ((Option.some Jvm.ClassFile.FieldType.boolean)) ∈ zALL := aw_664
abbrev cX6_count : ByteArray := prog_8_method_18_code
def yX6_count : MethodName := ⟨RX6, "count", "(I)I"⟩
abbrev wsX6_count : List Cond := Cond.code yX6_count cX6_count 4 ((Option.some Jvm.ClassFile.FieldType.int)) :: zALL
theorem kX6_count : Cond.code yX6_count cX6_count 4 ((Option.some Jvm.ClassFile.FieldType.int)) ∈ zALL := aw_668
abbrev cX6_go : ByteArray := prog_8_method_22_code
def yX6_go : MethodName := ⟨RX6, "go", "()I"⟩
abbrev wsX6_go : List Cond := Cond.code yX6_go cX6_go 3 ((Option.some Jvm.ClassFile.FieldType.int)) :: zALL
theorem kX6_go : Cond.code yX6_go cX6_go 3 ((Option.some Jvm.ClassFile.FieldType.int)) ∈ zALL := aw_672
abbrev cX6_reckon : ByteArray := prog_8_method_24_code
def yX6_reckon : MethodName := ⟨RX6, "reckon", "()V"⟩
abbrev wsX6_reckon : List Cond := Cond.code yX6_reckon cX6_reckon 8 none :: zALL
theorem kX6_reckon : Cond.code yX6_reckon cX6_reckon 8 none ∈ zALL := aw_676
abbrev cX6_better : ByteArray := prog_8_method_25_code
def yX6_better : MethodName := ⟨RX6, "better", "(III)V"⟩
abbrev wsX6_better : List Cond := Cond.code yX6_better cX6_better 7 none :: zALL
theorem kX6_better : Cond.code yX6_better cX6_better 7 none ∈ zALL := aw_680
abbrev cX6_bits : ByteArray := prog_8_method_19_code
def yX6_bits : MethodName := ⟨RX6, "bits", "(I)I"⟩
abbrev wsX6_bits : List Cond := Cond.code yX6_bits cX6_bits 3 ((Option.some Jvm.ClassFile.FieldType.int)) :: zALL
theorem kX6_bits : Cond.code yX6_bits cX6_bits 3 ((Option.some Jvm.ClassFile.FieldType.int)) ∈ zALL := aw_683
abbrev cX6_reckoned : ByteArray := prog_8_method_23_code
def yX6_reckoned : MethodName := ⟨RX6, "reckoned", "(I)Z"⟩
abbrev wsX6_reckoned : List Cond := Cond.code yX6_reckoned cX6_reckoned 2 ((Option.some Jvm.ClassFile.FieldType.boolean)) :: zALL
theorem kX6_reckoned : Cond.code yX6_reckoned cX6_reckoned 2 ((Option.some Jvm.ClassFile.FieldType.boolean)) ∈ zALL := aw_687
abbrev cX6_match : ByteArray := prog_8_method_21_code
def yX6_match : MethodName := ⟨RX6, "match", "()V"⟩
abbrev wsX6_match : List Cond := Cond.code yX6_match cX6_match 1 none :: zALL
theorem kX6_match : Cond.code yX6_match cX6_match 1 none ∈ zALL := aw_691
abbrev cX6_literal : ByteArray := prog_8_method_20_code
def yX6_literal : MethodName := ⟨RX6, "literal", "()V"⟩
abbrev wsX6_literal : List Cond := Cond.code yX6_literal cX6_literal 1 none :: zALL
theorem kX6_literal : Cond.code yX6_literal cX6_literal 1 none ∈ zALL := aw_695
abbrev cX6_stretch : ByteArray := prog_8_method_26_code
def yX6_stretch : MethodName := ⟨RX6, "stretch", "(II)I"⟩
abbrev wsX6_stretch : List Cond := Cond.code yX6_stretch cX6_stretch 3 ((Option.some Jvm.ClassFile.FieldType.int)) :: zALL
theorem kX6_stretch : Cond.code yX6_stretch cX6_stretch 3 ((Option.some Jvm.ClassFile.FieldType.int)) ∈ zALL := aw_699
abbrev cX6_about : ByteArray := prog_8_method_27_code
def yX6_about : MethodName := ⟨RX6, "about", "(I)I"⟩
abbrev wsX6_about : List Cond := Cond.code yX6_about cX6_about 5 ((Option.some Jvm.ClassFile.FieldType.int)) :: zALL
theorem kX6_about : Cond.code yX6_about cX6_about 5 ((Option.some Jvm.ClassFile.FieldType.int)) ∈ zALL := aw_703
abbrev cX6_unlike : ByteArray := prog_8_method_28_code
def yX6_unlike : MethodName := ⟨RX6, "unlike", "()I"⟩
abbrev wsX6_unlike : List Cond := Cond.code yX6_unlike cX6_unlike 5 ((Option.some Jvm.ClassFile.FieldType.int)) :: zALL
theorem kX6_unlike : Cond.code yX6_unlike cX6_unlike 5 ((Option.some Jvm.ClassFile.FieldType.int)) ∈ zALL := aw_707
abbrev cX6_size : ByteArray := prog_8_method_29_code
def yX6_size : MethodName := ⟨RX6, "size", "()I"⟩
abbrev wsX6_size : List Cond := Cond.code yX6_size cX6_size 1 ((Option.some Jvm.ClassFile.FieldType.int)) :: zALL
theorem kX6_size : Cond.code yX6_size cX6_size 1 ((Option.some Jvm.ClassFile.FieldType.int)) ∈ zALL := aw_711
abbrev cL_law : ByteArray := code
end
section
/-- an Int32 by its value -/
def vI (z : Int) : Int32 := Int32.ofInt z
theorem vI_T {z : Int} (h1 : -2147483648 ≤ z) (h2 : z < 2147483648) : (vI z).toInt = z := Int32.toInt_ofInt_of_le (by omega) (by omega)
theorem vI_of (x : Int32) : x = vI x.toInt := (Int32.ofInt_toInt x).symm
theorem vI_ex (x : Int32) : ∃ z : Int, (-2147483648 ≤ z ∧ z < 2147483648) ∧ x = vI z := ⟨x.toInt, ⟨by have := x.le_toInt; omega, by have := x.toInt_lt; omega⟩, vI_of x⟩
theorem vI_add (a b : Int) : vI a + vI b = vI (a + b) := (Int32.ofInt_add a b).symm
theorem vI_sub (a b : Int) : vI a - vI b = vI (a - b) := (Int32.ofInt_sub a b).symm
theorem vI_mul (a b : Int) : vI a * vI b = vI (a * b) := (Int32.ofInt_mul a b).symm
abbrev vB (z : Int) : Prop := -2147483648 ≤ z ∧ z < 2147483648
theorem vI_le {a b : Int} (ha : vB a) (hb : vB b) : vI a ≤ vI b ↔ a ≤ b := by rw [Int32.le_iff_toInt_le, vI_T ha.1 ha.2, vI_T hb.1 hb.2]
theorem vI_lt {a b : Int} (ha : vB a) (hb : vB b) : vI a < vI b ↔ a < b := by rw [Int32.lt_iff_toInt_lt, vI_T ha.1 ha.2, vI_T hb.1 hb.2]
theorem vI_eq {a b : Int} (ha : vB a) (hb : vB b) : vI a = vI b ↔ a = b := ⟨fun h => by rw [← vI_T ha.1 ha.2, h, vI_T hb.1 hb.2], fun h => by rw [h]⟩
theorem vB_0 : vB 0 := ⟨by omega, by omega⟩
theorem vI_cl {k : Nat} (h : k < 2147483648) : (vI (k : Int)).toNatClampNeg = k := by
  show (vI (k : Int)).toInt.toNat = k
  rw [vI_T (by omega) (by omega)]
  exact Int.toNat_natCast k
theorem vI_in {k n : Nat} (h : k < n) (hn : n ≤ 2147483647) : vp_in (vI (k : Int)) n := vp_in_iff.mpr (by rw [vI_T (by omega) (by omega)]; omega)
theorem vI_nat (k : Nat) : Int32.ofNat k = vI (k : Int) := Int32.ofInt_eq_ofNat.symm
theorem vI_div {a b : Int} (ha : 0 ≤ a ∧ a < 2147483648) (hb : 0 < b ∧ b < 2147483648) : vI a / vI b = vI (a / b) := by
  have h1 : vI b ≠ -1 := fun h => by
    have h2 := congrArg Int32.toInt h
    rw [vI_T (by omega) (by omega)] at h2
    have h3 : (-1 : Int32).toInt = -1 := by decide
    omega
  have h4 : 0 ≤ a / b := Int.ediv_nonneg ha.1 (by omega)
  have h5 : a / b ≤ a := Int.ediv_le_self b ha.1
  apply Int32.toInt.inj
  rw [Int32.toInt_div_of_ne_right _ _ h1, vI_T (by omega) (by omega), vI_T (by omega) (by omega), vI_T (by omega) (by omega), Int.tdiv_eq_ediv_of_nonneg ha.1]
theorem vI_max {x y : Int} (hx : vB x) (hy : vB y) : (if vI x < vI y then vI y else vI x) = vI (max x y) := by
  by_cases h : x < y
  · rw [if_pos ((vI_lt hx hy).mpr h)]; congr 1; omega
  · rw [if_neg (fun q => h ((vI_lt hx hy).mp q))]; congr 1; omega
theorem vI_min {x y : Int} (hx : vB x) (hy : vB y) : (if vI y < vI x then vI y else vI x) = vI (min x y) := by
  by_cases h : y < x
  · rw [if_pos ((vI_lt hy hx).mpr h)]; congr 1; omega
  · rw [if_neg (fun q => h ((vI_lt hy hx).mp q))]; congr 1; omega
/-- a row of numbers, one place set -/
def zU (g : Nat → Int) (k : Nat) (z : Int) : Nat → Int := fun j => if j = k then z else g j
theorem zU_s {g : Nat → Int} {k : Nat} {z : Int} : zU g k z k = z := by simp [zU]
theorem zU_n {g : Nat → Int} {k j : Nat} {z : Int} (h : j ≠ k) : zU g k z j = g j := by simp [zU, h]
/-- an array's cell, its contents by value -/
abbrev ia (a : Nat) (cA : ClassId) (n : Nat) (g : Nat → Int) : Nat × va_E := (a, .inl (cA, n, .inl (fun j => vI (g j))))
theorem vI_nb {z : Int} (h : -128 ≤ z ∧ z < 128) : vp_nar .byte (vI z) = vI z := by
  rw [vp_nar_byte]
  apply Int32.toInt.inj
  rw [Int8.toInt_toInt32, show (vI z).toInt8 = Int8.ofInt z from Int32.toInt8_ofInt, Int8.toInt_ofInt_of_le (by omega) (by omega), vI_T (by omega) (by omega)]
section ZW
variable {p : Program} {l : Launch} {e : Env} {R : Room} {s : State} {m : MethodId} {args : Array Value} {below : List Frame} {meth : Method} {c : Code} {H : Heap} {locs : List Loc} {cells slots : Nat} {Q : State → Prop} {cc : ByteArray} {pc : Nat} {ls : Array Slot} {rest : List Value} {D : va_G} {cl : List vw_C} {A : Nat → Prop} {a : Nat} {tys : List (ClassId × FieldType)} {ws : va_W} {H0 : Heap}
theorem zw_iconst (hx : p.tables.exec = Jvm.exec) (hb : c.code = cc) {n : Int} (hdg : decode cc pc = .ok (.iconst n, 1)) (k : W p l e R s m args below meth c H locs cells slots Q (F0 m (pc + 1) ls (.int (vI n) :: rest))) : W p l e R s m args below meth c H locs cells slots Q (F0 m pc ls (rest)) := lv_iconst hx hb hdg rfl k
theorem zw_bipush (hx : p.tables.exec = Jvm.exec) (hb : c.code = cc) {n : Int} (hdg : decode cc pc = .ok (.bipush n, 2)) (hv : (Int8.ofInt n).toInt32 = vI n) (k : W p l e R s m args below meth c H locs cells slots Q (F0 m (pc + 2) ls (.int (vI n) :: rest))) : W p l e R s m args below meth c H locs cells slots Q (F0 m pc ls (rest)) := lv_bipush hx hb hdg hv k
theorem zw_sipush (hx : p.tables.exec = Jvm.exec) (hb : c.code = cc) {n : Int} (hdg : decode cc pc = .ok (.sipush n, 3)) (hv : (Int16.ofInt n).toInt32 = vI n) (k : W p l e R s m args below meth c H locs cells slots Q (F0 m (pc + 3) ls (.int (vI n) :: rest))) : W p l e R s m args below meth c H locs cells slots Q (F0 m pc ls (rest)) := lv_sipush hx hb hdg hv k
theorem zw_as {x : Int32} {z : Int} (h : x = vI z) (k : W p l e R s m args below meth c H locs cells slots Q (F0 m pc ls (.int (vI z) :: rest))) : W p l e R s m args below meth c H locs cells slots Q (F0 m pc ls (.int x :: rest)) := h ▸ k
theorem zw_to {z z2 : Int} (h : z = z2) (k : W p l e R s m args below meth c H locs cells slots Q (F0 m pc ls (.int (vI z2) :: rest))) : W p l e R s m args below meth c H locs cells slots Q (F0 m pc ls (.int (vI z) :: rest)) := h ▸ k
theorem zw_tol {x z2 : Int64} (h : x = z2) (k : W p l e R s m args below meth c H locs cells slots Q (F0 m pc ls (.long z2 :: rest))) : W p l e R s m args below meth c H locs cells slots Q (F0 m pc ls (.long x :: rest)) := h ▸ k
theorem zw_iadd (hx : p.tables.exec = Jvm.exec) (hb : c.code = cc) {x y : Int} (hdg : decode cc pc = .ok (.iadd, 1)) (k : W p l e R s m args below meth c H locs cells slots Q (F0 m (pc + 1) ls (.int (vI (x + y)) :: rest))) : W p l e R s m args below meth c H locs cells slots Q (F0 m pc ls (.int (vI y) :: .int (vI x) :: rest)) := lv_iadd hx hb hdg (by rw [vI_add]; exact k)
theorem zw_isub (hx : p.tables.exec = Jvm.exec) (hb : c.code = cc) {x y : Int} (hdg : decode cc pc = .ok (.isub, 1)) (k : W p l e R s m args below meth c H locs cells slots Q (F0 m (pc + 1) ls (.int (vI (x - y)) :: rest))) : W p l e R s m args below meth c H locs cells slots Q (F0 m pc ls (.int (vI y) :: .int (vI x) :: rest)) := lv_isub hx hb hdg (by rw [vI_sub]; exact k)
theorem zw_imul (hx : p.tables.exec = Jvm.exec) (hb : c.code = cc) {x y : Int} (hdg : decode cc pc = .ok (.imul, 1)) (k : W p l e R s m args below meth c H locs cells slots Q (F0 m (pc + 1) ls (.int (vI (x * y)) :: rest))) : W p l e R s m args below meth c H locs cells slots Q (F0 m pc ls (.int (vI y) :: .int (vI x) :: rest)) := lv_imul hx hb hdg (by rw [vI_mul]; exact k)
theorem zw_idiv (hx : p.tables.exec = Jvm.exec) (hb : c.code = cc) {x y : Int} (hdg : decode cc pc = .ok (.idiv, 1)) (h1 : 0 ≤ x ∧ x < 2147483648) (h2 : 0 < y ∧ y < 2147483648) (k : W p l e R s m args below meth c H locs cells slots Q (F0 m (pc + 1) ls (.int (vI (x / y)) :: rest))) : W p l e R s m args below meth c H locs cells slots Q (F0 m pc ls (.int (vI y) :: .int (vI x) :: rest)) := lv_idiv hx hb hdg (fun h => by have h3 : y = 0 := (vI_eq ⟨by omega, by omega⟩ vB_0).mp h; omega) (by rw [vI_div h1 h2]; exact k)
theorem zw_if_eq (hx : p.tables.exec = Jvm.exec) (hb : c.code = cc) {x : Int} {off : Int} {tgt : Nat} (hdg : decode cc pc = .ok (.ifCond .eq off, 3)) (ht : (pc : Int) + off = (tgt : Int)) (hz : vB x) (kt : x = 0 → W p l e R s m args below meth c H locs cells slots Q (F0 m tgt ls rest)) (kf : ¬ x = 0 → W p l e R s m args below meth c H locs cells slots Q (F0 m (pc + 3) ls rest)) : W p l e R s m args below meth c H locs cells slots Q (F0 m pc ls (.int (vI x) :: rest)) := lv_if_eq hx hb hdg ht (fun h => kt ((vI_eq hz vB_0).mp h)) (fun h => kf (fun q => h ((vI_eq hz vB_0).mpr q)))
theorem zw_icmp_eq (hx : p.tables.exec = Jvm.exec) (hb : c.code = cc) {x y : Int} {off : Int} {tgt : Nat} (hdg : decode cc pc = .ok (.if_icmp .eq off, 3)) (ht : (pc : Int) + off = (tgt : Int)) (hz : vB x) (hy : vB y) (kt : x = y → W p l e R s m args below meth c H locs cells slots Q (F0 m tgt ls rest)) (kf : ¬ x = y → W p l e R s m args below meth c H locs cells slots Q (F0 m (pc + 3) ls rest)) : W p l e R s m args below meth c H locs cells slots Q (F0 m pc ls (.int (vI y) :: .int (vI x) :: rest)) := lv_icmp_eq hx hb hdg ht (fun h => kt ((vI_eq hz hy).mp h)) (fun h => kf (fun q => h ((vI_eq hz hy).mpr q)))
theorem zw_if_ne (hx : p.tables.exec = Jvm.exec) (hb : c.code = cc) {x : Int} {off : Int} {tgt : Nat} (hdg : decode cc pc = .ok (.ifCond .ne off, 3)) (ht : (pc : Int) + off = (tgt : Int)) (hz : vB x) (kt : ¬ x = 0 → W p l e R s m args below meth c H locs cells slots Q (F0 m tgt ls rest)) (kf : x = 0 → W p l e R s m args below meth c H locs cells slots Q (F0 m (pc + 3) ls rest)) : W p l e R s m args below meth c H locs cells slots Q (F0 m pc ls (.int (vI x) :: rest)) := lv_if_ne hx hb hdg ht (fun h => kt (fun q => h ((vI_eq hz vB_0).mpr q))) (fun h => kf ((vI_eq hz vB_0).mp h))
theorem zw_icmp_ne (hx : p.tables.exec = Jvm.exec) (hb : c.code = cc) {x y : Int} {off : Int} {tgt : Nat} (hdg : decode cc pc = .ok (.if_icmp .ne off, 3)) (ht : (pc : Int) + off = (tgt : Int)) (hz : vB x) (hy : vB y) (kt : ¬ x = y → W p l e R s m args below meth c H locs cells slots Q (F0 m tgt ls rest)) (kf : x = y → W p l e R s m args below meth c H locs cells slots Q (F0 m (pc + 3) ls rest)) : W p l e R s m args below meth c H locs cells slots Q (F0 m pc ls (.int (vI y) :: .int (vI x) :: rest)) := lv_icmp_ne hx hb hdg ht (fun h => kt (fun q => h ((vI_eq hz hy).mpr q))) (fun h => kf ((vI_eq hz hy).mp h))
theorem zw_if_lt (hx : p.tables.exec = Jvm.exec) (hb : c.code = cc) {x : Int} {off : Int} {tgt : Nat} (hdg : decode cc pc = .ok (.ifCond .lt off, 3)) (ht : (pc : Int) + off = (tgt : Int)) (hz : vB x) (kt : x < 0 → W p l e R s m args below meth c H locs cells slots Q (F0 m tgt ls rest)) (kf : 0 ≤ x → W p l e R s m args below meth c H locs cells slots Q (F0 m (pc + 3) ls rest)) : W p l e R s m args below meth c H locs cells slots Q (F0 m pc ls (.int (vI x) :: rest)) := lv_if_lt hx hb hdg ht (fun h => kt ((vI_lt hz vB_0).mp h)) (fun h => kf (Int.not_lt.mp (fun q => h ((vI_lt hz vB_0).mpr q))))
theorem zw_icmp_lt (hx : p.tables.exec = Jvm.exec) (hb : c.code = cc) {x y : Int} {off : Int} {tgt : Nat} (hdg : decode cc pc = .ok (.if_icmp .lt off, 3)) (ht : (pc : Int) + off = (tgt : Int)) (hz : vB x) (hy : vB y) (kt : x < y → W p l e R s m args below meth c H locs cells slots Q (F0 m tgt ls rest)) (kf : y ≤ x → W p l e R s m args below meth c H locs cells slots Q (F0 m (pc + 3) ls rest)) : W p l e R s m args below meth c H locs cells slots Q (F0 m pc ls (.int (vI y) :: .int (vI x) :: rest)) := lv_icmp_lt hx hb hdg ht (fun h => kt ((vI_lt hz hy).mp h)) (fun h => kf (Int.not_lt.mp (fun q => h ((vI_lt hz hy).mpr q))))
theorem zw_if_ge (hx : p.tables.exec = Jvm.exec) (hb : c.code = cc) {x : Int} {off : Int} {tgt : Nat} (hdg : decode cc pc = .ok (.ifCond .ge off, 3)) (ht : (pc : Int) + off = (tgt : Int)) (hz : vB x) (kt : 0 ≤ x → W p l e R s m args below meth c H locs cells slots Q (F0 m tgt ls rest)) (kf : x < 0 → W p l e R s m args below meth c H locs cells slots Q (F0 m (pc + 3) ls rest)) : W p l e R s m args below meth c H locs cells slots Q (F0 m pc ls (.int (vI x) :: rest)) := lv_if_ge hx hb hdg ht (fun h => kt ((vI_le vB_0 hz).mp h)) (fun h => kf (Int.not_le.mp (fun q => h ((vI_le vB_0 hz).mpr q))))
theorem zw_icmp_ge (hx : p.tables.exec = Jvm.exec) (hb : c.code = cc) {x y : Int} {off : Int} {tgt : Nat} (hdg : decode cc pc = .ok (.if_icmp .ge off, 3)) (ht : (pc : Int) + off = (tgt : Int)) (hz : vB x) (hy : vB y) (kt : y ≤ x → W p l e R s m args below meth c H locs cells slots Q (F0 m tgt ls rest)) (kf : x < y → W p l e R s m args below meth c H locs cells slots Q (F0 m (pc + 3) ls rest)) : W p l e R s m args below meth c H locs cells slots Q (F0 m pc ls (.int (vI y) :: .int (vI x) :: rest)) := lv_icmp_ge hx hb hdg ht (fun h => kt ((vI_le hy hz).mp h)) (fun h => kf (Int.not_le.mp (fun q => h ((vI_le hy hz).mpr q))))
theorem zw_if_gt (hx : p.tables.exec = Jvm.exec) (hb : c.code = cc) {x : Int} {off : Int} {tgt : Nat} (hdg : decode cc pc = .ok (.ifCond .gt off, 3)) (ht : (pc : Int) + off = (tgt : Int)) (hz : vB x) (kt : 0 < x → W p l e R s m args below meth c H locs cells slots Q (F0 m tgt ls rest)) (kf : x ≤ 0 → W p l e R s m args below meth c H locs cells slots Q (F0 m (pc + 3) ls rest)) : W p l e R s m args below meth c H locs cells slots Q (F0 m pc ls (.int (vI x) :: rest)) := lv_if_gt hx hb hdg ht (fun h => kt ((vI_lt vB_0 hz).mp h)) (fun h => kf (Int.not_lt.mp (fun q => h ((vI_lt vB_0 hz).mpr q))))
theorem zw_icmp_gt (hx : p.tables.exec = Jvm.exec) (hb : c.code = cc) {x y : Int} {off : Int} {tgt : Nat} (hdg : decode cc pc = .ok (.if_icmp .gt off, 3)) (ht : (pc : Int) + off = (tgt : Int)) (hz : vB x) (hy : vB y) (kt : y < x → W p l e R s m args below meth c H locs cells slots Q (F0 m tgt ls rest)) (kf : x ≤ y → W p l e R s m args below meth c H locs cells slots Q (F0 m (pc + 3) ls rest)) : W p l e R s m args below meth c H locs cells slots Q (F0 m pc ls (.int (vI y) :: .int (vI x) :: rest)) := lv_icmp_gt hx hb hdg ht (fun h => kt ((vI_lt hy hz).mp h)) (fun h => kf (Int.not_lt.mp (fun q => h ((vI_lt hy hz).mpr q))))
theorem zw_if_le (hx : p.tables.exec = Jvm.exec) (hb : c.code = cc) {x : Int} {off : Int} {tgt : Nat} (hdg : decode cc pc = .ok (.ifCond .le off, 3)) (ht : (pc : Int) + off = (tgt : Int)) (hz : vB x) (kt : x ≤ 0 → W p l e R s m args below meth c H locs cells slots Q (F0 m tgt ls rest)) (kf : 0 < x → W p l e R s m args below meth c H locs cells slots Q (F0 m (pc + 3) ls rest)) : W p l e R s m args below meth c H locs cells slots Q (F0 m pc ls (.int (vI x) :: rest)) := lv_if_le hx hb hdg ht (fun h => kt ((vI_le hz vB_0).mp h)) (fun h => kf (Int.not_le.mp (fun q => h ((vI_le hz vB_0).mpr q))))
theorem zw_icmp_le (hx : p.tables.exec = Jvm.exec) (hb : c.code = cc) {x y : Int} {off : Int} {tgt : Nat} (hdg : decode cc pc = .ok (.if_icmp .le off, 3)) (ht : (pc : Int) + off = (tgt : Int)) (hz : vB x) (hy : vB y) (kt : x ≤ y → W p l e R s m args below meth c H locs cells slots Q (F0 m tgt ls rest)) (kf : y < x → W p l e R s m args below meth c H locs cells slots Q (F0 m (pc + 3) ls rest)) : W p l e R s m args below meth c H locs cells slots Q (F0 m pc ls (.int (vI y) :: .int (vI x) :: rest)) := lv_icmp_le hx hb hdg ht (fun h => kt ((vI_le hz hy).mp h)) (fun h => kf (Int.not_le.mp (fun q => h ((vI_le hz hy).mpr q))))
theorem zw_iald (hx : p.tables.exec = Jvm.exec) (hb : c.code = cc) (hK : va_K D cl tys s) (hP : va_P D cl ws H) (q0 t0 : Nat) {cA : ClassId} {n : Nat} {g : Nat → Int} (ha : ws[q0]? = some (ia a cA n g)) (ht : tys[t0]? = some (cA, .int)) {z : Int} (k : Nat) (hz : z = (k : Int)) (hk : k < n) (hn : n ≤ 2147483647) (hdg : decode cc pc = .ok (.iaload, 1)) (kk : W p l e R s m args below meth c H locs cells slots Q (F0 m (pc + 1) ls (.int (vI (g k)) :: rest))) : W p l e R s m args below meth c H locs cells slots Q (F0 m pc ls (.int (vI z) :: .ref a :: rest)) := by
  subst hz
  refine va_iald hx hb hK hP q0 t0 ha ht (vI_in hk hn) hdg ?_
  rw [vI_cl (by omega)]
  exact kk
theorem zw_iast (hx : p.tables.exec = Jvm.exec) (hb : c.code = cc) (hK : va_K D cl tys s) (hP : va_P D cl ws H) (hD : va_D A ws) (hS : va_S A H0 H locs) (q0 t0 : Nat) {cA : ClassId} {n : Nat} {g : Nat → Int} (ha : ws[q0]? = some (ia a cA n g)) (ht : tys[t0]? = some (cA, .int)) {z x : Int} (k : Nat) (hz : z = (k : Int)) (hk : k < n) (hn : n ≤ 2147483647) (hdg : decode cc pc = .ok (.iastore, 1)) (kk : ∀ (H1 : Heap) (locs1 : List Loc), va_P D cl (ws.set q0 (ia a cA n (zU g k x))) H1 → va_D A (ws.set q0 (ia a cA n (zU g k x))) → va_S A H0 H1 locs1 → W p l e R s m args below meth c H1 locs1 cells slots Q (F0 m (pc + 1) ls rest)) : W p l e R s m args below meth c H locs cells slots Q (F0 m pc ls (.int (vI x) :: .int (vI z) :: .ref a :: rest)) := by
  subst hz
  have e0 : upd (fun j => vI (g j)) (vI (k : Int)).toNatClampNeg (vI x) = fun j => vI (zU g k x j) := by
    funext j
    rw [vI_cl (by omega)]
    unfold upd zU
    by_cases h : j = k <;> simp [h]
  refine va_iast hx hb hK hP hD hS q0 t0 ha ht (vI_in hk hn) hdg (fun H1 locs1 p1 d1 s1 => ?_)
  rw [e0] at p1 d1
  exact kk H1 locs1 p1 d1 s1
theorem zw_bald (hx : p.tables.exec = Jvm.exec) (hb : c.code = cc) (hK : va_K D cl tys s) (hP : va_P D cl ws H) (q0 t0 : Nat) {cA : ClassId} {n : Nat} {g : Nat → Int} (ha : ws[q0]? = some (ia a cA n g)) (ht : tys[t0]? = some (cA, .byte)) {z : Int} (k : Nat) (hz : z = (k : Int)) (hk : k < n) (hn : n ≤ 2147483647) (hdg : decode cc pc = .ok (.baload, 1)) (kk : W p l e R s m args below meth c H locs cells slots Q (F0 m (pc + 1) ls (.int (vI (g k)) :: rest))) : W p l e R s m args below meth c H locs cells slots Q (F0 m pc ls (.int (vI z) :: .ref a :: rest)) := by
  subst hz
  refine va_bald hx hb hK hP q0 t0 ha ht (vI_in hk hn) hdg ?_
  rw [vI_cl (by omega)]
  exact kk
theorem zw_bast (hx : p.tables.exec = Jvm.exec) (hb : c.code = cc) (hK : va_K D cl tys s) (hP : va_P D cl ws H) (hD : va_D A ws) (hS : va_S A H0 H locs) (q0 t0 : Nat) {cA : ClassId} {n : Nat} {g : Nat → Int} (ha : ws[q0]? = some (ia a cA n g)) (ht : tys[t0]? = some (cA, .byte)) {z x : Int} (k : Nat) (hz : z = (k : Int)) (hk : k < n) (hn : n ≤ 2147483647) (hv : -128 ≤ x ∧ x < 128) (hdg : decode cc pc = .ok (.bastore, 1)) (kk : ∀ (H1 : Heap) (locs1 : List Loc), va_P D cl (ws.set q0 (ia a cA n (zU g k x))) H1 → va_D A (ws.set q0 (ia a cA n (zU g k x))) → va_S A H0 H1 locs1 → W p l e R s m args below meth c H1 locs1 cells slots Q (F0 m (pc + 1) ls rest)) : W p l e R s m args below meth c H locs cells slots Q (F0 m pc ls (.int (vI x) :: .int (vI z) :: .ref a :: rest)) := by
  subst hz
  have e0 : upd (fun j => vI (g j)) (vI (k : Int)).toNatClampNeg (vp_nar .byte (vI x)) = fun j => vI (zU g k x j) := by
    funext j
    rw [vI_cl (by omega), vI_nb hv]
    unfold upd zU
    by_cases h : j = k <;> simp [h]
  refine va_bast hx hb hK hP hD hS q0 t0 ha ht (vI_in hk hn) hdg (fun H1 locs1 p1 d1 s1 => ?_)
  rw [e0] at p1 d1
  exact kk H1 locs1 p1 d1 s1
theorem zw_alen (hx : p.tables.exec = Jvm.exec) (hb : c.code = cc) (hK : va_K D cl tys s) (hP : va_P D cl ws H) (q0 t0 : Nat) {cA : ClassId} {n : Nat} {g : Nat → Int} (ha : ws[q0]? = some (ia a cA n g)) {ty : FieldType} (ht : tys[t0]? = some (cA, ty)) (hdg : decode cc pc = .ok (.arraylength, 1)) (kk : W p l e R s m args below meth c H locs cells slots Q (F0 m (pc + 1) ls (.int (vI (n : Int)) :: rest))) : W p l e R s m args below meth c H locs cells slots Q (F0 m pc ls (.ref a :: rest)) := va_alen hx hb hK hP q0 t0 ha ht (vI_nat n) hdg kk
theorem zw_newi (hx : p.tables.exec = Jvm.exec) (hb : c.code = cc) (harr : (Cond.arrayClass (newarray.typeOf .int)).before args s = true) (hK : va_K D cl tys s) (hP : va_P D cl ws H) (hD : va_D A ws) (hS : va_S A H0 H locs) (hA : ∀ q, H0.size ≤ q → A q) (t0 : Nat) {cA : ClassId} (ht : tys[t0]? = some (cA, .int)) {z : Int} (N : Nat) (hz : z = (N : Int)) (hN : N ≤ 1000000) (hcells : cells + 1 ≤ R.cells) (hslots : slots + N ≤ R.slots) (hdg : decode cc pc = .ok (.newarray .int, 2)) (kk : ∀ (q : Nat) (H1 : Heap), va_P D cl (ws ++ [ia q cA N (fun _ => 0)]) H1 → va_D A (ws ++ [ia q cA N (fun _ => 0)]) → va_S A H0 H1 locs → W p l e R s m args below meth c H1 locs (cells + 1) (slots + N) Q (F0 m (pc + 2) ls (.ref q :: rest))) : W p l e R s m args below meth c H locs cells slots Q (F0 m pc ls (.int (vI z) :: rest)) := by
  subst hz
  refine va_newa hx hb harr (ty := .int) rfl hK hP hD hS hA (a0 := (N, .inl (fun _ => vI 0))) (fun _ => rfl) (fun h => by have h2 := (vI_lt ⟨by omega, by omega⟩ vB_0).mp h; omega) (vI_cl (by omega)) (Nat.le_trans (Nat.mul_le_mul hN (show componentBytes .int ≤ 8 by decide)) (by decide)) hcells hslots hdg (fun q cB H1 hK1 hP1 hD1 hS1 => ?_)
  have e0 : cB = cA := by
    have h1 : s.vm.findClass ("[" ++ FieldType.toString .int) = some cB := (hK1.2 tys.length (cB, .int) (by simp)).2
    have h2 : s.vm.findClass ("[" ++ FieldType.toString .int) = some cA := (hK.2 t0 _ ht).2
    exact Option.some.inj (h1.symm.trans h2)
  subst e0
  exact kk q H1 hP1 hD1 hS1
theorem zw_newb (hx : p.tables.exec = Jvm.exec) (hb : c.code = cc) (harr : (Cond.arrayClass (newarray.typeOf .byte)).before args s = true) (hK : va_K D cl tys s) (hP : va_P D cl ws H) (hD : va_D A ws) (hS : va_S A H0 H locs) (hA : ∀ q, H0.size ≤ q → A q) (t0 : Nat) {cA : ClassId} (ht : tys[t0]? = some (cA, .byte)) {z : Int} (N : Nat) (hz : z = (N : Int)) (hN : N ≤ 1000000) (hcells : cells + 1 ≤ R.cells) (hslots : slots + N ≤ R.slots) (hdg : decode cc pc = .ok (.newarray .byte, 2)) (kk : ∀ (q : Nat) (H1 : Heap), va_P D cl (ws ++ [ia q cA N (fun _ => 0)]) H1 → va_D A (ws ++ [ia q cA N (fun _ => 0)]) → va_S A H0 H1 locs → W p l e R s m args below meth c H1 locs (cells + 1) (slots + N) Q (F0 m (pc + 2) ls (.ref q :: rest))) : W p l e R s m args below meth c H locs cells slots Q (F0 m pc ls (.int (vI z) :: rest)) := by
  subst hz
  refine va_newa hx hb harr (ty := .byte) rfl hK hP hD hS hA (a0 := (N, .inl (fun _ => vI 0))) (fun _ => rfl) (fun h => by have h2 := (vI_lt ⟨by omega, by omega⟩ vB_0).mp h; omega) (vI_cl (by omega)) (Nat.le_trans (Nat.mul_le_mul hN (show componentBytes .byte ≤ 8 by decide)) (by decide)) hcells hslots hdg (fun q cB H1 hK1 hP1 hD1 hS1 => ?_)
  have e0 : cB = cA := by
    have h1 : s.vm.findClass ("[" ++ FieldType.toString .byte) = some cB := (hK1.2 tys.length (cB, .byte) (by simp)).2
    have h2 : s.vm.findClass ("[" ++ FieldType.toString .byte) = some cA := (hK.2 t0 _ ht).2
    exact Option.some.inj (h1.symm.trans h2)
  subst e0
  exact kk q H1 hP1 hD1 hS1
end ZW
/-- the nest mates' links, as the state has them -/
def zNs (U : State) : Prop := ∀ w ∈ nwL, va_Nw w U
theorem zNs_warm {s U : State} (hW : s.WarmedH U.vm) (h : zNs s) : zNs U := by
  intro w hw
  have h1 := nwL_is w hw
  have h2 := h w hw
  cases w <;> first | exact va_Nw.warmF hW h2 | exact va_Nw.warmM hW h2 | (exact absurd h1 (by simp [zIsN]))
theorem zNs_same {u U : State} (e : u.vm = U.vm) (h : zNs u) : zNs U := by
  intro w hw
  have h1 := nwL_is w hw
  have h2 := h w hw
  cases w <;> first | exact va_Nw.same rfl e h2 | (exact absurd h1 (by simp [zIsN]))
/-- a contract's start: its cells, the tables -/
def zPre (D : va_G) (cl : List vw_C) (tys : List (ClassId × FieldType)) (ws : va_W) (sz : Nat) : State → Prop := fun U => U.heap.size = sz ∧ va_P D cl ws U.heap ∧ va_K D cl tys U ∧ zNs U ∧ va_D (fun _ => True) ws
/-- its end: the cells behind it -/
def zB (D : va_G) (cl : List vw_C) (A : Nat → Prop) (ws : va_W) (t : State) : Prop := va_P D cl ws t.heap ∧ va_D A ws
theorem zPre_blind {D : va_G} {cl : List vw_C} {tys : List (ClassId × FieldType)} {ws : va_W} {sz : Nat} {av : List Value} : FrameBlind (va_Pc av (zPre D cl tys ws sz)) := by
  intro a U g mk q
  obtain ⟨q0, q1, qP, qK, qN, qD⟩ := q
  exact ⟨q0, q1, qP, va_K.moved (u := U) (U := U.calling g mk a) (Vm.Alike.refl U.vm) qK, zNs_same (u := U) (U := U.calling g mk a) rfl qN, qD⟩
theorem zPre_of {D : va_G} {cl : List vw_C} {tys : List (ClassId × FieldType)} {ws : va_W} {av : List Value} {s : State} {H : Heap} {A : Nat → Prop} (hK : va_K D cl tys s) (hns : zNs s) (hP : va_P D cl ws H) (hD : va_D A ws) : ∀ U : State, U.heap = H → s.WarmedH U.vm → va_Pc av (zPre D cl tys ws H.size) av.toArray U :=
  fun U hU hW => ⟨rfl, by rw [hU], by rw [hU]; exact hP, va_K.moved hW.alike hK, zNs_warm hW hns, hD.weaken (fun _ _ _ _ => trivial)⟩
theorem zMet {l : Launch} {y : MethodName} {wds : List Cond} {rm : Room} {cc : ByteArray} {maxL : Nat} {ret : Option FieldType} {D : va_G} {cl : List vw_C} {tys : List (ClassId × FieldType)} {av : List Value} {W0 : va_W} {sz : Nat} {Qc : Array Value → State → Outcome → State → Prop} {mc ms : Nat}
    (hy : plainName y.cls = true) (hw : wds = Cond.code y cc maxL ret :: zALL) (hlen : (lg_sl av).length ≤ maxL)
    (body : ∀ (p : Program) (e : Env) (s : State) (m : MethodId) (below : List Frame) (meth : Method) (c : Code), p.tables.exec = Jvm.exec → c.code = cc → meth.sig.returnType = ret → (∀ w ∈ zALL, w.before av.toArray s = true) → s.vm.findClass y.cls = some m.cls → meth.locks = false → meth.name = y.name → c.maxLocals = maxL → va_K D cl tys s → zNs s → (∀ q, s.heap.size ≤ q → va_A W0 sz q) → va_P D cl W0 s.heap → va_D (va_A W0 sz) W0 → va_S (va_A W0 sz) s.heap s.heap [] →
      ∀ ls : Array Slot, lv_has ls maxL (lv_args 0 av) → W p l e rm s m av.toArray below meth c s.heap [] 0 0 (MQ below Qc av.toArray s mc ms (va_A W0 sz)) (F0 m 0 ls [])) :
    Met l y wds rm (va_Pc av (zPre D cl tys W0 sz)) Qc mc ms (va_A W0 sz) := by
  refine Met.ofW (cc := cc) (maxL := maxL) (ret := ret) hy hw ?_
  intro p e s m args below meth c s₁ B hml hv
  obtain ⟨rfl, hsz, hP, hK, hN, hD0⟩ := hv
  have hts0 := atoms_spec (ws := wds) B.pre
  have hts : ∀ w ∈ zALL, w.before av.toArray s = true := fun w h => hts0 w (by rw [hw]; exact List.mem_cons_of_mem _ h)
  have hown : s.vm.findClass y.cls = some m.cls := findClass_of_methodNamed B.named
  rw [lg_entry_eq]
  exact body p e s m below meth c B.exec B.bytes B.returns hts hown B.notSynchronized (name_of_methodNamed B.named B.method).1 hml hK hN (fun q h => Or.inr (hsz ▸ h)) hP hD0.self va_S.rf _ (lv_entry av hlen)
section ZC
variable {p : Program} {l : Launch} {e : Env} {R : Room} {s : State} {m : MethodId} {args : Array Value} {below : List Frame} {meth : Method} {c : Code} {H : Heap} {locs : List Loc} {cells slots : Nat} {Q : State → Prop} {cc : ByteArray} {pc : Nat} {ls : Array Slot} {rest : List Value} {D : va_G} {cl : List vw_C} {A : Nat → Prop} {a : Nat} {tys : List (ClassId × FieldType)} {ws : va_W} {H0 : Heap}
variable {mc ms : Nat} {st0 : List Value} {av : Array Value}
theorem zc_i {S : Type} {post : Int32 → S → Prop} {Wc wr : va_W} {W1 : S → va_W} (hr : va_Run p l e R s m args below meth c H locs cells slots mc ms (F0 m pc ls st0) rest (va_Qi post (fun u t => zB D cl (va_A Wc H.size) (W1 u) t) (va_A Wc H.size) av) (va_A Wc H.size)) (hP : va_P D cl ws H) (hD : va_D A ws) (hS : va_S A H0 H locs) (hA : ∀ q, H0.size ≤ q → A q) (isC isR : List Nat) (hC : isC.map (fun i => ws[i]?) = Wc.map some) (hR : isR.map (fun i => ws[i]?) = wr.map some) (hn : va_nd isR = true) (hdis : ∀ i ∈ isR, i ∉ isC)
    (kk : ∀ (r : Int32) (u : S) (H1 : Heap) (locs1 : List Loc), post r u → va_P D cl (wr ++ W1 u) H1 → va_D A (wr ++ W1 u) → va_S A H0 H1 locs1 → W p l e R s m args below meth c H1 locs1 (cells + mc) (slots + ms) Q (F0 m (pc + 3) ls (.int r :: rest))) : W p l e R s m args below meth c H locs cells slots Q (F0 m pc ls st0) := by
  have hF := va_free (wc := Wc) hD hS hA isC hC
  refine va_calli hr hS (fun q _ h => hF q h) hF (fun r u t H1 locs1 ht hvm hw hB hz hk hS1 => ?_)
  obtain ⟨p1, d1⟩ := hB
  rw [ht] at p1
  obtain ⟨a1, b1⟩ := va_join hP hD isC isR hC hR hn hdis hk hF p1 d1
  exact kk r u H1 locs1 hw a1 b1 hS1
theorem zc_v {S : Type} {post : S → Prop} {Wc wr : va_W} {W1 : S → va_W} (hr : va_Run p l e R s m args below meth c H locs cells slots mc ms (F0 m pc ls st0) rest (va_Qv post (fun u t => zB D cl (va_A Wc H.size) (W1 u) t) (va_A Wc H.size) av) (va_A Wc H.size)) (hP : va_P D cl ws H) (hD : va_D A ws) (hS : va_S A H0 H locs) (hA : ∀ q, H0.size ≤ q → A q) (isC isR : List Nat) (hC : isC.map (fun i => ws[i]?) = Wc.map some) (hR : isR.map (fun i => ws[i]?) = wr.map some) (hn : va_nd isR = true) (hdis : ∀ i ∈ isR, i ∉ isC)
    (kk : ∀ (u : S) (H1 : Heap) (locs1 : List Loc), post u → va_P D cl (wr ++ W1 u) H1 → va_D A (wr ++ W1 u) → va_S A H0 H1 locs1 → W p l e R s m args below meth c H1 locs1 (cells + mc) (slots + ms) Q (F0 m (pc + 3) ls rest)) : W p l e R s m args below meth c H locs cells slots Q (F0 m pc ls st0) := by
  have hF := va_free (wc := Wc) hD hS hA isC hC
  refine va_callv hr hS (fun q _ h => hF q h) hF (fun u t H1 locs1 ht hvm hw hB hz hk hS1 => ?_)
  obtain ⟨p1, d1⟩ := hB
  rw [ht] at p1
  obtain ⟨a1, b1⟩ := va_join hP hD isC isR hC hR hn hdis hk hF p1 d1
  exact kk u H1 locs1 hw a1 b1 hS1
theorem zc_r {S : Type} {post : S → Prop} {Wc wr : va_W} {W1 : S → Nat → va_W} (hr : va_Run p l e R s m args below meth c H locs cells slots mc ms (F0 m pc ls st0) rest (va_Qr post (fun u ra t => zB D cl (va_A Wc H.size) (W1 u ra) t) (va_A Wc H.size) av) (va_A Wc H.size)) (hP : va_P D cl ws H) (hD : va_D A ws) (hS : va_S A H0 H locs) (hA : ∀ q, H0.size ≤ q → A q) (isC isR : List Nat) (hC : isC.map (fun i => ws[i]?) = Wc.map some) (hR : isR.map (fun i => ws[i]?) = wr.map some) (hn : va_nd isR = true) (hdis : ∀ i ∈ isR, i ∉ isC)
    (kk : ∀ (u : S) (ra : Nat) (H1 : Heap) (locs1 : List Loc), post u → va_P D cl (wr ++ W1 u ra) H1 → va_D A (wr ++ W1 u ra) → va_S A H0 H1 locs1 → W p l e R s m args below meth c H1 locs1 (cells + mc) (slots + ms) Q (F0 m (pc + 3) ls (.ref ra :: rest))) : W p l e R s m args below meth c H locs cells slots Q (F0 m pc ls st0) := by
  have hF := va_free (wc := Wc) hD hS hA isC hC
  refine va_callr hr hS (fun q _ h => hF q h) hF (fun u ra t H1 locs1 ht hvm hw hB hz hk hS1 => ?_)
  obtain ⟨p1, d1⟩ := hB
  rw [ht] at p1
  obtain ⟨a1, b1⟩ := va_join hP hD isC isR hC hR hn hdis hk hF p1 d1
  exact kk u ra H1 locs1 hw a1 b1 hS1
theorem zr_r {S : Type} {post : S → Prop} {W1 : S → Nat → va_W} {ty : FieldType} (hx : p.tables.exec = Jvm.exec) (hb : c.code = cc) (hr : meth.sig.returnType = some (.array ty)) (hlocks : meth.locks = false) (u : S) (ra : Nat) (hpost : post u) (hP : va_P D cl (W1 u ra) H) (hD : va_D A (W1 u ra)) (hS : va_S A s.heap H locs) (hdg : decode cc pc = .ok (.areturn, 1)) : W p l e R s m args below meth c H locs cells slots (MQ below (va_Qr post (fun u ra t => zB D cl A (W1 u ra) t) A) args s cells slots A) (F0 m pc ls [.ref ra]) :=
  W.aret hx hb hr (Or.inr ⟨_, rfl⟩) (Or.inr ⟨_, rfl⟩) (fun t ht _ => ⟨⟨u, ra, rfl, hpost, by rw [ht]; exact hP, hD⟩, hS.F ht⟩) hS.2.2 hdg hlocks
theorem zw_copyb (hx : p.tables.exec = Jvm.exec) (hb : c.code = cc) (hml : c.maxLocals = ls.size) {own : String} {index : Nat} (hown : s.vm.findClass own = some m.cls) (hlink : (Cond.methodLink own index arraycopyName).before args s = true) (hnat : (Cond.native arraycopyName).before args s = true) (hstat : (Cond.static arraycopyName).before args s = true) (hini : (Cond.initialized "java/lang/System").before args s = true)
    (hK : va_K D cl tys s) (hP : va_P D cl ws H) (hD : va_D A ws) (hS : va_S A H0 H locs) (q0 q1 t0 : Nat) {a0 : Nat} {cB : ClassId} {n0 n1 : Nat} {g g1 : Nat → Int} (ha0 : ws[q0]? = some (ia a0 cB n0 g)) (ha1 : ws[q1]? = some (ia a cB n1 g1)) (ht : tys[t0]? = some (cB, .byte)) {z : Int} (k : Nat) (hz : z = (k : Int)) (h0 : k ≤ n0) (h1 : k ≤ n1) (hk : k ≤ 2147483647) (hby : ∀ j, -128 ≤ g j ∧ g j < 128)
    (hframes : 1 ≤ R.frames) (hlocals : (rest.map fun v => v.category).sum + (nativeFrameWords "java/lang/System" "arraycopy" 5 + 11) ≤ R.locals) (hdg : decode cc pc = .ok (.invokestatic index, 3))
    (kk : ∀ (H1 : Heap) (locs1 : List Loc), va_P D cl (ws.set q1 (ia a cB n1 (fun j => if j < k then g j else g1 j))) H1 → va_D A (ws.set q1 (ia a cB n1 (fun j => if j < k then g j else g1 j))) → va_S A H0 H1 locs1 → W p l e R s m args below meth c H1 locs1 cells slots Q (F0 m (pc + 3) ls rest)) : W p l e R s m args below meth c H locs cells slots Q (F0 m pc ls (.int (vI z) :: .int (vI 0) :: .ref a :: .int (vI 0) :: .ref a0 :: rest)) := by
  subst hz
  have e1 : (vI 0).toNatClampNeg = 0 := vI_cl (k := 0) (by omega)
  have e2 : (vI (k : Int)).toNatClampNeg = k := vI_cl (by omega)
  have nn : ∀ j : Nat, j ≤ 2147483647 → ¬ vI (j : Int) < 0 := fun j hj h => by
    have h2 := (vI_lt (b := 0) ⟨by omega, by omega⟩ vB_0).mp h
    omega
  have e0 : va_cpy (fun j => vI (g j)) (fun j => vI (g1 j)) (vI 0).toNatClampNeg (vI 0).toNatClampNeg (vI (k : Int)).toNatClampNeg = fun j => vI ((fun j => if j < k then g j else g1 j) j) := by
    funext j
    rw [e1, e2]
    by_cases h : j < k
    · rw [pk_cpy_in (by omega) (by omega)]
      simp [h]
    · rw [pk_cpy_out (Or.inr (by omega))]
      simp [h]
  refine va_copyi hx hb hml hown hlink hnat hstat hini hK hP hD hS q0 q1 t0 t0 (ty := .byte) ha0 ha1 ht ht rfl (nn 0 (by omega)) (nn 0 (by omega)) (nn k hk) (by rw [e1, e2]; omega) (by rw [e1, e2]; omega) (fun i _ => ?_) hframes hlocals hdg (fun H1 locs1 p1 d1 s1 => ?_)
  · have h3 := vI_nb (hby ((vI 0).toNatClampNeg + i))
    rw [vp_nar_byte] at h3
    rw [← h3]
    exact pk_fb _
  · rw [e0] at p1 d1
    exact kk H1 locs1 p1 d1 s1
theorem zr_i {S : Type} {post : Int32 → S → Prop} {W1 : S → va_W} {v : Int32} (hx : p.tables.exec = Jvm.exec) (hb : c.code = cc) (hr : meth.sig.returnType = some .int) (hlocks : meth.locks = false) (u : S) (hpost : post v u) (hP : va_P D cl (W1 u) H) (hD : va_D A (W1 u)) (hS : va_S A s.heap H locs) (hdg : decode cc pc = .ok (.ireturn, 1)) : W p l e R s m args below meth c H locs cells slots (MQ below (va_Qi post (fun u t => zB D cl A (W1 u) t) A) args s cells slots A) (F0 m pc ls [.int v]) :=
  W.iret (v := v) hx hb hr (fun t ht _ => ⟨⟨v, u, rfl, hpost, by rw [ht]; exact hP, hD⟩, hS.F ht⟩) hS.2.2 hdg hlocks
theorem zr_z {S : Type} {post : Int32 → S → Prop} {W1 : S → va_W} {v : Int32} (hx : p.tables.exec = Jvm.exec) (hb : c.code = cc) (hr : meth.sig.returnType = some .boolean) (hlocks : meth.locks = false) (u : S) (hn : narrow .boolean (.int v) = .int v) (hpost : post v u) (hP : va_P D cl (W1 u) H) (hD : va_D A (W1 u)) (hS : va_S A s.heap H locs) (hdg : decode cc pc = .ok (.ireturn, 1)) : W p l e R s m args below meth c H locs cells slots (MQ below (va_Qi post (fun u t => zB D cl A (W1 u) t) A) args s cells slots A) (F0 m pc ls [.int v]) :=
  W.zret (v := v) hx hb hr hn (fun t ht _ => ⟨⟨v, u, rfl, hpost, by rw [ht]; exact hP, hD⟩, hS.F ht⟩) hS.2.2 hdg hlocks
theorem zr_v {S : Type} {post : S → Prop} {W1 : S → va_W} (hx : p.tables.exec = Jvm.exec) (hb : c.code = cc) (hr : meth.sig.returnType = none) (hlocks : meth.locks = false) (u : S) (hpost : post u) (hP : va_P D cl (W1 u) H) (hD : va_D A (W1 u)) (hS : va_S A s.heap H locs) (hdg : decode cc pc = .ok (.return_, 1)) : W p l e R s m args below meth c H locs cells slots (MQ below (va_Qv post (fun u t => zB D cl A (W1 u) t) A) args s cells slots A) (F0 m pc ls []) :=
  W.vret hx hb hr (fun t ht _ => ⟨⟨u, rfl, hpost, by rw [ht]; exact hP, hD⟩, hS.F ht⟩) hS.2.2 hdg hlocks
end ZC
end
section
/-- how many of at most k bytes from p on are those from q on -/
def zrun (d : Nat → Int) : Nat → Nat → Nat → Nat
  | 0, _, _ => 0
  | k + 1, p, q => if d p = d q then zrun d k (p + 1) (q + 1) + 1 else 0
theorem zrun_le (d : Nat → Int) : ∀ k p q, zrun d k p q ≤ k := by
  intro k
  induction k with
  | zero => intro p q; exact Nat.le_refl 0
  | succ k ih =>
    intro p q
    unfold zrun
    split
    · exact Nat.succ_le_succ (ih _ _)
    · exact Nat.zero_le _
theorem zrun_all (d : Nat → Int) : ∀ k p q j, j < zrun d k p q → d (p + j) = d (q + j) := by
  intro k
  induction k with
  | zero => intro p q j h; exact absurd h (Nat.not_lt_zero j)
  | succ k ih =>
    intro p q j h
    unfold zrun at h
    split at h
    · rename_i e
      cases j with
      | zero => exact e
      | succ j =>
        have h2 := ih (p + 1) (q + 1) j (by omega)
        rw [show p + (j + 1) = p + 1 + j by omega, show q + (j + 1) = q + 1 + j by omega]
        exact h2
    · exact absurd h (Nat.not_lt_zero j)
theorem zrun_ge (d : Nat → Int) : ∀ k p q r, r ≤ k → (∀ j, j < r → d (p + j) = d (q + j)) → r ≤ zrun d k p q := by
  intro k
  induction k with
  | zero => intro p q r h _; omega
  | succ k ih =>
    intro p q r h hj
    cases r with
    | zero => exact Nat.zero_le _
    | succ r =>
      unfold zrun
      rw [if_pos (show d p = d q from hj 0 (by omega))]
      refine Nat.succ_le_succ (ih (p + 1) (q + 1) r (by omega) (fun j h2 => ?_))
      have h3 := hj (j + 1) (by omega)
      rw [show p + 1 + j = p + (j + 1) by omega, show q + 1 + j = q + (j + 1) by omega]
      exact h3
theorem zrun_is {d : Nat → Int} {k p q r : Nat} (h1 : r ≤ k) (h2 : ∀ j, j < r → d (p + j) = d (q + j)) (h3 : r = k ∨ ¬ d (p + r) = d (q + r)) : zrun d k p q = r := by
  have a := zrun_ge d k p q r h1 h2
  have b := zrun_le d k p q
  rcases h3 with h | h
  · omega
  · rcases Nat.lt_or_ge r (zrun d k p q) with z | z
    · exact absurd (zrun_all d k p q r z) h
    · omega
theorem zrun_min (d : Nat → Int) (k k2 p q : Nat) : zrun d (min k k2) p q = min (zrun d k p q) k2 := by
  have a := zrun_le d k p q
  refine zrun_is (by omega) (fun j h => zrun_all d k p q j (by omega)) ?_
  by_cases h : min (zrun d k p q) k2 = min k k2
  · exact Or.inl h
  · refine Or.inr (fun e => ?_)
    have h2 : min (zrun d k p q) k2 = zrun d k p q := by omega
    rw [h2] at e
    have h3 := zrun_ge d k p q (zrun d k p q + 1) (by omega) (fun j hj => by
      rcases Nat.lt_or_ge j (zrun d k p q) with z | z
      · exact zrun_all d k p q j z
      · rw [show j = zrun d k p q by omega]; exact e)
    omega
/-- the greatest place below c whose slot is s, or -1 -/
def zprev (sl : Nat → Nat) (s : Nat) : Nat → Int
  | 0 => -1
  | c + 1 => if sl c = s then (c : Int) else zprev sl s c
theorem zprev_lt (sl : Nat → Nat) (s : Nat) : ∀ c, -1 ≤ zprev sl s c ∧ zprev sl s c < c := by
  intro c
  induction c with
  | zero => exact ⟨by unfold zprev; omega, by unfold zprev; omega⟩
  | succ c ih =>
    unfold zprev
    split <;> omega
theorem zprev_sl (sl : Nat → Nat) (s : Nat) : ∀ c (q : Nat), zprev sl s c = q → sl q = s := by
  intro c
  induction c with
  | zero => intro q h; unfold zprev at h; omega
  | succ c ih =>
    intro q h
    unfold zprev at h
    split at h
    · rename_i e
      rw [show q = c by omega]; exact e
    · exact ih q h
theorem zprev_none (sl : Nat → Nat) (s : Nat) : ∀ c (q : Nat), zprev sl s c < q → q < c → ¬ sl q = s := by
  intro c
  induction c with
  | zero => intro q _ h; omega
  | succ c ih =>
    intro q h1 h2 e
    unfold zprev at h1
    split at h1
    · rename_i e2
      omega
    · rename_i e2
      rcases Nat.lt_or_ge q c with z | z
      · exact ih q h1 z e
      · rw [show q = c by omega] at e
        exact e2 e
/-- of the places below c and not below lo the nearest with more than b bytes alike -/
def zfnd (f : Nat → Nat) (lo b : Nat) : Nat → Option Nat
  | 0 => none
  | c + 1 => if lo ≤ c ∧ b < f c then some c else zfnd f lo b c
theorem zfnd_skip {f : Nat → Nat} {lo b : Nat} : ∀ (c c2 : Nat), c2 ≤ c → (∀ q, c2 ≤ q → q < c → lo ≤ q → f q ≤ b) → zfnd f lo b c = zfnd f lo b c2 := by
  intro c
  induction c with
  | zero => intro c2 h _; rw [show c2 = 0 by omega]
  | succ c ih =>
    intro c2 h hq
    rcases Nat.eq_or_lt_of_le h with e | e
    · rw [e]
    · rw [zfnd, if_neg (fun z => by have := hq c (by omega) (by omega) z.1; omega)]
      exact ih c2 (by omega) (fun q h1 h2 h3 => hq q h1 (by omega) h3)
theorem zfnd_none {f : Nat → Nat} {lo b : Nat} : ∀ (c : Nat), (∀ q, q < c → lo ≤ q → f q ≤ b) → zfnd f lo b c = none := by
  intro c h
  rw [zfnd_skip c 0 (by omega) (fun q _ h2 h3 => h q h2 h3)]
  rfl
theorem zfnd_some {f : Nat → Nat} {lo b : Nat} : ∀ (c q : Nat), zfnd f lo b c = some q → q < c ∧ lo ≤ q ∧ b < f q ∧ ∀ r, q < r → r < c → lo ≤ r → f r ≤ b := by
  intro c
  induction c with
  | zero => intro q h; cases h
  | succ c ih =>
    intro q h
    rw [zfnd] at h
    split at h
    · rename_i e
      cases h
      exact ⟨by omega, e.1, e.2, fun r h1 h2 _ => by omega⟩
    · rename_i e
      obtain ⟨h1, h2, h3, h4⟩ := ih q h
      refine ⟨by omega, h2, h3, fun r g1 g2 g3 => ?_⟩
      rcases Nat.lt_or_ge r c with z | z
      · exact h4 r g1 z g3
      · rw [show r = c by omega] at g3 ⊢
        rcases Nat.lt_or_ge b (f c) with y | y
        · exact absurd ⟨g3, y⟩ e
        · exact y
theorem zfnd_noneE {f : Nat → Nat} {lo b : Nat} : ∀ (c : Nat), zfnd f lo b c = none → ∀ q, q < c → lo ≤ q → f q ≤ b := by
  intro c
  induction c with
  | zero => intro _ q h; omega
  | succ c ih =>
    intro h q h1 h2
    rw [zfnd] at h
    split at h
    · cases h
    · rename_i e
      rcases Nat.lt_or_ge q c with z | z
      · exact ih h q z h2
      · rw [show q = c by omega] at h2 ⊢
        rcases Nat.lt_or_ge b (f c) with y | y
        · exact absurd ⟨h2, y⟩ e
        · exact y
/-- the longest of the places below c, of several the nearest: its length and its place, from a best so far -/
def zbest (f : Nat → Nat) (lo : Nat) : Nat → Nat × Nat → Nat × Nat
  | 0, u => u
  | c + 1, u => zbest f lo c (if lo ≤ c ∧ u.1 < f c then (f c, c) else u)
theorem zbest_skip {f : Nat → Nat} {lo : Nat} {u : Nat × Nat} : ∀ (c c2 : Nat), c2 ≤ c → (∀ q, c2 ≤ q → q < c → lo ≤ q → f q ≤ u.1) → zbest f lo c u = zbest f lo c2 u := by
  intro c
  induction c with
  | zero => intro c2 h _; rw [show c2 = 0 by omega]
  | succ c ih =>
    intro c2 h hq
    rcases Nat.eq_or_lt_of_le h with e | e
    · rw [e]
    · rw [zbest, if_neg (fun z => by have := hq c (by omega) (by omega) z.1; omega)]
      exact ih c2 (by omega) (fun q h1 h2 h3 => hq q h1 (by omega) h3)
theorem zbest_fnd {f : Nat → Nat} {lo c q : Nat} {u : Nat × Nat} (h : zfnd f lo u.1 c = some q) : zbest f lo c u = zbest f lo q (f q, q) := by
  obtain ⟨h1, h2, h3, h4⟩ := zfnd_some c q h
  rw [zbest_skip c (q + 1) (by omega) (fun r g1 g2 g3 => h4 r (by omega) g2 g3), zbest, if_pos ⟨h2, h3⟩]
theorem zbest_end {f : Nat → Nat} {lo c : Nat} {u : Nat × Nat} (h : zfnd f lo u.1 c = none) : zbest f lo c u = u := by
  rw [zbest_skip c 0 (by omega) (fun r _ g2 g3 => zfnd_noneE c h r g2 g3)]
  rfl
/-- how many places below c have at least t bytes alike -/
def zcnt (f : Nat → Nat) (lo t : Nat) : Nat → Nat
  | 0 => 0
  | c + 1 => zcnt f lo t c + (if lo ≤ c ∧ t ≤ f c then 1 else 0)
theorem zcnt_skip {f : Nat → Nat} {lo t : Nat} : ∀ (c c2 : Nat), c2 ≤ c → (∀ q, c2 ≤ q → q < c → lo ≤ q → f q < t) → zcnt f lo t c = zcnt f lo t c2 := by
  intro c
  induction c with
  | zero => intro c2 h _; rw [show c2 = 0 by omega]
  | succ c ih =>
    intro c2 h hq
    rcases Nat.eq_or_lt_of_le h with e | e
    · rw [e]
    · rw [zcnt, if_neg (fun z => by have := hq c (by omega) (by omega) z.1; omega)]
      exact ih c2 (by omega) (fun q h1 h2 h3 => hq q h1 (by omega) h3)
theorem zch_none {sl : Nat → Nat} {s c lo b : Nat} {f : Nat → Nat} (h : zprev sl s c < lo) (hs : ∀ q, lo ≤ q → q < c → b < f q → sl q = s) : zfnd f lo b c = none := by
  refine zfnd_none c (fun q h1 h2 => ?_)
  rcases Nat.lt_or_ge b (f q) with y | y
  · exact absurd (hs q h2 h1 y) (zprev_none sl s c q (by omega) h1)
  · exact y
theorem zch_miss {sl : Nat → Nat} {s c lo b : Nat} {f : Nat → Nat} {q : Nat} (h : zprev sl s c = q) (hs : ∀ q, lo ≤ q → q < c → b < f q → sl q = s) (hq : f q ≤ b) : zfnd f lo b c = zfnd f lo b q := by
  have hl := zprev_lt sl s c
  refine zfnd_skip c q (by omega) (fun r h1 h2 h3 => ?_)
  rcases Nat.lt_or_ge b (f r) with y | y
  · rcases Nat.eq_or_lt_of_le h1 with e | e
    · rw [← e] at y; omega
    · exact absurd (hs r h3 h2 y) (zprev_none sl s c r (by omega) h2)
  · exact y
theorem zch_hit {sl : Nat → Nat} {s c lo b : Nat} {f : Nat → Nat} {q : Nat} (h : zprev sl s c = q) (hs : ∀ q, lo ≤ q → q < c → b < f q → sl q = s) (h1 : lo ≤ q) (hq : b < f q) : zfnd f lo b c = some q := by
  have hl := zprev_lt sl s c
  rw [zfnd_skip c (q + 1) (by omega) (fun r g1 g2 g3 => ?_), zfnd, if_pos ⟨h1, hq⟩]
  rcases Nat.lt_or_ge b (f r) with y | y
  · exact absurd (hs r g3 g2 y) (zprev_none sl s c r (by omega) g2)
  · exact y
/-- of how many bits a number is -/
def zbit (n b : Nat) : Prop := n < 2 ^ b ∧ (b = 0 ∨ 2 ^ (b - 1) ≤ n)
theorem zbit_is {n b b2 : Nat} (h : zbit n b) (h2 : zbit n b2) : b = b2 := by
  obtain ⟨h1, h3⟩ := h
  obtain ⟨g1, g3⟩ := h2
  rcases Nat.lt_trichotomy b b2 with z | z | z
  · have : 2 ^ b ≤ 2 ^ (b2 - 1) := Nat.pow_le_pow_right (by omega) (by omega)
    omega
  · exact z
  · have : 2 ^ b2 ≤ 2 ^ (b - 1) := Nat.pow_le_pow_right (by omega) (by omega)
    omega
end
section
theorem dX3_init_0 : decode cX3_init 0 = .ok (.aload_n 0, 1) := by decide +kernel
theorem dX3_init_1 : decode cX3_init 1 = .ok (.invokespecial 3, 3) := by decide +kernel
theorem dX3_init_4 : decode cX3_init 4 = .ok (.aload_n 0, 1) := by decide +kernel
theorem dX3_init_5 : decode cX3_init 5 = .ok (.sipush 512, 3) := by decide +kernel
theorem dX3_init_8 : decode cX3_init 8 = .ok (.newarray .byte, 2) := by decide +kernel
theorem dX3_init_10 : decode cX3_init 10 = .ok (.putfield 9, 3) := by decide +kernel
theorem dX3_init_13 : decode cX3_init 13 = .ok (.aload_n 0, 1) := by decide +kernel
theorem dX3_init_14 : decode cX3_init 14 = .ok (.iconst 0, 1) := by decide +kernel
theorem dX3_init_15 : decode cX3_init 15 = .ok (.putfield 15, 3) := by decide +kernel
theorem dX3_init_18 : decode cX3_init 18 = .ok (.aload_n 0, 1) := by decide +kernel
theorem dX3_init_19 : decode cX3_init 19 = .ok (.iconst 0, 1) := by decide +kernel
theorem dX3_init_20 : decode cX3_init 20 = .ok (.putfield 19, 3) := by decide +kernel
theorem dX3_init_23 : decode cX3_init 23 = .ok (.return_, 1) := by decide +kernel
theorem dX4_init_0 : decode cX4_init 0 = .ok (.aload_n 0, 1) := by decide +kernel
theorem dX4_init_1 : decode cX4_init 1 = .ok (.invokespecial 3, 3) := by decide +kernel
theorem dX4_init_4 : decode cX4_init 4 = .ok (.aload_n 0, 1) := by decide +kernel
theorem dX4_init_5 : decode cX4_init 5 = .ok (.iconst 2, 1) := by decide +kernel
theorem dX4_init_6 : decode cX4_init 6 = .ok (.putfield 9, 3) := by decide +kernel
theorem dX4_init_9 : decode cX4_init 9 = .ok (.aload_n 0, 1) := by decide +kernel
theorem dX4_init_10 : decode cX4_init 10 = .ok (.ldc 15, 2) := by decide +kernel
theorem dX4_init_12 : decode cX4_init 12 = .ok (.putfield 16, 3) := by decide +kernel
theorem dX4_init_15 : decode cX4_init 15 = .ok (.aload_n 0, 1) := by decide +kernel
theorem dX4_init_16 : decode cX4_init 16 = .ok (.iconst 4, 1) := by decide +kernel
theorem dX4_init_17 : decode cX4_init 17 = .ok (.putfield 19, 3) := by decide +kernel
theorem dX4_init_20 : decode cX4_init 20 = .ok (.aload_n 0, 1) := by decide +kernel
theorem dX4_init_21 : decode cX4_init 21 = .ok (.ldc 22, 2) := by decide +kernel
theorem dX4_init_23 : decode cX4_init 23 = .ok (.putfield 23, 3) := by decide +kernel
theorem dX4_init_26 : decode cX4_init 26 = .ok (.aload_n 0, 1) := by decide +kernel
theorem dX4_init_27 : decode cX4_init 27 = .ok (.iconst 0, 1) := by decide +kernel
theorem dX4_init_28 : decode cX4_init 28 = .ok (.putfield 26, 3) := by decide +kernel
theorem dX4_init_31 : decode cX4_init 31 = .ok (.aload_n 0, 1) := by decide +kernel
theorem dX4_init_32 : decode cX4_init 32 = .ok (.iconst 0, 1) := by decide +kernel
theorem dX4_init_33 : decode cX4_init 33 = .ok (.putfield 29, 3) := by decide +kernel
theorem dX4_init_36 : decode cX4_init 36 = .ok (.aload_n 0, 1) := by decide +kernel
theorem dX4_init_37 : decode cX4_init 37 = .ok (.bipush 8, 2) := by decide +kernel
theorem dX4_init_39 : decode cX4_init 39 = .ok (.putfield 32, 3) := by decide +kernel
theorem dX4_init_42 : decode cX4_init 42 = .ok (.aload_n 0, 1) := by decide +kernel
theorem dX4_init_43 : decode cX4_init 43 = .ok (.bipush 16, 2) := by decide +kernel
theorem dX4_init_45 : decode cX4_init 45 = .ok (.putfield 35, 3) := by decide +kernel
theorem dX4_init_48 : decode cX4_init 48 = .ok (.return_, 1) := by decide +kernel
theorem dX3_empty_0 : decode cX3_empty 0 = .ok (.aload_n 0, 1) := by decide +kernel
theorem dX3_empty_1 : decode cX3_empty 1 = .ok (.iconst 0, 1) := by decide +kernel
theorem dX3_empty_2 : decode cX3_empty 2 = .ok (.putfield 15, 3) := by decide +kernel
theorem dX3_empty_5 : decode cX3_empty 5 = .ok (.aload_n 0, 1) := by decide +kernel
theorem dX3_empty_6 : decode cX3_empty 6 = .ok (.iconst 0, 1) := by decide +kernel
theorem dX3_empty_7 : decode cX3_empty 7 = .ok (.putfield 19, 3) := by decide +kernel
theorem dX3_empty_10 : decode cX3_empty 10 = .ok (.return_, 1) := by decide +kernel
theorem dJ7_fill_0 : decode cJ7_fill 0 = .ok (.iconst 0, 1) := by decide +kernel
theorem dJ7_fill_1 : decode cJ7_fill 1 = .ok (.istore_n 2, 1) := by decide +kernel
theorem dJ7_fill_2 : decode cJ7_fill 2 = .ok (.aload_n 0, 1) := by decide +kernel
theorem dJ7_fill_3 : decode cJ7_fill 3 = .ok (.arraylength, 1) := by decide +kernel
theorem dJ7_fill_4 : decode cJ7_fill 4 = .ok (.istore_n 3, 1) := by decide +kernel
theorem dJ7_fill_5 : decode cJ7_fill 5 = .ok (.iload_n 2, 1) := by decide +kernel
theorem dJ7_fill_6 : decode cJ7_fill 6 = .ok (.iload_n 3, 1) := by decide +kernel
theorem dJ7_fill_7 : decode cJ7_fill 7 = .ok (.if_icmp .ge 13, 3) := by decide +kernel
theorem dJ7_fill_10 : decode cJ7_fill 10 = .ok (.aload_n 0, 1) := by decide +kernel
theorem dJ7_fill_11 : decode cJ7_fill 11 = .ok (.iload_n 2, 1) := by decide +kernel
theorem dJ7_fill_12 : decode cJ7_fill 12 = .ok (.iload_n 1, 1) := by decide +kernel
theorem dJ7_fill_13 : decode cJ7_fill 13 = .ok (.iastore, 1) := by decide +kernel
theorem dJ7_fill_14 : decode cJ7_fill 14 = .ok (.iinc 2 1, 3) := by decide +kernel
theorem dJ7_fill_17 : decode cJ7_fill 17 = .ok (.goto (-12), 3) := by decide +kernel
theorem dJ7_fill_20 : decode cJ7_fill 20 = .ok (.return_, 1) := by decide +kernel
theorem dX3_takes_0 : decode cX3_takes 0 = .ok (.lload_n 1, 1) := by decide +kernel
theorem dX3_takes_1 : decode cX3_takes 1 = .ok (.ldc 22, 2) := by decide +kernel
theorem dX3_takes_3 : decode cX3_takes 3 = .ok (.aload_n 0, 1) := by decide +kernel
theorem dX3_takes_4 : decode cX3_takes 4 = .ok (.getfield 15, 3) := by decide +kernel
theorem dX3_takes_7 : decode cX3_takes 7 = .ok (.isub, 1) := by decide +kernel
theorem dX3_takes_8 : decode cX3_takes 8 = .ok (.i2l, 1) := by decide +kernel
theorem dX3_takes_9 : decode cX3_takes 9 = .ok (.lcmp, 1) := by decide +kernel
theorem dX3_takes_10 : decode cX3_takes 10 = .ok (.ifCond .gt 7, 3) := by decide +kernel
theorem dX3_takes_13 : decode cX3_takes 13 = .ok (.iconst 1, 1) := by decide +kernel
theorem dX3_takes_14 : decode cX3_takes 14 = .ok (.goto 4, 3) := by decide +kernel
theorem dX3_takes_17 : decode cX3_takes 17 = .ok (.iconst 0, 1) := by decide +kernel
theorem dX3_takes_18 : decode cX3_takes 18 = .ok (.ireturn, 1) := by decide +kernel
theorem dX3_append_0 : decode cX3_append 0 = .ok (.aload_n 0, 1) := by decide +kernel
theorem dX3_append_1 : decode cX3_append 1 = .ok (.aload_n 0, 1) := by decide +kernel
theorem dX3_append_2 : decode cX3_append 2 = .ok (.getfield 15, 3) := by decide +kernel
theorem dX3_append_5 : decode cX3_append 5 = .ok (.iload_n 3, 1) := by decide +kernel
theorem dX3_append_6 : decode cX3_append 6 = .ok (.iadd, 1) := by decide +kernel
theorem dX3_append_7 : decode cX3_append 7 = .ok (.invokevirtual 23, 3) := by decide +kernel
theorem dX3_append_10 : decode cX3_append 10 = .ok (.iconst 0, 1) := by decide +kernel
theorem dX3_append_11 : decode cX3_append 11 = .ok (.istore 4, 2) := by decide +kernel
theorem dX3_append_13 : decode cX3_append 13 = .ok (.iload 4, 2) := by decide +kernel
theorem dX3_append_15 : decode cX3_append 15 = .ok (.iload_n 3, 1) := by decide +kernel
theorem dX3_append_16 : decode cX3_append 16 = .ok (.if_icmp .ge 40, 3) := by decide +kernel
theorem dX3_append_19 : decode cX3_append 19 = .ok (.aload_n 0, 1) := by decide +kernel
theorem dX3_append_20 : decode cX3_append 20 = .ok (.getfield 9, 3) := by decide +kernel
theorem dX3_append_23 : decode cX3_append 23 = .ok (.aload_n 0, 1) := by decide +kernel
theorem dX3_append_24 : decode cX3_append 24 = .ok (.getfield 15, 3) := by decide +kernel
theorem dX3_append_27 : decode cX3_append 27 = .ok (.lload_n 1, 1) := by decide +kernel
theorem dX3_append_28 : decode cX3_append 28 = .ok (.bipush 8, 2) := by decide +kernel
theorem dX3_append_30 : decode cX3_append 30 = .ok (.bipush 7, 2) := by decide +kernel
theorem dX3_append_32 : decode cX3_append 32 = .ok (.iload 4, 2) := by decide +kernel
theorem dX3_append_34 : decode cX3_append 34 = .ok (.isub, 1) := by decide +kernel
theorem dX3_append_35 : decode cX3_append 35 = .ok (.imul, 1) := by decide +kernel
theorem dX3_append_36 : decode cX3_append 36 = .ok (.lushr, 1) := by decide +kernel
theorem dX3_append_37 : decode cX3_append 37 = .ok (.l2i, 1) := by decide +kernel
theorem dX3_append_38 : decode cX3_append 38 = .ok (.i2b, 1) := by decide +kernel
theorem dX3_append_39 : decode cX3_append 39 = .ok (.bastore, 1) := by decide +kernel
theorem dX3_append_40 : decode cX3_append 40 = .ok (.aload_n 0, 1) := by decide +kernel
theorem dX3_append_41 : decode cX3_append 41 = .ok (.dup, 1) := by decide +kernel
theorem dX3_append_42 : decode cX3_append 42 = .ok (.getfield 15, 3) := by decide +kernel
theorem dX3_append_45 : decode cX3_append 45 = .ok (.iconst 1, 1) := by decide +kernel
theorem dX3_append_46 : decode cX3_append 46 = .ok (.iadd, 1) := by decide +kernel
theorem dX3_append_47 : decode cX3_append 47 = .ok (.putfield 15, 3) := by decide +kernel
theorem dX3_append_50 : decode cX3_append 50 = .ok (.iinc 4 1, 3) := by decide +kernel
theorem dX3_append_53 : decode cX3_append 53 = .ok (.goto (-40), 3) := by decide +kernel
theorem dX3_append_56 : decode cX3_append 56 = .ok (.return_, 1) := by decide +kernel
theorem dX3_makeRoom_0 : decode cX3_makeRoom 0 = .ok (.iload_n 1, 1) := by decide +kernel
theorem dX3_makeRoom_1 : decode cX3_makeRoom 1 = .ok (.aload_n 0, 1) := by decide +kernel
theorem dX3_makeRoom_2 : decode cX3_makeRoom 2 = .ok (.getfield 9, 3) := by decide +kernel
theorem dX3_makeRoom_5 : decode cX3_makeRoom 5 = .ok (.arraylength, 1) := by decide +kernel
theorem dX3_makeRoom_6 : decode cX3_makeRoom 6 = .ok (.if_icmp .le 18, 3) := by decide +kernel
theorem dX3_makeRoom_9 : decode cX3_makeRoom 9 = .ok (.aload_n 0, 1) := by decide +kernel
theorem dX3_makeRoom_10 : decode cX3_makeRoom 10 = .ok (.aload_n 0, 1) := by decide +kernel
theorem dX3_makeRoom_11 : decode cX3_makeRoom 11 = .ok (.getfield 9, 3) := by decide +kernel
theorem dX3_makeRoom_14 : decode cX3_makeRoom 14 = .ok (.iload_n 1, 1) := by decide +kernel
theorem dX3_makeRoom_15 : decode cX3_makeRoom 15 = .ok (.invokestatic 27, 3) := by decide +kernel
theorem dX3_makeRoom_18 : decode cX3_makeRoom 18 = .ok (.invokestatic 31, 3) := by decide +kernel
theorem dX3_makeRoom_21 : decode cX3_makeRoom 21 = .ok (.putfield 9, 3) := by decide +kernel
theorem dX3_makeRoom_24 : decode cX3_makeRoom 24 = .ok (.return_, 1) := by decide +kernel
theorem dJ7_copyOf_0 : decode cJ7_copyOf 0 = .ok (.iload_n 1, 1) := by decide +kernel
theorem dJ7_copyOf_1 : decode cJ7_copyOf 1 = .ok (.aload_n 0, 1) := by decide +kernel
theorem dJ7_copyOf_2 : decode cJ7_copyOf 2 = .ok (.arraylength, 1) := by decide +kernel
theorem dJ7_copyOf_3 : decode cJ7_copyOf 3 = .ok (.if_icmp .ne 11, 3) := by decide +kernel
theorem dJ7_copyOf_6 : decode cJ7_copyOf 6 = .ok (.aload_n 0, 1) := by decide +kernel
theorem dJ7_copyOf_7 : decode cJ7_copyOf 7 = .ok (.invokevirtual 310, 3) := by decide +kernel
theorem dJ7_copyOf_10 : decode cJ7_copyOf 10 = .ok (.checkcast 311, 3) := by decide +kernel
theorem dJ7_copyOf_13 : decode cJ7_copyOf 13 = .ok (.areturn, 1) := by decide +kernel
theorem dJ7_copyOf_14 : decode cJ7_copyOf 14 = .ok (.iload_n 1, 1) := by decide +kernel
theorem dJ7_copyOf_15 : decode cJ7_copyOf 15 = .ok (.newarray .byte, 2) := by decide +kernel
theorem dJ7_copyOf_17 : decode cJ7_copyOf 17 = .ok (.astore_n 2, 1) := by decide +kernel
theorem dJ7_copyOf_18 : decode cJ7_copyOf 18 = .ok (.aload_n 0, 1) := by decide +kernel
theorem dJ7_copyOf_19 : decode cJ7_copyOf 19 = .ok (.iconst 0, 1) := by decide +kernel
theorem dJ7_copyOf_20 : decode cJ7_copyOf 20 = .ok (.aload_n 2, 1) := by decide +kernel
theorem dJ7_copyOf_21 : decode cJ7_copyOf 21 = .ok (.iconst 0, 1) := by decide +kernel
theorem dJ7_copyOf_22 : decode cJ7_copyOf 22 = .ok (.aload_n 0, 1) := by decide +kernel
theorem dJ7_copyOf_23 : decode cJ7_copyOf 23 = .ok (.arraylength, 1) := by decide +kernel
theorem dJ7_copyOf_24 : decode cJ7_copyOf 24 = .ok (.iload_n 1, 1) := by decide +kernel
theorem dJ7_copyOf_25 : decode cJ7_copyOf 25 = .ok (.invokestatic 304, 3) := by decide +kernel
theorem dJ7_copyOf_28 : decode cJ7_copyOf 28 = .ok (.invokestatic 150, 3) := by decide +kernel
theorem dJ7_copyOf_31 : decode cJ7_copyOf 31 = .ok (.aload_n 2, 1) := by decide +kernel
theorem dJ7_copyOf_32 : decode cJ7_copyOf 32 = .ok (.areturn, 1) := by decide +kernel
theorem dX3_repeat_0 : decode cX3_repeat 0 = .ok (.aload_n 0, 1) := by decide +kernel
theorem dX3_repeat_1 : decode cX3_repeat 1 = .ok (.aload_n 0, 1) := by decide +kernel
theorem dX3_repeat_2 : decode cX3_repeat 2 = .ok (.getfield 15, 3) := by decide +kernel
theorem dX3_repeat_5 : decode cX3_repeat 5 = .ok (.iload_n 2, 1) := by decide +kernel
theorem dX3_repeat_6 : decode cX3_repeat 6 = .ok (.iadd, 1) := by decide +kernel
theorem dX3_repeat_7 : decode cX3_repeat 7 = .ok (.invokevirtual 23, 3) := by decide +kernel
theorem dX3_repeat_10 : decode cX3_repeat 10 = .ok (.iconst 0, 1) := by decide +kernel
theorem dX3_repeat_11 : decode cX3_repeat 11 = .ok (.istore_n 3, 1) := by decide +kernel
theorem dX3_repeat_12 : decode cX3_repeat 12 = .ok (.iload_n 3, 1) := by decide +kernel
theorem dX3_repeat_13 : decode cX3_repeat 13 = .ok (.iload_n 2, 1) := by decide +kernel
theorem dX3_repeat_14 : decode cX3_repeat 14 = .ok (.if_icmp .ge 39, 3) := by decide +kernel
theorem dX3_repeat_17 : decode cX3_repeat 17 = .ok (.aload_n 0, 1) := by decide +kernel
theorem dX3_repeat_18 : decode cX3_repeat 18 = .ok (.getfield 9, 3) := by decide +kernel
theorem dX3_repeat_21 : decode cX3_repeat 21 = .ok (.aload_n 0, 1) := by decide +kernel
theorem dX3_repeat_22 : decode cX3_repeat 22 = .ok (.getfield 15, 3) := by decide +kernel
theorem dX3_repeat_25 : decode cX3_repeat 25 = .ok (.aload_n 0, 1) := by decide +kernel
theorem dX3_repeat_26 : decode cX3_repeat 26 = .ok (.getfield 9, 3) := by decide +kernel
theorem dX3_repeat_29 : decode cX3_repeat 29 = .ok (.aload_n 0, 1) := by decide +kernel
theorem dX3_repeat_30 : decode cX3_repeat 30 = .ok (.getfield 15, 3) := by decide +kernel
theorem dX3_repeat_33 : decode cX3_repeat 33 = .ok (.iload_n 1, 1) := by decide +kernel
theorem dX3_repeat_34 : decode cX3_repeat 34 = .ok (.isub, 1) := by decide +kernel
theorem dX3_repeat_35 : decode cX3_repeat 35 = .ok (.baload, 1) := by decide +kernel
theorem dX3_repeat_36 : decode cX3_repeat 36 = .ok (.bastore, 1) := by decide +kernel
theorem dX3_repeat_37 : decode cX3_repeat 37 = .ok (.aload_n 0, 1) := by decide +kernel
theorem dX3_repeat_38 : decode cX3_repeat 38 = .ok (.dup, 1) := by decide +kernel
theorem dX3_repeat_39 : decode cX3_repeat 39 = .ok (.getfield 15, 3) := by decide +kernel
theorem dX3_repeat_42 : decode cX3_repeat 42 = .ok (.iconst 1, 1) := by decide +kernel
theorem dX3_repeat_43 : decode cX3_repeat 43 = .ok (.iadd, 1) := by decide +kernel
theorem dX3_repeat_44 : decode cX3_repeat 44 = .ok (.putfield 15, 3) := by decide +kernel
theorem dX3_repeat_47 : decode cX3_repeat 47 = .ok (.iinc 3 1, 3) := by decide +kernel
theorem dX3_repeat_50 : decode cX3_repeat 50 = .ok (.goto (-38), 3) := by decide +kernel
theorem dX3_repeat_53 : decode cX3_repeat 53 = .ok (.return_, 1) := by decide +kernel
theorem dX3_hasPlace_0 : decode cX3_hasPlace 0 = .ok (.iload_n 1, 1) := by decide +kernel
theorem dX3_hasPlace_1 : decode cX3_hasPlace 1 = .ok (.ifCond .lt 15, 3) := by decide +kernel
theorem dX3_hasPlace_4 : decode cX3_hasPlace 4 = .ok (.iload_n 1, 1) := by decide +kernel
theorem dX3_hasPlace_5 : decode cX3_hasPlace 5 = .ok (.aload_n 0, 1) := by decide +kernel
theorem dX3_hasPlace_6 : decode cX3_hasPlace 6 = .ok (.getfield 15, 3) := by decide +kernel
theorem dX3_hasPlace_9 : decode cX3_hasPlace 9 = .ok (.if_icmp .ge 7, 3) := by decide +kernel
theorem dX3_hasPlace_12 : decode cX3_hasPlace 12 = .ok (.iconst 1, 1) := by decide +kernel
theorem dX3_hasPlace_13 : decode cX3_hasPlace 13 = .ok (.goto 4, 3) := by decide +kernel
theorem dX3_hasPlace_16 : decode cX3_hasPlace 16 = .ok (.iconst 0, 1) := by decide +kernel
theorem dX3_hasPlace_17 : decode cX3_hasPlace 17 = .ok (.ireturn, 1) := by decide +kernel
theorem dX4_endOf_0 : decode cX4_endOf 0 = .ok (.iconst 0, 1) := by decide +kernel
theorem dX4_endOf_1 : decode cX4_endOf 1 = .ok (.iload_n 1, 1) := by decide +kernel
theorem dX4_endOf_2 : decode cX4_endOf 2 = .ok (.aload_n 0, 1) := by decide +kernel
theorem dX4_endOf_3 : decode cX4_endOf 3 = .ok (.getfield 29, 3) := by decide +kernel
theorem dX4_endOf_6 : decode cX4_endOf 6 = .ok (.isub, 1) := by decide +kernel
theorem dX4_endOf_7 : decode cX4_endOf 7 = .ok (.invokestatic 38, 3) := by decide +kernel
theorem dX4_endOf_10 : decode cX4_endOf 10 = .ok (.ireturn, 1) := by decide +kernel
theorem dX4_lastOf_0 : decode cX4_lastOf 0 = .ok (.iload_n 1, 1) := by decide +kernel
theorem dX4_lastOf_1 : decode cX4_lastOf 1 = .ok (.iconst 1, 1) := by decide +kernel
theorem dX4_lastOf_2 : decode cX4_lastOf 2 = .ok (.isub, 1) := by decide +kernel
theorem dX4_lastOf_3 : decode cX4_lastOf 3 = .ok (.aload_n 0, 1) := by decide +kernel
theorem dX4_lastOf_4 : decode cX4_lastOf 4 = .ok (.getfield 26, 3) := by decide +kernel
theorem dX4_lastOf_7 : decode cX4_lastOf 7 = .ok (.isub, 1) := by decide +kernel
theorem dX4_lastOf_8 : decode cX4_lastOf 8 = .ok (.ireturn, 1) := by decide +kernel
end
section
theorem dX5_init_0 : decode cX5_init 0 = .ok (.aload_n 0, 1) := by decide +kernel
theorem dX5_init_1 : decode cX5_init 1 = .ok (.invokespecial 1, 3) := by decide +kernel
theorem dX5_init_4 : decode cX5_init 4 = .ok (.aload_n 0, 1) := by decide +kernel
theorem dX5_init_5 : decode cX5_init 5 = .ok (.new 7, 3) := by decide +kernel
theorem dX5_init_8 : decode cX5_init 8 = .ok (.dup, 1) := by decide +kernel
theorem dX5_init_9 : decode cX5_init 9 = .ok (.invokespecial 9, 3) := by decide +kernel
theorem dX5_init_12 : decode cX5_init 12 = .ok (.putfield 10, 3) := by decide +kernel
theorem dX5_init_15 : decode cX5_init 15 = .ok (.aload_n 0, 1) := by decide +kernel
theorem dX5_init_16 : decode cX5_init 16 = .ok (.new 16, 3) := by decide +kernel
theorem dX5_init_19 : decode cX5_init 19 = .ok (.dup, 1) := by decide +kernel
theorem dX5_init_20 : decode cX5_init 20 = .ok (.invokespecial 18, 3) := by decide +kernel
theorem dX5_init_23 : decode cX5_init 23 = .ok (.putfield 19, 3) := by decide +kernel
theorem dX5_init_26 : decode cX5_init 26 = .ok (.aload_n 0, 1) := by decide +kernel
theorem dX5_init_27 : decode cX5_init 27 = .ok (.new 23, 3) := by decide +kernel
theorem dX5_init_30 : decode cX5_init 30 = .ok (.dup, 1) := by decide +kernel
theorem dX5_init_31 : decode cX5_init 31 = .ok (.aload_n 0, 1) := by decide +kernel
theorem dX5_init_32 : decode cX5_init 32 = .ok (.getfield 10, 3) := by decide +kernel
theorem dX5_init_35 : decode cX5_init 35 = .ok (.aload_n 0, 1) := by decide +kernel
theorem dX5_init_36 : decode cX5_init 36 = .ok (.getfield 19, 3) := by decide +kernel
theorem dX5_init_39 : decode cX5_init 39 = .ok (.invokespecial 25, 3) := by decide +kernel
theorem dX5_init_42 : decode cX5_init 42 = .ok (.putfield 28, 3) := by decide +kernel
theorem dX5_init_45 : decode cX5_init 45 = .ok (.aload_n 0, 1) := by decide +kernel
theorem dX5_init_46 : decode cX5_init 46 = .ok (.new 32, 3) := by decide +kernel
theorem dX5_init_49 : decode cX5_init 49 = .ok (.dup, 1) := by decide +kernel
theorem dX5_init_50 : decode cX5_init 50 = .ok (.aload_n 0, 1) := by decide +kernel
theorem dX5_init_51 : decode cX5_init 51 = .ok (.getfield 10, 3) := by decide +kernel
theorem dX5_init_54 : decode cX5_init 54 = .ok (.aload_n 0, 1) := by decide +kernel
theorem dX5_init_55 : decode cX5_init 55 = .ok (.getfield 19, 3) := by decide +kernel
theorem dX5_init_58 : decode cX5_init 58 = .ok (.aload_n 0, 1) := by decide +kernel
theorem dX5_init_59 : decode cX5_init 59 = .ok (.getfield 28, 3) := by decide +kernel
theorem dX5_init_62 : decode cX5_init 62 = .ok (.invokespecial 34, 3) := by decide +kernel
theorem dX5_init_65 : decode cX5_init 65 = .ok (.putfield 37, 3) := by decide +kernel
theorem dX5_init_68 : decode cX5_init 68 = .ok (.aload_n 0, 1) := by decide +kernel
theorem dX5_init_69 : decode cX5_init 69 = .ok (.new 41, 3) := by decide +kernel
theorem dX5_init_72 : decode cX5_init 72 = .ok (.dup, 1) := by decide +kernel
theorem dX5_init_73 : decode cX5_init 73 = .ok (.aload_n 0, 1) := by decide +kernel
theorem dX5_init_74 : decode cX5_init 74 = .ok (.getfield 10, 3) := by decide +kernel
theorem dX5_init_77 : decode cX5_init 77 = .ok (.aload_n 0, 1) := by decide +kernel
theorem dX5_init_78 : decode cX5_init 78 = .ok (.getfield 19, 3) := by decide +kernel
theorem dX5_init_81 : decode cX5_init 81 = .ok (.invokespecial 43, 3) := by decide +kernel
theorem dX5_init_84 : decode cX5_init 84 = .ok (.putfield 44, 3) := by decide +kernel
theorem dX5_init_87 : decode cX5_init 87 = .ok (.return_, 1) := by decide +kernel
theorem dX5_clear_0 : decode cX5_clear 0 = .ok (.aload_n 0, 1) := by decide +kernel
theorem dX5_clear_1 : decode cX5_clear 1 = .ok (.getfield 10, 3) := by decide +kernel
theorem dX5_clear_4 : decode cX5_clear 4 = .ok (.invokevirtual 48, 3) := by decide +kernel
theorem dX5_clear_7 : decode cX5_clear 7 = .ok (.aload_n 0, 1) := by decide +kernel
theorem dX5_clear_8 : decode cX5_clear 8 = .ok (.getfield 28, 3) := by decide +kernel
theorem dX5_clear_11 : decode cX5_clear 11 = .ok (.invokevirtual 51, 3) := by decide +kernel
theorem dX5_clear_14 : decode cX5_clear 14 = .ok (.aload_n 0, 1) := by decide +kernel
theorem dX5_clear_15 : decode cX5_clear 15 = .ok (.getfield 44, 3) := by decide +kernel
theorem dX5_clear_18 : decode cX5_clear 18 = .ok (.invokevirtual 54, 3) := by decide +kernel
theorem dX5_clear_21 : decode cX5_clear 21 = .ok (.return_, 1) := by decide +kernel
theorem dX5_write_0 : decode cX5_write 0 = .ok (.iload_n 3, 1) := by decide +kernel
theorem dX5_write_1 : decode cX5_write 1 = .ok (.iconst 1, 1) := by decide +kernel
theorem dX5_write_2 : decode cX5_write 2 = .ok (.bipush 8, 2) := by decide +kernel
theorem dX5_write_4 : decode cX5_write 4 = .ok (.invokestatic 57, 3) := by decide +kernel
theorem dX5_write_7 : decode cX5_write 7 = .ok (.ifCond .eq 15, 3) := by decide +kernel
theorem dX5_write_10 : decode cX5_write 10 = .ok (.aload_n 0, 1) := by decide +kernel
theorem dX5_write_11 : decode cX5_write 11 = .ok (.getfield 10, 3) := by decide +kernel
theorem dX5_write_14 : decode cX5_write 14 = .ok (.iload_n 3, 1) := by decide +kernel
theorem dX5_write_15 : decode cX5_write 15 = .ok (.i2l, 1) := by decide +kernel
theorem dX5_write_16 : decode cX5_write 16 = .ok (.invokevirtual 61, 3) := by decide +kernel
theorem dX5_write_19 : decode cX5_write 19 = .ok (.ifCond .ne 5, 3) := by decide +kernel
theorem dX5_write_22 : decode cX5_write 22 = .ok (.iconst 0, 1) := by decide +kernel
theorem dX5_write_23 : decode cX5_write 23 = .ok (.ireturn, 1) := by decide +kernel
theorem dX5_write_24 : decode cX5_write 24 = .ok (.aload_n 0, 1) := by decide +kernel
theorem dX5_write_25 : decode cX5_write 25 = .ok (.getfield 10, 3) := by decide +kernel
theorem dX5_write_28 : decode cX5_write 28 = .ok (.lload_n 1, 1) := by decide +kernel
theorem dX5_write_29 : decode cX5_write 29 = .ok (.iload_n 3, 1) := by decide +kernel
theorem dX5_write_30 : decode cX5_write 30 = .ok (.invokevirtual 65, 3) := by decide +kernel
theorem dX5_write_33 : decode cX5_write 33 = .ok (.iconst 1, 1) := by decide +kernel
theorem dX5_write_34 : decode cX5_write 34 = .ok (.ireturn, 1) := by decide +kernel
theorem dX5_within_0 : decode cX5_within 0 = .ok (.iload_n 0, 1) := by decide +kernel
theorem dX5_within_1 : decode cX5_within 1 = .ok (.iload_n 1, 1) := by decide +kernel
theorem dX5_within_2 : decode cX5_within 2 = .ok (.if_icmp .lt 12, 3) := by decide +kernel
theorem dX5_within_5 : decode cX5_within 5 = .ok (.iload_n 0, 1) := by decide +kernel
theorem dX5_within_6 : decode cX5_within 6 = .ok (.iload_n 2, 1) := by decide +kernel
theorem dX5_within_7 : decode cX5_within 7 = .ok (.if_icmp .gt 7, 3) := by decide +kernel
theorem dX5_within_10 : decode cX5_within 10 = .ok (.iconst 1, 1) := by decide +kernel
theorem dX5_within_11 : decode cX5_within 11 = .ok (.goto 4, 3) := by decide +kernel
theorem dX5_within_14 : decode cX5_within 14 = .ok (.iconst 0, 1) := by decide +kernel
theorem dX5_within_15 : decode cX5_within 15 = .ok (.ireturn, 1) := by decide +kernel
theorem dX5_roomFor_0 : decode cX5_roomFor 0 = .ok (.sipush 512, 3) := by decide +kernel
theorem dX5_roomFor_3 : decode cX5_roomFor 3 = .ok (.istore_n 1, 1) := by decide +kernel
theorem dX5_roomFor_4 : decode cX5_roomFor 4 = .ok (.iload_n 1, 1) := by decide +kernel
theorem dX5_roomFor_5 : decode cX5_roomFor 5 = .ok (.iload_n 0, 1) := by decide +kernel
theorem dX5_roomFor_6 : decode cX5_roomFor 6 = .ok (.if_icmp .ge 17, 3) := by decide +kernel
theorem dX5_roomFor_9 : decode cX5_roomFor 9 = .ok (.iload_n 1, 1) := by decide +kernel
theorem dX5_roomFor_10 : decode cX5_roomFor 10 = .ok (.ldc 183, 2) := by decide +kernel
theorem dX5_roomFor_12 : decode cX5_roomFor 12 = .ok (.if_icmp .ge 11, 3) := by decide +kernel
theorem dX5_roomFor_15 : decode cX5_roomFor 15 = .ok (.iload_n 1, 1) := by decide +kernel
theorem dX5_roomFor_16 : decode cX5_roomFor 16 = .ok (.bipush 8, 2) := by decide +kernel
theorem dX5_roomFor_18 : decode cX5_roomFor 18 = .ok (.imul, 1) := by decide +kernel
theorem dX5_roomFor_19 : decode cX5_roomFor 19 = .ok (.istore_n 1, 1) := by decide +kernel
theorem dX5_roomFor_20 : decode cX5_roomFor 20 = .ok (.goto (-16), 3) := by decide +kernel
theorem dX5_roomFor_23 : decode cX5_roomFor 23 = .ok (.iload_n 1, 1) := by decide +kernel
theorem dX5_roomFor_24 : decode cX5_roomFor 24 = .ok (.ireturn, 1) := by decide +kernel
theorem dX5_again_0 : decode cX5_again 0 = .ok (.iload_n 1, 1) := by decide +kernel
theorem dX5_again_1 : decode cX5_again 1 = .ok (.iconst 1, 1) := by decide +kernel
theorem dX5_again_2 : decode cX5_again 2 = .ok (.aload_n 0, 1) := by decide +kernel
theorem dX5_again_3 : decode cX5_again 3 = .ok (.getfield 10, 3) := by decide +kernel
theorem dX5_again_6 : decode cX5_again 6 = .ok (.getfield 69, 3) := by decide +kernel
theorem dX5_again_9 : decode cX5_again 9 = .ok (.invokestatic 57, 3) := by decide +kernel
theorem dX5_again_12 : decode cX5_again 12 = .ok (.ifCond .eq 22, 3) := by decide +kernel
theorem dX5_again_15 : decode cX5_again 15 = .ok (.iload_n 2, 1) := by decide +kernel
theorem dX5_again_16 : decode cX5_again 16 = .ok (.ifCond .lt 18, 3) := by decide +kernel
theorem dX5_again_19 : decode cX5_again 19 = .ok (.aload_n 0, 1) := by decide +kernel
theorem dX5_again_20 : decode cX5_again 20 = .ok (.getfield 10, 3) := by decide +kernel
theorem dX5_again_23 : decode cX5_again 23 = .ok (.iload_n 1, 1) := by decide +kernel
theorem dX5_again_24 : decode cX5_again 24 = .ok (.i2l, 1) := by decide +kernel
theorem dX5_again_25 : decode cX5_again 25 = .ok (.iload_n 2, 1) := by decide +kernel
theorem dX5_again_26 : decode cX5_again 26 = .ok (.i2l, 1) := by decide +kernel
theorem dX5_again_27 : decode cX5_again 27 = .ok (.lmul, 1) := by decide +kernel
theorem dX5_again_28 : decode cX5_again 28 = .ok (.invokevirtual 61, 3) := by decide +kernel
theorem dX5_again_31 : decode cX5_again 31 = .ok (.ifCond .ne 5, 3) := by decide +kernel
theorem dX5_again_34 : decode cX5_again 34 = .ok (.iconst 0, 1) := by decide +kernel
theorem dX5_again_35 : decode cX5_again 35 = .ok (.ireturn, 1) := by decide +kernel
theorem dX5_again_36 : decode cX5_again 36 = .ok (.aload_n 0, 1) := by decide +kernel
theorem dX5_again_37 : decode cX5_again 37 = .ok (.getfield 10, 3) := by decide +kernel
theorem dX5_again_40 : decode cX5_again 40 = .ok (.iload_n 1, 1) := by decide +kernel
theorem dX5_again_41 : decode cX5_again 41 = .ok (.iload_n 1, 1) := by decide +kernel
theorem dX5_again_42 : decode cX5_again 42 = .ok (.iload_n 2, 1) := by decide +kernel
theorem dX5_again_43 : decode cX5_again 43 = .ok (.imul, 1) := by decide +kernel
theorem dX5_again_44 : decode cX5_again 44 = .ok (.invokevirtual 73, 3) := by decide +kernel
theorem dX5_again_47 : decode cX5_again 47 = .ok (.iconst 1, 1) := by decide +kernel
theorem dX5_again_48 : decode cX5_again 48 = .ok (.ireturn, 1) := by decide +kernel
theorem dX5_history_0 : decode cX5_history 0 = .ok (.iload_n 1, 1) := by decide +kernel
theorem dX5_history_1 : decode cX5_history 1 = .ok (.iconst 0, 1) := by decide +kernel
theorem dX5_history_2 : decode cX5_history 2 = .ok (.aload_n 0, 1) := by decide +kernel
theorem dX5_history_3 : decode cX5_history 3 = .ok (.getfield 10, 3) := by decide +kernel
theorem dX5_history_6 : decode cX5_history 6 = .ok (.getfield 69, 3) := by decide +kernel
theorem dX5_history_9 : decode cX5_history 9 = .ok (.invokestatic 57, 3) := by decide +kernel
theorem dX5_history_12 : decode cX5_history 12 = .ok (.ifCond .ne 5, 3) := by decide +kernel
theorem dX5_history_15 : decode cX5_history 15 = .ok (.iconst 0, 1) := by decide +kernel
theorem dX5_history_16 : decode cX5_history 16 = .ok (.ireturn, 1) := by decide +kernel
theorem dX5_history_17 : decode cX5_history 17 = .ok (.aload_n 0, 1) := by decide +kernel
theorem dX5_history_18 : decode cX5_history 18 = .ok (.getfield 10, 3) := by decide +kernel
theorem dX5_history_21 : decode cX5_history 21 = .ok (.iload_n 1, 1) := by decide +kernel
theorem dX5_history_22 : decode cX5_history 22 = .ok (.putfield 77, 3) := by decide +kernel
theorem dX5_history_25 : decode cX5_history 25 = .ok (.iconst 1, 1) := by decide +kernel
theorem dX5_history_26 : decode cX5_history 26 = .ok (.ireturn, 1) := by decide +kernel
theorem dX5_rule_0 : decode cX5_rule 0 = .ok (.iload_n 1, 1) := by decide +kernel
theorem dX5_rule_1 : decode cX5_rule 1 = .ok (.iconst 0, 1) := by decide +kernel
theorem dX5_rule_2 : decode cX5_rule 2 = .ok (.iconst 4, 1) := by decide +kernel
theorem dX5_rule_3 : decode cX5_rule 3 = .ok (.invokestatic 57, 3) := by decide +kernel
theorem dX5_rule_6 : decode cX5_rule 6 = .ok (.ifCond .eq 34, 3) := by decide +kernel
theorem dX5_rule_9 : decode cX5_rule 9 = .ok (.iload_n 2, 1) := by decide +kernel
theorem dX5_rule_10 : decode cX5_rule 10 = .ok (.iconst 1, 1) := by decide +kernel
theorem dX5_rule_11 : decode cX5_rule 11 = .ok (.ldc 80, 2) := by decide +kernel
theorem dX5_rule_13 : decode cX5_rule 13 = .ok (.invokestatic 57, 3) := by decide +kernel
theorem dX5_rule_16 : decode cX5_rule 16 = .ok (.ifCond .eq 24, 3) := by decide +kernel
theorem dX5_rule_19 : decode cX5_rule 19 = .ok (.iload_n 3, 1) := by decide +kernel
theorem dX5_rule_20 : decode cX5_rule 20 = .ok (.iconst 3, 1) := by decide +kernel
theorem dX5_rule_21 : decode cX5_rule 21 = .ok (.bipush 8, 2) := by decide +kernel
theorem dX5_rule_23 : decode cX5_rule 23 = .ok (.invokestatic 57, 3) := by decide +kernel
theorem dX5_rule_26 : decode cX5_rule 26 = .ok (.ifCond .eq 14, 3) := by decide +kernel
theorem dX5_rule_29 : decode cX5_rule 29 = .ok (.iload 4, 2) := by decide +kernel
theorem dX5_rule_31 : decode cX5_rule 31 = .ok (.iload_n 3, 1) := by decide +kernel
theorem dX5_rule_32 : decode cX5_rule 32 = .ok (.ldc 81, 2) := by decide +kernel
theorem dX5_rule_34 : decode cX5_rule 34 = .ok (.invokestatic 57, 3) := by decide +kernel
theorem dX5_rule_37 : decode cX5_rule 37 = .ok (.ifCond .ne 5, 3) := by decide +kernel
theorem dX5_rule_40 : decode cX5_rule 40 = .ok (.iconst 0, 1) := by decide +kernel
theorem dX5_rule_41 : decode cX5_rule 41 = .ok (.ireturn, 1) := by decide +kernel
theorem dX5_rule_42 : decode cX5_rule 42 = .ok (.aload_n 0, 1) := by decide +kernel
theorem dX5_rule_43 : decode cX5_rule 43 = .ok (.getfield 19, 3) := by decide +kernel
theorem dX5_rule_46 : decode cX5_rule 46 = .ok (.iload_n 1, 1) := by decide +kernel
theorem dX5_rule_47 : decode cX5_rule 47 = .ok (.putfield 82, 3) := by decide +kernel
theorem dX5_rule_50 : decode cX5_rule 50 = .ok (.aload_n 0, 1) := by decide +kernel
theorem dX5_rule_51 : decode cX5_rule 51 = .ok (.getfield 19, 3) := by decide +kernel
theorem dX5_rule_54 : decode cX5_rule 54 = .ok (.iload_n 2, 1) := by decide +kernel
theorem dX5_rule_55 : decode cX5_rule 55 = .ok (.putfield 85, 3) := by decide +kernel
theorem dX5_rule_58 : decode cX5_rule 58 = .ok (.aload_n 0, 1) := by decide +kernel
theorem dX5_rule_59 : decode cX5_rule 59 = .ok (.getfield 19, 3) := by decide +kernel
theorem dX5_rule_62 : decode cX5_rule 62 = .ok (.iload_n 3, 1) := by decide +kernel
theorem dX5_rule_63 : decode cX5_rule 63 = .ok (.putfield 88, 3) := by decide +kernel
theorem dX5_rule_66 : decode cX5_rule 66 = .ok (.aload_n 0, 1) := by decide +kernel
theorem dX5_rule_67 : decode cX5_rule 67 = .ok (.getfield 19, 3) := by decide +kernel
theorem dX5_rule_70 : decode cX5_rule 70 = .ok (.iload 4, 2) := by decide +kernel
theorem dX5_rule_72 : decode cX5_rule 72 = .ok (.putfield 91, 3) := by decide +kernel
theorem dX5_rule_75 : decode cX5_rule 75 = .ok (.iconst 1, 1) := by decide +kernel
theorem dX5_rule_76 : decode cX5_rule 76 = .ok (.ireturn, 1) := by decide +kernel
theorem dX5_bounds_0 : decode cX5_bounds 0 = .ok (.iload_n 1, 1) := by decide +kernel
theorem dX5_bounds_1 : decode cX5_bounds 1 = .ok (.iconst 0, 1) := by decide +kernel
theorem dX5_bounds_2 : decode cX5_bounds 2 = .ok (.bipush 32, 2) := by decide +kernel
theorem dX5_bounds_4 : decode cX5_bounds 4 = .ok (.invokestatic 57, 3) := by decide +kernel
theorem dX5_bounds_7 : decode cX5_bounds 7 = .ok (.ifCond .eq 36, 3) := by decide +kernel
theorem dX5_bounds_10 : decode cX5_bounds 10 = .ok (.iload_n 2, 1) := by decide +kernel
theorem dX5_bounds_11 : decode cX5_bounds 11 = .ok (.iconst 0, 1) := by decide +kernel
theorem dX5_bounds_12 : decode cX5_bounds 12 = .ok (.bipush 32, 2) := by decide +kernel
theorem dX5_bounds_14 : decode cX5_bounds 14 = .ok (.invokestatic 57, 3) := by decide +kernel
theorem dX5_bounds_17 : decode cX5_bounds 17 = .ok (.ifCond .eq 26, 3) := by decide +kernel
theorem dX5_bounds_20 : decode cX5_bounds 20 = .ok (.iload_n 3, 1) := by decide +kernel
theorem dX5_bounds_21 : decode cX5_bounds 21 = .ok (.iconst 0, 1) := by decide +kernel
theorem dX5_bounds_22 : decode cX5_bounds 22 = .ok (.sipush 255, 3) := by decide +kernel
theorem dX5_bounds_25 : decode cX5_bounds 25 = .ok (.invokestatic 57, 3) := by decide +kernel
theorem dX5_bounds_28 : decode cX5_bounds 28 = .ok (.ifCond .eq 15, 3) := by decide +kernel
theorem dX5_bounds_31 : decode cX5_bounds 31 = .ok (.iload 4, 2) := by decide +kernel
theorem dX5_bounds_33 : decode cX5_bounds 33 = .ok (.iconst 0, 1) := by decide +kernel
theorem dX5_bounds_34 : decode cX5_bounds 34 = .ok (.sipush 255, 3) := by decide +kernel
theorem dX5_bounds_37 : decode cX5_bounds 37 = .ok (.invokestatic 57, 3) := by decide +kernel
theorem dX5_bounds_40 : decode cX5_bounds 40 = .ok (.ifCond .ne 5, 3) := by decide +kernel
theorem dX5_bounds_43 : decode cX5_bounds 43 = .ok (.iconst 0, 1) := by decide +kernel
theorem dX5_bounds_44 : decode cX5_bounds 44 = .ok (.ireturn, 1) := by decide +kernel
theorem dX5_bounds_45 : decode cX5_bounds 45 = .ok (.aload_n 0, 1) := by decide +kernel
theorem dX5_bounds_46 : decode cX5_bounds 46 = .ok (.getfield 19, 3) := by decide +kernel
theorem dX5_bounds_49 : decode cX5_bounds 49 = .ok (.iload_n 1, 1) := by decide +kernel
theorem dX5_bounds_50 : decode cX5_bounds 50 = .ok (.putfield 94, 3) := by decide +kernel
theorem dX5_bounds_53 : decode cX5_bounds 53 = .ok (.aload_n 0, 1) := by decide +kernel
theorem dX5_bounds_54 : decode cX5_bounds 54 = .ok (.getfield 19, 3) := by decide +kernel
theorem dX5_bounds_57 : decode cX5_bounds 57 = .ok (.iload_n 2, 1) := by decide +kernel
theorem dX5_bounds_58 : decode cX5_bounds 58 = .ok (.putfield 97, 3) := by decide +kernel
theorem dX5_bounds_61 : decode cX5_bounds 61 = .ok (.aload_n 0, 1) := by decide +kernel
theorem dX5_bounds_62 : decode cX5_bounds 62 = .ok (.getfield 19, 3) := by decide +kernel
theorem dX5_bounds_65 : decode cX5_bounds 65 = .ok (.iload_n 3, 1) := by decide +kernel
theorem dX5_bounds_66 : decode cX5_bounds 66 = .ok (.putfield 100, 3) := by decide +kernel
theorem dX5_bounds_69 : decode cX5_bounds 69 = .ok (.aload_n 0, 1) := by decide +kernel
theorem dX5_bounds_70 : decode cX5_bounds 70 = .ok (.getfield 19, 3) := by decide +kernel
theorem dX5_bounds_73 : decode cX5_bounds 73 = .ok (.iload 4, 2) := by decide +kernel
theorem dX5_bounds_75 : decode cX5_bounds 75 = .ok (.putfield 103, 3) := by decide +kernel
theorem dX5_bounds_78 : decode cX5_bounds 78 = .ok (.iconst 1, 1) := by decide +kernel
theorem dX5_bounds_79 : decode cX5_bounds 79 = .ok (.ireturn, 1) := by decide +kernel
theorem dX5_at_0 : decode cX5_at 0 = .ok (.aload_n 0, 1) := by decide +kernel
theorem dX5_at_1 : decode cX5_at 1 = .ok (.getfield 10, 3) := by decide +kernel
theorem dX5_at_4 : decode cX5_at 4 = .ok (.iload_n 1, 1) := by decide +kernel
theorem dX5_at_5 : decode cX5_at 5 = .ok (.invokevirtual 106, 3) := by decide +kernel
theorem dX5_at_8 : decode cX5_at 8 = .ok (.ifCond .eq 21, 3) := by decide +kernel
theorem dX5_at_11 : decode cX5_at 11 = .ok (.iload_n 2, 1) := by decide +kernel
theorem dX5_at_12 : decode cX5_at 12 = .ok (.iconst 0, 1) := by decide +kernel
theorem dX5_at_13 : decode cX5_at 13 = .ok (.iconst 3, 1) := by decide +kernel
theorem dX5_at_14 : decode cX5_at 14 = .ok (.invokestatic 57, 3) := by decide +kernel
theorem dX5_at_17 : decode cX5_at 17 = .ok (.ifCond .eq 12, 3) := by decide +kernel
theorem dX5_at_20 : decode cX5_at 20 = .ok (.iload_n 3, 1) := by decide +kernel
theorem dX5_at_21 : decode cX5_at 21 = .ok (.iconst 0, 1) := by decide +kernel
theorem dX5_at_22 : decode cX5_at 22 = .ok (.iconst 1, 1) := by decide +kernel
theorem dX5_at_23 : decode cX5_at 23 = .ok (.invokestatic 57, 3) := by decide +kernel
theorem dX5_at_26 : decode cX5_at 26 = .ok (.ifCond .ne 5, 3) := by decide +kernel
theorem dX5_at_29 : decode cX5_at 29 = .ok (.iconst 0, 1) := by decide +kernel
theorem dX5_at_30 : decode cX5_at 30 = .ok (.ireturn, 1) := by decide +kernel
theorem dX5_at_31 : decode cX5_at 31 = .ok (.aload_n 0, 1) := by decide +kernel
theorem dX5_at_32 : decode cX5_at 32 = .ok (.getfield 28, 3) := by decide +kernel
theorem dX5_at_35 : decode cX5_at 35 = .ok (.invokevirtual 110, 3) := by decide +kernel
theorem dX5_at_38 : decode cX5_at 38 = .ok (.aload_n 0, 1) := by decide +kernel
theorem dX5_at_39 : decode cX5_at 39 = .ok (.getfield 28, 3) := by decide +kernel
theorem dX5_at_42 : decode cX5_at 42 = .ok (.iload_n 1, 1) := by decide +kernel
theorem dX5_at_43 : decode cX5_at 43 = .ok (.iload_n 2, 1) := by decide +kernel
theorem dX5_at_44 : decode cX5_at 44 = .ok (.invokevirtual 113, 3) := by decide +kernel
theorem dX5_at_47 : decode cX5_at 47 = .ok (.iload_n 3, 1) := by decide +kernel
theorem dX5_at_48 : decode cX5_at 48 = .ok (.ifCond .ne 13, 3) := by decide +kernel
theorem dX5_at_51 : decode cX5_at 51 = .ok (.aload_n 0, 1) := by decide +kernel
theorem dX5_at_52 : decode cX5_at 52 = .ok (.getfield 28, 3) := by decide +kernel
theorem dX5_at_55 : decode cX5_at 55 = .ok (.getfield 116, 3) := by decide +kernel
theorem dX5_at_58 : decode cX5_at 58 = .ok (.goto 10, 3) := by decide +kernel
theorem dX5_at_61 : decode cX5_at 61 = .ok (.aload_n 0, 1) := by decide +kernel
theorem dX5_at_62 : decode cX5_at 62 = .ok (.getfield 28, 3) := by decide +kernel
theorem dX5_at_65 : decode cX5_at 65 = .ok (.getfield 119, 3) := by decide +kernel
theorem dX5_at_68 : decode cX5_at 68 = .ok (.ireturn, 1) := by decide +kernel
theorem dX5_count_0 : decode cX5_count 0 = .ok (.aload_n 0, 1) := by decide +kernel
theorem dX5_count_1 : decode cX5_count 1 = .ok (.getfield 10, 3) := by decide +kernel
theorem dX5_count_4 : decode cX5_count 4 = .ok (.iload_n 1, 1) := by decide +kernel
theorem dX5_count_5 : decode cX5_count 5 = .ok (.invokevirtual 106, 3) := by decide +kernel
theorem dX5_count_8 : decode cX5_count 8 = .ok (.ifCond .ne 5, 3) := by decide +kernel
theorem dX5_count_11 : decode cX5_count 11 = .ok (.iconst 0, 1) := by decide +kernel
theorem dX5_count_12 : decode cX5_count 12 = .ok (.ireturn, 1) := by decide +kernel
theorem dX5_count_13 : decode cX5_count 13 = .ok (.aload_n 0, 1) := by decide +kernel
theorem dX5_count_14 : decode cX5_count 14 = .ok (.getfield 28, 3) := by decide +kernel
theorem dX5_count_17 : decode cX5_count 17 = .ok (.invokevirtual 110, 3) := by decide +kernel
theorem dX5_count_20 : decode cX5_count 20 = .ok (.aload_n 0, 1) := by decide +kernel
theorem dX5_count_21 : decode cX5_count 21 = .ok (.getfield 28, 3) := by decide +kernel
theorem dX5_count_24 : decode cX5_count 24 = .ok (.iload_n 1, 1) := by decide +kernel
theorem dX5_count_25 : decode cX5_count 25 = .ok (.invokevirtual 122, 3) := by decide +kernel
theorem dX5_count_28 : decode cX5_count 28 = .ok (.ireturn, 1) := by decide +kernel
theorem dX5_go_0 : decode cX5_go 0 = .ok (.aload_n 0, 1) := by decide +kernel
theorem dX5_go_1 : decode cX5_go 1 = .ok (.getfield 19, 3) := by decide +kernel
theorem dX5_go_4 : decode cX5_go 4 = .ok (.getfield 82, 3) := by decide +kernel
theorem dX5_go_7 : decode cX5_go 7 = .ok (.iconst 4, 1) := by decide +kernel
theorem dX5_go_8 : decode cX5_go 8 = .ok (.if_icmp .ne 7, 3) := by decide +kernel
theorem dX5_go_11 : decode cX5_go 11 = .ok (.iconst 1, 1) := by decide +kernel
theorem dX5_go_12 : decode cX5_go 12 = .ok (.goto 4, 3) := by decide +kernel
theorem dX5_go_15 : decode cX5_go 15 = .ok (.iconst 0, 1) := by decide +kernel
theorem dX5_go_16 : decode cX5_go 16 = .ok (.istore_n 1, 1) := by decide +kernel
theorem dX5_go_17 : decode cX5_go 17 = .ok (.iload_n 1, 1) := by decide +kernel
theorem dX5_go_18 : decode cX5_go 18 = .ok (.ifCond .eq 26, 3) := by decide +kernel
theorem dX5_go_21 : decode cX5_go 21 = .ok (.aload_n 0, 1) := by decide +kernel
theorem dX5_go_22 : decode cX5_go 22 = .ok (.getfield 10, 3) := by decide +kernel
theorem dX5_go_25 : decode cX5_go 25 = .ok (.getfield 69, 3) := by decide +kernel
theorem dX5_go_28 : decode cX5_go 28 = .ok (.aload_n 0, 1) := by decide +kernel
theorem dX5_go_29 : decode cX5_go 29 = .ok (.getfield 10, 3) := by decide +kernel
theorem dX5_go_32 : decode cX5_go 32 = .ok (.getfield 77, 3) := by decide +kernel
theorem dX5_go_35 : decode cX5_go 35 = .ok (.isub, 1) := by decide +kernel
theorem dX5_go_36 : decode cX5_go 36 = .ok (.sipush 8192, 3) := by decide +kernel
theorem dX5_go_39 : decode cX5_go 39 = .ok (.if_icmp .le 5, 3) := by decide +kernel
theorem dX5_go_42 : decode cX5_go 42 = .ok (.iconst (-1), 1) := by decide +kernel
theorem dX5_go_43 : decode cX5_go 43 = .ok (.ireturn, 1) := by decide +kernel
theorem dX5_go_44 : decode cX5_go 44 = .ok (.aload_n 0, 1) := by decide +kernel
theorem dX5_go_45 : decode cX5_go 45 = .ok (.getfield 28, 3) := by decide +kernel
theorem dX5_go_48 : decode cX5_go 48 = .ok (.invokevirtual 110, 3) := by decide +kernel
theorem dX5_go_51 : decode cX5_go 51 = .ok (.aload_n 0, 1) := by decide +kernel
theorem dX5_go_52 : decode cX5_go 52 = .ok (.getfield 44, 3) := by decide +kernel
theorem dX5_go_55 : decode cX5_go 55 = .ok (.invokevirtual 126, 3) := by decide +kernel
theorem dX5_go_58 : decode cX5_go 58 = .ok (.iload_n 1, 1) := by decide +kernel
theorem dX5_go_59 : decode cX5_go 59 = .ok (.ifCond .eq 10, 3) := by decide +kernel
theorem dX5_go_62 : decode cX5_go 62 = .ok (.aload_n 0, 1) := by decide +kernel
theorem dX5_go_63 : decode cX5_go 63 = .ok (.invokevirtual 129, 3) := by decide +kernel
theorem dX5_go_66 : decode cX5_go 66 = .ok (.goto 7, 3) := by decide +kernel
theorem dX5_go_69 : decode cX5_go 69 = .ok (.aload_n 0, 1) := by decide +kernel
theorem dX5_go_70 : decode cX5_go 70 = .ok (.invokevirtual 132, 3) := by decide +kernel
theorem dX5_go_73 : decode cX5_go 73 = .ok (.aload_n 0, 1) := by decide +kernel
theorem dX5_go_74 : decode cX5_go 74 = .ok (.getfield 44, 3) := by decide +kernel
theorem dX5_go_77 : decode cX5_go 77 = .ok (.getfield 135, 3) := by decide +kernel
theorem dX5_go_80 : decode cX5_go 80 = .ok (.ireturn, 1) := by decide +kernel
theorem dX5_followPlan_0 : decode cX5_followPlan 0 = .ok (.aload_n 0, 1) := by decide +kernel
theorem dX5_followPlan_1 : decode cX5_followPlan 1 = .ok (.getfield 37, 3) := by decide +kernel
theorem dX5_followPlan_4 : decode cX5_followPlan 4 = .ok (.invokevirtual 176, 3) := by decide +kernel
theorem dX5_followPlan_7 : decode cX5_followPlan 7 = .ok (.aload_n 0, 1) := by decide +kernel
theorem dX5_followPlan_8 : decode cX5_followPlan 8 = .ok (.getfield 10, 3) := by decide +kernel
theorem dX5_followPlan_11 : decode cX5_followPlan 11 = .ok (.getfield 69, 3) := by decide +kernel
theorem dX5_followPlan_14 : decode cX5_followPlan 14 = .ok (.aload_n 0, 1) := by decide +kernel
theorem dX5_followPlan_15 : decode cX5_followPlan 15 = .ok (.getfield 10, 3) := by decide +kernel
theorem dX5_followPlan_18 : decode cX5_followPlan 18 = .ok (.getfield 77, 3) := by decide +kernel
theorem dX5_followPlan_21 : decode cX5_followPlan 21 = .ok (.isub, 1) := by decide +kernel
theorem dX5_followPlan_22 : decode cX5_followPlan 22 = .ok (.istore_n 1, 1) := by decide +kernel
theorem dX5_followPlan_23 : decode cX5_followPlan 23 = .ok (.iconst 0, 1) := by decide +kernel
theorem dX5_followPlan_24 : decode cX5_followPlan 24 = .ok (.istore_n 2, 1) := by decide +kernel
theorem dX5_followPlan_25 : decode cX5_followPlan 25 = .ok (.iload_n 2, 1) := by decide +kernel
theorem dX5_followPlan_26 : decode cX5_followPlan 26 = .ok (.iload_n 1, 1) := by decide +kernel
theorem dX5_followPlan_27 : decode cX5_followPlan 27 = .ok (.if_icmp .ge 47, 3) := by decide +kernel
theorem dX5_followPlan_30 : decode cX5_followPlan 30 = .ok (.aload_n 0, 1) := by decide +kernel
theorem dX5_followPlan_31 : decode cX5_followPlan 31 = .ok (.getfield 44, 3) := by decide +kernel
theorem dX5_followPlan_34 : decode cX5_followPlan 34 = .ok (.aload_n 0, 1) := by decide +kernel
theorem dX5_followPlan_35 : decode cX5_followPlan 35 = .ok (.getfield 37, 3) := by decide +kernel
theorem dX5_followPlan_38 : decode cX5_followPlan 38 = .ok (.getfield 179, 3) := by decide +kernel
theorem dX5_followPlan_41 : decode cX5_followPlan 41 = .ok (.iload_n 2, 1) := by decide +kernel
theorem dX5_followPlan_42 : decode cX5_followPlan 42 = .ok (.iaload, 1) := by decide +kernel
theorem dX5_followPlan_43 : decode cX5_followPlan 43 = .ok (.aload_n 0, 1) := by decide +kernel
theorem dX5_followPlan_44 : decode cX5_followPlan 44 = .ok (.getfield 37, 3) := by decide +kernel
theorem dX5_followPlan_47 : decode cX5_followPlan 47 = .ok (.getfield 181, 3) := by decide +kernel
theorem dX5_followPlan_50 : decode cX5_followPlan 50 = .ok (.iload_n 2, 1) := by decide +kernel
theorem dX5_followPlan_51 : decode cX5_followPlan 51 = .ok (.iaload, 1) := by decide +kernel
theorem dX5_followPlan_52 : decode cX5_followPlan 52 = .ok (.invokevirtual 167, 3) := by decide +kernel
theorem dX5_followPlan_55 : decode cX5_followPlan 55 = .ok (.iload_n 2, 1) := by decide +kernel
theorem dX5_followPlan_56 : decode cX5_followPlan 56 = .ok (.iconst 1, 1) := by decide +kernel
theorem dX5_followPlan_57 : decode cX5_followPlan 57 = .ok (.aload_n 0, 1) := by decide +kernel
theorem dX5_followPlan_58 : decode cX5_followPlan 58 = .ok (.getfield 37, 3) := by decide +kernel
theorem dX5_followPlan_61 : decode cX5_followPlan 61 = .ok (.getfield 179, 3) := by decide +kernel
theorem dX5_followPlan_64 : decode cX5_followPlan 64 = .ok (.iload_n 2, 1) := by decide +kernel
theorem dX5_followPlan_65 : decode cX5_followPlan 65 = .ok (.iaload, 1) := by decide +kernel
theorem dX5_followPlan_66 : decode cX5_followPlan 66 = .ok (.invokestatic 170, 3) := by decide +kernel
theorem dX5_followPlan_69 : decode cX5_followPlan 69 = .ok (.iadd, 1) := by decide +kernel
theorem dX5_followPlan_70 : decode cX5_followPlan 70 = .ok (.istore_n 2, 1) := by decide +kernel
theorem dX5_followPlan_71 : decode cX5_followPlan 71 = .ok (.goto (-46), 3) := by decide +kernel
theorem dX5_followPlan_74 : decode cX5_followPlan 74 = .ok (.return_, 1) := by decide +kernel
theorem dX5_bitsOf_0 : decode cX5_bitsOf 0 = .ok (.iconst 0, 1) := by decide +kernel
theorem dX5_bitsOf_1 : decode cX5_bitsOf 1 = .ok (.istore_n 1, 1) := by decide +kernel
theorem dX5_bitsOf_2 : decode cX5_bitsOf 2 = .ok (.iload_n 1, 1) := by decide +kernel
theorem dX5_bitsOf_3 : decode cX5_bitsOf 3 = .ok (.bipush 31, 2) := by decide +kernel
theorem dX5_bitsOf_5 : decode cX5_bitsOf 5 = .ok (.if_icmp .ge 15, 3) := by decide +kernel
theorem dX5_bitsOf_8 : decode cX5_bitsOf 8 = .ok (.iload_n 0, 1) := by decide +kernel
theorem dX5_bitsOf_9 : decode cX5_bitsOf 9 = .ok (.iload_n 1, 1) := by decide +kernel
theorem dX5_bitsOf_10 : decode cX5_bitsOf 10 = .ok (.ishr, 1) := by decide +kernel
theorem dX5_bitsOf_11 : decode cX5_bitsOf 11 = .ok (.ifCond .eq 9, 3) := by decide +kernel
theorem dX5_bitsOf_14 : decode cX5_bitsOf 14 = .ok (.iinc 1 1, 3) := by decide +kernel
theorem dX5_bitsOf_17 : decode cX5_bitsOf 17 = .ok (.goto (-15), 3) := by decide +kernel
theorem dX5_bitsOf_20 : decode cX5_bitsOf 20 = .ok (.iload_n 1, 1) := by decide +kernel
theorem dX5_bitsOf_21 : decode cX5_bitsOf 21 = .ok (.ireturn, 1) := by decide +kernel
theorem dX5_takeWhatIsSought_0 : decode cX5_takeWhatIsSought 0 = .ok (.aload_n 0, 1) := by decide +kernel
theorem dX5_takeWhatIsSought_1 : decode cX5_takeWhatIsSought 1 = .ok (.getfield 10, 3) := by decide +kernel
theorem dX5_takeWhatIsSought_4 : decode cX5_takeWhatIsSought 4 = .ok (.getfield 77, 3) := by decide +kernel
theorem dX5_takeWhatIsSought_7 : decode cX5_takeWhatIsSought 7 = .ok (.istore_n 1, 1) := by decide +kernel
theorem dX5_takeWhatIsSought_8 : decode cX5_takeWhatIsSought 8 = .ok (.iload_n 1, 1) := by decide +kernel
theorem dX5_takeWhatIsSought_9 : decode cX5_takeWhatIsSought 9 = .ok (.aload_n 0, 1) := by decide +kernel
theorem dX5_takeWhatIsSought_10 : decode cX5_takeWhatIsSought 10 = .ok (.getfield 10, 3) := by decide +kernel
theorem dX5_takeWhatIsSought_13 : decode cX5_takeWhatIsSought 13 = .ok (.getfield 69, 3) := by decide +kernel
theorem dX5_takeWhatIsSought_16 : decode cX5_takeWhatIsSought 16 = .ok (.if_icmp .ge 56, 3) := by decide +kernel
theorem dX5_takeWhatIsSought_19 : decode cX5_takeWhatIsSought 19 = .ok (.aload_n 0, 1) := by decide +kernel
theorem dX5_takeWhatIsSought_20 : decode cX5_takeWhatIsSought 20 = .ok (.getfield 28, 3) := by decide +kernel
theorem dX5_takeWhatIsSought_23 : decode cX5_takeWhatIsSought 23 = .ok (.iload_n 1, 1) := by decide +kernel
theorem dX5_takeWhatIsSought_24 : decode cX5_takeWhatIsSought 24 = .ok (.aload_n 0, 1) := by decide +kernel
theorem dX5_takeWhatIsSought_25 : decode cX5_takeWhatIsSought 25 = .ok (.getfield 19, 3) := by decide +kernel
theorem dX5_takeWhatIsSought_28 : decode cX5_takeWhatIsSought 28 = .ok (.getfield 82, 3) := by decide +kernel
theorem dX5_takeWhatIsSought_31 : decode cX5_takeWhatIsSought 31 = .ok (.invokevirtual 113, 3) := by decide +kernel
theorem dX5_takeWhatIsSought_34 : decode cX5_takeWhatIsSought 34 = .ok (.aload_n 0, 1) := by decide +kernel
theorem dX5_takeWhatIsSought_35 : decode cX5_takeWhatIsSought 35 = .ok (.getfield 44, 3) := by decide +kernel
theorem dX5_takeWhatIsSought_38 : decode cX5_takeWhatIsSought 38 = .ok (.aload_n 0, 1) := by decide +kernel
theorem dX5_takeWhatIsSought_39 : decode cX5_takeWhatIsSought 39 = .ok (.getfield 28, 3) := by decide +kernel
theorem dX5_takeWhatIsSought_42 : decode cX5_takeWhatIsSought 42 = .ok (.getfield 116, 3) := by decide +kernel
theorem dX5_takeWhatIsSought_45 : decode cX5_takeWhatIsSought 45 = .ok (.aload_n 0, 1) := by decide +kernel
theorem dX5_takeWhatIsSought_46 : decode cX5_takeWhatIsSought 46 = .ok (.getfield 28, 3) := by decide +kernel
theorem dX5_takeWhatIsSought_49 : decode cX5_takeWhatIsSought 49 = .ok (.getfield 119, 3) := by decide +kernel
theorem dX5_takeWhatIsSought_52 : decode cX5_takeWhatIsSought 52 = .ok (.invokevirtual 167, 3) := by decide +kernel
theorem dX5_takeWhatIsSought_55 : decode cX5_takeWhatIsSought 55 = .ok (.iload_n 1, 1) := by decide +kernel
theorem dX5_takeWhatIsSought_56 : decode cX5_takeWhatIsSought 56 = .ok (.iconst 1, 1) := by decide +kernel
theorem dX5_takeWhatIsSought_57 : decode cX5_takeWhatIsSought 57 = .ok (.aload_n 0, 1) := by decide +kernel
theorem dX5_takeWhatIsSought_58 : decode cX5_takeWhatIsSought 58 = .ok (.getfield 28, 3) := by decide +kernel
theorem dX5_takeWhatIsSought_61 : decode cX5_takeWhatIsSought 61 = .ok (.getfield 116, 3) := by decide +kernel
theorem dX5_takeWhatIsSought_64 : decode cX5_takeWhatIsSought 64 = .ok (.invokestatic 170, 3) := by decide +kernel
theorem dX5_takeWhatIsSought_67 : decode cX5_takeWhatIsSought 67 = .ok (.iadd, 1) := by decide +kernel
theorem dX5_takeWhatIsSought_68 : decode cX5_takeWhatIsSought 68 = .ok (.istore_n 1, 1) := by decide +kernel
theorem dX5_takeWhatIsSought_69 : decode cX5_takeWhatIsSought 69 = .ok (.goto (-61), 3) := by decide +kernel
theorem dX5_takeWhatIsSought_72 : decode cX5_takeWhatIsSought 72 = .ok (.return_, 1) := by decide +kernel
theorem dX5_stretch_0 : decode cX5_stretch 0 = .ok (.iload_n 1, 1) := by decide +kernel
theorem dX5_stretch_1 : decode cX5_stretch 1 = .ok (.iconst 0, 1) := by decide +kernel
theorem dX5_stretch_2 : decode cX5_stretch 2 = .ok (.aload_n 0, 1) := by decide +kernel
theorem dX5_stretch_3 : decode cX5_stretch 3 = .ok (.getfield 44, 3) := by decide +kernel
theorem dX5_stretch_6 : decode cX5_stretch 6 = .ok (.getfield 135, 3) := by decide +kernel
theorem dX5_stretch_9 : decode cX5_stretch 9 = .ok (.iconst 1, 1) := by decide +kernel
theorem dX5_stretch_10 : decode cX5_stretch 10 = .ok (.isub, 1) := by decide +kernel
theorem dX5_stretch_11 : decode cX5_stretch 11 = .ok (.invokestatic 57, 3) := by decide +kernel
theorem dX5_stretch_14 : decode cX5_stretch 14 = .ok (.ifCond .ne 5, 3) := by decide +kernel
theorem dX5_stretch_17 : decode cX5_stretch 17 = .ok (.iconst (-1), 1) := by decide +kernel
theorem dX5_stretch_18 : decode cX5_stretch 18 = .ok (.ireturn, 1) := by decide +kernel
theorem dX5_stretch_19 : decode cX5_stretch 19 = .ok (.iload_n 2, 1) := by decide +kernel
theorem dX5_stretch_20 : decode cX5_stretch 20 = .ok (.tableswitch 58 0 2 #[28, 38, 48], 28) := by decide +kernel
theorem dX5_stretch_48 : decode cX5_stretch 48 = .ok (.aload_n 0, 1) := by decide +kernel
theorem dX5_stretch_49 : decode cX5_stretch 49 = .ok (.getfield 44, 3) := by decide +kernel
theorem dX5_stretch_52 : decode cX5_stretch 52 = .ok (.getfield 138, 3) := by decide +kernel
theorem dX5_stretch_55 : decode cX5_stretch 55 = .ok (.iload_n 1, 1) := by decide +kernel
theorem dX5_stretch_56 : decode cX5_stretch 56 = .ok (.iaload, 1) := by decide +kernel
theorem dX5_stretch_57 : decode cX5_stretch 57 = .ok (.ireturn, 1) := by decide +kernel
theorem dX5_stretch_58 : decode cX5_stretch 58 = .ok (.aload_n 0, 1) := by decide +kernel
theorem dX5_stretch_59 : decode cX5_stretch 59 = .ok (.getfield 44, 3) := by decide +kernel
theorem dX5_stretch_62 : decode cX5_stretch 62 = .ok (.getfield 142, 3) := by decide +kernel
theorem dX5_stretch_65 : decode cX5_stretch 65 = .ok (.iload_n 1, 1) := by decide +kernel
theorem dX5_stretch_66 : decode cX5_stretch 66 = .ok (.iaload, 1) := by decide +kernel
theorem dX5_stretch_67 : decode cX5_stretch 67 = .ok (.ireturn, 1) := by decide +kernel
theorem dX5_stretch_68 : decode cX5_stretch 68 = .ok (.aload_n 0, 1) := by decide +kernel
theorem dX5_stretch_69 : decode cX5_stretch 69 = .ok (.getfield 44, 3) := by decide +kernel
theorem dX5_stretch_72 : decode cX5_stretch 72 = .ok (.getfield 145, 3) := by decide +kernel
theorem dX5_stretch_75 : decode cX5_stretch 75 = .ok (.iload_n 1, 1) := by decide +kernel
theorem dX5_stretch_76 : decode cX5_stretch 76 = .ok (.iaload, 1) := by decide +kernel
theorem dX5_stretch_77 : decode cX5_stretch 77 = .ok (.ireturn, 1) := by decide +kernel
theorem dX5_stretch_78 : decode cX5_stretch 78 = .ok (.iconst (-1), 1) := by decide +kernel
theorem dX5_stretch_79 : decode cX5_stretch 79 = .ok (.ireturn, 1) := by decide +kernel
theorem dX5_about_0 : decode cX5_about 0 = .ok (.iload_n 1, 1) := by decide +kernel
theorem dX5_about_1 : decode cX5_about 1 = .ok (.tableswitch 75 0 4 #[35, 43, 51, 59, 67], 35) := by decide +kernel
theorem dX5_about_36 : decode cX5_about 36 = .ok (.aload_n 0, 1) := by decide +kernel
theorem dX5_about_37 : decode cX5_about 37 = .ok (.getfield 44, 3) := by decide +kernel
theorem dX5_about_40 : decode cX5_about 40 = .ok (.getfield 148, 3) := by decide +kernel
theorem dX5_about_43 : decode cX5_about 43 = .ok (.ireturn, 1) := by decide +kernel
theorem dX5_about_44 : decode cX5_about 44 = .ok (.aload_n 0, 1) := by decide +kernel
theorem dX5_about_45 : decode cX5_about 45 = .ok (.getfield 44, 3) := by decide +kernel
theorem dX5_about_48 : decode cX5_about 48 = .ok (.getfield 151, 3) := by decide +kernel
theorem dX5_about_51 : decode cX5_about 51 = .ok (.ireturn, 1) := by decide +kernel
theorem dX5_about_52 : decode cX5_about 52 = .ok (.aload_n 0, 1) := by decide +kernel
theorem dX5_about_53 : decode cX5_about 53 = .ok (.getfield 44, 3) := by decide +kernel
theorem dX5_about_56 : decode cX5_about 56 = .ok (.getfield 154, 3) := by decide +kernel
theorem dX5_about_59 : decode cX5_about 59 = .ok (.ireturn, 1) := by decide +kernel
theorem dX5_about_60 : decode cX5_about 60 = .ok (.aload_n 0, 1) := by decide +kernel
theorem dX5_about_61 : decode cX5_about 61 = .ok (.getfield 44, 3) := by decide +kernel
theorem dX5_about_64 : decode cX5_about 64 = .ok (.getfield 157, 3) := by decide +kernel
theorem dX5_about_67 : decode cX5_about 67 = .ok (.ireturn, 1) := by decide +kernel
theorem dX5_about_68 : decode cX5_about 68 = .ok (.aload_n 0, 1) := by decide +kernel
theorem dX5_about_69 : decode cX5_about 69 = .ok (.getfield 44, 3) := by decide +kernel
theorem dX5_about_72 : decode cX5_about 72 = .ok (.getfield 160, 3) := by decide +kernel
theorem dX5_about_75 : decode cX5_about 75 = .ok (.ireturn, 1) := by decide +kernel
theorem dX5_about_76 : decode cX5_about 76 = .ok (.iconst (-1), 1) := by decide +kernel
theorem dX5_about_77 : decode cX5_about 77 = .ok (.ireturn, 1) := by decide +kernel
theorem dX5_unlike_0 : decode cX5_unlike 0 = .ok (.aload_n 0, 1) := by decide +kernel
theorem dX5_unlike_1 : decode cX5_unlike 1 = .ok (.getfield 44, 3) := by decide +kernel
theorem dX5_unlike_4 : decode cX5_unlike 4 = .ok (.invokevirtual 163, 3) := by decide +kernel
theorem dX5_unlike_7 : decode cX5_unlike 7 = .ok (.ireturn, 1) := by decide +kernel
theorem dX5_size_0 : decode cX5_size 0 = .ok (.aload_n 0, 1) := by decide +kernel
theorem dX5_size_1 : decode cX5_size 1 = .ok (.getfield 10, 3) := by decide +kernel
theorem dX5_size_4 : decode cX5_size 4 = .ok (.getfield 69, 3) := by decide +kernel
theorem dX5_size_7 : decode cX5_size 7 = .ok (.ireturn, 1) := by decide +kernel
end
section
theorem dX0_init_0 : decode cX0_init 0 = .ok (.aload_n 0, 1) := by decide +kernel
theorem dX0_init_1 : decode cX0_init 1 = .ok (.invokespecial 3, 3) := by decide +kernel
theorem dX0_init_4 : decode cX0_init 4 = .ok (.aload_n 0, 1) := by decide +kernel
theorem dX0_init_5 : decode cX0_init 5 = .ok (.sipush 512, 3) := by decide +kernel
theorem dX0_init_8 : decode cX0_init 8 = .ok (.newarray .int, 2) := by decide +kernel
theorem dX0_init_10 : decode cX0_init 10 = .ok (.putfield 9, 3) := by decide +kernel
theorem dX0_init_13 : decode cX0_init 13 = .ok (.aload_n 0, 1) := by decide +kernel
theorem dX0_init_14 : decode cX0_init 14 = .ok (.sipush 512, 3) := by decide +kernel
theorem dX0_init_17 : decode cX0_init 17 = .ok (.newarray .int, 2) := by decide +kernel
theorem dX0_init_19 : decode cX0_init 19 = .ok (.putfield 15, 3) := by decide +kernel
theorem dX0_init_22 : decode cX0_init 22 = .ok (.aload_n 0, 1) := by decide +kernel
theorem dX0_init_23 : decode cX0_init 23 = .ok (.iconst 0, 1) := by decide +kernel
theorem dX0_init_24 : decode cX0_init 24 = .ok (.putfield 18, 3) := by decide +kernel
theorem dX0_init_27 : decode cX0_init 27 = .ok (.aload_n 0, 1) := by decide +kernel
theorem dX0_init_28 : decode cX0_init 28 = .ok (.iconst 0, 1) := by decide +kernel
theorem dX0_init_29 : decode cX0_init 29 = .ok (.putfield 22, 3) := by decide +kernel
theorem dX0_init_32 : decode cX0_init 32 = .ok (.aload_n 0, 1) := by decide +kernel
theorem dX0_init_33 : decode cX0_init 33 = .ok (.sipush 512, 3) := by decide +kernel
theorem dX0_init_36 : decode cX0_init 36 = .ok (.newarray .int, 2) := by decide +kernel
theorem dX0_init_38 : decode cX0_init 38 = .ok (.putfield 25, 3) := by decide +kernel
theorem dX0_init_41 : decode cX0_init 41 = .ok (.aload_n 0, 1) := by decide +kernel
theorem dX0_init_42 : decode cX0_init 42 = .ok (.sipush 512, 3) := by decide +kernel
theorem dX0_init_45 : decode cX0_init 45 = .ok (.newarray .int, 2) := by decide +kernel
theorem dX0_init_47 : decode cX0_init 47 = .ok (.putfield 28, 3) := by decide +kernel
theorem dX0_init_50 : decode cX0_init 50 = .ok (.aload_n 0, 1) := by decide +kernel
theorem dX0_init_51 : decode cX0_init 51 = .ok (.iconst 0, 1) := by decide +kernel
theorem dX0_init_52 : decode cX0_init 52 = .ok (.putfield 31, 3) := by decide +kernel
theorem dX0_init_55 : decode cX0_init 55 = .ok (.aload_n 0, 1) := by decide +kernel
theorem dX0_init_56 : decode cX0_init 56 = .ok (.iconst (-1), 1) := by decide +kernel
theorem dX0_init_57 : decode cX0_init 57 = .ok (.putfield 34, 3) := by decide +kernel
theorem dX0_init_60 : decode cX0_init 60 = .ok (.aload_n 0, 1) := by decide +kernel
theorem dX0_init_61 : decode cX0_init 61 = .ok (.iconst 0, 1) := by decide +kernel
theorem dX0_init_62 : decode cX0_init 62 = .ok (.putfield 37, 3) := by decide +kernel
theorem dX0_init_65 : decode cX0_init 65 = .ok (.aload_n 0, 1) := by decide +kernel
theorem dX0_init_66 : decode cX0_init 66 = .ok (.iconst 0, 1) := by decide +kernel
theorem dX0_init_67 : decode cX0_init 67 = .ok (.putfield 40, 3) := by decide +kernel
theorem dX0_init_70 : decode cX0_init 70 = .ok (.aload_n 0, 1) := by decide +kernel
theorem dX0_init_71 : decode cX0_init 71 = .ok (.iconst 0, 1) := by decide +kernel
theorem dX0_init_72 : decode cX0_init 72 = .ok (.putfield 43, 3) := by decide +kernel
theorem dX0_init_75 : decode cX0_init 75 = .ok (.aload_n 0, 1) := by decide +kernel
theorem dX0_init_76 : decode cX0_init 76 = .ok (.iconst 0, 1) := by decide +kernel
theorem dX0_init_77 : decode cX0_init 77 = .ok (.putfield 46, 3) := by decide +kernel
theorem dX0_init_80 : decode cX0_init 80 = .ok (.aload_n 0, 1) := by decide +kernel
theorem dX0_init_81 : decode cX0_init 81 = .ok (.iconst 0, 1) := by decide +kernel
theorem dX0_init_82 : decode cX0_init 82 = .ok (.putfield 49, 3) := by decide +kernel
theorem dX0_init_85 : decode cX0_init 85 = .ok (.aload_n 0, 1) := by decide +kernel
theorem dX0_init_86 : decode cX0_init 86 = .ok (.aload_n 1, 1) := by decide +kernel
theorem dX0_init_87 : decode cX0_init 87 = .ok (.putfield 52, 3) := by decide +kernel
theorem dX0_init_90 : decode cX0_init 90 = .ok (.aload_n 0, 1) := by decide +kernel
theorem dX0_init_91 : decode cX0_init 91 = .ok (.aload_n 2, 1) := by decide +kernel
theorem dX0_init_92 : decode cX0_init 92 = .ok (.putfield 56, 3) := by decide +kernel
theorem dX0_init_95 : decode cX0_init 95 = .ok (.return_, 1) := by decide +kernel
theorem dX0_forgetData_0 : decode cX0_forgetData 0 = .ok (.aload_n 0, 1) := by decide +kernel
theorem dX0_forgetData_1 : decode cX0_forgetData 1 = .ok (.invokevirtual 60, 3) := by decide +kernel
theorem dX0_forgetData_4 : decode cX0_forgetData 4 = .ok (.aload_n 0, 1) := by decide +kernel
theorem dX0_forgetData_5 : decode cX0_forgetData 5 = .ok (.getfield 25, 3) := by decide +kernel
theorem dX0_forgetData_8 : decode cX0_forgetData 8 = .ok (.iconst 0, 1) := by decide +kernel
theorem dX0_forgetData_9 : decode cX0_forgetData 9 = .ok (.invokestatic 63, 3) := by decide +kernel
theorem dX0_forgetData_12 : decode cX0_forgetData 12 = .ok (.aload_n 0, 1) := by decide +kernel
theorem dX0_forgetData_13 : decode cX0_forgetData 13 = .ok (.getfield 28, 3) := by decide +kernel
theorem dX0_forgetData_16 : decode cX0_forgetData 16 = .ok (.iconst 0, 1) := by decide +kernel
theorem dX0_forgetData_17 : decode cX0_forgetData 17 = .ok (.invokestatic 63, 3) := by decide +kernel
theorem dX0_forgetData_20 : decode cX0_forgetData 20 = .ok (.return_, 1) := by decide +kernel
theorem dX0_unlink_0 : decode cX0_unlink 0 = .ok (.aload_n 0, 1) := by decide +kernel
theorem dX0_unlink_1 : decode cX0_unlink 1 = .ok (.iconst 0, 1) := by decide +kernel
theorem dX0_unlink_2 : decode cX0_unlink 2 = .ok (.putfield 18, 3) := by decide +kernel
theorem dX0_unlink_5 : decode cX0_unlink 5 = .ok (.aload_n 0, 1) := by decide +kernel
theorem dX0_unlink_6 : decode cX0_unlink 6 = .ok (.aload_n 0, 1) := by decide +kernel
theorem dX0_unlink_7 : decode cX0_unlink 7 = .ok (.getfield 56, 3) := by decide +kernel
theorem dX0_unlink_10 : decode cX0_unlink 10 = .ok (.getfield 69, 3) := by decide +kernel
theorem dX0_unlink_13 : decode cX0_unlink 13 = .ok (.putfield 22, 3) := by decide +kernel
theorem dX0_unlink_16 : decode cX0_unlink 16 = .ok (.aload_n 0, 1) := by decide +kernel
theorem dX0_unlink_17 : decode cX0_unlink 17 = .ok (.getfield 9, 3) := by decide +kernel
theorem dX0_unlink_20 : decode cX0_unlink 20 = .ok (.iconst (-1), 1) := by decide +kernel
theorem dX0_unlink_21 : decode cX0_unlink 21 = .ok (.invokestatic 63, 3) := by decide +kernel
theorem dX0_unlink_24 : decode cX0_unlink 24 = .ok (.return_, 1) := by decide +kernel
theorem dX0_readData_0 : decode cX0_readData 0 = .ok (.aload_n 0, 1) := by decide +kernel
theorem dX0_readData_1 : decode cX0_readData 1 = .ok (.getfield 15, 3) := by decide +kernel
theorem dX0_readData_4 : decode cX0_readData 4 = .ok (.arraylength, 1) := by decide +kernel
theorem dX0_readData_5 : decode cX0_readData 5 = .ok (.aload_n 0, 1) := by decide +kernel
theorem dX0_readData_6 : decode cX0_readData 6 = .ok (.getfield 52, 3) := by decide +kernel
theorem dX0_readData_9 : decode cX0_readData 9 = .ok (.getfield 74, 3) := by decide +kernel
theorem dX0_readData_12 : decode cX0_readData 12 = .ok (.if_icmp .ge 17, 3) := by decide +kernel
theorem dX0_readData_15 : decode cX0_readData 15 = .ok (.aload_n 0, 1) := by decide +kernel
theorem dX0_readData_16 : decode cX0_readData 16 = .ok (.aload_n 0, 1) := by decide +kernel
theorem dX0_readData_17 : decode cX0_readData 17 = .ok (.getfield 52, 3) := by decide +kernel
theorem dX0_readData_20 : decode cX0_readData 20 = .ok (.getfield 74, 3) := by decide +kernel
theorem dX0_readData_23 : decode cX0_readData 23 = .ok (.invokestatic 79, 3) := by decide +kernel
theorem dX0_readData_26 : decode cX0_readData 26 = .ok (.invokevirtual 83, 3) := by decide +kernel
theorem dX0_readData_29 : decode cX0_readData 29 = .ok (.aload_n 0, 1) := by decide +kernel
theorem dX0_readData_30 : decode cX0_readData 30 = .ok (.getfield 22, 3) := by decide +kernel
theorem dX0_readData_33 : decode cX0_readData 33 = .ok (.aload_n 0, 1) := by decide +kernel
theorem dX0_readData_34 : decode cX0_readData 34 = .ok (.getfield 56, 3) := by decide +kernel
theorem dX0_readData_37 : decode cX0_readData 37 = .ok (.getfield 69, 3) := by decide +kernel
theorem dX0_readData_40 : decode cX0_readData 40 = .ok (.if_icmp .eq 7, 3) := by decide +kernel
theorem dX0_readData_43 : decode cX0_readData 43 = .ok (.aload_n 0, 1) := by decide +kernel
theorem dX0_readData_44 : decode cX0_readData 44 = .ok (.invokevirtual 60, 3) := by decide +kernel
theorem dX0_readData_47 : decode cX0_readData 47 = .ok (.aload_n 0, 1) := by decide +kernel
theorem dX0_readData_48 : decode cX0_readData 48 = .ok (.getfield 18, 3) := by decide +kernel
theorem dX0_readData_51 : decode cX0_readData 51 = .ok (.aload_n 0, 1) := by decide +kernel
theorem dX0_readData_52 : decode cX0_readData 52 = .ok (.getfield 22, 3) := by decide +kernel
theorem dX0_readData_55 : decode cX0_readData 55 = .ok (.iadd, 1) := by decide +kernel
theorem dX0_readData_56 : decode cX0_readData 56 = .ok (.aload_n 0, 1) := by decide +kernel
theorem dX0_readData_57 : decode cX0_readData 57 = .ok (.getfield 52, 3) := by decide +kernel
theorem dX0_readData_60 : decode cX0_readData 60 = .ok (.getfield 74, 3) := by decide +kernel
theorem dX0_readData_63 : decode cX0_readData 63 = .ok (.if_icmp .gt 50, 3) := by decide +kernel
theorem dX0_readData_66 : decode cX0_readData 66 = .ok (.aload_n 0, 1) := by decide +kernel
theorem dX0_readData_67 : decode cX0_readData 67 = .ok (.aload_n 0, 1) := by decide +kernel
theorem dX0_readData_68 : decode cX0_readData 68 = .ok (.getfield 18, 3) := by decide +kernel
theorem dX0_readData_71 : decode cX0_readData 71 = .ok (.invokevirtual 87, 3) := by decide +kernel
theorem dX0_readData_74 : decode cX0_readData 74 = .ok (.istore_n 1, 1) := by decide +kernel
theorem dX0_readData_75 : decode cX0_readData 75 = .ok (.aload_n 0, 1) := by decide +kernel
theorem dX0_readData_76 : decode cX0_readData 76 = .ok (.getfield 15, 3) := by decide +kernel
theorem dX0_readData_79 : decode cX0_readData 79 = .ok (.aload_n 0, 1) := by decide +kernel
theorem dX0_readData_80 : decode cX0_readData 80 = .ok (.getfield 18, 3) := by decide +kernel
theorem dX0_readData_83 : decode cX0_readData 83 = .ok (.aload_n 0, 1) := by decide +kernel
theorem dX0_readData_84 : decode cX0_readData 84 = .ok (.getfield 9, 3) := by decide +kernel
theorem dX0_readData_87 : decode cX0_readData 87 = .ok (.iload_n 1, 1) := by decide +kernel
theorem dX0_readData_88 : decode cX0_readData 88 = .ok (.iaload, 1) := by decide +kernel
theorem dX0_readData_89 : decode cX0_readData 89 = .ok (.iastore, 1) := by decide +kernel
theorem dX0_readData_90 : decode cX0_readData 90 = .ok (.aload_n 0, 1) := by decide +kernel
theorem dX0_readData_91 : decode cX0_readData 91 = .ok (.getfield 9, 3) := by decide +kernel
theorem dX0_readData_94 : decode cX0_readData 94 = .ok (.iload_n 1, 1) := by decide +kernel
theorem dX0_readData_95 : decode cX0_readData 95 = .ok (.aload_n 0, 1) := by decide +kernel
theorem dX0_readData_96 : decode cX0_readData 96 = .ok (.getfield 18, 3) := by decide +kernel
theorem dX0_readData_99 : decode cX0_readData 99 = .ok (.iastore, 1) := by decide +kernel
theorem dX0_readData_100 : decode cX0_readData 100 = .ok (.aload_n 0, 1) := by decide +kernel
theorem dX0_readData_101 : decode cX0_readData 101 = .ok (.dup, 1) := by decide +kernel
theorem dX0_readData_102 : decode cX0_readData 102 = .ok (.getfield 18, 3) := by decide +kernel
theorem dX0_readData_105 : decode cX0_readData 105 = .ok (.iconst 1, 1) := by decide +kernel
theorem dX0_readData_106 : decode cX0_readData 106 = .ok (.iadd, 1) := by decide +kernel
theorem dX0_readData_107 : decode cX0_readData 107 = .ok (.putfield 18, 3) := by decide +kernel
theorem dX0_readData_110 : decode cX0_readData 110 = .ok (.goto (-63), 3) := by decide +kernel
theorem dX0_readData_113 : decode cX0_readData 113 = .ok (.return_, 1) := by decide +kernel
theorem dX0_enlarge_0 : decode cX0_enlarge 0 = .ok (.aload_n 0, 1) := by decide +kernel
theorem dX0_enlarge_1 : decode cX0_enlarge 1 = .ok (.iload_n 1, 1) := by decide +kernel
theorem dX0_enlarge_2 : decode cX0_enlarge 2 = .ok (.newarray .int, 2) := by decide +kernel
theorem dX0_enlarge_4 : decode cX0_enlarge 4 = .ok (.putfield 9, 3) := by decide +kernel
theorem dX0_enlarge_7 : decode cX0_enlarge 7 = .ok (.aload_n 0, 1) := by decide +kernel
theorem dX0_enlarge_8 : decode cX0_enlarge 8 = .ok (.iload_n 1, 1) := by decide +kernel
theorem dX0_enlarge_9 : decode cX0_enlarge 9 = .ok (.newarray .int, 2) := by decide +kernel
theorem dX0_enlarge_11 : decode cX0_enlarge 11 = .ok (.putfield 15, 3) := by decide +kernel
theorem dX0_enlarge_14 : decode cX0_enlarge 14 = .ok (.aload_n 0, 1) := by decide +kernel
theorem dX0_enlarge_15 : decode cX0_enlarge 15 = .ok (.iload_n 1, 1) := by decide +kernel
theorem dX0_enlarge_16 : decode cX0_enlarge 16 = .ok (.newarray .int, 2) := by decide +kernel
theorem dX0_enlarge_18 : decode cX0_enlarge 18 = .ok (.putfield 25, 3) := by decide +kernel
theorem dX0_enlarge_21 : decode cX0_enlarge 21 = .ok (.aload_n 0, 1) := by decide +kernel
theorem dX0_enlarge_22 : decode cX0_enlarge 22 = .ok (.iload_n 1, 1) := by decide +kernel
theorem dX0_enlarge_23 : decode cX0_enlarge 23 = .ok (.newarray .int, 2) := by decide +kernel
theorem dX0_enlarge_25 : decode cX0_enlarge 25 = .ok (.putfield 28, 3) := by decide +kernel
theorem dX0_enlarge_28 : decode cX0_enlarge 28 = .ok (.aload_n 0, 1) := by decide +kernel
theorem dX0_enlarge_29 : decode cX0_enlarge 29 = .ok (.invokevirtual 60, 3) := by decide +kernel
theorem dX0_enlarge_32 : decode cX0_enlarge 32 = .ok (.return_, 1) := by decide +kernel
theorem dX0_slotOf_0 : decode cX0_slotOf 0 = .ok (.lconst 0, 1) := by decide +kernel
theorem dX0_slotOf_1 : decode cX0_slotOf 1 = .ok (.lstore_n 2, 1) := by decide +kernel
theorem dX0_slotOf_2 : decode cX0_slotOf 2 = .ok (.iconst 0, 1) := by decide +kernel
theorem dX0_slotOf_3 : decode cX0_slotOf 3 = .ok (.istore 4, 2) := by decide +kernel
theorem dX0_slotOf_5 : decode cX0_slotOf 5 = .ok (.iload 4, 2) := by decide +kernel
theorem dX0_slotOf_7 : decode cX0_slotOf 7 = .ok (.aload_n 0, 1) := by decide +kernel
theorem dX0_slotOf_8 : decode cX0_slotOf 8 = .ok (.getfield 22, 3) := by decide +kernel
theorem dX0_slotOf_11 : decode cX0_slotOf 11 = .ok (.if_icmp .ge 32, 3) := by decide +kernel
theorem dX0_slotOf_14 : decode cX0_slotOf 14 = .ok (.lload_n 2, 1) := by decide +kernel
theorem dX0_slotOf_15 : decode cX0_slotOf 15 = .ok (.bipush 8, 2) := by decide +kernel
theorem dX0_slotOf_17 : decode cX0_slotOf 17 = .ok (.lshl, 1) := by decide +kernel
theorem dX0_slotOf_18 : decode cX0_slotOf 18 = .ok (.aload_n 0, 1) := by decide +kernel
theorem dX0_slotOf_19 : decode cX0_slotOf 19 = .ok (.getfield 52, 3) := by decide +kernel
theorem dX0_slotOf_22 : decode cX0_slotOf 22 = .ok (.getfield 90, 3) := by decide +kernel
theorem dX0_slotOf_25 : decode cX0_slotOf 25 = .ok (.iload_n 1, 1) := by decide +kernel
theorem dX0_slotOf_26 : decode cX0_slotOf 26 = .ok (.iload 4, 2) := by decide +kernel
theorem dX0_slotOf_28 : decode cX0_slotOf 28 = .ok (.iadd, 1) := by decide +kernel
theorem dX0_slotOf_29 : decode cX0_slotOf 29 = .ok (.baload, 1) := by decide +kernel
theorem dX0_slotOf_30 : decode cX0_slotOf 30 = .ok (.sipush 255, 3) := by decide +kernel
theorem dX0_slotOf_33 : decode cX0_slotOf 33 = .ok (.iand, 1) := by decide +kernel
theorem dX0_slotOf_34 : decode cX0_slotOf 34 = .ok (.i2l, 1) := by decide +kernel
theorem dX0_slotOf_35 : decode cX0_slotOf 35 = .ok (.lor, 1) := by decide +kernel
theorem dX0_slotOf_36 : decode cX0_slotOf 36 = .ok (.lstore_n 2, 1) := by decide +kernel
theorem dX0_slotOf_37 : decode cX0_slotOf 37 = .ok (.iinc 4 1, 3) := by decide +kernel
theorem dX0_slotOf_40 : decode cX0_slotOf 40 = .ok (.goto (-35), 3) := by decide +kernel
theorem dX0_slotOf_43 : decode cX0_slotOf 43 = .ok (.lload_n 2, 1) := by decide +kernel
theorem dX0_slotOf_44 : decode cX0_slotOf 44 = .ok (.ldc2_w 94, 3) := by decide +kernel
theorem dX0_slotOf_47 : decode cX0_slotOf 47 = .ok (.lmul, 1) := by decide +kernel
theorem dX0_slotOf_48 : decode cX0_slotOf 48 = .ok (.bipush 49, 2) := by decide +kernel
theorem dX0_slotOf_50 : decode cX0_slotOf 50 = .ok (.lushr, 1) := by decide +kernel
theorem dX0_slotOf_51 : decode cX0_slotOf 51 = .ok (.l2i, 1) := by decide +kernel
theorem dX0_slotOf_52 : decode cX0_slotOf 52 = .ok (.aload_n 0, 1) := by decide +kernel
theorem dX0_slotOf_53 : decode cX0_slotOf 53 = .ok (.getfield 9, 3) := by decide +kernel
theorem dX0_slotOf_56 : decode cX0_slotOf 56 = .ok (.arraylength, 1) := by decide +kernel
theorem dX0_slotOf_57 : decode cX0_slotOf 57 = .ok (.iconst 1, 1) := by decide +kernel
theorem dX0_slotOf_58 : decode cX0_slotOf 58 = .ok (.isub, 1) := by decide +kernel
theorem dX0_slotOf_59 : decode cX0_slotOf 59 = .ok (.iand, 1) := by decide +kernel
theorem dX0_slotOf_60 : decode cX0_slotOf 60 = .ok (.ireturn, 1) := by decide +kernel
theorem dX0_seek_0 : decode cX0_seek 0 = .ok (.iload_n 2, 1) := by decide +kernel
theorem dX0_seek_1 : decode cX0_seek 1 = .ok (.tableswitch 69 0 3 #[31, 39, 69, 61], 31) := by decide +kernel
theorem dX0_seek_32 : decode cX0_seek 32 = .ok (.aload_n 0, 1) := by decide +kernel
theorem dX0_seek_33 : decode cX0_seek 33 = .ok (.iload_n 1, 1) := by decide +kernel
theorem dX0_seek_34 : decode cX0_seek 34 = .ok (.invokevirtual 96, 3) := by decide +kernel
theorem dX0_seek_37 : decode cX0_seek 37 = .ok (.goto 38, 3) := by decide +kernel
theorem dX0_seek_40 : decode cX0_seek 40 = .ok (.aload_n 0, 1) := by decide +kernel
theorem dX0_seek_41 : decode cX0_seek 41 = .ok (.iload_n 1, 1) := by decide +kernel
theorem dX0_seek_42 : decode cX0_seek 42 = .ok (.bipush 8, 2) := by decide +kernel
theorem dX0_seek_44 : decode cX0_seek 44 = .ok (.invokevirtual 99, 3) := by decide +kernel
theorem dX0_seek_47 : decode cX0_seek 47 = .ok (.aload_n 0, 1) := by decide +kernel
theorem dX0_seek_48 : decode cX0_seek 48 = .ok (.invokevirtual 103, 3) := by decide +kernel
theorem dX0_seek_51 : decode cX0_seek 51 = .ok (.ifCond .ne 24, 3) := by decide +kernel
theorem dX0_seek_54 : decode cX0_seek 54 = .ok (.aload_n 0, 1) := by decide +kernel
theorem dX0_seek_55 : decode cX0_seek 55 = .ok (.iload_n 1, 1) := by decide +kernel
theorem dX0_seek_56 : decode cX0_seek 56 = .ok (.invokevirtual 96, 3) := by decide +kernel
theorem dX0_seek_59 : decode cX0_seek 59 = .ok (.goto 16, 3) := by decide +kernel
theorem dX0_seek_62 : decode cX0_seek 62 = .ok (.aload_n 0, 1) := by decide +kernel
theorem dX0_seek_63 : decode cX0_seek 63 = .ok (.iload_n 1, 1) := by decide +kernel
theorem dX0_seek_64 : decode cX0_seek 64 = .ok (.invokevirtual 107, 3) := by decide +kernel
theorem dX0_seek_67 : decode cX0_seek 67 = .ok (.goto 8, 3) := by decide +kernel
theorem dX0_seek_70 : decode cX0_seek 70 = .ok (.aload_n 0, 1) := by decide +kernel
theorem dX0_seek_71 : decode cX0_seek 71 = .ok (.iload_n 1, 1) := by decide +kernel
theorem dX0_seek_72 : decode cX0_seek 72 = .ok (.invokevirtual 110, 3) := by decide +kernel
theorem dX0_seek_75 : decode cX0_seek 75 = .ok (.return_, 1) := by decide +kernel
theorem dX0_seekNearest_0 : decode cX0_seekNearest 0 = .ok (.aload_n 0, 1) := by decide +kernel
theorem dX0_seekNearest_1 : decode cX0_seekNearest 1 = .ok (.iload_n 1, 1) := by decide +kernel
theorem dX0_seekNearest_2 : decode cX0_seekNearest 2 = .ok (.aload_n 0, 1) := by decide +kernel
theorem dX0_seekNearest_3 : decode cX0_seekNearest 3 = .ok (.getfield 56, 3) := by decide +kernel
theorem dX0_seekNearest_6 : decode cX0_seekNearest 6 = .ok (.getfield 69, 3) := by decide +kernel
theorem dX0_seekNearest_9 : decode cX0_seekNearest 9 = .ok (.invokevirtual 99, 3) := by decide +kernel
theorem dX0_seekNearest_12 : decode cX0_seekNearest 12 = .ok (.aload_n 0, 1) := by decide +kernel
theorem dX0_seekNearest_13 : decode cX0_seekNearest 13 = .ok (.invokevirtual 103, 3) := by decide +kernel
theorem dX0_seekNearest_16 : decode cX0_seekNearest 16 = .ok (.pop, 1) := by decide +kernel
theorem dX0_seekNearest_17 : decode cX0_seekNearest 17 = .ok (.return_, 1) := by decide +kernel
theorem dX0_startAt_0 : decode cX0_startAt 0 = .ok (.aload_n 0, 1) := by decide +kernel
theorem dX0_startAt_1 : decode cX0_startAt 1 = .ok (.iload_n 1, 1) := by decide +kernel
theorem dX0_startAt_2 : decode cX0_startAt 2 = .ok (.putfield 31, 3) := by decide +kernel
theorem dX0_startAt_5 : decode cX0_startAt 5 = .ok (.aload_n 0, 1) := by decide +kernel
theorem dX0_startAt_6 : decode cX0_startAt 6 = .ok (.iconst 0, 1) := by decide +kernel
theorem dX0_startAt_7 : decode cX0_startAt 7 = .ok (.putfield 46, 3) := by decide +kernel
theorem dX0_startAt_10 : decode cX0_startAt 10 = .ok (.aload_n 0, 1) := by decide +kernel
theorem dX0_startAt_11 : decode cX0_startAt 11 = .ok (.iconst 0, 1) := by decide +kernel
theorem dX0_startAt_12 : decode cX0_startAt 12 = .ok (.putfield 49, 3) := by decide +kernel
theorem dX0_startAt_15 : decode cX0_startAt 15 = .ok (.aload_n 0, 1) := by decide +kernel
theorem dX0_startAt_16 : decode cX0_startAt 16 = .ok (.iload_n 2, 1) := by decide +kernel
theorem dX0_startAt_17 : decode cX0_startAt 17 = .ok (.iconst 1, 1) := by decide +kernel
theorem dX0_startAt_18 : decode cX0_startAt 18 = .ok (.isub, 1) := by decide +kernel
theorem dX0_startAt_19 : decode cX0_startAt 19 = .ok (.putfield 43, 3) := by decide +kernel
theorem dX0_startAt_22 : decode cX0_startAt 22 = .ok (.aload_n 0, 1) := by decide +kernel
theorem dX0_startAt_23 : decode cX0_startAt 23 = .ok (.iconst 0, 1) := by decide +kernel
theorem dX0_startAt_24 : decode cX0_startAt 24 = .ok (.iload_n 1, 1) := by decide +kernel
theorem dX0_startAt_25 : decode cX0_startAt 25 = .ok (.aload_n 0, 1) := by decide +kernel
theorem dX0_startAt_26 : decode cX0_startAt 26 = .ok (.getfield 56, 3) := by decide +kernel
theorem dX0_startAt_29 : decode cX0_startAt 29 = .ok (.getfield 117, 3) := by decide +kernel
theorem dX0_startAt_32 : decode cX0_startAt 32 = .ok (.isub, 1) := by decide +kernel
theorem dX0_startAt_33 : decode cX0_startAt 33 = .ok (.invokestatic 120, 3) := by decide +kernel
theorem dX0_startAt_36 : decode cX0_startAt 36 = .ok (.putfield 37, 3) := by decide +kernel
theorem dX0_startAt_39 : decode cX0_startAt 39 = .ok (.aload_n 0, 1) := by decide +kernel
theorem dX0_startAt_40 : decode cX0_startAt 40 = .ok (.aload_n 0, 1) := by decide +kernel
theorem dX0_startAt_41 : decode cX0_startAt 41 = .ok (.getfield 56, 3) := by decide +kernel
theorem dX0_startAt_44 : decode cX0_startAt 44 = .ok (.getfield 126, 3) := by decide +kernel
theorem dX0_startAt_47 : decode cX0_startAt 47 = .ok (.aload_n 0, 1) := by decide +kernel
theorem dX0_startAt_48 : decode cX0_startAt 48 = .ok (.getfield 56, 3) := by decide +kernel
theorem dX0_startAt_51 : decode cX0_startAt 51 = .ok (.aload_n 0, 1) := by decide +kernel
theorem dX0_startAt_52 : decode cX0_startAt 52 = .ok (.getfield 52, 3) := by decide +kernel
theorem dX0_startAt_55 : decode cX0_startAt 55 = .ok (.getfield 74, 3) := by decide +kernel
theorem dX0_startAt_58 : decode cX0_startAt 58 = .ok (.invokevirtual 129, 3) := by decide +kernel
theorem dX0_startAt_61 : decode cX0_startAt 61 = .ok (.iload_n 1, 1) := by decide +kernel
theorem dX0_startAt_62 : decode cX0_startAt 62 = .ok (.isub, 1) := by decide +kernel
theorem dX0_startAt_63 : decode cX0_startAt 63 = .ok (.invokestatic 132, 3) := by decide +kernel
theorem dX0_startAt_66 : decode cX0_startAt 66 = .ok (.putfield 40, 3) := by decide +kernel
theorem dX0_startAt_69 : decode cX0_startAt 69 = .ok (.iload_n 1, 1) := by decide +kernel
theorem dX0_startAt_70 : decode cX0_startAt 70 = .ok (.ifCond .lt 41, 3) := by decide +kernel
theorem dX0_startAt_73 : decode cX0_startAt 73 = .ok (.iload_n 1, 1) := by decide +kernel
theorem dX0_startAt_74 : decode cX0_startAt 74 = .ok (.aload_n 0, 1) := by decide +kernel
theorem dX0_startAt_75 : decode cX0_startAt 75 = .ok (.getfield 18, 3) := by decide +kernel
theorem dX0_startAt_78 : decode cX0_startAt 78 = .ok (.if_icmp .ge 33, 3) := by decide +kernel
theorem dX0_startAt_81 : decode cX0_startAt 81 = .ok (.iload_n 1, 1) := by decide +kernel
theorem dX0_startAt_82 : decode cX0_startAt 82 = .ok (.aload_n 0, 1) := by decide +kernel
theorem dX0_startAt_83 : decode cX0_startAt 83 = .ok (.getfield 56, 3) := by decide +kernel
theorem dX0_startAt_86 : decode cX0_startAt 86 = .ok (.aload_n 0, 1) := by decide +kernel
theorem dX0_startAt_87 : decode cX0_startAt 87 = .ok (.getfield 52, 3) := by decide +kernel
theorem dX0_startAt_90 : decode cX0_startAt 90 = .ok (.getfield 74, 3) := by decide +kernel
theorem dX0_startAt_93 : decode cX0_startAt 93 = .ok (.invokevirtual 135, 3) := by decide +kernel
theorem dX0_startAt_96 : decode cX0_startAt 96 = .ok (.if_icmp .gt 15, 3) := by decide +kernel
theorem dX0_startAt_99 : decode cX0_startAt 99 = .ok (.aload_n 0, 1) := by decide +kernel
theorem dX0_startAt_100 : decode cX0_startAt 100 = .ok (.getfield 40, 3) := by decide +kernel
theorem dX0_startAt_103 : decode cX0_startAt 103 = .ok (.iload_n 2, 1) := by decide +kernel
theorem dX0_startAt_104 : decode cX0_startAt 104 = .ok (.if_icmp .lt 7, 3) := by decide +kernel
theorem dX0_startAt_107 : decode cX0_startAt 107 = .ok (.iconst 1, 1) := by decide +kernel
theorem dX0_startAt_108 : decode cX0_startAt 108 = .ok (.goto 4, 3) := by decide +kernel
theorem dX0_startAt_111 : decode cX0_startAt 111 = .ok (.iconst 0, 1) := by decide +kernel
theorem dX0_startAt_112 : decode cX0_startAt 112 = .ok (.istore_n 3, 1) := by decide +kernel
theorem dX0_startAt_113 : decode cX0_startAt 113 = .ok (.aload_n 0, 1) := by decide +kernel
theorem dX0_startAt_114 : decode cX0_startAt 114 = .ok (.iload_n 3, 1) := by decide +kernel
theorem dX0_startAt_115 : decode cX0_startAt 115 = .ok (.ifCond .eq 12, 3) := by decide +kernel
theorem dX0_startAt_118 : decode cX0_startAt 118 = .ok (.aload_n 0, 1) := by decide +kernel
theorem dX0_startAt_119 : decode cX0_startAt 119 = .ok (.getfield 15, 3) := by decide +kernel
theorem dX0_startAt_122 : decode cX0_startAt 122 = .ok (.iload_n 1, 1) := by decide +kernel
theorem dX0_startAt_123 : decode cX0_startAt 123 = .ok (.iaload, 1) := by decide +kernel
theorem dX0_startAt_124 : decode cX0_startAt 124 = .ok (.goto 4, 3) := by decide +kernel
theorem dX0_startAt_127 : decode cX0_startAt 127 = .ok (.iconst (-1), 1) := by decide +kernel
theorem dX0_startAt_128 : decode cX0_startAt 128 = .ok (.putfield 34, 3) := by decide +kernel
theorem dX0_startAt_131 : decode cX0_startAt 131 = .ok (.return_, 1) := by decide +kernel
theorem dX0_findLonger_0 : decode cX0_findLonger 0 = .ok (.aload_n 0, 1) := by decide +kernel
theorem dX0_findLonger_1 : decode cX0_findLonger 1 = .ok (.getfield 52, 3) := by decide +kernel
theorem dX0_findLonger_4 : decode cX0_findLonger 4 = .ok (.getfield 90, 3) := by decide +kernel
theorem dX0_findLonger_7 : decode cX0_findLonger 7 = .ok (.astore_n 1, 1) := by decide +kernel
theorem dX0_findLonger_8 : decode cX0_findLonger 8 = .ok (.aload_n 0, 1) := by decide +kernel
theorem dX0_findLonger_9 : decode cX0_findLonger 9 = .ok (.getfield 31, 3) := by decide +kernel
theorem dX0_findLonger_12 : decode cX0_findLonger 12 = .ok (.istore_n 2, 1) := by decide +kernel
theorem dX0_findLonger_13 : decode cX0_findLonger 13 = .ok (.iload_n 2, 1) := by decide +kernel
theorem dX0_findLonger_14 : decode cX0_findLonger 14 = .ok (.ifCond .le 121, 3) := by decide +kernel
theorem dX0_findLonger_17 : decode cX0_findLonger 17 = .ok (.aload_n 0, 1) := by decide +kernel
theorem dX0_findLonger_18 : decode cX0_findLonger 18 = .ok (.getfield 34, 3) := by decide +kernel
theorem dX0_findLonger_21 : decode cX0_findLonger 21 = .ok (.aload_n 0, 1) := by decide +kernel
theorem dX0_findLonger_22 : decode cX0_findLonger 22 = .ok (.getfield 37, 3) := by decide +kernel
theorem dX0_findLonger_25 : decode cX0_findLonger 25 = .ok (.if_icmp .lt 110, 3) := by decide +kernel
theorem dX0_findLonger_28 : decode cX0_findLonger 28 = .ok (.aload_n 0, 1) := by decide +kernel
theorem dX0_findLonger_29 : decode cX0_findLonger 29 = .ok (.getfield 43, 3) := by decide +kernel
theorem dX0_findLonger_32 : decode cX0_findLonger 32 = .ok (.aload_n 0, 1) := by decide +kernel
theorem dX0_findLonger_33 : decode cX0_findLonger 33 = .ok (.getfield 40, 3) := by decide +kernel
theorem dX0_findLonger_36 : decode cX0_findLonger 36 = .ok (.if_icmp .ge 99, 3) := by decide +kernel
theorem dX0_findLonger_39 : decode cX0_findLonger 39 = .ok (.aload_n 0, 1) := by decide +kernel
theorem dX0_findLonger_40 : decode cX0_findLonger 40 = .ok (.getfield 34, 3) := by decide +kernel
theorem dX0_findLonger_43 : decode cX0_findLonger 43 = .ok (.istore_n 3, 1) := by decide +kernel
theorem dX0_findLonger_44 : decode cX0_findLonger 44 = .ok (.aload_n 0, 1) := by decide +kernel
theorem dX0_findLonger_45 : decode cX0_findLonger 45 = .ok (.aload_n 0, 1) := by decide +kernel
theorem dX0_findLonger_46 : decode cX0_findLonger 46 = .ok (.getfield 15, 3) := by decide +kernel
theorem dX0_findLonger_49 : decode cX0_findLonger 49 = .ok (.iload_n 3, 1) := by decide +kernel
theorem dX0_findLonger_50 : decode cX0_findLonger 50 = .ok (.iaload, 1) := by decide +kernel
theorem dX0_findLonger_51 : decode cX0_findLonger 51 = .ok (.putfield 34, 3) := by decide +kernel
theorem dX0_findLonger_54 : decode cX0_findLonger 54 = .ok (.aload_n 1, 1) := by decide +kernel
theorem dX0_findLonger_55 : decode cX0_findLonger 55 = .ok (.iload_n 3, 1) := by decide +kernel
theorem dX0_findLonger_56 : decode cX0_findLonger 56 = .ok (.aload_n 0, 1) := by decide +kernel
theorem dX0_findLonger_57 : decode cX0_findLonger 57 = .ok (.getfield 43, 3) := by decide +kernel
theorem dX0_findLonger_60 : decode cX0_findLonger 60 = .ok (.iadd, 1) := by decide +kernel
theorem dX0_findLonger_61 : decode cX0_findLonger 61 = .ok (.baload, 1) := by decide +kernel
theorem dX0_findLonger_62 : decode cX0_findLonger 62 = .ok (.aload_n 1, 1) := by decide +kernel
theorem dX0_findLonger_63 : decode cX0_findLonger 63 = .ok (.aload_n 0, 1) := by decide +kernel
theorem dX0_findLonger_64 : decode cX0_findLonger 64 = .ok (.getfield 31, 3) := by decide +kernel
theorem dX0_findLonger_67 : decode cX0_findLonger 67 = .ok (.aload_n 0, 1) := by decide +kernel
theorem dX0_findLonger_68 : decode cX0_findLonger 68 = .ok (.getfield 43, 3) := by decide +kernel
theorem dX0_findLonger_71 : decode cX0_findLonger 71 = .ok (.iadd, 1) := by decide +kernel
theorem dX0_findLonger_72 : decode cX0_findLonger 72 = .ok (.baload, 1) := by decide +kernel
theorem dX0_findLonger_73 : decode cX0_findLonger 73 = .ok (.if_icmp .ne 56, 3) := by decide +kernel
theorem dX0_findLonger_76 : decode cX0_findLonger 76 = .ok (.aload_n 0, 1) := by decide +kernel
theorem dX0_findLonger_77 : decode cX0_findLonger 77 = .ok (.aload_n 0, 1) := by decide +kernel
theorem dX0_findLonger_78 : decode cX0_findLonger 78 = .ok (.getfield 31, 3) := by decide +kernel
theorem dX0_findLonger_81 : decode cX0_findLonger 81 = .ok (.aload_n 0, 1) := by decide +kernel
theorem dX0_findLonger_82 : decode cX0_findLonger 82 = .ok (.getfield 31, 3) := by decide +kernel
theorem dX0_findLonger_85 : decode cX0_findLonger 85 = .ok (.iload_n 3, 1) := by decide +kernel
theorem dX0_findLonger_86 : decode cX0_findLonger 86 = .ok (.isub, 1) := by decide +kernel
theorem dX0_findLonger_87 : decode cX0_findLonger 87 = .ok (.aload_n 0, 1) := by decide +kernel
theorem dX0_findLonger_88 : decode cX0_findLonger 88 = .ok (.getfield 40, 3) := by decide +kernel
theorem dX0_findLonger_91 : decode cX0_findLonger 91 = .ok (.invokevirtual 113, 3) := by decide +kernel
theorem dX0_findLonger_94 : decode cX0_findLonger 94 = .ok (.istore 4, 2) := by decide +kernel
theorem dX0_findLonger_96 : decode cX0_findLonger 96 = .ok (.iload 4, 2) := by decide +kernel
theorem dX0_findLonger_98 : decode cX0_findLonger 98 = .ok (.aload_n 0, 1) := by decide +kernel
theorem dX0_findLonger_99 : decode cX0_findLonger 99 = .ok (.getfield 43, 3) := by decide +kernel
theorem dX0_findLonger_102 : decode cX0_findLonger 102 = .ok (.if_icmp .le 27, 3) := by decide +kernel
theorem dX0_findLonger_105 : decode cX0_findLonger 105 = .ok (.aload_n 0, 1) := by decide +kernel
theorem dX0_findLonger_106 : decode cX0_findLonger 106 = .ok (.iload 4, 2) := by decide +kernel
theorem dX0_findLonger_108 : decode cX0_findLonger 108 = .ok (.putfield 43, 3) := by decide +kernel
theorem dX0_findLonger_111 : decode cX0_findLonger 111 = .ok (.aload_n 0, 1) := by decide +kernel
theorem dX0_findLonger_112 : decode cX0_findLonger 112 = .ok (.iload 4, 2) := by decide +kernel
theorem dX0_findLonger_114 : decode cX0_findLonger 114 = .ok (.putfield 46, 3) := by decide +kernel
theorem dX0_findLonger_117 : decode cX0_findLonger 117 = .ok (.aload_n 0, 1) := by decide +kernel
theorem dX0_findLonger_118 : decode cX0_findLonger 118 = .ok (.aload_n 0, 1) := by decide +kernel
theorem dX0_findLonger_119 : decode cX0_findLonger 119 = .ok (.getfield 31, 3) := by decide +kernel
theorem dX0_findLonger_122 : decode cX0_findLonger 122 = .ok (.iload_n 3, 1) := by decide +kernel
theorem dX0_findLonger_123 : decode cX0_findLonger 123 = .ok (.isub, 1) := by decide +kernel
theorem dX0_findLonger_124 : decode cX0_findLonger 124 = .ok (.putfield 49, 3) := by decide +kernel
theorem dX0_findLonger_127 : decode cX0_findLonger 127 = .ok (.iconst 1, 1) := by decide +kernel
theorem dX0_findLonger_128 : decode cX0_findLonger 128 = .ok (.ireturn, 1) := by decide +kernel
theorem dX0_findLonger_129 : decode cX0_findLonger 129 = .ok (.iinc 2 (-1), 3) := by decide +kernel
theorem dX0_findLonger_132 : decode cX0_findLonger 132 = .ok (.goto (-119), 3) := by decide +kernel
theorem dX0_findLonger_135 : decode cX0_findLonger 135 = .ok (.iconst 0, 1) := by decide +kernel
theorem dX0_findLonger_136 : decode cX0_findLonger 136 = .ok (.ireturn, 1) := by decide +kernel
theorem dX0_sameBytes_0 : decode cX0_sameBytes 0 = .ok (.aload_n 0, 1) := by decide +kernel
theorem dX0_sameBytes_1 : decode cX0_sameBytes 1 = .ok (.getfield 52, 3) := by decide +kernel
theorem dX0_sameBytes_4 : decode cX0_sameBytes 4 = .ok (.getfield 90, 3) := by decide +kernel
theorem dX0_sameBytes_7 : decode cX0_sameBytes 7 = .ok (.astore 4, 2) := by decide +kernel
theorem dX0_sameBytes_9 : decode cX0_sameBytes 9 = .ok (.iload_n 1, 1) := by decide +kernel
theorem dX0_sameBytes_10 : decode cX0_sameBytes 10 = .ok (.iload_n 3, 1) := by decide +kernel
theorem dX0_sameBytes_11 : decode cX0_sameBytes 11 = .ok (.iadd, 1) := by decide +kernel
theorem dX0_sameBytes_12 : decode cX0_sameBytes 12 = .ok (.istore 5, 2) := by decide +kernel
theorem dX0_sameBytes_14 : decode cX0_sameBytes 14 = .ok (.aload_n 0, 1) := by decide +kernel
theorem dX0_sameBytes_15 : decode cX0_sameBytes 15 = .ok (.getfield 25, 3) := by decide +kernel
theorem dX0_sameBytes_18 : decode cX0_sameBytes 18 = .ok (.iload_n 2, 1) := by decide +kernel
theorem dX0_sameBytes_19 : decode cX0_sameBytes 19 = .ok (.iaload, 1) := by decide +kernel
theorem dX0_sameBytes_20 : decode cX0_sameBytes 20 = .ok (.istore 6, 2) := by decide +kernel
theorem dX0_sameBytes_22 : decode cX0_sameBytes 22 = .ok (.aload_n 0, 1) := by decide +kernel
theorem dX0_sameBytes_23 : decode cX0_sameBytes 23 = .ok (.getfield 28, 3) := by decide +kernel
theorem dX0_sameBytes_26 : decode cX0_sameBytes 26 = .ok (.iload_n 2, 1) := by decide +kernel
theorem dX0_sameBytes_27 : decode cX0_sameBytes 27 = .ok (.iaload, 1) := by decide +kernel
theorem dX0_sameBytes_28 : decode cX0_sameBytes 28 = .ok (.istore 7, 2) := by decide +kernel
theorem dX0_sameBytes_30 : decode cX0_sameBytes 30 = .ok (.iload 6, 2) := by decide +kernel
theorem dX0_sameBytes_32 : decode cX0_sameBytes 32 = .ok (.iload_n 1, 1) := by decide +kernel
theorem dX0_sameBytes_33 : decode cX0_sameBytes 33 = .ok (.if_icmp .gt 13, 3) := by decide +kernel
theorem dX0_sameBytes_36 : decode cX0_sameBytes 36 = .ok (.iload_n 1, 1) := by decide +kernel
theorem dX0_sameBytes_37 : decode cX0_sameBytes 37 = .ok (.iload 7, 2) := by decide +kernel
theorem dX0_sameBytes_39 : decode cX0_sameBytes 39 = .ok (.if_icmp .ge 7, 3) := by decide +kernel
theorem dX0_sameBytes_42 : decode cX0_sameBytes 42 = .ok (.iconst 1, 1) := by decide +kernel
theorem dX0_sameBytes_43 : decode cX0_sameBytes 43 = .ok (.goto 4, 3) := by decide +kernel
theorem dX0_sameBytes_46 : decode cX0_sameBytes 46 = .ok (.iconst 0, 1) := by decide +kernel
theorem dX0_sameBytes_47 : decode cX0_sameBytes 47 = .ok (.istore 8, 2) := by decide +kernel
theorem dX0_sameBytes_49 : decode cX0_sameBytes 49 = .ok (.iload 8, 2) := by decide +kernel
theorem dX0_sameBytes_51 : decode cX0_sameBytes 51 = .ok (.ifCond .eq 8, 3) := by decide +kernel
theorem dX0_sameBytes_54 : decode cX0_sameBytes 54 = .ok (.iload 7, 2) := by decide +kernel
theorem dX0_sameBytes_56 : decode cX0_sameBytes 56 = .ok (.goto 4, 3) := by decide +kernel
theorem dX0_sameBytes_59 : decode cX0_sameBytes 59 = .ok (.iload_n 1, 1) := by decide +kernel
theorem dX0_sameBytes_60 : decode cX0_sameBytes 60 = .ok (.istore 9, 2) := by decide +kernel
theorem dX0_sameBytes_62 : decode cX0_sameBytes 62 = .ok (.iload 9, 2) := by decide +kernel
theorem dX0_sameBytes_64 : decode cX0_sameBytes 64 = .ok (.iload 5, 2) := by decide +kernel
theorem dX0_sameBytes_66 : decode cX0_sameBytes 66 = .ok (.if_icmp .ge 35, 3) := by decide +kernel
theorem dX0_sameBytes_69 : decode cX0_sameBytes 69 = .ok (.aload 4, 2) := by decide +kernel
theorem dX0_sameBytes_71 : decode cX0_sameBytes 71 = .ok (.iload 9, 2) := by decide +kernel
theorem dX0_sameBytes_73 : decode cX0_sameBytes 73 = .ok (.baload, 1) := by decide +kernel
theorem dX0_sameBytes_74 : decode cX0_sameBytes 74 = .ok (.aload 4, 2) := by decide +kernel
theorem dX0_sameBytes_76 : decode cX0_sameBytes 76 = .ok (.iload 9, 2) := by decide +kernel
theorem dX0_sameBytes_78 : decode cX0_sameBytes 78 = .ok (.iload_n 2, 1) := by decide +kernel
theorem dX0_sameBytes_79 : decode cX0_sameBytes 79 = .ok (.isub, 1) := by decide +kernel
theorem dX0_sameBytes_80 : decode cX0_sameBytes 80 = .ok (.baload, 1) := by decide +kernel
theorem dX0_sameBytes_81 : decode cX0_sameBytes 81 = .ok (.if_icmp .ne 20, 3) := by decide +kernel
theorem dX0_sameBytes_84 : decode cX0_sameBytes 84 = .ok (.iinc 9 1, 3) := by decide +kernel
theorem dX0_sameBytes_87 : decode cX0_sameBytes 87 = .ok (.iload 9, 2) := by decide +kernel
theorem dX0_sameBytes_89 : decode cX0_sameBytes 89 = .ok (.iload 6, 2) := by decide +kernel
theorem dX0_sameBytes_91 : decode cX0_sameBytes 91 = .ok (.if_icmp .ne (-29), 3) := by decide +kernel
theorem dX0_sameBytes_94 : decode cX0_sameBytes 94 = .ok (.iload 7, 2) := by decide +kernel
theorem dX0_sameBytes_96 : decode cX0_sameBytes 96 = .ok (.istore 9, 2) := by decide +kernel
theorem dX0_sameBytes_98 : decode cX0_sameBytes 98 = .ok (.goto (-36), 3) := by decide +kernel
theorem dX0_sameBytes_101 : decode cX0_sameBytes 101 = .ok (.aload_n 0, 1) := by decide +kernel
theorem dX0_sameBytes_102 : decode cX0_sameBytes 102 = .ok (.getfield 25, 3) := by decide +kernel
theorem dX0_sameBytes_105 : decode cX0_sameBytes 105 = .ok (.iload_n 2, 1) := by decide +kernel
theorem dX0_sameBytes_106 : decode cX0_sameBytes 106 = .ok (.iload 8, 2) := by decide +kernel
theorem dX0_sameBytes_108 : decode cX0_sameBytes 108 = .ok (.ifCond .eq 8, 3) := by decide +kernel
theorem dX0_sameBytes_111 : decode cX0_sameBytes 111 = .ok (.iload 6, 2) := by decide +kernel
theorem dX0_sameBytes_113 : decode cX0_sameBytes 113 = .ok (.goto 4, 3) := by decide +kernel
theorem dX0_sameBytes_116 : decode cX0_sameBytes 116 = .ok (.iload_n 1, 1) := by decide +kernel
theorem dX0_sameBytes_117 : decode cX0_sameBytes 117 = .ok (.iastore, 1) := by decide +kernel
theorem dX0_sameBytes_118 : decode cX0_sameBytes 118 = .ok (.aload_n 0, 1) := by decide +kernel
theorem dX0_sameBytes_119 : decode cX0_sameBytes 119 = .ok (.getfield 28, 3) := by decide +kernel
theorem dX0_sameBytes_122 : decode cX0_sameBytes 122 = .ok (.iload_n 2, 1) := by decide +kernel
theorem dX0_sameBytes_123 : decode cX0_sameBytes 123 = .ok (.iload 9, 2) := by decide +kernel
theorem dX0_sameBytes_125 : decode cX0_sameBytes 125 = .ok (.iastore, 1) := by decide +kernel
theorem dX0_sameBytes_126 : decode cX0_sameBytes 126 = .ok (.iload 9, 2) := by decide +kernel
theorem dX0_sameBytes_128 : decode cX0_sameBytes 128 = .ok (.iload 5, 2) := by decide +kernel
theorem dX0_sameBytes_130 : decode cX0_sameBytes 130 = .ok (.invokestatic 132, 3) := by decide +kernel
theorem dX0_sameBytes_133 : decode cX0_sameBytes 133 = .ok (.iload_n 1, 1) := by decide +kernel
theorem dX0_sameBytes_134 : decode cX0_sameBytes 134 = .ok (.isub, 1) := by decide +kernel
theorem dX0_sameBytes_135 : decode cX0_sameBytes 135 = .ok (.ireturn, 1) := by decide +kernel
theorem dX0_seekLongestIfNotNext_0 : decode cX0_seekLongestIfNotNext 0 = .ok (.aload_n 0, 1) := by decide +kernel
theorem dX0_seekLongestIfNotNext_1 : decode cX0_seekLongestIfNotNext 1 = .ok (.iload_n 1, 1) := by decide +kernel
theorem dX0_seekLongestIfNotNext_2 : decode cX0_seekLongestIfNotNext 2 = .ok (.invokevirtual 110, 3) := by decide +kernel
theorem dX0_seekLongestIfNotNext_5 : decode cX0_seekLongestIfNotNext 5 = .ok (.aload_n 0, 1) := by decide +kernel
theorem dX0_seekLongestIfNotNext_6 : decode cX0_seekLongestIfNotNext 6 = .ok (.getfield 46, 3) := by decide +kernel
theorem dX0_seekLongestIfNotNext_9 : decode cX0_seekLongestIfNotNext 9 = .ok (.istore_n 2, 1) := by decide +kernel
theorem dX0_seekLongestIfNotNext_10 : decode cX0_seekLongestIfNotNext 10 = .ok (.aload_n 0, 1) := by decide +kernel
theorem dX0_seekLongestIfNotNext_11 : decode cX0_seekLongestIfNotNext 11 = .ok (.getfield 49, 3) := by decide +kernel
theorem dX0_seekLongestIfNotNext_14 : decode cX0_seekLongestIfNotNext 14 = .ok (.istore_n 3, 1) := by decide +kernel
theorem dX0_seekLongestIfNotNext_15 : decode cX0_seekLongestIfNotNext 15 = .ok (.iload_n 2, 1) := by decide +kernel
theorem dX0_seekLongestIfNotNext_16 : decode cX0_seekLongestIfNotNext 16 = .ok (.ifCond .ne 4, 3) := by decide +kernel
theorem dX0_seekLongestIfNotNext_19 : decode cX0_seekLongestIfNotNext 19 = .ok (.return_, 1) := by decide +kernel
theorem dX0_seekLongestIfNotNext_20 : decode cX0_seekLongestIfNotNext 20 = .ok (.aload_n 0, 1) := by decide +kernel
theorem dX0_seekLongestIfNotNext_21 : decode cX0_seekLongestIfNotNext 21 = .ok (.iload_n 1, 1) := by decide +kernel
theorem dX0_seekLongestIfNotNext_22 : decode cX0_seekLongestIfNotNext 22 = .ok (.iconst 1, 1) := by decide +kernel
theorem dX0_seekLongestIfNotNext_23 : decode cX0_seekLongestIfNotNext 23 = .ok (.iadd, 1) := by decide +kernel
theorem dX0_seekLongestIfNotNext_24 : decode cX0_seekLongestIfNotNext 24 = .ok (.iload_n 2, 1) := by decide +kernel
theorem dX0_seekLongestIfNotNext_25 : decode cX0_seekLongestIfNotNext 25 = .ok (.iconst 1, 1) := by decide +kernel
theorem dX0_seekLongestIfNotNext_26 : decode cX0_seekLongestIfNotNext 26 = .ok (.iadd, 1) := by decide +kernel
theorem dX0_seekLongestIfNotNext_27 : decode cX0_seekLongestIfNotNext 27 = .ok (.invokevirtual 99, 3) := by decide +kernel
theorem dX0_seekLongestIfNotNext_30 : decode cX0_seekLongestIfNotNext 30 = .ok (.aload_n 0, 1) := by decide +kernel
theorem dX0_seekLongestIfNotNext_31 : decode cX0_seekLongestIfNotNext 31 = .ok (.invokevirtual 103, 3) := by decide +kernel
theorem dX0_seekLongestIfNotNext_34 : decode cX0_seekLongestIfNotNext 34 = .ok (.istore 4, 2) := by decide +kernel
theorem dX0_seekLongestIfNotNext_36 : decode cX0_seekLongestIfNotNext 36 = .ok (.aload_n 0, 1) := by decide +kernel
theorem dX0_seekLongestIfNotNext_37 : decode cX0_seekLongestIfNotNext 37 = .ok (.iload 4, 2) := by decide +kernel
theorem dX0_seekLongestIfNotNext_39 : decode cX0_seekLongestIfNotNext 39 = .ok (.ifCond .eq 7, 3) := by decide +kernel
theorem dX0_seekLongestIfNotNext_42 : decode cX0_seekLongestIfNotNext 42 = .ok (.iconst 0, 1) := by decide +kernel
theorem dX0_seekLongestIfNotNext_43 : decode cX0_seekLongestIfNotNext 43 = .ok (.goto 4, 3) := by decide +kernel
theorem dX0_seekLongestIfNotNext_46 : decode cX0_seekLongestIfNotNext 46 = .ok (.iload_n 2, 1) := by decide +kernel
theorem dX0_seekLongestIfNotNext_47 : decode cX0_seekLongestIfNotNext 47 = .ok (.putfield 46, 3) := by decide +kernel
theorem dX0_seekLongestIfNotNext_50 : decode cX0_seekLongestIfNotNext 50 = .ok (.aload_n 0, 1) := by decide +kernel
theorem dX0_seekLongestIfNotNext_51 : decode cX0_seekLongestIfNotNext 51 = .ok (.iload 4, 2) := by decide +kernel
theorem dX0_seekLongestIfNotNext_53 : decode cX0_seekLongestIfNotNext 53 = .ok (.ifCond .eq 7, 3) := by decide +kernel
theorem dX0_seekLongestIfNotNext_56 : decode cX0_seekLongestIfNotNext 56 = .ok (.iconst 0, 1) := by decide +kernel
theorem dX0_seekLongestIfNotNext_57 : decode cX0_seekLongestIfNotNext 57 = .ok (.goto 4, 3) := by decide +kernel
theorem dX0_seekLongestIfNotNext_60 : decode cX0_seekLongestIfNotNext 60 = .ok (.iload_n 3, 1) := by decide +kernel
theorem dX0_seekLongestIfNotNext_61 : decode cX0_seekLongestIfNotNext 61 = .ok (.putfield 49, 3) := by decide +kernel
theorem dX0_seekLongestIfNotNext_64 : decode cX0_seekLongestIfNotNext 64 = .ok (.return_, 1) := by decide +kernel
theorem dX0_seekLongest_0 : decode cX0_seekLongest 0 = .ok (.aload_n 0, 1) := by decide +kernel
theorem dX0_seekLongest_1 : decode cX0_seekLongest 1 = .ok (.iload_n 1, 1) := by decide +kernel
theorem dX0_seekLongest_2 : decode cX0_seekLongest 2 = .ok (.aload_n 0, 1) := by decide +kernel
theorem dX0_seekLongest_3 : decode cX0_seekLongest 3 = .ok (.getfield 56, 3) := by decide +kernel
theorem dX0_seekLongest_6 : decode cX0_seekLongest 6 = .ok (.getfield 69, 3) := by decide +kernel
theorem dX0_seekLongest_9 : decode cX0_seekLongest 9 = .ok (.invokevirtual 99, 3) := by decide +kernel
theorem dX0_seekLongest_12 : decode cX0_seekLongest 12 = .ok (.iload_n 1, 1) := by decide +kernel
theorem dX0_seekLongest_13 : decode cX0_seekLongest 13 = .ok (.istore_n 2, 1) := by decide +kernel
theorem dX0_seekLongest_14 : decode cX0_seekLongest 14 = .ok (.iload_n 2, 1) := by decide +kernel
theorem dX0_seekLongest_15 : decode cX0_seekLongest 15 = .ok (.ifCond .le 16, 3) := by decide +kernel
theorem dX0_seekLongest_18 : decode cX0_seekLongest 18 = .ok (.aload_n 0, 1) := by decide +kernel
theorem dX0_seekLongest_19 : decode cX0_seekLongest 19 = .ok (.invokevirtual 103, 3) := by decide +kernel
theorem dX0_seekLongest_22 : decode cX0_seekLongest 22 = .ok (.ifCond .eq 9, 3) := by decide +kernel
theorem dX0_seekLongest_25 : decode cX0_seekLongest 25 = .ok (.iinc 2 (-1), 3) := by decide +kernel
theorem dX0_seekLongest_28 : decode cX0_seekLongest 28 = .ok (.goto (-14), 3) := by decide +kernel
theorem dX0_seekLongest_31 : decode cX0_seekLongest 31 = .ok (.return_, 1) := by decide +kernel
theorem dX0_matchesAt_0 : decode cX0_matchesAt 0 = .ok (.aload_n 0, 1) := by decide +kernel
theorem dX0_matchesAt_1 : decode cX0_matchesAt 1 = .ok (.iload_n 1, 1) := by decide +kernel
theorem dX0_matchesAt_2 : decode cX0_matchesAt 2 = .ok (.aload_n 0, 1) := by decide +kernel
theorem dX0_matchesAt_3 : decode cX0_matchesAt 3 = .ok (.getfield 56, 3) := by decide +kernel
theorem dX0_matchesAt_6 : decode cX0_matchesAt 6 = .ok (.getfield 69, 3) := by decide +kernel
theorem dX0_matchesAt_9 : decode cX0_matchesAt 9 = .ok (.invokevirtual 99, 3) := by decide +kernel
theorem dX0_matchesAt_12 : decode cX0_matchesAt 12 = .ok (.iconst 0, 1) := by decide +kernel
theorem dX0_matchesAt_13 : decode cX0_matchesAt 13 = .ok (.istore_n 2, 1) := by decide +kernel
theorem dX0_matchesAt_14 : decode cX0_matchesAt 14 = .ok (.iload_n 1, 1) := by decide +kernel
theorem dX0_matchesAt_15 : decode cX0_matchesAt 15 = .ok (.istore_n 3, 1) := by decide +kernel
theorem dX0_matchesAt_16 : decode cX0_matchesAt 16 = .ok (.iload_n 3, 1) := by decide +kernel
theorem dX0_matchesAt_17 : decode cX0_matchesAt 17 = .ok (.ifCond .le 64, 3) := by decide +kernel
theorem dX0_matchesAt_20 : decode cX0_matchesAt 20 = .ok (.aload_n 0, 1) := by decide +kernel
theorem dX0_matchesAt_21 : decode cX0_matchesAt 21 = .ok (.getfield 34, 3) := by decide +kernel
theorem dX0_matchesAt_24 : decode cX0_matchesAt 24 = .ok (.aload_n 0, 1) := by decide +kernel
theorem dX0_matchesAt_25 : decode cX0_matchesAt 25 = .ok (.getfield 37, 3) := by decide +kernel
theorem dX0_matchesAt_28 : decode cX0_matchesAt 28 = .ok (.if_icmp .lt 53, 3) := by decide +kernel
theorem dX0_matchesAt_31 : decode cX0_matchesAt 31 = .ok (.aload_n 0, 1) := by decide +kernel
theorem dX0_matchesAt_32 : decode cX0_matchesAt 32 = .ok (.iload_n 1, 1) := by decide +kernel
theorem dX0_matchesAt_33 : decode cX0_matchesAt 33 = .ok (.iload_n 1, 1) := by decide +kernel
theorem dX0_matchesAt_34 : decode cX0_matchesAt 34 = .ok (.aload_n 0, 1) := by decide +kernel
theorem dX0_matchesAt_35 : decode cX0_matchesAt 35 = .ok (.getfield 34, 3) := by decide +kernel
theorem dX0_matchesAt_38 : decode cX0_matchesAt 38 = .ok (.isub, 1) := by decide +kernel
theorem dX0_matchesAt_39 : decode cX0_matchesAt 39 = .ok (.aload_n 0, 1) := by decide +kernel
theorem dX0_matchesAt_40 : decode cX0_matchesAt 40 = .ok (.getfield 56, 3) := by decide +kernel
theorem dX0_matchesAt_43 : decode cX0_matchesAt 43 = .ok (.getfield 69, 3) := by decide +kernel
theorem dX0_matchesAt_46 : decode cX0_matchesAt 46 = .ok (.invokevirtual 113, 3) := by decide +kernel
theorem dX0_matchesAt_49 : decode cX0_matchesAt 49 = .ok (.aload_n 0, 1) := by decide +kernel
theorem dX0_matchesAt_50 : decode cX0_matchesAt 50 = .ok (.getfield 56, 3) := by decide +kernel
theorem dX0_matchesAt_53 : decode cX0_matchesAt 53 = .ok (.getfield 69, 3) := by decide +kernel
theorem dX0_matchesAt_56 : decode cX0_matchesAt 56 = .ok (.if_icmp .ne 6, 3) := by decide +kernel
theorem dX0_matchesAt_59 : decode cX0_matchesAt 59 = .ok (.iinc 2 1, 3) := by decide +kernel
theorem dX0_matchesAt_62 : decode cX0_matchesAt 62 = .ok (.aload_n 0, 1) := by decide +kernel
theorem dX0_matchesAt_63 : decode cX0_matchesAt 63 = .ok (.aload_n 0, 1) := by decide +kernel
theorem dX0_matchesAt_64 : decode cX0_matchesAt 64 = .ok (.getfield 15, 3) := by decide +kernel
theorem dX0_matchesAt_67 : decode cX0_matchesAt 67 = .ok (.aload_n 0, 1) := by decide +kernel
theorem dX0_matchesAt_68 : decode cX0_matchesAt 68 = .ok (.getfield 34, 3) := by decide +kernel
theorem dX0_matchesAt_71 : decode cX0_matchesAt 71 = .ok (.iaload, 1) := by decide +kernel
theorem dX0_matchesAt_72 : decode cX0_matchesAt 72 = .ok (.putfield 34, 3) := by decide +kernel
theorem dX0_matchesAt_75 : decode cX0_matchesAt 75 = .ok (.iinc 3 (-1), 3) := by decide +kernel
theorem dX0_matchesAt_78 : decode cX0_matchesAt 78 = .ok (.goto (-62), 3) := by decide +kernel
theorem dX0_matchesAt_81 : decode cX0_matchesAt 81 = .ok (.iload_n 2, 1) := by decide +kernel
theorem dX0_matchesAt_82 : decode cX0_matchesAt 82 = .ok (.ireturn, 1) := by decide +kernel
theorem dX0_expectAtMost_0 : decode cX0_expectAtMost 0 = .ok (.aload_n 0, 1) := by decide +kernel
theorem dX0_expectAtMost_1 : decode cX0_expectAtMost 1 = .ok (.aload_n 0, 1) := by decide +kernel
theorem dX0_expectAtMost_2 : decode cX0_expectAtMost 2 = .ok (.getfield 40, 3) := by decide +kernel
theorem dX0_expectAtMost_5 : decode cX0_expectAtMost 5 = .ok (.iload_n 1, 1) := by decide +kernel
theorem dX0_expectAtMost_6 : decode cX0_expectAtMost 6 = .ok (.invokestatic 132, 3) := by decide +kernel
theorem dX0_expectAtMost_9 : decode cX0_expectAtMost 9 = .ok (.putfield 40, 3) := by decide +kernel
theorem dX0_expectAtMost_12 : decode cX0_expectAtMost 12 = .ok (.return_, 1) := by decide +kernel
end
section
theorem dX2_init_0 : decode cX2_init 0 = .ok (.aload_n 0, 1) := by decide +kernel
theorem dX2_init_1 : decode cX2_init 1 = .ok (.invokespecial 3, 3) := by decide +kernel
theorem dX2_init_4 : decode cX2_init 4 = .ok (.aload_n 0, 1) := by decide +kernel
theorem dX2_init_5 : decode cX2_init 5 = .ok (.sipush 512, 3) := by decide +kernel
theorem dX2_init_8 : decode cX2_init 8 = .ok (.newarray .int, 2) := by decide +kernel
theorem dX2_init_10 : decode cX2_init 10 = .ok (.putfield 9, 3) := by decide +kernel
theorem dX2_init_13 : decode cX2_init 13 = .ok (.aload_n 0, 1) := by decide +kernel
theorem dX2_init_14 : decode cX2_init 14 = .ok (.sipush 512, 3) := by decide +kernel
theorem dX2_init_17 : decode cX2_init 17 = .ok (.newarray .int, 2) := by decide +kernel
theorem dX2_init_19 : decode cX2_init 19 = .ok (.putfield 15, 3) := by decide +kernel
theorem dX2_init_22 : decode cX2_init 22 = .ok (.aload_n 0, 1) := by decide +kernel
theorem dX2_init_23 : decode cX2_init 23 = .ok (.sipush 512, 3) := by decide +kernel
theorem dX2_init_26 : decode cX2_init 26 = .ok (.newarray .int, 2) := by decide +kernel
theorem dX2_init_28 : decode cX2_init 28 = .ok (.putfield 18, 3) := by decide +kernel
theorem dX2_init_31 : decode cX2_init 31 = .ok (.aload_n 0, 1) := by decide +kernel
theorem dX2_init_32 : decode cX2_init 32 = .ok (.sipush 512, 3) := by decide +kernel
theorem dX2_init_35 : decode cX2_init 35 = .ok (.newarray .int, 2) := by decide +kernel
theorem dX2_init_37 : decode cX2_init 37 = .ok (.putfield 21, 3) := by decide +kernel
theorem dX2_init_40 : decode cX2_init 40 = .ok (.aload_n 0, 1) := by decide +kernel
theorem dX2_init_41 : decode cX2_init 41 = .ok (.iconst 0, 1) := by decide +kernel
theorem dX2_init_42 : decode cX2_init 42 = .ok (.putfield 24, 3) := by decide +kernel
theorem dX2_init_45 : decode cX2_init 45 = .ok (.aload_n 0, 1) := by decide +kernel
theorem dX2_init_46 : decode cX2_init 46 = .ok (.aload_n 1, 1) := by decide +kernel
theorem dX2_init_47 : decode cX2_init 47 = .ok (.putfield 28, 3) := by decide +kernel
theorem dX2_init_50 : decode cX2_init 50 = .ok (.aload_n 0, 1) := by decide +kernel
theorem dX2_init_51 : decode cX2_init 51 = .ok (.aload_n 2, 1) := by decide +kernel
theorem dX2_init_52 : decode cX2_init 52 = .ok (.putfield 32, 3) := by decide +kernel
theorem dX2_init_55 : decode cX2_init 55 = .ok (.aload_n 0, 1) := by decide +kernel
theorem dX2_init_56 : decode cX2_init 56 = .ok (.aload_n 3, 1) := by decide +kernel
theorem dX2_init_57 : decode cX2_init 57 = .ok (.putfield 36, 3) := by decide +kernel
theorem dX2_init_60 : decode cX2_init 60 = .ok (.return_, 1) := by decide +kernel
theorem dX1_init_0 : decode cX1_init 0 = .ok (.aload_n 0, 1) := by decide +kernel
theorem dX1_init_1 : decode cX1_init 1 = .ok (.invokespecial 3, 3) := by decide +kernel
theorem dX1_init_4 : decode cX1_init 4 = .ok (.aload_n 0, 1) := by decide +kernel
theorem dX1_init_5 : decode cX1_init 5 = .ok (.iconst 0, 1) := by decide +kernel
theorem dX1_init_6 : decode cX1_init 6 = .ok (.newarray .int, 2) := by decide +kernel
theorem dX1_init_8 : decode cX1_init 8 = .ok (.putfield 9, 3) := by decide +kernel
theorem dX1_init_11 : decode cX1_init 11 = .ok (.aload_n 0, 1) := by decide +kernel
theorem dX1_init_12 : decode cX1_init 12 = .ok (.iconst 0, 1) := by decide +kernel
theorem dX1_init_13 : decode cX1_init 13 = .ok (.newarray .int, 2) := by decide +kernel
theorem dX1_init_15 : decode cX1_init 15 = .ok (.putfield 15, 3) := by decide +kernel
theorem dX1_init_18 : decode cX1_init 18 = .ok (.aload_n 0, 1) := by decide +kernel
theorem dX1_init_19 : decode cX1_init 19 = .ok (.iconst 0, 1) := by decide +kernel
theorem dX1_init_20 : decode cX1_init 20 = .ok (.newarray .int, 2) := by decide +kernel
theorem dX1_init_22 : decode cX1_init 22 = .ok (.putfield 18, 3) := by decide +kernel
theorem dX1_init_25 : decode cX1_init 25 = .ok (.aload_n 0, 1) := by decide +kernel
theorem dX1_init_26 : decode cX1_init 26 = .ok (.iconst 0, 1) := by decide +kernel
theorem dX1_init_27 : decode cX1_init 27 = .ok (.putfield 21, 3) := by decide +kernel
theorem dX1_init_30 : decode cX1_init 30 = .ok (.aload_n 0, 1) := by decide +kernel
theorem dX1_init_31 : decode cX1_init 31 = .ok (.iconst 0, 1) := by decide +kernel
theorem dX1_init_32 : decode cX1_init 32 = .ok (.putfield 25, 3) := by decide +kernel
theorem dX1_init_35 : decode cX1_init 35 = .ok (.aload_n 0, 1) := by decide +kernel
theorem dX1_init_36 : decode cX1_init 36 = .ok (.iconst 0, 1) := by decide +kernel
theorem dX1_init_37 : decode cX1_init 37 = .ok (.putfield 28, 3) := by decide +kernel
theorem dX1_init_40 : decode cX1_init 40 = .ok (.aload_n 0, 1) := by decide +kernel
theorem dX1_init_41 : decode cX1_init 41 = .ok (.iconst 0, 1) := by decide +kernel
theorem dX1_init_42 : decode cX1_init 42 = .ok (.putfield 31, 3) := by decide +kernel
theorem dX1_init_45 : decode cX1_init 45 = .ok (.aload_n 0, 1) := by decide +kernel
theorem dX1_init_46 : decode cX1_init 46 = .ok (.iconst 0, 1) := by decide +kernel
theorem dX1_init_47 : decode cX1_init 47 = .ok (.putfield 34, 3) := by decide +kernel
theorem dX1_init_50 : decode cX1_init 50 = .ok (.aload_n 0, 1) := by decide +kernel
theorem dX1_init_51 : decode cX1_init 51 = .ok (.iconst 0, 1) := by decide +kernel
theorem dX1_init_52 : decode cX1_init 52 = .ok (.putfield 37, 3) := by decide +kernel
theorem dX1_init_55 : decode cX1_init 55 = .ok (.aload_n 0, 1) := by decide +kernel
theorem dX1_init_56 : decode cX1_init 56 = .ok (.iconst 0, 1) := by decide +kernel
theorem dX1_init_57 : decode cX1_init 57 = .ok (.putfield 40, 3) := by decide +kernel
theorem dX1_init_60 : decode cX1_init 60 = .ok (.aload_n 0, 1) := by decide +kernel
theorem dX1_init_61 : decode cX1_init 61 = .ok (.iconst 0, 1) := by decide +kernel
theorem dX1_init_62 : decode cX1_init 62 = .ok (.putfield 43, 3) := by decide +kernel
theorem dX1_init_65 : decode cX1_init 65 = .ok (.aload_n 0, 1) := by decide +kernel
theorem dX1_init_66 : decode cX1_init 66 = .ok (.iconst 0, 1) := by decide +kernel
theorem dX1_init_67 : decode cX1_init 67 = .ok (.newarray .byte, 2) := by decide +kernel
theorem dX1_init_69 : decode cX1_init 69 = .ok (.putfield 46, 3) := by decide +kernel
theorem dX1_init_72 : decode cX1_init 72 = .ok (.aload_n 0, 1) := by decide +kernel
theorem dX1_init_73 : decode cX1_init 73 = .ok (.aload_n 1, 1) := by decide +kernel
theorem dX1_init_74 : decode cX1_init 74 = .ok (.putfield 50, 3) := by decide +kernel
theorem dX1_init_77 : decode cX1_init 77 = .ok (.aload_n 0, 1) := by decide +kernel
theorem dX1_init_78 : decode cX1_init 78 = .ok (.aload_n 2, 1) := by decide +kernel
theorem dX1_init_79 : decode cX1_init 79 = .ok (.putfield 54, 3) := by decide +kernel
theorem dX1_init_82 : decode cX1_init 82 = .ok (.return_, 1) := by decide +kernel
theorem dX1_forget_0 : decode cX1_forget 0 = .ok (.aload_n 0, 1) := by decide +kernel
theorem dX1_forget_1 : decode cX1_forget 1 = .ok (.iconst 0, 1) := by decide +kernel
theorem dX1_forget_2 : decode cX1_forget 2 = .ok (.putfield 21, 3) := by decide +kernel
theorem dX1_forget_5 : decode cX1_forget 5 = .ok (.aload_n 0, 1) := by decide +kernel
theorem dX1_forget_6 : decode cX1_forget 6 = .ok (.iconst 0, 1) := by decide +kernel
theorem dX1_forget_7 : decode cX1_forget 7 = .ok (.putfield 25, 3) := by decide +kernel
theorem dX1_forget_10 : decode cX1_forget 10 = .ok (.aload_n 0, 1) := by decide +kernel
theorem dX1_forget_11 : decode cX1_forget 11 = .ok (.iconst 0, 1) := by decide +kernel
theorem dX1_forget_12 : decode cX1_forget 12 = .ok (.putfield 28, 3) := by decide +kernel
theorem dX1_forget_15 : decode cX1_forget 15 = .ok (.aload_n 0, 1) := by decide +kernel
theorem dX1_forget_16 : decode cX1_forget 16 = .ok (.iconst 0, 1) := by decide +kernel
theorem dX1_forget_17 : decode cX1_forget 17 = .ok (.putfield 31, 3) := by decide +kernel
theorem dX1_forget_20 : decode cX1_forget 20 = .ok (.aload_n 0, 1) := by decide +kernel
theorem dX1_forget_21 : decode cX1_forget 21 = .ok (.iconst 0, 1) := by decide +kernel
theorem dX1_forget_22 : decode cX1_forget 22 = .ok (.putfield 34, 3) := by decide +kernel
theorem dX1_forget_25 : decode cX1_forget 25 = .ok (.aload_n 0, 1) := by decide +kernel
theorem dX1_forget_26 : decode cX1_forget 26 = .ok (.iconst 0, 1) := by decide +kernel
theorem dX1_forget_27 : decode cX1_forget 27 = .ok (.putfield 37, 3) := by decide +kernel
theorem dX1_forget_30 : decode cX1_forget 30 = .ok (.aload_n 0, 1) := by decide +kernel
theorem dX1_forget_31 : decode cX1_forget 31 = .ok (.iconst 0, 1) := by decide +kernel
theorem dX1_forget_32 : decode cX1_forget 32 = .ok (.putfield 40, 3) := by decide +kernel
theorem dX1_forget_35 : decode cX1_forget 35 = .ok (.aload_n 0, 1) := by decide +kernel
theorem dX1_forget_36 : decode cX1_forget 36 = .ok (.iconst 0, 1) := by decide +kernel
theorem dX1_forget_37 : decode cX1_forget 37 = .ok (.putfield 43, 3) := by decide +kernel
theorem dX1_forget_40 : decode cX1_forget 40 = .ok (.return_, 1) := by decide +kernel
theorem dX1_begin_0 : decode cX1_begin 0 = .ok (.aload_n 0, 1) := by decide +kernel
theorem dX1_begin_1 : decode cX1_begin 1 = .ok (.invokevirtual 58, 3) := by decide +kernel
theorem dX1_begin_4 : decode cX1_begin 4 = .ok (.aload_n 0, 1) := by decide +kernel
theorem dX1_begin_5 : decode cX1_begin 5 = .ok (.aload_n 0, 1) := by decide +kernel
theorem dX1_begin_6 : decode cX1_begin 6 = .ok (.getfield 50, 3) := by decide +kernel
theorem dX1_begin_9 : decode cX1_begin 9 = .ok (.getfield 61, 3) := by decide +kernel
theorem dX1_begin_12 : decode cX1_begin 12 = .ok (.putfield 40, 3) := by decide +kernel
theorem dX1_begin_15 : decode cX1_begin 15 = .ok (.aload_n 0, 1) := by decide +kernel
theorem dX1_begin_16 : decode cX1_begin 16 = .ok (.aload_n 0, 1) := by decide +kernel
theorem dX1_begin_17 : decode cX1_begin 17 = .ok (.getfield 50, 3) := by decide +kernel
theorem dX1_begin_20 : decode cX1_begin 20 = .ok (.getfield 66, 3) := by decide +kernel
theorem dX1_begin_23 : decode cX1_begin 23 = .ok (.putfield 43, 3) := by decide +kernel
theorem dX1_begin_26 : decode cX1_begin 26 = .ok (.aload_n 0, 1) := by decide +kernel
theorem dX1_begin_27 : decode cX1_begin 27 = .ok (.getfield 40, 3) := by decide +kernel
theorem dX1_begin_30 : decode cX1_begin 30 = .ok (.invokestatic 69, 3) := by decide +kernel
theorem dX1_begin_33 : decode cX1_begin 33 = .ok (.iconst 3, 1) := by decide +kernel
theorem dX1_begin_34 : decode cX1_begin 34 = .ok (.idiv, 1) := by decide +kernel
theorem dX1_begin_35 : decode cX1_begin 35 = .ok (.istore_n 1, 1) := by decide +kernel
theorem dX1_begin_36 : decode cX1_begin 36 = .ok (.iload_n 1, 1) := by decide +kernel
theorem dX1_begin_37 : decode cX1_begin 37 = .ok (.aload_n 0, 1) := by decide +kernel
theorem dX1_begin_38 : decode cX1_begin 38 = .ok (.getfield 15, 3) := by decide +kernel
theorem dX1_begin_41 : decode cX1_begin 41 = .ok (.arraylength, 1) := by decide +kernel
theorem dX1_begin_42 : decode cX1_begin 42 = .ok (.if_icmp .le 24, 3) := by decide +kernel
theorem dX1_begin_45 : decode cX1_begin 45 = .ok (.aload_n 0, 1) := by decide +kernel
theorem dX1_begin_46 : decode cX1_begin 46 = .ok (.iload_n 1, 1) := by decide +kernel
theorem dX1_begin_47 : decode cX1_begin 47 = .ok (.newarray .int, 2) := by decide +kernel
theorem dX1_begin_49 : decode cX1_begin 49 = .ok (.putfield 9, 3) := by decide +kernel
theorem dX1_begin_52 : decode cX1_begin 52 = .ok (.aload_n 0, 1) := by decide +kernel
theorem dX1_begin_53 : decode cX1_begin 53 = .ok (.iload_n 1, 1) := by decide +kernel
theorem dX1_begin_54 : decode cX1_begin 54 = .ok (.newarray .int, 2) := by decide +kernel
theorem dX1_begin_56 : decode cX1_begin 56 = .ok (.putfield 15, 3) := by decide +kernel
theorem dX1_begin_59 : decode cX1_begin 59 = .ok (.aload_n 0, 1) := by decide +kernel
theorem dX1_begin_60 : decode cX1_begin 60 = .ok (.iload_n 1, 1) := by decide +kernel
theorem dX1_begin_61 : decode cX1_begin 61 = .ok (.newarray .int, 2) := by decide +kernel
theorem dX1_begin_63 : decode cX1_begin 63 = .ok (.putfield 18, 3) := by decide +kernel
theorem dX1_begin_66 : decode cX1_begin 66 = .ok (.return_, 1) := by decide +kernel
theorem dX2_make_0 : decode cX2_make 0 = .ok (.aload_n 0, 1) := by decide +kernel
theorem dX2_make_1 : decode cX2_make 1 = .ok (.getfield 28, 3) := by decide +kernel
theorem dX2_make_4 : decode cX2_make 4 = .ok (.getfield 40, 3) := by decide +kernel
theorem dX2_make_7 : decode cX2_make 7 = .ok (.aload_n 0, 1) := by decide +kernel
theorem dX2_make_8 : decode cX2_make 8 = .ok (.getfield 28, 3) := by decide +kernel
theorem dX2_make_11 : decode cX2_make 11 = .ok (.getfield 45, 3) := by decide +kernel
theorem dX2_make_14 : decode cX2_make 14 = .ok (.isub, 1) := by decide +kernel
theorem dX2_make_15 : decode cX2_make 15 = .ok (.istore_n 1, 1) := by decide +kernel
theorem dX2_make_16 : decode cX2_make 16 = .ok (.aload_n 0, 1) := by decide +kernel
theorem dX2_make_17 : decode cX2_make 17 = .ok (.iload_n 1, 1) := by decide +kernel
theorem dX2_make_18 : decode cX2_make 18 = .ok (.iconst 1, 1) := by decide +kernel
theorem dX2_make_19 : decode cX2_make 19 = .ok (.iadd, 1) := by decide +kernel
theorem dX2_make_20 : decode cX2_make 20 = .ok (.invokevirtual 48, 3) := by decide +kernel
theorem dX2_make_23 : decode cX2_make 23 = .ok (.aload_n 0, 1) := by decide +kernel
theorem dX2_make_24 : decode cX2_make 24 = .ok (.iconst 0, 1) := by decide +kernel
theorem dX2_make_25 : decode cX2_make 25 = .ok (.putfield 24, 3) := by decide +kernel
theorem dX2_make_28 : decode cX2_make 28 = .ok (.aload_n 0, 1) := by decide +kernel
theorem dX2_make_29 : decode cX2_make 29 = .ok (.getfield 9, 3) := by decide +kernel
theorem dX2_make_32 : decode cX2_make 32 = .ok (.iload_n 1, 1) := by decide +kernel
theorem dX2_make_33 : decode cX2_make 33 = .ok (.iconst 0, 1) := by decide +kernel
theorem dX2_make_34 : decode cX2_make 34 = .ok (.iastore, 1) := by decide +kernel
theorem dX2_make_35 : decode cX2_make 35 = .ok (.aload_n 0, 1) := by decide +kernel
theorem dX2_make_36 : decode cX2_make 36 = .ok (.getfield 32, 3) := by decide +kernel
theorem dX2_make_39 : decode cX2_make 39 = .ok (.aload_n 0, 1) := by decide +kernel
theorem dX2_make_40 : decode cX2_make 40 = .ok (.getfield 28, 3) := by decide +kernel
theorem dX2_make_43 : decode cX2_make 43 = .ok (.getfield 40, 3) := by decide +kernel
theorem dX2_make_46 : decode cX2_make 46 = .ok (.invokevirtual 52, 3) := by decide +kernel
theorem dX2_make_49 : decode cX2_make 49 = .ok (.aload_n 0, 1) := by decide +kernel
theorem dX2_make_50 : decode cX2_make 50 = .ok (.getfield 28, 3) := by decide +kernel
theorem dX2_make_53 : decode cX2_make 53 = .ok (.getfield 45, 3) := by decide +kernel
theorem dX2_make_56 : decode cX2_make 56 = .ok (.isub, 1) := by decide +kernel
theorem dX2_make_57 : decode cX2_make 57 = .ok (.istore_n 2, 1) := by decide +kernel
theorem dX2_make_58 : decode cX2_make 58 = .ok (.ldc 58, 2) := by decide +kernel
theorem dX2_make_60 : decode cX2_make 60 = .ok (.istore_n 3, 1) := by decide +kernel
theorem dX2_make_61 : decode cX2_make 61 = .ok (.iload_n 1, 1) := by decide +kernel
theorem dX2_make_62 : decode cX2_make 62 = .ok (.iconst 1, 1) := by decide +kernel
theorem dX2_make_63 : decode cX2_make 63 = .ok (.isub, 1) := by decide +kernel
theorem dX2_make_64 : decode cX2_make 64 = .ok (.istore 4, 2) := by decide +kernel
theorem dX2_make_66 : decode cX2_make 66 = .ok (.iload 4, 2) := by decide +kernel
theorem dX2_make_68 : decode cX2_make 68 = .ok (.ifCond .lt 69, 3) := by decide +kernel
theorem dX2_make_71 : decode cX2_make 71 = .ok (.iload 4, 2) := by decide +kernel
theorem dX2_make_73 : decode cX2_make 73 = .ok (.aload_n 0, 1) := by decide +kernel
theorem dX2_make_74 : decode cX2_make 74 = .ok (.getfield 32, 3) := by decide +kernel
theorem dX2_make_77 : decode cX2_make 77 = .ok (.getfield 59, 3) := by decide +kernel
theorem dX2_make_80 : decode cX2_make 80 = .ok (.iadd, 1) := by decide +kernel
theorem dX2_make_81 : decode cX2_make 81 = .ok (.iload_n 1, 1) := by decide +kernel
theorem dX2_make_82 : decode cX2_make 82 = .ok (.if_icmp .gt 17, 3) := by decide +kernel
theorem dX2_make_85 : decode cX2_make 85 = .ok (.aload_n 0, 1) := by decide +kernel
theorem dX2_make_86 : decode cX2_make 86 = .ok (.iload 4, 2) := by decide +kernel
theorem dX2_make_88 : decode cX2_make 88 = .ok (.aload_n 0, 1) := by decide +kernel
theorem dX2_make_89 : decode cX2_make 89 = .ok (.getfield 32, 3) := by decide +kernel
theorem dX2_make_92 : decode cX2_make 92 = .ok (.getfield 59, 3) := by decide +kernel
theorem dX2_make_95 : decode cX2_make 95 = .ok (.iadd, 1) := by decide +kernel
theorem dX2_make_96 : decode cX2_make 96 = .ok (.invokevirtual 62, 3) := by decide +kernel
theorem dX2_make_99 : decode cX2_make 99 = .ok (.aload_n 0, 1) := by decide +kernel
theorem dX2_make_100 : decode cX2_make 100 = .ok (.iload 4, 2) := by decide +kernel
theorem dX2_make_102 : decode cX2_make 102 = .ok (.invokevirtual 65, 3) := by decide +kernel
theorem dX2_make_105 : decode cX2_make 105 = .ok (.aload_n 0, 1) := by decide +kernel
theorem dX2_make_106 : decode cX2_make 106 = .ok (.iload 4, 2) := by decide +kernel
theorem dX2_make_108 : decode cX2_make 108 = .ok (.iload_n 3, 1) := by decide +kernel
theorem dX2_make_109 : decode cX2_make 109 = .ok (.invokevirtual 68, 3) := by decide +kernel
theorem dX2_make_112 : decode cX2_make 112 = .ok (.iload 4, 2) := by decide +kernel
theorem dX2_make_114 : decode cX2_make 114 = .ok (.iload_n 2, 1) := by decide +kernel
theorem dX2_make_115 : decode cX2_make 115 = .ok (.if_icmp .gt 13, 3) := by decide +kernel
theorem dX2_make_118 : decode cX2_make 118 = .ok (.aload_n 0, 1) := by decide +kernel
theorem dX2_make_119 : decode cX2_make 119 = .ok (.getfield 36, 3) := by decide +kernel
theorem dX2_make_122 : decode cX2_make 122 = .ok (.getfield 72, 3) := by decide +kernel
theorem dX2_make_125 : decode cX2_make 125 = .ok (.goto 5, 3) := by decide +kernel
theorem dX2_make_128 : decode cX2_make 128 = .ok (.ldc 58, 2) := by decide +kernel
theorem dX2_make_130 : decode cX2_make 130 = .ok (.istore_n 3, 1) := by decide +kernel
theorem dX2_make_131 : decode cX2_make 131 = .ok (.iinc 4 (-1), 3) := by decide +kernel
theorem dX2_make_134 : decode cX2_make 134 = .ok (.goto (-68), 3) := by decide +kernel
theorem dX2_make_137 : decode cX2_make 137 = .ok (.return_, 1) := by decide +kernel
theorem dX2_makeRoom_0 : decode cX2_makeRoom 0 = .ok (.iload_n 1, 1) := by decide +kernel
theorem dX2_makeRoom_1 : decode cX2_makeRoom 1 = .ok (.aload_n 0, 1) := by decide +kernel
theorem dX2_makeRoom_2 : decode cX2_makeRoom 2 = .ok (.getfield 9, 3) := by decide +kernel
theorem dX2_makeRoom_5 : decode cX2_makeRoom 5 = .ok (.arraylength, 1) := by decide +kernel
theorem dX2_makeRoom_6 : decode cX2_makeRoom 6 = .ok (.if_icmp .le 42, 3) := by decide +kernel
theorem dX2_makeRoom_9 : decode cX2_makeRoom 9 = .ok (.iload_n 1, 1) := by decide +kernel
theorem dX2_makeRoom_10 : decode cX2_makeRoom 10 = .ok (.invokestatic 76, 3) := by decide +kernel
theorem dX2_makeRoom_13 : decode cX2_makeRoom 13 = .ok (.sipush 8193, 3) := by decide +kernel
theorem dX2_makeRoom_16 : decode cX2_makeRoom 16 = .ok (.invokestatic 79, 3) := by decide +kernel
theorem dX2_makeRoom_19 : decode cX2_makeRoom 19 = .ok (.istore_n 2, 1) := by decide +kernel
theorem dX2_makeRoom_20 : decode cX2_makeRoom 20 = .ok (.aload_n 0, 1) := by decide +kernel
theorem dX2_makeRoom_21 : decode cX2_makeRoom 21 = .ok (.iload_n 2, 1) := by decide +kernel
theorem dX2_makeRoom_22 : decode cX2_makeRoom 22 = .ok (.newarray .int, 2) := by decide +kernel
theorem dX2_makeRoom_24 : decode cX2_makeRoom 24 = .ok (.putfield 9, 3) := by decide +kernel
theorem dX2_makeRoom_27 : decode cX2_makeRoom 27 = .ok (.aload_n 0, 1) := by decide +kernel
theorem dX2_makeRoom_28 : decode cX2_makeRoom 28 = .ok (.iload_n 2, 1) := by decide +kernel
theorem dX2_makeRoom_29 : decode cX2_makeRoom 29 = .ok (.newarray .int, 2) := by decide +kernel
theorem dX2_makeRoom_31 : decode cX2_makeRoom 31 = .ok (.putfield 15, 3) := by decide +kernel
theorem dX2_makeRoom_34 : decode cX2_makeRoom 34 = .ok (.aload_n 0, 1) := by decide +kernel
theorem dX2_makeRoom_35 : decode cX2_makeRoom 35 = .ok (.iload_n 2, 1) := by decide +kernel
theorem dX2_makeRoom_36 : decode cX2_makeRoom 36 = .ok (.newarray .int, 2) := by decide +kernel
theorem dX2_makeRoom_38 : decode cX2_makeRoom 38 = .ok (.putfield 18, 3) := by decide +kernel
theorem dX2_makeRoom_41 : decode cX2_makeRoom 41 = .ok (.aload_n 0, 1) := by decide +kernel
theorem dX2_makeRoom_42 : decode cX2_makeRoom 42 = .ok (.iload_n 2, 1) := by decide +kernel
theorem dX2_makeRoom_43 : decode cX2_makeRoom 43 = .ok (.newarray .int, 2) := by decide +kernel
theorem dX2_makeRoom_45 : decode cX2_makeRoom 45 = .ok (.putfield 21, 3) := by decide +kernel
theorem dX2_makeRoom_48 : decode cX2_makeRoom 48 = .ok (.return_, 1) := by decide +kernel
theorem dX2_addEnd_0 : decode cX2_addEnd 0 = .ok (.aload_n 0, 1) := by decide +kernel
theorem dX2_addEnd_1 : decode cX2_addEnd 1 = .ok (.getfield 24, 3) := by decide +kernel
theorem dX2_addEnd_4 : decode cX2_addEnd 4 = .ok (.ifCond .le 41, 3) := by decide +kernel
theorem dX2_addEnd_7 : decode cX2_addEnd 7 = .ok (.aload_n 0, 1) := by decide +kernel
theorem dX2_addEnd_8 : decode cX2_addEnd 8 = .ok (.getfield 9, 3) := by decide +kernel
theorem dX2_addEnd_11 : decode cX2_addEnd 11 = .ok (.aload_n 0, 1) := by decide +kernel
theorem dX2_addEnd_12 : decode cX2_addEnd 12 = .ok (.getfield 21, 3) := by decide +kernel
theorem dX2_addEnd_15 : decode cX2_addEnd 15 = .ok (.aload_n 0, 1) := by decide +kernel
theorem dX2_addEnd_16 : decode cX2_addEnd 16 = .ok (.getfield 24, 3) := by decide +kernel
theorem dX2_addEnd_19 : decode cX2_addEnd 19 = .ok (.iconst 1, 1) := by decide +kernel
theorem dX2_addEnd_20 : decode cX2_addEnd 20 = .ok (.isub, 1) := by decide +kernel
theorem dX2_addEnd_21 : decode cX2_addEnd 21 = .ok (.iaload, 1) := by decide +kernel
theorem dX2_addEnd_22 : decode cX2_addEnd 22 = .ok (.iaload, 1) := by decide +kernel
theorem dX2_addEnd_23 : decode cX2_addEnd 23 = .ok (.aload_n 0, 1) := by decide +kernel
theorem dX2_addEnd_24 : decode cX2_addEnd 24 = .ok (.getfield 9, 3) := by decide +kernel
theorem dX2_addEnd_27 : decode cX2_addEnd 27 = .ok (.iload_n 1, 1) := by decide +kernel
theorem dX2_addEnd_28 : decode cX2_addEnd 28 = .ok (.iaload, 1) := by decide +kernel
theorem dX2_addEnd_29 : decode cX2_addEnd 29 = .ok (.if_icmp .le 16, 3) := by decide +kernel
theorem dX2_addEnd_32 : decode cX2_addEnd 32 = .ok (.aload_n 0, 1) := by decide +kernel
theorem dX2_addEnd_33 : decode cX2_addEnd 33 = .ok (.dup, 1) := by decide +kernel
theorem dX2_addEnd_34 : decode cX2_addEnd 34 = .ok (.getfield 24, 3) := by decide +kernel
theorem dX2_addEnd_37 : decode cX2_addEnd 37 = .ok (.iconst 1, 1) := by decide +kernel
theorem dX2_addEnd_38 : decode cX2_addEnd 38 = .ok (.isub, 1) := by decide +kernel
theorem dX2_addEnd_39 : decode cX2_addEnd 39 = .ok (.putfield 24, 3) := by decide +kernel
theorem dX2_addEnd_42 : decode cX2_addEnd 42 = .ok (.goto (-42), 3) := by decide +kernel
theorem dX2_addEnd_45 : decode cX2_addEnd 45 = .ok (.aload_n 0, 1) := by decide +kernel
theorem dX2_addEnd_46 : decode cX2_addEnd 46 = .ok (.getfield 21, 3) := by decide +kernel
theorem dX2_addEnd_49 : decode cX2_addEnd 49 = .ok (.aload_n 0, 1) := by decide +kernel
theorem dX2_addEnd_50 : decode cX2_addEnd 50 = .ok (.getfield 24, 3) := by decide +kernel
theorem dX2_addEnd_53 : decode cX2_addEnd 53 = .ok (.iload_n 1, 1) := by decide +kernel
theorem dX2_addEnd_54 : decode cX2_addEnd 54 = .ok (.iastore, 1) := by decide +kernel
theorem dX2_addEnd_55 : decode cX2_addEnd 55 = .ok (.aload_n 0, 1) := by decide +kernel
theorem dX2_addEnd_56 : decode cX2_addEnd 56 = .ok (.dup, 1) := by decide +kernel
theorem dX2_addEnd_57 : decode cX2_addEnd 57 = .ok (.getfield 24, 3) := by decide +kernel
theorem dX2_addEnd_60 : decode cX2_addEnd 60 = .ok (.iconst 1, 1) := by decide +kernel
theorem dX2_addEnd_61 : decode cX2_addEnd 61 = .ok (.iadd, 1) := by decide +kernel
theorem dX2_addEnd_62 : decode cX2_addEnd 62 = .ok (.putfield 24, 3) := by decide +kernel
theorem dX2_addEnd_65 : decode cX2_addEnd 65 = .ok (.return_, 1) := by decide +kernel
theorem dX2_takeLiteral_0 : decode cX2_takeLiteral 0 = .ok (.aload_n 0, 1) := by decide +kernel
theorem dX2_takeLiteral_1 : decode cX2_takeLiteral 1 = .ok (.getfield 9, 3) := by decide +kernel
theorem dX2_takeLiteral_4 : decode cX2_takeLiteral 4 = .ok (.iload_n 1, 1) := by decide +kernel
theorem dX2_takeLiteral_5 : decode cX2_takeLiteral 5 = .ok (.aload_n 0, 1) := by decide +kernel
theorem dX2_takeLiteral_6 : decode cX2_takeLiteral 6 = .ok (.getfield 32, 3) := by decide +kernel
theorem dX2_takeLiteral_9 : decode cX2_takeLiteral 9 = .ok (.getfield 85, 3) := by decide +kernel
theorem dX2_takeLiteral_12 : decode cX2_takeLiteral 12 = .ok (.aload_n 0, 1) := by decide +kernel
theorem dX2_takeLiteral_13 : decode cX2_takeLiteral 13 = .ok (.getfield 9, 3) := by decide +kernel
theorem dX2_takeLiteral_16 : decode cX2_takeLiteral 16 = .ok (.iload_n 1, 1) := by decide +kernel
theorem dX2_takeLiteral_17 : decode cX2_takeLiteral 17 = .ok (.iconst 1, 1) := by decide +kernel
theorem dX2_takeLiteral_18 : decode cX2_takeLiteral 18 = .ok (.iadd, 1) := by decide +kernel
theorem dX2_takeLiteral_19 : decode cX2_takeLiteral 19 = .ok (.iaload, 1) := by decide +kernel
theorem dX2_takeLiteral_20 : decode cX2_takeLiteral 20 = .ok (.iadd, 1) := by decide +kernel
theorem dX2_takeLiteral_21 : decode cX2_takeLiteral 21 = .ok (.iastore, 1) := by decide +kernel
theorem dX2_takeLiteral_22 : decode cX2_takeLiteral 22 = .ok (.aload_n 0, 1) := by decide +kernel
theorem dX2_takeLiteral_23 : decode cX2_takeLiteral 23 = .ok (.getfield 15, 3) := by decide +kernel
theorem dX2_takeLiteral_26 : decode cX2_takeLiteral 26 = .ok (.iload_n 1, 1) := by decide +kernel
theorem dX2_takeLiteral_27 : decode cX2_takeLiteral 27 = .ok (.iconst 0, 1) := by decide +kernel
theorem dX2_takeLiteral_28 : decode cX2_takeLiteral 28 = .ok (.iastore, 1) := by decide +kernel
theorem dX2_takeLiteral_29 : decode cX2_takeLiteral 29 = .ok (.aload_n 0, 1) := by decide +kernel
theorem dX2_takeLiteral_30 : decode cX2_takeLiteral 30 = .ok (.getfield 18, 3) := by decide +kernel
theorem dX2_takeLiteral_33 : decode cX2_takeLiteral 33 = .ok (.iload_n 1, 1) := by decide +kernel
theorem dX2_takeLiteral_34 : decode cX2_takeLiteral 34 = .ok (.iconst 0, 1) := by decide +kernel
theorem dX2_takeLiteral_35 : decode cX2_takeLiteral 35 = .ok (.iastore, 1) := by decide +kernel
theorem dX2_takeLiteral_36 : decode cX2_takeLiteral 36 = .ok (.return_, 1) := by decide +kernel
theorem dX2_takeBestMatch_0 : decode cX2_takeBestMatch 0 = .ok (.aload_n 0, 1) := by decide +kernel
theorem dX2_takeBestMatch_1 : decode cX2_takeBestMatch 1 = .ok (.getfield 28, 3) := by decide +kernel
theorem dX2_takeBestMatch_4 : decode cX2_takeBestMatch 4 = .ok (.getfield 45, 3) := by decide +kernel
theorem dX2_takeBestMatch_7 : decode cX2_takeBestMatch 7 = .ok (.iload_n 1, 1) := by decide +kernel
theorem dX2_takeBestMatch_8 : decode cX2_takeBestMatch 8 = .ok (.iadd, 1) := by decide +kernel
theorem dX2_takeBestMatch_9 : decode cX2_takeBestMatch 9 = .ok (.istore_n 3, 1) := by decide +kernel
theorem dX2_takeBestMatch_10 : decode cX2_takeBestMatch 10 = .ok (.aload_n 0, 1) := by decide +kernel
theorem dX2_takeBestMatch_11 : decode cX2_takeBestMatch 11 = .ok (.getfield 36, 3) := by decide +kernel
theorem dX2_takeBestMatch_14 : decode cX2_takeBestMatch 14 = .ok (.iload_n 3, 1) := by decide +kernel
theorem dX2_takeBestMatch_15 : decode cX2_takeBestMatch 15 = .ok (.aload_n 0, 1) := by decide +kernel
theorem dX2_takeBestMatch_16 : decode cX2_takeBestMatch 16 = .ok (.getfield 32, 3) := by decide +kernel
theorem dX2_takeBestMatch_19 : decode cX2_takeBestMatch 19 = .ok (.getfield 59, 3) := by decide +kernel
theorem dX2_takeBestMatch_22 : decode cX2_takeBestMatch 22 = .ok (.invokevirtual 88, 3) := by decide +kernel
theorem dX2_takeBestMatch_25 : decode cX2_takeBestMatch 25 = .ok (.aload_n 0, 1) := by decide +kernel
theorem dX2_takeBestMatch_26 : decode cX2_takeBestMatch 26 = .ok (.getfield 36, 3) := by decide +kernel
theorem dX2_takeBestMatch_29 : decode cX2_takeBestMatch 29 = .ok (.aload_n 0, 1) := by decide +kernel
theorem dX2_takeBestMatch_30 : decode cX2_takeBestMatch 30 = .ok (.getfield 32, 3) := by decide +kernel
theorem dX2_takeBestMatch_33 : decode cX2_takeBestMatch 33 = .ok (.getfield 59, 3) := by decide +kernel
theorem dX2_takeBestMatch_36 : decode cX2_takeBestMatch 36 = .ok (.iload_n 2, 1) := by decide +kernel
theorem dX2_takeBestMatch_37 : decode cX2_takeBestMatch 37 = .ok (.iconst 1, 1) := by decide +kernel
theorem dX2_takeBestMatch_38 : decode cX2_takeBestMatch 38 = .ok (.iadd, 1) := by decide +kernel
theorem dX2_takeBestMatch_39 : decode cX2_takeBestMatch 39 = .ok (.invokestatic 91, 3) := by decide +kernel
theorem dX2_takeBestMatch_42 : decode cX2_takeBestMatch 42 = .ok (.invokevirtual 94, 3) := by decide +kernel
theorem dX2_takeBestMatch_45 : decode cX2_takeBestMatch 45 = .ok (.iload_n 3, 1) := by decide +kernel
theorem dX2_takeBestMatch_46 : decode cX2_takeBestMatch 46 = .ok (.istore 4, 2) := by decide +kernel
theorem dX2_takeBestMatch_48 : decode cX2_takeBestMatch 48 = .ok (.iload 4, 2) := by decide +kernel
theorem dX2_takeBestMatch_50 : decode cX2_takeBestMatch 50 = .ok (.ifCond .le 38, 3) := by decide +kernel
theorem dX2_takeBestMatch_53 : decode cX2_takeBestMatch 53 = .ok (.aload_n 0, 1) := by decide +kernel
theorem dX2_takeBestMatch_54 : decode cX2_takeBestMatch 54 = .ok (.getfield 36, 3) := by decide +kernel
theorem dX2_takeBestMatch_57 : decode cX2_takeBestMatch 57 = .ok (.invokevirtual 97, 3) := by decide +kernel
theorem dX2_takeBestMatch_60 : decode cX2_takeBestMatch 60 = .ok (.ifCond .eq 28, 3) := by decide +kernel
theorem dX2_takeBestMatch_63 : decode cX2_takeBestMatch 63 = .ok (.aload_n 0, 1) := by decide +kernel
theorem dX2_takeBestMatch_64 : decode cX2_takeBestMatch 64 = .ok (.iload_n 1, 1) := by decide +kernel
theorem dX2_takeBestMatch_65 : decode cX2_takeBestMatch 65 = .ok (.aload_n 0, 1) := by decide +kernel
theorem dX2_takeBestMatch_66 : decode cX2_takeBestMatch 66 = .ok (.getfield 36, 3) := by decide +kernel
theorem dX2_takeBestMatch_69 : decode cX2_takeBestMatch 69 = .ok (.getfield 72, 3) := by decide +kernel
theorem dX2_takeBestMatch_72 : decode cX2_takeBestMatch 72 = .ok (.aload_n 0, 1) := by decide +kernel
theorem dX2_takeBestMatch_73 : decode cX2_takeBestMatch 73 = .ok (.getfield 36, 3) := by decide +kernel
theorem dX2_takeBestMatch_76 : decode cX2_takeBestMatch 76 = .ok (.getfield 101, 3) := by decide +kernel
theorem dX2_takeBestMatch_79 : decode cX2_takeBestMatch 79 = .ok (.invokevirtual 103, 3) := by decide +kernel
theorem dX2_takeBestMatch_82 : decode cX2_takeBestMatch 82 = .ok (.iinc 4 (-1), 3) := by decide +kernel
theorem dX2_takeBestMatch_85 : decode cX2_takeBestMatch 85 = .ok (.goto (-37), 3) := by decide +kernel
theorem dX2_takeBestMatch_88 : decode cX2_takeBestMatch 88 = .ok (.return_, 1) := by decide +kernel
theorem dX2_consider_0 : decode cX2_consider 0 = .ok (.aload_n 0, 1) := by decide +kernel
theorem dX2_consider_1 : decode cX2_consider 1 = .ok (.iload_n 1, 1) := by decide +kernel
theorem dX2_consider_2 : decode cX2_consider 2 = .ok (.iload_n 2, 1) := by decide +kernel
theorem dX2_consider_3 : decode cX2_consider 3 = .ok (.iadd, 1) := by decide +kernel
theorem dX2_consider_4 : decode cX2_consider 4 = .ok (.invokevirtual 107, 3) := by decide +kernel
theorem dX2_consider_7 : decode cX2_consider 7 = .ok (.istore 4, 2) := by decide +kernel
theorem dX2_consider_9 : decode cX2_consider 9 = .ok (.aload_n 0, 1) := by decide +kernel
theorem dX2_consider_10 : decode cX2_consider 10 = .ok (.getfield 32, 3) := by decide +kernel
theorem dX2_consider_13 : decode cX2_consider 13 = .ok (.getfield 110, 3) := by decide +kernel
theorem dX2_consider_16 : decode cX2_consider 16 = .ok (.iload_n 3, 1) := by decide +kernel
theorem dX2_consider_17 : decode cX2_consider 17 = .ok (.invokestatic 113, 3) := by decide +kernel
theorem dX2_consider_20 : decode cX2_consider 20 = .ok (.iadd, 1) := by decide +kernel
theorem dX2_consider_21 : decode cX2_consider 21 = .ok (.aload_n 0, 1) := by decide +kernel
theorem dX2_consider_22 : decode cX2_consider 22 = .ok (.getfield 9, 3) := by decide +kernel
theorem dX2_consider_25 : decode cX2_consider 25 = .ok (.iload 4, 2) := by decide +kernel
theorem dX2_consider_27 : decode cX2_consider 27 = .ok (.iaload, 1) := by decide +kernel
theorem dX2_consider_28 : decode cX2_consider 28 = .ok (.iadd, 1) := by decide +kernel
theorem dX2_consider_29 : decode cX2_consider 29 = .ok (.istore 5, 2) := by decide +kernel
theorem dX2_consider_31 : decode cX2_consider 31 = .ok (.iload 5, 2) := by decide +kernel
theorem dX2_consider_33 : decode cX2_consider 33 = .ok (.aload_n 0, 1) := by decide +kernel
theorem dX2_consider_34 : decode cX2_consider 34 = .ok (.getfield 9, 3) := by decide +kernel
theorem dX2_consider_37 : decode cX2_consider 37 = .ok (.iload_n 1, 1) := by decide +kernel
theorem dX2_consider_38 : decode cX2_consider 38 = .ok (.iaload, 1) := by decide +kernel
theorem dX2_consider_39 : decode cX2_consider 39 = .ok (.if_icmp .lt 27, 3) := by decide +kernel
theorem dX2_consider_42 : decode cX2_consider 42 = .ok (.iload 5, 2) := by decide +kernel
theorem dX2_consider_44 : decode cX2_consider 44 = .ok (.aload_n 0, 1) := by decide +kernel
theorem dX2_consider_45 : decode cX2_consider 45 = .ok (.getfield 9, 3) := by decide +kernel
theorem dX2_consider_48 : decode cX2_consider 48 = .ok (.iload_n 1, 1) := by decide +kernel
theorem dX2_consider_49 : decode cX2_consider 49 = .ok (.iaload, 1) := by decide +kernel
theorem dX2_consider_50 : decode cX2_consider 50 = .ok (.if_icmp .ne 41, 3) := by decide +kernel
theorem dX2_consider_53 : decode cX2_consider 53 = .ok (.iload 4, 2) := by decide +kernel
theorem dX2_consider_55 : decode cX2_consider 55 = .ok (.iload_n 1, 1) := by decide +kernel
theorem dX2_consider_56 : decode cX2_consider 56 = .ok (.isub, 1) := by decide +kernel
theorem dX2_consider_57 : decode cX2_consider 57 = .ok (.aload_n 0, 1) := by decide +kernel
theorem dX2_consider_58 : decode cX2_consider 58 = .ok (.getfield 15, 3) := by decide +kernel
theorem dX2_consider_61 : decode cX2_consider 61 = .ok (.iload_n 1, 1) := by decide +kernel
theorem dX2_consider_62 : decode cX2_consider 62 = .ok (.iaload, 1) := by decide +kernel
theorem dX2_consider_63 : decode cX2_consider 63 = .ok (.if_icmp .le 28, 3) := by decide +kernel
theorem dX2_consider_66 : decode cX2_consider 66 = .ok (.aload_n 0, 1) := by decide +kernel
theorem dX2_consider_67 : decode cX2_consider 67 = .ok (.getfield 9, 3) := by decide +kernel
theorem dX2_consider_70 : decode cX2_consider 70 = .ok (.iload_n 1, 1) := by decide +kernel
theorem dX2_consider_71 : decode cX2_consider 71 = .ok (.iload 5, 2) := by decide +kernel
theorem dX2_consider_73 : decode cX2_consider 73 = .ok (.iastore, 1) := by decide +kernel
theorem dX2_consider_74 : decode cX2_consider 74 = .ok (.aload_n 0, 1) := by decide +kernel
theorem dX2_consider_75 : decode cX2_consider 75 = .ok (.getfield 15, 3) := by decide +kernel
theorem dX2_consider_78 : decode cX2_consider 78 = .ok (.iload_n 1, 1) := by decide +kernel
theorem dX2_consider_79 : decode cX2_consider 79 = .ok (.iload 4, 2) := by decide +kernel
theorem dX2_consider_81 : decode cX2_consider 81 = .ok (.iload_n 1, 1) := by decide +kernel
theorem dX2_consider_82 : decode cX2_consider 82 = .ok (.isub, 1) := by decide +kernel
theorem dX2_consider_83 : decode cX2_consider 83 = .ok (.iastore, 1) := by decide +kernel
theorem dX2_consider_84 : decode cX2_consider 84 = .ok (.aload_n 0, 1) := by decide +kernel
theorem dX2_consider_85 : decode cX2_consider 85 = .ok (.getfield 18, 3) := by decide +kernel
theorem dX2_consider_88 : decode cX2_consider 88 = .ok (.iload_n 1, 1) := by decide +kernel
theorem dX2_consider_89 : decode cX2_consider 89 = .ok (.iload_n 3, 1) := by decide +kernel
theorem dX2_consider_90 : decode cX2_consider 90 = .ok (.iastore, 1) := by decide +kernel
theorem dX2_consider_91 : decode cX2_consider 91 = .ok (.return_, 1) := by decide +kernel
theorem dX2_cheapestEnd_0 : decode cX2_cheapestEnd 0 = .ok (.iconst 0, 1) := by decide +kernel
theorem dX2_cheapestEnd_1 : decode cX2_cheapestEnd 1 = .ok (.istore_n 2, 1) := by decide +kernel
theorem dX2_cheapestEnd_2 : decode cX2_cheapestEnd 2 = .ok (.aload_n 0, 1) := by decide +kernel
theorem dX2_cheapestEnd_3 : decode cX2_cheapestEnd 3 = .ok (.getfield 24, 3) := by decide +kernel
theorem dX2_cheapestEnd_6 : decode cX2_cheapestEnd 6 = .ok (.iconst 1, 1) := by decide +kernel
theorem dX2_cheapestEnd_7 : decode cX2_cheapestEnd 7 = .ok (.isub, 1) := by decide +kernel
theorem dX2_cheapestEnd_8 : decode cX2_cheapestEnd 8 = .ok (.istore_n 3, 1) := by decide +kernel
theorem dX2_cheapestEnd_9 : decode cX2_cheapestEnd 9 = .ok (.iload_n 2, 1) := by decide +kernel
theorem dX2_cheapestEnd_10 : decode cX2_cheapestEnd 10 = .ok (.iload_n 3, 1) := by decide +kernel
theorem dX2_cheapestEnd_11 : decode cX2_cheapestEnd 11 = .ok (.if_icmp .ge 35, 3) := by decide +kernel
theorem dX2_cheapestEnd_14 : decode cX2_cheapestEnd 14 = .ok (.iload_n 2, 1) := by decide +kernel
theorem dX2_cheapestEnd_15 : decode cX2_cheapestEnd 15 = .ok (.iload_n 3, 1) := by decide +kernel
theorem dX2_cheapestEnd_16 : decode cX2_cheapestEnd 16 = .ok (.iadd, 1) := by decide +kernel
theorem dX2_cheapestEnd_17 : decode cX2_cheapestEnd 17 = .ok (.iconst 2, 1) := by decide +kernel
theorem dX2_cheapestEnd_18 : decode cX2_cheapestEnd 18 = .ok (.idiv, 1) := by decide +kernel
theorem dX2_cheapestEnd_19 : decode cX2_cheapestEnd 19 = .ok (.istore 4, 2) := by decide +kernel
theorem dX2_cheapestEnd_21 : decode cX2_cheapestEnd 21 = .ok (.aload_n 0, 1) := by decide +kernel
theorem dX2_cheapestEnd_22 : decode cX2_cheapestEnd 22 = .ok (.getfield 21, 3) := by decide +kernel
theorem dX2_cheapestEnd_25 : decode cX2_cheapestEnd 25 = .ok (.iload 4, 2) := by decide +kernel
theorem dX2_cheapestEnd_27 : decode cX2_cheapestEnd 27 = .ok (.iaload, 1) := by decide +kernel
theorem dX2_cheapestEnd_28 : decode cX2_cheapestEnd 28 = .ok (.iload_n 1, 1) := by decide +kernel
theorem dX2_cheapestEnd_29 : decode cX2_cheapestEnd 29 = .ok (.if_icmp .gt 9, 3) := by decide +kernel
theorem dX2_cheapestEnd_32 : decode cX2_cheapestEnd 32 = .ok (.iload 4, 2) := by decide +kernel
theorem dX2_cheapestEnd_34 : decode cX2_cheapestEnd 34 = .ok (.istore_n 3, 1) := by decide +kernel
theorem dX2_cheapestEnd_35 : decode cX2_cheapestEnd 35 = .ok (.goto 8, 3) := by decide +kernel
theorem dX2_cheapestEnd_38 : decode cX2_cheapestEnd 38 = .ok (.iload 4, 2) := by decide +kernel
theorem dX2_cheapestEnd_40 : decode cX2_cheapestEnd 40 = .ok (.iconst 1, 1) := by decide +kernel
theorem dX2_cheapestEnd_41 : decode cX2_cheapestEnd 41 = .ok (.iadd, 1) := by decide +kernel
theorem dX2_cheapestEnd_42 : decode cX2_cheapestEnd 42 = .ok (.istore_n 2, 1) := by decide +kernel
theorem dX2_cheapestEnd_43 : decode cX2_cheapestEnd 43 = .ok (.goto (-34), 3) := by decide +kernel
theorem dX2_cheapestEnd_46 : decode cX2_cheapestEnd 46 = .ok (.aload_n 0, 1) := by decide +kernel
theorem dX2_cheapestEnd_47 : decode cX2_cheapestEnd 47 = .ok (.getfield 21, 3) := by decide +kernel
theorem dX2_cheapestEnd_50 : decode cX2_cheapestEnd 50 = .ok (.iload_n 2, 1) := by decide +kernel
theorem dX2_cheapestEnd_51 : decode cX2_cheapestEnd 51 = .ok (.iaload, 1) := by decide +kernel
theorem dX2_cheapestEnd_52 : decode cX2_cheapestEnd 52 = .ok (.ireturn, 1) := by decide +kernel
theorem dX1_add_0 : decode cX1_add 0 = .ok (.iload_n 1, 1) := by decide +kernel
theorem dX1_add_1 : decode cX1_add 1 = .ok (.ifCond .ne 40, 3) := by decide +kernel
theorem dX1_add_4 : decode cX1_add 4 = .ok (.aload_n 0, 1) := by decide +kernel
theorem dX1_add_5 : decode cX1_add 5 = .ok (.dup, 1) := by decide +kernel
theorem dX1_add_6 : decode cX1_add 6 = .ok (.getfield 25, 3) := by decide +kernel
theorem dX1_add_9 : decode cX1_add 9 = .ok (.iconst 1, 1) := by decide +kernel
theorem dX1_add_10 : decode cX1_add 10 = .ok (.iadd, 1) := by decide +kernel
theorem dX1_add_11 : decode cX1_add 11 = .ok (.putfield 25, 3) := by decide +kernel
theorem dX1_add_14 : decode cX1_add 14 = .ok (.aload_n 0, 1) := by decide +kernel
theorem dX1_add_15 : decode cX1_add 15 = .ok (.dup, 1) := by decide +kernel
theorem dX1_add_16 : decode cX1_add 16 = .ok (.getfield 28, 3) := by decide +kernel
theorem dX1_add_19 : decode cX1_add 19 = .ok (.iconst 1, 1) := by decide +kernel
theorem dX1_add_20 : decode cX1_add 20 = .ok (.iadd, 1) := by decide +kernel
theorem dX1_add_21 : decode cX1_add 21 = .ok (.putfield 28, 3) := by decide +kernel
theorem dX1_add_24 : decode cX1_add 24 = .ok (.aload_n 0, 1) := by decide +kernel
theorem dX1_add_25 : decode cX1_add 25 = .ok (.dup, 1) := by decide +kernel
theorem dX1_add_26 : decode cX1_add 26 = .ok (.getfield 31, 3) := by decide +kernel
theorem dX1_add_29 : decode cX1_add 29 = .ok (.aload_n 0, 1) := by decide +kernel
theorem dX1_add_30 : decode cX1_add 30 = .ok (.getfield 54, 3) := by decide +kernel
theorem dX1_add_33 : decode cX1_add 33 = .ok (.getfield 73, 3) := by decide +kernel
theorem dX1_add_36 : decode cX1_add 36 = .ok (.iadd, 1) := by decide +kernel
theorem dX1_add_37 : decode cX1_add 37 = .ok (.putfield 31, 3) := by decide +kernel
theorem dX1_add_40 : decode cX1_add 40 = .ok (.return_, 1) := by decide +kernel
theorem dX1_add_41 : decode cX1_add 41 = .ok (.aload_n 0, 1) := by decide +kernel
theorem dX1_add_42 : decode cX1_add 42 = .ok (.getfield 9, 3) := by decide +kernel
theorem dX1_add_45 : decode cX1_add 45 = .ok (.aload_n 0, 1) := by decide +kernel
theorem dX1_add_46 : decode cX1_add 46 = .ok (.getfield 21, 3) := by decide +kernel
theorem dX1_add_49 : decode cX1_add 49 = .ok (.aload_n 0, 1) := by decide +kernel
theorem dX1_add_50 : decode cX1_add 50 = .ok (.getfield 25, 3) := by decide +kernel
theorem dX1_add_53 : decode cX1_add 53 = .ok (.iastore, 1) := by decide +kernel
theorem dX1_add_54 : decode cX1_add 54 = .ok (.aload_n 0, 1) := by decide +kernel
theorem dX1_add_55 : decode cX1_add 55 = .ok (.getfield 15, 3) := by decide +kernel
theorem dX1_add_58 : decode cX1_add 58 = .ok (.aload_n 0, 1) := by decide +kernel
theorem dX1_add_59 : decode cX1_add 59 = .ok (.getfield 21, 3) := by decide +kernel
theorem dX1_add_62 : decode cX1_add 62 = .ok (.iload_n 1, 1) := by decide +kernel
theorem dX1_add_63 : decode cX1_add 63 = .ok (.iastore, 1) := by decide +kernel
theorem dX1_add_64 : decode cX1_add 64 = .ok (.aload_n 0, 1) := by decide +kernel
theorem dX1_add_65 : decode cX1_add 65 = .ok (.getfield 18, 3) := by decide +kernel
theorem dX1_add_68 : decode cX1_add 68 = .ok (.aload_n 0, 1) := by decide +kernel
theorem dX1_add_69 : decode cX1_add 69 = .ok (.getfield 21, 3) := by decide +kernel
theorem dX1_add_72 : decode cX1_add 72 = .ok (.iload_n 2, 1) := by decide +kernel
theorem dX1_add_73 : decode cX1_add 73 = .ok (.iastore, 1) := by decide +kernel
theorem dX1_add_74 : decode cX1_add 74 = .ok (.aload_n 0, 1) := by decide +kernel
theorem dX1_add_75 : decode cX1_add 75 = .ok (.dup, 1) := by decide +kernel
theorem dX1_add_76 : decode cX1_add 76 = .ok (.getfield 21, 3) := by decide +kernel
theorem dX1_add_79 : decode cX1_add 79 = .ok (.iconst 1, 1) := by decide +kernel
theorem dX1_add_80 : decode cX1_add 80 = .ok (.iadd, 1) := by decide +kernel
theorem dX1_add_81 : decode cX1_add 81 = .ok (.putfield 21, 3) := by decide +kernel
theorem dX1_add_84 : decode cX1_add 84 = .ok (.aload_n 0, 1) := by decide +kernel
theorem dX1_add_85 : decode cX1_add 85 = .ok (.iconst 0, 1) := by decide +kernel
theorem dX1_add_86 : decode cX1_add 86 = .ok (.putfield 25, 3) := by decide +kernel
theorem dX1_add_89 : decode cX1_add 89 = .ok (.aload_n 0, 1) := by decide +kernel
theorem dX1_add_90 : decode cX1_add 90 = .ok (.dup, 1) := by decide +kernel
theorem dX1_add_91 : decode cX1_add 91 = .ok (.getfield 31, 3) := by decide +kernel
theorem dX1_add_94 : decode cX1_add 94 = .ok (.aload_n 0, 1) := by decide +kernel
theorem dX1_add_95 : decode cX1_add 95 = .ok (.getfield 54, 3) := by decide +kernel
theorem dX1_add_98 : decode cX1_add 98 = .ok (.getfield 78, 3) := by decide +kernel
theorem dX1_add_101 : decode cX1_add 101 = .ok (.iload_n 2, 1) := by decide +kernel
theorem dX1_add_102 : decode cX1_add 102 = .ok (.invokestatic 81, 3) := by decide +kernel
theorem dX1_add_105 : decode cX1_add 105 = .ok (.iadd, 1) := by decide +kernel
theorem dX1_add_106 : decode cX1_add 106 = .ok (.iadd, 1) := by decide +kernel
theorem dX1_add_107 : decode cX1_add 107 = .ok (.putfield 31, 3) := by decide +kernel
theorem dX1_add_110 : decode cX1_add 110 = .ok (.aload_n 0, 1) := by decide +kernel
theorem dX1_add_111 : decode cX1_add 111 = .ok (.aload_n 0, 1) := by decide +kernel
theorem dX1_add_112 : decode cX1_add 112 = .ok (.getfield 34, 3) := by decide +kernel
theorem dX1_add_115 : decode cX1_add 115 = .ok (.iload_n 1, 1) := by decide +kernel
theorem dX1_add_116 : decode cX1_add 116 = .ok (.invokestatic 84, 3) := by decide +kernel
theorem dX1_add_119 : decode cX1_add 119 = .ok (.putfield 34, 3) := by decide +kernel
theorem dX1_add_122 : decode cX1_add 122 = .ok (.aload_n 0, 1) := by decide +kernel
theorem dX1_add_123 : decode cX1_add 123 = .ok (.aload_n 0, 1) := by decide +kernel
theorem dX1_add_124 : decode cX1_add 124 = .ok (.getfield 37, 3) := by decide +kernel
theorem dX1_add_127 : decode cX1_add 127 = .ok (.iload_n 2, 1) := by decide +kernel
theorem dX1_add_128 : decode cX1_add 128 = .ok (.invokestatic 84, 3) := by decide +kernel
theorem dX1_add_131 : decode cX1_add 131 = .ok (.putfield 37, 3) := by decide +kernel
theorem dX1_add_134 : decode cX1_add 134 = .ok (.return_, 1) := by decide +kernel
theorem dX1_differences_0 : decode cX1_differences 0 = .ok (.aload_n 0, 1) := by decide +kernel
theorem dX1_differences_1 : decode cX1_differences 1 = .ok (.invokevirtual 90, 3) := by decide +kernel
theorem dX1_differences_4 : decode cX1_differences 4 = .ok (.iconst 0, 1) := by decide +kernel
theorem dX1_differences_5 : decode cX1_differences 5 = .ok (.istore_n 1, 1) := by decide +kernel
theorem dX1_differences_6 : decode cX1_differences 6 = .ok (.iconst 0, 1) := by decide +kernel
theorem dX1_differences_7 : decode cX1_differences 7 = .ok (.istore_n 2, 1) := by decide +kernel
theorem dX1_differences_8 : decode cX1_differences 8 = .ok (.iload_n 2, 1) := by decide +kernel
theorem dX1_differences_9 : decode cX1_differences 9 = .ok (.aload_n 0, 1) := by decide +kernel
theorem dX1_differences_10 : decode cX1_differences 10 = .ok (.getfield 40, 3) := by decide +kernel
theorem dX1_differences_13 : decode cX1_differences 13 = .ok (.if_icmp .ge 41, 3) := by decide +kernel
theorem dX1_differences_16 : decode cX1_differences 16 = .ok (.aload_n 0, 1) := by decide +kernel
theorem dX1_differences_17 : decode cX1_differences 17 = .ok (.getfield 50, 3) := by decide +kernel
theorem dX1_differences_20 : decode cX1_differences 20 = .ok (.iload_n 2, 1) := by decide +kernel
theorem dX1_differences_21 : decode cX1_differences 21 = .ok (.invokevirtual 93, 3) := by decide +kernel
theorem dX1_differences_24 : decode cX1_differences 24 = .ok (.ifCond .eq 21, 3) := by decide +kernel
theorem dX1_differences_27 : decode cX1_differences 27 = .ok (.aload_n 0, 1) := by decide +kernel
theorem dX1_differences_28 : decode cX1_differences 28 = .ok (.getfield 46, 3) := by decide +kernel
theorem dX1_differences_31 : decode cX1_differences 31 = .ok (.iload_n 2, 1) := by decide +kernel
theorem dX1_differences_32 : decode cX1_differences 32 = .ok (.baload, 1) := by decide +kernel
theorem dX1_differences_33 : decode cX1_differences 33 = .ok (.aload_n 0, 1) := by decide +kernel
theorem dX1_differences_34 : decode cX1_differences 34 = .ok (.getfield 50, 3) := by decide +kernel
theorem dX1_differences_37 : decode cX1_differences 37 = .ok (.getfield 97, 3) := by decide +kernel
theorem dX1_differences_40 : decode cX1_differences 40 = .ok (.iload_n 2, 1) := by decide +kernel
theorem dX1_differences_41 : decode cX1_differences 41 = .ok (.baload, 1) := by decide +kernel
theorem dX1_differences_42 : decode cX1_differences 42 = .ok (.if_icmp .eq 6, 3) := by decide +kernel
theorem dX1_differences_45 : decode cX1_differences 45 = .ok (.iinc 1 1, 3) := by decide +kernel
theorem dX1_differences_48 : decode cX1_differences 48 = .ok (.iinc 2 1, 3) := by decide +kernel
theorem dX1_differences_51 : decode cX1_differences 51 = .ok (.goto (-43), 3) := by decide +kernel
theorem dX1_differences_54 : decode cX1_differences 54 = .ok (.iload_n 1, 1) := by decide +kernel
theorem dX1_differences_55 : decode cX1_differences 55 = .ok (.ireturn, 1) := by decide +kernel
theorem dX1_rebuild_0 : decode cX1_rebuild 0 = .ok (.aload_n 0, 1) := by decide +kernel
theorem dX1_rebuild_1 : decode cX1_rebuild 1 = .ok (.getfield 46, 3) := by decide +kernel
theorem dX1_rebuild_4 : decode cX1_rebuild 4 = .ok (.arraylength, 1) := by decide +kernel
theorem dX1_rebuild_5 : decode cX1_rebuild 5 = .ok (.aload_n 0, 1) := by decide +kernel
theorem dX1_rebuild_6 : decode cX1_rebuild 6 = .ok (.getfield 40, 3) := by decide +kernel
theorem dX1_rebuild_9 : decode cX1_rebuild 9 = .ok (.if_icmp .ge 16, 3) := by decide +kernel
theorem dX1_rebuild_12 : decode cX1_rebuild 12 = .ok (.aload_n 0, 1) := by decide +kernel
theorem dX1_rebuild_13 : decode cX1_rebuild 13 = .ok (.aload_n 0, 1) := by decide +kernel
theorem dX1_rebuild_14 : decode cX1_rebuild 14 = .ok (.getfield 40, 3) := by decide +kernel
theorem dX1_rebuild_17 : decode cX1_rebuild 17 = .ok (.invokestatic 69, 3) := by decide +kernel
theorem dX1_rebuild_20 : decode cX1_rebuild 20 = .ok (.newarray .byte, 2) := by decide +kernel
theorem dX1_rebuild_22 : decode cX1_rebuild 22 = .ok (.putfield 46, 3) := by decide +kernel
theorem dX1_rebuild_25 : decode cX1_rebuild 25 = .ok (.aload_n 0, 1) := by decide +kernel
theorem dX1_rebuild_26 : decode cX1_rebuild 26 = .ok (.iconst 0, 1) := by decide +kernel
theorem dX1_rebuild_27 : decode cX1_rebuild 27 = .ok (.aload_n 0, 1) := by decide +kernel
theorem dX1_rebuild_28 : decode cX1_rebuild 28 = .ok (.getfield 43, 3) := by decide +kernel
theorem dX1_rebuild_31 : decode cX1_rebuild 31 = .ok (.invokevirtual 100, 3) := by decide +kernel
theorem dX1_rebuild_34 : decode cX1_rebuild 34 = .ok (.istore_n 1, 1) := by decide +kernel
theorem dX1_rebuild_35 : decode cX1_rebuild 35 = .ok (.iconst 0, 1) := by decide +kernel
theorem dX1_rebuild_36 : decode cX1_rebuild 36 = .ok (.istore_n 2, 1) := by decide +kernel
theorem dX1_rebuild_37 : decode cX1_rebuild 37 = .ok (.iload_n 2, 1) := by decide +kernel
theorem dX1_rebuild_38 : decode cX1_rebuild 38 = .ok (.aload_n 0, 1) := by decide +kernel
theorem dX1_rebuild_39 : decode cX1_rebuild 39 = .ok (.getfield 21, 3) := by decide +kernel
theorem dX1_rebuild_42 : decode cX1_rebuild 42 = .ok (.if_icmp .ge 39, 3) := by decide +kernel
theorem dX1_rebuild_45 : decode cX1_rebuild 45 = .ok (.aload_n 0, 1) := by decide +kernel
theorem dX1_rebuild_46 : decode cX1_rebuild 46 = .ok (.iload_n 1, 1) := by decide +kernel
theorem dX1_rebuild_47 : decode cX1_rebuild 47 = .ok (.aload_n 0, 1) := by decide +kernel
theorem dX1_rebuild_48 : decode cX1_rebuild 48 = .ok (.getfield 9, 3) := by decide +kernel
theorem dX1_rebuild_51 : decode cX1_rebuild 51 = .ok (.iload_n 2, 1) := by decide +kernel
theorem dX1_rebuild_52 : decode cX1_rebuild 52 = .ok (.iaload, 1) := by decide +kernel
theorem dX1_rebuild_53 : decode cX1_rebuild 53 = .ok (.invokevirtual 100, 3) := by decide +kernel
theorem dX1_rebuild_56 : decode cX1_rebuild 56 = .ok (.istore_n 1, 1) := by decide +kernel
theorem dX1_rebuild_57 : decode cX1_rebuild 57 = .ok (.aload_n 0, 1) := by decide +kernel
theorem dX1_rebuild_58 : decode cX1_rebuild 58 = .ok (.iload_n 1, 1) := by decide +kernel
theorem dX1_rebuild_59 : decode cX1_rebuild 59 = .ok (.aload_n 0, 1) := by decide +kernel
theorem dX1_rebuild_60 : decode cX1_rebuild 60 = .ok (.getfield 15, 3) := by decide +kernel
theorem dX1_rebuild_63 : decode cX1_rebuild 63 = .ok (.iload_n 2, 1) := by decide +kernel
theorem dX1_rebuild_64 : decode cX1_rebuild 64 = .ok (.iaload, 1) := by decide +kernel
theorem dX1_rebuild_65 : decode cX1_rebuild 65 = .ok (.aload_n 0, 1) := by decide +kernel
theorem dX1_rebuild_66 : decode cX1_rebuild 66 = .ok (.getfield 18, 3) := by decide +kernel
theorem dX1_rebuild_69 : decode cX1_rebuild 69 = .ok (.iload_n 2, 1) := by decide +kernel
theorem dX1_rebuild_70 : decode cX1_rebuild 70 = .ok (.iaload, 1) := by decide +kernel
theorem dX1_rebuild_71 : decode cX1_rebuild 71 = .ok (.invokevirtual 103, 3) := by decide +kernel
theorem dX1_rebuild_74 : decode cX1_rebuild 74 = .ok (.istore_n 1, 1) := by decide +kernel
theorem dX1_rebuild_75 : decode cX1_rebuild 75 = .ok (.iinc 2 1, 3) := by decide +kernel
theorem dX1_rebuild_78 : decode cX1_rebuild 78 = .ok (.goto (-41), 3) := by decide +kernel
theorem dX1_rebuild_81 : decode cX1_rebuild 81 = .ok (.aload_n 0, 1) := by decide +kernel
theorem dX1_rebuild_82 : decode cX1_rebuild 82 = .ok (.iload_n 1, 1) := by decide +kernel
theorem dX1_rebuild_83 : decode cX1_rebuild 83 = .ok (.aload_n 0, 1) := by decide +kernel
theorem dX1_rebuild_84 : decode cX1_rebuild 84 = .ok (.getfield 25, 3) := by decide +kernel
theorem dX1_rebuild_87 : decode cX1_rebuild 87 = .ok (.invokevirtual 100, 3) := by decide +kernel
theorem dX1_rebuild_90 : decode cX1_rebuild 90 = .ok (.pop, 1) := by decide +kernel
theorem dX1_rebuild_91 : decode cX1_rebuild 91 = .ok (.return_, 1) := by decide +kernel
theorem dX1_copyFromData_0 : decode cX1_copyFromData 0 = .ok (.iload_n 1, 1) := by decide +kernel
theorem dX1_copyFromData_1 : decode cX1_copyFromData 1 = .ok (.iload_n 2, 1) := by decide +kernel
theorem dX1_copyFromData_2 : decode cX1_copyFromData 2 = .ok (.iadd, 1) := by decide +kernel
theorem dX1_copyFromData_3 : decode cX1_copyFromData 3 = .ok (.istore_n 3, 1) := by decide +kernel
theorem dX1_copyFromData_4 : decode cX1_copyFromData 4 = .ok (.iload_n 1, 1) := by decide +kernel
theorem dX1_copyFromData_5 : decode cX1_copyFromData 5 = .ok (.istore 4, 2) := by decide +kernel
theorem dX1_copyFromData_7 : decode cX1_copyFromData 7 = .ok (.iload 4, 2) := by decide +kernel
theorem dX1_copyFromData_9 : decode cX1_copyFromData 9 = .ok (.iload_n 3, 1) := by decide +kernel
theorem dX1_copyFromData_10 : decode cX1_copyFromData 10 = .ok (.if_icmp .ge 42, 3) := by decide +kernel
theorem dX1_copyFromData_13 : decode cX1_copyFromData 13 = .ok (.aload_n 0, 1) := by decide +kernel
theorem dX1_copyFromData_14 : decode cX1_copyFromData 14 = .ok (.getfield 46, 3) := by decide +kernel
theorem dX1_copyFromData_17 : decode cX1_copyFromData 17 = .ok (.iload 4, 2) := by decide +kernel
theorem dX1_copyFromData_19 : decode cX1_copyFromData 19 = .ok (.aload_n 0, 1) := by decide +kernel
theorem dX1_copyFromData_20 : decode cX1_copyFromData 20 = .ok (.getfield 50, 3) := by decide +kernel
theorem dX1_copyFromData_23 : decode cX1_copyFromData 23 = .ok (.iload 4, 2) := by decide +kernel
theorem dX1_copyFromData_25 : decode cX1_copyFromData 25 = .ok (.invokevirtual 93, 3) := by decide +kernel
theorem dX1_copyFromData_28 : decode cX1_copyFromData 28 = .ok (.ifCond .eq 16, 3) := by decide +kernel
theorem dX1_copyFromData_31 : decode cX1_copyFromData 31 = .ok (.aload_n 0, 1) := by decide +kernel
theorem dX1_copyFromData_32 : decode cX1_copyFromData 32 = .ok (.getfield 50, 3) := by decide +kernel
theorem dX1_copyFromData_35 : decode cX1_copyFromData 35 = .ok (.getfield 97, 3) := by decide +kernel
theorem dX1_copyFromData_38 : decode cX1_copyFromData 38 = .ok (.iload 4, 2) := by decide +kernel
theorem dX1_copyFromData_40 : decode cX1_copyFromData 40 = .ok (.baload, 1) := by decide +kernel
theorem dX1_copyFromData_41 : decode cX1_copyFromData 41 = .ok (.goto 4, 3) := by decide +kernel
theorem dX1_copyFromData_44 : decode cX1_copyFromData 44 = .ok (.iconst 0, 1) := by decide +kernel
theorem dX1_copyFromData_45 : decode cX1_copyFromData 45 = .ok (.bastore, 1) := by decide +kernel
theorem dX1_copyFromData_46 : decode cX1_copyFromData 46 = .ok (.iinc 4 1, 3) := by decide +kernel
theorem dX1_copyFromData_49 : decode cX1_copyFromData 49 = .ok (.goto (-42), 3) := by decide +kernel
theorem dX1_copyFromData_52 : decode cX1_copyFromData 52 = .ok (.iload_n 3, 1) := by decide +kernel
theorem dX1_copyFromData_53 : decode cX1_copyFromData 53 = .ok (.ireturn, 1) := by decide +kernel
theorem dX1_copyFromRebuilt_0 : decode cX1_copyFromRebuilt 0 = .ok (.iload_n 1, 1) := by decide +kernel
theorem dX1_copyFromRebuilt_1 : decode cX1_copyFromRebuilt 1 = .ok (.iload_n 2, 1) := by decide +kernel
theorem dX1_copyFromRebuilt_2 : decode cX1_copyFromRebuilt 2 = .ok (.iadd, 1) := by decide +kernel
theorem dX1_copyFromRebuilt_3 : decode cX1_copyFromRebuilt 3 = .ok (.istore 4, 2) := by decide +kernel
theorem dX1_copyFromRebuilt_5 : decode cX1_copyFromRebuilt 5 = .ok (.iload_n 1, 1) := by decide +kernel
theorem dX1_copyFromRebuilt_6 : decode cX1_copyFromRebuilt 6 = .ok (.istore 5, 2) := by decide +kernel
theorem dX1_copyFromRebuilt_8 : decode cX1_copyFromRebuilt 8 = .ok (.iload 5, 2) := by decide +kernel
theorem dX1_copyFromRebuilt_10 : decode cX1_copyFromRebuilt 10 = .ok (.iload 4, 2) := by decide +kernel
theorem dX1_copyFromRebuilt_12 : decode cX1_copyFromRebuilt 12 = .ok (.if_icmp .ge 25, 3) := by decide +kernel
theorem dX1_copyFromRebuilt_15 : decode cX1_copyFromRebuilt 15 = .ok (.aload_n 0, 1) := by decide +kernel
theorem dX1_copyFromRebuilt_16 : decode cX1_copyFromRebuilt 16 = .ok (.getfield 46, 3) := by decide +kernel
theorem dX1_copyFromRebuilt_19 : decode cX1_copyFromRebuilt 19 = .ok (.iload 5, 2) := by decide +kernel
theorem dX1_copyFromRebuilt_21 : decode cX1_copyFromRebuilt 21 = .ok (.aload_n 0, 1) := by decide +kernel
theorem dX1_copyFromRebuilt_22 : decode cX1_copyFromRebuilt 22 = .ok (.getfield 46, 3) := by decide +kernel
theorem dX1_copyFromRebuilt_25 : decode cX1_copyFromRebuilt 25 = .ok (.iload 5, 2) := by decide +kernel
theorem dX1_copyFromRebuilt_27 : decode cX1_copyFromRebuilt 27 = .ok (.iload_n 3, 1) := by decide +kernel
theorem dX1_copyFromRebuilt_28 : decode cX1_copyFromRebuilt 28 = .ok (.isub, 1) := by decide +kernel
theorem dX1_copyFromRebuilt_29 : decode cX1_copyFromRebuilt 29 = .ok (.baload, 1) := by decide +kernel
theorem dX1_copyFromRebuilt_30 : decode cX1_copyFromRebuilt 30 = .ok (.bastore, 1) := by decide +kernel
theorem dX1_copyFromRebuilt_31 : decode cX1_copyFromRebuilt 31 = .ok (.iinc 5 1, 3) := by decide +kernel
theorem dX1_copyFromRebuilt_34 : decode cX1_copyFromRebuilt 34 = .ok (.goto (-26), 3) := by decide +kernel
theorem dX1_copyFromRebuilt_37 : decode cX1_copyFromRebuilt 37 = .ok (.iload 4, 2) := by decide +kernel
theorem dX1_copyFromRebuilt_39 : decode cX1_copyFromRebuilt 39 = .ok (.ireturn, 1) := by decide +kernel
end
section
theorem dX6_init_0 : decode cX6_init 0 = .ok (.aload_n 0, 1) := by decide +kernel
theorem dX6_init_1 : decode cX6_init 1 = .ok (.invokespecial 1, 3) := by decide +kernel
theorem dX6_init_4 : decode cX6_init 4 = .ok (.aload_n 0, 1) := by decide +kernel
theorem dX6_init_5 : decode cX6_init 5 = .ok (.ldc 7, 2) := by decide +kernel
theorem dX6_init_7 : decode cX6_init 7 = .ok (.newarray .byte, 2) := by decide +kernel
theorem dX6_init_9 : decode cX6_init 9 = .ok (.putfield 8, 3) := by decide +kernel
theorem dX6_init_12 : decode cX6_init 12 = .ok (.aload_n 0, 1) := by decide +kernel
theorem dX6_init_13 : decode cX6_init 13 = .ok (.iconst 2, 1) := by decide +kernel
theorem dX6_init_14 : decode cX6_init 14 = .ok (.putfield 14, 3) := by decide +kernel
theorem dX6_init_17 : decode cX6_init 17 = .ok (.aload_n 0, 1) := by decide +kernel
theorem dX6_init_18 : decode cX6_init 18 = .ok (.ldc 18, 2) := by decide +kernel
theorem dX6_init_20 : decode cX6_init 20 = .ok (.putfield 19, 3) := by decide +kernel
theorem dX6_init_23 : decode cX6_init 23 = .ok (.aload_n 0, 1) := by decide +kernel
theorem dX6_init_24 : decode cX6_init 24 = .ok (.iconst 4, 1) := by decide +kernel
theorem dX6_init_25 : decode cX6_init 25 = .ok (.putfield 22, 3) := by decide +kernel
theorem dX6_init_28 : decode cX6_init 28 = .ok (.aload_n 0, 1) := by decide +kernel
theorem dX6_init_29 : decode cX6_init 29 = .ok (.ldc 25, 2) := by decide +kernel
theorem dX6_init_31 : decode cX6_init 31 = .ok (.putfield 26, 3) := by decide +kernel
theorem dX6_init_34 : decode cX6_init 34 = .ok (.aload_n 0, 1) := by decide +kernel
theorem dX6_init_35 : decode cX6_init 35 = .ok (.bipush 8, 2) := by decide +kernel
theorem dX6_init_37 : decode cX6_init 37 = .ok (.putfield 29, 3) := by decide +kernel
theorem dX6_init_40 : decode cX6_init 40 = .ok (.aload_n 0, 1) := by decide +kernel
theorem dX6_init_41 : decode cX6_init 41 = .ok (.bipush 16, 2) := by decide +kernel
theorem dX6_init_43 : decode cX6_init 43 = .ok (.putfield 32, 3) := by decide +kernel
theorem dX6_init_46 : decode cX6_init 46 = .ok (.aload_n 0, 1) := by decide +kernel
theorem dX6_init_47 : decode cX6_init 47 = .ok (.sipush 11000, 3) := by decide +kernel
theorem dX6_init_50 : decode cX6_init 50 = .ok (.newarray .int, 2) := by decide +kernel
theorem dX6_init_52 : decode cX6_init 52 = .ok (.putfield 35, 3) := by decide +kernel
theorem dX6_init_55 : decode cX6_init 55 = .ok (.aload_n 0, 1) := by decide +kernel
theorem dX6_init_56 : decode cX6_init 56 = .ok (.sipush 11000, 3) := by decide +kernel
theorem dX6_init_59 : decode cX6_init 59 = .ok (.newarray .int, 2) := by decide +kernel
theorem dX6_init_61 : decode cX6_init 61 = .ok (.putfield 39, 3) := by decide +kernel
theorem dX6_init_64 : decode cX6_init 64 = .ok (.aload_n 0, 1) := by decide +kernel
theorem dX6_init_65 : decode cX6_init 65 = .ok (.sipush 11000, 3) := by decide +kernel
theorem dX6_init_68 : decode cX6_init 68 = .ok (.newarray .int, 2) := by decide +kernel
theorem dX6_init_70 : decode cX6_init 70 = .ok (.putfield 42, 3) := by decide +kernel
theorem dX6_init_73 : decode cX6_init 73 = .ok (.aload_n 0, 1) := by decide +kernel
theorem dX6_init_74 : decode cX6_init 74 = .ok (.ldc 7, 2) := by decide +kernel
theorem dX6_init_76 : decode cX6_init 76 = .ok (.newarray .byte, 2) := by decide +kernel
theorem dX6_init_78 : decode cX6_init 78 = .ok (.putfield 45, 3) := by decide +kernel
theorem dX6_init_81 : decode cX6_init 81 = .ok (.aload_n 0, 1) := by decide +kernel
theorem dX6_init_82 : decode cX6_init 82 = .ok (.sipush 8193, 3) := by decide +kernel
theorem dX6_init_85 : decode cX6_init 85 = .ok (.newarray .int, 2) := by decide +kernel
theorem dX6_init_87 : decode cX6_init 87 = .ok (.putfield 48, 3) := by decide +kernel
theorem dX6_init_90 : decode cX6_init 90 = .ok (.aload_n 0, 1) := by decide +kernel
theorem dX6_init_91 : decode cX6_init 91 = .ok (.sipush 8193, 3) := by decide +kernel
theorem dX6_init_94 : decode cX6_init 94 = .ok (.newarray .int, 2) := by decide +kernel
theorem dX6_init_96 : decode cX6_init 96 = .ok (.putfield 51, 3) := by decide +kernel
theorem dX6_init_99 : decode cX6_init 99 = .ok (.aload_n 0, 1) := by decide +kernel
theorem dX6_init_100 : decode cX6_init 100 = .ok (.sipush 8193, 3) := by decide +kernel
theorem dX6_init_103 : decode cX6_init 103 = .ok (.newarray .int, 2) := by decide +kernel
theorem dX6_init_105 : decode cX6_init 105 = .ok (.putfield 54, 3) := by decide +kernel
theorem dX6_init_108 : decode cX6_init 108 = .ok (.return_, 1) := by decide +kernel
theorem dX6_clear_0 : decode cX6_clear 0 = .ok (.aload_n 0, 1) := by decide +kernel
theorem dX6_clear_1 : decode cX6_clear 1 = .ok (.iconst 0, 1) := by decide +kernel
theorem dX6_clear_2 : decode cX6_clear 2 = .ok (.putfield 57, 3) := by decide +kernel
theorem dX6_clear_5 : decode cX6_clear 5 = .ok (.aload_n 0, 1) := by decide +kernel
theorem dX6_clear_6 : decode cX6_clear 6 = .ok (.iconst 0, 1) := by decide +kernel
theorem dX6_clear_7 : decode cX6_clear 7 = .ok (.putfield 60, 3) := by decide +kernel
theorem dX6_clear_10 : decode cX6_clear 10 = .ok (.aload_n 0, 1) := by decide +kernel
theorem dX6_clear_11 : decode cX6_clear 11 = .ok (.iconst 0, 1) := by decide +kernel
theorem dX6_clear_12 : decode cX6_clear 12 = .ok (.putfield 63, 3) := by decide +kernel
theorem dX6_clear_15 : decode cX6_clear 15 = .ok (.aload_n 0, 1) := by decide +kernel
theorem dX6_clear_16 : decode cX6_clear 16 = .ok (.iconst 0, 1) := by decide +kernel
theorem dX6_clear_17 : decode cX6_clear 17 = .ok (.putfield 66, 3) := by decide +kernel
theorem dX6_clear_20 : decode cX6_clear 20 = .ok (.aload_n 0, 1) := by decide +kernel
theorem dX6_clear_21 : decode cX6_clear 21 = .ok (.iconst 0, 1) := by decide +kernel
theorem dX6_clear_22 : decode cX6_clear 22 = .ok (.putfield 69, 3) := by decide +kernel
theorem dX6_clear_25 : decode cX6_clear 25 = .ok (.aload_n 0, 1) := by decide +kernel
theorem dX6_clear_26 : decode cX6_clear 26 = .ok (.iconst 0, 1) := by decide +kernel
theorem dX6_clear_27 : decode cX6_clear 27 = .ok (.putfield 72, 3) := by decide +kernel
theorem dX6_clear_30 : decode cX6_clear 30 = .ok (.aload_n 0, 1) := by decide +kernel
theorem dX6_clear_31 : decode cX6_clear 31 = .ok (.iconst 0, 1) := by decide +kernel
theorem dX6_clear_32 : decode cX6_clear 32 = .ok (.putfield 75, 3) := by decide +kernel
theorem dX6_clear_35 : decode cX6_clear 35 = .ok (.aload_n 0, 1) := by decide +kernel
theorem dX6_clear_36 : decode cX6_clear 36 = .ok (.iconst 0, 1) := by decide +kernel
theorem dX6_clear_37 : decode cX6_clear 37 = .ok (.putfield 78, 3) := by decide +kernel
theorem dX6_clear_40 : decode cX6_clear 40 = .ok (.return_, 1) := by decide +kernel
theorem dX6_write_0 : decode cX6_write 0 = .ok (.iload_n 3, 1) := by decide +kernel
theorem dX6_write_1 : decode cX6_write 1 = .ok (.iconst 1, 1) := by decide +kernel
theorem dX6_write_2 : decode cX6_write 2 = .ok (.bipush 8, 2) := by decide +kernel
theorem dX6_write_4 : decode cX6_write 4 = .ok (.invokestatic 81, 3) := by decide +kernel
theorem dX6_write_7 : decode cX6_write 7 = .ok (.ifCond .eq 14, 3) := by decide +kernel
theorem dX6_write_10 : decode cX6_write 10 = .ok (.aload_n 0, 1) := by decide +kernel
theorem dX6_write_11 : decode cX6_write 11 = .ok (.getfield 57, 3) := by decide +kernel
theorem dX6_write_14 : decode cX6_write 14 = .ok (.iload_n 3, 1) := by decide +kernel
theorem dX6_write_15 : decode cX6_write 15 = .ok (.iadd, 1) := by decide +kernel
theorem dX6_write_16 : decode cX6_write 16 = .ok (.ldc 7, 2) := by decide +kernel
theorem dX6_write_18 : decode cX6_write 18 = .ok (.if_icmp .le 5, 3) := by decide +kernel
theorem dX6_write_21 : decode cX6_write 21 = .ok (.iconst 0, 1) := by decide +kernel
theorem dX6_write_22 : decode cX6_write 22 = .ok (.ireturn, 1) := by decide +kernel
theorem dX6_write_23 : decode cX6_write 23 = .ok (.iconst 0, 1) := by decide +kernel
theorem dX6_write_24 : decode cX6_write 24 = .ok (.istore 4, 2) := by decide +kernel
theorem dX6_write_26 : decode cX6_write 26 = .ok (.iload 4, 2) := by decide +kernel
theorem dX6_write_28 : decode cX6_write 28 = .ok (.iload_n 3, 1) := by decide +kernel
theorem dX6_write_29 : decode cX6_write 29 = .ok (.if_icmp .ge 33, 3) := by decide +kernel
theorem dX6_write_32 : decode cX6_write 32 = .ok (.aload_n 0, 1) := by decide +kernel
theorem dX6_write_33 : decode cX6_write 33 = .ok (.getfield 8, 3) := by decide +kernel
theorem dX6_write_36 : decode cX6_write 36 = .ok (.aload_n 0, 1) := by decide +kernel
theorem dX6_write_37 : decode cX6_write 37 = .ok (.getfield 57, 3) := by decide +kernel
theorem dX6_write_40 : decode cX6_write 40 = .ok (.iload 4, 2) := by decide +kernel
theorem dX6_write_42 : decode cX6_write 42 = .ok (.iadd, 1) := by decide +kernel
theorem dX6_write_43 : decode cX6_write 43 = .ok (.lload_n 1, 1) := by decide +kernel
theorem dX6_write_44 : decode cX6_write 44 = .ok (.bipush 56, 2) := by decide +kernel
theorem dX6_write_46 : decode cX6_write 46 = .ok (.bipush 8, 2) := by decide +kernel
theorem dX6_write_48 : decode cX6_write 48 = .ok (.iload 4, 2) := by decide +kernel
theorem dX6_write_50 : decode cX6_write 50 = .ok (.imul, 1) := by decide +kernel
theorem dX6_write_51 : decode cX6_write 51 = .ok (.isub, 1) := by decide +kernel
theorem dX6_write_52 : decode cX6_write 52 = .ok (.lshr, 1) := by decide +kernel
theorem dX6_write_53 : decode cX6_write 53 = .ok (.l2i, 1) := by decide +kernel
theorem dX6_write_54 : decode cX6_write 54 = .ok (.i2b, 1) := by decide +kernel
theorem dX6_write_55 : decode cX6_write 55 = .ok (.bastore, 1) := by decide +kernel
theorem dX6_write_56 : decode cX6_write 56 = .ok (.iinc 4 1, 3) := by decide +kernel
theorem dX6_write_59 : decode cX6_write 59 = .ok (.goto (-33), 3) := by decide +kernel
theorem dX6_write_62 : decode cX6_write 62 = .ok (.aload_n 0, 1) := by decide +kernel
theorem dX6_write_63 : decode cX6_write 63 = .ok (.dup, 1) := by decide +kernel
theorem dX6_write_64 : decode cX6_write 64 = .ok (.getfield 57, 3) := by decide +kernel
theorem dX6_write_67 : decode cX6_write 67 = .ok (.iload_n 3, 1) := by decide +kernel
theorem dX6_write_68 : decode cX6_write 68 = .ok (.iadd, 1) := by decide +kernel
theorem dX6_write_69 : decode cX6_write 69 = .ok (.putfield 57, 3) := by decide +kernel
theorem dX6_write_72 : decode cX6_write 72 = .ok (.iconst 1, 1) := by decide +kernel
theorem dX6_write_73 : decode cX6_write 73 = .ok (.ireturn, 1) := by decide +kernel
theorem dX6_within_0 : decode cX6_within 0 = .ok (.iload_n 0, 1) := by decide +kernel
theorem dX6_within_1 : decode cX6_within 1 = .ok (.iload_n 1, 1) := by decide +kernel
theorem dX6_within_2 : decode cX6_within 2 = .ok (.if_icmp .lt 12, 3) := by decide +kernel
theorem dX6_within_5 : decode cX6_within 5 = .ok (.iload_n 0, 1) := by decide +kernel
theorem dX6_within_6 : decode cX6_within 6 = .ok (.iload_n 2, 1) := by decide +kernel
theorem dX6_within_7 : decode cX6_within 7 = .ok (.if_icmp .gt 7, 3) := by decide +kernel
theorem dX6_within_10 : decode cX6_within 10 = .ok (.iconst 1, 1) := by decide +kernel
theorem dX6_within_11 : decode cX6_within 11 = .ok (.goto 4, 3) := by decide +kernel
theorem dX6_within_14 : decode cX6_within 14 = .ok (.iconst 0, 1) := by decide +kernel
theorem dX6_within_15 : decode cX6_within 15 = .ok (.ireturn, 1) := by decide +kernel
theorem dX6_again_0 : decode cX6_again 0 = .ok (.iload_n 1, 1) := by decide +kernel
theorem dX6_again_1 : decode cX6_again 1 = .ok (.iconst 1, 1) := by decide +kernel
theorem dX6_again_2 : decode cX6_again 2 = .ok (.aload_n 0, 1) := by decide +kernel
theorem dX6_again_3 : decode cX6_again 3 = .ok (.getfield 57, 3) := by decide +kernel
theorem dX6_again_6 : decode cX6_again 6 = .ok (.invokestatic 81, 3) := by decide +kernel
theorem dX6_again_9 : decode cX6_again 9 = .ok (.ifCond .eq 24, 3) := by decide +kernel
theorem dX6_again_12 : decode cX6_again 12 = .ok (.iload_n 2, 1) := by decide +kernel
theorem dX6_again_13 : decode cX6_again 13 = .ok (.ifCond .lt 20, 3) := by decide +kernel
theorem dX6_again_16 : decode cX6_again 16 = .ok (.iload_n 1, 1) := by decide +kernel
theorem dX6_again_17 : decode cX6_again 17 = .ok (.i2l, 1) := by decide +kernel
theorem dX6_again_18 : decode cX6_again 18 = .ok (.iload_n 2, 1) := by decide +kernel
theorem dX6_again_19 : decode cX6_again 19 = .ok (.i2l, 1) := by decide +kernel
theorem dX6_again_20 : decode cX6_again 20 = .ok (.lmul, 1) := by decide +kernel
theorem dX6_again_21 : decode cX6_again 21 = .ok (.ldc 7, 2) := by decide +kernel
theorem dX6_again_23 : decode cX6_again 23 = .ok (.aload_n 0, 1) := by decide +kernel
theorem dX6_again_24 : decode cX6_again 24 = .ok (.getfield 57, 3) := by decide +kernel
theorem dX6_again_27 : decode cX6_again 27 = .ok (.isub, 1) := by decide +kernel
theorem dX6_again_28 : decode cX6_again 28 = .ok (.i2l, 1) := by decide +kernel
theorem dX6_again_29 : decode cX6_again 29 = .ok (.lcmp, 1) := by decide +kernel
theorem dX6_again_30 : decode cX6_again 30 = .ok (.ifCond .le 5, 3) := by decide +kernel
theorem dX6_again_33 : decode cX6_again 33 = .ok (.iconst 0, 1) := by decide +kernel
theorem dX6_again_34 : decode cX6_again 34 = .ok (.ireturn, 1) := by decide +kernel
theorem dX6_again_35 : decode cX6_again 35 = .ok (.iconst 0, 1) := by decide +kernel
theorem dX6_again_36 : decode cX6_again 36 = .ok (.istore_n 3, 1) := by decide +kernel
theorem dX6_again_37 : decode cX6_again 37 = .ok (.iload_n 3, 1) := by decide +kernel
theorem dX6_again_38 : decode cX6_again 38 = .ok (.iload_n 1, 1) := by decide +kernel
theorem dX6_again_39 : decode cX6_again 39 = .ok (.iload_n 2, 1) := by decide +kernel
theorem dX6_again_40 : decode cX6_again 40 = .ok (.imul, 1) := by decide +kernel
theorem dX6_again_41 : decode cX6_again 41 = .ok (.if_icmp .ge 39, 3) := by decide +kernel
theorem dX6_again_44 : decode cX6_again 44 = .ok (.aload_n 0, 1) := by decide +kernel
theorem dX6_again_45 : decode cX6_again 45 = .ok (.getfield 8, 3) := by decide +kernel
theorem dX6_again_48 : decode cX6_again 48 = .ok (.aload_n 0, 1) := by decide +kernel
theorem dX6_again_49 : decode cX6_again 49 = .ok (.getfield 57, 3) := by decide +kernel
theorem dX6_again_52 : decode cX6_again 52 = .ok (.aload_n 0, 1) := by decide +kernel
theorem dX6_again_53 : decode cX6_again 53 = .ok (.getfield 8, 3) := by decide +kernel
theorem dX6_again_56 : decode cX6_again 56 = .ok (.aload_n 0, 1) := by decide +kernel
theorem dX6_again_57 : decode cX6_again 57 = .ok (.getfield 57, 3) := by decide +kernel
theorem dX6_again_60 : decode cX6_again 60 = .ok (.iload_n 1, 1) := by decide +kernel
theorem dX6_again_61 : decode cX6_again 61 = .ok (.isub, 1) := by decide +kernel
theorem dX6_again_62 : decode cX6_again 62 = .ok (.baload, 1) := by decide +kernel
theorem dX6_again_63 : decode cX6_again 63 = .ok (.bastore, 1) := by decide +kernel
theorem dX6_again_64 : decode cX6_again 64 = .ok (.aload_n 0, 1) := by decide +kernel
theorem dX6_again_65 : decode cX6_again 65 = .ok (.dup, 1) := by decide +kernel
theorem dX6_again_66 : decode cX6_again 66 = .ok (.getfield 57, 3) := by decide +kernel
theorem dX6_again_69 : decode cX6_again 69 = .ok (.iconst 1, 1) := by decide +kernel
theorem dX6_again_70 : decode cX6_again 70 = .ok (.iadd, 1) := by decide +kernel
theorem dX6_again_71 : decode cX6_again 71 = .ok (.putfield 57, 3) := by decide +kernel
theorem dX6_again_74 : decode cX6_again 74 = .ok (.iinc 3 1, 3) := by decide +kernel
theorem dX6_again_77 : decode cX6_again 77 = .ok (.goto (-40), 3) := by decide +kernel
theorem dX6_again_80 : decode cX6_again 80 = .ok (.iconst 1, 1) := by decide +kernel
theorem dX6_again_81 : decode cX6_again 81 = .ok (.ireturn, 1) := by decide +kernel
theorem dX6_history_0 : decode cX6_history 0 = .ok (.iload_n 1, 1) := by decide +kernel
theorem dX6_history_1 : decode cX6_history 1 = .ok (.iconst 0, 1) := by decide +kernel
theorem dX6_history_2 : decode cX6_history 2 = .ok (.aload_n 0, 1) := by decide +kernel
theorem dX6_history_3 : decode cX6_history 3 = .ok (.getfield 57, 3) := by decide +kernel
theorem dX6_history_6 : decode cX6_history 6 = .ok (.invokestatic 81, 3) := by decide +kernel
theorem dX6_history_9 : decode cX6_history 9 = .ok (.ifCond .ne 5, 3) := by decide +kernel
theorem dX6_history_12 : decode cX6_history 12 = .ok (.iconst 0, 1) := by decide +kernel
theorem dX6_history_13 : decode cX6_history 13 = .ok (.ireturn, 1) := by decide +kernel
theorem dX6_history_14 : decode cX6_history 14 = .ok (.aload_n 0, 1) := by decide +kernel
theorem dX6_history_15 : decode cX6_history 15 = .ok (.iload_n 1, 1) := by decide +kernel
theorem dX6_history_16 : decode cX6_history 16 = .ok (.putfield 60, 3) := by decide +kernel
theorem dX6_history_19 : decode cX6_history 19 = .ok (.iconst 1, 1) := by decide +kernel
theorem dX6_history_20 : decode cX6_history 20 = .ok (.ireturn, 1) := by decide +kernel
theorem dX6_rule_0 : decode cX6_rule 0 = .ok (.iload_n 1, 1) := by decide +kernel
theorem dX6_rule_1 : decode cX6_rule 1 = .ok (.iconst 0, 1) := by decide +kernel
theorem dX6_rule_2 : decode cX6_rule 2 = .ok (.iconst 4, 1) := by decide +kernel
theorem dX6_rule_3 : decode cX6_rule 3 = .ok (.invokestatic 81, 3) := by decide +kernel
theorem dX6_rule_6 : decode cX6_rule 6 = .ok (.ifCond .eq 34, 3) := by decide +kernel
theorem dX6_rule_9 : decode cX6_rule 9 = .ok (.iload_n 2, 1) := by decide +kernel
theorem dX6_rule_10 : decode cX6_rule 10 = .ok (.iconst 1, 1) := by decide +kernel
theorem dX6_rule_11 : decode cX6_rule 11 = .ok (.ldc 18, 2) := by decide +kernel
theorem dX6_rule_13 : decode cX6_rule 13 = .ok (.invokestatic 81, 3) := by decide +kernel
theorem dX6_rule_16 : decode cX6_rule 16 = .ok (.ifCond .eq 24, 3) := by decide +kernel
theorem dX6_rule_19 : decode cX6_rule 19 = .ok (.iload_n 3, 1) := by decide +kernel
theorem dX6_rule_20 : decode cX6_rule 20 = .ok (.iconst 3, 1) := by decide +kernel
theorem dX6_rule_21 : decode cX6_rule 21 = .ok (.bipush 8, 2) := by decide +kernel
theorem dX6_rule_23 : decode cX6_rule 23 = .ok (.invokestatic 81, 3) := by decide +kernel
theorem dX6_rule_26 : decode cX6_rule 26 = .ok (.ifCond .eq 14, 3) := by decide +kernel
theorem dX6_rule_29 : decode cX6_rule 29 = .ok (.iload 4, 2) := by decide +kernel
theorem dX6_rule_31 : decode cX6_rule 31 = .ok (.iload_n 3, 1) := by decide +kernel
theorem dX6_rule_32 : decode cX6_rule 32 = .ok (.ldc 25, 2) := by decide +kernel
theorem dX6_rule_34 : decode cX6_rule 34 = .ok (.invokestatic 81, 3) := by decide +kernel
theorem dX6_rule_37 : decode cX6_rule 37 = .ok (.ifCond .ne 5, 3) := by decide +kernel
theorem dX6_rule_40 : decode cX6_rule 40 = .ok (.iconst 0, 1) := by decide +kernel
theorem dX6_rule_41 : decode cX6_rule 41 = .ok (.ireturn, 1) := by decide +kernel
theorem dX6_rule_42 : decode cX6_rule 42 = .ok (.aload_n 0, 1) := by decide +kernel
theorem dX6_rule_43 : decode cX6_rule 43 = .ok (.iload_n 1, 1) := by decide +kernel
theorem dX6_rule_44 : decode cX6_rule 44 = .ok (.putfield 14, 3) := by decide +kernel
theorem dX6_rule_47 : decode cX6_rule 47 = .ok (.aload_n 0, 1) := by decide +kernel
theorem dX6_rule_48 : decode cX6_rule 48 = .ok (.iload_n 2, 1) := by decide +kernel
theorem dX6_rule_49 : decode cX6_rule 49 = .ok (.putfield 19, 3) := by decide +kernel
theorem dX6_rule_52 : decode cX6_rule 52 = .ok (.aload_n 0, 1) := by decide +kernel
theorem dX6_rule_53 : decode cX6_rule 53 = .ok (.iload_n 3, 1) := by decide +kernel
theorem dX6_rule_54 : decode cX6_rule 54 = .ok (.putfield 22, 3) := by decide +kernel
theorem dX6_rule_57 : decode cX6_rule 57 = .ok (.aload_n 0, 1) := by decide +kernel
theorem dX6_rule_58 : decode cX6_rule 58 = .ok (.iload 4, 2) := by decide +kernel
theorem dX6_rule_60 : decode cX6_rule 60 = .ok (.putfield 26, 3) := by decide +kernel
theorem dX6_rule_63 : decode cX6_rule 63 = .ok (.iconst 1, 1) := by decide +kernel
theorem dX6_rule_64 : decode cX6_rule 64 = .ok (.ireturn, 1) := by decide +kernel
theorem dX6_bounds_0 : decode cX6_bounds 0 = .ok (.iload_n 1, 1) := by decide +kernel
theorem dX6_bounds_1 : decode cX6_bounds 1 = .ok (.iconst 0, 1) := by decide +kernel
theorem dX6_bounds_2 : decode cX6_bounds 2 = .ok (.bipush 32, 2) := by decide +kernel
theorem dX6_bounds_4 : decode cX6_bounds 4 = .ok (.invokestatic 81, 3) := by decide +kernel
theorem dX6_bounds_7 : decode cX6_bounds 7 = .ok (.ifCond .eq 36, 3) := by decide +kernel
theorem dX6_bounds_10 : decode cX6_bounds 10 = .ok (.iload_n 2, 1) := by decide +kernel
theorem dX6_bounds_11 : decode cX6_bounds 11 = .ok (.iconst 0, 1) := by decide +kernel
theorem dX6_bounds_12 : decode cX6_bounds 12 = .ok (.bipush 32, 2) := by decide +kernel
theorem dX6_bounds_14 : decode cX6_bounds 14 = .ok (.invokestatic 81, 3) := by decide +kernel
theorem dX6_bounds_17 : decode cX6_bounds 17 = .ok (.ifCond .eq 26, 3) := by decide +kernel
theorem dX6_bounds_20 : decode cX6_bounds 20 = .ok (.iload_n 3, 1) := by decide +kernel
theorem dX6_bounds_21 : decode cX6_bounds 21 = .ok (.iconst 0, 1) := by decide +kernel
theorem dX6_bounds_22 : decode cX6_bounds 22 = .ok (.sipush 255, 3) := by decide +kernel
theorem dX6_bounds_25 : decode cX6_bounds 25 = .ok (.invokestatic 81, 3) := by decide +kernel
theorem dX6_bounds_28 : decode cX6_bounds 28 = .ok (.ifCond .eq 15, 3) := by decide +kernel
theorem dX6_bounds_31 : decode cX6_bounds 31 = .ok (.iload 4, 2) := by decide +kernel
theorem dX6_bounds_33 : decode cX6_bounds 33 = .ok (.iconst 0, 1) := by decide +kernel
theorem dX6_bounds_34 : decode cX6_bounds 34 = .ok (.sipush 255, 3) := by decide +kernel
theorem dX6_bounds_37 : decode cX6_bounds 37 = .ok (.invokestatic 81, 3) := by decide +kernel
theorem dX6_bounds_40 : decode cX6_bounds 40 = .ok (.ifCond .ne 5, 3) := by decide +kernel
theorem dX6_bounds_43 : decode cX6_bounds 43 = .ok (.iconst 0, 1) := by decide +kernel
theorem dX6_bounds_44 : decode cX6_bounds 44 = .ok (.ireturn, 1) := by decide +kernel
theorem dX6_bounds_45 : decode cX6_bounds 45 = .ok (.aload_n 0, 1) := by decide +kernel
theorem dX6_bounds_46 : decode cX6_bounds 46 = .ok (.iload_n 1, 1) := by decide +kernel
theorem dX6_bounds_47 : decode cX6_bounds 47 = .ok (.putfield 85, 3) := by decide +kernel
theorem dX6_bounds_50 : decode cX6_bounds 50 = .ok (.aload_n 0, 1) := by decide +kernel
theorem dX6_bounds_51 : decode cX6_bounds 51 = .ok (.iload_n 2, 1) := by decide +kernel
theorem dX6_bounds_52 : decode cX6_bounds 52 = .ok (.putfield 88, 3) := by decide +kernel
theorem dX6_bounds_55 : decode cX6_bounds 55 = .ok (.aload_n 0, 1) := by decide +kernel
theorem dX6_bounds_56 : decode cX6_bounds 56 = .ok (.iload_n 3, 1) := by decide +kernel
theorem dX6_bounds_57 : decode cX6_bounds 57 = .ok (.putfield 29, 3) := by decide +kernel
theorem dX6_bounds_60 : decode cX6_bounds 60 = .ok (.aload_n 0, 1) := by decide +kernel
theorem dX6_bounds_61 : decode cX6_bounds 61 = .ok (.iload 4, 2) := by decide +kernel
theorem dX6_bounds_63 : decode cX6_bounds 63 = .ok (.putfield 32, 3) := by decide +kernel
theorem dX6_bounds_66 : decode cX6_bounds 66 = .ok (.iconst 1, 1) := by decide +kernel
theorem dX6_bounds_67 : decode cX6_bounds 67 = .ok (.ireturn, 1) := by decide +kernel
theorem dX6_at_0 : decode cX6_at 0 = .ok (.iload_n 1, 1) := by decide +kernel
theorem dX6_at_1 : decode cX6_at 1 = .ok (.iconst 0, 1) := by decide +kernel
theorem dX6_at_2 : decode cX6_at 2 = .ok (.aload_n 0, 1) := by decide +kernel
theorem dX6_at_3 : decode cX6_at 3 = .ok (.getfield 57, 3) := by decide +kernel
theorem dX6_at_6 : decode cX6_at 6 = .ok (.iconst 1, 1) := by decide +kernel
theorem dX6_at_7 : decode cX6_at 7 = .ok (.isub, 1) := by decide +kernel
theorem dX6_at_8 : decode cX6_at 8 = .ok (.invokestatic 81, 3) := by decide +kernel
theorem dX6_at_11 : decode cX6_at 11 = .ok (.ifCond .eq 30, 3) := by decide +kernel
theorem dX6_at_14 : decode cX6_at 14 = .ok (.iload_n 2, 1) := by decide +kernel
theorem dX6_at_15 : decode cX6_at 15 = .ok (.iconst 0, 1) := by decide +kernel
theorem dX6_at_16 : decode cX6_at 16 = .ok (.iconst 3, 1) := by decide +kernel
theorem dX6_at_17 : decode cX6_at 17 = .ok (.invokestatic 81, 3) := by decide +kernel
theorem dX6_at_20 : decode cX6_at 20 = .ok (.ifCond .eq 21, 3) := by decide +kernel
theorem dX6_at_23 : decode cX6_at 23 = .ok (.iload_n 3, 1) := by decide +kernel
theorem dX6_at_24 : decode cX6_at 24 = .ok (.iconst 0, 1) := by decide +kernel
theorem dX6_at_25 : decode cX6_at 25 = .ok (.iconst 1, 1) := by decide +kernel
theorem dX6_at_26 : decode cX6_at 26 = .ok (.invokestatic 81, 3) := by decide +kernel
theorem dX6_at_29 : decode cX6_at 29 = .ok (.ifCond .eq 12, 3) := by decide +kernel
theorem dX6_at_32 : decode cX6_at 32 = .ok (.aload_n 0, 1) := by decide +kernel
theorem dX6_at_33 : decode cX6_at 33 = .ok (.iload_n 1, 1) := by decide +kernel
theorem dX6_at_34 : decode cX6_at 34 = .ok (.iload_n 2, 1) := by decide +kernel
theorem dX6_at_35 : decode cX6_at 35 = .ok (.invokevirtual 123, 3) := by decide +kernel
theorem dX6_at_38 : decode cX6_at 38 = .ok (.ifCond .ne 5, 3) := by decide +kernel
theorem dX6_at_41 : decode cX6_at 41 = .ok (.iconst 0, 1) := by decide +kernel
theorem dX6_at_42 : decode cX6_at 42 = .ok (.ireturn, 1) := by decide +kernel
theorem dX6_at_43 : decode cX6_at 43 = .ok (.iload_n 3, 1) := by decide +kernel
theorem dX6_at_44 : decode cX6_at 44 = .ok (.ifCond .ne 10, 3) := by decide +kernel
theorem dX6_at_47 : decode cX6_at 47 = .ok (.aload_n 0, 1) := by decide +kernel
theorem dX6_at_48 : decode cX6_at 48 = .ok (.getfield 102, 3) := by decide +kernel
theorem dX6_at_51 : decode cX6_at 51 = .ok (.goto 7, 3) := by decide +kernel
theorem dX6_at_54 : decode cX6_at 54 = .ok (.aload_n 0, 1) := by decide +kernel
theorem dX6_at_55 : decode cX6_at 55 = .ok (.getfield 105, 3) := by decide +kernel
theorem dX6_at_58 : decode cX6_at 58 = .ok (.ireturn, 1) := by decide +kernel
theorem dX6_chosen_0 : decode cX6_chosen 0 = .ok (.iload_n 2, 1) := by decide +kernel
theorem dX6_chosen_1 : decode cX6_chosen 1 = .ok (.ifCond .ne 13, 3) := by decide +kernel
theorem dX6_chosen_4 : decode cX6_chosen 4 = .ok (.aload_n 0, 1) := by decide +kernel
theorem dX6_chosen_5 : decode cX6_chosen 5 = .ok (.iload_n 1, 1) := by decide +kernel
theorem dX6_chosen_6 : decode cX6_chosen 6 = .ok (.aload_n 0, 1) := by decide +kernel
theorem dX6_chosen_7 : decode cX6_chosen 7 = .ok (.getfield 22, 3) := by decide +kernel
theorem dX6_chosen_10 : decode cX6_chosen 10 = .ok (.invokevirtual 115, 3) := by decide +kernel
theorem dX6_chosen_13 : decode cX6_chosen 13 = .ok (.ireturn, 1) := by decide +kernel
theorem dX6_chosen_14 : decode cX6_chosen 14 = .ok (.iload_n 2, 1) := by decide +kernel
theorem dX6_chosen_15 : decode cX6_chosen 15 = .ok (.iconst 1, 1) := by decide +kernel
theorem dX6_chosen_16 : decode cX6_chosen 16 = .ok (.if_icmp .ne 47, 3) := by decide +kernel
theorem dX6_chosen_19 : decode cX6_chosen 19 = .ok (.aload_n 0, 1) := by decide +kernel
theorem dX6_chosen_20 : decode cX6_chosen 20 = .ok (.iload_n 1, 1) := by decide +kernel
theorem dX6_chosen_21 : decode cX6_chosen 21 = .ok (.aload_n 0, 1) := by decide +kernel
theorem dX6_chosen_22 : decode cX6_chosen 22 = .ok (.getfield 22, 3) := by decide +kernel
theorem dX6_chosen_25 : decode cX6_chosen 25 = .ok (.bipush 8, 2) := by decide +kernel
theorem dX6_chosen_27 : decode cX6_chosen 27 = .ok (.if_icmp .le 10, 3) := by decide +kernel
theorem dX6_chosen_30 : decode cX6_chosen 30 = .ok (.aload_n 0, 1) := by decide +kernel
theorem dX6_chosen_31 : decode cX6_chosen 31 = .ok (.getfield 22, 3) := by decide +kernel
theorem dX6_chosen_34 : decode cX6_chosen 34 = .ok (.goto 5, 3) := by decide +kernel
theorem dX6_chosen_37 : decode cX6_chosen 37 = .ok (.bipush 8, 2) := by decide +kernel
theorem dX6_chosen_39 : decode cX6_chosen 39 = .ok (.invokevirtual 115, 3) := by decide +kernel
theorem dX6_chosen_42 : decode cX6_chosen 42 = .ok (.ifCond .ne 15, 3) := by decide +kernel
theorem dX6_chosen_45 : decode cX6_chosen 45 = .ok (.aload_n 0, 1) := by decide +kernel
theorem dX6_chosen_46 : decode cX6_chosen 46 = .ok (.iload_n 1, 1) := by decide +kernel
theorem dX6_chosen_47 : decode cX6_chosen 47 = .ok (.aload_n 0, 1) := by decide +kernel
theorem dX6_chosen_48 : decode cX6_chosen 48 = .ok (.getfield 22, 3) := by decide +kernel
theorem dX6_chosen_51 : decode cX6_chosen 51 = .ok (.invokevirtual 115, 3) := by decide +kernel
theorem dX6_chosen_54 : decode cX6_chosen 54 = .ok (.ifCond .eq 7, 3) := by decide +kernel
theorem dX6_chosen_57 : decode cX6_chosen 57 = .ok (.iconst 1, 1) := by decide +kernel
theorem dX6_chosen_58 : decode cX6_chosen 58 = .ok (.goto 4, 3) := by decide +kernel
theorem dX6_chosen_61 : decode cX6_chosen 61 = .ok (.iconst 0, 1) := by decide +kernel
theorem dX6_chosen_62 : decode cX6_chosen 62 = .ok (.ireturn, 1) := by decide +kernel
theorem dX6_chosen_63 : decode cX6_chosen 63 = .ok (.iload_n 2, 1) := by decide +kernel
theorem dX6_chosen_64 : decode cX6_chosen 64 = .ok (.iconst 2, 1) := by decide +kernel
theorem dX6_chosen_65 : decode cX6_chosen 65 = .ok (.if_icmp .eq 13, 3) := by decide +kernel
theorem dX6_chosen_68 : decode cX6_chosen 68 = .ok (.iload_n 1, 1) := by decide +kernel
theorem dX6_chosen_69 : decode cX6_chosen 69 = .ok (.iconst 1, 1) := by decide +kernel
theorem dX6_chosen_70 : decode cX6_chosen 70 = .ok (.iadd, 1) := by decide +kernel
theorem dX6_chosen_71 : decode cX6_chosen 71 = .ok (.aload_n 0, 1) := by decide +kernel
theorem dX6_chosen_72 : decode cX6_chosen 72 = .ok (.invokevirtual 95, 3) := by decide +kernel
theorem dX6_chosen_75 : decode cX6_chosen 75 = .ok (.if_icmp .le 9, 3) := by decide +kernel
theorem dX6_chosen_78 : decode cX6_chosen 78 = .ok (.aload_n 0, 1) := by decide +kernel
theorem dX6_chosen_79 : decode cX6_chosen 79 = .ok (.iload_n 1, 1) := by decide +kernel
theorem dX6_chosen_80 : decode cX6_chosen 80 = .ok (.invokevirtual 119, 3) := by decide +kernel
theorem dX6_chosen_83 : decode cX6_chosen 83 = .ok (.ireturn, 1) := by decide +kernel
theorem dX6_chosen_84 : decode cX6_chosen 84 = .ok (.aload_n 0, 1) := by decide +kernel
theorem dX6_chosen_85 : decode cX6_chosen 85 = .ok (.iload_n 1, 1) := by decide +kernel
theorem dX6_chosen_86 : decode cX6_chosen 86 = .ok (.iconst 1, 1) := by decide +kernel
theorem dX6_chosen_87 : decode cX6_chosen 87 = .ok (.iadd, 1) := by decide +kernel
theorem dX6_chosen_88 : decode cX6_chosen 88 = .ok (.invokevirtual 119, 3) := by decide +kernel
theorem dX6_chosen_91 : decode cX6_chosen 91 = .ok (.istore_n 3, 1) := by decide +kernel
theorem dX6_chosen_92 : decode cX6_chosen 92 = .ok (.aload_n 0, 1) := by decide +kernel
theorem dX6_chosen_93 : decode cX6_chosen 93 = .ok (.getfield 102, 3) := by decide +kernel
theorem dX6_chosen_96 : decode cX6_chosen 96 = .ok (.istore 4, 2) := by decide +kernel
theorem dX6_chosen_98 : decode cX6_chosen 98 = .ok (.aload_n 0, 1) := by decide +kernel
theorem dX6_chosen_99 : decode cX6_chosen 99 = .ok (.iload_n 1, 1) := by decide +kernel
theorem dX6_chosen_100 : decode cX6_chosen 100 = .ok (.invokevirtual 119, 3) := by decide +kernel
theorem dX6_chosen_103 : decode cX6_chosen 103 = .ok (.istore 5, 2) := by decide +kernel
theorem dX6_chosen_105 : decode cX6_chosen 105 = .ok (.iload_n 3, 1) := by decide +kernel
theorem dX6_chosen_106 : decode cX6_chosen 106 = .ok (.ifCond .eq 17, 3) := by decide +kernel
theorem dX6_chosen_109 : decode cX6_chosen 109 = .ok (.iload 5, 2) := by decide +kernel
theorem dX6_chosen_111 : decode cX6_chosen 111 = .ok (.ifCond .eq 12, 3) := by decide +kernel
theorem dX6_chosen_114 : decode cX6_chosen 114 = .ok (.iload 4, 2) := by decide +kernel
theorem dX6_chosen_116 : decode cX6_chosen 116 = .ok (.aload_n 0, 1) := by decide +kernel
theorem dX6_chosen_117 : decode cX6_chosen 117 = .ok (.getfield 102, 3) := by decide +kernel
theorem dX6_chosen_120 : decode cX6_chosen 120 = .ok (.if_icmp .gt 6, 3) := by decide +kernel
theorem dX6_chosen_123 : decode cX6_chosen 123 = .ok (.iload 5, 2) := by decide +kernel
theorem dX6_chosen_125 : decode cX6_chosen 125 = .ok (.ireturn, 1) := by decide +kernel
theorem dX6_chosen_126 : decode cX6_chosen 126 = .ok (.aload_n 0, 1) := by decide +kernel
theorem dX6_chosen_127 : decode cX6_chosen 127 = .ok (.iconst 0, 1) := by decide +kernel
theorem dX6_chosen_128 : decode cX6_chosen 128 = .ok (.putfield 102, 3) := by decide +kernel
theorem dX6_chosen_131 : decode cX6_chosen 131 = .ok (.aload_n 0, 1) := by decide +kernel
theorem dX6_chosen_132 : decode cX6_chosen 132 = .ok (.iconst 0, 1) := by decide +kernel
theorem dX6_chosen_133 : decode cX6_chosen 133 = .ok (.putfield 105, 3) := by decide +kernel
theorem dX6_chosen_136 : decode cX6_chosen 136 = .ok (.iconst 0, 1) := by decide +kernel
theorem dX6_chosen_137 : decode cX6_chosen 137 = .ok (.ireturn, 1) := by decide +kernel
theorem dX6_nearest_0 : decode cX6_nearest 0 = .ok (.aload_n 0, 1) := by decide +kernel
theorem dX6_nearest_1 : decode cX6_nearest 1 = .ok (.iload_n 1, 1) := by decide +kernel
theorem dX6_nearest_2 : decode cX6_nearest 2 = .ok (.invokevirtual 98, 3) := by decide +kernel
theorem dX6_nearest_5 : decode cX6_nearest 5 = .ok (.istore_n 3, 1) := by decide +kernel
theorem dX6_nearest_6 : decode cX6_nearest 6 = .ok (.aload_n 0, 1) := by decide +kernel
theorem dX6_nearest_7 : decode cX6_nearest 7 = .ok (.iconst 0, 1) := by decide +kernel
theorem dX6_nearest_8 : decode cX6_nearest 8 = .ok (.putfield 102, 3) := by decide +kernel
theorem dX6_nearest_11 : decode cX6_nearest 11 = .ok (.aload_n 0, 1) := by decide +kernel
theorem dX6_nearest_12 : decode cX6_nearest 12 = .ok (.iconst 0, 1) := by decide +kernel
theorem dX6_nearest_13 : decode cX6_nearest 13 = .ok (.putfield 105, 3) := by decide +kernel
theorem dX6_nearest_16 : decode cX6_nearest 16 = .ok (.iload_n 3, 1) := by decide +kernel
theorem dX6_nearest_17 : decode cX6_nearest 17 = .ok (.iload_n 2, 1) := by decide +kernel
theorem dX6_nearest_18 : decode cX6_nearest 18 = .ok (.if_icmp .ge 5, 3) := by decide +kernel
theorem dX6_nearest_21 : decode cX6_nearest 21 = .ok (.iconst 0, 1) := by decide +kernel
theorem dX6_nearest_22 : decode cX6_nearest 22 = .ok (.ireturn, 1) := by decide +kernel
theorem dX6_nearest_23 : decode cX6_nearest 23 = .ok (.iload_n 1, 1) := by decide +kernel
theorem dX6_nearest_24 : decode cX6_nearest 24 = .ok (.iconst 1, 1) := by decide +kernel
theorem dX6_nearest_25 : decode cX6_nearest 25 = .ok (.isub, 1) := by decide +kernel
theorem dX6_nearest_26 : decode cX6_nearest 26 = .ok (.istore 4, 2) := by decide +kernel
theorem dX6_nearest_28 : decode cX6_nearest 28 = .ok (.iload 4, 2) := by decide +kernel
theorem dX6_nearest_30 : decode cX6_nearest 30 = .ok (.aload_n 0, 1) := by decide +kernel
theorem dX6_nearest_31 : decode cX6_nearest 31 = .ok (.iload_n 1, 1) := by decide +kernel
theorem dX6_nearest_32 : decode cX6_nearest 32 = .ok (.invokevirtual 108, 3) := by decide +kernel
theorem dX6_nearest_35 : decode cX6_nearest 35 = .ok (.if_icmp .lt 46, 3) := by decide +kernel
theorem dX6_nearest_38 : decode cX6_nearest 38 = .ok (.aload_n 0, 1) := by decide +kernel
theorem dX6_nearest_39 : decode cX6_nearest 39 = .ok (.iload_n 1, 1) := by decide +kernel
theorem dX6_nearest_40 : decode cX6_nearest 40 = .ok (.iload 4, 2) := by decide +kernel
theorem dX6_nearest_42 : decode cX6_nearest 42 = .ok (.iload_n 2, 1) := by decide +kernel
theorem dX6_nearest_43 : decode cX6_nearest 43 = .ok (.invokevirtual 111, 3) := by decide +kernel
theorem dX6_nearest_46 : decode cX6_nearest 46 = .ok (.iload_n 2, 1) := by decide +kernel
theorem dX6_nearest_47 : decode cX6_nearest 47 = .ok (.if_icmp .ge 6, 3) := by decide +kernel
theorem dX6_nearest_50 : decode cX6_nearest 50 = .ok (.goto 25, 3) := by decide +kernel
theorem dX6_nearest_53 : decode cX6_nearest 53 = .ok (.aload_n 0, 1) := by decide +kernel
theorem dX6_nearest_54 : decode cX6_nearest 54 = .ok (.aload_n 0, 1) := by decide +kernel
theorem dX6_nearest_55 : decode cX6_nearest 55 = .ok (.iload_n 1, 1) := by decide +kernel
theorem dX6_nearest_56 : decode cX6_nearest 56 = .ok (.iload 4, 2) := by decide +kernel
theorem dX6_nearest_58 : decode cX6_nearest 58 = .ok (.iload_n 3, 1) := by decide +kernel
theorem dX6_nearest_59 : decode cX6_nearest 59 = .ok (.invokevirtual 111, 3) := by decide +kernel
theorem dX6_nearest_62 : decode cX6_nearest 62 = .ok (.putfield 102, 3) := by decide +kernel
theorem dX6_nearest_65 : decode cX6_nearest 65 = .ok (.aload_n 0, 1) := by decide +kernel
theorem dX6_nearest_66 : decode cX6_nearest 66 = .ok (.iload_n 1, 1) := by decide +kernel
theorem dX6_nearest_67 : decode cX6_nearest 67 = .ok (.iload 4, 2) := by decide +kernel
theorem dX6_nearest_69 : decode cX6_nearest 69 = .ok (.isub, 1) := by decide +kernel
theorem dX6_nearest_70 : decode cX6_nearest 70 = .ok (.putfield 105, 3) := by decide +kernel
theorem dX6_nearest_73 : decode cX6_nearest 73 = .ok (.iconst 1, 1) := by decide +kernel
theorem dX6_nearest_74 : decode cX6_nearest 74 = .ok (.ireturn, 1) := by decide +kernel
theorem dX6_nearest_75 : decode cX6_nearest 75 = .ok (.iinc 4 (-1), 3) := by decide +kernel
theorem dX6_nearest_78 : decode cX6_nearest 78 = .ok (.goto (-50), 3) := by decide +kernel
theorem dX6_nearest_81 : decode cX6_nearest 81 = .ok (.iconst 0, 1) := by decide +kernel
theorem dX6_nearest_82 : decode cX6_nearest 82 = .ok (.ireturn, 1) := by decide +kernel
theorem dX6_room_0 : decode cX6_room 0 = .ok (.aload_n 0, 1) := by decide +kernel
theorem dX6_room_1 : decode cX6_room 1 = .ok (.invokevirtual 91, 3) := by decide +kernel
theorem dX6_room_4 : decode cX6_room 4 = .ok (.iload_n 1, 1) := by decide +kernel
theorem dX6_room_5 : decode cX6_room 5 = .ok (.isub, 1) := by decide +kernel
theorem dX6_room_6 : decode cX6_room 6 = .ok (.istore_n 2, 1) := by decide +kernel
theorem dX6_room_7 : decode cX6_room 7 = .ok (.iload_n 1, 1) := by decide +kernel
theorem dX6_room_8 : decode cX6_room 8 = .ok (.aload_n 0, 1) := by decide +kernel
theorem dX6_room_9 : decode cX6_room 9 = .ok (.invokevirtual 95, 3) := by decide +kernel
theorem dX6_room_12 : decode cX6_room 12 = .ok (.if_icmp .gt 11, 3) := by decide +kernel
theorem dX6_room_15 : decode cX6_room 15 = .ok (.iload_n 2, 1) := by decide +kernel
theorem dX6_room_16 : decode cX6_room 16 = .ok (.aload_n 0, 1) := by decide +kernel
theorem dX6_room_17 : decode cX6_room 17 = .ok (.getfield 22, 3) := by decide +kernel
theorem dX6_room_20 : decode cX6_room 20 = .ok (.if_icmp .ge 7, 3) := by decide +kernel
theorem dX6_room_23 : decode cX6_room 23 = .ok (.iconst 0, 1) := by decide +kernel
theorem dX6_room_24 : decode cX6_room 24 = .ok (.goto 19, 3) := by decide +kernel
theorem dX6_room_27 : decode cX6_room 27 = .ok (.iload_n 2, 1) := by decide +kernel
theorem dX6_room_28 : decode cX6_room 28 = .ok (.aload_n 0, 1) := by decide +kernel
theorem dX6_room_29 : decode cX6_room 29 = .ok (.getfield 26, 3) := by decide +kernel
theorem dX6_room_32 : decode cX6_room 32 = .ok (.if_icmp .ge 7, 3) := by decide +kernel
theorem dX6_room_35 : decode cX6_room 35 = .ok (.iload_n 2, 1) := by decide +kernel
theorem dX6_room_36 : decode cX6_room 36 = .ok (.goto 7, 3) := by decide +kernel
theorem dX6_room_39 : decode cX6_room 39 = .ok (.aload_n 0, 1) := by decide +kernel
theorem dX6_room_40 : decode cX6_room 40 = .ok (.getfield 26, 3) := by decide +kernel
theorem dX6_room_43 : decode cX6_room 43 = .ok (.ireturn, 1) := by decide +kernel
theorem dX6_end_0 : decode cX6_end 0 = .ok (.aload_n 0, 1) := by decide +kernel
theorem dX6_end_1 : decode cX6_end 1 = .ok (.getfield 57, 3) := by decide +kernel
theorem dX6_end_4 : decode cX6_end 4 = .ok (.aload_n 0, 1) := by decide +kernel
theorem dX6_end_5 : decode cX6_end 5 = .ok (.getfield 88, 3) := by decide +kernel
theorem dX6_end_8 : decode cX6_end 8 = .ok (.if_icmp .ge 7, 3) := by decide +kernel
theorem dX6_end_11 : decode cX6_end 11 = .ok (.iconst 0, 1) := by decide +kernel
theorem dX6_end_12 : decode cX6_end 12 = .ok (.goto 12, 3) := by decide +kernel
theorem dX6_end_15 : decode cX6_end 15 = .ok (.aload_n 0, 1) := by decide +kernel
theorem dX6_end_16 : decode cX6_end 16 = .ok (.getfield 57, 3) := by decide +kernel
theorem dX6_end_19 : decode cX6_end 19 = .ok (.aload_n 0, 1) := by decide +kernel
theorem dX6_end_20 : decode cX6_end 20 = .ok (.getfield 88, 3) := by decide +kernel
theorem dX6_end_23 : decode cX6_end 23 = .ok (.isub, 1) := by decide +kernel
theorem dX6_end_24 : decode cX6_end 24 = .ok (.ireturn, 1) := by decide +kernel
theorem dX6_last_0 : decode cX6_last 0 = .ok (.aload_n 0, 1) := by decide +kernel
theorem dX6_last_1 : decode cX6_last 1 = .ok (.getfield 57, 3) := by decide +kernel
theorem dX6_last_4 : decode cX6_last 4 = .ok (.iconst 1, 1) := by decide +kernel
theorem dX6_last_5 : decode cX6_last 5 = .ok (.isub, 1) := by decide +kernel
theorem dX6_last_6 : decode cX6_last 6 = .ok (.aload_n 0, 1) := by decide +kernel
theorem dX6_last_7 : decode cX6_last 7 = .ok (.getfield 85, 3) := by decide +kernel
theorem dX6_last_10 : decode cX6_last 10 = .ok (.isub, 1) := by decide +kernel
theorem dX6_last_11 : decode cX6_last 11 = .ok (.ireturn, 1) := by decide +kernel
theorem dX6_lowest_0 : decode cX6_lowest 0 = .ok (.iload_n 1, 1) := by decide +kernel
theorem dX6_lowest_1 : decode cX6_lowest 1 = .ok (.aload_n 0, 1) := by decide +kernel
theorem dX6_lowest_2 : decode cX6_lowest 2 = .ok (.getfield 19, 3) := by decide +kernel
theorem dX6_lowest_5 : decode cX6_lowest 5 = .ok (.if_icmp .ge 7, 3) := by decide +kernel
theorem dX6_lowest_8 : decode cX6_lowest 8 = .ok (.iconst 0, 1) := by decide +kernel
theorem dX6_lowest_9 : decode cX6_lowest 9 = .ok (.goto 9, 3) := by decide +kernel
theorem dX6_lowest_12 : decode cX6_lowest 12 = .ok (.iload_n 1, 1) := by decide +kernel
theorem dX6_lowest_13 : decode cX6_lowest 13 = .ok (.aload_n 0, 1) := by decide +kernel
theorem dX6_lowest_14 : decode cX6_lowest 14 = .ok (.getfield 19, 3) := by decide +kernel
theorem dX6_lowest_17 : decode cX6_lowest 17 = .ok (.isub, 1) := by decide +kernel
theorem dX6_lowest_18 : decode cX6_lowest 18 = .ok (.ireturn, 1) := by decide +kernel
theorem dX6_alike_0 : decode cX6_alike 0 = .ok (.iconst 0, 1) := by decide +kernel
theorem dX6_alike_1 : decode cX6_alike 1 = .ok (.istore 4, 2) := by decide +kernel
theorem dX6_alike_3 : decode cX6_alike 3 = .ok (.iload 4, 2) := by decide +kernel
theorem dX6_alike_5 : decode cX6_alike 5 = .ok (.iload_n 3, 1) := by decide +kernel
theorem dX6_alike_6 : decode cX6_alike 6 = .ok (.if_icmp .ge 30, 3) := by decide +kernel
theorem dX6_alike_9 : decode cX6_alike 9 = .ok (.aload_n 0, 1) := by decide +kernel
theorem dX6_alike_10 : decode cX6_alike 10 = .ok (.getfield 8, 3) := by decide +kernel
theorem dX6_alike_13 : decode cX6_alike 13 = .ok (.iload_n 1, 1) := by decide +kernel
theorem dX6_alike_14 : decode cX6_alike 14 = .ok (.iload 4, 2) := by decide +kernel
theorem dX6_alike_16 : decode cX6_alike 16 = .ok (.iadd, 1) := by decide +kernel
theorem dX6_alike_17 : decode cX6_alike 17 = .ok (.baload, 1) := by decide +kernel
theorem dX6_alike_18 : decode cX6_alike 18 = .ok (.aload_n 0, 1) := by decide +kernel
theorem dX6_alike_19 : decode cX6_alike 19 = .ok (.getfield 8, 3) := by decide +kernel
theorem dX6_alike_22 : decode cX6_alike 22 = .ok (.iload_n 2, 1) := by decide +kernel
theorem dX6_alike_23 : decode cX6_alike 23 = .ok (.iload 4, 2) := by decide +kernel
theorem dX6_alike_25 : decode cX6_alike 25 = .ok (.iadd, 1) := by decide +kernel
theorem dX6_alike_26 : decode cX6_alike 26 = .ok (.baload, 1) := by decide +kernel
theorem dX6_alike_27 : decode cX6_alike 27 = .ok (.if_icmp .ne 9, 3) := by decide +kernel
theorem dX6_alike_30 : decode cX6_alike 30 = .ok (.iinc 4 1, 3) := by decide +kernel
theorem dX6_alike_33 : decode cX6_alike 33 = .ok (.goto (-30), 3) := by decide +kernel
theorem dX6_alike_36 : decode cX6_alike 36 = .ok (.iload 4, 2) := by decide +kernel
theorem dX6_alike_38 : decode cX6_alike 38 = .ok (.ireturn, 1) := by decide +kernel
theorem dX6_longest_0 : decode cX6_longest 0 = .ok (.aload_n 0, 1) := by decide +kernel
theorem dX6_longest_1 : decode cX6_longest 1 = .ok (.iload_n 1, 1) := by decide +kernel
theorem dX6_longest_2 : decode cX6_longest 2 = .ok (.invokevirtual 98, 3) := by decide +kernel
theorem dX6_longest_5 : decode cX6_longest 5 = .ok (.istore_n 2, 1) := by decide +kernel
theorem dX6_longest_6 : decode cX6_longest 6 = .ok (.aload_n 0, 1) := by decide +kernel
theorem dX6_longest_7 : decode cX6_longest 7 = .ok (.iconst 0, 1) := by decide +kernel
theorem dX6_longest_8 : decode cX6_longest 8 = .ok (.putfield 102, 3) := by decide +kernel
theorem dX6_longest_11 : decode cX6_longest 11 = .ok (.aload_n 0, 1) := by decide +kernel
theorem dX6_longest_12 : decode cX6_longest 12 = .ok (.iconst 0, 1) := by decide +kernel
theorem dX6_longest_13 : decode cX6_longest 13 = .ok (.putfield 105, 3) := by decide +kernel
theorem dX6_longest_16 : decode cX6_longest 16 = .ok (.iload_n 1, 1) := by decide +kernel
theorem dX6_longest_17 : decode cX6_longest 17 = .ok (.iconst 1, 1) := by decide +kernel
theorem dX6_longest_18 : decode cX6_longest 18 = .ok (.isub, 1) := by decide +kernel
theorem dX6_longest_19 : decode cX6_longest 19 = .ok (.istore_n 3, 1) := by decide +kernel
theorem dX6_longest_20 : decode cX6_longest 20 = .ok (.iload_n 3, 1) := by decide +kernel
theorem dX6_longest_21 : decode cX6_longest 21 = .ok (.aload_n 0, 1) := by decide +kernel
theorem dX6_longest_22 : decode cX6_longest 22 = .ok (.iload_n 1, 1) := by decide +kernel
theorem dX6_longest_23 : decode cX6_longest 23 = .ok (.invokevirtual 108, 3) := by decide +kernel
theorem dX6_longest_26 : decode cX6_longest 26 = .ok (.if_icmp .lt 88, 3) := by decide +kernel
theorem dX6_longest_29 : decode cX6_longest 29 = .ok (.aload_n 0, 1) := by decide +kernel
theorem dX6_longest_30 : decode cX6_longest 30 = .ok (.getfield 102, 3) := by decide +kernel
theorem dX6_longest_33 : decode cX6_longest 33 = .ok (.iload_n 2, 1) := by decide +kernel
theorem dX6_longest_34 : decode cX6_longest 34 = .ok (.if_icmp .ge 80, 3) := by decide +kernel
theorem dX6_longest_37 : decode cX6_longest 37 = .ok (.aload_n 0, 1) := by decide +kernel
theorem dX6_longest_38 : decode cX6_longest 38 = .ok (.getfield 8, 3) := by decide +kernel
theorem dX6_longest_41 : decode cX6_longest 41 = .ok (.iload_n 1, 1) := by decide +kernel
theorem dX6_longest_42 : decode cX6_longest 42 = .ok (.aload_n 0, 1) := by decide +kernel
theorem dX6_longest_43 : decode cX6_longest 43 = .ok (.getfield 102, 3) := by decide +kernel
theorem dX6_longest_46 : decode cX6_longest 46 = .ok (.iadd, 1) := by decide +kernel
theorem dX6_longest_47 : decode cX6_longest 47 = .ok (.baload, 1) := by decide +kernel
theorem dX6_longest_48 : decode cX6_longest 48 = .ok (.aload_n 0, 1) := by decide +kernel
theorem dX6_longest_49 : decode cX6_longest 49 = .ok (.getfield 8, 3) := by decide +kernel
theorem dX6_longest_52 : decode cX6_longest 52 = .ok (.iload_n 3, 1) := by decide +kernel
theorem dX6_longest_53 : decode cX6_longest 53 = .ok (.aload_n 0, 1) := by decide +kernel
theorem dX6_longest_54 : decode cX6_longest 54 = .ok (.getfield 102, 3) := by decide +kernel
theorem dX6_longest_57 : decode cX6_longest 57 = .ok (.iadd, 1) := by decide +kernel
theorem dX6_longest_58 : decode cX6_longest 58 = .ok (.baload, 1) := by decide +kernel
theorem dX6_longest_59 : decode cX6_longest 59 = .ok (.if_icmp .eq 6, 3) := by decide +kernel
theorem dX6_longest_62 : decode cX6_longest 62 = .ok (.goto 46, 3) := by decide +kernel
theorem dX6_longest_65 : decode cX6_longest 65 = .ok (.aload_n 0, 1) := by decide +kernel
theorem dX6_longest_66 : decode cX6_longest 66 = .ok (.iload_n 1, 1) := by decide +kernel
theorem dX6_longest_67 : decode cX6_longest 67 = .ok (.iload_n 3, 1) := by decide +kernel
theorem dX6_longest_68 : decode cX6_longest 68 = .ok (.iload_n 2, 1) := by decide +kernel
theorem dX6_longest_69 : decode cX6_longest 69 = .ok (.invokevirtual 111, 3) := by decide +kernel
theorem dX6_longest_72 : decode cX6_longest 72 = .ok (.istore 4, 2) := by decide +kernel
theorem dX6_longest_74 : decode cX6_longest 74 = .ok (.iload 4, 2) := by decide +kernel
theorem dX6_longest_76 : decode cX6_longest 76 = .ok (.aload_n 0, 1) := by decide +kernel
theorem dX6_longest_77 : decode cX6_longest 77 = .ok (.getfield 22, 3) := by decide +kernel
theorem dX6_longest_80 : decode cX6_longest 80 = .ok (.if_icmp .lt 28, 3) := by decide +kernel
theorem dX6_longest_83 : decode cX6_longest 83 = .ok (.iload 4, 2) := by decide +kernel
theorem dX6_longest_85 : decode cX6_longest 85 = .ok (.aload_n 0, 1) := by decide +kernel
theorem dX6_longest_86 : decode cX6_longest 86 = .ok (.getfield 102, 3) := by decide +kernel
theorem dX6_longest_89 : decode cX6_longest 89 = .ok (.if_icmp .gt 6, 3) := by decide +kernel
theorem dX6_longest_92 : decode cX6_longest 92 = .ok (.goto 16, 3) := by decide +kernel
theorem dX6_longest_95 : decode cX6_longest 95 = .ok (.aload_n 0, 1) := by decide +kernel
theorem dX6_longest_96 : decode cX6_longest 96 = .ok (.iload 4, 2) := by decide +kernel
theorem dX6_longest_98 : decode cX6_longest 98 = .ok (.putfield 102, 3) := by decide +kernel
theorem dX6_longest_101 : decode cX6_longest 101 = .ok (.aload_n 0, 1) := by decide +kernel
theorem dX6_longest_102 : decode cX6_longest 102 = .ok (.iload_n 1, 1) := by decide +kernel
theorem dX6_longest_103 : decode cX6_longest 103 = .ok (.iload_n 3, 1) := by decide +kernel
theorem dX6_longest_104 : decode cX6_longest 104 = .ok (.isub, 1) := by decide +kernel
theorem dX6_longest_105 : decode cX6_longest 105 = .ok (.putfield 105, 3) := by decide +kernel
theorem dX6_longest_108 : decode cX6_longest 108 = .ok (.iinc 3 (-1), 3) := by decide +kernel
theorem dX6_longest_111 : decode cX6_longest 111 = .ok (.goto (-91), 3) := by decide +kernel
theorem dX6_longest_114 : decode cX6_longest 114 = .ok (.aload_n 0, 1) := by decide +kernel
theorem dX6_longest_115 : decode cX6_longest 115 = .ok (.getfield 102, 3) := by decide +kernel
theorem dX6_longest_118 : decode cX6_longest 118 = .ok (.ifCond .le 7, 3) := by decide +kernel
theorem dX6_longest_121 : decode cX6_longest 121 = .ok (.iconst 1, 1) := by decide +kernel
theorem dX6_longest_122 : decode cX6_longest 122 = .ok (.goto 4, 3) := by decide +kernel
theorem dX6_longest_125 : decode cX6_longest 125 = .ok (.iconst 0, 1) := by decide +kernel
theorem dX6_longest_126 : decode cX6_longest 126 = .ok (.ireturn, 1) := by decide +kernel
theorem dX6_count_0 : decode cX6_count 0 = .ok (.iload_n 1, 1) := by decide +kernel
theorem dX6_count_1 : decode cX6_count 1 = .ok (.iconst 0, 1) := by decide +kernel
theorem dX6_count_2 : decode cX6_count 2 = .ok (.aload_n 0, 1) := by decide +kernel
theorem dX6_count_3 : decode cX6_count 3 = .ok (.getfield 57, 3) := by decide +kernel
theorem dX6_count_6 : decode cX6_count 6 = .ok (.iconst 1, 1) := by decide +kernel
theorem dX6_count_7 : decode cX6_count 7 = .ok (.isub, 1) := by decide +kernel
theorem dX6_count_8 : decode cX6_count 8 = .ok (.invokestatic 81, 3) := by decide +kernel
theorem dX6_count_11 : decode cX6_count 11 = .ok (.ifCond .eq 11, 3) := by decide +kernel
theorem dX6_count_14 : decode cX6_count 14 = .ok (.aload_n 0, 1) := by decide +kernel
theorem dX6_count_15 : decode cX6_count 15 = .ok (.iload_n 1, 1) := by decide +kernel
theorem dX6_count_16 : decode cX6_count 16 = .ok (.invokevirtual 98, 3) := by decide +kernel
theorem dX6_count_19 : decode cX6_count 19 = .ok (.ifCond .ne 5, 3) := by decide +kernel
theorem dX6_count_22 : decode cX6_count 22 = .ok (.iconst 0, 1) := by decide +kernel
theorem dX6_count_23 : decode cX6_count 23 = .ok (.ireturn, 1) := by decide +kernel
theorem dX6_count_24 : decode cX6_count 24 = .ok (.iconst 0, 1) := by decide +kernel
theorem dX6_count_25 : decode cX6_count 25 = .ok (.istore_n 2, 1) := by decide +kernel
theorem dX6_count_26 : decode cX6_count 26 = .ok (.iload_n 1, 1) := by decide +kernel
theorem dX6_count_27 : decode cX6_count 27 = .ok (.iconst 1, 1) := by decide +kernel
theorem dX6_count_28 : decode cX6_count 28 = .ok (.isub, 1) := by decide +kernel
theorem dX6_count_29 : decode cX6_count 29 = .ok (.istore_n 3, 1) := by decide +kernel
theorem dX6_count_30 : decode cX6_count 30 = .ok (.iload_n 3, 1) := by decide +kernel
theorem dX6_count_31 : decode cX6_count 31 = .ok (.aload_n 0, 1) := by decide +kernel
theorem dX6_count_32 : decode cX6_count 32 = .ok (.iload_n 1, 1) := by decide +kernel
theorem dX6_count_33 : decode cX6_count 33 = .ok (.invokevirtual 108, 3) := by decide +kernel
theorem dX6_count_36 : decode cX6_count 36 = .ok (.if_icmp .lt 34, 3) := by decide +kernel
theorem dX6_count_39 : decode cX6_count 39 = .ok (.iload_n 2, 1) := by decide +kernel
theorem dX6_count_40 : decode cX6_count 40 = .ok (.aload_n 0, 1) := by decide +kernel
theorem dX6_count_41 : decode cX6_count 41 = .ok (.iload_n 1, 1) := by decide +kernel
theorem dX6_count_42 : decode cX6_count 42 = .ok (.iload_n 3, 1) := by decide +kernel
theorem dX6_count_43 : decode cX6_count 43 = .ok (.aload_n 0, 1) := by decide +kernel
theorem dX6_count_44 : decode cX6_count 44 = .ok (.getfield 22, 3) := by decide +kernel
theorem dX6_count_47 : decode cX6_count 47 = .ok (.invokevirtual 111, 3) := by decide +kernel
theorem dX6_count_50 : decode cX6_count 50 = .ok (.aload_n 0, 1) := by decide +kernel
theorem dX6_count_51 : decode cX6_count 51 = .ok (.getfield 22, 3) := by decide +kernel
theorem dX6_count_54 : decode cX6_count 54 = .ok (.if_icmp .ne 7, 3) := by decide +kernel
theorem dX6_count_57 : decode cX6_count 57 = .ok (.iconst 1, 1) := by decide +kernel
theorem dX6_count_58 : decode cX6_count 58 = .ok (.goto 4, 3) := by decide +kernel
theorem dX6_count_61 : decode cX6_count 61 = .ok (.iconst 0, 1) := by decide +kernel
theorem dX6_count_62 : decode cX6_count 62 = .ok (.iadd, 1) := by decide +kernel
theorem dX6_count_63 : decode cX6_count 63 = .ok (.istore_n 2, 1) := by decide +kernel
theorem dX6_count_64 : decode cX6_count 64 = .ok (.iinc 3 (-1), 3) := by decide +kernel
theorem dX6_count_67 : decode cX6_count 67 = .ok (.goto (-37), 3) := by decide +kernel
theorem dX6_count_70 : decode cX6_count 70 = .ok (.iload_n 2, 1) := by decide +kernel
theorem dX6_count_71 : decode cX6_count 71 = .ok (.ireturn, 1) := by decide +kernel
theorem dX6_go_0 : decode cX6_go 0 = .ok (.aload_n 0, 1) := by decide +kernel
theorem dX6_go_1 : decode cX6_go 1 = .ok (.getfield 14, 3) := by decide +kernel
theorem dX6_go_4 : decode cX6_go 4 = .ok (.iconst 4, 1) := by decide +kernel
theorem dX6_go_5 : decode cX6_go 5 = .ok (.if_icmp .ne 20, 3) := by decide +kernel
theorem dX6_go_8 : decode cX6_go 8 = .ok (.aload_n 0, 1) := by decide +kernel
theorem dX6_go_9 : decode cX6_go 9 = .ok (.getfield 57, 3) := by decide +kernel
theorem dX6_go_12 : decode cX6_go 12 = .ok (.aload_n 0, 1) := by decide +kernel
theorem dX6_go_13 : decode cX6_go 13 = .ok (.getfield 60, 3) := by decide +kernel
theorem dX6_go_16 : decode cX6_go 16 = .ok (.isub, 1) := by decide +kernel
theorem dX6_go_17 : decode cX6_go 17 = .ok (.sipush 8192, 3) := by decide +kernel
theorem dX6_go_20 : decode cX6_go 20 = .ok (.if_icmp .le 5, 3) := by decide +kernel
theorem dX6_go_23 : decode cX6_go 23 = .ok (.iconst (-1), 1) := by decide +kernel
theorem dX6_go_24 : decode cX6_go 24 = .ok (.ireturn, 1) := by decide +kernel
theorem dX6_go_25 : decode cX6_go 25 = .ok (.aload_n 0, 1) := by decide +kernel
theorem dX6_go_26 : decode cX6_go 26 = .ok (.iconst 0, 1) := by decide +kernel
theorem dX6_go_27 : decode cX6_go 27 = .ok (.putfield 63, 3) := by decide +kernel
theorem dX6_go_30 : decode cX6_go 30 = .ok (.aload_n 0, 1) := by decide +kernel
theorem dX6_go_31 : decode cX6_go 31 = .ok (.iconst 0, 1) := by decide +kernel
theorem dX6_go_32 : decode cX6_go 32 = .ok (.putfield 66, 3) := by decide +kernel
theorem dX6_go_35 : decode cX6_go 35 = .ok (.aload_n 0, 1) := by decide +kernel
theorem dX6_go_36 : decode cX6_go 36 = .ok (.iconst 0, 1) := by decide +kernel
theorem dX6_go_37 : decode cX6_go 37 = .ok (.putfield 69, 3) := by decide +kernel
theorem dX6_go_40 : decode cX6_go 40 = .ok (.aload_n 0, 1) := by decide +kernel
theorem dX6_go_41 : decode cX6_go 41 = .ok (.iconst 0, 1) := by decide +kernel
theorem dX6_go_42 : decode cX6_go 42 = .ok (.putfield 72, 3) := by decide +kernel
theorem dX6_go_45 : decode cX6_go 45 = .ok (.aload_n 0, 1) := by decide +kernel
theorem dX6_go_46 : decode cX6_go 46 = .ok (.aload_n 0, 1) := by decide +kernel
theorem dX6_go_47 : decode cX6_go 47 = .ok (.getfield 57, 3) := by decide +kernel
theorem dX6_go_50 : decode cX6_go 50 = .ok (.putfield 75, 3) := by decide +kernel
theorem dX6_go_53 : decode cX6_go 53 = .ok (.aload_n 0, 1) := by decide +kernel
theorem dX6_go_54 : decode cX6_go 54 = .ok (.aload_n 0, 1) := by decide +kernel
theorem dX6_go_55 : decode cX6_go 55 = .ok (.getfield 60, 3) := by decide +kernel
theorem dX6_go_58 : decode cX6_go 58 = .ok (.putfield 78, 3) := by decide +kernel
theorem dX6_go_61 : decode cX6_go 61 = .ok (.aload_n 0, 1) := by decide +kernel
theorem dX6_go_62 : decode cX6_go 62 = .ok (.getfield 14, 3) := by decide +kernel
theorem dX6_go_65 : decode cX6_go 65 = .ok (.iconst 4, 1) := by decide +kernel
theorem dX6_go_66 : decode cX6_go 66 = .ok (.if_icmp .ne 7, 3) := by decide +kernel
theorem dX6_go_69 : decode cX6_go 69 = .ok (.aload_n 0, 1) := by decide +kernel
theorem dX6_go_70 : decode cX6_go 70 = .ok (.invokevirtual 129, 3) := by decide +kernel
theorem dX6_go_73 : decode cX6_go 73 = .ok (.aload_n 0, 1) := by decide +kernel
theorem dX6_go_74 : decode cX6_go 74 = .ok (.getfield 60, 3) := by decide +kernel
theorem dX6_go_77 : decode cX6_go 77 = .ok (.istore_n 1, 1) := by decide +kernel
theorem dX6_go_78 : decode cX6_go 78 = .ok (.iload_n 1, 1) := by decide +kernel
theorem dX6_go_79 : decode cX6_go 79 = .ok (.aload_n 0, 1) := by decide +kernel
theorem dX6_go_80 : decode cX6_go 80 = .ok (.getfield 57, 3) := by decide +kernel
theorem dX6_go_83 : decode cX6_go 83 = .ok (.if_icmp .ge 62, 3) := by decide +kernel
theorem dX6_go_86 : decode cX6_go 86 = .ok (.aload_n 0, 1) := by decide +kernel
theorem dX6_go_87 : decode cX6_go 87 = .ok (.getfield 14, 3) := by decide +kernel
theorem dX6_go_90 : decode cX6_go 90 = .ok (.iconst 4, 1) := by decide +kernel
theorem dX6_go_91 : decode cX6_go 91 = .ok (.if_icmp .ne 11, 3) := by decide +kernel
theorem dX6_go_94 : decode cX6_go 94 = .ok (.aload_n 0, 1) := by decide +kernel
theorem dX6_go_95 : decode cX6_go 95 = .ok (.iload_n 1, 1) := by decide +kernel
theorem dX6_go_96 : decode cX6_go 96 = .ok (.invokevirtual 132, 3) := by decide +kernel
theorem dX6_go_99 : decode cX6_go 99 = .ok (.goto 12, 3) := by decide +kernel
theorem dX6_go_102 : decode cX6_go 102 = .ok (.aload_n 0, 1) := by decide +kernel
theorem dX6_go_103 : decode cX6_go 103 = .ok (.iload_n 1, 1) := by decide +kernel
theorem dX6_go_104 : decode cX6_go 104 = .ok (.aload_n 0, 1) := by decide +kernel
theorem dX6_go_105 : decode cX6_go 105 = .ok (.getfield 14, 3) := by decide +kernel
theorem dX6_go_108 : decode cX6_go 108 = .ok (.invokevirtual 123, 3) := by decide +kernel
theorem dX6_go_111 : decode cX6_go 111 = .ok (.istore_n 2, 1) := by decide +kernel
theorem dX6_go_112 : decode cX6_go 112 = .ok (.iload_n 2, 1) := by decide +kernel
theorem dX6_go_113 : decode cX6_go 113 = .ok (.ifCond .eq 10, 3) := by decide +kernel
theorem dX6_go_116 : decode cX6_go 116 = .ok (.aload_n 0, 1) := by decide +kernel
theorem dX6_go_117 : decode cX6_go 117 = .ok (.invokevirtual 135, 3) := by decide +kernel
theorem dX6_go_120 : decode cX6_go 120 = .ok (.goto 7, 3) := by decide +kernel
theorem dX6_go_123 : decode cX6_go 123 = .ok (.aload_n 0, 1) := by decide +kernel
theorem dX6_go_124 : decode cX6_go 124 = .ok (.invokevirtual 138, 3) := by decide +kernel
theorem dX6_go_127 : decode cX6_go 127 = .ok (.iload_n 1, 1) := by decide +kernel
theorem dX6_go_128 : decode cX6_go 128 = .ok (.iload_n 2, 1) := by decide +kernel
theorem dX6_go_129 : decode cX6_go 129 = .ok (.ifCond .eq 10, 3) := by decide +kernel
theorem dX6_go_132 : decode cX6_go 132 = .ok (.aload_n 0, 1) := by decide +kernel
theorem dX6_go_133 : decode cX6_go 133 = .ok (.getfield 102, 3) := by decide +kernel
theorem dX6_go_136 : decode cX6_go 136 = .ok (.goto 4, 3) := by decide +kernel
theorem dX6_go_139 : decode cX6_go 139 = .ok (.iconst 1, 1) := by decide +kernel
theorem dX6_go_140 : decode cX6_go 140 = .ok (.iadd, 1) := by decide +kernel
theorem dX6_go_141 : decode cX6_go 141 = .ok (.istore_n 1, 1) := by decide +kernel
theorem dX6_go_142 : decode cX6_go 142 = .ok (.goto (-64), 3) := by decide +kernel
theorem dX6_go_145 : decode cX6_go 145 = .ok (.aload_n 0, 1) := by decide +kernel
theorem dX6_go_146 : decode cX6_go 146 = .ok (.getfield 63, 3) := by decide +kernel
theorem dX6_go_149 : decode cX6_go 149 = .ok (.ireturn, 1) := by decide +kernel
theorem dX6_reckon_0 : decode cX6_reckon 0 = .ok (.aload_n 0, 1) := by decide +kernel
theorem dX6_reckon_1 : decode cX6_reckon 1 = .ok (.getfield 48, 3) := by decide +kernel
theorem dX6_reckon_4 : decode cX6_reckon 4 = .ok (.aload_n 0, 1) := by decide +kernel
theorem dX6_reckon_5 : decode cX6_reckon 5 = .ok (.getfield 57, 3) := by decide +kernel
theorem dX6_reckon_8 : decode cX6_reckon 8 = .ok (.aload_n 0, 1) := by decide +kernel
theorem dX6_reckon_9 : decode cX6_reckon 9 = .ok (.getfield 60, 3) := by decide +kernel
theorem dX6_reckon_12 : decode cX6_reckon 12 = .ok (.isub, 1) := by decide +kernel
theorem dX6_reckon_13 : decode cX6_reckon 13 = .ok (.iconst 0, 1) := by decide +kernel
theorem dX6_reckon_14 : decode cX6_reckon 14 = .ok (.iastore, 1) := by decide +kernel
theorem dX6_reckon_15 : decode cX6_reckon 15 = .ok (.aload_n 0, 1) := by decide +kernel
theorem dX6_reckon_16 : decode cX6_reckon 16 = .ok (.getfield 57, 3) := by decide +kernel
theorem dX6_reckon_19 : decode cX6_reckon 19 = .ok (.iconst 1, 1) := by decide +kernel
theorem dX6_reckon_20 : decode cX6_reckon 20 = .ok (.isub, 1) := by decide +kernel
theorem dX6_reckon_21 : decode cX6_reckon 21 = .ok (.istore_n 1, 1) := by decide +kernel
theorem dX6_reckon_22 : decode cX6_reckon 22 = .ok (.iload_n 1, 1) := by decide +kernel
theorem dX6_reckon_23 : decode cX6_reckon 23 = .ok (.aload_n 0, 1) := by decide +kernel
theorem dX6_reckon_24 : decode cX6_reckon 24 = .ok (.getfield 60, 3) := by decide +kernel
theorem dX6_reckon_27 : decode cX6_reckon 27 = .ok (.if_icmp .lt 171, 3) := by decide +kernel
theorem dX6_reckon_30 : decode cX6_reckon 30 = .ok (.iload_n 1, 1) := by decide +kernel
theorem dX6_reckon_31 : decode cX6_reckon 31 = .ok (.aload_n 0, 1) := by decide +kernel
theorem dX6_reckon_32 : decode cX6_reckon 32 = .ok (.getfield 60, 3) := by decide +kernel
theorem dX6_reckon_35 : decode cX6_reckon 35 = .ok (.isub, 1) := by decide +kernel
theorem dX6_reckon_36 : decode cX6_reckon 36 = .ok (.istore_n 2, 1) := by decide +kernel
theorem dX6_reckon_37 : decode cX6_reckon 37 = .ok (.aload_n 0, 1) := by decide +kernel
theorem dX6_reckon_38 : decode cX6_reckon 38 = .ok (.getfield 48, 3) := by decide +kernel
theorem dX6_reckon_41 : decode cX6_reckon 41 = .ok (.iload_n 2, 1) := by decide +kernel
theorem dX6_reckon_42 : decode cX6_reckon 42 = .ok (.aload_n 0, 1) := by decide +kernel
theorem dX6_reckon_43 : decode cX6_reckon 43 = .ok (.getfield 29, 3) := by decide +kernel
theorem dX6_reckon_46 : decode cX6_reckon 46 = .ok (.aload_n 0, 1) := by decide +kernel
theorem dX6_reckon_47 : decode cX6_reckon 47 = .ok (.getfield 48, 3) := by decide +kernel
theorem dX6_reckon_50 : decode cX6_reckon 50 = .ok (.iload_n 2, 1) := by decide +kernel
theorem dX6_reckon_51 : decode cX6_reckon 51 = .ok (.iconst 1, 1) := by decide +kernel
theorem dX6_reckon_52 : decode cX6_reckon 52 = .ok (.iadd, 1) := by decide +kernel
theorem dX6_reckon_53 : decode cX6_reckon 53 = .ok (.iaload, 1) := by decide +kernel
theorem dX6_reckon_54 : decode cX6_reckon 54 = .ok (.iadd, 1) := by decide +kernel
theorem dX6_reckon_55 : decode cX6_reckon 55 = .ok (.iastore, 1) := by decide +kernel
theorem dX6_reckon_56 : decode cX6_reckon 56 = .ok (.aload_n 0, 1) := by decide +kernel
theorem dX6_reckon_57 : decode cX6_reckon 57 = .ok (.getfield 51, 3) := by decide +kernel
theorem dX6_reckon_60 : decode cX6_reckon 60 = .ok (.iload_n 2, 1) := by decide +kernel
theorem dX6_reckon_61 : decode cX6_reckon 61 = .ok (.iconst 0, 1) := by decide +kernel
theorem dX6_reckon_62 : decode cX6_reckon 62 = .ok (.iastore, 1) := by decide +kernel
theorem dX6_reckon_63 : decode cX6_reckon 63 = .ok (.aload_n 0, 1) := by decide +kernel
theorem dX6_reckon_64 : decode cX6_reckon 64 = .ok (.getfield 54, 3) := by decide +kernel
theorem dX6_reckon_67 : decode cX6_reckon 67 = .ok (.iload_n 2, 1) := by decide +kernel
theorem dX6_reckon_68 : decode cX6_reckon 68 = .ok (.iconst 0, 1) := by decide +kernel
theorem dX6_reckon_69 : decode cX6_reckon 69 = .ok (.iastore, 1) := by decide +kernel
theorem dX6_reckon_70 : decode cX6_reckon 70 = .ok (.aload_n 0, 1) := by decide +kernel
theorem dX6_reckon_71 : decode cX6_reckon 71 = .ok (.iload_n 1, 1) := by decide +kernel
theorem dX6_reckon_72 : decode cX6_reckon 72 = .ok (.invokevirtual 98, 3) := by decide +kernel
theorem dX6_reckon_75 : decode cX6_reckon 75 = .ok (.istore_n 3, 1) := by decide +kernel
theorem dX6_reckon_76 : decode cX6_reckon 76 = .ok (.aload_n 0, 1) := by decide +kernel
theorem dX6_reckon_77 : decode cX6_reckon 77 = .ok (.getfield 22, 3) := by decide +kernel
theorem dX6_reckon_80 : decode cX6_reckon 80 = .ok (.iconst 1, 1) := by decide +kernel
theorem dX6_reckon_81 : decode cX6_reckon 81 = .ok (.isub, 1) := by decide +kernel
theorem dX6_reckon_82 : decode cX6_reckon 82 = .ok (.istore 4, 2) := by decide +kernel
theorem dX6_reckon_84 : decode cX6_reckon 84 = .ok (.iload_n 1, 1) := by decide +kernel
theorem dX6_reckon_85 : decode cX6_reckon 85 = .ok (.iconst 1, 1) := by decide +kernel
theorem dX6_reckon_86 : decode cX6_reckon 86 = .ok (.isub, 1) := by decide +kernel
theorem dX6_reckon_87 : decode cX6_reckon 87 = .ok (.istore 5, 2) := by decide +kernel
theorem dX6_reckon_89 : decode cX6_reckon 89 = .ok (.iload 5, 2) := by decide +kernel
theorem dX6_reckon_91 : decode cX6_reckon 91 = .ok (.aload_n 0, 1) := by decide +kernel
theorem dX6_reckon_92 : decode cX6_reckon 92 = .ok (.iload_n 1, 1) := by decide +kernel
theorem dX6_reckon_93 : decode cX6_reckon 93 = .ok (.invokevirtual 108, 3) := by decide +kernel
theorem dX6_reckon_96 : decode cX6_reckon 96 = .ok (.if_icmp .lt 96, 3) := by decide +kernel
theorem dX6_reckon_99 : decode cX6_reckon 99 = .ok (.iload 4, 2) := by decide +kernel
theorem dX6_reckon_101 : decode cX6_reckon 101 = .ok (.iload_n 3, 1) := by decide +kernel
theorem dX6_reckon_102 : decode cX6_reckon 102 = .ok (.if_icmp .ge 90, 3) := by decide +kernel
theorem dX6_reckon_105 : decode cX6_reckon 105 = .ok (.aload_n 0, 1) := by decide +kernel
theorem dX6_reckon_106 : decode cX6_reckon 106 = .ok (.getfield 8, 3) := by decide +kernel
theorem dX6_reckon_109 : decode cX6_reckon 109 = .ok (.iload_n 1, 1) := by decide +kernel
theorem dX6_reckon_110 : decode cX6_reckon 110 = .ok (.iload 4, 2) := by decide +kernel
theorem dX6_reckon_112 : decode cX6_reckon 112 = .ok (.iadd, 1) := by decide +kernel
theorem dX6_reckon_113 : decode cX6_reckon 113 = .ok (.baload, 1) := by decide +kernel
theorem dX6_reckon_114 : decode cX6_reckon 114 = .ok (.aload_n 0, 1) := by decide +kernel
theorem dX6_reckon_115 : decode cX6_reckon 115 = .ok (.getfield 8, 3) := by decide +kernel
theorem dX6_reckon_118 : decode cX6_reckon 118 = .ok (.iload 5, 2) := by decide +kernel
theorem dX6_reckon_120 : decode cX6_reckon 120 = .ok (.iload 4, 2) := by decide +kernel
theorem dX6_reckon_122 : decode cX6_reckon 122 = .ok (.iadd, 1) := by decide +kernel
theorem dX6_reckon_123 : decode cX6_reckon 123 = .ok (.baload, 1) := by decide +kernel
theorem dX6_reckon_124 : decode cX6_reckon 124 = .ok (.if_icmp .eq 6, 3) := by decide +kernel
theorem dX6_reckon_127 : decode cX6_reckon 127 = .ok (.goto 59, 3) := by decide +kernel
theorem dX6_reckon_130 : decode cX6_reckon 130 = .ok (.aload_n 0, 1) := by decide +kernel
theorem dX6_reckon_131 : decode cX6_reckon 131 = .ok (.iload_n 1, 1) := by decide +kernel
theorem dX6_reckon_132 : decode cX6_reckon 132 = .ok (.iload 5, 2) := by decide +kernel
theorem dX6_reckon_134 : decode cX6_reckon 134 = .ok (.iload_n 3, 1) := by decide +kernel
theorem dX6_reckon_135 : decode cX6_reckon 135 = .ok (.invokevirtual 111, 3) := by decide +kernel
theorem dX6_reckon_138 : decode cX6_reckon 138 = .ok (.istore 6, 2) := by decide +kernel
theorem dX6_reckon_140 : decode cX6_reckon 140 = .ok (.iload 4, 2) := by decide +kernel
theorem dX6_reckon_142 : decode cX6_reckon 142 = .ok (.iconst 1, 1) := by decide +kernel
theorem dX6_reckon_143 : decode cX6_reckon 143 = .ok (.iadd, 1) := by decide +kernel
theorem dX6_reckon_144 : decode cX6_reckon 144 = .ok (.istore 7, 2) := by decide +kernel
theorem dX6_reckon_146 : decode cX6_reckon 146 = .ok (.iload 7, 2) := by decide +kernel
theorem dX6_reckon_148 : decode cX6_reckon 148 = .ok (.iload 6, 2) := by decide +kernel
theorem dX6_reckon_150 : decode cX6_reckon 150 = .ok (.if_icmp .gt 20, 3) := by decide +kernel
theorem dX6_reckon_153 : decode cX6_reckon 153 = .ok (.aload_n 0, 1) := by decide +kernel
theorem dX6_reckon_154 : decode cX6_reckon 154 = .ok (.iload_n 2, 1) := by decide +kernel
theorem dX6_reckon_155 : decode cX6_reckon 155 = .ok (.iload 7, 2) := by decide +kernel
theorem dX6_reckon_157 : decode cX6_reckon 157 = .ok (.iload_n 1, 1) := by decide +kernel
theorem dX6_reckon_158 : decode cX6_reckon 158 = .ok (.iload 5, 2) := by decide +kernel
theorem dX6_reckon_160 : decode cX6_reckon 160 = .ok (.isub, 1) := by decide +kernel
theorem dX6_reckon_161 : decode cX6_reckon 161 = .ok (.invokevirtual 141, 3) := by decide +kernel
theorem dX6_reckon_164 : decode cX6_reckon 164 = .ok (.iinc 7 1, 3) := by decide +kernel
theorem dX6_reckon_167 : decode cX6_reckon 167 = .ok (.goto (-21), 3) := by decide +kernel
theorem dX6_reckon_170 : decode cX6_reckon 170 = .ok (.iload 6, 2) := by decide +kernel
theorem dX6_reckon_172 : decode cX6_reckon 172 = .ok (.iload 4, 2) := by decide +kernel
theorem dX6_reckon_174 : decode cX6_reckon 174 = .ok (.if_icmp .le 8, 3) := by decide +kernel
theorem dX6_reckon_177 : decode cX6_reckon 177 = .ok (.iload 6, 2) := by decide +kernel
theorem dX6_reckon_179 : decode cX6_reckon 179 = .ok (.goto 5, 3) := by decide +kernel
theorem dX6_reckon_182 : decode cX6_reckon 182 = .ok (.iload 4, 2) := by decide +kernel
theorem dX6_reckon_184 : decode cX6_reckon 184 = .ok (.istore 4, 2) := by decide +kernel
theorem dX6_reckon_186 : decode cX6_reckon 186 = .ok (.iinc 5 (-1), 3) := by decide +kernel
theorem dX6_reckon_189 : decode cX6_reckon 189 = .ok (.goto (-100), 3) := by decide +kernel
theorem dX6_reckon_192 : decode cX6_reckon 192 = .ok (.iinc 1 (-1), 3) := by decide +kernel
theorem dX6_reckon_195 : decode cX6_reckon 195 = .ok (.goto (-173), 3) := by decide +kernel
theorem dX6_reckon_198 : decode cX6_reckon 198 = .ok (.return_, 1) := by decide +kernel
theorem dX6_better_0 : decode cX6_better 0 = .ok (.aload_n 0, 1) := by decide +kernel
theorem dX6_better_1 : decode cX6_better 1 = .ok (.getfield 32, 3) := by decide +kernel
theorem dX6_better_4 : decode cX6_better 4 = .ok (.iload_n 3, 1) := by decide +kernel
theorem dX6_better_5 : decode cX6_better 5 = .ok (.invokestatic 126, 3) := by decide +kernel
theorem dX6_better_8 : decode cX6_better 8 = .ok (.iadd, 1) := by decide +kernel
theorem dX6_better_9 : decode cX6_better 9 = .ok (.aload_n 0, 1) := by decide +kernel
theorem dX6_better_10 : decode cX6_better 10 = .ok (.getfield 48, 3) := by decide +kernel
theorem dX6_better_13 : decode cX6_better 13 = .ok (.iload_n 1, 1) := by decide +kernel
theorem dX6_better_14 : decode cX6_better 14 = .ok (.iload_n 2, 1) := by decide +kernel
theorem dX6_better_15 : decode cX6_better 15 = .ok (.iadd, 1) := by decide +kernel
theorem dX6_better_16 : decode cX6_better 16 = .ok (.iaload, 1) := by decide +kernel
theorem dX6_better_17 : decode cX6_better 17 = .ok (.iadd, 1) := by decide +kernel
theorem dX6_better_18 : decode cX6_better 18 = .ok (.istore 4, 2) := by decide +kernel
theorem dX6_better_20 : decode cX6_better 20 = .ok (.iload 4, 2) := by decide +kernel
theorem dX6_better_22 : decode cX6_better 22 = .ok (.aload_n 0, 1) := by decide +kernel
theorem dX6_better_23 : decode cX6_better 23 = .ok (.getfield 48, 3) := by decide +kernel
theorem dX6_better_26 : decode cX6_better 26 = .ok (.iload_n 1, 1) := by decide +kernel
theorem dX6_better_27 : decode cX6_better 27 = .ok (.iaload, 1) := by decide +kernel
theorem dX6_better_28 : decode cX6_better 28 = .ok (.if_icmp .ne 7, 3) := by decide +kernel
theorem dX6_better_31 : decode cX6_better 31 = .ok (.iconst 1, 1) := by decide +kernel
theorem dX6_better_32 : decode cX6_better 32 = .ok (.goto 4, 3) := by decide +kernel
theorem dX6_better_35 : decode cX6_better 35 = .ok (.iconst 0, 1) := by decide +kernel
theorem dX6_better_36 : decode cX6_better 36 = .ok (.istore 5, 2) := by decide +kernel
theorem dX6_better_38 : decode cX6_better 38 = .ok (.iload 4, 2) := by decide +kernel
theorem dX6_better_40 : decode cX6_better 40 = .ok (.aload_n 0, 1) := by decide +kernel
theorem dX6_better_41 : decode cX6_better 41 = .ok (.getfield 48, 3) := by decide +kernel
theorem dX6_better_44 : decode cX6_better 44 = .ok (.iload_n 1, 1) := by decide +kernel
theorem dX6_better_45 : decode cX6_better 45 = .ok (.iaload, 1) := by decide +kernel
theorem dX6_better_46 : decode cX6_better 46 = .ok (.if_icmp .lt 18, 3) := by decide +kernel
theorem dX6_better_49 : decode cX6_better 49 = .ok (.iload 5, 2) := by decide +kernel
theorem dX6_better_51 : decode cX6_better 51 = .ok (.ifCond .eq 17, 3) := by decide +kernel
theorem dX6_better_54 : decode cX6_better 54 = .ok (.iload_n 2, 1) := by decide +kernel
theorem dX6_better_55 : decode cX6_better 55 = .ok (.aload_n 0, 1) := by decide +kernel
theorem dX6_better_56 : decode cX6_better 56 = .ok (.getfield 51, 3) := by decide +kernel
theorem dX6_better_59 : decode cX6_better 59 = .ok (.iload_n 1, 1) := by decide +kernel
theorem dX6_better_60 : decode cX6_better 60 = .ok (.iaload, 1) := by decide +kernel
theorem dX6_better_61 : decode cX6_better 61 = .ok (.if_icmp .le 7, 3) := by decide +kernel
theorem dX6_better_64 : decode cX6_better 64 = .ok (.iconst 1, 1) := by decide +kernel
theorem dX6_better_65 : decode cX6_better 65 = .ok (.goto 4, 3) := by decide +kernel
theorem dX6_better_68 : decode cX6_better 68 = .ok (.iconst 0, 1) := by decide +kernel
theorem dX6_better_69 : decode cX6_better 69 = .ok (.istore 6, 2) := by decide +kernel
theorem dX6_better_71 : decode cX6_better 71 = .ok (.iload 6, 2) := by decide +kernel
theorem dX6_better_73 : decode cX6_better 73 = .ok (.ifCond .ne 4, 3) := by decide +kernel
theorem dX6_better_76 : decode cX6_better 76 = .ok (.return_, 1) := by decide +kernel
theorem dX6_better_77 : decode cX6_better 77 = .ok (.aload_n 0, 1) := by decide +kernel
theorem dX6_better_78 : decode cX6_better 78 = .ok (.getfield 48, 3) := by decide +kernel
theorem dX6_better_81 : decode cX6_better 81 = .ok (.iload_n 1, 1) := by decide +kernel
theorem dX6_better_82 : decode cX6_better 82 = .ok (.iload 4, 2) := by decide +kernel
theorem dX6_better_84 : decode cX6_better 84 = .ok (.iastore, 1) := by decide +kernel
theorem dX6_better_85 : decode cX6_better 85 = .ok (.aload_n 0, 1) := by decide +kernel
theorem dX6_better_86 : decode cX6_better 86 = .ok (.getfield 51, 3) := by decide +kernel
theorem dX6_better_89 : decode cX6_better 89 = .ok (.iload_n 1, 1) := by decide +kernel
theorem dX6_better_90 : decode cX6_better 90 = .ok (.iload_n 2, 1) := by decide +kernel
theorem dX6_better_91 : decode cX6_better 91 = .ok (.iastore, 1) := by decide +kernel
theorem dX6_better_92 : decode cX6_better 92 = .ok (.aload_n 0, 1) := by decide +kernel
theorem dX6_better_93 : decode cX6_better 93 = .ok (.getfield 54, 3) := by decide +kernel
theorem dX6_better_96 : decode cX6_better 96 = .ok (.iload_n 1, 1) := by decide +kernel
theorem dX6_better_97 : decode cX6_better 97 = .ok (.iload_n 3, 1) := by decide +kernel
theorem dX6_better_98 : decode cX6_better 98 = .ok (.iastore, 1) := by decide +kernel
theorem dX6_better_99 : decode cX6_better 99 = .ok (.return_, 1) := by decide +kernel
theorem dX6_bits_0 : decode cX6_bits 0 = .ok (.iconst 0, 1) := by decide +kernel
theorem dX6_bits_1 : decode cX6_bits 1 = .ok (.istore_n 1, 1) := by decide +kernel
theorem dX6_bits_2 : decode cX6_bits 2 = .ok (.iload_n 0, 1) := by decide +kernel
theorem dX6_bits_3 : decode cX6_bits 3 = .ok (.istore_n 2, 1) := by decide +kernel
theorem dX6_bits_4 : decode cX6_bits 4 = .ok (.iload_n 2, 1) := by decide +kernel
theorem dX6_bits_5 : decode cX6_bits 5 = .ok (.ifCond .le 13, 3) := by decide +kernel
theorem dX6_bits_8 : decode cX6_bits 8 = .ok (.iinc 1 1, 3) := by decide +kernel
theorem dX6_bits_11 : decode cX6_bits 11 = .ok (.iload_n 2, 1) := by decide +kernel
theorem dX6_bits_12 : decode cX6_bits 12 = .ok (.iconst 2, 1) := by decide +kernel
theorem dX6_bits_13 : decode cX6_bits 13 = .ok (.idiv, 1) := by decide +kernel
theorem dX6_bits_14 : decode cX6_bits 14 = .ok (.istore_n 2, 1) := by decide +kernel
theorem dX6_bits_15 : decode cX6_bits 15 = .ok (.goto (-11), 3) := by decide +kernel
theorem dX6_bits_18 : decode cX6_bits 18 = .ok (.iload_n 1, 1) := by decide +kernel
theorem dX6_bits_19 : decode cX6_bits 19 = .ok (.ireturn, 1) := by decide +kernel
theorem dX6_reckoned_0 : decode cX6_reckoned 0 = .ok (.aload_n 0, 1) := by decide +kernel
theorem dX6_reckoned_1 : decode cX6_reckoned 1 = .ok (.aload_n 0, 1) := by decide +kernel
theorem dX6_reckoned_2 : decode cX6_reckoned 2 = .ok (.getfield 51, 3) := by decide +kernel
theorem dX6_reckoned_5 : decode cX6_reckoned 5 = .ok (.iload_n 1, 1) := by decide +kernel
theorem dX6_reckoned_6 : decode cX6_reckoned 6 = .ok (.aload_n 0, 1) := by decide +kernel
theorem dX6_reckoned_7 : decode cX6_reckoned 7 = .ok (.getfield 60, 3) := by decide +kernel
theorem dX6_reckoned_10 : decode cX6_reckoned 10 = .ok (.isub, 1) := by decide +kernel
theorem dX6_reckoned_11 : decode cX6_reckoned 11 = .ok (.iaload, 1) := by decide +kernel
theorem dX6_reckoned_12 : decode cX6_reckoned 12 = .ok (.putfield 102, 3) := by decide +kernel
theorem dX6_reckoned_15 : decode cX6_reckoned 15 = .ok (.aload_n 0, 1) := by decide +kernel
theorem dX6_reckoned_16 : decode cX6_reckoned 16 = .ok (.aload_n 0, 1) := by decide +kernel
theorem dX6_reckoned_17 : decode cX6_reckoned 17 = .ok (.getfield 54, 3) := by decide +kernel
theorem dX6_reckoned_20 : decode cX6_reckoned 20 = .ok (.iload_n 1, 1) := by decide +kernel
theorem dX6_reckoned_21 : decode cX6_reckoned 21 = .ok (.aload_n 0, 1) := by decide +kernel
theorem dX6_reckoned_22 : decode cX6_reckoned 22 = .ok (.getfield 60, 3) := by decide +kernel
theorem dX6_reckoned_25 : decode cX6_reckoned 25 = .ok (.isub, 1) := by decide +kernel
theorem dX6_reckoned_26 : decode cX6_reckoned 26 = .ok (.iaload, 1) := by decide +kernel
theorem dX6_reckoned_27 : decode cX6_reckoned 27 = .ok (.putfield 105, 3) := by decide +kernel
theorem dX6_reckoned_30 : decode cX6_reckoned 30 = .ok (.aload_n 0, 1) := by decide +kernel
theorem dX6_reckoned_31 : decode cX6_reckoned 31 = .ok (.getfield 102, 3) := by decide +kernel
theorem dX6_reckoned_34 : decode cX6_reckoned 34 = .ok (.ifCond .le 7, 3) := by decide +kernel
theorem dX6_reckoned_37 : decode cX6_reckoned 37 = .ok (.iconst 1, 1) := by decide +kernel
theorem dX6_reckoned_38 : decode cX6_reckoned 38 = .ok (.goto 4, 3) := by decide +kernel
theorem dX6_reckoned_41 : decode cX6_reckoned 41 = .ok (.iconst 0, 1) := by decide +kernel
theorem dX6_reckoned_42 : decode cX6_reckoned 42 = .ok (.ireturn, 1) := by decide +kernel
theorem dX6_match_0 : decode cX6_match 0 = .ok (.aload_n 0, 1) := by decide +kernel
theorem dX6_match_1 : decode cX6_match 1 = .ok (.getfield 35, 3) := by decide +kernel
theorem dX6_match_4 : decode cX6_match 4 = .ok (.aload_n 0, 1) := by decide +kernel
theorem dX6_match_5 : decode cX6_match 5 = .ok (.getfield 63, 3) := by decide +kernel
theorem dX6_match_8 : decode cX6_match 8 = .ok (.aload_n 0, 1) := by decide +kernel
theorem dX6_match_9 : decode cX6_match 9 = .ok (.getfield 66, 3) := by decide +kernel
theorem dX6_match_12 : decode cX6_match 12 = .ok (.iastore, 1) := by decide +kernel
theorem dX6_match_13 : decode cX6_match 13 = .ok (.aload_n 0, 1) := by decide +kernel
theorem dX6_match_14 : decode cX6_match 14 = .ok (.getfield 39, 3) := by decide +kernel
theorem dX6_match_17 : decode cX6_match 17 = .ok (.aload_n 0, 1) := by decide +kernel
theorem dX6_match_18 : decode cX6_match 18 = .ok (.getfield 63, 3) := by decide +kernel
theorem dX6_match_21 : decode cX6_match 21 = .ok (.aload_n 0, 1) := by decide +kernel
theorem dX6_match_22 : decode cX6_match 22 = .ok (.getfield 102, 3) := by decide +kernel
theorem dX6_match_25 : decode cX6_match 25 = .ok (.iastore, 1) := by decide +kernel
theorem dX6_match_26 : decode cX6_match 26 = .ok (.aload_n 0, 1) := by decide +kernel
theorem dX6_match_27 : decode cX6_match 27 = .ok (.getfield 42, 3) := by decide +kernel
theorem dX6_match_30 : decode cX6_match 30 = .ok (.aload_n 0, 1) := by decide +kernel
theorem dX6_match_31 : decode cX6_match 31 = .ok (.getfield 63, 3) := by decide +kernel
theorem dX6_match_34 : decode cX6_match 34 = .ok (.aload_n 0, 1) := by decide +kernel
theorem dX6_match_35 : decode cX6_match 35 = .ok (.getfield 105, 3) := by decide +kernel
theorem dX6_match_38 : decode cX6_match 38 = .ok (.iastore, 1) := by decide +kernel
theorem dX6_match_39 : decode cX6_match 39 = .ok (.aload_n 0, 1) := by decide +kernel
theorem dX6_match_40 : decode cX6_match 40 = .ok (.dup, 1) := by decide +kernel
theorem dX6_match_41 : decode cX6_match 41 = .ok (.getfield 69, 3) := by decide +kernel
theorem dX6_match_44 : decode cX6_match 44 = .ok (.aload_n 0, 1) := by decide +kernel
theorem dX6_match_45 : decode cX6_match 45 = .ok (.getfield 32, 3) := by decide +kernel
theorem dX6_match_48 : decode cX6_match 48 = .ok (.aload_n 0, 1) := by decide +kernel
theorem dX6_match_49 : decode cX6_match 49 = .ok (.getfield 105, 3) := by decide +kernel
theorem dX6_match_52 : decode cX6_match 52 = .ok (.invokestatic 126, 3) := by decide +kernel
theorem dX6_match_55 : decode cX6_match 55 = .ok (.iadd, 1) := by decide +kernel
theorem dX6_match_56 : decode cX6_match 56 = .ok (.iadd, 1) := by decide +kernel
theorem dX6_match_57 : decode cX6_match 57 = .ok (.putfield 69, 3) := by decide +kernel
theorem dX6_match_60 : decode cX6_match 60 = .ok (.aload_n 0, 1) := by decide +kernel
theorem dX6_match_61 : decode cX6_match 61 = .ok (.iconst 0, 1) := by decide +kernel
theorem dX6_match_62 : decode cX6_match 62 = .ok (.putfield 66, 3) := by decide +kernel
theorem dX6_match_65 : decode cX6_match 65 = .ok (.aload_n 0, 1) := by decide +kernel
theorem dX6_match_66 : decode cX6_match 66 = .ok (.dup, 1) := by decide +kernel
theorem dX6_match_67 : decode cX6_match 67 = .ok (.getfield 63, 3) := by decide +kernel
theorem dX6_match_70 : decode cX6_match 70 = .ok (.iconst 1, 1) := by decide +kernel
theorem dX6_match_71 : decode cX6_match 71 = .ok (.iadd, 1) := by decide +kernel
theorem dX6_match_72 : decode cX6_match 72 = .ok (.putfield 63, 3) := by decide +kernel
theorem dX6_match_75 : decode cX6_match 75 = .ok (.return_, 1) := by decide +kernel
theorem dX6_literal_0 : decode cX6_literal 0 = .ok (.aload_n 0, 1) := by decide +kernel
theorem dX6_literal_1 : decode cX6_literal 1 = .ok (.dup, 1) := by decide +kernel
theorem dX6_literal_2 : decode cX6_literal 2 = .ok (.getfield 66, 3) := by decide +kernel
theorem dX6_literal_5 : decode cX6_literal 5 = .ok (.iconst 1, 1) := by decide +kernel
theorem dX6_literal_6 : decode cX6_literal 6 = .ok (.iadd, 1) := by decide +kernel
theorem dX6_literal_7 : decode cX6_literal 7 = .ok (.putfield 66, 3) := by decide +kernel
theorem dX6_literal_10 : decode cX6_literal 10 = .ok (.aload_n 0, 1) := by decide +kernel
theorem dX6_literal_11 : decode cX6_literal 11 = .ok (.dup, 1) := by decide +kernel
theorem dX6_literal_12 : decode cX6_literal 12 = .ok (.getfield 72, 3) := by decide +kernel
theorem dX6_literal_15 : decode cX6_literal 15 = .ok (.iconst 1, 1) := by decide +kernel
theorem dX6_literal_16 : decode cX6_literal 16 = .ok (.iadd, 1) := by decide +kernel
theorem dX6_literal_17 : decode cX6_literal 17 = .ok (.putfield 72, 3) := by decide +kernel
theorem dX6_literal_20 : decode cX6_literal 20 = .ok (.aload_n 0, 1) := by decide +kernel
theorem dX6_literal_21 : decode cX6_literal 21 = .ok (.dup, 1) := by decide +kernel
theorem dX6_literal_22 : decode cX6_literal 22 = .ok (.getfield 69, 3) := by decide +kernel
theorem dX6_literal_25 : decode cX6_literal 25 = .ok (.aload_n 0, 1) := by decide +kernel
theorem dX6_literal_26 : decode cX6_literal 26 = .ok (.getfield 29, 3) := by decide +kernel
theorem dX6_literal_29 : decode cX6_literal 29 = .ok (.iadd, 1) := by decide +kernel
theorem dX6_literal_30 : decode cX6_literal 30 = .ok (.putfield 69, 3) := by decide +kernel
theorem dX6_literal_33 : decode cX6_literal 33 = .ok (.return_, 1) := by decide +kernel
theorem dX6_stretch_0 : decode cX6_stretch 0 = .ok (.iload_n 1, 1) := by decide +kernel
theorem dX6_stretch_1 : decode cX6_stretch 1 = .ok (.iconst 0, 1) := by decide +kernel
theorem dX6_stretch_2 : decode cX6_stretch 2 = .ok (.aload_n 0, 1) := by decide +kernel
theorem dX6_stretch_3 : decode cX6_stretch 3 = .ok (.getfield 63, 3) := by decide +kernel
theorem dX6_stretch_6 : decode cX6_stretch 6 = .ok (.iconst 1, 1) := by decide +kernel
theorem dX6_stretch_7 : decode cX6_stretch 7 = .ok (.isub, 1) := by decide +kernel
theorem dX6_stretch_8 : decode cX6_stretch 8 = .ok (.invokestatic 81, 3) := by decide +kernel
theorem dX6_stretch_11 : decode cX6_stretch 11 = .ok (.ifCond .eq 12, 3) := by decide +kernel
theorem dX6_stretch_14 : decode cX6_stretch 14 = .ok (.iload_n 2, 1) := by decide +kernel
theorem dX6_stretch_15 : decode cX6_stretch 15 = .ok (.iconst 0, 1) := by decide +kernel
theorem dX6_stretch_16 : decode cX6_stretch 16 = .ok (.iconst 2, 1) := by decide +kernel
theorem dX6_stretch_17 : decode cX6_stretch 17 = .ok (.invokestatic 81, 3) := by decide +kernel
theorem dX6_stretch_20 : decode cX6_stretch 20 = .ok (.ifCond .ne 5, 3) := by decide +kernel
theorem dX6_stretch_23 : decode cX6_stretch 23 = .ok (.iconst (-1), 1) := by decide +kernel
theorem dX6_stretch_24 : decode cX6_stretch 24 = .ok (.ireturn, 1) := by decide +kernel
theorem dX6_stretch_25 : decode cX6_stretch 25 = .ok (.iload_n 2, 1) := by decide +kernel
theorem dX6_stretch_26 : decode cX6_stretch 26 = .ok (.ifCond .ne 12, 3) := by decide +kernel
theorem dX6_stretch_29 : decode cX6_stretch 29 = .ok (.aload_n 0, 1) := by decide +kernel
theorem dX6_stretch_30 : decode cX6_stretch 30 = .ok (.getfield 35, 3) := by decide +kernel
theorem dX6_stretch_33 : decode cX6_stretch 33 = .ok (.iload_n 1, 1) := by decide +kernel
theorem dX6_stretch_34 : decode cX6_stretch 34 = .ok (.iaload, 1) := by decide +kernel
theorem dX6_stretch_35 : decode cX6_stretch 35 = .ok (.goto 23, 3) := by decide +kernel
theorem dX6_stretch_38 : decode cX6_stretch 38 = .ok (.iload_n 2, 1) := by decide +kernel
theorem dX6_stretch_39 : decode cX6_stretch 39 = .ok (.iconst 1, 1) := by decide +kernel
theorem dX6_stretch_40 : decode cX6_stretch 40 = .ok (.if_icmp .ne 12, 3) := by decide +kernel
theorem dX6_stretch_43 : decode cX6_stretch 43 = .ok (.aload_n 0, 1) := by decide +kernel
theorem dX6_stretch_44 : decode cX6_stretch 44 = .ok (.getfield 39, 3) := by decide +kernel
theorem dX6_stretch_47 : decode cX6_stretch 47 = .ok (.iload_n 1, 1) := by decide +kernel
theorem dX6_stretch_48 : decode cX6_stretch 48 = .ok (.iaload, 1) := by decide +kernel
theorem dX6_stretch_49 : decode cX6_stretch 49 = .ok (.goto 9, 3) := by decide +kernel
theorem dX6_stretch_52 : decode cX6_stretch 52 = .ok (.aload_n 0, 1) := by decide +kernel
theorem dX6_stretch_53 : decode cX6_stretch 53 = .ok (.getfield 42, 3) := by decide +kernel
theorem dX6_stretch_56 : decode cX6_stretch 56 = .ok (.iload_n 1, 1) := by decide +kernel
theorem dX6_stretch_57 : decode cX6_stretch 57 = .ok (.iaload, 1) := by decide +kernel
theorem dX6_stretch_58 : decode cX6_stretch 58 = .ok (.ireturn, 1) := by decide +kernel
theorem dX6_about_0 : decode cX6_about 0 = .ok (.iconst 0, 1) := by decide +kernel
theorem dX6_about_1 : decode cX6_about 1 = .ok (.istore_n 2, 1) := by decide +kernel
theorem dX6_about_2 : decode cX6_about 2 = .ok (.iconst 0, 1) := by decide +kernel
theorem dX6_about_3 : decode cX6_about 3 = .ok (.istore_n 3, 1) := by decide +kernel
theorem dX6_about_4 : decode cX6_about 4 = .ok (.iconst 0, 1) := by decide +kernel
theorem dX6_about_5 : decode cX6_about 5 = .ok (.istore 4, 2) := by decide +kernel
theorem dX6_about_7 : decode cX6_about 7 = .ok (.iload 4, 2) := by decide +kernel
theorem dX6_about_9 : decode cX6_about 9 = .ok (.aload_n 0, 1) := by decide +kernel
theorem dX6_about_10 : decode cX6_about 10 = .ok (.getfield 63, 3) := by decide +kernel
theorem dX6_about_13 : decode cX6_about 13 = .ok (.if_icmp .ge 55, 3) := by decide +kernel
theorem dX6_about_16 : decode cX6_about 16 = .ok (.aload_n 0, 1) := by decide +kernel
theorem dX6_about_17 : decode cX6_about 17 = .ok (.getfield 39, 3) := by decide +kernel
theorem dX6_about_20 : decode cX6_about 20 = .ok (.iload 4, 2) := by decide +kernel
theorem dX6_about_22 : decode cX6_about 22 = .ok (.iaload, 1) := by decide +kernel
theorem dX6_about_23 : decode cX6_about 23 = .ok (.iload_n 2, 1) := by decide +kernel
theorem dX6_about_24 : decode cX6_about 24 = .ok (.if_icmp .le 13, 3) := by decide +kernel
theorem dX6_about_27 : decode cX6_about 27 = .ok (.aload_n 0, 1) := by decide +kernel
theorem dX6_about_28 : decode cX6_about 28 = .ok (.getfield 39, 3) := by decide +kernel
theorem dX6_about_31 : decode cX6_about 31 = .ok (.iload 4, 2) := by decide +kernel
theorem dX6_about_33 : decode cX6_about 33 = .ok (.iaload, 1) := by decide +kernel
theorem dX6_about_34 : decode cX6_about 34 = .ok (.goto 4, 3) := by decide +kernel
theorem dX6_about_37 : decode cX6_about 37 = .ok (.iload_n 2, 1) := by decide +kernel
theorem dX6_about_38 : decode cX6_about 38 = .ok (.istore_n 2, 1) := by decide +kernel
theorem dX6_about_39 : decode cX6_about 39 = .ok (.aload_n 0, 1) := by decide +kernel
theorem dX6_about_40 : decode cX6_about 40 = .ok (.getfield 42, 3) := by decide +kernel
theorem dX6_about_43 : decode cX6_about 43 = .ok (.iload 4, 2) := by decide +kernel
theorem dX6_about_45 : decode cX6_about 45 = .ok (.iaload, 1) := by decide +kernel
theorem dX6_about_46 : decode cX6_about 46 = .ok (.iload_n 3, 1) := by decide +kernel
theorem dX6_about_47 : decode cX6_about 47 = .ok (.if_icmp .le 13, 3) := by decide +kernel
theorem dX6_about_50 : decode cX6_about 50 = .ok (.aload_n 0, 1) := by decide +kernel
theorem dX6_about_51 : decode cX6_about 51 = .ok (.getfield 42, 3) := by decide +kernel
theorem dX6_about_54 : decode cX6_about 54 = .ok (.iload 4, 2) := by decide +kernel
theorem dX6_about_56 : decode cX6_about 56 = .ok (.iaload, 1) := by decide +kernel
theorem dX6_about_57 : decode cX6_about 57 = .ok (.goto 4, 3) := by decide +kernel
theorem dX6_about_60 : decode cX6_about 60 = .ok (.iload_n 3, 1) := by decide +kernel
theorem dX6_about_61 : decode cX6_about 61 = .ok (.istore_n 3, 1) := by decide +kernel
theorem dX6_about_62 : decode cX6_about 62 = .ok (.iinc 4 1, 3) := by decide +kernel
theorem dX6_about_65 : decode cX6_about 65 = .ok (.goto (-58), 3) := by decide +kernel
theorem dX6_about_68 : decode cX6_about 68 = .ok (.iload_n 1, 1) := by decide +kernel
theorem dX6_about_69 : decode cX6_about 69 = .ok (.ifCond .ne 10, 3) := by decide +kernel
theorem dX6_about_72 : decode cX6_about 72 = .ok (.aload_n 0, 1) := by decide +kernel
theorem dX6_about_73 : decode cX6_about 73 = .ok (.getfield 66, 3) := by decide +kernel
theorem dX6_about_76 : decode cX6_about 76 = .ok (.goto 46, 3) := by decide +kernel
theorem dX6_about_79 : decode cX6_about 79 = .ok (.iload_n 1, 1) := by decide +kernel
theorem dX6_about_80 : decode cX6_about 80 = .ok (.iconst 1, 1) := by decide +kernel
theorem dX6_about_81 : decode cX6_about 81 = .ok (.if_icmp .ne 10, 3) := by decide +kernel
theorem dX6_about_84 : decode cX6_about 84 = .ok (.aload_n 0, 1) := by decide +kernel
theorem dX6_about_85 : decode cX6_about 85 = .ok (.getfield 72, 3) := by decide +kernel
theorem dX6_about_88 : decode cX6_about 88 = .ok (.goto 34, 3) := by decide +kernel
theorem dX6_about_91 : decode cX6_about 91 = .ok (.iload_n 1, 1) := by decide +kernel
theorem dX6_about_92 : decode cX6_about 92 = .ok (.iconst 2, 1) := by decide +kernel
theorem dX6_about_93 : decode cX6_about 93 = .ok (.if_icmp .ne 10, 3) := by decide +kernel
theorem dX6_about_96 : decode cX6_about 96 = .ok (.aload_n 0, 1) := by decide +kernel
theorem dX6_about_97 : decode cX6_about 97 = .ok (.getfield 69, 3) := by decide +kernel
theorem dX6_about_100 : decode cX6_about 100 = .ok (.goto 22, 3) := by decide +kernel
theorem dX6_about_103 : decode cX6_about 103 = .ok (.iload_n 1, 1) := by decide +kernel
theorem dX6_about_104 : decode cX6_about 104 = .ok (.iconst 3, 1) := by decide +kernel
theorem dX6_about_105 : decode cX6_about 105 = .ok (.if_icmp .ne 7, 3) := by decide +kernel
theorem dX6_about_108 : decode cX6_about 108 = .ok (.iload_n 2, 1) := by decide +kernel
theorem dX6_about_109 : decode cX6_about 109 = .ok (.goto 13, 3) := by decide +kernel
theorem dX6_about_112 : decode cX6_about 112 = .ok (.iload_n 1, 1) := by decide +kernel
theorem dX6_about_113 : decode cX6_about 113 = .ok (.iconst 4, 1) := by decide +kernel
theorem dX6_about_114 : decode cX6_about 114 = .ok (.if_icmp .ne 7, 3) := by decide +kernel
theorem dX6_about_117 : decode cX6_about 117 = .ok (.iload_n 3, 1) := by decide +kernel
theorem dX6_about_118 : decode cX6_about 118 = .ok (.goto 4, 3) := by decide +kernel
theorem dX6_about_121 : decode cX6_about 121 = .ok (.iconst (-1), 1) := by decide +kernel
theorem dX6_about_122 : decode cX6_about 122 = .ok (.ireturn, 1) := by decide +kernel
theorem dX6_unlike_0 : decode cX6_unlike 0 = .ok (.iconst 0, 1) := by decide +kernel
theorem dX6_unlike_1 : decode cX6_unlike 1 = .ok (.istore_n 1, 1) := by decide +kernel
theorem dX6_unlike_2 : decode cX6_unlike 2 = .ok (.iload_n 1, 1) := by decide +kernel
theorem dX6_unlike_3 : decode cX6_unlike 3 = .ok (.aload_n 0, 1) := by decide +kernel
theorem dX6_unlike_4 : decode cX6_unlike 4 = .ok (.getfield 78, 3) := by decide +kernel
theorem dX6_unlike_7 : decode cX6_unlike 7 = .ok (.if_icmp .ge 21, 3) := by decide +kernel
theorem dX6_unlike_10 : decode cX6_unlike 10 = .ok (.aload_n 0, 1) := by decide +kernel
theorem dX6_unlike_11 : decode cX6_unlike 11 = .ok (.getfield 45, 3) := by decide +kernel
theorem dX6_unlike_14 : decode cX6_unlike 14 = .ok (.iload_n 1, 1) := by decide +kernel
theorem dX6_unlike_15 : decode cX6_unlike 15 = .ok (.aload_n 0, 1) := by decide +kernel
theorem dX6_unlike_16 : decode cX6_unlike 16 = .ok (.getfield 8, 3) := by decide +kernel
theorem dX6_unlike_19 : decode cX6_unlike 19 = .ok (.iload_n 1, 1) := by decide +kernel
theorem dX6_unlike_20 : decode cX6_unlike 20 = .ok (.baload, 1) := by decide +kernel
theorem dX6_unlike_21 : decode cX6_unlike 21 = .ok (.bastore, 1) := by decide +kernel
theorem dX6_unlike_22 : decode cX6_unlike 22 = .ok (.iinc 1 1, 3) := by decide +kernel
theorem dX6_unlike_25 : decode cX6_unlike 25 = .ok (.goto (-23), 3) := by decide +kernel
theorem dX6_unlike_28 : decode cX6_unlike 28 = .ok (.iconst 0, 1) := by decide +kernel
theorem dX6_unlike_29 : decode cX6_unlike 29 = .ok (.istore_n 2, 1) := by decide +kernel
theorem dX6_unlike_30 : decode cX6_unlike 30 = .ok (.iload_n 2, 1) := by decide +kernel
theorem dX6_unlike_31 : decode cX6_unlike 31 = .ok (.aload_n 0, 1) := by decide +kernel
theorem dX6_unlike_32 : decode cX6_unlike 32 = .ok (.getfield 63, 3) := by decide +kernel
theorem dX6_unlike_35 : decode cX6_unlike 35 = .ok (.if_icmp .gt 111, 3) := by decide +kernel
theorem dX6_unlike_38 : decode cX6_unlike 38 = .ok (.iload_n 2, 1) := by decide +kernel
theorem dX6_unlike_39 : decode cX6_unlike 39 = .ok (.aload_n 0, 1) := by decide +kernel
theorem dX6_unlike_40 : decode cX6_unlike 40 = .ok (.getfield 63, 3) := by decide +kernel
theorem dX6_unlike_43 : decode cX6_unlike 43 = .ok (.if_icmp .ge 12, 3) := by decide +kernel
theorem dX6_unlike_46 : decode cX6_unlike 46 = .ok (.aload_n 0, 1) := by decide +kernel
theorem dX6_unlike_47 : decode cX6_unlike 47 = .ok (.getfield 35, 3) := by decide +kernel
theorem dX6_unlike_50 : decode cX6_unlike 50 = .ok (.iload_n 2, 1) := by decide +kernel
theorem dX6_unlike_51 : decode cX6_unlike 51 = .ok (.iaload, 1) := by decide +kernel
theorem dX6_unlike_52 : decode cX6_unlike 52 = .ok (.goto 7, 3) := by decide +kernel
theorem dX6_unlike_55 : decode cX6_unlike 55 = .ok (.aload_n 0, 1) := by decide +kernel
theorem dX6_unlike_56 : decode cX6_unlike 56 = .ok (.getfield 66, 3) := by decide +kernel
theorem dX6_unlike_59 : decode cX6_unlike 59 = .ok (.istore_n 3, 1) := by decide +kernel
theorem dX6_unlike_60 : decode cX6_unlike 60 = .ok (.iconst 0, 1) := by decide +kernel
theorem dX6_unlike_61 : decode cX6_unlike 61 = .ok (.istore 4, 2) := by decide +kernel
theorem dX6_unlike_63 : decode cX6_unlike 63 = .ok (.iload 4, 2) := by decide +kernel
theorem dX6_unlike_65 : decode cX6_unlike 65 = .ok (.iload_n 3, 1) := by decide +kernel
theorem dX6_unlike_66 : decode cX6_unlike 66 = .ok (.if_icmp .ge 24, 3) := by decide +kernel
theorem dX6_unlike_69 : decode cX6_unlike 69 = .ok (.aload_n 0, 1) := by decide +kernel
theorem dX6_unlike_70 : decode cX6_unlike 70 = .ok (.getfield 45, 3) := by decide +kernel
theorem dX6_unlike_73 : decode cX6_unlike 73 = .ok (.iload_n 1, 1) := by decide +kernel
theorem dX6_unlike_74 : decode cX6_unlike 74 = .ok (.aload_n 0, 1) := by decide +kernel
theorem dX6_unlike_75 : decode cX6_unlike 75 = .ok (.getfield 8, 3) := by decide +kernel
theorem dX6_unlike_78 : decode cX6_unlike 78 = .ok (.iload_n 1, 1) := by decide +kernel
theorem dX6_unlike_79 : decode cX6_unlike 79 = .ok (.baload, 1) := by decide +kernel
theorem dX6_unlike_80 : decode cX6_unlike 80 = .ok (.bastore, 1) := by decide +kernel
theorem dX6_unlike_81 : decode cX6_unlike 81 = .ok (.iinc 1 1, 3) := by decide +kernel
theorem dX6_unlike_84 : decode cX6_unlike 84 = .ok (.iinc 4 1, 3) := by decide +kernel
theorem dX6_unlike_87 : decode cX6_unlike 87 = .ok (.goto (-24), 3) := by decide +kernel
theorem dX6_unlike_90 : decode cX6_unlike 90 = .ok (.iconst 0, 1) := by decide +kernel
theorem dX6_unlike_91 : decode cX6_unlike 91 = .ok (.istore 4, 2) := by decide +kernel
theorem dX6_unlike_93 : decode cX6_unlike 93 = .ok (.iload_n 2, 1) := by decide +kernel
theorem dX6_unlike_94 : decode cX6_unlike 94 = .ok (.aload_n 0, 1) := by decide +kernel
theorem dX6_unlike_95 : decode cX6_unlike 95 = .ok (.getfield 63, 3) := by decide +kernel
theorem dX6_unlike_98 : decode cX6_unlike 98 = .ok (.if_icmp .ge 42, 3) := by decide +kernel
theorem dX6_unlike_101 : decode cX6_unlike 101 = .ok (.iload 4, 2) := by decide +kernel
theorem dX6_unlike_103 : decode cX6_unlike 103 = .ok (.aload_n 0, 1) := by decide +kernel
theorem dX6_unlike_104 : decode cX6_unlike 104 = .ok (.getfield 39, 3) := by decide +kernel
theorem dX6_unlike_107 : decode cX6_unlike 107 = .ok (.iload_n 2, 1) := by decide +kernel
theorem dX6_unlike_108 : decode cX6_unlike 108 = .ok (.iaload, 1) := by decide +kernel
theorem dX6_unlike_109 : decode cX6_unlike 109 = .ok (.if_icmp .ge 31, 3) := by decide +kernel
theorem dX6_unlike_112 : decode cX6_unlike 112 = .ok (.aload_n 0, 1) := by decide +kernel
theorem dX6_unlike_113 : decode cX6_unlike 113 = .ok (.getfield 45, 3) := by decide +kernel
theorem dX6_unlike_116 : decode cX6_unlike 116 = .ok (.iload_n 1, 1) := by decide +kernel
theorem dX6_unlike_117 : decode cX6_unlike 117 = .ok (.aload_n 0, 1) := by decide +kernel
theorem dX6_unlike_118 : decode cX6_unlike 118 = .ok (.getfield 45, 3) := by decide +kernel
theorem dX6_unlike_121 : decode cX6_unlike 121 = .ok (.iload_n 1, 1) := by decide +kernel
theorem dX6_unlike_122 : decode cX6_unlike 122 = .ok (.aload_n 0, 1) := by decide +kernel
theorem dX6_unlike_123 : decode cX6_unlike 123 = .ok (.getfield 42, 3) := by decide +kernel
theorem dX6_unlike_126 : decode cX6_unlike 126 = .ok (.iload_n 2, 1) := by decide +kernel
theorem dX6_unlike_127 : decode cX6_unlike 127 = .ok (.iaload, 1) := by decide +kernel
theorem dX6_unlike_128 : decode cX6_unlike 128 = .ok (.isub, 1) := by decide +kernel
theorem dX6_unlike_129 : decode cX6_unlike 129 = .ok (.baload, 1) := by decide +kernel
theorem dX6_unlike_130 : decode cX6_unlike 130 = .ok (.bastore, 1) := by decide +kernel
theorem dX6_unlike_131 : decode cX6_unlike 131 = .ok (.iinc 1 1, 3) := by decide +kernel
theorem dX6_unlike_134 : decode cX6_unlike 134 = .ok (.iinc 4 1, 3) := by decide +kernel
theorem dX6_unlike_137 : decode cX6_unlike 137 = .ok (.goto (-44), 3) := by decide +kernel
theorem dX6_unlike_140 : decode cX6_unlike 140 = .ok (.iinc 2 1, 3) := by decide +kernel
theorem dX6_unlike_143 : decode cX6_unlike 143 = .ok (.goto (-113), 3) := by decide +kernel
theorem dX6_unlike_146 : decode cX6_unlike 146 = .ok (.iconst 0, 1) := by decide +kernel
theorem dX6_unlike_147 : decode cX6_unlike 147 = .ok (.istore_n 2, 1) := by decide +kernel
theorem dX6_unlike_148 : decode cX6_unlike 148 = .ok (.iconst 0, 1) := by decide +kernel
theorem dX6_unlike_149 : decode cX6_unlike 149 = .ok (.istore_n 3, 1) := by decide +kernel
theorem dX6_unlike_150 : decode cX6_unlike 150 = .ok (.iload_n 3, 1) := by decide +kernel
theorem dX6_unlike_151 : decode cX6_unlike 151 = .ok (.aload_n 0, 1) := by decide +kernel
theorem dX6_unlike_152 : decode cX6_unlike 152 = .ok (.getfield 75, 3) := by decide +kernel
theorem dX6_unlike_155 : decode cX6_unlike 155 = .ok (.if_icmp .ge 40, 3) := by decide +kernel
theorem dX6_unlike_158 : decode cX6_unlike 158 = .ok (.iload_n 2, 1) := by decide +kernel
theorem dX6_unlike_159 : decode cX6_unlike 159 = .ok (.iload_n 3, 1) := by decide +kernel
theorem dX6_unlike_160 : decode cX6_unlike 160 = .ok (.aload_n 0, 1) := by decide +kernel
theorem dX6_unlike_161 : decode cX6_unlike 161 = .ok (.getfield 57, 3) := by decide +kernel
theorem dX6_unlike_164 : decode cX6_unlike 164 = .ok (.if_icmp .ge 18, 3) := by decide +kernel
theorem dX6_unlike_167 : decode cX6_unlike 167 = .ok (.aload_n 0, 1) := by decide +kernel
theorem dX6_unlike_168 : decode cX6_unlike 168 = .ok (.getfield 45, 3) := by decide +kernel
theorem dX6_unlike_171 : decode cX6_unlike 171 = .ok (.iload_n 3, 1) := by decide +kernel
theorem dX6_unlike_172 : decode cX6_unlike 172 = .ok (.baload, 1) := by decide +kernel
theorem dX6_unlike_173 : decode cX6_unlike 173 = .ok (.aload_n 0, 1) := by decide +kernel
theorem dX6_unlike_174 : decode cX6_unlike 174 = .ok (.getfield 8, 3) := by decide +kernel
theorem dX6_unlike_177 : decode cX6_unlike 177 = .ok (.iload_n 3, 1) := by decide +kernel
theorem dX6_unlike_178 : decode cX6_unlike 178 = .ok (.baload, 1) := by decide +kernel
theorem dX6_unlike_179 : decode cX6_unlike 179 = .ok (.if_icmp .eq 7, 3) := by decide +kernel
theorem dX6_unlike_182 : decode cX6_unlike 182 = .ok (.iconst 1, 1) := by decide +kernel
theorem dX6_unlike_183 : decode cX6_unlike 183 = .ok (.goto 4, 3) := by decide +kernel
theorem dX6_unlike_186 : decode cX6_unlike 186 = .ok (.iconst 0, 1) := by decide +kernel
theorem dX6_unlike_187 : decode cX6_unlike 187 = .ok (.iadd, 1) := by decide +kernel
theorem dX6_unlike_188 : decode cX6_unlike 188 = .ok (.istore_n 2, 1) := by decide +kernel
theorem dX6_unlike_189 : decode cX6_unlike 189 = .ok (.iinc 3 1, 3) := by decide +kernel
theorem dX6_unlike_192 : decode cX6_unlike 192 = .ok (.goto (-42), 3) := by decide +kernel
theorem dX6_unlike_195 : decode cX6_unlike 195 = .ok (.iload_n 2, 1) := by decide +kernel
theorem dX6_unlike_196 : decode cX6_unlike 196 = .ok (.ireturn, 1) := by decide +kernel
theorem dX6_size_0 : decode cX6_size 0 = .ok (.aload_n 0, 1) := by decide +kernel
theorem dX6_size_1 : decode cX6_size 1 = .ok (.getfield 57, 3) := by decide +kernel
theorem dX6_size_4 : decode cX6_size 4 = .ok (.ireturn, 1) := by decide +kernel
end
section
theorem dL_law_0 : decode cL_law 0 = .ok (.new 7, 3) := by decide +kernel
theorem dL_law_3 : decode cL_law 3 = .ok (.dup, 1) := by decide +kernel
theorem dL_law_4 : decode cL_law 4 = .ok (.invokespecial 9, 3) := by decide +kernel
theorem dL_law_7 : decode cL_law 7 = .ok (.astore_n 1, 1) := by decide +kernel
theorem dL_law_8 : decode cL_law 8 = .ok (.new 10, 3) := by decide +kernel
theorem dL_law_11 : decode cL_law 11 = .ok (.dup, 1) := by decide +kernel
theorem dL_law_12 : decode cL_law 12 = .ok (.invokespecial 12, 3) := by decide +kernel
theorem dL_law_15 : decode cL_law 15 = .ok (.astore_n 2, 1) := by decide +kernel
theorem dL_law_16 : decode cL_law 16 = .ok (.iconst 0, 1) := by decide +kernel
theorem dL_law_17 : decode cL_law 17 = .ok (.istore_n 3, 1) := by decide +kernel
theorem dL_law_18 : decode cL_law 18 = .ok (.iload_n 3, 1) := by decide +kernel
theorem dL_law_19 : decode cL_law 19 = .ok (.aload_n 0, 1) := by decide +kernel
theorem dL_law_20 : decode cL_law 20 = .ok (.arraylength, 1) := by decide +kernel
theorem dL_law_21 : decode cL_law 21 = .ok (.iconst 5, 1) := by decide +kernel
theorem dL_law_22 : decode cL_law 22 = .ok (.isub, 1) := by decide +kernel
theorem dL_law_23 : decode cL_law 23 = .ok (.if_icmp .gt 480, 3) := by decide +kernel
theorem dL_law_26 : decode cL_law 26 = .ok (.aload_n 0, 1) := by decide +kernel
theorem dL_law_27 : decode cL_law 27 = .ok (.iload_n 3, 1) := by decide +kernel
theorem dL_law_28 : decode cL_law 28 = .ok (.iaload, 1) := by decide +kernel
theorem dL_law_29 : decode cL_law 29 = .ok (.bipush 15, 2) := by decide +kernel
theorem dL_law_31 : decode cL_law 31 = .ok (.iand, 1) := by decide +kernel
theorem dL_law_32 : decode cL_law 32 = .ok (.tableswitch 465 0 12 #[68, 79, 142, 175, 198, 251, 304, 347, 370, 383, 416, 439, 452], 68) := by decide +kernel
theorem dL_law_100 : decode cL_law 100 = .ok (.aload_n 1, 1) := by decide +kernel
theorem dL_law_101 : decode cL_law 101 = .ok (.invokevirtual 13, 3) := by decide +kernel
theorem dL_law_104 : decode cL_law 104 = .ok (.aload_n 2, 1) := by decide +kernel
theorem dL_law_105 : decode cL_law 105 = .ok (.invokevirtual 16, 3) := by decide +kernel
theorem dL_law_108 : decode cL_law 108 = .ok (.goto 389, 3) := by decide +kernel
theorem dL_law_111 : decode cL_law 111 = .ok (.aload_n 1, 1) := by decide +kernel
theorem dL_law_112 : decode cL_law 112 = .ok (.aload_n 0, 1) := by decide +kernel
theorem dL_law_113 : decode cL_law 113 = .ok (.iload_n 3, 1) := by decide +kernel
theorem dL_law_114 : decode cL_law 114 = .ok (.iconst 1, 1) := by decide +kernel
theorem dL_law_115 : decode cL_law 115 = .ok (.iadd, 1) := by decide +kernel
theorem dL_law_116 : decode cL_law 116 = .ok (.iaload, 1) := by decide +kernel
theorem dL_law_117 : decode cL_law 117 = .ok (.i2l, 1) := by decide +kernel
theorem dL_law_118 : decode cL_law 118 = .ok (.bipush 32, 2) := by decide +kernel
theorem dL_law_120 : decode cL_law 120 = .ok (.lshl, 1) := by decide +kernel
theorem dL_law_121 : decode cL_law 121 = .ok (.aload_n 0, 1) := by decide +kernel
theorem dL_law_122 : decode cL_law 122 = .ok (.iload_n 3, 1) := by decide +kernel
theorem dL_law_123 : decode cL_law 123 = .ok (.iconst 2, 1) := by decide +kernel
theorem dL_law_124 : decode cL_law 124 = .ok (.iadd, 1) := by decide +kernel
theorem dL_law_125 : decode cL_law 125 = .ok (.iaload, 1) := by decide +kernel
theorem dL_law_126 : decode cL_law 126 = .ok (.i2l, 1) := by decide +kernel
theorem dL_law_127 : decode cL_law 127 = .ok (.ldc2_w 17, 3) := by decide +kernel
theorem dL_law_130 : decode cL_law 130 = .ok (.land, 1) := by decide +kernel
theorem dL_law_131 : decode cL_law 131 = .ok (.lor, 1) := by decide +kernel
theorem dL_law_132 : decode cL_law 132 = .ok (.aload_n 0, 1) := by decide +kernel
theorem dL_law_133 : decode cL_law 133 = .ok (.iload_n 3, 1) := by decide +kernel
theorem dL_law_134 : decode cL_law 134 = .ok (.iconst 3, 1) := by decide +kernel
theorem dL_law_135 : decode cL_law 135 = .ok (.iadd, 1) := by decide +kernel
theorem dL_law_136 : decode cL_law 136 = .ok (.iaload, 1) := by decide +kernel
theorem dL_law_137 : decode cL_law 137 = .ok (.invokevirtual 19, 3) := by decide +kernel
theorem dL_law_140 : decode cL_law 140 = .ok (.aload_n 2, 1) := by decide +kernel
theorem dL_law_141 : decode cL_law 141 = .ok (.aload_n 0, 1) := by decide +kernel
theorem dL_law_142 : decode cL_law 142 = .ok (.iload_n 3, 1) := by decide +kernel
theorem dL_law_143 : decode cL_law 143 = .ok (.iconst 1, 1) := by decide +kernel
theorem dL_law_144 : decode cL_law 144 = .ok (.iadd, 1) := by decide +kernel
theorem dL_law_145 : decode cL_law 145 = .ok (.iaload, 1) := by decide +kernel
theorem dL_law_146 : decode cL_law 146 = .ok (.i2l, 1) := by decide +kernel
theorem dL_law_147 : decode cL_law 147 = .ok (.bipush 32, 2) := by decide +kernel
theorem dL_law_149 : decode cL_law 149 = .ok (.lshl, 1) := by decide +kernel
theorem dL_law_150 : decode cL_law 150 = .ok (.aload_n 0, 1) := by decide +kernel
theorem dL_law_151 : decode cL_law 151 = .ok (.iload_n 3, 1) := by decide +kernel
theorem dL_law_152 : decode cL_law 152 = .ok (.iconst 2, 1) := by decide +kernel
theorem dL_law_153 : decode cL_law 153 = .ok (.iadd, 1) := by decide +kernel
theorem dL_law_154 : decode cL_law 154 = .ok (.iaload, 1) := by decide +kernel
theorem dL_law_155 : decode cL_law 155 = .ok (.i2l, 1) := by decide +kernel
theorem dL_law_156 : decode cL_law 156 = .ok (.ldc2_w 17, 3) := by decide +kernel
theorem dL_law_159 : decode cL_law 159 = .ok (.land, 1) := by decide +kernel
theorem dL_law_160 : decode cL_law 160 = .ok (.lor, 1) := by decide +kernel
theorem dL_law_161 : decode cL_law 161 = .ok (.aload_n 0, 1) := by decide +kernel
theorem dL_law_162 : decode cL_law 162 = .ok (.iload_n 3, 1) := by decide +kernel
theorem dL_law_163 : decode cL_law 163 = .ok (.iconst 3, 1) := by decide +kernel
theorem dL_law_164 : decode cL_law 164 = .ok (.iadd, 1) := by decide +kernel
theorem dL_law_165 : decode cL_law 165 = .ok (.iaload, 1) := by decide +kernel
theorem dL_law_166 : decode cL_law 166 = .ok (.invokevirtual 23, 3) := by decide +kernel
theorem dL_law_169 : decode cL_law 169 = .ok (.if_icmp .eq 328, 3) := by decide +kernel
theorem dL_law_172 : decode cL_law 172 = .ok (.iconst 0, 1) := by decide +kernel
theorem dL_law_173 : decode cL_law 173 = .ok (.ireturn, 1) := by decide +kernel
theorem dL_law_174 : decode cL_law 174 = .ok (.aload_n 1, 1) := by decide +kernel
theorem dL_law_175 : decode cL_law 175 = .ok (.aload_n 0, 1) := by decide +kernel
theorem dL_law_176 : decode cL_law 176 = .ok (.iload_n 3, 1) := by decide +kernel
theorem dL_law_177 : decode cL_law 177 = .ok (.iconst 1, 1) := by decide +kernel
theorem dL_law_178 : decode cL_law 178 = .ok (.iadd, 1) := by decide +kernel
theorem dL_law_179 : decode cL_law 179 = .ok (.iaload, 1) := by decide +kernel
theorem dL_law_180 : decode cL_law 180 = .ok (.aload_n 0, 1) := by decide +kernel
theorem dL_law_181 : decode cL_law 181 = .ok (.iload_n 3, 1) := by decide +kernel
theorem dL_law_182 : decode cL_law 182 = .ok (.iconst 2, 1) := by decide +kernel
theorem dL_law_183 : decode cL_law 183 = .ok (.iadd, 1) := by decide +kernel
theorem dL_law_184 : decode cL_law 184 = .ok (.iaload, 1) := by decide +kernel
theorem dL_law_185 : decode cL_law 185 = .ok (.invokevirtual 24, 3) := by decide +kernel
theorem dL_law_188 : decode cL_law 188 = .ok (.aload_n 2, 1) := by decide +kernel
theorem dL_law_189 : decode cL_law 189 = .ok (.aload_n 0, 1) := by decide +kernel
theorem dL_law_190 : decode cL_law 190 = .ok (.iload_n 3, 1) := by decide +kernel
theorem dL_law_191 : decode cL_law 191 = .ok (.iconst 1, 1) := by decide +kernel
theorem dL_law_192 : decode cL_law 192 = .ok (.iadd, 1) := by decide +kernel
theorem dL_law_193 : decode cL_law 193 = .ok (.iaload, 1) := by decide +kernel
theorem dL_law_194 : decode cL_law 194 = .ok (.aload_n 0, 1) := by decide +kernel
theorem dL_law_195 : decode cL_law 195 = .ok (.iload_n 3, 1) := by decide +kernel
theorem dL_law_196 : decode cL_law 196 = .ok (.iconst 2, 1) := by decide +kernel
theorem dL_law_197 : decode cL_law 197 = .ok (.iadd, 1) := by decide +kernel
theorem dL_law_198 : decode cL_law 198 = .ok (.iaload, 1) := by decide +kernel
theorem dL_law_199 : decode cL_law 199 = .ok (.invokevirtual 28, 3) := by decide +kernel
theorem dL_law_202 : decode cL_law 202 = .ok (.if_icmp .eq 295, 3) := by decide +kernel
theorem dL_law_205 : decode cL_law 205 = .ok (.iconst 0, 1) := by decide +kernel
theorem dL_law_206 : decode cL_law 206 = .ok (.ireturn, 1) := by decide +kernel
theorem dL_law_207 : decode cL_law 207 = .ok (.aload_n 1, 1) := by decide +kernel
theorem dL_law_208 : decode cL_law 208 = .ok (.aload_n 0, 1) := by decide +kernel
theorem dL_law_209 : decode cL_law 209 = .ok (.iload_n 3, 1) := by decide +kernel
theorem dL_law_210 : decode cL_law 210 = .ok (.iconst 1, 1) := by decide +kernel
theorem dL_law_211 : decode cL_law 211 = .ok (.iadd, 1) := by decide +kernel
theorem dL_law_212 : decode cL_law 212 = .ok (.iaload, 1) := by decide +kernel
theorem dL_law_213 : decode cL_law 213 = .ok (.invokevirtual 29, 3) := by decide +kernel
theorem dL_law_216 : decode cL_law 216 = .ok (.aload_n 2, 1) := by decide +kernel
theorem dL_law_217 : decode cL_law 217 = .ok (.aload_n 0, 1) := by decide +kernel
theorem dL_law_218 : decode cL_law 218 = .ok (.iload_n 3, 1) := by decide +kernel
theorem dL_law_219 : decode cL_law 219 = .ok (.iconst 1, 1) := by decide +kernel
theorem dL_law_220 : decode cL_law 220 = .ok (.iadd, 1) := by decide +kernel
theorem dL_law_221 : decode cL_law 221 = .ok (.iaload, 1) := by decide +kernel
theorem dL_law_222 : decode cL_law 222 = .ok (.invokevirtual 33, 3) := by decide +kernel
theorem dL_law_225 : decode cL_law 225 = .ok (.if_icmp .eq 272, 3) := by decide +kernel
theorem dL_law_228 : decode cL_law 228 = .ok (.iconst 0, 1) := by decide +kernel
theorem dL_law_229 : decode cL_law 229 = .ok (.ireturn, 1) := by decide +kernel
theorem dL_law_230 : decode cL_law 230 = .ok (.aload_n 1, 1) := by decide +kernel
theorem dL_law_231 : decode cL_law 231 = .ok (.aload_n 0, 1) := by decide +kernel
theorem dL_law_232 : decode cL_law 232 = .ok (.iload_n 3, 1) := by decide +kernel
theorem dL_law_233 : decode cL_law 233 = .ok (.iconst 1, 1) := by decide +kernel
theorem dL_law_234 : decode cL_law 234 = .ok (.iadd, 1) := by decide +kernel
theorem dL_law_235 : decode cL_law 235 = .ok (.iaload, 1) := by decide +kernel
theorem dL_law_236 : decode cL_law 236 = .ok (.aload_n 0, 1) := by decide +kernel
theorem dL_law_237 : decode cL_law 237 = .ok (.iload_n 3, 1) := by decide +kernel
theorem dL_law_238 : decode cL_law 238 = .ok (.iconst 2, 1) := by decide +kernel
theorem dL_law_239 : decode cL_law 239 = .ok (.iadd, 1) := by decide +kernel
theorem dL_law_240 : decode cL_law 240 = .ok (.iaload, 1) := by decide +kernel
theorem dL_law_241 : decode cL_law 241 = .ok (.aload_n 0, 1) := by decide +kernel
theorem dL_law_242 : decode cL_law 242 = .ok (.iload_n 3, 1) := by decide +kernel
theorem dL_law_243 : decode cL_law 243 = .ok (.iconst 3, 1) := by decide +kernel
theorem dL_law_244 : decode cL_law 244 = .ok (.iadd, 1) := by decide +kernel
theorem dL_law_245 : decode cL_law 245 = .ok (.iaload, 1) := by decide +kernel
theorem dL_law_246 : decode cL_law 246 = .ok (.aload_n 0, 1) := by decide +kernel
theorem dL_law_247 : decode cL_law 247 = .ok (.iload_n 3, 1) := by decide +kernel
theorem dL_law_248 : decode cL_law 248 = .ok (.iconst 4, 1) := by decide +kernel
theorem dL_law_249 : decode cL_law 249 = .ok (.iadd, 1) := by decide +kernel
theorem dL_law_250 : decode cL_law 250 = .ok (.iaload, 1) := by decide +kernel
theorem dL_law_251 : decode cL_law 251 = .ok (.invokevirtual 34, 3) := by decide +kernel
theorem dL_law_254 : decode cL_law 254 = .ok (.aload_n 2, 1) := by decide +kernel
theorem dL_law_255 : decode cL_law 255 = .ok (.aload_n 0, 1) := by decide +kernel
theorem dL_law_256 : decode cL_law 256 = .ok (.iload_n 3, 1) := by decide +kernel
theorem dL_law_257 : decode cL_law 257 = .ok (.iconst 1, 1) := by decide +kernel
theorem dL_law_258 : decode cL_law 258 = .ok (.iadd, 1) := by decide +kernel
theorem dL_law_259 : decode cL_law 259 = .ok (.iaload, 1) := by decide +kernel
theorem dL_law_260 : decode cL_law 260 = .ok (.aload_n 0, 1) := by decide +kernel
theorem dL_law_261 : decode cL_law 261 = .ok (.iload_n 3, 1) := by decide +kernel
theorem dL_law_262 : decode cL_law 262 = .ok (.iconst 2, 1) := by decide +kernel
theorem dL_law_263 : decode cL_law 263 = .ok (.iadd, 1) := by decide +kernel
theorem dL_law_264 : decode cL_law 264 = .ok (.iaload, 1) := by decide +kernel
theorem dL_law_265 : decode cL_law 265 = .ok (.aload_n 0, 1) := by decide +kernel
theorem dL_law_266 : decode cL_law 266 = .ok (.iload_n 3, 1) := by decide +kernel
theorem dL_law_267 : decode cL_law 267 = .ok (.iconst 3, 1) := by decide +kernel
theorem dL_law_268 : decode cL_law 268 = .ok (.iadd, 1) := by decide +kernel
theorem dL_law_269 : decode cL_law 269 = .ok (.iaload, 1) := by decide +kernel
theorem dL_law_270 : decode cL_law 270 = .ok (.aload_n 0, 1) := by decide +kernel
theorem dL_law_271 : decode cL_law 271 = .ok (.iload_n 3, 1) := by decide +kernel
theorem dL_law_272 : decode cL_law 272 = .ok (.iconst 4, 1) := by decide +kernel
theorem dL_law_273 : decode cL_law 273 = .ok (.iadd, 1) := by decide +kernel
theorem dL_law_274 : decode cL_law 274 = .ok (.iaload, 1) := by decide +kernel
theorem dL_law_275 : decode cL_law 275 = .ok (.invokevirtual 38, 3) := by decide +kernel
theorem dL_law_278 : decode cL_law 278 = .ok (.if_icmp .eq 219, 3) := by decide +kernel
theorem dL_law_281 : decode cL_law 281 = .ok (.iconst 0, 1) := by decide +kernel
theorem dL_law_282 : decode cL_law 282 = .ok (.ireturn, 1) := by decide +kernel
theorem dL_law_283 : decode cL_law 283 = .ok (.aload_n 1, 1) := by decide +kernel
theorem dL_law_284 : decode cL_law 284 = .ok (.aload_n 0, 1) := by decide +kernel
theorem dL_law_285 : decode cL_law 285 = .ok (.iload_n 3, 1) := by decide +kernel
theorem dL_law_286 : decode cL_law 286 = .ok (.iconst 1, 1) := by decide +kernel
theorem dL_law_287 : decode cL_law 287 = .ok (.iadd, 1) := by decide +kernel
theorem dL_law_288 : decode cL_law 288 = .ok (.iaload, 1) := by decide +kernel
theorem dL_law_289 : decode cL_law 289 = .ok (.aload_n 0, 1) := by decide +kernel
theorem dL_law_290 : decode cL_law 290 = .ok (.iload_n 3, 1) := by decide +kernel
theorem dL_law_291 : decode cL_law 291 = .ok (.iconst 2, 1) := by decide +kernel
theorem dL_law_292 : decode cL_law 292 = .ok (.iadd, 1) := by decide +kernel
theorem dL_law_293 : decode cL_law 293 = .ok (.iaload, 1) := by decide +kernel
theorem dL_law_294 : decode cL_law 294 = .ok (.aload_n 0, 1) := by decide +kernel
theorem dL_law_295 : decode cL_law 295 = .ok (.iload_n 3, 1) := by decide +kernel
theorem dL_law_296 : decode cL_law 296 = .ok (.iconst 3, 1) := by decide +kernel
theorem dL_law_297 : decode cL_law 297 = .ok (.iadd, 1) := by decide +kernel
theorem dL_law_298 : decode cL_law 298 = .ok (.iaload, 1) := by decide +kernel
theorem dL_law_299 : decode cL_law 299 = .ok (.aload_n 0, 1) := by decide +kernel
theorem dL_law_300 : decode cL_law 300 = .ok (.iload_n 3, 1) := by decide +kernel
theorem dL_law_301 : decode cL_law 301 = .ok (.iconst 4, 1) := by decide +kernel
theorem dL_law_302 : decode cL_law 302 = .ok (.iadd, 1) := by decide +kernel
theorem dL_law_303 : decode cL_law 303 = .ok (.iaload, 1) := by decide +kernel
theorem dL_law_304 : decode cL_law 304 = .ok (.invokevirtual 39, 3) := by decide +kernel
theorem dL_law_307 : decode cL_law 307 = .ok (.aload_n 2, 1) := by decide +kernel
theorem dL_law_308 : decode cL_law 308 = .ok (.aload_n 0, 1) := by decide +kernel
theorem dL_law_309 : decode cL_law 309 = .ok (.iload_n 3, 1) := by decide +kernel
theorem dL_law_310 : decode cL_law 310 = .ok (.iconst 1, 1) := by decide +kernel
theorem dL_law_311 : decode cL_law 311 = .ok (.iadd, 1) := by decide +kernel
theorem dL_law_312 : decode cL_law 312 = .ok (.iaload, 1) := by decide +kernel
theorem dL_law_313 : decode cL_law 313 = .ok (.aload_n 0, 1) := by decide +kernel
theorem dL_law_314 : decode cL_law 314 = .ok (.iload_n 3, 1) := by decide +kernel
theorem dL_law_315 : decode cL_law 315 = .ok (.iconst 2, 1) := by decide +kernel
theorem dL_law_316 : decode cL_law 316 = .ok (.iadd, 1) := by decide +kernel
theorem dL_law_317 : decode cL_law 317 = .ok (.iaload, 1) := by decide +kernel
theorem dL_law_318 : decode cL_law 318 = .ok (.aload_n 0, 1) := by decide +kernel
theorem dL_law_319 : decode cL_law 319 = .ok (.iload_n 3, 1) := by decide +kernel
theorem dL_law_320 : decode cL_law 320 = .ok (.iconst 3, 1) := by decide +kernel
theorem dL_law_321 : decode cL_law 321 = .ok (.iadd, 1) := by decide +kernel
theorem dL_law_322 : decode cL_law 322 = .ok (.iaload, 1) := by decide +kernel
theorem dL_law_323 : decode cL_law 323 = .ok (.aload_n 0, 1) := by decide +kernel
theorem dL_law_324 : decode cL_law 324 = .ok (.iload_n 3, 1) := by decide +kernel
theorem dL_law_325 : decode cL_law 325 = .ok (.iconst 4, 1) := by decide +kernel
theorem dL_law_326 : decode cL_law 326 = .ok (.iadd, 1) := by decide +kernel
theorem dL_law_327 : decode cL_law 327 = .ok (.iaload, 1) := by decide +kernel
theorem dL_law_328 : decode cL_law 328 = .ok (.invokevirtual 42, 3) := by decide +kernel
theorem dL_law_331 : decode cL_law 331 = .ok (.if_icmp .eq 166, 3) := by decide +kernel
theorem dL_law_334 : decode cL_law 334 = .ok (.iconst 0, 1) := by decide +kernel
theorem dL_law_335 : decode cL_law 335 = .ok (.ireturn, 1) := by decide +kernel
theorem dL_law_336 : decode cL_law 336 = .ok (.aload_n 1, 1) := by decide +kernel
theorem dL_law_337 : decode cL_law 337 = .ok (.aload_n 0, 1) := by decide +kernel
theorem dL_law_338 : decode cL_law 338 = .ok (.iload_n 3, 1) := by decide +kernel
theorem dL_law_339 : decode cL_law 339 = .ok (.iconst 1, 1) := by decide +kernel
theorem dL_law_340 : decode cL_law 340 = .ok (.iadd, 1) := by decide +kernel
theorem dL_law_341 : decode cL_law 341 = .ok (.iaload, 1) := by decide +kernel
theorem dL_law_342 : decode cL_law 342 = .ok (.aload_n 0, 1) := by decide +kernel
theorem dL_law_343 : decode cL_law 343 = .ok (.iload_n 3, 1) := by decide +kernel
theorem dL_law_344 : decode cL_law 344 = .ok (.iconst 2, 1) := by decide +kernel
theorem dL_law_345 : decode cL_law 345 = .ok (.iadd, 1) := by decide +kernel
theorem dL_law_346 : decode cL_law 346 = .ok (.iaload, 1) := by decide +kernel
theorem dL_law_347 : decode cL_law 347 = .ok (.aload_n 0, 1) := by decide +kernel
theorem dL_law_348 : decode cL_law 348 = .ok (.iload_n 3, 1) := by decide +kernel
theorem dL_law_349 : decode cL_law 349 = .ok (.iconst 3, 1) := by decide +kernel
theorem dL_law_350 : decode cL_law 350 = .ok (.iadd, 1) := by decide +kernel
theorem dL_law_351 : decode cL_law 351 = .ok (.iaload, 1) := by decide +kernel
theorem dL_law_352 : decode cL_law 352 = .ok (.invokevirtual 43, 3) := by decide +kernel
theorem dL_law_355 : decode cL_law 355 = .ok (.aload_n 2, 1) := by decide +kernel
theorem dL_law_356 : decode cL_law 356 = .ok (.aload_n 0, 1) := by decide +kernel
theorem dL_law_357 : decode cL_law 357 = .ok (.iload_n 3, 1) := by decide +kernel
theorem dL_law_358 : decode cL_law 358 = .ok (.iconst 1, 1) := by decide +kernel
theorem dL_law_359 : decode cL_law 359 = .ok (.iadd, 1) := by decide +kernel
theorem dL_law_360 : decode cL_law 360 = .ok (.iaload, 1) := by decide +kernel
theorem dL_law_361 : decode cL_law 361 = .ok (.aload_n 0, 1) := by decide +kernel
theorem dL_law_362 : decode cL_law 362 = .ok (.iload_n 3, 1) := by decide +kernel
theorem dL_law_363 : decode cL_law 363 = .ok (.iconst 2, 1) := by decide +kernel
theorem dL_law_364 : decode cL_law 364 = .ok (.iadd, 1) := by decide +kernel
theorem dL_law_365 : decode cL_law 365 = .ok (.iaload, 1) := by decide +kernel
theorem dL_law_366 : decode cL_law 366 = .ok (.aload_n 0, 1) := by decide +kernel
theorem dL_law_367 : decode cL_law 367 = .ok (.iload_n 3, 1) := by decide +kernel
theorem dL_law_368 : decode cL_law 368 = .ok (.iconst 3, 1) := by decide +kernel
theorem dL_law_369 : decode cL_law 369 = .ok (.iadd, 1) := by decide +kernel
theorem dL_law_370 : decode cL_law 370 = .ok (.iaload, 1) := by decide +kernel
theorem dL_law_371 : decode cL_law 371 = .ok (.invokevirtual 47, 3) := by decide +kernel
theorem dL_law_374 : decode cL_law 374 = .ok (.if_icmp .eq 123, 3) := by decide +kernel
theorem dL_law_377 : decode cL_law 377 = .ok (.iconst 0, 1) := by decide +kernel
theorem dL_law_378 : decode cL_law 378 = .ok (.ireturn, 1) := by decide +kernel
theorem dL_law_379 : decode cL_law 379 = .ok (.aload_n 1, 1) := by decide +kernel
theorem dL_law_380 : decode cL_law 380 = .ok (.aload_n 0, 1) := by decide +kernel
theorem dL_law_381 : decode cL_law 381 = .ok (.iload_n 3, 1) := by decide +kernel
theorem dL_law_382 : decode cL_law 382 = .ok (.iconst 1, 1) := by decide +kernel
theorem dL_law_383 : decode cL_law 383 = .ok (.iadd, 1) := by decide +kernel
theorem dL_law_384 : decode cL_law 384 = .ok (.iaload, 1) := by decide +kernel
theorem dL_law_385 : decode cL_law 385 = .ok (.invokevirtual 48, 3) := by decide +kernel
theorem dL_law_388 : decode cL_law 388 = .ok (.aload_n 2, 1) := by decide +kernel
theorem dL_law_389 : decode cL_law 389 = .ok (.aload_n 0, 1) := by decide +kernel
theorem dL_law_390 : decode cL_law 390 = .ok (.iload_n 3, 1) := by decide +kernel
theorem dL_law_391 : decode cL_law 391 = .ok (.iconst 1, 1) := by decide +kernel
theorem dL_law_392 : decode cL_law 392 = .ok (.iadd, 1) := by decide +kernel
theorem dL_law_393 : decode cL_law 393 = .ok (.iaload, 1) := by decide +kernel
theorem dL_law_394 : decode cL_law 394 = .ok (.invokevirtual 52, 3) := by decide +kernel
theorem dL_law_397 : decode cL_law 397 = .ok (.if_icmp .eq 100, 3) := by decide +kernel
theorem dL_law_400 : decode cL_law 400 = .ok (.iconst 0, 1) := by decide +kernel
theorem dL_law_401 : decode cL_law 401 = .ok (.ireturn, 1) := by decide +kernel
theorem dL_law_402 : decode cL_law 402 = .ok (.aload_n 1, 1) := by decide +kernel
theorem dL_law_403 : decode cL_law 403 = .ok (.invokevirtual 53, 3) := by decide +kernel
theorem dL_law_406 : decode cL_law 406 = .ok (.aload_n 2, 1) := by decide +kernel
theorem dL_law_407 : decode cL_law 407 = .ok (.invokevirtual 57, 3) := by decide +kernel
theorem dL_law_410 : decode cL_law 410 = .ok (.if_icmp .eq 87, 3) := by decide +kernel
theorem dL_law_413 : decode cL_law 413 = .ok (.iconst 0, 1) := by decide +kernel
theorem dL_law_414 : decode cL_law 414 = .ok (.ireturn, 1) := by decide +kernel
theorem dL_law_415 : decode cL_law 415 = .ok (.aload_n 1, 1) := by decide +kernel
theorem dL_law_416 : decode cL_law 416 = .ok (.aload_n 0, 1) := by decide +kernel
theorem dL_law_417 : decode cL_law 417 = .ok (.iload_n 3, 1) := by decide +kernel
theorem dL_law_418 : decode cL_law 418 = .ok (.iconst 1, 1) := by decide +kernel
theorem dL_law_419 : decode cL_law 419 = .ok (.iadd, 1) := by decide +kernel
theorem dL_law_420 : decode cL_law 420 = .ok (.iaload, 1) := by decide +kernel
theorem dL_law_421 : decode cL_law 421 = .ok (.aload_n 0, 1) := by decide +kernel
theorem dL_law_422 : decode cL_law 422 = .ok (.iload_n 3, 1) := by decide +kernel
theorem dL_law_423 : decode cL_law 423 = .ok (.iconst 2, 1) := by decide +kernel
theorem dL_law_424 : decode cL_law 424 = .ok (.iadd, 1) := by decide +kernel
theorem dL_law_425 : decode cL_law 425 = .ok (.iaload, 1) := by decide +kernel
theorem dL_law_426 : decode cL_law 426 = .ok (.invokevirtual 58, 3) := by decide +kernel
theorem dL_law_429 : decode cL_law 429 = .ok (.aload_n 2, 1) := by decide +kernel
theorem dL_law_430 : decode cL_law 430 = .ok (.aload_n 0, 1) := by decide +kernel
theorem dL_law_431 : decode cL_law 431 = .ok (.iload_n 3, 1) := by decide +kernel
theorem dL_law_432 : decode cL_law 432 = .ok (.iconst 1, 1) := by decide +kernel
theorem dL_law_433 : decode cL_law 433 = .ok (.iadd, 1) := by decide +kernel
theorem dL_law_434 : decode cL_law 434 = .ok (.iaload, 1) := by decide +kernel
theorem dL_law_435 : decode cL_law 435 = .ok (.aload_n 0, 1) := by decide +kernel
theorem dL_law_436 : decode cL_law 436 = .ok (.iload_n 3, 1) := by decide +kernel
theorem dL_law_437 : decode cL_law 437 = .ok (.iconst 2, 1) := by decide +kernel
theorem dL_law_438 : decode cL_law 438 = .ok (.iadd, 1) := by decide +kernel
theorem dL_law_439 : decode cL_law 439 = .ok (.iaload, 1) := by decide +kernel
theorem dL_law_440 : decode cL_law 440 = .ok (.invokevirtual 62, 3) := by decide +kernel
theorem dL_law_443 : decode cL_law 443 = .ok (.if_icmp .eq 54, 3) := by decide +kernel
theorem dL_law_446 : decode cL_law 446 = .ok (.iconst 0, 1) := by decide +kernel
theorem dL_law_447 : decode cL_law 447 = .ok (.ireturn, 1) := by decide +kernel
theorem dL_law_448 : decode cL_law 448 = .ok (.aload_n 1, 1) := by decide +kernel
theorem dL_law_449 : decode cL_law 449 = .ok (.aload_n 0, 1) := by decide +kernel
theorem dL_law_450 : decode cL_law 450 = .ok (.iload_n 3, 1) := by decide +kernel
theorem dL_law_451 : decode cL_law 451 = .ok (.iconst 1, 1) := by decide +kernel
theorem dL_law_452 : decode cL_law 452 = .ok (.iadd, 1) := by decide +kernel
theorem dL_law_453 : decode cL_law 453 = .ok (.iaload, 1) := by decide +kernel
theorem dL_law_454 : decode cL_law 454 = .ok (.invokevirtual 63, 3) := by decide +kernel
theorem dL_law_457 : decode cL_law 457 = .ok (.aload_n 2, 1) := by decide +kernel
theorem dL_law_458 : decode cL_law 458 = .ok (.aload_n 0, 1) := by decide +kernel
theorem dL_law_459 : decode cL_law 459 = .ok (.iload_n 3, 1) := by decide +kernel
theorem dL_law_460 : decode cL_law 460 = .ok (.iconst 1, 1) := by decide +kernel
theorem dL_law_461 : decode cL_law 461 = .ok (.iadd, 1) := by decide +kernel
theorem dL_law_462 : decode cL_law 462 = .ok (.iaload, 1) := by decide +kernel
theorem dL_law_463 : decode cL_law 463 = .ok (.invokevirtual 66, 3) := by decide +kernel
theorem dL_law_466 : decode cL_law 466 = .ok (.if_icmp .eq 31, 3) := by decide +kernel
theorem dL_law_469 : decode cL_law 469 = .ok (.iconst 0, 1) := by decide +kernel
theorem dL_law_470 : decode cL_law 470 = .ok (.ireturn, 1) := by decide +kernel
theorem dL_law_471 : decode cL_law 471 = .ok (.aload_n 1, 1) := by decide +kernel
theorem dL_law_472 : decode cL_law 472 = .ok (.invokevirtual 67, 3) := by decide +kernel
theorem dL_law_475 : decode cL_law 475 = .ok (.aload_n 2, 1) := by decide +kernel
theorem dL_law_476 : decode cL_law 476 = .ok (.invokevirtual 70, 3) := by decide +kernel
theorem dL_law_479 : decode cL_law 479 = .ok (.if_icmp .eq 18, 3) := by decide +kernel
theorem dL_law_482 : decode cL_law 482 = .ok (.iconst 0, 1) := by decide +kernel
theorem dL_law_483 : decode cL_law 483 = .ok (.ireturn, 1) := by decide +kernel
theorem dL_law_484 : decode cL_law 484 = .ok (.aload_n 1, 1) := by decide +kernel
theorem dL_law_485 : decode cL_law 485 = .ok (.invokevirtual 71, 3) := by decide +kernel
theorem dL_law_488 : decode cL_law 488 = .ok (.aload_n 2, 1) := by decide +kernel
theorem dL_law_489 : decode cL_law 489 = .ok (.invokevirtual 74, 3) := by decide +kernel
theorem dL_law_492 : decode cL_law 492 = .ok (.if_icmp .eq 5, 3) := by decide +kernel
theorem dL_law_495 : decode cL_law 495 = .ok (.iconst 0, 1) := by decide +kernel
theorem dL_law_496 : decode cL_law 496 = .ok (.ireturn, 1) := by decide +kernel
theorem dL_law_497 : decode cL_law 497 = .ok (.iinc 3 5, 3) := by decide +kernel
theorem dL_law_500 : decode cL_law 500 = .ok (.goto (-482), 3) := by decide +kernel
theorem dL_law_503 : decode cL_law 503 = .ok (.iconst 1, 1) := by decide +kernel
theorem dL_law_504 : decode cL_law 504 = .ok (.ireturn, 1) := by decide +kernel
end
section
def zroom (e : Nat) : Nat := if e ≤ 512 then 512 else if e ≤ 4096 then 4096 else 32768
theorem zs_l : ∀ n, n < 32 → ((vI ((n : Nat) : Int) &&& 31).toBitVec.smod 32).toNat = n := by decide +kernel
theorem vI_shr {d b : Nat} (hd : d < 2147483648) (hb : b < 32) : vI (d : Int) >>> (vI (b : Int) &&& 31) = vI ((d / 2 ^ b : Nat) : Int) := by
  rw [← vI_nat, ← vI_nat, vI_nat b]
  exact pk_shrN (by omega) _ b (zs_l b hb)
def zcmp (v : Int64) (z : Int) : Int := if v.toInt < z then -1 else if z < v.toInt then 1 else 0
theorem zcmp_in (v : Int64) (z : Int) : (zcmp v z = -1 ∧ v.toInt < z) ∨ (zcmp v z = 0 ∧ v.toInt = z) ∨ (zcmp v z = 1 ∧ z < v.toInt) := by
  unfold zcmp
  (repeat' split) <;> omega
theorem zcmp_is (v : Int64) {z : Int} (h1 : -2147483648 ≤ z) (h2 : z < 2147483648) : lg_cmp v (vI z).toInt64 = vI (zcmp v z) := by
  have e : (vI z).toInt64.toInt = z := by rw [Int32.toInt_toInt64, vI_T h1 h2]
  unfold lg_cmp zcmp
  have l1 : (v < (vI z).toInt64) ↔ v.toInt < z := by rw [Int64.lt_iff_toInt_lt, e]
  have l2 : ((vI z).toInt64 < v) ↔ z < v.toInt := by rw [Int64.lt_iff_toInt_lt, e]
  have l3 : (v = (vI z).toInt64) ↔ v.toInt = z := by rw [← Int64.toInt_inj, e]
  by_cases a : z < v.toInt
  · rw [if_pos (l2.mpr a), if_neg (by omega), if_pos a]; rfl
  · rw [if_neg (fun q => a (l2.mp q))]
    by_cases b : v.toInt = z
    · rw [if_pos (l3.mpr b), if_neg (by omega), if_neg (by omega)]; rfl
    · rw [if_neg (fun q => b (l3.mp q)), if_pos (by omega)]; rfl
set_option maxRecDepth 100000 in
set_option maxHeartbeats 4000000 in
theorem c_X5_within (l : Launch) (D : va_G) (cI cB : ClassId) (sz : Nat) (v : Int) (lo : Int) (hi : Int) (h1 : -2147483648 ≤ v ∧ v < 2147483648) (h2 : -2147483648 ≤ lo ∧ lo < 2147483648) (h3 : -2147483648 ≤ hi ∧ hi < 2147483648) : Met l yX5_within wsX5_within ({ frames := 0, cells := 0, slots := 0, locals := 0 } : Room) (va_Pc [.int (vI (v)), .int (vI (lo)), .int (vI (hi))] (zPre D vwCl [(cI, .int), (cB, .byte)] [] sz)) (va_Qi (S := Int) (fun (r : Int32) => fun b => (r = vI b) ∧ ((b = 1 ∧ lo ≤ v ∧ v ≤ hi) ∨ (b = 0 ∧ ¬ (lo ≤ v ∧ v ≤ hi)))) (fun (u : Int) t => zB D vwCl (va_A [] sz) ((fun b => [] : Int → va_W) u) t) (va_A [] sz)) (0) (0) (va_A [] sz) := by
  refine zMet (by decide) rfl (Nat.le_of_ble_eq_true rfl) (fun p e s m below meth c hx hb hr hts hown hlocks hnm hml hK hns hA hP hD hS ls hl => ?_)
  have hl : lv_has ls 3 [(0, .int (vI (v))), (1, .int (vI (lo))), (2, .int (vI (hi)))] := hl
  have hRf : 0 ≤ ({ frames := 0, cells := 0, slots := 0, locals := 0 } : Room).frames := Nat.le_refl _
  have hRl : 0 ≤ ({ frames := 0, cells := 0, slots := 0, locals := 0 } : Room).locals := Nat.le_refl _
  have hRc : 0 ≤ ({ frames := 0, cells := 0, slots := 0, locals := 0 } : Room).cells := Nat.zero_le _
  have hRs : 0 ≤ ({ frames := 0, cells := 0, slots := 0, locals := 0 } : Room).slots := Nat.zero_le _
  refine lv_iload_n hx hb dX5_within_0 rfl (lv_at hl 0 rfl) ?_
  refine lv_iload_n hx hb dX5_within_1 rfl (lv_at hl 1 rfl) ?_
  refine zw_icmp_lt (tgt := 14) hx hb dX5_within_2 (by decide) ⟨by omega, by omega⟩ ⟨by omega, by omega⟩ (fun c_2 => ?_) (fun c_2 => ?_)
  · refine zw_iconst hx hb dX5_within_14 ?_
    exact zr_z hx hb hr hlocks (0) (by decide +kernel) ⟨rfl, by omega⟩ hP hD hS dX5_within_15
  · refine lv_iload_n hx hb dX5_within_5 rfl (lv_at hl 0 rfl) ?_
    refine lv_iload_n hx hb dX5_within_6 rfl (lv_at hl 2 rfl) ?_
    refine zw_icmp_gt (tgt := 14) hx hb dX5_within_7 (by decide) ⟨by omega, by omega⟩ ⟨by omega, by omega⟩ (fun c_7 => ?_) (fun c_7 => ?_)
    · refine zw_iconst hx hb dX5_within_14 ?_
      exact zr_z hx hb hr hlocks (0) (by decide +kernel) ⟨rfl, by omega⟩ hP hD hS dX5_within_15
    · refine zw_iconst hx hb dX5_within_10 ?_
      refine lv_goto (tgt := 15) hx hb dX5_within_11 (by decide) ?_
      exact zr_z hx hb hr hlocks (1) (by decide +kernel) ⟨rfl, by omega⟩ hP hD hS dX5_within_15

set_option maxRecDepth 100000 in
set_option maxHeartbeats 4000000 in
theorem c_X3_hasPlace (l : Launch) (D : va_G) (cI cB : ClassId) (sz : Nat) (hR : Nat) (aB : Nat) (n : Nat) (pa : Nat) (v : Int) (h1 : -2147483648 ≤ v ∧ v < 2147483648) (h2 : n ≤ 32768) : Met l yX3_hasPlace wsX3_hasPlace ({ frames := 0, cells := 0, slots := 0, locals := 0 } : Room) (va_Pc [.ref hR, .int (vI (v))] (zPre D vwCl [(cI, .int), (cB, .byte)] [(hR, .inr (3, [.ref aB, .int (vI ((n : Nat) : Int)), .int (vI ((pa : Nat) : Int))]))] sz)) (va_Qi (S := Int) (fun (r : Int32) => fun b => (r = vI b) ∧ ((b = 1 ∧ 0 ≤ v ∧ v < n) ∨ (b = 0 ∧ ¬ (0 ≤ v ∧ v < n)))) (fun (u : Int) t => zB D vwCl (va_A [(hR, .inr (3, [.ref aB, .int (vI ((n : Nat) : Int)), .int (vI ((pa : Nat) : Int))]))] sz) ((fun b => [(hR, .inr (3, [.ref aB, .int (vI ((n : Nat) : Int)), .int (vI ((pa : Nat) : Int))]))] : Int → va_W) u) t) (va_A [(hR, .inr (3, [.ref aB, .int (vI ((n : Nat) : Int)), .int (vI ((pa : Nat) : Int))]))] sz)) (0) (0) (va_A [(hR, .inr (3, [.ref aB, .int (vI ((n : Nat) : Int)), .int (vI ((pa : Nat) : Int))]))] sz) := by
  refine zMet (by decide) rfl (Nat.le_of_ble_eq_true rfl) (fun p e s m below meth c hx hb hr hts hown hlocks hnm hml hK hns hA hP hD hS ls hl => ?_)
  have hl : lv_has ls 2 [(0, .ref hR), (1, .int (vI (v)))] := hl
  have hRf : 0 ≤ ({ frames := 0, cells := 0, slots := 0, locals := 0 } : Room).frames := Nat.le_refl _
  have hRl : 0 ≤ ({ frames := 0, cells := 0, slots := 0, locals := 0 } : Room).locals := Nat.le_refl _
  have hRc : 0 ≤ ({ frames := 0, cells := 0, slots := 0, locals := 0 } : Room).cells := Nat.zero_le _
  have hRs : 0 ≤ ({ frames := 0, cells := 0, slots := 0, locals := 0 } : Room).slots := Nat.zero_le _
  refine lv_iload_n hx hb dX3_hasPlace_0 rfl (lv_at hl 1 rfl) ?_
  refine zw_if_lt (tgt := 16) hx hb dX3_hasPlace_1 (by decide) ⟨by omega, by omega⟩ (fun c_1 => ?_) (fun c_1 => ?_)
  · refine zw_iconst hx hb dX3_hasPlace_16 ?_
    exact zr_z hx hb hr hlocks (0) (by decide +kernel) ⟨rfl, by omega⟩ hP hD hS dX3_hasPlace_17
  · refine lv_iload_n hx hb dX3_hasPlace_4 rfl (lv_at hl 1 rfl) ?_
    refine lv_aload_n hx hb dX3_hasPlace_5 rfl (lv_at hl 0 rfl) ?_
    refine va_get (D := D) (ci := 3) (v := .int (vI ((n : Nat) : Int))) (C := RX3) (T := TX3) (N := 3) hx hb hts iwX3 hown hK hP 0 rfl rfl 1 (by decide) (hts _ aw_28) (fun _ h9 => h9) rfl dX3_hasPlace_6 ?_
    refine zw_icmp_ge (tgt := 16) hx hb dX3_hasPlace_9 (by decide) ⟨by omega, by omega⟩ ⟨by omega, by omega⟩ (fun c_9 => ?_) (fun c_9 => ?_)
    · refine zw_iconst hx hb dX3_hasPlace_16 ?_
      exact zr_z hx hb hr hlocks (0) (by decide +kernel) ⟨rfl, by omega⟩ hP hD hS dX3_hasPlace_17
    · refine zw_iconst hx hb dX3_hasPlace_12 ?_
      refine lv_goto (tgt := 17) hx hb dX3_hasPlace_13 (by decide) ?_
      exact zr_z hx hb hr hlocks (1) (by decide +kernel) ⟨rfl, by omega⟩ hP hD hS dX3_hasPlace_17

set_option maxRecDepth 100000 in
set_option maxHeartbeats 4000000 in
theorem c_X3_takes (l : Launch) (D : va_G) (cI cB : ClassId) (sz : Nat) (hR : Nat) (aB : Nat) (n : Nat) (pa : Nat) (v : Int64) (h2 : n ≤ 32768) : Met l yX3_takes wsX3_takes ({ frames := 0, cells := 0, slots := 0, locals := 0 } : Room) (va_Pc [.ref hR, .long (v)] (zPre D vwCl [(cI, .int), (cB, .byte)] [(hR, .inr (3, [.ref aB, .int (vI ((n : Nat) : Int)), .int (vI ((pa : Nat) : Int))]))] sz)) (va_Qi (S := Int) (fun (r : Int32) => fun b => (r = vI b) ∧ ((b = 1 ∧ v.toInt + n ≤ 32768) ∨ (b = 0 ∧ 32768 < v.toInt + n))) (fun (u : Int) t => zB D vwCl (va_A [(hR, .inr (3, [.ref aB, .int (vI ((n : Nat) : Int)), .int (vI ((pa : Nat) : Int))]))] sz) ((fun b => [(hR, .inr (3, [.ref aB, .int (vI ((n : Nat) : Int)), .int (vI ((pa : Nat) : Int))]))] : Int → va_W) u) t) (va_A [(hR, .inr (3, [.ref aB, .int (vI ((n : Nat) : Int)), .int (vI ((pa : Nat) : Int))]))] sz)) (0) (0) (va_A [(hR, .inr (3, [.ref aB, .int (vI ((n : Nat) : Int)), .int (vI ((pa : Nat) : Int))]))] sz) := by
  refine zMet (by decide) rfl (Nat.le_of_ble_eq_true rfl) (fun p e s m below meth c hx hb hr hts hown hlocks hnm hml hK hns hA hP hD hS ls hl => ?_)
  have hl : lv_has ls 3 [(0, .ref hR), (1, .long (v))] := hl
  have hRf : 0 ≤ ({ frames := 0, cells := 0, slots := 0, locals := 0 } : Room).frames := Nat.le_refl _
  have hRl : 0 ≤ ({ frames := 0, cells := 0, slots := 0, locals := 0 } : Room).locals := Nat.le_refl _
  have hRc : 0 ≤ ({ frames := 0, cells := 0, slots := 0, locals := 0 } : Room).cells := Nat.zero_le _
  have hRs : 0 ≤ ({ frames := 0, cells := 0, slots := 0, locals := 0 } : Room).slots := Nat.zero_le _
  refine lv_lload_n hx hb dX3_takes_0 rfl (lv_at hl 1 rfl) ?_
  refine lv_ldc (v := vI 32768) hx hb hown (hts _ aw_292) dX3_takes_1 ?_
  refine lv_aload_n hx hb dX3_takes_3 rfl (lv_at hl 0 rfl) ?_
  refine va_get (D := D) (ci := 3) (v := .int (vI ((n : Nat) : Int))) (C := RX3) (T := TX3) (N := 3) hx hb hts iwX3 hown hK hP 0 rfl rfl 1 (by decide) (hts _ aw_28) (fun _ h9 => h9) rfl dX3_takes_4 ?_
  refine zw_isub hx hb dX3_takes_7 ?_
  refine lv_i2l (v := (vI (32768 - ((n : Nat) : Int))).toInt64) hx hb dX3_takes_8 (rfl) ?_
  refine W.lcmp hx hb dX3_takes_9 ?_
  refine zw_as (z := zcmp v (32768 - (n : Int))) (zcmp_is v (by omega) (by omega)) ?_
  have hz9 := zcmp_in v (32768 - (n : Int))
  refine zw_if_gt (tgt := 17) hx hb dX3_takes_10 (by decide) ⟨by omega, by omega⟩ (fun c_10 => ?_) (fun c_10 => ?_)
  · refine zw_iconst hx hb dX3_takes_17 ?_
    exact zr_z hx hb hr hlocks (0) (by decide +kernel) ⟨rfl, by omega⟩ hP hD hS dX3_takes_18
  · refine zw_iconst hx hb dX3_takes_13 ?_
    refine lv_goto (tgt := 18) hx hb dX3_takes_14 (by decide) ?_
    exact zr_z hx hb hr hlocks (1) (by decide +kernel) ⟨rfl, by omega⟩ hP hD hS dX3_takes_18

set_option maxRecDepth 100000 in
set_option maxHeartbeats 4000000 in
theorem c_X3_empty (l : Launch) (D : va_G) (cI cB : ClassId) (sz : Nat) (hR : Nat) (aB : Nat) (n : Nat) (pa : Nat)  : Met l yX3_empty wsX3_empty ({ frames := 0, cells := 0, slots := 0, locals := 0 } : Room) (va_Pc [.ref hR] (zPre D vwCl [(cI, .int), (cB, .byte)] [(hR, .inr (3, [.ref aB, .int (vI ((n : Nat) : Int)), .int (vI ((pa : Nat) : Int))]))] sz)) (va_Qv (S := Unit) (fun _ => True) (fun (u : Unit) t => zB D vwCl (va_A [(hR, .inr (3, [.ref aB, .int (vI ((n : Nat) : Int)), .int (vI ((pa : Nat) : Int))]))] sz) ((fun _ => [(hR, .inr (3, [.ref aB, .int (vI (0)), .int (vI (0))]))] : Unit → va_W) u) t) (va_A [(hR, .inr (3, [.ref aB, .int (vI ((n : Nat) : Int)), .int (vI ((pa : Nat) : Int))]))] sz)) (0) (0) (va_A [(hR, .inr (3, [.ref aB, .int (vI ((n : Nat) : Int)), .int (vI ((pa : Nat) : Int))]))] sz) := by
  refine zMet (by decide) rfl (Nat.le_of_ble_eq_true rfl) (fun p e s m below meth c hx hb hr hts hown hlocks hnm hml hK hns hA hP hD hS ls hl => ?_)
  have hl : lv_has ls 1 [(0, .ref hR)] := hl
  have hRf : 0 ≤ ({ frames := 0, cells := 0, slots := 0, locals := 0 } : Room).frames := Nat.le_refl _
  have hRl : 0 ≤ ({ frames := 0, cells := 0, slots := 0, locals := 0 } : Room).locals := Nat.le_refl _
  have hRc : 0 ≤ ({ frames := 0, cells := 0, slots := 0, locals := 0 } : Room).cells := Nat.zero_le _
  have hRs : 0 ≤ ({ frames := 0, cells := 0, slots := 0, locals := 0 } : Room).slots := Nat.zero_le _
  refine lv_aload_n hx hb dX3_empty_0 rfl (lv_at hl 0 rfl) ?_
  refine zw_iconst hx hb dX3_empty_1 ?_
  refine va_put (D := D) (ci := 3) (v := .int (vI (0))) (ty := .int) (C := RX3) (T := TX3) (N := 3) hx hb hts iwX3 tyX3 tyX3_ok nmX3 hown hK hP hD hS 0 rfl rfl 1 (by decide) (hts _ aw_28) (fun _ h9 => h9) rfl (by decide +kernel) rfl rfl (Nat.le_of_ble_eq_true rfl) dX3_empty_2 (fun H locs hP hD hS => ?_)
  have hP : va_P D vwCl [(hR, .inr (3, [.ref aB, .int (vI (0)), .int (vI ((pa : Nat) : Int))]))] H := hP
  have hD : va_D _ [(hR, .inr (3, [.ref aB, .int (vI (0)), .int (vI ((pa : Nat) : Int))]))] := hD
  refine lv_aload_n hx hb dX3_empty_5 rfl (lv_at hl 0 rfl) ?_
  refine zw_iconst hx hb dX3_empty_6 ?_
  refine va_put (D := D) (ci := 3) (v := .int (vI (0))) (ty := .int) (C := RX3) (T := TX3) (N := 3) hx hb hts iwX3 tyX3 tyX3_ok nmX3 hown hK hP hD hS 0 rfl rfl 2 (by decide) (hts _ aw_33) (fun _ h9 => h9) rfl (by decide +kernel) rfl rfl (Nat.le_of_ble_eq_true rfl) dX3_empty_7 (fun H locs hP hD hS => ?_)
  have hP : va_P D vwCl [(hR, .inr (3, [.ref aB, .int (vI (0)), .int (vI (0))]))] H := hP
  have hD : va_D _ [(hR, .inr (3, [.ref aB, .int (vI (0)), .int (vI (0))]))] := hD
  exact zr_v hx hb hr hlocks (()) trivial hP hD hS dX3_empty_10

set_option maxRecDepth 100000 in
set_option maxHeartbeats 4000000 in
theorem c_X4_lastOf (l : Launch) (D : va_G) (cI cB : ClassId) (sz : Nat) (hL : Nat) (way : Nat) (win : Nat) (least : Nat) (cap : Nat) (ga : Nat) (gb : Nat) (lp : Nat) (mp : Nat) (v : Int) (h1 : 0 ≤ v ∧ v ≤ 32768) (h2 : ga ≤ 32) : Met l yX4_lastOf wsX4_lastOf ({ frames := 0, cells := 0, slots := 0, locals := 0 } : Room) (va_Pc [.ref hL, .int (vI (v))] (zPre D vwCl [(cI, .int), (cB, .byte)] [(hL, .inr (4, [.int (vI ((way : Nat) : Int)), .int (vI ((win : Nat) : Int)), .int (vI ((least : Nat) : Int)), .int (vI ((cap : Nat) : Int)), .int (vI ((ga : Nat) : Int)), .int (vI ((gb : Nat) : Int)), .int (vI ((lp : Nat) : Int)), .int (vI ((mp : Nat) : Int))]))] sz)) (va_Qi (S := Unit) (fun (r : Int32) => fun _ => (r = vI (v - 1 - ga))) (fun (u : Unit) t => zB D vwCl (va_A [(hL, .inr (4, [.int (vI ((way : Nat) : Int)), .int (vI ((win : Nat) : Int)), .int (vI ((least : Nat) : Int)), .int (vI ((cap : Nat) : Int)), .int (vI ((ga : Nat) : Int)), .int (vI ((gb : Nat) : Int)), .int (vI ((lp : Nat) : Int)), .int (vI ((mp : Nat) : Int))]))] sz) ((fun _ => [(hL, .inr (4, [.int (vI ((way : Nat) : Int)), .int (vI ((win : Nat) : Int)), .int (vI ((least : Nat) : Int)), .int (vI ((cap : Nat) : Int)), .int (vI ((ga : Nat) : Int)), .int (vI ((gb : Nat) : Int)), .int (vI ((lp : Nat) : Int)), .int (vI ((mp : Nat) : Int))]))] : Unit → va_W) u) t) (va_A [(hL, .inr (4, [.int (vI ((way : Nat) : Int)), .int (vI ((win : Nat) : Int)), .int (vI ((least : Nat) : Int)), .int (vI ((cap : Nat) : Int)), .int (vI ((ga : Nat) : Int)), .int (vI ((gb : Nat) : Int)), .int (vI ((lp : Nat) : Int)), .int (vI ((mp : Nat) : Int))]))] sz)) (0) (0) (va_A [(hL, .inr (4, [.int (vI ((way : Nat) : Int)), .int (vI ((win : Nat) : Int)), .int (vI ((least : Nat) : Int)), .int (vI ((cap : Nat) : Int)), .int (vI ((ga : Nat) : Int)), .int (vI ((gb : Nat) : Int)), .int (vI ((lp : Nat) : Int)), .int (vI ((mp : Nat) : Int))]))] sz) := by
  refine zMet (by decide) rfl (Nat.le_of_ble_eq_true rfl) (fun p e s m below meth c hx hb hr hts hown hlocks hnm hml hK hns hA hP hD hS ls hl => ?_)
  have hl : lv_has ls 2 [(0, .ref hL), (1, .int (vI (v)))] := hl
  have hRf : 0 ≤ ({ frames := 0, cells := 0, slots := 0, locals := 0 } : Room).frames := Nat.le_refl _
  have hRl : 0 ≤ ({ frames := 0, cells := 0, slots := 0, locals := 0 } : Room).locals := Nat.le_refl _
  have hRc : 0 ≤ ({ frames := 0, cells := 0, slots := 0, locals := 0 } : Room).cells := Nat.zero_le _
  have hRs : 0 ≤ ({ frames := 0, cells := 0, slots := 0, locals := 0 } : Room).slots := Nat.zero_le _
  refine lv_iload_n hx hb dX4_lastOf_0 rfl (lv_at hl 1 rfl) ?_
  refine zw_iconst hx hb dX4_lastOf_1 ?_
  refine zw_isub hx hb dX4_lastOf_2 ?_
  refine lv_aload_n hx hb dX4_lastOf_3 rfl (lv_at hl 0 rfl) ?_
  refine va_get (D := D) (ci := 4) (v := .int (vI ((ga : Nat) : Int))) (C := RX4) (T := TX4) (N := 8) hx hb hts iwX4 hown hK hP 0 rfl rfl 4 (by decide) (hts _ aw_65) (fun _ h9 => h9) rfl dX4_lastOf_4 ?_
  refine zw_isub hx hb dX4_lastOf_7 ?_
  refine zw_to (z2 := v - 1 - ga) (by omega) ?_
  exact zr_i hx hb hr hlocks (()) rfl hP hD hS dX4_lastOf_8

set_option maxRecDepth 100000 in
set_option maxHeartbeats 4000000 in
theorem c_X4_endOf (l : Launch) (D : va_G) (cI cB : ClassId) (sz : Nat) (hL : Nat) (way : Nat) (win : Nat) (least : Nat) (cap : Nat) (ga : Nat) (gb : Nat) (lp : Nat) (mp : Nat) (v : Int) (h1 : 0 ≤ v ∧ v ≤ 32768) (h2 : gb ≤ 32) : Met l yX4_endOf wsX4_endOf ({ frames := 1, cells := 0, slots := 0, locals := 21 } : Room) (va_Pc [.ref hL, .int (vI (v))] (zPre D vwCl [(cI, .int), (cB, .byte)] [(hL, .inr (4, [.int (vI ((way : Nat) : Int)), .int (vI ((win : Nat) : Int)), .int (vI ((least : Nat) : Int)), .int (vI ((cap : Nat) : Int)), .int (vI ((ga : Nat) : Int)), .int (vI ((gb : Nat) : Int)), .int (vI ((lp : Nat) : Int)), .int (vI ((mp : Nat) : Int))]))] sz)) (va_Qi (S := Unit) (fun (r : Int32) => fun _ => (r = vI (max 0 (v - gb)))) (fun (u : Unit) t => zB D vwCl (va_A [(hL, .inr (4, [.int (vI ((way : Nat) : Int)), .int (vI ((win : Nat) : Int)), .int (vI ((least : Nat) : Int)), .int (vI ((cap : Nat) : Int)), .int (vI ((ga : Nat) : Int)), .int (vI ((gb : Nat) : Int)), .int (vI ((lp : Nat) : Int)), .int (vI ((mp : Nat) : Int))]))] sz) ((fun _ => [(hL, .inr (4, [.int (vI ((way : Nat) : Int)), .int (vI ((win : Nat) : Int)), .int (vI ((least : Nat) : Int)), .int (vI ((cap : Nat) : Int)), .int (vI ((ga : Nat) : Int)), .int (vI ((gb : Nat) : Int)), .int (vI ((lp : Nat) : Int)), .int (vI ((mp : Nat) : Int))]))] : Unit → va_W) u) t) (va_A [(hL, .inr (4, [.int (vI ((way : Nat) : Int)), .int (vI ((win : Nat) : Int)), .int (vI ((least : Nat) : Int)), .int (vI ((cap : Nat) : Int)), .int (vI ((ga : Nat) : Int)), .int (vI ((gb : Nat) : Int)), .int (vI ((lp : Nat) : Int)), .int (vI ((mp : Nat) : Int))]))] sz)) (0) (0) (va_A [(hL, .inr (4, [.int (vI ((way : Nat) : Int)), .int (vI ((win : Nat) : Int)), .int (vI ((least : Nat) : Int)), .int (vI ((cap : Nat) : Int)), .int (vI ((ga : Nat) : Int)), .int (vI ((gb : Nat) : Int)), .int (vI ((lp : Nat) : Int)), .int (vI ((mp : Nat) : Int))]))] sz) := by
  refine zMet (by decide) rfl (Nat.le_of_ble_eq_true rfl) (fun p e s m below meth c hx hb hr hts hown hlocks hnm hml hK hns hA hP hD hS ls hl => ?_)
  have hl : lv_has ls 2 [(0, .ref hL), (1, .int (vI (v)))] := hl
  have hRf : 1 ≤ ({ frames := 1, cells := 0, slots := 0, locals := 21 } : Room).frames := Nat.le_refl _
  have hRl : 21 ≤ ({ frames := 1, cells := 0, slots := 0, locals := 21 } : Room).locals := Nat.le_refl _
  have hRc : 0 ≤ ({ frames := 1, cells := 0, slots := 0, locals := 21 } : Room).cells := Nat.zero_le _
  have hRs : 0 ≤ ({ frames := 1, cells := 0, slots := 0, locals := 21 } : Room).slots := Nat.zero_le _
  refine zw_iconst hx hb dX4_endOf_0 ?_
  refine lv_iload_n hx hb dX4_endOf_1 rfl (lv_at hl 1 rfl) ?_
  refine lv_aload_n hx hb dX4_endOf_2 rfl (lv_at hl 0 rfl) ?_
  refine va_get (D := D) (ci := 4) (v := .int (vI ((gb : Nat) : Int))) (C := RX4) (T := TX4) (N := 8) hx hb hts iwX4 hown hK hP 0 rfl rfl 5 (by decide) (hts _ aw_67) (fun _ h9 => h9) rfl dX4_endOf_3 ?_
  refine zw_isub hx hb dX4_endOf_6 ?_
  refine va_mmax hx hb (hml.trans hl.1.symm) hown (hts _ aw_384) (hts _ aw_378) (hts _ aw_9) (hts _ aw_379) (Nat.le_trans (Nat.le_of_ble_eq_true rfl) hRf) (Nat.le_trans (Nat.le_of_ble_eq_true rfl) hRl) hRc hRs dX4_endOf_7 ?_
  refine zw_as (vI_max ⟨by omega, by omega⟩ ⟨by omega, by omega⟩) ?_
  refine zw_to (z2 := max 0 (v - gb)) (by omega) ?_
  exact zr_i hx hb hr hlocks (()) rfl hP hD hS dX4_endOf_10

set_option maxRecDepth 100000 in
set_option maxHeartbeats 4000000 in
theorem c_X5_roomFor (l : Launch) (D : va_G) (cI cB : ClassId) (sz : Nat) (ee : Nat) (h1 : ee ≤ 32768) : Met l yX5_roomFor wsX5_roomFor ({ frames := 0, cells := 0, slots := 0, locals := 0 } : Room) (va_Pc [.int (vI ((ee : Nat) : Int))] (zPre D vwCl [(cI, .int), (cB, .byte)] [] sz)) (va_Qi (S := Unit) (fun (r : Int32) => fun _ => (r = vI ((zroom ee : Nat) : Int))) (fun (u : Unit) t => zB D vwCl (va_A [] sz) ((fun _ => [] : Unit → va_W) u) t) (va_A [] sz)) (0) (0) (va_A [] sz) := by
  refine zMet (by decide) rfl (Nat.le_of_ble_eq_true rfl) (fun p e s m below meth c hx hb hr hts hown hlocks hnm hml hK hns hA hP hD hS ls hl => ?_)
  have hl : lv_has ls 2 [(0, .int (vI ((ee : Nat) : Int)))] := hl
  have hRf : 0 ≤ ({ frames := 0, cells := 0, slots := 0, locals := 0 } : Room).frames := Nat.le_refl _
  have hRl : 0 ≤ ({ frames := 0, cells := 0, slots := 0, locals := 0 } : Room).locals := Nat.le_refl _
  have hRc : 0 ≤ ({ frames := 0, cells := 0, slots := 0, locals := 0 } : Room).cells := Nat.zero_le _
  have hRs : 0 ≤ ({ frames := 0, cells := 0, slots := 0, locals := 0 } : Room).slots := Nat.zero_le _
  refine zw_sipush hx hb dX5_roomFor_0 (by decide +kernel) ?_
  refine lv_istore_n (lv' := [(1, .int (vI (512))), (0, .int (vI ((ee : Nat) : Int)))]) hx hb dX5_roomFor_3 rfl hl (by decide) rfl (fun ls hl => ?_)
  refine lv_iload_n hx hb dX5_roomFor_4 rfl (lv_at hl 0 rfl) ?_
  refine lv_iload_n hx hb dX5_roomFor_5 rfl (lv_at hl 1 rfl) ?_
  refine zw_icmp_ge (tgt := 23) hx hb dX5_roomFor_6 (by decide) ⟨by omega, by omega⟩ ⟨by omega, by omega⟩ (fun c_6 => ?_) (fun c_6 => ?_)
  · refine lv_iload_n hx hb dX5_roomFor_23 rfl (lv_at hl 0 rfl) ?_
    refine zw_to (z2 := ((zroom ee : Nat) : Int)) (by (have h9 : zroom ee = 512 := (by unfold zroom; (repeat' split) <;> omega)); omega) ?_
    exact zr_i hx hb hr hlocks (()) rfl hP hD hS dX5_roomFor_24
  · refine lv_iload_n hx hb dX5_roomFor_9 rfl (lv_at hl 0 rfl) ?_
    refine lv_ldc (v := vI 32768) hx hb hown (hts _ aw_304) dX5_roomFor_10 ?_
    refine zw_icmp_ge (tgt := 23) hx hb dX5_roomFor_12 (by decide) ⟨by omega, by omega⟩ ⟨by omega, by omega⟩ (fun c_12 => False.elim (by omega)) (fun c_12 => ?_)
    refine lv_iload_n hx hb dX5_roomFor_15 rfl (lv_at hl 0 rfl) ?_
    refine zw_bipush hx hb dX5_roomFor_16 (by decide +kernel) ?_
    refine zw_imul hx hb dX5_roomFor_18 ?_
    refine zw_to (z2 := 4096) (by omega) ?_
    refine lv_istore_n (lv' := [(1, .int (vI (4096))), (0, .int (vI ((ee : Nat) : Int)))]) hx hb dX5_roomFor_19 rfl hl (by decide) rfl (fun ls hl => ?_)
    refine lv_goto (tgt := 4) hx hb dX5_roomFor_20 (by decide) ?_
    refine lv_iload_n hx hb dX5_roomFor_4 rfl (lv_at hl 0 rfl) ?_
    refine lv_iload_n hx hb dX5_roomFor_5 rfl (lv_at hl 1 rfl) ?_
    refine zw_icmp_ge (tgt := 23) hx hb dX5_roomFor_6 (by decide) ⟨by omega, by omega⟩ ⟨by omega, by omega⟩ (fun c_6 => ?_) (fun c_6 => ?_)
    · refine lv_iload_n hx hb dX5_roomFor_23 rfl (lv_at hl 0 rfl) ?_
      refine zw_to (z2 := ((zroom ee : Nat) : Int)) (by (have h9 : zroom ee = 4096 := (by unfold zroom; (repeat' split) <;> omega)); omega) ?_
      exact zr_i hx hb hr hlocks (()) rfl hP hD hS dX5_roomFor_24
    · refine lv_iload_n hx hb dX5_roomFor_9 rfl (lv_at hl 0 rfl) ?_
      refine lv_ldc (v := vI 32768) hx hb hown (hts _ aw_304) dX5_roomFor_10 ?_
      refine zw_icmp_ge (tgt := 23) hx hb dX5_roomFor_12 (by decide) ⟨by omega, by omega⟩ ⟨by omega, by omega⟩ (fun c_12 => False.elim (by omega)) (fun c_12 => ?_)
      refine lv_iload_n hx hb dX5_roomFor_15 rfl (lv_at hl 0 rfl) ?_
      refine zw_bipush hx hb dX5_roomFor_16 (by decide +kernel) ?_
      refine zw_imul hx hb dX5_roomFor_18 ?_
      refine zw_to (z2 := 32768) (by omega) ?_
      refine lv_istore_n (lv' := [(1, .int (vI (32768))), (0, .int (vI ((ee : Nat) : Int)))]) hx hb dX5_roomFor_19 rfl hl (by decide) rfl (fun ls hl => ?_)
      refine lv_goto (tgt := 4) hx hb dX5_roomFor_20 (by decide) ?_
      refine lv_iload_n hx hb dX5_roomFor_4 rfl (lv_at hl 0 rfl) ?_
      refine lv_iload_n hx hb dX5_roomFor_5 rfl (lv_at hl 1 rfl) ?_
      refine zw_icmp_ge (tgt := 23) hx hb dX5_roomFor_6 (by decide) ⟨by omega, by omega⟩ ⟨by omega, by omega⟩ (fun c_6 => ?_) (fun c_6 => False.elim (by omega))
      refine lv_iload_n hx hb dX5_roomFor_23 rfl (lv_at hl 0 rfl) ?_
      refine zw_to (z2 := ((zroom ee : Nat) : Int)) (by (have h9 : zroom ee = 32768 := (by unfold zroom; (repeat' split) <;> omega)); omega) ?_
      exact zr_i hx hb hr hlocks (()) rfl hP hD hS dX5_roomFor_24

set_option maxRecDepth 100000 in
set_option maxHeartbeats 4000000 in
theorem s_bitsOf {p : Program} {l : Launch} {e : Env} {R : Room} {s : State} {m : MethodId} {args : Array Value} {below : List Frame} {meth : Method} {c : Code} {Q : State → Prop} {A : Nat → Prop} {H0 : Heap} {D : va_G} {cI cB : ClassId} {cells slots : Nat} (hx : p.tables.exec = Jvm.exec) (hb : c.code = cX5_bitsOf) (hts : ∀ w ∈ zALL, w.before args s = true) (hown : s.vm.findClass RX5 = some m.cls) (hml : c.maxLocals = 2) (hK : va_K D vwCl [(cI, .int), (cB, .byte)] s) (hns : zNs s) (hA : ∀ q, H0.size ≤ q → A q) (hRf : 0 ≤ R.frames) (hRl : 0 ≤ R.locals) (hRc : cells ≤ R.cells) (hRs : slots ≤ R.slots) (d : Nat) (h1 : d < 2147483648)
    (K1 : ∀ (b2 : Nat) (H : Heap) (locs : List Loc) (ls : Array Slot), (zbit d b2 ∧ b2 ≤ 31) → va_P D vwCl [] H → va_D A [] → va_S A H0 H locs → lv_has ls 2 [(1, .int (vI ((b2 : Nat) : Int)))] → W p l e R s m args below meth c H locs cells slots Q (F0 m 20 ls []))
    : ∀ (fuel : Nat), ∀ (b : Nat) (_ : 31 - b < fuel) (H : Heap) (locs : List Loc) (ls : Array Slot), (b ≤ 31) → (b = 0 ∨ 2 ^ (b - 1) ≤ d) → va_P D vwCl [] H → va_D A [] → va_S A H0 H locs → lv_has ls 2 [(0, .int (vI ((d : Nat) : Int))), (1, .int (vI ((b : Nat) : Int)))] → W p l e R s m args below meth c H locs cells slots Q (F0 m 2 ls []) := by
  intro fuel
  induction fuel with
  | zero =>
    intro b hfuel
    exact absurd hfuel (Nat.not_lt_zero _)
  | succ fuel ih =>
    intro b hfuel H locs ls hb1 hb2 hP hD hS hl
    refine lv_iload_n hx hb dX5_bitsOf_2 rfl (lv_at hl 1 rfl) ?_
    refine zw_bipush hx hb dX5_bitsOf_3 (by decide +kernel) ?_
    refine zw_icmp_ge (tgt := 20) hx hb dX5_bitsOf_5 (by decide) ⟨by omega, by omega⟩ ⟨by omega, by omega⟩ (fun c_5 => ?_) (fun c_5 => ?_)
    · exact K1 b _ _ _ (⟨⟨by (have e9 : b = 31 := (by omega)); rw [e9]; omega, hb2⟩, hb1⟩) (hP.sub [] rfl) (hD.sub [] (by decide) rfl) hS (lv_sub hl [1] rfl)
    · refine lv_iload_n hx hb dX5_bitsOf_8 rfl (lv_at hl 0 rfl) ?_
      refine lv_iload_n hx hb dX5_bitsOf_9 rfl (lv_at hl 1 rfl) ?_
      refine lv_ishr hx hb dX5_bitsOf_10 ?_
      refine zw_as (z := ((d / 2 ^ b : Nat) : Int)) (vI_shr (by omega) (by omega)) ?_
      have h9 : d / 2 ^ b ≤ d := Nat.div_le_self _ _
      have h10 : (0 : Int) ≤ ((d / 2 ^ b : Nat) : Int) := Int.natCast_nonneg _
      have h11 : ((d / 2 ^ b : Nat) : Int) ≤ (d : Int) := Int.ofNat_le.mpr h9
      refine zw_if_eq (tgt := 20) hx hb dX5_bitsOf_11 (by decide) ⟨by omega, by omega⟩ (fun c_11 => ?_) (fun c_11 => ?_)
      · exact K1 b _ _ _ (⟨⟨(Nat.div_eq_zero_iff_lt (Nat.two_pow_pos b)).mp (by omega), hb2⟩, hb1⟩) (hP.sub [] rfl) (hD.sub [] (by decide) rfl) hS (lv_sub hl [1] rfl)
      · refine lv_iinc (v := vI ((b + 1 : Nat) : Int)) (lv' := [(1, .int (vI ((b + 1 : Nat) : Int))), (0, .int (vI ((d : Nat) : Int)))]) hx hb dX5_bitsOf_14 hl (k := 1) rfl ((vI_add _ _).trans (congrArg vI (by omega))) (by decide) rfl (fun ls hl => ?_)
        refine lv_goto (tgt := 2) hx hb dX5_bitsOf_17 (by decide) ?_
        exact ih (b + 1) (by omega) _ _ _ (by omega) (Or.inr (by rw [Nat.add_sub_cancel]; exact Nat.le_of_not_lt (fun z => c_11 (by rw [Nat.div_eq_of_lt z]; rfl)))) (hP.sub [] rfl) (hD.sub [] (by decide) rfl) hS (lv_sub hl [1, 0] rfl)

set_option maxRecDepth 100000 in
set_option maxHeartbeats 4000000 in
theorem c_X5_bitsOf (l : Launch) (D : va_G) (cI cB : ClassId) (sz : Nat) (d : Nat) (h1 : d < 2147483648) : Met l yX5_bitsOf wsX5_bitsOf ({ frames := 0, cells := 0, slots := 0, locals := 0 } : Room) (va_Pc [.int (vI ((d : Nat) : Int))] (zPre D vwCl [(cI, .int), (cB, .byte)] [] sz)) (va_Qi (S := Nat) (fun (r : Int32) => fun b => (r = vI ((b : Nat) : Int)) ∧ (zbit d b ∧ b ≤ 31)) (fun (u : Nat) t => zB D vwCl (va_A [] sz) ((fun b => [] : Nat → va_W) u) t) (va_A [] sz)) (0) (0) (va_A [] sz) := by
  refine zMet (by decide) rfl (Nat.le_of_ble_eq_true rfl) (fun p e s m below meth c hx hb hr hts hown hlocks hnm hml hK hns hA hP hD hS ls hl => ?_)
  have hl : lv_has ls 2 [(0, .int (vI ((d : Nat) : Int)))] := hl
  have hRf : 0 ≤ ({ frames := 0, cells := 0, slots := 0, locals := 0 } : Room).frames := Nat.le_refl _
  have hRl : 0 ≤ ({ frames := 0, cells := 0, slots := 0, locals := 0 } : Room).locals := Nat.le_refl _
  have hRc : 0 ≤ ({ frames := 0, cells := 0, slots := 0, locals := 0 } : Room).cells := Nat.zero_le _
  have hRs : 0 ≤ ({ frames := 0, cells := 0, slots := 0, locals := 0 } : Room).slots := Nat.zero_le _
  refine zw_iconst hx hb dX5_bitsOf_0 ?_
  refine lv_istore_n (lv' := [(1, .int (vI (0))), (0, .int (vI ((d : Nat) : Int)))]) hx hb dX5_bitsOf_1 rfl hl (by decide) rfl (fun ls hl => ?_)
  refine s_bitsOf hx hb hts hown hml hK hns hA (Nat.le_trans (Nat.le_of_ble_eq_true rfl) hRf) (Nat.le_trans (Nat.le_of_ble_eq_true rfl) hRl) hRc hRs d (by omega) (fun b2 H locs ls hz hP hD hS hl => ?_) (31 - 0 + 1) 0 (Nat.lt_succ_self _) _ _ _ (by omega) (by omega) (hP.sub [] rfl) (hD.sub [] (by decide) rfl) hS (lv_sub hl [1, 0] rfl)
  refine lv_iload_n hx hb dX5_bitsOf_20 rfl (lv_at hl 0 rfl) ?_
  exact zr_i hx hb hr hlocks (b2) ⟨rfl, hz⟩ hP hD hS dX5_bitsOf_21
end
section
theorem zU_fill {g : Nat → Int} {k : Nat} {v : Int} (h : ∀ j, j < k → g j = v) : ∀ j, j < k + 1 → zU g k v j = v := fun j hj => by
  by_cases e : j = k
  · rw [e]; exact zU_s
  · exact (zU_n e).trans (h j (by omega))
theorem zU_by {d : Nat → Int} {k : Nat} {v : Int} (h : ∀ j, -128 ≤ d j ∧ d j < 128) (hv : -128 ≤ v ∧ v < 128) : ∀ j, -128 ≤ zU d k v j ∧ zU d k v j < 128 := fun j => by
  by_cases e : j = k
  · rw [e, zU_s]; exact hv
  · rw [zU_n e]; exact h j
theorem zcp_by {d : Nat → Int} {k : Nat} (h : ∀ j, -128 ≤ d j ∧ d j < 128) : ∀ j, -128 ≤ (fun j => if j < k then d j else (fun _ => (0 : Int)) j) j ∧ (fun j => if j < k then d j else (fun _ => (0 : Int)) j) j < 128 := fun j => by
  by_cases e : j < k
  · simp only [if_pos e]; exact h j
  · simp only [if_neg e]; omega
/-- byte k of a long, the highest first -/
def zbyte (v : Int64) (k : Nat) : Int := ((((v).toUInt64 >>> ((vI (8 * (7 - ((k : Nat) : Int)))).toInt64.toUInt64 &&& Int64.toUInt64 63)).toInt64).toInt32).toInt8.toInt
theorem zbyte_in (v : Int64) (k : Nat) : -128 ≤ zbyte v k ∧ zbyte v k < 128 := ⟨by have := Int8.le_toInt ((((v).toUInt64 >>> ((vI (8 * (7 - ((k : Nat) : Int)))).toInt64.toUInt64 &&& Int64.toUInt64 63)).toInt64).toInt32).toInt8; unfold zbyte; omega, by have := Int8.toInt_lt ((((v).toUInt64 >>> ((vI (8 * (7 - ((k : Nat) : Int)))).toInt64.toUInt64 &&& Int64.toUInt64 63)).toInt64).toInt32).toInt8; unfold zbyte; omega⟩
theorem zU_app {d : Nat → Int} {n k f : Nat} {v : Int64} (hf : f = n + k) (h : ∀ j, j < k → d (n + j) = zbyte v j) : ∀ j, j < k + 1 → zU d f (zbyte v k) (n + j) = zbyte v j := fun j hj => by
  by_cases e : j = k
  · rw [e, ← hf]; exact zU_s
  · exact (zU_n (by omega)).trans (h j (by omega))
theorem zU_rep {d : Nat → Int} {n f per : Nat} (hp : 1 ≤ per ∧ per ≤ f) (h : ∀ j, n ≤ j → j < f → d j = d (j - per)) : ∀ j, n ≤ j → j < f + 1 → zU d f (d (f - per)) j = zU d f (d (f - per)) (j - per) := fun j h1 h2 => by
  by_cases e : j = f
  · rw [e, zU_s, zU_n (by omega)]
  · rw [zU_n e, zU_n (by omega)]; exact h j h1 (by omega)
def zNB (NB t : Nat) : Nat := if NB < t then zroom t else NB
def zmc (NB t : Nat) : Nat := if NB < t then 1 else 0
def zms (NB t : Nat) : Nat := if NB < t then zroom t else 0
theorem zNB_ge (NB t : Nat) : t ≤ 32768 → t ≤ zNB NB t ∧ NB ≤ zNB NB t := by
  unfold zNB zroom
  (repeat' split) <;> omega
theorem zNB_le (NB t : Nat) (h : NB ≤ 32768) : zNB NB t ≤ 32768 := by
  unfold zNB zroom
  (repeat' split) <;> omega
set_option maxRecDepth 100000 in
set_option maxHeartbeats 4000000 in
theorem s_fill {p : Program} {l : Launch} {e : Env} {R : Room} {s : State} {m : MethodId} {args : Array Value} {below : List Frame} {meth : Method} {c : Code} {Q : State → Prop} {A : Nat → Prop} {H0 : Heap} {D : va_G} {cI cB : ClassId} {cells slots : Nat} (hx : p.tables.exec = Jvm.exec) (hb : c.code = cJ7_fill) (hts : ∀ w ∈ zALL, w.before args s = true) (hown : s.vm.findClass RJ7 = some m.cls) (hml : c.maxLocals = 4) (hK : va_K D vwCl [(cI, .int), (cB, .byte)] s) (hns : zNs s) (hA : ∀ q, H0.size ≤ q → A q) (hRf : 0 ≤ R.frames) (hRl : 0 ≤ R.locals) (hRc : cells ≤ R.cells) (hRs : slots ≤ R.slots) (ad : Nat) (n : Nat) (v : Int) (h1 : n ≤ 1000000)
    (K1 : ∀ (g2 : Nat → Int) (H : Heap) (locs : List Loc) (ls : Array Slot), (∀ j, j < n → g2 j = v) → va_P D vwCl [ia ad cI (n) (g2)] H → va_D A [ia ad cI (n) (g2)] → va_S A H0 H locs → lv_has ls 4 [] → W p l e R s m args below meth c H locs cells slots Q (F0 m 20 ls []))
    : ∀ (fuel : Nat), ∀ (k : Nat) (g : Nat → Int) (_ : n - k < fuel) (H : Heap) (locs : List Loc) (ls : Array Slot), (k ≤ n) → (∀ j, j < k → g j = v) → va_P D vwCl [ia ad cI (n) (g)] H → va_D A [ia ad cI (n) (g)] → va_S A H0 H locs → lv_has ls 4 [(0, .ref ad), (1, .int (vI (v))), (2, .int (vI ((k : Nat) : Int))), (3, .int (vI ((n : Nat) : Int)))] → W p l e R s m args below meth c H locs cells slots Q (F0 m 5 ls []) := by
  intro fuel
  induction fuel with
  | zero =>
    intro k g hfuel
    exact absurd hfuel (Nat.not_lt_zero _)
  | succ fuel ih =>
    intro k g hfuel H locs ls hk hg hP hD hS hl
    refine lv_iload_n hx hb dJ7_fill_5 rfl (lv_at hl 2 rfl) ?_
    refine lv_iload_n hx hb dJ7_fill_6 rfl (lv_at hl 3 rfl) ?_
    refine zw_icmp_ge (tgt := 20) hx hb dJ7_fill_7 (by decide) ⟨by omega, by omega⟩ ⟨by omega, by omega⟩ (fun c_7 => ?_) (fun c_7 => ?_)
    · exact K1 g _ _ _ (fun j hj => hg j (by omega)) (hP.sub [0] rfl) (hD.sub [0] (by decide) rfl) hS (lv_sub hl [] rfl)
    · refine lv_aload_n hx hb dJ7_fill_10 rfl (lv_at hl 0 rfl) ?_
      refine lv_iload_n hx hb dJ7_fill_11 rfl (lv_at hl 2 rfl) ?_
      refine lv_iload_n hx hb dJ7_fill_12 rfl (lv_at hl 1 rfl) ?_
      refine zw_iast hx hb hK hP hD hS 0 0 rfl rfl (k) (by omega) (by omega) (by omega) dJ7_fill_13 (fun H locs hP hD hS => ?_)
      have hP : va_P D vwCl [ia ad cI (n) (zU g k v)] H := hP
      have hD : va_D _ [ia ad cI (n) (zU g k v)] := hD
      refine lv_iinc (v := vI ((k + 1 : Nat) : Int)) (lv' := [(2, .int (vI ((k + 1 : Nat) : Int))), (0, .ref ad), (1, .int (vI (v))), (3, .int (vI ((n : Nat) : Int)))]) hx hb dJ7_fill_14 hl (k := 2) rfl ((vI_add _ _).trans (congrArg vI (by omega))) (by decide) rfl (fun ls hl => ?_)
      refine lv_goto (tgt := 5) hx hb dJ7_fill_17 (by decide) ?_
      exact ih (k + 1) (zU g k v) (by omega) _ _ _ (by omega) (zU_fill hg) (hP.sub [0] rfl) (hD.sub [0] (by decide) rfl) hS (lv_sub hl [1, 2, 0, 3] rfl)

set_option maxRecDepth 100000 in
set_option maxHeartbeats 4000000 in
theorem c_J7_fill (l : Launch) (D : va_G) (cI cB : ClassId) (sz : Nat) (ad : Nat) (v : Int) (n : Nat) (g : Nat → Int) (h1 : n ≤ 1000000) : Met l yJ7_fill wsJ7_fill ({ frames := 0, cells := 0, slots := 0, locals := 0 } : Room) (va_Pc [.ref ad, .int (vI (v))] (zPre D vwCl [(cI, .int), (cB, .byte)] [ia ad cI (n) (g)] sz)) (va_Qv (S := (Nat → Int)) (fun g2 => (∀ j, j < n → g2 j = v)) (fun (u : (Nat → Int)) t => zB D vwCl (va_A [ia ad cI (n) (g)] sz) ((fun g2 => [ia ad cI (n) (g2)] : (Nat → Int) → va_W) u) t) (va_A [ia ad cI (n) (g)] sz)) (0) (0) (va_A [ia ad cI (n) (g)] sz) := by
  refine zMet (by decide) rfl (Nat.le_of_ble_eq_true rfl) (fun p e s m below meth c hx hb hr hts hown hlocks hnm hml hK hns hA hP hD hS ls hl => ?_)
  have hl : lv_has ls 4 [(0, .ref ad), (1, .int (vI (v)))] := hl
  have hRf : 0 ≤ ({ frames := 0, cells := 0, slots := 0, locals := 0 } : Room).frames := Nat.le_refl _
  have hRl : 0 ≤ ({ frames := 0, cells := 0, slots := 0, locals := 0 } : Room).locals := Nat.le_refl _
  have hRc : 0 ≤ ({ frames := 0, cells := 0, slots := 0, locals := 0 } : Room).cells := Nat.zero_le _
  have hRs : 0 ≤ ({ frames := 0, cells := 0, slots := 0, locals := 0 } : Room).slots := Nat.zero_le _
  refine zw_iconst hx hb dJ7_fill_0 ?_
  refine lv_istore_n (lv' := [(2, .int (vI (0))), (0, .ref ad), (1, .int (vI (v)))]) hx hb dJ7_fill_1 rfl hl (by decide) rfl (fun ls hl => ?_)
  refine lv_aload_n hx hb dJ7_fill_2 rfl (lv_at hl 1 rfl) ?_
  refine zw_alen hx hb hK hP 0 0 rfl rfl dJ7_fill_3 ?_
  refine lv_istore_n (lv' := [(3, .int (vI ((n : Nat) : Int))), (2, .int (vI (0))), (0, .ref ad), (1, .int (vI (v)))]) hx hb dJ7_fill_4 rfl hl (by decide) rfl (fun ls hl => ?_)
  refine s_fill hx hb hts hown hml hK hns hA (Nat.le_trans (Nat.le_of_ble_eq_true rfl) hRf) (Nat.le_trans (Nat.le_of_ble_eq_true rfl) hRl) hRc hRs ad n v (by omega) (fun g2 H locs ls hg hP hD hS hl => ?_) (n - 0 + 1) 0 g (Nat.lt_succ_self _) _ _ _ (by omega) (fun j hj => absurd hj (Nat.not_lt_zero j)) (hP.sub [0] rfl) (hD.sub [0] (by decide) rfl) hS (lv_sub hl [2, 3, 1, 0] rfl)
  exact zr_v hx hb hr hlocks (g2) (hg) hP hD hS dJ7_fill_20

set_option maxRecDepth 100000 in
set_option maxHeartbeats 4000000 in
theorem c_J7_copyOf (l : Launch) (D : va_G) (cI cB : ClassId) (sz : Nat) (ad : Nat) (nn : Nat) (n : Nat) (d : Nat → Int) (h1 : n < nn ∧ nn ≤ 32768) (hby : ∀ j, -128 ≤ d j ∧ d j < 128) : Met l yJ7_copyOf wsJ7_copyOf ({ frames := 1, cells := 1, slots := nn, locals := 40 } : Room) (va_Pc [.ref ad, .int (vI ((nn : Nat) : Int))] (zPre D vwCl [(cI, .int), (cB, .byte)] [ia ad cB (n) (d)] sz)) (va_Qr (S := Unit) (fun _ => True) (fun (u : Unit) (ra : Nat) t => zB D vwCl (va_A [ia ad cB (n) (d)] sz) ((fun _ => [ia ad cB (n) (d), ia ra cB (nn) (fun j => if j < n then d j else (fun _ => 0) j)] : Unit → va_W) u) t) (va_A [ia ad cB (n) (d)] sz)) (1) (nn) (va_A [ia ad cB (n) (d)] sz) := by
  refine zMet (by decide) rfl (Nat.le_of_ble_eq_true rfl) (fun p e s m below meth c hx hb hr hts hown hlocks hnm hml hK hns hA hP hD hS ls hl => ?_)
  have hl : lv_has ls 3 [(0, .ref ad), (1, .int (vI ((nn : Nat) : Int)))] := hl
  have hRf : 1 ≤ ({ frames := 1, cells := 1, slots := nn, locals := 40 } : Room).frames := Nat.le_refl _
  have hRl : 40 ≤ ({ frames := 1, cells := 1, slots := nn, locals := 40 } : Room).locals := Nat.le_refl _
  have hRc : 0 ≤ ({ frames := 1, cells := 1, slots := nn, locals := 40 } : Room).cells := Nat.zero_le _
  have hRs : 0 ≤ ({ frames := 1, cells := 1, slots := nn, locals := 40 } : Room).slots := Nat.zero_le _
  refine lv_iload_n hx hb dJ7_copyOf_0 rfl (lv_at hl 1 rfl) ?_
  refine lv_aload_n hx hb dJ7_copyOf_1 rfl (lv_at hl 0 rfl) ?_
  refine zw_alen hx hb hK hP 0 1 rfl rfl dJ7_copyOf_2 ?_
  refine zw_icmp_ne (tgt := 14) hx hb dJ7_copyOf_3 (by decide) ⟨by omega, by omega⟩ ⟨by omega, by omega⟩ (fun c_3 => ?_) (fun c_3 => False.elim (by omega))
  refine lv_iload_n hx hb dJ7_copyOf_14 rfl (lv_at hl 1 rfl) ?_
  refine zw_newb hx hb (hts _ aw_44) hK hP hD hS hA 1 rfl (nn) (by omega) (by omega) (Nat.le_refl _) (Nat.le_of_eq (Nat.zero_add _)) dJ7_copyOf_15 (fun q_1 H hP hD hS => ?_)
  have hP : va_P D vwCl [ia ad cB (n) (d), ia q_1 cB (nn) (fun _ => 0)] H := hP
  have hD : va_D _ [ia ad cB (n) (d), ia q_1 cB (nn) (fun _ => 0)] := hD
  have hRc : 0 + 1 ≤ ({ frames := 1, cells := 1, slots := nn, locals := 40 } : Room).cells := by show 0 + 1 ≤ 1; omega
  have hRs : 0 + (nn) ≤ ({ frames := 1, cells := 1, slots := nn, locals := 40 } : Room).slots := by show 0 + (nn) ≤ nn; omega
  have hRc : 0 + 1 ≤ 1 := Nat.le_refl _
  have hRs : 0 + nn ≤ nn := Nat.le_of_eq (Nat.zero_add _)
  refine lv_astore_n (lv' := [(2, .ref q_1), (0, .ref ad), (1, .int (vI ((nn : Nat) : Int)))]) hx hb dJ7_copyOf_17 rfl hl (by decide) rfl (fun ls hl => ?_)
  refine lv_aload_n hx hb dJ7_copyOf_18 rfl (lv_at hl 1 rfl) ?_
  refine zw_iconst hx hb dJ7_copyOf_19 ?_
  refine lv_aload_n hx hb dJ7_copyOf_20 rfl (lv_at hl 0 rfl) ?_
  refine zw_iconst hx hb dJ7_copyOf_21 ?_
  refine lv_aload_n hx hb dJ7_copyOf_22 rfl (lv_at hl 1 rfl) ?_
  refine zw_alen hx hb hK hP 0 1 rfl rfl dJ7_copyOf_23 ?_
  refine lv_iload_n hx hb dJ7_copyOf_24 rfl (lv_at hl 2 rfl) ?_
  refine va_mmin hx hb (hml.trans hl.1.symm) hown (hts _ aw_315) (hts _ aw_316) (hts _ aw_9) (hts _ aw_317) (Nat.le_trans (Nat.le_of_ble_eq_true rfl) hRf) (Nat.le_trans (Nat.le_of_ble_eq_true rfl) hRl) hRc hRs dJ7_copyOf_25 ?_
  refine zw_as (vI_min ⟨by omega, by omega⟩ ⟨by omega, by omega⟩) ?_
  refine zw_to (z2 := ((n : Nat) : Int)) (by omega) ?_
  refine zw_copyb hx hb (hml.trans hl.1.symm) hown (hts _ aw_318) (hts _ aw_320) (hts _ aw_319) (hts _ aw_10) hK hP hD hS 0 1 1 rfl rfl rfl (n) (by omega) (by omega) (by omega) (by omega) hby (Nat.le_trans (Nat.le_of_ble_eq_true rfl) hRf) (Nat.le_trans (Nat.le_of_ble_eq_true rfl) hRl) dJ7_copyOf_28 (fun H locs hP hD hS => ?_)
  have hP : va_P D vwCl [ia ad cB (n) (d), ia q_1 cB (nn) (fun j => if j < n then d j else (fun _ => 0) j)] H := hP
  have hD : va_D _ [ia ad cB (n) (d), ia q_1 cB (nn) (fun j => if j < n then d j else (fun _ => 0) j)] := hD
  refine lv_aload_n hx hb dJ7_copyOf_31 rfl (lv_at hl 0 rfl) ?_
  refine W.widen (k := 1) (n := nn) (by omega) (by omega) ?_
  exact zr_r hx hb hr hlocks (()) q_1 trivial hP hD hS dJ7_copyOf_32

set_option maxRecDepth 100000 in
set_option maxHeartbeats 4000000 in
theorem c_X3_makeRoom (l : Launch) (D : va_G) (cI cB : ClassId) (sz : Nat) (hR : Nat) (aB : Nat) (n : Nat) (pa : Nat) (NB : Nat) (d : Nat → Int) (t : Nat) (h1 : t ≤ 32768 ∧ NB ≤ 32768) (hby : ∀ j, -128 ≤ d j ∧ d j < 128) : Met l yX3_makeRoom wsX3_makeRoom ({ frames := 2, cells := zmc NB t, slots := zms NB t, locals := 62 } : Room) (va_Pc [.ref hR, .int (vI ((t : Nat) : Int))] (zPre D vwCl [(cI, .int), (cB, .byte)] [(hR, .inr (3, [.ref aB, .int (vI ((n : Nat) : Int)), .int (vI ((pa : Nat) : Int))])), ia aB cB (NB) (d)] sz)) (va_Qv (S := Nat × Nat × (Nat → Int)) (fun u => match u with | (aB2, NB2, d2) => (NB2 = zNB NB t) ∧ (∀ j, j < NB → d2 j = d j) ∧ (∀ j, -128 ≤ d2 j ∧ d2 j < 128)) (fun (u : Nat × Nat × (Nat → Int)) t => zB D vwCl (va_A [(hR, .inr (3, [.ref aB, .int (vI ((n : Nat) : Int)), .int (vI ((pa : Nat) : Int))])), ia aB cB (NB) (d)] sz) ((fun u => match u with | (aB2, NB2, d2) => [(hR, .inr (3, [.ref aB2, .int (vI ((n : Nat) : Int)), .int (vI ((pa : Nat) : Int))])), ia aB2 cB (NB2) (d2)] : Nat × Nat × (Nat → Int) → va_W) u) t) (va_A [(hR, .inr (3, [.ref aB, .int (vI ((n : Nat) : Int)), .int (vI ((pa : Nat) : Int))])), ia aB cB (NB) (d)] sz)) (zmc NB t) (zms NB t) (va_A [(hR, .inr (3, [.ref aB, .int (vI ((n : Nat) : Int)), .int (vI ((pa : Nat) : Int))])), ia aB cB (NB) (d)] sz) := by
  refine zMet (by decide) rfl (Nat.le_of_ble_eq_true rfl) (fun p e s m below meth c hx hb hr hts hown hlocks hnm hml hK hns hA hP hD hS ls hl => ?_)
  have hl : lv_has ls 2 [(0, .ref hR), (1, .int (vI ((t : Nat) : Int)))] := hl
  have hRf : 2 ≤ ({ frames := 2, cells := zmc NB t, slots := zms NB t, locals := 62 } : Room).frames := Nat.le_refl _
  have hRl : 62 ≤ ({ frames := 2, cells := zmc NB t, slots := zms NB t, locals := 62 } : Room).locals := Nat.le_refl _
  have hRc : 0 ≤ ({ frames := 2, cells := zmc NB t, slots := zms NB t, locals := 62 } : Room).cells := Nat.zero_le _
  have hRs : 0 ≤ ({ frames := 2, cells := zmc NB t, slots := zms NB t, locals := 62 } : Room).slots := Nat.zero_le _
  refine lv_iload_n hx hb dX3_makeRoom_0 rfl (lv_at hl 1 rfl) ?_
  refine lv_aload_n hx hb dX3_makeRoom_1 rfl (lv_at hl 0 rfl) ?_
  refine va_get (D := D) (ci := 3) (v := .ref aB) (C := RX3) (T := TX3) (N := 3) hx hb hts iwX3 hown hK hP 0 rfl rfl 0 (by decide) (hts _ aw_25) (fun _ h9 => h9) rfl dX3_makeRoom_2 ?_
  refine zw_alen hx hb hK hP 1 1 rfl rfl dX3_makeRoom_5 ?_
  refine zw_icmp_le (tgt := 24) hx hb dX3_makeRoom_6 (by decide) ⟨by omega, by omega⟩ ⟨by omega, by omega⟩ (fun c_6 => ?_) (fun c_6 => ?_)
  · refine W.widen (k := zmc NB t) (n := zms NB t) (Nat.zero_le _) (Nat.zero_le _) ?_
    exact zr_v hx hb hr hlocks ((aB, NB, d)) ⟨by unfold zNB; rw [if_neg (by omega)], fun _ _ => rfl, hby⟩ hP hD hS dX3_makeRoom_24
  · refine lv_aload_n hx hb dX3_makeRoom_9 rfl (lv_at hl 0 rfl) ?_
    refine lv_aload_n hx hb dX3_makeRoom_10 rfl (lv_at hl 0 rfl) ?_
    refine va_get (D := D) (ci := 3) (v := .ref aB) (C := RX3) (T := TX3) (N := 3) hx hb hts iwX3 hown hK hP 0 rfl rfl 0 (by decide) (hts _ aw_25) (fun _ h9 => h9) rfl dX3_makeRoom_11 ?_
    refine lv_iload_n hx hb dX3_makeRoom_14 rfl (lv_at hl 1 rfl) ?_
    have hPc := hP.sub (ws' := []) [] rfl
    have hDc := hD.sub (ws' := []) [] (by decide) rfl
    refine zc_i (wr := [(hR, .inr (3, [.ref aB, .int (vI ((n : Nat) : Int)), .int (vI ((pa : Nat) : Int))])), ia aB cB (NB) (d)]) (va_runSN (As := [.int (vI ((t : Nat) : Int))]) (rest := [.ref aB, .ref hR]) ⟨hx, hb, hml, hown, hts⟩ (c_X5_roomFor l D cI cB _ t (by omega)) ⟨va_cnB 1 hts (zg kX5_roomFor) rfl rfl rfl (hns _ nw_301) (hts _ aw_1) (by decide +kernel) ⟨Nat.le_trans (Nat.le_of_ble_eq_true rfl) hRf, Nat.le_trans (Nat.le_of_ble_eq_true rfl) hRl⟩, (hts _ aw_302), trivial⟩ ⟨zPre_blind, zPre_of hK hns hPc hDc⟩ rfl rfl hl.1 rfl (lv_room (Nat.le_of_ble_eq_true rfl)) dX3_makeRoom_15 ⟨hRc, hRs⟩) hP hD hS hA [] [0, 1] rfl rfl (by decide) (by decide) (fun r _u H locs hpost hP hD hS => ?_)
    obtain rfl := hpost
    have hP : va_P D vwCl [(hR, .inr (3, [.ref aB, .int (vI ((n : Nat) : Int)), .int (vI ((pa : Nat) : Int))])), ia aB cB (NB) (d)] H := hP
    have hD : va_D _ [(hR, .inr (3, [.ref aB, .int (vI ((n : Nat) : Int)), .int (vI ((pa : Nat) : Int))])), ia aB cB (NB) (d)] := hD
    have hz1 : NB < zroom t ∧ zroom t ≤ 32768 := by unfold zroom; (repeat' split) <;> omega
    have hm1 : zmc NB t = 1 := by unfold zmc; rw [if_pos (by omega)]
    have hm2 : zms NB t = zroom t := by unfold zms; rw [if_pos (by omega)]
    have hPc := hP.sub (ws' := [ia aB cB (NB) (d)]) [1] rfl
    have hDc := hD.sub (ws' := [ia aB cB (NB) (d)]) [1] (by decide) rfl
    refine zc_r (wr := [(hR, .inr (3, [.ref aB, .int (vI ((n : Nat) : Int)), .int (vI ((pa : Nat) : Int))]))]) (va_runS (As := [.ref aB, .int (vI ((zroom t : Nat) : Int))]) (rest := [.ref hR]) ⟨hx, hb, hml, hown, hts⟩ (c_J7_copyOf l D cI cB _ aB (zroom t) NB d (hz1) (hby)) ⟨callB_of 2 hts (zg kJ7_copyOf) rfl rfl rfl (hts _ aw_8) (hts _ aw_305) (by decide +kernel) ⟨Nat.le_trans (Nat.le_of_ble_eq_true rfl) hRf, Nat.le_trans (Nat.le_of_ble_eq_true rfl) hRl⟩, (hts _ aw_306)⟩ ⟨zPre_blind, zPre_of hK hns hPc hDc⟩ rfl rfl hl.1 rfl (lv_room (Nat.le_of_ble_eq_true rfl)) dX3_makeRoom_18 ⟨by show 0 + 1 ≤ zmc NB t; omega, by show 0 + zroom t ≤ zms NB t; omega⟩) hP hD hS hA [1] [0] rfl rfl (by decide) (by decide) (fun _u aN H locs hpost hP hD hS => ?_)
    have hRc : 0 + 1 ≤ ({ frames := 2, cells := zmc NB t, slots := zms NB t, locals := 62 } : Room).cells := by show 0 + 1 ≤ zmc NB t; omega
    have hRs : 0 + (zroom t) ≤ ({ frames := 2, cells := zmc NB t, slots := zms NB t, locals := 62 } : Room).slots := by show 0 + (zroom t) ≤ zms NB t; omega
    have hP : va_P D vwCl [(hR, .inr (3, [.ref aB, .int (vI ((n : Nat) : Int)), .int (vI ((pa : Nat) : Int))])), ia aB cB (NB) (d), ia aN cB ((zroom t)) (fun j => if j < NB then d j else (fun _ => 0) j)] H := hP
    have hD : va_D _ [(hR, .inr (3, [.ref aB, .int (vI ((n : Nat) : Int)), .int (vI ((pa : Nat) : Int))])), ia aB cB (NB) (d), ia aN cB ((zroom t)) (fun j => if j < NB then d j else (fun _ => 0) j)] := hD
    refine va_put (D := D) (ci := 3) (v := .ref aN) (ty := .array .byte) (C := RX3) (T := TX3) (N := 3) hx hb hts iwX3 tyX3 tyX3_ok nmX3 hown hK hP hD hS 0 rfl rfl 0 (by decide) (hts _ aw_25) (fun _ h9 => h9) rfl (by decide +kernel) rfl rfl (Nat.le_of_ble_eq_true rfl) dX3_makeRoom_21 (fun H locs hP hD hS => ?_)
    have hP : va_P D vwCl [(hR, .inr (3, [.ref aN, .int (vI ((n : Nat) : Int)), .int (vI ((pa : Nat) : Int))])), ia aB cB (NB) (d), ia aN cB ((zroom t)) (fun j => if j < NB then d j else (fun _ => 0) j)] H := hP
    have hD : va_D _ [(hR, .inr (3, [.ref aN, .int (vI ((n : Nat) : Int)), .int (vI ((pa : Nat) : Int))])), ia aB cB (NB) (d), ia aN cB ((zroom t)) (fun j => if j < NB then d j else (fun _ => 0) j)] := hD
    have hP9 := hP.sub (ws' := [(hR, .inr (3, [.ref aN, .int (vI ((n : Nat) : Int)), .int (vI ((pa : Nat) : Int))])), ia aN cB (zroom t) ((fun j => if j < NB then d j else (fun _ => 0) j))]) [0, 2] rfl
    have hD9 := hD.sub (ws' := [(hR, .inr (3, [.ref aN, .int (vI ((n : Nat) : Int)), .int (vI ((pa : Nat) : Int))])), ia aN cB (zroom t) ((fun j => if j < NB then d j else (fun _ => 0) j))]) [0, 2] (by decide) rfl
    refine W.widen (k := zmc NB t) (n := zms NB t) (by omega) (by omega) ?_
    exact zr_v hx hb hr hlocks ((aN, zroom t, (fun j => if j < NB then d j else (fun _ => 0) j))) ⟨by unfold zNB; rw [if_pos (by omega)], fun j hj => if_pos hj, zcp_by hby⟩ hP9 hD9 hS dX3_makeRoom_24

set_option maxRecDepth 100000 in
set_option maxHeartbeats 4000000 in
theorem s_append {p : Program} {l : Launch} {e : Env} {R : Room} {s : State} {m : MethodId} {args : Array Value} {below : List Frame} {meth : Method} {c : Code} {Q : State → Prop} {A : Nat → Prop} {H0 : Heap} {D : va_G} {cI cB : ClassId} {cells slots : Nat} (hx : p.tables.exec = Jvm.exec) (hb : c.code = cX3_append) (hts : ∀ w ∈ zALL, w.before args s = true) (hown : s.vm.findClass RX3 = some m.cls) (hml : c.maxLocals = 5) (hK : va_K D vwCl [(cI, .int), (cB, .byte)] s) (hns : zNs s) (hA : ∀ q, H0.size ≤ q → A q) (hRf : 0 ≤ R.frames) (hRl : 0 ≤ R.locals) (hRc : cells ≤ R.cells) (hRs : slots ≤ R.slots) (hR : Nat) (aB : Nat) (n : Nat) (pa : Nat) (NB : Nat) (d0 : Nat → Int) (v : Int64) (w : Nat) (h1 : n + w ≤ NB ∧ NB ≤ 32768 ∧ w ≤ 8)
    (K1 : ∀ (f : Nat) (d : Nat → Int) (H : Heap) (locs : List Loc) (ls : Array Slot), (f = n + w) → (∀ j, j < n → d j = d0 j) → (∀ j, j < w → d (n + j) = zbyte v j) → (∀ j, -128 ≤ d j ∧ d j < 128) → va_P D vwCl [(hR, .inr (3, [.ref aB, .int (vI ((f : Nat) : Int)), .int (vI ((pa : Nat) : Int))])), ia aB cB (NB) (d)] H → va_D A [(hR, .inr (3, [.ref aB, .int (vI ((f : Nat) : Int)), .int (vI ((pa : Nat) : Int))])), ia aB cB (NB) (d)] → va_S A H0 H locs → lv_has ls 5 [] → W p l e R s m args below meth c H locs cells slots Q (F0 m 56 ls []))
    : ∀ (fuel : Nat), ∀ (k : Nat) (f : Nat) (d : Nat → Int) (_ : w - k < fuel) (H : Heap) (locs : List Loc) (ls : Array Slot), (k ≤ w) → (f = n + k) → (∀ j, j < n → d j = d0 j) → (∀ j, j < k → d (n + j) = zbyte v j) → (∀ j, -128 ≤ d j ∧ d j < 128) → va_P D vwCl [(hR, .inr (3, [.ref aB, .int (vI ((f : Nat) : Int)), .int (vI ((pa : Nat) : Int))])), ia aB cB (NB) (d)] H → va_D A [(hR, .inr (3, [.ref aB, .int (vI ((f : Nat) : Int)), .int (vI ((pa : Nat) : Int))])), ia aB cB (NB) (d)] → va_S A H0 H locs → lv_has ls 5 [(0, .ref hR), (1, .long (v)), (3, .int (vI ((w : Nat) : Int))), (4, .int (vI ((k : Nat) : Int)))] → W p l e R s m args below meth c H locs cells slots Q (F0 m 13 ls []) := by
  intro fuel
  induction fuel with
  | zero =>
    intro k f d hfuel
    exact absurd hfuel (Nat.not_lt_zero _)
  | succ fuel ih =>
    intro k f d hfuel H locs ls hk hf hd hw hby hP hD hS hl
    refine lv_iload hx hb dX3_append_13 (lv_at hl 3 rfl) ?_
    refine lv_iload_n hx hb dX3_append_15 rfl (lv_at hl 2 rfl) ?_
    refine zw_icmp_ge (tgt := 56) hx hb dX3_append_16 (by decide) ⟨by omega, by omega⟩ ⟨by omega, by omega⟩ (fun c_16 => ?_) (fun c_16 => ?_)
    · exact K1 f d _ _ _ (by omega) (hd) (fun j hj => hw j (by omega)) (hby) (hP.sub [0, 1] rfl) (hD.sub [0, 1] (by decide) rfl) hS (lv_sub hl [] rfl)
    · refine lv_aload_n hx hb dX3_append_19 rfl (lv_at hl 0 rfl) ?_
      refine va_get (D := D) (ci := 3) (v := .ref aB) (C := RX3) (T := TX3) (N := 3) hx hb hts iwX3 hown hK hP 0 rfl rfl 0 (by decide) (hts _ aw_25) (fun _ h9 => h9) rfl dX3_append_20 ?_
      refine lv_aload_n hx hb dX3_append_23 rfl (lv_at hl 0 rfl) ?_
      refine va_get (D := D) (ci := 3) (v := .int (vI ((f : Nat) : Int))) (C := RX3) (T := TX3) (N := 3) hx hb hts iwX3 hown hK hP 0 rfl rfl 1 (by decide) (hts _ aw_28) (fun _ h9 => h9) rfl dX3_append_24 ?_
      refine lv_lload_n hx hb dX3_append_27 rfl (lv_at hl 1 rfl) ?_
      refine zw_bipush hx hb dX3_append_28 (by decide +kernel) ?_
      refine zw_bipush hx hb dX3_append_30 (by decide +kernel) ?_
      refine lv_iload hx hb dX3_append_32 (lv_at hl 3 rfl) ?_
      refine zw_isub hx hb dX3_append_34 ?_
      refine zw_imul hx hb dX3_append_35 ?_
      refine lv_lushr (v := ((v).toUInt64 >>> ((vI (8 * (7 - ((k : Nat) : Int)))).toInt64.toUInt64 &&& Int64.toUInt64 63)).toInt64) hx hb dX3_append_36 (rfl) ?_
      refine lv_l2i (v := (((v).toUInt64 >>> ((vI (8 * (7 - ((k : Nat) : Int)))).toInt64.toUInt64 &&& Int64.toUInt64 63)).toInt64).toInt32) hx hb dX3_append_37 rfl ?_
      refine lv_i2b (v := ((((v).toUInt64 >>> ((vI (8 * (7 - ((k : Nat) : Int)))).toInt64.toUInt64 &&& Int64.toUInt64 63)).toInt64).toInt32).toInt8.toInt32) hx hb dX3_append_38 rfl ?_
      refine zw_as (z := zbyte v k) (rfl) ?_
      refine zw_bast hx hb hK hP hD hS 1 1 rfl rfl (f) (by omega) (by omega) (by omega) (zbyte_in v k) dX3_append_39 (fun H locs hP hD hS => ?_)
      have hP : va_P D vwCl [(hR, .inr (3, [.ref aB, .int (vI ((f : Nat) : Int)), .int (vI ((pa : Nat) : Int))])), ia aB cB (NB) (zU d f (zbyte v k))] H := hP
      have hD : va_D _ [(hR, .inr (3, [.ref aB, .int (vI ((f : Nat) : Int)), .int (vI ((pa : Nat) : Int))])), ia aB cB (NB) (zU d f (zbyte v k))] := hD
      refine lv_aload_n hx hb dX3_append_40 rfl (lv_at hl 0 rfl) ?_
      refine lv_dup hx hb dX3_append_41 rfl ?_
      refine va_get (D := D) (ci := 3) (v := .int (vI ((f : Nat) : Int))) (C := RX3) (T := TX3) (N := 3) hx hb hts iwX3 hown hK hP 0 rfl rfl 1 (by decide) (hts _ aw_28) (fun _ h9 => h9) rfl dX3_append_42 ?_
      refine zw_iconst hx hb dX3_append_45 ?_
      refine zw_iadd hx hb dX3_append_46 ?_
      refine zw_to (z2 := ((f + 1 : Nat) : Int)) (by omega) ?_
      refine va_put (D := D) (ci := 3) (v := .int (vI ((f + 1 : Nat) : Int))) (ty := .int) (C := RX3) (T := TX3) (N := 3) hx hb hts iwX3 tyX3 tyX3_ok nmX3 hown hK hP hD hS 0 rfl rfl 1 (by decide) (hts _ aw_28) (fun _ h9 => h9) rfl (by decide +kernel) rfl rfl (Nat.le_of_ble_eq_true rfl) dX3_append_47 (fun H locs hP hD hS => ?_)
      have hP : va_P D vwCl [(hR, .inr (3, [.ref aB, .int (vI ((f + 1 : Nat) : Int)), .int (vI ((pa : Nat) : Int))])), ia aB cB (NB) (zU d f (zbyte v k))] H := hP
      have hD : va_D _ [(hR, .inr (3, [.ref aB, .int (vI ((f + 1 : Nat) : Int)), .int (vI ((pa : Nat) : Int))])), ia aB cB (NB) (zU d f (zbyte v k))] := hD
      refine lv_iinc (v := vI ((k + 1 : Nat) : Int)) (lv' := [(4, .int (vI ((k + 1 : Nat) : Int))), (0, .ref hR), (1, .long (v)), (3, .int (vI ((w : Nat) : Int)))]) hx hb dX3_append_50 hl (k := 3) rfl ((vI_add _ _).trans (congrArg vI (by omega))) (by decide) rfl (fun ls hl => ?_)
      refine lv_goto (tgt := 13) hx hb dX3_append_53 (by decide) ?_
      exact ih (k + 1) (f + 1) (zU d f (zbyte v k)) (by omega) _ _ _ (by omega) (by omega) (fun j hj => (zU_n (by omega)).trans (hd j hj)) (zU_app hf hw) (zU_by hby (zbyte_in v k)) (hP.sub [0, 1] rfl) (hD.sub [0, 1] (by decide) rfl) hS (lv_sub hl [1, 2, 3, 0] rfl)

set_option maxRecDepth 100000 in
set_option maxHeartbeats 4000000 in
theorem c_X3_append (l : Launch) (D : va_G) (cI cB : ClassId) (sz : Nat) (hR : Nat) (aB : Nat) (n : Nat) (pa : Nat) (NB : Nat) (d : Nat → Int) (v : Int64) (w : Nat) (h1 : n + w ≤ 32768 ∧ w ≤ 8 ∧ n ≤ NB ∧ NB ≤ 32768) (hby : ∀ j, -128 ≤ d j ∧ d j < 128) : Met l yX3_append wsX3_append ({ frames := 3, cells := zmc NB (n + w), slots := zms NB (n + w), locals := 83 } : Room) (va_Pc [.ref hR, .long (v), .int (vI ((w : Nat) : Int))] (zPre D vwCl [(cI, .int), (cB, .byte)] [(hR, .inr (3, [.ref aB, .int (vI ((n : Nat) : Int)), .int (vI ((pa : Nat) : Int))])), ia aB cB (NB) (d)] sz)) (va_Qv (S := Nat × Nat × (Nat → Int)) (fun u => match u with | (aB2, NB2, d2) => (NB2 = zNB NB (n + w)) ∧ (∀ j, j < n → d2 j = d j) ∧ (∀ j, j < w → d2 (n + j) = zbyte v j) ∧ (∀ j, -128 ≤ d2 j ∧ d2 j < 128)) (fun (u : Nat × Nat × (Nat → Int)) t => zB D vwCl (va_A [(hR, .inr (3, [.ref aB, .int (vI ((n : Nat) : Int)), .int (vI ((pa : Nat) : Int))])), ia aB cB (NB) (d)] sz) ((fun u => match u with | (aB2, NB2, d2) => [(hR, .inr (3, [.ref aB2, .int (vI ((n + w : Nat) : Int)), .int (vI ((pa : Nat) : Int))])), ia aB2 cB (NB2) (d2)] : Nat × Nat × (Nat → Int) → va_W) u) t) (va_A [(hR, .inr (3, [.ref aB, .int (vI ((n : Nat) : Int)), .int (vI ((pa : Nat) : Int))])), ia aB cB (NB) (d)] sz)) (zmc NB (n + w)) (zms NB (n + w)) (va_A [(hR, .inr (3, [.ref aB, .int (vI ((n : Nat) : Int)), .int (vI ((pa : Nat) : Int))])), ia aB cB (NB) (d)] sz) := by
  refine zMet (by decide) rfl (Nat.le_of_ble_eq_true rfl) (fun p e s m below meth c hx hb hr hts hown hlocks hnm hml hK hns hA hP hD hS ls hl => ?_)
  have hl : lv_has ls 5 [(0, .ref hR), (1, .long (v)), (3, .int (vI ((w : Nat) : Int)))] := hl
  have hRf : 3 ≤ ({ frames := 3, cells := zmc NB (n + w), slots := zms NB (n + w), locals := 83 } : Room).frames := Nat.le_refl _
  have hRl : 83 ≤ ({ frames := 3, cells := zmc NB (n + w), slots := zms NB (n + w), locals := 83 } : Room).locals := Nat.le_refl _
  have hRc : 0 ≤ ({ frames := 3, cells := zmc NB (n + w), slots := zms NB (n + w), locals := 83 } : Room).cells := Nat.zero_le _
  have hRs : 0 ≤ ({ frames := 3, cells := zmc NB (n + w), slots := zms NB (n + w), locals := 83 } : Room).slots := Nat.zero_le _
  refine lv_aload_n hx hb dX3_append_0 rfl (lv_at hl 0 rfl) ?_
  refine lv_aload_n hx hb dX3_append_1 rfl (lv_at hl 0 rfl) ?_
  refine va_get (D := D) (ci := 3) (v := .int (vI ((n : Nat) : Int))) (C := RX3) (T := TX3) (N := 3) hx hb hts iwX3 hown hK hP 0 rfl rfl 1 (by decide) (hts _ aw_28) (fun _ h9 => h9) rfl dX3_append_2 ?_
  refine lv_iload_n hx hb dX3_append_5 rfl (lv_at hl 2 rfl) ?_
  refine zw_iadd hx hb dX3_append_6 ?_
  refine zw_to (z2 := ((n + w : Nat) : Int)) (by omega) ?_
  have hPc := hP.sub (ws' := [(hR, .inr (3, [.ref aB, .int (vI ((n : Nat) : Int)), .int (vI ((pa : Nat) : Int))])), ia aB cB (NB) (d)]) [0, 1] rfl
  have hDc := hD.sub (ws' := [(hR, .inr (3, [.ref aB, .int (vI ((n : Nat) : Int)), .int (vI ((pa : Nat) : Int))])), ia aB cB (NB) (d)]) [0, 1] (by decide) rfl
  refine zc_v (wr := []) (va_runV (As := [.int (vI ((n + w : Nat) : Int))]) (rest := []) ⟨hx, hb, hml, hown, hts⟩ (c_X3_makeRoom l D cI cB _ hR aB n pa NB d (n + w) (by omega) (hby)) ⟨callB_of 1 hts (zg kX3_makeRoom) rfl rfl rfl (hts _ aw_2) (hts _ aw_297) (by decide +kernel) ⟨Nat.le_trans (Nat.le_of_ble_eq_true rfl) hRf, Nat.le_trans (Nat.le_of_ble_eq_true rfl) hRl⟩, (hts _ aw_299), (hts _ as_6)⟩ ⟨zPre_blind, va_recv hK hPc (ci := 3) (q0 := 0) rfl rfl, zPre_of hK hns hPc hDc⟩ rfl rfl hl.1 rfl (lv_room (Nat.le_of_ble_eq_true rfl)) dX3_append_7 ⟨Nat.le_of_eq (Nat.zero_add _), Nat.le_of_eq (Nat.zero_add _)⟩) hP hD hS hA [0, 1] [] rfl rfl (by decide) (by decide) (fun u H locs hpost hP hD hS => ?_)
  obtain ⟨aB2, NB2, d1⟩ := u
  obtain ⟨hNB_7, hd_7, hby_7⟩ := hpost
  have hRc : 0 + (zmc NB (n + w)) ≤ ({ frames := 3, cells := zmc NB (n + w), slots := zms NB (n + w), locals := 83 } : Room).cells := by show 0 + (zmc NB (n + w)) ≤ zmc NB (n + w); omega
  have hRs : 0 + (zms NB (n + w)) ≤ ({ frames := 3, cells := zmc NB (n + w), slots := zms NB (n + w), locals := 83 } : Room).slots := by show 0 + (zms NB (n + w)) ≤ zms NB (n + w); omega
  have hP : va_P D vwCl [(hR, .inr (3, [.ref aB2, .int (vI ((n : Nat) : Int)), .int (vI ((pa : Nat) : Int))])), ia aB2 cB (NB2) (d1)] H := hP
  have hD : va_D _ [(hR, .inr (3, [.ref aB2, .int (vI ((n : Nat) : Int)), .int (vI ((pa : Nat) : Int))])), ia aB2 cB (NB2) (d1)] := hD
  have hz1 := zNB_ge NB (n + w)
  have hz2 := zNB_le NB (n + w) (by omega)
  have hRc : 0 + zmc NB (n + w) ≤ zmc NB (n + w) := Nat.le_of_eq (Nat.zero_add _)
  have hRs : 0 + zms NB (n + w) ≤ zms NB (n + w) := Nat.le_of_eq (Nat.zero_add _)
  refine zw_iconst hx hb dX3_append_10 ?_
  refine lv_istore (lv' := [(4, .int (vI (0))), (0, .ref hR), (1, .long (v)), (3, .int (vI ((w : Nat) : Int)))]) hx hb dX3_append_11 hl (by decide) rfl (fun ls hl => ?_)
  refine s_append hx hb hts hown hml hK hns hA (Nat.le_trans (Nat.le_of_ble_eq_true rfl) hRf) (Nat.le_trans (Nat.le_of_ble_eq_true rfl) hRl) hRc hRs hR aB2 n pa NB2 d1 v w (by omega) (fun f d H locs ls hf hd hw hby hP hD hS hl => ?_) (w - 0 + 1) 0 n d1 (Nat.lt_succ_self _) _ _ _ (by omega) (by omega) (fun _ _ => rfl) (fun j hj => absurd hj (Nat.not_lt_zero j)) (hby_7) (hP.sub [0, 1] rfl) (hD.sub [0, 1] (by decide) rfl) hS (lv_sub hl [1, 2, 3, 0] rfl)
  subst hf
  refine W.widen (k := zmc NB (n + w)) (n := zms NB (n + w)) (Nat.le_of_eq (Nat.zero_add _)) (Nat.le_of_eq (Nat.zero_add _)) ?_
  exact zr_v hx hb hr hlocks ((aB2, NB2, d)) ⟨hNB_7, fun j hj => (hd j hj).trans (hd_7 j (by omega)), hw, hby⟩ hP hD hS dX3_append_56

set_option maxRecDepth 100000 in
set_option maxHeartbeats 4000000 in
theorem s_repeat {p : Program} {l : Launch} {e : Env} {R : Room} {s : State} {m : MethodId} {args : Array Value} {below : List Frame} {meth : Method} {c : Code} {Q : State → Prop} {A : Nat → Prop} {H0 : Heap} {D : va_G} {cI cB : ClassId} {cells slots : Nat} (hx : p.tables.exec = Jvm.exec) (hb : c.code = cX3_repeat) (hts : ∀ w ∈ zALL, w.before args s = true) (hown : s.vm.findClass RX3 = some m.cls) (hml : c.maxLocals = 4) (hK : va_K D vwCl [(cI, .int), (cB, .byte)] s) (hns : zNs s) (hA : ∀ q, H0.size ≤ q → A q) (hRf : 0 ≤ R.frames) (hRl : 0 ≤ R.locals) (hRc : cells ≤ R.cells) (hRs : slots ≤ R.slots) (hR : Nat) (aB : Nat) (n : Nat) (pa : Nat) (NB : Nat) (d0 : Nat → Int) (per : Nat) (w : Nat) (h1 : n + w ≤ NB ∧ NB ≤ 32768 ∧ 1 ≤ per ∧ per ≤ n)
    (K1 : ∀ (f : Nat) (d : Nat → Int) (H : Heap) (locs : List Loc) (ls : Array Slot), (f = n + w) → (∀ j, j < n → d j = d0 j) → (∀ j, n ≤ j → j < f → d j = d (j - per)) → (∀ j, -128 ≤ d j ∧ d j < 128) → va_P D vwCl [(hR, .inr (3, [.ref aB, .int (vI ((f : Nat) : Int)), .int (vI ((pa : Nat) : Int))])), ia aB cB (NB) (d)] H → va_D A [(hR, .inr (3, [.ref aB, .int (vI ((f : Nat) : Int)), .int (vI ((pa : Nat) : Int))])), ia aB cB (NB) (d)] → va_S A H0 H locs → lv_has ls 4 [] → W p l e R s m args below meth c H locs cells slots Q (F0 m 53 ls []))
    : ∀ (fuel : Nat), ∀ (k : Nat) (f : Nat) (d : Nat → Int) (_ : w - k < fuel) (H : Heap) (locs : List Loc) (ls : Array Slot), (k ≤ w) → (f = n + k) → (∀ j, j < n → d j = d0 j) → (∀ j, n ≤ j → j < f → d j = d (j - per)) → (∀ j, -128 ≤ d j ∧ d j < 128) → va_P D vwCl [(hR, .inr (3, [.ref aB, .int (vI ((f : Nat) : Int)), .int (vI ((pa : Nat) : Int))])), ia aB cB (NB) (d)] H → va_D A [(hR, .inr (3, [.ref aB, .int (vI ((f : Nat) : Int)), .int (vI ((pa : Nat) : Int))])), ia aB cB (NB) (d)] → va_S A H0 H locs → lv_has ls 4 [(0, .ref hR), (1, .int (vI ((per : Nat) : Int))), (2, .int (vI ((w : Nat) : Int))), (3, .int (vI ((k : Nat) : Int)))] → W p l e R s m args below meth c H locs cells slots Q (F0 m 12 ls []) := by
  intro fuel
  induction fuel with
  | zero =>
    intro k f d hfuel
    exact absurd hfuel (Nat.not_lt_zero _)
  | succ fuel ih =>
    intro k f d hfuel H locs ls hk hf hd hw hby hP hD hS hl
    refine lv_iload_n hx hb dX3_repeat_12 rfl (lv_at hl 3 rfl) ?_
    refine lv_iload_n hx hb dX3_repeat_13 rfl (lv_at hl 2 rfl) ?_
    refine zw_icmp_ge (tgt := 53) hx hb dX3_repeat_14 (by decide) ⟨by omega, by omega⟩ ⟨by omega, by omega⟩ (fun c_14 => ?_) (fun c_14 => ?_)
    · exact K1 f d _ _ _ (by omega) (hd) (hw) (hby) (hP.sub [0, 1] rfl) (hD.sub [0, 1] (by decide) rfl) hS (lv_sub hl [] rfl)
    · refine lv_aload_n hx hb dX3_repeat_17 rfl (lv_at hl 0 rfl) ?_
      refine va_get (D := D) (ci := 3) (v := .ref aB) (C := RX3) (T := TX3) (N := 3) hx hb hts iwX3 hown hK hP 0 rfl rfl 0 (by decide) (hts _ aw_25) (fun _ h9 => h9) rfl dX3_repeat_18 ?_
      refine lv_aload_n hx hb dX3_repeat_21 rfl (lv_at hl 0 rfl) ?_
      refine va_get (D := D) (ci := 3) (v := .int (vI ((f : Nat) : Int))) (C := RX3) (T := TX3) (N := 3) hx hb hts iwX3 hown hK hP 0 rfl rfl 1 (by decide) (hts _ aw_28) (fun _ h9 => h9) rfl dX3_repeat_22 ?_
      refine lv_aload_n hx hb dX3_repeat_25 rfl (lv_at hl 0 rfl) ?_
      refine va_get (D := D) (ci := 3) (v := .ref aB) (C := RX3) (T := TX3) (N := 3) hx hb hts iwX3 hown hK hP 0 rfl rfl 0 (by decide) (hts _ aw_25) (fun _ h9 => h9) rfl dX3_repeat_26 ?_
      refine lv_aload_n hx hb dX3_repeat_29 rfl (lv_at hl 0 rfl) ?_
      refine va_get (D := D) (ci := 3) (v := .int (vI ((f : Nat) : Int))) (C := RX3) (T := TX3) (N := 3) hx hb hts iwX3 hown hK hP 0 rfl rfl 1 (by decide) (hts _ aw_28) (fun _ h9 => h9) rfl dX3_repeat_30 ?_
      refine lv_iload_n hx hb dX3_repeat_33 rfl (lv_at hl 1 rfl) ?_
      refine zw_isub hx hb dX3_repeat_34 ?_
      refine zw_to (z2 := ((f - per : Nat) : Int)) (by omega) ?_
      refine zw_bald hx hb hK hP 1 1 rfl rfl (f - per) (by omega) (by omega) (by omega) dX3_repeat_35 ?_
      refine zw_bast hx hb hK hP hD hS 1 1 rfl rfl (f) (by omega) (by omega) (by omega) (hby _) dX3_repeat_36 (fun H locs hP hD hS => ?_)
      have hP : va_P D vwCl [(hR, .inr (3, [.ref aB, .int (vI ((f : Nat) : Int)), .int (vI ((pa : Nat) : Int))])), ia aB cB (NB) (zU d f (d (f - per)))] H := hP
      have hD : va_D _ [(hR, .inr (3, [.ref aB, .int (vI ((f : Nat) : Int)), .int (vI ((pa : Nat) : Int))])), ia aB cB (NB) (zU d f (d (f - per)))] := hD
      refine lv_aload_n hx hb dX3_repeat_37 rfl (lv_at hl 0 rfl) ?_
      refine lv_dup hx hb dX3_repeat_38 rfl ?_
      refine va_get (D := D) (ci := 3) (v := .int (vI ((f : Nat) : Int))) (C := RX3) (T := TX3) (N := 3) hx hb hts iwX3 hown hK hP 0 rfl rfl 1 (by decide) (hts _ aw_28) (fun _ h9 => h9) rfl dX3_repeat_39 ?_
      refine zw_iconst hx hb dX3_repeat_42 ?_
      refine zw_iadd hx hb dX3_repeat_43 ?_
      refine zw_to (z2 := ((f + 1 : Nat) : Int)) (by omega) ?_
      refine va_put (D := D) (ci := 3) (v := .int (vI ((f + 1 : Nat) : Int))) (ty := .int) (C := RX3) (T := TX3) (N := 3) hx hb hts iwX3 tyX3 tyX3_ok nmX3 hown hK hP hD hS 0 rfl rfl 1 (by decide) (hts _ aw_28) (fun _ h9 => h9) rfl (by decide +kernel) rfl rfl (Nat.le_of_ble_eq_true rfl) dX3_repeat_44 (fun H locs hP hD hS => ?_)
      have hP : va_P D vwCl [(hR, .inr (3, [.ref aB, .int (vI ((f + 1 : Nat) : Int)), .int (vI ((pa : Nat) : Int))])), ia aB cB (NB) (zU d f (d (f - per)))] H := hP
      have hD : va_D _ [(hR, .inr (3, [.ref aB, .int (vI ((f + 1 : Nat) : Int)), .int (vI ((pa : Nat) : Int))])), ia aB cB (NB) (zU d f (d (f - per)))] := hD
      refine lv_iinc (v := vI ((k + 1 : Nat) : Int)) (lv' := [(3, .int (vI ((k + 1 : Nat) : Int))), (0, .ref hR), (1, .int (vI ((per : Nat) : Int))), (2, .int (vI ((w : Nat) : Int)))]) hx hb dX3_repeat_47 hl (k := 3) rfl ((vI_add _ _).trans (congrArg vI (by omega))) (by decide) rfl (fun ls hl => ?_)
      refine lv_goto (tgt := 12) hx hb dX3_repeat_50 (by decide) ?_
      exact ih (k + 1) (f + 1) (zU d f (d (f - per))) (by omega) _ _ _ (by omega) (by omega) (fun j hj => (zU_n (by omega)).trans (hd j hj)) (zU_rep (by omega) hw) (zU_by hby (hby _)) (hP.sub [0, 1] rfl) (hD.sub [0, 1] (by decide) rfl) hS (lv_sub hl [1, 2, 3, 0] rfl)

set_option maxRecDepth 100000 in
set_option maxHeartbeats 4000000 in
theorem c_X3_repeat (l : Launch) (D : va_G) (cI cB : ClassId) (sz : Nat) (hR : Nat) (aB : Nat) (n : Nat) (pa : Nat) (NB : Nat) (d : Nat → Int) (per : Nat) (w : Nat) (h1 : n + w ≤ 32768 ∧ 1 ≤ per ∧ per ≤ n ∧ n ≤ NB ∧ NB ≤ 32768) (hby : ∀ j, -128 ≤ d j ∧ d j < 128) : Met l yX3_repeat wsX3_repeat ({ frames := 3, cells := zmc NB (n + w), slots := zms NB (n + w), locals := 83 } : Room) (va_Pc [.ref hR, .int (vI ((per : Nat) : Int)), .int (vI ((w : Nat) : Int))] (zPre D vwCl [(cI, .int), (cB, .byte)] [(hR, .inr (3, [.ref aB, .int (vI ((n : Nat) : Int)), .int (vI ((pa : Nat) : Int))])), ia aB cB (NB) (d)] sz)) (va_Qv (S := Nat × Nat × (Nat → Int)) (fun u => match u with | (aB2, NB2, d2) => (NB2 = zNB NB (n + w)) ∧ (∀ j, j < n → d2 j = d j) ∧ (∀ j, n ≤ j → j < n + w → d2 j = d2 (j - per)) ∧ (∀ j, -128 ≤ d2 j ∧ d2 j < 128)) (fun (u : Nat × Nat × (Nat → Int)) t => zB D vwCl (va_A [(hR, .inr (3, [.ref aB, .int (vI ((n : Nat) : Int)), .int (vI ((pa : Nat) : Int))])), ia aB cB (NB) (d)] sz) ((fun u => match u with | (aB2, NB2, d2) => [(hR, .inr (3, [.ref aB2, .int (vI ((n + w : Nat) : Int)), .int (vI ((pa : Nat) : Int))])), ia aB2 cB (NB2) (d2)] : Nat × Nat × (Nat → Int) → va_W) u) t) (va_A [(hR, .inr (3, [.ref aB, .int (vI ((n : Nat) : Int)), .int (vI ((pa : Nat) : Int))])), ia aB cB (NB) (d)] sz)) (zmc NB (n + w)) (zms NB (n + w)) (va_A [(hR, .inr (3, [.ref aB, .int (vI ((n : Nat) : Int)), .int (vI ((pa : Nat) : Int))])), ia aB cB (NB) (d)] sz) := by
  refine zMet (by decide) rfl (Nat.le_of_ble_eq_true rfl) (fun p e s m below meth c hx hb hr hts hown hlocks hnm hml hK hns hA hP hD hS ls hl => ?_)
  have hl : lv_has ls 4 [(0, .ref hR), (1, .int (vI ((per : Nat) : Int))), (2, .int (vI ((w : Nat) : Int)))] := hl
  have hRf : 3 ≤ ({ frames := 3, cells := zmc NB (n + w), slots := zms NB (n + w), locals := 83 } : Room).frames := Nat.le_refl _
  have hRl : 83 ≤ ({ frames := 3, cells := zmc NB (n + w), slots := zms NB (n + w), locals := 83 } : Room).locals := Nat.le_refl _
  have hRc : 0 ≤ ({ frames := 3, cells := zmc NB (n + w), slots := zms NB (n + w), locals := 83 } : Room).cells := Nat.zero_le _
  have hRs : 0 ≤ ({ frames := 3, cells := zmc NB (n + w), slots := zms NB (n + w), locals := 83 } : Room).slots := Nat.zero_le _
  refine lv_aload_n hx hb dX3_repeat_0 rfl (lv_at hl 0 rfl) ?_
  refine lv_aload_n hx hb dX3_repeat_1 rfl (lv_at hl 0 rfl) ?_
  refine va_get (D := D) (ci := 3) (v := .int (vI ((n : Nat) : Int))) (C := RX3) (T := TX3) (N := 3) hx hb hts iwX3 hown hK hP 0 rfl rfl 1 (by decide) (hts _ aw_28) (fun _ h9 => h9) rfl dX3_repeat_2 ?_
  refine lv_iload_n hx hb dX3_repeat_5 rfl (lv_at hl 2 rfl) ?_
  refine zw_iadd hx hb dX3_repeat_6 ?_
  refine zw_to (z2 := ((n + w : Nat) : Int)) (by omega) ?_
  have hPc := hP.sub (ws' := [(hR, .inr (3, [.ref aB, .int (vI ((n : Nat) : Int)), .int (vI ((pa : Nat) : Int))])), ia aB cB (NB) (d)]) [0, 1] rfl
  have hDc := hD.sub (ws' := [(hR, .inr (3, [.ref aB, .int (vI ((n : Nat) : Int)), .int (vI ((pa : Nat) : Int))])), ia aB cB (NB) (d)]) [0, 1] (by decide) rfl
  refine zc_v (wr := []) (va_runV (As := [.int (vI ((n + w : Nat) : Int))]) (rest := []) ⟨hx, hb, hml, hown, hts⟩ (c_X3_makeRoom l D cI cB _ hR aB n pa NB d (n + w) (by omega) (hby)) ⟨callB_of 1 hts (zg kX3_makeRoom) rfl rfl rfl (hts _ aw_2) (hts _ aw_297) (by decide +kernel) ⟨Nat.le_trans (Nat.le_of_ble_eq_true rfl) hRf, Nat.le_trans (Nat.le_of_ble_eq_true rfl) hRl⟩, (hts _ aw_299), (hts _ as_6)⟩ ⟨zPre_blind, va_recv hK hPc (ci := 3) (q0 := 0) rfl rfl, zPre_of hK hns hPc hDc⟩ rfl rfl hl.1 rfl (lv_room (Nat.le_of_ble_eq_true rfl)) dX3_repeat_7 ⟨Nat.le_of_eq (Nat.zero_add _), Nat.le_of_eq (Nat.zero_add _)⟩) hP hD hS hA [0, 1] [] rfl rfl (by decide) (by decide) (fun u H locs hpost hP hD hS => ?_)
  obtain ⟨aB2, NB2, d1⟩ := u
  obtain ⟨hNB_7, hd_7, hby_7⟩ := hpost
  have hRc : 0 + (zmc NB (n + w)) ≤ ({ frames := 3, cells := zmc NB (n + w), slots := zms NB (n + w), locals := 83 } : Room).cells := by show 0 + (zmc NB (n + w)) ≤ zmc NB (n + w); omega
  have hRs : 0 + (zms NB (n + w)) ≤ ({ frames := 3, cells := zmc NB (n + w), slots := zms NB (n + w), locals := 83 } : Room).slots := by show 0 + (zms NB (n + w)) ≤ zms NB (n + w); omega
  have hP : va_P D vwCl [(hR, .inr (3, [.ref aB2, .int (vI ((n : Nat) : Int)), .int (vI ((pa : Nat) : Int))])), ia aB2 cB (NB2) (d1)] H := hP
  have hD : va_D _ [(hR, .inr (3, [.ref aB2, .int (vI ((n : Nat) : Int)), .int (vI ((pa : Nat) : Int))])), ia aB2 cB (NB2) (d1)] := hD
  have hz1 := zNB_ge NB (n + w)
  have hz2 := zNB_le NB (n + w) (by omega)
  have hRc : 0 + zmc NB (n + w) ≤ zmc NB (n + w) := Nat.le_of_eq (Nat.zero_add _)
  have hRs : 0 + zms NB (n + w) ≤ zms NB (n + w) := Nat.le_of_eq (Nat.zero_add _)
  refine zw_iconst hx hb dX3_repeat_10 ?_
  refine lv_istore_n (lv' := [(3, .int (vI (0))), (0, .ref hR), (1, .int (vI ((per : Nat) : Int))), (2, .int (vI ((w : Nat) : Int)))]) hx hb dX3_repeat_11 rfl hl (by decide) rfl (fun ls hl => ?_)
  refine s_repeat hx hb hts hown hml hK hns hA (Nat.le_trans (Nat.le_of_ble_eq_true rfl) hRf) (Nat.le_trans (Nat.le_of_ble_eq_true rfl) hRl) hRc hRs hR aB2 n pa NB2 d1 per w (by omega) (fun f d H locs ls hf hd hw hby hP hD hS hl => ?_) (w - 0 + 1) 0 n d1 (Nat.lt_succ_self _) _ _ _ (by omega) (by omega) (fun _ _ => rfl) (fun j h2 h3 => absurd h3 (by omega)) (hby_7) (hP.sub [0, 1] rfl) (hD.sub [0, 1] (by decide) rfl) hS (lv_sub hl [1, 2, 3, 0] rfl)
  subst hf
  refine W.widen (k := zmc NB (n + w)) (n := zms NB (n + w)) (Nat.le_of_eq (Nat.zero_add _)) (Nat.le_of_eq (Nat.zero_add _)) ?_
  exact zr_v hx hb hr hlocks ((aB2, NB2, d)) ⟨hNB_7, fun j hj => (hd j hj).trans (hd_7 j (by omega)), hw, hby⟩ hP hD hS dX3_repeat_53
end
section
/-- for each distance a stretch of places whose bytes are those that far before -/
def zMemo (d : Nat → Int) (n NS : Nat) (gS gT : Nat → Int) : Prop := ∀ f : Nat, 1 ≤ f → f < NS → 0 ≤ gS f ∧ gS f ≤ gT f ∧ gT f ≤ n ∧ ∀ i : Nat, gS f ≤ i → (i : Int) < gT f → f ≤ i ∧ d i = d (i - f)
theorem zsame_1 {d : Nat → Int} {pp far k : Nat} (h : ∀ j, pp ≤ j → j < k → d j = d (j - far)) (e : d k = d (k - far)) : ∀ j, pp ≤ j → j < k + 1 → d j = d (j - far) := fun j h1 h2 => by
  rcases Nat.lt_or_ge j k with z | z
  · exact h j h1 z
  · rw [show j = k by omega]; exact e
theorem zsame_2 {d : Nat → Int} {pp far k fs ft : Nat} (h : ∀ j, pp ≤ j → j < k → d j = d (j - far)) (e : k = fs) (h3 : ∀ i, fs ≤ i → i < ft → far ≤ i ∧ d i = d (i - far)) : ∀ j, pp ≤ j → j < ft → d j = d (j - far) := fun j h1 h2 => by
  rcases Nat.lt_or_ge j k with z | z
  · exact h j h1 z
  · exact (h3 j (by omega) h2).2
theorem zsame_k {d : Nat → Int} {pp far k fs ft : Nat} (h0 : far ≤ pp ∧ pp < ft) (h3 : ∀ i, fs ≤ i → i < ft → far ≤ i ∧ d i = d (i - far)) (h : ∀ j, pp ≤ j → j < k → d j = d (j - far)) : ∀ i, fs ≤ i → i < k → far ≤ i ∧ d i = d (i - far) := fun i h1 h2 => by
  rcases Nat.lt_or_ge i ft with z | z
  · exact h3 i h1 z
  · exact ⟨by omega, h i (by omega) h2⟩
theorem zsame_run {d : Nat → Int} {pp far k w : Nat} (hf : far ≤ pp) (h1 : pp ≤ k) (h2 : ∀ j, pp ≤ j → j < k → d j = d (j - far)) (h3 : pp + w ≤ k ∨ ¬ d k = d (k - far)) : zrun d w pp (pp - far) = min k (pp + w) - pp := by
  refine zrun_is (by omega) (fun j hj => ?_) ?_
  · have h4 := h2 (pp + j) (by omega) (by omega)
    rw [h4]
    congr 1
    omega
  · by_cases h5 : pp + w ≤ k
    · exact Or.inl (by omega)
    · refine Or.inr ?_
      rw [show pp + (min k (pp + w) - pp) = k by omega, show pp - far + (min k (pp + w) - pp) = k - far by omega]
      rcases h3 with h | h
      · exact absurd h h5
      · exact h
theorem zmemo_set {d : Nat → Int} {n NS : Nat} {gS gT : Nat → Int} {far : Nat} {a b : Int} (h : zMemo d n NS gS gT) (h0 : 0 ≤ a) (h1 : a ≤ b) (h2 : b ≤ n) (h3 : ∀ i : Nat, a ≤ i → (i : Int) < b → far ≤ i ∧ d i = d (i - far)) : zMemo d n NS (zU gS far a) (zU gT far b) := fun f g1 g2 => by
  by_cases e : f = far
  · rw [e, zU_s, zU_s]; exact ⟨h0, h1, h2, h3⟩
  · rw [zU_n e, zU_n e]; exact h f g1 g2
set_option maxRecDepth 100000 in
set_option maxHeartbeats 4000000 in
theorem s_same {p : Program} {l : Launch} {e : Env} {R : Room} {s : State} {m : MethodId} {args : Array Value} {below : List Frame} {meth : Method} {c : Code} {Q : State → Prop} {A : Nat → Prop} {H0 : Heap} {D : va_G} {cI cB : ClassId} {cells slots : Nat} (hx : p.tables.exec = Jvm.exec) (hb : c.code = cX0_sameBytes) (hts : ∀ w ∈ zALL, w.before args s = true) (hown : s.vm.findClass RX0 = some m.cls) (hml : c.maxLocals = 10) (hK : va_K D vwCl [(cI, .int), (cB, .byte)] s) (hns : zNs s) (hA : ∀ q, H0.size ≤ q → A q) (hRf : 0 ≤ R.frames) (hRl : 0 ≤ R.locals) (hRc : cells ≤ R.cells) (hRs : slots ≤ R.slots) (hF : Nat) (hR : Nat) (hL : Nat) (aL : Nat) (aK : Nat) (aS : Nat) (aT : Nat) (aB : Nat) (lk : Nat) (ll : Nat) (n : Nat) (pa : Nat) (NB : Nat) (NS : Nat) (d : Nat → Int) (plc : Int) (cand : Int) (low : Int) (lim : Int) (beat : Int) (ln : Int) (dist : Int) (gS : Nat → Int) (gT : Nat → Int) (pp : Nat) (far : Nat) (w : Nat) (fs : Nat) (ft : Nat) (kn : Int) (h1 : 1 ≤ far ∧ far ≤ pp ∧ pp + w ≤ n ∧ n ≤ NB ∧ NB ≤ 32768) (h2 : fs ≤ ft ∧ ft ≤ n) (h3 : ∀ i, fs ≤ i → i < ft → far ≤ i ∧ d i = d (i - far)) (hby : ∀ j, -128 ≤ d j ∧ d j < 128)
    (K1 : ∀ (k : Nat) (H : Heap) (locs : List Loc) (ls : Array Slot), (pp ≤ k ∧ k ≤ n) → (∀ j, pp ≤ j → j < k → d j = d (j - far)) → (pp + w ≤ k ∨ ¬ d k = d (k - far)) → va_P D vwCl [(hF, .inr (0, [.ref hR, .ref hL, .ref aL, .ref aK, .int (vI ((lk : Nat) : Int)), .int (vI ((ll : Nat) : Int)), .ref aS, .ref aT, .int (vI (plc)), .int (vI (cand)), .int (vI (low)), .int (vI (lim)), .int (vI (beat)), .int (vI (ln)), .int (vI (dist))])), (hR, .inr (3, [.ref aB, .int (vI ((n : Nat) : Int)), .int (vI ((pa : Nat) : Int))])), ia aB cB (NB) (d), ia aS cI (NS) (gS), ia aT cI (NS) (gT)] H → va_D A [(hF, .inr (0, [.ref hR, .ref hL, .ref aL, .ref aK, .int (vI ((lk : Nat) : Int)), .int (vI ((ll : Nat) : Int)), .ref aS, .ref aT, .int (vI (plc)), .int (vI (cand)), .int (vI (low)), .int (vI (lim)), .int (vI (beat)), .int (vI (ln)), .int (vI (dist))])), (hR, .inr (3, [.ref aB, .int (vI ((n : Nat) : Int)), .int (vI ((pa : Nat) : Int))])), ia aB cB (NB) (d), ia aS cI (NS) (gS), ia aT cI (NS) (gT)] → va_S A H0 H locs → lv_has ls 10 [(0, .ref hF), (1, .int (vI ((pp : Nat) : Int))), (2, .int (vI ((far : Nat) : Int))), (3, .int (vI ((w : Nat) : Int))), (4, .ref aB), (5, .int (vI ((pp + w : Nat) : Int))), (6, .int (vI ((fs : Nat) : Int))), (7, .int (vI ((ft : Nat) : Int))), (8, .int (vI (kn))), (9, .int (vI ((k : Nat) : Int)))] → W p l e R s m args below meth c H locs cells slots Q (F0 m 101 ls []))
    : ∀ (fuel : Nat), ∀ (k : Nat) (_ : pp + w - k < fuel) (H : Heap) (locs : List Loc) (ls : Array Slot), (pp ≤ k ∧ k ≤ n) → (∀ j, pp ≤ j → j < k → d j = d (j - far)) → va_P D vwCl [(hF, .inr (0, [.ref hR, .ref hL, .ref aL, .ref aK, .int (vI ((lk : Nat) : Int)), .int (vI ((ll : Nat) : Int)), .ref aS, .ref aT, .int (vI (plc)), .int (vI (cand)), .int (vI (low)), .int (vI (lim)), .int (vI (beat)), .int (vI (ln)), .int (vI (dist))])), (hR, .inr (3, [.ref aB, .int (vI ((n : Nat) : Int)), .int (vI ((pa : Nat) : Int))])), ia aB cB (NB) (d), ia aS cI (NS) (gS), ia aT cI (NS) (gT)] H → va_D A [(hF, .inr (0, [.ref hR, .ref hL, .ref aL, .ref aK, .int (vI ((lk : Nat) : Int)), .int (vI ((ll : Nat) : Int)), .ref aS, .ref aT, .int (vI (plc)), .int (vI (cand)), .int (vI (low)), .int (vI (lim)), .int (vI (beat)), .int (vI (ln)), .int (vI (dist))])), (hR, .inr (3, [.ref aB, .int (vI ((n : Nat) : Int)), .int (vI ((pa : Nat) : Int))])), ia aB cB (NB) (d), ia aS cI (NS) (gS), ia aT cI (NS) (gT)] → va_S A H0 H locs → lv_has ls 10 [(0, .ref hF), (1, .int (vI ((pp : Nat) : Int))), (2, .int (vI ((far : Nat) : Int))), (3, .int (vI ((w : Nat) : Int))), (4, .ref aB), (5, .int (vI ((pp + w : Nat) : Int))), (6, .int (vI ((fs : Nat) : Int))), (7, .int (vI ((ft : Nat) : Int))), (8, .int (vI (kn))), (9, .int (vI ((k : Nat) : Int)))] → W p l e R s m args below meth c H locs cells slots Q (F0 m 62 ls []) := by
  intro fuel
  induction fuel with
  | zero =>
    intro k hfuel
    exact absurd hfuel (Nat.not_lt_zero _)
  | succ fuel ih =>
    intro k hfuel H locs ls hk hd hP hD hS hl
    refine lv_iload hx hb dX0_sameBytes_62 (lv_at hl 9 rfl) ?_
    refine lv_iload hx hb dX0_sameBytes_64 (lv_at hl 5 rfl) ?_
    refine zw_icmp_ge (tgt := 101) hx hb dX0_sameBytes_66 (by decide) ⟨by omega, by omega⟩ ⟨by omega, by omega⟩ (fun c_66 => ?_) (fun c_66 => ?_)
    · exact K1 k _ _ _ (by omega) (hd) (Or.inl (by omega)) (hP.sub [0, 1, 2, 3, 4] rfl) (hD.sub [0, 1, 2, 3, 4] (by decide) rfl) hS (lv_sub hl [0, 1, 2, 3, 4, 5, 6, 7, 8, 9] rfl)
    · refine lv_aload hx hb dX0_sameBytes_69 (lv_at hl 4 rfl) ?_
      refine lv_iload hx hb dX0_sameBytes_71 (lv_at hl 9 rfl) ?_
      refine zw_bald hx hb hK hP 2 1 rfl rfl (k) (by omega) (by omega) (by omega) dX0_sameBytes_73 ?_
      refine lv_aload hx hb dX0_sameBytes_74 (lv_at hl 4 rfl) ?_
      refine lv_iload hx hb dX0_sameBytes_76 (lv_at hl 9 rfl) ?_
      refine lv_iload_n hx hb dX0_sameBytes_78 rfl (lv_at hl 2 rfl) ?_
      refine zw_isub hx hb dX0_sameBytes_79 ?_
      refine zw_to (z2 := ((k - far : Nat) : Int)) (by omega) ?_
      refine zw_bald hx hb hK hP 2 1 rfl rfl (k - far) (by omega) (by omega) (by omega) dX0_sameBytes_80 ?_
      have hq1 := hby k
      have hq2 := hby (k - far)
      refine zw_icmp_ne (tgt := 101) hx hb dX0_sameBytes_81 (by decide) ⟨by omega, by omega⟩ ⟨by omega, by omega⟩ (fun c_81 => ?_) (fun c_81 => ?_)
      · exact K1 k _ _ _ (by omega) (hd) (Or.inr c_81) (hP.sub [0, 1, 2, 3, 4] rfl) (hD.sub [0, 1, 2, 3, 4] (by decide) rfl) hS (lv_sub hl [0, 1, 2, 3, 4, 5, 6, 7, 8, 9] rfl)
      · refine lv_iinc (v := vI ((k + 1 : Nat) : Int)) (lv' := [(9, .int (vI ((k + 1 : Nat) : Int))), (0, .ref hF), (1, .int (vI ((pp : Nat) : Int))), (2, .int (vI ((far : Nat) : Int))), (3, .int (vI ((w : Nat) : Int))), (4, .ref aB), (5, .int (vI ((pp + w : Nat) : Int))), (6, .int (vI ((fs : Nat) : Int))), (7, .int (vI ((ft : Nat) : Int))), (8, .int (vI (kn)))]) hx hb dX0_sameBytes_84 hl (k := 9) rfl ((vI_add _ _).trans (congrArg vI (by omega))) (by decide) rfl (fun ls hl => ?_)
        refine lv_iload hx hb dX0_sameBytes_87 (lv_at hl 0 rfl) ?_
        refine lv_iload hx hb dX0_sameBytes_89 (lv_at hl 7 rfl) ?_
        refine zw_icmp_ne (tgt := 62) hx hb dX0_sameBytes_91 (by decide) ⟨by omega, by omega⟩ ⟨by omega, by omega⟩ (fun c_91 => ?_) (fun c_91 => ?_)
        · exact ih (k + 1) (by omega) _ _ _ (by omega) (zsame_1 hd c_81) (hP.sub [0, 1, 2, 3, 4] rfl) (hD.sub [0, 1, 2, 3, 4] (by decide) rfl) hS (lv_sub hl [1, 2, 3, 4, 5, 6, 7, 8, 9, 0] rfl)
        · refine lv_iload hx hb dX0_sameBytes_94 (lv_at hl 8 rfl) ?_
          refine lv_istore (lv' := [(9, .int (vI ((ft : Nat) : Int))), (0, .ref hF), (1, .int (vI ((pp : Nat) : Int))), (2, .int (vI ((far : Nat) : Int))), (3, .int (vI ((w : Nat) : Int))), (4, .ref aB), (5, .int (vI ((pp + w : Nat) : Int))), (6, .int (vI ((fs : Nat) : Int))), (7, .int (vI ((ft : Nat) : Int))), (8, .int (vI (kn)))]) hx hb dX0_sameBytes_96 hl (by decide) rfl (fun ls hl => ?_)
          refine lv_goto (tgt := 62) hx hb dX0_sameBytes_98 (by decide) ?_
          exact ih ft (by omega) _ _ _ (by omega) (zsame_2 (zsame_1 hd c_81) (by omega) h3) (hP.sub [0, 1, 2, 3, 4] rfl) (hD.sub [0, 1, 2, 3, 4] (by decide) rfl) hS (lv_sub hl [1, 2, 3, 4, 5, 6, 7, 8, 9, 0] rfl)

set_option maxRecDepth 100000 in
set_option maxHeartbeats 4000000 in
theorem c_X0_sameBytes (l : Launch) (D : va_G) (cI cB : ClassId) (sz : Nat) (hF : Nat) (hR : Nat) (hL : Nat) (aL : Nat) (aK : Nat) (aS : Nat) (aT : Nat) (aB : Nat) (lk : Nat) (ll : Nat) (n : Nat) (pa : Nat) (NB : Nat) (NS : Nat) (d : Nat → Int) (plc : Int) (cand : Int) (low : Int) (lim : Int) (beat : Int) (ln : Int) (dist : Int) (gS : Nat → Int) (gT : Nat → Int) (pp : Nat) (far : Nat) (w : Nat) (h1 : 1 ≤ far ∧ far ≤ pp ∧ pp + w ≤ n ∧ far < NS ∧ n ≤ NB ∧ NB ≤ 32768 ∧ n ≤ NS ∧ NS ≤ 32768) (hM : zMemo d n NS gS gT) (hby : ∀ j, -128 ≤ d j ∧ d j < 128) : Met l yX0_sameBytes wsX0_sameBytes ({ frames := 1, cells := 0, slots := 0, locals := 21 } : Room) (va_Pc [.ref hF, .int (vI ((pp : Nat) : Int)), .int (vI ((far : Nat) : Int)), .int (vI ((w : Nat) : Int))] (zPre D vwCl [(cI, .int), (cB, .byte)] [(hF, .inr (0, [.ref hR, .ref hL, .ref aL, .ref aK, .int (vI ((lk : Nat) : Int)), .int (vI ((ll : Nat) : Int)), .ref aS, .ref aT, .int (vI (plc)), .int (vI (cand)), .int (vI (low)), .int (vI (lim)), .int (vI (beat)), .int (vI (ln)), .int (vI (dist))])), (hR, .inr (3, [.ref aB, .int (vI ((n : Nat) : Int)), .int (vI ((pa : Nat) : Int))])), ia aB cB (NB) (d), ia aS cI (NS) (gS), ia aT cI (NS) (gT)] sz)) (va_Qi (S := (Nat → Int) × (Nat → Int)) (fun (r : Int32) => fun u => match u with | (gS2, gT2) => (r = vI ((zrun d w pp (pp - far) : Nat) : Int)) ∧ (zMemo d n NS gS2 gT2)) (fun (u : (Nat → Int) × (Nat → Int)) t => zB D vwCl (va_A [(hF, .inr (0, [.ref hR, .ref hL, .ref aL, .ref aK, .int (vI ((lk : Nat) : Int)), .int (vI ((ll : Nat) : Int)), .ref aS, .ref aT, .int (vI (plc)), .int (vI (cand)), .int (vI (low)), .int (vI (lim)), .int (vI (beat)), .int (vI (ln)), .int (vI (dist))])), (hR, .inr (3, [.ref aB, .int (vI ((n : Nat) : Int)), .int (vI ((pa : Nat) : Int))])), ia aB cB (NB) (d), ia aS cI (NS) (gS), ia aT cI (NS) (gT)] sz) ((fun u => match u with | (gS2, gT2) => [(hF, .inr (0, [.ref hR, .ref hL, .ref aL, .ref aK, .int (vI ((lk : Nat) : Int)), .int (vI ((ll : Nat) : Int)), .ref aS, .ref aT, .int (vI (plc)), .int (vI (cand)), .int (vI (low)), .int (vI (lim)), .int (vI (beat)), .int (vI (ln)), .int (vI (dist))])), (hR, .inr (3, [.ref aB, .int (vI ((n : Nat) : Int)), .int (vI ((pa : Nat) : Int))])), ia aB cB (NB) (d), ia aS cI (NS) (gS2), ia aT cI (NS) (gT2)] : (Nat → Int) × (Nat → Int) → va_W) u) t) (va_A [(hF, .inr (0, [.ref hR, .ref hL, .ref aL, .ref aK, .int (vI ((lk : Nat) : Int)), .int (vI ((ll : Nat) : Int)), .ref aS, .ref aT, .int (vI (plc)), .int (vI (cand)), .int (vI (low)), .int (vI (lim)), .int (vI (beat)), .int (vI (ln)), .int (vI (dist))])), (hR, .inr (3, [.ref aB, .int (vI ((n : Nat) : Int)), .int (vI ((pa : Nat) : Int))])), ia aB cB (NB) (d), ia aS cI (NS) (gS), ia aT cI (NS) (gT)] sz)) (0) (0) (va_A [(hF, .inr (0, [.ref hR, .ref hL, .ref aL, .ref aK, .int (vI ((lk : Nat) : Int)), .int (vI ((ll : Nat) : Int)), .ref aS, .ref aT, .int (vI (plc)), .int (vI (cand)), .int (vI (low)), .int (vI (lim)), .int (vI (beat)), .int (vI (ln)), .int (vI (dist))])), (hR, .inr (3, [.ref aB, .int (vI ((n : Nat) : Int)), .int (vI ((pa : Nat) : Int))])), ia aB cB (NB) (d), ia aS cI (NS) (gS), ia aT cI (NS) (gT)] sz) := by
  refine zMet (by decide) rfl (Nat.le_of_ble_eq_true rfl) (fun p e s m below meth c hx hb hr hts hown hlocks hnm hml hK hns hA hP hD hS ls hl => ?_)
  have hl : lv_has ls 10 [(0, .ref hF), (1, .int (vI ((pp : Nat) : Int))), (2, .int (vI ((far : Nat) : Int))), (3, .int (vI ((w : Nat) : Int)))] := hl
  have hRf : 1 ≤ ({ frames := 1, cells := 0, slots := 0, locals := 21 } : Room).frames := Nat.le_refl _
  have hRl : 21 ≤ ({ frames := 1, cells := 0, slots := 0, locals := 21 } : Room).locals := Nat.le_refl _
  have hRc : 0 ≤ ({ frames := 1, cells := 0, slots := 0, locals := 21 } : Room).cells := Nat.zero_le _
  have hRs : 0 ≤ ({ frames := 1, cells := 0, slots := 0, locals := 21 } : Room).slots := Nat.zero_le _
  obtain ⟨m1, m2, m3, m4⟩ := hM far (by omega) (by omega)
  obtain ⟨fs, hfs⟩ : ∃ k : Nat, gS far = (k : Int) := ⟨(gS far).toNat, by omega⟩
  obtain ⟨ft, hft⟩ : ∃ k : Nat, gT far = (k : Int) := ⟨(gT far).toNat, by omega⟩
  have m5 : ∀ i, fs ≤ i → i < ft → far ≤ i ∧ d i = d (i - far) := fun i a1 a2 => m4 i (by omega) (by omega)
  refine lv_aload_n hx hb dX0_sameBytes_0 rfl (lv_at hl 0 rfl) ?_
  refine va_get (D := D) (ci := 0) (v := .ref hR) (C := RX0) (T := TX0) (N := 15) hx hb hts iwX0 hown hK hP 0 rfl rfl 0 (by decide) (hts _ aw_100) (fun _ h9 => h9) rfl dX0_sameBytes_1 ?_
  refine va_getN (D := D) (ci := 3) (v := .ref aB) (C := RX3) (T := TX3) (N := 3) hx hb hts iwX3 hown hK hP 1 rfl rfl 0 (by decide) (va_Nw.use rfl (hns _ nw_27)) (fun _ h9 => h9) rfl dX0_sameBytes_4 ?_
  refine lv_astore (lv' := [(4, .ref aB), (0, .ref hF), (1, .int (vI ((pp : Nat) : Int))), (2, .int (vI ((far : Nat) : Int))), (3, .int (vI ((w : Nat) : Int)))]) hx hb dX0_sameBytes_7 hl (by decide) rfl (fun ls hl => ?_)
  refine lv_iload_n hx hb dX0_sameBytes_9 rfl (lv_at hl 2 rfl) ?_
  refine lv_iload_n hx hb dX0_sameBytes_10 rfl (lv_at hl 4 rfl) ?_
  refine zw_iadd hx hb dX0_sameBytes_11 ?_
  refine zw_to (z2 := ((pp + w : Nat) : Int)) (by omega) ?_
  refine lv_istore (lv' := [(5, .int (vI ((pp + w : Nat) : Int))), (4, .ref aB), (0, .ref hF), (1, .int (vI ((pp : Nat) : Int))), (2, .int (vI ((far : Nat) : Int))), (3, .int (vI ((w : Nat) : Int)))]) hx hb dX0_sameBytes_12 hl (by decide) rfl (fun ls hl => ?_)
  refine lv_aload_n hx hb dX0_sameBytes_14 rfl (lv_at hl 2 rfl) ?_
  refine va_get (D := D) (ci := 0) (v := .ref aS) (C := RX0) (T := TX0) (N := 15) hx hb hts iwX0 hown hK hP 0 rfl rfl 6 (by decide) (hts _ aw_106) (fun _ h9 => h9) rfl dX0_sameBytes_15 ?_
  refine lv_iload_n hx hb dX0_sameBytes_18 rfl (lv_at hl 4 rfl) ?_
  refine zw_iald hx hb hK hP 3 0 rfl rfl (far) (by omega) (by omega) (by omega) dX0_sameBytes_19 ?_
  refine zw_to (z2 := ((fs : Nat) : Int)) (hfs) ?_
  refine lv_istore (lv' := [(6, .int (vI ((fs : Nat) : Int))), (5, .int (vI ((pp + w : Nat) : Int))), (4, .ref aB), (0, .ref hF), (1, .int (vI ((pp : Nat) : Int))), (2, .int (vI ((far : Nat) : Int))), (3, .int (vI ((w : Nat) : Int)))]) hx hb dX0_sameBytes_20 hl (by decide) rfl (fun ls hl => ?_)
  refine lv_aload_n hx hb dX0_sameBytes_22 rfl (lv_at hl 3 rfl) ?_
  refine va_get (D := D) (ci := 0) (v := .ref aT) (C := RX0) (T := TX0) (N := 15) hx hb hts iwX0 hown hK hP 0 rfl rfl 7 (by decide) (hts _ aw_107) (fun _ h9 => h9) rfl dX0_sameBytes_23 ?_
  refine lv_iload_n hx hb dX0_sameBytes_26 rfl (lv_at hl 5 rfl) ?_
  refine zw_iald hx hb hK hP 4 0 rfl rfl (far) (by omega) (by omega) (by omega) dX0_sameBytes_27 ?_
  refine zw_to (z2 := ((ft : Nat) : Int)) (hft) ?_
  refine lv_istore (lv' := [(7, .int (vI ((ft : Nat) : Int))), (6, .int (vI ((fs : Nat) : Int))), (5, .int (vI ((pp + w : Nat) : Int))), (4, .ref aB), (0, .ref hF), (1, .int (vI ((pp : Nat) : Int))), (2, .int (vI ((far : Nat) : Int))), (3, .int (vI ((w : Nat) : Int)))]) hx hb dX0_sameBytes_28 hl (by decide) rfl (fun ls hl => ?_)
  refine lv_iload hx hb dX0_sameBytes_30 (lv_at hl 1 rfl) ?_
  refine lv_iload_n hx hb dX0_sameBytes_32 rfl (lv_at hl 5 rfl) ?_
  refine zw_icmp_gt (tgt := 46) hx hb dX0_sameBytes_33 (by decide) ⟨by omega, by omega⟩ ⟨by omega, by omega⟩ (fun c_33 => ?_) (fun c_33 => ?_)
  · refine zw_iconst hx hb dX0_sameBytes_46 ?_
    refine lv_istore (lv' := [(8, .int (vI (0))), (7, .int (vI ((ft : Nat) : Int))), (6, .int (vI ((fs : Nat) : Int))), (5, .int (vI ((pp + w : Nat) : Int))), (4, .ref aB), (0, .ref hF), (1, .int (vI ((pp : Nat) : Int))), (2, .int (vI ((far : Nat) : Int))), (3, .int (vI ((w : Nat) : Int)))]) hx hb dX0_sameBytes_47 hl (by decide) rfl (fun ls hl => ?_)
    refine lv_iload hx hb dX0_sameBytes_49 (lv_at hl 0 rfl) ?_
    refine zw_if_eq (tgt := 59) hx hb dX0_sameBytes_51 (by decide) ⟨by omega, by omega⟩ (fun c_51 => ?_) (fun c_51 => False.elim (by omega))
    refine lv_iload_n hx hb dX0_sameBytes_59 rfl (lv_at hl 6 rfl) ?_
    refine lv_istore (lv' := [(9, .int (vI ((pp : Nat) : Int))), (8, .int (vI (0))), (7, .int (vI ((ft : Nat) : Int))), (6, .int (vI ((fs : Nat) : Int))), (5, .int (vI ((pp + w : Nat) : Int))), (4, .ref aB), (0, .ref hF), (1, .int (vI ((pp : Nat) : Int))), (2, .int (vI ((far : Nat) : Int))), (3, .int (vI ((w : Nat) : Int)))]) hx hb dX0_sameBytes_60 hl (by decide) rfl (fun ls hl => ?_)
    refine s_same hx hb hts hown hml hK hns hA (Nat.le_trans (Nat.le_of_ble_eq_true rfl) hRf) (Nat.le_trans (Nat.le_of_ble_eq_true rfl) hRl) hRc hRs hF hR hL aL aK aS aT aB lk ll n pa NB NS d plc cand low lim beat ln dist gS gT pp far w fs ft 0 (by omega) (by omega) (m5) (hby) (fun k H locs ls hk hd he hP hD hS hl => ?_) (pp + w - pp + 1) pp (Nat.lt_succ_self _) _ _ _ (by omega) (fun j a1 a2 => (m5 j (by omega) (by omega)).2) (hP.sub [0, 1, 2, 3, 4] rfl) (hD.sub [0, 1, 2, 3, 4] (by decide) rfl) hS (lv_sub hl [6, 7, 8, 9, 5, 4, 3, 2, 1, 0] rfl)
    refine lv_aload_n hx hb dX0_sameBytes_101 rfl (lv_at hl 0 rfl) ?_
    refine va_get (D := D) (ci := 0) (v := .ref aS) (C := RX0) (T := TX0) (N := 15) hx hb hts iwX0 hown hK hP 0 rfl rfl 6 (by decide) (hts _ aw_106) (fun _ h9 => h9) rfl dX0_sameBytes_102 ?_
    refine lv_iload_n hx hb dX0_sameBytes_105 rfl (lv_at hl 2 rfl) ?_
    refine lv_iload hx hb dX0_sameBytes_106 (lv_at hl 8 rfl) ?_
    refine zw_if_eq (tgt := 116) hx hb dX0_sameBytes_108 (by decide) ⟨by omega, by omega⟩ (fun c_108 => ?_) (fun c_108 => False.elim (by omega))
    refine lv_iload_n hx hb dX0_sameBytes_116 rfl (lv_at hl 1 rfl) ?_
    refine zw_iast hx hb hK hP hD hS 3 0 rfl rfl (far) (by omega) (by omega) (by omega) dX0_sameBytes_117 (fun H locs hP hD hS => ?_)
    have hP : va_P D vwCl [(hF, .inr (0, [.ref hR, .ref hL, .ref aL, .ref aK, .int (vI ((lk : Nat) : Int)), .int (vI ((ll : Nat) : Int)), .ref aS, .ref aT, .int (vI (plc)), .int (vI (cand)), .int (vI (low)), .int (vI (lim)), .int (vI (beat)), .int (vI (ln)), .int (vI (dist))])), (hR, .inr (3, [.ref aB, .int (vI ((n : Nat) : Int)), .int (vI ((pa : Nat) : Int))])), ia aB cB (NB) (d), ia aS cI (NS) (zU gS far ((pp : Nat) : Int)), ia aT cI (NS) (gT)] H := hP
    have hD : va_D _ [(hF, .inr (0, [.ref hR, .ref hL, .ref aL, .ref aK, .int (vI ((lk : Nat) : Int)), .int (vI ((ll : Nat) : Int)), .ref aS, .ref aT, .int (vI (plc)), .int (vI (cand)), .int (vI (low)), .int (vI (lim)), .int (vI (beat)), .int (vI (ln)), .int (vI (dist))])), (hR, .inr (3, [.ref aB, .int (vI ((n : Nat) : Int)), .int (vI ((pa : Nat) : Int))])), ia aB cB (NB) (d), ia aS cI (NS) (zU gS far ((pp : Nat) : Int)), ia aT cI (NS) (gT)] := hD
    refine lv_aload_n hx hb dX0_sameBytes_118 rfl (lv_at hl 0 rfl) ?_
    refine va_get (D := D) (ci := 0) (v := .ref aT) (C := RX0) (T := TX0) (N := 15) hx hb hts iwX0 hown hK hP 0 rfl rfl 7 (by decide) (hts _ aw_107) (fun _ h9 => h9) rfl dX0_sameBytes_119 ?_
    refine lv_iload_n hx hb dX0_sameBytes_122 rfl (lv_at hl 2 rfl) ?_
    refine lv_iload hx hb dX0_sameBytes_123 (lv_at hl 9 rfl) ?_
    refine zw_iast hx hb hK hP hD hS 4 0 rfl rfl (far) (by omega) (by omega) (by omega) dX0_sameBytes_125 (fun H locs hP hD hS => ?_)
    have hP : va_P D vwCl [(hF, .inr (0, [.ref hR, .ref hL, .ref aL, .ref aK, .int (vI ((lk : Nat) : Int)), .int (vI ((ll : Nat) : Int)), .ref aS, .ref aT, .int (vI (plc)), .int (vI (cand)), .int (vI (low)), .int (vI (lim)), .int (vI (beat)), .int (vI (ln)), .int (vI (dist))])), (hR, .inr (3, [.ref aB, .int (vI ((n : Nat) : Int)), .int (vI ((pa : Nat) : Int))])), ia aB cB (NB) (d), ia aS cI (NS) (zU gS far ((pp : Nat) : Int)), ia aT cI (NS) (zU gT far ((k : Nat) : Int))] H := hP
    have hD : va_D _ [(hF, .inr (0, [.ref hR, .ref hL, .ref aL, .ref aK, .int (vI ((lk : Nat) : Int)), .int (vI ((ll : Nat) : Int)), .ref aS, .ref aT, .int (vI (plc)), .int (vI (cand)), .int (vI (low)), .int (vI (lim)), .int (vI (beat)), .int (vI (ln)), .int (vI (dist))])), (hR, .inr (3, [.ref aB, .int (vI ((n : Nat) : Int)), .int (vI ((pa : Nat) : Int))])), ia aB cB (NB) (d), ia aS cI (NS) (zU gS far ((pp : Nat) : Int)), ia aT cI (NS) (zU gT far ((k : Nat) : Int))] := hD
    refine lv_iload hx hb dX0_sameBytes_126 (lv_at hl 9 rfl) ?_
    refine lv_iload hx hb dX0_sameBytes_128 (lv_at hl 5 rfl) ?_
    refine va_mmin hx hb (hml.trans hl.1.symm) hown (hts _ aw_385) (hts _ aw_316) (hts _ aw_9) (hts _ aw_317) (Nat.le_trans (Nat.le_of_ble_eq_true rfl) hRf) (Nat.le_trans (Nat.le_of_ble_eq_true rfl) hRl) hRc hRs dX0_sameBytes_130 ?_
    refine zw_as (vI_min ⟨by omega, by omega⟩ ⟨by omega, by omega⟩) ?_
    refine lv_iload_n hx hb dX0_sameBytes_133 rfl (lv_at hl 1 rfl) ?_
    refine zw_isub hx hb dX0_sameBytes_134 ?_
    refine zw_to (z2 := ((zrun d w pp (pp - far) : Nat) : Int)) (by rw [zsame_run (by omega) hk.1 hd he]; omega) ?_
    exact zr_i hx hb hr hlocks ((zU gS far ((pp : Nat) : Int), zU gT far ((k : Nat) : Int))) ⟨rfl, zmemo_set hM (by omega) (by omega) (by omega) (fun i a1 a2 => ⟨by omega, hd i (by omega) (by omega)⟩)⟩ hP hD hS dX0_sameBytes_135
  · refine lv_iload_n hx hb dX0_sameBytes_36 rfl (lv_at hl 5 rfl) ?_
    refine lv_iload hx hb dX0_sameBytes_37 (lv_at hl 0 rfl) ?_
    refine zw_icmp_ge (tgt := 46) hx hb dX0_sameBytes_39 (by decide) ⟨by omega, by omega⟩ ⟨by omega, by omega⟩ (fun c_39 => ?_) (fun c_39 => ?_)
    · refine zw_iconst hx hb dX0_sameBytes_46 ?_
      refine lv_istore (lv' := [(8, .int (vI (0))), (7, .int (vI ((ft : Nat) : Int))), (6, .int (vI ((fs : Nat) : Int))), (5, .int (vI ((pp + w : Nat) : Int))), (4, .ref aB), (0, .ref hF), (1, .int (vI ((pp : Nat) : Int))), (2, .int (vI ((far : Nat) : Int))), (3, .int (vI ((w : Nat) : Int)))]) hx hb dX0_sameBytes_47 hl (by decide) rfl (fun ls hl => ?_)
      refine lv_iload hx hb dX0_sameBytes_49 (lv_at hl 0 rfl) ?_
      refine zw_if_eq (tgt := 59) hx hb dX0_sameBytes_51 (by decide) ⟨by omega, by omega⟩ (fun c_51 => ?_) (fun c_51 => False.elim (by omega))
      refine lv_iload_n hx hb dX0_sameBytes_59 rfl (lv_at hl 6 rfl) ?_
      refine lv_istore (lv' := [(9, .int (vI ((pp : Nat) : Int))), (8, .int (vI (0))), (7, .int (vI ((ft : Nat) : Int))), (6, .int (vI ((fs : Nat) : Int))), (5, .int (vI ((pp + w : Nat) : Int))), (4, .ref aB), (0, .ref hF), (1, .int (vI ((pp : Nat) : Int))), (2, .int (vI ((far : Nat) : Int))), (3, .int (vI ((w : Nat) : Int)))]) hx hb dX0_sameBytes_60 hl (by decide) rfl (fun ls hl => ?_)
      refine s_same hx hb hts hown hml hK hns hA (Nat.le_trans (Nat.le_of_ble_eq_true rfl) hRf) (Nat.le_trans (Nat.le_of_ble_eq_true rfl) hRl) hRc hRs hF hR hL aL aK aS aT aB lk ll n pa NB NS d plc cand low lim beat ln dist gS gT pp far w fs ft 0 (by omega) (by omega) (m5) (hby) (fun k H locs ls hk hd he hP hD hS hl => ?_) (pp + w - pp + 1) pp (Nat.lt_succ_self _) _ _ _ (by omega) (fun j a1 a2 => (m5 j (by omega) (by omega)).2) (hP.sub [0, 1, 2, 3, 4] rfl) (hD.sub [0, 1, 2, 3, 4] (by decide) rfl) hS (lv_sub hl [6, 7, 8, 9, 5, 4, 3, 2, 1, 0] rfl)
      refine lv_aload_n hx hb dX0_sameBytes_101 rfl (lv_at hl 0 rfl) ?_
      refine va_get (D := D) (ci := 0) (v := .ref aS) (C := RX0) (T := TX0) (N := 15) hx hb hts iwX0 hown hK hP 0 rfl rfl 6 (by decide) (hts _ aw_106) (fun _ h9 => h9) rfl dX0_sameBytes_102 ?_
      refine lv_iload_n hx hb dX0_sameBytes_105 rfl (lv_at hl 2 rfl) ?_
      refine lv_iload hx hb dX0_sameBytes_106 (lv_at hl 8 rfl) ?_
      refine zw_if_eq (tgt := 116) hx hb dX0_sameBytes_108 (by decide) ⟨by omega, by omega⟩ (fun c_108 => ?_) (fun c_108 => False.elim (by omega))
      refine lv_iload_n hx hb dX0_sameBytes_116 rfl (lv_at hl 1 rfl) ?_
      refine zw_iast hx hb hK hP hD hS 3 0 rfl rfl (far) (by omega) (by omega) (by omega) dX0_sameBytes_117 (fun H locs hP hD hS => ?_)
      have hP : va_P D vwCl [(hF, .inr (0, [.ref hR, .ref hL, .ref aL, .ref aK, .int (vI ((lk : Nat) : Int)), .int (vI ((ll : Nat) : Int)), .ref aS, .ref aT, .int (vI (plc)), .int (vI (cand)), .int (vI (low)), .int (vI (lim)), .int (vI (beat)), .int (vI (ln)), .int (vI (dist))])), (hR, .inr (3, [.ref aB, .int (vI ((n : Nat) : Int)), .int (vI ((pa : Nat) : Int))])), ia aB cB (NB) (d), ia aS cI (NS) (zU gS far ((pp : Nat) : Int)), ia aT cI (NS) (gT)] H := hP
      have hD : va_D _ [(hF, .inr (0, [.ref hR, .ref hL, .ref aL, .ref aK, .int (vI ((lk : Nat) : Int)), .int (vI ((ll : Nat) : Int)), .ref aS, .ref aT, .int (vI (plc)), .int (vI (cand)), .int (vI (low)), .int (vI (lim)), .int (vI (beat)), .int (vI (ln)), .int (vI (dist))])), (hR, .inr (3, [.ref aB, .int (vI ((n : Nat) : Int)), .int (vI ((pa : Nat) : Int))])), ia aB cB (NB) (d), ia aS cI (NS) (zU gS far ((pp : Nat) : Int)), ia aT cI (NS) (gT)] := hD
      refine lv_aload_n hx hb dX0_sameBytes_118 rfl (lv_at hl 0 rfl) ?_
      refine va_get (D := D) (ci := 0) (v := .ref aT) (C := RX0) (T := TX0) (N := 15) hx hb hts iwX0 hown hK hP 0 rfl rfl 7 (by decide) (hts _ aw_107) (fun _ h9 => h9) rfl dX0_sameBytes_119 ?_
      refine lv_iload_n hx hb dX0_sameBytes_122 rfl (lv_at hl 2 rfl) ?_
      refine lv_iload hx hb dX0_sameBytes_123 (lv_at hl 9 rfl) ?_
      refine zw_iast hx hb hK hP hD hS 4 0 rfl rfl (far) (by omega) (by omega) (by omega) dX0_sameBytes_125 (fun H locs hP hD hS => ?_)
      have hP : va_P D vwCl [(hF, .inr (0, [.ref hR, .ref hL, .ref aL, .ref aK, .int (vI ((lk : Nat) : Int)), .int (vI ((ll : Nat) : Int)), .ref aS, .ref aT, .int (vI (plc)), .int (vI (cand)), .int (vI (low)), .int (vI (lim)), .int (vI (beat)), .int (vI (ln)), .int (vI (dist))])), (hR, .inr (3, [.ref aB, .int (vI ((n : Nat) : Int)), .int (vI ((pa : Nat) : Int))])), ia aB cB (NB) (d), ia aS cI (NS) (zU gS far ((pp : Nat) : Int)), ia aT cI (NS) (zU gT far ((k : Nat) : Int))] H := hP
      have hD : va_D _ [(hF, .inr (0, [.ref hR, .ref hL, .ref aL, .ref aK, .int (vI ((lk : Nat) : Int)), .int (vI ((ll : Nat) : Int)), .ref aS, .ref aT, .int (vI (plc)), .int (vI (cand)), .int (vI (low)), .int (vI (lim)), .int (vI (beat)), .int (vI (ln)), .int (vI (dist))])), (hR, .inr (3, [.ref aB, .int (vI ((n : Nat) : Int)), .int (vI ((pa : Nat) : Int))])), ia aB cB (NB) (d), ia aS cI (NS) (zU gS far ((pp : Nat) : Int)), ia aT cI (NS) (zU gT far ((k : Nat) : Int))] := hD
      refine lv_iload hx hb dX0_sameBytes_126 (lv_at hl 9 rfl) ?_
      refine lv_iload hx hb dX0_sameBytes_128 (lv_at hl 5 rfl) ?_
      refine va_mmin hx hb (hml.trans hl.1.symm) hown (hts _ aw_385) (hts _ aw_316) (hts _ aw_9) (hts _ aw_317) (Nat.le_trans (Nat.le_of_ble_eq_true rfl) hRf) (Nat.le_trans (Nat.le_of_ble_eq_true rfl) hRl) hRc hRs dX0_sameBytes_130 ?_
      refine zw_as (vI_min ⟨by omega, by omega⟩ ⟨by omega, by omega⟩) ?_
      refine lv_iload_n hx hb dX0_sameBytes_133 rfl (lv_at hl 1 rfl) ?_
      refine zw_isub hx hb dX0_sameBytes_134 ?_
      refine zw_to (z2 := ((zrun d w pp (pp - far) : Nat) : Int)) (by rw [zsame_run (by omega) hk.1 hd he]; omega) ?_
      exact zr_i hx hb hr hlocks ((zU gS far ((pp : Nat) : Int), zU gT far ((k : Nat) : Int))) ⟨rfl, zmemo_set hM (by omega) (by omega) (by omega) (fun i a1 a2 => ⟨by omega, hd i (by omega) (by omega)⟩)⟩ hP hD hS dX0_sameBytes_135
    · refine zw_iconst hx hb dX0_sameBytes_42 ?_
      refine lv_goto (tgt := 47) hx hb dX0_sameBytes_43 (by decide) ?_
      refine lv_istore (lv' := [(8, .int (vI (1))), (7, .int (vI ((ft : Nat) : Int))), (6, .int (vI ((fs : Nat) : Int))), (5, .int (vI ((pp + w : Nat) : Int))), (4, .ref aB), (0, .ref hF), (1, .int (vI ((pp : Nat) : Int))), (2, .int (vI ((far : Nat) : Int))), (3, .int (vI ((w : Nat) : Int)))]) hx hb dX0_sameBytes_47 hl (by decide) rfl (fun ls hl => ?_)
      refine lv_iload hx hb dX0_sameBytes_49 (lv_at hl 0 rfl) ?_
      refine zw_if_eq (tgt := 59) hx hb dX0_sameBytes_51 (by decide) ⟨by omega, by omega⟩ (fun c_51 => False.elim (by omega)) (fun c_51 => ?_)
      refine lv_iload hx hb dX0_sameBytes_54 (lv_at hl 1 rfl) ?_
      refine lv_goto (tgt := 60) hx hb dX0_sameBytes_56 (by decide) ?_
      refine lv_istore (lv' := [(9, .int (vI ((ft : Nat) : Int))), (8, .int (vI (1))), (7, .int (vI ((ft : Nat) : Int))), (6, .int (vI ((fs : Nat) : Int))), (5, .int (vI ((pp + w : Nat) : Int))), (4, .ref aB), (0, .ref hF), (1, .int (vI ((pp : Nat) : Int))), (2, .int (vI ((far : Nat) : Int))), (3, .int (vI ((w : Nat) : Int)))]) hx hb dX0_sameBytes_60 hl (by decide) rfl (fun ls hl => ?_)
      refine s_same hx hb hts hown hml hK hns hA (Nat.le_trans (Nat.le_of_ble_eq_true rfl) hRf) (Nat.le_trans (Nat.le_of_ble_eq_true rfl) hRl) hRc hRs hF hR hL aL aK aS aT aB lk ll n pa NB NS d plc cand low lim beat ln dist gS gT pp far w fs ft 1 (by omega) (by omega) (m5) (hby) (fun k H locs ls hk hd he hP hD hS hl => ?_) (pp + w - ft + 1) ft (Nat.lt_succ_self _) _ _ _ (by omega) (fun j a1 a2 => (m5 j (by omega) (by omega)).2) (hP.sub [0, 1, 2, 3, 4] rfl) (hD.sub [0, 1, 2, 3, 4] (by decide) rfl) hS (lv_sub hl [6, 7, 8, 9, 5, 4, 3, 2, 1, 0] rfl)
      refine lv_aload_n hx hb dX0_sameBytes_101 rfl (lv_at hl 0 rfl) ?_
      refine va_get (D := D) (ci := 0) (v := .ref aS) (C := RX0) (T := TX0) (N := 15) hx hb hts iwX0 hown hK hP 0 rfl rfl 6 (by decide) (hts _ aw_106) (fun _ h9 => h9) rfl dX0_sameBytes_102 ?_
      refine lv_iload_n hx hb dX0_sameBytes_105 rfl (lv_at hl 2 rfl) ?_
      refine lv_iload hx hb dX0_sameBytes_106 (lv_at hl 8 rfl) ?_
      refine zw_if_eq (tgt := 116) hx hb dX0_sameBytes_108 (by decide) ⟨by omega, by omega⟩ (fun c_108 => False.elim (by omega)) (fun c_108 => ?_)
      refine lv_iload hx hb dX0_sameBytes_111 (lv_at hl 6 rfl) ?_
      refine lv_goto (tgt := 117) hx hb dX0_sameBytes_113 (by decide) ?_
      refine zw_iast hx hb hK hP hD hS 3 0 rfl rfl (far) (by omega) (by omega) (by omega) dX0_sameBytes_117 (fun H locs hP hD hS => ?_)
      have hP : va_P D vwCl [(hF, .inr (0, [.ref hR, .ref hL, .ref aL, .ref aK, .int (vI ((lk : Nat) : Int)), .int (vI ((ll : Nat) : Int)), .ref aS, .ref aT, .int (vI (plc)), .int (vI (cand)), .int (vI (low)), .int (vI (lim)), .int (vI (beat)), .int (vI (ln)), .int (vI (dist))])), (hR, .inr (3, [.ref aB, .int (vI ((n : Nat) : Int)), .int (vI ((pa : Nat) : Int))])), ia aB cB (NB) (d), ia aS cI (NS) (zU gS far ((fs : Nat) : Int)), ia aT cI (NS) (gT)] H := hP
      have hD : va_D _ [(hF, .inr (0, [.ref hR, .ref hL, .ref aL, .ref aK, .int (vI ((lk : Nat) : Int)), .int (vI ((ll : Nat) : Int)), .ref aS, .ref aT, .int (vI (plc)), .int (vI (cand)), .int (vI (low)), .int (vI (lim)), .int (vI (beat)), .int (vI (ln)), .int (vI (dist))])), (hR, .inr (3, [.ref aB, .int (vI ((n : Nat) : Int)), .int (vI ((pa : Nat) : Int))])), ia aB cB (NB) (d), ia aS cI (NS) (zU gS far ((fs : Nat) : Int)), ia aT cI (NS) (gT)] := hD
      refine lv_aload_n hx hb dX0_sameBytes_118 rfl (lv_at hl 0 rfl) ?_
      refine va_get (D := D) (ci := 0) (v := .ref aT) (C := RX0) (T := TX0) (N := 15) hx hb hts iwX0 hown hK hP 0 rfl rfl 7 (by decide) (hts _ aw_107) (fun _ h9 => h9) rfl dX0_sameBytes_119 ?_
      refine lv_iload_n hx hb dX0_sameBytes_122 rfl (lv_at hl 2 rfl) ?_
      refine lv_iload hx hb dX0_sameBytes_123 (lv_at hl 9 rfl) ?_
      refine zw_iast hx hb hK hP hD hS 4 0 rfl rfl (far) (by omega) (by omega) (by omega) dX0_sameBytes_125 (fun H locs hP hD hS => ?_)
      have hP : va_P D vwCl [(hF, .inr (0, [.ref hR, .ref hL, .ref aL, .ref aK, .int (vI ((lk : Nat) : Int)), .int (vI ((ll : Nat) : Int)), .ref aS, .ref aT, .int (vI (plc)), .int (vI (cand)), .int (vI (low)), .int (vI (lim)), .int (vI (beat)), .int (vI (ln)), .int (vI (dist))])), (hR, .inr (3, [.ref aB, .int (vI ((n : Nat) : Int)), .int (vI ((pa : Nat) : Int))])), ia aB cB (NB) (d), ia aS cI (NS) (zU gS far ((fs : Nat) : Int)), ia aT cI (NS) (zU gT far ((k : Nat) : Int))] H := hP
      have hD : va_D _ [(hF, .inr (0, [.ref hR, .ref hL, .ref aL, .ref aK, .int (vI ((lk : Nat) : Int)), .int (vI ((ll : Nat) : Int)), .ref aS, .ref aT, .int (vI (plc)), .int (vI (cand)), .int (vI (low)), .int (vI (lim)), .int (vI (beat)), .int (vI (ln)), .int (vI (dist))])), (hR, .inr (3, [.ref aB, .int (vI ((n : Nat) : Int)), .int (vI ((pa : Nat) : Int))])), ia aB cB (NB) (d), ia aS cI (NS) (zU gS far ((fs : Nat) : Int)), ia aT cI (NS) (zU gT far ((k : Nat) : Int))] := hD
      refine lv_iload hx hb dX0_sameBytes_126 (lv_at hl 9 rfl) ?_
      refine lv_iload hx hb dX0_sameBytes_128 (lv_at hl 5 rfl) ?_
      refine va_mmin hx hb (hml.trans hl.1.symm) hown (hts _ aw_385) (hts _ aw_316) (hts _ aw_9) (hts _ aw_317) (Nat.le_trans (Nat.le_of_ble_eq_true rfl) hRf) (Nat.le_trans (Nat.le_of_ble_eq_true rfl) hRl) hRc hRs dX0_sameBytes_130 ?_
      refine zw_as (vI_min ⟨by omega, by omega⟩ ⟨by omega, by omega⟩) ?_
      refine lv_iload_n hx hb dX0_sameBytes_133 rfl (lv_at hl 1 rfl) ?_
      refine zw_isub hx hb dX0_sameBytes_134 ?_
      refine zw_to (z2 := ((zrun d w pp (pp - far) : Nat) : Int)) (by rw [zsame_run (by omega) hk.1 hd he]; omega) ?_
      exact zr_i hx hb hr hlocks ((zU gS far ((fs : Nat) : Int), zU gT far ((k : Nat) : Int))) ⟨rfl, zmemo_set hM (by omega) (by omega) (by omega) (fun i a1 a2 => zsame_k (by omega) m5 hd i (by omega) (by omega))⟩ hP hD hS dX0_sameBytes_135
end
section
theorem zrun_ne {d : Nat → Int} {k pp q b : Nat} (h : ¬ d (q + b) = d (pp + b)) : zrun d k pp q ≤ b := by
  rcases Nat.lt_or_ge b (zrun d k pp q) with z | z
  · exact absurd (zrun_all d k pp q b z).symm h
  · exact z
/-- what findLonger leaves -/
def zFL (f : Nat → Nat) (lo pp b ln ds c0 : Nat) (rb : Int) (c2 b2 l2 d2 : Nat) : Prop := (rb = 0 ∧ zfnd f lo b c0 = none ∧ c2 ≤ c0 ∧ b2 = b ∧ l2 = ln ∧ d2 = ds) ∨ (rb = 1 ∧ zfnd f lo b c0 = some c2 ∧ b2 = f c2 ∧ l2 = f c2 ∧ d2 = pp - c2)
/-- how many bytes a MATCH at pp may have -/
def zlm (cap gb n pp : Nat) : Int := min (cap : Int) (max 0 ((n : Int) - gb) - pp)
theorem zlm_in (cap gb n pp : Nat) : -(pp : Int) ≤ zlm cap gb n pp ∧ zlm cap gb n pp ≤ cap ∧ (0 < zlm cap gb n pp → zlm cap gb n pp + pp + gb ≤ n) ∧ zlm cap gb n pp + pp ≤ n ∨ (zlm cap gb n pp ≤ 0 ∧ -(pp : Int) ≤ zlm cap gb n pp ∧ zlm cap gb n pp ≤ cap) := by
  unfold zlm
  omega
/-- from where below the seeking goes on: from pp, or nowhere -/
def zst (lk n ga al pp : Nat) (lm : Int) : Nat := if pp < lk ∧ pp + 1 + ga ≤ n ∧ (al : Int) ≤ lm then pp else 0
/-- the hash of the first k bytes from pp on -/
def zhash (d : Nat → Int) (pp : Nat) : Nat → Int64
  | 0 => 0
  | k + 1 => (zhash d pp k) <<< ((vI 8).toInt64 &&& 63) ||| (vI (d (pp + k)) &&& vI 255).toInt64
theorem zhash_eq {d d2 : Nat → Int} {x y : Nat} : ∀ k, (∀ j, j < k → d (x + j) = d2 (y + j)) → zhash d x k = zhash d2 y k := by
  intro k
  induction k with
  | zero => intro _; rfl
  | succ k ih =>
    intro h
    rw [zhash, zhash, ih (fun j hj => h j (by omega)), h k (by omega)]
def zslotI (d : Nat → Int) (ll NS pp : Nat) : Int32 := (((((zhash d pp ll) * ((-7046029254386353131) : Int64))).toUInt64 >>> ((vI 49).toInt64.toUInt64 &&& Int64.toUInt64 63)).toInt64).toInt32 &&& vI ((NS - 1 : Nat) : Int)
def zslot (d : Nat → Int) (ll NS pp : Nat) : Nat := (zslotI d ll NS pp).toNatClampNeg
theorem zslot_is (d : Nat → Int) (ll pp : Nat) {NS : Nat} (h : NS = 512 ∨ NS = 4096 ∨ NS = 32768) : zslotI d ll NS pp = vI ((zslot d ll NS pp : Nat) : Int) ∧ zslot d ll NS pp < NS := by
  have key : ∃ j : Nat, j < NS ∧ zslotI d ll NS pp = vI (j : Int) := by
    rcases h with rfl | rfl | rfl
    · obtain ⟨j, h1, h2⟩ := pk_andE ((((((zhash d pp ll) * ((-7046029254386353131) : Int64))).toUInt64 >>> ((vI 49).toInt64.toUInt64 &&& Int64.toUInt64 63)).toInt64).toInt32) (m := vI ((512 - 1 : Nat) : Int)) 9 (by decide)
      exact ⟨j, h1, h2.trans (vI_nat j)⟩
    · obtain ⟨j, h1, h2⟩ := pk_andE ((((((zhash d pp ll) * ((-7046029254386353131) : Int64))).toUInt64 >>> ((vI 49).toInt64.toUInt64 &&& Int64.toUInt64 63)).toInt64).toInt32) (m := vI ((4096 - 1 : Nat) : Int)) 12 (by decide)
      exact ⟨j, h1, h2.trans (vI_nat j)⟩
    · obtain ⟨j, h1, h2⟩ := pk_andE ((((((zhash d pp ll) * ((-7046029254386353131) : Int64))).toUInt64 >>> ((vI 49).toInt64.toUInt64 &&& Int64.toUInt64 63)).toInt64).toInt32) (m := vI ((32768 - 1 : Nat) : Int)) 15 (by decide)
      exact ⟨j, h1, h2.trans (vI_nat j)⟩
  obtain ⟨j, h1, h2⟩ := key
  have h3 : zslot d ll NS pp = j := by
    unfold zslot
    rw [h2]
    exact vI_cl (by omega)
  rw [h3]
  exact ⟨h2, h1⟩
set_option maxRecDepth 100000 in
set_option maxHeartbeats 4000000 in
theorem s_find {p : Program} {l : Launch} {e : Env} {R : Room} {s : State} {m : MethodId} {args : Array Value} {below : List Frame} {meth : Method} {c : Code} {Q : State → Prop} {A : Nat → Prop} {H0 : Heap} {D : va_G} {cI cB : ClassId} {cells slots : Nat} (hx : p.tables.exec = Jvm.exec) (hb : c.code = cX0_findLonger) (hts : ∀ w ∈ zALL, w.before args s = true) (hown : s.vm.findClass RX0 = some m.cls) (hml : c.maxLocals = 5) (hK : va_K D vwCl [(cI, .int), (cB, .byte)] s) (hns : zNs s) (hA : ∀ q, H0.size ≤ q → A q) (hRf : 2 ≤ R.frames) (hRl : 50 ≤ R.locals) (hRc : cells ≤ R.cells) (hRs : slots ≤ R.slots) (hF : Nat) (hR : Nat) (hL : Nat) (aL : Nat) (aK : Nat) (aS : Nat) (aT : Nat) (aB : Nat) (lk : Nat) (ll : Nat) (n : Nat) (pa : Nat) (NB : Nat) (NS : Nat) (d : Nat → Int) (sl : Nat → Nat) (gK : Nat → Int) (pp : Nat) (lo : Nat) (lm : Int) (b : Nat) (ln : Nat) (ds : Nat) (c0 : Nat) (h1 : pp ≤ 32768 ∧ c0 ≤ pp ∧ lk ≤ n ∧ b ≤ 40000 ∧ lo ≤ 40000 ∧ -100000 ≤ lm ∧ lm ≤ 131072 ∧ n ≤ NB ∧ NB ≤ 32768 ∧ n ≤ NS ∧ NS ≤ 32768) (h2 : 0 < c0 → pp < lk ∧ (pp : Int) + lm ≤ n) (hlk : ∀ q, q < lk → gK q = zprev sl (sl q) q) (hsl : ∀ q, q < c0 → b < zrun d lm.toNat pp q → sl q = sl pp) (hby : ∀ j, -128 ≤ d j ∧ d j < 128)
    (K1 : ∀ (cc : Nat) (gS : Nat → Int) (gT : Nat → Int) (H : Heap) (locs : List Loc) (ls : Array Slot), (cc ≤ c0) → (zfnd (zrun d lm.toNat pp) lo b c0 = none) → (zMemo d n NS gS gT) → va_P D vwCl [(hF, .inr (0, [.ref hR, .ref hL, .ref aL, .ref aK, .int (vI ((lk : Nat) : Int)), .int (vI ((ll : Nat) : Int)), .ref aS, .ref aT, .int (vI ((pp : Nat) : Int)), .int (vI (zprev sl (sl pp) cc)), .int (vI ((lo : Nat) : Int)), .int (vI (lm)), .int (vI ((b : Nat) : Int)), .int (vI ((ln : Nat) : Int)), .int (vI ((ds : Nat) : Int))])), (hR, .inr (3, [.ref aB, .int (vI ((n : Nat) : Int)), .int (vI ((pa : Nat) : Int))])), ia aB cB (NB) (d), ia aK cI (NS) (gK), ia aS cI (NS) (gS), ia aT cI (NS) (gT)] H → va_D A [(hF, .inr (0, [.ref hR, .ref hL, .ref aL, .ref aK, .int (vI ((lk : Nat) : Int)), .int (vI ((ll : Nat) : Int)), .ref aS, .ref aT, .int (vI ((pp : Nat) : Int)), .int (vI (zprev sl (sl pp) cc)), .int (vI ((lo : Nat) : Int)), .int (vI (lm)), .int (vI ((b : Nat) : Int)), .int (vI ((ln : Nat) : Int)), .int (vI ((ds : Nat) : Int))])), (hR, .inr (3, [.ref aB, .int (vI ((n : Nat) : Int)), .int (vI ((pa : Nat) : Int))])), ia aB cB (NB) (d), ia aK cI (NS) (gK), ia aS cI (NS) (gS), ia aT cI (NS) (gT)] → va_S A H0 H locs → lv_has ls 5 [(0, .ref hF)] → W p l e R s m args below meth c H locs cells slots Q (F0 m 135 ls []))
    (K2 : ∀ (q : Nat) (gS : Nat → Int) (gT : Nat → Int) (H : Heap) (locs : List Loc) (ls : Array Slot), (zfnd (zrun d lm.toNat pp) lo b c0 = some q) → (zMemo d n NS gS gT) → va_P D vwCl [(hF, .inr (0, [.ref hR, .ref hL, .ref aL, .ref aK, .int (vI ((lk : Nat) : Int)), .int (vI ((ll : Nat) : Int)), .ref aS, .ref aT, .int (vI ((pp : Nat) : Int)), .int (vI (zprev sl (sl pp) q)), .int (vI ((lo : Nat) : Int)), .int (vI (lm)), .int (vI ((zrun d lm.toNat pp q : Nat) : Int)), .int (vI ((zrun d lm.toNat pp q : Nat) : Int)), .int (vI ((pp - q : Nat) : Int))])), (hR, .inr (3, [.ref aB, .int (vI ((n : Nat) : Int)), .int (vI ((pa : Nat) : Int))])), ia aB cB (NB) (d), ia aK cI (NS) (gK), ia aS cI (NS) (gS), ia aT cI (NS) (gT)] H → va_D A [(hF, .inr (0, [.ref hR, .ref hL, .ref aL, .ref aK, .int (vI ((lk : Nat) : Int)), .int (vI ((ll : Nat) : Int)), .ref aS, .ref aT, .int (vI ((pp : Nat) : Int)), .int (vI (zprev sl (sl pp) q)), .int (vI ((lo : Nat) : Int)), .int (vI (lm)), .int (vI ((zrun d lm.toNat pp q : Nat) : Int)), .int (vI ((zrun d lm.toNat pp q : Nat) : Int)), .int (vI ((pp - q : Nat) : Int))])), (hR, .inr (3, [.ref aB, .int (vI ((n : Nat) : Int)), .int (vI ((pa : Nat) : Int))])), ia aB cB (NB) (d), ia aK cI (NS) (gK), ia aS cI (NS) (gS), ia aT cI (NS) (gT)] → va_S A H0 H locs → lv_has ls 5 [(0, .ref hF)] → W p l e R s m args below meth c H locs cells slots Q (F0 m 127 ls []))
    : ∀ (fuel : Nat), ∀ (left : Nat) (cc : Nat) (gS : Nat → Int) (gT : Nat → Int) (_ : left < fuel) (H : Heap) (locs : List Loc) (ls : Array Slot), (cc ≤ c0) → (zfnd (zrun d lm.toNat pp) lo b cc = zfnd (zrun d lm.toNat pp) lo b c0) → (zprev sl (sl pp) cc < left ∧ left ≤ pp) → (zMemo d n NS gS gT) → va_P D vwCl [(hF, .inr (0, [.ref hR, .ref hL, .ref aL, .ref aK, .int (vI ((lk : Nat) : Int)), .int (vI ((ll : Nat) : Int)), .ref aS, .ref aT, .int (vI ((pp : Nat) : Int)), .int (vI (zprev sl (sl pp) cc)), .int (vI ((lo : Nat) : Int)), .int (vI (lm)), .int (vI ((b : Nat) : Int)), .int (vI ((ln : Nat) : Int)), .int (vI ((ds : Nat) : Int))])), (hR, .inr (3, [.ref aB, .int (vI ((n : Nat) : Int)), .int (vI ((pa : Nat) : Int))])), ia aB cB (NB) (d), ia aK cI (NS) (gK), ia aS cI (NS) (gS), ia aT cI (NS) (gT)] H → va_D A [(hF, .inr (0, [.ref hR, .ref hL, .ref aL, .ref aK, .int (vI ((lk : Nat) : Int)), .int (vI ((ll : Nat) : Int)), .ref aS, .ref aT, .int (vI ((pp : Nat) : Int)), .int (vI (zprev sl (sl pp) cc)), .int (vI ((lo : Nat) : Int)), .int (vI (lm)), .int (vI ((b : Nat) : Int)), .int (vI ((ln : Nat) : Int)), .int (vI ((ds : Nat) : Int))])), (hR, .inr (3, [.ref aB, .int (vI ((n : Nat) : Int)), .int (vI ((pa : Nat) : Int))])), ia aB cB (NB) (d), ia aK cI (NS) (gK), ia aS cI (NS) (gS), ia aT cI (NS) (gT)] → va_S A H0 H locs → lv_has ls 5 [(0, .ref hF), (1, .ref aB), (2, .int (vI ((left : Nat) : Int)))] → W p l e R s m args below meth c H locs cells slots Q (F0 m 13 ls []) := by
  intro fuel
  induction fuel with
  | zero =>
    intro left cc gS gT hfuel
    exact absurd hfuel (Nat.not_lt_zero _)
  | succ fuel ih =>
    intro left cc gS gT hfuel H locs ls hc hz hl1 hM hP hD hS hl
    refine lv_iload_n hx hb dX0_findLonger_13 rfl (lv_at hl 2 rfl) ?_
    have hzl := zprev_lt sl (sl pp) cc
    refine zw_if_le (tgt := 135) hx hb dX0_findLonger_14 (by decide) ⟨by omega, by omega⟩ (fun c_14 => ?_) (fun c_14 => ?_)
    · exact K1 cc gS gT _ _ _ (by omega) (hz.symm.trans (zch_none (by omega) (fun q a1 a2 a3 => hsl q (by omega) a3))) (hM) (hP.sub [0, 1, 2, 3, 4, 5] rfl) (hD.sub [0, 1, 2, 3, 4, 5] (by decide) rfl) hS (lv_sub hl [0] rfl)
    · refine lv_aload_n hx hb dX0_findLonger_17 rfl (lv_at hl 0 rfl) ?_
      refine va_get (D := D) (ci := 0) (v := .int (vI (zprev sl (sl pp) cc))) (C := RX0) (T := TX0) (N := 15) hx hb hts iwX0 hown hK hP 0 rfl rfl 9 (by decide) (hts _ aw_109) (fun _ h9 => h9) rfl dX0_findLonger_18 ?_
      refine lv_aload_n hx hb dX0_findLonger_21 rfl (lv_at hl 0 rfl) ?_
      refine va_get (D := D) (ci := 0) (v := .int (vI ((lo : Nat) : Int))) (C := RX0) (T := TX0) (N := 15) hx hb hts iwX0 hown hK hP 0 rfl rfl 10 (by decide) (hts _ aw_110) (fun _ h9 => h9) rfl dX0_findLonger_22 ?_
      refine zw_icmp_lt (tgt := 135) hx hb dX0_findLonger_25 (by decide) ⟨by omega, by omega⟩ ⟨by omega, by omega⟩ (fun c_25 => ?_) (fun c_25 => ?_)
      · exact K1 cc gS gT _ _ _ (by omega) (hz.symm.trans (zch_none (by omega) (fun q a1 a2 a3 => hsl q (by omega) a3))) (hM) (hP.sub [0, 1, 2, 3, 4, 5] rfl) (hD.sub [0, 1, 2, 3, 4, 5] (by decide) rfl) hS (lv_sub hl [0] rfl)
      · refine lv_aload_n hx hb dX0_findLonger_28 rfl (lv_at hl 0 rfl) ?_
        refine va_get (D := D) (ci := 0) (v := .int (vI ((b : Nat) : Int))) (C := RX0) (T := TX0) (N := 15) hx hb hts iwX0 hown hK hP 0 rfl rfl 12 (by decide) (hts _ aw_112) (fun _ h9 => h9) rfl dX0_findLonger_29 ?_
        refine lv_aload_n hx hb dX0_findLonger_32 rfl (lv_at hl 0 rfl) ?_
        refine va_get (D := D) (ci := 0) (v := .int (vI (lm))) (C := RX0) (T := TX0) (N := 15) hx hb hts iwX0 hown hK hP 0 rfl rfl 11 (by decide) (hts _ aw_111) (fun _ h9 => h9) rfl dX0_findLonger_33 ?_
        refine zw_icmp_ge (tgt := 135) hx hb dX0_findLonger_36 (by decide) ⟨by omega, by omega⟩ ⟨by omega, by omega⟩ (fun c_36 => ?_) (fun c_36 => ?_)
        · exact K1 cc gS gT _ _ _ (by omega) (hz.symm.trans (zfnd_none cc (fun q _ _ => Nat.le_trans (zrun_le d _ pp q) (by omega)))) (hM) (hP.sub [0, 1, 2, 3, 4, 5] rfl) (hD.sub [0, 1, 2, 3, 4, 5] (by decide) rfl) hS (lv_sub hl [0] rfl)
        · refine lv_aload_n hx hb dX0_findLonger_39 rfl (lv_at hl 0 rfl) ?_
          obtain ⟨q, hq⟩ : ∃ q : Nat, zprev sl (sl pp) cc = (q : Int) := ⟨(zprev sl (sl pp) cc).toNat, by omega⟩
          obtain ⟨h21, h22⟩ := h2 (by omega)
          refine va_get (D := D) (ci := 0) (v := .int (vI (zprev sl (sl pp) cc))) (C := RX0) (T := TX0) (N := 15) hx hb hts iwX0 hown hK hP 0 rfl rfl 9 (by decide) (hts _ aw_109) (fun _ h9 => h9) rfl dX0_findLonger_40 ?_
          refine zw_to (z2 := ((q : Nat) : Int)) (hq) ?_
          refine lv_istore_n (lv' := [(3, .int (vI ((q : Nat) : Int))), (0, .ref hF), (1, .ref aB), (2, .int (vI ((left : Nat) : Int)))]) hx hb dX0_findLonger_43 rfl hl (by decide) rfl (fun ls hl => ?_)
          refine lv_aload_n hx hb dX0_findLonger_44 rfl (lv_at hl 1 rfl) ?_
          refine lv_aload_n hx hb dX0_findLonger_45 rfl (lv_at hl 1 rfl) ?_
          refine va_get (D := D) (ci := 0) (v := .ref aK) (C := RX0) (T := TX0) (N := 15) hx hb hts iwX0 hown hK hP 0 rfl rfl 3 (by decide) (hts _ aw_103) (fun _ h9 => h9) rfl dX0_findLonger_46 ?_
          refine lv_iload_n hx hb dX0_findLonger_49 rfl (lv_at hl 0 rfl) ?_
          refine zw_iald hx hb hK hP 3 0 rfl rfl (q) (by omega) (by omega) (by omega) dX0_findLonger_50 ?_
          refine zw_to (z2 := zprev sl (sl pp) q) ((hlk q (by omega)).trans (by rw [zprev_sl sl (sl pp) cc q hq])) ?_
          refine va_put (D := D) (ci := 0) (v := .int (vI (zprev sl (sl pp) q))) (ty := .int) (C := RX0) (T := TX0) (N := 15) hx hb hts iwX0 tyX0 tyX0_ok nmX0 hown hK hP hD hS 0 rfl rfl 9 (by decide) (hts _ aw_109) (fun _ h9 => h9) rfl (by decide +kernel) rfl rfl (Nat.le_of_ble_eq_true rfl) dX0_findLonger_51 (fun H locs hP hD hS => ?_)
          have hP : va_P D vwCl [(hF, .inr (0, [.ref hR, .ref hL, .ref aL, .ref aK, .int (vI ((lk : Nat) : Int)), .int (vI ((ll : Nat) : Int)), .ref aS, .ref aT, .int (vI ((pp : Nat) : Int)), .int (vI (zprev sl (sl pp) q)), .int (vI ((lo : Nat) : Int)), .int (vI (lm)), .int (vI ((b : Nat) : Int)), .int (vI ((ln : Nat) : Int)), .int (vI ((ds : Nat) : Int))])), (hR, .inr (3, [.ref aB, .int (vI ((n : Nat) : Int)), .int (vI ((pa : Nat) : Int))])), ia aB cB (NB) (d), ia aK cI (NS) (gK), ia aS cI (NS) (gS), ia aT cI (NS) (gT)] H := hP
          have hD : va_D _ [(hF, .inr (0, [.ref hR, .ref hL, .ref aL, .ref aK, .int (vI ((lk : Nat) : Int)), .int (vI ((ll : Nat) : Int)), .ref aS, .ref aT, .int (vI ((pp : Nat) : Int)), .int (vI (zprev sl (sl pp) q)), .int (vI ((lo : Nat) : Int)), .int (vI (lm)), .int (vI ((b : Nat) : Int)), .int (vI ((ln : Nat) : Int)), .int (vI ((ds : Nat) : Int))])), (hR, .inr (3, [.ref aB, .int (vI ((n : Nat) : Int)), .int (vI ((pa : Nat) : Int))])), ia aB cB (NB) (d), ia aK cI (NS) (gK), ia aS cI (NS) (gS), ia aT cI (NS) (gT)] := hD
          refine lv_aload_n hx hb dX0_findLonger_54 rfl (lv_at hl 2 rfl) ?_
          refine lv_iload_n hx hb dX0_findLonger_55 rfl (lv_at hl 0 rfl) ?_
          refine lv_aload_n hx hb dX0_findLonger_56 rfl (lv_at hl 1 rfl) ?_
          refine va_get (D := D) (ci := 0) (v := .int (vI ((b : Nat) : Int))) (C := RX0) (T := TX0) (N := 15) hx hb hts iwX0 hown hK hP 0 rfl rfl 12 (by decide) (hts _ aw_112) (fun _ h9 => h9) rfl dX0_findLonger_57 ?_
          refine zw_iadd hx hb dX0_findLonger_60 ?_
          refine zw_to (z2 := ((q + b : Nat) : Int)) (by omega) ?_
          refine zw_bald hx hb hK hP 2 1 rfl rfl (q + b) (by omega) (by omega) (by omega) dX0_findLonger_61 ?_
          refine lv_aload_n hx hb dX0_findLonger_62 rfl (lv_at hl 2 rfl) ?_
          refine lv_aload_n hx hb dX0_findLonger_63 rfl (lv_at hl 1 rfl) ?_
          refine va_get (D := D) (ci := 0) (v := .int (vI ((pp : Nat) : Int))) (C := RX0) (T := TX0) (N := 15) hx hb hts iwX0 hown hK hP 0 rfl rfl 8 (by decide) (hts _ aw_108) (fun _ h9 => h9) rfl dX0_findLonger_64 ?_
          refine lv_aload_n hx hb dX0_findLonger_67 rfl (lv_at hl 1 rfl) ?_
          refine va_get (D := D) (ci := 0) (v := .int (vI ((b : Nat) : Int))) (C := RX0) (T := TX0) (N := 15) hx hb hts iwX0 hown hK hP 0 rfl rfl 12 (by decide) (hts _ aw_112) (fun _ h9 => h9) rfl dX0_findLonger_68 ?_
          refine zw_iadd hx hb dX0_findLonger_71 ?_
          refine zw_to (z2 := ((pp + b : Nat) : Int)) (by omega) ?_
          refine zw_bald hx hb hK hP 2 1 rfl rfl (pp + b) (by omega) (by omega) (by omega) dX0_findLonger_72 ?_
          have hq1 := hby (q + b)
          have hq2 := hby (pp + b)
          refine zw_icmp_ne (tgt := 129) hx hb dX0_findLonger_73 (by decide) ⟨by omega, by omega⟩ ⟨by omega, by omega⟩ (fun c_73 => ?_) (fun c_73 => ?_)
          · refine lv_iinc (v := vI ((left - 1 : Nat) : Int)) (lv' := [(2, .int (vI ((left - 1 : Nat) : Int))), (3, .int (vI ((q : Nat) : Int))), (0, .ref hF), (1, .ref aB)]) hx hb dX0_findLonger_129 hl (k := 3) rfl ((vI_add _ _).trans (congrArg vI (by omega))) (by decide) rfl (fun ls hl => ?_)
            refine lv_goto (tgt := 13) hx hb dX0_findLonger_132 (by decide) ?_
            exact ih (left - 1) q gS gT (by omega) _ _ _ (by omega) ((zch_miss hq (fun q a1 a2 a3 => hsl q (by omega) a3) (zrun_ne c_73)).symm.trans hz) (⟨by have := zprev_lt sl (sl pp) q; omega, by omega⟩) (hM) (hP.sub [0, 1, 2, 3, 4, 5] rfl) (hD.sub [0, 1, 2, 3, 4, 5] (by decide) rfl) hS (lv_sub hl [2, 3, 0] rfl)
          · refine lv_aload_n hx hb dX0_findLonger_76 rfl (lv_at hl 1 rfl) ?_
            refine lv_aload_n hx hb dX0_findLonger_77 rfl (lv_at hl 1 rfl) ?_
            refine va_get (D := D) (ci := 0) (v := .int (vI ((pp : Nat) : Int))) (C := RX0) (T := TX0) (N := 15) hx hb hts iwX0 hown hK hP 0 rfl rfl 8 (by decide) (hts _ aw_108) (fun _ h9 => h9) rfl dX0_findLonger_78 ?_
            refine lv_aload_n hx hb dX0_findLonger_81 rfl (lv_at hl 1 rfl) ?_
            refine va_get (D := D) (ci := 0) (v := .int (vI ((pp : Nat) : Int))) (C := RX0) (T := TX0) (N := 15) hx hb hts iwX0 hown hK hP 0 rfl rfl 8 (by decide) (hts _ aw_108) (fun _ h9 => h9) rfl dX0_findLonger_82 ?_
            refine lv_iload_n hx hb dX0_findLonger_85 rfl (lv_at hl 0 rfl) ?_
            refine zw_isub hx hb dX0_findLonger_86 ?_
            refine zw_to (z2 := ((pp - q : Nat) : Int)) (by omega) ?_
            refine lv_aload_n hx hb dX0_findLonger_87 rfl (lv_at hl 1 rfl) ?_
            refine va_get (D := D) (ci := 0) (v := .int (vI (lm))) (C := RX0) (T := TX0) (N := 15) hx hb hts iwX0 hown hK hP 0 rfl rfl 11 (by decide) (hts _ aw_111) (fun _ h9 => h9) rfl dX0_findLonger_88 ?_
            refine zw_to (z2 := ((lm.toNat : Nat) : Int)) (by omega) ?_
            have hPc := hP.sub (ws' := [(hF, .inr (0, [.ref hR, .ref hL, .ref aL, .ref aK, .int (vI ((lk : Nat) : Int)), .int (vI ((ll : Nat) : Int)), .ref aS, .ref aT, .int (vI ((pp : Nat) : Int)), .int (vI (zprev sl (sl pp) q)), .int (vI ((lo : Nat) : Int)), .int (vI (lm)), .int (vI ((b : Nat) : Int)), .int (vI ((ln : Nat) : Int)), .int (vI ((ds : Nat) : Int))])), (hR, .inr (3, [.ref aB, .int (vI ((n : Nat) : Int)), .int (vI ((pa : Nat) : Int))])), ia aB cB (NB) (d), ia aS cI (NS) (gS), ia aT cI (NS) (gT)]) [0, 1, 2, 4, 5] rfl
            have hDc := hD.sub (ws' := [(hF, .inr (0, [.ref hR, .ref hL, .ref aL, .ref aK, .int (vI ((lk : Nat) : Int)), .int (vI ((ll : Nat) : Int)), .ref aS, .ref aT, .int (vI ((pp : Nat) : Int)), .int (vI (zprev sl (sl pp) q)), .int (vI ((lo : Nat) : Int)), .int (vI (lm)), .int (vI ((b : Nat) : Int)), .int (vI ((ln : Nat) : Int)), .int (vI ((ds : Nat) : Int))])), (hR, .inr (3, [.ref aB, .int (vI ((n : Nat) : Int)), .int (vI ((pa : Nat) : Int))])), ia aB cB (NB) (d), ia aS cI (NS) (gS), ia aT cI (NS) (gT)]) [0, 1, 2, 4, 5] (by decide) rfl
            refine zc_i (wr := [ia aK cI (NS) (gK)]) (va_runV (As := [.int (vI ((pp : Nat) : Int)), .int (vI ((pp - q : Nat) : Int)), .int (vI ((lm.toNat : Nat) : Int))]) (rest := []) ⟨hx, hb, hml, hown, hts⟩ (c_X0_sameBytes l D cI cB _ hF hR hL aL aK aS aT aB lk ll n pa NB NS d ((pp : Nat) : Int) (zprev sl (sl pp) q) ((lo : Nat) : Int) lm ((b : Nat) : Int) ((ln : Nat) : Int) ((ds : Nat) : Int) gS gT pp (pp - q) lm.toNat (by omega) (hM) (hby)) ⟨callB_of 3 hts (zg kX0_sameBytes) rfl rfl rfl (hts _ aw_4) (hts _ aw_394) (by decide +kernel) ⟨Nat.le_trans (Nat.le_of_ble_eq_true rfl) hRf, Nat.le_trans (Nat.le_of_ble_eq_true rfl) hRl⟩, (hts _ aw_396), (hts _ as_18)⟩ ⟨zPre_blind, va_recv hK hPc (ci := 0) (q0 := 0) rfl rfl, zPre_of hK hns hPc hDc⟩ rfl rfl hl.1 rfl (lv_room (Nat.le_of_ble_eq_true rfl)) dX0_findLonger_91 ⟨hRc, hRs⟩) hP hD hS hA [0, 1, 2, 4, 5] [3] rfl rfl (by decide) (by decide) (fun r u H locs hpost hP hD hS => ?_)
            obtain ⟨gS2_91, gT2_91⟩ := u
            obtain ⟨rfl, hM_91⟩ := hpost
            have hP : va_P D vwCl [ia aK cI (NS) (gK), (hF, .inr (0, [.ref hR, .ref hL, .ref aL, .ref aK, .int (vI ((lk : Nat) : Int)), .int (vI ((ll : Nat) : Int)), .ref aS, .ref aT, .int (vI ((pp : Nat) : Int)), .int (vI (zprev sl (sl pp) q)), .int (vI ((lo : Nat) : Int)), .int (vI (lm)), .int (vI ((b : Nat) : Int)), .int (vI ((ln : Nat) : Int)), .int (vI ((ds : Nat) : Int))])), (hR, .inr (3, [.ref aB, .int (vI ((n : Nat) : Int)), .int (vI ((pa : Nat) : Int))])), ia aB cB (NB) (d), ia aS cI (NS) (gS2_91), ia aT cI (NS) (gT2_91)] H := hP
            have hD : va_D _ [ia aK cI (NS) (gK), (hF, .inr (0, [.ref hR, .ref hL, .ref aL, .ref aK, .int (vI ((lk : Nat) : Int)), .int (vI ((ll : Nat) : Int)), .ref aS, .ref aT, .int (vI ((pp : Nat) : Int)), .int (vI (zprev sl (sl pp) q)), .int (vI ((lo : Nat) : Int)), .int (vI (lm)), .int (vI ((b : Nat) : Int)), .int (vI ((ln : Nat) : Int)), .int (vI ((ds : Nat) : Int))])), (hR, .inr (3, [.ref aB, .int (vI ((n : Nat) : Int)), .int (vI ((pa : Nat) : Int))])), ia aB cB (NB) (d), ia aS cI (NS) (gS2_91), ia aT cI (NS) (gT2_91)] := hD
            refine zw_to (z2 := ((zrun d lm.toNat pp q : Nat) : Int)) (by rw [show pp - (pp - q) = q by omega]) ?_
            have hr9 := zrun_le d lm.toNat pp q
            refine lv_istore (lv' := [(4, .int (vI ((zrun d lm.toNat pp q : Nat) : Int))), (3, .int (vI ((q : Nat) : Int))), (0, .ref hF), (1, .ref aB), (2, .int (vI ((left : Nat) : Int)))]) hx hb dX0_findLonger_94 hl (by decide) rfl (fun ls hl => ?_)
            refine lv_iload hx hb dX0_findLonger_96 (lv_at hl 0 rfl) ?_
            refine lv_aload_n hx hb dX0_findLonger_98 rfl (lv_at hl 2 rfl) ?_
            refine va_get (D := D) (ci := 0) (v := .int (vI ((b : Nat) : Int))) (C := RX0) (T := TX0) (N := 15) hx hb hts iwX0 hown hK hP 1 rfl rfl 12 (by decide) (hts _ aw_112) (fun _ h9 => h9) rfl dX0_findLonger_99 ?_
            refine zw_icmp_le (tgt := 129) hx hb dX0_findLonger_102 (by decide) ⟨by omega, by omega⟩ ⟨by omega, by omega⟩ (fun c_102 => ?_) (fun c_102 => ?_)
            · refine lv_iinc (v := vI ((left - 1 : Nat) : Int)) (lv' := [(2, .int (vI ((left - 1 : Nat) : Int))), (4, .int (vI ((zrun d lm.toNat pp q : Nat) : Int))), (3, .int (vI ((q : Nat) : Int))), (0, .ref hF), (1, .ref aB)]) hx hb dX0_findLonger_129 hl (k := 4) rfl ((vI_add _ _).trans (congrArg vI (by omega))) (by decide) rfl (fun ls hl => ?_)
              refine lv_goto (tgt := 13) hx hb dX0_findLonger_132 (by decide) ?_
              exact ih (left - 1) q gS2_91 gT2_91 (by omega) _ _ _ (by omega) ((zch_miss hq (fun q a1 a2 a3 => hsl q (by omega) a3) (by omega)).symm.trans hz) (⟨by have := zprev_lt sl (sl pp) q; omega, by omega⟩) (hM_91) (hP.sub [1, 2, 3, 0, 4, 5] rfl) (hD.sub [1, 2, 3, 0, 4, 5] (by decide) rfl) hS (lv_sub hl [3, 4, 0] rfl)
            · refine lv_aload_n hx hb dX0_findLonger_105 rfl (lv_at hl 2 rfl) ?_
              refine lv_iload hx hb dX0_findLonger_106 (lv_at hl 0 rfl) ?_
              refine va_put (D := D) (ci := 0) (v := .int (vI ((zrun d lm.toNat pp q : Nat) : Int))) (ty := .int) (C := RX0) (T := TX0) (N := 15) hx hb hts iwX0 tyX0 tyX0_ok nmX0 hown hK hP hD hS 1 rfl rfl 12 (by decide) (hts _ aw_112) (fun _ h9 => h9) rfl (by decide +kernel) rfl rfl (Nat.le_of_ble_eq_true rfl) dX0_findLonger_108 (fun H locs hP hD hS => ?_)
              have hP : va_P D vwCl [ia aK cI (NS) (gK), (hF, .inr (0, [.ref hR, .ref hL, .ref aL, .ref aK, .int (vI ((lk : Nat) : Int)), .int (vI ((ll : Nat) : Int)), .ref aS, .ref aT, .int (vI ((pp : Nat) : Int)), .int (vI (zprev sl (sl pp) q)), .int (vI ((lo : Nat) : Int)), .int (vI (lm)), .int (vI ((zrun d lm.toNat pp q : Nat) : Int)), .int (vI ((ln : Nat) : Int)), .int (vI ((ds : Nat) : Int))])), (hR, .inr (3, [.ref aB, .int (vI ((n : Nat) : Int)), .int (vI ((pa : Nat) : Int))])), ia aB cB (NB) (d), ia aS cI (NS) (gS2_91), ia aT cI (NS) (gT2_91)] H := hP
              have hD : va_D _ [ia aK cI (NS) (gK), (hF, .inr (0, [.ref hR, .ref hL, .ref aL, .ref aK, .int (vI ((lk : Nat) : Int)), .int (vI ((ll : Nat) : Int)), .ref aS, .ref aT, .int (vI ((pp : Nat) : Int)), .int (vI (zprev sl (sl pp) q)), .int (vI ((lo : Nat) : Int)), .int (vI (lm)), .int (vI ((zrun d lm.toNat pp q : Nat) : Int)), .int (vI ((ln : Nat) : Int)), .int (vI ((ds : Nat) : Int))])), (hR, .inr (3, [.ref aB, .int (vI ((n : Nat) : Int)), .int (vI ((pa : Nat) : Int))])), ia aB cB (NB) (d), ia aS cI (NS) (gS2_91), ia aT cI (NS) (gT2_91)] := hD
              refine lv_aload_n hx hb dX0_findLonger_111 rfl (lv_at hl 2 rfl) ?_
              refine lv_iload hx hb dX0_findLonger_112 (lv_at hl 0 rfl) ?_
              refine va_put (D := D) (ci := 0) (v := .int (vI ((zrun d lm.toNat pp q : Nat) : Int))) (ty := .int) (C := RX0) (T := TX0) (N := 15) hx hb hts iwX0 tyX0 tyX0_ok nmX0 hown hK hP hD hS 1 rfl rfl 13 (by decide) (hts _ aw_113) (fun _ h9 => h9) rfl (by decide +kernel) rfl rfl (Nat.le_of_ble_eq_true rfl) dX0_findLonger_114 (fun H locs hP hD hS => ?_)
              have hP : va_P D vwCl [ia aK cI (NS) (gK), (hF, .inr (0, [.ref hR, .ref hL, .ref aL, .ref aK, .int (vI ((lk : Nat) : Int)), .int (vI ((ll : Nat) : Int)), .ref aS, .ref aT, .int (vI ((pp : Nat) : Int)), .int (vI (zprev sl (sl pp) q)), .int (vI ((lo : Nat) : Int)), .int (vI (lm)), .int (vI ((zrun d lm.toNat pp q : Nat) : Int)), .int (vI ((zrun d lm.toNat pp q : Nat) : Int)), .int (vI ((ds : Nat) : Int))])), (hR, .inr (3, [.ref aB, .int (vI ((n : Nat) : Int)), .int (vI ((pa : Nat) : Int))])), ia aB cB (NB) (d), ia aS cI (NS) (gS2_91), ia aT cI (NS) (gT2_91)] H := hP
              have hD : va_D _ [ia aK cI (NS) (gK), (hF, .inr (0, [.ref hR, .ref hL, .ref aL, .ref aK, .int (vI ((lk : Nat) : Int)), .int (vI ((ll : Nat) : Int)), .ref aS, .ref aT, .int (vI ((pp : Nat) : Int)), .int (vI (zprev sl (sl pp) q)), .int (vI ((lo : Nat) : Int)), .int (vI (lm)), .int (vI ((zrun d lm.toNat pp q : Nat) : Int)), .int (vI ((zrun d lm.toNat pp q : Nat) : Int)), .int (vI ((ds : Nat) : Int))])), (hR, .inr (3, [.ref aB, .int (vI ((n : Nat) : Int)), .int (vI ((pa : Nat) : Int))])), ia aB cB (NB) (d), ia aS cI (NS) (gS2_91), ia aT cI (NS) (gT2_91)] := hD
              refine lv_aload_n hx hb dX0_findLonger_117 rfl (lv_at hl 2 rfl) ?_
              refine lv_aload_n hx hb dX0_findLonger_118 rfl (lv_at hl 2 rfl) ?_
              refine va_get (D := D) (ci := 0) (v := .int (vI ((pp : Nat) : Int))) (C := RX0) (T := TX0) (N := 15) hx hb hts iwX0 hown hK hP 1 rfl rfl 8 (by decide) (hts _ aw_108) (fun _ h9 => h9) rfl dX0_findLonger_119 ?_
              refine lv_iload_n hx hb dX0_findLonger_122 rfl (lv_at hl 1 rfl) ?_
              refine zw_isub hx hb dX0_findLonger_123 ?_
              refine zw_to (z2 := ((pp - q : Nat) : Int)) (by omega) ?_
              refine va_put (D := D) (ci := 0) (v := .int (vI ((pp - q : Nat) : Int))) (ty := .int) (C := RX0) (T := TX0) (N := 15) hx hb hts iwX0 tyX0 tyX0_ok nmX0 hown hK hP hD hS 1 rfl rfl 14 (by decide) (hts _ aw_116) (fun _ h9 => h9) rfl (by decide +kernel) rfl rfl (Nat.le_of_ble_eq_true rfl) dX0_findLonger_124 (fun H locs hP hD hS => ?_)
              have hP : va_P D vwCl [ia aK cI (NS) (gK), (hF, .inr (0, [.ref hR, .ref hL, .ref aL, .ref aK, .int (vI ((lk : Nat) : Int)), .int (vI ((ll : Nat) : Int)), .ref aS, .ref aT, .int (vI ((pp : Nat) : Int)), .int (vI (zprev sl (sl pp) q)), .int (vI ((lo : Nat) : Int)), .int (vI (lm)), .int (vI ((zrun d lm.toNat pp q : Nat) : Int)), .int (vI ((zrun d lm.toNat pp q : Nat) : Int)), .int (vI ((pp - q : Nat) : Int))])), (hR, .inr (3, [.ref aB, .int (vI ((n : Nat) : Int)), .int (vI ((pa : Nat) : Int))])), ia aB cB (NB) (d), ia aS cI (NS) (gS2_91), ia aT cI (NS) (gT2_91)] H := hP
              have hD : va_D _ [ia aK cI (NS) (gK), (hF, .inr (0, [.ref hR, .ref hL, .ref aL, .ref aK, .int (vI ((lk : Nat) : Int)), .int (vI ((ll : Nat) : Int)), .ref aS, .ref aT, .int (vI ((pp : Nat) : Int)), .int (vI (zprev sl (sl pp) q)), .int (vI ((lo : Nat) : Int)), .int (vI (lm)), .int (vI ((zrun d lm.toNat pp q : Nat) : Int)), .int (vI ((zrun d lm.toNat pp q : Nat) : Int)), .int (vI ((pp - q : Nat) : Int))])), (hR, .inr (3, [.ref aB, .int (vI ((n : Nat) : Int)), .int (vI ((pa : Nat) : Int))])), ia aB cB (NB) (d), ia aS cI (NS) (gS2_91), ia aT cI (NS) (gT2_91)] := hD
              exact K2 q gS2_91 gT2_91 _ _ _ (hz.symm.trans (zch_hit hq (fun q a1 a2 a3 => hsl q (by omega) a3) (by omega) (by omega))) (hM_91) (hP.sub [1, 2, 3, 0, 4, 5] rfl) (hD.sub [1, 2, 3, 0, 4, 5] (by decide) rfl) hS (lv_sub hl [2] rfl)

set_option maxRecDepth 100000 in
set_option maxHeartbeats 4000000 in
theorem c_X0_findLonger (l : Launch) (D : va_G) (cI cB : ClassId) (sz : Nat) (hF : Nat) (hR : Nat) (hL : Nat) (aL : Nat) (aK : Nat) (aS : Nat) (aT : Nat) (aB : Nat) (lk : Nat) (ll : Nat) (n : Nat) (pa : Nat) (NB : Nat) (NS : Nat) (d : Nat → Int) (sl : Nat → Nat) (gK : Nat → Int) (pp : Nat) (lo : Nat) (lm : Int) (b : Nat) (ln : Nat) (ds : Nat) (c0 : Nat) (gS : Nat → Int) (gT : Nat → Int) (h1 : pp ≤ 32768 ∧ c0 ≤ pp ∧ lk ≤ n ∧ b ≤ 40000 ∧ lo ≤ 40000 ∧ -100000 ≤ lm ∧ lm ≤ 131072 ∧ n ≤ NB ∧ NB ≤ 32768 ∧ n ≤ NS ∧ NS ≤ 32768) (h2 : 0 < c0 → pp < lk ∧ (pp : Int) + lm ≤ n) (hlk : ∀ q, q < lk → gK q = zprev sl (sl q) q) (hsl : ∀ q, q < c0 → b < zrun d lm.toNat pp q → sl q = sl pp) (hby : ∀ j, -128 ≤ d j ∧ d j < 128) (hM : zMemo d n NS gS gT) : Met l yX0_findLonger wsX0_findLonger ({ frames := 2, cells := 0, slots := 0, locals := 50 } : Room) (va_Pc [.ref hF] (zPre D vwCl [(cI, .int), (cB, .byte)] [(hF, .inr (0, [.ref hR, .ref hL, .ref aL, .ref aK, .int (vI ((lk : Nat) : Int)), .int (vI ((ll : Nat) : Int)), .ref aS, .ref aT, .int (vI ((pp : Nat) : Int)), .int (vI (zprev sl (sl pp) c0)), .int (vI ((lo : Nat) : Int)), .int (vI (lm)), .int (vI ((b : Nat) : Int)), .int (vI ((ln : Nat) : Int)), .int (vI ((ds : Nat) : Int))])), (hR, .inr (3, [.ref aB, .int (vI ((n : Nat) : Int)), .int (vI ((pa : Nat) : Int))])), ia aB cB (NB) (d), ia aK cI (NS) (gK), ia aS cI (NS) (gS), ia aT cI (NS) (gT)] sz)) (va_Qi (S := Int × (Nat → Int) × (Nat → Int) × Nat × Nat × Nat × Nat) (fun (r : Int32) => fun u => match u with | (rb, gS2, gT2, c2, b2, l2, d2) => (r = vI rb) ∧ (zMemo d n NS gS2 gT2) ∧ (zFL (zrun d lm.toNat pp) lo pp b ln ds c0 rb c2 b2 l2 d2)) (fun (u : Int × (Nat → Int) × (Nat → Int) × Nat × Nat × Nat × Nat) t => zB D vwCl (va_A [(hF, .inr (0, [.ref hR, .ref hL, .ref aL, .ref aK, .int (vI ((lk : Nat) : Int)), .int (vI ((ll : Nat) : Int)), .ref aS, .ref aT, .int (vI ((pp : Nat) : Int)), .int (vI (zprev sl (sl pp) c0)), .int (vI ((lo : Nat) : Int)), .int (vI (lm)), .int (vI ((b : Nat) : Int)), .int (vI ((ln : Nat) : Int)), .int (vI ((ds : Nat) : Int))])), (hR, .inr (3, [.ref aB, .int (vI ((n : Nat) : Int)), .int (vI ((pa : Nat) : Int))])), ia aB cB (NB) (d), ia aK cI (NS) (gK), ia aS cI (NS) (gS), ia aT cI (NS) (gT)] sz) ((fun u => match u with | (rb, gS2, gT2, c2, b2, l2, d2) => [(hF, .inr (0, [.ref hR, .ref hL, .ref aL, .ref aK, .int (vI ((lk : Nat) : Int)), .int (vI ((ll : Nat) : Int)), .ref aS, .ref aT, .int (vI ((pp : Nat) : Int)), .int (vI (zprev sl (sl pp) c2)), .int (vI ((lo : Nat) : Int)), .int (vI (lm)), .int (vI ((b2 : Nat) : Int)), .int (vI ((l2 : Nat) : Int)), .int (vI ((d2 : Nat) : Int))])), (hR, .inr (3, [.ref aB, .int (vI ((n : Nat) : Int)), .int (vI ((pa : Nat) : Int))])), ia aB cB (NB) (d), ia aK cI (NS) (gK), ia aS cI (NS) (gS2), ia aT cI (NS) (gT2)] : Int × (Nat → Int) × (Nat → Int) × Nat × Nat × Nat × Nat → va_W) u) t) (va_A [(hF, .inr (0, [.ref hR, .ref hL, .ref aL, .ref aK, .int (vI ((lk : Nat) : Int)), .int (vI ((ll : Nat) : Int)), .ref aS, .ref aT, .int (vI ((pp : Nat) : Int)), .int (vI (zprev sl (sl pp) c0)), .int (vI ((lo : Nat) : Int)), .int (vI (lm)), .int (vI ((b : Nat) : Int)), .int (vI ((ln : Nat) : Int)), .int (vI ((ds : Nat) : Int))])), (hR, .inr (3, [.ref aB, .int (vI ((n : Nat) : Int)), .int (vI ((pa : Nat) : Int))])), ia aB cB (NB) (d), ia aK cI (NS) (gK), ia aS cI (NS) (gS), ia aT cI (NS) (gT)] sz)) (0) (0) (va_A [(hF, .inr (0, [.ref hR, .ref hL, .ref aL, .ref aK, .int (vI ((lk : Nat) : Int)), .int (vI ((ll : Nat) : Int)), .ref aS, .ref aT, .int (vI ((pp : Nat) : Int)), .int (vI (zprev sl (sl pp) c0)), .int (vI ((lo : Nat) : Int)), .int (vI (lm)), .int (vI ((b : Nat) : Int)), .int (vI ((ln : Nat) : Int)), .int (vI ((ds : Nat) : Int))])), (hR, .inr (3, [.ref aB, .int (vI ((n : Nat) : Int)), .int (vI ((pa : Nat) : Int))])), ia aB cB (NB) (d), ia aK cI (NS) (gK), ia aS cI (NS) (gS), ia aT cI (NS) (gT)] sz) := by
  refine zMet (by decide) rfl (Nat.le_of_ble_eq_true rfl) (fun p e s m below meth c hx hb hr hts hown hlocks hnm hml hK hns hA hP hD hS ls hl => ?_)
  have hl : lv_has ls 5 [(0, .ref hF)] := hl
  have hRf : 2 ≤ ({ frames := 2, cells := 0, slots := 0, locals := 50 } : Room).frames := Nat.le_refl _
  have hRl : 50 ≤ ({ frames := 2, cells := 0, slots := 0, locals := 50 } : Room).locals := Nat.le_refl _
  have hRc : 0 ≤ ({ frames := 2, cells := 0, slots := 0, locals := 50 } : Room).cells := Nat.zero_le _
  have hRs : 0 ≤ ({ frames := 2, cells := 0, slots := 0, locals := 50 } : Room).slots := Nat.zero_le _
  refine lv_aload_n hx hb dX0_findLonger_0 rfl (lv_at hl 0 rfl) ?_
  refine va_get (D := D) (ci := 0) (v := .ref hR) (C := RX0) (T := TX0) (N := 15) hx hb hts iwX0 hown hK hP 0 rfl rfl 0 (by decide) (hts _ aw_100) (fun _ h9 => h9) rfl dX0_findLonger_1 ?_
  refine va_getN (D := D) (ci := 3) (v := .ref aB) (C := RX3) (T := TX3) (N := 3) hx hb hts iwX3 hown hK hP 1 rfl rfl 0 (by decide) (va_Nw.use rfl (hns _ nw_27)) (fun _ h9 => h9) rfl dX0_findLonger_4 ?_
  refine lv_astore_n (lv' := [(1, .ref aB), (0, .ref hF)]) hx hb dX0_findLonger_7 rfl hl (by decide) rfl (fun ls hl => ?_)
  refine lv_aload_n hx hb dX0_findLonger_8 rfl (lv_at hl 1 rfl) ?_
  refine va_get (D := D) (ci := 0) (v := .int (vI ((pp : Nat) : Int))) (C := RX0) (T := TX0) (N := 15) hx hb hts iwX0 hown hK hP 0 rfl rfl 8 (by decide) (hts _ aw_108) (fun _ h9 => h9) rfl dX0_findLonger_9 ?_
  refine lv_istore_n (lv' := [(2, .int (vI ((pp : Nat) : Int))), (1, .ref aB), (0, .ref hF)]) hx hb dX0_findLonger_12 rfl hl (by decide) rfl (fun ls hl => ?_)
  refine s_find hx hb hts hown hml hK hns hA (Nat.le_trans (Nat.le_of_ble_eq_true rfl) hRf) (Nat.le_trans (Nat.le_of_ble_eq_true rfl) hRl) hRc hRs hF hR hL aL aK aS aT aB lk ll n pa NB NS d sl gK pp lo lm b ln ds c0 (by omega) (h2) (hlk) (hsl) (hby) (fun cc gS gT H locs ls hc hn hM hP hD hS hl => ?_) (fun q gS gT H locs ls hn hM hP hD hS hl => ?_) (pp + 1) pp c0 gS gT (Nat.lt_succ_self _) _ _ _ (by omega) (rfl) (⟨by have := zprev_lt sl (sl pp) c0; omega, Nat.le_refl _⟩) (hM) (hP.sub [0, 1, 2, 3, 4, 5] rfl) (hD.sub [0, 1, 2, 3, 4, 5] (by decide) rfl) hS (lv_sub hl [2, 1, 0] rfl)
  · refine zw_iconst hx hb dX0_findLonger_135 ?_
    exact zr_z hx hb hr hlocks ((0, gS, gT, cc, b, ln, ds)) (by decide +kernel) ⟨rfl, hM, Or.inl ⟨rfl, hn, hc, rfl, rfl, rfl⟩⟩ hP hD hS dX0_findLonger_136
  · refine zw_iconst hx hb dX0_findLonger_127 ?_
    exact zr_z hx hb hr hlocks ((1, gS, gT, q, (zrun d lm.toNat pp q), (zrun d lm.toNat pp q), (pp - q))) (by decide +kernel) ⟨rfl, hM, Or.inr ⟨rfl, hn, rfl, rfl, rfl⟩⟩ hP hD hS dX0_findLonger_128

set_option maxRecDepth 100000 in
set_option maxHeartbeats 4000000 in
theorem c_X0_startAt (l : Launch) (D : va_G) (cI cB : ClassId) (sz : Nat) (hF : Nat) (hR : Nat) (hL : Nat) (aL : Nat) (aK : Nat) (aS : Nat) (aT : Nat) (aB : Nat) (lk : Nat) (ll : Nat) (n : Nat) (pa : Nat) (NS : Nat) (way : Nat) (win : Nat) (least : Nat) (cap : Nat) (ga : Nat) (gb : Nat) (lp : Nat) (mp : Nat) (plc : Int) (cand : Int) (low : Int) (lim : Int) (beat : Int) (ln : Int) (dist : Int) (sl : Nat → Nat) (gK : Nat → Int) (pp : Nat) (al : Nat) (h1 : n ≤ 32768 ∧ lk ≤ NS ∧ NS ≤ 32768 ∧ pp ≤ 32768 ∧ 1 ≤ al ∧ al ≤ 40000 ∧ win ≤ 65536 ∧ cap ≤ 131072 ∧ ga ≤ 32 ∧ gb ≤ 32) (hlk : ∀ q, q < lk → gK q = zprev sl (sl q) q) : Met l yX0_startAt wsX0_startAt ({ frames := 2, cells := 0, slots := 0, locals := 42 } : Room) (va_Pc [.ref hF, .int (vI ((pp : Nat) : Int)), .int (vI ((al : Nat) : Int))] (zPre D vwCl [(cI, .int), (cB, .byte)] [(hF, .inr (0, [.ref hR, .ref hL, .ref aL, .ref aK, .int (vI ((lk : Nat) : Int)), .int (vI ((ll : Nat) : Int)), .ref aS, .ref aT, .int (vI (plc)), .int (vI (cand)), .int (vI (low)), .int (vI (lim)), .int (vI (beat)), .int (vI (ln)), .int (vI (dist))])), (hR, .inr (3, [.ref aB, .int (vI ((n : Nat) : Int)), .int (vI ((pa : Nat) : Int))])), (hL, .inr (4, [.int (vI ((way : Nat) : Int)), .int (vI ((win : Nat) : Int)), .int (vI ((least : Nat) : Int)), .int (vI ((cap : Nat) : Int)), .int (vI ((ga : Nat) : Int)), .int (vI ((gb : Nat) : Int)), .int (vI ((lp : Nat) : Int)), .int (vI ((mp : Nat) : Int))])), ia aK cI (NS) (gK)] sz)) (va_Qv (S := Unit) (fun _ => True) (fun (u : Unit) t => zB D vwCl (va_A [(hF, .inr (0, [.ref hR, .ref hL, .ref aL, .ref aK, .int (vI ((lk : Nat) : Int)), .int (vI ((ll : Nat) : Int)), .ref aS, .ref aT, .int (vI (plc)), .int (vI (cand)), .int (vI (low)), .int (vI (lim)), .int (vI (beat)), .int (vI (ln)), .int (vI (dist))])), (hR, .inr (3, [.ref aB, .int (vI ((n : Nat) : Int)), .int (vI ((pa : Nat) : Int))])), (hL, .inr (4, [.int (vI ((way : Nat) : Int)), .int (vI ((win : Nat) : Int)), .int (vI ((least : Nat) : Int)), .int (vI ((cap : Nat) : Int)), .int (vI ((ga : Nat) : Int)), .int (vI ((gb : Nat) : Int)), .int (vI ((lp : Nat) : Int)), .int (vI ((mp : Nat) : Int))])), ia aK cI (NS) (gK)] sz) ((fun _ => [(hF, .inr (0, [.ref hR, .ref hL, .ref aL, .ref aK, .int (vI ((lk : Nat) : Int)), .int (vI ((ll : Nat) : Int)), .ref aS, .ref aT, .int (vI ((pp : Nat) : Int)), .int (vI (zprev sl (sl pp) (zst lk n ga al pp (zlm cap gb n pp)))), .int (vI ((pp - win : Nat) : Int)), .int (vI (zlm cap gb n pp)), .int (vI ((al - 1 : Nat) : Int)), .int (vI (0)), .int (vI (0))])), (hR, .inr (3, [.ref aB, .int (vI ((n : Nat) : Int)), .int (vI ((pa : Nat) : Int))])), (hL, .inr (4, [.int (vI ((way : Nat) : Int)), .int (vI ((win : Nat) : Int)), .int (vI ((least : Nat) : Int)), .int (vI ((cap : Nat) : Int)), .int (vI ((ga : Nat) : Int)), .int (vI ((gb : Nat) : Int)), .int (vI ((lp : Nat) : Int)), .int (vI ((mp : Nat) : Int))])), ia aK cI (NS) (gK)] : Unit → va_W) u) t) (va_A [(hF, .inr (0, [.ref hR, .ref hL, .ref aL, .ref aK, .int (vI ((lk : Nat) : Int)), .int (vI ((ll : Nat) : Int)), .ref aS, .ref aT, .int (vI (plc)), .int (vI (cand)), .int (vI (low)), .int (vI (lim)), .int (vI (beat)), .int (vI (ln)), .int (vI (dist))])), (hR, .inr (3, [.ref aB, .int (vI ((n : Nat) : Int)), .int (vI ((pa : Nat) : Int))])), (hL, .inr (4, [.int (vI ((way : Nat) : Int)), .int (vI ((win : Nat) : Int)), .int (vI ((least : Nat) : Int)), .int (vI ((cap : Nat) : Int)), .int (vI ((ga : Nat) : Int)), .int (vI ((gb : Nat) : Int)), .int (vI ((lp : Nat) : Int)), .int (vI ((mp : Nat) : Int))])), ia aK cI (NS) (gK)] sz)) (0) (0) (va_A [(hF, .inr (0, [.ref hR, .ref hL, .ref aL, .ref aK, .int (vI ((lk : Nat) : Int)), .int (vI ((ll : Nat) : Int)), .ref aS, .ref aT, .int (vI (plc)), .int (vI (cand)), .int (vI (low)), .int (vI (lim)), .int (vI (beat)), .int (vI (ln)), .int (vI (dist))])), (hR, .inr (3, [.ref aB, .int (vI ((n : Nat) : Int)), .int (vI ((pa : Nat) : Int))])), (hL, .inr (4, [.int (vI ((way : Nat) : Int)), .int (vI ((win : Nat) : Int)), .int (vI ((least : Nat) : Int)), .int (vI ((cap : Nat) : Int)), .int (vI ((ga : Nat) : Int)), .int (vI ((gb : Nat) : Int)), .int (vI ((lp : Nat) : Int)), .int (vI ((mp : Nat) : Int))])), ia aK cI (NS) (gK)] sz) := by
  refine zMet (by decide) rfl (Nat.le_of_ble_eq_true rfl) (fun p e s m below meth c hx hb hr hts hown hlocks hnm hml hK hns hA hP hD hS ls hl => ?_)
  have hl : lv_has ls 4 [(0, .ref hF), (1, .int (vI ((pp : Nat) : Int))), (2, .int (vI ((al : Nat) : Int)))] := hl
  have hRf : 2 ≤ ({ frames := 2, cells := 0, slots := 0, locals := 42 } : Room).frames := Nat.le_refl _
  have hRl : 42 ≤ ({ frames := 2, cells := 0, slots := 0, locals := 42 } : Room).locals := Nat.le_refl _
  have hRc : 0 ≤ ({ frames := 2, cells := 0, slots := 0, locals := 42 } : Room).cells := Nat.zero_le _
  have hRs : 0 ≤ ({ frames := 2, cells := 0, slots := 0, locals := 42 } : Room).slots := Nat.zero_le _
  refine lv_aload_n hx hb dX0_startAt_0 rfl (lv_at hl 0 rfl) ?_
  refine lv_iload_n hx hb dX0_startAt_1 rfl (lv_at hl 1 rfl) ?_
  refine va_put (D := D) (ci := 0) (v := .int (vI ((pp : Nat) : Int))) (ty := .int) (C := RX0) (T := TX0) (N := 15) hx hb hts iwX0 tyX0 tyX0_ok nmX0 hown hK hP hD hS 0 rfl rfl 8 (by decide) (hts _ aw_108) (fun _ h9 => h9) rfl (by decide +kernel) rfl rfl (Nat.le_of_ble_eq_true rfl) dX0_startAt_2 (fun H locs hP hD hS => ?_)
  have hP : va_P D vwCl [(hF, .inr (0, [.ref hR, .ref hL, .ref aL, .ref aK, .int (vI ((lk : Nat) : Int)), .int (vI ((ll : Nat) : Int)), .ref aS, .ref aT, .int (vI ((pp : Nat) : Int)), .int (vI (cand)), .int (vI (low)), .int (vI (lim)), .int (vI (beat)), .int (vI (ln)), .int (vI (dist))])), (hR, .inr (3, [.ref aB, .int (vI ((n : Nat) : Int)), .int (vI ((pa : Nat) : Int))])), (hL, .inr (4, [.int (vI ((way : Nat) : Int)), .int (vI ((win : Nat) : Int)), .int (vI ((least : Nat) : Int)), .int (vI ((cap : Nat) : Int)), .int (vI ((ga : Nat) : Int)), .int (vI ((gb : Nat) : Int)), .int (vI ((lp : Nat) : Int)), .int (vI ((mp : Nat) : Int))])), ia aK cI (NS) (gK)] H := hP
  have hD : va_D _ [(hF, .inr (0, [.ref hR, .ref hL, .ref aL, .ref aK, .int (vI ((lk : Nat) : Int)), .int (vI ((ll : Nat) : Int)), .ref aS, .ref aT, .int (vI ((pp : Nat) : Int)), .int (vI (cand)), .int (vI (low)), .int (vI (lim)), .int (vI (beat)), .int (vI (ln)), .int (vI (dist))])), (hR, .inr (3, [.ref aB, .int (vI ((n : Nat) : Int)), .int (vI ((pa : Nat) : Int))])), (hL, .inr (4, [.int (vI ((way : Nat) : Int)), .int (vI ((win : Nat) : Int)), .int (vI ((least : Nat) : Int)), .int (vI ((cap : Nat) : Int)), .int (vI ((ga : Nat) : Int)), .int (vI ((gb : Nat) : Int)), .int (vI ((lp : Nat) : Int)), .int (vI ((mp : Nat) : Int))])), ia aK cI (NS) (gK)] := hD
  refine lv_aload_n hx hb dX0_startAt_5 rfl (lv_at hl 0 rfl) ?_
  refine zw_iconst hx hb dX0_startAt_6 ?_
  refine va_put (D := D) (ci := 0) (v := .int (vI (0))) (ty := .int) (C := RX0) (T := TX0) (N := 15) hx hb hts iwX0 tyX0 tyX0_ok nmX0 hown hK hP hD hS 0 rfl rfl 13 (by decide) (hts _ aw_113) (fun _ h9 => h9) rfl (by decide +kernel) rfl rfl (Nat.le_of_ble_eq_true rfl) dX0_startAt_7 (fun H locs hP hD hS => ?_)
  have hP : va_P D vwCl [(hF, .inr (0, [.ref hR, .ref hL, .ref aL, .ref aK, .int (vI ((lk : Nat) : Int)), .int (vI ((ll : Nat) : Int)), .ref aS, .ref aT, .int (vI ((pp : Nat) : Int)), .int (vI (cand)), .int (vI (low)), .int (vI (lim)), .int (vI (beat)), .int (vI (0)), .int (vI (dist))])), (hR, .inr (3, [.ref aB, .int (vI ((n : Nat) : Int)), .int (vI ((pa : Nat) : Int))])), (hL, .inr (4, [.int (vI ((way : Nat) : Int)), .int (vI ((win : Nat) : Int)), .int (vI ((least : Nat) : Int)), .int (vI ((cap : Nat) : Int)), .int (vI ((ga : Nat) : Int)), .int (vI ((gb : Nat) : Int)), .int (vI ((lp : Nat) : Int)), .int (vI ((mp : Nat) : Int))])), ia aK cI (NS) (gK)] H := hP
  have hD : va_D _ [(hF, .inr (0, [.ref hR, .ref hL, .ref aL, .ref aK, .int (vI ((lk : Nat) : Int)), .int (vI ((ll : Nat) : Int)), .ref aS, .ref aT, .int (vI ((pp : Nat) : Int)), .int (vI (cand)), .int (vI (low)), .int (vI (lim)), .int (vI (beat)), .int (vI (0)), .int (vI (dist))])), (hR, .inr (3, [.ref aB, .int (vI ((n : Nat) : Int)), .int (vI ((pa : Nat) : Int))])), (hL, .inr (4, [.int (vI ((way : Nat) : Int)), .int (vI ((win : Nat) : Int)), .int (vI ((least : Nat) : Int)), .int (vI ((cap : Nat) : Int)), .int (vI ((ga : Nat) : Int)), .int (vI ((gb : Nat) : Int)), .int (vI ((lp : Nat) : Int)), .int (vI ((mp : Nat) : Int))])), ia aK cI (NS) (gK)] := hD
  refine lv_aload_n hx hb dX0_startAt_10 rfl (lv_at hl 0 rfl) ?_
  refine zw_iconst hx hb dX0_startAt_11 ?_
  refine va_put (D := D) (ci := 0) (v := .int (vI (0))) (ty := .int) (C := RX0) (T := TX0) (N := 15) hx hb hts iwX0 tyX0 tyX0_ok nmX0 hown hK hP hD hS 0 rfl rfl 14 (by decide) (hts _ aw_116) (fun _ h9 => h9) rfl (by decide +kernel) rfl rfl (Nat.le_of_ble_eq_true rfl) dX0_startAt_12 (fun H locs hP hD hS => ?_)
  have hP : va_P D vwCl [(hF, .inr (0, [.ref hR, .ref hL, .ref aL, .ref aK, .int (vI ((lk : Nat) : Int)), .int (vI ((ll : Nat) : Int)), .ref aS, .ref aT, .int (vI ((pp : Nat) : Int)), .int (vI (cand)), .int (vI (low)), .int (vI (lim)), .int (vI (beat)), .int (vI (0)), .int (vI (0))])), (hR, .inr (3, [.ref aB, .int (vI ((n : Nat) : Int)), .int (vI ((pa : Nat) : Int))])), (hL, .inr (4, [.int (vI ((way : Nat) : Int)), .int (vI ((win : Nat) : Int)), .int (vI ((least : Nat) : Int)), .int (vI ((cap : Nat) : Int)), .int (vI ((ga : Nat) : Int)), .int (vI ((gb : Nat) : Int)), .int (vI ((lp : Nat) : Int)), .int (vI ((mp : Nat) : Int))])), ia aK cI (NS) (gK)] H := hP
  have hD : va_D _ [(hF, .inr (0, [.ref hR, .ref hL, .ref aL, .ref aK, .int (vI ((lk : Nat) : Int)), .int (vI ((ll : Nat) : Int)), .ref aS, .ref aT, .int (vI ((pp : Nat) : Int)), .int (vI (cand)), .int (vI (low)), .int (vI (lim)), .int (vI (beat)), .int (vI (0)), .int (vI (0))])), (hR, .inr (3, [.ref aB, .int (vI ((n : Nat) : Int)), .int (vI ((pa : Nat) : Int))])), (hL, .inr (4, [.int (vI ((way : Nat) : Int)), .int (vI ((win : Nat) : Int)), .int (vI ((least : Nat) : Int)), .int (vI ((cap : Nat) : Int)), .int (vI ((ga : Nat) : Int)), .int (vI ((gb : Nat) : Int)), .int (vI ((lp : Nat) : Int)), .int (vI ((mp : Nat) : Int))])), ia aK cI (NS) (gK)] := hD
  refine lv_aload_n hx hb dX0_startAt_15 rfl (lv_at hl 0 rfl) ?_
  refine lv_iload_n hx hb dX0_startAt_16 rfl (lv_at hl 2 rfl) ?_
  refine zw_iconst hx hb dX0_startAt_17 ?_
  refine zw_isub hx hb dX0_startAt_18 ?_
  refine zw_to (z2 := ((al - 1 : Nat) : Int)) (by omega) ?_
  refine va_put (D := D) (ci := 0) (v := .int (vI ((al - 1 : Nat) : Int))) (ty := .int) (C := RX0) (T := TX0) (N := 15) hx hb hts iwX0 tyX0 tyX0_ok nmX0 hown hK hP hD hS 0 rfl rfl 12 (by decide) (hts _ aw_112) (fun _ h9 => h9) rfl (by decide +kernel) rfl rfl (Nat.le_of_ble_eq_true rfl) dX0_startAt_19 (fun H locs hP hD hS => ?_)
  have hP : va_P D vwCl [(hF, .inr (0, [.ref hR, .ref hL, .ref aL, .ref aK, .int (vI ((lk : Nat) : Int)), .int (vI ((ll : Nat) : Int)), .ref aS, .ref aT, .int (vI ((pp : Nat) : Int)), .int (vI (cand)), .int (vI (low)), .int (vI (lim)), .int (vI ((al - 1 : Nat) : Int)), .int (vI (0)), .int (vI (0))])), (hR, .inr (3, [.ref aB, .int (vI ((n : Nat) : Int)), .int (vI ((pa : Nat) : Int))])), (hL, .inr (4, [.int (vI ((way : Nat) : Int)), .int (vI ((win : Nat) : Int)), .int (vI ((least : Nat) : Int)), .int (vI ((cap : Nat) : Int)), .int (vI ((ga : Nat) : Int)), .int (vI ((gb : Nat) : Int)), .int (vI ((lp : Nat) : Int)), .int (vI ((mp : Nat) : Int))])), ia aK cI (NS) (gK)] H := hP
  have hD : va_D _ [(hF, .inr (0, [.ref hR, .ref hL, .ref aL, .ref aK, .int (vI ((lk : Nat) : Int)), .int (vI ((ll : Nat) : Int)), .ref aS, .ref aT, .int (vI ((pp : Nat) : Int)), .int (vI (cand)), .int (vI (low)), .int (vI (lim)), .int (vI ((al - 1 : Nat) : Int)), .int (vI (0)), .int (vI (0))])), (hR, .inr (3, [.ref aB, .int (vI ((n : Nat) : Int)), .int (vI ((pa : Nat) : Int))])), (hL, .inr (4, [.int (vI ((way : Nat) : Int)), .int (vI ((win : Nat) : Int)), .int (vI ((least : Nat) : Int)), .int (vI ((cap : Nat) : Int)), .int (vI ((ga : Nat) : Int)), .int (vI ((gb : Nat) : Int)), .int (vI ((lp : Nat) : Int)), .int (vI ((mp : Nat) : Int))])), ia aK cI (NS) (gK)] := hD
  refine lv_aload_n hx hb dX0_startAt_22 rfl (lv_at hl 0 rfl) ?_
  refine zw_iconst hx hb dX0_startAt_23 ?_
  refine lv_iload_n hx hb dX0_startAt_24 rfl (lv_at hl 1 rfl) ?_
  refine lv_aload_n hx hb dX0_startAt_25 rfl (lv_at hl 0 rfl) ?_
  refine va_get (D := D) (ci := 0) (v := .ref hL) (C := RX0) (T := TX0) (N := 15) hx hb hts iwX0 hown hK hP 0 rfl rfl 1 (by decide) (hts _ aw_101) (fun _ h9 => h9) rfl dX0_startAt_26 ?_
  refine va_getN (D := D) (ci := 4) (v := .int (vI ((win : Nat) : Int))) (C := RX4) (T := TX4) (N := 8) hx hb hts iwX4 hown hK hP 2 rfl rfl 1 (by decide) (va_Nw.use rfl (hns _ nw_57)) (fun _ h9 => h9) rfl dX0_startAt_29 ?_
  refine zw_isub hx hb dX0_startAt_32 ?_
  refine va_mmax hx hb (hml.trans hl.1.symm) hown (hts _ aw_377) (hts _ aw_378) (hts _ aw_9) (hts _ aw_379) (Nat.le_trans (Nat.le_of_ble_eq_true rfl) hRf) (Nat.le_trans (Nat.le_of_ble_eq_true rfl) hRl) hRc hRs dX0_startAt_33 ?_
  refine zw_as (vI_max ⟨by omega, by omega⟩ ⟨by omega, by omega⟩) ?_
  refine zw_to (z2 := ((pp - win : Nat) : Int)) (by omega) ?_
  refine va_put (D := D) (ci := 0) (v := .int (vI ((pp - win : Nat) : Int))) (ty := .int) (C := RX0) (T := TX0) (N := 15) hx hb hts iwX0 tyX0 tyX0_ok nmX0 hown hK hP hD hS 0 rfl rfl 10 (by decide) (hts _ aw_110) (fun _ h9 => h9) rfl (by decide +kernel) rfl rfl (Nat.le_of_ble_eq_true rfl) dX0_startAt_36 (fun H locs hP hD hS => ?_)
  have hP : va_P D vwCl [(hF, .inr (0, [.ref hR, .ref hL, .ref aL, .ref aK, .int (vI ((lk : Nat) : Int)), .int (vI ((ll : Nat) : Int)), .ref aS, .ref aT, .int (vI ((pp : Nat) : Int)), .int (vI (cand)), .int (vI ((pp - win : Nat) : Int)), .int (vI (lim)), .int (vI ((al - 1 : Nat) : Int)), .int (vI (0)), .int (vI (0))])), (hR, .inr (3, [.ref aB, .int (vI ((n : Nat) : Int)), .int (vI ((pa : Nat) : Int))])), (hL, .inr (4, [.int (vI ((way : Nat) : Int)), .int (vI ((win : Nat) : Int)), .int (vI ((least : Nat) : Int)), .int (vI ((cap : Nat) : Int)), .int (vI ((ga : Nat) : Int)), .int (vI ((gb : Nat) : Int)), .int (vI ((lp : Nat) : Int)), .int (vI ((mp : Nat) : Int))])), ia aK cI (NS) (gK)] H := hP
  have hD : va_D _ [(hF, .inr (0, [.ref hR, .ref hL, .ref aL, .ref aK, .int (vI ((lk : Nat) : Int)), .int (vI ((ll : Nat) : Int)), .ref aS, .ref aT, .int (vI ((pp : Nat) : Int)), .int (vI (cand)), .int (vI ((pp - win : Nat) : Int)), .int (vI (lim)), .int (vI ((al - 1 : Nat) : Int)), .int (vI (0)), .int (vI (0))])), (hR, .inr (3, [.ref aB, .int (vI ((n : Nat) : Int)), .int (vI ((pa : Nat) : Int))])), (hL, .inr (4, [.int (vI ((way : Nat) : Int)), .int (vI ((win : Nat) : Int)), .int (vI ((least : Nat) : Int)), .int (vI ((cap : Nat) : Int)), .int (vI ((ga : Nat) : Int)), .int (vI ((gb : Nat) : Int)), .int (vI ((lp : Nat) : Int)), .int (vI ((mp : Nat) : Int))])), ia aK cI (NS) (gK)] := hD
  refine lv_aload_n hx hb dX0_startAt_39 rfl (lv_at hl 0 rfl) ?_
  refine lv_aload_n hx hb dX0_startAt_40 rfl (lv_at hl 0 rfl) ?_
  refine va_get (D := D) (ci := 0) (v := .ref hL) (C := RX0) (T := TX0) (N := 15) hx hb hts iwX0 hown hK hP 0 rfl rfl 1 (by decide) (hts _ aw_101) (fun _ h9 => h9) rfl dX0_startAt_41 ?_
  refine va_getN (D := D) (ci := 4) (v := .int (vI ((cap : Nat) : Int))) (C := RX4) (T := TX4) (N := 8) hx hb hts iwX4 hown hK hP 2 rfl rfl 3 (by decide) (va_Nw.use rfl (hns _ nw_64)) (fun _ h9 => h9) rfl dX0_startAt_44 ?_
  refine lv_aload_n hx hb dX0_startAt_47 rfl (lv_at hl 0 rfl) ?_
  refine va_get (D := D) (ci := 0) (v := .ref hL) (C := RX0) (T := TX0) (N := 15) hx hb hts iwX0 hown hK hP 0 rfl rfl 1 (by decide) (hts _ aw_101) (fun _ h9 => h9) rfl dX0_startAt_48 ?_
  refine lv_aload_n hx hb dX0_startAt_51 rfl (lv_at hl 0 rfl) ?_
  refine va_get (D := D) (ci := 0) (v := .ref hR) (C := RX0) (T := TX0) (N := 15) hx hb hts iwX0 hown hK hP 0 rfl rfl 0 (by decide) (hts _ aw_100) (fun _ h9 => h9) rfl dX0_startAt_52 ?_
  refine va_getN (D := D) (ci := 3) (v := .int (vI ((n : Nat) : Int))) (C := RX3) (T := TX3) (N := 3) hx hb hts iwX3 hown hK hP 1 rfl rfl 1 (by decide) (va_Nw.use rfl (hns _ nw_32)) (fun _ h9 => h9) rfl dX0_startAt_55 ?_
  have hPc := hP.sub (ws' := [(hL, .inr (4, [.int (vI ((way : Nat) : Int)), .int (vI ((win : Nat) : Int)), .int (vI ((least : Nat) : Int)), .int (vI ((cap : Nat) : Int)), .int (vI ((ga : Nat) : Int)), .int (vI ((gb : Nat) : Int)), .int (vI ((lp : Nat) : Int)), .int (vI ((mp : Nat) : Int))]))]) [2] rfl
  have hDc := hD.sub (ws' := [(hL, .inr (4, [.int (vI ((way : Nat) : Int)), .int (vI ((win : Nat) : Int)), .int (vI ((least : Nat) : Int)), .int (vI ((cap : Nat) : Int)), .int (vI ((ga : Nat) : Int)), .int (vI ((gb : Nat) : Int)), .int (vI ((lp : Nat) : Int)), .int (vI ((mp : Nat) : Int))]))]) [2] (by decide) rfl
  refine zc_i (wr := [(hF, .inr (0, [.ref hR, .ref hL, .ref aL, .ref aK, .int (vI ((lk : Nat) : Int)), .int (vI ((ll : Nat) : Int)), .ref aS, .ref aT, .int (vI ((pp : Nat) : Int)), .int (vI (cand)), .int (vI ((pp - win : Nat) : Int)), .int (vI (lim)), .int (vI ((al - 1 : Nat) : Int)), .int (vI (0)), .int (vI (0))])), (hR, .inr (3, [.ref aB, .int (vI ((n : Nat) : Int)), .int (vI ((pa : Nat) : Int))])), ia aK cI (NS) (gK)]) (va_runVN (As := [.int (vI ((n : Nat) : Int))]) (rest := [.int (vI ((cap : Nat) : Int)), .ref hF]) ⟨hx, hb, hml, hown, hts⟩ (c_X4_endOf l D cI cB _ hL way win least cap ga gb lp mp ((n : Nat) : Int) (by omega) (by omega)) ⟨va_cnB 1 hts (zg kX4_endOf) rfl rfl rfl (hns _ nw_380) (hts _ aw_3) (by decide +kernel) ⟨Nat.le_trans (Nat.le_of_ble_eq_true rfl) hRf, Nat.le_trans (Nat.le_of_ble_eq_true rfl) hRl⟩, (hts _ aw_382), (hts _ as_15)⟩ ⟨zPre_blind, va_recv hK hPc (ci := 4) (q0 := 0) rfl rfl, zPre_of hK hns hPc hDc⟩ rfl rfl hl.1 rfl (lv_room (Nat.le_of_ble_eq_true rfl)) dX0_startAt_58 ⟨hRc, hRs⟩) hP hD hS hA [2] [0, 1, 3] rfl rfl (by decide) (by decide) (fun r _u H locs hpost hP hD hS => ?_)
  obtain rfl := hpost
  have hP : va_P D vwCl [(hF, .inr (0, [.ref hR, .ref hL, .ref aL, .ref aK, .int (vI ((lk : Nat) : Int)), .int (vI ((ll : Nat) : Int)), .ref aS, .ref aT, .int (vI ((pp : Nat) : Int)), .int (vI (cand)), .int (vI ((pp - win : Nat) : Int)), .int (vI (lim)), .int (vI ((al - 1 : Nat) : Int)), .int (vI (0)), .int (vI (0))])), (hR, .inr (3, [.ref aB, .int (vI ((n : Nat) : Int)), .int (vI ((pa : Nat) : Int))])), ia aK cI (NS) (gK), (hL, .inr (4, [.int (vI ((way : Nat) : Int)), .int (vI ((win : Nat) : Int)), .int (vI ((least : Nat) : Int)), .int (vI ((cap : Nat) : Int)), .int (vI ((ga : Nat) : Int)), .int (vI ((gb : Nat) : Int)), .int (vI ((lp : Nat) : Int)), .int (vI ((mp : Nat) : Int))]))] H := hP
  have hD : va_D _ [(hF, .inr (0, [.ref hR, .ref hL, .ref aL, .ref aK, .int (vI ((lk : Nat) : Int)), .int (vI ((ll : Nat) : Int)), .ref aS, .ref aT, .int (vI ((pp : Nat) : Int)), .int (vI (cand)), .int (vI ((pp - win : Nat) : Int)), .int (vI (lim)), .int (vI ((al - 1 : Nat) : Int)), .int (vI (0)), .int (vI (0))])), (hR, .inr (3, [.ref aB, .int (vI ((n : Nat) : Int)), .int (vI ((pa : Nat) : Int))])), ia aK cI (NS) (gK), (hL, .inr (4, [.int (vI ((way : Nat) : Int)), .int (vI ((win : Nat) : Int)), .int (vI ((least : Nat) : Int)), .int (vI ((cap : Nat) : Int)), .int (vI ((ga : Nat) : Int)), .int (vI ((gb : Nat) : Int)), .int (vI ((lp : Nat) : Int)), .int (vI ((mp : Nat) : Int))]))] := hD
  refine lv_iload_n hx hb dX0_startAt_61 rfl (lv_at hl 1 rfl) ?_
  refine zw_isub hx hb dX0_startAt_62 ?_
  refine va_mmin hx hb (hml.trans hl.1.symm) hown (hts _ aw_385) (hts _ aw_316) (hts _ aw_9) (hts _ aw_317) (Nat.le_trans (Nat.le_of_ble_eq_true rfl) hRf) (Nat.le_trans (Nat.le_of_ble_eq_true rfl) hRl) hRc hRs dX0_startAt_63 ?_
  refine zw_as (vI_min ⟨by omega, by omega⟩ ⟨by omega, by omega⟩) ?_
  refine zw_to (z2 := zlm cap gb n pp) (rfl) ?_
  have hlm := zlm_in cap gb n pp
  refine va_put (D := D) (ci := 0) (v := .int (vI (zlm cap gb n pp))) (ty := .int) (C := RX0) (T := TX0) (N := 15) hx hb hts iwX0 tyX0 tyX0_ok nmX0 hown hK hP hD hS 0 rfl rfl 11 (by decide) (hts _ aw_111) (fun _ h9 => h9) rfl (by decide +kernel) rfl rfl (Nat.le_of_ble_eq_true rfl) dX0_startAt_66 (fun H locs hP hD hS => ?_)
  have hP : va_P D vwCl [(hF, .inr (0, [.ref hR, .ref hL, .ref aL, .ref aK, .int (vI ((lk : Nat) : Int)), .int (vI ((ll : Nat) : Int)), .ref aS, .ref aT, .int (vI ((pp : Nat) : Int)), .int (vI (cand)), .int (vI ((pp - win : Nat) : Int)), .int (vI (zlm cap gb n pp)), .int (vI ((al - 1 : Nat) : Int)), .int (vI (0)), .int (vI (0))])), (hR, .inr (3, [.ref aB, .int (vI ((n : Nat) : Int)), .int (vI ((pa : Nat) : Int))])), ia aK cI (NS) (gK), (hL, .inr (4, [.int (vI ((way : Nat) : Int)), .int (vI ((win : Nat) : Int)), .int (vI ((least : Nat) : Int)), .int (vI ((cap : Nat) : Int)), .int (vI ((ga : Nat) : Int)), .int (vI ((gb : Nat) : Int)), .int (vI ((lp : Nat) : Int)), .int (vI ((mp : Nat) : Int))]))] H := hP
  have hD : va_D _ [(hF, .inr (0, [.ref hR, .ref hL, .ref aL, .ref aK, .int (vI ((lk : Nat) : Int)), .int (vI ((ll : Nat) : Int)), .ref aS, .ref aT, .int (vI ((pp : Nat) : Int)), .int (vI (cand)), .int (vI ((pp - win : Nat) : Int)), .int (vI (zlm cap gb n pp)), .int (vI ((al - 1 : Nat) : Int)), .int (vI (0)), .int (vI (0))])), (hR, .inr (3, [.ref aB, .int (vI ((n : Nat) : Int)), .int (vI ((pa : Nat) : Int))])), ia aK cI (NS) (gK), (hL, .inr (4, [.int (vI ((way : Nat) : Int)), .int (vI ((win : Nat) : Int)), .int (vI ((least : Nat) : Int)), .int (vI ((cap : Nat) : Int)), .int (vI ((ga : Nat) : Int)), .int (vI ((gb : Nat) : Int)), .int (vI ((lp : Nat) : Int)), .int (vI ((mp : Nat) : Int))]))] := hD
  refine lv_iload_n hx hb dX0_startAt_69 rfl (lv_at hl 1 rfl) ?_
  refine zw_if_lt (tgt := 111) hx hb dX0_startAt_70 (by decide) ⟨by omega, by omega⟩ (fun c_70 => False.elim (by omega)) (fun c_70 => ?_)
  refine lv_iload_n hx hb dX0_startAt_73 rfl (lv_at hl 1 rfl) ?_
  refine lv_aload_n hx hb dX0_startAt_74 rfl (lv_at hl 0 rfl) ?_
  refine va_get (D := D) (ci := 0) (v := .int (vI ((lk : Nat) : Int))) (C := RX0) (T := TX0) (N := 15) hx hb hts iwX0 hown hK hP 0 rfl rfl 4 (by decide) (hts _ aw_104) (fun _ h9 => h9) rfl dX0_startAt_75 ?_
  refine zw_icmp_ge (tgt := 111) hx hb dX0_startAt_78 (by decide) ⟨by omega, by omega⟩ ⟨by omega, by omega⟩ (fun c_78 => ?_) (fun c_78 => ?_)
  · refine zw_iconst hx hb dX0_startAt_111 ?_
    refine lv_istore_n (lv' := [(3, .int (vI (0))), (0, .ref hF), (1, .int (vI ((pp : Nat) : Int))), (2, .int (vI ((al : Nat) : Int)))]) hx hb dX0_startAt_112 rfl hl (by decide) rfl (fun ls hl => ?_)
    refine lv_aload_n hx hb dX0_startAt_113 rfl (lv_at hl 1 rfl) ?_
    refine lv_iload_n hx hb dX0_startAt_114 rfl (lv_at hl 0 rfl) ?_
    refine zw_if_eq (tgt := 127) hx hb dX0_startAt_115 (by decide) ⟨by omega, by omega⟩ (fun c_115 => ?_) (fun c_115 => False.elim (by omega))
    refine zw_iconst hx hb dX0_startAt_127 ?_
    refine zw_to (z2 := zprev sl (sl pp) (zst lk n ga al pp (zlm cap gb n pp))) (by rw [show zst lk n ga al pp (zlm cap gb n pp) = 0 from if_neg (by omega)]; rfl) ?_
    refine va_put (D := D) (ci := 0) (v := .int (vI (zprev sl (sl pp) (zst lk n ga al pp (zlm cap gb n pp))))) (ty := .int) (C := RX0) (T := TX0) (N := 15) hx hb hts iwX0 tyX0 tyX0_ok nmX0 hown hK hP hD hS 0 rfl rfl 9 (by decide) (hts _ aw_109) (fun _ h9 => h9) rfl (by decide +kernel) rfl rfl (Nat.le_of_ble_eq_true rfl) dX0_startAt_128 (fun H locs hP hD hS => ?_)
    have hP : va_P D vwCl [(hF, .inr (0, [.ref hR, .ref hL, .ref aL, .ref aK, .int (vI ((lk : Nat) : Int)), .int (vI ((ll : Nat) : Int)), .ref aS, .ref aT, .int (vI ((pp : Nat) : Int)), .int (vI (zprev sl (sl pp) (zst lk n ga al pp (zlm cap gb n pp)))), .int (vI ((pp - win : Nat) : Int)), .int (vI (zlm cap gb n pp)), .int (vI ((al - 1 : Nat) : Int)), .int (vI (0)), .int (vI (0))])), (hR, .inr (3, [.ref aB, .int (vI ((n : Nat) : Int)), .int (vI ((pa : Nat) : Int))])), ia aK cI (NS) (gK), (hL, .inr (4, [.int (vI ((way : Nat) : Int)), .int (vI ((win : Nat) : Int)), .int (vI ((least : Nat) : Int)), .int (vI ((cap : Nat) : Int)), .int (vI ((ga : Nat) : Int)), .int (vI ((gb : Nat) : Int)), .int (vI ((lp : Nat) : Int)), .int (vI ((mp : Nat) : Int))]))] H := hP
    have hD : va_D _ [(hF, .inr (0, [.ref hR, .ref hL, .ref aL, .ref aK, .int (vI ((lk : Nat) : Int)), .int (vI ((ll : Nat) : Int)), .ref aS, .ref aT, .int (vI ((pp : Nat) : Int)), .int (vI (zprev sl (sl pp) (zst lk n ga al pp (zlm cap gb n pp)))), .int (vI ((pp - win : Nat) : Int)), .int (vI (zlm cap gb n pp)), .int (vI ((al - 1 : Nat) : Int)), .int (vI (0)), .int (vI (0))])), (hR, .inr (3, [.ref aB, .int (vI ((n : Nat) : Int)), .int (vI ((pa : Nat) : Int))])), ia aK cI (NS) (gK), (hL, .inr (4, [.int (vI ((way : Nat) : Int)), .int (vI ((win : Nat) : Int)), .int (vI ((least : Nat) : Int)), .int (vI ((cap : Nat) : Int)), .int (vI ((ga : Nat) : Int)), .int (vI ((gb : Nat) : Int)), .int (vI ((lp : Nat) : Int)), .int (vI ((mp : Nat) : Int))]))] := hD
    have hP9 := hP.sub (ws' := [(hF, .inr (0, [.ref hR, .ref hL, .ref aL, .ref aK, .int (vI ((lk : Nat) : Int)), .int (vI ((ll : Nat) : Int)), .ref aS, .ref aT, .int (vI ((pp : Nat) : Int)), .int (vI (zprev sl (sl pp) (zst lk n ga al pp (zlm cap gb n pp)))), .int (vI ((pp - win : Nat) : Int)), .int (vI (zlm cap gb n pp)), .int (vI ((al - 1 : Nat) : Int)), .int (vI (0)), .int (vI (0))])), (hR, .inr (3, [.ref aB, .int (vI ((n : Nat) : Int)), .int (vI ((pa : Nat) : Int))])), (hL, .inr (4, [.int (vI ((way : Nat) : Int)), .int (vI ((win : Nat) : Int)), .int (vI ((least : Nat) : Int)), .int (vI ((cap : Nat) : Int)), .int (vI ((ga : Nat) : Int)), .int (vI ((gb : Nat) : Int)), .int (vI ((lp : Nat) : Int)), .int (vI ((mp : Nat) : Int))])), ia aK cI (NS) (gK)]) [0, 1, 3, 2] rfl
    have hD9 := hD.sub (ws' := [(hF, .inr (0, [.ref hR, .ref hL, .ref aL, .ref aK, .int (vI ((lk : Nat) : Int)), .int (vI ((ll : Nat) : Int)), .ref aS, .ref aT, .int (vI ((pp : Nat) : Int)), .int (vI (zprev sl (sl pp) (zst lk n ga al pp (zlm cap gb n pp)))), .int (vI ((pp - win : Nat) : Int)), .int (vI (zlm cap gb n pp)), .int (vI ((al - 1 : Nat) : Int)), .int (vI (0)), .int (vI (0))])), (hR, .inr (3, [.ref aB, .int (vI ((n : Nat) : Int)), .int (vI ((pa : Nat) : Int))])), (hL, .inr (4, [.int (vI ((way : Nat) : Int)), .int (vI ((win : Nat) : Int)), .int (vI ((least : Nat) : Int)), .int (vI ((cap : Nat) : Int)), .int (vI ((ga : Nat) : Int)), .int (vI ((gb : Nat) : Int)), .int (vI ((lp : Nat) : Int)), .int (vI ((mp : Nat) : Int))])), ia aK cI (NS) (gK)]) [0, 1, 3, 2] (by decide) rfl
    exact zr_v hx hb hr hlocks (()) trivial hP9 hD9 hS dX0_startAt_131
  · refine lv_iload_n hx hb dX0_startAt_81 rfl (lv_at hl 1 rfl) ?_
    refine lv_aload_n hx hb dX0_startAt_82 rfl (lv_at hl 0 rfl) ?_
    refine va_get (D := D) (ci := 0) (v := .ref hL) (C := RX0) (T := TX0) (N := 15) hx hb hts iwX0 hown hK hP 0 rfl rfl 1 (by decide) (hts _ aw_101) (fun _ h9 => h9) rfl dX0_startAt_83 ?_
    refine lv_aload_n hx hb dX0_startAt_86 rfl (lv_at hl 0 rfl) ?_
    refine va_get (D := D) (ci := 0) (v := .ref hR) (C := RX0) (T := TX0) (N := 15) hx hb hts iwX0 hown hK hP 0 rfl rfl 0 (by decide) (hts _ aw_100) (fun _ h9 => h9) rfl dX0_startAt_87 ?_
    refine va_getN (D := D) (ci := 3) (v := .int (vI ((n : Nat) : Int))) (C := RX3) (T := TX3) (N := 3) hx hb hts iwX3 hown hK hP 1 rfl rfl 1 (by decide) (va_Nw.use rfl (hns _ nw_32)) (fun _ h9 => h9) rfl dX0_startAt_90 ?_
    have hPc := hP.sub (ws' := [(hL, .inr (4, [.int (vI ((way : Nat) : Int)), .int (vI ((win : Nat) : Int)), .int (vI ((least : Nat) : Int)), .int (vI ((cap : Nat) : Int)), .int (vI ((ga : Nat) : Int)), .int (vI ((gb : Nat) : Int)), .int (vI ((lp : Nat) : Int)), .int (vI ((mp : Nat) : Int))]))]) [3] rfl
    have hDc := hD.sub (ws' := [(hL, .inr (4, [.int (vI ((way : Nat) : Int)), .int (vI ((win : Nat) : Int)), .int (vI ((least : Nat) : Int)), .int (vI ((cap : Nat) : Int)), .int (vI ((ga : Nat) : Int)), .int (vI ((gb : Nat) : Int)), .int (vI ((lp : Nat) : Int)), .int (vI ((mp : Nat) : Int))]))]) [3] (by decide) rfl
    refine zc_i (wr := [(hF, .inr (0, [.ref hR, .ref hL, .ref aL, .ref aK, .int (vI ((lk : Nat) : Int)), .int (vI ((ll : Nat) : Int)), .ref aS, .ref aT, .int (vI ((pp : Nat) : Int)), .int (vI (cand)), .int (vI ((pp - win : Nat) : Int)), .int (vI (zlm cap gb n pp)), .int (vI ((al - 1 : Nat) : Int)), .int (vI (0)), .int (vI (0))])), (hR, .inr (3, [.ref aB, .int (vI ((n : Nat) : Int)), .int (vI ((pa : Nat) : Int))])), ia aK cI (NS) (gK)]) (va_runVN (As := [.int (vI ((n : Nat) : Int))]) (rest := [.int (vI ((pp : Nat) : Int))]) ⟨hx, hb, hml, hown, hts⟩ (c_X4_lastOf l D cI cB _ hL way win least cap ga gb lp mp ((n : Nat) : Int) (by omega) (by omega)) ⟨va_cnB 1 hts (zg kX4_lastOf) rfl rfl rfl (hns _ nw_386) (hts _ aw_3) (by decide +kernel) ⟨Nat.le_trans (Nat.le_of_ble_eq_true rfl) hRf, Nat.le_trans (Nat.le_of_ble_eq_true rfl) hRl⟩, (hts _ aw_388), (hts _ as_16)⟩ ⟨zPre_blind, va_recv hK hPc (ci := 4) (q0 := 0) rfl rfl, zPre_of hK hns hPc hDc⟩ rfl rfl hl.1 rfl (lv_room (Nat.le_of_ble_eq_true rfl)) dX0_startAt_93 ⟨hRc, hRs⟩) hP hD hS hA [3] [0, 1, 2] rfl rfl (by decide) (by decide) (fun r _u H locs hpost hP hD hS => ?_)
    obtain rfl := hpost
    have hP : va_P D vwCl [(hF, .inr (0, [.ref hR, .ref hL, .ref aL, .ref aK, .int (vI ((lk : Nat) : Int)), .int (vI ((ll : Nat) : Int)), .ref aS, .ref aT, .int (vI ((pp : Nat) : Int)), .int (vI (cand)), .int (vI ((pp - win : Nat) : Int)), .int (vI (zlm cap gb n pp)), .int (vI ((al - 1 : Nat) : Int)), .int (vI (0)), .int (vI (0))])), (hR, .inr (3, [.ref aB, .int (vI ((n : Nat) : Int)), .int (vI ((pa : Nat) : Int))])), ia aK cI (NS) (gK), (hL, .inr (4, [.int (vI ((way : Nat) : Int)), .int (vI ((win : Nat) : Int)), .int (vI ((least : Nat) : Int)), .int (vI ((cap : Nat) : Int)), .int (vI ((ga : Nat) : Int)), .int (vI ((gb : Nat) : Int)), .int (vI ((lp : Nat) : Int)), .int (vI ((mp : Nat) : Int))]))] H := hP
    have hD : va_D _ [(hF, .inr (0, [.ref hR, .ref hL, .ref aL, .ref aK, .int (vI ((lk : Nat) : Int)), .int (vI ((ll : Nat) : Int)), .ref aS, .ref aT, .int (vI ((pp : Nat) : Int)), .int (vI (cand)), .int (vI ((pp - win : Nat) : Int)), .int (vI (zlm cap gb n pp)), .int (vI ((al - 1 : Nat) : Int)), .int (vI (0)), .int (vI (0))])), (hR, .inr (3, [.ref aB, .int (vI ((n : Nat) : Int)), .int (vI ((pa : Nat) : Int))])), ia aK cI (NS) (gK), (hL, .inr (4, [.int (vI ((way : Nat) : Int)), .int (vI ((win : Nat) : Int)), .int (vI ((least : Nat) : Int)), .int (vI ((cap : Nat) : Int)), .int (vI ((ga : Nat) : Int)), .int (vI ((gb : Nat) : Int)), .int (vI ((lp : Nat) : Int)), .int (vI ((mp : Nat) : Int))]))] := hD
    refine zw_icmp_gt (tgt := 111) hx hb dX0_startAt_96 (by decide) ⟨by omega, by omega⟩ ⟨by omega, by omega⟩ (fun c_96 => ?_) (fun c_96 => ?_)
    · refine zw_iconst hx hb dX0_startAt_111 ?_
      refine lv_istore_n (lv' := [(3, .int (vI (0))), (0, .ref hF), (1, .int (vI ((pp : Nat) : Int))), (2, .int (vI ((al : Nat) : Int)))]) hx hb dX0_startAt_112 rfl hl (by decide) rfl (fun ls hl => ?_)
      refine lv_aload_n hx hb dX0_startAt_113 rfl (lv_at hl 1 rfl) ?_
      refine lv_iload_n hx hb dX0_startAt_114 rfl (lv_at hl 0 rfl) ?_
      refine zw_if_eq (tgt := 127) hx hb dX0_startAt_115 (by decide) ⟨by omega, by omega⟩ (fun c_115 => ?_) (fun c_115 => False.elim (by omega))
      refine zw_iconst hx hb dX0_startAt_127 ?_
      refine zw_to (z2 := zprev sl (sl pp) (zst lk n ga al pp (zlm cap gb n pp))) (by rw [show zst lk n ga al pp (zlm cap gb n pp) = 0 from if_neg (by omega)]; rfl) ?_
      refine va_put (D := D) (ci := 0) (v := .int (vI (zprev sl (sl pp) (zst lk n ga al pp (zlm cap gb n pp))))) (ty := .int) (C := RX0) (T := TX0) (N := 15) hx hb hts iwX0 tyX0 tyX0_ok nmX0 hown hK hP hD hS 0 rfl rfl 9 (by decide) (hts _ aw_109) (fun _ h9 => h9) rfl (by decide +kernel) rfl rfl (Nat.le_of_ble_eq_true rfl) dX0_startAt_128 (fun H locs hP hD hS => ?_)
      have hP : va_P D vwCl [(hF, .inr (0, [.ref hR, .ref hL, .ref aL, .ref aK, .int (vI ((lk : Nat) : Int)), .int (vI ((ll : Nat) : Int)), .ref aS, .ref aT, .int (vI ((pp : Nat) : Int)), .int (vI (zprev sl (sl pp) (zst lk n ga al pp (zlm cap gb n pp)))), .int (vI ((pp - win : Nat) : Int)), .int (vI (zlm cap gb n pp)), .int (vI ((al - 1 : Nat) : Int)), .int (vI (0)), .int (vI (0))])), (hR, .inr (3, [.ref aB, .int (vI ((n : Nat) : Int)), .int (vI ((pa : Nat) : Int))])), ia aK cI (NS) (gK), (hL, .inr (4, [.int (vI ((way : Nat) : Int)), .int (vI ((win : Nat) : Int)), .int (vI ((least : Nat) : Int)), .int (vI ((cap : Nat) : Int)), .int (vI ((ga : Nat) : Int)), .int (vI ((gb : Nat) : Int)), .int (vI ((lp : Nat) : Int)), .int (vI ((mp : Nat) : Int))]))] H := hP
      have hD : va_D _ [(hF, .inr (0, [.ref hR, .ref hL, .ref aL, .ref aK, .int (vI ((lk : Nat) : Int)), .int (vI ((ll : Nat) : Int)), .ref aS, .ref aT, .int (vI ((pp : Nat) : Int)), .int (vI (zprev sl (sl pp) (zst lk n ga al pp (zlm cap gb n pp)))), .int (vI ((pp - win : Nat) : Int)), .int (vI (zlm cap gb n pp)), .int (vI ((al - 1 : Nat) : Int)), .int (vI (0)), .int (vI (0))])), (hR, .inr (3, [.ref aB, .int (vI ((n : Nat) : Int)), .int (vI ((pa : Nat) : Int))])), ia aK cI (NS) (gK), (hL, .inr (4, [.int (vI ((way : Nat) : Int)), .int (vI ((win : Nat) : Int)), .int (vI ((least : Nat) : Int)), .int (vI ((cap : Nat) : Int)), .int (vI ((ga : Nat) : Int)), .int (vI ((gb : Nat) : Int)), .int (vI ((lp : Nat) : Int)), .int (vI ((mp : Nat) : Int))]))] := hD
      have hP9 := hP.sub (ws' := [(hF, .inr (0, [.ref hR, .ref hL, .ref aL, .ref aK, .int (vI ((lk : Nat) : Int)), .int (vI ((ll : Nat) : Int)), .ref aS, .ref aT, .int (vI ((pp : Nat) : Int)), .int (vI (zprev sl (sl pp) (zst lk n ga al pp (zlm cap gb n pp)))), .int (vI ((pp - win : Nat) : Int)), .int (vI (zlm cap gb n pp)), .int (vI ((al - 1 : Nat) : Int)), .int (vI (0)), .int (vI (0))])), (hR, .inr (3, [.ref aB, .int (vI ((n : Nat) : Int)), .int (vI ((pa : Nat) : Int))])), (hL, .inr (4, [.int (vI ((way : Nat) : Int)), .int (vI ((win : Nat) : Int)), .int (vI ((least : Nat) : Int)), .int (vI ((cap : Nat) : Int)), .int (vI ((ga : Nat) : Int)), .int (vI ((gb : Nat) : Int)), .int (vI ((lp : Nat) : Int)), .int (vI ((mp : Nat) : Int))])), ia aK cI (NS) (gK)]) [0, 1, 3, 2] rfl
      have hD9 := hD.sub (ws' := [(hF, .inr (0, [.ref hR, .ref hL, .ref aL, .ref aK, .int (vI ((lk : Nat) : Int)), .int (vI ((ll : Nat) : Int)), .ref aS, .ref aT, .int (vI ((pp : Nat) : Int)), .int (vI (zprev sl (sl pp) (zst lk n ga al pp (zlm cap gb n pp)))), .int (vI ((pp - win : Nat) : Int)), .int (vI (zlm cap gb n pp)), .int (vI ((al - 1 : Nat) : Int)), .int (vI (0)), .int (vI (0))])), (hR, .inr (3, [.ref aB, .int (vI ((n : Nat) : Int)), .int (vI ((pa : Nat) : Int))])), (hL, .inr (4, [.int (vI ((way : Nat) : Int)), .int (vI ((win : Nat) : Int)), .int (vI ((least : Nat) : Int)), .int (vI ((cap : Nat) : Int)), .int (vI ((ga : Nat) : Int)), .int (vI ((gb : Nat) : Int)), .int (vI ((lp : Nat) : Int)), .int (vI ((mp : Nat) : Int))])), ia aK cI (NS) (gK)]) [0, 1, 3, 2] (by decide) rfl
      exact zr_v hx hb hr hlocks (()) trivial hP9 hD9 hS dX0_startAt_131
    · refine lv_aload_n hx hb dX0_startAt_99 rfl (lv_at hl 0 rfl) ?_
      refine va_get (D := D) (ci := 0) (v := .int (vI (zlm cap gb n pp))) (C := RX0) (T := TX0) (N := 15) hx hb hts iwX0 hown hK hP 0 rfl rfl 11 (by decide) (hts _ aw_111) (fun _ h9 => h9) rfl dX0_startAt_100 ?_
      refine lv_iload_n hx hb dX0_startAt_103 rfl (lv_at hl 2 rfl) ?_
      refine zw_icmp_lt (tgt := 111) hx hb dX0_startAt_104 (by decide) ⟨by omega, by omega⟩ ⟨by omega, by omega⟩ (fun c_104 => ?_) (fun c_104 => ?_)
      · refine zw_iconst hx hb dX0_startAt_111 ?_
        refine lv_istore_n (lv' := [(3, .int (vI (0))), (0, .ref hF), (1, .int (vI ((pp : Nat) : Int))), (2, .int (vI ((al : Nat) : Int)))]) hx hb dX0_startAt_112 rfl hl (by decide) rfl (fun ls hl => ?_)
        refine lv_aload_n hx hb dX0_startAt_113 rfl (lv_at hl 1 rfl) ?_
        refine lv_iload_n hx hb dX0_startAt_114 rfl (lv_at hl 0 rfl) ?_
        refine zw_if_eq (tgt := 127) hx hb dX0_startAt_115 (by decide) ⟨by omega, by omega⟩ (fun c_115 => ?_) (fun c_115 => False.elim (by omega))
        refine zw_iconst hx hb dX0_startAt_127 ?_
        refine zw_to (z2 := zprev sl (sl pp) (zst lk n ga al pp (zlm cap gb n pp))) (by rw [show zst lk n ga al pp (zlm cap gb n pp) = 0 from if_neg (by omega)]; rfl) ?_
        refine va_put (D := D) (ci := 0) (v := .int (vI (zprev sl (sl pp) (zst lk n ga al pp (zlm cap gb n pp))))) (ty := .int) (C := RX0) (T := TX0) (N := 15) hx hb hts iwX0 tyX0 tyX0_ok nmX0 hown hK hP hD hS 0 rfl rfl 9 (by decide) (hts _ aw_109) (fun _ h9 => h9) rfl (by decide +kernel) rfl rfl (Nat.le_of_ble_eq_true rfl) dX0_startAt_128 (fun H locs hP hD hS => ?_)
        have hP : va_P D vwCl [(hF, .inr (0, [.ref hR, .ref hL, .ref aL, .ref aK, .int (vI ((lk : Nat) : Int)), .int (vI ((ll : Nat) : Int)), .ref aS, .ref aT, .int (vI ((pp : Nat) : Int)), .int (vI (zprev sl (sl pp) (zst lk n ga al pp (zlm cap gb n pp)))), .int (vI ((pp - win : Nat) : Int)), .int (vI (zlm cap gb n pp)), .int (vI ((al - 1 : Nat) : Int)), .int (vI (0)), .int (vI (0))])), (hR, .inr (3, [.ref aB, .int (vI ((n : Nat) : Int)), .int (vI ((pa : Nat) : Int))])), ia aK cI (NS) (gK), (hL, .inr (4, [.int (vI ((way : Nat) : Int)), .int (vI ((win : Nat) : Int)), .int (vI ((least : Nat) : Int)), .int (vI ((cap : Nat) : Int)), .int (vI ((ga : Nat) : Int)), .int (vI ((gb : Nat) : Int)), .int (vI ((lp : Nat) : Int)), .int (vI ((mp : Nat) : Int))]))] H := hP
        have hD : va_D _ [(hF, .inr (0, [.ref hR, .ref hL, .ref aL, .ref aK, .int (vI ((lk : Nat) : Int)), .int (vI ((ll : Nat) : Int)), .ref aS, .ref aT, .int (vI ((pp : Nat) : Int)), .int (vI (zprev sl (sl pp) (zst lk n ga al pp (zlm cap gb n pp)))), .int (vI ((pp - win : Nat) : Int)), .int (vI (zlm cap gb n pp)), .int (vI ((al - 1 : Nat) : Int)), .int (vI (0)), .int (vI (0))])), (hR, .inr (3, [.ref aB, .int (vI ((n : Nat) : Int)), .int (vI ((pa : Nat) : Int))])), ia aK cI (NS) (gK), (hL, .inr (4, [.int (vI ((way : Nat) : Int)), .int (vI ((win : Nat) : Int)), .int (vI ((least : Nat) : Int)), .int (vI ((cap : Nat) : Int)), .int (vI ((ga : Nat) : Int)), .int (vI ((gb : Nat) : Int)), .int (vI ((lp : Nat) : Int)), .int (vI ((mp : Nat) : Int))]))] := hD
        have hP9 := hP.sub (ws' := [(hF, .inr (0, [.ref hR, .ref hL, .ref aL, .ref aK, .int (vI ((lk : Nat) : Int)), .int (vI ((ll : Nat) : Int)), .ref aS, .ref aT, .int (vI ((pp : Nat) : Int)), .int (vI (zprev sl (sl pp) (zst lk n ga al pp (zlm cap gb n pp)))), .int (vI ((pp - win : Nat) : Int)), .int (vI (zlm cap gb n pp)), .int (vI ((al - 1 : Nat) : Int)), .int (vI (0)), .int (vI (0))])), (hR, .inr (3, [.ref aB, .int (vI ((n : Nat) : Int)), .int (vI ((pa : Nat) : Int))])), (hL, .inr (4, [.int (vI ((way : Nat) : Int)), .int (vI ((win : Nat) : Int)), .int (vI ((least : Nat) : Int)), .int (vI ((cap : Nat) : Int)), .int (vI ((ga : Nat) : Int)), .int (vI ((gb : Nat) : Int)), .int (vI ((lp : Nat) : Int)), .int (vI ((mp : Nat) : Int))])), ia aK cI (NS) (gK)]) [0, 1, 3, 2] rfl
        have hD9 := hD.sub (ws' := [(hF, .inr (0, [.ref hR, .ref hL, .ref aL, .ref aK, .int (vI ((lk : Nat) : Int)), .int (vI ((ll : Nat) : Int)), .ref aS, .ref aT, .int (vI ((pp : Nat) : Int)), .int (vI (zprev sl (sl pp) (zst lk n ga al pp (zlm cap gb n pp)))), .int (vI ((pp - win : Nat) : Int)), .int (vI (zlm cap gb n pp)), .int (vI ((al - 1 : Nat) : Int)), .int (vI (0)), .int (vI (0))])), (hR, .inr (3, [.ref aB, .int (vI ((n : Nat) : Int)), .int (vI ((pa : Nat) : Int))])), (hL, .inr (4, [.int (vI ((way : Nat) : Int)), .int (vI ((win : Nat) : Int)), .int (vI ((least : Nat) : Int)), .int (vI ((cap : Nat) : Int)), .int (vI ((ga : Nat) : Int)), .int (vI ((gb : Nat) : Int)), .int (vI ((lp : Nat) : Int)), .int (vI ((mp : Nat) : Int))])), ia aK cI (NS) (gK)]) [0, 1, 3, 2] (by decide) rfl
        exact zr_v hx hb hr hlocks (()) trivial hP9 hD9 hS dX0_startAt_131
      · refine zw_iconst hx hb dX0_startAt_107 ?_
        refine lv_goto (tgt := 112) hx hb dX0_startAt_108 (by decide) ?_
        refine lv_istore_n (lv' := [(3, .int (vI (1))), (0, .ref hF), (1, .int (vI ((pp : Nat) : Int))), (2, .int (vI ((al : Nat) : Int)))]) hx hb dX0_startAt_112 rfl hl (by decide) rfl (fun ls hl => ?_)
        refine lv_aload_n hx hb dX0_startAt_113 rfl (lv_at hl 1 rfl) ?_
        refine lv_iload_n hx hb dX0_startAt_114 rfl (lv_at hl 0 rfl) ?_
        refine zw_if_eq (tgt := 127) hx hb dX0_startAt_115 (by decide) ⟨by omega, by omega⟩ (fun c_115 => False.elim (by omega)) (fun c_115 => ?_)
        refine lv_aload_n hx hb dX0_startAt_118 rfl (lv_at hl 1 rfl) ?_
        refine va_get (D := D) (ci := 0) (v := .ref aK) (C := RX0) (T := TX0) (N := 15) hx hb hts iwX0 hown hK hP 0 rfl rfl 3 (by decide) (hts _ aw_103) (fun _ h9 => h9) rfl dX0_startAt_119 ?_
        refine lv_iload_n hx hb dX0_startAt_122 rfl (lv_at hl 2 rfl) ?_
        refine zw_iald hx hb hK hP 2 0 rfl rfl (pp) (by omega) (by omega) (by omega) dX0_startAt_123 ?_
        refine zw_to (z2 := zprev sl (sl pp) (zst lk n ga al pp (zlm cap gb n pp))) ((hlk pp (by omega)).trans (by rw [show zst lk n ga al pp (zlm cap gb n pp) = pp from if_pos ⟨by omega, by omega, by omega⟩])) ?_
        refine lv_goto (tgt := 128) hx hb dX0_startAt_124 (by decide) ?_
        refine va_put (D := D) (ci := 0) (v := .int (vI (zprev sl (sl pp) (zst lk n ga al pp (zlm cap gb n pp))))) (ty := .int) (C := RX0) (T := TX0) (N := 15) hx hb hts iwX0 tyX0 tyX0_ok nmX0 hown hK hP hD hS 0 rfl rfl 9 (by decide) (hts _ aw_109) (fun _ h9 => h9) rfl (by decide +kernel) rfl rfl (Nat.le_of_ble_eq_true rfl) dX0_startAt_128 (fun H locs hP hD hS => ?_)
        have hP : va_P D vwCl [(hF, .inr (0, [.ref hR, .ref hL, .ref aL, .ref aK, .int (vI ((lk : Nat) : Int)), .int (vI ((ll : Nat) : Int)), .ref aS, .ref aT, .int (vI ((pp : Nat) : Int)), .int (vI (zprev sl (sl pp) (zst lk n ga al pp (zlm cap gb n pp)))), .int (vI ((pp - win : Nat) : Int)), .int (vI (zlm cap gb n pp)), .int (vI ((al - 1 : Nat) : Int)), .int (vI (0)), .int (vI (0))])), (hR, .inr (3, [.ref aB, .int (vI ((n : Nat) : Int)), .int (vI ((pa : Nat) : Int))])), ia aK cI (NS) (gK), (hL, .inr (4, [.int (vI ((way : Nat) : Int)), .int (vI ((win : Nat) : Int)), .int (vI ((least : Nat) : Int)), .int (vI ((cap : Nat) : Int)), .int (vI ((ga : Nat) : Int)), .int (vI ((gb : Nat) : Int)), .int (vI ((lp : Nat) : Int)), .int (vI ((mp : Nat) : Int))]))] H := hP
        have hD : va_D _ [(hF, .inr (0, [.ref hR, .ref hL, .ref aL, .ref aK, .int (vI ((lk : Nat) : Int)), .int (vI ((ll : Nat) : Int)), .ref aS, .ref aT, .int (vI ((pp : Nat) : Int)), .int (vI (zprev sl (sl pp) (zst lk n ga al pp (zlm cap gb n pp)))), .int (vI ((pp - win : Nat) : Int)), .int (vI (zlm cap gb n pp)), .int (vI ((al - 1 : Nat) : Int)), .int (vI (0)), .int (vI (0))])), (hR, .inr (3, [.ref aB, .int (vI ((n : Nat) : Int)), .int (vI ((pa : Nat) : Int))])), ia aK cI (NS) (gK), (hL, .inr (4, [.int (vI ((way : Nat) : Int)), .int (vI ((win : Nat) : Int)), .int (vI ((least : Nat) : Int)), .int (vI ((cap : Nat) : Int)), .int (vI ((ga : Nat) : Int)), .int (vI ((gb : Nat) : Int)), .int (vI ((lp : Nat) : Int)), .int (vI ((mp : Nat) : Int))]))] := hD
        have hP9 := hP.sub (ws' := [(hF, .inr (0, [.ref hR, .ref hL, .ref aL, .ref aK, .int (vI ((lk : Nat) : Int)), .int (vI ((ll : Nat) : Int)), .ref aS, .ref aT, .int (vI ((pp : Nat) : Int)), .int (vI (zprev sl (sl pp) (zst lk n ga al pp (zlm cap gb n pp)))), .int (vI ((pp - win : Nat) : Int)), .int (vI (zlm cap gb n pp)), .int (vI ((al - 1 : Nat) : Int)), .int (vI (0)), .int (vI (0))])), (hR, .inr (3, [.ref aB, .int (vI ((n : Nat) : Int)), .int (vI ((pa : Nat) : Int))])), (hL, .inr (4, [.int (vI ((way : Nat) : Int)), .int (vI ((win : Nat) : Int)), .int (vI ((least : Nat) : Int)), .int (vI ((cap : Nat) : Int)), .int (vI ((ga : Nat) : Int)), .int (vI ((gb : Nat) : Int)), .int (vI ((lp : Nat) : Int)), .int (vI ((mp : Nat) : Int))])), ia aK cI (NS) (gK)]) [0, 1, 3, 2] rfl
        have hD9 := hD.sub (ws' := [(hF, .inr (0, [.ref hR, .ref hL, .ref aL, .ref aK, .int (vI ((lk : Nat) : Int)), .int (vI ((ll : Nat) : Int)), .ref aS, .ref aT, .int (vI ((pp : Nat) : Int)), .int (vI (zprev sl (sl pp) (zst lk n ga al pp (zlm cap gb n pp)))), .int (vI ((pp - win : Nat) : Int)), .int (vI (zlm cap gb n pp)), .int (vI ((al - 1 : Nat) : Int)), .int (vI (0)), .int (vI (0))])), (hR, .inr (3, [.ref aB, .int (vI ((n : Nat) : Int)), .int (vI ((pa : Nat) : Int))])), (hL, .inr (4, [.int (vI ((way : Nat) : Int)), .int (vI ((win : Nat) : Int)), .int (vI ((least : Nat) : Int)), .int (vI ((cap : Nat) : Int)), .int (vI ((ga : Nat) : Int)), .int (vI ((gb : Nat) : Int)), .int (vI ((lp : Nat) : Int)), .int (vI ((mp : Nat) : Int))])), ia aK cI (NS) (gK)]) [0, 1, 3, 2] (by decide) rfl
        exact zr_v hx hb hr hlocks (()) trivial hP9 hD9 hS dX0_startAt_131

set_option maxRecDepth 100000 in
set_option maxHeartbeats 4000000 in
theorem s_slot {p : Program} {l : Launch} {e : Env} {R : Room} {s : State} {m : MethodId} {args : Array Value} {below : List Frame} {meth : Method} {c : Code} {Q : State → Prop} {A : Nat → Prop} {H0 : Heap} {D : va_G} {cI cB : ClassId} {cells slots : Nat} (hx : p.tables.exec = Jvm.exec) (hb : c.code = cX0_slotOf) (hts : ∀ w ∈ zALL, w.before args s = true) (hown : s.vm.findClass RX0 = some m.cls) (hml : c.maxLocals = 5) (hK : va_K D vwCl [(cI, .int), (cB, .byte)] s) (hns : zNs s) (hA : ∀ q, H0.size ≤ q → A q) (hRf : 0 ≤ R.frames) (hRl : 0 ≤ R.locals) (hRc : cells ≤ R.cells) (hRs : slots ≤ R.slots) (hF : Nat) (hR : Nat) (hL : Nat) (aL : Nat) (aK : Nat) (aS : Nat) (aT : Nat) (aB : Nat) (lk : Nat) (ll : Nat) (n : Nat) (pa : Nat) (NB : Nat) (NS : Nat) (d : Nat → Int) (plc : Int) (cand : Int) (low : Int) (lim : Int) (beat : Int) (ln : Int) (dist : Int) (gL : Nat → Int) (pp : Nat) (h1 : pp + ll ≤ n ∧ ll ≤ 8 ∧ n ≤ NB ∧ NB ≤ 32768 ∧ n ≤ NS ∧ NS ≤ 32768) (hby : ∀ j, -128 ≤ d j ∧ d j < 128)
    (K1 : ∀  (H : Heap) (locs : List Loc) (ls : Array Slot), va_P D vwCl [(hF, .inr (0, [.ref hR, .ref hL, .ref aL, .ref aK, .int (vI ((lk : Nat) : Int)), .int (vI ((ll : Nat) : Int)), .ref aS, .ref aT, .int (vI (plc)), .int (vI (cand)), .int (vI (low)), .int (vI (lim)), .int (vI (beat)), .int (vI (ln)), .int (vI (dist))])), (hR, .inr (3, [.ref aB, .int (vI ((n : Nat) : Int)), .int (vI ((pa : Nat) : Int))])), ia aB cB (NB) (d), ia aL cI (NS) (gL)] H → va_D A [(hF, .inr (0, [.ref hR, .ref hL, .ref aL, .ref aK, .int (vI ((lk : Nat) : Int)), .int (vI ((ll : Nat) : Int)), .ref aS, .ref aT, .int (vI (plc)), .int (vI (cand)), .int (vI (low)), .int (vI (lim)), .int (vI (beat)), .int (vI (ln)), .int (vI (dist))])), (hR, .inr (3, [.ref aB, .int (vI ((n : Nat) : Int)), .int (vI ((pa : Nat) : Int))])), ia aB cB (NB) (d), ia aL cI (NS) (gL)] → va_S A H0 H locs → lv_has ls 5 [(0, .ref hF), (1, .int (vI ((pp : Nat) : Int))), (2, .long (zhash d pp ll))] → W p l e R s m args below meth c H locs cells slots Q (F0 m 43 ls []))
    : ∀ (fuel : Nat), ∀ (k : Nat) (_ : ll - k < fuel) (H : Heap) (locs : List Loc) (ls : Array Slot), (k ≤ ll) → va_P D vwCl [(hF, .inr (0, [.ref hR, .ref hL, .ref aL, .ref aK, .int (vI ((lk : Nat) : Int)), .int (vI ((ll : Nat) : Int)), .ref aS, .ref aT, .int (vI (plc)), .int (vI (cand)), .int (vI (low)), .int (vI (lim)), .int (vI (beat)), .int (vI (ln)), .int (vI (dist))])), (hR, .inr (3, [.ref aB, .int (vI ((n : Nat) : Int)), .int (vI ((pa : Nat) : Int))])), ia aB cB (NB) (d), ia aL cI (NS) (gL)] H → va_D A [(hF, .inr (0, [.ref hR, .ref hL, .ref aL, .ref aK, .int (vI ((lk : Nat) : Int)), .int (vI ((ll : Nat) : Int)), .ref aS, .ref aT, .int (vI (plc)), .int (vI (cand)), .int (vI (low)), .int (vI (lim)), .int (vI (beat)), .int (vI (ln)), .int (vI (dist))])), (hR, .inr (3, [.ref aB, .int (vI ((n : Nat) : Int)), .int (vI ((pa : Nat) : Int))])), ia aB cB (NB) (d), ia aL cI (NS) (gL)] → va_S A H0 H locs → lv_has ls 5 [(0, .ref hF), (1, .int (vI ((pp : Nat) : Int))), (4, .int (vI ((k : Nat) : Int))), (2, .long (zhash d pp k))] → W p l e R s m args below meth c H locs cells slots Q (F0 m 5 ls []) := by
  intro fuel
  induction fuel with
  | zero =>
    intro k hfuel
    exact absurd hfuel (Nat.not_lt_zero _)
  | succ fuel ih =>
    intro k hfuel H locs ls hk hP hD hS hl
    refine lv_iload hx hb dX0_slotOf_5 (lv_at hl 2 rfl) ?_
    refine lv_aload_n hx hb dX0_slotOf_7 rfl (lv_at hl 0 rfl) ?_
    refine va_get (D := D) (ci := 0) (v := .int (vI ((ll : Nat) : Int))) (C := RX0) (T := TX0) (N := 15) hx hb hts iwX0 hown hK hP 0 rfl rfl 5 (by decide) (hts _ aw_105) (fun _ h9 => h9) rfl dX0_slotOf_8 ?_
    refine zw_icmp_ge (tgt := 43) hx hb dX0_slotOf_11 (by decide) ⟨by omega, by omega⟩ ⟨by omega, by omega⟩ (fun c_11 => ?_) (fun c_11 => ?_)
    · obtain rfl : k = ll := by omega
      exact K1 _ _ _ (hP.sub [0, 1, 2, 3] rfl) (hD.sub [0, 1, 2, 3] (by decide) rfl) hS (lv_sub hl [0, 1, 3] rfl)
    · refine lv_lload_n hx hb dX0_slotOf_14 rfl (lv_at hl 3 rfl) ?_
      refine zw_bipush hx hb dX0_slotOf_15 (by decide +kernel) ?_
      refine lv_lshl (v := (zhash d pp k) <<< ((vI 8).toInt64 &&& 63)) hx hb dX0_slotOf_17 (rfl) ?_
      refine lv_aload_n hx hb dX0_slotOf_18 rfl (lv_at hl 0 rfl) ?_
      refine va_get (D := D) (ci := 0) (v := .ref hR) (C := RX0) (T := TX0) (N := 15) hx hb hts iwX0 hown hK hP 0 rfl rfl 0 (by decide) (hts _ aw_100) (fun _ h9 => h9) rfl dX0_slotOf_19 ?_
      refine va_getN (D := D) (ci := 3) (v := .ref aB) (C := RX3) (T := TX3) (N := 3) hx hb hts iwX3 hown hK hP 1 rfl rfl 0 (by decide) (va_Nw.use rfl (hns _ nw_27)) (fun _ h9 => h9) rfl dX0_slotOf_22 ?_
      refine lv_iload_n hx hb dX0_slotOf_25 rfl (lv_at hl 1 rfl) ?_
      refine lv_iload hx hb dX0_slotOf_26 (lv_at hl 2 rfl) ?_
      refine zw_iadd hx hb dX0_slotOf_28 ?_
      refine zw_to (z2 := ((pp + k : Nat) : Int)) (by omega) ?_
      have hq1 := hby (pp + k)
      refine zw_bald hx hb hK hP 2 1 rfl rfl (pp + k) (by omega) (by omega) (by omega) dX0_slotOf_29 ?_
      refine zw_sipush hx hb dX0_slotOf_30 (by decide +kernel) ?_
      refine lv_iand hx hb dX0_slotOf_33 ?_
      refine lv_i2l (v := (vI (d (pp + k)) &&& vI 255).toInt64) hx hb dX0_slotOf_34 (rfl) ?_
      refine lv_lor hx hb dX0_slotOf_35 ?_
      refine zw_tol (z2 := zhash d pp (k + 1)) (rfl) ?_
      refine lv_lstore_n (lv' := [(2, .long (zhash d pp (k + 1))), (0, .ref hF), (1, .int (vI ((pp : Nat) : Int))), (4, .int (vI ((k : Nat) : Int)))]) hx hb dX0_slotOf_36 rfl hl (by decide) rfl (fun ls hl => ?_)
      refine lv_iinc (v := vI ((k + 1 : Nat) : Int)) (lv' := [(4, .int (vI ((k + 1 : Nat) : Int))), (2, .long (zhash d pp (k + 1))), (0, .ref hF), (1, .int (vI ((pp : Nat) : Int)))]) hx hb dX0_slotOf_37 hl (k := 3) rfl ((vI_add _ _).trans (congrArg vI (by omega))) (by decide) rfl (fun ls hl => ?_)
      refine lv_goto (tgt := 5) hx hb dX0_slotOf_40 (by decide) ?_
      exact ih (k + 1) (by omega) _ _ _ (by omega) (hP.sub [0, 1, 2, 3] rfl) (hD.sub [0, 1, 2, 3] (by decide) rfl) hS (lv_sub hl [2, 3, 0, 1] rfl)

set_option maxRecDepth 100000 in
set_option maxHeartbeats 4000000 in
theorem c_X0_slotOf (l : Launch) (D : va_G) (cI cB : ClassId) (sz : Nat) (hF : Nat) (hR : Nat) (hL : Nat) (aL : Nat) (aK : Nat) (aS : Nat) (aT : Nat) (aB : Nat) (lk : Nat) (ll : Nat) (n : Nat) (pa : Nat) (NB : Nat) (NS : Nat) (d : Nat → Int) (plc : Int) (cand : Int) (low : Int) (lim : Int) (beat : Int) (ln : Int) (dist : Int) (gL : Nat → Int) (pp : Nat) (h1 : pp + ll ≤ n ∧ ll ≤ 8 ∧ n ≤ NB ∧ NB ≤ 32768 ∧ n ≤ NS ∧ NS ≤ 32768) (hNS : NS = 512 ∨ NS = 4096 ∨ NS = 32768) (hby : ∀ j, -128 ≤ d j ∧ d j < 128) : Met l yX0_slotOf wsX0_slotOf ({ frames := 0, cells := 0, slots := 0, locals := 0 } : Room) (va_Pc [.ref hF, .int (vI ((pp : Nat) : Int))] (zPre D vwCl [(cI, .int), (cB, .byte)] [(hF, .inr (0, [.ref hR, .ref hL, .ref aL, .ref aK, .int (vI ((lk : Nat) : Int)), .int (vI ((ll : Nat) : Int)), .ref aS, .ref aT, .int (vI (plc)), .int (vI (cand)), .int (vI (low)), .int (vI (lim)), .int (vI (beat)), .int (vI (ln)), .int (vI (dist))])), (hR, .inr (3, [.ref aB, .int (vI ((n : Nat) : Int)), .int (vI ((pa : Nat) : Int))])), ia aB cB (NB) (d), ia aL cI (NS) (gL)] sz)) (va_Qi (S := Unit) (fun (r : Int32) => fun _ => (r = vI ((zslot d ll NS pp : Nat) : Int)) ∧ (zslot d ll NS pp < NS)) (fun (u : Unit) t => zB D vwCl (va_A [(hF, .inr (0, [.ref hR, .ref hL, .ref aL, .ref aK, .int (vI ((lk : Nat) : Int)), .int (vI ((ll : Nat) : Int)), .ref aS, .ref aT, .int (vI (plc)), .int (vI (cand)), .int (vI (low)), .int (vI (lim)), .int (vI (beat)), .int (vI (ln)), .int (vI (dist))])), (hR, .inr (3, [.ref aB, .int (vI ((n : Nat) : Int)), .int (vI ((pa : Nat) : Int))])), ia aB cB (NB) (d), ia aL cI (NS) (gL)] sz) ((fun _ => [(hF, .inr (0, [.ref hR, .ref hL, .ref aL, .ref aK, .int (vI ((lk : Nat) : Int)), .int (vI ((ll : Nat) : Int)), .ref aS, .ref aT, .int (vI (plc)), .int (vI (cand)), .int (vI (low)), .int (vI (lim)), .int (vI (beat)), .int (vI (ln)), .int (vI (dist))])), (hR, .inr (3, [.ref aB, .int (vI ((n : Nat) : Int)), .int (vI ((pa : Nat) : Int))])), ia aB cB (NB) (d), ia aL cI (NS) (gL)] : Unit → va_W) u) t) (va_A [(hF, .inr (0, [.ref hR, .ref hL, .ref aL, .ref aK, .int (vI ((lk : Nat) : Int)), .int (vI ((ll : Nat) : Int)), .ref aS, .ref aT, .int (vI (plc)), .int (vI (cand)), .int (vI (low)), .int (vI (lim)), .int (vI (beat)), .int (vI (ln)), .int (vI (dist))])), (hR, .inr (3, [.ref aB, .int (vI ((n : Nat) : Int)), .int (vI ((pa : Nat) : Int))])), ia aB cB (NB) (d), ia aL cI (NS) (gL)] sz)) (0) (0) (va_A [(hF, .inr (0, [.ref hR, .ref hL, .ref aL, .ref aK, .int (vI ((lk : Nat) : Int)), .int (vI ((ll : Nat) : Int)), .ref aS, .ref aT, .int (vI (plc)), .int (vI (cand)), .int (vI (low)), .int (vI (lim)), .int (vI (beat)), .int (vI (ln)), .int (vI (dist))])), (hR, .inr (3, [.ref aB, .int (vI ((n : Nat) : Int)), .int (vI ((pa : Nat) : Int))])), ia aB cB (NB) (d), ia aL cI (NS) (gL)] sz) := by
  refine zMet (by decide) rfl (Nat.le_of_ble_eq_true rfl) (fun p e s m below meth c hx hb hr hts hown hlocks hnm hml hK hns hA hP hD hS ls hl => ?_)
  have hl : lv_has ls 5 [(0, .ref hF), (1, .int (vI ((pp : Nat) : Int)))] := hl
  have hRf : 0 ≤ ({ frames := 0, cells := 0, slots := 0, locals := 0 } : Room).frames := Nat.le_refl _
  have hRl : 0 ≤ ({ frames := 0, cells := 0, slots := 0, locals := 0 } : Room).locals := Nat.le_refl _
  have hRc : 0 ≤ ({ frames := 0, cells := 0, slots := 0, locals := 0 } : Room).cells := Nat.zero_le _
  have hRs : 0 ≤ ({ frames := 0, cells := 0, slots := 0, locals := 0 } : Room).slots := Nat.zero_le _
  refine lv_lconst (v := zhash d pp 0) hx hb dX0_slotOf_0 rfl ?_
  refine lv_lstore_n (lv' := [(2, .long (zhash d pp 0)), (0, .ref hF), (1, .int (vI ((pp : Nat) : Int)))]) hx hb dX0_slotOf_1 rfl hl (by decide) rfl (fun ls hl => ?_)
  refine zw_iconst hx hb dX0_slotOf_2 ?_
  refine lv_istore (lv' := [(4, .int (vI (0))), (2, .long (zhash d pp 0)), (0, .ref hF), (1, .int (vI ((pp : Nat) : Int)))]) hx hb dX0_slotOf_3 hl (by decide) rfl (fun ls hl => ?_)
  refine s_slot hx hb hts hown hml hK hns hA (Nat.le_trans (Nat.le_of_ble_eq_true rfl) hRf) (Nat.le_trans (Nat.le_of_ble_eq_true rfl) hRl) hRc hRs hF hR hL aL aK aS aT aB lk ll n pa NB NS d plc cand low lim beat ln dist gL pp (by omega) (hby) (fun  H locs ls  hP hD hS hl => ?_) (ll - 0 + 1) 0 (Nat.lt_succ_self _) _ _ _ (by omega) (hP.sub [0, 1, 2, 3] rfl) (hD.sub [0, 1, 2, 3] (by decide) rfl) hS (lv_sub hl [2, 3, 0, 1] rfl)
  refine lv_lload_n hx hb dX0_slotOf_43 rfl (lv_at hl 2 rfl) ?_
  refine lv_ldc2 (v := (-7046029254386353131)) hx hb hown (hts _ aw_364) dX0_slotOf_44 ?_
  refine lv_lmul hx hb dX0_slotOf_47 ?_
  refine zw_bipush hx hb dX0_slotOf_48 (by decide +kernel) ?_
  refine lv_lushr (v := (((zhash d pp ll) * ((-7046029254386353131 : Int64))).toUInt64 >>> ((vI 49).toInt64.toUInt64 &&& Int64.toUInt64 63)).toInt64) hx hb dX0_slotOf_50 (rfl) ?_
  refine lv_l2i (v := ((((zhash d pp ll) * ((-7046029254386353131 : Int64))).toUInt64 >>> ((vI 49).toInt64.toUInt64 &&& Int64.toUInt64 63)).toInt64).toInt32) hx hb dX0_slotOf_51 rfl ?_
  refine lv_aload_n hx hb dX0_slotOf_52 rfl (lv_at hl 0 rfl) ?_
  refine va_get (D := D) (ci := 0) (v := .ref aL) (C := RX0) (T := TX0) (N := 15) hx hb hts iwX0 hown hK hP 0 rfl rfl 2 (by decide) (hts _ aw_102) (fun _ h9 => h9) rfl dX0_slotOf_53 ?_
  refine zw_alen hx hb hK hP 3 0 rfl rfl dX0_slotOf_56 ?_
  refine zw_iconst hx hb dX0_slotOf_57 ?_
  refine zw_isub hx hb dX0_slotOf_58 ?_
  refine zw_to (z2 := ((NS - 1 : Nat) : Int)) (by omega) ?_
  refine lv_iand hx hb dX0_slotOf_59 ?_
  refine zw_as (z := ((zslot d ll NS pp : Nat) : Int)) ((zslot_is d ll pp hNS).1) ?_
  exact zr_i hx hb hr hlocks (()) ⟨rfl, (zslot_is d ll pp hNS).2⟩ hP hD hS dX0_slotOf_60
end
section
/-- the links: of each slot the latest place, of each place the one before it in its slot -/
def zLink (d : Nat → Int) (ll NS lk : Nat) (gL gK : Nat → Int) : Prop := (∀ s, s < NS → gL s = zprev (zslot d ll NS) s lk) ∧ ∀ q, q < lk → gK q = zprev (zslot d ll NS) (zslot d ll NS q) q
/-- the links as they stand between the calls -/
def zFI (d : Nat → Int) (n ll lk NS : Nat) (gL gK : Nat → Int) : Prop := (ll = 0 ∧ lk = 0) ∨ (3 ≤ ll ∧ ll ≤ 8 ∧ lk ≤ n ∧ (lk = 0 ∨ lk + ll ≤ n + 1) ∧ zLink d ll NS lk gL gK)
theorem zfi_ll {d : Nat → Int} {n ll lk NS : Nat} {gL gK : Nat → Int} (h : zFI d n ll lk NS gL gK) : ll ≤ 8 := by
  rcases h with h | h <;> omega
theorem zfi_of {d : Nat → Int} {n ll lk NS : Nat} {gL gK : Nat → Int} (h : zFI d n ll lk NS gL gK) (h0 : 3 ≤ ll) : (lk ≤ n ∧ (lk = 0 ∨ lk + ll ≤ n + 1)) ∧ zLink d ll NS lk gL gK := by
  rcases h with h | h
  · omega
  · exact ⟨⟨h.2.2.1, h.2.2.2.1⟩, h.2.2.2.2⟩
theorem zlink_step {d : Nat → Int} {ll NS lk : Nat} {gL gK : Nat → Int} (h : zLink d ll NS lk gL gK) (hs : zslot d ll NS lk < NS) : zLink d ll NS (lk + 1) (zU gL (zslot d ll NS lk) ((lk : Nat) : Int)) (zU gK lk (gL (zslot d ll NS lk))) := by
  refine ⟨fun s h1 => ?_, fun q h1 => ?_⟩
  · rw [zprev]
    by_cases e : s = zslot d ll NS lk
    · rw [e, zU_s, if_pos rfl]
    · rw [zU_n e, if_neg (fun z => e z.symm)]
      exact h.1 s h1
  · by_cases e : q = lk
    · rw [e, zU_s]
      exact h.1 _ hs
    · rw [zU_n e]
      exact h.2 q (by omega)
theorem zmemo_0 {d : Nat → Int} {n NS : Nat} : zMemo d n NS (fun _ => 0) (fun _ => 0) := fun f _ _ => ⟨Int.le_refl 0, Int.le_refl 0, Int.natCast_nonneg n, fun i h1 h2 => by simp only at h1 h2; omega⟩
def zmc4 (NS n : Nat) : Nat := if NS < n then 4 else 0
def zms4 (NS n : Nat) : Nat := if NS < n then 4 * zroom n else 0
set_option maxRecDepth 100000 in
set_option maxHeartbeats 4000000 in
theorem c_X0_unlink (l : Launch) (D : va_G) (cI cB : ClassId) (sz : Nat) (hF : Nat) (hR : Nat) (hL : Nat) (aL : Nat) (aK : Nat) (aS : Nat) (aT : Nat) (lk : Nat) (ll : Nat) (plc : Int) (cand : Int) (low : Int) (lim : Int) (beat : Int) (ln : Int) (dist : Int) (way : Nat) (win : Nat) (least : Nat) (cap : Nat) (ga : Nat) (gb : Nat) (lp : Nat) (mp : Nat) (NS : Nat) (gL : Nat → Int) (h1 : NS ≤ 32768) : Met l yX0_unlink wsX0_unlink ({ frames := 1, cells := 0, slots := 0, locals := 23 } : Room) (va_Pc [.ref hF] (zPre D vwCl [(cI, .int), (cB, .byte)] [(hF, .inr (0, [.ref hR, .ref hL, .ref aL, .ref aK, .int (vI ((lk : Nat) : Int)), .int (vI ((ll : Nat) : Int)), .ref aS, .ref aT, .int (vI (plc)), .int (vI (cand)), .int (vI (low)), .int (vI (lim)), .int (vI (beat)), .int (vI (ln)), .int (vI (dist))])), (hL, .inr (4, [.int (vI ((way : Nat) : Int)), .int (vI ((win : Nat) : Int)), .int (vI ((least : Nat) : Int)), .int (vI ((cap : Nat) : Int)), .int (vI ((ga : Nat) : Int)), .int (vI ((gb : Nat) : Int)), .int (vI ((lp : Nat) : Int)), .int (vI ((mp : Nat) : Int))])), ia aL cI (NS) (gL)] sz)) (va_Qv (S := (Nat → Int)) (fun gL2 => (∀ j, j < NS → gL2 j = -1)) (fun (u : (Nat → Int)) t => zB D vwCl (va_A [(hF, .inr (0, [.ref hR, .ref hL, .ref aL, .ref aK, .int (vI ((lk : Nat) : Int)), .int (vI ((ll : Nat) : Int)), .ref aS, .ref aT, .int (vI (plc)), .int (vI (cand)), .int (vI (low)), .int (vI (lim)), .int (vI (beat)), .int (vI (ln)), .int (vI (dist))])), (hL, .inr (4, [.int (vI ((way : Nat) : Int)), .int (vI ((win : Nat) : Int)), .int (vI ((least : Nat) : Int)), .int (vI ((cap : Nat) : Int)), .int (vI ((ga : Nat) : Int)), .int (vI ((gb : Nat) : Int)), .int (vI ((lp : Nat) : Int)), .int (vI ((mp : Nat) : Int))])), ia aL cI (NS) (gL)] sz) ((fun gL2 => [(hF, .inr (0, [.ref hR, .ref hL, .ref aL, .ref aK, .int (vI (0)), .int (vI ((least : Nat) : Int)), .ref aS, .ref aT, .int (vI (plc)), .int (vI (cand)), .int (vI (low)), .int (vI (lim)), .int (vI (beat)), .int (vI (ln)), .int (vI (dist))])), (hL, .inr (4, [.int (vI ((way : Nat) : Int)), .int (vI ((win : Nat) : Int)), .int (vI ((least : Nat) : Int)), .int (vI ((cap : Nat) : Int)), .int (vI ((ga : Nat) : Int)), .int (vI ((gb : Nat) : Int)), .int (vI ((lp : Nat) : Int)), .int (vI ((mp : Nat) : Int))])), ia aL cI (NS) (gL2)] : (Nat → Int) → va_W) u) t) (va_A [(hF, .inr (0, [.ref hR, .ref hL, .ref aL, .ref aK, .int (vI ((lk : Nat) : Int)), .int (vI ((ll : Nat) : Int)), .ref aS, .ref aT, .int (vI (plc)), .int (vI (cand)), .int (vI (low)), .int (vI (lim)), .int (vI (beat)), .int (vI (ln)), .int (vI (dist))])), (hL, .inr (4, [.int (vI ((way : Nat) : Int)), .int (vI ((win : Nat) : Int)), .int (vI ((least : Nat) : Int)), .int (vI ((cap : Nat) : Int)), .int (vI ((ga : Nat) : Int)), .int (vI ((gb : Nat) : Int)), .int (vI ((lp : Nat) : Int)), .int (vI ((mp : Nat) : Int))])), ia aL cI (NS) (gL)] sz)) (0) (0) (va_A [(hF, .inr (0, [.ref hR, .ref hL, .ref aL, .ref aK, .int (vI ((lk : Nat) : Int)), .int (vI ((ll : Nat) : Int)), .ref aS, .ref aT, .int (vI (plc)), .int (vI (cand)), .int (vI (low)), .int (vI (lim)), .int (vI (beat)), .int (vI (ln)), .int (vI (dist))])), (hL, .inr (4, [.int (vI ((way : Nat) : Int)), .int (vI ((win : Nat) : Int)), .int (vI ((least : Nat) : Int)), .int (vI ((cap : Nat) : Int)), .int (vI ((ga : Nat) : Int)), .int (vI ((gb : Nat) : Int)), .int (vI ((lp : Nat) : Int)), .int (vI ((mp : Nat) : Int))])), ia aL cI (NS) (gL)] sz) := by
  refine zMet (by decide) rfl (Nat.le_of_ble_eq_true rfl) (fun p e s m below meth c hx hb hr hts hown hlocks hnm hml hK hns hA hP hD hS ls hl => ?_)
  have hl : lv_has ls 1 [(0, .ref hF)] := hl
  have hRf : 1 ≤ ({ frames := 1, cells := 0, slots := 0, locals := 23 } : Room).frames := Nat.le_refl _
  have hRl : 23 ≤ ({ frames := 1, cells := 0, slots := 0, locals := 23 } : Room).locals := Nat.le_refl _
  have hRc : 0 ≤ ({ frames := 1, cells := 0, slots := 0, locals := 23 } : Room).cells := Nat.zero_le _
  have hRs : 0 ≤ ({ frames := 1, cells := 0, slots := 0, locals := 23 } : Room).slots := Nat.zero_le _
  refine lv_aload_n hx hb dX0_unlink_0 rfl (lv_at hl 0 rfl) ?_
  refine zw_iconst hx hb dX0_unlink_1 ?_
  refine va_put (D := D) (ci := 0) (v := .int (vI (0))) (ty := .int) (C := RX0) (T := TX0) (N := 15) hx hb hts iwX0 tyX0 tyX0_ok nmX0 hown hK hP hD hS 0 rfl rfl 4 (by decide) (hts _ aw_104) (fun _ h9 => h9) rfl (by decide +kernel) rfl rfl (Nat.le_of_ble_eq_true rfl) dX0_unlink_2 (fun H locs hP hD hS => ?_)
  have hP : va_P D vwCl [(hF, .inr (0, [.ref hR, .ref hL, .ref aL, .ref aK, .int (vI (0)), .int (vI ((ll : Nat) : Int)), .ref aS, .ref aT, .int (vI (plc)), .int (vI (cand)), .int (vI (low)), .int (vI (lim)), .int (vI (beat)), .int (vI (ln)), .int (vI (dist))])), (hL, .inr (4, [.int (vI ((way : Nat) : Int)), .int (vI ((win : Nat) : Int)), .int (vI ((least : Nat) : Int)), .int (vI ((cap : Nat) : Int)), .int (vI ((ga : Nat) : Int)), .int (vI ((gb : Nat) : Int)), .int (vI ((lp : Nat) : Int)), .int (vI ((mp : Nat) : Int))])), ia aL cI (NS) (gL)] H := hP
  have hD : va_D _ [(hF, .inr (0, [.ref hR, .ref hL, .ref aL, .ref aK, .int (vI (0)), .int (vI ((ll : Nat) : Int)), .ref aS, .ref aT, .int (vI (plc)), .int (vI (cand)), .int (vI (low)), .int (vI (lim)), .int (vI (beat)), .int (vI (ln)), .int (vI (dist))])), (hL, .inr (4, [.int (vI ((way : Nat) : Int)), .int (vI ((win : Nat) : Int)), .int (vI ((least : Nat) : Int)), .int (vI ((cap : Nat) : Int)), .int (vI ((ga : Nat) : Int)), .int (vI ((gb : Nat) : Int)), .int (vI ((lp : Nat) : Int)), .int (vI ((mp : Nat) : Int))])), ia aL cI (NS) (gL)] := hD
  refine lv_aload_n hx hb dX0_unlink_5 rfl (lv_at hl 0 rfl) ?_
  refine lv_aload_n hx hb dX0_unlink_6 rfl (lv_at hl 0 rfl) ?_
  refine va_get (D := D) (ci := 0) (v := .ref hL) (C := RX0) (T := TX0) (N := 15) hx hb hts iwX0 hown hK hP 0 rfl rfl 1 (by decide) (hts _ aw_101) (fun _ h9 => h9) rfl dX0_unlink_7 ?_
  refine va_getN (D := D) (ci := 4) (v := .int (vI ((least : Nat) : Int))) (C := RX4) (T := TX4) (N := 8) hx hb hts iwX4 hown hK hP 1 rfl rfl 2 (by decide) (va_Nw.use rfl (hns _ nw_60)) (fun _ h9 => h9) rfl dX0_unlink_10 ?_
  refine va_put (D := D) (ci := 0) (v := .int (vI ((least : Nat) : Int))) (ty := .int) (C := RX0) (T := TX0) (N := 15) hx hb hts iwX0 tyX0 tyX0_ok nmX0 hown hK hP hD hS 0 rfl rfl 5 (by decide) (hts _ aw_105) (fun _ h9 => h9) rfl (by decide +kernel) rfl rfl (Nat.le_of_ble_eq_true rfl) dX0_unlink_13 (fun H locs hP hD hS => ?_)
  have hP : va_P D vwCl [(hF, .inr (0, [.ref hR, .ref hL, .ref aL, .ref aK, .int (vI (0)), .int (vI ((least : Nat) : Int)), .ref aS, .ref aT, .int (vI (plc)), .int (vI (cand)), .int (vI (low)), .int (vI (lim)), .int (vI (beat)), .int (vI (ln)), .int (vI (dist))])), (hL, .inr (4, [.int (vI ((way : Nat) : Int)), .int (vI ((win : Nat) : Int)), .int (vI ((least : Nat) : Int)), .int (vI ((cap : Nat) : Int)), .int (vI ((ga : Nat) : Int)), .int (vI ((gb : Nat) : Int)), .int (vI ((lp : Nat) : Int)), .int (vI ((mp : Nat) : Int))])), ia aL cI (NS) (gL)] H := hP
  have hD : va_D _ [(hF, .inr (0, [.ref hR, .ref hL, .ref aL, .ref aK, .int (vI (0)), .int (vI ((least : Nat) : Int)), .ref aS, .ref aT, .int (vI (plc)), .int (vI (cand)), .int (vI (low)), .int (vI (lim)), .int (vI (beat)), .int (vI (ln)), .int (vI (dist))])), (hL, .inr (4, [.int (vI ((way : Nat) : Int)), .int (vI ((win : Nat) : Int)), .int (vI ((least : Nat) : Int)), .int (vI ((cap : Nat) : Int)), .int (vI ((ga : Nat) : Int)), .int (vI ((gb : Nat) : Int)), .int (vI ((lp : Nat) : Int)), .int (vI ((mp : Nat) : Int))])), ia aL cI (NS) (gL)] := hD
  refine lv_aload_n hx hb dX0_unlink_16 rfl (lv_at hl 0 rfl) ?_
  refine va_get (D := D) (ci := 0) (v := .ref aL) (C := RX0) (T := TX0) (N := 15) hx hb hts iwX0 hown hK hP 0 rfl rfl 2 (by decide) (hts _ aw_102) (fun _ h9 => h9) rfl dX0_unlink_17 ?_
  refine zw_iconst hx hb dX0_unlink_20 ?_
  have hPc := hP.sub (ws' := [ia aL cI (NS) (gL)]) [2] rfl
  have hDc := hD.sub (ws' := [ia aL cI (NS) (gL)]) [2] (by decide) rfl
  refine zc_v (wr := [(hF, .inr (0, [.ref hR, .ref hL, .ref aL, .ref aK, .int (vI (0)), .int (vI ((least : Nat) : Int)), .ref aS, .ref aT, .int (vI (plc)), .int (vI (cand)), .int (vI (low)), .int (vI (lim)), .int (vI (beat)), .int (vI (ln)), .int (vI (dist))])), (hL, .inr (4, [.int (vI ((way : Nat) : Int)), .int (vI ((win : Nat) : Int)), .int (vI ((least : Nat) : Int)), .int (vI ((cap : Nat) : Int)), .int (vI ((ga : Nat) : Int)), .int (vI ((gb : Nat) : Int)), .int (vI ((lp : Nat) : Int)), .int (vI ((mp : Nat) : Int))]))]) (va_runS (As := [.ref aL, .int (vI (-1))]) (rest := []) ⟨hx, hb, hml, hown, hts⟩ (c_J7_fill l D cI cB _ aL (-1) NS gL (by omega)) ⟨callB_of 2 hts (zg kJ7_fill) rfl rfl rfl (hts _ aw_8) (hts _ aw_274) (by decide +kernel) ⟨Nat.le_trans (Nat.le_of_ble_eq_true rfl) hRf, Nat.le_trans (Nat.le_of_ble_eq_true rfl) hRl⟩, (hts _ aw_275)⟩ ⟨zPre_blind, zPre_of hK hns hPc hDc⟩ rfl rfl hl.1 rfl (lv_room (Nat.le_of_ble_eq_true rfl)) dX0_unlink_21 ⟨hRc, hRs⟩) hP hD hS hA [2] [0, 1] rfl rfl (by decide) (by decide) (fun g2_21 H locs hpost hP hD hS => ?_)
  have hg_21 := hpost
  have hP : va_P D vwCl [(hF, .inr (0, [.ref hR, .ref hL, .ref aL, .ref aK, .int (vI (0)), .int (vI ((least : Nat) : Int)), .ref aS, .ref aT, .int (vI (plc)), .int (vI (cand)), .int (vI (low)), .int (vI (lim)), .int (vI (beat)), .int (vI (ln)), .int (vI (dist))])), (hL, .inr (4, [.int (vI ((way : Nat) : Int)), .int (vI ((win : Nat) : Int)), .int (vI ((least : Nat) : Int)), .int (vI ((cap : Nat) : Int)), .int (vI ((ga : Nat) : Int)), .int (vI ((gb : Nat) : Int)), .int (vI ((lp : Nat) : Int)), .int (vI ((mp : Nat) : Int))])), ia aL cI (NS) (g2_21)] H := hP
  have hD : va_D _ [(hF, .inr (0, [.ref hR, .ref hL, .ref aL, .ref aK, .int (vI (0)), .int (vI ((least : Nat) : Int)), .ref aS, .ref aT, .int (vI (plc)), .int (vI (cand)), .int (vI (low)), .int (vI (lim)), .int (vI (beat)), .int (vI (ln)), .int (vI (dist))])), (hL, .inr (4, [.int (vI ((way : Nat) : Int)), .int (vI ((win : Nat) : Int)), .int (vI ((least : Nat) : Int)), .int (vI ((cap : Nat) : Int)), .int (vI ((ga : Nat) : Int)), .int (vI ((gb : Nat) : Int)), .int (vI ((lp : Nat) : Int)), .int (vI ((mp : Nat) : Int))])), ia aL cI (NS) (g2_21)] := hD
  exact zr_v hx hb hr hlocks (g2_21) (hg_21) hP hD hS dX0_unlink_24

set_option maxRecDepth 100000 in
set_option maxHeartbeats 4000000 in
theorem c_X0_enlarge (l : Launch) (D : va_G) (cI cB : ClassId) (sz : Nat) (hF : Nat) (hR : Nat) (hL : Nat) (aL : Nat) (aK : Nat) (aS : Nat) (aT : Nat) (lk : Nat) (ll : Nat) (plc : Int) (cand : Int) (low : Int) (lim : Int) (beat : Int) (ln : Int) (dist : Int) (way : Nat) (win : Nat) (least : Nat) (cap : Nat) (ga : Nat) (gb : Nat) (lp : Nat) (mp : Nat) (rr : Nat) (h1 : rr ≤ 32768) : Met l yX0_enlarge wsX0_enlarge ({ frames := 2, cells := 4, slots := 4 * rr, locals := 43 } : Room) (va_Pc [.ref hF, .int (vI ((rr : Nat) : Int))] (zPre D vwCl [(cI, .int), (cB, .byte)] [(hF, .inr (0, [.ref hR, .ref hL, .ref aL, .ref aK, .int (vI ((lk : Nat) : Int)), .int (vI ((ll : Nat) : Int)), .ref aS, .ref aT, .int (vI (plc)), .int (vI (cand)), .int (vI (low)), .int (vI (lim)), .int (vI (beat)), .int (vI (ln)), .int (vI (dist))])), (hL, .inr (4, [.int (vI ((way : Nat) : Int)), .int (vI ((win : Nat) : Int)), .int (vI ((least : Nat) : Int)), .int (vI ((cap : Nat) : Int)), .int (vI ((ga : Nat) : Int)), .int (vI ((gb : Nat) : Int)), .int (vI ((lp : Nat) : Int)), .int (vI ((mp : Nat) : Int))]))] sz)) (va_Qv (S := Nat × Nat × Nat × Nat × (Nat → Int)) (fun u => match u with | (aL2, aK2, aS2, aT2, gL2) => (∀ j, j < rr → gL2 j = -1)) (fun (u : Nat × Nat × Nat × Nat × (Nat → Int)) t => zB D vwCl (va_A [(hF, .inr (0, [.ref hR, .ref hL, .ref aL, .ref aK, .int (vI ((lk : Nat) : Int)), .int (vI ((ll : Nat) : Int)), .ref aS, .ref aT, .int (vI (plc)), .int (vI (cand)), .int (vI (low)), .int (vI (lim)), .int (vI (beat)), .int (vI (ln)), .int (vI (dist))])), (hL, .inr (4, [.int (vI ((way : Nat) : Int)), .int (vI ((win : Nat) : Int)), .int (vI ((least : Nat) : Int)), .int (vI ((cap : Nat) : Int)), .int (vI ((ga : Nat) : Int)), .int (vI ((gb : Nat) : Int)), .int (vI ((lp : Nat) : Int)), .int (vI ((mp : Nat) : Int))]))] sz) ((fun u => match u with | (aL2, aK2, aS2, aT2, gL2) => [(hF, .inr (0, [.ref hR, .ref hL, .ref aL2, .ref aK2, .int (vI (0)), .int (vI ((least : Nat) : Int)), .ref aS2, .ref aT2, .int (vI (plc)), .int (vI (cand)), .int (vI (low)), .int (vI (lim)), .int (vI (beat)), .int (vI (ln)), .int (vI (dist))])), (hL, .inr (4, [.int (vI ((way : Nat) : Int)), .int (vI ((win : Nat) : Int)), .int (vI ((least : Nat) : Int)), .int (vI ((cap : Nat) : Int)), .int (vI ((ga : Nat) : Int)), .int (vI ((gb : Nat) : Int)), .int (vI ((lp : Nat) : Int)), .int (vI ((mp : Nat) : Int))])), ia aL2 cI (rr) (gL2), ia aK2 cI (rr) (fun _ => 0), ia aS2 cI (rr) (fun _ => 0), ia aT2 cI (rr) (fun _ => 0)] : Nat × Nat × Nat × Nat × (Nat → Int) → va_W) u) t) (va_A [(hF, .inr (0, [.ref hR, .ref hL, .ref aL, .ref aK, .int (vI ((lk : Nat) : Int)), .int (vI ((ll : Nat) : Int)), .ref aS, .ref aT, .int (vI (plc)), .int (vI (cand)), .int (vI (low)), .int (vI (lim)), .int (vI (beat)), .int (vI (ln)), .int (vI (dist))])), (hL, .inr (4, [.int (vI ((way : Nat) : Int)), .int (vI ((win : Nat) : Int)), .int (vI ((least : Nat) : Int)), .int (vI ((cap : Nat) : Int)), .int (vI ((ga : Nat) : Int)), .int (vI ((gb : Nat) : Int)), .int (vI ((lp : Nat) : Int)), .int (vI ((mp : Nat) : Int))]))] sz)) (4) (4 * rr) (va_A [(hF, .inr (0, [.ref hR, .ref hL, .ref aL, .ref aK, .int (vI ((lk : Nat) : Int)), .int (vI ((ll : Nat) : Int)), .ref aS, .ref aT, .int (vI (plc)), .int (vI (cand)), .int (vI (low)), .int (vI (lim)), .int (vI (beat)), .int (vI (ln)), .int (vI (dist))])), (hL, .inr (4, [.int (vI ((way : Nat) : Int)), .int (vI ((win : Nat) : Int)), .int (vI ((least : Nat) : Int)), .int (vI ((cap : Nat) : Int)), .int (vI ((ga : Nat) : Int)), .int (vI ((gb : Nat) : Int)), .int (vI ((lp : Nat) : Int)), .int (vI ((mp : Nat) : Int))]))] sz) := by
  refine zMet (by decide) rfl (Nat.le_of_ble_eq_true rfl) (fun p e s m below meth c hx hb hr hts hown hlocks hnm hml hK hns hA hP hD hS ls hl => ?_)
  have hl : lv_has ls 2 [(0, .ref hF), (1, .int (vI ((rr : Nat) : Int)))] := hl
  have hRf : 2 ≤ ({ frames := 2, cells := 4, slots := 4 * rr, locals := 43 } : Room).frames := Nat.le_refl _
  have hRl : 43 ≤ ({ frames := 2, cells := 4, slots := 4 * rr, locals := 43 } : Room).locals := Nat.le_refl _
  have hRc : 0 ≤ ({ frames := 2, cells := 4, slots := 4 * rr, locals := 43 } : Room).cells := Nat.zero_le _
  have hRs : 0 ≤ ({ frames := 2, cells := 4, slots := 4 * rr, locals := 43 } : Room).slots := Nat.zero_le _
  refine lv_aload_n hx hb dX0_enlarge_0 rfl (lv_at hl 0 rfl) ?_
  refine lv_iload_n hx hb dX0_enlarge_1 rfl (lv_at hl 1 rfl) ?_
  refine zw_newi hx hb (hts _ aw_150) hK hP hD hS hA 0 rfl (rr) (by omega) (by omega) (by show 0 + 1 ≤ 4; omega) (by show 0 + (rr) ≤ 4 * rr; omega) dX0_enlarge_2 (fun q1 H hP hD hS => ?_)
  have hP : va_P D vwCl [(hF, .inr (0, [.ref hR, .ref hL, .ref aL, .ref aK, .int (vI ((lk : Nat) : Int)), .int (vI ((ll : Nat) : Int)), .ref aS, .ref aT, .int (vI (plc)), .int (vI (cand)), .int (vI (low)), .int (vI (lim)), .int (vI (beat)), .int (vI (ln)), .int (vI (dist))])), (hL, .inr (4, [.int (vI ((way : Nat) : Int)), .int (vI ((win : Nat) : Int)), .int (vI ((least : Nat) : Int)), .int (vI ((cap : Nat) : Int)), .int (vI ((ga : Nat) : Int)), .int (vI ((gb : Nat) : Int)), .int (vI ((lp : Nat) : Int)), .int (vI ((mp : Nat) : Int))])), ia q1 cI (rr) (fun _ => 0)] H := hP
  have hD : va_D _ [(hF, .inr (0, [.ref hR, .ref hL, .ref aL, .ref aK, .int (vI ((lk : Nat) : Int)), .int (vI ((ll : Nat) : Int)), .ref aS, .ref aT, .int (vI (plc)), .int (vI (cand)), .int (vI (low)), .int (vI (lim)), .int (vI (beat)), .int (vI (ln)), .int (vI (dist))])), (hL, .inr (4, [.int (vI ((way : Nat) : Int)), .int (vI ((win : Nat) : Int)), .int (vI ((least : Nat) : Int)), .int (vI ((cap : Nat) : Int)), .int (vI ((ga : Nat) : Int)), .int (vI ((gb : Nat) : Int)), .int (vI ((lp : Nat) : Int)), .int (vI ((mp : Nat) : Int))])), ia q1 cI (rr) (fun _ => 0)] := hD
  have hRc : 0 + 1 ≤ ({ frames := 2, cells := 4, slots := 4 * rr, locals := 43 } : Room).cells := by show 0 + 1 ≤ 4; omega
  have hRs : 0 + (rr) ≤ ({ frames := 2, cells := 4, slots := 4 * rr, locals := 43 } : Room).slots := by show 0 + (rr) ≤ 4 * rr; omega
  refine va_put (D := D) (ci := 0) (v := .ref q1) (ty := .array .int) (C := RX0) (T := TX0) (N := 15) hx hb hts iwX0 tyX0 tyX0_ok nmX0 hown hK hP hD hS 0 rfl rfl 2 (by decide) (hts _ aw_102) (fun _ h9 => h9) rfl (by decide +kernel) rfl rfl (Nat.le_of_ble_eq_true rfl) dX0_enlarge_4 (fun H locs hP hD hS => ?_)
  have hP : va_P D vwCl [(hF, .inr (0, [.ref hR, .ref hL, .ref q1, .ref aK, .int (vI ((lk : Nat) : Int)), .int (vI ((ll : Nat) : Int)), .ref aS, .ref aT, .int (vI (plc)), .int (vI (cand)), .int (vI (low)), .int (vI (lim)), .int (vI (beat)), .int (vI (ln)), .int (vI (dist))])), (hL, .inr (4, [.int (vI ((way : Nat) : Int)), .int (vI ((win : Nat) : Int)), .int (vI ((least : Nat) : Int)), .int (vI ((cap : Nat) : Int)), .int (vI ((ga : Nat) : Int)), .int (vI ((gb : Nat) : Int)), .int (vI ((lp : Nat) : Int)), .int (vI ((mp : Nat) : Int))])), ia q1 cI (rr) (fun _ => 0)] H := hP
  have hD : va_D _ [(hF, .inr (0, [.ref hR, .ref hL, .ref q1, .ref aK, .int (vI ((lk : Nat) : Int)), .int (vI ((ll : Nat) : Int)), .ref aS, .ref aT, .int (vI (plc)), .int (vI (cand)), .int (vI (low)), .int (vI (lim)), .int (vI (beat)), .int (vI (ln)), .int (vI (dist))])), (hL, .inr (4, [.int (vI ((way : Nat) : Int)), .int (vI ((win : Nat) : Int)), .int (vI ((least : Nat) : Int)), .int (vI ((cap : Nat) : Int)), .int (vI ((ga : Nat) : Int)), .int (vI ((gb : Nat) : Int)), .int (vI ((lp : Nat) : Int)), .int (vI ((mp : Nat) : Int))])), ia q1 cI (rr) (fun _ => 0)] := hD
  refine lv_aload_n hx hb dX0_enlarge_7 rfl (lv_at hl 0 rfl) ?_
  refine lv_iload_n hx hb dX0_enlarge_8 rfl (lv_at hl 1 rfl) ?_
  refine zw_newi hx hb (hts _ aw_150) hK hP hD hS hA 0 rfl (rr) (by omega) (by omega) (by show 0 + 1 + 1 ≤ 4; omega) (by show 0 + (rr) + (rr) ≤ 4 * rr; omega) dX0_enlarge_9 (fun q2 H hP hD hS => ?_)
  have hP : va_P D vwCl [(hF, .inr (0, [.ref hR, .ref hL, .ref q1, .ref aK, .int (vI ((lk : Nat) : Int)), .int (vI ((ll : Nat) : Int)), .ref aS, .ref aT, .int (vI (plc)), .int (vI (cand)), .int (vI (low)), .int (vI (lim)), .int (vI (beat)), .int (vI (ln)), .int (vI (dist))])), (hL, .inr (4, [.int (vI ((way : Nat) : Int)), .int (vI ((win : Nat) : Int)), .int (vI ((least : Nat) : Int)), .int (vI ((cap : Nat) : Int)), .int (vI ((ga : Nat) : Int)), .int (vI ((gb : Nat) : Int)), .int (vI ((lp : Nat) : Int)), .int (vI ((mp : Nat) : Int))])), ia q1 cI (rr) (fun _ => 0), ia q2 cI (rr) (fun _ => 0)] H := hP
  have hD : va_D _ [(hF, .inr (0, [.ref hR, .ref hL, .ref q1, .ref aK, .int (vI ((lk : Nat) : Int)), .int (vI ((ll : Nat) : Int)), .ref aS, .ref aT, .int (vI (plc)), .int (vI (cand)), .int (vI (low)), .int (vI (lim)), .int (vI (beat)), .int (vI (ln)), .int (vI (dist))])), (hL, .inr (4, [.int (vI ((way : Nat) : Int)), .int (vI ((win : Nat) : Int)), .int (vI ((least : Nat) : Int)), .int (vI ((cap : Nat) : Int)), .int (vI ((ga : Nat) : Int)), .int (vI ((gb : Nat) : Int)), .int (vI ((lp : Nat) : Int)), .int (vI ((mp : Nat) : Int))])), ia q1 cI (rr) (fun _ => 0), ia q2 cI (rr) (fun _ => 0)] := hD
  have hRc : 0 + 1 + 1 ≤ ({ frames := 2, cells := 4, slots := 4 * rr, locals := 43 } : Room).cells := by show 0 + 1 + 1 ≤ 4; omega
  have hRs : 0 + (rr) + (rr) ≤ ({ frames := 2, cells := 4, slots := 4 * rr, locals := 43 } : Room).slots := by show 0 + (rr) + (rr) ≤ 4 * rr; omega
  refine va_put (D := D) (ci := 0) (v := .ref q2) (ty := .array .int) (C := RX0) (T := TX0) (N := 15) hx hb hts iwX0 tyX0 tyX0_ok nmX0 hown hK hP hD hS 0 rfl rfl 3 (by decide) (hts _ aw_103) (fun _ h9 => h9) rfl (by decide +kernel) rfl rfl (Nat.le_of_ble_eq_true rfl) dX0_enlarge_11 (fun H locs hP hD hS => ?_)
  have hP : va_P D vwCl [(hF, .inr (0, [.ref hR, .ref hL, .ref q1, .ref q2, .int (vI ((lk : Nat) : Int)), .int (vI ((ll : Nat) : Int)), .ref aS, .ref aT, .int (vI (plc)), .int (vI (cand)), .int (vI (low)), .int (vI (lim)), .int (vI (beat)), .int (vI (ln)), .int (vI (dist))])), (hL, .inr (4, [.int (vI ((way : Nat) : Int)), .int (vI ((win : Nat) : Int)), .int (vI ((least : Nat) : Int)), .int (vI ((cap : Nat) : Int)), .int (vI ((ga : Nat) : Int)), .int (vI ((gb : Nat) : Int)), .int (vI ((lp : Nat) : Int)), .int (vI ((mp : Nat) : Int))])), ia q1 cI (rr) (fun _ => 0), ia q2 cI (rr) (fun _ => 0)] H := hP
  have hD : va_D _ [(hF, .inr (0, [.ref hR, .ref hL, .ref q1, .ref q2, .int (vI ((lk : Nat) : Int)), .int (vI ((ll : Nat) : Int)), .ref aS, .ref aT, .int (vI (plc)), .int (vI (cand)), .int (vI (low)), .int (vI (lim)), .int (vI (beat)), .int (vI (ln)), .int (vI (dist))])), (hL, .inr (4, [.int (vI ((way : Nat) : Int)), .int (vI ((win : Nat) : Int)), .int (vI ((least : Nat) : Int)), .int (vI ((cap : Nat) : Int)), .int (vI ((ga : Nat) : Int)), .int (vI ((gb : Nat) : Int)), .int (vI ((lp : Nat) : Int)), .int (vI ((mp : Nat) : Int))])), ia q1 cI (rr) (fun _ => 0), ia q2 cI (rr) (fun _ => 0)] := hD
  refine lv_aload_n hx hb dX0_enlarge_14 rfl (lv_at hl 0 rfl) ?_
  refine lv_iload_n hx hb dX0_enlarge_15 rfl (lv_at hl 1 rfl) ?_
  refine zw_newi hx hb (hts _ aw_150) hK hP hD hS hA 0 rfl (rr) (by omega) (by omega) (by show 0 + 1 + 1 + 1 ≤ 4; omega) (by show 0 + (rr) + (rr) + (rr) ≤ 4 * rr; omega) dX0_enlarge_16 (fun q3 H hP hD hS => ?_)
  have hP : va_P D vwCl [(hF, .inr (0, [.ref hR, .ref hL, .ref q1, .ref q2, .int (vI ((lk : Nat) : Int)), .int (vI ((ll : Nat) : Int)), .ref aS, .ref aT, .int (vI (plc)), .int (vI (cand)), .int (vI (low)), .int (vI (lim)), .int (vI (beat)), .int (vI (ln)), .int (vI (dist))])), (hL, .inr (4, [.int (vI ((way : Nat) : Int)), .int (vI ((win : Nat) : Int)), .int (vI ((least : Nat) : Int)), .int (vI ((cap : Nat) : Int)), .int (vI ((ga : Nat) : Int)), .int (vI ((gb : Nat) : Int)), .int (vI ((lp : Nat) : Int)), .int (vI ((mp : Nat) : Int))])), ia q1 cI (rr) (fun _ => 0), ia q2 cI (rr) (fun _ => 0), ia q3 cI (rr) (fun _ => 0)] H := hP
  have hD : va_D _ [(hF, .inr (0, [.ref hR, .ref hL, .ref q1, .ref q2, .int (vI ((lk : Nat) : Int)), .int (vI ((ll : Nat) : Int)), .ref aS, .ref aT, .int (vI (plc)), .int (vI (cand)), .int (vI (low)), .int (vI (lim)), .int (vI (beat)), .int (vI (ln)), .int (vI (dist))])), (hL, .inr (4, [.int (vI ((way : Nat) : Int)), .int (vI ((win : Nat) : Int)), .int (vI ((least : Nat) : Int)), .int (vI ((cap : Nat) : Int)), .int (vI ((ga : Nat) : Int)), .int (vI ((gb : Nat) : Int)), .int (vI ((lp : Nat) : Int)), .int (vI ((mp : Nat) : Int))])), ia q1 cI (rr) (fun _ => 0), ia q2 cI (rr) (fun _ => 0), ia q3 cI (rr) (fun _ => 0)] := hD
  have hRc : 0 + 1 + 1 + 1 ≤ ({ frames := 2, cells := 4, slots := 4 * rr, locals := 43 } : Room).cells := by show 0 + 1 + 1 + 1 ≤ 4; omega
  have hRs : 0 + (rr) + (rr) + (rr) ≤ ({ frames := 2, cells := 4, slots := 4 * rr, locals := 43 } : Room).slots := by show 0 + (rr) + (rr) + (rr) ≤ 4 * rr; omega
  refine va_put (D := D) (ci := 0) (v := .ref q3) (ty := .array .int) (C := RX0) (T := TX0) (N := 15) hx hb hts iwX0 tyX0 tyX0_ok nmX0 hown hK hP hD hS 0 rfl rfl 6 (by decide) (hts _ aw_106) (fun _ h9 => h9) rfl (by decide +kernel) rfl rfl (Nat.le_of_ble_eq_true rfl) dX0_enlarge_18 (fun H locs hP hD hS => ?_)
  have hP : va_P D vwCl [(hF, .inr (0, [.ref hR, .ref hL, .ref q1, .ref q2, .int (vI ((lk : Nat) : Int)), .int (vI ((ll : Nat) : Int)), .ref q3, .ref aT, .int (vI (plc)), .int (vI (cand)), .int (vI (low)), .int (vI (lim)), .int (vI (beat)), .int (vI (ln)), .int (vI (dist))])), (hL, .inr (4, [.int (vI ((way : Nat) : Int)), .int (vI ((win : Nat) : Int)), .int (vI ((least : Nat) : Int)), .int (vI ((cap : Nat) : Int)), .int (vI ((ga : Nat) : Int)), .int (vI ((gb : Nat) : Int)), .int (vI ((lp : Nat) : Int)), .int (vI ((mp : Nat) : Int))])), ia q1 cI (rr) (fun _ => 0), ia q2 cI (rr) (fun _ => 0), ia q3 cI (rr) (fun _ => 0)] H := hP
  have hD : va_D _ [(hF, .inr (0, [.ref hR, .ref hL, .ref q1, .ref q2, .int (vI ((lk : Nat) : Int)), .int (vI ((ll : Nat) : Int)), .ref q3, .ref aT, .int (vI (plc)), .int (vI (cand)), .int (vI (low)), .int (vI (lim)), .int (vI (beat)), .int (vI (ln)), .int (vI (dist))])), (hL, .inr (4, [.int (vI ((way : Nat) : Int)), .int (vI ((win : Nat) : Int)), .int (vI ((least : Nat) : Int)), .int (vI ((cap : Nat) : Int)), .int (vI ((ga : Nat) : Int)), .int (vI ((gb : Nat) : Int)), .int (vI ((lp : Nat) : Int)), .int (vI ((mp : Nat) : Int))])), ia q1 cI (rr) (fun _ => 0), ia q2 cI (rr) (fun _ => 0), ia q3 cI (rr) (fun _ => 0)] := hD
  refine lv_aload_n hx hb dX0_enlarge_21 rfl (lv_at hl 0 rfl) ?_
  refine lv_iload_n hx hb dX0_enlarge_22 rfl (lv_at hl 1 rfl) ?_
  refine zw_newi hx hb (hts _ aw_150) hK hP hD hS hA 0 rfl (rr) (by omega) (by omega) (by show 0 + 1 + 1 + 1 + 1 ≤ 4; omega) (by show 0 + (rr) + (rr) + (rr) + (rr) ≤ 4 * rr; omega) dX0_enlarge_23 (fun q4 H hP hD hS => ?_)
  have hP : va_P D vwCl [(hF, .inr (0, [.ref hR, .ref hL, .ref q1, .ref q2, .int (vI ((lk : Nat) : Int)), .int (vI ((ll : Nat) : Int)), .ref q3, .ref aT, .int (vI (plc)), .int (vI (cand)), .int (vI (low)), .int (vI (lim)), .int (vI (beat)), .int (vI (ln)), .int (vI (dist))])), (hL, .inr (4, [.int (vI ((way : Nat) : Int)), .int (vI ((win : Nat) : Int)), .int (vI ((least : Nat) : Int)), .int (vI ((cap : Nat) : Int)), .int (vI ((ga : Nat) : Int)), .int (vI ((gb : Nat) : Int)), .int (vI ((lp : Nat) : Int)), .int (vI ((mp : Nat) : Int))])), ia q1 cI (rr) (fun _ => 0), ia q2 cI (rr) (fun _ => 0), ia q3 cI (rr) (fun _ => 0), ia q4 cI (rr) (fun _ => 0)] H := hP
  have hD : va_D _ [(hF, .inr (0, [.ref hR, .ref hL, .ref q1, .ref q2, .int (vI ((lk : Nat) : Int)), .int (vI ((ll : Nat) : Int)), .ref q3, .ref aT, .int (vI (plc)), .int (vI (cand)), .int (vI (low)), .int (vI (lim)), .int (vI (beat)), .int (vI (ln)), .int (vI (dist))])), (hL, .inr (4, [.int (vI ((way : Nat) : Int)), .int (vI ((win : Nat) : Int)), .int (vI ((least : Nat) : Int)), .int (vI ((cap : Nat) : Int)), .int (vI ((ga : Nat) : Int)), .int (vI ((gb : Nat) : Int)), .int (vI ((lp : Nat) : Int)), .int (vI ((mp : Nat) : Int))])), ia q1 cI (rr) (fun _ => 0), ia q2 cI (rr) (fun _ => 0), ia q3 cI (rr) (fun _ => 0), ia q4 cI (rr) (fun _ => 0)] := hD
  have hRc : 0 + 1 + 1 + 1 + 1 ≤ ({ frames := 2, cells := 4, slots := 4 * rr, locals := 43 } : Room).cells := by show 0 + 1 + 1 + 1 + 1 ≤ 4; omega
  have hRs : 0 + (rr) + (rr) + (rr) + (rr) ≤ ({ frames := 2, cells := 4, slots := 4 * rr, locals := 43 } : Room).slots := by show 0 + (rr) + (rr) + (rr) + (rr) ≤ 4 * rr; omega
  refine va_put (D := D) (ci := 0) (v := .ref q4) (ty := .array .int) (C := RX0) (T := TX0) (N := 15) hx hb hts iwX0 tyX0 tyX0_ok nmX0 hown hK hP hD hS 0 rfl rfl 7 (by decide) (hts _ aw_107) (fun _ h9 => h9) rfl (by decide +kernel) rfl rfl (Nat.le_of_ble_eq_true rfl) dX0_enlarge_25 (fun H locs hP hD hS => ?_)
  have hP : va_P D vwCl [(hF, .inr (0, [.ref hR, .ref hL, .ref q1, .ref q2, .int (vI ((lk : Nat) : Int)), .int (vI ((ll : Nat) : Int)), .ref q3, .ref q4, .int (vI (plc)), .int (vI (cand)), .int (vI (low)), .int (vI (lim)), .int (vI (beat)), .int (vI (ln)), .int (vI (dist))])), (hL, .inr (4, [.int (vI ((way : Nat) : Int)), .int (vI ((win : Nat) : Int)), .int (vI ((least : Nat) : Int)), .int (vI ((cap : Nat) : Int)), .int (vI ((ga : Nat) : Int)), .int (vI ((gb : Nat) : Int)), .int (vI ((lp : Nat) : Int)), .int (vI ((mp : Nat) : Int))])), ia q1 cI (rr) (fun _ => 0), ia q2 cI (rr) (fun _ => 0), ia q3 cI (rr) (fun _ => 0), ia q4 cI (rr) (fun _ => 0)] H := hP
  have hD : va_D _ [(hF, .inr (0, [.ref hR, .ref hL, .ref q1, .ref q2, .int (vI ((lk : Nat) : Int)), .int (vI ((ll : Nat) : Int)), .ref q3, .ref q4, .int (vI (plc)), .int (vI (cand)), .int (vI (low)), .int (vI (lim)), .int (vI (beat)), .int (vI (ln)), .int (vI (dist))])), (hL, .inr (4, [.int (vI ((way : Nat) : Int)), .int (vI ((win : Nat) : Int)), .int (vI ((least : Nat) : Int)), .int (vI ((cap : Nat) : Int)), .int (vI ((ga : Nat) : Int)), .int (vI ((gb : Nat) : Int)), .int (vI ((lp : Nat) : Int)), .int (vI ((mp : Nat) : Int))])), ia q1 cI (rr) (fun _ => 0), ia q2 cI (rr) (fun _ => 0), ia q3 cI (rr) (fun _ => 0), ia q4 cI (rr) (fun _ => 0)] := hD
  refine lv_aload_n hx hb dX0_enlarge_28 rfl (lv_at hl 0 rfl) ?_
  have hPc := hP.sub (ws' := [(hF, .inr (0, [.ref hR, .ref hL, .ref q1, .ref q2, .int (vI ((lk : Nat) : Int)), .int (vI ((ll : Nat) : Int)), .ref q3, .ref q4, .int (vI (plc)), .int (vI (cand)), .int (vI (low)), .int (vI (lim)), .int (vI (beat)), .int (vI (ln)), .int (vI (dist))])), (hL, .inr (4, [.int (vI ((way : Nat) : Int)), .int (vI ((win : Nat) : Int)), .int (vI ((least : Nat) : Int)), .int (vI ((cap : Nat) : Int)), .int (vI ((ga : Nat) : Int)), .int (vI ((gb : Nat) : Int)), .int (vI ((lp : Nat) : Int)), .int (vI ((mp : Nat) : Int))])), ia q1 cI (rr) ((fun _ => 0))]) [0, 1, 2] rfl
  have hDc := hD.sub (ws' := [(hF, .inr (0, [.ref hR, .ref hL, .ref q1, .ref q2, .int (vI ((lk : Nat) : Int)), .int (vI ((ll : Nat) : Int)), .ref q3, .ref q4, .int (vI (plc)), .int (vI (cand)), .int (vI (low)), .int (vI (lim)), .int (vI (beat)), .int (vI (ln)), .int (vI (dist))])), (hL, .inr (4, [.int (vI ((way : Nat) : Int)), .int (vI ((win : Nat) : Int)), .int (vI ((least : Nat) : Int)), .int (vI ((cap : Nat) : Int)), .int (vI ((ga : Nat) : Int)), .int (vI ((gb : Nat) : Int)), .int (vI ((lp : Nat) : Int)), .int (vI ((mp : Nat) : Int))])), ia q1 cI (rr) ((fun _ => 0))]) [0, 1, 2] (by decide) rfl
  refine zc_v (wr := [ia q2 cI (rr) (fun _ => 0), ia q3 cI (rr) (fun _ => 0), ia q4 cI (rr) (fun _ => 0)]) (va_runV (As := []) (rest := []) ⟨hx, hb, hml, hown, hts⟩ (c_X0_unlink l D cI cB _ hF hR hL q1 q2 q3 q4 lk ll plc cand low lim beat ln dist way win least cap ga gb lp mp rr (fun _ => 0) (by omega)) ⟨callB_of 0 hts (zg kX0_unlink) rfl rfl rfl (hts _ aw_4) (hts _ aw_270) (by decide +kernel) ⟨Nat.le_trans (Nat.le_of_ble_eq_true rfl) hRf, Nat.le_trans (Nat.le_of_ble_eq_true rfl) hRl⟩, (hts _ aw_272), (hts _ as_2)⟩ ⟨zPre_blind, va_recv hK hPc (ci := 0) (q0 := 0) rfl rfl, zPre_of hK hns hPc hDc⟩ rfl rfl hl.1 rfl (lv_room (Nat.le_of_ble_eq_true rfl)) dX0_enlarge_29 ⟨hRc, hRs⟩) hP hD hS hA [0, 1, 2] [3, 4, 5] rfl rfl (by decide) (by decide) (fun gL2_29 H locs hpost hP hD hS => ?_)
  have hg_29 := hpost
  have hP : va_P D vwCl [ia q2 cI (rr) (fun _ => 0), ia q3 cI (rr) (fun _ => 0), ia q4 cI (rr) (fun _ => 0), (hF, .inr (0, [.ref hR, .ref hL, .ref q1, .ref q2, .int (vI (0)), .int (vI ((least : Nat) : Int)), .ref q3, .ref q4, .int (vI (plc)), .int (vI (cand)), .int (vI (low)), .int (vI (lim)), .int (vI (beat)), .int (vI (ln)), .int (vI (dist))])), (hL, .inr (4, [.int (vI ((way : Nat) : Int)), .int (vI ((win : Nat) : Int)), .int (vI ((least : Nat) : Int)), .int (vI ((cap : Nat) : Int)), .int (vI ((ga : Nat) : Int)), .int (vI ((gb : Nat) : Int)), .int (vI ((lp : Nat) : Int)), .int (vI ((mp : Nat) : Int))])), ia q1 cI (rr) (gL2_29)] H := hP
  have hD : va_D _ [ia q2 cI (rr) (fun _ => 0), ia q3 cI (rr) (fun _ => 0), ia q4 cI (rr) (fun _ => 0), (hF, .inr (0, [.ref hR, .ref hL, .ref q1, .ref q2, .int (vI (0)), .int (vI ((least : Nat) : Int)), .ref q3, .ref q4, .int (vI (plc)), .int (vI (cand)), .int (vI (low)), .int (vI (lim)), .int (vI (beat)), .int (vI (ln)), .int (vI (dist))])), (hL, .inr (4, [.int (vI ((way : Nat) : Int)), .int (vI ((win : Nat) : Int)), .int (vI ((least : Nat) : Int)), .int (vI ((cap : Nat) : Int)), .int (vI ((ga : Nat) : Int)), .int (vI ((gb : Nat) : Int)), .int (vI ((lp : Nat) : Int)), .int (vI ((mp : Nat) : Int))])), ia q1 cI (rr) (gL2_29)] := hD
  have hP9 := hP.sub (ws' := [(hF, .inr (0, [.ref hR, .ref hL, .ref q1, .ref q2, .int (vI (0)), .int (vI ((least : Nat) : Int)), .ref q3, .ref q4, .int (vI (plc)), .int (vI (cand)), .int (vI (low)), .int (vI (lim)), .int (vI (beat)), .int (vI (ln)), .int (vI (dist))])), (hL, .inr (4, [.int (vI ((way : Nat) : Int)), .int (vI ((win : Nat) : Int)), .int (vI ((least : Nat) : Int)), .int (vI ((cap : Nat) : Int)), .int (vI ((ga : Nat) : Int)), .int (vI ((gb : Nat) : Int)), .int (vI ((lp : Nat) : Int)), .int (vI ((mp : Nat) : Int))])), ia q1 cI (rr) (gL2_29), ia q2 cI (rr) (fun _ => 0), ia q3 cI (rr) (fun _ => 0), ia q4 cI (rr) (fun _ => 0)]) [3, 4, 5, 0, 1, 2] rfl
  have hD9 := hD.sub (ws' := [(hF, .inr (0, [.ref hR, .ref hL, .ref q1, .ref q2, .int (vI (0)), .int (vI ((least : Nat) : Int)), .ref q3, .ref q4, .int (vI (plc)), .int (vI (cand)), .int (vI (low)), .int (vI (lim)), .int (vI (beat)), .int (vI (ln)), .int (vI (dist))])), (hL, .inr (4, [.int (vI ((way : Nat) : Int)), .int (vI ((win : Nat) : Int)), .int (vI ((least : Nat) : Int)), .int (vI ((cap : Nat) : Int)), .int (vI ((ga : Nat) : Int)), .int (vI ((gb : Nat) : Int)), .int (vI ((lp : Nat) : Int)), .int (vI ((mp : Nat) : Int))])), ia q1 cI (rr) (gL2_29), ia q2 cI (rr) (fun _ => 0), ia q3 cI (rr) (fun _ => 0), ia q4 cI (rr) (fun _ => 0)]) [3, 4, 5, 0, 1, 2] (by decide) rfl
  refine W.widen (k := 4) (n := 4 * rr) (by omega) (by omega) ?_
  exact zr_v hx hb hr hlocks ((q1, q2, q3, q4, gL2_29)) (hg_29) hP9 hD9 hS dX0_enlarge_32

set_option maxRecDepth 100000 in
set_option maxHeartbeats 4000000 in
theorem c_X0_forgetData (l : Launch) (D : va_G) (cI cB : ClassId) (sz : Nat) (hF : Nat) (hR : Nat) (hL : Nat) (aL : Nat) (aK : Nat) (aS : Nat) (aT : Nat) (lk : Nat) (ll : Nat) (plc : Int) (cand : Int) (low : Int) (lim : Int) (beat : Int) (ln : Int) (dist : Int) (way : Nat) (win : Nat) (least : Nat) (cap : Nat) (ga : Nat) (gb : Nat) (lp : Nat) (mp : Nat) (NS : Nat) (gL : Nat → Int) (gS : Nat → Int) (gT : Nat → Int) (h1 : NS ≤ 32768) : Met l yX0_forgetData wsX0_forgetData ({ frames := 2, cells := 0, slots := 0, locals := 43 } : Room) (va_Pc [.ref hF] (zPre D vwCl [(cI, .int), (cB, .byte)] [(hF, .inr (0, [.ref hR, .ref hL, .ref aL, .ref aK, .int (vI ((lk : Nat) : Int)), .int (vI ((ll : Nat) : Int)), .ref aS, .ref aT, .int (vI (plc)), .int (vI (cand)), .int (vI (low)), .int (vI (lim)), .int (vI (beat)), .int (vI (ln)), .int (vI (dist))])), (hL, .inr (4, [.int (vI ((way : Nat) : Int)), .int (vI ((win : Nat) : Int)), .int (vI ((least : Nat) : Int)), .int (vI ((cap : Nat) : Int)), .int (vI ((ga : Nat) : Int)), .int (vI ((gb : Nat) : Int)), .int (vI ((lp : Nat) : Int)), .int (vI ((mp : Nat) : Int))])), ia aL cI (NS) (gL), ia aS cI (NS) (gS), ia aT cI (NS) (gT)] sz)) (va_Qv (S := (Nat → Int) × (Nat → Int) × (Nat → Int)) (fun u => match u with | (gL2, gS2, gT2) => (∀ j, j < NS → gL2 j = -1) ∧ (∀ j, j < NS → gS2 j = 0) ∧ (∀ j, j < NS → gT2 j = 0)) (fun (u : (Nat → Int) × (Nat → Int) × (Nat → Int)) t => zB D vwCl (va_A [(hF, .inr (0, [.ref hR, .ref hL, .ref aL, .ref aK, .int (vI ((lk : Nat) : Int)), .int (vI ((ll : Nat) : Int)), .ref aS, .ref aT, .int (vI (plc)), .int (vI (cand)), .int (vI (low)), .int (vI (lim)), .int (vI (beat)), .int (vI (ln)), .int (vI (dist))])), (hL, .inr (4, [.int (vI ((way : Nat) : Int)), .int (vI ((win : Nat) : Int)), .int (vI ((least : Nat) : Int)), .int (vI ((cap : Nat) : Int)), .int (vI ((ga : Nat) : Int)), .int (vI ((gb : Nat) : Int)), .int (vI ((lp : Nat) : Int)), .int (vI ((mp : Nat) : Int))])), ia aL cI (NS) (gL), ia aS cI (NS) (gS), ia aT cI (NS) (gT)] sz) ((fun u => match u with | (gL2, gS2, gT2) => [(hF, .inr (0, [.ref hR, .ref hL, .ref aL, .ref aK, .int (vI (0)), .int (vI ((least : Nat) : Int)), .ref aS, .ref aT, .int (vI (plc)), .int (vI (cand)), .int (vI (low)), .int (vI (lim)), .int (vI (beat)), .int (vI (ln)), .int (vI (dist))])), (hL, .inr (4, [.int (vI ((way : Nat) : Int)), .int (vI ((win : Nat) : Int)), .int (vI ((least : Nat) : Int)), .int (vI ((cap : Nat) : Int)), .int (vI ((ga : Nat) : Int)), .int (vI ((gb : Nat) : Int)), .int (vI ((lp : Nat) : Int)), .int (vI ((mp : Nat) : Int))])), ia aL cI (NS) (gL2), ia aS cI (NS) (gS2), ia aT cI (NS) (gT2)] : (Nat → Int) × (Nat → Int) × (Nat → Int) → va_W) u) t) (va_A [(hF, .inr (0, [.ref hR, .ref hL, .ref aL, .ref aK, .int (vI ((lk : Nat) : Int)), .int (vI ((ll : Nat) : Int)), .ref aS, .ref aT, .int (vI (plc)), .int (vI (cand)), .int (vI (low)), .int (vI (lim)), .int (vI (beat)), .int (vI (ln)), .int (vI (dist))])), (hL, .inr (4, [.int (vI ((way : Nat) : Int)), .int (vI ((win : Nat) : Int)), .int (vI ((least : Nat) : Int)), .int (vI ((cap : Nat) : Int)), .int (vI ((ga : Nat) : Int)), .int (vI ((gb : Nat) : Int)), .int (vI ((lp : Nat) : Int)), .int (vI ((mp : Nat) : Int))])), ia aL cI (NS) (gL), ia aS cI (NS) (gS), ia aT cI (NS) (gT)] sz)) (0) (0) (va_A [(hF, .inr (0, [.ref hR, .ref hL, .ref aL, .ref aK, .int (vI ((lk : Nat) : Int)), .int (vI ((ll : Nat) : Int)), .ref aS, .ref aT, .int (vI (plc)), .int (vI (cand)), .int (vI (low)), .int (vI (lim)), .int (vI (beat)), .int (vI (ln)), .int (vI (dist))])), (hL, .inr (4, [.int (vI ((way : Nat) : Int)), .int (vI ((win : Nat) : Int)), .int (vI ((least : Nat) : Int)), .int (vI ((cap : Nat) : Int)), .int (vI ((ga : Nat) : Int)), .int (vI ((gb : Nat) : Int)), .int (vI ((lp : Nat) : Int)), .int (vI ((mp : Nat) : Int))])), ia aL cI (NS) (gL), ia aS cI (NS) (gS), ia aT cI (NS) (gT)] sz) := by
  refine zMet (by decide) rfl (Nat.le_of_ble_eq_true rfl) (fun p e s m below meth c hx hb hr hts hown hlocks hnm hml hK hns hA hP hD hS ls hl => ?_)
  have hl : lv_has ls 1 [(0, .ref hF)] := hl
  have hRf : 2 ≤ ({ frames := 2, cells := 0, slots := 0, locals := 43 } : Room).frames := Nat.le_refl _
  have hRl : 43 ≤ ({ frames := 2, cells := 0, slots := 0, locals := 43 } : Room).locals := Nat.le_refl _
  have hRc : 0 ≤ ({ frames := 2, cells := 0, slots := 0, locals := 43 } : Room).cells := Nat.zero_le _
  have hRs : 0 ≤ ({ frames := 2, cells := 0, slots := 0, locals := 43 } : Room).slots := Nat.zero_le _
  refine lv_aload_n hx hb dX0_forgetData_0 rfl (lv_at hl 0 rfl) ?_
  have hPc := hP.sub (ws' := [(hF, .inr (0, [.ref hR, .ref hL, .ref aL, .ref aK, .int (vI ((lk : Nat) : Int)), .int (vI ((ll : Nat) : Int)), .ref aS, .ref aT, .int (vI (plc)), .int (vI (cand)), .int (vI (low)), .int (vI (lim)), .int (vI (beat)), .int (vI (ln)), .int (vI (dist))])), (hL, .inr (4, [.int (vI ((way : Nat) : Int)), .int (vI ((win : Nat) : Int)), .int (vI ((least : Nat) : Int)), .int (vI ((cap : Nat) : Int)), .int (vI ((ga : Nat) : Int)), .int (vI ((gb : Nat) : Int)), .int (vI ((lp : Nat) : Int)), .int (vI ((mp : Nat) : Int))])), ia aL cI (NS) (gL)]) [0, 1, 2] rfl
  have hDc := hD.sub (ws' := [(hF, .inr (0, [.ref hR, .ref hL, .ref aL, .ref aK, .int (vI ((lk : Nat) : Int)), .int (vI ((ll : Nat) : Int)), .ref aS, .ref aT, .int (vI (plc)), .int (vI (cand)), .int (vI (low)), .int (vI (lim)), .int (vI (beat)), .int (vI (ln)), .int (vI (dist))])), (hL, .inr (4, [.int (vI ((way : Nat) : Int)), .int (vI ((win : Nat) : Int)), .int (vI ((least : Nat) : Int)), .int (vI ((cap : Nat) : Int)), .int (vI ((ga : Nat) : Int)), .int (vI ((gb : Nat) : Int)), .int (vI ((lp : Nat) : Int)), .int (vI ((mp : Nat) : Int))])), ia aL cI (NS) (gL)]) [0, 1, 2] (by decide) rfl
  refine zc_v (wr := [ia aS cI (NS) (gS), ia aT cI (NS) (gT)]) (va_runV (As := []) (rest := []) ⟨hx, hb, hml, hown, hts⟩ (c_X0_unlink l D cI cB _ hF hR hL aL aK aS aT lk ll plc cand low lim beat ln dist way win least cap ga gb lp mp NS gL (by omega)) ⟨callB_of 0 hts (zg kX0_unlink) rfl rfl rfl (hts _ aw_4) (hts _ aw_270) (by decide +kernel) ⟨Nat.le_trans (Nat.le_of_ble_eq_true rfl) hRf, Nat.le_trans (Nat.le_of_ble_eq_true rfl) hRl⟩, (hts _ aw_272), (hts _ as_2)⟩ ⟨zPre_blind, va_recv hK hPc (ci := 0) (q0 := 0) rfl rfl, zPre_of hK hns hPc hDc⟩ rfl rfl hl.1 rfl (lv_room (Nat.le_of_ble_eq_true rfl)) dX0_forgetData_1 ⟨hRc, hRs⟩) hP hD hS hA [0, 1, 2] [3, 4] rfl rfl (by decide) (by decide) (fun gL2_1 H locs hpost hP hD hS => ?_)
  have hg_1 := hpost
  have hP : va_P D vwCl [ia aS cI (NS) (gS), ia aT cI (NS) (gT), (hF, .inr (0, [.ref hR, .ref hL, .ref aL, .ref aK, .int (vI (0)), .int (vI ((least : Nat) : Int)), .ref aS, .ref aT, .int (vI (plc)), .int (vI (cand)), .int (vI (low)), .int (vI (lim)), .int (vI (beat)), .int (vI (ln)), .int (vI (dist))])), (hL, .inr (4, [.int (vI ((way : Nat) : Int)), .int (vI ((win : Nat) : Int)), .int (vI ((least : Nat) : Int)), .int (vI ((cap : Nat) : Int)), .int (vI ((ga : Nat) : Int)), .int (vI ((gb : Nat) : Int)), .int (vI ((lp : Nat) : Int)), .int (vI ((mp : Nat) : Int))])), ia aL cI (NS) (gL2_1)] H := hP
  have hD : va_D _ [ia aS cI (NS) (gS), ia aT cI (NS) (gT), (hF, .inr (0, [.ref hR, .ref hL, .ref aL, .ref aK, .int (vI (0)), .int (vI ((least : Nat) : Int)), .ref aS, .ref aT, .int (vI (plc)), .int (vI (cand)), .int (vI (low)), .int (vI (lim)), .int (vI (beat)), .int (vI (ln)), .int (vI (dist))])), (hL, .inr (4, [.int (vI ((way : Nat) : Int)), .int (vI ((win : Nat) : Int)), .int (vI ((least : Nat) : Int)), .int (vI ((cap : Nat) : Int)), .int (vI ((ga : Nat) : Int)), .int (vI ((gb : Nat) : Int)), .int (vI ((lp : Nat) : Int)), .int (vI ((mp : Nat) : Int))])), ia aL cI (NS) (gL2_1)] := hD
  refine lv_aload_n hx hb dX0_forgetData_4 rfl (lv_at hl 0 rfl) ?_
  refine va_get (D := D) (ci := 0) (v := .ref aS) (C := RX0) (T := TX0) (N := 15) hx hb hts iwX0 hown hK hP 2 rfl rfl 6 (by decide) (hts _ aw_106) (fun _ h9 => h9) rfl dX0_forgetData_5 ?_
  refine zw_iconst hx hb dX0_forgetData_8 ?_
  have hPc := hP.sub (ws' := [ia aS cI (NS) (gS)]) [0] rfl
  have hDc := hD.sub (ws' := [ia aS cI (NS) (gS)]) [0] (by decide) rfl
  refine zc_v (wr := [ia aT cI (NS) (gT), (hF, .inr (0, [.ref hR, .ref hL, .ref aL, .ref aK, .int (vI (0)), .int (vI ((least : Nat) : Int)), .ref aS, .ref aT, .int (vI (plc)), .int (vI (cand)), .int (vI (low)), .int (vI (lim)), .int (vI (beat)), .int (vI (ln)), .int (vI (dist))])), (hL, .inr (4, [.int (vI ((way : Nat) : Int)), .int (vI ((win : Nat) : Int)), .int (vI ((least : Nat) : Int)), .int (vI ((cap : Nat) : Int)), .int (vI ((ga : Nat) : Int)), .int (vI ((gb : Nat) : Int)), .int (vI ((lp : Nat) : Int)), .int (vI ((mp : Nat) : Int))])), ia aL cI (NS) (gL2_1)]) (va_runS (As := [.ref aS, .int (vI (0))]) (rest := []) ⟨hx, hb, hml, hown, hts⟩ (c_J7_fill l D cI cB _ aS 0 NS gS (by omega)) ⟨callB_of 2 hts (zg kJ7_fill) rfl rfl rfl (hts _ aw_8) (hts _ aw_274) (by decide +kernel) ⟨Nat.le_trans (Nat.le_of_ble_eq_true rfl) hRf, Nat.le_trans (Nat.le_of_ble_eq_true rfl) hRl⟩, (hts _ aw_275)⟩ ⟨zPre_blind, zPre_of hK hns hPc hDc⟩ rfl rfl hl.1 rfl (lv_room (Nat.le_of_ble_eq_true rfl)) dX0_forgetData_9 ⟨hRc, hRs⟩) hP hD hS hA [0] [1, 2, 3, 4] rfl rfl (by decide) (by decide) (fun g2_9 H locs hpost hP hD hS => ?_)
  have hg_9 := hpost
  have hP : va_P D vwCl [ia aT cI (NS) (gT), (hF, .inr (0, [.ref hR, .ref hL, .ref aL, .ref aK, .int (vI (0)), .int (vI ((least : Nat) : Int)), .ref aS, .ref aT, .int (vI (plc)), .int (vI (cand)), .int (vI (low)), .int (vI (lim)), .int (vI (beat)), .int (vI (ln)), .int (vI (dist))])), (hL, .inr (4, [.int (vI ((way : Nat) : Int)), .int (vI ((win : Nat) : Int)), .int (vI ((least : Nat) : Int)), .int (vI ((cap : Nat) : Int)), .int (vI ((ga : Nat) : Int)), .int (vI ((gb : Nat) : Int)), .int (vI ((lp : Nat) : Int)), .int (vI ((mp : Nat) : Int))])), ia aL cI (NS) (gL2_1), ia aS cI (NS) (g2_9)] H := hP
  have hD : va_D _ [ia aT cI (NS) (gT), (hF, .inr (0, [.ref hR, .ref hL, .ref aL, .ref aK, .int (vI (0)), .int (vI ((least : Nat) : Int)), .ref aS, .ref aT, .int (vI (plc)), .int (vI (cand)), .int (vI (low)), .int (vI (lim)), .int (vI (beat)), .int (vI (ln)), .int (vI (dist))])), (hL, .inr (4, [.int (vI ((way : Nat) : Int)), .int (vI ((win : Nat) : Int)), .int (vI ((least : Nat) : Int)), .int (vI ((cap : Nat) : Int)), .int (vI ((ga : Nat) : Int)), .int (vI ((gb : Nat) : Int)), .int (vI ((lp : Nat) : Int)), .int (vI ((mp : Nat) : Int))])), ia aL cI (NS) (gL2_1), ia aS cI (NS) (g2_9)] := hD
  refine lv_aload_n hx hb dX0_forgetData_12 rfl (lv_at hl 0 rfl) ?_
  refine va_get (D := D) (ci := 0) (v := .ref aT) (C := RX0) (T := TX0) (N := 15) hx hb hts iwX0 hown hK hP 1 rfl rfl 7 (by decide) (hts _ aw_107) (fun _ h9 => h9) rfl dX0_forgetData_13 ?_
  refine zw_iconst hx hb dX0_forgetData_16 ?_
  have hPc := hP.sub (ws' := [ia aT cI (NS) (gT)]) [0] rfl
  have hDc := hD.sub (ws' := [ia aT cI (NS) (gT)]) [0] (by decide) rfl
  refine zc_v (wr := [(hF, .inr (0, [.ref hR, .ref hL, .ref aL, .ref aK, .int (vI (0)), .int (vI ((least : Nat) : Int)), .ref aS, .ref aT, .int (vI (plc)), .int (vI (cand)), .int (vI (low)), .int (vI (lim)), .int (vI (beat)), .int (vI (ln)), .int (vI (dist))])), (hL, .inr (4, [.int (vI ((way : Nat) : Int)), .int (vI ((win : Nat) : Int)), .int (vI ((least : Nat) : Int)), .int (vI ((cap : Nat) : Int)), .int (vI ((ga : Nat) : Int)), .int (vI ((gb : Nat) : Int)), .int (vI ((lp : Nat) : Int)), .int (vI ((mp : Nat) : Int))])), ia aL cI (NS) (gL2_1), ia aS cI (NS) (g2_9)]) (va_runS (As := [.ref aT, .int (vI (0))]) (rest := []) ⟨hx, hb, hml, hown, hts⟩ (c_J7_fill l D cI cB _ aT 0 NS gT (by omega)) ⟨callB_of 2 hts (zg kJ7_fill) rfl rfl rfl (hts _ aw_8) (hts _ aw_274) (by decide +kernel) ⟨Nat.le_trans (Nat.le_of_ble_eq_true rfl) hRf, Nat.le_trans (Nat.le_of_ble_eq_true rfl) hRl⟩, (hts _ aw_275)⟩ ⟨zPre_blind, zPre_of hK hns hPc hDc⟩ rfl rfl hl.1 rfl (lv_room (Nat.le_of_ble_eq_true rfl)) dX0_forgetData_17 ⟨hRc, hRs⟩) hP hD hS hA [0] [1, 2, 3, 4] rfl rfl (by decide) (by decide) (fun g2_17 H locs hpost hP hD hS => ?_)
  have hg_17 := hpost
  have hP : va_P D vwCl [(hF, .inr (0, [.ref hR, .ref hL, .ref aL, .ref aK, .int (vI (0)), .int (vI ((least : Nat) : Int)), .ref aS, .ref aT, .int (vI (plc)), .int (vI (cand)), .int (vI (low)), .int (vI (lim)), .int (vI (beat)), .int (vI (ln)), .int (vI (dist))])), (hL, .inr (4, [.int (vI ((way : Nat) : Int)), .int (vI ((win : Nat) : Int)), .int (vI ((least : Nat) : Int)), .int (vI ((cap : Nat) : Int)), .int (vI ((ga : Nat) : Int)), .int (vI ((gb : Nat) : Int)), .int (vI ((lp : Nat) : Int)), .int (vI ((mp : Nat) : Int))])), ia aL cI (NS) (gL2_1), ia aS cI (NS) (g2_9), ia aT cI (NS) (g2_17)] H := hP
  have hD : va_D _ [(hF, .inr (0, [.ref hR, .ref hL, .ref aL, .ref aK, .int (vI (0)), .int (vI ((least : Nat) : Int)), .ref aS, .ref aT, .int (vI (plc)), .int (vI (cand)), .int (vI (low)), .int (vI (lim)), .int (vI (beat)), .int (vI (ln)), .int (vI (dist))])), (hL, .inr (4, [.int (vI ((way : Nat) : Int)), .int (vI ((win : Nat) : Int)), .int (vI ((least : Nat) : Int)), .int (vI ((cap : Nat) : Int)), .int (vI ((ga : Nat) : Int)), .int (vI ((gb : Nat) : Int)), .int (vI ((lp : Nat) : Int)), .int (vI ((mp : Nat) : Int))])), ia aL cI (NS) (gL2_1), ia aS cI (NS) (g2_9), ia aT cI (NS) (g2_17)] := hD
  exact zr_v hx hb hr hlocks ((gL2_1, g2_9, g2_17)) ⟨hg_1, hg_9, hg_17⟩ hP hD hS dX0_forgetData_20

set_option maxRecDepth 100000 in
set_option maxHeartbeats 4000000 in
theorem c_X0_init (l : Launch) (D : va_G) (cI cB : ClassId) (sz : Nat) (hF : Nat) (hR : Nat) (hL : Nat)  : Met l yX0_init wsX0_init ({ frames := 1, cells := 4, slots := 2048, locals := 20 } : Room) (va_Pc [.ref hF, .ref hR, .ref hL] (zPre D vwCl [(cI, .int), (cB, .byte)] [(hF, .inr (0, [.null, .null, .null, .null, .int (vI (0)), .int (vI (0)), .null, .null, .int (vI (0)), .int (vI (0)), .int (vI (0)), .int (vI (0)), .int (vI (0)), .int (vI (0)), .int (vI (0))]))] sz)) (va_Qv (S := Nat × Nat × Nat × Nat) (fun u => match u with | (aL, aK, aS, aT) => True) (fun (u : Nat × Nat × Nat × Nat) t => zB D vwCl (va_A [(hF, .inr (0, [.null, .null, .null, .null, .int (vI (0)), .int (vI (0)), .null, .null, .int (vI (0)), .int (vI (0)), .int (vI (0)), .int (vI (0)), .int (vI (0)), .int (vI (0)), .int (vI (0))]))] sz) ((fun u => match u with | (aL, aK, aS, aT) => [(hF, .inr (0, [.ref hR, .ref hL, .ref aL, .ref aK, .int (vI (0)), .int (vI (0)), .ref aS, .ref aT, .int (vI (0)), .int (vI (-1)), .int (vI (0)), .int (vI (0)), .int (vI (0)), .int (vI (0)), .int (vI (0))])), ia aL cI (512) (fun _ => 0), ia aK cI (512) (fun _ => 0), ia aS cI (512) (fun _ => 0), ia aT cI (512) (fun _ => 0)] : Nat × Nat × Nat × Nat → va_W) u) t) (va_A [(hF, .inr (0, [.null, .null, .null, .null, .int (vI (0)), .int (vI (0)), .null, .null, .int (vI (0)), .int (vI (0)), .int (vI (0)), .int (vI (0)), .int (vI (0)), .int (vI (0)), .int (vI (0))]))] sz)) (4) (2048) (va_A [(hF, .inr (0, [.null, .null, .null, .null, .int (vI (0)), .int (vI (0)), .null, .null, .int (vI (0)), .int (vI (0)), .int (vI (0)), .int (vI (0)), .int (vI (0)), .int (vI (0)), .int (vI (0))]))] sz) := by
  refine zMet (by decide) rfl (Nat.le_of_ble_eq_true rfl) (fun p e s m below meth c hx hb hr hts hown hlocks hnm hml hK hns hA hP hD hS ls hl => ?_)
  have hl : lv_has ls 3 [(0, .ref hF), (1, .ref hR), (2, .ref hL)] := hl
  have hRf : 1 ≤ ({ frames := 1, cells := 4, slots := 2048, locals := 20 } : Room).frames := Nat.le_refl _
  have hRl : 20 ≤ ({ frames := 1, cells := 4, slots := 2048, locals := 20 } : Room).locals := Nat.le_refl _
  have hRc : 0 ≤ ({ frames := 1, cells := 4, slots := 2048, locals := 20 } : Room).cells := Nat.zero_le _
  have hRs : 0 ≤ ({ frames := 1, cells := 4, slots := 2048, locals := 20 } : Room).slots := Nat.zero_le _
  refine lv_aload_n hx hb dX0_init_0 rfl (lv_at hl 0 rfl) ?_
  refine W.objInit hx hb hown (hts _ aw_99) (hts _ aw_17) (hts _ aw_18) rfl (by rw [hml]; exact hl.1) rfl dX0_init_1 (Nat.le_trans (Nat.le_of_ble_eq_true rfl) hRf) (Nat.le_trans (Nat.le_of_ble_eq_true rfl) hRl) ?_
  refine W.eq (g2 := F0 m 4 ls []) rfl ?_
  refine lv_aload_n hx hb dX0_init_4 rfl (lv_at hl 0 rfl) ?_
  refine zw_sipush hx hb dX0_init_5 (by decide +kernel) ?_
  refine zw_newi hx hb (hts _ aw_150) hK hP hD hS hA 0 rfl (512) (by omega) (by omega) (by show 0 + 1 ≤ 4; omega) (by show 0 + (512) ≤ 2048; omega) dX0_init_8 (fun q1 H hP hD hS => ?_)
  have hP : va_P D vwCl [(hF, .inr (0, [.null, .null, .null, .null, .int (vI (0)), .int (vI (0)), .null, .null, .int (vI (0)), .int (vI (0)), .int (vI (0)), .int (vI (0)), .int (vI (0)), .int (vI (0)), .int (vI (0))])), ia q1 cI (512) (fun _ => 0)] H := hP
  have hD : va_D _ [(hF, .inr (0, [.null, .null, .null, .null, .int (vI (0)), .int (vI (0)), .null, .null, .int (vI (0)), .int (vI (0)), .int (vI (0)), .int (vI (0)), .int (vI (0)), .int (vI (0)), .int (vI (0))])), ia q1 cI (512) (fun _ => 0)] := hD
  have hRc : 0 + 1 ≤ ({ frames := 1, cells := 4, slots := 2048, locals := 20 } : Room).cells := by show 0 + 1 ≤ 4; omega
  have hRs : 0 + (512) ≤ ({ frames := 1, cells := 4, slots := 2048, locals := 20 } : Room).slots := by show 0 + (512) ≤ 2048; omega
  refine va_put (D := D) (ci := 0) (v := .ref q1) (ty := .array .int) (C := RX0) (T := TX0) (N := 15) hx hb hts iwX0 tyX0 tyX0_ok nmX0 hown hK hP hD hS 0 rfl rfl 2 (by decide) (hts _ aw_102) (fun _ h9 => h9) rfl (by decide +kernel) rfl rfl (Nat.le_of_ble_eq_true rfl) dX0_init_10 (fun H locs hP hD hS => ?_)
  have hP : va_P D vwCl [(hF, .inr (0, [.null, .null, .ref q1, .null, .int (vI (0)), .int (vI (0)), .null, .null, .int (vI (0)), .int (vI (0)), .int (vI (0)), .int (vI (0)), .int (vI (0)), .int (vI (0)), .int (vI (0))])), ia q1 cI (512) (fun _ => 0)] H := hP
  have hD : va_D _ [(hF, .inr (0, [.null, .null, .ref q1, .null, .int (vI (0)), .int (vI (0)), .null, .null, .int (vI (0)), .int (vI (0)), .int (vI (0)), .int (vI (0)), .int (vI (0)), .int (vI (0)), .int (vI (0))])), ia q1 cI (512) (fun _ => 0)] := hD
  refine lv_aload_n hx hb dX0_init_13 rfl (lv_at hl 0 rfl) ?_
  refine zw_sipush hx hb dX0_init_14 (by decide +kernel) ?_
  refine zw_newi hx hb (hts _ aw_150) hK hP hD hS hA 0 rfl (512) (by omega) (by omega) (by show 0 + 1 + 1 ≤ 4; omega) (by show 0 + (512) + (512) ≤ 2048; omega) dX0_init_17 (fun q2 H hP hD hS => ?_)
  have hP : va_P D vwCl [(hF, .inr (0, [.null, .null, .ref q1, .null, .int (vI (0)), .int (vI (0)), .null, .null, .int (vI (0)), .int (vI (0)), .int (vI (0)), .int (vI (0)), .int (vI (0)), .int (vI (0)), .int (vI (0))])), ia q1 cI (512) (fun _ => 0), ia q2 cI (512) (fun _ => 0)] H := hP
  have hD : va_D _ [(hF, .inr (0, [.null, .null, .ref q1, .null, .int (vI (0)), .int (vI (0)), .null, .null, .int (vI (0)), .int (vI (0)), .int (vI (0)), .int (vI (0)), .int (vI (0)), .int (vI (0)), .int (vI (0))])), ia q1 cI (512) (fun _ => 0), ia q2 cI (512) (fun _ => 0)] := hD
  have hRc : 0 + 1 + 1 ≤ ({ frames := 1, cells := 4, slots := 2048, locals := 20 } : Room).cells := by show 0 + 1 + 1 ≤ 4; omega
  have hRs : 0 + (512) + (512) ≤ ({ frames := 1, cells := 4, slots := 2048, locals := 20 } : Room).slots := by show 0 + (512) + (512) ≤ 2048; omega
  refine va_put (D := D) (ci := 0) (v := .ref q2) (ty := .array .int) (C := RX0) (T := TX0) (N := 15) hx hb hts iwX0 tyX0 tyX0_ok nmX0 hown hK hP hD hS 0 rfl rfl 3 (by decide) (hts _ aw_103) (fun _ h9 => h9) rfl (by decide +kernel) rfl rfl (Nat.le_of_ble_eq_true rfl) dX0_init_19 (fun H locs hP hD hS => ?_)
  have hP : va_P D vwCl [(hF, .inr (0, [.null, .null, .ref q1, .ref q2, .int (vI (0)), .int (vI (0)), .null, .null, .int (vI (0)), .int (vI (0)), .int (vI (0)), .int (vI (0)), .int (vI (0)), .int (vI (0)), .int (vI (0))])), ia q1 cI (512) (fun _ => 0), ia q2 cI (512) (fun _ => 0)] H := hP
  have hD : va_D _ [(hF, .inr (0, [.null, .null, .ref q1, .ref q2, .int (vI (0)), .int (vI (0)), .null, .null, .int (vI (0)), .int (vI (0)), .int (vI (0)), .int (vI (0)), .int (vI (0)), .int (vI (0)), .int (vI (0))])), ia q1 cI (512) (fun _ => 0), ia q2 cI (512) (fun _ => 0)] := hD
  refine lv_aload_n hx hb dX0_init_22 rfl (lv_at hl 0 rfl) ?_
  refine zw_iconst hx hb dX0_init_23 ?_
  refine va_put (D := D) (ci := 0) (v := .int (vI (0))) (ty := .int) (C := RX0) (T := TX0) (N := 15) hx hb hts iwX0 tyX0 tyX0_ok nmX0 hown hK hP hD hS 0 rfl rfl 4 (by decide) (hts _ aw_104) (fun _ h9 => h9) rfl (by decide +kernel) rfl rfl (Nat.le_of_ble_eq_true rfl) dX0_init_24 (fun H locs hP hD hS => ?_)
  have hP : va_P D vwCl [(hF, .inr (0, [.null, .null, .ref q1, .ref q2, .int (vI (0)), .int (vI (0)), .null, .null, .int (vI (0)), .int (vI (0)), .int (vI (0)), .int (vI (0)), .int (vI (0)), .int (vI (0)), .int (vI (0))])), ia q1 cI (512) (fun _ => 0), ia q2 cI (512) (fun _ => 0)] H := hP
  have hD : va_D _ [(hF, .inr (0, [.null, .null, .ref q1, .ref q2, .int (vI (0)), .int (vI (0)), .null, .null, .int (vI (0)), .int (vI (0)), .int (vI (0)), .int (vI (0)), .int (vI (0)), .int (vI (0)), .int (vI (0))])), ia q1 cI (512) (fun _ => 0), ia q2 cI (512) (fun _ => 0)] := hD
  refine lv_aload_n hx hb dX0_init_27 rfl (lv_at hl 0 rfl) ?_
  refine zw_iconst hx hb dX0_init_28 ?_
  refine va_put (D := D) (ci := 0) (v := .int (vI (0))) (ty := .int) (C := RX0) (T := TX0) (N := 15) hx hb hts iwX0 tyX0 tyX0_ok nmX0 hown hK hP hD hS 0 rfl rfl 5 (by decide) (hts _ aw_105) (fun _ h9 => h9) rfl (by decide +kernel) rfl rfl (Nat.le_of_ble_eq_true rfl) dX0_init_29 (fun H locs hP hD hS => ?_)
  have hP : va_P D vwCl [(hF, .inr (0, [.null, .null, .ref q1, .ref q2, .int (vI (0)), .int (vI (0)), .null, .null, .int (vI (0)), .int (vI (0)), .int (vI (0)), .int (vI (0)), .int (vI (0)), .int (vI (0)), .int (vI (0))])), ia q1 cI (512) (fun _ => 0), ia q2 cI (512) (fun _ => 0)] H := hP
  have hD : va_D _ [(hF, .inr (0, [.null, .null, .ref q1, .ref q2, .int (vI (0)), .int (vI (0)), .null, .null, .int (vI (0)), .int (vI (0)), .int (vI (0)), .int (vI (0)), .int (vI (0)), .int (vI (0)), .int (vI (0))])), ia q1 cI (512) (fun _ => 0), ia q2 cI (512) (fun _ => 0)] := hD
  refine lv_aload_n hx hb dX0_init_32 rfl (lv_at hl 0 rfl) ?_
  refine zw_sipush hx hb dX0_init_33 (by decide +kernel) ?_
  refine zw_newi hx hb (hts _ aw_150) hK hP hD hS hA 0 rfl (512) (by omega) (by omega) (by show 0 + 1 + 1 + 1 ≤ 4; omega) (by show 0 + (512) + (512) + (512) ≤ 2048; omega) dX0_init_36 (fun q3 H hP hD hS => ?_)
  have hP : va_P D vwCl [(hF, .inr (0, [.null, .null, .ref q1, .ref q2, .int (vI (0)), .int (vI (0)), .null, .null, .int (vI (0)), .int (vI (0)), .int (vI (0)), .int (vI (0)), .int (vI (0)), .int (vI (0)), .int (vI (0))])), ia q1 cI (512) (fun _ => 0), ia q2 cI (512) (fun _ => 0), ia q3 cI (512) (fun _ => 0)] H := hP
  have hD : va_D _ [(hF, .inr (0, [.null, .null, .ref q1, .ref q2, .int (vI (0)), .int (vI (0)), .null, .null, .int (vI (0)), .int (vI (0)), .int (vI (0)), .int (vI (0)), .int (vI (0)), .int (vI (0)), .int (vI (0))])), ia q1 cI (512) (fun _ => 0), ia q2 cI (512) (fun _ => 0), ia q3 cI (512) (fun _ => 0)] := hD
  have hRc : 0 + 1 + 1 + 1 ≤ ({ frames := 1, cells := 4, slots := 2048, locals := 20 } : Room).cells := by show 0 + 1 + 1 + 1 ≤ 4; omega
  have hRs : 0 + (512) + (512) + (512) ≤ ({ frames := 1, cells := 4, slots := 2048, locals := 20 } : Room).slots := by show 0 + (512) + (512) + (512) ≤ 2048; omega
  refine va_put (D := D) (ci := 0) (v := .ref q3) (ty := .array .int) (C := RX0) (T := TX0) (N := 15) hx hb hts iwX0 tyX0 tyX0_ok nmX0 hown hK hP hD hS 0 rfl rfl 6 (by decide) (hts _ aw_106) (fun _ h9 => h9) rfl (by decide +kernel) rfl rfl (Nat.le_of_ble_eq_true rfl) dX0_init_38 (fun H locs hP hD hS => ?_)
  have hP : va_P D vwCl [(hF, .inr (0, [.null, .null, .ref q1, .ref q2, .int (vI (0)), .int (vI (0)), .ref q3, .null, .int (vI (0)), .int (vI (0)), .int (vI (0)), .int (vI (0)), .int (vI (0)), .int (vI (0)), .int (vI (0))])), ia q1 cI (512) (fun _ => 0), ia q2 cI (512) (fun _ => 0), ia q3 cI (512) (fun _ => 0)] H := hP
  have hD : va_D _ [(hF, .inr (0, [.null, .null, .ref q1, .ref q2, .int (vI (0)), .int (vI (0)), .ref q3, .null, .int (vI (0)), .int (vI (0)), .int (vI (0)), .int (vI (0)), .int (vI (0)), .int (vI (0)), .int (vI (0))])), ia q1 cI (512) (fun _ => 0), ia q2 cI (512) (fun _ => 0), ia q3 cI (512) (fun _ => 0)] := hD
  refine lv_aload_n hx hb dX0_init_41 rfl (lv_at hl 0 rfl) ?_
  refine zw_sipush hx hb dX0_init_42 (by decide +kernel) ?_
  refine zw_newi hx hb (hts _ aw_150) hK hP hD hS hA 0 rfl (512) (by omega) (by omega) (by show 0 + 1 + 1 + 1 + 1 ≤ 4; omega) (by show 0 + (512) + (512) + (512) + (512) ≤ 2048; omega) dX0_init_45 (fun q4 H hP hD hS => ?_)
  have hP : va_P D vwCl [(hF, .inr (0, [.null, .null, .ref q1, .ref q2, .int (vI (0)), .int (vI (0)), .ref q3, .null, .int (vI (0)), .int (vI (0)), .int (vI (0)), .int (vI (0)), .int (vI (0)), .int (vI (0)), .int (vI (0))])), ia q1 cI (512) (fun _ => 0), ia q2 cI (512) (fun _ => 0), ia q3 cI (512) (fun _ => 0), ia q4 cI (512) (fun _ => 0)] H := hP
  have hD : va_D _ [(hF, .inr (0, [.null, .null, .ref q1, .ref q2, .int (vI (0)), .int (vI (0)), .ref q3, .null, .int (vI (0)), .int (vI (0)), .int (vI (0)), .int (vI (0)), .int (vI (0)), .int (vI (0)), .int (vI (0))])), ia q1 cI (512) (fun _ => 0), ia q2 cI (512) (fun _ => 0), ia q3 cI (512) (fun _ => 0), ia q4 cI (512) (fun _ => 0)] := hD
  have hRc : 0 + 1 + 1 + 1 + 1 ≤ ({ frames := 1, cells := 4, slots := 2048, locals := 20 } : Room).cells := by show 0 + 1 + 1 + 1 + 1 ≤ 4; omega
  have hRs : 0 + (512) + (512) + (512) + (512) ≤ ({ frames := 1, cells := 4, slots := 2048, locals := 20 } : Room).slots := by show 0 + (512) + (512) + (512) + (512) ≤ 2048; omega
  refine va_put (D := D) (ci := 0) (v := .ref q4) (ty := .array .int) (C := RX0) (T := TX0) (N := 15) hx hb hts iwX0 tyX0 tyX0_ok nmX0 hown hK hP hD hS 0 rfl rfl 7 (by decide) (hts _ aw_107) (fun _ h9 => h9) rfl (by decide +kernel) rfl rfl (Nat.le_of_ble_eq_true rfl) dX0_init_47 (fun H locs hP hD hS => ?_)
  have hP : va_P D vwCl [(hF, .inr (0, [.null, .null, .ref q1, .ref q2, .int (vI (0)), .int (vI (0)), .ref q3, .ref q4, .int (vI (0)), .int (vI (0)), .int (vI (0)), .int (vI (0)), .int (vI (0)), .int (vI (0)), .int (vI (0))])), ia q1 cI (512) (fun _ => 0), ia q2 cI (512) (fun _ => 0), ia q3 cI (512) (fun _ => 0), ia q4 cI (512) (fun _ => 0)] H := hP
  have hD : va_D _ [(hF, .inr (0, [.null, .null, .ref q1, .ref q2, .int (vI (0)), .int (vI (0)), .ref q3, .ref q4, .int (vI (0)), .int (vI (0)), .int (vI (0)), .int (vI (0)), .int (vI (0)), .int (vI (0)), .int (vI (0))])), ia q1 cI (512) (fun _ => 0), ia q2 cI (512) (fun _ => 0), ia q3 cI (512) (fun _ => 0), ia q4 cI (512) (fun _ => 0)] := hD
  refine lv_aload_n hx hb dX0_init_50 rfl (lv_at hl 0 rfl) ?_
  refine zw_iconst hx hb dX0_init_51 ?_
  refine va_put (D := D) (ci := 0) (v := .int (vI (0))) (ty := .int) (C := RX0) (T := TX0) (N := 15) hx hb hts iwX0 tyX0 tyX0_ok nmX0 hown hK hP hD hS 0 rfl rfl 8 (by decide) (hts _ aw_108) (fun _ h9 => h9) rfl (by decide +kernel) rfl rfl (Nat.le_of_ble_eq_true rfl) dX0_init_52 (fun H locs hP hD hS => ?_)
  have hP : va_P D vwCl [(hF, .inr (0, [.null, .null, .ref q1, .ref q2, .int (vI (0)), .int (vI (0)), .ref q3, .ref q4, .int (vI (0)), .int (vI (0)), .int (vI (0)), .int (vI (0)), .int (vI (0)), .int (vI (0)), .int (vI (0))])), ia q1 cI (512) (fun _ => 0), ia q2 cI (512) (fun _ => 0), ia q3 cI (512) (fun _ => 0), ia q4 cI (512) (fun _ => 0)] H := hP
  have hD : va_D _ [(hF, .inr (0, [.null, .null, .ref q1, .ref q2, .int (vI (0)), .int (vI (0)), .ref q3, .ref q4, .int (vI (0)), .int (vI (0)), .int (vI (0)), .int (vI (0)), .int (vI (0)), .int (vI (0)), .int (vI (0))])), ia q1 cI (512) (fun _ => 0), ia q2 cI (512) (fun _ => 0), ia q3 cI (512) (fun _ => 0), ia q4 cI (512) (fun _ => 0)] := hD
  refine lv_aload_n hx hb dX0_init_55 rfl (lv_at hl 0 rfl) ?_
  refine zw_iconst hx hb dX0_init_56 ?_
  refine va_put (D := D) (ci := 0) (v := .int (vI (-1))) (ty := .int) (C := RX0) (T := TX0) (N := 15) hx hb hts iwX0 tyX0 tyX0_ok nmX0 hown hK hP hD hS 0 rfl rfl 9 (by decide) (hts _ aw_109) (fun _ h9 => h9) rfl (by decide +kernel) rfl rfl (Nat.le_of_ble_eq_true rfl) dX0_init_57 (fun H locs hP hD hS => ?_)
  have hP : va_P D vwCl [(hF, .inr (0, [.null, .null, .ref q1, .ref q2, .int (vI (0)), .int (vI (0)), .ref q3, .ref q4, .int (vI (0)), .int (vI (-1)), .int (vI (0)), .int (vI (0)), .int (vI (0)), .int (vI (0)), .int (vI (0))])), ia q1 cI (512) (fun _ => 0), ia q2 cI (512) (fun _ => 0), ia q3 cI (512) (fun _ => 0), ia q4 cI (512) (fun _ => 0)] H := hP
  have hD : va_D _ [(hF, .inr (0, [.null, .null, .ref q1, .ref q2, .int (vI (0)), .int (vI (0)), .ref q3, .ref q4, .int (vI (0)), .int (vI (-1)), .int (vI (0)), .int (vI (0)), .int (vI (0)), .int (vI (0)), .int (vI (0))])), ia q1 cI (512) (fun _ => 0), ia q2 cI (512) (fun _ => 0), ia q3 cI (512) (fun _ => 0), ia q4 cI (512) (fun _ => 0)] := hD
  refine lv_aload_n hx hb dX0_init_60 rfl (lv_at hl 0 rfl) ?_
  refine zw_iconst hx hb dX0_init_61 ?_
  refine va_put (D := D) (ci := 0) (v := .int (vI (0))) (ty := .int) (C := RX0) (T := TX0) (N := 15) hx hb hts iwX0 tyX0 tyX0_ok nmX0 hown hK hP hD hS 0 rfl rfl 10 (by decide) (hts _ aw_110) (fun _ h9 => h9) rfl (by decide +kernel) rfl rfl (Nat.le_of_ble_eq_true rfl) dX0_init_62 (fun H locs hP hD hS => ?_)
  have hP : va_P D vwCl [(hF, .inr (0, [.null, .null, .ref q1, .ref q2, .int (vI (0)), .int (vI (0)), .ref q3, .ref q4, .int (vI (0)), .int (vI (-1)), .int (vI (0)), .int (vI (0)), .int (vI (0)), .int (vI (0)), .int (vI (0))])), ia q1 cI (512) (fun _ => 0), ia q2 cI (512) (fun _ => 0), ia q3 cI (512) (fun _ => 0), ia q4 cI (512) (fun _ => 0)] H := hP
  have hD : va_D _ [(hF, .inr (0, [.null, .null, .ref q1, .ref q2, .int (vI (0)), .int (vI (0)), .ref q3, .ref q4, .int (vI (0)), .int (vI (-1)), .int (vI (0)), .int (vI (0)), .int (vI (0)), .int (vI (0)), .int (vI (0))])), ia q1 cI (512) (fun _ => 0), ia q2 cI (512) (fun _ => 0), ia q3 cI (512) (fun _ => 0), ia q4 cI (512) (fun _ => 0)] := hD
  refine lv_aload_n hx hb dX0_init_65 rfl (lv_at hl 0 rfl) ?_
  refine zw_iconst hx hb dX0_init_66 ?_
  refine va_put (D := D) (ci := 0) (v := .int (vI (0))) (ty := .int) (C := RX0) (T := TX0) (N := 15) hx hb hts iwX0 tyX0 tyX0_ok nmX0 hown hK hP hD hS 0 rfl rfl 11 (by decide) (hts _ aw_111) (fun _ h9 => h9) rfl (by decide +kernel) rfl rfl (Nat.le_of_ble_eq_true rfl) dX0_init_67 (fun H locs hP hD hS => ?_)
  have hP : va_P D vwCl [(hF, .inr (0, [.null, .null, .ref q1, .ref q2, .int (vI (0)), .int (vI (0)), .ref q3, .ref q4, .int (vI (0)), .int (vI (-1)), .int (vI (0)), .int (vI (0)), .int (vI (0)), .int (vI (0)), .int (vI (0))])), ia q1 cI (512) (fun _ => 0), ia q2 cI (512) (fun _ => 0), ia q3 cI (512) (fun _ => 0), ia q4 cI (512) (fun _ => 0)] H := hP
  have hD : va_D _ [(hF, .inr (0, [.null, .null, .ref q1, .ref q2, .int (vI (0)), .int (vI (0)), .ref q3, .ref q4, .int (vI (0)), .int (vI (-1)), .int (vI (0)), .int (vI (0)), .int (vI (0)), .int (vI (0)), .int (vI (0))])), ia q1 cI (512) (fun _ => 0), ia q2 cI (512) (fun _ => 0), ia q3 cI (512) (fun _ => 0), ia q4 cI (512) (fun _ => 0)] := hD
  refine lv_aload_n hx hb dX0_init_70 rfl (lv_at hl 0 rfl) ?_
  refine zw_iconst hx hb dX0_init_71 ?_
  refine va_put (D := D) (ci := 0) (v := .int (vI (0))) (ty := .int) (C := RX0) (T := TX0) (N := 15) hx hb hts iwX0 tyX0 tyX0_ok nmX0 hown hK hP hD hS 0 rfl rfl 12 (by decide) (hts _ aw_112) (fun _ h9 => h9) rfl (by decide +kernel) rfl rfl (Nat.le_of_ble_eq_true rfl) dX0_init_72 (fun H locs hP hD hS => ?_)
  have hP : va_P D vwCl [(hF, .inr (0, [.null, .null, .ref q1, .ref q2, .int (vI (0)), .int (vI (0)), .ref q3, .ref q4, .int (vI (0)), .int (vI (-1)), .int (vI (0)), .int (vI (0)), .int (vI (0)), .int (vI (0)), .int (vI (0))])), ia q1 cI (512) (fun _ => 0), ia q2 cI (512) (fun _ => 0), ia q3 cI (512) (fun _ => 0), ia q4 cI (512) (fun _ => 0)] H := hP
  have hD : va_D _ [(hF, .inr (0, [.null, .null, .ref q1, .ref q2, .int (vI (0)), .int (vI (0)), .ref q3, .ref q4, .int (vI (0)), .int (vI (-1)), .int (vI (0)), .int (vI (0)), .int (vI (0)), .int (vI (0)), .int (vI (0))])), ia q1 cI (512) (fun _ => 0), ia q2 cI (512) (fun _ => 0), ia q3 cI (512) (fun _ => 0), ia q4 cI (512) (fun _ => 0)] := hD
  refine lv_aload_n hx hb dX0_init_75 rfl (lv_at hl 0 rfl) ?_
  refine zw_iconst hx hb dX0_init_76 ?_
  refine va_put (D := D) (ci := 0) (v := .int (vI (0))) (ty := .int) (C := RX0) (T := TX0) (N := 15) hx hb hts iwX0 tyX0 tyX0_ok nmX0 hown hK hP hD hS 0 rfl rfl 13 (by decide) (hts _ aw_113) (fun _ h9 => h9) rfl (by decide +kernel) rfl rfl (Nat.le_of_ble_eq_true rfl) dX0_init_77 (fun H locs hP hD hS => ?_)
  have hP : va_P D vwCl [(hF, .inr (0, [.null, .null, .ref q1, .ref q2, .int (vI (0)), .int (vI (0)), .ref q3, .ref q4, .int (vI (0)), .int (vI (-1)), .int (vI (0)), .int (vI (0)), .int (vI (0)), .int (vI (0)), .int (vI (0))])), ia q1 cI (512) (fun _ => 0), ia q2 cI (512) (fun _ => 0), ia q3 cI (512) (fun _ => 0), ia q4 cI (512) (fun _ => 0)] H := hP
  have hD : va_D _ [(hF, .inr (0, [.null, .null, .ref q1, .ref q2, .int (vI (0)), .int (vI (0)), .ref q3, .ref q4, .int (vI (0)), .int (vI (-1)), .int (vI (0)), .int (vI (0)), .int (vI (0)), .int (vI (0)), .int (vI (0))])), ia q1 cI (512) (fun _ => 0), ia q2 cI (512) (fun _ => 0), ia q3 cI (512) (fun _ => 0), ia q4 cI (512) (fun _ => 0)] := hD
  refine lv_aload_n hx hb dX0_init_80 rfl (lv_at hl 0 rfl) ?_
  refine zw_iconst hx hb dX0_init_81 ?_
  refine va_put (D := D) (ci := 0) (v := .int (vI (0))) (ty := .int) (C := RX0) (T := TX0) (N := 15) hx hb hts iwX0 tyX0 tyX0_ok nmX0 hown hK hP hD hS 0 rfl rfl 14 (by decide) (hts _ aw_116) (fun _ h9 => h9) rfl (by decide +kernel) rfl rfl (Nat.le_of_ble_eq_true rfl) dX0_init_82 (fun H locs hP hD hS => ?_)
  have hP : va_P D vwCl [(hF, .inr (0, [.null, .null, .ref q1, .ref q2, .int (vI (0)), .int (vI (0)), .ref q3, .ref q4, .int (vI (0)), .int (vI (-1)), .int (vI (0)), .int (vI (0)), .int (vI (0)), .int (vI (0)), .int (vI (0))])), ia q1 cI (512) (fun _ => 0), ia q2 cI (512) (fun _ => 0), ia q3 cI (512) (fun _ => 0), ia q4 cI (512) (fun _ => 0)] H := hP
  have hD : va_D _ [(hF, .inr (0, [.null, .null, .ref q1, .ref q2, .int (vI (0)), .int (vI (0)), .ref q3, .ref q4, .int (vI (0)), .int (vI (-1)), .int (vI (0)), .int (vI (0)), .int (vI (0)), .int (vI (0)), .int (vI (0))])), ia q1 cI (512) (fun _ => 0), ia q2 cI (512) (fun _ => 0), ia q3 cI (512) (fun _ => 0), ia q4 cI (512) (fun _ => 0)] := hD
  refine lv_aload_n hx hb dX0_init_85 rfl (lv_at hl 0 rfl) ?_
  refine lv_aload_n hx hb dX0_init_86 rfl (lv_at hl 1 rfl) ?_
  refine va_putF (D := D) (ci := 0) (v := .ref hR) (ty := .object "MatchSeeker$Row") (C := RX0) (T := TX0) (N := 15) hx hb hts iwX0 tyX0 tyX0_ok nmX0 hown hK hP hD hS 0 rfl rfl 0 (by decide) (hts _ aw_100) (fun _ h9 => h9) rfl hnm rfl (by decide +kernel) rfl rfl (Nat.le_of_ble_eq_true rfl) dX0_init_87 (fun H locs hP hD hS => ?_)
  have hP : va_P D vwCl [(hF, .inr (0, [.ref hR, .null, .ref q1, .ref q2, .int (vI (0)), .int (vI (0)), .ref q3, .ref q4, .int (vI (0)), .int (vI (-1)), .int (vI (0)), .int (vI (0)), .int (vI (0)), .int (vI (0)), .int (vI (0))])), ia q1 cI (512) (fun _ => 0), ia q2 cI (512) (fun _ => 0), ia q3 cI (512) (fun _ => 0), ia q4 cI (512) (fun _ => 0)] H := hP
  have hD : va_D _ [(hF, .inr (0, [.ref hR, .null, .ref q1, .ref q2, .int (vI (0)), .int (vI (0)), .ref q3, .ref q4, .int (vI (0)), .int (vI (-1)), .int (vI (0)), .int (vI (0)), .int (vI (0)), .int (vI (0)), .int (vI (0))])), ia q1 cI (512) (fun _ => 0), ia q2 cI (512) (fun _ => 0), ia q3 cI (512) (fun _ => 0), ia q4 cI (512) (fun _ => 0)] := hD
  refine lv_aload_n hx hb dX0_init_90 rfl (lv_at hl 0 rfl) ?_
  refine lv_aload_n hx hb dX0_init_91 rfl (lv_at hl 2 rfl) ?_
  refine va_putF (D := D) (ci := 0) (v := .ref hL) (ty := .object "MatchSeeker$Rule") (C := RX0) (T := TX0) (N := 15) hx hb hts iwX0 tyX0 tyX0_ok nmX0 hown hK hP hD hS 0 rfl rfl 1 (by decide) (hts _ aw_101) (fun _ h9 => h9) rfl hnm rfl (by decide +kernel) rfl rfl (Nat.le_of_ble_eq_true rfl) dX0_init_92 (fun H locs hP hD hS => ?_)
  have hP : va_P D vwCl [(hF, .inr (0, [.ref hR, .ref hL, .ref q1, .ref q2, .int (vI (0)), .int (vI (0)), .ref q3, .ref q4, .int (vI (0)), .int (vI (-1)), .int (vI (0)), .int (vI (0)), .int (vI (0)), .int (vI (0)), .int (vI (0))])), ia q1 cI (512) (fun _ => 0), ia q2 cI (512) (fun _ => 0), ia q3 cI (512) (fun _ => 0), ia q4 cI (512) (fun _ => 0)] H := hP
  have hD : va_D _ [(hF, .inr (0, [.ref hR, .ref hL, .ref q1, .ref q2, .int (vI (0)), .int (vI (0)), .ref q3, .ref q4, .int (vI (0)), .int (vI (-1)), .int (vI (0)), .int (vI (0)), .int (vI (0)), .int (vI (0)), .int (vI (0))])), ia q1 cI (512) (fun _ => 0), ia q2 cI (512) (fun _ => 0), ia q3 cI (512) (fun _ => 0), ia q4 cI (512) (fun _ => 0)] := hD
  refine W.widen (k := 4) (n := 2048) (by omega) (by omega) ?_
  exact zr_v hx hb hr hlocks ((q1, q2, q3, q4)) trivial hP hD hS dX0_init_95

set_option maxRecDepth 100000 in
set_option maxHeartbeats 4000000 in
theorem c_X0_expectAtMost (l : Launch) (D : va_G) (cI cB : ClassId) (sz : Nat) (hF : Nat) (hR : Nat) (hL : Nat) (aL : Nat) (aK : Nat) (aS : Nat) (aT : Nat) (lk : Nat) (ll : Nat) (plc : Int) (cand : Int) (low : Int) (lim : Int) (beat : Int) (ln : Int) (dist : Int) (v : Int) (h1 : -2147483648 ≤ lim ∧ lim < 2147483648) (h2 : -2147483648 ≤ v ∧ v < 2147483648) : Met l yX0_expectAtMost wsX0_expectAtMost ({ frames := 1, cells := 0, slots := 0, locals := 21 } : Room) (va_Pc [.ref hF, .int (vI (v))] (zPre D vwCl [(cI, .int), (cB, .byte)] [(hF, .inr (0, [.ref hR, .ref hL, .ref aL, .ref aK, .int (vI ((lk : Nat) : Int)), .int (vI ((ll : Nat) : Int)), .ref aS, .ref aT, .int (vI (plc)), .int (vI (cand)), .int (vI (low)), .int (vI (lim)), .int (vI (beat)), .int (vI (ln)), .int (vI (dist))]))] sz)) (va_Qv (S := Unit) (fun _ => True) (fun (u : Unit) t => zB D vwCl (va_A [(hF, .inr (0, [.ref hR, .ref hL, .ref aL, .ref aK, .int (vI ((lk : Nat) : Int)), .int (vI ((ll : Nat) : Int)), .ref aS, .ref aT, .int (vI (plc)), .int (vI (cand)), .int (vI (low)), .int (vI (lim)), .int (vI (beat)), .int (vI (ln)), .int (vI (dist))]))] sz) ((fun _ => [(hF, .inr (0, [.ref hR, .ref hL, .ref aL, .ref aK, .int (vI ((lk : Nat) : Int)), .int (vI ((ll : Nat) : Int)), .ref aS, .ref aT, .int (vI (plc)), .int (vI (cand)), .int (vI (low)), .int (vI (min lim v)), .int (vI (beat)), .int (vI (ln)), .int (vI (dist))]))] : Unit → va_W) u) t) (va_A [(hF, .inr (0, [.ref hR, .ref hL, .ref aL, .ref aK, .int (vI ((lk : Nat) : Int)), .int (vI ((ll : Nat) : Int)), .ref aS, .ref aT, .int (vI (plc)), .int (vI (cand)), .int (vI (low)), .int (vI (lim)), .int (vI (beat)), .int (vI (ln)), .int (vI (dist))]))] sz)) (0) (0) (va_A [(hF, .inr (0, [.ref hR, .ref hL, .ref aL, .ref aK, .int (vI ((lk : Nat) : Int)), .int (vI ((ll : Nat) : Int)), .ref aS, .ref aT, .int (vI (plc)), .int (vI (cand)), .int (vI (low)), .int (vI (lim)), .int (vI (beat)), .int (vI (ln)), .int (vI (dist))]))] sz) := by
  refine zMet (by decide) rfl (Nat.le_of_ble_eq_true rfl) (fun p e s m below meth c hx hb hr hts hown hlocks hnm hml hK hns hA hP hD hS ls hl => ?_)
  have hl : lv_has ls 2 [(0, .ref hF), (1, .int (vI (v)))] := hl
  have hRf : 1 ≤ ({ frames := 1, cells := 0, slots := 0, locals := 21 } : Room).frames := Nat.le_refl _
  have hRl : 21 ≤ ({ frames := 1, cells := 0, slots := 0, locals := 21 } : Room).locals := Nat.le_refl _
  have hRc : 0 ≤ ({ frames := 1, cells := 0, slots := 0, locals := 21 } : Room).cells := Nat.zero_le _
  have hRs : 0 ≤ ({ frames := 1, cells := 0, slots := 0, locals := 21 } : Room).slots := Nat.zero_le _
  refine lv_aload_n hx hb dX0_expectAtMost_0 rfl (lv_at hl 0 rfl) ?_
  refine lv_aload_n hx hb dX0_expectAtMost_1 rfl (lv_at hl 0 rfl) ?_
  refine va_get (D := D) (ci := 0) (v := .int (vI (lim))) (C := RX0) (T := TX0) (N := 15) hx hb hts iwX0 hown hK hP 0 rfl rfl 11 (by decide) (hts _ aw_111) (fun _ h9 => h9) rfl dX0_expectAtMost_2 ?_
  refine lv_iload_n hx hb dX0_expectAtMost_5 rfl (lv_at hl 1 rfl) ?_
  refine va_mmin hx hb (hml.trans hl.1.symm) hown (hts _ aw_385) (hts _ aw_316) (hts _ aw_9) (hts _ aw_317) (Nat.le_trans (Nat.le_of_ble_eq_true rfl) hRf) (Nat.le_trans (Nat.le_of_ble_eq_true rfl) hRl) hRc hRs dX0_expectAtMost_6 ?_
  refine zw_as (vI_min ⟨by omega, by omega⟩ ⟨by omega, by omega⟩) ?_
  refine va_put (D := D) (ci := 0) (v := .int (vI (min lim v))) (ty := .int) (C := RX0) (T := TX0) (N := 15) hx hb hts iwX0 tyX0 tyX0_ok nmX0 hown hK hP hD hS 0 rfl rfl 11 (by decide) (hts _ aw_111) (fun _ h9 => h9) rfl (by decide +kernel) rfl rfl (Nat.le_of_ble_eq_true rfl) dX0_expectAtMost_9 (fun H locs hP hD hS => ?_)
  have hP : va_P D vwCl [(hF, .inr (0, [.ref hR, .ref hL, .ref aL, .ref aK, .int (vI ((lk : Nat) : Int)), .int (vI ((ll : Nat) : Int)), .ref aS, .ref aT, .int (vI (plc)), .int (vI (cand)), .int (vI (low)), .int (vI (min lim v)), .int (vI (beat)), .int (vI (ln)), .int (vI (dist))]))] H := hP
  have hD : va_D _ [(hF, .inr (0, [.ref hR, .ref hL, .ref aL, .ref aK, .int (vI ((lk : Nat) : Int)), .int (vI ((ll : Nat) : Int)), .ref aS, .ref aT, .int (vI (plc)), .int (vI (cand)), .int (vI (low)), .int (vI (min lim v)), .int (vI (beat)), .int (vI (ln)), .int (vI (dist))]))] := hD
  exact zr_v hx hb hr hlocks (()) trivial hP hD hS dX0_expectAtMost_12

set_option maxRecDepth 100000 in
set_option maxHeartbeats 4000000 in
theorem s_read {p : Program} {l : Launch} {e : Env} {R : Room} {s : State} {m : MethodId} {args : Array Value} {below : List Frame} {meth : Method} {c : Code} {Q : State → Prop} {A : Nat → Prop} {H0 : Heap} {D : va_G} {cI cB : ClassId} {cells slots : Nat} (hx : p.tables.exec = Jvm.exec) (hb : c.code = cX0_readData) (hts : ∀ w ∈ zALL, w.before args s = true) (hown : s.vm.findClass RX0 = some m.cls) (hml : c.maxLocals = 2) (hK : va_K D vwCl [(cI, .int), (cB, .byte)] s) (hns : zNs s) (hA : ∀ q, H0.size ≤ q → A q) (hRf : 1 ≤ R.frames) (hRl : 24 ≤ R.locals) (hRc : cells ≤ R.cells) (hRs : slots ≤ R.slots) (hF : Nat) (hR : Nat) (hL : Nat) (aL : Nat) (aK : Nat) (aS : Nat) (aT : Nat) (aB : Nat) (ll : Nat) (n : Nat) (pa : Nat) (NB : Nat) (NS : Nat) (d : Nat → Int) (plc : Int) (cand : Int) (low : Int) (lim : Int) (beat : Int) (ln : Int) (dist : Int) (way : Nat) (win : Nat) (least : Nat) (cap : Nat) (ga : Nat) (gb : Nat) (lp : Nat) (mp : Nat) (gS : Nat → Int) (gT : Nat → Int) (h1 : ll = least ∧ 3 ≤ least ∧ least ≤ 8 ∧ n ≤ NB ∧ NB ≤ 32768 ∧ n ≤ NS ∧ NS ≤ 32768) (hNS : NS = 512 ∨ NS = 4096 ∨ NS = 32768) (hby : ∀ j, -128 ≤ d j ∧ d j < 128)
    (K1 : ∀ (lk : Nat) (gL : Nat → Int) (gK : Nat → Int) (H : Heap) (locs : List Loc) (ls : Array Slot), (lk ≤ n ∧ (lk = 0 ∨ lk + least ≤ n + 1) ∧ n < lk + least) → (zLink d ll NS lk gL gK) → va_P D vwCl [(hF, .inr (0, [.ref hR, .ref hL, .ref aL, .ref aK, .int (vI ((lk : Nat) : Int)), .int (vI ((ll : Nat) : Int)), .ref aS, .ref aT, .int (vI (plc)), .int (vI (cand)), .int (vI (low)), .int (vI (lim)), .int (vI (beat)), .int (vI (ln)), .int (vI (dist))])), (hR, .inr (3, [.ref aB, .int (vI ((n : Nat) : Int)), .int (vI ((pa : Nat) : Int))])), ia aB cB (NB) (d), (hL, .inr (4, [.int (vI ((way : Nat) : Int)), .int (vI ((win : Nat) : Int)), .int (vI ((least : Nat) : Int)), .int (vI ((cap : Nat) : Int)), .int (vI ((ga : Nat) : Int)), .int (vI ((gb : Nat) : Int)), .int (vI ((lp : Nat) : Int)), .int (vI ((mp : Nat) : Int))])), ia aL cI (NS) (gL), ia aK cI (NS) (gK), ia aS cI (NS) (gS), ia aT cI (NS) (gT)] H → va_D A [(hF, .inr (0, [.ref hR, .ref hL, .ref aL, .ref aK, .int (vI ((lk : Nat) : Int)), .int (vI ((ll : Nat) : Int)), .ref aS, .ref aT, .int (vI (plc)), .int (vI (cand)), .int (vI (low)), .int (vI (lim)), .int (vI (beat)), .int (vI (ln)), .int (vI (dist))])), (hR, .inr (3, [.ref aB, .int (vI ((n : Nat) : Int)), .int (vI ((pa : Nat) : Int))])), ia aB cB (NB) (d), (hL, .inr (4, [.int (vI ((way : Nat) : Int)), .int (vI ((win : Nat) : Int)), .int (vI ((least : Nat) : Int)), .int (vI ((cap : Nat) : Int)), .int (vI ((ga : Nat) : Int)), .int (vI ((gb : Nat) : Int)), .int (vI ((lp : Nat) : Int)), .int (vI ((mp : Nat) : Int))])), ia aL cI (NS) (gL), ia aK cI (NS) (gK), ia aS cI (NS) (gS), ia aT cI (NS) (gT)] → va_S A H0 H locs → lv_has ls 2 [] → W p l e R s m args below meth c H locs cells slots Q (F0 m 113 ls []))
    : ∀ (fuel : Nat), ∀ (lk : Nat) (gL : Nat → Int) (gK : Nat → Int) (_ : n + 1 - lk < fuel) (H : Heap) (locs : List Loc) (ls : Array Slot), (lk ≤ n ∧ (lk = 0 ∨ lk + least ≤ n + 1)) → (zLink d ll NS lk gL gK) → va_P D vwCl [(hF, .inr (0, [.ref hR, .ref hL, .ref aL, .ref aK, .int (vI ((lk : Nat) : Int)), .int (vI ((ll : Nat) : Int)), .ref aS, .ref aT, .int (vI (plc)), .int (vI (cand)), .int (vI (low)), .int (vI (lim)), .int (vI (beat)), .int (vI (ln)), .int (vI (dist))])), (hR, .inr (3, [.ref aB, .int (vI ((n : Nat) : Int)), .int (vI ((pa : Nat) : Int))])), ia aB cB (NB) (d), (hL, .inr (4, [.int (vI ((way : Nat) : Int)), .int (vI ((win : Nat) : Int)), .int (vI ((least : Nat) : Int)), .int (vI ((cap : Nat) : Int)), .int (vI ((ga : Nat) : Int)), .int (vI ((gb : Nat) : Int)), .int (vI ((lp : Nat) : Int)), .int (vI ((mp : Nat) : Int))])), ia aL cI (NS) (gL), ia aK cI (NS) (gK), ia aS cI (NS) (gS), ia aT cI (NS) (gT)] H → va_D A [(hF, .inr (0, [.ref hR, .ref hL, .ref aL, .ref aK, .int (vI ((lk : Nat) : Int)), .int (vI ((ll : Nat) : Int)), .ref aS, .ref aT, .int (vI (plc)), .int (vI (cand)), .int (vI (low)), .int (vI (lim)), .int (vI (beat)), .int (vI (ln)), .int (vI (dist))])), (hR, .inr (3, [.ref aB, .int (vI ((n : Nat) : Int)), .int (vI ((pa : Nat) : Int))])), ia aB cB (NB) (d), (hL, .inr (4, [.int (vI ((way : Nat) : Int)), .int (vI ((win : Nat) : Int)), .int (vI ((least : Nat) : Int)), .int (vI ((cap : Nat) : Int)), .int (vI ((ga : Nat) : Int)), .int (vI ((gb : Nat) : Int)), .int (vI ((lp : Nat) : Int)), .int (vI ((mp : Nat) : Int))])), ia aL cI (NS) (gL), ia aK cI (NS) (gK), ia aS cI (NS) (gS), ia aT cI (NS) (gT)] → va_S A H0 H locs → lv_has ls 2 [(0, .ref hF)] → W p l e R s m args below meth c H locs cells slots Q (F0 m 47 ls []) := by
  intro fuel
  induction fuel with
  | zero =>
    intro lk gL gK hfuel
    exact absurd hfuel (Nat.not_lt_zero _)
  | succ fuel ih =>
    intro lk gL gK hfuel H locs ls hk hz hP hD hS hl
    refine lv_aload_n hx hb dX0_readData_47 rfl (lv_at hl 0 rfl) ?_
    refine va_get (D := D) (ci := 0) (v := .int (vI ((lk : Nat) : Int))) (C := RX0) (T := TX0) (N := 15) hx hb hts iwX0 hown hK hP 0 rfl rfl 4 (by decide) (hts _ aw_104) (fun _ h9 => h9) rfl dX0_readData_48 ?_
    refine lv_aload_n hx hb dX0_readData_51 rfl (lv_at hl 0 rfl) ?_
    refine va_get (D := D) (ci := 0) (v := .int (vI ((ll : Nat) : Int))) (C := RX0) (T := TX0) (N := 15) hx hb hts iwX0 hown hK hP 0 rfl rfl 5 (by decide) (hts _ aw_105) (fun _ h9 => h9) rfl dX0_readData_52 ?_
    refine zw_iadd hx hb dX0_readData_55 ?_
    refine zw_to (z2 := ((lk + ll : Nat) : Int)) (by omega) ?_
    refine lv_aload_n hx hb dX0_readData_56 rfl (lv_at hl 0 rfl) ?_
    refine va_get (D := D) (ci := 0) (v := .ref hR) (C := RX0) (T := TX0) (N := 15) hx hb hts iwX0 hown hK hP 0 rfl rfl 0 (by decide) (hts _ aw_100) (fun _ h9 => h9) rfl dX0_readData_57 ?_
    refine va_getN (D := D) (ci := 3) (v := .int (vI ((n : Nat) : Int))) (C := RX3) (T := TX3) (N := 3) hx hb hts iwX3 hown hK hP 1 rfl rfl 1 (by decide) (va_Nw.use rfl (hns _ nw_32)) (fun _ h9 => h9) rfl dX0_readData_60 ?_
    refine zw_icmp_gt (tgt := 113) hx hb dX0_readData_63 (by decide) ⟨by omega, by omega⟩ ⟨by omega, by omega⟩ (fun c_63 => ?_) (fun c_63 => ?_)
    · exact K1 lk gL gK _ _ _ (by omega) (hz) (hP.sub [0, 1, 2, 3, 4, 5, 6, 7] rfl) (hD.sub [0, 1, 2, 3, 4, 5, 6, 7] (by decide) rfl) hS (lv_sub hl [] rfl)
    · refine lv_aload_n hx hb dX0_readData_66 rfl (lv_at hl 0 rfl) ?_
      refine lv_aload_n hx hb dX0_readData_67 rfl (lv_at hl 0 rfl) ?_
      refine va_get (D := D) (ci := 0) (v := .int (vI ((lk : Nat) : Int))) (C := RX0) (T := TX0) (N := 15) hx hb hts iwX0 hown hK hP 0 rfl rfl 4 (by decide) (hts _ aw_104) (fun _ h9 => h9) rfl dX0_readData_68 ?_
      have hPc := hP.sub (ws' := [(hF, .inr (0, [.ref hR, .ref hL, .ref aL, .ref aK, .int (vI ((lk : Nat) : Int)), .int (vI ((ll : Nat) : Int)), .ref aS, .ref aT, .int (vI (plc)), .int (vI (cand)), .int (vI (low)), .int (vI (lim)), .int (vI (beat)), .int (vI (ln)), .int (vI (dist))])), (hR, .inr (3, [.ref aB, .int (vI ((n : Nat) : Int)), .int (vI ((pa : Nat) : Int))])), ia aB cB (NB) (d), ia aL cI (NS) (gL)]) [0, 1, 2, 4] rfl
      have hDc := hD.sub (ws' := [(hF, .inr (0, [.ref hR, .ref hL, .ref aL, .ref aK, .int (vI ((lk : Nat) : Int)), .int (vI ((ll : Nat) : Int)), .ref aS, .ref aT, .int (vI (plc)), .int (vI (cand)), .int (vI (low)), .int (vI (lim)), .int (vI (beat)), .int (vI (ln)), .int (vI (dist))])), (hR, .inr (3, [.ref aB, .int (vI ((n : Nat) : Int)), .int (vI ((pa : Nat) : Int))])), ia aB cB (NB) (d), ia aL cI (NS) (gL)]) [0, 1, 2, 4] (by decide) rfl
      refine zc_i (wr := [(hL, .inr (4, [.int (vI ((way : Nat) : Int)), .int (vI ((win : Nat) : Int)), .int (vI ((least : Nat) : Int)), .int (vI ((cap : Nat) : Int)), .int (vI ((ga : Nat) : Int)), .int (vI ((gb : Nat) : Int)), .int (vI ((lp : Nat) : Int)), .int (vI ((mp : Nat) : Int))])), ia aK cI (NS) (gK), ia aS cI (NS) (gS), ia aT cI (NS) (gT)]) (va_runV (As := [.int (vI ((lk : Nat) : Int))]) (rest := []) ⟨hx, hb, hml, hown, hts⟩ (c_X0_slotOf l D cI cB _ hF hR hL aL aK aS aT aB lk ll n pa NB NS d plc cand low lim beat ln dist gL lk (by omega) (hNS) (hby)) ⟨callB_of 1 hts (zg kX0_slotOf) rfl rfl rfl (hts _ aw_4) (hts _ aw_360) (by decide +kernel) ⟨Nat.le_trans (Nat.le_of_ble_eq_true rfl) hRf, Nat.le_trans (Nat.le_of_ble_eq_true rfl) hRl⟩, (hts _ aw_362), (hts _ as_11)⟩ ⟨zPre_blind, va_recv hK hPc (ci := 0) (q0 := 0) rfl rfl, zPre_of hK hns hPc hDc⟩ rfl rfl hl.1 rfl (lv_room (Nat.le_of_ble_eq_true rfl)) dX0_readData_71 ⟨hRc, hRs⟩) hP hD hS hA [0, 1, 2, 4] [3, 5, 6, 7] rfl rfl (by decide) (by decide) (fun r _u H locs hpost hP hD hS => ?_)
      obtain ⟨rfl, hs_71⟩ := hpost
      have hP : va_P D vwCl [(hL, .inr (4, [.int (vI ((way : Nat) : Int)), .int (vI ((win : Nat) : Int)), .int (vI ((least : Nat) : Int)), .int (vI ((cap : Nat) : Int)), .int (vI ((ga : Nat) : Int)), .int (vI ((gb : Nat) : Int)), .int (vI ((lp : Nat) : Int)), .int (vI ((mp : Nat) : Int))])), ia aK cI (NS) (gK), ia aS cI (NS) (gS), ia aT cI (NS) (gT), (hF, .inr (0, [.ref hR, .ref hL, .ref aL, .ref aK, .int (vI ((lk : Nat) : Int)), .int (vI ((ll : Nat) : Int)), .ref aS, .ref aT, .int (vI (plc)), .int (vI (cand)), .int (vI (low)), .int (vI (lim)), .int (vI (beat)), .int (vI (ln)), .int (vI (dist))])), (hR, .inr (3, [.ref aB, .int (vI ((n : Nat) : Int)), .int (vI ((pa : Nat) : Int))])), ia aB cB (NB) (d), ia aL cI (NS) (gL)] H := hP
      have hD : va_D _ [(hL, .inr (4, [.int (vI ((way : Nat) : Int)), .int (vI ((win : Nat) : Int)), .int (vI ((least : Nat) : Int)), .int (vI ((cap : Nat) : Int)), .int (vI ((ga : Nat) : Int)), .int (vI ((gb : Nat) : Int)), .int (vI ((lp : Nat) : Int)), .int (vI ((mp : Nat) : Int))])), ia aK cI (NS) (gK), ia aS cI (NS) (gS), ia aT cI (NS) (gT), (hF, .inr (0, [.ref hR, .ref hL, .ref aL, .ref aK, .int (vI ((lk : Nat) : Int)), .int (vI ((ll : Nat) : Int)), .ref aS, .ref aT, .int (vI (plc)), .int (vI (cand)), .int (vI (low)), .int (vI (lim)), .int (vI (beat)), .int (vI (ln)), .int (vI (dist))])), (hR, .inr (3, [.ref aB, .int (vI ((n : Nat) : Int)), .int (vI ((pa : Nat) : Int))])), ia aB cB (NB) (d), ia aL cI (NS) (gL)] := hD
      refine lv_istore_n (lv' := [(1, .int (vI ((zslot d ll NS lk : Nat) : Int))), (0, .ref hF)]) hx hb dX0_readData_74 rfl hl (by decide) rfl (fun ls hl => ?_)
      refine lv_aload_n hx hb dX0_readData_75 rfl (lv_at hl 1 rfl) ?_
      refine va_get (D := D) (ci := 0) (v := .ref aK) (C := RX0) (T := TX0) (N := 15) hx hb hts iwX0 hown hK hP 4 rfl rfl 3 (by decide) (hts _ aw_103) (fun _ h9 => h9) rfl dX0_readData_76 ?_
      refine lv_aload_n hx hb dX0_readData_79 rfl (lv_at hl 1 rfl) ?_
      refine va_get (D := D) (ci := 0) (v := .int (vI ((lk : Nat) : Int))) (C := RX0) (T := TX0) (N := 15) hx hb hts iwX0 hown hK hP 4 rfl rfl 4 (by decide) (hts _ aw_104) (fun _ h9 => h9) rfl dX0_readData_80 ?_
      refine lv_aload_n hx hb dX0_readData_83 rfl (lv_at hl 1 rfl) ?_
      refine va_get (D := D) (ci := 0) (v := .ref aL) (C := RX0) (T := TX0) (N := 15) hx hb hts iwX0 hown hK hP 4 rfl rfl 2 (by decide) (hts _ aw_102) (fun _ h9 => h9) rfl dX0_readData_84 ?_
      refine lv_iload_n hx hb dX0_readData_87 rfl (lv_at hl 0 rfl) ?_
      refine zw_iald hx hb hK hP 7 0 rfl rfl (zslot d ll NS lk) (by omega) (hs_71) (by omega) dX0_readData_88 ?_
      refine zw_iast hx hb hK hP hD hS 1 0 rfl rfl (lk) (by omega) (by omega) (by omega) dX0_readData_89 (fun H locs hP hD hS => ?_)
      have hP : va_P D vwCl [(hL, .inr (4, [.int (vI ((way : Nat) : Int)), .int (vI ((win : Nat) : Int)), .int (vI ((least : Nat) : Int)), .int (vI ((cap : Nat) : Int)), .int (vI ((ga : Nat) : Int)), .int (vI ((gb : Nat) : Int)), .int (vI ((lp : Nat) : Int)), .int (vI ((mp : Nat) : Int))])), ia aK cI (NS) (zU gK lk (gL (zslot d ll NS lk))), ia aS cI (NS) (gS), ia aT cI (NS) (gT), (hF, .inr (0, [.ref hR, .ref hL, .ref aL, .ref aK, .int (vI ((lk : Nat) : Int)), .int (vI ((ll : Nat) : Int)), .ref aS, .ref aT, .int (vI (plc)), .int (vI (cand)), .int (vI (low)), .int (vI (lim)), .int (vI (beat)), .int (vI (ln)), .int (vI (dist))])), (hR, .inr (3, [.ref aB, .int (vI ((n : Nat) : Int)), .int (vI ((pa : Nat) : Int))])), ia aB cB (NB) (d), ia aL cI (NS) (gL)] H := hP
      have hD : va_D _ [(hL, .inr (4, [.int (vI ((way : Nat) : Int)), .int (vI ((win : Nat) : Int)), .int (vI ((least : Nat) : Int)), .int (vI ((cap : Nat) : Int)), .int (vI ((ga : Nat) : Int)), .int (vI ((gb : Nat) : Int)), .int (vI ((lp : Nat) : Int)), .int (vI ((mp : Nat) : Int))])), ia aK cI (NS) (zU gK lk (gL (zslot d ll NS lk))), ia aS cI (NS) (gS), ia aT cI (NS) (gT), (hF, .inr (0, [.ref hR, .ref hL, .ref aL, .ref aK, .int (vI ((lk : Nat) : Int)), .int (vI ((ll : Nat) : Int)), .ref aS, .ref aT, .int (vI (plc)), .int (vI (cand)), .int (vI (low)), .int (vI (lim)), .int (vI (beat)), .int (vI (ln)), .int (vI (dist))])), (hR, .inr (3, [.ref aB, .int (vI ((n : Nat) : Int)), .int (vI ((pa : Nat) : Int))])), ia aB cB (NB) (d), ia aL cI (NS) (gL)] := hD
      refine lv_aload_n hx hb dX0_readData_90 rfl (lv_at hl 1 rfl) ?_
      refine va_get (D := D) (ci := 0) (v := .ref aL) (C := RX0) (T := TX0) (N := 15) hx hb hts iwX0 hown hK hP 4 rfl rfl 2 (by decide) (hts _ aw_102) (fun _ h9 => h9) rfl dX0_readData_91 ?_
      refine lv_iload_n hx hb dX0_readData_94 rfl (lv_at hl 0 rfl) ?_
      refine lv_aload_n hx hb dX0_readData_95 rfl (lv_at hl 1 rfl) ?_
      refine va_get (D := D) (ci := 0) (v := .int (vI ((lk : Nat) : Int))) (C := RX0) (T := TX0) (N := 15) hx hb hts iwX0 hown hK hP 4 rfl rfl 4 (by decide) (hts _ aw_104) (fun _ h9 => h9) rfl dX0_readData_96 ?_
      refine zw_iast hx hb hK hP hD hS 7 0 rfl rfl (zslot d ll NS lk) (by omega) (hs_71) (by omega) dX0_readData_99 (fun H locs hP hD hS => ?_)
      have hP : va_P D vwCl [(hL, .inr (4, [.int (vI ((way : Nat) : Int)), .int (vI ((win : Nat) : Int)), .int (vI ((least : Nat) : Int)), .int (vI ((cap : Nat) : Int)), .int (vI ((ga : Nat) : Int)), .int (vI ((gb : Nat) : Int)), .int (vI ((lp : Nat) : Int)), .int (vI ((mp : Nat) : Int))])), ia aK cI (NS) (zU gK lk (gL (zslot d ll NS lk))), ia aS cI (NS) (gS), ia aT cI (NS) (gT), (hF, .inr (0, [.ref hR, .ref hL, .ref aL, .ref aK, .int (vI ((lk : Nat) : Int)), .int (vI ((ll : Nat) : Int)), .ref aS, .ref aT, .int (vI (plc)), .int (vI (cand)), .int (vI (low)), .int (vI (lim)), .int (vI (beat)), .int (vI (ln)), .int (vI (dist))])), (hR, .inr (3, [.ref aB, .int (vI ((n : Nat) : Int)), .int (vI ((pa : Nat) : Int))])), ia aB cB (NB) (d), ia aL cI (NS) (zU gL (zslot d ll NS lk) ((lk : Nat) : Int))] H := hP
      have hD : va_D _ [(hL, .inr (4, [.int (vI ((way : Nat) : Int)), .int (vI ((win : Nat) : Int)), .int (vI ((least : Nat) : Int)), .int (vI ((cap : Nat) : Int)), .int (vI ((ga : Nat) : Int)), .int (vI ((gb : Nat) : Int)), .int (vI ((lp : Nat) : Int)), .int (vI ((mp : Nat) : Int))])), ia aK cI (NS) (zU gK lk (gL (zslot d ll NS lk))), ia aS cI (NS) (gS), ia aT cI (NS) (gT), (hF, .inr (0, [.ref hR, .ref hL, .ref aL, .ref aK, .int (vI ((lk : Nat) : Int)), .int (vI ((ll : Nat) : Int)), .ref aS, .ref aT, .int (vI (plc)), .int (vI (cand)), .int (vI (low)), .int (vI (lim)), .int (vI (beat)), .int (vI (ln)), .int (vI (dist))])), (hR, .inr (3, [.ref aB, .int (vI ((n : Nat) : Int)), .int (vI ((pa : Nat) : Int))])), ia aB cB (NB) (d), ia aL cI (NS) (zU gL (zslot d ll NS lk) ((lk : Nat) : Int))] := hD
      refine lv_aload_n hx hb dX0_readData_100 rfl (lv_at hl 1 rfl) ?_
      refine lv_dup hx hb dX0_readData_101 rfl ?_
      refine va_get (D := D) (ci := 0) (v := .int (vI ((lk : Nat) : Int))) (C := RX0) (T := TX0) (N := 15) hx hb hts iwX0 hown hK hP 4 rfl rfl 4 (by decide) (hts _ aw_104) (fun _ h9 => h9) rfl dX0_readData_102 ?_
      refine zw_iconst hx hb dX0_readData_105 ?_
      refine zw_iadd hx hb dX0_readData_106 ?_
      refine zw_to (z2 := ((lk + 1 : Nat) : Int)) (by omega) ?_
      refine va_put (D := D) (ci := 0) (v := .int (vI ((lk + 1 : Nat) : Int))) (ty := .int) (C := RX0) (T := TX0) (N := 15) hx hb hts iwX0 tyX0 tyX0_ok nmX0 hown hK hP hD hS 4 rfl rfl 4 (by decide) (hts _ aw_104) (fun _ h9 => h9) rfl (by decide +kernel) rfl rfl (Nat.le_of_ble_eq_true rfl) dX0_readData_107 (fun H locs hP hD hS => ?_)
      have hP : va_P D vwCl [(hL, .inr (4, [.int (vI ((way : Nat) : Int)), .int (vI ((win : Nat) : Int)), .int (vI ((least : Nat) : Int)), .int (vI ((cap : Nat) : Int)), .int (vI ((ga : Nat) : Int)), .int (vI ((gb : Nat) : Int)), .int (vI ((lp : Nat) : Int)), .int (vI ((mp : Nat) : Int))])), ia aK cI (NS) (zU gK lk (gL (zslot d ll NS lk))), ia aS cI (NS) (gS), ia aT cI (NS) (gT), (hF, .inr (0, [.ref hR, .ref hL, .ref aL, .ref aK, .int (vI ((lk + 1 : Nat) : Int)), .int (vI ((ll : Nat) : Int)), .ref aS, .ref aT, .int (vI (plc)), .int (vI (cand)), .int (vI (low)), .int (vI (lim)), .int (vI (beat)), .int (vI (ln)), .int (vI (dist))])), (hR, .inr (3, [.ref aB, .int (vI ((n : Nat) : Int)), .int (vI ((pa : Nat) : Int))])), ia aB cB (NB) (d), ia aL cI (NS) (zU gL (zslot d ll NS lk) ((lk : Nat) : Int))] H := hP
      have hD : va_D _ [(hL, .inr (4, [.int (vI ((way : Nat) : Int)), .int (vI ((win : Nat) : Int)), .int (vI ((least : Nat) : Int)), .int (vI ((cap : Nat) : Int)), .int (vI ((ga : Nat) : Int)), .int (vI ((gb : Nat) : Int)), .int (vI ((lp : Nat) : Int)), .int (vI ((mp : Nat) : Int))])), ia aK cI (NS) (zU gK lk (gL (zslot d ll NS lk))), ia aS cI (NS) (gS), ia aT cI (NS) (gT), (hF, .inr (0, [.ref hR, .ref hL, .ref aL, .ref aK, .int (vI ((lk + 1 : Nat) : Int)), .int (vI ((ll : Nat) : Int)), .ref aS, .ref aT, .int (vI (plc)), .int (vI (cand)), .int (vI (low)), .int (vI (lim)), .int (vI (beat)), .int (vI (ln)), .int (vI (dist))])), (hR, .inr (3, [.ref aB, .int (vI ((n : Nat) : Int)), .int (vI ((pa : Nat) : Int))])), ia aB cB (NB) (d), ia aL cI (NS) (zU gL (zslot d ll NS lk) ((lk : Nat) : Int))] := hD
      refine lv_goto (tgt := 47) hx hb dX0_readData_110 (by decide) ?_
      exact ih (lk + 1) (zU gL (zslot d ll NS lk) ((lk : Nat) : Int)) (zU gK lk (gL (zslot d ll NS lk))) (by omega) _ _ _ (by omega) (zlink_step hz hs_71) (hP.sub [4, 5, 6, 0, 7, 1, 2, 3] rfl) (hD.sub [4, 5, 6, 0, 7, 1, 2, 3] (by decide) rfl) hS (lv_sub hl [1] rfl)

set_option maxRecDepth 100000 in
set_option maxHeartbeats 4000000 in
theorem c_X0_readData (l : Launch) (D : va_G) (cI cB : ClassId) (sz : Nat) (hF : Nat) (hR : Nat) (hL : Nat) (aL : Nat) (aK : Nat) (aS : Nat) (aT : Nat) (aB : Nat) (lk : Nat) (ll : Nat) (n : Nat) (pa : Nat) (NB : Nat) (NS : Nat) (d : Nat → Int) (plc : Int) (cand : Int) (low : Int) (lim : Int) (beat : Int) (ln : Int) (dist : Int) (way : Nat) (win : Nat) (least : Nat) (cap : Nat) (ga : Nat) (gb : Nat) (lp : Nat) (mp : Nat) (gL : Nat → Int) (gK : Nat → Int) (gS : Nat → Int) (gT : Nat → Int) (h1 : 3 ≤ least ∧ least ≤ 8 ∧ n ≤ NB ∧ NB ≤ 32768) (hNS : NS = 512 ∨ NS = 4096 ∨ NS = 32768) (hI : zFI d n ll lk NS gL gK) (hM : zMemo d n NS gS gT) (hby : ∀ j, -128 ≤ d j ∧ d j < 128) : Met l yX0_readData wsX0_readData ({ frames := 3, cells := zmc4 NS n, slots := zms4 NS n, locals := 64 } : Room) (va_Pc [.ref hF] (zPre D vwCl [(cI, .int), (cB, .byte)] [(hF, .inr (0, [.ref hR, .ref hL, .ref aL, .ref aK, .int (vI ((lk : Nat) : Int)), .int (vI ((ll : Nat) : Int)), .ref aS, .ref aT, .int (vI (plc)), .int (vI (cand)), .int (vI (low)), .int (vI (lim)), .int (vI (beat)), .int (vI (ln)), .int (vI (dist))])), (hR, .inr (3, [.ref aB, .int (vI ((n : Nat) : Int)), .int (vI ((pa : Nat) : Int))])), ia aB cB (NB) (d), (hL, .inr (4, [.int (vI ((way : Nat) : Int)), .int (vI ((win : Nat) : Int)), .int (vI ((least : Nat) : Int)), .int (vI ((cap : Nat) : Int)), .int (vI ((ga : Nat) : Int)), .int (vI ((gb : Nat) : Int)), .int (vI ((lp : Nat) : Int)), .int (vI ((mp : Nat) : Int))])), ia aL cI (NS) (gL), ia aK cI (NS) (gK), ia aS cI (NS) (gS), ia aT cI (NS) (gT)] sz)) (va_Qv (S := Nat × Nat × Nat × Nat × Nat × Nat × (Nat → Int) × (Nat → Int) × (Nat → Int) × (Nat → Int)) (fun u => match u with | (aL2, aK2, aS2, aT2, NS2, lk2, gL2, gK2, gS2, gT2) => (NS2 = zNB NS n ∧ (NS2 = 512 ∨ NS2 = 4096 ∨ NS2 = 32768) ∧ n ≤ NS2) ∧ (zLink d least NS2 lk2 gL2 gK2) ∧ (lk2 ≤ n ∧ (lk2 = 0 ∨ lk2 + least ≤ n + 1) ∧ n < lk2 + least) ∧ (zMemo d n NS2 gS2 gT2)) (fun (u : Nat × Nat × Nat × Nat × Nat × Nat × (Nat → Int) × (Nat → Int) × (Nat → Int) × (Nat → Int)) t => zB D vwCl (va_A [(hF, .inr (0, [.ref hR, .ref hL, .ref aL, .ref aK, .int (vI ((lk : Nat) : Int)), .int (vI ((ll : Nat) : Int)), .ref aS, .ref aT, .int (vI (plc)), .int (vI (cand)), .int (vI (low)), .int (vI (lim)), .int (vI (beat)), .int (vI (ln)), .int (vI (dist))])), (hR, .inr (3, [.ref aB, .int (vI ((n : Nat) : Int)), .int (vI ((pa : Nat) : Int))])), ia aB cB (NB) (d), (hL, .inr (4, [.int (vI ((way : Nat) : Int)), .int (vI ((win : Nat) : Int)), .int (vI ((least : Nat) : Int)), .int (vI ((cap : Nat) : Int)), .int (vI ((ga : Nat) : Int)), .int (vI ((gb : Nat) : Int)), .int (vI ((lp : Nat) : Int)), .int (vI ((mp : Nat) : Int))])), ia aL cI (NS) (gL), ia aK cI (NS) (gK), ia aS cI (NS) (gS), ia aT cI (NS) (gT)] sz) ((fun u => match u with | (aL2, aK2, aS2, aT2, NS2, lk2, gL2, gK2, gS2, gT2) => [(hF, .inr (0, [.ref hR, .ref hL, .ref aL2, .ref aK2, .int (vI ((lk2 : Nat) : Int)), .int (vI ((least : Nat) : Int)), .ref aS2, .ref aT2, .int (vI (plc)), .int (vI (cand)), .int (vI (low)), .int (vI (lim)), .int (vI (beat)), .int (vI (ln)), .int (vI (dist))])), (hR, .inr (3, [.ref aB, .int (vI ((n : Nat) : Int)), .int (vI ((pa : Nat) : Int))])), ia aB cB (NB) (d), (hL, .inr (4, [.int (vI ((way : Nat) : Int)), .int (vI ((win : Nat) : Int)), .int (vI ((least : Nat) : Int)), .int (vI ((cap : Nat) : Int)), .int (vI ((ga : Nat) : Int)), .int (vI ((gb : Nat) : Int)), .int (vI ((lp : Nat) : Int)), .int (vI ((mp : Nat) : Int))])), ia aL2 cI (NS2) (gL2), ia aK2 cI (NS2) (gK2), ia aS2 cI (NS2) (gS2), ia aT2 cI (NS2) (gT2)] : Nat × Nat × Nat × Nat × Nat × Nat × (Nat → Int) × (Nat → Int) × (Nat → Int) × (Nat → Int) → va_W) u) t) (va_A [(hF, .inr (0, [.ref hR, .ref hL, .ref aL, .ref aK, .int (vI ((lk : Nat) : Int)), .int (vI ((ll : Nat) : Int)), .ref aS, .ref aT, .int (vI (plc)), .int (vI (cand)), .int (vI (low)), .int (vI (lim)), .int (vI (beat)), .int (vI (ln)), .int (vI (dist))])), (hR, .inr (3, [.ref aB, .int (vI ((n : Nat) : Int)), .int (vI ((pa : Nat) : Int))])), ia aB cB (NB) (d), (hL, .inr (4, [.int (vI ((way : Nat) : Int)), .int (vI ((win : Nat) : Int)), .int (vI ((least : Nat) : Int)), .int (vI ((cap : Nat) : Int)), .int (vI ((ga : Nat) : Int)), .int (vI ((gb : Nat) : Int)), .int (vI ((lp : Nat) : Int)), .int (vI ((mp : Nat) : Int))])), ia aL cI (NS) (gL), ia aK cI (NS) (gK), ia aS cI (NS) (gS), ia aT cI (NS) (gT)] sz)) (zmc4 NS n) (zms4 NS n) (va_A [(hF, .inr (0, [.ref hR, .ref hL, .ref aL, .ref aK, .int (vI ((lk : Nat) : Int)), .int (vI ((ll : Nat) : Int)), .ref aS, .ref aT, .int (vI (plc)), .int (vI (cand)), .int (vI (low)), .int (vI (lim)), .int (vI (beat)), .int (vI (ln)), .int (vI (dist))])), (hR, .inr (3, [.ref aB, .int (vI ((n : Nat) : Int)), .int (vI ((pa : Nat) : Int))])), ia aB cB (NB) (d), (hL, .inr (4, [.int (vI ((way : Nat) : Int)), .int (vI ((win : Nat) : Int)), .int (vI ((least : Nat) : Int)), .int (vI ((cap : Nat) : Int)), .int (vI ((ga : Nat) : Int)), .int (vI ((gb : Nat) : Int)), .int (vI ((lp : Nat) : Int)), .int (vI ((mp : Nat) : Int))])), ia aL cI (NS) (gL), ia aK cI (NS) (gK), ia aS cI (NS) (gS), ia aT cI (NS) (gT)] sz) := by
  refine zMet (by decide) rfl (Nat.le_of_ble_eq_true rfl) (fun p e s m below meth c hx hb hr hts hown hlocks hnm hml hK hns hA hP hD hS ls hl => ?_)
  have hl : lv_has ls 2 [(0, .ref hF)] := hl
  have hRf : 3 ≤ ({ frames := 3, cells := zmc4 NS n, slots := zms4 NS n, locals := 64 } : Room).frames := Nat.le_refl _
  have hRl : 64 ≤ ({ frames := 3, cells := zmc4 NS n, slots := zms4 NS n, locals := 64 } : Room).locals := Nat.le_refl _
  have hRc : 0 ≤ ({ frames := 3, cells := zmc4 NS n, slots := zms4 NS n, locals := 64 } : Room).cells := Nat.zero_le _
  have hRs : 0 ≤ ({ frames := 3, cells := zmc4 NS n, slots := zms4 NS n, locals := 64 } : Room).slots := Nat.zero_le _
  refine lv_aload_n hx hb dX0_readData_0 rfl (lv_at hl 0 rfl) ?_
  refine va_get (D := D) (ci := 0) (v := .ref aK) (C := RX0) (T := TX0) (N := 15) hx hb hts iwX0 hown hK hP 0 rfl rfl 3 (by decide) (hts _ aw_103) (fun _ h9 => h9) rfl dX0_readData_1 ?_
  refine zw_alen hx hb hK hP 5 0 rfl rfl dX0_readData_4 ?_
  refine lv_aload_n hx hb dX0_readData_5 rfl (lv_at hl 0 rfl) ?_
  refine va_get (D := D) (ci := 0) (v := .ref hR) (C := RX0) (T := TX0) (N := 15) hx hb hts iwX0 hown hK hP 0 rfl rfl 0 (by decide) (hts _ aw_100) (fun _ h9 => h9) rfl dX0_readData_6 ?_
  refine va_getN (D := D) (ci := 3) (v := .int (vI ((n : Nat) : Int))) (C := RX3) (T := TX3) (N := 3) hx hb hts iwX3 hown hK hP 1 rfl rfl 1 (by decide) (va_Nw.use rfl (hns _ nw_32)) (fun _ h9 => h9) rfl dX0_readData_9 ?_
  have hNS8 : NS ≤ 32768 := by omega
  refine zw_icmp_ge (tgt := 29) hx hb dX0_readData_12 (by decide) ⟨by omega, by omega⟩ ⟨by omega, by omega⟩ (fun c_12 => ?_) (fun c_12 => ?_)
  · refine lv_aload_n hx hb dX0_readData_29 rfl (lv_at hl 0 rfl) ?_
    refine va_get (D := D) (ci := 0) (v := .int (vI ((ll : Nat) : Int))) (C := RX0) (T := TX0) (N := 15) hx hb hts iwX0 hown hK hP 0 rfl rfl 5 (by decide) (hts _ aw_105) (fun _ h9 => h9) rfl dX0_readData_30 ?_
    refine lv_aload_n hx hb dX0_readData_33 rfl (lv_at hl 0 rfl) ?_
    refine va_get (D := D) (ci := 0) (v := .ref hL) (C := RX0) (T := TX0) (N := 15) hx hb hts iwX0 hown hK hP 0 rfl rfl 1 (by decide) (hts _ aw_101) (fun _ h9 => h9) rfl dX0_readData_34 ?_
    refine va_getN (D := D) (ci := 4) (v := .int (vI ((least : Nat) : Int))) (C := RX4) (T := TX4) (N := 8) hx hb hts iwX4 hown hK hP 3 rfl rfl 2 (by decide) (va_Nw.use rfl (hns _ nw_60)) (fun _ h9 => h9) rfl dX0_readData_37 ?_
    have hl8 : ll ≤ 8 := (zfi_ll hI)
    refine zw_icmp_eq (tgt := 47) hx hb dX0_readData_40 (by decide) ⟨by omega, by omega⟩ ⟨by omega, by omega⟩ (fun c_40 => ?_) (fun c_40 => ?_)
    · have el : ll = least := by omega
      obtain ⟨hk1, hz1⟩ := zfi_of hI (by omega)
      refine s_read hx hb hts hown hml hK hns hA (Nat.le_trans (Nat.le_of_ble_eq_true rfl) hRf) (Nat.le_trans (Nat.le_of_ble_eq_true rfl) hRl) hRc hRs hF hR hL aL aK aS aT aB ll n pa NB NS d plc cand low lim beat ln dist way win least cap ga gb lp mp gS gT (by omega) (hNS) (hby) (fun lk gL gK H locs ls hk hz hP hD hS hl => ?_) (n + 1 - lk + 1) lk gL gK (Nat.lt_succ_self _) _ _ _ (⟨by omega, by omega⟩) (hz1) (hP.sub [0, 1, 2, 3, 4, 5, 6, 7] rfl) (hD.sub [0, 1, 2, 3, 4, 5, 6, 7] (by decide) rfl) hS (lv_sub hl [0] rfl)
      subst el
      refine W.widen (k := zmc4 NS n) (n := zms4 NS n) (Nat.zero_le _) (Nat.zero_le _) ?_
      exact zr_v hx hb hr hlocks ((aL, aK, aS, aT, NS, lk, gL, gK, gS, gT)) ⟨⟨by unfold zNB; rw [if_neg (by omega)], hNS, by omega⟩, hz, hk, hM⟩ hP hD hS dX0_readData_113
    · refine lv_aload_n hx hb dX0_readData_43 rfl (lv_at hl 0 rfl) ?_
      have hPc := hP.sub (ws' := [(hF, .inr (0, [.ref hR, .ref hL, .ref aL, .ref aK, .int (vI ((lk : Nat) : Int)), .int (vI ((ll : Nat) : Int)), .ref aS, .ref aT, .int (vI (plc)), .int (vI (cand)), .int (vI (low)), .int (vI (lim)), .int (vI (beat)), .int (vI (ln)), .int (vI (dist))])), (hL, .inr (4, [.int (vI ((way : Nat) : Int)), .int (vI ((win : Nat) : Int)), .int (vI ((least : Nat) : Int)), .int (vI ((cap : Nat) : Int)), .int (vI ((ga : Nat) : Int)), .int (vI ((gb : Nat) : Int)), .int (vI ((lp : Nat) : Int)), .int (vI ((mp : Nat) : Int))])), ia aL cI (NS) (gL)]) [0, 3, 4] rfl
      have hDc := hD.sub (ws' := [(hF, .inr (0, [.ref hR, .ref hL, .ref aL, .ref aK, .int (vI ((lk : Nat) : Int)), .int (vI ((ll : Nat) : Int)), .ref aS, .ref aT, .int (vI (plc)), .int (vI (cand)), .int (vI (low)), .int (vI (lim)), .int (vI (beat)), .int (vI (ln)), .int (vI (dist))])), (hL, .inr (4, [.int (vI ((way : Nat) : Int)), .int (vI ((win : Nat) : Int)), .int (vI ((least : Nat) : Int)), .int (vI ((cap : Nat) : Int)), .int (vI ((ga : Nat) : Int)), .int (vI ((gb : Nat) : Int)), .int (vI ((lp : Nat) : Int)), .int (vI ((mp : Nat) : Int))])), ia aL cI (NS) (gL)]) [0, 3, 4] (by decide) rfl
      refine zc_v (wr := [(hR, .inr (3, [.ref aB, .int (vI ((n : Nat) : Int)), .int (vI ((pa : Nat) : Int))])), ia aB cB (NB) (d), ia aK cI (NS) (gK), ia aS cI (NS) (gS), ia aT cI (NS) (gT)]) (va_runV (As := []) (rest := []) ⟨hx, hb, hml, hown, hts⟩ (c_X0_unlink l D cI cB _ hF hR hL aL aK aS aT lk ll plc cand low lim beat ln dist way win least cap ga gb lp mp NS gL (by omega)) ⟨callB_of 0 hts (zg kX0_unlink) rfl rfl rfl (hts _ aw_4) (hts _ aw_270) (by decide +kernel) ⟨Nat.le_trans (Nat.le_of_ble_eq_true rfl) hRf, Nat.le_trans (Nat.le_of_ble_eq_true rfl) hRl⟩, (hts _ aw_272), (hts _ as_2)⟩ ⟨zPre_blind, va_recv hK hPc (ci := 0) (q0 := 0) rfl rfl, zPre_of hK hns hPc hDc⟩ rfl rfl hl.1 rfl (lv_room (Nat.le_of_ble_eq_true rfl)) dX0_readData_44 ⟨hRc, hRs⟩) hP hD hS hA [0, 3, 4] [1, 2, 5, 6, 7] rfl rfl (by decide) (by decide) (fun gL2_44 H locs hpost hP hD hS => ?_)
      have hg_44 := hpost
      have hP : va_P D vwCl [(hR, .inr (3, [.ref aB, .int (vI ((n : Nat) : Int)), .int (vI ((pa : Nat) : Int))])), ia aB cB (NB) (d), ia aK cI (NS) (gK), ia aS cI (NS) (gS), ia aT cI (NS) (gT), (hF, .inr (0, [.ref hR, .ref hL, .ref aL, .ref aK, .int (vI (0)), .int (vI ((least : Nat) : Int)), .ref aS, .ref aT, .int (vI (plc)), .int (vI (cand)), .int (vI (low)), .int (vI (lim)), .int (vI (beat)), .int (vI (ln)), .int (vI (dist))])), (hL, .inr (4, [.int (vI ((way : Nat) : Int)), .int (vI ((win : Nat) : Int)), .int (vI ((least : Nat) : Int)), .int (vI ((cap : Nat) : Int)), .int (vI ((ga : Nat) : Int)), .int (vI ((gb : Nat) : Int)), .int (vI ((lp : Nat) : Int)), .int (vI ((mp : Nat) : Int))])), ia aL cI (NS) (gL2_44)] H := hP
      have hD : va_D _ [(hR, .inr (3, [.ref aB, .int (vI ((n : Nat) : Int)), .int (vI ((pa : Nat) : Int))])), ia aB cB (NB) (d), ia aK cI (NS) (gK), ia aS cI (NS) (gS), ia aT cI (NS) (gT), (hF, .inr (0, [.ref hR, .ref hL, .ref aL, .ref aK, .int (vI (0)), .int (vI ((least : Nat) : Int)), .ref aS, .ref aT, .int (vI (plc)), .int (vI (cand)), .int (vI (low)), .int (vI (lim)), .int (vI (beat)), .int (vI (ln)), .int (vI (dist))])), (hL, .inr (4, [.int (vI ((way : Nat) : Int)), .int (vI ((win : Nat) : Int)), .int (vI ((least : Nat) : Int)), .int (vI ((cap : Nat) : Int)), .int (vI ((ga : Nat) : Int)), .int (vI ((gb : Nat) : Int)), .int (vI ((lp : Nat) : Int)), .int (vI ((mp : Nat) : Int))])), ia aL cI (NS) (gL2_44)] := hD
      have el : least = least := rfl
      refine s_read hx hb hts hown hml hK hns hA (Nat.le_trans (Nat.le_of_ble_eq_true rfl) hRf) (Nat.le_trans (Nat.le_of_ble_eq_true rfl) hRl) hRc hRs hF hR hL aL aK aS aT aB least n pa NB NS d plc cand low lim beat ln dist way win least cap ga gb lp mp gS gT (by omega) (hNS) (hby) (fun lk gL gK H locs ls hk hz hP hD hS hl => ?_) (n + 1 - 0 + 1) 0 gL2_44 gK (Nat.lt_succ_self _) _ _ _ (by omega) (⟨fun q hq => (hg_44 q hq).trans rfl, fun q hq => absurd hq (Nat.not_lt_zero q)⟩) (hP.sub [5, 0, 1, 6, 7, 2, 3, 4] rfl) (hD.sub [5, 0, 1, 6, 7, 2, 3, 4] (by decide) rfl) hS (lv_sub hl [0] rfl)
      refine W.widen (k := zmc4 NS n) (n := zms4 NS n) (Nat.zero_le _) (Nat.zero_le _) ?_
      exact zr_v hx hb hr hlocks ((aL, aK, aS, aT, NS, lk, gL, gK, gS, gT)) ⟨⟨by unfold zNB; rw [if_neg (by omega)], hNS, by omega⟩, hz, hk, hM⟩ hP hD hS dX0_readData_113
  · refine lv_aload_n hx hb dX0_readData_15 rfl (lv_at hl 0 rfl) ?_
    refine lv_aload_n hx hb dX0_readData_16 rfl (lv_at hl 0 rfl) ?_
    refine va_get (D := D) (ci := 0) (v := .ref hR) (C := RX0) (T := TX0) (N := 15) hx hb hts iwX0 hown hK hP 0 rfl rfl 0 (by decide) (hts _ aw_100) (fun _ h9 => h9) rfl dX0_readData_17 ?_
    refine va_getN (D := D) (ci := 3) (v := .int (vI ((n : Nat) : Int))) (C := RX3) (T := TX3) (N := 3) hx hb hts iwX3 hown hK hP 1 rfl rfl 1 (by decide) (va_Nw.use rfl (hns _ nw_32)) (fun _ h9 => h9) rfl dX0_readData_20 ?_
    have hPc := hP.sub (ws' := []) [] rfl
    have hDc := hD.sub (ws' := []) [] (by decide) rfl
    refine zc_i (wr := [(hF, .inr (0, [.ref hR, .ref hL, .ref aL, .ref aK, .int (vI ((lk : Nat) : Int)), .int (vI ((ll : Nat) : Int)), .ref aS, .ref aT, .int (vI (plc)), .int (vI (cand)), .int (vI (low)), .int (vI (lim)), .int (vI (beat)), .int (vI (ln)), .int (vI (dist))])), (hR, .inr (3, [.ref aB, .int (vI ((n : Nat) : Int)), .int (vI ((pa : Nat) : Int))])), ia aB cB (NB) (d), (hL, .inr (4, [.int (vI ((way : Nat) : Int)), .int (vI ((win : Nat) : Int)), .int (vI ((least : Nat) : Int)), .int (vI ((cap : Nat) : Int)), .int (vI ((ga : Nat) : Int)), .int (vI ((gb : Nat) : Int)), .int (vI ((lp : Nat) : Int)), .int (vI ((mp : Nat) : Int))])), ia aL cI (NS) (gL), ia aK cI (NS) (gK), ia aS cI (NS) (gS), ia aT cI (NS) (gT)]) (va_runSN (As := [.int (vI ((n : Nat) : Int))]) (rest := [.ref hF]) ⟨hx, hb, hml, hown, hts⟩ (c_X5_roomFor l D cI cB _ n (by omega)) ⟨va_cnB 1 hts (zg kX5_roomFor) rfl rfl rfl (hns _ nw_355) (hts _ aw_1) (by decide +kernel) ⟨Nat.le_trans (Nat.le_of_ble_eq_true rfl) hRf, Nat.le_trans (Nat.le_of_ble_eq_true rfl) hRl⟩, (hts _ aw_302), trivial⟩ ⟨zPre_blind, zPre_of hK hns hPc hDc⟩ rfl rfl hl.1 rfl (lv_room (Nat.le_of_ble_eq_true rfl)) dX0_readData_23 ⟨hRc, hRs⟩) hP hD hS hA [] [0, 1, 2, 3, 4, 5, 6, 7] rfl rfl (by decide) (by decide) (fun r _u H locs hpost hP hD hS => ?_)
    obtain rfl := hpost
    have hP : va_P D vwCl [(hF, .inr (0, [.ref hR, .ref hL, .ref aL, .ref aK, .int (vI ((lk : Nat) : Int)), .int (vI ((ll : Nat) : Int)), .ref aS, .ref aT, .int (vI (plc)), .int (vI (cand)), .int (vI (low)), .int (vI (lim)), .int (vI (beat)), .int (vI (ln)), .int (vI (dist))])), (hR, .inr (3, [.ref aB, .int (vI ((n : Nat) : Int)), .int (vI ((pa : Nat) : Int))])), ia aB cB (NB) (d), (hL, .inr (4, [.int (vI ((way : Nat) : Int)), .int (vI ((win : Nat) : Int)), .int (vI ((least : Nat) : Int)), .int (vI ((cap : Nat) : Int)), .int (vI ((ga : Nat) : Int)), .int (vI ((gb : Nat) : Int)), .int (vI ((lp : Nat) : Int)), .int (vI ((mp : Nat) : Int))])), ia aL cI (NS) (gL), ia aK cI (NS) (gK), ia aS cI (NS) (gS), ia aT cI (NS) (gT)] H := hP
    have hD : va_D _ [(hF, .inr (0, [.ref hR, .ref hL, .ref aL, .ref aK, .int (vI ((lk : Nat) : Int)), .int (vI ((ll : Nat) : Int)), .ref aS, .ref aT, .int (vI (plc)), .int (vI (cand)), .int (vI (low)), .int (vI (lim)), .int (vI (beat)), .int (vI (ln)), .int (vI (dist))])), (hR, .inr (3, [.ref aB, .int (vI ((n : Nat) : Int)), .int (vI ((pa : Nat) : Int))])), ia aB cB (NB) (d), (hL, .inr (4, [.int (vI ((way : Nat) : Int)), .int (vI ((win : Nat) : Int)), .int (vI ((least : Nat) : Int)), .int (vI ((cap : Nat) : Int)), .int (vI ((ga : Nat) : Int)), .int (vI ((gb : Nat) : Int)), .int (vI ((lp : Nat) : Int)), .int (vI ((mp : Nat) : Int))])), ia aL cI (NS) (gL), ia aK cI (NS) (gK), ia aS cI (NS) (gS), ia aT cI (NS) (gT)] := hD
    have hz4 : n ≤ zroom n ∧ zroom n ≤ 32768 := by unfold zroom; (repeat' split) <;> omega
    have hz5 : zroom n = 512 ∨ zroom n = 4096 ∨ zroom n = 32768 := by unfold zroom; (repeat' split) <;> omega
    have hm1 : zmc4 NS n = 4 := if_pos (by omega)
    have hm2 : zms4 NS n = 4 * zroom n := if_pos (by omega)
    have hPc := hP.sub (ws' := [(hF, .inr (0, [.ref hR, .ref hL, .ref aL, .ref aK, .int (vI ((lk : Nat) : Int)), .int (vI ((ll : Nat) : Int)), .ref aS, .ref aT, .int (vI (plc)), .int (vI (cand)), .int (vI (low)), .int (vI (lim)), .int (vI (beat)), .int (vI (ln)), .int (vI (dist))])), (hL, .inr (4, [.int (vI ((way : Nat) : Int)), .int (vI ((win : Nat) : Int)), .int (vI ((least : Nat) : Int)), .int (vI ((cap : Nat) : Int)), .int (vI ((ga : Nat) : Int)), .int (vI ((gb : Nat) : Int)), .int (vI ((lp : Nat) : Int)), .int (vI ((mp : Nat) : Int))]))]) [0, 3] rfl
    have hDc := hD.sub (ws' := [(hF, .inr (0, [.ref hR, .ref hL, .ref aL, .ref aK, .int (vI ((lk : Nat) : Int)), .int (vI ((ll : Nat) : Int)), .ref aS, .ref aT, .int (vI (plc)), .int (vI (cand)), .int (vI (low)), .int (vI (lim)), .int (vI (beat)), .int (vI (ln)), .int (vI (dist))])), (hL, .inr (4, [.int (vI ((way : Nat) : Int)), .int (vI ((win : Nat) : Int)), .int (vI ((least : Nat) : Int)), .int (vI ((cap : Nat) : Int)), .int (vI ((ga : Nat) : Int)), .int (vI ((gb : Nat) : Int)), .int (vI ((lp : Nat) : Int)), .int (vI ((mp : Nat) : Int))]))]) [0, 3] (by decide) rfl
    refine zc_v (wr := [(hR, .inr (3, [.ref aB, .int (vI ((n : Nat) : Int)), .int (vI ((pa : Nat) : Int))])), ia aB cB (NB) (d), ia aL cI (NS) (gL), ia aK cI (NS) (gK), ia aS cI (NS) (gS), ia aT cI (NS) (gT)]) (va_runV (As := [.int (vI ((zroom n : Nat) : Int))]) (rest := []) ⟨hx, hb, hml, hown, hts⟩ (c_X0_enlarge l D cI cB _ hF hR hL aL aK aS aT lk ll plc cand low lim beat ln dist way win least cap ga gb lp mp (zroom n) (by omega)) ⟨callB_of 1 hts (zg kX0_enlarge) rfl rfl rfl (hts _ aw_4) (hts _ aw_356) (by decide +kernel) ⟨Nat.le_trans (Nat.le_of_ble_eq_true rfl) hRf, Nat.le_trans (Nat.le_of_ble_eq_true rfl) hRl⟩, (hts _ aw_358), (hts _ as_10)⟩ ⟨zPre_blind, va_recv hK hPc (ci := 0) (q0 := 0) rfl rfl, zPre_of hK hns hPc hDc⟩ rfl rfl hl.1 rfl (lv_room (Nat.le_of_ble_eq_true rfl)) dX0_readData_26 ⟨by show 0 + 4 ≤ zmc4 NS n; omega, by show 0 + (4 * (zroom n)) ≤ zms4 NS n; omega⟩) hP hD hS hA [0, 3] [1, 2, 4, 5, 6, 7] rfl rfl (by decide) (by decide) (fun u H locs hpost hP hD hS => ?_)
    obtain ⟨aL2_26, aK2_26, aS2_26, aT2_26, gL2_26⟩ := u
    have hg_26 := hpost
    have hRc : 0 + 4 ≤ ({ frames := 3, cells := zmc4 NS n, slots := zms4 NS n, locals := 64 } : Room).cells := by show 0 + 4 ≤ zmc4 NS n; omega
    have hRs : 0 + (4 * (zroom n)) ≤ ({ frames := 3, cells := zmc4 NS n, slots := zms4 NS n, locals := 64 } : Room).slots := by show 0 + (4 * (zroom n)) ≤ zms4 NS n; omega
    have hP : va_P D vwCl [(hR, .inr (3, [.ref aB, .int (vI ((n : Nat) : Int)), .int (vI ((pa : Nat) : Int))])), ia aB cB (NB) (d), ia aL cI (NS) (gL), ia aK cI (NS) (gK), ia aS cI (NS) (gS), ia aT cI (NS) (gT), (hF, .inr (0, [.ref hR, .ref hL, .ref aL2_26, .ref aK2_26, .int (vI (0)), .int (vI ((least : Nat) : Int)), .ref aS2_26, .ref aT2_26, .int (vI (plc)), .int (vI (cand)), .int (vI (low)), .int (vI (lim)), .int (vI (beat)), .int (vI (ln)), .int (vI (dist))])), (hL, .inr (4, [.int (vI ((way : Nat) : Int)), .int (vI ((win : Nat) : Int)), .int (vI ((least : Nat) : Int)), .int (vI ((cap : Nat) : Int)), .int (vI ((ga : Nat) : Int)), .int (vI ((gb : Nat) : Int)), .int (vI ((lp : Nat) : Int)), .int (vI ((mp : Nat) : Int))])), ia aL2_26 cI ((zroom n)) (gL2_26), ia aK2_26 cI ((zroom n)) (fun _ => 0), ia aS2_26 cI ((zroom n)) (fun _ => 0), ia aT2_26 cI ((zroom n)) (fun _ => 0)] H := hP
    have hD : va_D _ [(hR, .inr (3, [.ref aB, .int (vI ((n : Nat) : Int)), .int (vI ((pa : Nat) : Int))])), ia aB cB (NB) (d), ia aL cI (NS) (gL), ia aK cI (NS) (gK), ia aS cI (NS) (gS), ia aT cI (NS) (gT), (hF, .inr (0, [.ref hR, .ref hL, .ref aL2_26, .ref aK2_26, .int (vI (0)), .int (vI ((least : Nat) : Int)), .ref aS2_26, .ref aT2_26, .int (vI (plc)), .int (vI (cand)), .int (vI (low)), .int (vI (lim)), .int (vI (beat)), .int (vI (ln)), .int (vI (dist))])), (hL, .inr (4, [.int (vI ((way : Nat) : Int)), .int (vI ((win : Nat) : Int)), .int (vI ((least : Nat) : Int)), .int (vI ((cap : Nat) : Int)), .int (vI ((ga : Nat) : Int)), .int (vI ((gb : Nat) : Int)), .int (vI ((lp : Nat) : Int)), .int (vI ((mp : Nat) : Int))])), ia aL2_26 cI ((zroom n)) (gL2_26), ia aK2_26 cI ((zroom n)) (fun _ => 0), ia aS2_26 cI ((zroom n)) (fun _ => 0), ia aT2_26 cI ((zroom n)) (fun _ => 0)] := hD
    refine lv_aload_n hx hb dX0_readData_29 rfl (lv_at hl 0 rfl) ?_
    refine va_get (D := D) (ci := 0) (v := .int (vI ((least : Nat) : Int))) (C := RX0) (T := TX0) (N := 15) hx hb hts iwX0 hown hK hP 6 rfl rfl 5 (by decide) (hts _ aw_105) (fun _ h9 => h9) rfl dX0_readData_30 ?_
    refine lv_aload_n hx hb dX0_readData_33 rfl (lv_at hl 0 rfl) ?_
    refine va_get (D := D) (ci := 0) (v := .ref hL) (C := RX0) (T := TX0) (N := 15) hx hb hts iwX0 hown hK hP 6 rfl rfl 1 (by decide) (hts _ aw_101) (fun _ h9 => h9) rfl dX0_readData_34 ?_
    refine va_getN (D := D) (ci := 4) (v := .int (vI ((least : Nat) : Int))) (C := RX4) (T := TX4) (N := 8) hx hb hts iwX4 hown hK hP 7 rfl rfl 2 (by decide) (va_Nw.use rfl (hns _ nw_60)) (fun _ h9 => h9) rfl dX0_readData_37 ?_
    refine zw_icmp_eq (tgt := 47) hx hb dX0_readData_40 (by decide) ⟨by omega, by omega⟩ ⟨by omega, by omega⟩ (fun c_40 => ?_) (fun c_40 => False.elim (by omega))
    refine s_read hx hb hts hown hml hK hns hA (Nat.le_trans (Nat.le_of_ble_eq_true rfl) hRf) (Nat.le_trans (Nat.le_of_ble_eq_true rfl) hRl) hRc hRs hF hR hL aL2_26 aK2_26 aS2_26 aT2_26 aB least n pa NB (zroom n) d plc cand low lim beat ln dist way win least cap ga gb lp mp (fun _ => 0) (fun _ => 0) (by omega) (hz5) (hby) (fun lk gL gK H locs ls hk hz hP hD hS hl => ?_) (n + 1 - 0 + 1) 0 gL2_26 (fun _ => 0) (Nat.lt_succ_self _) _ _ _ (by omega) (⟨fun q hq => (hg_26 q hq).trans rfl, fun q hq => absurd hq (Nat.not_lt_zero q)⟩) (hP.sub [6, 0, 1, 7, 8, 9, 10, 11] rfl) (hD.sub [6, 0, 1, 7, 8, 9, 10, 11] (by decide) rfl) hS (lv_sub hl [0] rfl)
    refine W.widen (k := zmc4 NS n) (n := zms4 NS n) (by omega) (by omega) ?_
    exact zr_v hx hb hr hlocks ((aL2_26, aK2_26, aS2_26, aT2_26, (zroom n), lk, gL, gK, (fun _ => 0), (fun _ => 0))) ⟨⟨by unfold zNB; rw [if_pos (by omega)], hz5, by omega⟩, hz, hk, zmemo_0⟩ hP hD hS dX0_readData_113
end
section
def zs (n ga al pp : Nat) (lm : Int) : Nat := if pp + 1 + ga ≤ n ∧ (al : Int) ≤ lm then pp else 0
theorem zst_le (lk n ga al pp : Nat) (lm : Int) : zst lk n ga al pp lm ≤ pp := by
  unfold zst
  split <;> omega
theorem zst_eq {lk n ga al pp least cap gb : Nat} (h : n < lk + least) (h2 : least ≤ al) : zst lk n ga al pp (zlm cap gb n pp) = zs n ga al pp (zlm cap gb n pp) := by
  unfold zst zs
  by_cases e : pp + 1 + ga ≤ n ∧ (al : Int) ≤ zlm cap gb n pp
  · rw [if_pos e, if_pos ⟨by have := zlm_in cap gb n pp; omega, e.1, e.2⟩]
  · rw [if_neg e, if_neg (fun z => e z.2)]
theorem zst_pos {lk n ga al pp cap gb : Nat} (h : 0 < zst lk n ga al pp (zlm cap gb n pp)) (h2 : 1 ≤ al) : pp < lk ∧ (pp : Int) + zlm cap gb n pp ≤ n := by
  unfold zst at h
  split at h
  · rename_i e
    exact ⟨e.1, by have := zlm_in cap gb n pp; omega⟩
  · omega
theorem zst_pos2 {lk n ga al pp cap gb : Nat} (h : 0 < zst lk n ga al pp (zlm cap gb n pp)) : pp < lk ∧ (al : Int) ≤ zlm cap gb n pp := by
  unfold zst at h
  split at h
  · rename_i e
    exact ⟨e.1, e.2.2⟩
  · omega
theorem zslot_run {d : Nat → Int} {ll NS k pp q : Nat} (h : ll ≤ zrun d k pp q) : zslot d ll NS q = zslot d ll NS pp := by
  unfold zslot zslotI
  rw [zhash_eq (d := d) (d2 := d) (x := q) (y := pp) ll (fun j hj => (zrun_all d k pp q j (by omega)).symm)]
/-- the nearest MATCH at pp of at least al bytes: its LENGTH and its DISTANCE -/
def znr (d : Nat → Int) (n win cap ga gb al pp : Nat) : Nat × Nat := match zfnd (zrun d (zlm cap gb n pp).toNat pp) (pp - win) (al - 1) (zs n ga al pp (zlm cap gb n pp)) with
  | none => (0, 0)
  | some q => (zrun d (zlm cap gb n pp).toNat pp q, pp - q)
theorem znr_of {f : Nat → Nat} {lo pp b c0 : Nat} {rb : Int} {c2 b2 l2 d2 : Nat} (h : zFL f lo pp b 0 0 c0 rb c2 b2 l2 d2) : (l2, d2) = (match zfnd f lo b c0 with | none => ((0 : Nat), (0 : Nat)) | some q => (f q, pp - q)) := by
  rcases h with ⟨_, h2, _, _, h5, h6⟩ | ⟨_, h2, _, h4, h5⟩
  · rw [h2, h5, h6]
  · rw [h2, h4, h5]
theorem zFL_b {f : Nat → Nat} {lo pp b ln ds c0 : Nat} {rb : Int} {c2 b2 l2 d2 : Nat} (h : zFL f lo pp b ln ds c0 rb c2 b2 l2 d2) : rb = 0 ∨ rb = 1 := by
  rcases h with h | h
  · exact Or.inl h.1
  · exact Or.inr h.1
theorem zFL_0 {f : Nat → Nat} {lo pp b ln ds c0 : Nat} {rb : Int} {c2 b2 l2 d2 : Nat} (h : zFL f lo pp b ln ds c0 rb c2 b2 l2 d2) (h0 : rb = 0) : zfnd f lo b c0 = none ∧ c2 ≤ c0 ∧ b2 = b ∧ l2 = ln ∧ d2 = ds := by
  rcases h with h | h
  · exact h.2
  · omega
theorem zFL_1 {f : Nat → Nat} {lo pp b ln ds c0 : Nat} {rb : Int} {c2 b2 l2 d2 : Nat} (h : zFL f lo pp b ln ds c0 rb c2 b2 l2 d2) (h0 : ¬ rb = 0) : zfnd f lo b c0 = some c2 ∧ b2 = f c2 ∧ l2 = f c2 ∧ d2 = pp - c2 := by
  rcases h with h | h
  · exact absurd h.1 h0
  · exact h.2
theorem zFL_1p {f : Nat → Nat} {lo pp b ln ds c0 : Nat} {rb : Int} {c2 b2 l2 d2 : Nat} (h : zFL f lo pp b ln ds c0 rb c2 b2 l2 d2) (h0 : ¬ rb = 0) : ¬ l2 = 0 := by
  obtain ⟨h1, _, h3, _⟩ := zFL_1 h h0
  have := (zfnd_some _ _ h1).2.2.1
  omega
/-- the longest so far, as the finder holds it -/
def zCur (pp least : Nat) (u : Nat × Nat) (b ln ds : Nat) : Prop := b = u.1 ∧ ((u.1 < least ∧ ln = 0 ∧ ds = 0) ∨ (least ≤ u.1 ∧ ln = u.1 ∧ ds = pp - u.2))
def zLG (pp least : Nat) (u : Nat × Nat) : Nat × Nat := if least ≤ u.1 then (u.1, pp - u.2) else (0, 0)
theorem zcur_end {pp least b ln ds : Nat} {u v w : Nat × Nat} (h : zCur pp least u b ln ds) (h1 : w = v) (h2 : w = u) : (ln, ds) = zLG pp least v := by
  rw [← h1, h2]
  unfold zLG
  rcases h.2 with ⟨a1, a2, a3⟩ | ⟨a1, a2, a3⟩
  · rw [if_neg (by omega), a2, a3]
  · rw [if_pos a1, a2, a3]
theorem zcur_ln {pp least b ln ds : Nat} {u : Nat × Nat} (h : zCur pp least u b ln ds) (h1 : b ≤ 32768) : ln ≤ 32768 := by
  have h0 := h.1
  rcases h.2 with ⟨a1, a2, a3⟩ | ⟨a1, a2, a3⟩ <;> omega
/-- the longest MATCH at pp, of several the nearest -/
def zlg (d : Nat → Int) (n win cap ga gb least pp : Nat) : Nat × Nat := zLG pp least (zbest (zrun d (zlm cap gb n pp).toNat pp) (pp - win) (zs n ga least pp (zlm cap gb n pp)) (least - 1, 0))
/-- the longest, but none where that of the next place is longer -/
def zl3 (d : Nat → Int) (n win cap ga gb least pp : Nat) : Nat × Nat := if (zlg d n win cap ga gb least pp).1 = 0 ∨ ¬ (znr d n win cap ga gb ((zlg d n win cap ga gb least pp).1 + 1) (pp + 1)).1 = 0 then (0, 0) else zlg d n win cap ga gb least pp
theorem zlg_ge {d : Nat → Int} {n win cap ga gb least pp ln ds : Nat} (h : (ln, ds) = zlg d n win cap ga gb least pp) (h0 : ¬ ln = 0) : least ≤ ln := by
  have h1 : ln = (zlg d n win cap ga gb least pp).1 := by rw [← h]
  unfold zlg zLG at h1
  split at h1 <;> simp only at h1 <;> omega
theorem zl3_0 {d : Nat → Int} {n win cap ga gb least pp ln ds : Nat} (h9 : 3 ≤ least) (h : (ln, ds) = zlg d n win cap ga gb least pp) (h0 : ln = 0) : (ln, ds) = zl3 d n win cap ga gb least pp := by
  have h1 : (zlg d n win cap ga gb least pp).1 = 0 := by rw [← h]; exact h0
  unfold zl3
  rw [if_pos (Or.inl h1), h]
  unfold zlg zLG at h1 ⊢
  split at h1
  · rename_i e
    simp only at h1
    have e0 : least = 0 := by omega
    exact absurd e0 (by omega)
  · rename_i e
    rw [if_neg e]
theorem zl3_1 {d : Nat → Int} {n win cap ga gb least pp ln ds l2 d2 : Nat} (h : (ln, ds) = zlg d n win cap ga gb least pp) (h0 : least ≤ ln) (h9 : 3 ≤ least) (h1 : (l2, d2) = znr d n win cap ga gb (ln + 1) (pp + 1)) (h2 : l2 = 0) : (ln, ds) = zl3 d n win cap ga gb least pp := by
  have e1 : (zlg d n win cap ga gb least pp).1 = ln := by rw [← h]
  have e2 : (znr d n win cap ga gb (ln + 1) (pp + 1)).1 = 0 := by rw [← h1]; exact h2
  unfold zl3
  rw [e1]
  rw [if_neg (fun z => z.elim (fun a => by omega) (fun a => a e2)), h]
theorem zl3_2 {d : Nat → Int} {n win cap ga gb least pp ln ds l2 d2 : Nat} (h : (ln, ds) = zlg d n win cap ga gb least pp) (h1 : (l2, d2) = znr d n win cap ga gb (ln + 1) (pp + 1)) (h2 : ¬ l2 = 0) : (0, 0) = zl3 d n win cap ga gb least pp := by
  have e1 : (zlg d n win cap ga gb least pp).1 = ln := by rw [← h]
  have e2 : (znr d n win cap ga gb (ln + 1) (pp + 1)).1 = l2 := by rw [← h1]
  unfold zl3
  rw [e1, e2, if_pos (Or.inr h2)]
/-- how many MATCHES there are at pp -/
def zct (d : Nat → Int) (n win cap ga gb least pp : Nat) : Nat := zcnt (zrun d (zlm cap gb n pp).toNat pp) (pp - win) least (zs n ga least pp (zlm cap gb n pp))
theorem zrun_cut {d : Nat → Int} {k t pp q : Nat} (h : t ≤ k) : zrun d t pp q = min (zrun d k pp q) t := by
  rw [← zrun_min, show min k t = t by omega]
theorem zcnt_none {sl : Nat → Nat} {s c lo t : Nat} {f : Nat → Nat} (h : zprev sl s c < lo) (hs : ∀ q, lo ≤ q → q < c → t ≤ f q → sl q = s) : zcnt f lo t c = 0 := by
  rw [zcnt_skip c 0 (by omega) (fun q _ h2 h3 => ?_)]
  · rfl
  · rcases Nat.lt_or_ge (f q) t with y | y
    · exact y
    · exact absurd (hs q h3 h2 y) (zprev_none sl s c q (by omega) h2)
theorem zcnt_to {sl : Nat → Nat} {s c lo t : Nat} {f : Nat → Nat} {q : Nat} (h : zprev sl s c = q) (hs : ∀ q, lo ≤ q → q < c → t ≤ f q → sl q = s) : zcnt f lo t c = zcnt f lo t (q + 1) := by
  have hl := zprev_lt sl s c
  refine zcnt_skip c (q + 1) (by omega) (fun r h1 h2 h3 => ?_)
  rcases Nat.lt_or_ge (f r) t with y | y
  · exact y
  · exact absurd (hs r h3 h2 y) (zprev_none sl s c r (by omega) h2)
theorem zcnt_step0 {sl : Nat → Nat} {s c lo t m v : Nat} {f : Nat → Nat} {q : Nat} (h : zprev sl s c = q) (hs : ∀ q, lo ≤ q → q < c → t ≤ f q → sl q = s) (hq : f q < t) (hu : m + zcnt f lo t c = v) : m + zcnt f lo t q = v := by
  rw [zcnt_to h hs, zcnt, if_neg (fun z => by omega)] at hu
  exact hu
theorem zcnt_step1 {sl : Nat → Nat} {s c lo t m v : Nat} {f : Nat → Nat} {q : Nat} (h : zprev sl s c = q) (hs : ∀ q, lo ≤ q → q < c → t ≤ f q → sl q = s) (hlo : lo ≤ q) (hq : t ≤ f q) (hu : m + zcnt f lo t c = v) : m + 1 + zcnt f lo t q = v := by
  rw [zcnt_to h hs, zcnt, if_pos ⟨hlo, hq⟩] at hu
  omega
set_option maxRecDepth 100000 in
set_option maxHeartbeats 4000000 in
theorem c_X0_seekNearest (l : Launch) (D : va_G) (cI cB : ClassId) (sz : Nat) (hF : Nat) (hR : Nat) (hL : Nat) (aL : Nat) (aK : Nat) (aS : Nat) (aT : Nat) (aB : Nat) (lk : Nat) (ll : Nat) (n : Nat) (pa : Nat) (NB : Nat) (NS : Nat) (d : Nat → Int) (plc : Int) (cand : Int) (low : Int) (lim : Int) (beat : Int) (ln : Int) (dist : Int) (way : Nat) (win : Nat) (least : Nat) (cap : Nat) (ga : Nat) (gb : Nat) (lp : Nat) (mp : Nat) (gK : Nat → Int) (gS : Nat → Int) (gT : Nat → Int) (pp : Nat) (h1 : 3 ≤ least ∧ least ≤ 8 ∧ pp < n ∧ lk ≤ n ∧ n < lk + least ∧ n ≤ NB ∧ NB ≤ 32768 ∧ n ≤ NS ∧ NS ≤ 32768 ∧ win ≤ 65536 ∧ cap ≤ 131072 ∧ ga ≤ 32 ∧ gb ≤ 32) (hz : ∀ q, q < lk → gK q = zprev (zslot d least NS) ((zslot d least NS) q) q) (hM : zMemo d n NS gS gT) (hby : ∀ j, -128 ≤ d j ∧ d j < 128) : Met l yX0_seekNearest wsX0_seekNearest ({ frames := 3, cells := 0, slots := 0, locals := 74 } : Room) (va_Pc [.ref hF, .int (vI ((pp : Nat) : Int))] (zPre D vwCl [(cI, .int), (cB, .byte)] [(hF, .inr (0, [.ref hR, .ref hL, .ref aL, .ref aK, .int (vI ((lk : Nat) : Int)), .int (vI ((ll : Nat) : Int)), .ref aS, .ref aT, .int (vI (plc)), .int (vI (cand)), .int (vI (low)), .int (vI (lim)), .int (vI (beat)), .int (vI (ln)), .int (vI (dist))])), (hR, .inr (3, [.ref aB, .int (vI ((n : Nat) : Int)), .int (vI ((pa : Nat) : Int))])), ia aB cB (NB) (d), (hL, .inr (4, [.int (vI ((way : Nat) : Int)), .int (vI ((win : Nat) : Int)), .int (vI ((least : Nat) : Int)), .int (vI ((cap : Nat) : Int)), .int (vI ((ga : Nat) : Int)), .int (vI ((gb : Nat) : Int)), .int (vI ((lp : Nat) : Int)), .int (vI ((mp : Nat) : Int))])), ia aK cI (NS) (gK), ia aS cI (NS) (gS), ia aT cI (NS) (gT)] sz)) (va_Qv (S := Int × Int × Int × Int × Int × Nat × Nat × (Nat → Int) × (Nat → Int)) (fun u => match u with | (plc2, cand2, low2, lim2, beat2, ln2, ds2, gS2, gT2) => (zMemo d n NS gS2 gT2) ∧ ((ln2, ds2) = znr d n win cap ga gb least pp)) (fun (u : Int × Int × Int × Int × Int × Nat × Nat × (Nat → Int) × (Nat → Int)) t => zB D vwCl (va_A [(hF, .inr (0, [.ref hR, .ref hL, .ref aL, .ref aK, .int (vI ((lk : Nat) : Int)), .int (vI ((ll : Nat) : Int)), .ref aS, .ref aT, .int (vI (plc)), .int (vI (cand)), .int (vI (low)), .int (vI (lim)), .int (vI (beat)), .int (vI (ln)), .int (vI (dist))])), (hR, .inr (3, [.ref aB, .int (vI ((n : Nat) : Int)), .int (vI ((pa : Nat) : Int))])), ia aB cB (NB) (d), (hL, .inr (4, [.int (vI ((way : Nat) : Int)), .int (vI ((win : Nat) : Int)), .int (vI ((least : Nat) : Int)), .int (vI ((cap : Nat) : Int)), .int (vI ((ga : Nat) : Int)), .int (vI ((gb : Nat) : Int)), .int (vI ((lp : Nat) : Int)), .int (vI ((mp : Nat) : Int))])), ia aK cI (NS) (gK), ia aS cI (NS) (gS), ia aT cI (NS) (gT)] sz) ((fun u => match u with | (plc2, cand2, low2, lim2, beat2, ln2, ds2, gS2, gT2) => [(hF, .inr (0, [.ref hR, .ref hL, .ref aL, .ref aK, .int (vI ((lk : Nat) : Int)), .int (vI ((ll : Nat) : Int)), .ref aS, .ref aT, .int (vI (plc2)), .int (vI (cand2)), .int (vI (low2)), .int (vI (lim2)), .int (vI (beat2)), .int (vI ((ln2 : Nat) : Int)), .int (vI ((ds2 : Nat) : Int))])), (hR, .inr (3, [.ref aB, .int (vI ((n : Nat) : Int)), .int (vI ((pa : Nat) : Int))])), ia aB cB (NB) (d), (hL, .inr (4, [.int (vI ((way : Nat) : Int)), .int (vI ((win : Nat) : Int)), .int (vI ((least : Nat) : Int)), .int (vI ((cap : Nat) : Int)), .int (vI ((ga : Nat) : Int)), .int (vI ((gb : Nat) : Int)), .int (vI ((lp : Nat) : Int)), .int (vI ((mp : Nat) : Int))])), ia aK cI (NS) (gK), ia aS cI (NS) (gS2), ia aT cI (NS) (gT2)] : Int × Int × Int × Int × Int × Nat × Nat × (Nat → Int) × (Nat → Int) → va_W) u) t) (va_A [(hF, .inr (0, [.ref hR, .ref hL, .ref aL, .ref aK, .int (vI ((lk : Nat) : Int)), .int (vI ((ll : Nat) : Int)), .ref aS, .ref aT, .int (vI (plc)), .int (vI (cand)), .int (vI (low)), .int (vI (lim)), .int (vI (beat)), .int (vI (ln)), .int (vI (dist))])), (hR, .inr (3, [.ref aB, .int (vI ((n : Nat) : Int)), .int (vI ((pa : Nat) : Int))])), ia aB cB (NB) (d), (hL, .inr (4, [.int (vI ((way : Nat) : Int)), .int (vI ((win : Nat) : Int)), .int (vI ((least : Nat) : Int)), .int (vI ((cap : Nat) : Int)), .int (vI ((ga : Nat) : Int)), .int (vI ((gb : Nat) : Int)), .int (vI ((lp : Nat) : Int)), .int (vI ((mp : Nat) : Int))])), ia aK cI (NS) (gK), ia aS cI (NS) (gS), ia aT cI (NS) (gT)] sz)) (0) (0) (va_A [(hF, .inr (0, [.ref hR, .ref hL, .ref aL, .ref aK, .int (vI ((lk : Nat) : Int)), .int (vI ((ll : Nat) : Int)), .ref aS, .ref aT, .int (vI (plc)), .int (vI (cand)), .int (vI (low)), .int (vI (lim)), .int (vI (beat)), .int (vI (ln)), .int (vI (dist))])), (hR, .inr (3, [.ref aB, .int (vI ((n : Nat) : Int)), .int (vI ((pa : Nat) : Int))])), ia aB cB (NB) (d), (hL, .inr (4, [.int (vI ((way : Nat) : Int)), .int (vI ((win : Nat) : Int)), .int (vI ((least : Nat) : Int)), .int (vI ((cap : Nat) : Int)), .int (vI ((ga : Nat) : Int)), .int (vI ((gb : Nat) : Int)), .int (vI ((lp : Nat) : Int)), .int (vI ((mp : Nat) : Int))])), ia aK cI (NS) (gK), ia aS cI (NS) (gS), ia aT cI (NS) (gT)] sz) := by
  refine zMet (by decide) rfl (Nat.le_of_ble_eq_true rfl) (fun p e s m below meth c hx hb hr hts hown hlocks hnm hml hK hns hA hP hD hS ls hl => ?_)
  have hl : lv_has ls 2 [(0, .ref hF), (1, .int (vI ((pp : Nat) : Int)))] := hl
  have hRf : 3 ≤ ({ frames := 3, cells := 0, slots := 0, locals := 74 } : Room).frames := Nat.le_refl _
  have hRl : 74 ≤ ({ frames := 3, cells := 0, slots := 0, locals := 74 } : Room).locals := Nat.le_refl _
  have hRc : 0 ≤ ({ frames := 3, cells := 0, slots := 0, locals := 74 } : Room).cells := Nat.zero_le _
  have hRs : 0 ≤ ({ frames := 3, cells := 0, slots := 0, locals := 74 } : Room).slots := Nat.zero_le _
  refine lv_aload_n hx hb dX0_seekNearest_0 rfl (lv_at hl 0 rfl) ?_
  refine lv_iload_n hx hb dX0_seekNearest_1 rfl (lv_at hl 1 rfl) ?_
  refine lv_aload_n hx hb dX0_seekNearest_2 rfl (lv_at hl 0 rfl) ?_
  refine va_get (D := D) (ci := 0) (v := .ref hL) (C := RX0) (T := TX0) (N := 15) hx hb hts iwX0 hown hK hP 0 rfl rfl 1 (by decide) (hts _ aw_101) (fun _ h9 => h9) rfl dX0_seekNearest_3 ?_
  refine va_getN (D := D) (ci := 4) (v := .int (vI ((least : Nat) : Int))) (C := RX4) (T := TX4) (N := 8) hx hb hts iwX4 hown hK hP 3 rfl rfl 2 (by decide) (va_Nw.use rfl (hns _ nw_60)) (fun _ h9 => h9) rfl dX0_seekNearest_6 ?_
  have hPc := hP.sub (ws' := [(hF, .inr (0, [.ref hR, .ref hL, .ref aL, .ref aK, .int (vI ((lk : Nat) : Int)), .int (vI ((ll : Nat) : Int)), .ref aS, .ref aT, .int (vI (plc)), .int (vI (cand)), .int (vI (low)), .int (vI (lim)), .int (vI (beat)), .int (vI (ln)), .int (vI (dist))])), (hR, .inr (3, [.ref aB, .int (vI ((n : Nat) : Int)), .int (vI ((pa : Nat) : Int))])), (hL, .inr (4, [.int (vI ((way : Nat) : Int)), .int (vI ((win : Nat) : Int)), .int (vI ((least : Nat) : Int)), .int (vI ((cap : Nat) : Int)), .int (vI ((ga : Nat) : Int)), .int (vI ((gb : Nat) : Int)), .int (vI ((lp : Nat) : Int)), .int (vI ((mp : Nat) : Int))])), ia aK cI (NS) (gK)]) [0, 1, 3, 4] rfl
  have hDc := hD.sub (ws' := [(hF, .inr (0, [.ref hR, .ref hL, .ref aL, .ref aK, .int (vI ((lk : Nat) : Int)), .int (vI ((ll : Nat) : Int)), .ref aS, .ref aT, .int (vI (plc)), .int (vI (cand)), .int (vI (low)), .int (vI (lim)), .int (vI (beat)), .int (vI (ln)), .int (vI (dist))])), (hR, .inr (3, [.ref aB, .int (vI ((n : Nat) : Int)), .int (vI ((pa : Nat) : Int))])), (hL, .inr (4, [.int (vI ((way : Nat) : Int)), .int (vI ((win : Nat) : Int)), .int (vI ((least : Nat) : Int)), .int (vI ((cap : Nat) : Int)), .int (vI ((ga : Nat) : Int)), .int (vI ((gb : Nat) : Int)), .int (vI ((lp : Nat) : Int)), .int (vI ((mp : Nat) : Int))])), ia aK cI (NS) (gK)]) [0, 1, 3, 4] (by decide) rfl
  refine zc_v (wr := [ia aB cB (NB) (d), ia aS cI (NS) (gS), ia aT cI (NS) (gT)]) (va_runV (As := [.int (vI ((pp : Nat) : Int)), .int (vI ((least : Nat) : Int))]) (rest := []) ⟨hx, hb, hml, hown, hts⟩ (c_X0_startAt l D cI cB _ hF hR hL aL aK aS aT aB lk ll n pa NS way win least cap ga gb lp mp plc cand low lim beat ln dist (zslot d least NS) gK pp least (by omega) (hz)) ⟨callB_of 2 hts (zg kX0_startAt) rfl rfl rfl (hts _ aw_4) (hts _ aw_373) (by decide +kernel) ⟨Nat.le_trans (Nat.le_of_ble_eq_true rfl) hRf, Nat.le_trans (Nat.le_of_ble_eq_true rfl) hRl⟩, (hts _ aw_375), (hts _ as_14)⟩ ⟨zPre_blind, va_recv hK hPc (ci := 0) (q0 := 0) rfl rfl, zPre_of hK hns hPc hDc⟩ rfl rfl hl.1 rfl (lv_room (Nat.le_of_ble_eq_true rfl)) dX0_seekNearest_9 ⟨hRc, hRs⟩) hP hD hS hA [0, 1, 3, 4] [2, 5, 6] rfl rfl (by decide) (by decide) (fun _u H locs hpost hP hD hS => ?_)
  have hP : va_P D vwCl [ia aB cB (NB) (d), ia aS cI (NS) (gS), ia aT cI (NS) (gT), (hF, .inr (0, [.ref hR, .ref hL, .ref aL, .ref aK, .int (vI ((lk : Nat) : Int)), .int (vI ((ll : Nat) : Int)), .ref aS, .ref aT, .int (vI ((pp : Nat) : Int)), .int (vI (zprev (zslot d least NS) ((zslot d least NS) pp) (zst lk n ga least pp (zlm cap gb n pp)))), .int (vI ((pp - win : Nat) : Int)), .int (vI (zlm cap gb n pp)), .int (vI ((least - 1 : Nat) : Int)), .int (vI (0)), .int (vI (0))])), (hR, .inr (3, [.ref aB, .int (vI ((n : Nat) : Int)), .int (vI ((pa : Nat) : Int))])), (hL, .inr (4, [.int (vI ((way : Nat) : Int)), .int (vI ((win : Nat) : Int)), .int (vI ((least : Nat) : Int)), .int (vI ((cap : Nat) : Int)), .int (vI ((ga : Nat) : Int)), .int (vI ((gb : Nat) : Int)), .int (vI ((lp : Nat) : Int)), .int (vI ((mp : Nat) : Int))])), ia aK cI (NS) (gK)] H := hP
  have hD : va_D _ [ia aB cB (NB) (d), ia aS cI (NS) (gS), ia aT cI (NS) (gT), (hF, .inr (0, [.ref hR, .ref hL, .ref aL, .ref aK, .int (vI ((lk : Nat) : Int)), .int (vI ((ll : Nat) : Int)), .ref aS, .ref aT, .int (vI ((pp : Nat) : Int)), .int (vI (zprev (zslot d least NS) ((zslot d least NS) pp) (zst lk n ga least pp (zlm cap gb n pp)))), .int (vI ((pp - win : Nat) : Int)), .int (vI (zlm cap gb n pp)), .int (vI ((least - 1 : Nat) : Int)), .int (vI (0)), .int (vI (0))])), (hR, .inr (3, [.ref aB, .int (vI ((n : Nat) : Int)), .int (vI ((pa : Nat) : Int))])), (hL, .inr (4, [.int (vI ((way : Nat) : Int)), .int (vI ((win : Nat) : Int)), .int (vI ((least : Nat) : Int)), .int (vI ((cap : Nat) : Int)), .int (vI ((ga : Nat) : Int)), .int (vI ((gb : Nat) : Int)), .int (vI ((lp : Nat) : Int)), .int (vI ((mp : Nat) : Int))])), ia aK cI (NS) (gK)] := hD
  have hlm := zlm_in cap gb n pp
  have hst := zst_le lk n ga least pp (zlm cap gb n pp)
  refine lv_aload_n hx hb dX0_seekNearest_12 rfl (lv_at hl 0 rfl) ?_
  have hPc := hP.sub (ws' := [(hF, .inr (0, [.ref hR, .ref hL, .ref aL, .ref aK, .int (vI ((lk : Nat) : Int)), .int (vI ((ll : Nat) : Int)), .ref aS, .ref aT, .int (vI ((pp : Nat) : Int)), .int (vI (zprev (zslot d least NS) ((zslot d least NS) pp) (zst lk n ga least pp (zlm cap gb n pp)))), .int (vI ((pp - win : Nat) : Int)), .int (vI (zlm cap gb n pp)), .int (vI ((least - 1 : Nat) : Int)), .int (vI ((0 : Nat) : Int)), .int (vI ((0 : Nat) : Int))])), (hR, .inr (3, [.ref aB, .int (vI ((n : Nat) : Int)), .int (vI ((pa : Nat) : Int))])), ia aB cB (NB) (d), ia aK cI (NS) (gK), ia aS cI (NS) (gS), ia aT cI (NS) (gT)]) [3, 4, 0, 6, 1, 2] rfl
  have hDc := hD.sub (ws' := [(hF, .inr (0, [.ref hR, .ref hL, .ref aL, .ref aK, .int (vI ((lk : Nat) : Int)), .int (vI ((ll : Nat) : Int)), .ref aS, .ref aT, .int (vI ((pp : Nat) : Int)), .int (vI (zprev (zslot d least NS) ((zslot d least NS) pp) (zst lk n ga least pp (zlm cap gb n pp)))), .int (vI ((pp - win : Nat) : Int)), .int (vI (zlm cap gb n pp)), .int (vI ((least - 1 : Nat) : Int)), .int (vI ((0 : Nat) : Int)), .int (vI ((0 : Nat) : Int))])), (hR, .inr (3, [.ref aB, .int (vI ((n : Nat) : Int)), .int (vI ((pa : Nat) : Int))])), ia aB cB (NB) (d), ia aK cI (NS) (gK), ia aS cI (NS) (gS), ia aT cI (NS) (gT)]) [3, 4, 0, 6, 1, 2] (by decide) rfl
  refine zc_i (wr := [(hL, .inr (4, [.int (vI ((way : Nat) : Int)), .int (vI ((win : Nat) : Int)), .int (vI ((least : Nat) : Int)), .int (vI ((cap : Nat) : Int)), .int (vI ((ga : Nat) : Int)), .int (vI ((gb : Nat) : Int)), .int (vI ((lp : Nat) : Int)), .int (vI ((mp : Nat) : Int))]))]) (va_runV (As := []) (rest := []) ⟨hx, hb, hml, hown, hts⟩ (c_X0_findLonger l D cI cB _ hF hR hL aL aK aS aT aB lk ll n pa NB NS d (zslot d least NS) gK pp (pp - win) (zlm cap gb n pp) (least - 1) 0 0 (zst lk n ga least pp (zlm cap gb n pp)) gS gT (by omega) (fun h => zst_pos h (by omega)) (hz) (fun q a1 a2 => zslot_run (k := (zlm cap gb n pp).toNat) (by omega)) (hby) (hM)) ⟨callB_of 0 hts (zg kX0_findLonger) rfl rfl rfl (hts _ aw_4) (hts _ aw_390) (by decide +kernel) ⟨Nat.le_trans (Nat.le_of_ble_eq_true rfl) hRf, Nat.le_trans (Nat.le_of_ble_eq_true rfl) hRl⟩, (hts _ aw_392), (hts _ as_17)⟩ ⟨zPre_blind, va_recv hK hPc (ci := 0) (q0 := 0) rfl rfl, zPre_of hK hns hPc hDc⟩ rfl rfl hl.1 rfl (lv_room (Nat.le_of_ble_eq_true rfl)) dX0_seekNearest_13 ⟨hRc, hRs⟩) hP hD hS hA [3, 4, 0, 6, 1, 2] [5] rfl rfl (by decide) (by decide) (fun r u H locs hpost hP hD hS => ?_)
  obtain ⟨rb_13, gS2_13, gT2_13, c2_13, b2_13, l2_13, d2_13⟩ := u
  obtain ⟨rfl, hM_13, hr_13⟩ := hpost
  have hP : va_P D vwCl [(hL, .inr (4, [.int (vI ((way : Nat) : Int)), .int (vI ((win : Nat) : Int)), .int (vI ((least : Nat) : Int)), .int (vI ((cap : Nat) : Int)), .int (vI ((ga : Nat) : Int)), .int (vI ((gb : Nat) : Int)), .int (vI ((lp : Nat) : Int)), .int (vI ((mp : Nat) : Int))])), (hF, .inr (0, [.ref hR, .ref hL, .ref aL, .ref aK, .int (vI ((lk : Nat) : Int)), .int (vI ((ll : Nat) : Int)), .ref aS, .ref aT, .int (vI ((pp : Nat) : Int)), .int (vI (zprev (zslot d least NS) ((zslot d least NS) pp) c2_13)), .int (vI ((pp - win : Nat) : Int)), .int (vI (zlm cap gb n pp)), .int (vI ((b2_13 : Nat) : Int)), .int (vI ((l2_13 : Nat) : Int)), .int (vI ((d2_13 : Nat) : Int))])), (hR, .inr (3, [.ref aB, .int (vI ((n : Nat) : Int)), .int (vI ((pa : Nat) : Int))])), ia aB cB (NB) (d), ia aK cI (NS) (gK), ia aS cI (NS) (gS2_13), ia aT cI (NS) (gT2_13)] H := hP
  have hD : va_D _ [(hL, .inr (4, [.int (vI ((way : Nat) : Int)), .int (vI ((win : Nat) : Int)), .int (vI ((least : Nat) : Int)), .int (vI ((cap : Nat) : Int)), .int (vI ((ga : Nat) : Int)), .int (vI ((gb : Nat) : Int)), .int (vI ((lp : Nat) : Int)), .int (vI ((mp : Nat) : Int))])), (hF, .inr (0, [.ref hR, .ref hL, .ref aL, .ref aK, .int (vI ((lk : Nat) : Int)), .int (vI ((ll : Nat) : Int)), .ref aS, .ref aT, .int (vI ((pp : Nat) : Int)), .int (vI (zprev (zslot d least NS) ((zslot d least NS) pp) c2_13)), .int (vI ((pp - win : Nat) : Int)), .int (vI (zlm cap gb n pp)), .int (vI ((b2_13 : Nat) : Int)), .int (vI ((l2_13 : Nat) : Int)), .int (vI ((d2_13 : Nat) : Int))])), (hR, .inr (3, [.ref aB, .int (vI ((n : Nat) : Int)), .int (vI ((pa : Nat) : Int))])), ia aB cB (NB) (d), ia aK cI (NS) (gK), ia aS cI (NS) (gS2_13), ia aT cI (NS) (gT2_13)] := hD
  refine lv_pop hx hb dX0_seekNearest_16 rfl ?_
  have hP9 := hP.sub (ws' := [(hF, .inr (0, [.ref hR, .ref hL, .ref aL, .ref aK, .int (vI ((lk : Nat) : Int)), .int (vI ((ll : Nat) : Int)), .ref aS, .ref aT, .int (vI ((pp : Nat) : Int)), .int (vI (zprev (zslot d least NS) ((zslot d least NS) pp) c2_13)), .int (vI ((pp - win : Nat) : Int)), .int (vI (zlm cap gb n pp)), .int (vI ((b2_13 : Nat) : Int)), .int (vI ((l2_13 : Nat) : Int)), .int (vI ((d2_13 : Nat) : Int))])), (hR, .inr (3, [.ref aB, .int (vI ((n : Nat) : Int)), .int (vI ((pa : Nat) : Int))])), ia aB cB (NB) (d), (hL, .inr (4, [.int (vI ((way : Nat) : Int)), .int (vI ((win : Nat) : Int)), .int (vI ((least : Nat) : Int)), .int (vI ((cap : Nat) : Int)), .int (vI ((ga : Nat) : Int)), .int (vI ((gb : Nat) : Int)), .int (vI ((lp : Nat) : Int)), .int (vI ((mp : Nat) : Int))])), ia aK cI (NS) (gK), ia aS cI (NS) (gS2_13), ia aT cI (NS) (gT2_13)]) [1, 2, 3, 0, 4, 5, 6] rfl
  have hD9 := hD.sub (ws' := [(hF, .inr (0, [.ref hR, .ref hL, .ref aL, .ref aK, .int (vI ((lk : Nat) : Int)), .int (vI ((ll : Nat) : Int)), .ref aS, .ref aT, .int (vI ((pp : Nat) : Int)), .int (vI (zprev (zslot d least NS) ((zslot d least NS) pp) c2_13)), .int (vI ((pp - win : Nat) : Int)), .int (vI (zlm cap gb n pp)), .int (vI ((b2_13 : Nat) : Int)), .int (vI ((l2_13 : Nat) : Int)), .int (vI ((d2_13 : Nat) : Int))])), (hR, .inr (3, [.ref aB, .int (vI ((n : Nat) : Int)), .int (vI ((pa : Nat) : Int))])), ia aB cB (NB) (d), (hL, .inr (4, [.int (vI ((way : Nat) : Int)), .int (vI ((win : Nat) : Int)), .int (vI ((least : Nat) : Int)), .int (vI ((cap : Nat) : Int)), .int (vI ((ga : Nat) : Int)), .int (vI ((gb : Nat) : Int)), .int (vI ((lp : Nat) : Int)), .int (vI ((mp : Nat) : Int))])), ia aK cI (NS) (gK), ia aS cI (NS) (gS2_13), ia aT cI (NS) (gT2_13)]) [1, 2, 3, 0, 4, 5, 6] (by decide) rfl
  exact zr_v hx hb hr hlocks ((((pp : Nat) : Int), (zprev (zslot d least NS) ((zslot d least NS) pp) c2_13), ((pp - win : Nat) : Int), (zlm cap gb n pp), ((b2_13 : Nat) : Int), l2_13, d2_13, gS2_13, gT2_13)) ⟨hM_13, (znr_of hr_13).trans (by unfold znr; rw [zst_eq (least := least) (by omega) (Nat.le_refl _)])⟩ hP9 hD9 hS dX0_seekNearest_17

set_option maxRecDepth 100000 in
set_option maxHeartbeats 4000000 in
theorem s_long {p : Program} {l : Launch} {e : Env} {R : Room} {s : State} {m : MethodId} {args : Array Value} {below : List Frame} {meth : Method} {c : Code} {Q : State → Prop} {A : Nat → Prop} {H0 : Heap} {D : va_G} {cI cB : ClassId} {cells slots : Nat} (hx : p.tables.exec = Jvm.exec) (hb : c.code = cX0_seekLongest) (hts : ∀ w ∈ zALL, w.before args s = true) (hown : s.vm.findClass RX0 = some m.cls) (hml : c.maxLocals = 3) (hK : va_K D vwCl [(cI, .int), (cB, .byte)] s) (hns : zNs s) (hA : ∀ q, H0.size ≤ q → A q) (hRf : 3 ≤ R.frames) (hRl : 74 ≤ R.locals) (hRc : cells ≤ R.cells) (hRs : slots ≤ R.slots) (hF : Nat) (hR : Nat) (hL : Nat) (aL : Nat) (aK : Nat) (aS : Nat) (aT : Nat) (aB : Nat) (lk : Nat) (ll : Nat) (n : Nat) (pa : Nat) (NB : Nat) (NS : Nat) (d : Nat → Int) (way : Nat) (win : Nat) (least : Nat) (cap : Nat) (ga : Nat) (gb : Nat) (lp : Nat) (mp : Nat) (gK : Nat → Int) (pp : Nat) (h1 : 3 ≤ least ∧ least ≤ 8 ∧ pp < n ∧ lk ≤ n ∧ n < lk + least ∧ n ≤ NB ∧ NB ≤ 32768 ∧ n ≤ NS ∧ NS ≤ 32768 ∧ win ≤ 65536 ∧ cap ≤ 131072 ∧ ga ≤ 32 ∧ gb ≤ 32) (hz : ∀ q, q < lk → gK q = zprev (zslot d least NS) ((zslot d least NS) q) q) (hby : ∀ j, -128 ≤ d j ∧ d j < 128)
    (K1 : ∀ (cc : Nat) (b : Nat) (ln : Nat) (ds : Nat) (gS : Nat → Int) (gT : Nat → Int) (H : Heap) (locs : List Loc) (ls : Array Slot), ((ln, ds) = zLG pp least (zbest (zrun d (zlm cap gb n pp).toNat pp) (pp - win) (zst lk n ga least pp (zlm cap gb n pp)) (least - 1, 0))) → (ln ≤ 32768) → (zMemo d n NS gS gT) → va_P D vwCl [(hF, .inr (0, [.ref hR, .ref hL, .ref aL, .ref aK, .int (vI ((lk : Nat) : Int)), .int (vI ((ll : Nat) : Int)), .ref aS, .ref aT, .int (vI ((pp : Nat) : Int)), .int (vI (zprev (zslot d least NS) ((zslot d least NS) pp) cc)), .int (vI ((pp - win : Nat) : Int)), .int (vI (zlm cap gb n pp)), .int (vI ((b : Nat) : Int)), .int (vI ((ln : Nat) : Int)), .int (vI ((ds : Nat) : Int))])), (hR, .inr (3, [.ref aB, .int (vI ((n : Nat) : Int)), .int (vI ((pa : Nat) : Int))])), ia aB cB (NB) (d), (hL, .inr (4, [.int (vI ((way : Nat) : Int)), .int (vI ((win : Nat) : Int)), .int (vI ((least : Nat) : Int)), .int (vI ((cap : Nat) : Int)), .int (vI ((ga : Nat) : Int)), .int (vI ((gb : Nat) : Int)), .int (vI ((lp : Nat) : Int)), .int (vI ((mp : Nat) : Int))])), ia aK cI (NS) (gK), ia aS cI (NS) (gS), ia aT cI (NS) (gT)] H → va_D A [(hF, .inr (0, [.ref hR, .ref hL, .ref aL, .ref aK, .int (vI ((lk : Nat) : Int)), .int (vI ((ll : Nat) : Int)), .ref aS, .ref aT, .int (vI ((pp : Nat) : Int)), .int (vI (zprev (zslot d least NS) ((zslot d least NS) pp) cc)), .int (vI ((pp - win : Nat) : Int)), .int (vI (zlm cap gb n pp)), .int (vI ((b : Nat) : Int)), .int (vI ((ln : Nat) : Int)), .int (vI ((ds : Nat) : Int))])), (hR, .inr (3, [.ref aB, .int (vI ((n : Nat) : Int)), .int (vI ((pa : Nat) : Int))])), ia aB cB (NB) (d), (hL, .inr (4, [.int (vI ((way : Nat) : Int)), .int (vI ((win : Nat) : Int)), .int (vI ((least : Nat) : Int)), .int (vI ((cap : Nat) : Int)), .int (vI ((ga : Nat) : Int)), .int (vI ((gb : Nat) : Int)), .int (vI ((lp : Nat) : Int)), .int (vI ((mp : Nat) : Int))])), ia aK cI (NS) (gK), ia aS cI (NS) (gS), ia aT cI (NS) (gT)] → va_S A H0 H locs → lv_has ls 3 [(0, .ref hF), (1, .int (vI ((pp : Nat) : Int)))] → W p l e R s m args below meth c H locs cells slots Q (F0 m 31 ls []))
    : ∀ (fuel : Nat), ∀ (left : Nat) (cc : Nat) (b : Nat) (ln : Nat) (ds : Nat) (gS : Nat → Int) (gT : Nat → Int) (u : Nat × Nat) (_ : left < fuel) (H : Heap) (locs : List Loc) (ls : Array Slot), (cc ≤ zst lk n ga least pp (zlm cap gb n pp) ∧ cc ≤ left ∧ left ≤ pp) → (zbest (zrun d (zlm cap gb n pp).toNat pp) (pp - win) cc u = zbest (zrun d (zlm cap gb n pp).toNat pp) (pp - win) (zst lk n ga least pp (zlm cap gb n pp)) (least - 1, 0)) → (zCur pp least u b ln ds) → (b ≤ 32768 ∧ least - 1 ≤ b) → (zMemo d n NS gS gT) → va_P D vwCl [(hF, .inr (0, [.ref hR, .ref hL, .ref aL, .ref aK, .int (vI ((lk : Nat) : Int)), .int (vI ((ll : Nat) : Int)), .ref aS, .ref aT, .int (vI ((pp : Nat) : Int)), .int (vI (zprev (zslot d least NS) ((zslot d least NS) pp) cc)), .int (vI ((pp - win : Nat) : Int)), .int (vI (zlm cap gb n pp)), .int (vI ((b : Nat) : Int)), .int (vI ((ln : Nat) : Int)), .int (vI ((ds : Nat) : Int))])), (hR, .inr (3, [.ref aB, .int (vI ((n : Nat) : Int)), .int (vI ((pa : Nat) : Int))])), ia aB cB (NB) (d), (hL, .inr (4, [.int (vI ((way : Nat) : Int)), .int (vI ((win : Nat) : Int)), .int (vI ((least : Nat) : Int)), .int (vI ((cap : Nat) : Int)), .int (vI ((ga : Nat) : Int)), .int (vI ((gb : Nat) : Int)), .int (vI ((lp : Nat) : Int)), .int (vI ((mp : Nat) : Int))])), ia aK cI (NS) (gK), ia aS cI (NS) (gS), ia aT cI (NS) (gT)] H → va_D A [(hF, .inr (0, [.ref hR, .ref hL, .ref aL, .ref aK, .int (vI ((lk : Nat) : Int)), .int (vI ((ll : Nat) : Int)), .ref aS, .ref aT, .int (vI ((pp : Nat) : Int)), .int (vI (zprev (zslot d least NS) ((zslot d least NS) pp) cc)), .int (vI ((pp - win : Nat) : Int)), .int (vI (zlm cap gb n pp)), .int (vI ((b : Nat) : Int)), .int (vI ((ln : Nat) : Int)), .int (vI ((ds : Nat) : Int))])), (hR, .inr (3, [.ref aB, .int (vI ((n : Nat) : Int)), .int (vI ((pa : Nat) : Int))])), ia aB cB (NB) (d), (hL, .inr (4, [.int (vI ((way : Nat) : Int)), .int (vI ((win : Nat) : Int)), .int (vI ((least : Nat) : Int)), .int (vI ((cap : Nat) : Int)), .int (vI ((ga : Nat) : Int)), .int (vI ((gb : Nat) : Int)), .int (vI ((lp : Nat) : Int)), .int (vI ((mp : Nat) : Int))])), ia aK cI (NS) (gK), ia aS cI (NS) (gS), ia aT cI (NS) (gT)] → va_S A H0 H locs → lv_has ls 3 [(0, .ref hF), (1, .int (vI ((pp : Nat) : Int))), (2, .int (vI ((left : Nat) : Int)))] → W p l e R s m args below meth c H locs cells slots Q (F0 m 14 ls []) := by
  intro fuel
  induction fuel with
  | zero =>
    intro left cc b ln ds gS gT u hfuel
    exact absurd hfuel (Nat.not_lt_zero _)
  | succ fuel ih =>
    intro left cc b ln ds gS gT u hfuel H locs ls hc hu hcur hub hM hP hD hS hl
    have hlm := zlm_in cap gb n pp
    have hst := zst_le lk n ga least pp (zlm cap gb n pp)
    refine lv_iload_n hx hb dX0_seekLongest_14 rfl (lv_at hl 2 rfl) ?_
    refine zw_if_le (tgt := 31) hx hb dX0_seekLongest_15 (by decide) ⟨by omega, by omega⟩ (fun c_15 => ?_) (fun c_15 => ?_)
    · exact K1 cc b ln ds gS gT _ _ _ (zcur_end hcur hu (by rw [show cc = 0 by omega]; rfl)) (zcur_ln hcur hub.1) (hM) (hP.sub [0, 1, 2, 3, 4, 5, 6] rfl) (hD.sub [0, 1, 2, 3, 4, 5, 6] (by decide) rfl) hS (lv_sub hl [0, 1] rfl)
    · refine lv_aload_n hx hb dX0_seekLongest_18 rfl (lv_at hl 0 rfl) ?_
      have hPc := hP.sub (ws' := [(hF, .inr (0, [.ref hR, .ref hL, .ref aL, .ref aK, .int (vI ((lk : Nat) : Int)), .int (vI ((ll : Nat) : Int)), .ref aS, .ref aT, .int (vI ((pp : Nat) : Int)), .int (vI (zprev (zslot d least NS) ((zslot d least NS) pp) cc)), .int (vI ((pp - win : Nat) : Int)), .int (vI (zlm cap gb n pp)), .int (vI ((b : Nat) : Int)), .int (vI ((ln : Nat) : Int)), .int (vI ((ds : Nat) : Int))])), (hR, .inr (3, [.ref aB, .int (vI ((n : Nat) : Int)), .int (vI ((pa : Nat) : Int))])), ia aB cB (NB) (d), ia aK cI (NS) (gK), ia aS cI (NS) (gS), ia aT cI (NS) (gT)]) [0, 1, 2, 4, 5, 6] rfl
      have hDc := hD.sub (ws' := [(hF, .inr (0, [.ref hR, .ref hL, .ref aL, .ref aK, .int (vI ((lk : Nat) : Int)), .int (vI ((ll : Nat) : Int)), .ref aS, .ref aT, .int (vI ((pp : Nat) : Int)), .int (vI (zprev (zslot d least NS) ((zslot d least NS) pp) cc)), .int (vI ((pp - win : Nat) : Int)), .int (vI (zlm cap gb n pp)), .int (vI ((b : Nat) : Int)), .int (vI ((ln : Nat) : Int)), .int (vI ((ds : Nat) : Int))])), (hR, .inr (3, [.ref aB, .int (vI ((n : Nat) : Int)), .int (vI ((pa : Nat) : Int))])), ia aB cB (NB) (d), ia aK cI (NS) (gK), ia aS cI (NS) (gS), ia aT cI (NS) (gT)]) [0, 1, 2, 4, 5, 6] (by decide) rfl
      refine zc_i (wr := [(hL, .inr (4, [.int (vI ((way : Nat) : Int)), .int (vI ((win : Nat) : Int)), .int (vI ((least : Nat) : Int)), .int (vI ((cap : Nat) : Int)), .int (vI ((ga : Nat) : Int)), .int (vI ((gb : Nat) : Int)), .int (vI ((lp : Nat) : Int)), .int (vI ((mp : Nat) : Int))]))]) (va_runV (As := []) (rest := []) ⟨hx, hb, hml, hown, hts⟩ (c_X0_findLonger l D cI cB _ hF hR hL aL aK aS aT aB lk ll n pa NB NS d (zslot d least NS) gK pp (pp - win) (zlm cap gb n pp) b ln ds cc gS gT (by omega) (fun h => zst_pos (lk := lk) (n := n) (ga := ga) (al := least) (pp := pp) (cap := cap) (gb := gb) (by omega) (by omega)) (hz) (fun q a1 a2 => zslot_run (k := (zlm cap gb n pp).toNat) (by omega)) (hby) (hM)) ⟨callB_of 0 hts (zg kX0_findLonger) rfl rfl rfl (hts _ aw_4) (hts _ aw_390) (by decide +kernel) ⟨Nat.le_trans (Nat.le_of_ble_eq_true rfl) hRf, Nat.le_trans (Nat.le_of_ble_eq_true rfl) hRl⟩, (hts _ aw_392), (hts _ as_17)⟩ ⟨zPre_blind, va_recv hK hPc (ci := 0) (q0 := 0) rfl rfl, zPre_of hK hns hPc hDc⟩ rfl rfl hl.1 rfl (lv_room (Nat.le_of_ble_eq_true rfl)) dX0_seekLongest_19 ⟨hRc, hRs⟩) hP hD hS hA [0, 1, 2, 4, 5, 6] [3] rfl rfl (by decide) (by decide) (fun r u H locs hpost hP hD hS => ?_)
      obtain ⟨rb_19, gS2_19, gT2_19, c2_19, b2_19, l2_19, d2_19⟩ := u
      obtain ⟨rfl, hM_19, hr_19⟩ := hpost
      have hP : va_P D vwCl [(hL, .inr (4, [.int (vI ((way : Nat) : Int)), .int (vI ((win : Nat) : Int)), .int (vI ((least : Nat) : Int)), .int (vI ((cap : Nat) : Int)), .int (vI ((ga : Nat) : Int)), .int (vI ((gb : Nat) : Int)), .int (vI ((lp : Nat) : Int)), .int (vI ((mp : Nat) : Int))])), (hF, .inr (0, [.ref hR, .ref hL, .ref aL, .ref aK, .int (vI ((lk : Nat) : Int)), .int (vI ((ll : Nat) : Int)), .ref aS, .ref aT, .int (vI ((pp : Nat) : Int)), .int (vI (zprev (zslot d least NS) ((zslot d least NS) pp) c2_19)), .int (vI ((pp - win : Nat) : Int)), .int (vI (zlm cap gb n pp)), .int (vI ((b2_19 : Nat) : Int)), .int (vI ((l2_19 : Nat) : Int)), .int (vI ((d2_19 : Nat) : Int))])), (hR, .inr (3, [.ref aB, .int (vI ((n : Nat) : Int)), .int (vI ((pa : Nat) : Int))])), ia aB cB (NB) (d), ia aK cI (NS) (gK), ia aS cI (NS) (gS2_19), ia aT cI (NS) (gT2_19)] H := hP
      have hD : va_D _ [(hL, .inr (4, [.int (vI ((way : Nat) : Int)), .int (vI ((win : Nat) : Int)), .int (vI ((least : Nat) : Int)), .int (vI ((cap : Nat) : Int)), .int (vI ((ga : Nat) : Int)), .int (vI ((gb : Nat) : Int)), .int (vI ((lp : Nat) : Int)), .int (vI ((mp : Nat) : Int))])), (hF, .inr (0, [.ref hR, .ref hL, .ref aL, .ref aK, .int (vI ((lk : Nat) : Int)), .int (vI ((ll : Nat) : Int)), .ref aS, .ref aT, .int (vI ((pp : Nat) : Int)), .int (vI (zprev (zslot d least NS) ((zslot d least NS) pp) c2_19)), .int (vI ((pp - win : Nat) : Int)), .int (vI (zlm cap gb n pp)), .int (vI ((b2_19 : Nat) : Int)), .int (vI ((l2_19 : Nat) : Int)), .int (vI ((d2_19 : Nat) : Int))])), (hR, .inr (3, [.ref aB, .int (vI ((n : Nat) : Int)), .int (vI ((pa : Nat) : Int))])), ia aB cB (NB) (d), ia aK cI (NS) (gK), ia aS cI (NS) (gS2_19), ia aT cI (NS) (gT2_19)] := hD
      have hb9 := zFL_b hr_19
      refine zw_if_eq (tgt := 31) hx hb dX0_seekLongest_22 (by decide) ⟨by omega, by omega⟩ (fun c_22 => ?_) (fun c_22 => ?_)
      · obtain ⟨e1, e2, e3, e4, e5⟩ := zFL_0 hr_19 c_22
        exact K1 c2_19 b2_19 l2_19 d2_19 gS2_19 gT2_19 _ _ _ (by rw [e4, e5]; exact zcur_end hcur hu (zbest_end (by rw [← hcur.1]; exact e1))) (by rw [e4]; exact zcur_ln hcur hub.1) (hM_19) (hP.sub [1, 2, 3, 0, 4, 5, 6] rfl) (hD.sub [1, 2, 3, 0, 4, 5, 6] (by decide) rfl) hS (lv_sub hl [0, 1] rfl)
      · refine lv_iinc (v := vI ((left - 1 : Nat) : Int)) (lv' := [(2, .int (vI ((left - 1 : Nat) : Int))), (0, .ref hF), (1, .int (vI ((pp : Nat) : Int)))]) hx hb dX0_seekLongest_25 hl (k := 2) rfl ((vI_add _ _).trans (congrArg vI (by omega))) (by decide) rfl (fun ls hl => ?_)
        refine lv_goto (tgt := 14) hx hb dX0_seekLongest_28 (by decide) ?_
        obtain ⟨e1, e3, e4, e5⟩ := zFL_1 hr_19 c_22
        obtain ⟨e6, e7, e8, e9⟩ := zfnd_some _ _ e1
        have e10 := zst_pos (show 0 < zst lk n ga least pp (zlm cap gb n pp) by omega) (by omega)
        have e11 := zrun_le d (zlm cap gb n pp).toNat pp c2_19
        exact ih (left - 1) c2_19 b2_19 l2_19 d2_19 gS2_19 gT2_19 (zrun d (zlm cap gb n pp).toNat pp c2_19, c2_19) (by omega) _ _ _ (by omega) ((zbest_fnd (u := u) (by rw [← hcur.1]; exact e1)).symm.trans hu) (⟨e3, Or.inr ⟨by show least ≤ zrun d (zlm cap gb n pp).toNat pp c2_19; omega, e4, e5⟩⟩) (by omega) (hM_19) (hP.sub [1, 2, 3, 0, 4, 5, 6] rfl) (hD.sub [1, 2, 3, 0, 4, 5, 6] (by decide) rfl) hS (lv_sub hl [1, 2, 0] rfl)

set_option maxRecDepth 100000 in
set_option maxHeartbeats 4000000 in
theorem c_X0_seekLongest (l : Launch) (D : va_G) (cI cB : ClassId) (sz : Nat) (hF : Nat) (hR : Nat) (hL : Nat) (aL : Nat) (aK : Nat) (aS : Nat) (aT : Nat) (aB : Nat) (lk : Nat) (ll : Nat) (n : Nat) (pa : Nat) (NB : Nat) (NS : Nat) (d : Nat → Int) (plc : Int) (cand : Int) (low : Int) (lim : Int) (beat : Int) (ln : Int) (dist : Int) (way : Nat) (win : Nat) (least : Nat) (cap : Nat) (ga : Nat) (gb : Nat) (lp : Nat) (mp : Nat) (gK : Nat → Int) (gS : Nat → Int) (gT : Nat → Int) (pp : Nat) (h1 : 3 ≤ least ∧ least ≤ 8 ∧ pp < n ∧ lk ≤ n ∧ n < lk + least ∧ n ≤ NB ∧ NB ≤ 32768 ∧ n ≤ NS ∧ NS ≤ 32768 ∧ win ≤ 65536 ∧ cap ≤ 131072 ∧ ga ≤ 32 ∧ gb ≤ 32) (hz : ∀ q, q < lk → gK q = zprev (zslot d least NS) ((zslot d least NS) q) q) (hM : zMemo d n NS gS gT) (hby : ∀ j, -128 ≤ d j ∧ d j < 128) : Met l yX0_seekLongest wsX0_seekLongest ({ frames := 3, cells := 0, slots := 0, locals := 74 } : Room) (va_Pc [.ref hF, .int (vI ((pp : Nat) : Int))] (zPre D vwCl [(cI, .int), (cB, .byte)] [(hF, .inr (0, [.ref hR, .ref hL, .ref aL, .ref aK, .int (vI ((lk : Nat) : Int)), .int (vI ((ll : Nat) : Int)), .ref aS, .ref aT, .int (vI (plc)), .int (vI (cand)), .int (vI (low)), .int (vI (lim)), .int (vI (beat)), .int (vI (ln)), .int (vI (dist))])), (hR, .inr (3, [.ref aB, .int (vI ((n : Nat) : Int)), .int (vI ((pa : Nat) : Int))])), ia aB cB (NB) (d), (hL, .inr (4, [.int (vI ((way : Nat) : Int)), .int (vI ((win : Nat) : Int)), .int (vI ((least : Nat) : Int)), .int (vI ((cap : Nat) : Int)), .int (vI ((ga : Nat) : Int)), .int (vI ((gb : Nat) : Int)), .int (vI ((lp : Nat) : Int)), .int (vI ((mp : Nat) : Int))])), ia aK cI (NS) (gK), ia aS cI (NS) (gS), ia aT cI (NS) (gT)] sz)) (va_Qv (S := Int × Int × Int × Int × Int × Nat × Nat × (Nat → Int) × (Nat → Int)) (fun u => match u with | (plc2, cand2, low2, lim2, beat2, ln2, ds2, gS2, gT2) => (zMemo d n NS gS2 gT2) ∧ ((ln2, ds2) = zlg d n win cap ga gb least pp) ∧ (ln2 ≤ 32768)) (fun (u : Int × Int × Int × Int × Int × Nat × Nat × (Nat → Int) × (Nat → Int)) t => zB D vwCl (va_A [(hF, .inr (0, [.ref hR, .ref hL, .ref aL, .ref aK, .int (vI ((lk : Nat) : Int)), .int (vI ((ll : Nat) : Int)), .ref aS, .ref aT, .int (vI (plc)), .int (vI (cand)), .int (vI (low)), .int (vI (lim)), .int (vI (beat)), .int (vI (ln)), .int (vI (dist))])), (hR, .inr (3, [.ref aB, .int (vI ((n : Nat) : Int)), .int (vI ((pa : Nat) : Int))])), ia aB cB (NB) (d), (hL, .inr (4, [.int (vI ((way : Nat) : Int)), .int (vI ((win : Nat) : Int)), .int (vI ((least : Nat) : Int)), .int (vI ((cap : Nat) : Int)), .int (vI ((ga : Nat) : Int)), .int (vI ((gb : Nat) : Int)), .int (vI ((lp : Nat) : Int)), .int (vI ((mp : Nat) : Int))])), ia aK cI (NS) (gK), ia aS cI (NS) (gS), ia aT cI (NS) (gT)] sz) ((fun u => match u with | (plc2, cand2, low2, lim2, beat2, ln2, ds2, gS2, gT2) => [(hF, .inr (0, [.ref hR, .ref hL, .ref aL, .ref aK, .int (vI ((lk : Nat) : Int)), .int (vI ((ll : Nat) : Int)), .ref aS, .ref aT, .int (vI (plc2)), .int (vI (cand2)), .int (vI (low2)), .int (vI (lim2)), .int (vI (beat2)), .int (vI ((ln2 : Nat) : Int)), .int (vI ((ds2 : Nat) : Int))])), (hR, .inr (3, [.ref aB, .int (vI ((n : Nat) : Int)), .int (vI ((pa : Nat) : Int))])), ia aB cB (NB) (d), (hL, .inr (4, [.int (vI ((way : Nat) : Int)), .int (vI ((win : Nat) : Int)), .int (vI ((least : Nat) : Int)), .int (vI ((cap : Nat) : Int)), .int (vI ((ga : Nat) : Int)), .int (vI ((gb : Nat) : Int)), .int (vI ((lp : Nat) : Int)), .int (vI ((mp : Nat) : Int))])), ia aK cI (NS) (gK), ia aS cI (NS) (gS2), ia aT cI (NS) (gT2)] : Int × Int × Int × Int × Int × Nat × Nat × (Nat → Int) × (Nat → Int) → va_W) u) t) (va_A [(hF, .inr (0, [.ref hR, .ref hL, .ref aL, .ref aK, .int (vI ((lk : Nat) : Int)), .int (vI ((ll : Nat) : Int)), .ref aS, .ref aT, .int (vI (plc)), .int (vI (cand)), .int (vI (low)), .int (vI (lim)), .int (vI (beat)), .int (vI (ln)), .int (vI (dist))])), (hR, .inr (3, [.ref aB, .int (vI ((n : Nat) : Int)), .int (vI ((pa : Nat) : Int))])), ia aB cB (NB) (d), (hL, .inr (4, [.int (vI ((way : Nat) : Int)), .int (vI ((win : Nat) : Int)), .int (vI ((least : Nat) : Int)), .int (vI ((cap : Nat) : Int)), .int (vI ((ga : Nat) : Int)), .int (vI ((gb : Nat) : Int)), .int (vI ((lp : Nat) : Int)), .int (vI ((mp : Nat) : Int))])), ia aK cI (NS) (gK), ia aS cI (NS) (gS), ia aT cI (NS) (gT)] sz)) (0) (0) (va_A [(hF, .inr (0, [.ref hR, .ref hL, .ref aL, .ref aK, .int (vI ((lk : Nat) : Int)), .int (vI ((ll : Nat) : Int)), .ref aS, .ref aT, .int (vI (plc)), .int (vI (cand)), .int (vI (low)), .int (vI (lim)), .int (vI (beat)), .int (vI (ln)), .int (vI (dist))])), (hR, .inr (3, [.ref aB, .int (vI ((n : Nat) : Int)), .int (vI ((pa : Nat) : Int))])), ia aB cB (NB) (d), (hL, .inr (4, [.int (vI ((way : Nat) : Int)), .int (vI ((win : Nat) : Int)), .int (vI ((least : Nat) : Int)), .int (vI ((cap : Nat) : Int)), .int (vI ((ga : Nat) : Int)), .int (vI ((gb : Nat) : Int)), .int (vI ((lp : Nat) : Int)), .int (vI ((mp : Nat) : Int))])), ia aK cI (NS) (gK), ia aS cI (NS) (gS), ia aT cI (NS) (gT)] sz) := by
  refine zMet (by decide) rfl (Nat.le_of_ble_eq_true rfl) (fun p e s m below meth c hx hb hr hts hown hlocks hnm hml hK hns hA hP hD hS ls hl => ?_)
  have hl : lv_has ls 3 [(0, .ref hF), (1, .int (vI ((pp : Nat) : Int)))] := hl
  have hRf : 3 ≤ ({ frames := 3, cells := 0, slots := 0, locals := 74 } : Room).frames := Nat.le_refl _
  have hRl : 74 ≤ ({ frames := 3, cells := 0, slots := 0, locals := 74 } : Room).locals := Nat.le_refl _
  have hRc : 0 ≤ ({ frames := 3, cells := 0, slots := 0, locals := 74 } : Room).cells := Nat.zero_le _
  have hRs : 0 ≤ ({ frames := 3, cells := 0, slots := 0, locals := 74 } : Room).slots := Nat.zero_le _
  refine lv_aload_n hx hb dX0_seekLongest_0 rfl (lv_at hl 0 rfl) ?_
  refine lv_iload_n hx hb dX0_seekLongest_1 rfl (lv_at hl 1 rfl) ?_
  refine lv_aload_n hx hb dX0_seekLongest_2 rfl (lv_at hl 0 rfl) ?_
  refine va_get (D := D) (ci := 0) (v := .ref hL) (C := RX0) (T := TX0) (N := 15) hx hb hts iwX0 hown hK hP 0 rfl rfl 1 (by decide) (hts _ aw_101) (fun _ h9 => h9) rfl dX0_seekLongest_3 ?_
  refine va_getN (D := D) (ci := 4) (v := .int (vI ((least : Nat) : Int))) (C := RX4) (T := TX4) (N := 8) hx hb hts iwX4 hown hK hP 3 rfl rfl 2 (by decide) (va_Nw.use rfl (hns _ nw_60)) (fun _ h9 => h9) rfl dX0_seekLongest_6 ?_
  have hPc := hP.sub (ws' := [(hF, .inr (0, [.ref hR, .ref hL, .ref aL, .ref aK, .int (vI ((lk : Nat) : Int)), .int (vI ((ll : Nat) : Int)), .ref aS, .ref aT, .int (vI (plc)), .int (vI (cand)), .int (vI (low)), .int (vI (lim)), .int (vI (beat)), .int (vI (ln)), .int (vI (dist))])), (hR, .inr (3, [.ref aB, .int (vI ((n : Nat) : Int)), .int (vI ((pa : Nat) : Int))])), (hL, .inr (4, [.int (vI ((way : Nat) : Int)), .int (vI ((win : Nat) : Int)), .int (vI ((least : Nat) : Int)), .int (vI ((cap : Nat) : Int)), .int (vI ((ga : Nat) : Int)), .int (vI ((gb : Nat) : Int)), .int (vI ((lp : Nat) : Int)), .int (vI ((mp : Nat) : Int))])), ia aK cI (NS) (gK)]) [0, 1, 3, 4] rfl
  have hDc := hD.sub (ws' := [(hF, .inr (0, [.ref hR, .ref hL, .ref aL, .ref aK, .int (vI ((lk : Nat) : Int)), .int (vI ((ll : Nat) : Int)), .ref aS, .ref aT, .int (vI (plc)), .int (vI (cand)), .int (vI (low)), .int (vI (lim)), .int (vI (beat)), .int (vI (ln)), .int (vI (dist))])), (hR, .inr (3, [.ref aB, .int (vI ((n : Nat) : Int)), .int (vI ((pa : Nat) : Int))])), (hL, .inr (4, [.int (vI ((way : Nat) : Int)), .int (vI ((win : Nat) : Int)), .int (vI ((least : Nat) : Int)), .int (vI ((cap : Nat) : Int)), .int (vI ((ga : Nat) : Int)), .int (vI ((gb : Nat) : Int)), .int (vI ((lp : Nat) : Int)), .int (vI ((mp : Nat) : Int))])), ia aK cI (NS) (gK)]) [0, 1, 3, 4] (by decide) rfl
  refine zc_v (wr := [ia aB cB (NB) (d), ia aS cI (NS) (gS), ia aT cI (NS) (gT)]) (va_runV (As := [.int (vI ((pp : Nat) : Int)), .int (vI ((least : Nat) : Int))]) (rest := []) ⟨hx, hb, hml, hown, hts⟩ (c_X0_startAt l D cI cB _ hF hR hL aL aK aS aT aB lk ll n pa NS way win least cap ga gb lp mp plc cand low lim beat ln dist (zslot d least NS) gK pp least (by omega) (hz)) ⟨callB_of 2 hts (zg kX0_startAt) rfl rfl rfl (hts _ aw_4) (hts _ aw_373) (by decide +kernel) ⟨Nat.le_trans (Nat.le_of_ble_eq_true rfl) hRf, Nat.le_trans (Nat.le_of_ble_eq_true rfl) hRl⟩, (hts _ aw_375), (hts _ as_14)⟩ ⟨zPre_blind, va_recv hK hPc (ci := 0) (q0 := 0) rfl rfl, zPre_of hK hns hPc hDc⟩ rfl rfl hl.1 rfl (lv_room (Nat.le_of_ble_eq_true rfl)) dX0_seekLongest_9 ⟨hRc, hRs⟩) hP hD hS hA [0, 1, 3, 4] [2, 5, 6] rfl rfl (by decide) (by decide) (fun _u H locs hpost hP hD hS => ?_)
  have hP : va_P D vwCl [ia aB cB (NB) (d), ia aS cI (NS) (gS), ia aT cI (NS) (gT), (hF, .inr (0, [.ref hR, .ref hL, .ref aL, .ref aK, .int (vI ((lk : Nat) : Int)), .int (vI ((ll : Nat) : Int)), .ref aS, .ref aT, .int (vI ((pp : Nat) : Int)), .int (vI (zprev (zslot d least NS) ((zslot d least NS) pp) (zst lk n ga least pp (zlm cap gb n pp)))), .int (vI ((pp - win : Nat) : Int)), .int (vI (zlm cap gb n pp)), .int (vI ((least - 1 : Nat) : Int)), .int (vI (0)), .int (vI (0))])), (hR, .inr (3, [.ref aB, .int (vI ((n : Nat) : Int)), .int (vI ((pa : Nat) : Int))])), (hL, .inr (4, [.int (vI ((way : Nat) : Int)), .int (vI ((win : Nat) : Int)), .int (vI ((least : Nat) : Int)), .int (vI ((cap : Nat) : Int)), .int (vI ((ga : Nat) : Int)), .int (vI ((gb : Nat) : Int)), .int (vI ((lp : Nat) : Int)), .int (vI ((mp : Nat) : Int))])), ia aK cI (NS) (gK)] H := hP
  have hD : va_D _ [ia aB cB (NB) (d), ia aS cI (NS) (gS), ia aT cI (NS) (gT), (hF, .inr (0, [.ref hR, .ref hL, .ref aL, .ref aK, .int (vI ((lk : Nat) : Int)), .int (vI ((ll : Nat) : Int)), .ref aS, .ref aT, .int (vI ((pp : Nat) : Int)), .int (vI (zprev (zslot d least NS) ((zslot d least NS) pp) (zst lk n ga least pp (zlm cap gb n pp)))), .int (vI ((pp - win : Nat) : Int)), .int (vI (zlm cap gb n pp)), .int (vI ((least - 1 : Nat) : Int)), .int (vI (0)), .int (vI (0))])), (hR, .inr (3, [.ref aB, .int (vI ((n : Nat) : Int)), .int (vI ((pa : Nat) : Int))])), (hL, .inr (4, [.int (vI ((way : Nat) : Int)), .int (vI ((win : Nat) : Int)), .int (vI ((least : Nat) : Int)), .int (vI ((cap : Nat) : Int)), .int (vI ((ga : Nat) : Int)), .int (vI ((gb : Nat) : Int)), .int (vI ((lp : Nat) : Int)), .int (vI ((mp : Nat) : Int))])), ia aK cI (NS) (gK)] := hD
  have hlm := zlm_in cap gb n pp
  have hst := zst_le lk n ga least pp (zlm cap gb n pp)
  refine lv_iload_n hx hb dX0_seekLongest_12 rfl (lv_at hl 1 rfl) ?_
  refine lv_istore_n (lv' := [(2, .int (vI ((pp : Nat) : Int))), (0, .ref hF), (1, .int (vI ((pp : Nat) : Int)))]) hx hb dX0_seekLongest_13 rfl hl (by decide) rfl (fun ls hl => ?_)
  refine s_long hx hb hts hown hml hK hns hA (Nat.le_trans (Nat.le_of_ble_eq_true rfl) hRf) (Nat.le_trans (Nat.le_of_ble_eq_true rfl) hRl) hRc hRs hF hR hL aL aK aS aT aB lk ll n pa NB NS d way win least cap ga gb lp mp gK pp (by omega) (hz) (hby) (fun cc b ln ds gS gT H locs ls hrr hln hM hP hD hS hl => ?_) (pp + 1) pp (zst lk n ga least pp (zlm cap gb n pp)) (least - 1) 0 0 gS gT (least - 1, 0) (Nat.lt_succ_self _) _ _ _ (by omega) (rfl) (⟨rfl, Or.inl ⟨by show least - 1 < least; omega, rfl, rfl⟩⟩) (by omega) (hM) (hP.sub [3, 4, 0, 5, 6, 1, 2] rfl) (hD.sub [3, 4, 0, 5, 6, 1, 2] (by decide) rfl) hS (lv_sub hl [1, 2, 0] rfl)
  exact zr_v hx hb hr hlocks ((((pp : Nat) : Int), (zprev (zslot d least NS) ((zslot d least NS) pp) cc), ((pp - win : Nat) : Int), (zlm cap gb n pp), ((b : Nat) : Int), ln, ds, gS, gT)) ⟨hM, hrr.trans (by unfold zlg; rw [zst_eq (least := least) (by omega) (Nat.le_refl _)]), hln⟩ hP hD hS dX0_seekLongest_31

set_option maxRecDepth 100000 in
set_option maxHeartbeats 4000000 in
theorem c_X0_seekLongestIfNotNext (l : Launch) (D : va_G) (cI cB : ClassId) (sz : Nat) (hF : Nat) (hR : Nat) (hL : Nat) (aL : Nat) (aK : Nat) (aS : Nat) (aT : Nat) (aB : Nat) (lk : Nat) (ll : Nat) (n : Nat) (pa : Nat) (NB : Nat) (NS : Nat) (d : Nat → Int) (plc : Int) (cand : Int) (low : Int) (lim : Int) (beat : Int) (ln : Int) (dist : Int) (way : Nat) (win : Nat) (least : Nat) (cap : Nat) (ga : Nat) (gb : Nat) (lp : Nat) (mp : Nat) (gK : Nat → Int) (gS : Nat → Int) (gT : Nat → Int) (pp : Nat) (h1 : 3 ≤ least ∧ least ≤ 8 ∧ pp < n ∧ lk ≤ n ∧ n < lk + least ∧ n ≤ NB ∧ NB ≤ 32768 ∧ n ≤ NS ∧ NS ≤ 32768 ∧ win ≤ 65536 ∧ cap ≤ 131072 ∧ ga ≤ 32 ∧ gb ≤ 32) (hz : ∀ q, q < lk → gK q = zprev (zslot d least NS) ((zslot d least NS) q) q) (hM : zMemo d n NS gS gT) (hby : ∀ j, -128 ≤ d j ∧ d j < 128) : Met l yX0_seekLongestIfNotNext wsX0_seekLongestIfNotNext ({ frames := 4, cells := 0, slots := 0, locals := 96 } : Room) (va_Pc [.ref hF, .int (vI ((pp : Nat) : Int))] (zPre D vwCl [(cI, .int), (cB, .byte)] [(hF, .inr (0, [.ref hR, .ref hL, .ref aL, .ref aK, .int (vI ((lk : Nat) : Int)), .int (vI ((ll : Nat) : Int)), .ref aS, .ref aT, .int (vI (plc)), .int (vI (cand)), .int (vI (low)), .int (vI (lim)), .int (vI (beat)), .int (vI (ln)), .int (vI (dist))])), (hR, .inr (3, [.ref aB, .int (vI ((n : Nat) : Int)), .int (vI ((pa : Nat) : Int))])), ia aB cB (NB) (d), (hL, .inr (4, [.int (vI ((way : Nat) : Int)), .int (vI ((win : Nat) : Int)), .int (vI ((least : Nat) : Int)), .int (vI ((cap : Nat) : Int)), .int (vI ((ga : Nat) : Int)), .int (vI ((gb : Nat) : Int)), .int (vI ((lp : Nat) : Int)), .int (vI ((mp : Nat) : Int))])), ia aK cI (NS) (gK), ia aS cI (NS) (gS), ia aT cI (NS) (gT)] sz)) (va_Qv (S := Int × Int × Int × Int × Int × Nat × Nat × (Nat → Int) × (Nat → Int)) (fun u => match u with | (plc2, cand2, low2, lim2, beat2, ln2, ds2, gS2, gT2) => (zMemo d n NS gS2 gT2) ∧ ((ln2, ds2) = zl3 d n win cap ga gb least pp) ∧ (ln2 ≤ 32768)) (fun (u : Int × Int × Int × Int × Int × Nat × Nat × (Nat → Int) × (Nat → Int)) t => zB D vwCl (va_A [(hF, .inr (0, [.ref hR, .ref hL, .ref aL, .ref aK, .int (vI ((lk : Nat) : Int)), .int (vI ((ll : Nat) : Int)), .ref aS, .ref aT, .int (vI (plc)), .int (vI (cand)), .int (vI (low)), .int (vI (lim)), .int (vI (beat)), .int (vI (ln)), .int (vI (dist))])), (hR, .inr (3, [.ref aB, .int (vI ((n : Nat) : Int)), .int (vI ((pa : Nat) : Int))])), ia aB cB (NB) (d), (hL, .inr (4, [.int (vI ((way : Nat) : Int)), .int (vI ((win : Nat) : Int)), .int (vI ((least : Nat) : Int)), .int (vI ((cap : Nat) : Int)), .int (vI ((ga : Nat) : Int)), .int (vI ((gb : Nat) : Int)), .int (vI ((lp : Nat) : Int)), .int (vI ((mp : Nat) : Int))])), ia aK cI (NS) (gK), ia aS cI (NS) (gS), ia aT cI (NS) (gT)] sz) ((fun u => match u with | (plc2, cand2, low2, lim2, beat2, ln2, ds2, gS2, gT2) => [(hF, .inr (0, [.ref hR, .ref hL, .ref aL, .ref aK, .int (vI ((lk : Nat) : Int)), .int (vI ((ll : Nat) : Int)), .ref aS, .ref aT, .int (vI (plc2)), .int (vI (cand2)), .int (vI (low2)), .int (vI (lim2)), .int (vI (beat2)), .int (vI ((ln2 : Nat) : Int)), .int (vI ((ds2 : Nat) : Int))])), (hR, .inr (3, [.ref aB, .int (vI ((n : Nat) : Int)), .int (vI ((pa : Nat) : Int))])), ia aB cB (NB) (d), (hL, .inr (4, [.int (vI ((way : Nat) : Int)), .int (vI ((win : Nat) : Int)), .int (vI ((least : Nat) : Int)), .int (vI ((cap : Nat) : Int)), .int (vI ((ga : Nat) : Int)), .int (vI ((gb : Nat) : Int)), .int (vI ((lp : Nat) : Int)), .int (vI ((mp : Nat) : Int))])), ia aK cI (NS) (gK), ia aS cI (NS) (gS2), ia aT cI (NS) (gT2)] : Int × Int × Int × Int × Int × Nat × Nat × (Nat → Int) × (Nat → Int) → va_W) u) t) (va_A [(hF, .inr (0, [.ref hR, .ref hL, .ref aL, .ref aK, .int (vI ((lk : Nat) : Int)), .int (vI ((ll : Nat) : Int)), .ref aS, .ref aT, .int (vI (plc)), .int (vI (cand)), .int (vI (low)), .int (vI (lim)), .int (vI (beat)), .int (vI (ln)), .int (vI (dist))])), (hR, .inr (3, [.ref aB, .int (vI ((n : Nat) : Int)), .int (vI ((pa : Nat) : Int))])), ia aB cB (NB) (d), (hL, .inr (4, [.int (vI ((way : Nat) : Int)), .int (vI ((win : Nat) : Int)), .int (vI ((least : Nat) : Int)), .int (vI ((cap : Nat) : Int)), .int (vI ((ga : Nat) : Int)), .int (vI ((gb : Nat) : Int)), .int (vI ((lp : Nat) : Int)), .int (vI ((mp : Nat) : Int))])), ia aK cI (NS) (gK), ia aS cI (NS) (gS), ia aT cI (NS) (gT)] sz)) (0) (0) (va_A [(hF, .inr (0, [.ref hR, .ref hL, .ref aL, .ref aK, .int (vI ((lk : Nat) : Int)), .int (vI ((ll : Nat) : Int)), .ref aS, .ref aT, .int (vI (plc)), .int (vI (cand)), .int (vI (low)), .int (vI (lim)), .int (vI (beat)), .int (vI (ln)), .int (vI (dist))])), (hR, .inr (3, [.ref aB, .int (vI ((n : Nat) : Int)), .int (vI ((pa : Nat) : Int))])), ia aB cB (NB) (d), (hL, .inr (4, [.int (vI ((way : Nat) : Int)), .int (vI ((win : Nat) : Int)), .int (vI ((least : Nat) : Int)), .int (vI ((cap : Nat) : Int)), .int (vI ((ga : Nat) : Int)), .int (vI ((gb : Nat) : Int)), .int (vI ((lp : Nat) : Int)), .int (vI ((mp : Nat) : Int))])), ia aK cI (NS) (gK), ia aS cI (NS) (gS), ia aT cI (NS) (gT)] sz) := by
  refine zMet (by decide) rfl (Nat.le_of_ble_eq_true rfl) (fun p e s m below meth c hx hb hr hts hown hlocks hnm hml hK hns hA hP hD hS ls hl => ?_)
  have hl : lv_has ls 5 [(0, .ref hF), (1, .int (vI ((pp : Nat) : Int)))] := hl
  have hRf : 4 ≤ ({ frames := 4, cells := 0, slots := 0, locals := 96 } : Room).frames := Nat.le_refl _
  have hRl : 96 ≤ ({ frames := 4, cells := 0, slots := 0, locals := 96 } : Room).locals := Nat.le_refl _
  have hRc : 0 ≤ ({ frames := 4, cells := 0, slots := 0, locals := 96 } : Room).cells := Nat.zero_le _
  have hRs : 0 ≤ ({ frames := 4, cells := 0, slots := 0, locals := 96 } : Room).slots := Nat.zero_le _
  refine lv_aload_n hx hb dX0_seekLongestIfNotNext_0 rfl (lv_at hl 0 rfl) ?_
  refine lv_iload_n hx hb dX0_seekLongestIfNotNext_1 rfl (lv_at hl 1 rfl) ?_
  have hPc := hP.sub (ws' := [(hF, .inr (0, [.ref hR, .ref hL, .ref aL, .ref aK, .int (vI ((lk : Nat) : Int)), .int (vI ((ll : Nat) : Int)), .ref aS, .ref aT, .int (vI (plc)), .int (vI (cand)), .int (vI (low)), .int (vI (lim)), .int (vI (beat)), .int (vI (ln)), .int (vI (dist))])), (hR, .inr (3, [.ref aB, .int (vI ((n : Nat) : Int)), .int (vI ((pa : Nat) : Int))])), ia aB cB (NB) (d), (hL, .inr (4, [.int (vI ((way : Nat) : Int)), .int (vI ((win : Nat) : Int)), .int (vI ((least : Nat) : Int)), .int (vI ((cap : Nat) : Int)), .int (vI ((ga : Nat) : Int)), .int (vI ((gb : Nat) : Int)), .int (vI ((lp : Nat) : Int)), .int (vI ((mp : Nat) : Int))])), ia aK cI (NS) (gK), ia aS cI (NS) (gS), ia aT cI (NS) (gT)]) [0, 1, 2, 3, 4, 5, 6] rfl
  have hDc := hD.sub (ws' := [(hF, .inr (0, [.ref hR, .ref hL, .ref aL, .ref aK, .int (vI ((lk : Nat) : Int)), .int (vI ((ll : Nat) : Int)), .ref aS, .ref aT, .int (vI (plc)), .int (vI (cand)), .int (vI (low)), .int (vI (lim)), .int (vI (beat)), .int (vI (ln)), .int (vI (dist))])), (hR, .inr (3, [.ref aB, .int (vI ((n : Nat) : Int)), .int (vI ((pa : Nat) : Int))])), ia aB cB (NB) (d), (hL, .inr (4, [.int (vI ((way : Nat) : Int)), .int (vI ((win : Nat) : Int)), .int (vI ((least : Nat) : Int)), .int (vI ((cap : Nat) : Int)), .int (vI ((ga : Nat) : Int)), .int (vI ((gb : Nat) : Int)), .int (vI ((lp : Nat) : Int)), .int (vI ((mp : Nat) : Int))])), ia aK cI (NS) (gK), ia aS cI (NS) (gS), ia aT cI (NS) (gT)]) [0, 1, 2, 3, 4, 5, 6] (by decide) rfl
  refine zc_v (wr := []) (va_runV (As := [.int (vI ((pp : Nat) : Int))]) (rest := []) ⟨hx, hb, hml, hown, hts⟩ (c_X0_seekLongest l D cI cB _ hF hR hL aL aK aS aT aB lk ll n pa NB NS d plc cand low lim beat ln dist way win least cap ga gb lp mp gK gS gT pp (by omega) (hz) (hM) (hby)) ⟨callB_of 1 hts (zg kX0_seekLongest) rfl rfl rfl (hts _ aw_4) (hts _ aw_402) (by decide +kernel) ⟨Nat.le_trans (Nat.le_of_ble_eq_true rfl) hRf, Nat.le_trans (Nat.le_of_ble_eq_true rfl) hRl⟩, (hts _ aw_404), (hts _ as_20)⟩ ⟨zPre_blind, va_recv hK hPc (ci := 0) (q0 := 0) rfl rfl, zPre_of hK hns hPc hDc⟩ rfl rfl hl.1 rfl (lv_room (Nat.le_of_ble_eq_true rfl)) dX0_seekLongestIfNotNext_2 ⟨hRc, hRs⟩) hP hD hS hA [0, 1, 2, 3, 4, 5, 6] [] rfl rfl (by decide) (by decide) (fun u H locs hpost hP hD hS => ?_)
  obtain ⟨plc2_2, cand2_2, low2_2, lim2_2, beat2_2, ln2_2, ds2_2, gS2_2, gT2_2⟩ := u
  obtain ⟨hM_2, hr_2, hln_2⟩ := hpost
  have hP : va_P D vwCl [(hF, .inr (0, [.ref hR, .ref hL, .ref aL, .ref aK, .int (vI ((lk : Nat) : Int)), .int (vI ((ll : Nat) : Int)), .ref aS, .ref aT, .int (vI (plc2_2)), .int (vI (cand2_2)), .int (vI (low2_2)), .int (vI (lim2_2)), .int (vI (beat2_2)), .int (vI ((ln2_2 : Nat) : Int)), .int (vI ((ds2_2 : Nat) : Int))])), (hR, .inr (3, [.ref aB, .int (vI ((n : Nat) : Int)), .int (vI ((pa : Nat) : Int))])), ia aB cB (NB) (d), (hL, .inr (4, [.int (vI ((way : Nat) : Int)), .int (vI ((win : Nat) : Int)), .int (vI ((least : Nat) : Int)), .int (vI ((cap : Nat) : Int)), .int (vI ((ga : Nat) : Int)), .int (vI ((gb : Nat) : Int)), .int (vI ((lp : Nat) : Int)), .int (vI ((mp : Nat) : Int))])), ia aK cI (NS) (gK), ia aS cI (NS) (gS2_2), ia aT cI (NS) (gT2_2)] H := hP
  have hD : va_D _ [(hF, .inr (0, [.ref hR, .ref hL, .ref aL, .ref aK, .int (vI ((lk : Nat) : Int)), .int (vI ((ll : Nat) : Int)), .ref aS, .ref aT, .int (vI (plc2_2)), .int (vI (cand2_2)), .int (vI (low2_2)), .int (vI (lim2_2)), .int (vI (beat2_2)), .int (vI ((ln2_2 : Nat) : Int)), .int (vI ((ds2_2 : Nat) : Int))])), (hR, .inr (3, [.ref aB, .int (vI ((n : Nat) : Int)), .int (vI ((pa : Nat) : Int))])), ia aB cB (NB) (d), (hL, .inr (4, [.int (vI ((way : Nat) : Int)), .int (vI ((win : Nat) : Int)), .int (vI ((least : Nat) : Int)), .int (vI ((cap : Nat) : Int)), .int (vI ((ga : Nat) : Int)), .int (vI ((gb : Nat) : Int)), .int (vI ((lp : Nat) : Int)), .int (vI ((mp : Nat) : Int))])), ia aK cI (NS) (gK), ia aS cI (NS) (gS2_2), ia aT cI (NS) (gT2_2)] := hD
  refine lv_aload_n hx hb dX0_seekLongestIfNotNext_5 rfl (lv_at hl 0 rfl) ?_
  refine va_get (D := D) (ci := 0) (v := .int (vI ((ln2_2 : Nat) : Int))) (C := RX0) (T := TX0) (N := 15) hx hb hts iwX0 hown hK hP 0 rfl rfl 13 (by decide) (hts _ aw_113) (fun _ h9 => h9) rfl dX0_seekLongestIfNotNext_6 ?_
  refine lv_istore_n (lv' := [(2, .int (vI ((ln2_2 : Nat) : Int))), (0, .ref hF), (1, .int (vI ((pp : Nat) : Int)))]) hx hb dX0_seekLongestIfNotNext_9 rfl hl (by decide) rfl (fun ls hl => ?_)
  refine lv_aload_n hx hb dX0_seekLongestIfNotNext_10 rfl (lv_at hl 1 rfl) ?_
  refine va_get (D := D) (ci := 0) (v := .int (vI ((ds2_2 : Nat) : Int))) (C := RX0) (T := TX0) (N := 15) hx hb hts iwX0 hown hK hP 0 rfl rfl 14 (by decide) (hts _ aw_116) (fun _ h9 => h9) rfl dX0_seekLongestIfNotNext_11 ?_
  refine lv_istore_n (lv' := [(3, .int (vI ((ds2_2 : Nat) : Int))), (2, .int (vI ((ln2_2 : Nat) : Int))), (0, .ref hF), (1, .int (vI ((pp : Nat) : Int)))]) hx hb dX0_seekLongestIfNotNext_14 rfl hl (by decide) rfl (fun ls hl => ?_)
  refine lv_iload_n hx hb dX0_seekLongestIfNotNext_15 rfl (lv_at hl 1 rfl) ?_
  refine zw_if_ne (tgt := 20) hx hb dX0_seekLongestIfNotNext_16 (by decide) ⟨by omega, by omega⟩ (fun c_16 => ?_) (fun c_16 => ?_)
  · have hb8 := zlg_ge hr_2 (by omega)
    refine lv_aload_n hx hb dX0_seekLongestIfNotNext_20 rfl (lv_at hl 2 rfl) ?_
    refine lv_iload_n hx hb dX0_seekLongestIfNotNext_21 rfl (lv_at hl 3 rfl) ?_
    refine zw_iconst hx hb dX0_seekLongestIfNotNext_22 ?_
    refine zw_iadd hx hb dX0_seekLongestIfNotNext_23 ?_
    refine zw_to (z2 := ((pp + 1 : Nat) : Int)) (by omega) ?_
    refine lv_iload_n hx hb dX0_seekLongestIfNotNext_24 rfl (lv_at hl 1 rfl) ?_
    refine zw_iconst hx hb dX0_seekLongestIfNotNext_25 ?_
    refine zw_iadd hx hb dX0_seekLongestIfNotNext_26 ?_
    refine zw_to (z2 := ((ln2_2 + 1 : Nat) : Int)) (by omega) ?_
    have hPc := hP.sub (ws' := [(hF, .inr (0, [.ref hR, .ref hL, .ref aL, .ref aK, .int (vI ((lk : Nat) : Int)), .int (vI ((ll : Nat) : Int)), .ref aS, .ref aT, .int (vI (plc2_2)), .int (vI (cand2_2)), .int (vI (low2_2)), .int (vI (lim2_2)), .int (vI (beat2_2)), .int (vI ((ln2_2 : Nat) : Int)), .int (vI ((ds2_2 : Nat) : Int))])), (hR, .inr (3, [.ref aB, .int (vI ((n : Nat) : Int)), .int (vI ((pa : Nat) : Int))])), (hL, .inr (4, [.int (vI ((way : Nat) : Int)), .int (vI ((win : Nat) : Int)), .int (vI ((least : Nat) : Int)), .int (vI ((cap : Nat) : Int)), .int (vI ((ga : Nat) : Int)), .int (vI ((gb : Nat) : Int)), .int (vI ((lp : Nat) : Int)), .int (vI ((mp : Nat) : Int))])), ia aK cI (NS) (gK)]) [0, 1, 3, 4] rfl
    have hDc := hD.sub (ws' := [(hF, .inr (0, [.ref hR, .ref hL, .ref aL, .ref aK, .int (vI ((lk : Nat) : Int)), .int (vI ((ll : Nat) : Int)), .ref aS, .ref aT, .int (vI (plc2_2)), .int (vI (cand2_2)), .int (vI (low2_2)), .int (vI (lim2_2)), .int (vI (beat2_2)), .int (vI ((ln2_2 : Nat) : Int)), .int (vI ((ds2_2 : Nat) : Int))])), (hR, .inr (3, [.ref aB, .int (vI ((n : Nat) : Int)), .int (vI ((pa : Nat) : Int))])), (hL, .inr (4, [.int (vI ((way : Nat) : Int)), .int (vI ((win : Nat) : Int)), .int (vI ((least : Nat) : Int)), .int (vI ((cap : Nat) : Int)), .int (vI ((ga : Nat) : Int)), .int (vI ((gb : Nat) : Int)), .int (vI ((lp : Nat) : Int)), .int (vI ((mp : Nat) : Int))])), ia aK cI (NS) (gK)]) [0, 1, 3, 4] (by decide) rfl
    refine zc_v (wr := [ia aB cB (NB) (d), ia aS cI (NS) (gS2_2), ia aT cI (NS) (gT2_2)]) (va_runV (As := [.int (vI ((pp + 1 : Nat) : Int)), .int (vI ((ln2_2 + 1 : Nat) : Int))]) (rest := []) ⟨hx, hb, hml, hown, hts⟩ (c_X0_startAt l D cI cB _ hF hR hL aL aK aS aT aB lk ll n pa NS way win least cap ga gb lp mp plc2_2 cand2_2 low2_2 lim2_2 beat2_2 ((ln2_2 : Nat) : Int) ((ds2_2 : Nat) : Int) (zslot d least NS) gK (pp + 1) (ln2_2 + 1) (by omega) (hz)) ⟨callB_of 2 hts (zg kX0_startAt) rfl rfl rfl (hts _ aw_4) (hts _ aw_373) (by decide +kernel) ⟨Nat.le_trans (Nat.le_of_ble_eq_true rfl) hRf, Nat.le_trans (Nat.le_of_ble_eq_true rfl) hRl⟩, (hts _ aw_375), (hts _ as_14)⟩ ⟨zPre_blind, va_recv hK hPc (ci := 0) (q0 := 0) rfl rfl, zPre_of hK hns hPc hDc⟩ rfl rfl hl.1 rfl (lv_room (Nat.le_of_ble_eq_true rfl)) dX0_seekLongestIfNotNext_27 ⟨hRc, hRs⟩) hP hD hS hA [0, 1, 3, 4] [2, 5, 6] rfl rfl (by decide) (by decide) (fun _u H locs hpost hP hD hS => ?_)
    have hP : va_P D vwCl [ia aB cB (NB) (d), ia aS cI (NS) (gS2_2), ia aT cI (NS) (gT2_2), (hF, .inr (0, [.ref hR, .ref hL, .ref aL, .ref aK, .int (vI ((lk : Nat) : Int)), .int (vI ((ll : Nat) : Int)), .ref aS, .ref aT, .int (vI ((pp + 1 : Nat) : Int)), .int (vI (zprev (zslot d least NS) ((zslot d least NS) (pp + 1)) (zst lk n ga (ln2_2 + 1) (pp + 1) (zlm cap gb n (pp + 1))))), .int (vI (((pp + 1) - win : Nat) : Int)), .int (vI (zlm cap gb n (pp + 1))), .int (vI (((ln2_2 + 1) - 1 : Nat) : Int)), .int (vI (0)), .int (vI (0))])), (hR, .inr (3, [.ref aB, .int (vI ((n : Nat) : Int)), .int (vI ((pa : Nat) : Int))])), (hL, .inr (4, [.int (vI ((way : Nat) : Int)), .int (vI ((win : Nat) : Int)), .int (vI ((least : Nat) : Int)), .int (vI ((cap : Nat) : Int)), .int (vI ((ga : Nat) : Int)), .int (vI ((gb : Nat) : Int)), .int (vI ((lp : Nat) : Int)), .int (vI ((mp : Nat) : Int))])), ia aK cI (NS) (gK)] H := hP
    have hD : va_D _ [ia aB cB (NB) (d), ia aS cI (NS) (gS2_2), ia aT cI (NS) (gT2_2), (hF, .inr (0, [.ref hR, .ref hL, .ref aL, .ref aK, .int (vI ((lk : Nat) : Int)), .int (vI ((ll : Nat) : Int)), .ref aS, .ref aT, .int (vI ((pp + 1 : Nat) : Int)), .int (vI (zprev (zslot d least NS) ((zslot d least NS) (pp + 1)) (zst lk n ga (ln2_2 + 1) (pp + 1) (zlm cap gb n (pp + 1))))), .int (vI (((pp + 1) - win : Nat) : Int)), .int (vI (zlm cap gb n (pp + 1))), .int (vI (((ln2_2 + 1) - 1 : Nat) : Int)), .int (vI (0)), .int (vI (0))])), (hR, .inr (3, [.ref aB, .int (vI ((n : Nat) : Int)), .int (vI ((pa : Nat) : Int))])), (hL, .inr (4, [.int (vI ((way : Nat) : Int)), .int (vI ((win : Nat) : Int)), .int (vI ((least : Nat) : Int)), .int (vI ((cap : Nat) : Int)), .int (vI ((ga : Nat) : Int)), .int (vI ((gb : Nat) : Int)), .int (vI ((lp : Nat) : Int)), .int (vI ((mp : Nat) : Int))])), ia aK cI (NS) (gK)] := hD
    have hlm := zlm_in cap gb n (pp + 1)
    have hst := zst_le lk n ga (ln2_2 + 1) (pp + 1) (zlm cap gb n (pp + 1))
    refine lv_aload_n hx hb dX0_seekLongestIfNotNext_30 rfl (lv_at hl 2 rfl) ?_
    have hPc := hP.sub (ws' := [(hF, .inr (0, [.ref hR, .ref hL, .ref aL, .ref aK, .int (vI ((lk : Nat) : Int)), .int (vI ((ll : Nat) : Int)), .ref aS, .ref aT, .int (vI ((pp + 1 : Nat) : Int)), .int (vI (zprev (zslot d least NS) ((zslot d least NS) (pp + 1)) (zst lk n ga (ln2_2 + 1) (pp + 1) (zlm cap gb n (pp + 1))))), .int (vI (((pp + 1) - win : Nat) : Int)), .int (vI (zlm cap gb n (pp + 1))), .int (vI (((ln2_2 + 1) - 1 : Nat) : Int)), .int (vI ((0 : Nat) : Int)), .int (vI ((0 : Nat) : Int))])), (hR, .inr (3, [.ref aB, .int (vI ((n : Nat) : Int)), .int (vI ((pa : Nat) : Int))])), ia aB cB (NB) (d), ia aK cI (NS) (gK), ia aS cI (NS) (gS2_2), ia aT cI (NS) (gT2_2)]) [3, 4, 0, 6, 1, 2] rfl
    have hDc := hD.sub (ws' := [(hF, .inr (0, [.ref hR, .ref hL, .ref aL, .ref aK, .int (vI ((lk : Nat) : Int)), .int (vI ((ll : Nat) : Int)), .ref aS, .ref aT, .int (vI ((pp + 1 : Nat) : Int)), .int (vI (zprev (zslot d least NS) ((zslot d least NS) (pp + 1)) (zst lk n ga (ln2_2 + 1) (pp + 1) (zlm cap gb n (pp + 1))))), .int (vI (((pp + 1) - win : Nat) : Int)), .int (vI (zlm cap gb n (pp + 1))), .int (vI (((ln2_2 + 1) - 1 : Nat) : Int)), .int (vI ((0 : Nat) : Int)), .int (vI ((0 : Nat) : Int))])), (hR, .inr (3, [.ref aB, .int (vI ((n : Nat) : Int)), .int (vI ((pa : Nat) : Int))])), ia aB cB (NB) (d), ia aK cI (NS) (gK), ia aS cI (NS) (gS2_2), ia aT cI (NS) (gT2_2)]) [3, 4, 0, 6, 1, 2] (by decide) rfl
    refine zc_i (wr := [(hL, .inr (4, [.int (vI ((way : Nat) : Int)), .int (vI ((win : Nat) : Int)), .int (vI ((least : Nat) : Int)), .int (vI ((cap : Nat) : Int)), .int (vI ((ga : Nat) : Int)), .int (vI ((gb : Nat) : Int)), .int (vI ((lp : Nat) : Int)), .int (vI ((mp : Nat) : Int))]))]) (va_runV (As := []) (rest := []) ⟨hx, hb, hml, hown, hts⟩ (c_X0_findLonger l D cI cB _ hF hR hL aL aK aS aT aB lk ll n pa NB NS d (zslot d least NS) gK (pp + 1) ((pp + 1) - win) (zlm cap gb n (pp + 1)) ((ln2_2 + 1) - 1) 0 0 (zst lk n ga (ln2_2 + 1) (pp + 1) (zlm cap gb n (pp + 1))) gS2_2 gT2_2 (by omega) (fun h => zst_pos h (by omega)) (hz) (fun q a1 a2 => zslot_run (k := (zlm cap gb n (pp + 1)).toNat) (by omega)) (hby) (hM_2)) ⟨callB_of 0 hts (zg kX0_findLonger) rfl rfl rfl (hts _ aw_4) (hts _ aw_390) (by decide +kernel) ⟨Nat.le_trans (Nat.le_of_ble_eq_true rfl) hRf, Nat.le_trans (Nat.le_of_ble_eq_true rfl) hRl⟩, (hts _ aw_392), (hts _ as_17)⟩ ⟨zPre_blind, va_recv hK hPc (ci := 0) (q0 := 0) rfl rfl, zPre_of hK hns hPc hDc⟩ rfl rfl hl.1 rfl (lv_room (Nat.le_of_ble_eq_true rfl)) dX0_seekLongestIfNotNext_31 ⟨hRc, hRs⟩) hP hD hS hA [3, 4, 0, 6, 1, 2] [5] rfl rfl (by decide) (by decide) (fun r u H locs hpost hP hD hS => ?_)
    obtain ⟨rb_31, gS2_31, gT2_31, c2_31, b2_31, l2_31, d2_31⟩ := u
    obtain ⟨rfl, hM_31, hr_31⟩ := hpost
    have hP : va_P D vwCl [(hL, .inr (4, [.int (vI ((way : Nat) : Int)), .int (vI ((win : Nat) : Int)), .int (vI ((least : Nat) : Int)), .int (vI ((cap : Nat) : Int)), .int (vI ((ga : Nat) : Int)), .int (vI ((gb : Nat) : Int)), .int (vI ((lp : Nat) : Int)), .int (vI ((mp : Nat) : Int))])), (hF, .inr (0, [.ref hR, .ref hL, .ref aL, .ref aK, .int (vI ((lk : Nat) : Int)), .int (vI ((ll : Nat) : Int)), .ref aS, .ref aT, .int (vI ((pp + 1 : Nat) : Int)), .int (vI (zprev (zslot d least NS) ((zslot d least NS) (pp + 1)) c2_31)), .int (vI (((pp + 1) - win : Nat) : Int)), .int (vI (zlm cap gb n (pp + 1))), .int (vI ((b2_31 : Nat) : Int)), .int (vI ((l2_31 : Nat) : Int)), .int (vI ((d2_31 : Nat) : Int))])), (hR, .inr (3, [.ref aB, .int (vI ((n : Nat) : Int)), .int (vI ((pa : Nat) : Int))])), ia aB cB (NB) (d), ia aK cI (NS) (gK), ia aS cI (NS) (gS2_31), ia aT cI (NS) (gT2_31)] H := hP
    have hD : va_D _ [(hL, .inr (4, [.int (vI ((way : Nat) : Int)), .int (vI ((win : Nat) : Int)), .int (vI ((least : Nat) : Int)), .int (vI ((cap : Nat) : Int)), .int (vI ((ga : Nat) : Int)), .int (vI ((gb : Nat) : Int)), .int (vI ((lp : Nat) : Int)), .int (vI ((mp : Nat) : Int))])), (hF, .inr (0, [.ref hR, .ref hL, .ref aL, .ref aK, .int (vI ((lk : Nat) : Int)), .int (vI ((ll : Nat) : Int)), .ref aS, .ref aT, .int (vI ((pp + 1 : Nat) : Int)), .int (vI (zprev (zslot d least NS) ((zslot d least NS) (pp + 1)) c2_31)), .int (vI (((pp + 1) - win : Nat) : Int)), .int (vI (zlm cap gb n (pp + 1))), .int (vI ((b2_31 : Nat) : Int)), .int (vI ((l2_31 : Nat) : Int)), .int (vI ((d2_31 : Nat) : Int))])), (hR, .inr (3, [.ref aB, .int (vI ((n : Nat) : Int)), .int (vI ((pa : Nat) : Int))])), ia aB cB (NB) (d), ia aK cI (NS) (gK), ia aS cI (NS) (gS2_31), ia aT cI (NS) (gT2_31)] := hD
    have hb9 := zFL_b hr_31
    refine lv_istore (lv' := [(4, .int (vI (rb_31))), (3, .int (vI ((ds2_2 : Nat) : Int))), (2, .int (vI ((ln2_2 : Nat) : Int))), (0, .ref hF), (1, .int (vI ((pp : Nat) : Int)))]) hx hb dX0_seekLongestIfNotNext_34 hl (by decide) rfl (fun ls hl => ?_)
    refine lv_aload_n hx hb dX0_seekLongestIfNotNext_36 rfl (lv_at hl 3 rfl) ?_
    refine lv_iload hx hb dX0_seekLongestIfNotNext_37 (lv_at hl 0 rfl) ?_
    refine zw_if_eq (tgt := 46) hx hb dX0_seekLongestIfNotNext_39 (by decide) ⟨by omega, by omega⟩ (fun c_39 => ?_) (fun c_39 => ?_)
    · refine lv_iload_n hx hb dX0_seekLongestIfNotNext_46 rfl (lv_at hl 2 rfl) ?_
      refine va_put (D := D) (ci := 0) (v := .int (vI ((ln2_2 : Nat) : Int))) (ty := .int) (C := RX0) (T := TX0) (N := 15) hx hb hts iwX0 tyX0 tyX0_ok nmX0 hown hK hP hD hS 1 rfl rfl 13 (by decide) (hts _ aw_113) (fun _ h9 => h9) rfl (by decide +kernel) rfl rfl (Nat.le_of_ble_eq_true rfl) dX0_seekLongestIfNotNext_47 (fun H locs hP hD hS => ?_)
      have hP : va_P D vwCl [(hL, .inr (4, [.int (vI ((way : Nat) : Int)), .int (vI ((win : Nat) : Int)), .int (vI ((least : Nat) : Int)), .int (vI ((cap : Nat) : Int)), .int (vI ((ga : Nat) : Int)), .int (vI ((gb : Nat) : Int)), .int (vI ((lp : Nat) : Int)), .int (vI ((mp : Nat) : Int))])), (hF, .inr (0, [.ref hR, .ref hL, .ref aL, .ref aK, .int (vI ((lk : Nat) : Int)), .int (vI ((ll : Nat) : Int)), .ref aS, .ref aT, .int (vI ((pp + 1 : Nat) : Int)), .int (vI (zprev (zslot d least NS) ((zslot d least NS) (pp + 1)) c2_31)), .int (vI (((pp + 1) - win : Nat) : Int)), .int (vI (zlm cap gb n (pp + 1))), .int (vI ((b2_31 : Nat) : Int)), .int (vI ((ln2_2 : Nat) : Int)), .int (vI ((d2_31 : Nat) : Int))])), (hR, .inr (3, [.ref aB, .int (vI ((n : Nat) : Int)), .int (vI ((pa : Nat) : Int))])), ia aB cB (NB) (d), ia aK cI (NS) (gK), ia aS cI (NS) (gS2_31), ia aT cI (NS) (gT2_31)] H := hP
      have hD : va_D _ [(hL, .inr (4, [.int (vI ((way : Nat) : Int)), .int (vI ((win : Nat) : Int)), .int (vI ((least : Nat) : Int)), .int (vI ((cap : Nat) : Int)), .int (vI ((ga : Nat) : Int)), .int (vI ((gb : Nat) : Int)), .int (vI ((lp : Nat) : Int)), .int (vI ((mp : Nat) : Int))])), (hF, .inr (0, [.ref hR, .ref hL, .ref aL, .ref aK, .int (vI ((lk : Nat) : Int)), .int (vI ((ll : Nat) : Int)), .ref aS, .ref aT, .int (vI ((pp + 1 : Nat) : Int)), .int (vI (zprev (zslot d least NS) ((zslot d least NS) (pp + 1)) c2_31)), .int (vI (((pp + 1) - win : Nat) : Int)), .int (vI (zlm cap gb n (pp + 1))), .int (vI ((b2_31 : Nat) : Int)), .int (vI ((ln2_2 : Nat) : Int)), .int (vI ((d2_31 : Nat) : Int))])), (hR, .inr (3, [.ref aB, .int (vI ((n : Nat) : Int)), .int (vI ((pa : Nat) : Int))])), ia aB cB (NB) (d), ia aK cI (NS) (gK), ia aS cI (NS) (gS2_31), ia aT cI (NS) (gT2_31)] := hD
      refine lv_aload_n hx hb dX0_seekLongestIfNotNext_50 rfl (lv_at hl 3 rfl) ?_
      refine lv_iload hx hb dX0_seekLongestIfNotNext_51 (lv_at hl 0 rfl) ?_
      refine zw_if_eq (tgt := 60) hx hb dX0_seekLongestIfNotNext_53 (by decide) ⟨by omega, by omega⟩ (fun c_53 => ?_) (fun c_53 => False.elim (by omega))
      refine lv_iload_n hx hb dX0_seekLongestIfNotNext_60 rfl (lv_at hl 1 rfl) ?_
      refine va_put (D := D) (ci := 0) (v := .int (vI ((ds2_2 : Nat) : Int))) (ty := .int) (C := RX0) (T := TX0) (N := 15) hx hb hts iwX0 tyX0 tyX0_ok nmX0 hown hK hP hD hS 1 rfl rfl 14 (by decide) (hts _ aw_116) (fun _ h9 => h9) rfl (by decide +kernel) rfl rfl (Nat.le_of_ble_eq_true rfl) dX0_seekLongestIfNotNext_61 (fun H locs hP hD hS => ?_)
      have hP : va_P D vwCl [(hL, .inr (4, [.int (vI ((way : Nat) : Int)), .int (vI ((win : Nat) : Int)), .int (vI ((least : Nat) : Int)), .int (vI ((cap : Nat) : Int)), .int (vI ((ga : Nat) : Int)), .int (vI ((gb : Nat) : Int)), .int (vI ((lp : Nat) : Int)), .int (vI ((mp : Nat) : Int))])), (hF, .inr (0, [.ref hR, .ref hL, .ref aL, .ref aK, .int (vI ((lk : Nat) : Int)), .int (vI ((ll : Nat) : Int)), .ref aS, .ref aT, .int (vI ((pp + 1 : Nat) : Int)), .int (vI (zprev (zslot d least NS) ((zslot d least NS) (pp + 1)) c2_31)), .int (vI (((pp + 1) - win : Nat) : Int)), .int (vI (zlm cap gb n (pp + 1))), .int (vI ((b2_31 : Nat) : Int)), .int (vI ((ln2_2 : Nat) : Int)), .int (vI ((ds2_2 : Nat) : Int))])), (hR, .inr (3, [.ref aB, .int (vI ((n : Nat) : Int)), .int (vI ((pa : Nat) : Int))])), ia aB cB (NB) (d), ia aK cI (NS) (gK), ia aS cI (NS) (gS2_31), ia aT cI (NS) (gT2_31)] H := hP
      have hD : va_D _ [(hL, .inr (4, [.int (vI ((way : Nat) : Int)), .int (vI ((win : Nat) : Int)), .int (vI ((least : Nat) : Int)), .int (vI ((cap : Nat) : Int)), .int (vI ((ga : Nat) : Int)), .int (vI ((gb : Nat) : Int)), .int (vI ((lp : Nat) : Int)), .int (vI ((mp : Nat) : Int))])), (hF, .inr (0, [.ref hR, .ref hL, .ref aL, .ref aK, .int (vI ((lk : Nat) : Int)), .int (vI ((ll : Nat) : Int)), .ref aS, .ref aT, .int (vI ((pp + 1 : Nat) : Int)), .int (vI (zprev (zslot d least NS) ((zslot d least NS) (pp + 1)) c2_31)), .int (vI (((pp + 1) - win : Nat) : Int)), .int (vI (zlm cap gb n (pp + 1))), .int (vI ((b2_31 : Nat) : Int)), .int (vI ((ln2_2 : Nat) : Int)), .int (vI ((ds2_2 : Nat) : Int))])), (hR, .inr (3, [.ref aB, .int (vI ((n : Nat) : Int)), .int (vI ((pa : Nat) : Int))])), ia aB cB (NB) (d), ia aK cI (NS) (gK), ia aS cI (NS) (gS2_31), ia aT cI (NS) (gT2_31)] := hD
      have hP9 := hP.sub (ws' := [(hF, .inr (0, [.ref hR, .ref hL, .ref aL, .ref aK, .int (vI ((lk : Nat) : Int)), .int (vI ((ll : Nat) : Int)), .ref aS, .ref aT, .int (vI ((pp + 1 : Nat) : Int)), .int (vI (zprev (zslot d least NS) ((zslot d least NS) (pp + 1)) c2_31)), .int (vI (((pp + 1) - win : Nat) : Int)), .int (vI (zlm cap gb n (pp + 1))), .int (vI ((b2_31 : Nat) : Int)), .int (vI ((ln2_2 : Nat) : Int)), .int (vI ((ds2_2 : Nat) : Int))])), (hR, .inr (3, [.ref aB, .int (vI ((n : Nat) : Int)), .int (vI ((pa : Nat) : Int))])), ia aB cB (NB) (d), (hL, .inr (4, [.int (vI ((way : Nat) : Int)), .int (vI ((win : Nat) : Int)), .int (vI ((least : Nat) : Int)), .int (vI ((cap : Nat) : Int)), .int (vI ((ga : Nat) : Int)), .int (vI ((gb : Nat) : Int)), .int (vI ((lp : Nat) : Int)), .int (vI ((mp : Nat) : Int))])), ia aK cI (NS) (gK), ia aS cI (NS) (gS2_31), ia aT cI (NS) (gT2_31)]) [1, 2, 3, 0, 4, 5, 6] rfl
      have hD9 := hD.sub (ws' := [(hF, .inr (0, [.ref hR, .ref hL, .ref aL, .ref aK, .int (vI ((lk : Nat) : Int)), .int (vI ((ll : Nat) : Int)), .ref aS, .ref aT, .int (vI ((pp + 1 : Nat) : Int)), .int (vI (zprev (zslot d least NS) ((zslot d least NS) (pp + 1)) c2_31)), .int (vI (((pp + 1) - win : Nat) : Int)), .int (vI (zlm cap gb n (pp + 1))), .int (vI ((b2_31 : Nat) : Int)), .int (vI ((ln2_2 : Nat) : Int)), .int (vI ((ds2_2 : Nat) : Int))])), (hR, .inr (3, [.ref aB, .int (vI ((n : Nat) : Int)), .int (vI ((pa : Nat) : Int))])), ia aB cB (NB) (d), (hL, .inr (4, [.int (vI ((way : Nat) : Int)), .int (vI ((win : Nat) : Int)), .int (vI ((least : Nat) : Int)), .int (vI ((cap : Nat) : Int)), .int (vI ((ga : Nat) : Int)), .int (vI ((gb : Nat) : Int)), .int (vI ((lp : Nat) : Int)), .int (vI ((mp : Nat) : Int))])), ia aK cI (NS) (gK), ia aS cI (NS) (gS2_31), ia aT cI (NS) (gT2_31)]) [1, 2, 3, 0, 4, 5, 6] (by decide) rfl
      exact zr_v hx hb hr hlocks ((((pp + 1 : Nat) : Int), (zprev (zslot d least NS) ((zslot d least NS) (pp + 1)) c2_31), (((pp + 1) - win : Nat) : Int), (zlm cap gb n (pp + 1)), ((b2_31 : Nat) : Int), ln2_2, ds2_2, gS2_31, gT2_31)) ⟨hM_31, zl3_1 hr_2 hb8 (by omega) ((znr_of hr_31).trans (by unfold znr; rw [zst_eq (least := least) (by omega) (by omega)])) (zFL_0 hr_31 c_39).2.2.2.1, hln_2⟩ hP9 hD9 hS dX0_seekLongestIfNotNext_64
    · refine zw_iconst hx hb dX0_seekLongestIfNotNext_42 ?_
      refine lv_goto (tgt := 47) hx hb dX0_seekLongestIfNotNext_43 (by decide) ?_
      refine va_put (D := D) (ci := 0) (v := .int (vI (0))) (ty := .int) (C := RX0) (T := TX0) (N := 15) hx hb hts iwX0 tyX0 tyX0_ok nmX0 hown hK hP hD hS 1 rfl rfl 13 (by decide) (hts _ aw_113) (fun _ h9 => h9) rfl (by decide +kernel) rfl rfl (Nat.le_of_ble_eq_true rfl) dX0_seekLongestIfNotNext_47 (fun H locs hP hD hS => ?_)
      have hP : va_P D vwCl [(hL, .inr (4, [.int (vI ((way : Nat) : Int)), .int (vI ((win : Nat) : Int)), .int (vI ((least : Nat) : Int)), .int (vI ((cap : Nat) : Int)), .int (vI ((ga : Nat) : Int)), .int (vI ((gb : Nat) : Int)), .int (vI ((lp : Nat) : Int)), .int (vI ((mp : Nat) : Int))])), (hF, .inr (0, [.ref hR, .ref hL, .ref aL, .ref aK, .int (vI ((lk : Nat) : Int)), .int (vI ((ll : Nat) : Int)), .ref aS, .ref aT, .int (vI ((pp + 1 : Nat) : Int)), .int (vI (zprev (zslot d least NS) ((zslot d least NS) (pp + 1)) c2_31)), .int (vI (((pp + 1) - win : Nat) : Int)), .int (vI (zlm cap gb n (pp + 1))), .int (vI ((b2_31 : Nat) : Int)), .int (vI (0)), .int (vI ((d2_31 : Nat) : Int))])), (hR, .inr (3, [.ref aB, .int (vI ((n : Nat) : Int)), .int (vI ((pa : Nat) : Int))])), ia aB cB (NB) (d), ia aK cI (NS) (gK), ia aS cI (NS) (gS2_31), ia aT cI (NS) (gT2_31)] H := hP
      have hD : va_D _ [(hL, .inr (4, [.int (vI ((way : Nat) : Int)), .int (vI ((win : Nat) : Int)), .int (vI ((least : Nat) : Int)), .int (vI ((cap : Nat) : Int)), .int (vI ((ga : Nat) : Int)), .int (vI ((gb : Nat) : Int)), .int (vI ((lp : Nat) : Int)), .int (vI ((mp : Nat) : Int))])), (hF, .inr (0, [.ref hR, .ref hL, .ref aL, .ref aK, .int (vI ((lk : Nat) : Int)), .int (vI ((ll : Nat) : Int)), .ref aS, .ref aT, .int (vI ((pp + 1 : Nat) : Int)), .int (vI (zprev (zslot d least NS) ((zslot d least NS) (pp + 1)) c2_31)), .int (vI (((pp + 1) - win : Nat) : Int)), .int (vI (zlm cap gb n (pp + 1))), .int (vI ((b2_31 : Nat) : Int)), .int (vI (0)), .int (vI ((d2_31 : Nat) : Int))])), (hR, .inr (3, [.ref aB, .int (vI ((n : Nat) : Int)), .int (vI ((pa : Nat) : Int))])), ia aB cB (NB) (d), ia aK cI (NS) (gK), ia aS cI (NS) (gS2_31), ia aT cI (NS) (gT2_31)] := hD
      refine lv_aload_n hx hb dX0_seekLongestIfNotNext_50 rfl (lv_at hl 3 rfl) ?_
      refine lv_iload hx hb dX0_seekLongestIfNotNext_51 (lv_at hl 0 rfl) ?_
      refine zw_if_eq (tgt := 60) hx hb dX0_seekLongestIfNotNext_53 (by decide) ⟨by omega, by omega⟩ (fun c_53 => False.elim (by omega)) (fun c_53 => ?_)
      refine zw_iconst hx hb dX0_seekLongestIfNotNext_56 ?_
      refine lv_goto (tgt := 61) hx hb dX0_seekLongestIfNotNext_57 (by decide) ?_
      refine va_put (D := D) (ci := 0) (v := .int (vI (0))) (ty := .int) (C := RX0) (T := TX0) (N := 15) hx hb hts iwX0 tyX0 tyX0_ok nmX0 hown hK hP hD hS 1 rfl rfl 14 (by decide) (hts _ aw_116) (fun _ h9 => h9) rfl (by decide +kernel) rfl rfl (Nat.le_of_ble_eq_true rfl) dX0_seekLongestIfNotNext_61 (fun H locs hP hD hS => ?_)
      have hP : va_P D vwCl [(hL, .inr (4, [.int (vI ((way : Nat) : Int)), .int (vI ((win : Nat) : Int)), .int (vI ((least : Nat) : Int)), .int (vI ((cap : Nat) : Int)), .int (vI ((ga : Nat) : Int)), .int (vI ((gb : Nat) : Int)), .int (vI ((lp : Nat) : Int)), .int (vI ((mp : Nat) : Int))])), (hF, .inr (0, [.ref hR, .ref hL, .ref aL, .ref aK, .int (vI ((lk : Nat) : Int)), .int (vI ((ll : Nat) : Int)), .ref aS, .ref aT, .int (vI ((pp + 1 : Nat) : Int)), .int (vI (zprev (zslot d least NS) ((zslot d least NS) (pp + 1)) c2_31)), .int (vI (((pp + 1) - win : Nat) : Int)), .int (vI (zlm cap gb n (pp + 1))), .int (vI ((b2_31 : Nat) : Int)), .int (vI (0)), .int (vI (0))])), (hR, .inr (3, [.ref aB, .int (vI ((n : Nat) : Int)), .int (vI ((pa : Nat) : Int))])), ia aB cB (NB) (d), ia aK cI (NS) (gK), ia aS cI (NS) (gS2_31), ia aT cI (NS) (gT2_31)] H := hP
      have hD : va_D _ [(hL, .inr (4, [.int (vI ((way : Nat) : Int)), .int (vI ((win : Nat) : Int)), .int (vI ((least : Nat) : Int)), .int (vI ((cap : Nat) : Int)), .int (vI ((ga : Nat) : Int)), .int (vI ((gb : Nat) : Int)), .int (vI ((lp : Nat) : Int)), .int (vI ((mp : Nat) : Int))])), (hF, .inr (0, [.ref hR, .ref hL, .ref aL, .ref aK, .int (vI ((lk : Nat) : Int)), .int (vI ((ll : Nat) : Int)), .ref aS, .ref aT, .int (vI ((pp + 1 : Nat) : Int)), .int (vI (zprev (zslot d least NS) ((zslot d least NS) (pp + 1)) c2_31)), .int (vI (((pp + 1) - win : Nat) : Int)), .int (vI (zlm cap gb n (pp + 1))), .int (vI ((b2_31 : Nat) : Int)), .int (vI (0)), .int (vI (0))])), (hR, .inr (3, [.ref aB, .int (vI ((n : Nat) : Int)), .int (vI ((pa : Nat) : Int))])), ia aB cB (NB) (d), ia aK cI (NS) (gK), ia aS cI (NS) (gS2_31), ia aT cI (NS) (gT2_31)] := hD
      have hP9 := hP.sub (ws' := [(hF, .inr (0, [.ref hR, .ref hL, .ref aL, .ref aK, .int (vI ((lk : Nat) : Int)), .int (vI ((ll : Nat) : Int)), .ref aS, .ref aT, .int (vI ((pp + 1 : Nat) : Int)), .int (vI (zprev (zslot d least NS) ((zslot d least NS) (pp + 1)) c2_31)), .int (vI (((pp + 1) - win : Nat) : Int)), .int (vI (zlm cap gb n (pp + 1))), .int (vI ((b2_31 : Nat) : Int)), .int (vI ((0 : Nat) : Int)), .int (vI ((0 : Nat) : Int))])), (hR, .inr (3, [.ref aB, .int (vI ((n : Nat) : Int)), .int (vI ((pa : Nat) : Int))])), ia aB cB (NB) (d), (hL, .inr (4, [.int (vI ((way : Nat) : Int)), .int (vI ((win : Nat) : Int)), .int (vI ((least : Nat) : Int)), .int (vI ((cap : Nat) : Int)), .int (vI ((ga : Nat) : Int)), .int (vI ((gb : Nat) : Int)), .int (vI ((lp : Nat) : Int)), .int (vI ((mp : Nat) : Int))])), ia aK cI (NS) (gK), ia aS cI (NS) (gS2_31), ia aT cI (NS) (gT2_31)]) [1, 2, 3, 0, 4, 5, 6] rfl
      have hD9 := hD.sub (ws' := [(hF, .inr (0, [.ref hR, .ref hL, .ref aL, .ref aK, .int (vI ((lk : Nat) : Int)), .int (vI ((ll : Nat) : Int)), .ref aS, .ref aT, .int (vI ((pp + 1 : Nat) : Int)), .int (vI (zprev (zslot d least NS) ((zslot d least NS) (pp + 1)) c2_31)), .int (vI (((pp + 1) - win : Nat) : Int)), .int (vI (zlm cap gb n (pp + 1))), .int (vI ((b2_31 : Nat) : Int)), .int (vI ((0 : Nat) : Int)), .int (vI ((0 : Nat) : Int))])), (hR, .inr (3, [.ref aB, .int (vI ((n : Nat) : Int)), .int (vI ((pa : Nat) : Int))])), ia aB cB (NB) (d), (hL, .inr (4, [.int (vI ((way : Nat) : Int)), .int (vI ((win : Nat) : Int)), .int (vI ((least : Nat) : Int)), .int (vI ((cap : Nat) : Int)), .int (vI ((ga : Nat) : Int)), .int (vI ((gb : Nat) : Int)), .int (vI ((lp : Nat) : Int)), .int (vI ((mp : Nat) : Int))])), ia aK cI (NS) (gK), ia aS cI (NS) (gS2_31), ia aT cI (NS) (gT2_31)]) [1, 2, 3, 0, 4, 5, 6] (by decide) rfl
      exact zr_v hx hb hr hlocks ((((pp + 1 : Nat) : Int), (zprev (zslot d least NS) ((zslot d least NS) (pp + 1)) c2_31), (((pp + 1) - win : Nat) : Int), (zlm cap gb n (pp + 1)), ((b2_31 : Nat) : Int), 0, 0, gS2_31, gT2_31)) ⟨hM_31, zl3_2 hr_2 ((znr_of hr_31).trans (by unfold znr; rw [zst_eq (least := least) (by omega) (by omega)])) (zFL_1p hr_31 c_39), by omega⟩ hP9 hD9 hS dX0_seekLongestIfNotNext_64
  · exact zr_v hx hb hr hlocks ((plc2_2, cand2_2, low2_2, lim2_2, beat2_2, ln2_2, ds2_2, gS2_2, gT2_2)) ⟨hM_2, zl3_0 (by omega) hr_2 (by omega), hln_2⟩ hP hD hS dX0_seekLongestIfNotNext_19

set_option maxRecDepth 100000 in
set_option maxHeartbeats 4000000 in
theorem s_cnt {p : Program} {l : Launch} {e : Env} {R : Room} {s : State} {m : MethodId} {args : Array Value} {below : List Frame} {meth : Method} {c : Code} {Q : State → Prop} {A : Nat → Prop} {H0 : Heap} {D : va_G} {cI cB : ClassId} {cells slots : Nat} (hx : p.tables.exec = Jvm.exec) (hb : c.code = cX0_matchesAt) (hts : ∀ w ∈ zALL, w.before args s = true) (hown : s.vm.findClass RX0 = some m.cls) (hml : c.maxLocals = 4) (hK : va_K D vwCl [(cI, .int), (cB, .byte)] s) (hns : zNs s) (hA : ∀ q, H0.size ≤ q → A q) (hRf : 2 ≤ R.frames) (hRl : 50 ≤ R.locals) (hRc : cells ≤ R.cells) (hRs : slots ≤ R.slots) (hF : Nat) (hR : Nat) (hL : Nat) (aL : Nat) (aK : Nat) (aS : Nat) (aT : Nat) (aB : Nat) (lk : Nat) (ll : Nat) (n : Nat) (pa : Nat) (NB : Nat) (NS : Nat) (d : Nat → Int) (way : Nat) (win : Nat) (least : Nat) (cap : Nat) (ga : Nat) (gb : Nat) (lp : Nat) (mp : Nat) (gK : Nat → Int) (pp : Nat) (b : Nat) (ln : Nat) (ds : Nat) (h1 : 3 ≤ least ∧ least ≤ 8 ∧ pp < n ∧ lk ≤ n ∧ n < lk + least ∧ n ≤ NB ∧ NB ≤ 32768 ∧ n ≤ NS ∧ NS ≤ 32768 ∧ win ≤ 65536 ∧ cap ≤ 131072 ∧ ga ≤ 32 ∧ gb ≤ 32) (hz : ∀ q, q < lk → gK q = zprev (zslot d least NS) ((zslot d least NS) q) q) (hby : ∀ j, -128 ≤ d j ∧ d j < 128)
    (K1 : ∀ (cc : Nat) (gS : Nat → Int) (gT : Nat → Int) (H : Heap) (locs : List Loc) (ls : Array Slot), (zMemo d n NS gS gT) → va_P D vwCl [(hF, .inr (0, [.ref hR, .ref hL, .ref aL, .ref aK, .int (vI ((lk : Nat) : Int)), .int (vI ((ll : Nat) : Int)), .ref aS, .ref aT, .int (vI ((pp : Nat) : Int)), .int (vI (zprev (zslot d least NS) ((zslot d least NS) pp) cc)), .int (vI ((pp - win : Nat) : Int)), .int (vI (zlm cap gb n pp)), .int (vI ((b : Nat) : Int)), .int (vI ((ln : Nat) : Int)), .int (vI ((ds : Nat) : Int))])), (hR, .inr (3, [.ref aB, .int (vI ((n : Nat) : Int)), .int (vI ((pa : Nat) : Int))])), ia aB cB (NB) (d), (hL, .inr (4, [.int (vI ((way : Nat) : Int)), .int (vI ((win : Nat) : Int)), .int (vI ((least : Nat) : Int)), .int (vI ((cap : Nat) : Int)), .int (vI ((ga : Nat) : Int)), .int (vI ((gb : Nat) : Int)), .int (vI ((lp : Nat) : Int)), .int (vI ((mp : Nat) : Int))])), ia aK cI (NS) (gK), ia aS cI (NS) (gS), ia aT cI (NS) (gT)] H → va_D A [(hF, .inr (0, [.ref hR, .ref hL, .ref aL, .ref aK, .int (vI ((lk : Nat) : Int)), .int (vI ((ll : Nat) : Int)), .ref aS, .ref aT, .int (vI ((pp : Nat) : Int)), .int (vI (zprev (zslot d least NS) ((zslot d least NS) pp) cc)), .int (vI ((pp - win : Nat) : Int)), .int (vI (zlm cap gb n pp)), .int (vI ((b : Nat) : Int)), .int (vI ((ln : Nat) : Int)), .int (vI ((ds : Nat) : Int))])), (hR, .inr (3, [.ref aB, .int (vI ((n : Nat) : Int)), .int (vI ((pa : Nat) : Int))])), ia aB cB (NB) (d), (hL, .inr (4, [.int (vI ((way : Nat) : Int)), .int (vI ((win : Nat) : Int)), .int (vI ((least : Nat) : Int)), .int (vI ((cap : Nat) : Int)), .int (vI ((ga : Nat) : Int)), .int (vI ((gb : Nat) : Int)), .int (vI ((lp : Nat) : Int)), .int (vI ((mp : Nat) : Int))])), ia aK cI (NS) (gK), ia aS cI (NS) (gS), ia aT cI (NS) (gT)] → va_S A H0 H locs → lv_has ls 4 [(0, .ref hF), (2, .int (vI ((zcnt (zrun d (zlm cap gb n pp).toNat pp) (pp - win) least (zst lk n ga least pp (zlm cap gb n pp)) : Nat) : Int)))] → W p l e R s m args below meth c H locs cells slots Q (F0 m 81 ls []))
    : ∀ (fuel : Nat), ∀ (left : Nat) (cc : Nat) (mm : Nat) (gS : Nat → Int) (gT : Nat → Int) (_ : left < fuel) (H : Heap) (locs : List Loc) (ls : Array Slot), (cc ≤ zst lk n ga least pp (zlm cap gb n pp) ∧ left ≤ pp ∧ zprev (zslot d least NS) ((zslot d least NS) pp) cc < left) → (mm + zcnt (zrun d (zlm cap gb n pp).toNat pp) (pp - win) least cc = zcnt (zrun d (zlm cap gb n pp).toNat pp) (pp - win) least (zst lk n ga least pp (zlm cap gb n pp))) → (mm + left ≤ pp) → (zMemo d n NS gS gT) → va_P D vwCl [(hF, .inr (0, [.ref hR, .ref hL, .ref aL, .ref aK, .int (vI ((lk : Nat) : Int)), .int (vI ((ll : Nat) : Int)), .ref aS, .ref aT, .int (vI ((pp : Nat) : Int)), .int (vI (zprev (zslot d least NS) ((zslot d least NS) pp) cc)), .int (vI ((pp - win : Nat) : Int)), .int (vI (zlm cap gb n pp)), .int (vI ((b : Nat) : Int)), .int (vI ((ln : Nat) : Int)), .int (vI ((ds : Nat) : Int))])), (hR, .inr (3, [.ref aB, .int (vI ((n : Nat) : Int)), .int (vI ((pa : Nat) : Int))])), ia aB cB (NB) (d), (hL, .inr (4, [.int (vI ((way : Nat) : Int)), .int (vI ((win : Nat) : Int)), .int (vI ((least : Nat) : Int)), .int (vI ((cap : Nat) : Int)), .int (vI ((ga : Nat) : Int)), .int (vI ((gb : Nat) : Int)), .int (vI ((lp : Nat) : Int)), .int (vI ((mp : Nat) : Int))])), ia aK cI (NS) (gK), ia aS cI (NS) (gS), ia aT cI (NS) (gT)] H → va_D A [(hF, .inr (0, [.ref hR, .ref hL, .ref aL, .ref aK, .int (vI ((lk : Nat) : Int)), .int (vI ((ll : Nat) : Int)), .ref aS, .ref aT, .int (vI ((pp : Nat) : Int)), .int (vI (zprev (zslot d least NS) ((zslot d least NS) pp) cc)), .int (vI ((pp - win : Nat) : Int)), .int (vI (zlm cap gb n pp)), .int (vI ((b : Nat) : Int)), .int (vI ((ln : Nat) : Int)), .int (vI ((ds : Nat) : Int))])), (hR, .inr (3, [.ref aB, .int (vI ((n : Nat) : Int)), .int (vI ((pa : Nat) : Int))])), ia aB cB (NB) (d), (hL, .inr (4, [.int (vI ((way : Nat) : Int)), .int (vI ((win : Nat) : Int)), .int (vI ((least : Nat) : Int)), .int (vI ((cap : Nat) : Int)), .int (vI ((ga : Nat) : Int)), .int (vI ((gb : Nat) : Int)), .int (vI ((lp : Nat) : Int)), .int (vI ((mp : Nat) : Int))])), ia aK cI (NS) (gK), ia aS cI (NS) (gS), ia aT cI (NS) (gT)] → va_S A H0 H locs → lv_has ls 4 [(0, .ref hF), (1, .int (vI ((pp : Nat) : Int))), (2, .int (vI ((mm : Nat) : Int))), (3, .int (vI ((left : Nat) : Int)))] → W p l e R s m args below meth c H locs cells slots Q (F0 m 16 ls []) := by
  intro fuel
  induction fuel with
  | zero =>
    intro left cc mm gS gT hfuel
    exact absurd hfuel (Nat.not_lt_zero _)
  | succ fuel ih =>
    intro left cc mm gS gT hfuel H locs ls hc hu hm hM hP hD hS hl
    refine lv_iload_n hx hb dX0_matchesAt_16 rfl (lv_at hl 3 rfl) ?_
    have hlm := zlm_in cap gb n pp
    have hst := zst_le lk n ga least pp (zlm cap gb n pp)
    have hzl := zprev_lt (zslot d least NS) ((zslot d least NS) pp) cc
    refine zw_if_le (tgt := 81) hx hb dX0_matchesAt_17 (by decide) ⟨by omega, by omega⟩ (fun c_17 => ?_) (fun c_17 => ?_)
    · have e0 : mm = zcnt (zrun d (zlm cap gb n pp).toNat pp) (pp - win) least (zst lk n ga least pp (zlm cap gb n pp)) := by rw [← hu, zcnt_none (sl := (zslot d least NS)) (s := (zslot d least NS) pp) (by omega) (fun q a1 a2 a3 => zslot_run a3)]; omega
      subst e0
      exact K1 cc gS gT _ _ _ hM (hP.sub [0, 1, 2, 3, 4, 5, 6] rfl) (hD.sub [0, 1, 2, 3, 4, 5, 6] (by decide) rfl) hS (lv_sub hl [0, 2] rfl)
    · refine lv_aload_n hx hb dX0_matchesAt_20 rfl (lv_at hl 0 rfl) ?_
      refine va_get (D := D) (ci := 0) (v := .int (vI (zprev (zslot d least NS) ((zslot d least NS) pp) cc))) (C := RX0) (T := TX0) (N := 15) hx hb hts iwX0 hown hK hP 0 rfl rfl 9 (by decide) (hts _ aw_109) (fun _ h9 => h9) rfl dX0_matchesAt_21 ?_
      refine lv_aload_n hx hb dX0_matchesAt_24 rfl (lv_at hl 0 rfl) ?_
      refine va_get (D := D) (ci := 0) (v := .int (vI ((pp - win : Nat) : Int))) (C := RX0) (T := TX0) (N := 15) hx hb hts iwX0 hown hK hP 0 rfl rfl 10 (by decide) (hts _ aw_110) (fun _ h9 => h9) rfl dX0_matchesAt_25 ?_
      refine zw_icmp_lt (tgt := 81) hx hb dX0_matchesAt_28 (by decide) ⟨by omega, by omega⟩ ⟨by omega, by omega⟩ (fun c_28 => ?_) (fun c_28 => ?_)
      · have e0 : mm = zcnt (zrun d (zlm cap gb n pp).toNat pp) (pp - win) least (zst lk n ga least pp (zlm cap gb n pp)) := by rw [← hu, zcnt_none (sl := (zslot d least NS)) (s := (zslot d least NS) pp) (by omega) (fun q a1 a2 a3 => zslot_run a3)]; omega
        subst e0
        exact K1 cc gS gT _ _ _ hM (hP.sub [0, 1, 2, 3, 4, 5, 6] rfl) (hD.sub [0, 1, 2, 3, 4, 5, 6] (by decide) rfl) hS (lv_sub hl [0, 2] rfl)
      · refine lv_aload_n hx hb dX0_matchesAt_31 rfl (lv_at hl 0 rfl) ?_
        refine lv_iload_n hx hb dX0_matchesAt_32 rfl (lv_at hl 1 rfl) ?_
        refine lv_iload_n hx hb dX0_matchesAt_33 rfl (lv_at hl 1 rfl) ?_
        refine lv_aload_n hx hb dX0_matchesAt_34 rfl (lv_at hl 0 rfl) ?_
        obtain ⟨q, hq⟩ : ∃ q : Nat, zprev (zslot d least NS) ((zslot d least NS) pp) cc = (q : Int) := ⟨(zprev (zslot d least NS) ((zslot d least NS) pp) cc).toNat, by omega⟩
        have e10 := zst_pos2 (show 0 < zst lk n ga least pp (zlm cap gb n pp) by omega)
        refine va_get (D := D) (ci := 0) (v := .int (vI (zprev (zslot d least NS) ((zslot d least NS) pp) cc))) (C := RX0) (T := TX0) (N := 15) hx hb hts iwX0 hown hK hP 0 rfl rfl 9 (by decide) (hts _ aw_109) (fun _ h9 => h9) rfl dX0_matchesAt_35 ?_
        refine zw_to (z2 := ((q : Nat) : Int)) (hq) ?_
        refine zw_isub hx hb dX0_matchesAt_38 ?_
        refine zw_to (z2 := ((pp - q : Nat) : Int)) (by omega) ?_
        refine lv_aload_n hx hb dX0_matchesAt_39 rfl (lv_at hl 0 rfl) ?_
        refine va_get (D := D) (ci := 0) (v := .ref hL) (C := RX0) (T := TX0) (N := 15) hx hb hts iwX0 hown hK hP 0 rfl rfl 1 (by decide) (hts _ aw_101) (fun _ h9 => h9) rfl dX0_matchesAt_40 ?_
        refine va_getN (D := D) (ci := 4) (v := .int (vI ((least : Nat) : Int))) (C := RX4) (T := TX4) (N := 8) hx hb hts iwX4 hown hK hP 3 rfl rfl 2 (by decide) (va_Nw.use rfl (hns _ nw_60)) (fun _ h9 => h9) rfl dX0_matchesAt_43 ?_
        have hPc := hP.sub (ws' := [(hF, .inr (0, [.ref hR, .ref hL, .ref aL, .ref aK, .int (vI ((lk : Nat) : Int)), .int (vI ((ll : Nat) : Int)), .ref aS, .ref aT, .int (vI ((pp : Nat) : Int)), .int (vI (zprev (zslot d least NS) ((zslot d least NS) pp) cc)), .int (vI ((pp - win : Nat) : Int)), .int (vI (zlm cap gb n pp)), .int (vI ((b : Nat) : Int)), .int (vI ((ln : Nat) : Int)), .int (vI ((ds : Nat) : Int))])), (hR, .inr (3, [.ref aB, .int (vI ((n : Nat) : Int)), .int (vI ((pa : Nat) : Int))])), ia aB cB (NB) (d), ia aS cI (NS) (gS), ia aT cI (NS) (gT)]) [0, 1, 2, 5, 6] rfl
        have hDc := hD.sub (ws' := [(hF, .inr (0, [.ref hR, .ref hL, .ref aL, .ref aK, .int (vI ((lk : Nat) : Int)), .int (vI ((ll : Nat) : Int)), .ref aS, .ref aT, .int (vI ((pp : Nat) : Int)), .int (vI (zprev (zslot d least NS) ((zslot d least NS) pp) cc)), .int (vI ((pp - win : Nat) : Int)), .int (vI (zlm cap gb n pp)), .int (vI ((b : Nat) : Int)), .int (vI ((ln : Nat) : Int)), .int (vI ((ds : Nat) : Int))])), (hR, .inr (3, [.ref aB, .int (vI ((n : Nat) : Int)), .int (vI ((pa : Nat) : Int))])), ia aB cB (NB) (d), ia aS cI (NS) (gS), ia aT cI (NS) (gT)]) [0, 1, 2, 5, 6] (by decide) rfl
        refine zc_i (wr := [(hL, .inr (4, [.int (vI ((way : Nat) : Int)), .int (vI ((win : Nat) : Int)), .int (vI ((least : Nat) : Int)), .int (vI ((cap : Nat) : Int)), .int (vI ((ga : Nat) : Int)), .int (vI ((gb : Nat) : Int)), .int (vI ((lp : Nat) : Int)), .int (vI ((mp : Nat) : Int))])), ia aK cI (NS) (gK)]) (va_runV (As := [.int (vI ((pp : Nat) : Int)), .int (vI ((pp - q : Nat) : Int)), .int (vI ((least : Nat) : Int))]) (rest := []) ⟨hx, hb, hml, hown, hts⟩ (c_X0_sameBytes l D cI cB _ hF hR hL aL aK aS aT aB lk ll n pa NB NS d ((pp : Nat) : Int) (zprev (zslot d least NS) ((zslot d least NS) pp) cc) ((pp - win : Nat) : Int) (zlm cap gb n pp) ((b : Nat) : Int) ((ln : Nat) : Int) ((ds : Nat) : Int) gS gT pp (pp - q) least (by omega) (hM) (hby)) ⟨callB_of 3 hts (zg kX0_sameBytes) rfl rfl rfl (hts _ aw_4) (hts _ aw_394) (by decide +kernel) ⟨Nat.le_trans (Nat.le_of_ble_eq_true rfl) hRf, Nat.le_trans (Nat.le_of_ble_eq_true rfl) hRl⟩, (hts _ aw_396), (hts _ as_18)⟩ ⟨zPre_blind, va_recv hK hPc (ci := 0) (q0 := 0) rfl rfl, zPre_of hK hns hPc hDc⟩ rfl rfl hl.1 rfl (lv_room (Nat.le_of_ble_eq_true rfl)) dX0_matchesAt_46 ⟨hRc, hRs⟩) hP hD hS hA [0, 1, 2, 5, 6] [3, 4] rfl rfl (by decide) (by decide) (fun r u H locs hpost hP hD hS => ?_)
        obtain ⟨gS2_46, gT2_46⟩ := u
        obtain ⟨rfl, hM_46⟩ := hpost
        have hP : va_P D vwCl [(hL, .inr (4, [.int (vI ((way : Nat) : Int)), .int (vI ((win : Nat) : Int)), .int (vI ((least : Nat) : Int)), .int (vI ((cap : Nat) : Int)), .int (vI ((ga : Nat) : Int)), .int (vI ((gb : Nat) : Int)), .int (vI ((lp : Nat) : Int)), .int (vI ((mp : Nat) : Int))])), ia aK cI (NS) (gK), (hF, .inr (0, [.ref hR, .ref hL, .ref aL, .ref aK, .int (vI ((lk : Nat) : Int)), .int (vI ((ll : Nat) : Int)), .ref aS, .ref aT, .int (vI ((pp : Nat) : Int)), .int (vI (zprev (zslot d least NS) ((zslot d least NS) pp) cc)), .int (vI ((pp - win : Nat) : Int)), .int (vI (zlm cap gb n pp)), .int (vI ((b : Nat) : Int)), .int (vI ((ln : Nat) : Int)), .int (vI ((ds : Nat) : Int))])), (hR, .inr (3, [.ref aB, .int (vI ((n : Nat) : Int)), .int (vI ((pa : Nat) : Int))])), ia aB cB (NB) (d), ia aS cI (NS) (gS2_46), ia aT cI (NS) (gT2_46)] H := hP
        have hD : va_D _ [(hL, .inr (4, [.int (vI ((way : Nat) : Int)), .int (vI ((win : Nat) : Int)), .int (vI ((least : Nat) : Int)), .int (vI ((cap : Nat) : Int)), .int (vI ((ga : Nat) : Int)), .int (vI ((gb : Nat) : Int)), .int (vI ((lp : Nat) : Int)), .int (vI ((mp : Nat) : Int))])), ia aK cI (NS) (gK), (hF, .inr (0, [.ref hR, .ref hL, .ref aL, .ref aK, .int (vI ((lk : Nat) : Int)), .int (vI ((ll : Nat) : Int)), .ref aS, .ref aT, .int (vI ((pp : Nat) : Int)), .int (vI (zprev (zslot d least NS) ((zslot d least NS) pp) cc)), .int (vI ((pp - win : Nat) : Int)), .int (vI (zlm cap gb n pp)), .int (vI ((b : Nat) : Int)), .int (vI ((ln : Nat) : Int)), .int (vI ((ds : Nat) : Int))])), (hR, .inr (3, [.ref aB, .int (vI ((n : Nat) : Int)), .int (vI ((pa : Nat) : Int))])), ia aB cB (NB) (d), ia aS cI (NS) (gS2_46), ia aT cI (NS) (gT2_46)] := hD
        refine zw_to (z2 := ((min (zrun d (zlm cap gb n pp).toNat pp q) least : Nat) : Int)) (by rw [show pp - (pp - q) = q by omega, zrun_cut (k := (zlm cap gb n pp).toNat) (by omega)]) ?_
        refine lv_aload_n hx hb dX0_matchesAt_49 rfl (lv_at hl 0 rfl) ?_
        refine va_get (D := D) (ci := 0) (v := .ref hL) (C := RX0) (T := TX0) (N := 15) hx hb hts iwX0 hown hK hP 2 rfl rfl 1 (by decide) (hts _ aw_101) (fun _ h9 => h9) rfl dX0_matchesAt_50 ?_
        refine va_getN (D := D) (ci := 4) (v := .int (vI ((least : Nat) : Int))) (C := RX4) (T := TX4) (N := 8) hx hb hts iwX4 hown hK hP 0 rfl rfl 2 (by decide) (va_Nw.use rfl (hns _ nw_60)) (fun _ h9 => h9) rfl dX0_matchesAt_53 ?_
        refine zw_icmp_ne (tgt := 62) hx hb dX0_matchesAt_56 (by decide) ⟨by omega, by omega⟩ ⟨by omega, by omega⟩ (fun c_56 => ?_) (fun c_56 => ?_)
        · refine lv_aload_n hx hb dX0_matchesAt_62 rfl (lv_at hl 0 rfl) ?_
          refine lv_aload_n hx hb dX0_matchesAt_63 rfl (lv_at hl 0 rfl) ?_
          refine va_get (D := D) (ci := 0) (v := .ref aK) (C := RX0) (T := TX0) (N := 15) hx hb hts iwX0 hown hK hP 2 rfl rfl 3 (by decide) (hts _ aw_103) (fun _ h9 => h9) rfl dX0_matchesAt_64 ?_
          refine lv_aload_n hx hb dX0_matchesAt_67 rfl (lv_at hl 0 rfl) ?_
          refine va_get (D := D) (ci := 0) (v := .int (vI (zprev (zslot d least NS) ((zslot d least NS) pp) cc))) (C := RX0) (T := TX0) (N := 15) hx hb hts iwX0 hown hK hP 2 rfl rfl 9 (by decide) (hts _ aw_109) (fun _ h9 => h9) rfl dX0_matchesAt_68 ?_
          refine zw_to (z2 := ((q : Nat) : Int)) (hq) ?_
          refine zw_iald hx hb hK hP 1 0 rfl rfl (q) (by omega) (by omega) (by omega) dX0_matchesAt_71 ?_
          refine zw_to (z2 := zprev (zslot d least NS) ((zslot d least NS) pp) q) ((hz q (by omega)).trans (by rw [zprev_sl (zslot d least NS) ((zslot d least NS) pp) cc q hq])) ?_
          refine va_put (D := D) (ci := 0) (v := .int (vI (zprev (zslot d least NS) ((zslot d least NS) pp) q))) (ty := .int) (C := RX0) (T := TX0) (N := 15) hx hb hts iwX0 tyX0 tyX0_ok nmX0 hown hK hP hD hS 2 rfl rfl 9 (by decide) (hts _ aw_109) (fun _ h9 => h9) rfl (by decide +kernel) rfl rfl (Nat.le_of_ble_eq_true rfl) dX0_matchesAt_72 (fun H locs hP hD hS => ?_)
          have hP : va_P D vwCl [(hL, .inr (4, [.int (vI ((way : Nat) : Int)), .int (vI ((win : Nat) : Int)), .int (vI ((least : Nat) : Int)), .int (vI ((cap : Nat) : Int)), .int (vI ((ga : Nat) : Int)), .int (vI ((gb : Nat) : Int)), .int (vI ((lp : Nat) : Int)), .int (vI ((mp : Nat) : Int))])), ia aK cI (NS) (gK), (hF, .inr (0, [.ref hR, .ref hL, .ref aL, .ref aK, .int (vI ((lk : Nat) : Int)), .int (vI ((ll : Nat) : Int)), .ref aS, .ref aT, .int (vI ((pp : Nat) : Int)), .int (vI (zprev (zslot d least NS) ((zslot d least NS) pp) q)), .int (vI ((pp - win : Nat) : Int)), .int (vI (zlm cap gb n pp)), .int (vI ((b : Nat) : Int)), .int (vI ((ln : Nat) : Int)), .int (vI ((ds : Nat) : Int))])), (hR, .inr (3, [.ref aB, .int (vI ((n : Nat) : Int)), .int (vI ((pa : Nat) : Int))])), ia aB cB (NB) (d), ia aS cI (NS) (gS2_46), ia aT cI (NS) (gT2_46)] H := hP
          have hD : va_D _ [(hL, .inr (4, [.int (vI ((way : Nat) : Int)), .int (vI ((win : Nat) : Int)), .int (vI ((least : Nat) : Int)), .int (vI ((cap : Nat) : Int)), .int (vI ((ga : Nat) : Int)), .int (vI ((gb : Nat) : Int)), .int (vI ((lp : Nat) : Int)), .int (vI ((mp : Nat) : Int))])), ia aK cI (NS) (gK), (hF, .inr (0, [.ref hR, .ref hL, .ref aL, .ref aK, .int (vI ((lk : Nat) : Int)), .int (vI ((ll : Nat) : Int)), .ref aS, .ref aT, .int (vI ((pp : Nat) : Int)), .int (vI (zprev (zslot d least NS) ((zslot d least NS) pp) q)), .int (vI ((pp - win : Nat) : Int)), .int (vI (zlm cap gb n pp)), .int (vI ((b : Nat) : Int)), .int (vI ((ln : Nat) : Int)), .int (vI ((ds : Nat) : Int))])), (hR, .inr (3, [.ref aB, .int (vI ((n : Nat) : Int)), .int (vI ((pa : Nat) : Int))])), ia aB cB (NB) (d), ia aS cI (NS) (gS2_46), ia aT cI (NS) (gT2_46)] := hD
          refine lv_iinc (v := vI ((left - 1 : Nat) : Int)) (lv' := [(3, .int (vI ((left - 1 : Nat) : Int))), (0, .ref hF), (1, .int (vI ((pp : Nat) : Int))), (2, .int (vI ((mm : Nat) : Int)))]) hx hb dX0_matchesAt_75 hl (k := 3) rfl ((vI_add _ _).trans (congrArg vI (by omega))) (by decide) rfl (fun ls hl => ?_)
          refine lv_goto (tgt := 16) hx hb dX0_matchesAt_78 (by decide) ?_
          exact ih (left - 1) q mm gS2_46 gT2_46 (by omega) _ _ _ (⟨by omega, by omega, by have := zprev_lt (zslot d least NS) ((zslot d least NS) pp) q; omega⟩) ((zcnt_step0 hq (fun q a1 a2 a3 => zslot_run a3) (by omega) hu)) (by omega) (hM_46) (hP.sub [2, 3, 4, 0, 1, 5, 6] rfl) (hD.sub [2, 3, 4, 0, 1, 5, 6] (by decide) rfl) hS (lv_sub hl [1, 2, 3, 0] rfl)
        · refine lv_iinc (v := vI ((mm + 1 : Nat) : Int)) (lv' := [(2, .int (vI ((mm + 1 : Nat) : Int))), (0, .ref hF), (1, .int (vI ((pp : Nat) : Int))), (3, .int (vI ((left : Nat) : Int)))]) hx hb dX0_matchesAt_59 hl (k := 2) rfl ((vI_add _ _).trans (congrArg vI (by omega))) (by decide) rfl (fun ls hl => ?_)
          refine lv_aload_n hx hb dX0_matchesAt_62 rfl (lv_at hl 1 rfl) ?_
          refine lv_aload_n hx hb dX0_matchesAt_63 rfl (lv_at hl 1 rfl) ?_
          refine va_get (D := D) (ci := 0) (v := .ref aK) (C := RX0) (T := TX0) (N := 15) hx hb hts iwX0 hown hK hP 2 rfl rfl 3 (by decide) (hts _ aw_103) (fun _ h9 => h9) rfl dX0_matchesAt_64 ?_
          refine lv_aload_n hx hb dX0_matchesAt_67 rfl (lv_at hl 1 rfl) ?_
          refine va_get (D := D) (ci := 0) (v := .int (vI (zprev (zslot d least NS) ((zslot d least NS) pp) cc))) (C := RX0) (T := TX0) (N := 15) hx hb hts iwX0 hown hK hP 2 rfl rfl 9 (by decide) (hts _ aw_109) (fun _ h9 => h9) rfl dX0_matchesAt_68 ?_
          refine zw_to (z2 := ((q : Nat) : Int)) (hq) ?_
          refine zw_iald hx hb hK hP 1 0 rfl rfl (q) (by omega) (by omega) (by omega) dX0_matchesAt_71 ?_
          refine zw_to (z2 := zprev (zslot d least NS) ((zslot d least NS) pp) q) ((hz q (by omega)).trans (by rw [zprev_sl (zslot d least NS) ((zslot d least NS) pp) cc q hq])) ?_
          refine va_put (D := D) (ci := 0) (v := .int (vI (zprev (zslot d least NS) ((zslot d least NS) pp) q))) (ty := .int) (C := RX0) (T := TX0) (N := 15) hx hb hts iwX0 tyX0 tyX0_ok nmX0 hown hK hP hD hS 2 rfl rfl 9 (by decide) (hts _ aw_109) (fun _ h9 => h9) rfl (by decide +kernel) rfl rfl (Nat.le_of_ble_eq_true rfl) dX0_matchesAt_72 (fun H locs hP hD hS => ?_)
          have hP : va_P D vwCl [(hL, .inr (4, [.int (vI ((way : Nat) : Int)), .int (vI ((win : Nat) : Int)), .int (vI ((least : Nat) : Int)), .int (vI ((cap : Nat) : Int)), .int (vI ((ga : Nat) : Int)), .int (vI ((gb : Nat) : Int)), .int (vI ((lp : Nat) : Int)), .int (vI ((mp : Nat) : Int))])), ia aK cI (NS) (gK), (hF, .inr (0, [.ref hR, .ref hL, .ref aL, .ref aK, .int (vI ((lk : Nat) : Int)), .int (vI ((ll : Nat) : Int)), .ref aS, .ref aT, .int (vI ((pp : Nat) : Int)), .int (vI (zprev (zslot d least NS) ((zslot d least NS) pp) q)), .int (vI ((pp - win : Nat) : Int)), .int (vI (zlm cap gb n pp)), .int (vI ((b : Nat) : Int)), .int (vI ((ln : Nat) : Int)), .int (vI ((ds : Nat) : Int))])), (hR, .inr (3, [.ref aB, .int (vI ((n : Nat) : Int)), .int (vI ((pa : Nat) : Int))])), ia aB cB (NB) (d), ia aS cI (NS) (gS2_46), ia aT cI (NS) (gT2_46)] H := hP
          have hD : va_D _ [(hL, .inr (4, [.int (vI ((way : Nat) : Int)), .int (vI ((win : Nat) : Int)), .int (vI ((least : Nat) : Int)), .int (vI ((cap : Nat) : Int)), .int (vI ((ga : Nat) : Int)), .int (vI ((gb : Nat) : Int)), .int (vI ((lp : Nat) : Int)), .int (vI ((mp : Nat) : Int))])), ia aK cI (NS) (gK), (hF, .inr (0, [.ref hR, .ref hL, .ref aL, .ref aK, .int (vI ((lk : Nat) : Int)), .int (vI ((ll : Nat) : Int)), .ref aS, .ref aT, .int (vI ((pp : Nat) : Int)), .int (vI (zprev (zslot d least NS) ((zslot d least NS) pp) q)), .int (vI ((pp - win : Nat) : Int)), .int (vI (zlm cap gb n pp)), .int (vI ((b : Nat) : Int)), .int (vI ((ln : Nat) : Int)), .int (vI ((ds : Nat) : Int))])), (hR, .inr (3, [.ref aB, .int (vI ((n : Nat) : Int)), .int (vI ((pa : Nat) : Int))])), ia aB cB (NB) (d), ia aS cI (NS) (gS2_46), ia aT cI (NS) (gT2_46)] := hD
          refine lv_iinc (v := vI ((left - 1 : Nat) : Int)) (lv' := [(3, .int (vI ((left - 1 : Nat) : Int))), (2, .int (vI ((mm + 1 : Nat) : Int))), (0, .ref hF), (1, .int (vI ((pp : Nat) : Int)))]) hx hb dX0_matchesAt_75 hl (k := 3) rfl ((vI_add _ _).trans (congrArg vI (by omega))) (by decide) rfl (fun ls hl => ?_)
          refine lv_goto (tgt := 16) hx hb dX0_matchesAt_78 (by decide) ?_
          exact ih (left - 1) q (mm + 1) gS2_46 gT2_46 (by omega) _ _ _ (⟨by omega, by omega, by have := zprev_lt (zslot d least NS) ((zslot d least NS) pp) q; omega⟩) ((zcnt_step1 hq (fun q a1 a2 a3 => zslot_run a3) (by omega) (by omega) hu)) (by omega) (hM_46) (hP.sub [2, 3, 4, 0, 1, 5, 6] rfl) (hD.sub [2, 3, 4, 0, 1, 5, 6] (by decide) rfl) hS (lv_sub hl [2, 3, 1, 0] rfl)

set_option maxRecDepth 100000 in
set_option maxHeartbeats 4000000 in
theorem c_X0_matchesAt (l : Launch) (D : va_G) (cI cB : ClassId) (sz : Nat) (hF : Nat) (hR : Nat) (hL : Nat) (aL : Nat) (aK : Nat) (aS : Nat) (aT : Nat) (aB : Nat) (lk : Nat) (ll : Nat) (n : Nat) (pa : Nat) (NB : Nat) (NS : Nat) (d : Nat → Int) (plc : Int) (cand : Int) (low : Int) (lim : Int) (beat : Int) (ln : Int) (dist : Int) (way : Nat) (win : Nat) (least : Nat) (cap : Nat) (ga : Nat) (gb : Nat) (lp : Nat) (mp : Nat) (gK : Nat → Int) (gS : Nat → Int) (gT : Nat → Int) (pp : Nat) (h1 : 3 ≤ least ∧ least ≤ 8 ∧ pp < n ∧ lk ≤ n ∧ n < lk + least ∧ n ≤ NB ∧ NB ≤ 32768 ∧ n ≤ NS ∧ NS ≤ 32768 ∧ win ≤ 65536 ∧ cap ≤ 131072 ∧ ga ≤ 32 ∧ gb ≤ 32) (hz : ∀ q, q < lk → gK q = zprev (zslot d least NS) ((zslot d least NS) q) q) (hM : zMemo d n NS gS gT) (hby : ∀ j, -128 ≤ d j ∧ d j < 128) : Met l yX0_matchesAt wsX0_matchesAt ({ frames := 3, cells := 0, slots := 0, locals := 65 } : Room) (va_Pc [.ref hF, .int (vI ((pp : Nat) : Int))] (zPre D vwCl [(cI, .int), (cB, .byte)] [(hF, .inr (0, [.ref hR, .ref hL, .ref aL, .ref aK, .int (vI ((lk : Nat) : Int)), .int (vI ((ll : Nat) : Int)), .ref aS, .ref aT, .int (vI (plc)), .int (vI (cand)), .int (vI (low)), .int (vI (lim)), .int (vI (beat)), .int (vI (ln)), .int (vI (dist))])), (hR, .inr (3, [.ref aB, .int (vI ((n : Nat) : Int)), .int (vI ((pa : Nat) : Int))])), ia aB cB (NB) (d), (hL, .inr (4, [.int (vI ((way : Nat) : Int)), .int (vI ((win : Nat) : Int)), .int (vI ((least : Nat) : Int)), .int (vI ((cap : Nat) : Int)), .int (vI ((ga : Nat) : Int)), .int (vI ((gb : Nat) : Int)), .int (vI ((lp : Nat) : Int)), .int (vI ((mp : Nat) : Int))])), ia aK cI (NS) (gK), ia aS cI (NS) (gS), ia aT cI (NS) (gT)] sz)) (va_Qi (S := Int × Int × Int × Int × Int × Nat × Nat × (Nat → Int) × (Nat → Int)) (fun (r : Int32) => fun u => match u with | (plc2, cand2, low2, lim2, beat2, ln2, ds2, gS2, gT2) => (r = vI ((zct d n win cap ga gb least pp : Nat) : Int)) ∧ (zMemo d n NS gS2 gT2)) (fun (u : Int × Int × Int × Int × Int × Nat × Nat × (Nat → Int) × (Nat → Int)) t => zB D vwCl (va_A [(hF, .inr (0, [.ref hR, .ref hL, .ref aL, .ref aK, .int (vI ((lk : Nat) : Int)), .int (vI ((ll : Nat) : Int)), .ref aS, .ref aT, .int (vI (plc)), .int (vI (cand)), .int (vI (low)), .int (vI (lim)), .int (vI (beat)), .int (vI (ln)), .int (vI (dist))])), (hR, .inr (3, [.ref aB, .int (vI ((n : Nat) : Int)), .int (vI ((pa : Nat) : Int))])), ia aB cB (NB) (d), (hL, .inr (4, [.int (vI ((way : Nat) : Int)), .int (vI ((win : Nat) : Int)), .int (vI ((least : Nat) : Int)), .int (vI ((cap : Nat) : Int)), .int (vI ((ga : Nat) : Int)), .int (vI ((gb : Nat) : Int)), .int (vI ((lp : Nat) : Int)), .int (vI ((mp : Nat) : Int))])), ia aK cI (NS) (gK), ia aS cI (NS) (gS), ia aT cI (NS) (gT)] sz) ((fun u => match u with | (plc2, cand2, low2, lim2, beat2, ln2, ds2, gS2, gT2) => [(hF, .inr (0, [.ref hR, .ref hL, .ref aL, .ref aK, .int (vI ((lk : Nat) : Int)), .int (vI ((ll : Nat) : Int)), .ref aS, .ref aT, .int (vI (plc2)), .int (vI (cand2)), .int (vI (low2)), .int (vI (lim2)), .int (vI (beat2)), .int (vI ((ln2 : Nat) : Int)), .int (vI ((ds2 : Nat) : Int))])), (hR, .inr (3, [.ref aB, .int (vI ((n : Nat) : Int)), .int (vI ((pa : Nat) : Int))])), ia aB cB (NB) (d), (hL, .inr (4, [.int (vI ((way : Nat) : Int)), .int (vI ((win : Nat) : Int)), .int (vI ((least : Nat) : Int)), .int (vI ((cap : Nat) : Int)), .int (vI ((ga : Nat) : Int)), .int (vI ((gb : Nat) : Int)), .int (vI ((lp : Nat) : Int)), .int (vI ((mp : Nat) : Int))])), ia aK cI (NS) (gK), ia aS cI (NS) (gS2), ia aT cI (NS) (gT2)] : Int × Int × Int × Int × Int × Nat × Nat × (Nat → Int) × (Nat → Int) → va_W) u) t) (va_A [(hF, .inr (0, [.ref hR, .ref hL, .ref aL, .ref aK, .int (vI ((lk : Nat) : Int)), .int (vI ((ll : Nat) : Int)), .ref aS, .ref aT, .int (vI (plc)), .int (vI (cand)), .int (vI (low)), .int (vI (lim)), .int (vI (beat)), .int (vI (ln)), .int (vI (dist))])), (hR, .inr (3, [.ref aB, .int (vI ((n : Nat) : Int)), .int (vI ((pa : Nat) : Int))])), ia aB cB (NB) (d), (hL, .inr (4, [.int (vI ((way : Nat) : Int)), .int (vI ((win : Nat) : Int)), .int (vI ((least : Nat) : Int)), .int (vI ((cap : Nat) : Int)), .int (vI ((ga : Nat) : Int)), .int (vI ((gb : Nat) : Int)), .int (vI ((lp : Nat) : Int)), .int (vI ((mp : Nat) : Int))])), ia aK cI (NS) (gK), ia aS cI (NS) (gS), ia aT cI (NS) (gT)] sz)) (0) (0) (va_A [(hF, .inr (0, [.ref hR, .ref hL, .ref aL, .ref aK, .int (vI ((lk : Nat) : Int)), .int (vI ((ll : Nat) : Int)), .ref aS, .ref aT, .int (vI (plc)), .int (vI (cand)), .int (vI (low)), .int (vI (lim)), .int (vI (beat)), .int (vI (ln)), .int (vI (dist))])), (hR, .inr (3, [.ref aB, .int (vI ((n : Nat) : Int)), .int (vI ((pa : Nat) : Int))])), ia aB cB (NB) (d), (hL, .inr (4, [.int (vI ((way : Nat) : Int)), .int (vI ((win : Nat) : Int)), .int (vI ((least : Nat) : Int)), .int (vI ((cap : Nat) : Int)), .int (vI ((ga : Nat) : Int)), .int (vI ((gb : Nat) : Int)), .int (vI ((lp : Nat) : Int)), .int (vI ((mp : Nat) : Int))])), ia aK cI (NS) (gK), ia aS cI (NS) (gS), ia aT cI (NS) (gT)] sz) := by
  refine zMet (by decide) rfl (Nat.le_of_ble_eq_true rfl) (fun p e s m below meth c hx hb hr hts hown hlocks hnm hml hK hns hA hP hD hS ls hl => ?_)
  have hl : lv_has ls 4 [(0, .ref hF), (1, .int (vI ((pp : Nat) : Int)))] := hl
  have hRf : 3 ≤ ({ frames := 3, cells := 0, slots := 0, locals := 65 } : Room).frames := Nat.le_refl _
  have hRl : 65 ≤ ({ frames := 3, cells := 0, slots := 0, locals := 65 } : Room).locals := Nat.le_refl _
  have hRc : 0 ≤ ({ frames := 3, cells := 0, slots := 0, locals := 65 } : Room).cells := Nat.zero_le _
  have hRs : 0 ≤ ({ frames := 3, cells := 0, slots := 0, locals := 65 } : Room).slots := Nat.zero_le _
  refine lv_aload_n hx hb dX0_matchesAt_0 rfl (lv_at hl 0 rfl) ?_
  refine lv_iload_n hx hb dX0_matchesAt_1 rfl (lv_at hl 1 rfl) ?_
  refine lv_aload_n hx hb dX0_matchesAt_2 rfl (lv_at hl 0 rfl) ?_
  refine va_get (D := D) (ci := 0) (v := .ref hL) (C := RX0) (T := TX0) (N := 15) hx hb hts iwX0 hown hK hP 0 rfl rfl 1 (by decide) (hts _ aw_101) (fun _ h9 => h9) rfl dX0_matchesAt_3 ?_
  refine va_getN (D := D) (ci := 4) (v := .int (vI ((least : Nat) : Int))) (C := RX4) (T := TX4) (N := 8) hx hb hts iwX4 hown hK hP 3 rfl rfl 2 (by decide) (va_Nw.use rfl (hns _ nw_60)) (fun _ h9 => h9) rfl dX0_matchesAt_6 ?_
  have hPc := hP.sub (ws' := [(hF, .inr (0, [.ref hR, .ref hL, .ref aL, .ref aK, .int (vI ((lk : Nat) : Int)), .int (vI ((ll : Nat) : Int)), .ref aS, .ref aT, .int (vI (plc)), .int (vI (cand)), .int (vI (low)), .int (vI (lim)), .int (vI (beat)), .int (vI (ln)), .int (vI (dist))])), (hR, .inr (3, [.ref aB, .int (vI ((n : Nat) : Int)), .int (vI ((pa : Nat) : Int))])), (hL, .inr (4, [.int (vI ((way : Nat) : Int)), .int (vI ((win : Nat) : Int)), .int (vI ((least : Nat) : Int)), .int (vI ((cap : Nat) : Int)), .int (vI ((ga : Nat) : Int)), .int (vI ((gb : Nat) : Int)), .int (vI ((lp : Nat) : Int)), .int (vI ((mp : Nat) : Int))])), ia aK cI (NS) (gK)]) [0, 1, 3, 4] rfl
  have hDc := hD.sub (ws' := [(hF, .inr (0, [.ref hR, .ref hL, .ref aL, .ref aK, .int (vI ((lk : Nat) : Int)), .int (vI ((ll : Nat) : Int)), .ref aS, .ref aT, .int (vI (plc)), .int (vI (cand)), .int (vI (low)), .int (vI (lim)), .int (vI (beat)), .int (vI (ln)), .int (vI (dist))])), (hR, .inr (3, [.ref aB, .int (vI ((n : Nat) : Int)), .int (vI ((pa : Nat) : Int))])), (hL, .inr (4, [.int (vI ((way : Nat) : Int)), .int (vI ((win : Nat) : Int)), .int (vI ((least : Nat) : Int)), .int (vI ((cap : Nat) : Int)), .int (vI ((ga : Nat) : Int)), .int (vI ((gb : Nat) : Int)), .int (vI ((lp : Nat) : Int)), .int (vI ((mp : Nat) : Int))])), ia aK cI (NS) (gK)]) [0, 1, 3, 4] (by decide) rfl
  refine zc_v (wr := [ia aB cB (NB) (d), ia aS cI (NS) (gS), ia aT cI (NS) (gT)]) (va_runV (As := [.int (vI ((pp : Nat) : Int)), .int (vI ((least : Nat) : Int))]) (rest := []) ⟨hx, hb, hml, hown, hts⟩ (c_X0_startAt l D cI cB _ hF hR hL aL aK aS aT aB lk ll n pa NS way win least cap ga gb lp mp plc cand low lim beat ln dist (zslot d least NS) gK pp least (by omega) (hz)) ⟨callB_of 2 hts (zg kX0_startAt) rfl rfl rfl (hts _ aw_4) (hts _ aw_373) (by decide +kernel) ⟨Nat.le_trans (Nat.le_of_ble_eq_true rfl) hRf, Nat.le_trans (Nat.le_of_ble_eq_true rfl) hRl⟩, (hts _ aw_375), (hts _ as_14)⟩ ⟨zPre_blind, va_recv hK hPc (ci := 0) (q0 := 0) rfl rfl, zPre_of hK hns hPc hDc⟩ rfl rfl hl.1 rfl (lv_room (Nat.le_of_ble_eq_true rfl)) dX0_matchesAt_9 ⟨hRc, hRs⟩) hP hD hS hA [0, 1, 3, 4] [2, 5, 6] rfl rfl (by decide) (by decide) (fun _u H locs hpost hP hD hS => ?_)
  have hP : va_P D vwCl [ia aB cB (NB) (d), ia aS cI (NS) (gS), ia aT cI (NS) (gT), (hF, .inr (0, [.ref hR, .ref hL, .ref aL, .ref aK, .int (vI ((lk : Nat) : Int)), .int (vI ((ll : Nat) : Int)), .ref aS, .ref aT, .int (vI ((pp : Nat) : Int)), .int (vI (zprev (zslot d least NS) ((zslot d least NS) pp) (zst lk n ga least pp (zlm cap gb n pp)))), .int (vI ((pp - win : Nat) : Int)), .int (vI (zlm cap gb n pp)), .int (vI ((least - 1 : Nat) : Int)), .int (vI (0)), .int (vI (0))])), (hR, .inr (3, [.ref aB, .int (vI ((n : Nat) : Int)), .int (vI ((pa : Nat) : Int))])), (hL, .inr (4, [.int (vI ((way : Nat) : Int)), .int (vI ((win : Nat) : Int)), .int (vI ((least : Nat) : Int)), .int (vI ((cap : Nat) : Int)), .int (vI ((ga : Nat) : Int)), .int (vI ((gb : Nat) : Int)), .int (vI ((lp : Nat) : Int)), .int (vI ((mp : Nat) : Int))])), ia aK cI (NS) (gK)] H := hP
  have hD : va_D _ [ia aB cB (NB) (d), ia aS cI (NS) (gS), ia aT cI (NS) (gT), (hF, .inr (0, [.ref hR, .ref hL, .ref aL, .ref aK, .int (vI ((lk : Nat) : Int)), .int (vI ((ll : Nat) : Int)), .ref aS, .ref aT, .int (vI ((pp : Nat) : Int)), .int (vI (zprev (zslot d least NS) ((zslot d least NS) pp) (zst lk n ga least pp (zlm cap gb n pp)))), .int (vI ((pp - win : Nat) : Int)), .int (vI (zlm cap gb n pp)), .int (vI ((least - 1 : Nat) : Int)), .int (vI (0)), .int (vI (0))])), (hR, .inr (3, [.ref aB, .int (vI ((n : Nat) : Int)), .int (vI ((pa : Nat) : Int))])), (hL, .inr (4, [.int (vI ((way : Nat) : Int)), .int (vI ((win : Nat) : Int)), .int (vI ((least : Nat) : Int)), .int (vI ((cap : Nat) : Int)), .int (vI ((ga : Nat) : Int)), .int (vI ((gb : Nat) : Int)), .int (vI ((lp : Nat) : Int)), .int (vI ((mp : Nat) : Int))])), ia aK cI (NS) (gK)] := hD
  have hlm := zlm_in cap gb n pp
  have hst := zst_le lk n ga least pp (zlm cap gb n pp)
  refine zw_iconst hx hb dX0_matchesAt_12 ?_
  refine lv_istore_n (lv' := [(2, .int (vI (0))), (0, .ref hF), (1, .int (vI ((pp : Nat) : Int)))]) hx hb dX0_matchesAt_13 rfl hl (by decide) rfl (fun ls hl => ?_)
  refine lv_iload_n hx hb dX0_matchesAt_14 rfl (lv_at hl 2 rfl) ?_
  refine lv_istore_n (lv' := [(3, .int (vI ((pp : Nat) : Int))), (2, .int (vI (0))), (0, .ref hF), (1, .int (vI ((pp : Nat) : Int)))]) hx hb dX0_matchesAt_15 rfl hl (by decide) rfl (fun ls hl => ?_)
  refine s_cnt hx hb hts hown hml hK hns hA (Nat.le_trans (Nat.le_of_ble_eq_true rfl) hRf) (Nat.le_trans (Nat.le_of_ble_eq_true rfl) hRl) hRc hRs hF hR hL aL aK aS aT aB lk ll n pa NB NS d way win least cap ga gb lp mp gK pp (least - 1) 0 0 (by omega) (hz) (hby) (fun cc gS gT H locs ls hM hP hD hS hl => ?_) (pp + 1) pp (zst lk n ga least pp (zlm cap gb n pp)) 0 gS gT (Nat.lt_succ_self _) _ _ _ (⟨Nat.le_refl _, Nat.le_refl _, by have := zprev_lt (zslot d least NS) ((zslot d least NS) pp) (zst lk n ga least pp (zlm cap gb n pp)); omega⟩) (Nat.zero_add _) (by omega) (hM) (hP.sub [3, 4, 0, 5, 6, 1, 2] rfl) (hD.sub [3, 4, 0, 5, 6, 1, 2] (by decide) rfl) hS (lv_sub hl [2, 3, 1, 0] rfl)
  refine lv_iload_n hx hb dX0_matchesAt_81 rfl (lv_at hl 1 rfl) ?_
  refine zw_to (z2 := ((zct d n win cap ga gb least pp : Nat) : Int)) (by unfold zct; rw [zst_eq (least := least) (by omega) (Nat.le_refl _)]) ?_
  exact zr_i hx hb hr hlocks ((((pp : Nat) : Int), (zprev (zslot d least NS) ((zslot d least NS) pp) cc), ((pp - win : Nat) : Int), (zlm cap gb n pp), ((least - 1 : Nat) : Int), 0, 0, gS, gT)) ⟨rfl, hM⟩ hP hD hS dX0_matchesAt_82
end
