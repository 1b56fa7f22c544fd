section
-- ===== PART A: goes FIRST, ahead of the names: the tables' words, and 'selects' of the private methods out of them =====
/-- a private method of a class that the tables say can be made, by its rows of tables_1 -/
def lw_okq (q : MethodName × Nat) : Prop := (q.1.cls ≠ "java/lang/invoke/MethodHandle" ∧ q.1.cls ≠ "java/lang/invoke/VarHandle") ∧ Cond.instantiable q.1.cls q.2 ∈ tables_1 ∧ Cond.privateMethod q.1 ∈ tables_1 ∧ Cond.instanceMethod q.1 ∈ tables_1
theorem lw_p0 : lw_okq (⟨"MatchSeeker$Row", "empty", "()V"⟩, 3) := ⟨⟨by decide +kernel, by decide +kernel⟩, List.mem_of_getElem? (i := 20) (by decide +kernel), List.mem_of_getElem? (i := 263) (by decide +kernel), List.mem_of_getElem? (i := 264) (by decide +kernel)⟩
theorem lw_p1 : lw_okq (⟨"MatchSeeker$Finder", "forgetData", "()V"⟩, 15) := ⟨⟨by decide +kernel, by decide +kernel⟩, List.mem_of_getElem? (i := 95) (by decide +kernel), List.mem_of_getElem? (i := 267) (by decide +kernel), List.mem_of_getElem? (i := 268) (by decide +kernel)⟩
theorem lw_p2 : lw_okq (⟨"MatchSeeker$Finder", "unlink", "()V"⟩, 15) := ⟨⟨by decide +kernel, by decide +kernel⟩, List.mem_of_getElem? (i := 95) (by decide +kernel), List.mem_of_getElem? (i := 271) (by decide +kernel), List.mem_of_getElem? (i := 272) (by decide +kernel)⟩
theorem lw_p3 : lw_okq (⟨"MatchSeeker$Found", "forget", "()V"⟩, 14) := ⟨⟨by decide +kernel, by decide +kernel⟩, List.mem_of_getElem? (i := 185) (by decide +kernel), List.mem_of_getElem? (i := 278) (by decide +kernel), List.mem_of_getElem? (i := 279) (by decide +kernel)⟩
theorem lw_p4 : lw_okq (⟨"MatchSeeker$Row", "takes", "(J)Z"⟩, 3) := ⟨⟨by decide +kernel, by decide +kernel⟩, List.mem_of_getElem? (i := 20) (by decide +kernel), List.mem_of_getElem? (i := 289) (by decide +kernel), List.mem_of_getElem? (i := 290) (by decide +kernel)⟩
theorem lw_p5 : lw_okq (⟨"MatchSeeker$Row", "append", "(JI)V"⟩, 3) := ⟨⟨by decide +kernel, by decide +kernel⟩, List.mem_of_getElem? (i := 20) (by decide +kernel), List.mem_of_getElem? (i := 294) (by decide +kernel), List.mem_of_getElem? (i := 295) (by decide +kernel)⟩
theorem lw_p6 : lw_okq (⟨"MatchSeeker$Row", "makeRoom", "(I)V"⟩, 3) := ⟨⟨by decide +kernel, by decide +kernel⟩, List.mem_of_getElem? (i := 20) (by decide +kernel), List.mem_of_getElem? (i := 298) (by decide +kernel), List.mem_of_getElem? (i := 299) (by decide +kernel)⟩
theorem lw_p7 : lw_okq (⟨"MatchSeeker$Row", "repeat", "(II)V"⟩, 3) := ⟨⟨by decide +kernel, by decide +kernel⟩, List.mem_of_getElem? (i := 20) (by decide +kernel), List.mem_of_getElem? (i := 326) (by decide +kernel), List.mem_of_getElem? (i := 327) (by decide +kernel)⟩
theorem lw_p8 : lw_okq (⟨"MatchSeeker$Row", "hasPlace", "(I)Z"⟩, 3) := ⟨⟨by decide +kernel, by decide +kernel⟩, List.mem_of_getElem? (i := 20) (by decide +kernel), List.mem_of_getElem? (i := 348) (by decide +kernel), List.mem_of_getElem? (i := 349) (by decide +kernel)⟩
theorem lw_p9 : lw_okq (⟨"MatchSeeker$Finder", "readData", "()V"⟩, 15) := ⟨⟨by decide +kernel, by decide +kernel⟩, List.mem_of_getElem? (i := 95) (by decide +kernel), List.mem_of_getElem? (i := 352) (by decide +kernel), List.mem_of_getElem? (i := 353) (by decide +kernel)⟩
theorem lw_p10 : lw_okq (⟨"MatchSeeker$Finder", "enlarge", "(I)V"⟩, 15) := ⟨⟨by decide +kernel, by decide +kernel⟩, List.mem_of_getElem? (i := 95) (by decide +kernel), List.mem_of_getElem? (i := 357) (by decide +kernel), List.mem_of_getElem? (i := 358) (by decide +kernel)⟩
theorem lw_p11 : lw_okq (⟨"MatchSeeker$Finder", "slotOf", "(I)I"⟩, 15) := ⟨⟨by decide +kernel, by decide +kernel⟩, List.mem_of_getElem? (i := 95) (by decide +kernel), List.mem_of_getElem? (i := 361) (by decide +kernel), List.mem_of_getElem? (i := 362) (by decide +kernel)⟩
theorem lw_p12 : lw_okq (⟨"MatchSeeker$Finder", "seek", "(II)V"⟩, 15) := ⟨⟨by decide +kernel, by decide +kernel⟩, List.mem_of_getElem? (i := 95) (by decide +kernel), List.mem_of_getElem? (i := 366) (by decide +kernel), List.mem_of_getElem? (i := 367) (by decide +kernel)⟩
theorem lw_p13 : lw_okq (⟨"MatchSeeker$Finder", "seekNearest", "(I)V"⟩, 15) := ⟨⟨by decide +kernel, by decide +kernel⟩, List.mem_of_getElem? (i := 95) (by decide +kernel), List.mem_of_getElem? (i := 370) (by decide +kernel), List.mem_of_getElem? (i := 371) (by decide +kernel)⟩
theorem lw_p14 : lw_okq (⟨"MatchSeeker$Finder", "startAt", "(II)V"⟩, 15) := ⟨⟨by decide +kernel, by decide +kernel⟩, List.mem_of_getElem? (i := 95) (by decide +kernel), List.mem_of_getElem? (i := 374) (by decide +kernel), List.mem_of_getElem? (i := 375) (by decide +kernel)⟩
theorem lw_p15 : lw_okq (⟨"MatchSeeker$Rule", "endOf", "(I)I"⟩, 8) := ⟨⟨by decide +kernel, by decide +kernel⟩, List.mem_of_getElem? (i := 46) (by decide +kernel), List.mem_of_getElem? (i := 381) (by decide +kernel), List.mem_of_getElem? (i := 382) (by decide +kernel)⟩
def lw_privs_1 : List (MethodName × Nat) := [(⟨"MatchSeeker$Row", "empty", "()V"⟩, 3), (⟨"MatchSeeker$Finder", "forgetData", "()V"⟩, 15), (⟨"MatchSeeker$Finder", "unlink", "()V"⟩, 15), (⟨"MatchSeeker$Found", "forget", "()V"⟩, 14), (⟨"MatchSeeker$Row", "takes", "(J)Z"⟩, 3), (⟨"MatchSeeker$Row", "append", "(JI)V"⟩, 3), (⟨"MatchSeeker$Row", "makeRoom", "(I)V"⟩, 3), (⟨"MatchSeeker$Row", "repeat", "(II)V"⟩, 3), (⟨"MatchSeeker$Row", "hasPlace", "(I)Z"⟩, 3), (⟨"MatchSeeker$Finder", "readData", "()V"⟩, 15), (⟨"MatchSeeker$Finder", "enlarge", "(I)V"⟩, 15), (⟨"MatchSeeker$Finder", "slotOf", "(I)I"⟩, 15), (⟨"MatchSeeker$Finder", "seek", "(II)V"⟩, 15), (⟨"MatchSeeker$Finder", "seekNearest", "(I)V"⟩, 15), (⟨"MatchSeeker$Finder", "startAt", "(II)V"⟩, 15), (⟨"MatchSeeker$Rule", "endOf", "(I)I"⟩, 8)]
theorem lw_r1 : ∀ q ∈ lw_privs_1, lw_okq q := List.forall_mem_cons.mpr ⟨lw_p0, List.forall_mem_cons.mpr ⟨lw_p1, List.forall_mem_cons.mpr ⟨lw_p2, List.forall_mem_cons.mpr ⟨lw_p3, List.forall_mem_cons.mpr ⟨lw_p4, List.forall_mem_cons.mpr ⟨lw_p5, List.forall_mem_cons.mpr ⟨lw_p6, List.forall_mem_cons.mpr ⟨lw_p7, List.forall_mem_cons.mpr ⟨lw_p8, List.forall_mem_cons.mpr ⟨lw_p9, List.forall_mem_cons.mpr ⟨lw_p10, List.forall_mem_cons.mpr ⟨lw_p11, List.forall_mem_cons.mpr ⟨lw_p12, List.forall_mem_cons.mpr ⟨lw_p13, List.forall_mem_cons.mpr ⟨lw_p14, List.forall_mem_cons.mpr ⟨lw_p15, fun _ h => absurd h List.not_mem_nil⟩⟩⟩⟩⟩⟩⟩⟩⟩⟩⟩⟩⟩⟩⟩⟩
theorem lw_p16 : lw_okq (⟨"MatchSeeker$Rule", "lastOf", "(I)I"⟩, 8) := ⟨⟨by decide +kernel, by decide +kernel⟩, List.mem_of_getElem? (i := 46) (by decide +kernel), List.mem_of_getElem? (i := 387) (by decide +kernel), List.mem_of_getElem? (i := 388) (by decide +kernel)⟩
theorem lw_p17 : lw_okq (⟨"MatchSeeker$Finder", "findLonger", "()Z"⟩, 15) := ⟨⟨by decide +kernel, by decide +kernel⟩, List.mem_of_getElem? (i := 95) (by decide +kernel), List.mem_of_getElem? (i := 391) (by decide +kernel), List.mem_of_getElem? (i := 392) (by decide +kernel)⟩
theorem lw_p18 : lw_okq (⟨"MatchSeeker$Finder", "sameBytes", "(III)I"⟩, 15) := ⟨⟨by decide +kernel, by decide +kernel⟩, List.mem_of_getElem? (i := 95) (by decide +kernel), List.mem_of_getElem? (i := 395) (by decide +kernel), List.mem_of_getElem? (i := 396) (by decide +kernel)⟩
theorem lw_p19 : lw_okq (⟨"MatchSeeker$Finder", "seekLongestIfNotNext", "(I)V"⟩, 15) := ⟨⟨by decide +kernel, by decide +kernel⟩, List.mem_of_getElem? (i := 95) (by decide +kernel), List.mem_of_getElem? (i := 399) (by decide +kernel), List.mem_of_getElem? (i := 400) (by decide +kernel)⟩
theorem lw_p20 : lw_okq (⟨"MatchSeeker$Finder", "seekLongest", "(I)V"⟩, 15) := ⟨⟨by decide +kernel, by decide +kernel⟩, List.mem_of_getElem? (i := 95) (by decide +kernel), List.mem_of_getElem? (i := 403) (by decide +kernel), List.mem_of_getElem? (i := 404) (by decide +kernel)⟩
theorem lw_p21 : lw_okq (⟨"MatchSeeker$Finder", "matchesAt", "(I)I"⟩, 15) := ⟨⟨by decide +kernel, by decide +kernel⟩, List.mem_of_getElem? (i := 95) (by decide +kernel), List.mem_of_getElem? (i := 411) (by decide +kernel), List.mem_of_getElem? (i := 412) (by decide +kernel)⟩
theorem lw_p22 : lw_okq (⟨"MatchSeeker$Found", "begin", "()V"⟩, 14) := ⟨⟨by decide +kernel, by decide +kernel⟩, List.mem_of_getElem? (i := 185) (by decide +kernel), List.mem_of_getElem? (i := 419) (by decide +kernel), List.mem_of_getElem? (i := 420) (by decide +kernel)⟩
theorem lw_p23 : lw_okq (⟨"MatchSeeker", "followPlan", "()V"⟩, 5) := ⟨⟨by decide +kernel, by decide +kernel⟩, List.mem_of_getElem? (i := 12) (by decide +kernel), List.mem_of_getElem? (i := 425) (by decide +kernel), List.mem_of_getElem? (i := 426) (by decide +kernel)⟩
theorem lw_p24 : lw_okq (⟨"MatchSeeker$Plan", "make", "()V"⟩, 8) := ⟨⟨by decide +kernel, by decide +kernel⟩, List.mem_of_getElem? (i := 152) (by decide +kernel), List.mem_of_getElem? (i := 429) (by decide +kernel), List.mem_of_getElem? (i := 430) (by decide +kernel)⟩
theorem lw_p25 : lw_okq (⟨"MatchSeeker$Plan", "makeRoom", "(I)V"⟩, 8) := ⟨⟨by decide +kernel, by decide +kernel⟩, List.mem_of_getElem? (i := 152) (by decide +kernel), List.mem_of_getElem? (i := 433) (by decide +kernel), List.mem_of_getElem? (i := 434) (by decide +kernel)⟩
theorem lw_p26 : lw_okq (⟨"MatchSeeker$Plan", "addEnd", "(I)V"⟩, 8) := ⟨⟨by decide +kernel, by decide +kernel⟩, List.mem_of_getElem? (i := 152) (by decide +kernel), List.mem_of_getElem? (i := 441) (by decide +kernel), List.mem_of_getElem? (i := 442) (by decide +kernel)⟩
theorem lw_p27 : lw_okq (⟨"MatchSeeker$Plan", "takeLiteral", "(I)V"⟩, 8) := ⟨⟨by decide +kernel, by decide +kernel⟩, List.mem_of_getElem? (i := 152) (by decide +kernel), List.mem_of_getElem? (i := 445) (by decide +kernel), List.mem_of_getElem? (i := 446) (by decide +kernel)⟩
theorem lw_p28 : lw_okq (⟨"MatchSeeker$Plan", "takeBestMatch", "(II)V"⟩, 8) := ⟨⟨by decide +kernel, by decide +kernel⟩, List.mem_of_getElem? (i := 152) (by decide +kernel), List.mem_of_getElem? (i := 449) (by decide +kernel), List.mem_of_getElem? (i := 450) (by decide +kernel)⟩
theorem lw_p29 : lw_okq (⟨"MatchSeeker$Finder", "expectAtMost", "(I)V"⟩, 15) := ⟨⟨by decide +kernel, by decide +kernel⟩, List.mem_of_getElem? (i := 95) (by decide +kernel), List.mem_of_getElem? (i := 455) (by decide +kernel), List.mem_of_getElem? (i := 456) (by decide +kernel)⟩
theorem lw_p30 : lw_okq (⟨"MatchSeeker$Plan", "consider", "(III)V"⟩, 8) := ⟨⟨by decide +kernel, by decide +kernel⟩, List.mem_of_getElem? (i := 152) (by decide +kernel), List.mem_of_getElem? (i := 460) (by decide +kernel), List.mem_of_getElem? (i := 461) (by decide +kernel)⟩
theorem lw_p31 : lw_okq (⟨"MatchSeeker$Plan", "cheapestEnd", "(I)I"⟩, 8) := ⟨⟨by decide +kernel, by decide +kernel⟩, List.mem_of_getElem? (i := 152) (by decide +kernel), List.mem_of_getElem? (i := 464) (by decide +kernel), List.mem_of_getElem? (i := 465) (by decide +kernel)⟩
def lw_privs_2 : List (MethodName × Nat) := [(⟨"MatchSeeker$Rule", "lastOf", "(I)I"⟩, 8), (⟨"MatchSeeker$Finder", "findLonger", "()Z"⟩, 15), (⟨"MatchSeeker$Finder", "sameBytes", "(III)I"⟩, 15), (⟨"MatchSeeker$Finder", "seekLongestIfNotNext", "(I)V"⟩, 15), (⟨"MatchSeeker$Finder", "seekLongest", "(I)V"⟩, 15), (⟨"MatchSeeker$Finder", "matchesAt", "(I)I"⟩, 15), (⟨"MatchSeeker$Found", "begin", "()V"⟩, 14), (⟨"MatchSeeker", "followPlan", "()V"⟩, 5), (⟨"MatchSeeker$Plan", "make", "()V"⟩, 8), (⟨"MatchSeeker$Plan", "makeRoom", "(I)V"⟩, 8), (⟨"MatchSeeker$Plan", "addEnd", "(I)V"⟩, 8), (⟨"MatchSeeker$Plan", "takeLiteral", "(I)V"⟩, 8), (⟨"MatchSeeker$Plan", "takeBestMatch", "(II)V"⟩, 8), (⟨"MatchSeeker$Finder", "expectAtMost", "(I)V"⟩, 15), (⟨"MatchSeeker$Plan", "consider", "(III)V"⟩, 8), (⟨"MatchSeeker$Plan", "cheapestEnd", "(I)I"⟩, 8)]
theorem lw_r2 : ∀ q ∈ lw_privs_2, lw_okq q := List.forall_mem_cons.mpr ⟨lw_p16, List.forall_mem_cons.mpr ⟨lw_p17, List.forall_mem_cons.mpr ⟨lw_p18, List.forall_mem_cons.mpr ⟨lw_p19, List.forall_mem_cons.mpr ⟨lw_p20, List.forall_mem_cons.mpr ⟨lw_p21, List.forall_mem_cons.mpr ⟨lw_p22, List.forall_mem_cons.mpr ⟨lw_p23, List.forall_mem_cons.mpr ⟨lw_p24, List.forall_mem_cons.mpr ⟨lw_p25, List.forall_mem_cons.mpr ⟨lw_p26, List.forall_mem_cons.mpr ⟨lw_p27, List.forall_mem_cons.mpr ⟨lw_p28, List.forall_mem_cons.mpr ⟨lw_p29, List.forall_mem_cons.mpr ⟨lw_p30, List.forall_mem_cons.mpr ⟨lw_p31, fun _ h => absurd h List.not_mem_nil⟩⟩⟩⟩⟩⟩⟩⟩⟩⟩⟩⟩⟩⟩⟩⟩
theorem lw_p32 : lw_okq (⟨"MatchSeeker$Found", "add", "(II)V"⟩, 14) := ⟨⟨by decide +kernel, by decide +kernel⟩, List.mem_of_getElem? (i := 185) (by decide +kernel), List.mem_of_getElem? (i := 471) (by decide +kernel), List.mem_of_getElem? (i := 472) (by decide +kernel)⟩
theorem lw_p33 : lw_okq (⟨"MatchSeeker", "takeWhatIsSought", "()V"⟩, 5) := ⟨⟨by decide +kernel, by decide +kernel⟩, List.mem_of_getElem? (i := 12) (by decide +kernel), List.mem_of_getElem? (i := 478) (by decide +kernel), List.mem_of_getElem? (i := 479) (by decide +kernel)⟩
theorem lw_p34 : lw_okq (⟨"MatchSeeker$Found", "differences", "()I"⟩, 14) := ⟨⟨by decide +kernel, by decide +kernel⟩, List.mem_of_getElem? (i := 185) (by decide +kernel), List.mem_of_getElem? (i := 494) (by decide +kernel), List.mem_of_getElem? (i := 495) (by decide +kernel)⟩
theorem lw_p35 : lw_okq (⟨"MatchSeeker$Found", "rebuild", "()V"⟩, 14) := ⟨⟨by decide +kernel, by decide +kernel⟩, List.mem_of_getElem? (i := 185) (by decide +kernel), List.mem_of_getElem? (i := 498) (by decide +kernel), List.mem_of_getElem? (i := 499) (by decide +kernel)⟩
theorem lw_p36 : lw_okq (⟨"MatchSeeker$Found", "copyFromData", "(II)I"⟩, 14) := ⟨⟨by decide +kernel, by decide +kernel⟩, List.mem_of_getElem? (i := 185) (by decide +kernel), List.mem_of_getElem? (i := 502) (by decide +kernel), List.mem_of_getElem? (i := 503) (by decide +kernel)⟩
theorem lw_p37 : lw_okq (⟨"MatchSeeker$Found", "copyFromRebuilt", "(III)I"⟩, 14) := ⟨⟨by decide +kernel, by decide +kernel⟩, List.mem_of_getElem? (i := 185) (by decide +kernel), List.mem_of_getElem? (i := 507) (by decide +kernel), List.mem_of_getElem? (i := 508) (by decide +kernel)⟩
theorem lw_p38 : lw_okq (⟨"MatchSeekerModel", "chosen", "(II)Z"⟩, 26) := ⟨⟨by decide +kernel, by decide +kernel⟩, List.mem_of_getElem? (i := 515) (by decide +kernel), List.mem_of_getElem? (i := 634) (by decide +kernel), List.mem_of_getElem? (i := 635) (by decide +kernel)⟩
theorem lw_p39 : lw_okq (⟨"MatchSeekerModel", "nearest", "(II)Z"⟩, 26) := ⟨⟨by decide +kernel, by decide +kernel⟩, List.mem_of_getElem? (i := 515) (by decide +kernel), List.mem_of_getElem? (i := 638) (by decide +kernel), List.mem_of_getElem? (i := 639) (by decide +kernel)⟩
theorem lw_p40 : lw_okq (⟨"MatchSeekerModel", "room", "(I)I"⟩, 26) := ⟨⟨by decide +kernel, by decide +kernel⟩, List.mem_of_getElem? (i := 515) (by decide +kernel), List.mem_of_getElem? (i := 642) (by decide +kernel), List.mem_of_getElem? (i := 643) (by decide +kernel)⟩
theorem lw_p41 : lw_okq (⟨"MatchSeekerModel", "end", "()I"⟩, 26) := ⟨⟨by decide +kernel, by decide +kernel⟩, List.mem_of_getElem? (i := 515) (by decide +kernel), List.mem_of_getElem? (i := 646) (by decide +kernel), List.mem_of_getElem? (i := 647) (by decide +kernel)⟩
theorem lw_p42 : lw_okq (⟨"MatchSeekerModel", "last", "()I"⟩, 26) := ⟨⟨by decide +kernel, by decide +kernel⟩, List.mem_of_getElem? (i := 515) (by decide +kernel), List.mem_of_getElem? (i := 650) (by decide +kernel), List.mem_of_getElem? (i := 651) (by decide +kernel)⟩
theorem lw_p43 : lw_okq (⟨"MatchSeekerModel", "lowest", "(I)I"⟩, 26) := ⟨⟨by decide +kernel, by decide +kernel⟩, List.mem_of_getElem? (i := 515) (by decide +kernel), List.mem_of_getElem? (i := 654) (by decide +kernel), List.mem_of_getElem? (i := 655) (by decide +kernel)⟩
theorem lw_p44 : lw_okq (⟨"MatchSeekerModel", "alike", "(III)I"⟩, 26) := ⟨⟨by decide +kernel, by decide +kernel⟩, List.mem_of_getElem? (i := 515) (by decide +kernel), List.mem_of_getElem? (i := 658) (by decide +kernel), List.mem_of_getElem? (i := 659) (by decide +kernel)⟩
theorem lw_p45 : lw_okq (⟨"MatchSeekerModel", "longest", "(I)Z"⟩, 26) := ⟨⟨by decide +kernel, by decide +kernel⟩, List.mem_of_getElem? (i := 515) (by decide +kernel), List.mem_of_getElem? (i := 662) (by decide +kernel), List.mem_of_getElem? (i := 663) (by decide +kernel)⟩
theorem lw_p46 : lw_okq (⟨"MatchSeekerModel", "reckon", "()V"⟩, 26) := ⟨⟨by decide +kernel, by decide +kernel⟩, List.mem_of_getElem? (i := 515) (by decide +kernel), List.mem_of_getElem? (i := 674) (by decide +kernel), List.mem_of_getElem? (i := 675) (by decide +kernel)⟩
theorem lw_p47 : lw_okq (⟨"MatchSeekerModel", "better", "(III)V"⟩, 26) := ⟨⟨by decide +kernel, by decide +kernel⟩, List.mem_of_getElem? (i := 515) (by decide +kernel), List.mem_of_getElem? (i := 678) (by decide +kernel), List.mem_of_getElem? (i := 679) (by decide +kernel)⟩
def lw_privs_3 : List (MethodName × Nat) := [(⟨"MatchSeeker$Found", "add", "(II)V"⟩, 14), (⟨"MatchSeeker", "takeWhatIsSought", "()V"⟩, 5), (⟨"MatchSeeker$Found", "differences", "()I"⟩, 14), (⟨"MatchSeeker$Found", "rebuild", "()V"⟩, 14), (⟨"MatchSeeker$Found", "copyFromData", "(II)I"⟩, 14), (⟨"MatchSeeker$Found", "copyFromRebuilt", "(III)I"⟩, 14), (⟨"MatchSeekerModel", "chosen", "(II)Z"⟩, 26), (⟨"MatchSeekerModel", "nearest", "(II)Z"⟩, 26), (⟨"MatchSeekerModel", "room", "(I)I"⟩, 26), (⟨"MatchSeekerModel", "end", "()I"⟩, 26), (⟨"MatchSeekerModel", "last", "()I"⟩, 26), (⟨"MatchSeekerModel", "lowest", "(I)I"⟩, 26), (⟨"MatchSeekerModel", "alike", "(III)I"⟩, 26), (⟨"MatchSeekerModel", "longest", "(I)Z"⟩, 26), (⟨"MatchSeekerModel", "reckon", "()V"⟩, 26), (⟨"MatchSeekerModel", "better", "(III)V"⟩, 26)]
theorem lw_r3 : ∀ q ∈ lw_privs_3, lw_okq q := List.forall_mem_cons.mpr ⟨lw_p32, List.forall_mem_cons.mpr ⟨lw_p33, List.forall_mem_cons.mpr ⟨lw_p34, List.forall_mem_cons.mpr ⟨lw_p35, List.forall_mem_cons.mpr ⟨lw_p36, List.forall_mem_cons.mpr ⟨lw_p37, List.forall_mem_cons.mpr ⟨lw_p38, List.forall_mem_cons.mpr ⟨lw_p39, List.forall_mem_cons.mpr ⟨lw_p40, List.forall_mem_cons.mpr ⟨lw_p41, List.forall_mem_cons.mpr ⟨lw_p42, List.forall_mem_cons.mpr ⟨lw_p43, List.forall_mem_cons.mpr ⟨lw_p44, List.forall_mem_cons.mpr ⟨lw_p45, List.forall_mem_cons.mpr ⟨lw_p46, List.forall_mem_cons.mpr ⟨lw_p47, fun _ h => absurd h List.not_mem_nil⟩⟩⟩⟩⟩⟩⟩⟩⟩⟩⟩⟩⟩⟩⟩⟩
theorem lw_p48 : lw_okq (⟨"MatchSeekerModel", "reckoned", "(I)Z"⟩, 26) := ⟨⟨by decide +kernel, by decide +kernel⟩, List.mem_of_getElem? (i := 515) (by decide +kernel), List.mem_of_getElem? (i := 685) (by decide +kernel), List.mem_of_getElem? (i := 686) (by decide +kernel)⟩
theorem lw_p49 : lw_okq (⟨"MatchSeekerModel", "match", "()V"⟩, 26) := ⟨⟨by decide +kernel, by decide +kernel⟩, List.mem_of_getElem? (i := 515) (by decide +kernel), List.mem_of_getElem? (i := 689) (by decide +kernel), List.mem_of_getElem? (i := 690) (by decide +kernel)⟩
theorem lw_p50 : lw_okq (⟨"MatchSeekerModel", "literal", "()V"⟩, 26) := ⟨⟨by decide +kernel, by decide +kernel⟩, List.mem_of_getElem? (i := 515) (by decide +kernel), List.mem_of_getElem? (i := 693) (by decide +kernel), List.mem_of_getElem? (i := 694) (by decide +kernel)⟩
def lw_privs_4 : List (MethodName × Nat) := [(⟨"MatchSeekerModel", "reckoned", "(I)Z"⟩, 26), (⟨"MatchSeekerModel", "match", "()V"⟩, 26), (⟨"MatchSeekerModel", "literal", "()V"⟩, 26)]
theorem lw_r4 : ∀ q ∈ lw_privs_4, lw_okq q := List.forall_mem_cons.mpr ⟨lw_p48, List.forall_mem_cons.mpr ⟨lw_p49, List.forall_mem_cons.mpr ⟨lw_p50, fun _ h => absurd h List.not_mem_nil⟩⟩⟩
def lw_privs : List (MethodName × Nat) := lw_privs_1 ++ (lw_privs_2 ++ (lw_privs_3 ++ (lw_privs_4)))
def lw_tbl : List Cond := k2_sels lw_privs ++ tables_1
theorem lw_privs_ok : ∀ q ∈ lw_privs, lw_okq q := by
  show ∀ q ∈ lw_privs_1 ++ (lw_privs_2 ++ (lw_privs_3 ++ (lw_privs_4))), lw_okq q
  exact List.forall_mem_append.mpr ⟨lw_r1, List.forall_mem_append.mpr ⟨lw_r2, List.forall_mem_append.mpr ⟨lw_r3, lw_r4⟩⟩⟩
end
section
theorem zmem {i : Nat} {w : Cond} {l : List Cond} (h : l[i]? = some w) : w ∈ l := List.mem_of_getElem? h
/-- the good words of the tables, with the private methods' selections: every method's words -/
def zALL : List Cond := lw_tbl.filter goodWord
theorem zall {w : Cond} (h : w ∈ tables_1) (g : goodWord w = true) : w ∈ zALL := List.mem_filter.mpr ⟨List.mem_append_right _ h, g⟩
theorem zalls {w : Cond} (h : w ∈ k2_sels lw_privs) (g : goodWord w = true) : w ∈ zALL := List.mem_filter.mpr ⟨List.mem_append_left _ h, g⟩
theorem zALL_tbl : ∀ w ∈ zALL, w ∈ lw_tbl := fun _ h => (List.mem_filter.mp h).1
theorem zALL_good : ∀ w ∈ zALL, ((w.onTables && w.keeps) = true ∨ ∃ ty, w = .arrayClass ty) := fun _ h => good_of_word ((List.mem_filter.mp h).2)
theorem zg {c : Cond} (h : c ∈ zALL) : GoodIn zALL (c :: zALL) := fun w hw => by
  rcases List.mem_cons.mp hw with e | e
  · rw [e]; exact ⟨h, zALL_good c h⟩
  · exact ⟨e, zALL_good w e⟩
def zIsN (w : Cond) : Bool := match w with
  | .fieldLinkNest _ _ _ _ _ _ => true
  | .methodLinkNest _ _ _ _ => true
  | _ => false
def nwL : List Cond := tables_1.filter zIsN
theorem znw {w : Cond} (h : w ∈ tables_1) (g : zIsN w = true) : w ∈ nwL := List.mem_filter.mpr ⟨h, g⟩
theorem nwL_tbl : ∀ w ∈ nwL, w ∈ lw_tbl := fun _ h => List.mem_append_right _ ((List.mem_filter.mp h).1)
theorem nwL_is : ∀ w ∈ nwL, zIsN w = true := fun _ h => (List.mem_filter.mp h).2
theorem zt1 {w : Cond} (h : w ∈ tables_1_1) : w ∈ tables_1 := List.mem_append_left _ h
theorem zt2 {w : Cond} (h : w ∈ tables_1_2) : w ∈ tables_1 := List.mem_append_right _ (List.mem_append_left _ h)
theorem zt3 {w : Cond} (h : w ∈ tables_1_3) : w ∈ tables_1 := List.mem_append_right _ (List.mem_append_right _ h)
def RX0 : String := "MatchSeeker$Finder"
def TX0 : u_T := fun k => match k with
  | 0 => ("MatchSeeker$Finder", "row", "LMatchSeeker$Row;", true)
  | 1 => ("MatchSeeker$Finder", "law", "LMatchSeeker$Rule;", true)
  | 2 => ("MatchSeeker$Finder", "latestInSlot", "[I", false)
  | 3 => ("MatchSeeker$Finder", "linkedBefore", "[I", false)
  | 4 => ("MatchSeeker$Finder", "linked", "I", false)
  | 5 => ("MatchSeeker$Finder", "linkedLeast", "I", false)
  | 6 => ("MatchSeeker$Finder", "sameFrom", "[I", false)
  | 7 => ("MatchSeeker$Finder", "sameTo", "[I", false)
  | 8 => ("MatchSeeker$Finder", "place", "I", false)
  | 9 => ("MatchSeeker$Finder", "candidate", "I", false)
  | 10 => ("MatchSeeker$Finder", "lowest", "I", false)
  | 11 => ("MatchSeeker$Finder", "limit", "I", false)
  | 12 => ("MatchSeeker$Finder", "toBeat", "I", false)
  | 13 => ("MatchSeeker$Finder", "length", "I", false)
  | _ => ("MatchSeeker$Finder", "distance", "I", false)
def tyX0 : Nat → FieldType := fun k => match k with
  | 0 => .object "MatchSeeker$Row"
  | 1 => .object "MatchSeeker$Rule"
  | 2 => .array .int
  | 3 => .array .int
  | 4 => .int
  | 5 => .int
  | 6 => .array .int
  | 7 => .array .int
  | 8 => .int
  | 9 => .int
  | 10 => .int
  | 11 => .int
  | 12 => .int
  | 13 => .int
  | _ => .int
abbrev wsX00 : List Cond := u_ws RX0 TX0 15
theorem nmX0 : ∀ a, a < 15 → ∀ b, b < 15 → a ≠ b → (TX0 a).2.1 ≠ (TX0 b).2.1 := by decide +kernel
theorem tyX0_ok : ∀ k, k < 15 → parseFieldDescriptor (TX0 k).2.2.1 = some (tyX0 k) := by decide +kernel
set_option maxRecDepth 100000 in
theorem iwX0 : ∀ w ∈ wsX00, w ∈ zALL := by decide +kernel
def RX1 : String := "MatchSeeker$Found"
def TX1 : u_T := fun k => match k with
  | 0 => ("MatchSeeker$Found", "row", "LMatchSeeker$Row;", true)
  | 1 => ("MatchSeeker$Found", "law", "LMatchSeeker$Rule;", true)
  | 2 => ("MatchSeeker$Found", "literalsBefore", "[I", false)
  | 3 => ("MatchSeeker$Found", "lengths", "[I", false)
  | 4 => ("MatchSeeker$Found", "distances", "[I", false)
  | 5 => ("MatchSeeker$Found", "stretches", "I", false)
  | 6 => ("MatchSeeker$Found", "tail", "I", false)
  | 7 => ("MatchSeeker$Found", "literals", "I", false)
  | 8 => ("MatchSeeker$Found", "cost", "I", false)
  | 9 => ("MatchSeeker$Found", "greatestLength", "I", false)
  | 10 => ("MatchSeeker$Found", "greatestDistance", "I", false)
  | 11 => ("MatchSeeker$Found", "bytesThen", "I", false)
  | 12 => ("MatchSeeker$Found", "pastThen", "I", false)
  | _ => ("MatchSeeker$Found", "rebuilt", "[B", false)
def tyX1 : Nat → FieldType := fun k => match k with
  | 0 => .object "MatchSeeker$Row"
  | 1 => .object "MatchSeeker$Rule"
  | 2 => .array .int
  | 3 => .array .int
  | 4 => .array .int
  | 5 => .int
  | 6 => .int
  | 7 => .int
  | 8 => .int
  | 9 => .int
  | 10 => .int
  | 11 => .int
  | 12 => .int
  | _ => .array .byte
abbrev wsX10 : List Cond := u_ws RX1 TX1 14
theorem nmX1 : ∀ a, a < 14 → ∀ b, b < 14 → a ≠ b → (TX1 a).2.1 ≠ (TX1 b).2.1 := by decide +kernel
theorem tyX1_ok : ∀ k, k < 14 → parseFieldDescriptor (TX1 k).2.2.1 = some (tyX1 k) := by decide +kernel
set_option maxRecDepth 100000 in
theorem iwX1 : ∀ w ∈ wsX10, w ∈ zALL := by decide +kernel
def RX2 : String := "MatchSeeker$Plan"
def TX2 : u_T := fun k => match k with
  | 0 => ("MatchSeeker$Plan", "row", "LMatchSeeker$Row;", true)
  | 1 => ("MatchSeeker$Plan", "law", "LMatchSeeker$Rule;", true)
  | 2 => ("MatchSeeker$Plan", "finder", "LMatchSeeker$Finder;", true)
  | 3 => ("MatchSeeker$Plan", "cost", "[I", false)
  | 4 => ("MatchSeeker$Plan", "length", "[I", false)
  | 5 => ("MatchSeeker$Plan", "distance", "[I", false)
  | 6 => ("MatchSeeker$Plan", "ends", "[I", false)
  | _ => ("MatchSeeker$Plan", "endCount", "I", false)
def tyX2 : Nat → FieldType := fun k => match k with
  | 0 => .object "MatchSeeker$Row"
  | 1 => .object "MatchSeeker$Rule"
  | 2 => .object "MatchSeeker$Finder"
  | 3 => .array .int
  | 4 => .array .int
  | 5 => .array .int
  | 6 => .array .int
  | _ => .int
abbrev wsX20 : List Cond := u_ws RX2 TX2 8
theorem nmX2 : ∀ a, a < 8 → ∀ b, b < 8 → a ≠ b → (TX2 a).2.1 ≠ (TX2 b).2.1 := by decide +kernel
theorem tyX2_ok : ∀ k, k < 8 → parseFieldDescriptor (TX2 k).2.2.1 = some (tyX2 k) := by decide +kernel
set_option maxRecDepth 100000 in
theorem iwX2 : ∀ w ∈ wsX20, w ∈ zALL := by decide +kernel
def RX3 : String := "MatchSeeker$Row"
def TX3 : u_T := fun k => match k with
  | 0 => ("MatchSeeker$Row", "bytes", "[B", false)
  | 1 => ("MatchSeeker$Row", "filled", "I", false)
  | _ => ("MatchSeeker$Row", "past", "I", false)
def tyX3 : Nat → FieldType := fun k => match k with
  | 0 => .array .byte
  | 1 => .int
  | _ => .int
abbrev wsX30 : List Cond := u_ws RX3 TX3 3
theorem nmX3 : ∀ a, a < 3 → ∀ b, b < 3 → a ≠ b → (TX3 a).2.1 ≠ (TX3 b).2.1 := by decide +kernel
theorem tyX3_ok : ∀ k, k < 3 → parseFieldDescriptor (TX3 k).2.2.1 = some (tyX3 k) := by decide +kernel
set_option maxRecDepth 100000 in
theorem iwX3 : ∀ w ∈ wsX30, w ∈ zALL := by decide +kernel
def RX4 : String := "MatchSeeker$Rule"
def TX4 : u_T := fun k => match k with
  | 0 => ("MatchSeeker$Rule", "way", "I", false)
  | 1 => ("MatchSeeker$Rule", "window", "I", false)
  | 2 => ("MatchSeeker$Rule", "least", "I", false)
  | 3 => ("MatchSeeker$Rule", "cap", "I", false)
  | 4 => ("MatchSeeker$Rule", "gapBehindLast", "I", false)
  | 5 => ("MatchSeeker$Rule", "gapBehindEnd", "I", false)
  | 6 => ("MatchSeeker$Rule", "literalPrice", "I", false)
  | _ => ("MatchSeeker$Rule", "matchPrice", "I", false)
def tyX4 : Nat → FieldType := fun k => match k with
  | 0 => .int
  | 1 => .int
  | 2 => .int
  | 3 => .int
  | 4 => .int
  | 5 => .int
  | 6 => .int
  | _ => .int
abbrev wsX40 : List Cond := u_ws RX4 TX4 8
theorem nmX4 : ∀ a, a < 8 → ∀ b, b < 8 → a ≠ b → (TX4 a).2.1 ≠ (TX4 b).2.1 := by decide +kernel
theorem tyX4_ok : ∀ k, k < 8 → parseFieldDescriptor (TX4 k).2.2.1 = some (tyX4 k) := by decide +kernel
set_option maxRecDepth 100000 in
theorem iwX4 : ∀ w ∈ wsX40, w ∈ zALL := by decide +kernel
def RX5 : String := "MatchSeeker"
def TX5 : u_T := fun k => match k with
  | 0 => ("MatchSeeker", "row", "LMatchSeeker$Row;", true)
  | 1 => ("MatchSeeker", "law", "LMatchSeeker$Rule;", true)
  | 2 => ("MatchSeeker", "finder", "LMatchSeeker$Finder;", true)
  | 3 => ("MatchSeeker", "plan", "LMatchSeeker$Plan;", true)
  | _ => ("MatchSeeker", "found", "LMatchSeeker$Found;", true)
def tyX5 : Nat → FieldType := fun k => match k with
  | 0 => .object "MatchSeeker$Row"
  | 1 => .object "MatchSeeker$Rule"
  | 2 => .object "MatchSeeker$Finder"
  | 3 => .object "MatchSeeker$Plan"
  | _ => .object "MatchSeeker$Found"
abbrev wsX50 : List Cond := u_ws RX5 TX5 5
theorem nmX5 : ∀ a, a < 5 → ∀ b, b < 5 → a ≠ b → (TX5 a).2.1 ≠ (TX5 b).2.1 := by decide +kernel
theorem tyX5_ok : ∀ k, k < 5 → parseFieldDescriptor (TX5 k).2.2.1 = some (tyX5 k) := by decide +kernel
set_option maxRecDepth 100000 in
theorem iwX5 : ∀ w ∈ wsX50, w ∈ zALL := by decide +kernel
def RX6 : String := "MatchSeekerModel"
def TX6 : u_T := fun k => match k with
  | 0 => ("MatchSeekerModel", "data", "[B", true)
  | 1 => ("MatchSeekerModel", "n", "I", false)
  | 2 => ("MatchSeekerModel", "h", "I", false)
  | 3 => ("MatchSeekerModel", "way", "I", false)
  | 4 => ("MatchSeekerModel", "window", "I", false)
  | 5 => ("MatchSeekerModel", "least", "I", false)
  | 6 => ("MatchSeekerModel", "cap", "I", false)
  | 7 => ("MatchSeekerModel", "a", "I", false)
  | 8 => ("MatchSeekerModel", "b", "I", false)
  | 9 => ("MatchSeekerModel", "literalPrice", "I", false)
  | 10 => ("MatchSeekerModel", "matchPrice", "I", false)
  | 11 => ("MatchSeekerModel", "before", "[I", true)
  | 12 => ("MatchSeekerModel", "length", "[I", true)
  | 13 => ("MatchSeekerModel", "distance", "[I", true)
  | 14 => ("MatchSeekerModel", "found", "I", false)
  | 15 => ("MatchSeekerModel", "tail", "I", false)
  | 16 => ("MatchSeekerModel", "cost", "I", false)
  | 17 => ("MatchSeekerModel", "allLiterals", "I", false)
  | 18 => ("MatchSeekerModel", "had", "I", false)
  | 19 => ("MatchSeekerModel", "hadHistory", "I", false)
  | 20 => ("MatchSeekerModel", "again", "[B", true)
  | 21 => ("MatchSeekerModel", "cheapest", "[I", true)
  | 22 => ("MatchSeekerModel", "firstLength", "[I", true)
  | 23 => ("MatchSeekerModel", "firstDistance", "[I", true)
  | 24 => ("MatchSeekerModel", "gotLength", "I", false)
  | _ => ("MatchSeekerModel", "gotDistance", "I", false)
def tyX6 : Nat → FieldType := fun k => match k with
  | 0 => .array .byte
  | 1 => .int
  | 2 => .int
  | 3 => .int
  | 4 => .int
  | 5 => .int
  | 6 => .int
  | 7 => .int
  | 8 => .int
  | 9 => .int
  | 10 => .int
  | 11 => .array .int
  | 12 => .array .int
  | 13 => .array .int
  | 14 => .int
  | 15 => .int
  | 16 => .int
  | 17 => .int
  | 18 => .int
  | 19 => .int
  | 20 => .array .byte
  | 21 => .array .int
  | 22 => .array .int
  | 23 => .array .int
  | 24 => .int
  | _ => .int
abbrev wsX60 : List Cond := u_ws RX6 TX6 26
theorem nmX6 : ∀ a, a < 26 → ∀ b, b < 26 → a ≠ b → (TX6 a).2.1 ≠ (TX6 b).2.1 := by decide +kernel
theorem tyX6_ok : ∀ k, k < 26 → parseFieldDescriptor (TX6 k).2.2.1 = some (tyX6 k) := by decide +kernel
set_option maxRecDepth 100000 in
theorem iwX6 : ∀ w ∈ wsX60, w ∈ zALL := by decide +kernel
def RJ7 : String := "java/util/Arrays"
def RL : String := "MatchSeekerLaw"
abbrev vwCl : List vw_C := [(RX0, TX0, 15), (RX1, TX1, 14), (RX2, TX2, 8), (RX3, TX3, 3), (RX4, TX4, 8), (RX5, TX5, 5), (RX6, TX6, 26)]
end
section
theorem aw_0 : Cond.initialized "MatchSeekerLaw" ∈ zALL := zall (zt1 (zmem (i := 0) (by decide +kernel))) rfl
theorem aw_1 : Cond.initialized "MatchSeeker" ∈ zALL := zall (zt1 (zmem (i := 1) (by decide +kernel))) rfl
theorem aw_2 : Cond.initialized "MatchSeeker$Row" ∈ zALL := zall (zt1 (zmem (i := 2) (by decide +kernel))) rfl
theorem aw_3 : Cond.initialized "MatchSeeker$Rule" ∈ zALL := zall (zt1 (zmem (i := 3) (by decide +kernel))) rfl
theorem aw_4 : Cond.initialized "MatchSeeker$Finder" ∈ zALL := zall (zt1 (zmem (i := 4) (by decide +kernel))) rfl
theorem aw_5 : Cond.initialized "MatchSeeker$Plan" ∈ zALL := zall (zt1 (zmem (i := 5) (by decide +kernel))) rfl
theorem aw_6 : Cond.initialized "MatchSeeker$Found" ∈ zALL := zall (zt1 (zmem (i := 6) (by decide +kernel))) rfl
theorem aw_7 : Cond.initialized "MatchSeekerModel" ∈ zALL := zall (zt1 (zmem (i := 7) (by decide +kernel))) rfl
theorem aw_8 : Cond.initialized "java/util/Arrays" ∈ zALL := zall (zt1 (zmem (i := 8) (by decide +kernel))) rfl
theorem aw_9 : Cond.initialized "java/lang/Math" ∈ zALL := zall (zt1 (zmem (i := 9) (by decide +kernel))) rfl
theorem aw_10 : Cond.initialized "java/lang/System" ∈ zALL := zall (zt1 (zmem (i := 10) (by decide +kernel))) rfl
theorem aw_11 : Cond.classLink "MatchSeekerLaw" (7 : Nat) "MatchSeeker" ∈ zALL := zall (zt1 (zmem (i := 11) (by decide +kernel))) rfl
theorem aw_12 : Cond.instantiable "MatchSeeker" (5 : Nat) ∈ zALL := zall (zt1 (zmem (i := 12) (by decide +kernel))) rfl
theorem aw_13 : Cond.methodLink "MatchSeekerLaw" (9 : Nat) ({ cls := "MatchSeeker", name := "<init>", desc := "()V" } : Jvm.MethodName) ∈ zALL := zall (zt1 (zmem (i := 13) (by decide +kernel))) rfl
theorem aw_14 : Cond.instanceMethod ({ cls := "MatchSeeker", name := "<init>", desc := "()V" } : Jvm.MethodName) ∈ zALL := zall (zt1 (zmem (i := 14) (by decide +kernel))) rfl
theorem aw_15 : Cond.code ({ cls := "MatchSeeker", name := "<init>", desc := "()V" } : Jvm.MethodName) prog_1_method_1_code (1 : Nat) (Option.none : Option Jvm.ClassFile.FieldType) ∈ zALL := zall (zt1 (zmem (i := 15) (by decide +kernel))) rfl
theorem aw_16 : Cond.methodLink "MatchSeeker" (1 : Nat) ({ cls := "java/lang/Object", name := "<init>", desc := "()V" } : Jvm.MethodName) ∈ zALL := zall (zt1 (zmem (i := 16) (by decide +kernel))) rfl
theorem aw_17 : Cond.instanceMethod ({ cls := "java/lang/Object", name := "<init>", desc := "()V" } : Jvm.MethodName) ∈ zALL := zall (zt1 (zmem (i := 17) (by decide +kernel))) rfl
theorem aw_18 : Cond.code ({ cls := "java/lang/Object", name := "<init>", desc := "()V" } : Jvm.MethodName) object_method_1_code (1 : Nat) (Option.none : Option Jvm.ClassFile.FieldType) ∈ zALL := zall (zt1 (zmem (i := 18) (by decide +kernel))) rfl
theorem aw_19 : Cond.classLink "MatchSeeker" (7 : Nat) "MatchSeeker$Row" ∈ zALL := zall (zt1 (zmem (i := 19) (by decide +kernel))) rfl
theorem aw_20 : Cond.instantiable "MatchSeeker$Row" (3 : Nat) ∈ zALL := zall (zt1 (zmem (i := 20) (by decide +kernel))) rfl
theorem nw_21 : Cond.methodLinkNest "MatchSeeker" (9 : Nat) ({ cls := "MatchSeeker$Row", name := "<init>", desc := "()V" } : Jvm.MethodName) "MatchSeeker" ∈ nwL := znw (zt1 (zmem (i := 21) (by decide +kernel))) rfl
theorem aw_22 : Cond.instanceMethod ({ cls := "MatchSeeker$Row", name := "<init>", desc := "()V" } : Jvm.MethodName) ∈ zALL := zall (zt1 (zmem (i := 22) (by decide +kernel))) rfl
theorem aw_23 : Cond.code ({ cls := "MatchSeeker$Row", name := "<init>", desc := "()V" } : Jvm.MethodName) prog_5_method_1_code (1 : Nat) (Option.none : Option Jvm.ClassFile.FieldType) ∈ zALL := zall (zt1 (zmem (i := 23) (by decide +kernel))) rfl
theorem aw_24 : Cond.methodLink "MatchSeeker$Row" (3 : Nat) ({ cls := "java/lang/Object", name := "<init>", desc := "()V" } : Jvm.MethodName) ∈ zALL := zall (zt1 (zmem (i := 24) (by decide +kernel))) rfl
theorem aw_25 : Cond.fieldLink "MatchSeeker$Row" (9 : Nat) "MatchSeeker$Row" "bytes" "[B" ∈ zALL := zall (zt1 (zmem (i := 25) (by decide +kernel))) rfl
theorem nw_26 : Cond.fieldLinkNest "MatchSeeker$Found" (97 : Nat) "MatchSeeker$Row" "bytes" "[B" "MatchSeeker" ∈ nwL := znw (zt1 (zmem (i := 26) (by decide +kernel))) rfl
theorem nw_27 : Cond.fieldLinkNest "MatchSeeker$Finder" (90 : Nat) "MatchSeeker$Row" "bytes" "[B" "MatchSeeker" ∈ nwL := znw (zt1 (zmem (i := 27) (by decide +kernel))) rfl
theorem aw_28 : Cond.fieldLink "MatchSeeker$Row" (15 : Nat) "MatchSeeker$Row" "filled" "I" ∈ zALL := zall (zt1 (zmem (i := 28) (by decide +kernel))) rfl
theorem nw_29 : Cond.fieldLinkNest "MatchSeeker$Plan" (40 : Nat) "MatchSeeker$Row" "filled" "I" "MatchSeeker" ∈ nwL := znw (zt1 (zmem (i := 29) (by decide +kernel))) rfl
theorem nw_30 : Cond.fieldLinkNest "MatchSeeker$Found" (61 : Nat) "MatchSeeker$Row" "filled" "I" "MatchSeeker" ∈ nwL := znw (zt1 (zmem (i := 30) (by decide +kernel))) rfl
theorem nw_31 : Cond.fieldLinkNest "MatchSeeker" (69 : Nat) "MatchSeeker$Row" "filled" "I" "MatchSeeker" ∈ nwL := znw (zt1 (zmem (i := 31) (by decide +kernel))) rfl
theorem nw_32 : Cond.fieldLinkNest "MatchSeeker$Finder" (74 : Nat) "MatchSeeker$Row" "filled" "I" "MatchSeeker" ∈ nwL := znw (zt1 (zmem (i := 32) (by decide +kernel))) rfl
theorem aw_33 : Cond.fieldLink "MatchSeeker$Row" (19 : Nat) "MatchSeeker$Row" "past" "I" ∈ zALL := zall (zt1 (zmem (i := 33) (by decide +kernel))) rfl
theorem nw_34 : Cond.fieldLinkNest "MatchSeeker$Plan" (45 : Nat) "MatchSeeker$Row" "past" "I" "MatchSeeker" ∈ nwL := znw (zt1 (zmem (i := 34) (by decide +kernel))) rfl
theorem nw_35 : Cond.fieldLinkNest "MatchSeeker$Found" (66 : Nat) "MatchSeeker$Row" "past" "I" "MatchSeeker" ∈ nwL := znw (zt1 (zmem (i := 35) (by decide +kernel))) rfl
theorem nw_36 : Cond.fieldLinkNest "MatchSeeker" (77 : Nat) "MatchSeeker$Row" "past" "I" "MatchSeeker" ∈ nwL := znw (zt1 (zmem (i := 36) (by decide +kernel))) rfl
theorem aw_44 : Cond.arrayClass Jvm.ClassFile.FieldType.byte ∈ zALL := zall (zt1 (zmem (i := 44) (by decide +kernel))) rfl
theorem aw_45 : Cond.classLink "MatchSeeker" (16 : Nat) "MatchSeeker$Rule" ∈ zALL := zall (zt1 (zmem (i := 45) (by decide +kernel))) rfl
theorem aw_46 : Cond.instantiable "MatchSeeker$Rule" (8 : Nat) ∈ zALL := zall (zt1 (zmem (i := 46) (by decide +kernel))) rfl
theorem nw_47 : Cond.methodLinkNest "MatchSeeker" (18 : Nat) ({ cls := "MatchSeeker$Rule", name := "<init>", desc := "()V" } : Jvm.MethodName) "MatchSeeker" ∈ nwL := znw (zt1 (zmem (i := 47) (by decide +kernel))) rfl
theorem aw_48 : Cond.instanceMethod ({ cls := "MatchSeeker$Rule", name := "<init>", desc := "()V" } : Jvm.MethodName) ∈ zALL := zall (zt1 (zmem (i := 48) (by decide +kernel))) rfl
theorem aw_49 : Cond.code ({ cls := "MatchSeeker$Rule", name := "<init>", desc := "()V" } : Jvm.MethodName) prog_6_method_1_code (1 : Nat) (Option.none : Option Jvm.ClassFile.FieldType) ∈ zALL := zall (zt1 (zmem (i := 49) (by decide +kernel))) rfl
theorem aw_50 : Cond.methodLink "MatchSeeker$Rule" (3 : Nat) ({ cls := "java/lang/Object", name := "<init>", desc := "()V" } : Jvm.MethodName) ∈ zALL := zall (zt1 (zmem (i := 50) (by decide +kernel))) rfl
theorem aw_51 : Cond.constant "MatchSeeker$Rule" (15 : Nat) (65536 : Int32) ∈ zALL := zall (zt1 (zmem (i := 51) (by decide +kernel))) rfl
theorem aw_52 : Cond.constant "MatchSeeker$Rule" (22 : Nat) (131072 : Int32) ∈ zALL := zall (zt1 (zmem (i := 52) (by decide +kernel))) rfl
theorem aw_53 : Cond.fieldLink "MatchSeeker$Rule" (9 : Nat) "MatchSeeker$Rule" "way" "I" ∈ zALL := zall (zt1 (zmem (i := 53) (by decide +kernel))) rfl
theorem nw_54 : Cond.fieldLinkNest "MatchSeeker" (82 : Nat) "MatchSeeker$Rule" "way" "I" "MatchSeeker" ∈ nwL := znw (zt1 (zmem (i := 54) (by decide +kernel))) rfl
theorem aw_55 : Cond.fieldLink "MatchSeeker$Rule" (16 : Nat) "MatchSeeker$Rule" "window" "I" ∈ zALL := zall (zt1 (zmem (i := 55) (by decide +kernel))) rfl
theorem nw_56 : Cond.fieldLinkNest "MatchSeeker" (85 : Nat) "MatchSeeker$Rule" "window" "I" "MatchSeeker" ∈ nwL := znw (zt1 (zmem (i := 56) (by decide +kernel))) rfl
theorem nw_57 : Cond.fieldLinkNest "MatchSeeker$Finder" (117 : Nat) "MatchSeeker$Rule" "window" "I" "MatchSeeker" ∈ nwL := znw (zt1 (zmem (i := 57) (by decide +kernel))) rfl
theorem aw_58 : Cond.fieldLink "MatchSeeker$Rule" (19 : Nat) "MatchSeeker$Rule" "least" "I" ∈ zALL := zall (zt1 (zmem (i := 58) (by decide +kernel))) rfl
theorem nw_59 : Cond.fieldLinkNest "MatchSeeker$Plan" (59 : Nat) "MatchSeeker$Rule" "least" "I" "MatchSeeker" ∈ nwL := znw (zt1 (zmem (i := 59) (by decide +kernel))) rfl
theorem nw_60 : Cond.fieldLinkNest "MatchSeeker$Finder" (69 : Nat) "MatchSeeker$Rule" "least" "I" "MatchSeeker" ∈ nwL := znw (zt1 (zmem (i := 60) (by decide +kernel))) rfl
theorem nw_61 : Cond.fieldLinkNest "MatchSeeker" (88 : Nat) "MatchSeeker$Rule" "least" "I" "MatchSeeker" ∈ nwL := znw (zt1 (zmem (i := 61) (by decide +kernel))) rfl
theorem aw_62 : Cond.fieldLink "MatchSeeker$Rule" (23 : Nat) "MatchSeeker$Rule" "cap" "I" ∈ zALL := zall (zt1 (zmem (i := 62) (by decide +kernel))) rfl
theorem nw_63 : Cond.fieldLinkNest "MatchSeeker" (91 : Nat) "MatchSeeker$Rule" "cap" "I" "MatchSeeker" ∈ nwL := znw (zt1 (zmem (i := 63) (by decide +kernel))) rfl
theorem nw_64 : Cond.fieldLinkNest "MatchSeeker$Finder" (126 : Nat) "MatchSeeker$Rule" "cap" "I" "MatchSeeker" ∈ nwL := znw (zt1 (zmem (i := 64) (by decide +kernel))) rfl
theorem aw_65 : Cond.fieldLink "MatchSeeker$Rule" (26 : Nat) "MatchSeeker$Rule" "gapBehindLast" "I" ∈ zALL := zall (zt1 (zmem (i := 65) (by decide +kernel))) rfl
theorem nw_66 : Cond.fieldLinkNest "MatchSeeker" (94 : Nat) "MatchSeeker$Rule" "gapBehindLast" "I" "MatchSeeker" ∈ nwL := znw (zt1 (zmem (i := 66) (by decide +kernel))) rfl
theorem aw_67 : Cond.fieldLink "MatchSeeker$Rule" (29 : Nat) "MatchSeeker$Rule" "gapBehindEnd" "I" ∈ zALL := zall (zt1 (zmem (i := 67) (by decide +kernel))) rfl
theorem nw_68 : Cond.fieldLinkNest "MatchSeeker" (97 : Nat) "MatchSeeker$Rule" "gapBehindEnd" "I" "MatchSeeker" ∈ nwL := znw (zt1 (zmem (i := 68) (by decide +kernel))) rfl
theorem aw_69 : Cond.fieldLink "MatchSeeker$Rule" (32 : Nat) "MatchSeeker$Rule" "literalPrice" "I" ∈ zALL := zall (zt1 (zmem (i := 69) (by decide +kernel))) rfl
theorem nw_70 : Cond.fieldLinkNest "MatchSeeker$Plan" (85 : Nat) "MatchSeeker$Rule" "literalPrice" "I" "MatchSeeker" ∈ nwL := znw (zt1 (zmem (i := 70) (by decide +kernel))) rfl
theorem nw_71 : Cond.fieldLinkNest "MatchSeeker$Found" (73 : Nat) "MatchSeeker$Rule" "literalPrice" "I" "MatchSeeker" ∈ nwL := znw (zt1 (zmem (i := 71) (by decide +kernel))) rfl
theorem nw_72 : Cond.fieldLinkNest "MatchSeeker" (100 : Nat) "MatchSeeker$Rule" "literalPrice" "I" "MatchSeeker" ∈ nwL := znw (zt1 (zmem (i := 72) (by decide +kernel))) rfl
theorem aw_73 : Cond.fieldLink "MatchSeeker$Rule" (35 : Nat) "MatchSeeker$Rule" "matchPrice" "I" ∈ zALL := zall (zt1 (zmem (i := 73) (by decide +kernel))) rfl
theorem nw_74 : Cond.fieldLinkNest "MatchSeeker$Found" (78 : Nat) "MatchSeeker$Rule" "matchPrice" "I" "MatchSeeker" ∈ nwL := znw (zt1 (zmem (i := 74) (by decide +kernel))) rfl
theorem nw_75 : Cond.fieldLinkNest "MatchSeeker$Plan" (110 : Nat) "MatchSeeker$Rule" "matchPrice" "I" "MatchSeeker" ∈ nwL := znw (zt1 (zmem (i := 75) (by decide +kernel))) rfl
theorem nw_76 : Cond.fieldLinkNest "MatchSeeker" (103 : Nat) "MatchSeeker$Rule" "matchPrice" "I" "MatchSeeker" ∈ nwL := znw (zt1 (zmem (i := 76) (by decide +kernel))) rfl
theorem aw_94 : Cond.classLink "MatchSeeker" (23 : Nat) "MatchSeeker$Finder" ∈ zALL := zall (zt1 (zmem (i := 94) (by decide +kernel))) rfl
theorem aw_95 : Cond.instantiable "MatchSeeker$Finder" (15 : Nat) ∈ zALL := zall (zt1 (zmem (i := 95) (by decide +kernel))) rfl
theorem nw_96 : Cond.methodLinkNest "MatchSeeker" (25 : Nat) ({ cls := "MatchSeeker$Finder", name := "<init>", desc := "(LMatchSeeker$Row;LMatchSeeker$Rule;)V" } : Jvm.MethodName) "MatchSeeker" ∈ nwL := znw (zt1 (zmem (i := 96) (by decide +kernel))) rfl
theorem aw_97 : Cond.instanceMethod ({ cls := "MatchSeeker$Finder", name := "<init>", desc := "(LMatchSeeker$Row;LMatchSeeker$Rule;)V" } : Jvm.MethodName) ∈ zALL := zall (zt1 (zmem (i := 97) (by decide +kernel))) rfl
theorem aw_98 : Cond.code ({ cls := "MatchSeeker$Finder", name := "<init>", desc := "(LMatchSeeker$Row;LMatchSeeker$Rule;)V" } : Jvm.MethodName) prog_2_method_1_code (3 : Nat) (Option.none : Option Jvm.ClassFile.FieldType) ∈ zALL := zall (zt1 (zmem (i := 98) (by decide +kernel))) rfl
theorem aw_99 : Cond.methodLink "MatchSeeker$Finder" (3 : Nat) ({ cls := "java/lang/Object", name := "<init>", desc := "()V" } : Jvm.MethodName) ∈ zALL := zall (zt1 (zmem (i := 99) (by decide +kernel))) rfl
theorem aw_100 : Cond.fieldLink "MatchSeeker$Finder" (52 : Nat) "MatchSeeker$Finder" "row" "LMatchSeeker$Row;" ∈ zALL := zall (zt1 (zmem (i := 100) (by decide +kernel))) rfl
theorem aw_101 : Cond.fieldLink "MatchSeeker$Finder" (56 : Nat) "MatchSeeker$Finder" "law" "LMatchSeeker$Rule;" ∈ zALL := zall (zt1 (zmem (i := 101) (by decide +kernel))) rfl
theorem aw_102 : Cond.fieldLink "MatchSeeker$Finder" (9 : Nat) "MatchSeeker$Finder" "latestInSlot" "[I" ∈ zALL := zall (zt1 (zmem (i := 102) (by decide +kernel))) rfl
theorem aw_103 : Cond.fieldLink "MatchSeeker$Finder" (15 : Nat) "MatchSeeker$Finder" "linkedBefore" "[I" ∈ zALL := zall (zt1 (zmem (i := 103) (by decide +kernel))) rfl
theorem aw_104 : Cond.fieldLink "MatchSeeker$Finder" (18 : Nat) "MatchSeeker$Finder" "linked" "I" ∈ zALL := zall (zt1 (zmem (i := 104) (by decide +kernel))) rfl
theorem aw_105 : Cond.fieldLink "MatchSeeker$Finder" (22 : Nat) "MatchSeeker$Finder" "linkedLeast" "I" ∈ zALL := zall (zt1 (zmem (i := 105) (by decide +kernel))) rfl
theorem aw_106 : Cond.fieldLink "MatchSeeker$Finder" (25 : Nat) "MatchSeeker$Finder" "sameFrom" "[I" ∈ zALL := zall (zt1 (zmem (i := 106) (by decide +kernel))) rfl
theorem aw_107 : Cond.fieldLink "MatchSeeker$Finder" (28 : Nat) "MatchSeeker$Finder" "sameTo" "[I" ∈ zALL := zall (zt1 (zmem (i := 107) (by decide +kernel))) rfl
theorem aw_108 : Cond.fieldLink "MatchSeeker$Finder" (31 : Nat) "MatchSeeker$Finder" "place" "I" ∈ zALL := zall (zt1 (zmem (i := 108) (by decide +kernel))) rfl
theorem aw_109 : Cond.fieldLink "MatchSeeker$Finder" (34 : Nat) "MatchSeeker$Finder" "candidate" "I" ∈ zALL := zall (zt1 (zmem (i := 109) (by decide +kernel))) rfl
theorem aw_110 : Cond.fieldLink "MatchSeeker$Finder" (37 : Nat) "MatchSeeker$Finder" "lowest" "I" ∈ zALL := zall (zt1 (zmem (i := 110) (by decide +kernel))) rfl
theorem aw_111 : Cond.fieldLink "MatchSeeker$Finder" (40 : Nat) "MatchSeeker$Finder" "limit" "I" ∈ zALL := zall (zt1 (zmem (i := 111) (by decide +kernel))) rfl
theorem aw_112 : Cond.fieldLink "MatchSeeker$Finder" (43 : Nat) "MatchSeeker$Finder" "toBeat" "I" ∈ zALL := zall (zt1 (zmem (i := 112) (by decide +kernel))) rfl
theorem aw_113 : Cond.fieldLink "MatchSeeker$Finder" (46 : Nat) "MatchSeeker$Finder" "length" "I" ∈ zALL := zall (zt1 (zmem (i := 113) (by decide +kernel))) rfl
theorem nw_114 : Cond.fieldLinkNest "MatchSeeker$Plan" (72 : Nat) "MatchSeeker$Finder" "length" "I" "MatchSeeker" ∈ nwL := znw (zt1 (zmem (i := 114) (by decide +kernel))) rfl
theorem nw_115 : Cond.fieldLinkNest "MatchSeeker" (116 : Nat) "MatchSeeker$Finder" "length" "I" "MatchSeeker" ∈ nwL := znw (zt1 (zmem (i := 115) (by decide +kernel))) rfl
theorem aw_116 : Cond.fieldLink "MatchSeeker$Finder" (49 : Nat) "MatchSeeker$Finder" "distance" "I" ∈ zALL := zall (zt1 (zmem (i := 116) (by decide +kernel))) rfl
theorem nw_117 : Cond.fieldLinkNest "MatchSeeker$Plan" (101 : Nat) "MatchSeeker$Finder" "distance" "I" "MatchSeeker" ∈ nwL := znw (zt1 (zmem (i := 117) (by decide +kernel))) rfl
theorem nw_118 : Cond.fieldLinkNest "MatchSeeker" (119 : Nat) "MatchSeeker$Finder" "distance" "I" "MatchSeeker" ∈ nwL := znw (zt1 (zmem (i := 118) (by decide +kernel))) rfl
theorem aw_150 : Cond.arrayClass Jvm.ClassFile.FieldType.int ∈ zALL := zall (zt1 (zmem (i := 150) (by decide +kernel))) rfl
theorem aw_151 : Cond.classLink "MatchSeeker" (32 : Nat) "MatchSeeker$Plan" ∈ zALL := zall (zt1 (zmem (i := 151) (by decide +kernel))) rfl
theorem aw_152 : Cond.instantiable "MatchSeeker$Plan" (8 : Nat) ∈ zALL := zall (zt1 (zmem (i := 152) (by decide +kernel))) rfl
theorem nw_153 : Cond.methodLinkNest "MatchSeeker" (34 : Nat) ({ cls := "MatchSeeker$Plan", name := "<init>", desc := "(LMatchSeeker$Row;LMatchSeeker$Rule;LMatchSeeker$Finder;)V" } : Jvm.MethodName) "MatchSeeker" ∈ nwL := znw (zt1 (zmem (i := 153) (by decide +kernel))) rfl
theorem aw_154 : Cond.instanceMethod ({ cls := "MatchSeeker$Plan", name := "<init>", desc := "(LMatchSeeker$Row;LMatchSeeker$Rule;LMatchSeeker$Finder;)V" } : Jvm.MethodName) ∈ zALL := zall (zt1 (zmem (i := 154) (by decide +kernel))) rfl
theorem aw_155 : Cond.code ({ cls := "MatchSeeker$Plan", name := "<init>", desc := "(LMatchSeeker$Row;LMatchSeeker$Rule;LMatchSeeker$Finder;)V" } : Jvm.MethodName) prog_4_method_1_code (4 : Nat) (Option.none : Option Jvm.ClassFile.FieldType) ∈ zALL := zall (zt1 (zmem (i := 155) (by decide +kernel))) rfl
theorem aw_156 : Cond.methodLink "MatchSeeker$Plan" (3 : Nat) ({ cls := "java/lang/Object", name := "<init>", desc := "()V" } : Jvm.MethodName) ∈ zALL := zall (zt1 (zmem (i := 156) (by decide +kernel))) rfl
theorem aw_157 : Cond.fieldLink "MatchSeeker$Plan" (28 : Nat) "MatchSeeker$Plan" "row" "LMatchSeeker$Row;" ∈ zALL := zall (zt1 (zmem (i := 157) (by decide +kernel))) rfl
theorem aw_158 : Cond.fieldLink "MatchSeeker$Plan" (32 : Nat) "MatchSeeker$Plan" "law" "LMatchSeeker$Rule;" ∈ zALL := zall (zt1 (zmem (i := 158) (by decide +kernel))) rfl
theorem aw_159 : Cond.fieldLink "MatchSeeker$Plan" (36 : Nat) "MatchSeeker$Plan" "finder" "LMatchSeeker$Finder;" ∈ zALL := zall (zt1 (zmem (i := 159) (by decide +kernel))) rfl
theorem aw_160 : Cond.fieldLink "MatchSeeker$Plan" (9 : Nat) "MatchSeeker$Plan" "cost" "[I" ∈ zALL := zall (zt1 (zmem (i := 160) (by decide +kernel))) rfl
theorem aw_161 : Cond.fieldLink "MatchSeeker$Plan" (15 : Nat) "MatchSeeker$Plan" "length" "[I" ∈ zALL := zall (zt1 (zmem (i := 161) (by decide +kernel))) rfl
theorem nw_162 : Cond.fieldLinkNest "MatchSeeker" (179 : Nat) "MatchSeeker$Plan" "length" "[I" "MatchSeeker" ∈ nwL := znw (zt1 (zmem (i := 162) (by decide +kernel))) rfl
theorem aw_163 : Cond.fieldLink "MatchSeeker$Plan" (18 : Nat) "MatchSeeker$Plan" "distance" "[I" ∈ zALL := zall (zt1 (zmem (i := 163) (by decide +kernel))) rfl
theorem nw_164 : Cond.fieldLinkNest "MatchSeeker" (181 : Nat) "MatchSeeker$Plan" "distance" "[I" "MatchSeeker" ∈ nwL := znw (zt1 (zmem (i := 164) (by decide +kernel))) rfl
theorem aw_165 : Cond.fieldLink "MatchSeeker$Plan" (21 : Nat) "MatchSeeker$Plan" "ends" "[I" ∈ zALL := zall (zt1 (zmem (i := 165) (by decide +kernel))) rfl
theorem aw_166 : Cond.fieldLink "MatchSeeker$Plan" (24 : Nat) "MatchSeeker$Plan" "endCount" "I" ∈ zALL := zall (zt1 (zmem (i := 166) (by decide +kernel))) rfl
theorem aw_184 : Cond.classLink "MatchSeeker" (41 : Nat) "MatchSeeker$Found" ∈ zALL := zall (zt1 (zmem (i := 184) (by decide +kernel))) rfl
theorem aw_185 : Cond.instantiable "MatchSeeker$Found" (14 : Nat) ∈ zALL := zall (zt1 (zmem (i := 185) (by decide +kernel))) rfl
theorem nw_186 : Cond.methodLinkNest "MatchSeeker" (43 : Nat) ({ cls := "MatchSeeker$Found", name := "<init>", desc := "(LMatchSeeker$Row;LMatchSeeker$Rule;)V" } : Jvm.MethodName) "MatchSeeker" ∈ nwL := znw (zt1 (zmem (i := 186) (by decide +kernel))) rfl
theorem aw_187 : Cond.instanceMethod ({ cls := "MatchSeeker$Found", name := "<init>", desc := "(LMatchSeeker$Row;LMatchSeeker$Rule;)V" } : Jvm.MethodName) ∈ zALL := zall (zt1 (zmem (i := 187) (by decide +kernel))) rfl
theorem aw_188 : Cond.code ({ cls := "MatchSeeker$Found", name := "<init>", desc := "(LMatchSeeker$Row;LMatchSeeker$Rule;)V" } : Jvm.MethodName) prog_3_method_1_code (3 : Nat) (Option.none : Option Jvm.ClassFile.FieldType) ∈ zALL := zall (zt1 (zmem (i := 188) (by decide +kernel))) rfl
theorem aw_189 : Cond.methodLink "MatchSeeker$Found" (3 : Nat) ({ cls := "java/lang/Object", name := "<init>", desc := "()V" } : Jvm.MethodName) ∈ zALL := zall (zt1 (zmem (i := 189) (by decide +kernel))) rfl
theorem aw_190 : Cond.fieldLink "MatchSeeker$Found" (50 : Nat) "MatchSeeker$Found" "row" "LMatchSeeker$Row;" ∈ zALL := zall (zt1 (zmem (i := 190) (by decide +kernel))) rfl
theorem aw_191 : Cond.fieldLink "MatchSeeker$Found" (54 : Nat) "MatchSeeker$Found" "law" "LMatchSeeker$Rule;" ∈ zALL := zall (zt1 (zmem (i := 191) (by decide +kernel))) rfl
theorem aw_192 : Cond.fieldLink "MatchSeeker$Found" (9 : Nat) "MatchSeeker$Found" "literalsBefore" "[I" ∈ zALL := zall (zt1 (zmem (i := 192) (by decide +kernel))) rfl
theorem nw_193 : Cond.fieldLinkNest "MatchSeeker" (138 : Nat) "MatchSeeker$Found" "literalsBefore" "[I" "MatchSeeker" ∈ nwL := znw (zt1 (zmem (i := 193) (by decide +kernel))) rfl
theorem aw_194 : Cond.fieldLink "MatchSeeker$Found" (15 : Nat) "MatchSeeker$Found" "lengths" "[I" ∈ zALL := zall (zt1 (zmem (i := 194) (by decide +kernel))) rfl
theorem nw_195 : Cond.fieldLinkNest "MatchSeeker" (142 : Nat) "MatchSeeker$Found" "lengths" "[I" "MatchSeeker" ∈ nwL := znw (zt1 (zmem (i := 195) (by decide +kernel))) rfl
theorem aw_196 : Cond.fieldLink "MatchSeeker$Found" (18 : Nat) "MatchSeeker$Found" "distances" "[I" ∈ zALL := zall (zt1 (zmem (i := 196) (by decide +kernel))) rfl
theorem nw_197 : Cond.fieldLinkNest "MatchSeeker" (145 : Nat) "MatchSeeker$Found" "distances" "[I" "MatchSeeker" ∈ nwL := znw (zt1 (zmem (i := 197) (by decide +kernel))) rfl
theorem aw_198 : Cond.fieldLink "MatchSeeker$Found" (21 : Nat) "MatchSeeker$Found" "stretches" "I" ∈ zALL := zall (zt1 (zmem (i := 198) (by decide +kernel))) rfl
theorem nw_199 : Cond.fieldLinkNest "MatchSeeker" (135 : Nat) "MatchSeeker$Found" "stretches" "I" "MatchSeeker" ∈ nwL := znw (zt1 (zmem (i := 199) (by decide +kernel))) rfl
theorem aw_200 : Cond.fieldLink "MatchSeeker$Found" (25 : Nat) "MatchSeeker$Found" "tail" "I" ∈ zALL := zall (zt1 (zmem (i := 200) (by decide +kernel))) rfl
theorem nw_201 : Cond.fieldLinkNest "MatchSeeker" (148 : Nat) "MatchSeeker$Found" "tail" "I" "MatchSeeker" ∈ nwL := znw (zt1 (zmem (i := 201) (by decide +kernel))) rfl
theorem aw_202 : Cond.fieldLink "MatchSeeker$Found" (28 : Nat) "MatchSeeker$Found" "literals" "I" ∈ zALL := zall (zt1 (zmem (i := 202) (by decide +kernel))) rfl
theorem nw_203 : Cond.fieldLinkNest "MatchSeeker" (151 : Nat) "MatchSeeker$Found" "literals" "I" "MatchSeeker" ∈ nwL := znw (zt1 (zmem (i := 203) (by decide +kernel))) rfl
theorem aw_204 : Cond.fieldLink "MatchSeeker$Found" (31 : Nat) "MatchSeeker$Found" "cost" "I" ∈ zALL := zall (zt1 (zmem (i := 204) (by decide +kernel))) rfl
theorem nw_205 : Cond.fieldLinkNest "MatchSeeker" (154 : Nat) "MatchSeeker$Found" "cost" "I" "MatchSeeker" ∈ nwL := znw (zt1 (zmem (i := 205) (by decide +kernel))) rfl
theorem aw_206 : Cond.fieldLink "MatchSeeker$Found" (34 : Nat) "MatchSeeker$Found" "greatestLength" "I" ∈ zALL := zall (zt1 (zmem (i := 206) (by decide +kernel))) rfl
theorem nw_207 : Cond.fieldLinkNest "MatchSeeker" (157 : Nat) "MatchSeeker$Found" "greatestLength" "I" "MatchSeeker" ∈ nwL := znw (zt1 (zmem (i := 207) (by decide +kernel))) rfl
theorem aw_208 : Cond.fieldLink "MatchSeeker$Found" (37 : Nat) "MatchSeeker$Found" "greatestDistance" "I" ∈ zALL := zall (zt1 (zmem (i := 208) (by decide +kernel))) rfl
theorem nw_209 : Cond.fieldLinkNest "MatchSeeker" (160 : Nat) "MatchSeeker$Found" "greatestDistance" "I" "MatchSeeker" ∈ nwL := znw (zt1 (zmem (i := 209) (by decide +kernel))) rfl
theorem aw_210 : Cond.fieldLink "MatchSeeker$Found" (40 : Nat) "MatchSeeker$Found" "bytesThen" "I" ∈ zALL := zall (zt1 (zmem (i := 210) (by decide +kernel))) rfl
theorem aw_211 : Cond.fieldLink "MatchSeeker$Found" (43 : Nat) "MatchSeeker$Found" "pastThen" "I" ∈ zALL := zall (zt1 (zmem (i := 211) (by decide +kernel))) rfl
theorem aw_212 : Cond.fieldLink "MatchSeeker$Found" (46 : Nat) "MatchSeeker$Found" "rebuilt" "[B" ∈ zALL := zall (zt1 (zmem (i := 212) (by decide +kernel))) rfl
theorem aw_242 : Cond.fieldLink "MatchSeeker" (10 : Nat) "MatchSeeker" "row" "LMatchSeeker$Row;" ∈ zALL := zall (zt2 (zmem (i := 2) (by decide +kernel))) rfl
theorem aw_243 : Cond.fieldLink "MatchSeeker" (19 : Nat) "MatchSeeker" "law" "LMatchSeeker$Rule;" ∈ zALL := zall (zt2 (zmem (i := 3) (by decide +kernel))) rfl
theorem aw_244 : Cond.fieldLink "MatchSeeker" (28 : Nat) "MatchSeeker" "finder" "LMatchSeeker$Finder;" ∈ zALL := zall (zt2 (zmem (i := 4) (by decide +kernel))) rfl
theorem aw_245 : Cond.fieldLink "MatchSeeker" (37 : Nat) "MatchSeeker" "plan" "LMatchSeeker$Plan;" ∈ zALL := zall (zt2 (zmem (i := 5) (by decide +kernel))) rfl
theorem aw_246 : Cond.fieldLink "MatchSeeker" (44 : Nat) "MatchSeeker" "found" "LMatchSeeker$Found;" ∈ zALL := zall (zt2 (zmem (i := 6) (by decide +kernel))) rfl
theorem aw_258 : Cond.methodLink "MatchSeekerLaw" (13 : Nat) ({ cls := "MatchSeeker", name := "clear", desc := "()V" } : Jvm.MethodName) ∈ zALL := zall (zt2 (zmem (i := 18) (by decide +kernel))) rfl
theorem aw_259 : Cond.instanceMethod ({ cls := "MatchSeeker", name := "clear", desc := "()V" } : Jvm.MethodName) ∈ zALL := zall (zt2 (zmem (i := 19) (by decide +kernel))) rfl
theorem aw_260 : Cond.selects "MatchSeeker" ({ cls := "MatchSeeker", name := "clear", desc := "()V" } : Jvm.MethodName) ({ cls := "MatchSeeker", name := "clear", desc := "()V" } : Jvm.MethodName) ∈ zALL := zall (zt2 (zmem (i := 20) (by decide +kernel))) rfl
theorem aw_261 : Cond.code ({ cls := "MatchSeeker", name := "clear", desc := "()V" } : Jvm.MethodName) prog_1_method_2_code (1 : Nat) (Option.none : Option Jvm.ClassFile.FieldType) ∈ zALL := zall (zt2 (zmem (i := 21) (by decide +kernel))) rfl
theorem nw_262 : Cond.methodLinkNest "MatchSeeker" (48 : Nat) ({ cls := "MatchSeeker$Row", name := "empty", desc := "()V" } : Jvm.MethodName) "MatchSeeker" ∈ nwL := znw (zt2 (zmem (i := 22) (by decide +kernel))) rfl
theorem aw_264 : Cond.instanceMethod ({ cls := "MatchSeeker$Row", name := "empty", desc := "()V" } : Jvm.MethodName) ∈ zALL := zall (zt2 (zmem (i := 24) (by decide +kernel))) rfl
theorem aw_265 : Cond.code ({ cls := "MatchSeeker$Row", name := "empty", desc := "()V" } : Jvm.MethodName) prog_5_method_4_code (1 : Nat) (Option.none : Option Jvm.ClassFile.FieldType) ∈ zALL := zall (zt2 (zmem (i := 25) (by decide +kernel))) rfl
theorem nw_266 : Cond.methodLinkNest "MatchSeeker" (51 : Nat) ({ cls := "MatchSeeker$Finder", name := "forgetData", desc := "()V" } : Jvm.MethodName) "MatchSeeker" ∈ nwL := znw (zt2 (zmem (i := 26) (by decide +kernel))) rfl
theorem aw_268 : Cond.instanceMethod ({ cls := "MatchSeeker$Finder", name := "forgetData", desc := "()V" } : Jvm.MethodName) ∈ zALL := zall (zt2 (zmem (i := 28) (by decide +kernel))) rfl
theorem aw_269 : Cond.code ({ cls := "MatchSeeker$Finder", name := "forgetData", desc := "()V" } : Jvm.MethodName) prog_2_method_2_code (1 : Nat) (Option.none : Option Jvm.ClassFile.FieldType) ∈ zALL := zall (zt2 (zmem (i := 29) (by decide +kernel))) rfl
theorem aw_270 : Cond.methodLink "MatchSeeker$Finder" (60 : Nat) ({ cls := "MatchSeeker$Finder", name := "unlink", desc := "()V" } : Jvm.MethodName) ∈ zALL := zall (zt2 (zmem (i := 30) (by decide +kernel))) rfl
theorem aw_272 : Cond.instanceMethod ({ cls := "MatchSeeker$Finder", name := "unlink", desc := "()V" } : Jvm.MethodName) ∈ zALL := zall (zt2 (zmem (i := 32) (by decide +kernel))) rfl
theorem aw_273 : Cond.code ({ cls := "MatchSeeker$Finder", name := "unlink", desc := "()V" } : Jvm.MethodName) prog_2_method_3_code (1 : Nat) (Option.none : Option Jvm.ClassFile.FieldType) ∈ zALL := zall (zt2 (zmem (i := 33) (by decide +kernel))) rfl
theorem aw_274 : Cond.methodLink "MatchSeeker$Finder" (63 : Nat) ({ cls := "java/util/Arrays", name := "fill", desc := "([II)V" } : Jvm.MethodName) ∈ zALL := zall (zt2 (zmem (i := 34) (by decide +kernel))) rfl
theorem aw_275 : Cond.static ({ cls := "java/util/Arrays", name := "fill", desc := "([II)V" } : Jvm.MethodName) ∈ zALL := zall (zt2 (zmem (i := 35) (by decide +kernel))) rfl
theorem aw_276 : Cond.code ({ cls := "java/util/Arrays", name := "fill", desc := "([II)V" } : Jvm.MethodName) prog_12_method_103_code (4 : Nat) (Option.none : Option Jvm.ClassFile.FieldType) ∈ zALL := zall (zt2 (zmem (i := 36) (by decide +kernel))) rfl
theorem nw_277 : Cond.methodLinkNest "MatchSeeker" (54 : Nat) ({ cls := "MatchSeeker$Found", name := "forget", desc := "()V" } : Jvm.MethodName) "MatchSeeker" ∈ nwL := znw (zt2 (zmem (i := 37) (by decide +kernel))) rfl
theorem aw_279 : Cond.instanceMethod ({ cls := "MatchSeeker$Found", name := "forget", desc := "()V" } : Jvm.MethodName) ∈ zALL := zall (zt2 (zmem (i := 39) (by decide +kernel))) rfl
theorem aw_280 : Cond.code ({ cls := "MatchSeeker$Found", name := "forget", desc := "()V" } : Jvm.MethodName) prog_3_method_2_code (1 : Nat) (Option.none : Option Jvm.ClassFile.FieldType) ∈ zALL := zall (zt2 (zmem (i := 40) (by decide +kernel))) rfl
theorem aw_281 : Cond.methodLink "MatchSeekerLaw" (19 : Nat) ({ cls := "MatchSeeker", name := "write", desc := "(JI)Z" } : Jvm.MethodName) ∈ zALL := zall (zt2 (zmem (i := 41) (by decide +kernel))) rfl
theorem aw_282 : Cond.instanceMethod ({ cls := "MatchSeeker", name := "write", desc := "(JI)Z" } : Jvm.MethodName) ∈ zALL := zall (zt2 (zmem (i := 42) (by decide +kernel))) rfl
theorem aw_283 : Cond.selects "MatchSeeker" ({ cls := "MatchSeeker", name := "write", desc := "(JI)Z" } : Jvm.MethodName) ({ cls := "MatchSeeker", name := "write", desc := "(JI)Z" } : Jvm.MethodName) ∈ zALL := zall (zt2 (zmem (i := 43) (by decide +kernel))) rfl
theorem aw_284 : Cond.code ({ cls := "MatchSeeker", name := "write", desc := "(JI)Z" } : Jvm.MethodName) prog_1_method_3_code (4 : Nat) (Option.some Jvm.ClassFile.FieldType.boolean) ∈ zALL := zall (zt2 (zmem (i := 44) (by decide +kernel))) rfl
theorem aw_285 : Cond.methodLink "MatchSeeker" (57 : Nat) ({ cls := "MatchSeeker", name := "within", desc := "(III)Z" } : Jvm.MethodName) ∈ zALL := zall (zt2 (zmem (i := 45) (by decide +kernel))) rfl
theorem aw_286 : Cond.static ({ cls := "MatchSeeker", name := "within", desc := "(III)Z" } : Jvm.MethodName) ∈ zALL := zall (zt2 (zmem (i := 46) (by decide +kernel))) rfl
theorem aw_287 : Cond.code ({ cls := "MatchSeeker", name := "within", desc := "(III)Z" } : Jvm.MethodName) prog_1_method_17_code (3 : Nat) (Option.some Jvm.ClassFile.FieldType.boolean) ∈ zALL := zall (zt2 (zmem (i := 47) (by decide +kernel))) rfl
theorem nw_288 : Cond.methodLinkNest "MatchSeeker" (61 : Nat) ({ cls := "MatchSeeker$Row", name := "takes", desc := "(J)Z" } : Jvm.MethodName) "MatchSeeker" ∈ nwL := znw (zt2 (zmem (i := 48) (by decide +kernel))) rfl
theorem aw_290 : Cond.instanceMethod ({ cls := "MatchSeeker$Row", name := "takes", desc := "(J)Z" } : Jvm.MethodName) ∈ zALL := zall (zt2 (zmem (i := 50) (by decide +kernel))) rfl
theorem aw_291 : Cond.code ({ cls := "MatchSeeker$Row", name := "takes", desc := "(J)Z" } : Jvm.MethodName) prog_5_method_3_code (3 : Nat) (Option.some Jvm.ClassFile.FieldType.boolean) ∈ zALL := zall (zt2 (zmem (i := 51) (by decide +kernel))) rfl
theorem aw_292 : Cond.constant "MatchSeeker$Row" (22 : Nat) (32768 : Int32) ∈ zALL := zall (zt2 (zmem (i := 52) (by decide +kernel))) rfl
theorem nw_293 : Cond.methodLinkNest "MatchSeeker" (65 : Nat) ({ cls := "MatchSeeker$Row", name := "append", desc := "(JI)V" } : Jvm.MethodName) "MatchSeeker" ∈ nwL := znw (zt2 (zmem (i := 53) (by decide +kernel))) rfl
theorem aw_295 : Cond.instanceMethod ({ cls := "MatchSeeker$Row", name := "append", desc := "(JI)V" } : Jvm.MethodName) ∈ zALL := zall (zt2 (zmem (i := 55) (by decide +kernel))) rfl
theorem aw_296 : Cond.code ({ cls := "MatchSeeker$Row", name := "append", desc := "(JI)V" } : Jvm.MethodName) prog_5_method_5_code (5 : Nat) (Option.none : Option Jvm.ClassFile.FieldType) ∈ zALL := zall (zt2 (zmem (i := 56) (by decide +kernel))) rfl
theorem aw_297 : Cond.methodLink "MatchSeeker$Row" (23 : Nat) ({ cls := "MatchSeeker$Row", name := "makeRoom", desc := "(I)V" } : Jvm.MethodName) ∈ zALL := zall (zt2 (zmem (i := 57) (by decide +kernel))) rfl
theorem aw_299 : Cond.instanceMethod ({ cls := "MatchSeeker$Row", name := "makeRoom", desc := "(I)V" } : Jvm.MethodName) ∈ zALL := zall (zt2 (zmem (i := 59) (by decide +kernel))) rfl
theorem aw_300 : Cond.code ({ cls := "MatchSeeker$Row", name := "makeRoom", desc := "(I)V" } : Jvm.MethodName) prog_5_method_7_code (2 : Nat) (Option.none : Option Jvm.ClassFile.FieldType) ∈ zALL := zall (zt2 (zmem (i := 60) (by decide +kernel))) rfl
theorem nw_301 : Cond.methodLinkNest "MatchSeeker$Row" (27 : Nat) ({ cls := "MatchSeeker", name := "roomFor", desc := "(I)I" } : Jvm.MethodName) "MatchSeeker" ∈ nwL := znw (zt2 (zmem (i := 61) (by decide +kernel))) rfl
theorem aw_302 : Cond.static ({ cls := "MatchSeeker", name := "roomFor", desc := "(I)I" } : Jvm.MethodName) ∈ zALL := zall (zt2 (zmem (i := 62) (by decide +kernel))) rfl
theorem aw_303 : Cond.code ({ cls := "MatchSeeker", name := "roomFor", desc := "(I)I" } : Jvm.MethodName) prog_1_method_18_code (2 : Nat) (Option.some Jvm.ClassFile.FieldType.int) ∈ zALL := zall (zt2 (zmem (i := 63) (by decide +kernel))) rfl
theorem aw_304 : Cond.constant "MatchSeeker" (183 : Nat) (32768 : Int32) ∈ zALL := zall (zt2 (zmem (i := 64) (by decide +kernel))) rfl
theorem aw_305 : Cond.methodLink "MatchSeeker$Row" (31 : Nat) ({ cls := "java/util/Arrays", name := "copyOf", desc := "([BI)[B" } : Jvm.MethodName) ∈ zALL := zall (zt2 (zmem (i := 65) (by decide +kernel))) rfl
theorem aw_306 : Cond.static ({ cls := "java/util/Arrays", name := "copyOf", desc := "([BI)[B" } : Jvm.MethodName) ∈ zALL := zall (zt2 (zmem (i := 66) (by decide +kernel))) rfl
theorem aw_307 : Cond.code ({ cls := "java/util/Arrays", name := "copyOf", desc := "([BI)[B" } : Jvm.MethodName) prog_12_method_121_code (3 : Nat) (Option.some (Jvm.ClassFile.FieldType.array Jvm.ClassFile.FieldType.byte)) ∈ zALL := zall (zt2 (zmem (i := 67) (by decide +kernel))) rfl
theorem aw_308 : Cond.methodLink "java/util/Arrays" (310 : Nat) ({ cls := "[B", name := "clone", desc := "()Ljava/lang/Object;" } : Jvm.MethodName) ∈ zALL := zall (zt2 (zmem (i := 68) (by decide +kernel))) rfl
theorem aw_310 : Cond.native ({ cls := "java/lang/Object", name := "clone", desc := "()Ljava/lang/Object;" } : Jvm.MethodName) ∈ zALL := zall (zt2 (zmem (i := 70) (by decide +kernel))) rfl
theorem aw_311 : Cond.instanceMethod ({ cls := "java/lang/Object", name := "clone", desc := "()Ljava/lang/Object;" } : Jvm.MethodName) ∈ zALL := zall (zt2 (zmem (i := 71) (by decide +kernel))) rfl
theorem aw_312 : Cond.selects "[B" ({ cls := "[B", name := "clone", desc := "()Ljava/lang/Object;" } : Jvm.MethodName) ({ cls := "java/lang/Object", name := "clone", desc := "()Ljava/lang/Object;" } : Jvm.MethodName) ∈ zALL := zall (zt2 (zmem (i := 72) (by decide +kernel))) rfl
theorem aw_314 : Cond.classLink "java/util/Arrays" (311 : Nat) "[B" ∈ zALL := zall (zt2 (zmem (i := 74) (by decide +kernel))) rfl
theorem aw_315 : Cond.methodLink "java/util/Arrays" (304 : Nat) ({ cls := "java/lang/Math", name := "min", desc := "(II)I" } : Jvm.MethodName) ∈ zALL := zall (zt2 (zmem (i := 75) (by decide +kernel))) rfl
theorem aw_316 : Cond.static ({ cls := "java/lang/Math", name := "min", desc := "(II)I" } : Jvm.MethodName) ∈ zALL := zall (zt2 (zmem (i := 76) (by decide +kernel))) rfl
theorem aw_317 : Cond.code ({ cls := "java/lang/Math", name := "min", desc := "(II)I" } : Jvm.MethodName) prog_10_method_69_code (2 : Nat) (Option.some Jvm.ClassFile.FieldType.int) ∈ zALL := zall (zt2 (zmem (i := 77) (by decide +kernel))) rfl
theorem aw_318 : Cond.methodLink "java/util/Arrays" (150 : Nat) ({ cls := "java/lang/System", name := "arraycopy", desc := "(Ljava/lang/Object;ILjava/lang/Object;II)V" } : Jvm.MethodName) ∈ zALL := zall (zt2 (zmem (i := 78) (by decide +kernel))) rfl
theorem aw_319 : Cond.static ({ cls := "java/lang/System", name := "arraycopy", desc := "(Ljava/lang/Object;ILjava/lang/Object;II)V" } : Jvm.MethodName) ∈ zALL := zall (zt2 (zmem (i := 79) (by decide +kernel))) rfl
theorem aw_320 : Cond.native ({ cls := "java/lang/System", name := "arraycopy", desc := "(Ljava/lang/Object;ILjava/lang/Object;II)V" } : Jvm.MethodName) ∈ zALL := zall (zt2 (zmem (i := 80) (by decide +kernel))) rfl
theorem aw_321 : Cond.methodLink "MatchSeekerLaw" (24 : Nat) ({ cls := "MatchSeeker", name := "again", desc := "(II)Z" } : Jvm.MethodName) ∈ zALL := zall (zt2 (zmem (i := 81) (by decide +kernel))) rfl
theorem aw_322 : Cond.instanceMethod ({ cls := "MatchSeeker", name := "again", desc := "(II)Z" } : Jvm.MethodName) ∈ zALL := zall (zt2 (zmem (i := 82) (by decide +kernel))) rfl
theorem aw_323 : Cond.selects "MatchSeeker" ({ cls := "MatchSeeker", name := "again", desc := "(II)Z" } : Jvm.MethodName) ({ cls := "MatchSeeker", name := "again", desc := "(II)Z" } : Jvm.MethodName) ∈ zALL := zall (zt2 (zmem (i := 83) (by decide +kernel))) rfl
theorem aw_324 : Cond.code ({ cls := "MatchSeeker", name := "again", desc := "(II)Z" } : Jvm.MethodName) prog_1_method_4_code (3 : Nat) (Option.some Jvm.ClassFile.FieldType.boolean) ∈ zALL := zall (zt2 (zmem (i := 84) (by decide +kernel))) rfl
theorem nw_325 : Cond.methodLinkNest "MatchSeeker" (73 : Nat) ({ cls := "MatchSeeker$Row", name := "repeat", desc := "(II)V" } : Jvm.MethodName) "MatchSeeker" ∈ nwL := znw (zt2 (zmem (i := 85) (by decide +kernel))) rfl
theorem aw_327 : Cond.instanceMethod ({ cls := "MatchSeeker$Row", name := "repeat", desc := "(II)V" } : Jvm.MethodName) ∈ zALL := zall (zt2 (zmem (i := 87) (by decide +kernel))) rfl
theorem aw_328 : Cond.code ({ cls := "MatchSeeker$Row", name := "repeat", desc := "(II)V" } : Jvm.MethodName) prog_5_method_6_code (4 : Nat) (Option.none : Option Jvm.ClassFile.FieldType) ∈ zALL := zall (zt2 (zmem (i := 88) (by decide +kernel))) rfl
theorem aw_329 : Cond.methodLink "MatchSeekerLaw" (29 : Nat) ({ cls := "MatchSeeker", name := "history", desc := "(I)Z" } : Jvm.MethodName) ∈ zALL := zall (zt2 (zmem (i := 89) (by decide +kernel))) rfl
theorem aw_330 : Cond.instanceMethod ({ cls := "MatchSeeker", name := "history", desc := "(I)Z" } : Jvm.MethodName) ∈ zALL := zall (zt2 (zmem (i := 90) (by decide +kernel))) rfl
theorem aw_331 : Cond.selects "MatchSeeker" ({ cls := "MatchSeeker", name := "history", desc := "(I)Z" } : Jvm.MethodName) ({ cls := "MatchSeeker", name := "history", desc := "(I)Z" } : Jvm.MethodName) ∈ zALL := zall (zt2 (zmem (i := 91) (by decide +kernel))) rfl
theorem aw_332 : Cond.code ({ cls := "MatchSeeker", name := "history", desc := "(I)Z" } : Jvm.MethodName) prog_1_method_5_code (2 : Nat) (Option.some Jvm.ClassFile.FieldType.boolean) ∈ zALL := zall (zt2 (zmem (i := 92) (by decide +kernel))) rfl
theorem aw_333 : Cond.methodLink "MatchSeekerLaw" (34 : Nat) ({ cls := "MatchSeeker", name := "rule", desc := "(IIII)Z" } : Jvm.MethodName) ∈ zALL := zall (zt2 (zmem (i := 93) (by decide +kernel))) rfl
theorem aw_334 : Cond.instanceMethod ({ cls := "MatchSeeker", name := "rule", desc := "(IIII)Z" } : Jvm.MethodName) ∈ zALL := zall (zt2 (zmem (i := 94) (by decide +kernel))) rfl
theorem aw_335 : Cond.selects "MatchSeeker" ({ cls := "MatchSeeker", name := "rule", desc := "(IIII)Z" } : Jvm.MethodName) ({ cls := "MatchSeeker", name := "rule", desc := "(IIII)Z" } : Jvm.MethodName) ∈ zALL := zall (zt2 (zmem (i := 95) (by decide +kernel))) rfl
theorem aw_336 : Cond.code ({ cls := "MatchSeeker", name := "rule", desc := "(IIII)Z" } : Jvm.MethodName) prog_1_method_6_code (5 : Nat) (Option.some Jvm.ClassFile.FieldType.boolean) ∈ zALL := zall (zt2 (zmem (i := 96) (by decide +kernel))) rfl
theorem aw_337 : Cond.constant "MatchSeeker" (80 : Nat) (65536 : Int32) ∈ zALL := zall (zt2 (zmem (i := 97) (by decide +kernel))) rfl
theorem aw_338 : Cond.constant "MatchSeeker" (81 : Nat) (131072 : Int32) ∈ zALL := zall (zt2 (zmem (i := 98) (by decide +kernel))) rfl
theorem aw_339 : Cond.methodLink "MatchSeekerLaw" (39 : Nat) ({ cls := "MatchSeeker", name := "bounds", desc := "(IIII)Z" } : Jvm.MethodName) ∈ zALL := zall (zt2 (zmem (i := 99) (by decide +kernel))) rfl
theorem aw_340 : Cond.instanceMethod ({ cls := "MatchSeeker", name := "bounds", desc := "(IIII)Z" } : Jvm.MethodName) ∈ zALL := zall (zt2 (zmem (i := 100) (by decide +kernel))) rfl
theorem aw_341 : Cond.selects "MatchSeeker" ({ cls := "MatchSeeker", name := "bounds", desc := "(IIII)Z" } : Jvm.MethodName) ({ cls := "MatchSeeker", name := "bounds", desc := "(IIII)Z" } : Jvm.MethodName) ∈ zALL := zall (zt2 (zmem (i := 101) (by decide +kernel))) rfl
theorem aw_342 : Cond.code ({ cls := "MatchSeeker", name := "bounds", desc := "(IIII)Z" } : Jvm.MethodName) prog_1_method_7_code (5 : Nat) (Option.some Jvm.ClassFile.FieldType.boolean) ∈ zALL := zall (zt2 (zmem (i := 102) (by decide +kernel))) rfl
theorem aw_343 : Cond.methodLink "MatchSeekerLaw" (43 : Nat) ({ cls := "MatchSeeker", name := "at", desc := "(III)I" } : Jvm.MethodName) ∈ zALL := zall (zt2 (zmem (i := 103) (by decide +kernel))) rfl
theorem aw_344 : Cond.instanceMethod ({ cls := "MatchSeeker", name := "at", desc := "(III)I" } : Jvm.MethodName) ∈ zALL := zall (zt2 (zmem (i := 104) (by decide +kernel))) rfl
theorem aw_345 : Cond.selects "MatchSeeker" ({ cls := "MatchSeeker", name := "at", desc := "(III)I" } : Jvm.MethodName) ({ cls := "MatchSeeker", name := "at", desc := "(III)I" } : Jvm.MethodName) ∈ zALL := zall (zt2 (zmem (i := 105) (by decide +kernel))) rfl
theorem aw_346 : Cond.code ({ cls := "MatchSeeker", name := "at", desc := "(III)I" } : Jvm.MethodName) prog_1_method_8_code (4 : Nat) (Option.some Jvm.ClassFile.FieldType.int) ∈ zALL := zall (zt2 (zmem (i := 106) (by decide +kernel))) rfl
theorem nw_347 : Cond.methodLinkNest "MatchSeeker" (106 : Nat) ({ cls := "MatchSeeker$Row", name := "hasPlace", desc := "(I)Z" } : Jvm.MethodName) "MatchSeeker" ∈ nwL := znw (zt2 (zmem (i := 107) (by decide +kernel))) rfl
theorem aw_349 : Cond.instanceMethod ({ cls := "MatchSeeker$Row", name := "hasPlace", desc := "(I)Z" } : Jvm.MethodName) ∈ zALL := zall (zt2 (zmem (i := 109) (by decide +kernel))) rfl
theorem aw_350 : Cond.code ({ cls := "MatchSeeker$Row", name := "hasPlace", desc := "(I)Z" } : Jvm.MethodName) prog_5_method_2_code (2 : Nat) (Option.some Jvm.ClassFile.FieldType.boolean) ∈ zALL := zall (zt2 (zmem (i := 110) (by decide +kernel))) rfl
theorem nw_351 : Cond.methodLinkNest "MatchSeeker" (110 : Nat) ({ cls := "MatchSeeker$Finder", name := "readData", desc := "()V" } : Jvm.MethodName) "MatchSeeker" ∈ nwL := znw (zt2 (zmem (i := 111) (by decide +kernel))) rfl
theorem aw_353 : Cond.instanceMethod ({ cls := "MatchSeeker$Finder", name := "readData", desc := "()V" } : Jvm.MethodName) ∈ zALL := zall (zt2 (zmem (i := 113) (by decide +kernel))) rfl
theorem aw_354 : Cond.code ({ cls := "MatchSeeker$Finder", name := "readData", desc := "()V" } : Jvm.MethodName) prog_2_method_4_code (2 : Nat) (Option.none : Option Jvm.ClassFile.FieldType) ∈ zALL := zall (zt2 (zmem (i := 114) (by decide +kernel))) rfl
theorem nw_355 : Cond.methodLinkNest "MatchSeeker$Finder" (79 : Nat) ({ cls := "MatchSeeker", name := "roomFor", desc := "(I)I" } : Jvm.MethodName) "MatchSeeker" ∈ nwL := znw (zt2 (zmem (i := 115) (by decide +kernel))) rfl
theorem aw_356 : Cond.methodLink "MatchSeeker$Finder" (83 : Nat) ({ cls := "MatchSeeker$Finder", name := "enlarge", desc := "(I)V" } : Jvm.MethodName) ∈ zALL := zall (zt2 (zmem (i := 116) (by decide +kernel))) rfl
theorem aw_358 : Cond.instanceMethod ({ cls := "MatchSeeker$Finder", name := "enlarge", desc := "(I)V" } : Jvm.MethodName) ∈ zALL := zall (zt2 (zmem (i := 118) (by decide +kernel))) rfl
theorem aw_359 : Cond.code ({ cls := "MatchSeeker$Finder", name := "enlarge", desc := "(I)V" } : Jvm.MethodName) prog_2_method_5_code (2 : Nat) (Option.none : Option Jvm.ClassFile.FieldType) ∈ zALL := zall (zt2 (zmem (i := 119) (by decide +kernel))) rfl
theorem aw_360 : Cond.methodLink "MatchSeeker$Finder" (87 : Nat) ({ cls := "MatchSeeker$Finder", name := "slotOf", desc := "(I)I" } : Jvm.MethodName) ∈ zALL := zall (zt2 (zmem (i := 120) (by decide +kernel))) rfl
theorem aw_362 : Cond.instanceMethod ({ cls := "MatchSeeker$Finder", name := "slotOf", desc := "(I)I" } : Jvm.MethodName) ∈ zALL := zall (zt2 (zmem (i := 122) (by decide +kernel))) rfl
theorem aw_363 : Cond.code ({ cls := "MatchSeeker$Finder", name := "slotOf", desc := "(I)I" } : Jvm.MethodName) prog_2_method_6_code (5 : Nat) (Option.some Jvm.ClassFile.FieldType.int) ∈ zALL := zall (zt2 (zmem (i := 123) (by decide +kernel))) rfl
theorem aw_364 : Cond.constantLong "MatchSeeker$Finder" (94 : Nat) (-7046029254386353131 : Int64) ∈ zALL := zall (zt2 (zmem (i := 124) (by decide +kernel))) rfl
theorem nw_365 : Cond.methodLinkNest "MatchSeeker" (113 : Nat) ({ cls := "MatchSeeker$Finder", name := "seek", desc := "(II)V" } : Jvm.MethodName) "MatchSeeker" ∈ nwL := znw (zt2 (zmem (i := 125) (by decide +kernel))) rfl
theorem aw_367 : Cond.instanceMethod ({ cls := "MatchSeeker$Finder", name := "seek", desc := "(II)V" } : Jvm.MethodName) ∈ zALL := zall (zt2 (zmem (i := 127) (by decide +kernel))) rfl
theorem aw_368 : Cond.code ({ cls := "MatchSeeker$Finder", name := "seek", desc := "(II)V" } : Jvm.MethodName) prog_2_method_7_code (3 : Nat) (Option.none : Option Jvm.ClassFile.FieldType) ∈ zALL := zall (zt2 (zmem (i := 128) (by decide +kernel))) rfl
theorem aw_369 : Cond.methodLink "MatchSeeker$Finder" (96 : Nat) ({ cls := "MatchSeeker$Finder", name := "seekNearest", desc := "(I)V" } : Jvm.MethodName) ∈ zALL := zall (zt2 (zmem (i := 129) (by decide +kernel))) rfl
theorem aw_371 : Cond.instanceMethod ({ cls := "MatchSeeker$Finder", name := "seekNearest", desc := "(I)V" } : Jvm.MethodName) ∈ zALL := zall (zt2 (zmem (i := 131) (by decide +kernel))) rfl
theorem aw_372 : Cond.code ({ cls := "MatchSeeker$Finder", name := "seekNearest", desc := "(I)V" } : Jvm.MethodName) prog_2_method_8_code (2 : Nat) (Option.none : Option Jvm.ClassFile.FieldType) ∈ zALL := zall (zt2 (zmem (i := 132) (by decide +kernel))) rfl
theorem aw_373 : Cond.methodLink "MatchSeeker$Finder" (99 : Nat) ({ cls := "MatchSeeker$Finder", name := "startAt", desc := "(II)V" } : Jvm.MethodName) ∈ zALL := zall (zt2 (zmem (i := 133) (by decide +kernel))) rfl
theorem aw_375 : Cond.instanceMethod ({ cls := "MatchSeeker$Finder", name := "startAt", desc := "(II)V" } : Jvm.MethodName) ∈ zALL := zall (zt2 (zmem (i := 135) (by decide +kernel))) rfl
theorem aw_376 : Cond.code ({ cls := "MatchSeeker$Finder", name := "startAt", desc := "(II)V" } : Jvm.MethodName) prog_2_method_12_code (4 : Nat) (Option.none : Option Jvm.ClassFile.FieldType) ∈ zALL := zall (zt2 (zmem (i := 136) (by decide +kernel))) rfl
theorem aw_377 : Cond.methodLink "MatchSeeker$Finder" (120 : Nat) ({ cls := "java/lang/Math", name := "max", desc := "(II)I" } : Jvm.MethodName) ∈ zALL := zall (zt2 (zmem (i := 137) (by decide +kernel))) rfl
theorem aw_378 : Cond.static ({ cls := "java/lang/Math", name := "max", desc := "(II)I" } : Jvm.MethodName) ∈ zALL := zall (zt2 (zmem (i := 138) (by decide +kernel))) rfl
theorem aw_379 : Cond.code ({ cls := "java/lang/Math", name := "max", desc := "(II)I" } : Jvm.MethodName) prog_10_method_65_code (2 : Nat) (Option.some Jvm.ClassFile.FieldType.int) ∈ zALL := zall (zt2 (zmem (i := 139) (by decide +kernel))) rfl
theorem nw_380 : Cond.methodLinkNest "MatchSeeker$Finder" (129 : Nat) ({ cls := "MatchSeeker$Rule", name := "endOf", desc := "(I)I" } : Jvm.MethodName) "MatchSeeker" ∈ nwL := znw (zt2 (zmem (i := 140) (by decide +kernel))) rfl
theorem aw_382 : Cond.instanceMethod ({ cls := "MatchSeeker$Rule", name := "endOf", desc := "(I)I" } : Jvm.MethodName) ∈ zALL := zall (zt2 (zmem (i := 142) (by decide +kernel))) rfl
theorem aw_383 : Cond.code ({ cls := "MatchSeeker$Rule", name := "endOf", desc := "(I)I" } : Jvm.MethodName) prog_6_method_3_code (2 : Nat) (Option.some Jvm.ClassFile.FieldType.int) ∈ zALL := zall (zt2 (zmem (i := 143) (by decide +kernel))) rfl
theorem aw_384 : Cond.methodLink "MatchSeeker$Rule" (38 : Nat) ({ cls := "java/lang/Math", name := "max", desc := "(II)I" } : Jvm.MethodName) ∈ zALL := zall (zt2 (zmem (i := 144) (by decide +kernel))) rfl
theorem aw_385 : Cond.methodLink "MatchSeeker$Finder" (132 : Nat) ({ cls := "java/lang/Math", name := "min", desc := "(II)I" } : Jvm.MethodName) ∈ zALL := zall (zt2 (zmem (i := 145) (by decide +kernel))) rfl
theorem nw_386 : Cond.methodLinkNest "MatchSeeker$Finder" (135 : Nat) ({ cls := "MatchSeeker$Rule", name := "lastOf", desc := "(I)I" } : Jvm.MethodName) "MatchSeeker" ∈ nwL := znw (zt2 (zmem (i := 146) (by decide +kernel))) rfl
theorem aw_388 : Cond.instanceMethod ({ cls := "MatchSeeker$Rule", name := "lastOf", desc := "(I)I" } : Jvm.MethodName) ∈ zALL := zall (zt2 (zmem (i := 148) (by decide +kernel))) rfl
theorem aw_389 : Cond.code ({ cls := "MatchSeeker$Rule", name := "lastOf", desc := "(I)I" } : Jvm.MethodName) prog_6_method_2_code (2 : Nat) (Option.some Jvm.ClassFile.FieldType.int) ∈ zALL := zall (zt2 (zmem (i := 149) (by decide +kernel))) rfl
theorem aw_390 : Cond.methodLink "MatchSeeker$Finder" (103 : Nat) ({ cls := "MatchSeeker$Finder", name := "findLonger", desc := "()Z" } : Jvm.MethodName) ∈ zALL := zall (zt2 (zmem (i := 150) (by decide +kernel))) rfl
theorem aw_392 : Cond.instanceMethod ({ cls := "MatchSeeker$Finder", name := "findLonger", desc := "()Z" } : Jvm.MethodName) ∈ zALL := zall (zt2 (zmem (i := 152) (by decide +kernel))) rfl
theorem aw_393 : Cond.code ({ cls := "MatchSeeker$Finder", name := "findLonger", desc := "()Z" } : Jvm.MethodName) prog_2_method_14_code (5 : Nat) (Option.some Jvm.ClassFile.FieldType.boolean) ∈ zALL := zall (zt2 (zmem (i := 153) (by decide +kernel))) rfl
theorem aw_394 : Cond.methodLink "MatchSeeker$Finder" (113 : Nat) ({ cls := "MatchSeeker$Finder", name := "sameBytes", desc := "(III)I" } : Jvm.MethodName) ∈ zALL := zall (zt2 (zmem (i := 154) (by decide +kernel))) rfl
theorem aw_396 : Cond.instanceMethod ({ cls := "MatchSeeker$Finder", name := "sameBytes", desc := "(III)I" } : Jvm.MethodName) ∈ zALL := zall (zt2 (zmem (i := 156) (by decide +kernel))) rfl
theorem aw_397 : Cond.code ({ cls := "MatchSeeker$Finder", name := "sameBytes", desc := "(III)I" } : Jvm.MethodName) prog_2_method_15_code (10 : Nat) (Option.some Jvm.ClassFile.FieldType.int) ∈ zALL := zall (zt2 (zmem (i := 157) (by decide +kernel))) rfl
theorem aw_398 : Cond.methodLink "MatchSeeker$Finder" (107 : Nat) ({ cls := "MatchSeeker$Finder", name := "seekLongestIfNotNext", desc := "(I)V" } : Jvm.MethodName) ∈ zALL := zall (zt2 (zmem (i := 158) (by decide +kernel))) rfl
theorem aw_400 : Cond.instanceMethod ({ cls := "MatchSeeker$Finder", name := "seekLongestIfNotNext", desc := "(I)V" } : Jvm.MethodName) ∈ zALL := zall (zt2 (zmem (i := 160) (by decide +kernel))) rfl
theorem aw_401 : Cond.code ({ cls := "MatchSeeker$Finder", name := "seekLongestIfNotNext", desc := "(I)V" } : Jvm.MethodName) prog_2_method_10_code (5 : Nat) (Option.none : Option Jvm.ClassFile.FieldType) ∈ zALL := zall (zt2 (zmem (i := 161) (by decide +kernel))) rfl
theorem aw_402 : Cond.methodLink "MatchSeeker$Finder" (110 : Nat) ({ cls := "MatchSeeker$Finder", name := "seekLongest", desc := "(I)V" } : Jvm.MethodName) ∈ zALL := zall (zt2 (zmem (i := 162) (by decide +kernel))) rfl
theorem aw_404 : Cond.instanceMethod ({ cls := "MatchSeeker$Finder", name := "seekLongest", desc := "(I)V" } : Jvm.MethodName) ∈ zALL := zall (zt2 (zmem (i := 164) (by decide +kernel))) rfl
theorem aw_405 : Cond.code ({ cls := "MatchSeeker$Finder", name := "seekLongest", desc := "(I)V" } : Jvm.MethodName) prog_2_method_9_code (3 : Nat) (Option.none : Option Jvm.ClassFile.FieldType) ∈ zALL := zall (zt2 (zmem (i := 165) (by decide +kernel))) rfl
theorem aw_406 : Cond.methodLink "MatchSeekerLaw" (48 : Nat) ({ cls := "MatchSeeker", name := "count", desc := "(I)I" } : Jvm.MethodName) ∈ zALL := zall (zt2 (zmem (i := 166) (by decide +kernel))) rfl
theorem aw_407 : Cond.instanceMethod ({ cls := "MatchSeeker", name := "count", desc := "(I)I" } : Jvm.MethodName) ∈ zALL := zall (zt2 (zmem (i := 167) (by decide +kernel))) rfl
theorem aw_408 : Cond.selects "MatchSeeker" ({ cls := "MatchSeeker", name := "count", desc := "(I)I" } : Jvm.MethodName) ({ cls := "MatchSeeker", name := "count", desc := "(I)I" } : Jvm.MethodName) ∈ zALL := zall (zt2 (zmem (i := 168) (by decide +kernel))) rfl
theorem aw_409 : Cond.code ({ cls := "MatchSeeker", name := "count", desc := "(I)I" } : Jvm.MethodName) prog_1_method_9_code (2 : Nat) (Option.some Jvm.ClassFile.FieldType.int) ∈ zALL := zall (zt2 (zmem (i := 169) (by decide +kernel))) rfl
theorem nw_410 : Cond.methodLinkNest "MatchSeeker" (122 : Nat) ({ cls := "MatchSeeker$Finder", name := "matchesAt", desc := "(I)I" } : Jvm.MethodName) "MatchSeeker" ∈ nwL := znw (zt2 (zmem (i := 170) (by decide +kernel))) rfl
theorem aw_412 : Cond.instanceMethod ({ cls := "MatchSeeker$Finder", name := "matchesAt", desc := "(I)I" } : Jvm.MethodName) ∈ zALL := zall (zt2 (zmem (i := 172) (by decide +kernel))) rfl
theorem aw_413 : Cond.code ({ cls := "MatchSeeker$Finder", name := "matchesAt", desc := "(I)I" } : Jvm.MethodName) prog_2_method_11_code (4 : Nat) (Option.some Jvm.ClassFile.FieldType.int) ∈ zALL := zall (zt2 (zmem (i := 173) (by decide +kernel))) rfl
theorem aw_414 : Cond.methodLink "MatchSeekerLaw" (53 : Nat) ({ cls := "MatchSeeker", name := "go", desc := "()I" } : Jvm.MethodName) ∈ zALL := zall (zt2 (zmem (i := 174) (by decide +kernel))) rfl
theorem aw_415 : Cond.instanceMethod ({ cls := "MatchSeeker", name := "go", desc := "()I" } : Jvm.MethodName) ∈ zALL := zall (zt2 (zmem (i := 175) (by decide +kernel))) rfl
theorem aw_416 : Cond.selects "MatchSeeker" ({ cls := "MatchSeeker", name := "go", desc := "()I" } : Jvm.MethodName) ({ cls := "MatchSeeker", name := "go", desc := "()I" } : Jvm.MethodName) ∈ zALL := zall (zt2 (zmem (i := 176) (by decide +kernel))) rfl
theorem aw_417 : Cond.code ({ cls := "MatchSeeker", name := "go", desc := "()I" } : Jvm.MethodName) prog_1_method_10_code (2 : Nat) (Option.some Jvm.ClassFile.FieldType.int) ∈ zALL := zall (zt2 (zmem (i := 177) (by decide +kernel))) rfl
theorem nw_418 : Cond.methodLinkNest "MatchSeeker" (126 : Nat) ({ cls := "MatchSeeker$Found", name := "begin", desc := "()V" } : Jvm.MethodName) "MatchSeeker" ∈ nwL := znw (zt2 (zmem (i := 178) (by decide +kernel))) rfl
theorem aw_420 : Cond.instanceMethod ({ cls := "MatchSeeker$Found", name := "begin", desc := "()V" } : Jvm.MethodName) ∈ zALL := zall (zt2 (zmem (i := 180) (by decide +kernel))) rfl
theorem aw_421 : Cond.code ({ cls := "MatchSeeker$Found", name := "begin", desc := "()V" } : Jvm.MethodName) prog_3_method_3_code (2 : Nat) (Option.none : Option Jvm.ClassFile.FieldType) ∈ zALL := zall (zt2 (zmem (i := 181) (by decide +kernel))) rfl
theorem aw_422 : Cond.methodLink "MatchSeeker$Found" (58 : Nat) ({ cls := "MatchSeeker$Found", name := "forget", desc := "()V" } : Jvm.MethodName) ∈ zALL := zall (zt2 (zmem (i := 182) (by decide +kernel))) rfl
theorem nw_423 : Cond.methodLinkNest "MatchSeeker$Found" (69 : Nat) ({ cls := "MatchSeeker", name := "roomFor", desc := "(I)I" } : Jvm.MethodName) "MatchSeeker" ∈ nwL := znw (zt2 (zmem (i := 183) (by decide +kernel))) rfl
theorem aw_424 : Cond.methodLink "MatchSeeker" (129 : Nat) ({ cls := "MatchSeeker", name := "followPlan", desc := "()V" } : Jvm.MethodName) ∈ zALL := zall (zt2 (zmem (i := 184) (by decide +kernel))) rfl
theorem aw_426 : Cond.instanceMethod ({ cls := "MatchSeeker", name := "followPlan", desc := "()V" } : Jvm.MethodName) ∈ zALL := zall (zt2 (zmem (i := 186) (by decide +kernel))) rfl
theorem aw_427 : Cond.code ({ cls := "MatchSeeker", name := "followPlan", desc := "()V" } : Jvm.MethodName) prog_1_method_16_code (3 : Nat) (Option.none : Option Jvm.ClassFile.FieldType) ∈ zALL := zall (zt2 (zmem (i := 187) (by decide +kernel))) rfl
theorem nw_428 : Cond.methodLinkNest "MatchSeeker" (176 : Nat) ({ cls := "MatchSeeker$Plan", name := "make", desc := "()V" } : Jvm.MethodName) "MatchSeeker" ∈ nwL := znw (zt2 (zmem (i := 188) (by decide +kernel))) rfl
theorem aw_430 : Cond.instanceMethod ({ cls := "MatchSeeker$Plan", name := "make", desc := "()V" } : Jvm.MethodName) ∈ zALL := zall (zt2 (zmem (i := 190) (by decide +kernel))) rfl
theorem aw_431 : Cond.code ({ cls := "MatchSeeker$Plan", name := "make", desc := "()V" } : Jvm.MethodName) prog_4_method_2_code (5 : Nat) (Option.none : Option Jvm.ClassFile.FieldType) ∈ zALL := zall (zt2 (zmem (i := 191) (by decide +kernel))) rfl
theorem aw_432 : Cond.methodLink "MatchSeeker$Plan" (48 : Nat) ({ cls := "MatchSeeker$Plan", name := "makeRoom", desc := "(I)V" } : Jvm.MethodName) ∈ zALL := zall (zt2 (zmem (i := 192) (by decide +kernel))) rfl
theorem aw_434 : Cond.instanceMethod ({ cls := "MatchSeeker$Plan", name := "makeRoom", desc := "(I)V" } : Jvm.MethodName) ∈ zALL := zall (zt2 (zmem (i := 194) (by decide +kernel))) rfl
theorem aw_435 : Cond.code ({ cls := "MatchSeeker$Plan", name := "makeRoom", desc := "(I)V" } : Jvm.MethodName) prog_4_method_3_code (3 : Nat) (Option.none : Option Jvm.ClassFile.FieldType) ∈ zALL := zall (zt2 (zmem (i := 195) (by decide +kernel))) rfl
theorem nw_436 : Cond.methodLinkNest "MatchSeeker$Plan" (76 : Nat) ({ cls := "MatchSeeker", name := "roomFor", desc := "(I)I" } : Jvm.MethodName) "MatchSeeker" ∈ nwL := znw (zt2 (zmem (i := 196) (by decide +kernel))) rfl
theorem aw_437 : Cond.methodLink "MatchSeeker$Plan" (79 : Nat) ({ cls := "java/lang/Math", name := "min", desc := "(II)I" } : Jvm.MethodName) ∈ zALL := zall (zt2 (zmem (i := 197) (by decide +kernel))) rfl
theorem nw_438 : Cond.methodLinkNest "MatchSeeker$Plan" (52 : Nat) ({ cls := "MatchSeeker$Rule", name := "lastOf", desc := "(I)I" } : Jvm.MethodName) "MatchSeeker" ∈ nwL := znw (zt2 (zmem (i := 198) (by decide +kernel))) rfl
theorem aw_439 : Cond.constant "MatchSeeker$Plan" (58 : Nat) (32768 : Int32) ∈ zALL := zall (zt2 (zmem (i := 199) (by decide +kernel))) rfl
theorem aw_440 : Cond.methodLink "MatchSeeker$Plan" (62 : Nat) ({ cls := "MatchSeeker$Plan", name := "addEnd", desc := "(I)V" } : Jvm.MethodName) ∈ zALL := zall (zt2 (zmem (i := 200) (by decide +kernel))) rfl
theorem aw_442 : Cond.instanceMethod ({ cls := "MatchSeeker$Plan", name := "addEnd", desc := "(I)V" } : Jvm.MethodName) ∈ zALL := zall (zt2 (zmem (i := 202) (by decide +kernel))) rfl
theorem aw_443 : Cond.code ({ cls := "MatchSeeker$Plan", name := "addEnd", desc := "(I)V" } : Jvm.MethodName) prog_4_method_7_code (2 : Nat) (Option.none : Option Jvm.ClassFile.FieldType) ∈ zALL := zall (zt2 (zmem (i := 203) (by decide +kernel))) rfl
theorem aw_444 : Cond.methodLink "MatchSeeker$Plan" (65 : Nat) ({ cls := "MatchSeeker$Plan", name := "takeLiteral", desc := "(I)V" } : Jvm.MethodName) ∈ zALL := zall (zt2 (zmem (i := 204) (by decide +kernel))) rfl
theorem aw_446 : Cond.instanceMethod ({ cls := "MatchSeeker$Plan", name := "takeLiteral", desc := "(I)V" } : Jvm.MethodName) ∈ zALL := zall (zt2 (zmem (i := 206) (by decide +kernel))) rfl
theorem aw_447 : Cond.code ({ cls := "MatchSeeker$Plan", name := "takeLiteral", desc := "(I)V" } : Jvm.MethodName) prog_4_method_4_code (2 : Nat) (Option.none : Option Jvm.ClassFile.FieldType) ∈ zALL := zall (zt2 (zmem (i := 207) (by decide +kernel))) rfl
theorem aw_448 : Cond.methodLink "MatchSeeker$Plan" (68 : Nat) ({ cls := "MatchSeeker$Plan", name := "takeBestMatch", desc := "(II)V" } : Jvm.MethodName) ∈ zALL := zall (zt2 (zmem (i := 208) (by decide +kernel))) rfl
theorem aw_450 : Cond.instanceMethod ({ cls := "MatchSeeker$Plan", name := "takeBestMatch", desc := "(II)V" } : Jvm.MethodName) ∈ zALL := zall (zt2 (zmem (i := 210) (by decide +kernel))) rfl
theorem aw_451 : Cond.code ({ cls := "MatchSeeker$Plan", name := "takeBestMatch", desc := "(II)V" } : Jvm.MethodName) prog_4_method_5_code (5 : Nat) (Option.none : Option Jvm.ClassFile.FieldType) ∈ zALL := zall (zt2 (zmem (i := 211) (by decide +kernel))) rfl
theorem nw_452 : Cond.methodLinkNest "MatchSeeker$Plan" (88 : Nat) ({ cls := "MatchSeeker$Finder", name := "startAt", desc := "(II)V" } : Jvm.MethodName) "MatchSeeker" ∈ nwL := znw (zt2 (zmem (i := 212) (by decide +kernel))) rfl
theorem aw_453 : Cond.methodLink "MatchSeeker$Plan" (91 : Nat) ({ cls := "java/lang/Math", name := "max", desc := "(II)I" } : Jvm.MethodName) ∈ zALL := zall (zt2 (zmem (i := 213) (by decide +kernel))) rfl
theorem nw_454 : Cond.methodLinkNest "MatchSeeker$Plan" (94 : Nat) ({ cls := "MatchSeeker$Finder", name := "expectAtMost", desc := "(I)V" } : Jvm.MethodName) "MatchSeeker" ∈ nwL := znw (zt2 (zmem (i := 214) (by decide +kernel))) rfl
theorem aw_456 : Cond.instanceMethod ({ cls := "MatchSeeker$Finder", name := "expectAtMost", desc := "(I)V" } : Jvm.MethodName) ∈ zALL := zall (zt2 (zmem (i := 216) (by decide +kernel))) rfl
theorem aw_457 : Cond.code ({ cls := "MatchSeeker$Finder", name := "expectAtMost", desc := "(I)V" } : Jvm.MethodName) prog_2_method_13_code (2 : Nat) (Option.none : Option Jvm.ClassFile.FieldType) ∈ zALL := zall (zt2 (zmem (i := 217) (by decide +kernel))) rfl
theorem nw_458 : Cond.methodLinkNest "MatchSeeker$Plan" (97 : Nat) ({ cls := "MatchSeeker$Finder", name := "findLonger", desc := "()Z" } : Jvm.MethodName) "MatchSeeker" ∈ nwL := znw (zt2 (zmem (i := 218) (by decide +kernel))) rfl
theorem aw_459 : Cond.methodLink "MatchSeeker$Plan" (103 : Nat) ({ cls := "MatchSeeker$Plan", name := "consider", desc := "(III)V" } : Jvm.MethodName) ∈ zALL := zall (zt2 (zmem (i := 219) (by decide +kernel))) rfl
theorem aw_461 : Cond.instanceMethod ({ cls := "MatchSeeker$Plan", name := "consider", desc := "(III)V" } : Jvm.MethodName) ∈ zALL := zall (zt2 (zmem (i := 221) (by decide +kernel))) rfl
theorem aw_462 : Cond.code ({ cls := "MatchSeeker$Plan", name := "consider", desc := "(III)V" } : Jvm.MethodName) prog_4_method_6_code (6 : Nat) (Option.none : Option Jvm.ClassFile.FieldType) ∈ zALL := zall (zt2 (zmem (i := 222) (by decide +kernel))) rfl
theorem aw_463 : Cond.methodLink "MatchSeeker$Plan" (107 : Nat) ({ cls := "MatchSeeker$Plan", name := "cheapestEnd", desc := "(I)I" } : Jvm.MethodName) ∈ zALL := zall (zt2 (zmem (i := 223) (by decide +kernel))) rfl
theorem aw_465 : Cond.instanceMethod ({ cls := "MatchSeeker$Plan", name := "cheapestEnd", desc := "(I)I" } : Jvm.MethodName) ∈ zALL := zall (zt2 (zmem (i := 225) (by decide +kernel))) rfl
theorem aw_466 : Cond.code ({ cls := "MatchSeeker$Plan", name := "cheapestEnd", desc := "(I)I" } : Jvm.MethodName) prog_4_method_8_code (5 : Nat) (Option.some Jvm.ClassFile.FieldType.int) ∈ zALL := zall (zt2 (zmem (i := 226) (by decide +kernel))) rfl
theorem nw_467 : Cond.methodLinkNest "MatchSeeker$Plan" (113 : Nat) ({ cls := "MatchSeeker", name := "bitsOf", desc := "(I)I" } : Jvm.MethodName) "MatchSeeker" ∈ nwL := znw (zt2 (zmem (i := 227) (by decide +kernel))) rfl
theorem aw_468 : Cond.static ({ cls := "MatchSeeker", name := "bitsOf", desc := "(I)I" } : Jvm.MethodName) ∈ zALL := zall (zt2 (zmem (i := 228) (by decide +kernel))) rfl
theorem aw_469 : Cond.code ({ cls := "MatchSeeker", name := "bitsOf", desc := "(I)I" } : Jvm.MethodName) prog_1_method_19_code (2 : Nat) (Option.some Jvm.ClassFile.FieldType.int) ∈ zALL := zall (zt2 (zmem (i := 229) (by decide +kernel))) rfl
theorem nw_470 : Cond.methodLinkNest "MatchSeeker" (167 : Nat) ({ cls := "MatchSeeker$Found", name := "add", desc := "(II)V" } : Jvm.MethodName) "MatchSeeker" ∈ nwL := znw (zt2 (zmem (i := 230) (by decide +kernel))) rfl
theorem aw_472 : Cond.instanceMethod ({ cls := "MatchSeeker$Found", name := "add", desc := "(II)V" } : Jvm.MethodName) ∈ zALL := zall (zt2 (zmem (i := 232) (by decide +kernel))) rfl
theorem aw_473 : Cond.code ({ cls := "MatchSeeker$Found", name := "add", desc := "(II)V" } : Jvm.MethodName) prog_3_method_4_code (3 : Nat) (Option.none : Option Jvm.ClassFile.FieldType) ∈ zALL := zall (zt2 (zmem (i := 233) (by decide +kernel))) rfl
theorem nw_474 : Cond.methodLinkNest "MatchSeeker$Found" (81 : Nat) ({ cls := "MatchSeeker", name := "bitsOf", desc := "(I)I" } : Jvm.MethodName) "MatchSeeker" ∈ nwL := znw (zt2 (zmem (i := 234) (by decide +kernel))) rfl
theorem aw_475 : Cond.methodLink "MatchSeeker$Found" (84 : Nat) ({ cls := "java/lang/Math", name := "max", desc := "(II)I" } : Jvm.MethodName) ∈ zALL := zall (zt2 (zmem (i := 235) (by decide +kernel))) rfl
theorem aw_476 : Cond.methodLink "MatchSeeker" (170 : Nat) ({ cls := "java/lang/Math", name := "max", desc := "(II)I" } : Jvm.MethodName) ∈ zALL := zall (zt2 (zmem (i := 236) (by decide +kernel))) rfl
theorem aw_477 : Cond.methodLink "MatchSeeker" (132 : Nat) ({ cls := "MatchSeeker", name := "takeWhatIsSought", desc := "()V" } : Jvm.MethodName) ∈ zALL := zall (zt2 (zmem (i := 237) (by decide +kernel))) rfl
theorem aw_479 : Cond.instanceMethod ({ cls := "MatchSeeker", name := "takeWhatIsSought", desc := "()V" } : Jvm.MethodName) ∈ zALL := zall (zt2 (zmem (i := 239) (by decide +kernel))) rfl
theorem aw_480 : Cond.code ({ cls := "MatchSeeker", name := "takeWhatIsSought", desc := "()V" } : Jvm.MethodName) prog_1_method_15_code (2 : Nat) (Option.none : Option Jvm.ClassFile.FieldType) ∈ zALL := zall (zt3 (zmem (i := 0) (by decide +kernel))) rfl
theorem aw_481 : Cond.methodLink "MatchSeekerLaw" (58 : Nat) ({ cls := "MatchSeeker", name := "stretch", desc := "(II)I" } : Jvm.MethodName) ∈ zALL := zall (zt3 (zmem (i := 1) (by decide +kernel))) rfl
theorem aw_482 : Cond.instanceMethod ({ cls := "MatchSeeker", name := "stretch", desc := "(II)I" } : Jvm.MethodName) ∈ zALL := zall (zt3 (zmem (i := 2) (by decide +kernel))) rfl
theorem aw_483 : Cond.selects "MatchSeeker" ({ cls := "MatchSeeker", name := "stretch", desc := "(II)I" } : Jvm.MethodName) ({ cls := "MatchSeeker", name := "stretch", desc := "(II)I" } : Jvm.MethodName) ∈ zALL := zall (zt3 (zmem (i := 3) (by decide +kernel))) rfl
theorem aw_484 : Cond.code ({ cls := "MatchSeeker", name := "stretch", desc := "(II)I" } : Jvm.MethodName) prog_1_method_11_code (3 : Nat) (Option.some Jvm.ClassFile.FieldType.int) ∈ zALL := zall (zt3 (zmem (i := 4) (by decide +kernel))) rfl
theorem aw_485 : Cond.methodLink "MatchSeekerLaw" (63 : Nat) ({ cls := "MatchSeeker", name := "about", desc := "(I)I" } : Jvm.MethodName) ∈ zALL := zall (zt3 (zmem (i := 5) (by decide +kernel))) rfl
theorem aw_486 : Cond.instanceMethod ({ cls := "MatchSeeker", name := "about", desc := "(I)I" } : Jvm.MethodName) ∈ zALL := zall (zt3 (zmem (i := 6) (by decide +kernel))) rfl
theorem aw_487 : Cond.selects "MatchSeeker" ({ cls := "MatchSeeker", name := "about", desc := "(I)I" } : Jvm.MethodName) ({ cls := "MatchSeeker", name := "about", desc := "(I)I" } : Jvm.MethodName) ∈ zALL := zall (zt3 (zmem (i := 7) (by decide +kernel))) rfl
theorem aw_488 : Cond.code ({ cls := "MatchSeeker", name := "about", desc := "(I)I" } : Jvm.MethodName) prog_1_method_12_code (2 : Nat) (Option.some Jvm.ClassFile.FieldType.int) ∈ zALL := zall (zt3 (zmem (i := 8) (by decide +kernel))) rfl
theorem aw_489 : Cond.methodLink "MatchSeekerLaw" (67 : Nat) ({ cls := "MatchSeeker", name := "unlike", desc := "()I" } : Jvm.MethodName) ∈ zALL := zall (zt3 (zmem (i := 9) (by decide +kernel))) rfl
theorem aw_490 : Cond.instanceMethod ({ cls := "MatchSeeker", name := "unlike", desc := "()I" } : Jvm.MethodName) ∈ zALL := zall (zt3 (zmem (i := 10) (by decide +kernel))) rfl
theorem aw_491 : Cond.selects "MatchSeeker" ({ cls := "MatchSeeker", name := "unlike", desc := "()I" } : Jvm.MethodName) ({ cls := "MatchSeeker", name := "unlike", desc := "()I" } : Jvm.MethodName) ∈ zALL := zall (zt3 (zmem (i := 11) (by decide +kernel))) rfl
theorem aw_492 : Cond.code ({ cls := "MatchSeeker", name := "unlike", desc := "()I" } : Jvm.MethodName) prog_1_method_13_code (1 : Nat) (Option.some Jvm.ClassFile.FieldType.int) ∈ zALL := zall (zt3 (zmem (i := 12) (by decide +kernel))) rfl
theorem nw_493 : Cond.methodLinkNest "MatchSeeker" (163 : Nat) ({ cls := "MatchSeeker$Found", name := "differences", desc := "()I" } : Jvm.MethodName) "MatchSeeker" ∈ nwL := znw (zt3 (zmem (i := 13) (by decide +kernel))) rfl
theorem aw_495 : Cond.instanceMethod ({ cls := "MatchSeeker$Found", name := "differences", desc := "()I" } : Jvm.MethodName) ∈ zALL := zall (zt3 (zmem (i := 15) (by decide +kernel))) rfl
theorem aw_496 : Cond.code ({ cls := "MatchSeeker$Found", name := "differences", desc := "()I" } : Jvm.MethodName) prog_3_method_5_code (3 : Nat) (Option.some Jvm.ClassFile.FieldType.int) ∈ zALL := zall (zt3 (zmem (i := 16) (by decide +kernel))) rfl
theorem aw_497 : Cond.methodLink "MatchSeeker$Found" (90 : Nat) ({ cls := "MatchSeeker$Found", name := "rebuild", desc := "()V" } : Jvm.MethodName) ∈ zALL := zall (zt3 (zmem (i := 17) (by decide +kernel))) rfl
theorem aw_499 : Cond.instanceMethod ({ cls := "MatchSeeker$Found", name := "rebuild", desc := "()V" } : Jvm.MethodName) ∈ zALL := zall (zt3 (zmem (i := 19) (by decide +kernel))) rfl
theorem aw_500 : Cond.code ({ cls := "MatchSeeker$Found", name := "rebuild", desc := "()V" } : Jvm.MethodName) prog_3_method_6_code (3 : Nat) (Option.none : Option Jvm.ClassFile.FieldType) ∈ zALL := zall (zt3 (zmem (i := 20) (by decide +kernel))) rfl
theorem aw_501 : Cond.methodLink "MatchSeeker$Found" (100 : Nat) ({ cls := "MatchSeeker$Found", name := "copyFromData", desc := "(II)I" } : Jvm.MethodName) ∈ zALL := zall (zt3 (zmem (i := 21) (by decide +kernel))) rfl
theorem aw_503 : Cond.instanceMethod ({ cls := "MatchSeeker$Found", name := "copyFromData", desc := "(II)I" } : Jvm.MethodName) ∈ zALL := zall (zt3 (zmem (i := 23) (by decide +kernel))) rfl
theorem aw_504 : Cond.code ({ cls := "MatchSeeker$Found", name := "copyFromData", desc := "(II)I" } : Jvm.MethodName) prog_3_method_7_code (5 : Nat) (Option.some Jvm.ClassFile.FieldType.int) ∈ zALL := zall (zt3 (zmem (i := 24) (by decide +kernel))) rfl
theorem nw_505 : Cond.methodLinkNest "MatchSeeker$Found" (93 : Nat) ({ cls := "MatchSeeker$Row", name := "hasPlace", desc := "(I)Z" } : Jvm.MethodName) "MatchSeeker" ∈ nwL := znw (zt3 (zmem (i := 25) (by decide +kernel))) rfl
theorem aw_506 : Cond.methodLink "MatchSeeker$Found" (103 : Nat) ({ cls := "MatchSeeker$Found", name := "copyFromRebuilt", desc := "(III)I" } : Jvm.MethodName) ∈ zALL := zall (zt3 (zmem (i := 26) (by decide +kernel))) rfl
theorem aw_508 : Cond.instanceMethod ({ cls := "MatchSeeker$Found", name := "copyFromRebuilt", desc := "(III)I" } : Jvm.MethodName) ∈ zALL := zall (zt3 (zmem (i := 28) (by decide +kernel))) rfl
theorem aw_509 : Cond.code ({ cls := "MatchSeeker$Found", name := "copyFromRebuilt", desc := "(III)I" } : Jvm.MethodName) prog_3_method_8_code (6 : Nat) (Option.some Jvm.ClassFile.FieldType.int) ∈ zALL := zall (zt3 (zmem (i := 29) (by decide +kernel))) rfl
theorem aw_510 : Cond.methodLink "MatchSeekerLaw" (71 : Nat) ({ cls := "MatchSeeker", name := "size", desc := "()I" } : Jvm.MethodName) ∈ zALL := zall (zt3 (zmem (i := 30) (by decide +kernel))) rfl
theorem aw_511 : Cond.instanceMethod ({ cls := "MatchSeeker", name := "size", desc := "()I" } : Jvm.MethodName) ∈ zALL := zall (zt3 (zmem (i := 31) (by decide +kernel))) rfl
theorem aw_512 : Cond.selects "MatchSeeker" ({ cls := "MatchSeeker", name := "size", desc := "()I" } : Jvm.MethodName) ({ cls := "MatchSeeker", name := "size", desc := "()I" } : Jvm.MethodName) ∈ zALL := zall (zt3 (zmem (i := 32) (by decide +kernel))) rfl
theorem aw_513 : Cond.code ({ cls := "MatchSeeker", name := "size", desc := "()I" } : Jvm.MethodName) prog_1_method_14_code (1 : Nat) (Option.some Jvm.ClassFile.FieldType.int) ∈ zALL := zall (zt3 (zmem (i := 33) (by decide +kernel))) rfl
theorem aw_514 : Cond.classLink "MatchSeekerLaw" (10 : Nat) "MatchSeekerModel" ∈ zALL := zall (zt3 (zmem (i := 34) (by decide +kernel))) rfl
theorem aw_515 : Cond.instantiable "MatchSeekerModel" (26 : Nat) ∈ zALL := zall (zt3 (zmem (i := 35) (by decide +kernel))) rfl
theorem aw_516 : Cond.methodLink "MatchSeekerLaw" (12 : Nat) ({ cls := "MatchSeekerModel", name := "<init>", desc := "()V" } : Jvm.MethodName) ∈ zALL := zall (zt3 (zmem (i := 36) (by decide +kernel))) rfl
theorem aw_517 : Cond.instanceMethod ({ cls := "MatchSeekerModel", name := "<init>", desc := "()V" } : Jvm.MethodName) ∈ zALL := zall (zt3 (zmem (i := 37) (by decide +kernel))) rfl
theorem aw_518 : Cond.code ({ cls := "MatchSeekerModel", name := "<init>", desc := "()V" } : Jvm.MethodName) prog_8_method_1_code (1 : Nat) (Option.none : Option Jvm.ClassFile.FieldType) ∈ zALL := zall (zt3 (zmem (i := 38) (by decide +kernel))) rfl
theorem aw_519 : Cond.methodLink "MatchSeekerModel" (1 : Nat) ({ cls := "java/lang/Object", name := "<init>", desc := "()V" } : Jvm.MethodName) ∈ zALL := zall (zt3 (zmem (i := 39) (by decide +kernel))) rfl
theorem aw_520 : Cond.constant "MatchSeekerModel" (7 : Nat) (32768 : Int32) ∈ zALL := zall (zt3 (zmem (i := 40) (by decide +kernel))) rfl
theorem aw_521 : Cond.constant "MatchSeekerModel" (18 : Nat) (65536 : Int32) ∈ zALL := zall (zt3 (zmem (i := 41) (by decide +kernel))) rfl
theorem aw_522 : Cond.constant "MatchSeekerModel" (25 : Nat) (131072 : Int32) ∈ zALL := zall (zt3 (zmem (i := 42) (by decide +kernel))) rfl
theorem aw_523 : Cond.fieldLink "MatchSeekerModel" (8 : Nat) "MatchSeekerModel" "data" "[B" ∈ zALL := zall (zt3 (zmem (i := 43) (by decide +kernel))) rfl
theorem aw_524 : Cond.fieldLink "MatchSeekerModel" (57 : Nat) "MatchSeekerModel" "n" "I" ∈ zALL := zall (zt3 (zmem (i := 44) (by decide +kernel))) rfl
theorem aw_525 : Cond.fieldLink "MatchSeekerModel" (60 : Nat) "MatchSeekerModel" "h" "I" ∈ zALL := zall (zt3 (zmem (i := 45) (by decide +kernel))) rfl
theorem aw_526 : Cond.fieldLink "MatchSeekerModel" (14 : Nat) "MatchSeekerModel" "way" "I" ∈ zALL := zall (zt3 (zmem (i := 46) (by decide +kernel))) rfl
theorem aw_527 : Cond.fieldLink "MatchSeekerModel" (19 : Nat) "MatchSeekerModel" "window" "I" ∈ zALL := zall (zt3 (zmem (i := 47) (by decide +kernel))) rfl
theorem aw_528 : Cond.fieldLink "MatchSeekerModel" (22 : Nat) "MatchSeekerModel" "least" "I" ∈ zALL := zall (zt3 (zmem (i := 48) (by decide +kernel))) rfl
theorem aw_529 : Cond.fieldLink "MatchSeekerModel" (26 : Nat) "MatchSeekerModel" "cap" "I" ∈ zALL := zall (zt3 (zmem (i := 49) (by decide +kernel))) rfl
theorem aw_530 : Cond.fieldLink "MatchSeekerModel" (85 : Nat) "MatchSeekerModel" "a" "I" ∈ zALL := zall (zt3 (zmem (i := 50) (by decide +kernel))) rfl
theorem aw_531 : Cond.fieldLink "MatchSeekerModel" (88 : Nat) "MatchSeekerModel" "b" "I" ∈ zALL := zall (zt3 (zmem (i := 51) (by decide +kernel))) rfl
theorem aw_532 : Cond.fieldLink "MatchSeekerModel" (29 : Nat) "MatchSeekerModel" "literalPrice" "I" ∈ zALL := zall (zt3 (zmem (i := 52) (by decide +kernel))) rfl
theorem aw_533 : Cond.fieldLink "MatchSeekerModel" (32 : Nat) "MatchSeekerModel" "matchPrice" "I" ∈ zALL := zall (zt3 (zmem (i := 53) (by decide +kernel))) rfl
theorem aw_534 : Cond.fieldLink "MatchSeekerModel" (35 : Nat) "MatchSeekerModel" "before" "[I" ∈ zALL := zall (zt3 (zmem (i := 54) (by decide +kernel))) rfl
theorem aw_535 : Cond.fieldLink "MatchSeekerModel" (39 : Nat) "MatchSeekerModel" "length" "[I" ∈ zALL := zall (zt3 (zmem (i := 55) (by decide +kernel))) rfl
theorem aw_536 : Cond.fieldLink "MatchSeekerModel" (42 : Nat) "MatchSeekerModel" "distance" "[I" ∈ zALL := zall (zt3 (zmem (i := 56) (by decide +kernel))) rfl
theorem aw_537 : Cond.fieldLink "MatchSeekerModel" (63 : Nat) "MatchSeekerModel" "found" "I" ∈ zALL := zall (zt3 (zmem (i := 57) (by decide +kernel))) rfl
theorem aw_538 : Cond.fieldLink "MatchSeekerModel" (66 : Nat) "MatchSeekerModel" "tail" "I" ∈ zALL := zall (zt3 (zmem (i := 58) (by decide +kernel))) rfl
theorem aw_539 : Cond.fieldLink "MatchSeekerModel" (69 : Nat) "MatchSeekerModel" "cost" "I" ∈ zALL := zall (zt3 (zmem (i := 59) (by decide +kernel))) rfl
theorem aw_540 : Cond.fieldLink "MatchSeekerModel" (72 : Nat) "MatchSeekerModel" "allLiterals" "I" ∈ zALL := zall (zt3 (zmem (i := 60) (by decide +kernel))) rfl
theorem aw_541 : Cond.fieldLink "MatchSeekerModel" (75 : Nat) "MatchSeekerModel" "had" "I" ∈ zALL := zall (zt3 (zmem (i := 61) (by decide +kernel))) rfl
theorem aw_542 : Cond.fieldLink "MatchSeekerModel" (78 : Nat) "MatchSeekerModel" "hadHistory" "I" ∈ zALL := zall (zt3 (zmem (i := 62) (by decide +kernel))) rfl
theorem aw_543 : Cond.fieldLink "MatchSeekerModel" (45 : Nat) "MatchSeekerModel" "again" "[B" ∈ zALL := zall (zt3 (zmem (i := 63) (by decide +kernel))) rfl
theorem aw_544 : Cond.fieldLink "MatchSeekerModel" (48 : Nat) "MatchSeekerModel" "cheapest" "[I" ∈ zALL := zall (zt3 (zmem (i := 64) (by decide +kernel))) rfl
theorem aw_545 : Cond.fieldLink "MatchSeekerModel" (51 : Nat) "MatchSeekerModel" "firstLength" "[I" ∈ zALL := zall (zt3 (zmem (i := 65) (by decide +kernel))) rfl
theorem aw_546 : Cond.fieldLink "MatchSeekerModel" (54 : Nat) "MatchSeekerModel" "firstDistance" "[I" ∈ zALL := zall (zt3 (zmem (i := 66) (by decide +kernel))) rfl
theorem aw_547 : Cond.fieldLink "MatchSeekerModel" (102 : Nat) "MatchSeekerModel" "gotLength" "I" ∈ zALL := zall (zt3 (zmem (i := 67) (by decide +kernel))) rfl
theorem aw_548 : Cond.fieldLink "MatchSeekerModel" (105 : Nat) "MatchSeekerModel" "gotDistance" "I" ∈ zALL := zall (zt3 (zmem (i := 68) (by decide +kernel))) rfl
theorem aw_602 : Cond.methodLink "MatchSeekerLaw" (16 : Nat) ({ cls := "MatchSeekerModel", name := "clear", desc := "()V" } : Jvm.MethodName) ∈ zALL := zall (zt3 (zmem (i := 122) (by decide +kernel))) rfl
theorem aw_603 : Cond.instanceMethod ({ cls := "MatchSeekerModel", name := "clear", desc := "()V" } : Jvm.MethodName) ∈ zALL := zall (zt3 (zmem (i := 123) (by decide +kernel))) rfl
theorem aw_604 : Cond.selects "MatchSeekerModel" ({ cls := "MatchSeekerModel", name := "clear", desc := "()V" } : Jvm.MethodName) ({ cls := "MatchSeekerModel", name := "clear", desc := "()V" } : Jvm.MethodName) ∈ zALL := zall (zt3 (zmem (i := 124) (by decide +kernel))) rfl
theorem aw_605 : Cond.code ({ cls := "MatchSeekerModel", name := "clear", desc := "()V" } : Jvm.MethodName) prog_8_method_3_code (1 : Nat) (Option.none : Option Jvm.ClassFile.FieldType) ∈ zALL := zall (zt3 (zmem (i := 125) (by decide +kernel))) rfl
theorem aw_606 : Cond.methodLink "MatchSeekerLaw" (23 : Nat) ({ cls := "MatchSeekerModel", name := "write", desc := "(JI)Z" } : Jvm.MethodName) ∈ zALL := zall (zt3 (zmem (i := 126) (by decide +kernel))) rfl
theorem aw_607 : Cond.instanceMethod ({ cls := "MatchSeekerModel", name := "write", desc := "(JI)Z" } : Jvm.MethodName) ∈ zALL := zall (zt3 (zmem (i := 127) (by decide +kernel))) rfl
theorem aw_608 : Cond.selects "MatchSeekerModel" ({ cls := "MatchSeekerModel", name := "write", desc := "(JI)Z" } : Jvm.MethodName) ({ cls := "MatchSeekerModel", name := "write", desc := "(JI)Z" } : Jvm.MethodName) ∈ zALL := zall (zt3 (zmem (i := 128) (by decide +kernel))) rfl
theorem aw_609 : Cond.code ({ cls := "MatchSeekerModel", name := "write", desc := "(JI)Z" } : Jvm.MethodName) prog_8_method_4_code (5 : Nat) (Option.some Jvm.ClassFile.FieldType.boolean) ∈ zALL := zall (zt3 (zmem (i := 129) (by decide +kernel))) rfl
theorem aw_610 : Cond.methodLink "MatchSeekerModel" (81 : Nat) ({ cls := "MatchSeekerModel", name := "within", desc := "(III)Z" } : Jvm.MethodName) ∈ zALL := zall (zt3 (zmem (i := 130) (by decide +kernel))) rfl
theorem aw_611 : Cond.static ({ cls := "MatchSeekerModel", name := "within", desc := "(III)Z" } : Jvm.MethodName) ∈ zALL := zall (zt3 (zmem (i := 131) (by decide +kernel))) rfl
theorem aw_612 : Cond.code ({ cls := "MatchSeekerModel", name := "within", desc := "(III)Z" } : Jvm.MethodName) prog_8_method_2_code (3 : Nat) (Option.some Jvm.ClassFile.FieldType.boolean) ∈ zALL := zall (zt3 (zmem (i := 132) (by decide +kernel))) rfl
theorem aw_613 : Cond.methodLink "MatchSeekerLaw" (28 : Nat) ({ cls := "MatchSeekerModel", name := "again", desc := "(II)Z" } : Jvm.MethodName) ∈ zALL := zall (zt3 (zmem (i := 133) (by decide +kernel))) rfl
theorem aw_614 : Cond.instanceMethod ({ cls := "MatchSeekerModel", name := "again", desc := "(II)Z" } : Jvm.MethodName) ∈ zALL := zall (zt3 (zmem (i := 134) (by decide +kernel))) rfl
theorem aw_615 : Cond.selects "MatchSeekerModel" ({ cls := "MatchSeekerModel", name := "again", desc := "(II)Z" } : Jvm.MethodName) ({ cls := "MatchSeekerModel", name := "again", desc := "(II)Z" } : Jvm.MethodName) ∈ zALL := zall (zt3 (zmem (i := 135) (by decide +kernel))) rfl
theorem aw_616 : Cond.code ({ cls := "MatchSeekerModel", name := "again", desc := "(II)Z" } : Jvm.MethodName) prog_8_method_5_code (4 : Nat) (Option.some Jvm.ClassFile.FieldType.boolean) ∈ zALL := zall (zt3 (zmem (i := 136) (by decide +kernel))) rfl
theorem aw_617 : Cond.methodLink "MatchSeekerLaw" (33 : Nat) ({ cls := "MatchSeekerModel", name := "history", desc := "(I)Z" } : Jvm.MethodName) ∈ zALL := zall (zt3 (zmem (i := 137) (by decide +kernel))) rfl
theorem aw_618 : Cond.instanceMethod ({ cls := "MatchSeekerModel", name := "history", desc := "(I)Z" } : Jvm.MethodName) ∈ zALL := zall (zt3 (zmem (i := 138) (by decide +kernel))) rfl
theorem aw_619 : Cond.selects "MatchSeekerModel" ({ cls := "MatchSeekerModel", name := "history", desc := "(I)Z" } : Jvm.MethodName) ({ cls := "MatchSeekerModel", name := "history", desc := "(I)Z" } : Jvm.MethodName) ∈ zALL := zall (zt3 (zmem (i := 139) (by decide +kernel))) rfl
theorem aw_620 : Cond.code ({ cls := "MatchSeekerModel", name := "history", desc := "(I)Z" } : Jvm.MethodName) prog_8_method_6_code (2 : Nat) (Option.some Jvm.ClassFile.FieldType.boolean) ∈ zALL := zall (zt3 (zmem (i := 140) (by decide +kernel))) rfl
theorem aw_621 : Cond.methodLink "MatchSeekerLaw" (38 : Nat) ({ cls := "MatchSeekerModel", name := "rule", desc := "(IIII)Z" } : Jvm.MethodName) ∈ zALL := zall (zt3 (zmem (i := 141) (by decide +kernel))) rfl
theorem aw_622 : Cond.instanceMethod ({ cls := "MatchSeekerModel", name := "rule", desc := "(IIII)Z" } : Jvm.MethodName) ∈ zALL := zall (zt3 (zmem (i := 142) (by decide +kernel))) rfl
theorem aw_623 : Cond.selects "MatchSeekerModel" ({ cls := "MatchSeekerModel", name := "rule", desc := "(IIII)Z" } : Jvm.MethodName) ({ cls := "MatchSeekerModel", name := "rule", desc := "(IIII)Z" } : Jvm.MethodName) ∈ zALL := zall (zt3 (zmem (i := 143) (by decide +kernel))) rfl
theorem aw_624 : Cond.code ({ cls := "MatchSeekerModel", name := "rule", desc := "(IIII)Z" } : Jvm.MethodName) prog_8_method_7_code (5 : Nat) (Option.some Jvm.ClassFile.FieldType.boolean) ∈ zALL := zall (zt3 (zmem (i := 144) (by decide +kernel))) rfl
theorem aw_625 : Cond.methodLink "MatchSeekerLaw" (42 : Nat) ({ cls := "MatchSeekerModel", name := "bounds", desc := "(IIII)Z" } : Jvm.MethodName) ∈ zALL := zall (zt3 (zmem (i := 145) (by decide +kernel))) rfl
theorem aw_626 : Cond.instanceMethod ({ cls := "MatchSeekerModel", name := "bounds", desc := "(IIII)Z" } : Jvm.MethodName) ∈ zALL := zall (zt3 (zmem (i := 146) (by decide +kernel))) rfl
theorem aw_627 : Cond.selects "MatchSeekerModel" ({ cls := "MatchSeekerModel", name := "bounds", desc := "(IIII)Z" } : Jvm.MethodName) ({ cls := "MatchSeekerModel", name := "bounds", desc := "(IIII)Z" } : Jvm.MethodName) ∈ zALL := zall (zt3 (zmem (i := 147) (by decide +kernel))) rfl
theorem aw_628 : Cond.code ({ cls := "MatchSeekerModel", name := "bounds", desc := "(IIII)Z" } : Jvm.MethodName) prog_8_method_8_code (5 : Nat) (Option.some Jvm.ClassFile.FieldType.boolean) ∈ zALL := zall (zt3 (zmem (i := 148) (by decide +kernel))) rfl
theorem aw_629 : Cond.methodLink "MatchSeekerLaw" (47 : Nat) ({ cls := "MatchSeekerModel", name := "at", desc := "(III)I" } : Jvm.MethodName) ∈ zALL := zall (zt3 (zmem (i := 149) (by decide +kernel))) rfl
theorem aw_630 : Cond.instanceMethod ({ cls := "MatchSeekerModel", name := "at", desc := "(III)I" } : Jvm.MethodName) ∈ zALL := zall (zt3 (zmem (i := 150) (by decide +kernel))) rfl
theorem aw_631 : Cond.selects "MatchSeekerModel" ({ cls := "MatchSeekerModel", name := "at", desc := "(III)I" } : Jvm.MethodName) ({ cls := "MatchSeekerModel", name := "at", desc := "(III)I" } : Jvm.MethodName) ∈ zALL := zall (zt3 (zmem (i := 151) (by decide +kernel))) rfl
theorem aw_632 : Cond.code ({ cls := "MatchSeekerModel", name := "at", desc := "(III)I" } : Jvm.MethodName) prog_8_method_17_code (4 : Nat) (Option.some Jvm.ClassFile.FieldType.int) ∈ zALL := zall (zt3 (zmem (i := 152) (by decide +kernel))) rfl
theorem aw_633 : Cond.methodLink "MatchSeekerModel" (123 : Nat) ({ cls := "MatchSeekerModel", name := "chosen", desc := "(II)Z" } : Jvm.MethodName) ∈ zALL := zall (zt3 (zmem (i := 153) (by decide +kernel))) rfl
theorem aw_635 : Cond.instanceMethod ({ cls := "MatchSeekerModel", name := "chosen", desc := "(II)Z" } : Jvm.MethodName) ∈ zALL := zall (zt3 (zmem (i := 155) (by decide +kernel))) rfl
theorem aw_636 : Cond.code ({ cls := "MatchSeekerModel", name := "chosen", desc := "(II)Z" } : Jvm.MethodName) prog_8_method_16_code (6 : Nat) (Option.some Jvm.ClassFile.FieldType.boolean) ∈ zALL := zall (zt3 (zmem (i := 156) (by decide +kernel))) rfl
theorem aw_637 : Cond.methodLink "MatchSeekerModel" (115 : Nat) ({ cls := "MatchSeekerModel", name := "nearest", desc := "(II)Z" } : Jvm.MethodName) ∈ zALL := zall (zt3 (zmem (i := 157) (by decide +kernel))) rfl
theorem aw_639 : Cond.instanceMethod ({ cls := "MatchSeekerModel", name := "nearest", desc := "(II)Z" } : Jvm.MethodName) ∈ zALL := zall (zt3 (zmem (i := 159) (by decide +kernel))) rfl
theorem aw_640 : Cond.code ({ cls := "MatchSeekerModel", name := "nearest", desc := "(II)Z" } : Jvm.MethodName) prog_8_method_14_code (5 : Nat) (Option.some Jvm.ClassFile.FieldType.boolean) ∈ zALL := zall (zt3 (zmem (i := 160) (by decide +kernel))) rfl
theorem aw_641 : Cond.methodLink "MatchSeekerModel" (98 : Nat) ({ cls := "MatchSeekerModel", name := "room", desc := "(I)I" } : Jvm.MethodName) ∈ zALL := zall (zt3 (zmem (i := 161) (by decide +kernel))) rfl
theorem aw_643 : Cond.instanceMethod ({ cls := "MatchSeekerModel", name := "room", desc := "(I)I" } : Jvm.MethodName) ∈ zALL := zall (zt3 (zmem (i := 163) (by decide +kernel))) rfl
theorem aw_644 : Cond.code ({ cls := "MatchSeekerModel", name := "room", desc := "(I)I" } : Jvm.MethodName) prog_8_method_11_code (3 : Nat) (Option.some Jvm.ClassFile.FieldType.int) ∈ zALL := zall (zt3 (zmem (i := 164) (by decide +kernel))) rfl
theorem aw_645 : Cond.methodLink "MatchSeekerModel" (91 : Nat) ({ cls := "MatchSeekerModel", name := "end", desc := "()I" } : Jvm.MethodName) ∈ zALL := zall (zt3 (zmem (i := 165) (by decide +kernel))) rfl
theorem aw_647 : Cond.instanceMethod ({ cls := "MatchSeekerModel", name := "end", desc := "()I" } : Jvm.MethodName) ∈ zALL := zall (zt3 (zmem (i := 167) (by decide +kernel))) rfl
theorem aw_648 : Cond.code ({ cls := "MatchSeekerModel", name := "end", desc := "()I" } : Jvm.MethodName) prog_8_method_10_code (1 : Nat) (Option.some Jvm.ClassFile.FieldType.int) ∈ zALL := zall (zt3 (zmem (i := 168) (by decide +kernel))) rfl
theorem aw_649 : Cond.methodLink "MatchSeekerModel" (95 : Nat) ({ cls := "MatchSeekerModel", name := "last", desc := "()I" } : Jvm.MethodName) ∈ zALL := zall (zt3 (zmem (i := 169) (by decide +kernel))) rfl
theorem aw_651 : Cond.instanceMethod ({ cls := "MatchSeekerModel", name := "last", desc := "()I" } : Jvm.MethodName) ∈ zALL := zall (zt3 (zmem (i := 171) (by decide +kernel))) rfl
theorem aw_652 : Cond.code ({ cls := "MatchSeekerModel", name := "last", desc := "()I" } : Jvm.MethodName) prog_8_method_9_code (1 : Nat) (Option.some Jvm.ClassFile.FieldType.int) ∈ zALL := zall (zt3 (zmem (i := 172) (by decide +kernel))) rfl
theorem aw_653 : Cond.methodLink "MatchSeekerModel" (108 : Nat) ({ cls := "MatchSeekerModel", name := "lowest", desc := "(I)I" } : Jvm.MethodName) ∈ zALL := zall (zt3 (zmem (i := 173) (by decide +kernel))) rfl
theorem aw_655 : Cond.instanceMethod ({ cls := "MatchSeekerModel", name := "lowest", desc := "(I)I" } : Jvm.MethodName) ∈ zALL := zall (zt3 (zmem (i := 175) (by decide +kernel))) rfl
theorem aw_656 : Cond.code ({ cls := "MatchSeekerModel", name := "lowest", desc := "(I)I" } : Jvm.MethodName) prog_8_method_13_code (2 : Nat) (Option.some Jvm.ClassFile.FieldType.int) ∈ zALL := zall (zt3 (zmem (i := 176) (by decide +kernel))) rfl
theorem aw_657 : Cond.methodLink "MatchSeekerModel" (111 : Nat) ({ cls := "MatchSeekerModel", name := "alike", desc := "(III)I" } : Jvm.MethodName) ∈ zALL := zall (zt3 (zmem (i := 177) (by decide +kernel))) rfl
theorem aw_659 : Cond.instanceMethod ({ cls := "MatchSeekerModel", name := "alike", desc := "(III)I" } : Jvm.MethodName) ∈ zALL := zall (zt3 (zmem (i := 179) (by decide +kernel))) rfl
theorem aw_660 : Cond.code ({ cls := "MatchSeekerModel", name := "alike", desc := "(III)I" } : Jvm.MethodName) prog_8_method_12_code (5 : Nat) (Option.some Jvm.ClassFile.FieldType.int) ∈ zALL := zall (zt3 (zmem (i := 180) (by decide +kernel))) rfl
theorem aw_661 : Cond.methodLink "MatchSeekerModel" (119 : Nat) ({ cls := "MatchSeekerModel", name := "longest", desc := "(I)Z" } : Jvm.MethodName) ∈ zALL := zall (zt3 (zmem (i := 181) (by decide +kernel))) rfl
theorem aw_663 : Cond.instanceMethod ({ cls := "MatchSeekerModel", name := "longest", desc := "(I)Z" } : Jvm.MethodName) ∈ zALL := zall (zt3 (zmem (i := 183) (by decide +kernel))) rfl
theorem aw_664 : Cond.code ({ cls := "MatchSeekerModel", name := "longest", desc := "(I)Z" } : Jvm.MethodName) prog_8_method_15_code (5 : Nat) (Option.some Jvm.ClassFile.FieldType.boolean) ∈ zALL := zall (zt3 (zmem (i := 184) (by decide +kernel))) rfl
theorem aw_665 : Cond.methodLink "MatchSeekerLaw" (52 : Nat) ({ cls := "MatchSeekerModel", name := "count", desc := "(I)I" } : Jvm.MethodName) ∈ zALL := zall (zt3 (zmem (i := 185) (by decide +kernel))) rfl
theorem aw_666 : Cond.instanceMethod ({ cls := "MatchSeekerModel", name := "count", desc := "(I)I" } : Jvm.MethodName) ∈ zALL := zall (zt3 (zmem (i := 186) (by decide +kernel))) rfl
theorem aw_667 : Cond.selects "MatchSeekerModel" ({ cls := "MatchSeekerModel", name := "count", desc := "(I)I" } : Jvm.MethodName) ({ cls := "MatchSeekerModel", name := "count", desc := "(I)I" } : Jvm.MethodName) ∈ zALL := zall (zt3 (zmem (i := 187) (by decide +kernel))) rfl
theorem aw_668 : Cond.code ({ cls := "MatchSeekerModel", name := "count", desc := "(I)I" } : Jvm.MethodName) prog_8_method_18_code (4 : Nat) (Option.some Jvm.ClassFile.FieldType.int) ∈ zALL := zall (zt3 (zmem (i := 188) (by decide +kernel))) rfl
theorem aw_669 : Cond.methodLink "MatchSeekerLaw" (57 : Nat) ({ cls := "MatchSeekerModel", name := "go", desc := "()I" } : Jvm.MethodName) ∈ zALL := zall (zt3 (zmem (i := 189) (by decide +kernel))) rfl
theorem aw_670 : Cond.instanceMethod ({ cls := "MatchSeekerModel", name := "go", desc := "()I" } : Jvm.MethodName) ∈ zALL := zall (zt3 (zmem (i := 190) (by decide +kernel))) rfl
theorem aw_671 : Cond.selects "MatchSeekerModel" ({ cls := "MatchSeekerModel", name := "go", desc := "()I" } : Jvm.MethodName) ({ cls := "MatchSeekerModel", name := "go", desc := "()I" } : Jvm.MethodName) ∈ zALL := zall (zt3 (zmem (i := 191) (by decide +kernel))) rfl
theorem aw_672 : Cond.code ({ cls := "MatchSeekerModel", name := "go", desc := "()I" } : Jvm.MethodName) prog_8_method_22_code (3 : Nat) (Option.some Jvm.ClassFile.FieldType.int) ∈ zALL := zall (zt3 (zmem (i := 192) (by decide +kernel))) rfl
theorem aw_673 : Cond.methodLink "MatchSeekerModel" (129 : Nat) ({ cls := "MatchSeekerModel", name := "reckon", desc := "()V" } : Jvm.MethodName) ∈ zALL := zall (zt3 (zmem (i := 193) (by decide +kernel))) rfl
theorem aw_675 : Cond.instanceMethod ({ cls := "MatchSeekerModel", name := "reckon", desc := "()V" } : Jvm.MethodName) ∈ zALL := zall (zt3 (zmem (i := 195) (by decide +kernel))) rfl
theorem aw_676 : Cond.code ({ cls := "MatchSeekerModel", name := "reckon", desc := "()V" } : Jvm.MethodName) prog_8_method_24_code (8 : Nat) (Option.none : Option Jvm.ClassFile.FieldType) ∈ zALL := zall (zt3 (zmem (i := 196) (by decide +kernel))) rfl
theorem aw_677 : Cond.methodLink "MatchSeekerModel" (141 : Nat) ({ cls := "MatchSeekerModel", name := "better", desc := "(III)V" } : Jvm.MethodName) ∈ zALL := zall (zt3 (zmem (i := 197) (by decide +kernel))) rfl
theorem aw_679 : Cond.instanceMethod ({ cls := "MatchSeekerModel", name := "better", desc := "(III)V" } : Jvm.MethodName) ∈ zALL := zall (zt3 (zmem (i := 199) (by decide +kernel))) rfl
theorem aw_680 : Cond.code ({ cls := "MatchSeekerModel", name := "better", desc := "(III)V" } : Jvm.MethodName) prog_8_method_25_code (7 : Nat) (Option.none : Option Jvm.ClassFile.FieldType) ∈ zALL := zall (zt3 (zmem (i := 200) (by decide +kernel))) rfl
theorem aw_681 : Cond.methodLink "MatchSeekerModel" (126 : Nat) ({ cls := "MatchSeekerModel", name := "bits", desc := "(I)I" } : Jvm.MethodName) ∈ zALL := zall (zt3 (zmem (i := 201) (by decide +kernel))) rfl
theorem aw_682 : Cond.static ({ cls := "MatchSeekerModel", name := "bits", desc := "(I)I" } : Jvm.MethodName) ∈ zALL := zall (zt3 (zmem (i := 202) (by decide +kernel))) rfl
theorem aw_683 : Cond.code ({ cls := "MatchSeekerModel", name := "bits", desc := "(I)I" } : Jvm.MethodName) prog_8_method_19_code (3 : Nat) (Option.some Jvm.ClassFile.FieldType.int) ∈ zALL := zall (zt3 (zmem (i := 203) (by decide +kernel))) rfl
theorem aw_684 : Cond.methodLink "MatchSeekerModel" (132 : Nat) ({ cls := "MatchSeekerModel", name := "reckoned", desc := "(I)Z" } : Jvm.MethodName) ∈ zALL := zall (zt3 (zmem (i := 204) (by decide +kernel))) rfl
theorem aw_686 : Cond.instanceMethod ({ cls := "MatchSeekerModel", name := "reckoned", desc := "(I)Z" } : Jvm.MethodName) ∈ zALL := zall (zt3 (zmem (i := 206) (by decide +kernel))) rfl
theorem aw_687 : Cond.code ({ cls := "MatchSeekerModel", name := "reckoned", desc := "(I)Z" } : Jvm.MethodName) prog_8_method_23_code (2 : Nat) (Option.some Jvm.ClassFile.FieldType.boolean) ∈ zALL := zall (zt3 (zmem (i := 207) (by decide +kernel))) rfl
theorem aw_688 : Cond.methodLink "MatchSeekerModel" (135 : Nat) ({ cls := "MatchSeekerModel", name := "match", desc := "()V" } : Jvm.MethodName) ∈ zALL := zall (zt3 (zmem (i := 208) (by decide +kernel))) rfl
theorem aw_690 : Cond.instanceMethod ({ cls := "MatchSeekerModel", name := "match", desc := "()V" } : Jvm.MethodName) ∈ zALL := zall (zt3 (zmem (i := 210) (by decide +kernel))) rfl
theorem aw_691 : Cond.code ({ cls := "MatchSeekerModel", name := "match", desc := "()V" } : Jvm.MethodName) prog_8_method_21_code (1 : Nat) (Option.none : Option Jvm.ClassFile.FieldType) ∈ zALL := zall (zt3 (zmem (i := 211) (by decide +kernel))) rfl
theorem aw_692 : Cond.methodLink "MatchSeekerModel" (138 : Nat) ({ cls := "MatchSeekerModel", name := "literal", desc := "()V" } : Jvm.MethodName) ∈ zALL := zall (zt3 (zmem (i := 212) (by decide +kernel))) rfl
theorem aw_694 : Cond.instanceMethod ({ cls := "MatchSeekerModel", name := "literal", desc := "()V" } : Jvm.MethodName) ∈ zALL := zall (zt3 (zmem (i := 214) (by decide +kernel))) rfl
theorem aw_695 : Cond.code ({ cls := "MatchSeekerModel", name := "literal", desc := "()V" } : Jvm.MethodName) prog_8_method_20_code (1 : Nat) (Option.none : Option Jvm.ClassFile.FieldType) ∈ zALL := zall (zt3 (zmem (i := 215) (by decide +kernel))) rfl
theorem aw_696 : Cond.methodLink "MatchSeekerLaw" (62 : Nat) ({ cls := "MatchSeekerModel", name := "stretch", desc := "(II)I" } : Jvm.MethodName) ∈ zALL := zall (zt3 (zmem (i := 216) (by decide +kernel))) rfl
theorem aw_697 : Cond.instanceMethod ({ cls := "MatchSeekerModel", name := "stretch", desc := "(II)I" } : Jvm.MethodName) ∈ zALL := zall (zt3 (zmem (i := 217) (by decide +kernel))) rfl
theorem aw_698 : Cond.selects "MatchSeekerModel" ({ cls := "MatchSeekerModel", name := "stretch", desc := "(II)I" } : Jvm.MethodName) ({ cls := "MatchSeekerModel", name := "stretch", desc := "(II)I" } : Jvm.MethodName) ∈ zALL := zall (zt3 (zmem (i := 218) (by decide +kernel))) rfl
theorem aw_699 : Cond.code ({ cls := "MatchSeekerModel", name := "stretch", desc := "(II)I" } : Jvm.MethodName) prog_8_method_26_code (3 : Nat) (Option.some Jvm.ClassFile.FieldType.int) ∈ zALL := zall (zt3 (zmem (i := 219) (by decide +kernel))) rfl
theorem aw_700 : Cond.methodLink "MatchSeekerLaw" (66 : Nat) ({ cls := "MatchSeekerModel", name := "about", desc := "(I)I" } : Jvm.MethodName) ∈ zALL := zall (zt3 (zmem (i := 220) (by decide +kernel))) rfl
theorem aw_701 : Cond.instanceMethod ({ cls := "MatchSeekerModel", name := "about", desc := "(I)I" } : Jvm.MethodName) ∈ zALL := zall (zt3 (zmem (i := 221) (by decide +kernel))) rfl
theorem aw_702 : Cond.selects "MatchSeekerModel" ({ cls := "MatchSeekerModel", name := "about", desc := "(I)I" } : Jvm.MethodName) ({ cls := "MatchSeekerModel", name := "about", desc := "(I)I" } : Jvm.MethodName) ∈ zALL := zall (zt3 (zmem (i := 222) (by decide +kernel))) rfl
theorem aw_703 : Cond.code ({ cls := "MatchSeekerModel", name := "about", desc := "(I)I" } : Jvm.MethodName) prog_8_method_27_code (5 : Nat) (Option.some Jvm.ClassFile.FieldType.int) ∈ zALL := zall (zt3 (zmem (i := 223) (by decide +kernel))) rfl
theorem aw_704 : Cond.methodLink "MatchSeekerLaw" (70 : Nat) ({ cls := "MatchSeekerModel", name := "unlike", desc := "()I" } : Jvm.MethodName) ∈ zALL := zall (zt3 (zmem (i := 224) (by decide +kernel))) rfl
theorem aw_705 : Cond.instanceMethod ({ cls := "MatchSeekerModel", name := "unlike", desc := "()I" } : Jvm.MethodName) ∈ zALL := zall (zt3 (zmem (i := 225) (by decide +kernel))) rfl
theorem aw_706 : Cond.selects "MatchSeekerModel" ({ cls := "MatchSeekerModel", name := "unlike", desc := "()I" } : Jvm.MethodName) ({ cls := "MatchSeekerModel", name := "unlike", desc := "()I" } : Jvm.MethodName) ∈ zALL := zall (zt3 (zmem (i := 226) (by decide +kernel))) rfl
theorem aw_707 : Cond.code ({ cls := "MatchSeekerModel", name := "unlike", desc := "()I" } : Jvm.MethodName) prog_8_method_28_code (5 : Nat) (Option.some Jvm.ClassFile.FieldType.int) ∈ zALL := zall (zt3 (zmem (i := 227) (by decide +kernel))) rfl
theorem aw_708 : Cond.methodLink "MatchSeekerLaw" (74 : Nat) ({ cls := "MatchSeekerModel", name := "size", desc := "()I" } : Jvm.MethodName) ∈ zALL := zall (zt3 (zmem (i := 228) (by decide +kernel))) rfl
theorem aw_709 : Cond.instanceMethod ({ cls := "MatchSeekerModel", name := "size", desc := "()I" } : Jvm.MethodName) ∈ zALL := zall (zt3 (zmem (i := 229) (by decide +kernel))) rfl
theorem aw_710 : Cond.selects "MatchSeekerModel" ({ cls := "MatchSeekerModel", name := "size", desc := "()I" } : Jvm.MethodName) ({ cls := "MatchSeekerModel", name := "size", desc := "()I" } : Jvm.MethodName) ∈ zALL := zall (zt3 (zmem (i := 230) (by decide +kernel))) rfl
theorem aw_711 : Cond.code ({ cls := "MatchSeekerModel", name := "size", desc := "()I" } : Jvm.MethodName) prog_8_method_29_code (1 : Nat) (Option.some Jvm.ClassFile.FieldType.int) ∈ zALL := zall (zt3 (zmem (i := 231) (by decide +kernel))) rfl
theorem aw_712 : Cond.constantLong "MatchSeekerLaw" (17 : Nat) (4294967295 : Int64) ∈ zALL := zall (zt3 (zmem (i := 232) (by decide +kernel))) rfl
theorem as_0 : Cond.selects "MatchSeeker$Row" ({ cls := "MatchSeeker$Row", name := "empty", desc := "()V" } : Jvm.MethodName) ({ cls := "MatchSeeker$Row", name := "empty", desc := "()V" } : Jvm.MethodName) ∈ zALL := zalls (zmem (i := 0) (by decide +kernel)) rfl
theorem as_1 : Cond.selects "MatchSeeker$Finder" ({ cls := "MatchSeeker$Finder", name := "forgetData", desc := "()V" } : Jvm.MethodName) ({ cls := "MatchSeeker$Finder", name := "forgetData", desc := "()V" } : Jvm.MethodName) ∈ zALL := zalls (zmem (i := 1) (by decide +kernel)) rfl
theorem as_2 : Cond.selects "MatchSeeker$Finder" ({ cls := "MatchSeeker$Finder", name := "unlink", desc := "()V" } : Jvm.MethodName) ({ cls := "MatchSeeker$Finder", name := "unlink", desc := "()V" } : Jvm.MethodName) ∈ zALL := zalls (zmem (i := 2) (by decide +kernel)) rfl
theorem as_3 : Cond.selects "MatchSeeker$Found" ({ cls := "MatchSeeker$Found", name := "forget", desc := "()V" } : Jvm.MethodName) ({ cls := "MatchSeeker$Found", name := "forget", desc := "()V" } : Jvm.MethodName) ∈ zALL := zalls (zmem (i := 3) (by decide +kernel)) rfl
theorem as_4 : Cond.selects "MatchSeeker$Row" ({ cls := "MatchSeeker$Row", name := "takes", desc := "(J)Z" } : Jvm.MethodName) ({ cls := "MatchSeeker$Row", name := "takes", desc := "(J)Z" } : Jvm.MethodName) ∈ zALL := zalls (zmem (i := 4) (by decide +kernel)) rfl
theorem as_5 : Cond.selects "MatchSeeker$Row" ({ cls := "MatchSeeker$Row", name := "append", desc := "(JI)V" } : Jvm.MethodName) ({ cls := "MatchSeeker$Row", name := "append", desc := "(JI)V" } : Jvm.MethodName) ∈ zALL := zalls (zmem (i := 5) (by decide +kernel)) rfl
theorem as_6 : Cond.selects "MatchSeeker$Row" ({ cls := "MatchSeeker$Row", name := "makeRoom", desc := "(I)V" } : Jvm.MethodName) ({ cls := "MatchSeeker$Row", name := "makeRoom", desc := "(I)V" } : Jvm.MethodName) ∈ zALL := zalls (zmem (i := 6) (by decide +kernel)) rfl
theorem as_7 : Cond.selects "MatchSeeker$Row" ({ cls := "MatchSeeker$Row", name := "repeat", desc := "(II)V" } : Jvm.MethodName) ({ cls := "MatchSeeker$Row", name := "repeat", desc := "(II)V" } : Jvm.MethodName) ∈ zALL := zalls (zmem (i := 7) (by decide +kernel)) rfl
theorem as_8 : Cond.selects "MatchSeeker$Row" ({ cls := "MatchSeeker$Row", name := "hasPlace", desc := "(I)Z" } : Jvm.MethodName) ({ cls := "MatchSeeker$Row", name := "hasPlace", desc := "(I)Z" } : Jvm.MethodName) ∈ zALL := zalls (zmem (i := 8) (by decide +kernel)) rfl
theorem as_9 : Cond.selects "MatchSeeker$Finder" ({ cls := "MatchSeeker$Finder", name := "readData", desc := "()V" } : Jvm.MethodName) ({ cls := "MatchSeeker$Finder", name := "readData", desc := "()V" } : Jvm.MethodName) ∈ zALL := zalls (zmem (i := 9) (by decide +kernel)) rfl
theorem as_10 : Cond.selects "MatchSeeker$Finder" ({ cls := "MatchSeeker$Finder", name := "enlarge", desc := "(I)V" } : Jvm.MethodName) ({ cls := "MatchSeeker$Finder", name := "enlarge", desc := "(I)V" } : Jvm.MethodName) ∈ zALL := zalls (zmem (i := 10) (by decide +kernel)) rfl
theorem as_11 : Cond.selects "MatchSeeker$Finder" ({ cls := "MatchSeeker$Finder", name := "slotOf", desc := "(I)I" } : Jvm.MethodName) ({ cls := "MatchSeeker$Finder", name := "slotOf", desc := "(I)I" } : Jvm.MethodName) ∈ zALL := zalls (zmem (i := 11) (by decide +kernel)) rfl
theorem as_12 : Cond.selects "MatchSeeker$Finder" ({ cls := "MatchSeeker$Finder", name := "seek", desc := "(II)V" } : Jvm.MethodName) ({ cls := "MatchSeeker$Finder", name := "seek", desc := "(II)V" } : Jvm.MethodName) ∈ zALL := zalls (zmem (i := 12) (by decide +kernel)) rfl
theorem as_13 : Cond.selects "MatchSeeker$Finder" ({ cls := "MatchSeeker$Finder", name := "seekNearest", desc := "(I)V" } : Jvm.MethodName) ({ cls := "MatchSeeker$Finder", name := "seekNearest", desc := "(I)V" } : Jvm.MethodName) ∈ zALL := zalls (zmem (i := 13) (by decide +kernel)) rfl
theorem as_14 : Cond.selects "MatchSeeker$Finder" ({ cls := "MatchSeeker$Finder", name := "startAt", desc := "(II)V" } : Jvm.MethodName) ({ cls := "MatchSeeker$Finder", name := "startAt", desc := "(II)V" } : Jvm.MethodName) ∈ zALL := zalls (zmem (i := 14) (by decide +kernel)) rfl
theorem as_15 : Cond.selects "MatchSeeker$Rule" ({ cls := "MatchSeeker$Rule", name := "endOf", desc := "(I)I" } : Jvm.MethodName) ({ cls := "MatchSeeker$Rule", name := "endOf", desc := "(I)I" } : Jvm.MethodName) ∈ zALL := zalls (zmem (i := 15) (by decide +kernel)) rfl
theorem as_16 : Cond.selects "MatchSeeker$Rule" ({ cls := "MatchSeeker$Rule", name := "lastOf", desc := "(I)I" } : Jvm.MethodName) ({ cls := "MatchSeeker$Rule", name := "lastOf", desc := "(I)I" } : Jvm.MethodName) ∈ zALL := zalls (zmem (i := 16) (by decide +kernel)) rfl
theorem as_17 : Cond.selects "MatchSeeker$Finder" ({ cls := "MatchSeeker$Finder", name := "findLonger", desc := "()Z" } : Jvm.MethodName) ({ cls := "MatchSeeker$Finder", name := "findLonger", desc := "()Z" } : Jvm.MethodName) ∈ zALL := zalls (zmem (i := 17) (by decide +kernel)) rfl
theorem as_18 : Cond.selects "MatchSeeker$Finder" ({ cls := "MatchSeeker$Finder", name := "sameBytes", desc := "(III)I" } : Jvm.MethodName) ({ cls := "MatchSeeker$Finder", name := "sameBytes", desc := "(III)I" } : Jvm.MethodName) ∈ zALL := zalls (zmem (i := 18) (by decide +kernel)) rfl
theorem as_19 : Cond.selects "MatchSeeker$Finder" ({ cls := "MatchSeeker$Finder", name := "seekLongestIfNotNext", desc := "(I)V" } : Jvm.MethodName) ({ cls := "MatchSeeker$Finder", name := "seekLongestIfNotNext", desc := "(I)V" } : Jvm.MethodName) ∈ zALL := zalls (zmem (i := 19) (by decide +kernel)) rfl
theorem as_20 : Cond.selects "MatchSeeker$Finder" ({ cls := "MatchSeeker$Finder", name := "seekLongest", desc := "(I)V" } : Jvm.MethodName) ({ cls := "MatchSeeker$Finder", name := "seekLongest", desc := "(I)V" } : Jvm.MethodName) ∈ zALL := zalls (zmem (i := 20) (by decide +kernel)) rfl
theorem as_21 : Cond.selects "MatchSeeker$Finder" ({ cls := "MatchSeeker$Finder", name := "matchesAt", desc := "(I)I" } : Jvm.MethodName) ({ cls := "MatchSeeker$Finder", name := "matchesAt", desc := "(I)I" } : Jvm.MethodName) ∈ zALL := zalls (zmem (i := 21) (by decide +kernel)) rfl
theorem as_22 : Cond.selects "MatchSeeker$Found" ({ cls := "MatchSeeker$Found", name := "begin", desc := "()V" } : Jvm.MethodName) ({ cls := "MatchSeeker$Found", name := "begin", desc := "()V" } : Jvm.MethodName) ∈ zALL := zalls (zmem (i := 22) (by decide +kernel)) rfl
theorem as_23 : Cond.selects "MatchSeeker" ({ cls := "MatchSeeker", name := "followPlan", desc := "()V" } : Jvm.MethodName) ({ cls := "MatchSeeker", name := "followPlan", desc := "()V" } : Jvm.MethodName) ∈ zALL := zalls (zmem (i := 23) (by decide +kernel)) rfl
theorem as_24 : Cond.selects "MatchSeeker$Plan" ({ cls := "MatchSeeker$Plan", name := "make", desc := "()V" } : Jvm.MethodName) ({ cls := "MatchSeeker$Plan", name := "make", desc := "()V" } : Jvm.MethodName) ∈ zALL := zalls (zmem (i := 24) (by decide +kernel)) rfl
theorem as_25 : Cond.selects "MatchSeeker$Plan" ({ cls := "MatchSeeker$Plan", name := "makeRoom", desc := "(I)V" } : Jvm.MethodName) ({ cls := "MatchSeeker$Plan", name := "makeRoom", desc := "(I)V" } : Jvm.MethodName) ∈ zALL := zalls (zmem (i := 25) (by decide +kernel)) rfl
theorem as_26 : Cond.selects "MatchSeeker$Plan" ({ cls := "MatchSeeker$Plan", name := "addEnd", desc := "(I)V" } : Jvm.MethodName) ({ cls := "MatchSeeker$Plan", name := "addEnd", desc := "(I)V" } : Jvm.MethodName) ∈ zALL := zalls (zmem (i := 26) (by decide +kernel)) rfl
theorem as_27 : Cond.selects "MatchSeeker$Plan" ({ cls := "MatchSeeker$Plan", name := "takeLiteral", desc := "(I)V" } : Jvm.MethodName) ({ cls := "MatchSeeker$Plan", name := "takeLiteral", desc := "(I)V" } : Jvm.MethodName) ∈ zALL := zalls (zmem (i := 27) (by decide +kernel)) rfl
theorem as_28 : Cond.selects "MatchSeeker$Plan" ({ cls := "MatchSeeker$Plan", name := "takeBestMatch", desc := "(II)V" } : Jvm.MethodName) ({ cls := "MatchSeeker$Plan", name := "takeBestMatch", desc := "(II)V" } : Jvm.MethodName) ∈ zALL := zalls (zmem (i := 28) (by decide +kernel)) rfl
theorem as_29 : Cond.selects "MatchSeeker$Finder" ({ cls := "MatchSeeker$Finder", name := "expectAtMost", desc := "(I)V" } : Jvm.MethodName) ({ cls := "MatchSeeker$Finder", name := "expectAtMost", desc := "(I)V" } : Jvm.MethodName) ∈ zALL := zalls (zmem (i := 29) (by decide +kernel)) rfl
theorem as_30 : Cond.selects "MatchSeeker$Plan" ({ cls := "MatchSeeker$Plan", name := "consider", desc := "(III)V" } : Jvm.MethodName) ({ cls := "MatchSeeker$Plan", name := "consider", desc := "(III)V" } : Jvm.MethodName) ∈ zALL := zalls (zmem (i := 30) (by decide +kernel)) rfl
theorem as_31 : Cond.selects "MatchSeeker$Plan" ({ cls := "MatchSeeker$Plan", name := "cheapestEnd", desc := "(I)I" } : Jvm.MethodName) ({ cls := "MatchSeeker$Plan", name := "cheapestEnd", desc := "(I)I" } : Jvm.MethodName) ∈ zALL := zalls (zmem (i := 31) (by decide +kernel)) rfl
theorem as_32 : Cond.selects "MatchSeeker$Found" ({ cls := "MatchSeeker$Found", name := "add", desc := "(II)V" } : Jvm.MethodName) ({ cls := "MatchSeeker$Found", name := "add", desc := "(II)V" } : Jvm.MethodName) ∈ zALL := zalls (zmem (i := 32) (by decide +kernel)) rfl
theorem as_33 : Cond.selects "MatchSeeker" ({ cls := "MatchSeeker", name := "takeWhatIsSought", desc := "()V" } : Jvm.MethodName) ({ cls := "MatchSeeker", name := "takeWhatIsSought", desc := "()V" } : Jvm.MethodName) ∈ zALL := zalls (zmem (i := 33) (by decide +kernel)) rfl
theorem as_34 : Cond.selects "MatchSeeker$Found" ({ cls := "MatchSeeker$Found", name := "differences", desc := "()I" } : Jvm.MethodName) ({ cls := "MatchSeeker$Found", name := "differences", desc := "()I" } : Jvm.MethodName) ∈ zALL := zalls (zmem (i := 34) (by decide +kernel)) rfl
theorem as_35 : Cond.selects "MatchSeeker$Found" ({ cls := "MatchSeeker$Found", name := "rebuild", desc := "()V" } : Jvm.MethodName) ({ cls := "MatchSeeker$Found", name := "rebuild", desc := "()V" } : Jvm.MethodName) ∈ zALL := zalls (zmem (i := 35) (by decide +kernel)) rfl
theorem as_36 : Cond.selects "MatchSeeker$Found" ({ cls := "MatchSeeker$Found", name := "copyFromData", desc := "(II)I" } : Jvm.MethodName) ({ cls := "MatchSeeker$Found", name := "copyFromData", desc := "(II)I" } : Jvm.MethodName) ∈ zALL := zalls (zmem (i := 36) (by decide +kernel)) rfl
theorem as_37 : Cond.selects "MatchSeeker$Found" ({ cls := "MatchSeeker$Found", name := "copyFromRebuilt", desc := "(III)I" } : Jvm.MethodName) ({ cls := "MatchSeeker$Found", name := "copyFromRebuilt", desc := "(III)I" } : Jvm.MethodName) ∈ zALL := zalls (zmem (i := 37) (by decide +kernel)) rfl
theorem as_38 : Cond.selects "MatchSeekerModel" ({ cls := "MatchSeekerModel", name := "chosen", desc := "(II)Z" } : Jvm.MethodName) ({ cls := "MatchSeekerModel", name := "chosen", desc := "(II)Z" } : Jvm.MethodName) ∈ zALL := zalls (zmem (i := 38) (by decide +kernel)) rfl
theorem as_39 : Cond.selects "MatchSeekerModel" ({ cls := "MatchSeekerModel", name := "nearest", desc := "(II)Z" } : Jvm.MethodName) ({ cls := "MatchSeekerModel", name := "nearest", desc := "(II)Z" } : Jvm.MethodName) ∈ zALL := zalls (zmem (i := 39) (by decide +kernel)) rfl
theorem as_40 : Cond.selects "MatchSeekerModel" ({ cls := "MatchSeekerModel", name := "room", desc := "(I)I" } : Jvm.MethodName) ({ cls := "MatchSeekerModel", name := "room", desc := "(I)I" } : Jvm.MethodName) ∈ zALL := zalls (zmem (i := 40) (by decide +kernel)) rfl
theorem as_41 : Cond.selects "MatchSeekerModel" ({ cls := "MatchSeekerModel", name := "end", desc := "()I" } : Jvm.MethodName) ({ cls := "MatchSeekerModel", name := "end", desc := "()I" } : Jvm.MethodName) ∈ zALL := zalls (zmem (i := 41) (by decide +kernel)) rfl
theorem as_42 : Cond.selects "MatchSeekerModel" ({ cls := "MatchSeekerModel", name := "last", desc := "()I" } : Jvm.MethodName) ({ cls := "MatchSeekerModel", name := "last", desc := "()I" } : Jvm.MethodName) ∈ zALL := zalls (zmem (i := 42) (by decide +kernel)) rfl
theorem as_43 : Cond.selects "MatchSeekerModel" ({ cls := "MatchSeekerModel", name := "lowest", desc := "(I)I" } : Jvm.MethodName) ({ cls := "MatchSeekerModel", name := "lowest", desc := "(I)I" } : Jvm.MethodName) ∈ zALL := zalls (zmem (i := 43) (by decide +kernel)) rfl
theorem as_44 : Cond.selects "MatchSeekerModel" ({ cls := "MatchSeekerModel", name := "alike", desc := "(III)I" } : Jvm.MethodName) ({ cls := "MatchSeekerModel", name := "alike", desc := "(III)I" } : Jvm.MethodName) ∈ zALL := zalls (zmem (i := 44) (by decide +kernel)) rfl
theorem as_45 : Cond.selects "MatchSeekerModel" ({ cls := "MatchSeekerModel", name := "longest", desc := "(I)Z" } : Jvm.MethodName) ({ cls := "MatchSeekerModel", name := "longest", desc := "(I)Z" } : Jvm.MethodName) ∈ zALL := zalls (zmem (i := 45) (by decide +kernel)) rfl
theorem as_46 : Cond.selects "MatchSeekerModel" ({ cls := "MatchSeekerModel", name := "reckon", desc := "()V" } : Jvm.MethodName) ({ cls := "MatchSeekerModel", name := "reckon", desc := "()V" } : Jvm.MethodName) ∈ zALL := zalls (zmem (i := 46) (by decide +kernel)) rfl
theorem as_47 : Cond.selects "MatchSeekerModel" ({ cls := "MatchSeekerModel", name := "better", desc := "(III)V" } : Jvm.MethodName) ({ cls := "MatchSeekerModel", name := "better", desc := "(III)V" } : Jvm.MethodName) ∈ zALL := zalls (zmem (i := 47) (by decide +kernel)) rfl
theorem as_48 : Cond.selects "MatchSeekerModel" ({ cls := "MatchSeekerModel", name := "reckoned", desc := "(I)Z" } : Jvm.MethodName) ({ cls := "MatchSeekerModel", name := "reckoned", desc := "(I)Z" } : Jvm.MethodName) ∈ zALL := zalls (zmem (i := 48) (by decide +kernel)) rfl
theorem as_49 : Cond.selects "MatchSeekerModel" ({ cls := "MatchSeekerModel", name := "match", desc := "()V" } : Jvm.MethodName) ({ cls := "MatchSeekerModel", name := "match", desc := "()V" } : Jvm.MethodName) ∈ zALL := zalls (zmem (i := 49) (by decide +kernel)) rfl
theorem as_50 : Cond.selects "MatchSeekerModel" ({ cls := "MatchSeekerModel", name := "literal", desc := "()V" } : Jvm.MethodName) ({ cls := "MatchSeekerModel", name := "literal", desc := "()V" } : Jvm.MethodName) ∈ zALL := zalls (zmem (i := 50) (by decide +kernel)) rfl
end
section
abbrev cX5_init : ByteArray := prog_1_method_1_code
def yX5_init : MethodName := ⟨RX5, "<init>", "()V"⟩
abbrev wsX5_init : List Cond := Cond.code yX5_init cX5_init 1 none :: zALL
theorem kX5_init : Cond.code yX5_init cX5_init 1 none ∈ zALL := aw_15
abbrev cX3_init : ByteArray := prog_5_method_1_code
def yX3_init : MethodName := ⟨RX3, "<init>", "()V"⟩
abbrev wsX3_init : List Cond := Cond.code yX3_init cX3_init 1 none :: zALL
theorem kX3_init : Cond.code yX3_init cX3_init 1 none ∈ zALL := aw_23
abbrev cX4_init : ByteArray := prog_6_method_1_code
def yX4_init : MethodName := ⟨RX4, "<init>", "()V"⟩
abbrev wsX4_init : List Cond := Cond.code yX4_init cX4_init 1 none :: zALL
theorem kX4_init : Cond.code yX4_init cX4_init 1 none ∈ zALL := aw_49
abbrev cX0_init : ByteArray := prog_2_method_1_code
def yX0_init : MethodName := ⟨RX0, "<init>", "(LMatchSeeker$Row;LMatchSeeker$Rule;)V"⟩
abbrev wsX0_init : List Cond := Cond.code yX0_init cX0_init 3 none :: zALL
theorem kX0_init : Cond.code yX0_init cX0_init 3 none ∈ zALL := aw_98
abbrev cX2_init : ByteArray := prog_4_method_1_code
def yX2_init : MethodName := ⟨RX2, "<init>", "(LMatchSeeker$Row;LMatchSeeker$Rule;LMatchSeeker$Finder;)V"⟩
abbrev wsX2_init : List Cond := Cond.code yX2_init cX2_init 4 none :: zALL
theorem kX2_init : Cond.code yX2_init cX2_init 4 none ∈ zALL := aw_155
abbrev cX1_init : ByteArray := prog_3_method_1_code
def yX1_init : MethodName := ⟨RX1, "<init>", "(LMatchSeeker$Row;LMatchSeeker$Rule;)V"⟩
abbrev wsX1_init : List Cond := Cond.code yX1_init cX1_init 3 none :: zALL
theorem kX1_init : Cond.code yX1_init cX1_init 3 none ∈ zALL := aw_188
abbrev cX5_clear : ByteArray := prog_1_method_2_code
def yX5_clear : MethodName := ⟨RX5, "clear", "()V"⟩
abbrev wsX5_clear : List Cond := Cond.code yX5_clear cX5_clear 1 none :: zALL
theorem kX5_clear : Cond.code yX5_clear cX5_clear 1 none ∈ zALL := aw_261
abbrev cX3_empty : ByteArray := prog_5_method_4_code
def yX3_empty : MethodName := ⟨RX3, "empty", "()V"⟩
abbrev wsX3_empty : List Cond := Cond.code yX3_empty cX3_empty 1 none :: zALL
theorem kX3_empty : Cond.code yX3_empty cX3_empty 1 none ∈ zALL := aw_265
abbrev cX0_forgetData : ByteArray := prog_2_method_2_code
def yX0_forgetData : MethodName := ⟨RX0, "forgetData", "()V"⟩
abbrev wsX0_forgetData : List Cond := Cond.code yX0_forgetData cX0_forgetData 1 none :: zALL
theorem kX0_forgetData : Cond.code yX0_forgetData cX0_forgetData 1 none ∈ zALL := aw_269
abbrev cX0_unlink : ByteArray := prog_2_method_3_code
def yX0_unlink : MethodName := ⟨RX0, "unlink", "()V"⟩
abbrev wsX0_unlink : List Cond := Cond.code yX0_unlink cX0_unlink 1 none :: zALL
theorem kX0_unlink : Cond.code yX0_unlink cX0_unlink 1 none ∈ zALL := aw_273
abbrev cJ7_fill : ByteArray := prog_12_method_103_code
def yJ7_fill : MethodName := ⟨RJ7, "fill", "([II)V"⟩
abbrev wsJ7_fill : List Cond := Cond.code yJ7_fill cJ7_fill 4 none :: zALL
theorem kJ7_fill : Cond.code yJ7_fill cJ7_fill 4 none ∈ zALL := aw_276
abbrev cX1_forget : ByteArray := prog_3_method_2_code
def yX1_forget : MethodName := ⟨RX1, "forget", "()V"⟩
abbrev wsX1_forget : List Cond := Cond.code yX1_forget cX1_forget 1 none :: zALL
theorem kX1_forget : Cond.code yX1_forget cX1_forget 1 none ∈ zALL := aw_280
abbrev cX5_write : ByteArray := prog_1_method_3_code
def yX5_write : MethodName := ⟨RX5, "write", "(JI)Z"⟩
abbrev wsX5_write : List Cond := Cond.code yX5_write cX5_write 4 ((Option.some Jvm.ClassFile.FieldType.boolean)) :: zALL
theorem kX5_write : Cond.code yX5_write cX5_write 4 ((Option.some Jvm.ClassFile.FieldType.boolean)) ∈ zALL := aw_284
abbrev cX5_within : ByteArray := prog_1_method_17_code
def yX5_within : MethodName := ⟨RX5, "within", "(III)Z"⟩
abbrev wsX5_within : List Cond := Cond.code yX5_within cX5_within 3 ((Option.some Jvm.ClassFile.FieldType.boolean)) :: zALL
theorem kX5_within : Cond.code yX5_within cX5_within 3 ((Option.some Jvm.ClassFile.FieldType.boolean)) ∈ zALL := aw_287
abbrev cX3_takes : ByteArray := prog_5_method_3_code
def yX3_takes : MethodName := ⟨RX3, "takes", "(J)Z"⟩
abbrev wsX3_takes : List Cond := Cond.code yX3_takes cX3_takes 3 ((Option.some Jvm.ClassFile.FieldType.boolean)) :: zALL
theorem kX3_takes : Cond.code yX3_takes cX3_takes 3 ((Option.some Jvm.ClassFile.FieldType.boolean)) ∈ zALL := aw_291
abbrev cX3_append : ByteArray := prog_5_method_5_code
def yX3_append : MethodName := ⟨RX3, "append", "(JI)V"⟩
abbrev wsX3_append : List Cond := Cond.code yX3_append cX3_append 5 none :: zALL
theorem kX3_append : Cond.code yX3_append cX3_append 5 none ∈ zALL := aw_296
abbrev cX3_makeRoom : ByteArray := prog_5_method_7_code
def yX3_makeRoom : MethodName := ⟨RX3, "makeRoom", "(I)V"⟩
abbrev wsX3_makeRoom : List Cond := Cond.code yX3_makeRoom cX3_makeRoom 2 none :: zALL
theorem kX3_makeRoom : Cond.code yX3_makeRoom cX3_makeRoom 2 none ∈ zALL := aw_300
abbrev cX5_roomFor : ByteArray := prog_1_method_18_code
def yX5_roomFor : MethodName := ⟨RX5, "roomFor", "(I)I"⟩
abbrev wsX5_roomFor : List Cond := Cond.code yX5_roomFor cX5_roomFor 2 ((Option.some Jvm.ClassFile.FieldType.int)) :: zALL
theorem kX5_roomFor : Cond.code yX5_roomFor cX5_roomFor 2 ((Option.some Jvm.ClassFile.FieldType.int)) ∈ zALL := aw_303
abbrev cJ7_copyOf : ByteArray := prog_12_method_121_code
def yJ7_copyOf : MethodName := ⟨RJ7, "copyOf", "([BI)[B"⟩
abbrev wsJ7_copyOf : List Cond := Cond.code yJ7_copyOf cJ7_copyOf 3 ((Option.some (Jvm.ClassFile.FieldType.array Jvm.ClassFile.FieldType.byte))) :: zALL
theorem kJ7_copyOf : Cond.code yJ7_copyOf cJ7_copyOf 3 ((Option.some (Jvm.ClassFile.FieldType.array Jvm.ClassFile.FieldType.byte))) ∈ zALL := aw_307
abbrev cX5_again : ByteArray := prog_1_method_4_code
def yX5_again : MethodName := ⟨RX5, "again", "(II)Z"⟩
abbrev wsX5_again : List Cond := Cond.code yX5_again cX5_again 3 ((Option.some Jvm.ClassFile.FieldType.boolean)) :: zALL
theorem kX5_again : Cond.code yX5_again cX5_again 3 ((Option.some Jvm.ClassFile.FieldType.boolean)) ∈ zALL := aw_324
abbrev cX3_repeat : ByteArray := prog_5_method_6_code
def yX3_repeat : MethodName := ⟨RX3, "repeat", "(II)V"⟩
abbrev wsX3_repeat : List Cond := Cond.code yX3_repeat cX3_repeat 4 none :: zALL
theorem kX3_repeat : Cond.code yX3_repeat cX3_repeat 4 none ∈ zALL := aw_328
abbrev cX5_history : ByteArray := prog_1_method_5_code
def yX5_history : MethodName := ⟨RX5, "history", "(I)Z"⟩
abbrev wsX5_history : List Cond := Cond.code yX5_history cX5_history 2 ((Option.some Jvm.ClassFile.FieldType.boolean)) :: zALL
theorem kX5_history : Cond.code yX5_history cX5_history 2 ((Option.some Jvm.ClassFile.FieldType.boolean)) ∈ zALL := aw_332
abbrev cX5_rule : ByteArray := prog_1_method_6_code
def yX5_rule : MethodName := ⟨RX5, "rule", "(IIII)Z"⟩
abbrev wsX5_rule : List Cond := Cond.code yX5_rule cX5_rule 5 ((Option.some Jvm.ClassFile.FieldType.boolean)) :: zALL
theorem kX5_rule : Cond.code yX5_rule cX5_rule 5 ((Option.some Jvm.ClassFile.FieldType.boolean)) ∈ zALL := aw_336
abbrev cX5_bounds : ByteArray := prog_1_method_7_code
def yX5_bounds : MethodName := ⟨RX5, "bounds", "(IIII)Z"⟩
abbrev wsX5_bounds : List Cond := Cond.code yX5_bounds cX5_bounds 5 ((Option.some Jvm.ClassFile.FieldType.boolean)) :: zALL
theorem kX5_bounds : Cond.code yX5_bounds cX5_bounds 5 ((Option.some Jvm.ClassFile.FieldType.boolean)) ∈ zALL := aw_342
abbrev cX5_at : ByteArray := prog_1_method_8_code
def yX5_at : MethodName := ⟨RX5, "at", "(III)I"⟩
abbrev wsX5_at : List Cond := Cond.code yX5_at cX5_at 4 ((Option.some Jvm.ClassFile.FieldType.int)) :: zALL
theorem kX5_at : Cond.code yX5_at cX5_at 4 ((Option.some Jvm.ClassFile.FieldType.int)) ∈ zALL := aw_346
abbrev cX3_hasPlace : ByteArray := prog_5_method_2_code
def yX3_hasPlace : MethodName := ⟨RX3, "hasPlace", "(I)Z"⟩
abbrev wsX3_hasPlace : List Cond := Cond.code yX3_hasPlace cX3_hasPlace 2 ((Option.some Jvm.ClassFile.FieldType.boolean)) :: zALL
theorem kX3_hasPlace : Cond.code yX3_hasPlace cX3_hasPlace 2 ((Option.some Jvm.ClassFile.FieldType.boolean)) ∈ zALL := aw_350
abbrev cX0_readData : ByteArray := prog_2_method_4_code
def yX0_readData : MethodName := ⟨RX0, "readData", "()V"⟩
abbrev wsX0_readData : List Cond := Cond.code yX0_readData cX0_readData 2 none :: zALL
theorem kX0_readData : Cond.code yX0_readData cX0_readData 2 none ∈ zALL := aw_354
abbrev cX0_enlarge : ByteArray := prog_2_method_5_code
def yX0_enlarge : MethodName := ⟨RX0, "enlarge", "(I)V"⟩
abbrev wsX0_enlarge : List Cond := Cond.code yX0_enlarge cX0_enlarge 2 none :: zALL
theorem kX0_enlarge : Cond.code yX0_enlarge cX0_enlarge 2 none ∈ zALL := aw_359
abbrev cX0_slotOf : ByteArray := prog_2_method_6_code
def yX0_slotOf : MethodName := ⟨RX0, "slotOf", "(I)I"⟩
abbrev wsX0_slotOf : List Cond := Cond.code yX0_slotOf cX0_slotOf 5 ((Option.some Jvm.ClassFile.FieldType.int)) :: zALL
theorem kX0_slotOf : Cond.code yX0_slotOf cX0_slotOf 5 ((Option.some Jvm.ClassFile.FieldType.int)) ∈ zALL := aw_363
abbrev cX0_seek : ByteArray := prog_2_method_7_code
def yX0_seek : MethodName := ⟨RX0, "seek", "(II)V"⟩
abbrev wsX0_seek : List Cond := Cond.code yX0_seek cX0_seek 3 none :: zALL
theorem kX0_seek : Cond.code yX0_seek cX0_seek 3 none ∈ zALL := aw_368
abbrev cX0_seekNearest : ByteArray := prog_2_method_8_code
def yX0_seekNearest : MethodName := ⟨RX0, "seekNearest", "(I)V"⟩
abbrev wsX0_seekNearest : List Cond := Cond.code yX0_seekNearest cX0_seekNearest 2 none :: zALL
theorem kX0_seekNearest : Cond.code yX0_seekNearest cX0_seekNearest 2 none ∈ zALL := aw_372
abbrev cX0_startAt : ByteArray := prog_2_method_12_code
def yX0_startAt : MethodName := ⟨RX0, "startAt", "(II)V"⟩
abbrev wsX0_startAt : List Cond := Cond.code yX0_startAt cX0_startAt 4 none :: zALL
theorem kX0_startAt : Cond.code yX0_startAt cX0_startAt 4 none ∈ zALL := aw_376
abbrev cX4_endOf : ByteArray := prog_6_method_3_code
def yX4_endOf : MethodName := ⟨RX4, "endOf", "(I)I"⟩
abbrev wsX4_endOf : List Cond := Cond.code yX4_endOf cX4_endOf 2 ((Option.some Jvm.ClassFile.FieldType.int)) :: zALL
theorem kX4_endOf : Cond.code yX4_endOf cX4_endOf 2 ((Option.some Jvm.ClassFile.FieldType.int)) ∈ zALL := aw_383
abbrev cX4_lastOf : ByteArray := prog_6_method_2_code
def yX4_lastOf : MethodName := ⟨RX4, "lastOf", "(I)I"⟩
abbrev wsX4_lastOf : List Cond := Cond.code yX4_lastOf cX4_lastOf 2 ((Option.some Jvm.ClassFile.FieldType.int)) :: zALL
theorem kX4_lastOf : Cond.code yX4_lastOf cX4_lastOf 2 ((Option.some Jvm.ClassFile.FieldType.int)) ∈ zALL := aw_389
abbrev cX0_findLonger : ByteArray := prog_2_method_14_code
def yX0_findLonger : MethodName := ⟨RX0, "findLonger", "()Z"⟩
abbrev wsX0_findLonger : List Cond := Cond.code yX0_findLonger cX0_findLonger 5 ((Option.some Jvm.ClassFile.FieldType.boolean)) :: zALL
theorem kX0_findLonger : Cond.code yX0_findLonger cX0_findLonger 5 ((Option.some Jvm.ClassFile.FieldType.boolean)) ∈ zALL := aw_393
abbrev cX0_sameBytes : ByteArray := prog_2_method_15_code
def yX0_sameBytes : MethodName := ⟨RX0, "sameBytes", "(III)I"⟩
abbrev wsX0_sameBytes : List Cond := Cond.code yX0_sameBytes cX0_sameBytes 10 ((Option.some Jvm.ClassFile.FieldType.int)) :: zALL
theorem kX0_sameBytes : Cond.code yX0_sameBytes cX0_sameBytes 10 ((Option.some Jvm.ClassFile.FieldType.int)) ∈ zALL := aw_397
abbrev cX0_seekLongestIfNotNext : ByteArray := prog_2_method_10_code
def yX0_seekLongestIfNotNext : MethodName := ⟨RX0, "seekLongestIfNotNext", "(I)V"⟩
abbrev wsX0_seekLongestIfNotNext : List Cond := Cond.code yX0_seekLongestIfNotNext cX0_seekLongestIfNotNext 5 none :: zALL
theorem kX0_seekLongestIfNotNext : Cond.code yX0_seekLongestIfNotNext cX0_seekLongestIfNotNext 5 none ∈ zALL := aw_401
abbrev cX0_seekLongest : ByteArray := prog_2_method_9_code
def yX0_seekLongest : MethodName := ⟨RX0, "seekLongest", "(I)V"⟩
abbrev wsX0_seekLongest : List Cond := Cond.code yX0_seekLongest cX0_seekLongest 3 none :: zALL
theorem kX0_seekLongest : Cond.code yX0_seekLongest cX0_seekLongest 3 none ∈ zALL := aw_405
abbrev cX5_count : ByteArray := prog_1_method_9_code
def yX5_count : MethodName := ⟨RX5, "count", "(I)I"⟩
abbrev wsX5_count : List Cond := Cond.code yX5_count cX5_count 2 ((Option.some Jvm.ClassFile.FieldType.int)) :: zALL
theorem kX5_count : Cond.code yX5_count cX5_count 2 ((Option.some Jvm.ClassFile.FieldType.int)) ∈ zALL := aw_409
abbrev cX0_matchesAt : ByteArray := prog_2_method_11_code
def yX0_matchesAt : MethodName := ⟨RX0, "matchesAt", "(I)I"⟩
abbrev wsX0_matchesAt : List Cond := Cond.code yX0_matchesAt cX0_matchesAt 4 ((Option.some Jvm.ClassFile.FieldType.int)) :: zALL
theorem kX0_matchesAt : Cond.code yX0_matchesAt cX0_matchesAt 4 ((Option.some Jvm.ClassFile.FieldType.int)) ∈ zALL := aw_413
abbrev cX5_go : ByteArray := prog_1_method_10_code
def yX5_go : MethodName := ⟨RX5, "go", "()I"⟩
abbrev wsX5_go : List Cond := Cond.code yX5_go cX5_go 2 ((Option.some Jvm.ClassFile.FieldType.int)) :: zALL
theorem kX5_go : Cond.code yX5_go cX5_go 2 ((Option.some Jvm.ClassFile.FieldType.int)) ∈ zALL := aw_417
abbrev cX1_begin : ByteArray := prog_3_method_3_code
def yX1_begin : MethodName := ⟨RX1, "begin", "()V"⟩
abbrev wsX1_begin : List Cond := Cond.code yX1_begin cX1_begin 2 none :: zALL
theorem kX1_begin : Cond.code yX1_begin cX1_begin 2 none ∈ zALL := aw_421
abbrev cX5_followPlan : ByteArray := prog_1_method_16_code
def yX5_followPlan : MethodName := ⟨RX5, "followPlan", "()V"⟩
abbrev wsX5_followPlan : List Cond := Cond.code yX5_followPlan cX5_followPlan 3 none :: zALL
theorem kX5_followPlan : Cond.code yX5_followPlan cX5_followPlan 3 none ∈ zALL := aw_427
abbrev cX2_make : ByteArray := prog_4_method_2_code
def yX2_make : MethodName := ⟨RX2, "make", "()V"⟩
abbrev wsX2_make : List Cond := Cond.code yX2_make cX2_make 5 none :: zALL
theorem kX2_make : Cond.code yX2_make cX2_make 5 none ∈ zALL := aw_431
abbrev cX2_makeRoom : ByteArray := prog_4_method_3_code
def yX2_makeRoom : MethodName := ⟨RX2, "makeRoom", "(I)V"⟩
abbrev wsX2_makeRoom : List Cond := Cond.code yX2_makeRoom cX2_makeRoom 3 none :: zALL
theorem kX2_makeRoom : Cond.code yX2_makeRoom cX2_makeRoom 3 none ∈ zALL := aw_435
abbrev cX2_addEnd : ByteArray := prog_4_method_7_code
def yX2_addEnd : MethodName := ⟨RX2, "addEnd", "(I)V"⟩
abbrev wsX2_addEnd : List Cond := Cond.code yX2_addEnd cX2_addEnd 2 none :: zALL
theorem kX2_addEnd : Cond.code yX2_addEnd cX2_addEnd 2 none ∈ zALL := aw_443
abbrev cX2_takeLiteral : ByteArray := prog_4_method_4_code
def yX2_takeLiteral : MethodName := ⟨RX2, "takeLiteral", "(I)V"⟩
abbrev wsX2_takeLiteral : List Cond := Cond.code yX2_takeLiteral cX2_takeLiteral 2 none :: zALL
theorem kX2_takeLiteral : Cond.code yX2_takeLiteral cX2_takeLiteral 2 none ∈ zALL := aw_447
abbrev cX2_takeBestMatch : ByteArray := prog_4_method_5_code
def yX2_takeBestMatch : MethodName := ⟨RX2, "takeBestMatch", "(II)V"⟩
abbrev wsX2_takeBestMatch : List Cond := Cond.code yX2_takeBestMatch cX2_takeBestMatch 5 none :: zALL
theorem kX2_takeBestMatch : Cond.code yX2_takeBestMatch cX2_takeBestMatch 5 none ∈ zALL := aw_451
abbrev cX0_expectAtMost : ByteArray := prog_2_method_13_code
def yX0_expectAtMost : MethodName := ⟨RX0, "expectAtMost", "(I)V"⟩
abbrev wsX0_expectAtMost : List Cond := Cond.code yX0_expectAtMost cX0_expectAtMost 2 none :: zALL
theorem kX0_expectAtMost : Cond.code yX0_expectAtMost cX0_expectAtMost 2 none ∈ zALL := aw_457
abbrev cX2_consider : ByteArray := prog_4_method_6_code
def yX2_consider : MethodName := ⟨RX2, "consider", "(III)V"⟩
abbrev wsX2_consider : List Cond := Cond.code yX2_consider cX2_consider 6 none :: zALL
theorem kX2_consider : Cond.code yX2_consider cX2_consider 6 none ∈ zALL := aw_462
abbrev cX2_cheapestEnd : ByteArray := prog_4_method_8_code
def yX2_cheapestEnd : MethodName := ⟨RX2, "cheapestEnd", "(I)I"⟩
abbrev wsX2_cheapestEnd : List Cond := Cond.code yX2_cheapestEnd cX2_cheapestEnd 5 ((Option.some Jvm.ClassFile.FieldType.int)) :: zALL
theorem kX2_cheapestEnd : Cond.code yX2_cheapestEnd cX2_cheapestEnd 5 ((Option.some Jvm.ClassFile.FieldType.int)) ∈ zALL := aw_466
abbrev cX5_bitsOf : ByteArray := prog_1_method_19_code
def yX5_bitsOf : MethodName := ⟨RX5, "bitsOf", "(I)I"⟩
abbrev wsX5_bitsOf : List Cond := Cond.code yX5_bitsOf cX5_bitsOf 2 ((Option.some Jvm.ClassFile.FieldType.int)) :: zALL
theorem kX5_bitsOf : Cond.code yX5_bitsOf cX5_bitsOf 2 ((Option.some Jvm.ClassFile.FieldType.int)) ∈ zALL := aw_469
abbrev cX1_add : ByteArray := prog_3_method_4_code
def yX1_add : MethodName := ⟨RX1, "add", "(II)V"⟩
abbrev wsX1_add : List Cond := Cond.code yX1_add cX1_add 3 none :: zALL
theorem kX1_add : Cond.code yX1_add cX1_add 3 none ∈ zALL := aw_473
abbrev cX5_takeWhatIsSought : ByteArray := prog_1_method_15_code
def yX5_takeWhatIsSought : MethodName := ⟨RX5, "takeWhatIsSought", "()V"⟩
abbrev wsX5_takeWhatIsSought : List Cond := Cond.code yX5_takeWhatIsSought cX5_takeWhatIsSought 2 none :: zALL
theorem kX5_takeWhatIsSought : Cond.code yX5_takeWhatIsSought cX5_takeWhatIsSought 2 none ∈ zALL := aw_480
abbrev cX5_stretch : ByteArray := prog_1_method_11_code
def yX5_stretch : MethodName := ⟨RX5, "stretch", "(II)I"⟩
abbrev wsX5_stretch : List Cond := Cond.code yX5_stretch cX5_stretch 3 ((Option.some Jvm.ClassFile.FieldType.int)) :: zALL
theorem kX5_stretch : Cond.code yX5_stretch cX5_stretch 3 ((Option.some Jvm.ClassFile.FieldType.int)) ∈ zALL := aw_484
abbrev cX5_about : ByteArray := prog_1_method_12_code
def yX5_about : MethodName := ⟨RX5, "about", "(I)I"⟩
abbrev wsX5_about : List Cond := Cond.code yX5_about cX5_about 2 ((Option.some Jvm.ClassFile.FieldType.int)) :: zALL
theorem kX5_about : Cond.code yX5_about cX5_about 2 ((Option.some Jvm.ClassFile.FieldType.int)) ∈ zALL := aw_488
abbrev cX5_unlike : ByteArray := prog_1_method_13_code
def yX5_unlike : MethodName := ⟨RX5, "unlike", "()I"⟩
abbrev wsX5_unlike : List Cond := Cond.code yX5_unlike cX5_unlike 1 ((Option.some Jvm.ClassFile.FieldType.int)) :: zALL
theorem kX5_unlike : Cond.code yX5_unlike cX5_unlike 1 ((Option.some Jvm.ClassFile.FieldType.int)) ∈ zALL := aw_492
abbrev cX1_differences : ByteArray := prog_3_method_5_code
def yX1_differences : MethodName := ⟨RX1, "differences", "()I"⟩
abbrev wsX1_differences : List Cond := Cond.code yX1_differences cX1_differences 3 ((Option.some Jvm.ClassFile.FieldType.int)) :: zALL
theorem kX1_differences : Cond.code yX1_differences cX1_differences 3 ((Option.some Jvm.ClassFile.FieldType.int)) ∈ zALL := aw_496
abbrev cX1_rebuild : ByteArray := prog_3_method_6_code
def yX1_rebuild : MethodName := ⟨RX1, "rebuild", "()V"⟩
abbrev wsX1_rebuild : List Cond := Cond.code yX1_rebuild cX1_rebuild 3 none :: zALL
theorem kX1_rebuild : Cond.code yX1_rebuild cX1_rebuild 3 none ∈ zALL := aw_500
abbrev cX1_copyFromData : ByteArray := prog_3_method_7_code
def yX1_copyFromData : MethodName := ⟨RX1, "copyFromData", "(II)I"⟩
abbrev wsX1_copyFromData : List Cond := Cond.code yX1_copyFromData cX1_copyFromData 5 ((Option.some Jvm.ClassFile.FieldType.int)) :: zALL
theorem kX1_copyFromData : Cond.code yX1_copyFromData cX1_copyFromData 5 ((Option.some Jvm.ClassFile.FieldType.int)) ∈ zALL := aw_504
abbrev cX1_copyFromRebuilt : ByteArray := prog_3_method_8_code
def yX1_copyFromRebuilt : MethodName := ⟨RX1, "copyFromRebuilt", "(III)I"⟩
abbrev wsX1_copyFromRebuilt : List Cond := Cond.code yX1_copyFromRebuilt cX1_copyFromRebuilt 6 ((Option.some Jvm.ClassFile.FieldType.int)) :: zALL
theorem kX1_copyFromRebuilt : Cond.code yX1_copyFromRebuilt cX1_copyFromRebuilt 6 ((Option.some Jvm.ClassFile.FieldType.int)) ∈ zALL := aw_509
abbrev cX5_size : ByteArray := prog_1_method_14_code
def yX5_size : MethodName := ⟨RX5, "size", "()I"⟩
abbrev wsX5_size : List Cond := Cond.code yX5_size cX5_size 1 ((Option.some Jvm.ClassFile.FieldType.int)) :: zALL
theorem kX5_size : Cond.code yX5_size cX5_size 1 ((Option.some Jvm.ClassFile.FieldType.int)) ∈ zALL := aw_513
abbrev cX6_init : ByteArray := prog_8_method_1_code
def yX6_init : MethodName := ⟨RX6, "<init>", "()V"⟩
abbrev wsX6_init : List Cond := Cond.code yX6_init cX6_init 1 none :: zALL
theorem kX6_init : Cond.code yX6_init cX6_init 1 none ∈ zALL := aw_518
abbrev cX6_clear : ByteArray := prog_8_method_3_code
def yX6_clear : MethodName := ⟨RX6, "clear", "()V"⟩
abbrev wsX6_clear : List Cond := Cond.code yX6_clear cX6_clear 1 none :: zALL
theorem kX6_clear : Cond.code yX6_clear cX6_clear 1 none ∈ zALL := aw_605
abbrev cX6_write : ByteArray := prog_8_method_4_code
def yX6_write : MethodName := ⟨RX6, "write", "(JI)Z"⟩
abbrev wsX6_write : List Cond := Cond.code yX6_write cX6_write 5 ((Option.some Jvm.ClassFile.FieldType.boolean)) :: zALL
theorem kX6_write : Cond.code yX6_write cX6_write 5 ((Option.some Jvm.ClassFile.FieldType.boolean)) ∈ zALL := aw_609
abbrev cX6_within : ByteArray := prog_8_method_2_code
def yX6_within : MethodName := ⟨RX6, "within", "(III)Z"⟩
abbrev wsX6_within : List Cond := Cond.code yX6_within cX6_within 3 ((Option.some Jvm.ClassFile.FieldType.boolean)) :: zALL
theorem kX6_within : Cond.code yX6_within cX6_within 3 ((Option.some Jvm.ClassFile.FieldType.boolean)) ∈ zALL := aw_612
abbrev cX6_again : ByteArray := prog_8_method_5_code
def yX6_again : MethodName := ⟨RX6, "again", "(II)Z"⟩
abbrev wsX6_again : List Cond := Cond.code yX6_again cX6_again 4 ((Option.some Jvm.ClassFile.FieldType.boolean)) :: zALL
theorem kX6_again : Cond.code yX6_again cX6_again 4 ((Option.some Jvm.ClassFile.FieldType.boolean)) ∈ zALL := aw_616
abbrev cX6_history : ByteArray := prog_8_method_6_code
def yX6_history : MethodName := ⟨RX6, "history", "(I)Z"⟩
abbrev wsX6_history : List Cond := Cond.code yX6_history cX6_history 2 ((Option.some Jvm.ClassFile.FieldType.boolean)) :: zALL
theorem kX6_history : Cond.code yX6_history cX6_history 2 ((Option.some Jvm.ClassFile.FieldType.boolean)) ∈ zALL := aw_620
abbrev cX6_rule : ByteArray := prog_8_method_7_code
def yX6_rule : MethodName := ⟨RX6, "rule", "(IIII)Z"⟩
abbrev wsX6_rule : List Cond := Cond.code yX6_rule cX6_rule 5 ((Option.some Jvm.ClassFile.FieldType.boolean)) :: zALL
theorem kX6_rule : Cond.code yX6_rule cX6_rule 5 ((Option.some Jvm.ClassFile.FieldType.boolean)) ∈ zALL := aw_624
abbrev cX6_bounds : ByteArray := prog_8_method_8_code
def yX6_bounds : MethodName := ⟨RX6, "bounds", "(IIII)Z"⟩
abbrev wsX6_bounds : List Cond := Cond.code yX6_bounds cX6_bounds 5 ((Option.some Jvm.ClassFile.FieldType.boolean)) :: zALL
theorem kX6_bounds : Cond.code yX6_bounds cX6_bounds 5 ((Option.some Jvm.ClassFile.FieldType.boolean)) ∈ zALL := aw_628
abbrev cX6_at : ByteArray := prog_8_method_17_code
def yX6_at : MethodName := ⟨RX6, "at", "(III)I"⟩
abbrev wsX6_at : List Cond := Cond.code yX6_at cX6_at 4 ((Option.some Jvm.ClassFile.FieldType.int)) :: zALL
theorem kX6_at : Cond.code yX6_at cX6_at 4 ((Option.some Jvm.ClassFile.FieldType.int)) ∈ zALL := aw_632
abbrev cX6_chosen : ByteArray := prog_8_method_16_code
def yX6_chosen : MethodName := ⟨RX6, "chosen", "(II)Z"⟩
abbrev wsX6_chosen : List Cond := Cond.code yX6_chosen cX6_chosen 6 ((Option.some Jvm.ClassFile.FieldType.boolean)) :: zALL
theorem kX6_chosen : Cond.code yX6_chosen cX6_chosen 6 ((Option.some Jvm.ClassFile.FieldType.boolean)) ∈ zALL := aw_636
abbrev cX6_nearest : ByteArray := prog_8_method_14_code
def yX6_nearest : MethodName := ⟨RX6, "nearest", "(II)Z"⟩
abbrev wsX6_nearest : List Cond := Cond.code yX6_nearest cX6_nearest 5 ((Option.some Jvm.ClassFile.FieldType.boolean)) :: zALL
theorem kX6_nearest : Cond.code yX6_nearest cX6_nearest 5 ((Option.some Jvm.ClassFile.FieldType.boolean)) ∈ zALL := aw_640
abbrev cX6_room : ByteArray := prog_8_method_11_code
def yX6_room : MethodName := ⟨RX6, "room", "(I)I"⟩
abbrev wsX6_room : List Cond := Cond.code yX6_room cX6_room 3 ((Option.some Jvm.ClassFile.FieldType.int)) :: zALL
theorem kX6_room : Cond.code yX6_room cX6_room 3 ((Option.some Jvm.ClassFile.FieldType.int)) ∈ zALL := aw_644
abbrev cX6_end : ByteArray := prog_8_method_10_code
def yX6_end : MethodName := ⟨RX6, "end", "()I"⟩
abbrev wsX6_end : List Cond := Cond.code yX6_end cX6_end 1 ((Option.some Jvm.ClassFile.FieldType.int)) :: zALL
theorem kX6_end : Cond.code yX6_end cX6_end 1 ((Option.some Jvm.ClassFile.FieldType.int)) ∈ zALL := aw_648
abbrev cX6_last : ByteArray := prog_8_method_9_code
def yX6_last : MethodName := ⟨RX6, "last", "()I"⟩
abbrev wsX6_last : List Cond := Cond.code yX6_last cX6_last 1 ((Option.some Jvm.ClassFile.FieldType.int)) :: zALL
theorem kX6_last : Cond.code yX6_last cX6_last 1 ((Option.some Jvm.ClassFile.FieldType.int)) ∈ zALL := aw_652
abbrev cX6_lowest : ByteArray := prog_8_method_13_code
def yX6_lowest : MethodName := ⟨RX6, "lowest", "(I)I"⟩
abbrev wsX6_lowest : List Cond := Cond.code yX6_lowest cX6_lowest 2 ((Option.some Jvm.ClassFile.FieldType.int)) :: zALL
theorem kX6_lowest : Cond.code yX6_lowest cX6_lowest 2 ((Option.some Jvm.ClassFile.FieldType.int)) ∈ zALL := aw_656
abbrev cX6_alike : ByteArray := prog_8_method_12_code
def yX6_alike : MethodName := ⟨RX6, "alike", "(III)I"⟩
abbrev wsX6_alike : List Cond := Cond.code yX6_alike cX6_alike 5 ((Option.some Jvm.ClassFile.FieldType.int)) :: zALL
theorem kX6_alike : Cond.code yX6_alike cX6_alike 5 ((Option.some Jvm.ClassFile.FieldType.int)) ∈ zALL := aw_660
abbrev cX6_longest : ByteArray := prog_8_method_15_code
def yX6_longest : MethodName := ⟨RX6, "longest", "(I)Z"⟩
abbrev wsX6_longest : List Cond := Cond.code yX6_longest cX6_longest 5 ((Option.some Jvm.ClassFile.FieldType.boolean)) :: zALL
theorem kX6_longest : Cond.code yX6_longest cX6_longest 5 ((Option.some Jvm.ClassFile.FieldType.boolean)) ∈ zALL := aw_664
abbrev cX6_count : ByteArray := prog_8_method_18_code
def yX6_count : MethodName := ⟨RX6, "count", "(I)I"⟩
abbrev wsX6_count : List Cond := Cond.code yX6_count cX6_count 4 ((Option.some Jvm.ClassFile.FieldType.int)) :: zALL
theorem kX6_count : Cond.code yX6_count cX6_count 4 ((Option.some Jvm.ClassFile.FieldType.int)) ∈ zALL := aw_668
abbrev cX6_go : ByteArray := prog_8_method_22_code
def yX6_go : MethodName := ⟨RX6, "go", "()I"⟩
abbrev wsX6_go : List Cond := Cond.code yX6_go cX6_go 3 ((Option.some Jvm.ClassFile.FieldType.int)) :: zALL
theorem kX6_go : Cond.code yX6_go cX6_go 3 ((Option.some Jvm.ClassFile.FieldType.int)) ∈ zALL := aw_672
abbrev cX6_reckon : ByteArray := prog_8_method_24_code
def yX6_reckon : MethodName := ⟨RX6, "reckon", "()V"⟩
abbrev wsX6_reckon : List Cond := Cond.code yX6_reckon cX6_reckon 8 none :: zALL
theorem kX6_reckon : Cond.code yX6_reckon cX6_reckon 8 none ∈ zALL := aw_676
abbrev cX6_better : ByteArray := prog_8_method_25_code
def yX6_better : MethodName := ⟨RX6, "better", "(III)V"⟩
abbrev wsX6_better : List Cond := Cond.code yX6_better cX6_better 7 none :: zALL
theorem kX6_better : Cond.code yX6_better cX6_better 7 none ∈ zALL := aw_680
abbrev cX6_bits : ByteArray := prog_8_method_19_code
def yX6_bits : MethodName := ⟨RX6, "bits", "(I)I"⟩
abbrev wsX6_bits : List Cond := Cond.code yX6_bits cX6_bits 3 ((Option.some Jvm.ClassFile.FieldType.int)) :: zALL
theorem kX6_bits : Cond.code yX6_bits cX6_bits 3 ((Option.some Jvm.ClassFile.FieldType.int)) ∈ zALL := aw_683
abbrev cX6_reckoned : ByteArray := prog_8_method_23_code
def yX6_reckoned : MethodName := ⟨RX6, "reckoned", "(I)Z"⟩
abbrev wsX6_reckoned : List Cond := Cond.code yX6_reckoned cX6_reckoned 2 ((Option.some Jvm.ClassFile.FieldType.boolean)) :: zALL
theorem kX6_reckoned : Cond.code yX6_reckoned cX6_reckoned 2 ((Option.some Jvm.ClassFile.FieldType.boolean)) ∈ zALL := aw_687
abbrev cX6_match : ByteArray := prog_8_method_21_code
def yX6_match : MethodName := ⟨RX6, "match", "()V"⟩
abbrev wsX6_match : List Cond := Cond.code yX6_match cX6_match 1 none :: zALL
theorem kX6_match : Cond.code yX6_match cX6_match 1 none ∈ zALL := aw_691
abbrev cX6_literal : ByteArray := prog_8_method_20_code
def yX6_literal : MethodName := ⟨RX6, "literal", "()V"⟩
abbrev wsX6_literal : List Cond := Cond.code yX6_literal cX6_literal 1 none :: zALL
theorem kX6_literal : Cond.code yX6_literal cX6_literal 1 none ∈ zALL := aw_695
abbrev cX6_stretch : ByteArray := prog_8_method_26_code
def yX6_stretch : MethodName := ⟨RX6, "stretch", "(II)I"⟩
abbrev wsX6_stretch : List Cond := Cond.code yX6_stretch cX6_stretch 3 ((Option.some Jvm.ClassFile.FieldType.int)) :: zALL
theorem kX6_stretch : Cond.code yX6_stretch cX6_stretch 3 ((Option.some Jvm.ClassFile.FieldType.int)) ∈ zALL := aw_699
abbrev cX6_about : ByteArray := prog_8_method_27_code
def yX6_about : MethodName := ⟨RX6, "about", "(I)I"⟩
abbrev wsX6_about : List Cond := Cond.code yX6_about cX6_about 5 ((Option.some Jvm.ClassFile.FieldType.int)) :: zALL
theorem kX6_about : Cond.code yX6_about cX6_about 5 ((Option.some Jvm.ClassFile.FieldType.int)) ∈ zALL := aw_703
abbrev cX6_unlike : ByteArray := prog_8_method_28_code
def yX6_unlike : MethodName := ⟨RX6, "unlike", "()I"⟩
abbrev wsX6_unlike : List Cond := Cond.code yX6_unlike cX6_unlike 5 ((Option.some Jvm.ClassFile.FieldType.int)) :: zALL
theorem kX6_unlike : Cond.code yX6_unlike cX6_unlike 5 ((Option.some Jvm.ClassFile.FieldType.int)) ∈ zALL := aw_707
abbrev cX6_size : ByteArray := prog_8_method_29_code
def yX6_size : MethodName := ⟨RX6, "size", "()I"⟩
abbrev wsX6_size : List Cond := Cond.code yX6_size cX6_size 1 ((Option.some Jvm.ClassFile.FieldType.int)) :: zALL
theorem kX6_size : Cond.code yX6_size cX6_size 1 ((Option.some Jvm.ClassFile.FieldType.int)) ∈ zALL := aw_711
abbrev cL_law : ByteArray := code
end
section
/-- an Int32 by its value -/
def vI (z : Int) : Int32 := Int32.ofInt z
theorem vI_T {z : Int} (h1 : -2147483648 ≤ z) (h2 : z < 2147483648) : (vI z).toInt = z := Int32.toInt_ofInt_of_le (by omega) (by omega)
theorem vI_of (x : Int32) : x = vI x.toInt := (Int32.ofInt_toInt x).symm
theorem vI_ex (x : Int32) : ∃ z : Int, (-2147483648 ≤ z ∧ z < 2147483648) ∧ x = vI z := ⟨x.toInt, ⟨by have := x.le_toInt; omega, by have := x.toInt_lt; omega⟩, vI_of x⟩
theorem vI_add (a b : Int) : vI a + vI b = vI (a + b) := (Int32.ofInt_add a b).symm
theorem vI_sub (a b : Int) : vI a - vI b = vI (a - b) := (Int32.ofInt_sub a b).symm
theorem vI_mul (a b : Int) : vI a * vI b = vI (a * b) := (Int32.ofInt_mul a b).symm
abbrev vB (z : Int) : Prop := -2147483648 ≤ z ∧ z < 2147483648
theorem vI_le {a b : Int} (ha : vB a) (hb : vB b) : vI a ≤ vI b ↔ a ≤ b := by rw [Int32.le_iff_toInt_le, vI_T ha.1 ha.2, vI_T hb.1 hb.2]
theorem vI_lt {a b : Int} (ha : vB a) (hb : vB b) : vI a < vI b ↔ a < b := by rw [Int32.lt_iff_toInt_lt, vI_T ha.1 ha.2, vI_T hb.1 hb.2]
theorem vI_eq {a b : Int} (ha : vB a) (hb : vB b) : vI a = vI b ↔ a = b := ⟨fun h => by rw [← vI_T ha.1 ha.2, h, vI_T hb.1 hb.2], fun h => by rw [h]⟩
theorem vB_0 : vB 0 := ⟨by omega, by omega⟩
theorem vI_cl {k : Nat} (h : k < 2147483648) : (vI (k : Int)).toNatClampNeg = k := by
  show (vI (k : Int)).toInt.toNat = k
  rw [vI_T (by omega) (by omega)]
  exact Int.toNat_natCast k
theorem vI_in {k n : Nat} (h : k < n) (hn : n ≤ 2147483647) : vp_in (vI (k : Int)) n := vp_in_iff.mpr (by rw [vI_T (by omega) (by omega)]; omega)
theorem vI_nat (k : Nat) : Int32.ofNat k = vI (k : Int) := Int32.ofInt_eq_ofNat.symm
theorem vI_div {a b : Int} (ha : 0 ≤ a ∧ a < 2147483648) (hb : 0 < b ∧ b < 2147483648) : vI a / vI b = vI (a / b) := by
  have h1 : vI b ≠ -1 := fun h => by
    have h2 := congrArg Int32.toInt h
    rw [vI_T (by omega) (by omega)] at h2
    have h3 : (-1 : Int32).toInt = -1 := by decide
    omega
  have h4 : 0 ≤ a / b := Int.ediv_nonneg ha.1 (by omega)
  have h5 : a / b ≤ a := Int.ediv_le_self b ha.1
  apply Int32.toInt.inj
  rw [Int32.toInt_div_of_ne_right _ _ h1, vI_T (by omega) (by omega), vI_T (by omega) (by omega), vI_T (by omega) (by omega), Int.tdiv_eq_ediv_of_nonneg ha.1]
theorem vI_max {x y : Int} (hx : vB x) (hy : vB y) : (if vI x < vI y then vI y else vI x) = vI (max x y) := by
  by_cases h : x < y
  · rw [if_pos ((vI_lt hx hy).mpr h)]; congr 1; omega
  · rw [if_neg (fun q => h ((vI_lt hx hy).mp q))]; congr 1; omega
theorem vI_min {x y : Int} (hx : vB x) (hy : vB y) : (if vI y < vI x then vI y else vI x) = vI (min x y) := by
  by_cases h : y < x
  · rw [if_pos ((vI_lt hy hx).mpr h)]; congr 1; omega
  · rw [if_neg (fun q => h ((vI_lt hy hx).mp q))]; congr 1; omega
/-- a row of numbers, one place set -/
def zU (g : Nat → Int) (k : Nat) (z : Int) : Nat → Int := fun j => if j = k then z else g j
theorem zU_s {g : Nat → Int} {k : Nat} {z : Int} : zU g k z k = z := by simp [zU]
theorem zU_n {g : Nat → Int} {k j : Nat} {z : Int} (h : j ≠ k) : zU g k z j = g j := by simp [zU, h]
/-- an array's cell, its contents by value -/
abbrev ia (a : Nat) (cA : ClassId) (n : Nat) (g : Nat → Int) : Nat × va_E := (a, .inl (cA, n, .inl (fun j => vI (g j))))
theorem vI_nb {z : Int} (h : -128 ≤ z ∧ z < 128) : vp_nar .byte (vI z) = vI z := by
  rw [vp_nar_byte]
  apply Int32.toInt.inj
  rw [Int8.toInt_toInt32, show (vI z).toInt8 = Int8.ofInt z from Int32.toInt8_ofInt, Int8.toInt_ofInt_of_le (by omega) (by omega), vI_T (by omega) (by omega)]
section ZW
variable {p : Program} {l : Launch} {e : Env} {R : Room} {s : State} {m : MethodId} {args : Array Value} {below : List Frame} {meth : Method} {c : Code} {H : Heap} {locs : List Loc} {cells slots : Nat} {Q : State → Prop} {cc : ByteArray} {pc : Nat} {ls : Array Slot} {rest : List Value} {D : va_G} {cl : List vw_C} {A : Nat → Prop} {a : Nat} {tys : List (ClassId × FieldType)} {ws : va_W} {H0 : Heap}
theorem zw_iconst (hx : p.tables.exec = Jvm.exec) (hb : c.code = cc) {n : Int} (hdg : decode cc pc = .ok (.iconst n, 1)) (k : W p l e R s m args below meth c H locs cells slots Q (F0 m (pc + 1) ls (.int (vI n) :: rest))) : W p l e R s m args below meth c H locs cells slots Q (F0 m pc ls (rest)) := lv_iconst hx hb hdg rfl k
theorem zw_bipush (hx : p.tables.exec = Jvm.exec) (hb : c.code = cc) {n : Int} (hdg : decode cc pc = .ok (.bipush n, 2)) (hv : (Int8.ofInt n).toInt32 = vI n) (k : W p l e R s m args below meth c H locs cells slots Q (F0 m (pc + 2) ls (.int (vI n) :: rest))) : W p l e R s m args below meth c H locs cells slots Q (F0 m pc ls (rest)) := lv_bipush hx hb hdg hv k
theorem zw_sipush (hx : p.tables.exec = Jvm.exec) (hb : c.code = cc) {n : Int} (hdg : decode cc pc = .ok (.sipush n, 3)) (hv : (Int16.ofInt n).toInt32 = vI n) (k : W p l e R s m args below meth c H locs cells slots Q (F0 m (pc + 3) ls (.int (vI n) :: rest))) : W p l e R s m args below meth c H locs cells slots Q (F0 m pc ls (rest)) := lv_sipush hx hb hdg hv k
theorem zw_as {x : Int32} {z : Int} (h : x = vI z) (k : W p l e R s m args below meth c H locs cells slots Q (F0 m pc ls (.int (vI z) :: rest))) : W p l e R s m args below meth c H locs cells slots Q (F0 m pc ls (.int x :: rest)) := h ▸ k
theorem zw_to {z z2 : Int} (h : z = z2) (k : W p l e R s m args below meth c H locs cells slots Q (F0 m pc ls (.int (vI z2) :: rest))) : W p l e R s m args below meth c H locs cells slots Q (F0 m pc ls (.int (vI z) :: rest)) := h ▸ k
theorem zw_tol {x z2 : Int64} (h : x = z2) (k : W p l e R s m args below meth c H locs cells slots Q (F0 m pc ls (.long z2 :: rest))) : W p l e R s m args below meth c H locs cells slots Q (F0 m pc ls (.long x :: rest)) := h ▸ k
theorem zw_iadd (hx : p.tables.exec = Jvm.exec) (hb : c.code = cc) {x y : Int} (hdg : decode cc pc = .ok (.iadd, 1)) (k : W p l e R s m args below meth c H locs cells slots Q (F0 m (pc + 1) ls (.int (vI (x + y)) :: rest))) : W p l e R s m args below meth c H locs cells slots Q (F0 m pc ls (.int (vI y) :: .int (vI x) :: rest)) := lv_iadd hx hb hdg (by rw [vI_add]; exact k)
theorem zw_isub (hx : p.tables.exec = Jvm.exec) (hb : c.code = cc) {x y : Int} (hdg : decode cc pc = .ok (.isub, 1)) (k : W p l e R s m args below meth c H locs cells slots Q (F0 m (pc + 1) ls (.int (vI (x - y)) :: rest))) : W p l e R s m args below meth c H locs cells slots Q (F0 m pc ls (.int (vI y) :: .int (vI x) :: rest)) := lv_isub hx hb hdg (by rw [vI_sub]; exact k)
theorem zw_imul (hx : p.tables.exec = Jvm.exec) (hb : c.code = cc) {x y : Int} (hdg : decode cc pc = .ok (.imul, 1)) (k : W p l e R s m args below meth c H locs cells slots Q (F0 m (pc + 1) ls (.int (vI (x * y)) :: rest))) : W p l e R s m args below meth c H locs cells slots Q (F0 m pc ls (.int (vI y) :: .int (vI x) :: rest)) := lv_imul hx hb hdg (by rw [vI_mul]; exact k)
theorem zw_idiv (hx : p.tables.exec = Jvm.exec) (hb : c.code = cc) {x y : Int} (hdg : decode cc pc = .ok (.idiv, 1)) (h1 : 0 ≤ x ∧ x < 2147483648) (h2 : 0 < y ∧ y < 2147483648) (k : W p l e R s m args below meth c H locs cells slots Q (F0 m (pc + 1) ls (.int (vI (x / y)) :: rest))) : W p l e R s m args below meth c H locs cells slots Q (F0 m pc ls (.int (vI y) :: .int (vI x) :: rest)) := lv_idiv hx hb hdg (fun h => by have h3 : y = 0 := (vI_eq ⟨by omega, by omega⟩ vB_0).mp h; omega) (by rw [vI_div h1 h2]; exact k)
theorem zw_if_eq (hx : p.tables.exec = Jvm.exec) (hb : c.code = cc) {x : Int} {off : Int} {tgt : Nat} (hdg : decode cc pc = .ok (.ifCond .eq off, 3)) (ht : (pc : Int) + off = (tgt : Int)) (hz : vB x) (kt : x = 0 → W p l e R s m args below meth c H locs cells slots Q (F0 m tgt ls rest)) (kf : ¬ x = 0 → W p l e R s m args below meth c H locs cells slots Q (F0 m (pc + 3) ls rest)) : W p l e R s m args below meth c H locs cells slots Q (F0 m pc ls (.int (vI x) :: rest)) := lv_if_eq hx hb hdg ht (fun h => kt ((vI_eq hz vB_0).mp h)) (fun h => kf (fun q => h ((vI_eq hz vB_0).mpr q)))
theorem zw_icmp_eq (hx : p.tables.exec = Jvm.exec) (hb : c.code = cc) {x y : Int} {off : Int} {tgt : Nat} (hdg : decode cc pc = .ok (.if_icmp .eq off, 3)) (ht : (pc : Int) + off = (tgt : Int)) (hz : vB x) (hy : vB y) (kt : x = y → W p l e R s m args below meth c H locs cells slots Q (F0 m tgt ls rest)) (kf : ¬ x = y → W p l e R s m args below meth c H locs cells slots Q (F0 m (pc + 3) ls rest)) : W p l e R s m args below meth c H locs cells slots Q (F0 m pc ls (.int (vI y) :: .int (vI x) :: rest)) := lv_icmp_eq hx hb hdg ht (fun h => kt ((vI_eq hz hy).mp h)) (fun h => kf (fun q => h ((vI_eq hz hy).mpr q)))
theorem zw_if_ne (hx : p.tables.exec = Jvm.exec) (hb : c.code = cc) {x : Int} {off : Int} {tgt : Nat} (hdg : decode cc pc = .ok (.ifCond .ne off, 3)) (ht : (pc : Int) + off = (tgt : Int)) (hz : vB x) (kt : ¬ x = 0 → W p l e R s m args below meth c H locs cells slots Q (F0 m tgt ls rest)) (kf : x = 0 → W p l e R s m args below meth c H locs cells slots Q (F0 m (pc + 3) ls rest)) : W p l e R s m args below meth c H locs cells slots Q (F0 m pc ls (.int (vI x) :: rest)) := lv_if_ne hx hb hdg ht (fun h => kt (fun q => h ((vI_eq hz vB_0).mpr q))) (fun h => kf ((vI_eq hz vB_0).mp h))
theorem zw_icmp_ne (hx : p.tables.exec = Jvm.exec) (hb : c.code = cc) {x y : Int} {off : Int} {tgt : Nat} (hdg : decode cc pc = .ok (.if_icmp .ne off, 3)) (ht : (pc : Int) + off = (tgt : Int)) (hz : vB x) (hy : vB y) (kt : ¬ x = y → W p l e R s m args below meth c H locs cells slots Q (F0 m tgt ls rest)) (kf : x = y → W p l e R s m args below meth c H locs cells slots Q (F0 m (pc + 3) ls rest)) : W p l e R s m args below meth c H locs cells slots Q (F0 m pc ls (.int (vI y) :: .int (vI x) :: rest)) := lv_icmp_ne hx hb hdg ht (fun h => kt (fun q => h ((vI_eq hz hy).mpr q))) (fun h => kf ((vI_eq hz hy).mp h))
theorem zw_if_lt (hx : p.tables.exec = Jvm.exec) (hb : c.code = cc) {x : Int} {off : Int} {tgt : Nat} (hdg : decode cc pc = .ok (.ifCond .lt off, 3)) (ht : (pc : Int) + off = (tgt : Int)) (hz : vB x) (kt : x < 0 → W p l e R s m args below meth c H locs cells slots Q (F0 m tgt ls rest)) (kf : 0 ≤ x → W p l e R s m args below meth c H locs cells slots Q (F0 m (pc + 3) ls rest)) : W p l e R s m args below meth c H locs cells slots Q (F0 m pc ls (.int (vI x) :: rest)) := lv_if_lt hx hb hdg ht (fun h => kt ((vI_lt hz vB_0).mp h)) (fun h => kf (Int.not_lt.mp (fun q => h ((vI_lt hz vB_0).mpr q))))
theorem zw_icmp_lt (hx : p.tables.exec = Jvm.exec) (hb : c.code = cc) {x y : Int} {off : Int} {tgt : Nat} (hdg : decode cc pc = .ok (.if_icmp .lt off, 3)) (ht : (pc : Int) + off = (tgt : Int)) (hz : vB x) (hy : vB y) (kt : x < y → W p l e R s m args below meth c H locs cells slots Q (F0 m tgt ls rest)) (kf : y ≤ x → W p l e R s m args below meth c H locs cells slots Q (F0 m (pc + 3) ls rest)) : W p l e R s m args below meth c H locs cells slots Q (F0 m pc ls (.int (vI y) :: .int (vI x) :: rest)) := lv_icmp_lt hx hb hdg ht (fun h => kt ((vI_lt hz hy).mp h)) (fun h => kf (Int.not_lt.mp (fun q => h ((vI_lt hz hy).mpr q))))
theorem zw_if_ge (hx : p.tables.exec = Jvm.exec) (hb : c.code = cc) {x : Int} {off : Int} {tgt : Nat} (hdg : decode cc pc = .ok (.ifCond .ge off, 3)) (ht : (pc : Int) + off = (tgt : Int)) (hz : vB x) (kt : 0 ≤ x → W p l e R s m args below meth c H locs cells slots Q (F0 m tgt ls rest)) (kf : x < 0 → W p l e R s m args below meth c H locs cells slots Q (F0 m (pc + 3) ls rest)) : W p l e R s m args below meth c H locs cells slots Q (F0 m pc ls (.int (vI x) :: rest)) := lv_if_ge hx hb hdg ht (fun h => kt ((vI_le vB_0 hz).mp h)) (fun h => kf (Int.not_le.mp (fun q => h ((vI_le vB_0 hz).mpr q))))
theorem zw_icmp_ge (hx : p.tables.exec = Jvm.exec) (hb : c.code = cc) {x y : Int} {off : Int} {tgt : Nat} (hdg : decode cc pc = .ok (.if_icmp .ge off, 3)) (ht : (pc : Int) + off = (tgt : Int)) (hz : vB x) (hy : vB y) (kt : y ≤ x → W p l e R s m args below meth c H locs cells slots Q (F0 m tgt ls rest)) (kf : x < y → W p l e R s m args below meth c H locs cells slots Q (F0 m (pc + 3) ls rest)) : W p l e R s m args below meth c H locs cells slots Q (F0 m pc ls (.int (vI y) :: .int (vI x) :: rest)) := lv_icmp_ge hx hb hdg ht (fun h => kt ((vI_le hy hz).mp h)) (fun h => kf (Int.not_le.mp (fun q => h ((vI_le hy hz).mpr q))))
theorem zw_if_gt (hx : p.tables.exec = Jvm.exec) (hb : c.code = cc) {x : Int} {off : Int} {tgt : Nat} (hdg : decode cc pc = .ok (.ifCond .gt off, 3)) (ht : (pc : Int) + off = (tgt : Int)) (hz : vB x) (kt : 0 < x → W p l e R s m args below meth c H locs cells slots Q (F0 m tgt ls rest)) (kf : x ≤ 0 → W p l e R s m args below meth c H locs cells slots Q (F0 m (pc + 3) ls rest)) : W p l e R s m args below meth c H locs cells slots Q (F0 m pc ls (.int (vI x) :: rest)) := lv_if_gt hx hb hdg ht (fun h => kt ((vI_lt vB_0 hz).mp h)) (fun h => kf (Int.not_lt.mp (fun q => h ((vI_lt vB_0 hz).mpr q))))
theorem zw_icmp_gt (hx : p.tables.exec = Jvm.exec) (hb : c.code = cc) {x y : Int} {off : Int} {tgt : Nat} (hdg : decode cc pc = .ok (.if_icmp .gt off, 3)) (ht : (pc : Int) + off = (tgt : Int)) (hz : vB x) (hy : vB y) (kt : y < x → W p l e R s m args below meth c H locs cells slots Q (F0 m tgt ls rest)) (kf : x ≤ y → W p l e R s m args below meth c H locs cells slots Q (F0 m (pc + 3) ls rest)) : W p l e R s m args below meth c H locs cells slots Q (F0 m pc ls (.int (vI y) :: .int (vI x) :: rest)) := lv_icmp_gt hx hb hdg ht (fun h => kt ((vI_lt hy hz).mp h)) (fun h => kf (Int.not_lt.mp (fun q => h ((vI_lt hy hz).mpr q))))
theorem zw_if_le (hx : p.tables.exec = Jvm.exec) (hb : c.code = cc) {x : Int} {off : Int} {tgt : Nat} (hdg : decode cc pc = .ok (.ifCond .le off, 3)) (ht : (pc : Int) + off = (tgt : Int)) (hz : vB x) (kt : x ≤ 0 → W p l e R s m args below meth c H locs cells slots Q (F0 m tgt ls rest)) (kf : 0 < x → W p l e R s m args below meth c H locs cells slots Q (F0 m (pc + 3) ls rest)) : W p l e R s m args below meth c H locs cells slots Q (F0 m pc ls (.int (vI x) :: rest)) := lv_if_le hx hb hdg ht (fun h => kt ((vI_le hz vB_0).mp h)) (fun h => kf (Int.not_le.mp (fun q => h ((vI_le hz vB_0).mpr q))))
theorem zw_icmp_le (hx : p.tables.exec = Jvm.exec) (hb : c.code = cc) {x y : Int} {off : Int} {tgt : Nat} (hdg : decode cc pc = .ok (.if_icmp .le off, 3)) (ht : (pc : Int) + off = (tgt : Int)) (hz : vB x) (hy : vB y) (kt : x ≤ y → W p l e R s m args below meth c H locs cells slots Q (F0 m tgt ls rest)) (kf : y < x → W p l e R s m args below meth c H locs cells slots Q (F0 m (pc + 3) ls rest)) : W p l e R s m args below meth c H locs cells slots Q (F0 m pc ls (.int (vI y) :: .int (vI x) :: rest)) := lv_icmp_le hx hb hdg ht (fun h => kt ((vI_le hz hy).mp h)) (fun h => kf (Int.not_le.mp (fun q => h ((vI_le hz hy).mpr q))))
theorem zw_iald (hx : p.tables.exec = Jvm.exec) (hb : c.code = cc) (hK : va_K D cl tys s) (hP : va_P D cl ws H) (q0 t0 : Nat) {cA : ClassId} {n : Nat} {g : Nat → Int} (ha : ws[q0]? = some (ia a cA n g)) (ht : tys[t0]? = some (cA, .int)) {z : Int} (k : Nat) (hz : z = (k : Int)) (hk : k < n) (hn : n ≤ 2147483647) (hdg : decode cc pc = .ok (.iaload, 1)) (kk : W p l e R s m args below meth c H locs cells slots Q (F0 m (pc + 1) ls (.int (vI (g k)) :: rest))) : W p l e R s m args below meth c H locs cells slots Q (F0 m pc ls (.int (vI z) :: .ref a :: rest)) := by
  subst hz
  refine va_iald hx hb hK hP q0 t0 ha ht (vI_in hk hn) hdg ?_
  rw [vI_cl (by omega)]
  exact kk
theorem zw_iast (hx : p.tables.exec = Jvm.exec) (hb : c.code = cc) (hK : va_K D cl tys s) (hP : va_P D cl ws H) (hD : va_D A ws) (hS : va_S A H0 H locs) (q0 t0 : Nat) {cA : ClassId} {n : Nat} {g : Nat → Int} (ha : ws[q0]? = some (ia a cA n g)) (ht : tys[t0]? = some (cA, .int)) {z x : Int} (k : Nat) (hz : z = (k : Int)) (hk : k < n) (hn : n ≤ 2147483647) (hdg : decode cc pc = .ok (.iastore, 1)) (kk : ∀ (H1 : Heap) (locs1 : List Loc), va_P D cl (ws.set q0 (ia a cA n (zU g k x))) H1 → va_D A (ws.set q0 (ia a cA n (zU g k x))) → va_S A H0 H1 locs1 → W p l e R s m args below meth c H1 locs1 cells slots Q (F0 m (pc + 1) ls rest)) : W p l e R s m args below meth c H locs cells slots Q (F0 m pc ls (.int (vI x) :: .int (vI z) :: .ref a :: rest)) := by
  subst hz
  have e0 : upd (fun j => vI (g j)) (vI (k : Int)).toNatClampNeg (vI x) = fun j => vI (zU g k x j) := by
    funext j
    rw [vI_cl (by omega)]
    unfold upd zU
    by_cases h : j = k <;> simp [h]
  refine va_iast hx hb hK hP hD hS q0 t0 ha ht (vI_in hk hn) hdg (fun H1 locs1 p1 d1 s1 => ?_)
  rw [e0] at p1 d1
  exact kk H1 locs1 p1 d1 s1
theorem zw_bald (hx : p.tables.exec = Jvm.exec) (hb : c.code = cc) (hK : va_K D cl tys s) (hP : va_P D cl ws H) (q0 t0 : Nat) {cA : ClassId} {n : Nat} {g : Nat → Int} (ha : ws[q0]? = some (ia a cA n g)) (ht : tys[t0]? = some (cA, .byte)) {z : Int} (k : Nat) (hz : z = (k : Int)) (hk : k < n) (hn : n ≤ 2147483647) (hdg : decode cc pc = .ok (.baload, 1)) (kk : W p l e R s m args below meth c H locs cells slots Q (F0 m (pc + 1) ls (.int (vI (g k)) :: rest))) : W p l e R s m args below meth c H locs cells slots Q (F0 m pc ls (.int (vI z) :: .ref a :: rest)) := by
  subst hz
  refine va_bald hx hb hK hP q0 t0 ha ht (vI_in hk hn) hdg ?_
  rw [vI_cl (by omega)]
  exact kk
theorem zw_bast (hx : p.tables.exec = Jvm.exec) (hb : c.code = cc) (hK : va_K D cl tys s) (hP : va_P D cl ws H) (hD : va_D A ws) (hS : va_S A H0 H locs) (q0 t0 : Nat) {cA : ClassId} {n : Nat} {g : Nat → Int} (ha : ws[q0]? = some (ia a cA n g)) (ht : tys[t0]? = some (cA, .byte)) {z x : Int} (k : Nat) (hz : z = (k : Int)) (hk : k < n) (hn : n ≤ 2147483647) (hv : -128 ≤ x ∧ x < 128) (hdg : decode cc pc = .ok (.bastore, 1)) (kk : ∀ (H1 : Heap) (locs1 : List Loc), va_P D cl (ws.set q0 (ia a cA n (zU g k x))) H1 → va_D A (ws.set q0 (ia a cA n (zU g k x))) → va_S A H0 H1 locs1 → W p l e R s m args below meth c H1 locs1 cells slots Q (F0 m (pc + 1) ls rest)) : W p l e R s m args below meth c H locs cells slots Q (F0 m pc ls (.int (vI x) :: .int (vI z) :: .ref a :: rest)) := by
  subst hz
  have e0 : upd (fun j => vI (g j)) (vI (k : Int)).toNatClampNeg (vp_nar .byte (vI x)) = fun j => vI (zU g k x j) := by
    funext j
    rw [vI_cl (by omega), vI_nb hv]
    unfold upd zU
    by_cases h : j = k <;> simp [h]
  refine va_bast hx hb hK hP hD hS q0 t0 ha ht (vI_in hk hn) hdg (fun H1 locs1 p1 d1 s1 => ?_)
  rw [e0] at p1 d1
  exact kk H1 locs1 p1 d1 s1
theorem zw_alen (hx : p.tables.exec = Jvm.exec) (hb : c.code = cc) (hK : va_K D cl tys s) (hP : va_P D cl ws H) (q0 t0 : Nat) {cA : ClassId} {n : Nat} {g : Nat → Int} (ha : ws[q0]? = some (ia a cA n g)) {ty : FieldType} (ht : tys[t0]? = some (cA, ty)) (hdg : decode cc pc = .ok (.arraylength, 1)) (kk : W p l e R s m args below meth c H locs cells slots Q (F0 m (pc + 1) ls (.int (vI (n : Int)) :: rest))) : W p l e R s m args below meth c H locs cells slots Q (F0 m pc ls (.ref a :: rest)) := va_alen hx hb hK hP q0 t0 ha ht (vI_nat n) hdg kk
theorem zw_newi (hx : p.tables.exec = Jvm.exec) (hb : c.code = cc) (harr : (Cond.arrayClass (newarray.typeOf .int)).before args s = true) (hK : va_K D cl tys s) (hP : va_P D cl ws H) (hD : va_D A ws) (hS : va_S A H0 H locs) (hA : ∀ q, H0.size ≤ q → A q) (t0 : Nat) {cA : ClassId} (ht : tys[t0]? = some (cA, .int)) {z : Int} (N : Nat) (hz : z = (N : Int)) (hN : N ≤ 1000000) (hcells : cells + 1 ≤ R.cells) (hslots : slots + N ≤ R.slots) (hdg : decode cc pc = .ok (.newarray .int, 2)) (kk : ∀ (q : Nat) (H1 : Heap), va_P D cl (ws ++ [ia q cA N (fun _ => 0)]) H1 → va_D A (ws ++ [ia q cA N (fun _ => 0)]) → va_S A H0 H1 locs → W p l e R s m args below meth c H1 locs (cells + 1) (slots + N) Q (F0 m (pc + 2) ls (.ref q :: rest))) : W p l e R s m args below meth c H locs cells slots Q (F0 m pc ls (.int (vI z) :: rest)) := by
  subst hz
  refine va_newa hx hb harr (ty := .int) rfl hK hP hD hS hA (a0 := (N, .inl (fun _ => vI 0))) (fun _ => rfl) (fun h => by have h2 := (vI_lt ⟨by omega, by omega⟩ vB_0).mp h; omega) (vI_cl (by omega)) (Nat.le_trans (Nat.mul_le_mul hN (show componentBytes .int ≤ 8 by decide)) (by decide)) hcells hslots hdg (fun q cB H1 hK1 hP1 hD1 hS1 => ?_)
  have e0 : cB = cA := by
    have h1 : s.vm.findClass ("[" ++ FieldType.toString .int) = some cB := (hK1.2 tys.length (cB, .int) (by simp)).2
    have h2 : s.vm.findClass ("[" ++ FieldType.toString .int) = some cA := (hK.2 t0 _ ht).2
    exact Option.some.inj (h1.symm.trans h2)
  subst e0
  exact kk q H1 hP1 hD1 hS1
theorem zw_newb (hx : p.tables.exec = Jvm.exec) (hb : c.code = cc) (harr : (Cond.arrayClass (newarray.typeOf .byte)).before args s = true) (hK : va_K D cl tys s) (hP : va_P D cl ws H) (hD : va_D A ws) (hS : va_S A H0 H locs) (hA : ∀ q, H0.size ≤ q → A q) (t0 : Nat) {cA : ClassId} (ht : tys[t0]? = some (cA, .byte)) {z : Int} (N : Nat) (hz : z = (N : Int)) (hN : N ≤ 1000000) (hcells : cells + 1 ≤ R.cells) (hslots : slots + N ≤ R.slots) (hdg : decode cc pc = .ok (.newarray .byte, 2)) (kk : ∀ (q : Nat) (H1 : Heap), va_P D cl (ws ++ [ia q cA N (fun _ => 0)]) H1 → va_D A (ws ++ [ia q cA N (fun _ => 0)]) → va_S A H0 H1 locs → W p l e R s m args below meth c H1 locs (cells + 1) (slots + N) Q (F0 m (pc + 2) ls (.ref q :: rest))) : W p l e R s m args below meth c H locs cells slots Q (F0 m pc ls (.int (vI z) :: rest)) := by
  subst hz
  refine va_newa hx hb harr (ty := .byte) rfl hK hP hD hS hA (a0 := (N, .inl (fun _ => vI 0))) (fun _ => rfl) (fun h => by have h2 := (vI_lt ⟨by omega, by omega⟩ vB_0).mp h; omega) (vI_cl (by omega)) (Nat.le_trans (Nat.mul_le_mul hN (show componentBytes .byte ≤ 8 by decide)) (by decide)) hcells hslots hdg (fun q cB H1 hK1 hP1 hD1 hS1 => ?_)
  have e0 : cB = cA := by
    have h1 : s.vm.findClass ("[" ++ FieldType.toString .byte) = some cB := (hK1.2 tys.length (cB, .byte) (by simp)).2
    have h2 : s.vm.findClass ("[" ++ FieldType.toString .byte) = some cA := (hK.2 t0 _ ht).2
    exact Option.some.inj (h1.symm.trans h2)
  subst e0
  exact kk q H1 hP1 hD1 hS1
end ZW
/-- the nest mates' links, as the state has them -/
def zNs (U : State) : Prop := ∀ w ∈ nwL, va_Nw w U
theorem zNs_warm {s U : State} (hW : s.WarmedH U.vm) (h : zNs s) : zNs U := by
  intro w hw
  have h1 := nwL_is w hw
  have h2 := h w hw
  cases w <;> first | exact va_Nw.warmF hW h2 | exact va_Nw.warmM hW h2 | (exact absurd h1 (by simp [zIsN]))
theorem zNs_same {u U : State} (e : u.vm = U.vm) (h : zNs u) : zNs U := by
  intro w hw
  have h1 := nwL_is w hw
  have h2 := h w hw
  cases w <;> first | exact va_Nw.same rfl e h2 | (exact absurd h1 (by simp [zIsN]))
/-- a contract's start: its cells, the tables -/
def zPre (D : va_G) (cl : List vw_C) (tys : List (ClassId × FieldType)) (ws : va_W) (sz : Nat) : State → Prop := fun U => U.heap.size = sz ∧ va_P D cl ws U.heap ∧ va_K D cl tys U ∧ zNs U ∧ va_D (fun _ => True) ws
/-- its end: the cells behind it -/
def zB (D : va_G) (cl : List vw_C) (A : Nat → Prop) (ws : va_W) (t : State) : Prop := va_P D cl ws t.heap ∧ va_D A ws
theorem zPre_blind {D : va_G} {cl : List vw_C} {tys : List (ClassId × FieldType)} {ws : va_W} {sz : Nat} {av : List Value} : FrameBlind (va_Pc av (zPre D cl tys ws sz)) := by
  intro a U g mk q
  obtain ⟨q0, q1, qP, qK, qN, qD⟩ := q
  exact ⟨q0, q1, qP, va_K.moved (u := U) (U := U.calling g mk a) (Vm.Alike.refl U.vm) qK, zNs_same (u := U) (U := U.calling g mk a) rfl qN, qD⟩
theorem zPre_of {D : va_G} {cl : List vw_C} {tys : List (ClassId × FieldType)} {ws : va_W} {av : List Value} {s : State} {H : Heap} {A : Nat → Prop} (hK : va_K D cl tys s) (hns : zNs s) (hP : va_P D cl ws H) (hD : va_D A ws) : ∀ U : State, U.heap = H → s.WarmedH U.vm → va_Pc av (zPre D cl tys ws H.size) av.toArray U :=
  fun U hU hW => ⟨rfl, by rw [hU], by rw [hU]; exact hP, va_K.moved hW.alike hK, zNs_warm hW hns, hD.weaken (fun _ _ _ _ => trivial)⟩
theorem zMet {l : Launch} {y : MethodName} {wds : List Cond} {rm : Room} {cc : ByteArray} {maxL : Nat} {ret : Option FieldType} {D : va_G} {cl : List vw_C} {tys : List (ClassId × FieldType)} {av : List Value} {W0 : va_W} {sz : Nat} {Qc : Array Value → State → Outcome → State → Prop} {mc ms : Nat}
    (hy : plainName y.cls = true) (hw : wds = Cond.code y cc maxL ret :: zALL) (hlen : (lg_sl av).length ≤ maxL)
    (body : ∀ (p : Program) (e : Env) (s : State) (m : MethodId) (below : List Frame) (meth : Method) (c : Code), p.tables.exec = Jvm.exec → c.code = cc → meth.sig.returnType = ret → (∀ w ∈ zALL, w.before av.toArray s = true) → s.vm.findClass y.cls = some m.cls → meth.locks = false → meth.name = y.name → c.maxLocals = maxL → va_K D cl tys s → zNs s → (∀ q, s.heap.size ≤ q → va_A W0 sz q) → va_P D cl W0 s.heap → va_D (va_A W0 sz) W0 → va_S (va_A W0 sz) s.heap s.heap [] →
      ∀ ls : Array Slot, lv_has ls maxL (lv_args 0 av) → W p l e rm s m av.toArray below meth c s.heap [] 0 0 (MQ below Qc av.toArray s mc ms (va_A W0 sz)) (F0 m 0 ls [])) :
    Met l y wds rm (va_Pc av (zPre D cl tys W0 sz)) Qc mc ms (va_A W0 sz) := by
  refine Met.ofW (cc := cc) (maxL := maxL) (ret := ret) hy hw ?_
  intro p e s m args below meth c s₁ B hml hv
  obtain ⟨rfl, hsz, hP, hK, hN, hD0⟩ := hv
  have hts0 := atoms_spec (ws := wds) B.pre
  have hts : ∀ w ∈ zALL, w.before av.toArray s = true := fun w h => hts0 w (by rw [hw]; exact List.mem_cons_of_mem _ h)
  have hown : s.vm.findClass y.cls = some m.cls := findClass_of_methodNamed B.named
  rw [lg_entry_eq]
  exact body p e s m below meth c B.exec B.bytes B.returns hts hown B.notSynchronized (name_of_methodNamed B.named B.method).1 hml hK hN (fun q h => Or.inr (hsz ▸ h)) hP hD0.self va_S.rf _ (lv_entry av hlen)
section ZC
variable {p : Program} {l : Launch} {e : Env} {R : Room} {s : State} {m : MethodId} {args : Array Value} {below : List Frame} {meth : Method} {c : Code} {H : Heap} {locs : List Loc} {cells slots : Nat} {Q : State → Prop} {cc : ByteArray} {pc : Nat} {ls : Array Slot} {rest : List Value} {D : va_G} {cl : List vw_C} {A : Nat → Prop} {a : Nat} {tys : List (ClassId × FieldType)} {ws : va_W} {H0 : Heap}
variable {mc ms : Nat} {st0 : List Value} {av : Array Value}
theorem zc_i {S : Type} {post : Int32 → S → Prop} {Wc wr : va_W} {W1 : S → va_W} (hr : va_Run p l e R s m args below meth c H locs cells slots mc ms (F0 m pc ls st0) rest (va_Qi post (fun u t => zB D cl (va_A Wc H.size) (W1 u) t) (va_A Wc H.size) av) (va_A Wc H.size)) (hP : va_P D cl ws H) (hD : va_D A ws) (hS : va_S A H0 H locs) (hA : ∀ q, H0.size ≤ q → A q) (isC isR : List Nat) (hC : isC.map (fun i => ws[i]?) = Wc.map some) (hR : isR.map (fun i => ws[i]?) = wr.map some) (hn : va_nd isR = true) (hdis : ∀ i ∈ isR, i ∉ isC)
    (kk : ∀ (r : Int32) (u : S) (H1 : Heap) (locs1 : List Loc), post r u → va_P D cl (wr ++ W1 u) H1 → va_D A (wr ++ W1 u) → va_S A H0 H1 locs1 → W p l e R s m args below meth c H1 locs1 (cells + mc) (slots + ms) Q (F0 m (pc + 3) ls (.int r :: rest))) : W p l e R s m args below meth c H locs cells slots Q (F0 m pc ls st0) := by
  have hF := va_free (wc := Wc) hD hS hA isC hC
  refine va_calli hr hS (fun q _ h => hF q h) hF (fun r u t H1 locs1 ht hvm hw hB hz hk hS1 => ?_)
  obtain ⟨p1, d1⟩ := hB
  rw [ht] at p1
  obtain ⟨a1, b1⟩ := va_join hP hD isC isR hC hR hn hdis hk hF p1 d1
  exact kk r u H1 locs1 hw a1 b1 hS1
theorem zc_v {S : Type} {post : S → Prop} {Wc wr : va_W} {W1 : S → va_W} (hr : va_Run p l e R s m args below meth c H locs cells slots mc ms (F0 m pc ls st0) rest (va_Qv post (fun u t => zB D cl (va_A Wc H.size) (W1 u) t) (va_A Wc H.size) av) (va_A Wc H.size)) (hP : va_P D cl ws H) (hD : va_D A ws) (hS : va_S A H0 H locs) (hA : ∀ q, H0.size ≤ q → A q) (isC isR : List Nat) (hC : isC.map (fun i => ws[i]?) = Wc.map some) (hR : isR.map (fun i => ws[i]?) = wr.map some) (hn : va_nd isR = true) (hdis : ∀ i ∈ isR, i ∉ isC)
    (kk : ∀ (u : S) (H1 : Heap) (locs1 : List Loc), post u → va_P D cl (wr ++ W1 u) H1 → va_D A (wr ++ W1 u) → va_S A H0 H1 locs1 → W p l e R s m args below meth c H1 locs1 (cells + mc) (slots + ms) Q (F0 m (pc + 3) ls rest)) : W p l e R s m args below meth c H locs cells slots Q (F0 m pc ls st0) := by
  have hF := va_free (wc := Wc) hD hS hA isC hC
  refine va_callv hr hS (fun q _ h => hF q h) hF (fun u t H1 locs1 ht hvm hw hB hz hk hS1 => ?_)
  obtain ⟨p1, d1⟩ := hB
  rw [ht] at p1
  obtain ⟨a1, b1⟩ := va_join hP hD isC isR hC hR hn hdis hk hF p1 d1
  exact kk u H1 locs1 hw a1 b1 hS1
theorem zr_i {S : Type} {post : Int32 → S → Prop} {W1 : S → va_W} {v : Int32} (hx : p.tables.exec = Jvm.exec) (hb : c.code = cc) (hr : meth.sig.returnType = some .int) (hlocks : meth.locks = false) (u : S) (hpost : post v u) (hP : va_P D cl (W1 u) H) (hD : va_D A (W1 u)) (hS : va_S A s.heap H locs) (hdg : decode cc pc = .ok (.ireturn, 1)) : W p l e R s m args below meth c H locs cells slots (MQ below (va_Qi post (fun u t => zB D cl A (W1 u) t) A) args s cells slots A) (F0 m pc ls [.int v]) :=
  W.iret (v := v) hx hb hr (fun t ht _ => ⟨⟨v, u, rfl, hpost, by rw [ht]; exact hP, hD⟩, hS.F ht⟩) hS.2.2 hdg hlocks
theorem zr_z {S : Type} {post : Int32 → S → Prop} {W1 : S → va_W} {v : Int32} (hx : p.tables.exec = Jvm.exec) (hb : c.code = cc) (hr : meth.sig.returnType = some .boolean) (hlocks : meth.locks = false) (u : S) (hn : narrow .boolean (.int v) = .int v) (hpost : post v u) (hP : va_P D cl (W1 u) H) (hD : va_D A (W1 u)) (hS : va_S A s.heap H locs) (hdg : decode cc pc = .ok (.ireturn, 1)) : W p l e R s m args below meth c H locs cells slots (MQ below (va_Qi post (fun u t => zB D cl A (W1 u) t) A) args s cells slots A) (F0 m pc ls [.int v]) :=
  W.zret (v := v) hx hb hr hn (fun t ht _ => ⟨⟨v, u, rfl, hpost, by rw [ht]; exact hP, hD⟩, hS.F ht⟩) hS.2.2 hdg hlocks
theorem zr_v {S : Type} {post : S → Prop} {W1 : S → va_W} (hx : p.tables.exec = Jvm.exec) (hb : c.code = cc) (hr : meth.sig.returnType = none) (hlocks : meth.locks = false) (u : S) (hpost : post u) (hP : va_P D cl (W1 u) H) (hD : va_D A (W1 u)) (hS : va_S A s.heap H locs) (hdg : decode cc pc = .ok (.return_, 1)) : W p l e R s m args below meth c H locs cells slots (MQ below (va_Qv post (fun u t => zB D cl A (W1 u) t) A) args s cells slots A) (F0 m pc ls []) :=
  W.vret hx hb hr (fun t ht _ => ⟨⟨u, rfl, hpost, by rw [ht]; exact hP, hD⟩, hS.F ht⟩) hS.2.2 hdg hlocks
end ZC
end
section
/-- how many of at most k bytes from p on are those from q on -/
def zrun (d : Nat → Int) : Nat → Nat → Nat → Nat
  | 0, _, _ => 0
  | k + 1, p, q => if d p = d q then zrun d k (p + 1) (q + 1) + 1 else 0
theorem zrun_le (d : Nat → Int) : ∀ k p q, zrun d k p q ≤ k := by
  intro k
  induction k with
  | zero => intro p q; exact Nat.le_refl 0
  | succ k ih =>
    intro p q
    unfold zrun
    split
    · exact Nat.succ_le_succ (ih _ _)
    · exact Nat.zero_le _
theorem zrun_all (d : Nat → Int) : ∀ k p q j, j < zrun d k p q → d (p + j) = d (q + j) := by
  intro k
  induction k with
  | zero => intro p q j h; exact absurd h (Nat.not_lt_zero j)
  | succ k ih =>
    intro p q j h
    unfold zrun at h
    split at h
    · rename_i e
      cases j with
      | zero => exact e
      | succ j =>
        have h2 := ih (p + 1) (q + 1) j (by omega)
        rw [show p + (j + 1) = p + 1 + j by omega, show q + (j + 1) = q + 1 + j by omega]
        exact h2
    · exact absurd h (Nat.not_lt_zero j)
theorem zrun_ge (d : Nat → Int) : ∀ k p q r, r ≤ k → (∀ j, j < r → d (p + j) = d (q + j)) → r ≤ zrun d k p q := by
  intro k
  induction k with
  | zero => intro p q r h _; omega
  | succ k ih =>
    intro p q r h hj
    cases r with
    | zero => exact Nat.zero_le _
    | succ r =>
      unfold zrun
      rw [if_pos (show d p = d q from hj 0 (by omega))]
      refine Nat.succ_le_succ (ih (p + 1) (q + 1) r (by omega) (fun j h2 => ?_))
      have h3 := hj (j + 1) (by omega)
      rw [show p + 1 + j = p + (j + 1) by omega, show q + 1 + j = q + (j + 1) by omega]
      exact h3
theorem zrun_is {d : Nat → Int} {k p q r : Nat} (h1 : r ≤ k) (h2 : ∀ j, j < r → d (p + j) = d (q + j)) (h3 : r = k ∨ ¬ d (p + r) = d (q + r)) : zrun d k p q = r := by
  have a := zrun_ge d k p q r h1 h2
  have b := zrun_le d k p q
  rcases h3 with h | h
  · omega
  · rcases Nat.lt_or_ge r (zrun d k p q) with z | z
    · exact absurd (zrun_all d k p q r z) h
    · omega
theorem zrun_min (d : Nat → Int) (k k2 p q : Nat) : zrun d (min k k2) p q = min (zrun d k p q) k2 := by
  have a := zrun_le d k p q
  refine zrun_is (by omega) (fun j h => zrun_all d k p q j (by omega)) ?_
  by_cases h : min (zrun d k p q) k2 = min k k2
  · exact Or.inl h
  · refine Or.inr (fun e => ?_)
    have h2 : min (zrun d k p q) k2 = zrun d k p q := by omega
    rw [h2] at e
    have h3 := zrun_ge d k p q (zrun d k p q + 1) (by omega) (fun j hj => by
      rcases Nat.lt_or_ge j (zrun d k p q) with z | z
      · exact zrun_all d k p q j z
      · rw [show j = zrun d k p q by omega]; exact e)
    omega
/-- the greatest place below c whose slot is s, or -1 -/
def zprev (sl : Nat → Nat) (s : Nat) : Nat → Int
  | 0 => -1
  | c + 1 => if sl c = s then (c : Int) else zprev sl s c
theorem zprev_lt (sl : Nat → Nat) (s : Nat) : ∀ c, -1 ≤ zprev sl s c ∧ zprev sl s c < c := by
  intro c
  induction c with
  | zero => exact ⟨by unfold zprev; omega, by unfold zprev; omega⟩
  | succ c ih =>
    unfold zprev
    split <;> omega
theorem zprev_sl (sl : Nat → Nat) (s : Nat) : ∀ c (q : Nat), zprev sl s c = q → sl q = s := by
  intro c
  induction c with
  | zero => intro q h; unfold zprev at h; omega
  | succ c ih =>
    intro q h
    unfold zprev at h
    split at h
    · rename_i e
      rw [show q = c by omega]; exact e
    · exact ih q h
theorem zprev_none (sl : Nat → Nat) (s : Nat) : ∀ c (q : Nat), zprev sl s c < q → q < c → ¬ sl q = s := by
  intro c
  induction c with
  | zero => intro q _ h; omega
  | succ c ih =>
    intro q h1 h2 e
    unfold zprev at h1
    split at h1
    · rename_i e2
      omega
    · rename_i e2
      rcases Nat.lt_or_ge q c with z | z
      · exact ih q h1 z e
      · rw [show q = c by omega] at e
        exact e2 e
/-- of the places below c and not below lo the nearest with more than b bytes alike -/
def zfnd (f : Nat → Nat) (lo b : Nat) : Nat → Option Nat
  | 0 => none
  | c + 1 => if lo ≤ c ∧ b < f c then some c else zfnd f lo b c
theorem zfnd_skip {f : Nat → Nat} {lo b : Nat} : ∀ (c c2 : Nat), c2 ≤ c → (∀ q, c2 ≤ q → q < c → lo ≤ q → f q ≤ b) → zfnd f lo b c = zfnd f lo b c2 := by
  intro c
  induction c with
  | zero => intro c2 h _; rw [show c2 = 0 by omega]
  | succ c ih =>
    intro c2 h hq
    rcases Nat.eq_or_lt_of_le h with e | e
    · rw [e]
    · rw [zfnd, if_neg (fun z => by have := hq c (by omega) (by omega) z.1; omega)]
      exact ih c2 (by omega) (fun q h1 h2 h3 => hq q h1 (by omega) h3)
theorem zfnd_none {f : Nat → Nat} {lo b : Nat} : ∀ (c : Nat), (∀ q, q < c → lo ≤ q → f q ≤ b) → zfnd f lo b c = none := by
  intro c h
  rw [zfnd_skip c 0 (by omega) (fun q _ h2 h3 => h q h2 h3)]
  rfl
theorem zfnd_some {f : Nat → Nat} {lo b : Nat} : ∀ (c q : Nat), zfnd f lo b c = some q → q < c ∧ lo ≤ q ∧ b < f q ∧ ∀ r, q < r → r < c → lo ≤ r → f r ≤ b := by
  intro c
  induction c with
  | zero => intro q h; cases h
  | succ c ih =>
    intro q h
    rw [zfnd] at h
    split at h
    · rename_i e
      cases h
      exact ⟨by omega, e.1, e.2, fun r h1 h2 _ => by omega⟩
    · rename_i e
      obtain ⟨h1, h2, h3, h4⟩ := ih q h
      refine ⟨by omega, h2, h3, fun r g1 g2 g3 => ?_⟩
      rcases Nat.lt_or_ge r c with z | z
      · exact h4 r g1 z g3
      · rw [show r = c by omega] at g3 ⊢
        rcases Nat.lt_or_ge b (f c) with y | y
        · exact absurd ⟨g3, y⟩ e
        · exact y
theorem zfnd_noneE {f : Nat → Nat} {lo b : Nat} : ∀ (c : Nat), zfnd f lo b c = none → ∀ q, q < c → lo ≤ q → f q ≤ b := by
  intro c
  induction c with
  | zero => intro _ q h; omega
  | succ c ih =>
    intro h q h1 h2
    rw [zfnd] at h
    split at h
    · cases h
    · rename_i e
      rcases Nat.lt_or_ge q c with z | z
      · exact ih h q z h2
      · rw [show q = c by omega] at h2 ⊢
        rcases Nat.lt_or_ge b (f c) with y | y
        · exact absurd ⟨h2, y⟩ e
        · exact y
/-- the longest of the places below c, of several the nearest: its length and its place, from a best so far -/
def zbest (f : Nat → Nat) (lo : Nat) : Nat → Nat × Nat → Nat × Nat
  | 0, u => u
  | c + 1, u => zbest f lo c (if lo ≤ c ∧ u.1 < f c then (f c, c) else u)
theorem zbest_skip {f : Nat → Nat} {lo : Nat} {u : Nat × Nat} : ∀ (c c2 : Nat), c2 ≤ c → (∀ q, c2 ≤ q → q < c → lo ≤ q → f q ≤ u.1) → zbest f lo c u = zbest f lo c2 u := by
  intro c
  induction c with
  | zero => intro c2 h _; rw [show c2 = 0 by omega]
  | succ c ih =>
    intro c2 h hq
    rcases Nat.eq_or_lt_of_le h with e | e
    · rw [e]
    · rw [zbest, if_neg (fun z => by have := hq c (by omega) (by omega) z.1; omega)]
      exact ih c2 (by omega) (fun q h1 h2 h3 => hq q h1 (by omega) h3)
theorem zbest_fnd {f : Nat → Nat} {lo c q : Nat} {u : Nat × Nat} (h : zfnd f lo u.1 c = some q) : zbest f lo c u = zbest f lo q (f q, q) := by
  obtain ⟨h1, h2, h3, h4⟩ := zfnd_some c q h
  rw [zbest_skip c (q + 1) (by omega) (fun r g1 g2 g3 => h4 r (by omega) g2 g3), zbest, if_pos ⟨h2, h3⟩]
theorem zbest_end {f : Nat → Nat} {lo c : Nat} {u : Nat × Nat} (h : zfnd f lo u.1 c = none) : zbest f lo c u = u := by
  rw [zbest_skip c 0 (by omega) (fun r _ g2 g3 => zfnd_noneE c h r g2 g3)]
  rfl
/-- how many places below c have at least t bytes alike -/
def zcnt (f : Nat → Nat) (lo t : Nat) : Nat → Nat
  | 0 => 0
  | c + 1 => zcnt f lo t c + (if lo ≤ c ∧ t ≤ f c then 1 else 0)
theorem zcnt_skip {f : Nat → Nat} {lo t : Nat} : ∀ (c c2 : Nat), c2 ≤ c → (∀ q, c2 ≤ q → q < c → lo ≤ q → f q < t) → zcnt f lo t c = zcnt f lo t c2 := by
  intro c
  induction c with
  | zero => intro c2 h _; rw [show c2 = 0 by omega]
  | succ c ih =>
    intro c2 h hq
    rcases Nat.eq_or_lt_of_le h with e | e
    · rw [e]
    · rw [zcnt, if_neg (fun z => by have := hq c (by omega) (by omega) z.1; omega)]
      exact ih c2 (by omega) (fun q h1 h2 h3 => hq q h1 (by omega) h3)
theorem zch_none {sl : Nat → Nat} {s c lo b : Nat} {f : Nat → Nat} (h : zprev sl s c < lo) (hs : ∀ q, lo ≤ q → q < c → b < f q → sl q = s) : zfnd f lo b c = none := by
  refine zfnd_none c (fun q h1 h2 => ?_)
  rcases Nat.lt_or_ge b (f q) with y | y
  · exact absurd (hs q h2 h1 y) (zprev_none sl s c q (by omega) h1)
  · exact y
theorem zch_miss {sl : Nat → Nat} {s c lo b : Nat} {f : Nat → Nat} {q : Nat} (h : zprev sl s c = q) (hs : ∀ q, lo ≤ q → q < c → b < f q → sl q = s) (hq : f q ≤ b) : zfnd f lo b c = zfnd f lo b q := by
  have hl := zprev_lt sl s c
  refine zfnd_skip c q (by omega) (fun r h1 h2 h3 => ?_)
  rcases Nat.lt_or_ge b (f r) with y | y
  · rcases Nat.eq_or_lt_of_le h1 with e | e
    · rw [← e] at y; omega
    · exact absurd (hs r h3 h2 y) (zprev_none sl s c r (by omega) h2)
  · exact y
theorem zch_hit {sl : Nat → Nat} {s c lo b : Nat} {f : Nat → Nat} {q : Nat} (h : zprev sl s c = q) (hs : ∀ q, lo ≤ q → q < c → b < f q → sl q = s) (h1 : lo ≤ q) (hq : b < f q) : zfnd f lo b c = some q := by
  have hl := zprev_lt sl s c
  rw [zfnd_skip c (q + 1) (by omega) (fun r g1 g2 g3 => ?_), zfnd, if_pos ⟨h1, hq⟩]
  rcases Nat.lt_or_ge b (f r) with y | y
  · exact absurd (hs r g3 g2 y) (zprev_none sl s c r (by omega) g2)
  · exact y
/-- of how many bits a number is -/
def zbit (n b : Nat) : Prop := n < 2 ^ b ∧ (b = 0 ∨ 2 ^ (b - 1) ≤ n)
theorem zbit_is {n b b2 : Nat} (h : zbit n b) (h2 : zbit n b2) : b = b2 := by
  obtain ⟨h1, h3⟩ := h
  obtain ⟨g1, g3⟩ := h2
  rcases Nat.lt_trichotomy b b2 with z | z | z
  · have : 2 ^ b ≤ 2 ^ (b2 - 1) := Nat.pow_le_pow_right (by omega) (by omega)
    omega
  · exact z
  · have : 2 ^ b2 ≤ 2 ^ (b - 1) := Nat.pow_le_pow_right (by omega) (by omega)
    omega
end
