section
-- ===== PART A: goes FIRST, ahead of the names: the tables' words, and 'selects' of the private methods out of them =====
/-- a private method of a class that the tables say can be made, by its rows of tables_1 -/
def lw_okq (q : MethodName × Nat) : Prop := (q.1.cls ≠ "java/lang/invoke/MethodHandle" ∧ q.1.cls ≠ "java/lang/invoke/VarHandle") ∧ Cond.instantiable q.1.cls q.2 ∈ tables_1 ∧ Cond.privateMethod q.1 ∈ tables_1 ∧ Cond.instanceMethod q.1 ∈ tables_1
theorem lw_p0 : lw_okq (⟨"SnowTerm$Page", "fitsAmongSites", "(I)Z"⟩, 2) := ⟨⟨by decide +kernel, by decide +kernel⟩, List.mem_of_getElem? (i := 22) (by decide +kernel), List.mem_of_getElem? (i := 154) (by decide +kernel), List.mem_of_getElem? (i := 155) (by decide +kernel)⟩
theorem lw_p1 : lw_okq (⟨"SnowTerm$Page", "kindAt", "(I)I"⟩, 2) := ⟨⟨by decide +kernel, by decide +kernel⟩, List.mem_of_getElem? (i := 22) (by decide +kernel), List.mem_of_getElem? (i := 158) (by decide +kernel), List.mem_of_getElem? (i := 159) (by decide +kernel)⟩
theorem lw_p2 : lw_okq (⟨"SnowTerm$Page", "isDigitFrom", "(CI)Z"⟩, 2) := ⟨⟨by decide +kernel, by decide +kernel⟩, List.mem_of_getElem? (i := 22) (by decide +kernel), List.mem_of_getElem? (i := 253) (by decide +kernel), List.mem_of_getElem? (i := 254) (by decide +kernel)⟩
theorem lw_p3 : lw_okq (⟨"SnowTerm$Page", "fitsBehindSites", "(II)Z"⟩, 2) := ⟨⟨by decide +kernel, by decide +kernel⟩, List.mem_of_getElem? (i := 22) (by decide +kernel), List.mem_of_getElem? (i := 258) (by decide +kernel), List.mem_of_getElem? (i := 259) (by decide +kernel)⟩
theorem lw_p4 : lw_okq (⟨"SnowTerm$Page", "digitAt", "(I)I"⟩, 2) := ⟨⟨by decide +kernel, by decide +kernel⟩, List.mem_of_getElem? (i := 22) (by decide +kernel), List.mem_of_getElem? (i := 284) (by decide +kernel), List.mem_of_getElem? (i := 285) (by decide +kernel)⟩
theorem lw_p5 : lw_okq (⟨"SnowTerm", "isSite", "(I)Z"⟩, 10) := ⟨⟨by decide +kernel, by decide +kernel⟩, List.mem_of_getElem? (i := 14) (by decide +kernel), List.mem_of_getElem? (i := 300) (by decide +kernel), List.mem_of_getElem? (i := 301) (by decide +kernel)⟩
theorem lw_p6 : lw_okq (⟨"SnowTerm", "meltsNow", "(I)I"⟩, 10) := ⟨⟨by decide +kernel, by decide +kernel⟩, List.mem_of_getElem? (i := 14) (by decide +kernel), List.mem_of_getElem? (i := 304) (by decide +kernel), List.mem_of_getElem? (i := 305) (by decide +kernel)⟩
theorem lw_p7 : lw_okq (⟨"SnowTerm", "isKeptWith", "(II)Z"⟩, 10) := ⟨⟨by decide +kernel, by decide +kernel⟩, List.mem_of_getElem? (i := 14) (by decide +kernel), List.mem_of_getElem? (i := 311) (by decide +kernel), List.mem_of_getElem? (i := 312) (by decide +kernel)⟩
theorem lw_p8 : lw_okq (⟨"SnowTerm", "meltAll", "([II)I"⟩, 10) := ⟨⟨by decide +kernel, by decide +kernel⟩, List.mem_of_getElem? (i := 14) (by decide +kernel), List.mem_of_getElem? (i := 345) (by decide +kernel), List.mem_of_getElem? (i := 346) (by decide +kernel)⟩
theorem lw_p9 : lw_okq (⟨"SnowTerm", "keptIn", "([I)I"⟩, 10) := ⟨⟨by decide +kernel, by decide +kernel⟩, List.mem_of_getElem? (i := 14) (by decide +kernel), List.mem_of_getElem? (i := 352) (by decide +kernel), List.mem_of_getElem? (i := 353) (by decide +kernel)⟩
theorem lw_p10 : lw_okq (⟨"SnowTerm", "loadsNeeded", "(II)I"⟩, 10) := ⟨⟨by decide +kernel, by decide +kernel⟩, List.mem_of_getElem? (i := 14) (by decide +kernel), List.mem_of_getElem? (i := 364) (by decide +kernel), List.mem_of_getElem? (i := 365) (by decide +kernel)⟩
theorem lw_p11 : lw_okq (⟨"SnowTerm", "tellNeeds", "(I)V"⟩, 10) := ⟨⟨by decide +kernel, by decide +kernel⟩, List.mem_of_getElem? (i := 14) (by decide +kernel), List.mem_of_getElem? (i := 373) (by decide +kernel), List.mem_of_getElem? (i := 374) (by decide +kernel)⟩
theorem lw_p12 : lw_okq (⟨"SnowTerm", "bestPlan", "(I)I"⟩, 10) := ⟨⟨by decide +kernel, by decide +kernel⟩, List.mem_of_getElem? (i := 14) (by decide +kernel), List.mem_of_getElem? (i := 377) (by decide +kernel), List.mem_of_getElem? (i := 378) (by decide +kernel)⟩
theorem lw_p13 : lw_okq (⟨"SnowTerm", "loadsOf", "(I)I"⟩, 10) := ⟨⟨by decide +kernel, by decide +kernel⟩, List.mem_of_getElem? (i := 14) (by decide +kernel), List.mem_of_getElem? (i := 381) (by decide +kernel), List.mem_of_getElem? (i := 382) (by decide +kernel)⟩
theorem lw_p14 : lw_okq (⟨"SnowTerm", "isBetterPlan", "(II)Z"⟩, 10) := ⟨⟨by decide +kernel, by decide +kernel⟩, List.mem_of_getElem? (i := 14) (by decide +kernel), List.mem_of_getElem? (i := 388) (by decide +kernel), List.mem_of_getElem? (i := 389) (by decide +kernel)⟩
theorem lw_p15 : lw_okq (⟨"SnowTerm", "costOf", "(I)I"⟩, 10) := ⟨⟨by decide +kernel, by decide +kernel⟩, List.mem_of_getElem? (i := 14) (by decide +kernel), List.mem_of_getElem? (i := 398) (by decide +kernel), List.mem_of_getElem? (i := 399) (by decide +kernel)⟩
def lw_privs_1 : List (MethodName × Nat) := [(⟨"SnowTerm$Page", "fitsAmongSites", "(I)Z"⟩, 2), (⟨"SnowTerm$Page", "kindAt", "(I)I"⟩, 2), (⟨"SnowTerm$Page", "isDigitFrom", "(CI)Z"⟩, 2), (⟨"SnowTerm$Page", "fitsBehindSites", "(II)Z"⟩, 2), (⟨"SnowTerm$Page", "digitAt", "(I)I"⟩, 2), (⟨"SnowTerm", "isSite", "(I)Z"⟩, 10), (⟨"SnowTerm", "meltsNow", "(I)I"⟩, 10), (⟨"SnowTerm", "isKeptWith", "(II)Z"⟩, 10), (⟨"SnowTerm", "meltAll", "([II)I"⟩, 10), (⟨"SnowTerm", "keptIn", "([I)I"⟩, 10), (⟨"SnowTerm", "loadsNeeded", "(II)I"⟩, 10), (⟨"SnowTerm", "tellNeeds", "(I)V"⟩, 10), (⟨"SnowTerm", "bestPlan", "(I)I"⟩, 10), (⟨"SnowTerm", "loadsOf", "(I)I"⟩, 10), (⟨"SnowTerm", "isBetterPlan", "(II)Z"⟩, 10), (⟨"SnowTerm", "costOf", "(I)I"⟩, 10)]
theorem lw_r1 : ∀ q ∈ lw_privs_1, lw_okq q := List.forall_mem_cons.mpr ⟨lw_p0, List.forall_mem_cons.mpr ⟨lw_p1, List.forall_mem_cons.mpr ⟨lw_p2, List.forall_mem_cons.mpr ⟨lw_p3, List.forall_mem_cons.mpr ⟨lw_p4, List.forall_mem_cons.mpr ⟨lw_p5, List.forall_mem_cons.mpr ⟨lw_p6, List.forall_mem_cons.mpr ⟨lw_p7, List.forall_mem_cons.mpr ⟨lw_p8, List.forall_mem_cons.mpr ⟨lw_p9, List.forall_mem_cons.mpr ⟨lw_p10, List.forall_mem_cons.mpr ⟨lw_p11, List.forall_mem_cons.mpr ⟨lw_p12, List.forall_mem_cons.mpr ⟨lw_p13, List.forall_mem_cons.mpr ⟨lw_p14, List.forall_mem_cons.mpr ⟨lw_p15, fun _ h => absurd h List.not_mem_nil⟩⟩⟩⟩⟩⟩⟩⟩⟩⟩⟩⟩⟩⟩⟩⟩
theorem lw_p16 : lw_okq (⟨"SnowTerm", "bestError", "()I"⟩, 10) := ⟨⟨by decide +kernel, by decide +kernel⟩, List.mem_of_getElem? (i := 14) (by decide +kernel), List.mem_of_getElem? (i := 406) (by decide +kernel), List.mem_of_getElem? (i := 407) (by decide +kernel)⟩
theorem lw_p17 : lw_okq (⟨"SnowTerm", "keptIfSwapped", "(II)I"⟩, 10) := ⟨⟨by decide +kernel, by decide +kernel⟩, List.mem_of_getElem? (i := 14) (by decide +kernel), List.mem_of_getElem? (i := 410) (by decide +kernel), List.mem_of_getElem? (i := 411) (by decide +kernel)⟩
theorem lw_p18 : lw_okq (⟨"SnowTerm", "deepWithLoadsOf", "(II)I"⟩, 10) := ⟨⟨by decide +kernel, by decide +kernel⟩, List.mem_of_getElem? (i := 14) (by decide +kernel), List.mem_of_getElem? (i := 414) (by decide +kernel), List.mem_of_getElem? (i := 415) (by decide +kernel)⟩
theorem lw_p19 : lw_okq (⟨"SnowTerm", "possibleSuns", "()I"⟩, 10) := ⟨⟨by decide +kernel, by decide +kernel⟩, List.mem_of_getElem? (i := 14) (by decide +kernel), List.mem_of_getElem? (i := 434) (by decide +kernel), List.mem_of_getElem? (i := 435) (by decide +kernel)⟩
theorem lw_p20 : lw_okq (⟨"SnowTerm", "explainsAllFound", "(I)Z"⟩, 10) := ⟨⟨by decide +kernel, by decide +kernel⟩, List.mem_of_getElem? (i := 14) (by decide +kernel), List.mem_of_getElem? (i := 438) (by decide +kernel), List.mem_of_getElem? (i := 439) (by decide +kernel)⟩
theorem lw_p21 : lw_okq (⟨"SnowTerm", "bestLook", "(I)I"⟩, 10) := ⟨⟨by decide +kernel, by decide +kernel⟩, List.mem_of_getElem? (i := 14) (by decide +kernel), List.mem_of_getElem? (i := 446) (by decide +kernel), List.mem_of_getElem? (i := 447) (by decide +kernel)⟩
theorem lw_p22 : lw_okq (⟨"SnowTerm", "sunsLeftAtWorst", "(II)I"⟩, 10) := ⟨⟨by decide +kernel, by decide +kernel⟩, List.mem_of_getElem? (i := 14) (by decide +kernel), List.mem_of_getElem? (i := 450) (by decide +kernel), List.mem_of_getElem? (i := 451) (by decide +kernel)⟩
theorem lw_p23 : lw_okq (⟨"SnowTerm", "sunsLikeThis", "(III)I"⟩, 10) := ⟨⟨by decide +kernel, by decide +kernel⟩, List.mem_of_getElem? (i := 14) (by decide +kernel), List.mem_of_getElem? (i := 454) (by decide +kernel), List.mem_of_getElem? (i := 455) (by decide +kernel)⟩
theorem lw_p24 : lw_okq (⟨"SnowTerm", "leftOfDeepest", "(II)I"⟩, 10) := ⟨⟨by decide +kernel, by decide +kernel⟩, List.mem_of_getElem? (i := 14) (by decide +kernel), List.mem_of_getElem? (i := 458) (by decide +kernel), List.mem_of_getElem? (i := 459) (by decide +kernel)⟩
theorem lw_p25 : lw_okq (⟨"SnowTerm", "bringOneLoad", "([II)V"⟩, 10) := ⟨⟨by decide +kernel, by decide +kernel⟩, List.mem_of_getElem? (i := 14) (by decide +kernel), List.mem_of_getElem? (i := 479) (by decide +kernel), List.mem_of_getElem? (i := 480) (by decide +kernel)⟩
theorem lw_p26 : lw_okq (⟨"SnowTerm", "snowIn", "([I)I"⟩, 10) := ⟨⟨by decide +kernel, by decide +kernel⟩, List.mem_of_getElem? (i := 14) (by decide +kernel), List.mem_of_getElem? (i := 483) (by decide +kernel), List.mem_of_getElem? (i := 484) (by decide +kernel)⟩
theorem lw_p27 : lw_okq (⟨"SnowTermModel", "read", "()I"⟩, 40) := ⟨⟨by decide +kernel, by decide +kernel⟩, List.mem_of_getElem? (i := 525) (by decide +kernel), List.mem_of_getElem? (i := 667) (by decide +kernel), List.mem_of_getElem? (i := 668) (by decide +kernel)⟩
theorem lw_p28 : lw_okq (⟨"SnowTermModel", "figure", "(I)I"⟩, 40) := ⟨⟨by decide +kernel, by decide +kernel⟩, List.mem_of_getElem? (i := 525) (by decide +kernel), List.mem_of_getElem? (i := 674) (by decide +kernel), List.mem_of_getElem? (i := 675) (by decide +kernel)⟩
theorem lw_p29 : lw_okq (⟨"SnowTermModel", "isSite", "(I)Z"⟩, 40) := ⟨⟨by decide +kernel, by decide +kernel⟩, List.mem_of_getElem? (i := 525) (by decide +kernel), List.mem_of_getElem? (i := 686) (by decide +kernel), List.mem_of_getElem? (i := 687) (by decide +kernel)⟩
theorem lw_p30 : lw_okq (⟨"SnowTermModel", "siteNow", "(II)I"⟩, 40) := ⟨⟨by decide +kernel, by decide +kernel⟩, List.mem_of_getElem? (i := 525) (by decide +kernel), List.mem_of_getElem? (i := 690) (by decide +kernel), List.mem_of_getElem? (i := 691) (by decide +kernel)⟩
theorem lw_p31 : lw_okq (⟨"SnowTermModel", "meltsBy", "(II)I"⟩, 40) := ⟨⟨by decide +kernel, by decide +kernel⟩, List.mem_of_getElem? (i := 525) (by decide +kernel), List.mem_of_getElem? (i := 694) (by decide +kernel), List.mem_of_getElem? (i := 695) (by decide +kernel)⟩
def lw_privs_2 : List (MethodName × Nat) := [(⟨"SnowTerm", "bestError", "()I"⟩, 10), (⟨"SnowTerm", "keptIfSwapped", "(II)I"⟩, 10), (⟨"SnowTerm", "deepWithLoadsOf", "(II)I"⟩, 10), (⟨"SnowTerm", "possibleSuns", "()I"⟩, 10), (⟨"SnowTerm", "explainsAllFound", "(I)Z"⟩, 10), (⟨"SnowTerm", "bestLook", "(I)I"⟩, 10), (⟨"SnowTerm", "sunsLeftAtWorst", "(II)I"⟩, 10), (⟨"SnowTerm", "sunsLikeThis", "(III)I"⟩, 10), (⟨"SnowTerm", "leftOfDeepest", "(II)I"⟩, 10), (⟨"SnowTerm", "bringOneLoad", "([II)V"⟩, 10), (⟨"SnowTerm", "snowIn", "([I)I"⟩, 10), (⟨"SnowTermModel", "read", "()I"⟩, 40), (⟨"SnowTermModel", "figure", "(I)I"⟩, 40), (⟨"SnowTermModel", "isSite", "(I)Z"⟩, 40), (⟨"SnowTermModel", "siteNow", "(II)I"⟩, 40), (⟨"SnowTermModel", "meltsBy", "(II)I"⟩, 40)]
theorem lw_r2 : ∀ q ∈ lw_privs_2, lw_okq q := List.forall_mem_cons.mpr ⟨lw_p16, List.forall_mem_cons.mpr ⟨lw_p17, List.forall_mem_cons.mpr ⟨lw_p18, List.forall_mem_cons.mpr ⟨lw_p19, List.forall_mem_cons.mpr ⟨lw_p20, List.forall_mem_cons.mpr ⟨lw_p21, List.forall_mem_cons.mpr ⟨lw_p22, List.forall_mem_cons.mpr ⟨lw_p23, List.forall_mem_cons.mpr ⟨lw_p24, List.forall_mem_cons.mpr ⟨lw_p25, List.forall_mem_cons.mpr ⟨lw_p26, List.forall_mem_cons.mpr ⟨lw_p27, List.forall_mem_cons.mpr ⟨lw_p28, List.forall_mem_cons.mpr ⟨lw_p29, List.forall_mem_cons.mpr ⟨lw_p30, List.forall_mem_cons.mpr ⟨lw_p31, fun _ h => absurd h List.not_mem_nil⟩⟩⟩⟩⟩⟩⟩⟩⟩⟩⟩⟩⟩⟩⟩⟩
theorem lw_p32 : lw_okq (⟨"SnowTermModel", "isKept", "(II)Z"⟩, 40) := ⟨⟨by decide +kernel, by decide +kernel⟩, List.mem_of_getElem? (i := 525) (by decide +kernel), List.mem_of_getElem? (i := 701) (by decide +kernel), List.mem_of_getElem? (i := 702) (by decide +kernel)⟩
theorem lw_p33 : lw_okq (⟨"SnowTermModel", "melt", "(I)V"⟩, 40) := ⟨⟨by decide +kernel, by decide +kernel⟩, List.mem_of_getElem? (i := 525) (by decide +kernel), List.mem_of_getElem? (i := 728) (by decide +kernel), List.mem_of_getElem? (i := 729) (by decide +kernel)⟩
theorem lw_p34 : lw_okq (⟨"SnowTermModel", "keptNow", "()I"⟩, 40) := ⟨⟨by decide +kernel, by decide +kernel⟩, List.mem_of_getElem? (i := 525) (by decide +kernel), List.mem_of_getElem? (i := 732) (by decide +kernel), List.mem_of_getElem? (i := 733) (by decide +kernel)⟩
theorem lw_p35 : lw_okq (⟨"SnowTermModel", "needOf", "(II)I"⟩, 40) := ⟨⟨by decide +kernel, by decide +kernel⟩, List.mem_of_getElem? (i := 525) (by decide +kernel), List.mem_of_getElem? (i := 740) (by decide +kernel), List.mem_of_getElem? (i := 741) (by decide +kernel)⟩
theorem lw_p36 : lw_okq (⟨"SnowTermModel", "isKeptFor", "(III)Z"⟩, 40) := ⟨⟨by decide +kernel, by decide +kernel⟩, List.mem_of_getElem? (i := 525) (by decide +kernel), List.mem_of_getElem? (i := 744) (by decide +kernel), List.mem_of_getElem? (i := 745) (by decide +kernel)⟩
theorem lw_p37 : lw_okq (⟨"SnowTermModel", "planNow", "(III)I"⟩, 40) := ⟨⟨by decide +kernel, by decide +kernel⟩, List.mem_of_getElem? (i := 525) (by decide +kernel), List.mem_of_getElem? (i := 752) (by decide +kernel), List.mem_of_getElem? (i := 753) (by decide +kernel)⟩
theorem lw_p38 : lw_okq (⟨"SnowTermModel", "layNeeds", "(I)Z"⟩, 40) := ⟨⟨by decide +kernel, by decide +kernel⟩, List.mem_of_getElem? (i := 525) (by decide +kernel), List.mem_of_getElem? (i := 756) (by decide +kernel), List.mem_of_getElem? (i := 757) (by decide +kernel)⟩
theorem lw_p39 : lw_okq (⟨"SnowTermModel", "errorNow", "(I)I"⟩, 40) := ⟨⟨by decide +kernel, by decide +kernel⟩, List.mem_of_getElem? (i := 525) (by decide +kernel), List.mem_of_getElem? (i := 770) (by decide +kernel), List.mem_of_getElem? (i := 771) (by decide +kernel)⟩
theorem lw_p40 : lw_okq (⟨"SnowTermModel", "keptBy", "(II)I"⟩, 40) := ⟨⟨by decide +kernel, by decide +kernel⟩, List.mem_of_getElem? (i := 525) (by decide +kernel), List.mem_of_getElem? (i := 774) (by decide +kernel), List.mem_of_getElem? (i := 775) (by decide +kernel)⟩
theorem lw_p41 : lw_okq (⟨"SnowTermModel", "sunsNow", "()I"⟩, 40) := ⟨⟨by decide +kernel, by decide +kernel⟩, List.mem_of_getElem? (i := 525) (by decide +kernel), List.mem_of_getElem? (i := 790) (by decide +kernel), List.mem_of_getElem? (i := 791) (by decide +kernel)⟩
theorem lw_p42 : lw_okq (⟨"SnowTermModel", "leftOf", "(III)I"⟩, 40) := ⟨⟨by decide +kernel, by decide +kernel⟩, List.mem_of_getElem? (i := 525) (by decide +kernel), List.mem_of_getElem? (i := 794) (by decide +kernel), List.mem_of_getElem? (i := 795) (by decide +kernel)⟩
theorem lw_p43 : lw_okq (⟨"SnowTermModel", "lookNow", "()I"⟩, 40) := ⟨⟨by decide +kernel, by decide +kernel⟩, List.mem_of_getElem? (i := 525) (by decide +kernel), List.mem_of_getElem? (i := 802) (by decide +kernel), List.mem_of_getElem? (i := 803) (by decide +kernel)⟩
theorem lw_p44 : lw_okq (⟨"SnowTermModel", "worstAt", "(II)I"⟩, 40) := ⟨⟨by decide +kernel, by decide +kernel⟩, List.mem_of_getElem? (i := 525) (by decide +kernel), List.mem_of_getElem? (i := 807) (by decide +kernel), List.mem_of_getElem? (i := 808) (by decide +kernel)⟩
theorem lw_p45 : lw_okq (⟨"SnowTermModel", "wintersNow", "(III)I"⟩, 40) := ⟨⟨by decide +kernel, by decide +kernel⟩, List.mem_of_getElem? (i := 525) (by decide +kernel), List.mem_of_getElem? (i := 815) (by decide +kernel), List.mem_of_getElem? (i := 816) (by decide +kernel)⟩
theorem lw_p46 : lw_okq (⟨"SnowTermModel", "draw", "(I)I"⟩, 40) := ⟨⟨by decide +kernel, by decide +kernel⟩, List.mem_of_getElem? (i := 525) (by decide +kernel), List.mem_of_getElem? (i := 819) (by decide +kernel), List.mem_of_getElem? (i := 820) (by decide +kernel)⟩
theorem lw_p47 : lw_okq (⟨"SnowTermModel", "snowAll", "()I"⟩, 40) := ⟨⟨by decide +kernel, by decide +kernel⟩, List.mem_of_getElem? (i := 525) (by decide +kernel), List.mem_of_getElem? (i := 827) (by decide +kernel), List.mem_of_getElem? (i := 828) (by decide +kernel)⟩
def lw_privs_3 : List (MethodName × Nat) := [(⟨"SnowTermModel", "isKept", "(II)Z"⟩, 40), (⟨"SnowTermModel", "melt", "(I)V"⟩, 40), (⟨"SnowTermModel", "keptNow", "()I"⟩, 40), (⟨"SnowTermModel", "needOf", "(II)I"⟩, 40), (⟨"SnowTermModel", "isKeptFor", "(III)Z"⟩, 40), (⟨"SnowTermModel", "planNow", "(III)I"⟩, 40), (⟨"SnowTermModel", "layNeeds", "(I)Z"⟩, 40), (⟨"SnowTermModel", "errorNow", "(I)I"⟩, 40), (⟨"SnowTermModel", "keptBy", "(II)I"⟩, 40), (⟨"SnowTermModel", "sunsNow", "()I"⟩, 40), (⟨"SnowTermModel", "leftOf", "(III)I"⟩, 40), (⟨"SnowTermModel", "lookNow", "()I"⟩, 40), (⟨"SnowTermModel", "worstAt", "(II)I"⟩, 40), (⟨"SnowTermModel", "wintersNow", "(III)I"⟩, 40), (⟨"SnowTermModel", "draw", "(I)I"⟩, 40), (⟨"SnowTermModel", "snowAll", "()I"⟩, 40)]
theorem lw_r3 : ∀ q ∈ lw_privs_3, lw_okq q := List.forall_mem_cons.mpr ⟨lw_p32, List.forall_mem_cons.mpr ⟨lw_p33, List.forall_mem_cons.mpr ⟨lw_p34, List.forall_mem_cons.mpr ⟨lw_p35, List.forall_mem_cons.mpr ⟨lw_p36, List.forall_mem_cons.mpr ⟨lw_p37, List.forall_mem_cons.mpr ⟨lw_p38, List.forall_mem_cons.mpr ⟨lw_p39, List.forall_mem_cons.mpr ⟨lw_p40, List.forall_mem_cons.mpr ⟨lw_p41, List.forall_mem_cons.mpr ⟨lw_p42, List.forall_mem_cons.mpr ⟨lw_p43, List.forall_mem_cons.mpr ⟨lw_p44, List.forall_mem_cons.mpr ⟨lw_p45, List.forall_mem_cons.mpr ⟨lw_p46, List.forall_mem_cons.mpr ⟨lw_p47, fun _ h => absurd h List.not_mem_nil⟩⟩⟩⟩⟩⟩⟩⟩⟩⟩⟩⟩⟩⟩⟩⟩
theorem lw_p48 : lw_okq (⟨"SnowTermModel", "howMany", "(I)I"⟩, 40) := ⟨⟨by decide +kernel, by decide +kernel⟩, List.mem_of_getElem? (i := 525) (by decide +kernel), List.mem_of_getElem? (i := 843) (by decide +kernel), List.mem_of_getElem? (i := 844) (by decide +kernel)⟩
theorem lw_p49 : lw_okq (⟨"SnowTermModel", "mix", "(J)V"⟩, 40) := ⟨⟨by decide +kernel, by decide +kernel⟩, List.mem_of_getElem? (i := 525) (by decide +kernel), List.mem_of_getElem? (i := 852) (by decide +kernel), List.mem_of_getElem? (i := 853) (by decide +kernel)⟩
def lw_privs_4 : List (MethodName × Nat) := [(⟨"SnowTermModel", "howMany", "(I)I"⟩, 40), (⟨"SnowTermModel", "mix", "(J)V"⟩, 40)]
theorem lw_r4 : ∀ q ∈ lw_privs_4, lw_okq q := List.forall_mem_cons.mpr ⟨lw_p48, List.forall_mem_cons.mpr ⟨lw_p49, fun _ h => absurd h List.not_mem_nil⟩⟩
def lw_privs : List (MethodName × Nat) := lw_privs_1 ++ (lw_privs_2 ++ (lw_privs_3 ++ (lw_privs_4)))
def lw_tbl : List Cond := k2_sels lw_privs ++ tables_1
theorem lw_privs_ok : ∀ q ∈ lw_privs, lw_okq q := by
  show ∀ q ∈ lw_privs_1 ++ (lw_privs_2 ++ (lw_privs_3 ++ (lw_privs_4))), lw_okq q
  exact List.forall_mem_append.mpr ⟨lw_r1, List.forall_mem_append.mpr ⟨lw_r2, List.forall_mem_append.mpr ⟨lw_r3, lw_r4⟩⟩⟩
end
section
/-! ===== BEGIN words of one list among another's, by their places ===== -/
theorem goodIn_r {big : List Cond} (ws : List Cond) (ps : List Nat) (hp : ws = ps.filterMap (fun i => big[i]?)) (h : ws.all goodWord = true) : GoodIn big ws := by
  intro w hw
  have h1 := List.all_eq_true.mp h w hw
  rw [hp] at hw
  obtain ⟨i, -, hi⟩ := List.mem_filterMap.mp hw
  have hm : w ∈ big := by first | exact List.mem_of_getElem? hi | exact List.getElem?_mem hi
  exact ⟨hm, good_of_word h1⟩
theorem goodIn_app {big a b : List Cond} (ha : GoodIn big a) (hb : GoodIn big b) : GoodIn big (a ++ b) := fun w h => (List.mem_append.mp h).elim (ha w) (hb w)
theorem goodIn_ca {big a b : List Cond} {c : Cond} (ha : GoodIn big (c :: a)) (hb : GoodIn big b) : GoodIn big (c :: (a ++ b)) := fun w h => (List.mem_cons.mp h).elim (fun e => ha w (List.mem_cons.mpr (Or.inl e))) (fun h => (List.mem_append.mp h).elim (fun h => ha w (List.mem_cons.mpr (Or.inr h))) (hb w))
theorem goodIn_sub {big ws : List Cond} (hm : ∀ w ∈ ws, w ∈ big) (h : ws.all goodWord = true) : GoodIn big ws := fun w hw => ⟨hm w hw, good_of_word (List.all_eq_true.mp h w hw)⟩
/-! ===== END ===== -/

/-! ===== BEGIN printed: names, fields, word lists, decode rows ===== -/
def RX0 : String := "SnowTerm$Page"
def TX0 : u_T := fun k => match k with
  | 0 => ("SnowTerm$Page", "codes", "[I", true)
  | _ => ("SnowTerm$Page", "size", "I", false)
def tyX0 : Nat → FieldType := fun k => match k with
  | 0 => .array .int
  | _ => .int
abbrev wsX00 : List Cond := u_ws RX0 TX0 2
theorem nmX0 : ∀ a, a < 2 → ∀ b, b < 2 → a ≠ b → (TX0 a).2.1 ≠ (TX0 b).2.1 := by decide +kernel
theorem tyX0_ok : ∀ k, k < 2 → parseFieldDescriptor (TX0 k).2.2.1 = some (tyX0 k) := by decide +kernel
abbrev cX0_init : ByteArray := prog_2_method_1_code
def yX0_init : MethodName := ⟨RX0, "<init>", "()V"⟩
abbrev cX0_add : ByteArray := prog_2_method_2_code
def yX0_add : MethodName := ⟨RX0, "add", "(I)Z"⟩
abbrev cX0_clear : ByteArray := prog_2_method_3_code
def yX0_clear : MethodName := ⟨RX0, "clear", "()I"⟩
abbrev cX0_faultPlace : ByteArray := prog_2_method_4_code
def yX0_faultPlace : MethodName := ⟨RX0, "faultPlace", "()I"⟩
abbrev cX0_isWhole : ByteArray := prog_2_method_5_code
def yX0_isWhole : MethodName := ⟨RX0, "isWhole", "()Z"⟩
abbrev cX0_siteCount : ByteArray := prog_2_method_6_code
def yX0_siteCount : MethodName := ⟨RX0, "siteCount", "()I"⟩
abbrev cX0_kindOf : ByteArray := prog_2_method_7_code
def yX0_kindOf : MethodName := ⟨RX0, "kindOf", "(I)I"⟩
abbrev cX0_wantOf : ByteArray := prog_2_method_8_code
def yX0_wantOf : MethodName := ⟨RX0, "wantOf", "(I)I"⟩
abbrev cX0_sunTold : ByteArray := prog_2_method_9_code
def yX0_sunTold : MethodName := ⟨RX0, "sunTold", "()I"⟩
abbrev cX0_fitsAmongSites : ByteArray := prog_2_method_10_code
def yX0_fitsAmongSites : MethodName := ⟨RX0, "fitsAmongSites", "(I)Z"⟩
abbrev cX0_fitsBehindSites : ByteArray := prog_2_method_11_code
def yX0_fitsBehindSites : MethodName := ⟨RX0, "fitsBehindSites", "(II)Z"⟩
abbrev cX0_isDigitFrom : ByteArray := prog_2_method_12_code
def yX0_isDigitFrom : MethodName := ⟨RX0, "isDigitFrom", "(CI)Z"⟩
abbrev cX0_digitAt : ByteArray := prog_2_method_13_code
def yX0_digitAt : MethodName := ⟨RX0, "digitAt", "(I)I"⟩
abbrev cX0_kindAt : ByteArray := prog_2_method_14_code
def yX0_kindAt : MethodName := ⟨RX0, "kindAt", "(I)I"⟩
abbrev cX0_codeAt : ByteArray := prog_2_method_15_code
def yX0_codeAt : MethodName := ⟨RX0, "codeAt", "(I)I"⟩
def RX1 : String := "SnowTerm$Term"
def TX1 : u_T := fun k => match k with
  | 0 => ("SnowTerm$Term", "day", "I", false)
  | 1 => ("SnowTerm$Term", "sun", "I", false)
  | 2 => ("SnowTerm$Term", "cost", "I", false)
  | 3 => ("SnowTerm$Term", "praise", "I", false)
  | 4 => ("SnowTerm$Term", "snow", "[I", true)
  | 5 => ("SnowTerm$Term", "snowAtDusk", "[I", true)
  | 6 => ("SnowTerm$Term", "feet", "[I", true)
  | 7 => ("SnowTerm$Term", "brought", "[I", true)
  | 8 => ("SnowTerm$Term", "foundKind", "[I", true)
  | 9 => ("SnowTerm$Term", "foundFeet", "[I", true)
  | 10 => ("SnowTerm$Term", "foundDeep", "[I", true)
  | 11 => ("SnowTerm$Term", "foundLeft", "[I", true)
  | _ => ("SnowTerm$Term", "foundCount", "I", false)
def tyX1 : Nat → FieldType := fun k => match k with
  | 0 => .int
  | 1 => .int
  | 2 => .int
  | 3 => .int
  | 4 => .array .int
  | 5 => .array .int
  | 6 => .array .int
  | 7 => .array .int
  | 8 => .array .int
  | 9 => .array .int
  | 10 => .array .int
  | 11 => .array .int
  | _ => .int
abbrev wsX10 : List Cond := u_ws RX1 TX1 13
theorem nmX1 : ∀ a, a < 13 → ∀ b, b < 13 → a ≠ b → (TX1 a).2.1 ≠ (TX1 b).2.1 := by decide +kernel
theorem tyX1_ok : ∀ k, k < 13 → parseFieldDescriptor (TX1 k).2.2.1 = some (tyX1 k) := by decide +kernel
abbrev cX1_init : ByteArray := prog_3_method_1_code
def yX1_init : MethodName := ⟨RX1, "<init>", "()V"⟩
abbrev cX1_begin : ByteArray := prog_3_method_2_code
def yX1_begin : MethodName := ⟨RX1, "begin", "(I)V"⟩
abbrev cX1_endDay : ByteArray := prog_3_method_3_code
def yX1_endDay : MethodName := ⟨RX1, "endDay", "(I)V"⟩
abbrev cX1_addFound : ByteArray := prog_3_method_4_code
def yX1_addFound : MethodName := ⟨RX1, "addFound", "(IIII)Z"⟩
abbrev cX1_copy : ByteArray := prog_3_method_5_code
def yX1_copy : MethodName := ⟨RX1, "copy", "(LSnowTerm$Term;)V"⟩
abbrev cX1_copyRow : ByteArray := prog_3_method_6_code
def yX1_copyRow : MethodName := ⟨RX1, "copyRow", "([I[I)V"⟩
def RX2 : String := "SnowTerm"
def TX2 : u_T := fun k => match k with
  | 0 => ("SnowTerm", "page", "LSnowTerm$Page;", true)
  | 1 => ("SnowTerm", "kinds", "[I", true)
  | 2 => ("SnowTerm", "wants", "[I", true)
  | 3 => ("SnowTerm", "now", "LSnowTerm$Term;", true)
  | 4 => ("SnowTerm", "atImage", "LSnowTerm$Term;", true)
  | 5 => ("SnowTerm", "wouldBe", "[I", true)
  | 6 => ("SnowTerm", "needs", "[I", true)
  | 7 => ("SnowTerm", "sites", "I", false)
  | 8 => ("SnowTerm", "citiesRead", "I", false)
  | _ => ("SnowTerm", "hasImage", "Z", false)
def tyX2 : Nat → FieldType := fun k => match k with
  | 0 => .object "SnowTerm$Page"
  | 1 => .array .int
  | 2 => .array .int
  | 3 => .object "SnowTerm$Term"
  | 4 => .object "SnowTerm$Term"
  | 5 => .array .int
  | 6 => .array .int
  | 7 => .int
  | 8 => .int
  | _ => .boolean
abbrev wsX20 : List Cond := u_ws RX2 TX2 10
theorem nmX2 : ∀ a, a < 10 → ∀ b, b < 10 → a ≠ b → (TX2 a).2.1 ≠ (TX2 b).2.1 := by decide +kernel
theorem tyX2_ok : ∀ k, k < 10 → parseFieldDescriptor (TX2 k).2.2.1 = some (tyX2 k) := by decide +kernel
abbrev cX2_init : ByteArray := prog_1_method_1_code
def yX2_init : MethodName := ⟨RX2, "<init>", "()V"⟩
abbrev cX2_letter : ByteArray := prog_1_method_2_code
def yX2_letter : MethodName := ⟨RX2, "letter", "(I)I"⟩
abbrev cX2_blank : ByteArray := prog_1_method_3_code
def yX2_blank : MethodName := ⟨RX2, "blank", "()I"⟩
abbrev cX2_fault : ByteArray := prog_1_method_4_code
def yX2_fault : MethodName := ⟨RX2, "fault", "()I"⟩
abbrev cX2_city : ByteArray := prog_1_method_5_code
def yX2_city : MethodName := ⟨RX2, "city", "()I"⟩
abbrev cX2_about : ByteArray := prog_1_method_6_code
def yX2_about : MethodName := ⟨RX2, "about", "(II)I"⟩
abbrev cX2_as : ByteArray := prog_1_method_7_code
def yX2_as : MethodName := ⟨RX2, "as", "(II)I"⟩
abbrev cX2_bring : ByteArray := prog_1_method_8_code
def yX2_bring : MethodName := ⟨RX2, "bring", "(II)I"⟩
abbrev cX2_tread : ByteArray := prog_1_method_9_code
def yX2_tread : MethodName := ⟨RX2, "tread", "(II)I"⟩
abbrev cX2_sun : ByteArray := prog_1_method_10_code
def yX2_sun : MethodName := ⟨RX2, "sun", "(I)I"⟩
abbrev cX2_day : ByteArray := prog_1_method_11_code
def yX2_day : MethodName := ⟨RX2, "day", "()I"⟩
abbrev cX2_need : ByteArray := prog_1_method_12_code
def yX2_need : MethodName := ⟨RX2, "need", "(II)I"⟩
abbrev cX2_plan : ByteArray := prog_1_method_13_code
def yX2_plan : MethodName := ⟨RX2, "plan", "(III)I"⟩
abbrev cX2_error : ByteArray := prog_1_method_14_code
def yX2_error : MethodName := ⟨RX2, "error", "(I)I"⟩
abbrev cX2_found : ByteArray := prog_1_method_15_code
def yX2_found : MethodName := ⟨RX2, "found", "(III)I"⟩
abbrev cX2_forget : ByteArray := prog_1_method_16_code
def yX2_forget : MethodName := ⟨RX2, "forget", "()I"⟩
abbrev cX2_suns : ByteArray := prog_1_method_17_code
def yX2_suns : MethodName := ⟨RX2, "suns", "()I"⟩
abbrev cX2_look : ByteArray := prog_1_method_18_code
def yX2_look : MethodName := ⟨RX2, "look", "()I"⟩
abbrev cX2_winters : ByteArray := prog_1_method_19_code
def yX2_winters : MethodName := ⟨RX2, "winters", "(III)I"⟩
abbrev cX2_image : ByteArray := prog_1_method_20_code
def yX2_image : MethodName := ⟨RX2, "image", "()I"⟩
abbrev cX2_restore : ByteArray := prog_1_method_21_code
def yX2_restore : MethodName := ⟨RX2, "restore", "()I"⟩
abbrev cX2_count : ByteArray := prog_1_method_22_code
def yX2_count : MethodName := ⟨RX2, "count", "(I)I"⟩
abbrev cX2_digest : ByteArray := prog_1_method_23_code
def yX2_digest : MethodName := ⟨RX2, "digest", "()J"⟩
abbrev cX2_isWithin : ByteArray := prog_1_method_24_code
def yX2_isWithin : MethodName := ⟨RX2, "isWithin", "(III)Z"⟩
abbrev cX2_hasBit : ByteArray := prog_1_method_25_code
def yX2_hasBit : MethodName := ⟨RX2, "hasBit", "(II)Z"⟩
abbrev cX2_mixed : ByteArray := prog_1_method_26_code
def yX2_mixed : MethodName := ⟨RX2, "mixed", "(JI)J"⟩
abbrev cX2_seedAfter : ByteArray := prog_1_method_27_code
def yX2_seedAfter : MethodName := ⟨RX2, "seedAfter", "(I)I"⟩
abbrev cX2_drawOf : ByteArray := prog_1_method_28_code
def yX2_drawOf : MethodName := ⟨RX2, "drawOf", "(II)I"⟩
abbrev cX2_isSite : ByteArray := prog_1_method_29_code
def yX2_isSite : MethodName := ⟨RX2, "isSite", "(I)Z"⟩
abbrev cX2_isOfKind : ByteArray := prog_1_method_30_code
def yX2_isOfKind : MethodName := ⟨RX2, "isOfKind", "(II)Z"⟩
abbrev cX2_melting : ByteArray := prog_1_method_31_code
def yX2_melting : MethodName := ⟨RX2, "melting", "(III)I"⟩
abbrev cX2_meltsNow : ByteArray := prog_1_method_32_code
def yX2_meltsNow : MethodName := ⟨RX2, "meltsNow", "(I)I"⟩
abbrev cX2_deepened : ByteArray := prog_1_method_33_code
def yX2_deepened : MethodName := ⟨RX2, "deepened", "(II)I"⟩
abbrev cX2_leftOf : ByteArray := prog_1_method_34_code
def yX2_leftOf : MethodName := ⟨RX2, "leftOf", "(II)I"⟩
abbrev cX2_priceAt : ByteArray := prog_1_method_35_code
def yX2_priceAt : MethodName := ⟨RX2, "priceAt", "(I)I"⟩
abbrev cX2_isKeptWith : ByteArray := prog_1_method_36_code
def yX2_isKeptWith : MethodName := ⟨RX2, "isKeptWith", "(II)Z"⟩
abbrev cX2_keptIn : ByteArray := prog_1_method_37_code
def yX2_keptIn : MethodName := ⟨RX2, "keptIn", "([I)I"⟩
abbrev cX2_snowIn : ByteArray := prog_1_method_38_code
def yX2_snowIn : MethodName := ⟨RX2, "snowIn", "([I)I"⟩
abbrev cX2_bringOneLoad : ByteArray := prog_1_method_39_code
def yX2_bringOneLoad : MethodName := ⟨RX2, "bringOneLoad", "([II)V"⟩
abbrev cX2_meltAll : ByteArray := prog_1_method_40_code
def yX2_meltAll : MethodName := ⟨RX2, "meltAll", "([II)I"⟩
abbrev cX2_loadsNeeded : ByteArray := prog_1_method_41_code
def yX2_loadsNeeded : MethodName := ⟨RX2, "loadsNeeded", "(II)I"⟩
abbrev cX2_tellNeeds : ByteArray := prog_1_method_42_code
def yX2_tellNeeds : MethodName := ⟨RX2, "tellNeeds", "(I)V"⟩
abbrev cX2_bestPlan : ByteArray := prog_1_method_43_code
def yX2_bestPlan : MethodName := ⟨RX2, "bestPlan", "(I)I"⟩
abbrev cX2_isBetterPlan : ByteArray := prog_1_method_44_code
def yX2_isBetterPlan : MethodName := ⟨RX2, "isBetterPlan", "(II)Z"⟩
abbrev cX2_loadsOf : ByteArray := prog_1_method_45_code
def yX2_loadsOf : MethodName := ⟨RX2, "loadsOf", "(I)I"⟩
abbrev cX2_costOf : ByteArray := prog_1_method_46_code
def yX2_costOf : MethodName := ⟨RX2, "costOf", "(I)I"⟩
abbrev cX2_bestError : ByteArray := prog_1_method_47_code
def yX2_bestError : MethodName := ⟨RX2, "bestError", "()I"⟩
abbrev cX2_keptIfSwapped : ByteArray := prog_1_method_48_code
def yX2_keptIfSwapped : MethodName := ⟨RX2, "keptIfSwapped", "(II)I"⟩
abbrev cX2_deepWithLoadsOf : ByteArray := prog_1_method_49_code
def yX2_deepWithLoadsOf : MethodName := ⟨RX2, "deepWithLoadsOf", "(II)I"⟩
abbrev cX2_possibleSuns : ByteArray := prog_1_method_50_code
def yX2_possibleSuns : MethodName := ⟨RX2, "possibleSuns", "()I"⟩
abbrev cX2_explainsAllFound : ByteArray := prog_1_method_51_code
def yX2_explainsAllFound : MethodName := ⟨RX2, "explainsAllFound", "(I)Z"⟩
abbrev cX2_bestLook : ByteArray := prog_1_method_52_code
def yX2_bestLook : MethodName := ⟨RX2, "bestLook", "(I)I"⟩
abbrev cX2_sunsLeftAtWorst : ByteArray := prog_1_method_53_code
def yX2_sunsLeftAtWorst : MethodName := ⟨RX2, "sunsLeftAtWorst", "(II)I"⟩
abbrev cX2_sunsLikeThis : ByteArray := prog_1_method_54_code
def yX2_sunsLikeThis : MethodName := ⟨RX2, "sunsLikeThis", "(III)I"⟩
abbrev cX2_leftOfDeepest : ByteArray := prog_1_method_55_code
def yX2_leftOfDeepest : MethodName := ⟨RX2, "leftOfDeepest", "(II)I"⟩
def RX3 : String := "SnowTermModel"
def TX3 : u_T := fun k => match k with
  | 0 => ("SnowTermModel", "cities", "I", false)
  | 1 => ("SnowTermModel", "sites", "I", false)
  | 2 => ("SnowTermModel", "kindOf", "[I", true)
  | 3 => ("SnowTermModel", "wantOf", "[I", true)
  | 4 => ("SnowTermModel", "deepOf", "[I", true)
  | 5 => ("SnowTermModel", "startOf", "[I", true)
  | 6 => ("SnowTermModel", "broughtTo", "[I", true)
  | 7 => ("SnowTermModel", "feetOf", "[I", true)
  | 8 => ("SnowTermModel", "sunNow", "I", false)
  | 9 => ("SnowTermModel", "days", "I", false)
  | 10 => ("SnowTermModel", "praise", "I", false)
  | 11 => ("SnowTermModel", "cost", "I", false)
  | 12 => ("SnowTermModel", "found", "I", false)
  | 13 => ("SnowTermModel", "foundSite", "[I", true)
  | 14 => ("SnowTermModel", "foundDeep", "[I", true)
  | 15 => ("SnowTermModel", "foundLeft", "[I", true)
  | 16 => ("SnowTermModel", "pageLength", "I", false)
  | 17 => ("SnowTermModel", "page", "[B", true)
  | 18 => ("SnowTermModel", "isWhole", "Z", false)
  | 19 => ("SnowTermModel", "newMany", "I", false)
  | 20 => ("SnowTermModel", "needs", "[I", true)
  | 21 => ("SnowTermModel", "setLoads", "I", false)
  | 22 => ("SnowTermModel", "setCost", "I", false)
  | 23 => ("SnowTermModel", "seedNow", "J", false)
  | 24 => ("SnowTermModel", "savedDeep", "[I", true)
  | 25 => ("SnowTermModel", "isImage", "Z", false)
  | 26 => ("SnowTermModel", "keptCity", "I", false)
  | 27 => ("SnowTermModel", "keptSun", "I", false)
  | 28 => ("SnowTermModel", "keptDays", "I", false)
  | 29 => ("SnowTermModel", "keptPraise", "I", false)
  | 30 => ("SnowTermModel", "keptCost", "I", false)
  | 31 => ("SnowTermModel", "keptFound", "I", false)
  | 32 => ("SnowTermModel", "keptDeep", "[I", true)
  | 33 => ("SnowTermModel", "keptStart", "[I", true)
  | 34 => ("SnowTermModel", "keptBrought", "[I", true)
  | 35 => ("SnowTermModel", "keptFeet", "[I", true)
  | 36 => ("SnowTermModel", "keptSite", "[I", true)
  | 37 => ("SnowTermModel", "keptFoundDeep", "[I", true)
  | 38 => ("SnowTermModel", "keptLeft", "[I", true)
  | _ => ("SnowTermModel", "h", "J", false)
def tyX3 : Nat → FieldType := fun k => match k with
  | 0 => .int
  | 1 => .int
  | 2 => .array .int
  | 3 => .array .int
  | 4 => .array .int
  | 5 => .array .int
  | 6 => .array .int
  | 7 => .array .int
  | 8 => .int
  | 9 => .int
  | 10 => .int
  | 11 => .int
  | 12 => .int
  | 13 => .array .int
  | 14 => .array .int
  | 15 => .array .int
  | 16 => .int
  | 17 => .array .byte
  | 18 => .boolean
  | 19 => .int
  | 20 => .array .int
  | 21 => .int
  | 22 => .int
  | 23 => .long
  | 24 => .array .int
  | 25 => .boolean
  | 26 => .int
  | 27 => .int
  | 28 => .int
  | 29 => .int
  | 30 => .int
  | 31 => .int
  | 32 => .array .int
  | 33 => .array .int
  | 34 => .array .int
  | 35 => .array .int
  | 36 => .array .int
  | 37 => .array .int
  | 38 => .array .int
  | _ => .long
abbrev wsX30 : List Cond := u_ws RX3 TX3 40
theorem nmX3 : ∀ a, a < 40 → ∀ b, b < 40 → a ≠ b → (TX3 a).2.1 ≠ (TX3 b).2.1 := by decide +kernel
theorem tyX3_ok : ∀ k, k < 40 → parseFieldDescriptor (TX3 k).2.2.1 = some (tyX3 k) := by decide +kernel
abbrev cX3_init : ByteArray := prog_5_method_1_code
def yX3_init : MethodName := ⟨RX3, "<init>", "()V"⟩
abbrev cX3_within : ByteArray := prog_5_method_3_code
def yX3_within : MethodName := ⟨RX3, "within", "(III)Z"⟩
abbrev cX3_isIn : ByteArray := prog_5_method_4_code
def yX3_isIn : MethodName := ⟨RX3, "isIn", "(II)Z"⟩
abbrev cX3_size : ByteArray := prog_5_method_5_code
def yX3_size : MethodName := ⟨RX3, "size", "(I)I"⟩
abbrev cX3_atMost : ByteArray := prog_5_method_6_code
def yX3_atMost : MethodName := ⟨RX3, "atMost", "(I)I"⟩
abbrev cX3_notBelow : ByteArray := prog_5_method_7_code
def yX3_notBelow : MethodName := ⟨RX3, "notBelow", "(I)I"⟩
abbrev cX3_letter : ByteArray := prog_5_method_8_code
def yX3_letter : MethodName := ⟨RX3, "letter", "(I)I"⟩
abbrev cX3_blank : ByteArray := prog_5_method_9_code
def yX3_blank : MethodName := ⟨RX3, "blank", "()I"⟩
abbrev cX3_kindBy : ByteArray := prog_5_method_10_code
def yX3_kindBy : MethodName := ⟨RX3, "kindBy", "(I)I"⟩
abbrev cX3_figure : ByteArray := prog_5_method_11_code
def yX3_figure : MethodName := ⟨RX3, "figure", "(I)I"⟩
abbrev cX3_read : ByteArray := prog_5_method_12_code
def yX3_read : MethodName := ⟨RX3, "read", "()I"⟩
abbrev cX3_fault : ByteArray := prog_5_method_13_code
def yX3_fault : MethodName := ⟨RX3, "fault", "()I"⟩
abbrev cX3_city : ByteArray := prog_5_method_14_code
def yX3_city : MethodName := ⟨RX3, "city", "()I"⟩
abbrev cX3_isSite : ByteArray := prog_5_method_15_code
def yX3_isSite : MethodName := ⟨RX3, "isSite", "(I)Z"⟩
abbrev cX3_meltsBy : ByteArray := prog_5_method_16_code
def yX3_meltsBy : MethodName := ⟨RX3, "meltsBy", "(II)I"⟩
abbrev cX3_isKept : ByteArray := prog_5_method_17_code
def yX3_isKept : MethodName := ⟨RX3, "isKept", "(II)Z"⟩
abbrev cX3_siteNow : ByteArray := prog_5_method_18_code
def yX3_siteNow : MethodName := ⟨RX3, "siteNow", "(II)I"⟩
abbrev cX3_about : ByteArray := prog_5_method_19_code
def yX3_about : MethodName := ⟨RX3, "about", "(II)I"⟩
abbrev cX3_as : ByteArray := prog_5_method_20_code
def yX3_as : MethodName := ⟨RX3, "as", "(II)I"⟩
abbrev cX3_bring : ByteArray := prog_5_method_21_code
def yX3_bring : MethodName := ⟨RX3, "bring", "(II)I"⟩
abbrev cX3_tread : ByteArray := prog_5_method_22_code
def yX3_tread : MethodName := ⟨RX3, "tread", "(II)I"⟩
abbrev cX3_sun : ByteArray := prog_5_method_23_code
def yX3_sun : MethodName := ⟨RX3, "sun", "(I)I"⟩
abbrev cX3_keptNow : ByteArray := prog_5_method_24_code
def yX3_keptNow : MethodName := ⟨RX3, "keptNow", "()I"⟩
abbrev cX3_melt : ByteArray := prog_5_method_25_code
def yX3_melt : MethodName := ⟨RX3, "melt", "(I)V"⟩
abbrev cX3_day : ByteArray := prog_5_method_26_code
def yX3_day : MethodName := ⟨RX3, "day", "()I"⟩
abbrev cX3_isKeptFor : ByteArray := prog_5_method_27_code
def yX3_isKeptFor : MethodName := ⟨RX3, "isKeptFor", "(III)Z"⟩
abbrev cX3_needOf : ByteArray := prog_5_method_28_code
def yX3_needOf : MethodName := ⟨RX3, "needOf", "(II)I"⟩
abbrev cX3_need : ByteArray := prog_5_method_29_code
def yX3_need : MethodName := ⟨RX3, "need", "(II)I"⟩
abbrev cX3_layNeeds : ByteArray := prog_5_method_30_code
def yX3_layNeeds : MethodName := ⟨RX3, "layNeeds", "(I)Z"⟩
abbrev cX3_planNow : ByteArray := prog_5_method_31_code
def yX3_planNow : MethodName := ⟨RX3, "planNow", "(III)I"⟩
abbrev cX3_plan : ByteArray := prog_5_method_32_code
def yX3_plan : MethodName := ⟨RX3, "plan", "(III)I"⟩
abbrev cX3_keptBy : ByteArray := prog_5_method_33_code
def yX3_keptBy : MethodName := ⟨RX3, "keptBy", "(II)I"⟩
abbrev cX3_errorNow : ByteArray := prog_5_method_34_code
def yX3_errorNow : MethodName := ⟨RX3, "errorNow", "(I)I"⟩
abbrev cX3_error : ByteArray := prog_5_method_35_code
def yX3_error : MethodName := ⟨RX3, "error", "(I)I"⟩
abbrev cX3_found : ByteArray := prog_5_method_36_code
def yX3_found : MethodName := ⟨RX3, "found", "(III)I"⟩
abbrev cX3_forget : ByteArray := prog_5_method_37_code
def yX3_forget : MethodName := ⟨RX3, "forget", "()I"⟩
abbrev cX3_leftOf : ByteArray := prog_5_method_38_code
def yX3_leftOf : MethodName := ⟨RX3, "leftOf", "(III)I"⟩
abbrev cX3_sunsNow : ByteArray := prog_5_method_39_code
def yX3_sunsNow : MethodName := ⟨RX3, "sunsNow", "()I"⟩
abbrev cX3_suns : ByteArray := prog_5_method_40_code
def yX3_suns : MethodName := ⟨RX3, "suns", "()I"⟩
abbrev cX3_worstAt : ByteArray := prog_5_method_41_code
def yX3_worstAt : MethodName := ⟨RX3, "worstAt", "(II)I"⟩
abbrev cX3_lookNow : ByteArray := prog_5_method_42_code
def yX3_lookNow : MethodName := ⟨RX3, "lookNow", "()I"⟩
abbrev cX3_look : ByteArray := prog_5_method_43_code
def yX3_look : MethodName := ⟨RX3, "look", "()I"⟩
abbrev cX3_draw : ByteArray := prog_5_method_44_code
def yX3_draw : MethodName := ⟨RX3, "draw", "(I)I"⟩
abbrev cX3_snowAll : ByteArray := prog_5_method_45_code
def yX3_snowAll : MethodName := ⟨RX3, "snowAll", "()I"⟩
abbrev cX3_wintersNow : ByteArray := prog_5_method_46_code
def yX3_wintersNow : MethodName := ⟨RX3, "wintersNow", "(III)I"⟩
abbrev cX3_winters : ByteArray := prog_5_method_47_code
def yX3_winters : MethodName := ⟨RX3, "winters", "(III)I"⟩
abbrev cX3_image : ByteArray := prog_5_method_48_code
def yX3_image : MethodName := ⟨RX3, "image", "()I"⟩
abbrev cX3_restore : ByteArray := prog_5_method_49_code
def yX3_restore : MethodName := ⟨RX3, "restore", "()I"⟩
abbrev cX3_howMany : ByteArray := prog_5_method_50_code
def yX3_howMany : MethodName := ⟨RX3, "howMany", "(I)I"⟩
abbrev cX3_count : ByteArray := prog_5_method_51_code
def yX3_count : MethodName := ⟨RX3, "count", "(I)I"⟩
abbrev cX3_mix : ByteArray := prog_5_method_52_code
def yX3_mix : MethodName := ⟨RX3, "mix", "(J)V"⟩
abbrev cX3_digest : ByteArray := prog_5_method_53_code
def yX3_digest : MethodName := ⟨RX3, "digest", "()J"⟩
def RJ11 : String := "java/lang/Character"
def TJ11 : u_T := fun k => match k with
  | _ => ("", "", "", false)
def tyJ11 : Nat → FieldType := fun k => match k with
  | _ => .int
abbrev wsJ110 : List Cond := u_ws RJ11 TJ11 0
theorem nmJ11 : ∀ a, a < 0 → ∀ b, b < 0 → a ≠ b → (TJ11 a).2.1 ≠ (TJ11 b).2.1 := by decide +kernel
theorem tyJ11_ok : ∀ k, k < 0 → parseFieldDescriptor (TJ11 k).2.2.1 = some (tyJ11 k) := by decide +kernel
abbrev cJ11_isValidCodePoint_9a6ad : ByteArray := prog_6_method_11_code
def yJ11_isValidCodePoint_9a6ad : MethodName := ⟨RJ11, "isValidCodePoint", "(I)Z"⟩
abbrev cJ11_highSurrogate_5068e : ByteArray := prog_6_method_28_code
def yJ11_highSurrogate_5068e : MethodName := ⟨RJ11, "highSurrogate", "(I)C"⟩
abbrev cJ11_lowSurrogate_5068e : ByteArray := prog_6_method_29_code
def yJ11_lowSurrogate_5068e : MethodName := ⟨RJ11, "lowSurrogate", "(I)C"⟩
def RJ6 : String := "java/lang/Integer"
def TJ6 : u_T := fun k => match k with
  | _ => ("", "", "", false)
def tyJ6 : Nat → FieldType := fun k => match k with
  | _ => .int
abbrev wsJ60 : List Cond := u_ws RJ6 TJ6 0
theorem nmJ6 : ∀ a, a < 0 → ∀ b, b < 0 → a ≠ b → (TJ6 a).2.1 ≠ (TJ6 b).2.1 := by decide +kernel
theorem tyJ6_ok : ∀ k, k < 0 → parseFieldDescriptor (TJ6 k).2.2.1 = some (tyJ6 k) := by decide +kernel
abbrev cJ6_bitCount_0f7a4 : ByteArray := prog_7_method_49_code
def yJ6_bitCount_0f7a4 : MethodName := ⟨RJ6, "bitCount", "(I)I"⟩
def RJ9 : String := "java/lang/Math"
def TJ9 : u_T := fun k => match k with
  | _ => ("", "", "", false)
def tyJ9 : Nat → FieldType := fun k => match k with
  | _ => .int
abbrev wsJ90 : List Cond := u_ws RJ9 TJ9 0
theorem nmJ9 : ∀ a, a < 0 → ∀ b, b < 0 → a ≠ b → (TJ9 a).2.1 ≠ (TJ9 b).2.1 := by decide +kernel
theorem tyJ9_ok : ∀ k, k < 0 → parseFieldDescriptor (TJ9 k).2.2.1 = some (tyJ9 k) := by decide +kernel
abbrev cJ9_max_7cf53 : ByteArray := prog_8_method_65_code
def yJ9_max_7cf53 : MethodName := ⟨RJ9, "max", "(II)I"⟩
abbrev cJ9_min_7cf53 : ByteArray := prog_8_method_69_code
def yJ9_min_7cf53 : MethodName := ⟨RJ9, "min", "(II)I"⟩
def RJ0 : String := "java/lang/String"
def TJ0 : u_T := fun k => match k with
  | _ => ("", "", "", false)
def tyJ0 : Nat → FieldType := fun k => match k with
  | _ => .int
abbrev wsJ00 : List Cond := u_ws RJ0 TJ0 0
theorem nmJ0 : ∀ a, a < 0 → ∀ b, b < 0 → a ≠ b → (TJ0 a).2.1 ≠ (TJ0 b).2.1 := by decide +kernel
theorem tyJ0_ok : ∀ k, k < 0 → parseFieldDescriptor (TJ0 k).2.2.1 = some (tyJ0 k) := by decide +kernel
abbrev cJ0_length_8abf5 : ByteArray := prog_9_method_54_code
def yJ0_length_8abf5 : MethodName := ⟨RJ0, "length", "()I"⟩
abbrev cJ0_indexOf_0f7a4 : ByteArray := prog_9_method_79_code
def yJ0_indexOf_0f7a4 : MethodName := ⟨RJ0, "indexOf", "(I)I"⟩
abbrev cJ0_indexOf_7cf53 : ByteArray := prog_9_method_80_code
def yJ0_indexOf_7cf53 : MethodName := ⟨RJ0, "indexOf", "(II)I"⟩
abbrev cJ0_coder_7d493 : ByteArray := prog_9_method_152_code
def yJ0_coder_7d493 : MethodName := ⟨RJ0, "coder", "()B"⟩
abbrev cJ0_isLatin1_aae02 : ByteArray := prog_9_method_154_code
def yJ0_isLatin1_aae02 : MethodName := ⟨RJ0, "isLatin1", "()Z"⟩
abbrev cJ0_checkBoundsBeginEnd_23922 : ByteArray := prog_9_method_158_code
def yJ0_checkBoundsBeginEnd_23922 : MethodName := ⟨RJ0, "checkBoundsBeginEnd", "(III)V"⟩
def RJ1 : String := "java/lang/StringLatin1"
def TJ1 : u_T := fun k => match k with
  | _ => ("", "", "", false)
def tyJ1 : Nat → FieldType := fun k => match k with
  | _ => .int
abbrev wsJ10 : List Cond := u_ws RJ1 TJ1 0
theorem nmJ1 : ∀ a, a < 0 → ∀ b, b < 0 → a ≠ b → (TJ1 a).2.1 ≠ (TJ1 b).2.1 := by decide +kernel
theorem tyJ1_ok : ∀ k, k < 0 → parseFieldDescriptor (TJ1 k).2.2.1 = some (tyJ1 k) := by decide +kernel
abbrev cJ1_canEncode_9a6ad : ByteArray := prog_10_method_4_code
def yJ1_canEncode_9a6ad : MethodName := ⟨RJ1, "canEncode", "(I)Z"⟩
abbrev cJ1_indexOf_4cfef : ByteArray := prog_10_method_22_code
def yJ1_indexOf_4cfef : MethodName := ⟨RJ1, "indexOf", "([BIII)I"⟩
abbrev cJ1_indexOfChar_4cfef : ByteArray := prog_10_method_23_code
def yJ1_indexOfChar_4cfef : MethodName := ⟨RJ1, "indexOfChar", "([BIII)I"⟩
def RJ2 : String := "java/lang/StringUTF16"
def TJ2 : u_T := fun k => match k with
  | _ => ("", "", "", false)
def tyJ2 : Nat → FieldType := fun k => match k with
  | _ => .int
abbrev wsJ20 : List Cond := u_ws RJ2 TJ2 0
theorem nmJ2 : ∀ a, a < 0 → ∀ b, b < 0 → a ≠ b → (TJ2 a).2.1 ≠ (TJ2 b).2.1 := by decide +kernel
theorem tyJ2_ok : ∀ k, k < 0 → parseFieldDescriptor (TJ2 k).2.2.1 = some (tyJ2 k) := by decide +kernel
abbrev cJ2_getChar_3b067 : ByteArray := prog_11_method_5_code
def yJ2_getChar_3b067 : MethodName := ⟨RJ2, "getChar", "([BI)C"⟩
abbrev cJ2_length_9d52b : ByteArray := prog_11_method_6_code
def yJ2_length_9d52b : MethodName := ⟨RJ2, "length", "([B)I"⟩
abbrev cJ2_indexOf_4cfef : ByteArray := prog_11_method_40_code
def yJ2_indexOf_4cfef : MethodName := ⟨RJ2, "indexOf", "([BIII)I"⟩
abbrev cJ2_indexOfChar_4cfef : ByteArray := prog_11_method_47_code
def yJ2_indexOfChar_4cfef : MethodName := ⟨RJ2, "indexOfChar", "([BIII)I"⟩
abbrev cJ2_indexOfCharUnsafe_4cfef : ByteArray := prog_11_method_48_code
def yJ2_indexOfCharUnsafe_4cfef : MethodName := ⟨RJ2, "indexOfCharUnsafe", "([BIII)I"⟩
abbrev cJ2_indexOfSupplementary_4cfef : ByteArray := prog_11_method_49_code
def yJ2_indexOfSupplementary_4cfef : MethodName := ⟨RJ2, "indexOfSupplementary", "([BIII)I"⟩
abbrev cJ2_checkBoundsBeginEnd_d044e : ByteArray := prog_11_method_93_code
def yJ2_checkBoundsBeginEnd_d044e : MethodName := ⟨RJ2, "checkBoundsBeginEnd", "(II[B)V"⟩
def RJ10 : String := "java/lang/System"
def TJ10 : u_T := fun k => match k with
  | _ => ("", "", "", false)
def tyJ10 : Nat → FieldType := fun k => match k with
  | _ => .int
abbrev wsJ100 : List Cond := u_ws RJ10 TJ10 0
theorem nmJ10 : ∀ a, a < 0 → ∀ b, b < 0 → a ≠ b → (TJ10 a).2.1 ≠ (TJ10 b).2.1 := by decide +kernel
theorem tyJ10_ok : ∀ k, k < 0 → parseFieldDescriptor (TJ10 k).2.2.1 = some (tyJ10 k) := by decide +kernel
def RJ3 : String := "jdk/internal/util/Preconditions"
def TJ3 : u_T := fun k => match k with
  | _ => ("", "", "", false)
def tyJ3 : Nat → FieldType := fun k => match k with
  | _ => .int
abbrev wsJ30 : List Cond := u_ws RJ3 TJ3 0
theorem nmJ3 : ∀ a, a < 0 → ∀ b, b < 0 → a ≠ b → (TJ3 a).2.1 ≠ (TJ3 b).2.1 := by decide +kernel
theorem tyJ3_ok : ∀ k, k < 0 → parseFieldDescriptor (TJ3 k).2.2.1 = some (tyJ3 k) := by decide +kernel
abbrev cJ3_checkFromToIndex_8c36e : ByteArray := prog_13_method_12_code
def yJ3_checkFromToIndex_8c36e : MethodName := ⟨RJ3, "checkFromToIndex", "(IIILjava/util/function/BiFunction;)I"⟩
def RL : String := "SnowTermLaw"
abbrev cL_law : ByteArray := code
def yL_law : MethodName := ⟨RL, "law", "([I)Z"⟩
def wsX0_init : List Cond := .code yX0_init cX0_init 1 none :: ([.methodLink RX0 3 objectInit, .instanceMethod objectInit, .code objectInit ⟨#[0xb1]⟩ 1 none, .arrayClass .int, .fieldLink RX0 9 "SnowTerm$Page" "codes" "[I", .fieldLink RX0 15 "SnowTerm$Page" "size" "I"] ++ wsX00)
def wsX0_add : List Cond := .code yX0_add cX0_add 2 (some .boolean) :: ([.fieldLink RX0 15 "SnowTerm$Page" "size" "I", .fieldLink RX0 9 "SnowTerm$Page" "codes" "[I"] ++ wsX00)
def wsX0_clear : List Cond := .code yX0_clear cX0_clear 2 (some .int) :: ([.fieldLink RX0 15 "SnowTerm$Page" "size" "I"] ++ wsX00)
def wsX0_codeAt : List Cond := .code yX0_codeAt cX0_codeAt 2 (some .int) :: ([.fieldLink RX0 9 "SnowTerm$Page" "codes" "[I"] ++ wsX00)
def wsJ0_isLatin1_aae02 : List Cond := .code yJ0_isLatin1_aae02 cJ0_isLatin1_aae02 1 (some .boolean) :: ([.fieldLink RJ0 38 "java/lang/String" "COMPACT_STRINGS" "Z", .fieldLink RJ0 15 "java/lang/String" "coder" "B"])
def wsJ0_coder_7d493 : List Cond := .code yJ0_coder_7d493 cJ0_coder_7d493 1 (some .byte) :: ([.fieldLink RJ0 38 "java/lang/String" "COMPACT_STRINGS" "Z", .fieldLink RJ0 15 "java/lang/String" "coder" "B"])
def wsJ0_length_8abf5 : List Cond := .code yJ0_length_8abf5 cJ0_length_8abf5 1 (some .int) :: ([.fieldLink RJ0 9 "java/lang/String" "value" "[B", .methodLink RJ0 335 yJ0_coder_7d493, .instanceMethod yJ0_coder_7d493, .selects RJ0 yJ0_coder_7d493 yJ0_coder_7d493, .initialized RJ0, .code yJ0_coder_7d493 cJ0_coder_7d493 1 (some .byte), .fieldLink RJ0 38 "java/lang/String" "COMPACT_STRINGS" "Z", .fieldLink RJ0 15 "java/lang/String" "coder" "B"])
def wsJ1_canEncode_9a6ad : List Cond := .code yJ1_canEncode_9a6ad cJ1_canEncode_9a6ad 1 (some .boolean) :: ([])
def wsJ1_indexOfChar_4cfef : List Cond := .code yJ1_indexOfChar_4cfef cJ1_indexOfChar_4cfef 6 (some .int) :: ([])
def wsJ1_indexOf_4cfef : List Cond := .code yJ1_indexOf_4cfef cJ1_indexOf_4cfef 4 (some .int) :: ([.methodLink RJ1 92 Lib.Math.max.name, .static Lib.Math.max.name, .initialized "java/lang/Math", .code Lib.Math.max.name Lib.Math.max.code 2 (some .int), .methodLink RJ1 38 Lib.Math.min.name, .static Lib.Math.min.name, .code Lib.Math.min.name Lib.Math.min.code 2 (some .int), .methodLink RJ1 88 yJ1_canEncode_9a6ad, .static yJ1_canEncode_9a6ad, .initialized RJ1, .code yJ1_canEncode_9a6ad cJ1_canEncode_9a6ad 1 (some .boolean), .methodLink RJ1 95 yJ1_indexOfChar_4cfef, .static yJ1_indexOfChar_4cfef, .code yJ1_indexOfChar_4cfef cJ1_indexOfChar_4cfef 6 (some .int)])
def wsJ2_length_9d52b : List Cond := .code yJ2_length_9d52b cJ2_length_9d52b 1 (some .int) :: ([])
def wsJ3_checkFromToIndex_8c36e : List Cond := .code yJ3_checkFromToIndex_8c36e cJ3_checkFromToIndex_8c36e 4 (some .int) :: ([])
def wsJ0_checkBoundsBeginEnd_23922 : List Cond := .code yJ0_checkBoundsBeginEnd_23922 cJ0_checkBoundsBeginEnd_23922 3 none :: ([.fieldLink RJ0 1053 "jdk/internal/util/Preconditions" "SIOOBE_FORMATTER" "Ljava/util/function/BiFunction;", .methodLink RJ0 1062 yJ3_checkFromToIndex_8c36e, .static yJ3_checkFromToIndex_8c36e, .initialized RJ3, .code yJ3_checkFromToIndex_8c36e cJ3_checkFromToIndex_8c36e 4 (some .int)])
def wsJ2_checkBoundsBeginEnd_d044e : List Cond := .code yJ2_checkBoundsBeginEnd_d044e cJ2_checkBoundsBeginEnd_d044e 3 none :: ([.methodLink RJ2 48 yJ2_length_9d52b, .static yJ2_length_9d52b, .initialized RJ2, .code yJ2_length_9d52b cJ2_length_9d52b 1 (some .int), .methodLink RJ2 241 yJ0_checkBoundsBeginEnd_23922, .static yJ0_checkBoundsBeginEnd_23922, .initialized RJ0, .code yJ0_checkBoundsBeginEnd_23922 cJ0_checkBoundsBeginEnd_23922 3 none, .fieldLink RJ0 1053 "jdk/internal/util/Preconditions" "SIOOBE_FORMATTER" "Ljava/util/function/BiFunction;", .methodLink RJ0 1062 yJ3_checkFromToIndex_8c36e, .static yJ3_checkFromToIndex_8c36e, .initialized RJ3, .code yJ3_checkFromToIndex_8c36e cJ3_checkFromToIndex_8c36e 4 (some .int)])
def wsJ2_getChar_3b067 : List Cond := .code yJ2_getChar_3b067 cJ2_getChar_3b067 2 (some .char) :: ([.fieldLink RJ2 44 "java/lang/StringUTF16" "$assertionsDisabled" "Z", .fieldLink RJ2 59 "java/lang/StringUTF16" "HI_BYTE_SHIFT" "I", .fieldLink RJ2 63 "java/lang/StringUTF16" "LO_BYTE_SHIFT" "I", .methodLink RJ2 48 yJ2_length_9d52b, .static yJ2_length_9d52b, .initialized RJ2, .code yJ2_length_9d52b cJ2_length_9d52b 1 (some .int)])
def wsJ2_indexOfCharUnsafe_4cfef : List Cond := .code yJ2_indexOfCharUnsafe_4cfef cJ2_indexOfCharUnsafe_4cfef 5 (some .int) :: ([.methodLink RJ2 71 yJ2_getChar_3b067, .static yJ2_getChar_3b067, .initialized RJ2, .code yJ2_getChar_3b067 cJ2_getChar_3b067 2 (some .char), .fieldLink RJ2 44 "java/lang/StringUTF16" "$assertionsDisabled" "Z", .fieldLink RJ2 59 "java/lang/StringUTF16" "HI_BYTE_SHIFT" "I", .fieldLink RJ2 63 "java/lang/StringUTF16" "LO_BYTE_SHIFT" "I", .methodLink RJ2 48 yJ2_length_9d52b, .static yJ2_length_9d52b, .code yJ2_length_9d52b cJ2_length_9d52b 1 (some .int)])
def wsJ2_indexOfChar_4cfef_r1 : List Cond := [Cond.methodLink RJ2 96 yJ2_checkBoundsBeginEnd_d044e, Cond.static yJ2_checkBoundsBeginEnd_d044e, Cond.initialized RJ2, Cond.code yJ2_checkBoundsBeginEnd_d044e cJ2_checkBoundsBeginEnd_d044e 3 none, Cond.methodLink RJ2 48 yJ2_length_9d52b, Cond.static yJ2_length_9d52b, Cond.code yJ2_length_9d52b cJ2_length_9d52b 1 (some .int), Cond.methodLink RJ2 241 yJ0_checkBoundsBeginEnd_23922, Cond.static yJ0_checkBoundsBeginEnd_23922, Cond.initialized RJ0, Cond.code yJ0_checkBoundsBeginEnd_23922 cJ0_checkBoundsBeginEnd_23922 3 none, Cond.fieldLink RJ0 1053 "jdk/internal/util/Preconditions" "SIOOBE_FORMATTER" "Ljava/util/function/BiFunction;", Cond.methodLink RJ0 1062 yJ3_checkFromToIndex_8c36e, Cond.static yJ3_checkFromToIndex_8c36e, Cond.initialized RJ3, Cond.code yJ3_checkFromToIndex_8c36e cJ3_checkFromToIndex_8c36e 4 (some .int), Cond.methodLink RJ2 244 yJ2_indexOfCharUnsafe_4cfef, Cond.static yJ2_indexOfCharUnsafe_4cfef, Cond.code yJ2_indexOfCharUnsafe_4cfef cJ2_indexOfCharUnsafe_4cfef 5 (some .int), Cond.methodLink RJ2 71 yJ2_getChar_3b067, Cond.static yJ2_getChar_3b067, Cond.code yJ2_getChar_3b067 cJ2_getChar_3b067 2 (some .char), Cond.fieldLink RJ2 44 "java/lang/StringUTF16" "$assertionsDisabled" "Z", Cond.fieldLink RJ2 59 "java/lang/StringUTF16" "HI_BYTE_SHIFT" "I"]
def wsJ2_indexOfChar_4cfef_r2 : List Cond := [Cond.fieldLink RJ2 63 "java/lang/StringUTF16" "LO_BYTE_SHIFT" "I"]
def wsJ2_indexOfChar_4cfef : List Cond := .code yJ2_indexOfChar_4cfef cJ2_indexOfChar_4cfef 4 (some .int) :: ((wsJ2_indexOfChar_4cfef_r1 ++ wsJ2_indexOfChar_4cfef_r2))
def wsJ11_isValidCodePoint_9a6ad : List Cond := .code yJ11_isValidCodePoint_9a6ad cJ11_isValidCodePoint_9a6ad 2 (some .boolean) :: ([])
def wsJ11_highSurrogate_5068e : List Cond := .code yJ11_highSurrogate_5068e cJ11_highSurrogate_5068e 1 (some .char) :: ([.constant RJ11 110 (55232)])
def wsJ11_lowSurrogate_5068e : List Cond := .code yJ11_lowSurrogate_5068e cJ11_lowSurrogate_5068e 1 (some .char) :: ([.constant RJ11 76 (56320)])
def wsJ2_indexOfSupplementary_4cfef_r1 : List Cond := [Cond.methodLink RJ2 164 yJ11_isValidCodePoint_9a6ad, Cond.static yJ11_isValidCodePoint_9a6ad, Cond.initialized RJ11, Cond.code yJ11_isValidCodePoint_9a6ad cJ11_isValidCodePoint_9a6ad 2 (some .boolean), Cond.methodLink RJ2 157 yJ11_highSurrogate_5068e, Cond.static yJ11_highSurrogate_5068e, Cond.code yJ11_highSurrogate_5068e cJ11_highSurrogate_5068e 1 (some .char), Cond.constant RJ11 110 (55232), Cond.methodLink RJ2 161 yJ11_lowSurrogate_5068e, Cond.static yJ11_lowSurrogate_5068e, Cond.code yJ11_lowSurrogate_5068e cJ11_lowSurrogate_5068e 1 (some .char), Cond.constant RJ11 76 (56320), Cond.methodLink RJ2 96 yJ2_checkBoundsBeginEnd_d044e, Cond.static yJ2_checkBoundsBeginEnd_d044e, Cond.initialized RJ2, Cond.code yJ2_checkBoundsBeginEnd_d044e cJ2_checkBoundsBeginEnd_d044e 3 none, Cond.methodLink RJ2 48 yJ2_length_9d52b, Cond.static yJ2_length_9d52b, Cond.code yJ2_length_9d52b cJ2_length_9d52b 1 (some .int), Cond.methodLink RJ2 241 yJ0_checkBoundsBeginEnd_23922, Cond.static yJ0_checkBoundsBeginEnd_23922, Cond.initialized RJ0, Cond.code yJ0_checkBoundsBeginEnd_23922 cJ0_checkBoundsBeginEnd_23922 3 none, Cond.fieldLink RJ0 1053 "jdk/internal/util/Preconditions" "SIOOBE_FORMATTER" "Ljava/util/function/BiFunction;"]
def wsJ2_indexOfSupplementary_4cfef_r2 : List Cond := [Cond.methodLink RJ0 1062 yJ3_checkFromToIndex_8c36e, Cond.static yJ3_checkFromToIndex_8c36e, Cond.initialized RJ3, Cond.code yJ3_checkFromToIndex_8c36e cJ3_checkFromToIndex_8c36e 4 (some .int), Cond.methodLink RJ2 71 yJ2_getChar_3b067, Cond.static yJ2_getChar_3b067, Cond.code yJ2_getChar_3b067 cJ2_getChar_3b067 2 (some .char), Cond.fieldLink RJ2 44 "java/lang/StringUTF16" "$assertionsDisabled" "Z", Cond.fieldLink RJ2 59 "java/lang/StringUTF16" "HI_BYTE_SHIFT" "I", Cond.fieldLink RJ2 63 "java/lang/StringUTF16" "LO_BYTE_SHIFT" "I"]
def wsJ2_indexOfSupplementary_4cfef : List Cond := .code yJ2_indexOfSupplementary_4cfef cJ2_indexOfSupplementary_4cfef 7 (some .int) :: ((wsJ2_indexOfSupplementary_4cfef_r1 ++ wsJ2_indexOfSupplementary_4cfef_r2))
def wsJ2_indexOf_4cfef_r1 : List Cond := [Cond.methodLink RJ2 224 Lib.Math.max.name, Cond.static Lib.Math.max.name, Cond.initialized "java/lang/Math", Cond.code Lib.Math.max.name Lib.Math.max.code 2 (some .int), Cond.methodLink RJ2 183 Lib.Math.min.name, Cond.static Lib.Math.min.name, Cond.code Lib.Math.min.name Lib.Math.min.code 2 (some .int), Cond.constant RJ2 227 (65536), Cond.methodLink RJ2 228 yJ2_indexOfChar_4cfef, Cond.static yJ2_indexOfChar_4cfef, Cond.initialized RJ2, Cond.code yJ2_indexOfChar_4cfef cJ2_indexOfChar_4cfef 4 (some .int), Cond.methodLink RJ2 96 yJ2_checkBoundsBeginEnd_d044e, Cond.static yJ2_checkBoundsBeginEnd_d044e, Cond.code yJ2_checkBoundsBeginEnd_d044e cJ2_checkBoundsBeginEnd_d044e 3 none, Cond.methodLink RJ2 48 yJ2_length_9d52b, Cond.static yJ2_length_9d52b, Cond.code yJ2_length_9d52b cJ2_length_9d52b 1 (some .int), Cond.methodLink RJ2 241 yJ0_checkBoundsBeginEnd_23922, Cond.static yJ0_checkBoundsBeginEnd_23922, Cond.initialized RJ0, Cond.code yJ0_checkBoundsBeginEnd_23922 cJ0_checkBoundsBeginEnd_23922 3 none, Cond.fieldLink RJ0 1053 "jdk/internal/util/Preconditions" "SIOOBE_FORMATTER" "Ljava/util/function/BiFunction;", Cond.methodLink RJ0 1062 yJ3_checkFromToIndex_8c36e]
def wsJ2_indexOf_4cfef_r2 : List Cond := [Cond.static yJ3_checkFromToIndex_8c36e, Cond.initialized RJ3, Cond.code yJ3_checkFromToIndex_8c36e cJ3_checkFromToIndex_8c36e 4 (some .int), Cond.methodLink RJ2 244 yJ2_indexOfCharUnsafe_4cfef, Cond.static yJ2_indexOfCharUnsafe_4cfef, Cond.code yJ2_indexOfCharUnsafe_4cfef cJ2_indexOfCharUnsafe_4cfef 5 (some .int), Cond.methodLink RJ2 71 yJ2_getChar_3b067, Cond.static yJ2_getChar_3b067, Cond.code yJ2_getChar_3b067 cJ2_getChar_3b067 2 (some .char), Cond.fieldLink RJ2 44 "java/lang/StringUTF16" "$assertionsDisabled" "Z", Cond.fieldLink RJ2 59 "java/lang/StringUTF16" "HI_BYTE_SHIFT" "I", Cond.fieldLink RJ2 63 "java/lang/StringUTF16" "LO_BYTE_SHIFT" "I", Cond.methodLink RJ2 232 yJ2_indexOfSupplementary_4cfef, Cond.static yJ2_indexOfSupplementary_4cfef, Cond.code yJ2_indexOfSupplementary_4cfef cJ2_indexOfSupplementary_4cfef 7 (some .int), Cond.methodLink RJ2 164 yJ11_isValidCodePoint_9a6ad, Cond.static yJ11_isValidCodePoint_9a6ad, Cond.initialized RJ11, Cond.code yJ11_isValidCodePoint_9a6ad cJ11_isValidCodePoint_9a6ad 2 (some .boolean), Cond.methodLink RJ2 157 yJ11_highSurrogate_5068e, Cond.static yJ11_highSurrogate_5068e, Cond.code yJ11_highSurrogate_5068e cJ11_highSurrogate_5068e 1 (some .char), Cond.constant RJ11 110 (55232), Cond.methodLink RJ2 161 yJ11_lowSurrogate_5068e]
def wsJ2_indexOf_4cfef_r3 : List Cond := [Cond.static yJ11_lowSurrogate_5068e, Cond.code yJ11_lowSurrogate_5068e cJ11_lowSurrogate_5068e 1 (some .char), Cond.constant RJ11 76 (56320)]
def wsJ2_indexOf_4cfef : List Cond := .code yJ2_indexOf_4cfef cJ2_indexOf_4cfef 4 (some .int) :: ((wsJ2_indexOf_4cfef_r1 ++ (wsJ2_indexOf_4cfef_r2 ++ wsJ2_indexOf_4cfef_r3)))
def wsJ0_indexOf_7cf53_r1 : List Cond := [Cond.fieldLink RJ0 9 "java/lang/String" "value" "[B", Cond.methodLink RJ0 492 yJ0_isLatin1_aae02, Cond.instanceMethod yJ0_isLatin1_aae02, Cond.selects RJ0 yJ0_isLatin1_aae02 yJ0_isLatin1_aae02, Cond.initialized RJ0, Cond.code yJ0_isLatin1_aae02 cJ0_isLatin1_aae02 1 (some .boolean), Cond.fieldLink RJ0 38 "java/lang/String" "COMPACT_STRINGS" "Z", Cond.fieldLink RJ0 15 "java/lang/String" "coder" "B", Cond.methodLink RJ0 505 yJ0_length_8abf5, Cond.instanceMethod yJ0_length_8abf5, Cond.selects RJ0 yJ0_length_8abf5 yJ0_length_8abf5, Cond.code yJ0_length_8abf5 cJ0_length_8abf5 1 (some .int), Cond.methodLink RJ0 335 yJ0_coder_7d493, Cond.instanceMethod yJ0_coder_7d493, Cond.selects RJ0 yJ0_coder_7d493 yJ0_coder_7d493, Cond.code yJ0_coder_7d493 cJ0_coder_7d493 1 (some .byte), Cond.methodLink RJ0 637 yJ1_indexOf_4cfef, Cond.static yJ1_indexOf_4cfef, Cond.initialized RJ1, Cond.code yJ1_indexOf_4cfef cJ1_indexOf_4cfef 4 (some .int), Cond.methodLink RJ1 92 Lib.Math.max.name, Cond.static Lib.Math.max.name, Cond.initialized "java/lang/Math", Cond.code Lib.Math.max.name Lib.Math.max.code 2 (some .int)]
def wsJ0_indexOf_7cf53_r2 : List Cond := [Cond.methodLink RJ1 38 Lib.Math.min.name, Cond.static Lib.Math.min.name, Cond.code Lib.Math.min.name Lib.Math.min.code 2 (some .int), Cond.methodLink RJ1 88 yJ1_canEncode_9a6ad, Cond.static yJ1_canEncode_9a6ad, Cond.code yJ1_canEncode_9a6ad cJ1_canEncode_9a6ad 1 (some .boolean), Cond.methodLink RJ1 95 yJ1_indexOfChar_4cfef, Cond.static yJ1_indexOfChar_4cfef, Cond.code yJ1_indexOfChar_4cfef cJ1_indexOfChar_4cfef 6 (some .int), Cond.methodLink RJ0 640 yJ2_indexOf_4cfef, Cond.static yJ2_indexOf_4cfef, Cond.initialized RJ2, Cond.code yJ2_indexOf_4cfef cJ2_indexOf_4cfef 4 (some .int), Cond.methodLink RJ2 224 Lib.Math.max.name, Cond.methodLink RJ2 183 Lib.Math.min.name, Cond.constant RJ2 227 (65536), Cond.methodLink RJ2 228 yJ2_indexOfChar_4cfef, Cond.static yJ2_indexOfChar_4cfef, Cond.code yJ2_indexOfChar_4cfef cJ2_indexOfChar_4cfef 4 (some .int), Cond.methodLink RJ2 96 yJ2_checkBoundsBeginEnd_d044e, Cond.static yJ2_checkBoundsBeginEnd_d044e, Cond.code yJ2_checkBoundsBeginEnd_d044e cJ2_checkBoundsBeginEnd_d044e 3 none, Cond.methodLink RJ2 48 yJ2_length_9d52b, Cond.static yJ2_length_9d52b]
def wsJ0_indexOf_7cf53_r3 : List Cond := [Cond.code yJ2_length_9d52b cJ2_length_9d52b 1 (some .int), Cond.methodLink RJ2 241 yJ0_checkBoundsBeginEnd_23922, Cond.static yJ0_checkBoundsBeginEnd_23922, Cond.code yJ0_checkBoundsBeginEnd_23922 cJ0_checkBoundsBeginEnd_23922 3 none, Cond.fieldLink RJ0 1053 "jdk/internal/util/Preconditions" "SIOOBE_FORMATTER" "Ljava/util/function/BiFunction;", Cond.methodLink RJ0 1062 yJ3_checkFromToIndex_8c36e, Cond.static yJ3_checkFromToIndex_8c36e, Cond.initialized RJ3, Cond.code yJ3_checkFromToIndex_8c36e cJ3_checkFromToIndex_8c36e 4 (some .int), Cond.methodLink RJ2 244 yJ2_indexOfCharUnsafe_4cfef, Cond.static yJ2_indexOfCharUnsafe_4cfef, Cond.code yJ2_indexOfCharUnsafe_4cfef cJ2_indexOfCharUnsafe_4cfef 5 (some .int), Cond.methodLink RJ2 71 yJ2_getChar_3b067, Cond.static yJ2_getChar_3b067, Cond.code yJ2_getChar_3b067 cJ2_getChar_3b067 2 (some .char), Cond.fieldLink RJ2 44 "java/lang/StringUTF16" "$assertionsDisabled" "Z", Cond.fieldLink RJ2 59 "java/lang/StringUTF16" "HI_BYTE_SHIFT" "I", Cond.fieldLink RJ2 63 "java/lang/StringUTF16" "LO_BYTE_SHIFT" "I", Cond.methodLink RJ2 232 yJ2_indexOfSupplementary_4cfef, Cond.static yJ2_indexOfSupplementary_4cfef, Cond.code yJ2_indexOfSupplementary_4cfef cJ2_indexOfSupplementary_4cfef 7 (some .int), Cond.methodLink RJ2 164 yJ11_isValidCodePoint_9a6ad, Cond.static yJ11_isValidCodePoint_9a6ad, Cond.initialized RJ11]
def wsJ0_indexOf_7cf53_r4 : List Cond := [Cond.code yJ11_isValidCodePoint_9a6ad cJ11_isValidCodePoint_9a6ad 2 (some .boolean), Cond.methodLink RJ2 157 yJ11_highSurrogate_5068e, Cond.static yJ11_highSurrogate_5068e, Cond.code yJ11_highSurrogate_5068e cJ11_highSurrogate_5068e 1 (some .char), Cond.constant RJ11 110 (55232), Cond.methodLink RJ2 161 yJ11_lowSurrogate_5068e, Cond.static yJ11_lowSurrogate_5068e, Cond.code yJ11_lowSurrogate_5068e cJ11_lowSurrogate_5068e 1 (some .char), Cond.constant RJ11 76 (56320)]
def wsJ0_indexOf_7cf53 : List Cond := .code yJ0_indexOf_7cf53 cJ0_indexOf_7cf53 3 (some .int) :: ((wsJ0_indexOf_7cf53_r1 ++ (wsJ0_indexOf_7cf53_r2 ++ (wsJ0_indexOf_7cf53_r3 ++ wsJ0_indexOf_7cf53_r4))))
def wsJ0_indexOf_0f7a4_r1 : List Cond := [Cond.methodLink RJ0 633 yJ0_indexOf_7cf53, Cond.instanceMethod yJ0_indexOf_7cf53, Cond.selects RJ0 yJ0_indexOf_7cf53 yJ0_indexOf_7cf53, Cond.initialized RJ0, Cond.code yJ0_indexOf_7cf53 cJ0_indexOf_7cf53 3 (some .int), Cond.fieldLink RJ0 9 "java/lang/String" "value" "[B", Cond.methodLink RJ0 492 yJ0_isLatin1_aae02, Cond.instanceMethod yJ0_isLatin1_aae02, Cond.selects RJ0 yJ0_isLatin1_aae02 yJ0_isLatin1_aae02, Cond.code yJ0_isLatin1_aae02 cJ0_isLatin1_aae02 1 (some .boolean), Cond.fieldLink RJ0 38 "java/lang/String" "COMPACT_STRINGS" "Z", Cond.fieldLink RJ0 15 "java/lang/String" "coder" "B", Cond.methodLink RJ0 505 yJ0_length_8abf5, Cond.instanceMethod yJ0_length_8abf5, Cond.selects RJ0 yJ0_length_8abf5 yJ0_length_8abf5, Cond.code yJ0_length_8abf5 cJ0_length_8abf5 1 (some .int), Cond.methodLink RJ0 335 yJ0_coder_7d493, Cond.instanceMethod yJ0_coder_7d493, Cond.selects RJ0 yJ0_coder_7d493 yJ0_coder_7d493, Cond.code yJ0_coder_7d493 cJ0_coder_7d493 1 (some .byte), Cond.methodLink RJ0 637 yJ1_indexOf_4cfef, Cond.static yJ1_indexOf_4cfef, Cond.initialized RJ1, Cond.code yJ1_indexOf_4cfef cJ1_indexOf_4cfef 4 (some .int)]
def wsJ0_indexOf_0f7a4_r2 : List Cond := [Cond.methodLink RJ1 92 Lib.Math.max.name, Cond.static Lib.Math.max.name, Cond.initialized "java/lang/Math", Cond.code Lib.Math.max.name Lib.Math.max.code 2 (some .int), Cond.methodLink RJ1 38 Lib.Math.min.name, Cond.static Lib.Math.min.name, Cond.code Lib.Math.min.name Lib.Math.min.code 2 (some .int), Cond.methodLink RJ1 88 yJ1_canEncode_9a6ad, Cond.static yJ1_canEncode_9a6ad, Cond.code yJ1_canEncode_9a6ad cJ1_canEncode_9a6ad 1 (some .boolean), Cond.methodLink RJ1 95 yJ1_indexOfChar_4cfef, Cond.static yJ1_indexOfChar_4cfef, Cond.code yJ1_indexOfChar_4cfef cJ1_indexOfChar_4cfef 6 (some .int), Cond.methodLink RJ0 640 yJ2_indexOf_4cfef, Cond.static yJ2_indexOf_4cfef, Cond.initialized RJ2, Cond.code yJ2_indexOf_4cfef cJ2_indexOf_4cfef 4 (some .int), Cond.methodLink RJ2 224 Lib.Math.max.name, Cond.methodLink RJ2 183 Lib.Math.min.name, Cond.constant RJ2 227 (65536), Cond.methodLink RJ2 228 yJ2_indexOfChar_4cfef, Cond.static yJ2_indexOfChar_4cfef, Cond.code yJ2_indexOfChar_4cfef cJ2_indexOfChar_4cfef 4 (some .int), Cond.methodLink RJ2 96 yJ2_checkBoundsBeginEnd_d044e]
def wsJ0_indexOf_0f7a4_r3 : List Cond := [Cond.static yJ2_checkBoundsBeginEnd_d044e, Cond.code yJ2_checkBoundsBeginEnd_d044e cJ2_checkBoundsBeginEnd_d044e 3 none, Cond.methodLink RJ2 48 yJ2_length_9d52b, Cond.static yJ2_length_9d52b, Cond.code yJ2_length_9d52b cJ2_length_9d52b 1 (some .int), Cond.methodLink RJ2 241 yJ0_checkBoundsBeginEnd_23922, Cond.static yJ0_checkBoundsBeginEnd_23922, Cond.code yJ0_checkBoundsBeginEnd_23922 cJ0_checkBoundsBeginEnd_23922 3 none, Cond.fieldLink RJ0 1053 "jdk/internal/util/Preconditions" "SIOOBE_FORMATTER" "Ljava/util/function/BiFunction;", Cond.methodLink RJ0 1062 yJ3_checkFromToIndex_8c36e, Cond.static yJ3_checkFromToIndex_8c36e, Cond.initialized RJ3, Cond.code yJ3_checkFromToIndex_8c36e cJ3_checkFromToIndex_8c36e 4 (some .int), Cond.methodLink RJ2 244 yJ2_indexOfCharUnsafe_4cfef, Cond.static yJ2_indexOfCharUnsafe_4cfef, Cond.code yJ2_indexOfCharUnsafe_4cfef cJ2_indexOfCharUnsafe_4cfef 5 (some .int), Cond.methodLink RJ2 71 yJ2_getChar_3b067, Cond.static yJ2_getChar_3b067, Cond.code yJ2_getChar_3b067 cJ2_getChar_3b067 2 (some .char), Cond.fieldLink RJ2 44 "java/lang/StringUTF16" "$assertionsDisabled" "Z", Cond.fieldLink RJ2 59 "java/lang/StringUTF16" "HI_BYTE_SHIFT" "I", Cond.fieldLink RJ2 63 "java/lang/StringUTF16" "LO_BYTE_SHIFT" "I", Cond.methodLink RJ2 232 yJ2_indexOfSupplementary_4cfef, Cond.static yJ2_indexOfSupplementary_4cfef]
def wsJ0_indexOf_0f7a4_r4 : List Cond := [Cond.code yJ2_indexOfSupplementary_4cfef cJ2_indexOfSupplementary_4cfef 7 (some .int), Cond.methodLink RJ2 164 yJ11_isValidCodePoint_9a6ad, Cond.static yJ11_isValidCodePoint_9a6ad, Cond.initialized RJ11, Cond.code yJ11_isValidCodePoint_9a6ad cJ11_isValidCodePoint_9a6ad 2 (some .boolean), Cond.methodLink RJ2 157 yJ11_highSurrogate_5068e, Cond.static yJ11_highSurrogate_5068e, Cond.code yJ11_highSurrogate_5068e cJ11_highSurrogate_5068e 1 (some .char), Cond.constant RJ11 110 (55232), Cond.methodLink RJ2 161 yJ11_lowSurrogate_5068e, Cond.static yJ11_lowSurrogate_5068e, Cond.code yJ11_lowSurrogate_5068e cJ11_lowSurrogate_5068e 1 (some .char), Cond.constant RJ11 76 (56320)]
def wsJ0_indexOf_0f7a4 : List Cond := .code yJ0_indexOf_0f7a4 cJ0_indexOf_0f7a4 2 (some .int) :: ((wsJ0_indexOf_0f7a4_r1 ++ (wsJ0_indexOf_0f7a4_r2 ++ (wsJ0_indexOf_0f7a4_r3 ++ wsJ0_indexOf_0f7a4_r4))))
def wsX0_kindAt_r1 : List Cond := [Cond.methodLink RX0 27 yX0_codeAt, Cond.instanceMethod yX0_codeAt, Cond.selects RX0 yX0_codeAt yX0_codeAt, Cond.initialized RX0, Cond.code yX0_codeAt cX0_codeAt 2 (some .int), Cond.fieldLink RX0 9 "SnowTerm$Page" "codes" "[I", Cond.methodLink RX0 51 yJ0_indexOf_0f7a4, Cond.instanceMethod yJ0_indexOf_0f7a4, Cond.selects RJ0 yJ0_indexOf_0f7a4 yJ0_indexOf_0f7a4, Cond.initialized RJ0, Cond.code yJ0_indexOf_0f7a4 cJ0_indexOf_0f7a4 2 (some .int), Cond.methodLink RJ0 633 yJ0_indexOf_7cf53, Cond.instanceMethod yJ0_indexOf_7cf53, Cond.selects RJ0 yJ0_indexOf_7cf53 yJ0_indexOf_7cf53, Cond.code yJ0_indexOf_7cf53 cJ0_indexOf_7cf53 3 (some .int), Cond.fieldLink RJ0 9 "java/lang/String" "value" "[B", Cond.methodLink RJ0 492 yJ0_isLatin1_aae02, Cond.instanceMethod yJ0_isLatin1_aae02, Cond.selects RJ0 yJ0_isLatin1_aae02 yJ0_isLatin1_aae02, Cond.code yJ0_isLatin1_aae02 cJ0_isLatin1_aae02 1 (some .boolean), Cond.fieldLink RJ0 38 "java/lang/String" "COMPACT_STRINGS" "Z", Cond.fieldLink RJ0 15 "java/lang/String" "coder" "B", Cond.methodLink RJ0 505 yJ0_length_8abf5, Cond.instanceMethod yJ0_length_8abf5]
def wsX0_kindAt_r2 : List Cond := [Cond.selects RJ0 yJ0_length_8abf5 yJ0_length_8abf5, Cond.code yJ0_length_8abf5 cJ0_length_8abf5 1 (some .int), Cond.methodLink RJ0 335 yJ0_coder_7d493, Cond.instanceMethod yJ0_coder_7d493, Cond.selects RJ0 yJ0_coder_7d493 yJ0_coder_7d493, Cond.code yJ0_coder_7d493 cJ0_coder_7d493 1 (some .byte), Cond.methodLink RJ0 637 yJ1_indexOf_4cfef, Cond.static yJ1_indexOf_4cfef, Cond.initialized RJ1, Cond.code yJ1_indexOf_4cfef cJ1_indexOf_4cfef 4 (some .int), Cond.methodLink RJ1 92 Lib.Math.max.name, Cond.static Lib.Math.max.name, Cond.initialized "java/lang/Math", Cond.code Lib.Math.max.name Lib.Math.max.code 2 (some .int), Cond.methodLink RJ1 38 Lib.Math.min.name, Cond.static Lib.Math.min.name, Cond.code Lib.Math.min.name Lib.Math.min.code 2 (some .int), Cond.methodLink RJ1 88 yJ1_canEncode_9a6ad, Cond.static yJ1_canEncode_9a6ad, Cond.code yJ1_canEncode_9a6ad cJ1_canEncode_9a6ad 1 (some .boolean), Cond.methodLink RJ1 95 yJ1_indexOfChar_4cfef, Cond.static yJ1_indexOfChar_4cfef, Cond.code yJ1_indexOfChar_4cfef cJ1_indexOfChar_4cfef 6 (some .int), Cond.methodLink RJ0 640 yJ2_indexOf_4cfef]
def wsX0_kindAt_r3 : List Cond := [Cond.static yJ2_indexOf_4cfef, Cond.initialized RJ2, Cond.code yJ2_indexOf_4cfef cJ2_indexOf_4cfef 4 (some .int), Cond.methodLink RJ2 224 Lib.Math.max.name, Cond.methodLink RJ2 183 Lib.Math.min.name, Cond.constant RJ2 227 (65536), Cond.methodLink RJ2 228 yJ2_indexOfChar_4cfef, Cond.static yJ2_indexOfChar_4cfef, Cond.code yJ2_indexOfChar_4cfef cJ2_indexOfChar_4cfef 4 (some .int), Cond.methodLink RJ2 96 yJ2_checkBoundsBeginEnd_d044e, Cond.static yJ2_checkBoundsBeginEnd_d044e, Cond.code yJ2_checkBoundsBeginEnd_d044e cJ2_checkBoundsBeginEnd_d044e 3 none, Cond.methodLink RJ2 48 yJ2_length_9d52b, Cond.static yJ2_length_9d52b, Cond.code yJ2_length_9d52b cJ2_length_9d52b 1 (some .int), Cond.methodLink RJ2 241 yJ0_checkBoundsBeginEnd_23922, Cond.static yJ0_checkBoundsBeginEnd_23922, Cond.code yJ0_checkBoundsBeginEnd_23922 cJ0_checkBoundsBeginEnd_23922 3 none, Cond.fieldLink RJ0 1053 "jdk/internal/util/Preconditions" "SIOOBE_FORMATTER" "Ljava/util/function/BiFunction;", Cond.methodLink RJ0 1062 yJ3_checkFromToIndex_8c36e, Cond.static yJ3_checkFromToIndex_8c36e, Cond.initialized RJ3, Cond.code yJ3_checkFromToIndex_8c36e cJ3_checkFromToIndex_8c36e 4 (some .int), Cond.methodLink RJ2 244 yJ2_indexOfCharUnsafe_4cfef]
def wsX0_kindAt_r4 : List Cond := [Cond.static yJ2_indexOfCharUnsafe_4cfef, Cond.code yJ2_indexOfCharUnsafe_4cfef cJ2_indexOfCharUnsafe_4cfef 5 (some .int), Cond.methodLink RJ2 71 yJ2_getChar_3b067, Cond.static yJ2_getChar_3b067, Cond.code yJ2_getChar_3b067 cJ2_getChar_3b067 2 (some .char), Cond.fieldLink RJ2 44 "java/lang/StringUTF16" "$assertionsDisabled" "Z", Cond.fieldLink RJ2 59 "java/lang/StringUTF16" "HI_BYTE_SHIFT" "I", Cond.fieldLink RJ2 63 "java/lang/StringUTF16" "LO_BYTE_SHIFT" "I", Cond.methodLink RJ2 232 yJ2_indexOfSupplementary_4cfef, Cond.static yJ2_indexOfSupplementary_4cfef, Cond.code yJ2_indexOfSupplementary_4cfef cJ2_indexOfSupplementary_4cfef 7 (some .int), Cond.methodLink RJ2 164 yJ11_isValidCodePoint_9a6ad, Cond.static yJ11_isValidCodePoint_9a6ad, Cond.initialized RJ11, Cond.code yJ11_isValidCodePoint_9a6ad cJ11_isValidCodePoint_9a6ad 2 (some .boolean), Cond.methodLink RJ2 157 yJ11_highSurrogate_5068e, Cond.static yJ11_highSurrogate_5068e, Cond.code yJ11_highSurrogate_5068e cJ11_highSurrogate_5068e 1 (some .char), Cond.constant RJ11 110 (55232), Cond.methodLink RJ2 161 yJ11_lowSurrogate_5068e, Cond.static yJ11_lowSurrogate_5068e, Cond.code yJ11_lowSurrogate_5068e cJ11_lowSurrogate_5068e 1 (some .char), Cond.constant RJ11 76 (56320)]
def wsX0_kindAt : List Cond := .code yX0_kindAt cX0_kindAt 2 (some .int) :: ((wsX0_kindAt_r1 ++ (wsX0_kindAt_r2 ++ (wsX0_kindAt_r3 ++ wsX0_kindAt_r4))) ++ wsX00)
def wsX2_isWithin : List Cond := .code yX2_isWithin cX2_isWithin 3 (some .boolean) :: ([])
def wsX0_isDigitFrom : List Cond := .code yX0_isDigitFrom cX0_isDigitFrom 3 (some .boolean) :: ([.methodLink RX0 27 yX0_codeAt, .instanceMethod yX0_codeAt, .selects RX0 yX0_codeAt yX0_codeAt, .initialized RX0, .code yX0_codeAt cX0_codeAt 2 (some .int), .fieldLink RX0 9 "SnowTerm$Page" "codes" "[I", .static yX2_isWithin, .initialized RX2, .code yX2_isWithin cX2_isWithin 3 (some .boolean)] ++ wsX00)
def wsX0_fitsBehindSites : List Cond := .code yX0_fitsBehindSites cX0_fitsBehindSites 4 (some .boolean) :: ([.methodLink RX0 27 yX0_codeAt, .instanceMethod yX0_codeAt, .selects RX0 yX0_codeAt yX0_codeAt, .initialized RX0, .code yX0_codeAt cX0_codeAt 2 (some .int), .fieldLink RX0 9 "SnowTerm$Page" "codes" "[I"] ++ wsX00)
def wsX0_fitsAmongSites_r1 : List Cond := [Cond.methodLink RX0 35 yX0_kindAt, Cond.instanceMethod yX0_kindAt, Cond.selects RX0 yX0_kindAt yX0_kindAt, Cond.initialized RX0, Cond.code yX0_kindAt cX0_kindAt 2 (some .int), Cond.methodLink RX0 27 yX0_codeAt, Cond.instanceMethod yX0_codeAt, Cond.selects RX0 yX0_codeAt yX0_codeAt, Cond.code yX0_codeAt cX0_codeAt 2 (some .int), Cond.fieldLink RX0 9 "SnowTerm$Page" "codes" "[I", Cond.methodLink RX0 51 yJ0_indexOf_0f7a4, Cond.instanceMethod yJ0_indexOf_0f7a4, Cond.selects RJ0 yJ0_indexOf_0f7a4 yJ0_indexOf_0f7a4, Cond.initialized RJ0, Cond.code yJ0_indexOf_0f7a4 cJ0_indexOf_0f7a4 2 (some .int), Cond.methodLink RJ0 633 yJ0_indexOf_7cf53, Cond.instanceMethod yJ0_indexOf_7cf53, Cond.selects RJ0 yJ0_indexOf_7cf53 yJ0_indexOf_7cf53, Cond.code yJ0_indexOf_7cf53 cJ0_indexOf_7cf53 3 (some .int), Cond.fieldLink RJ0 9 "java/lang/String" "value" "[B", Cond.methodLink RJ0 492 yJ0_isLatin1_aae02, Cond.instanceMethod yJ0_isLatin1_aae02, Cond.selects RJ0 yJ0_isLatin1_aae02 yJ0_isLatin1_aae02, Cond.code yJ0_isLatin1_aae02 cJ0_isLatin1_aae02 1 (some .boolean)]
def wsX0_fitsAmongSites_r2 : List Cond := [Cond.fieldLink RJ0 38 "java/lang/String" "COMPACT_STRINGS" "Z", Cond.fieldLink RJ0 15 "java/lang/String" "coder" "B", Cond.methodLink RJ0 505 yJ0_length_8abf5, Cond.instanceMethod yJ0_length_8abf5, Cond.selects RJ0 yJ0_length_8abf5 yJ0_length_8abf5, Cond.code yJ0_length_8abf5 cJ0_length_8abf5 1 (some .int), Cond.methodLink RJ0 335 yJ0_coder_7d493, Cond.instanceMethod yJ0_coder_7d493, Cond.selects RJ0 yJ0_coder_7d493 yJ0_coder_7d493, Cond.code yJ0_coder_7d493 cJ0_coder_7d493 1 (some .byte), Cond.methodLink RJ0 637 yJ1_indexOf_4cfef, Cond.static yJ1_indexOf_4cfef, Cond.initialized RJ1, Cond.code yJ1_indexOf_4cfef cJ1_indexOf_4cfef 4 (some .int), Cond.methodLink RJ1 92 Lib.Math.max.name, Cond.static Lib.Math.max.name, Cond.initialized "java/lang/Math", Cond.code Lib.Math.max.name Lib.Math.max.code 2 (some .int), Cond.methodLink RJ1 38 Lib.Math.min.name, Cond.static Lib.Math.min.name, Cond.code Lib.Math.min.name Lib.Math.min.code 2 (some .int), Cond.methodLink RJ1 88 yJ1_canEncode_9a6ad, Cond.static yJ1_canEncode_9a6ad, Cond.code yJ1_canEncode_9a6ad cJ1_canEncode_9a6ad 1 (some .boolean)]
def wsX0_fitsAmongSites_r3 : List Cond := [Cond.methodLink RJ1 95 yJ1_indexOfChar_4cfef, Cond.static yJ1_indexOfChar_4cfef, Cond.code yJ1_indexOfChar_4cfef cJ1_indexOfChar_4cfef 6 (some .int), Cond.methodLink RJ0 640 yJ2_indexOf_4cfef, Cond.static yJ2_indexOf_4cfef, Cond.initialized RJ2, Cond.code yJ2_indexOf_4cfef cJ2_indexOf_4cfef 4 (some .int), Cond.methodLink RJ2 224 Lib.Math.max.name, Cond.methodLink RJ2 183 Lib.Math.min.name, Cond.constant RJ2 227 (65536), Cond.methodLink RJ2 228 yJ2_indexOfChar_4cfef, Cond.static yJ2_indexOfChar_4cfef, Cond.code yJ2_indexOfChar_4cfef cJ2_indexOfChar_4cfef 4 (some .int), Cond.methodLink RJ2 96 yJ2_checkBoundsBeginEnd_d044e, Cond.static yJ2_checkBoundsBeginEnd_d044e, Cond.code yJ2_checkBoundsBeginEnd_d044e cJ2_checkBoundsBeginEnd_d044e 3 none, Cond.methodLink RJ2 48 yJ2_length_9d52b, Cond.static yJ2_length_9d52b, Cond.code yJ2_length_9d52b cJ2_length_9d52b 1 (some .int), Cond.methodLink RJ2 241 yJ0_checkBoundsBeginEnd_23922, Cond.static yJ0_checkBoundsBeginEnd_23922, Cond.code yJ0_checkBoundsBeginEnd_23922 cJ0_checkBoundsBeginEnd_23922 3 none, Cond.fieldLink RJ0 1053 "jdk/internal/util/Preconditions" "SIOOBE_FORMATTER" "Ljava/util/function/BiFunction;", Cond.methodLink RJ0 1062 yJ3_checkFromToIndex_8c36e]
def wsX0_fitsAmongSites_r4 : List Cond := [Cond.static yJ3_checkFromToIndex_8c36e, Cond.initialized RJ3, Cond.code yJ3_checkFromToIndex_8c36e cJ3_checkFromToIndex_8c36e 4 (some .int), Cond.methodLink RJ2 244 yJ2_indexOfCharUnsafe_4cfef, Cond.static yJ2_indexOfCharUnsafe_4cfef, Cond.code yJ2_indexOfCharUnsafe_4cfef cJ2_indexOfCharUnsafe_4cfef 5 (some .int), Cond.methodLink RJ2 71 yJ2_getChar_3b067, Cond.static yJ2_getChar_3b067, Cond.code yJ2_getChar_3b067 cJ2_getChar_3b067 2 (some .char), Cond.fieldLink RJ2 44 "java/lang/StringUTF16" "$assertionsDisabled" "Z", Cond.fieldLink RJ2 59 "java/lang/StringUTF16" "HI_BYTE_SHIFT" "I", Cond.fieldLink RJ2 63 "java/lang/StringUTF16" "LO_BYTE_SHIFT" "I", Cond.methodLink RJ2 232 yJ2_indexOfSupplementary_4cfef, Cond.static yJ2_indexOfSupplementary_4cfef, Cond.code yJ2_indexOfSupplementary_4cfef cJ2_indexOfSupplementary_4cfef 7 (some .int), Cond.methodLink RJ2 164 yJ11_isValidCodePoint_9a6ad, Cond.static yJ11_isValidCodePoint_9a6ad, Cond.initialized RJ11, Cond.code yJ11_isValidCodePoint_9a6ad cJ11_isValidCodePoint_9a6ad 2 (some .boolean), Cond.methodLink RJ2 157 yJ11_highSurrogate_5068e, Cond.static yJ11_highSurrogate_5068e, Cond.code yJ11_highSurrogate_5068e cJ11_highSurrogate_5068e 1 (some .char), Cond.constant RJ11 110 (55232), Cond.methodLink RJ2 161 yJ11_lowSurrogate_5068e]
def wsX0_fitsAmongSites_r5 : List Cond := [Cond.static yJ11_lowSurrogate_5068e, Cond.code yJ11_lowSurrogate_5068e cJ11_lowSurrogate_5068e 1 (some .char), Cond.constant RJ11 76 (56320), Cond.methodLink RX0 23 yX0_isDigitFrom, Cond.instanceMethod yX0_isDigitFrom, Cond.selects RX0 yX0_isDigitFrom yX0_isDigitFrom, Cond.code yX0_isDigitFrom cX0_isDigitFrom 3 (some .boolean), Cond.static yX2_isWithin, Cond.initialized RX2, Cond.code yX2_isWithin cX2_isWithin 3 (some .boolean), Cond.methodLink RX0 41 yX0_fitsBehindSites, Cond.instanceMethod yX0_fitsBehindSites, Cond.selects RX0 yX0_fitsBehindSites yX0_fitsBehindSites, Cond.code yX0_fitsBehindSites cX0_fitsBehindSites 4 (some .boolean)]
def wsX0_fitsAmongSites : List Cond := .code yX0_fitsAmongSites cX0_fitsAmongSites 2 (some .boolean) :: ((wsX0_fitsAmongSites_r1 ++ (wsX0_fitsAmongSites_r2 ++ (wsX0_fitsAmongSites_r3 ++ (wsX0_fitsAmongSites_r4 ++ wsX0_fitsAmongSites_r5)))) ++ wsX00)
def wsX0_faultPlace_r1 : List Cond := [Cond.fieldLink RX0 15 "SnowTerm$Page" "size" "I", Cond.methodLink RX0 19 yX0_fitsAmongSites, Cond.instanceMethod yX0_fitsAmongSites, Cond.selects RX0 yX0_fitsAmongSites yX0_fitsAmongSites, Cond.initialized RX0, Cond.code yX0_fitsAmongSites cX0_fitsAmongSites 2 (some .boolean), Cond.methodLink RX0 35 yX0_kindAt, Cond.instanceMethod yX0_kindAt, Cond.selects RX0 yX0_kindAt yX0_kindAt, Cond.code yX0_kindAt cX0_kindAt 2 (some .int), Cond.methodLink RX0 27 yX0_codeAt, Cond.instanceMethod yX0_codeAt, Cond.selects RX0 yX0_codeAt yX0_codeAt, Cond.code yX0_codeAt cX0_codeAt 2 (some .int), Cond.fieldLink RX0 9 "SnowTerm$Page" "codes" "[I", Cond.methodLink RX0 51 yJ0_indexOf_0f7a4, Cond.instanceMethod yJ0_indexOf_0f7a4, Cond.selects RJ0 yJ0_indexOf_0f7a4 yJ0_indexOf_0f7a4, Cond.initialized RJ0, Cond.code yJ0_indexOf_0f7a4 cJ0_indexOf_0f7a4 2 (some .int), Cond.methodLink RJ0 633 yJ0_indexOf_7cf53, Cond.instanceMethod yJ0_indexOf_7cf53, Cond.selects RJ0 yJ0_indexOf_7cf53 yJ0_indexOf_7cf53, Cond.code yJ0_indexOf_7cf53 cJ0_indexOf_7cf53 3 (some .int)]
def wsX0_faultPlace_r2 : List Cond := [Cond.fieldLink RJ0 9 "java/lang/String" "value" "[B", Cond.methodLink RJ0 492 yJ0_isLatin1_aae02, Cond.instanceMethod yJ0_isLatin1_aae02, Cond.selects RJ0 yJ0_isLatin1_aae02 yJ0_isLatin1_aae02, Cond.code yJ0_isLatin1_aae02 cJ0_isLatin1_aae02 1 (some .boolean), Cond.fieldLink RJ0 38 "java/lang/String" "COMPACT_STRINGS" "Z", Cond.fieldLink RJ0 15 "java/lang/String" "coder" "B", Cond.methodLink RJ0 505 yJ0_length_8abf5, Cond.instanceMethod yJ0_length_8abf5, Cond.selects RJ0 yJ0_length_8abf5 yJ0_length_8abf5, Cond.code yJ0_length_8abf5 cJ0_length_8abf5 1 (some .int), Cond.methodLink RJ0 335 yJ0_coder_7d493, Cond.instanceMethod yJ0_coder_7d493, Cond.selects RJ0 yJ0_coder_7d493 yJ0_coder_7d493, Cond.code yJ0_coder_7d493 cJ0_coder_7d493 1 (some .byte), Cond.methodLink RJ0 637 yJ1_indexOf_4cfef, Cond.static yJ1_indexOf_4cfef, Cond.initialized RJ1, Cond.code yJ1_indexOf_4cfef cJ1_indexOf_4cfef 4 (some .int), Cond.methodLink RJ1 92 Lib.Math.max.name, Cond.static Lib.Math.max.name, Cond.initialized "java/lang/Math", Cond.code Lib.Math.max.name Lib.Math.max.code 2 (some .int), Cond.methodLink RJ1 38 Lib.Math.min.name]
def wsX0_faultPlace_r3 : List Cond := [Cond.static Lib.Math.min.name, Cond.code Lib.Math.min.name Lib.Math.min.code 2 (some .int), Cond.methodLink RJ1 88 yJ1_canEncode_9a6ad, Cond.static yJ1_canEncode_9a6ad, Cond.code yJ1_canEncode_9a6ad cJ1_canEncode_9a6ad 1 (some .boolean), Cond.methodLink RJ1 95 yJ1_indexOfChar_4cfef, Cond.static yJ1_indexOfChar_4cfef, Cond.code yJ1_indexOfChar_4cfef cJ1_indexOfChar_4cfef 6 (some .int), Cond.methodLink RJ0 640 yJ2_indexOf_4cfef, Cond.static yJ2_indexOf_4cfef, Cond.initialized RJ2, Cond.code yJ2_indexOf_4cfef cJ2_indexOf_4cfef 4 (some .int), Cond.methodLink RJ2 224 Lib.Math.max.name, Cond.methodLink RJ2 183 Lib.Math.min.name, Cond.constant RJ2 227 (65536), Cond.methodLink RJ2 228 yJ2_indexOfChar_4cfef, Cond.static yJ2_indexOfChar_4cfef, Cond.code yJ2_indexOfChar_4cfef cJ2_indexOfChar_4cfef 4 (some .int), Cond.methodLink RJ2 96 yJ2_checkBoundsBeginEnd_d044e, Cond.static yJ2_checkBoundsBeginEnd_d044e, Cond.code yJ2_checkBoundsBeginEnd_d044e cJ2_checkBoundsBeginEnd_d044e 3 none, Cond.methodLink RJ2 48 yJ2_length_9d52b, Cond.static yJ2_length_9d52b, Cond.code yJ2_length_9d52b cJ2_length_9d52b 1 (some .int)]
def wsX0_faultPlace_r4 : List Cond := [Cond.methodLink RJ2 241 yJ0_checkBoundsBeginEnd_23922, Cond.static yJ0_checkBoundsBeginEnd_23922, Cond.code yJ0_checkBoundsBeginEnd_23922 cJ0_checkBoundsBeginEnd_23922 3 none, Cond.fieldLink RJ0 1053 "jdk/internal/util/Preconditions" "SIOOBE_FORMATTER" "Ljava/util/function/BiFunction;", Cond.methodLink RJ0 1062 yJ3_checkFromToIndex_8c36e, Cond.static yJ3_checkFromToIndex_8c36e, Cond.initialized RJ3, Cond.code yJ3_checkFromToIndex_8c36e cJ3_checkFromToIndex_8c36e 4 (some .int), Cond.methodLink RJ2 244 yJ2_indexOfCharUnsafe_4cfef, Cond.static yJ2_indexOfCharUnsafe_4cfef, Cond.code yJ2_indexOfCharUnsafe_4cfef cJ2_indexOfCharUnsafe_4cfef 5 (some .int), Cond.methodLink RJ2 71 yJ2_getChar_3b067, Cond.static yJ2_getChar_3b067, Cond.code yJ2_getChar_3b067 cJ2_getChar_3b067 2 (some .char), Cond.fieldLink RJ2 44 "java/lang/StringUTF16" "$assertionsDisabled" "Z", Cond.fieldLink RJ2 59 "java/lang/StringUTF16" "HI_BYTE_SHIFT" "I", Cond.fieldLink RJ2 63 "java/lang/StringUTF16" "LO_BYTE_SHIFT" "I", Cond.methodLink RJ2 232 yJ2_indexOfSupplementary_4cfef, Cond.static yJ2_indexOfSupplementary_4cfef, Cond.code yJ2_indexOfSupplementary_4cfef cJ2_indexOfSupplementary_4cfef 7 (some .int), Cond.methodLink RJ2 164 yJ11_isValidCodePoint_9a6ad, Cond.static yJ11_isValidCodePoint_9a6ad, Cond.initialized RJ11, Cond.code yJ11_isValidCodePoint_9a6ad cJ11_isValidCodePoint_9a6ad 2 (some .boolean)]
def wsX0_faultPlace_r5 : List Cond := [Cond.methodLink RJ2 157 yJ11_highSurrogate_5068e, Cond.static yJ11_highSurrogate_5068e, Cond.code yJ11_highSurrogate_5068e cJ11_highSurrogate_5068e 1 (some .char), Cond.constant RJ11 110 (55232), Cond.methodLink RJ2 161 yJ11_lowSurrogate_5068e, Cond.static yJ11_lowSurrogate_5068e, Cond.code yJ11_lowSurrogate_5068e cJ11_lowSurrogate_5068e 1 (some .char), Cond.constant RJ11 76 (56320), Cond.methodLink RX0 23 yX0_isDigitFrom, Cond.instanceMethod yX0_isDigitFrom, Cond.selects RX0 yX0_isDigitFrom yX0_isDigitFrom, Cond.code yX0_isDigitFrom cX0_isDigitFrom 3 (some .boolean), Cond.static yX2_isWithin, Cond.initialized RX2, Cond.code yX2_isWithin cX2_isWithin 3 (some .boolean), Cond.methodLink RX0 41 yX0_fitsBehindSites, Cond.instanceMethod yX0_fitsBehindSites, Cond.selects RX0 yX0_fitsBehindSites yX0_fitsBehindSites, Cond.code yX0_fitsBehindSites cX0_fitsBehindSites 4 (some .boolean)]
def wsX0_faultPlace : List Cond := .code yX0_faultPlace cX0_faultPlace 4 (some .int) :: ((wsX0_faultPlace_r1 ++ (wsX0_faultPlace_r2 ++ (wsX0_faultPlace_r3 ++ (wsX0_faultPlace_r4 ++ wsX0_faultPlace_r5)))) ++ wsX00)
def wsX0_isWhole_r1 : List Cond := [Cond.fieldLink RX0 15 "SnowTerm$Page" "size" "I", Cond.methodLink RX0 31 yX0_faultPlace, Cond.instanceMethod yX0_faultPlace, Cond.selects RX0 yX0_faultPlace yX0_faultPlace, Cond.initialized RX0, Cond.code yX0_faultPlace cX0_faultPlace 4 (some .int), Cond.methodLink RX0 19 yX0_fitsAmongSites, Cond.instanceMethod yX0_fitsAmongSites, Cond.selects RX0 yX0_fitsAmongSites yX0_fitsAmongSites, Cond.code yX0_fitsAmongSites cX0_fitsAmongSites 2 (some .boolean), Cond.methodLink RX0 35 yX0_kindAt, Cond.instanceMethod yX0_kindAt, Cond.selects RX0 yX0_kindAt yX0_kindAt, Cond.code yX0_kindAt cX0_kindAt 2 (some .int), Cond.methodLink RX0 27 yX0_codeAt, Cond.instanceMethod yX0_codeAt, Cond.selects RX0 yX0_codeAt yX0_codeAt, Cond.code yX0_codeAt cX0_codeAt 2 (some .int), Cond.fieldLink RX0 9 "SnowTerm$Page" "codes" "[I", Cond.methodLink RX0 51 yJ0_indexOf_0f7a4, Cond.instanceMethod yJ0_indexOf_0f7a4, Cond.selects RJ0 yJ0_indexOf_0f7a4 yJ0_indexOf_0f7a4, Cond.initialized RJ0, Cond.code yJ0_indexOf_0f7a4 cJ0_indexOf_0f7a4 2 (some .int)]
def wsX0_isWhole_r2 : List Cond := [Cond.methodLink RJ0 633 yJ0_indexOf_7cf53, Cond.instanceMethod yJ0_indexOf_7cf53, Cond.selects RJ0 yJ0_indexOf_7cf53 yJ0_indexOf_7cf53, Cond.code yJ0_indexOf_7cf53 cJ0_indexOf_7cf53 3 (some .int), Cond.fieldLink RJ0 9 "java/lang/String" "value" "[B", Cond.methodLink RJ0 492 yJ0_isLatin1_aae02, Cond.instanceMethod yJ0_isLatin1_aae02, Cond.selects RJ0 yJ0_isLatin1_aae02 yJ0_isLatin1_aae02, Cond.code yJ0_isLatin1_aae02 cJ0_isLatin1_aae02 1 (some .boolean), Cond.fieldLink RJ0 38 "java/lang/String" "COMPACT_STRINGS" "Z", Cond.fieldLink RJ0 15 "java/lang/String" "coder" "B", Cond.methodLink RJ0 505 yJ0_length_8abf5, Cond.instanceMethod yJ0_length_8abf5, Cond.selects RJ0 yJ0_length_8abf5 yJ0_length_8abf5, Cond.code yJ0_length_8abf5 cJ0_length_8abf5 1 (some .int), Cond.methodLink RJ0 335 yJ0_coder_7d493, Cond.instanceMethod yJ0_coder_7d493, Cond.selects RJ0 yJ0_coder_7d493 yJ0_coder_7d493, Cond.code yJ0_coder_7d493 cJ0_coder_7d493 1 (some .byte), Cond.methodLink RJ0 637 yJ1_indexOf_4cfef, Cond.static yJ1_indexOf_4cfef, Cond.initialized RJ1, Cond.code yJ1_indexOf_4cfef cJ1_indexOf_4cfef 4 (some .int), Cond.methodLink RJ1 92 Lib.Math.max.name]
def wsX0_isWhole_r3 : List Cond := [Cond.static Lib.Math.max.name, Cond.initialized "java/lang/Math", Cond.code Lib.Math.max.name Lib.Math.max.code 2 (some .int), Cond.methodLink RJ1 38 Lib.Math.min.name, Cond.static Lib.Math.min.name, Cond.code Lib.Math.min.name Lib.Math.min.code 2 (some .int), Cond.methodLink RJ1 88 yJ1_canEncode_9a6ad, Cond.static yJ1_canEncode_9a6ad, Cond.code yJ1_canEncode_9a6ad cJ1_canEncode_9a6ad 1 (some .boolean), Cond.methodLink RJ1 95 yJ1_indexOfChar_4cfef, Cond.static yJ1_indexOfChar_4cfef, Cond.code yJ1_indexOfChar_4cfef cJ1_indexOfChar_4cfef 6 (some .int), Cond.methodLink RJ0 640 yJ2_indexOf_4cfef, Cond.static yJ2_indexOf_4cfef, Cond.initialized RJ2, Cond.code yJ2_indexOf_4cfef cJ2_indexOf_4cfef 4 (some .int), Cond.methodLink RJ2 224 Lib.Math.max.name, Cond.methodLink RJ2 183 Lib.Math.min.name, Cond.constant RJ2 227 (65536), Cond.methodLink RJ2 228 yJ2_indexOfChar_4cfef, Cond.static yJ2_indexOfChar_4cfef, Cond.code yJ2_indexOfChar_4cfef cJ2_indexOfChar_4cfef 4 (some .int), Cond.methodLink RJ2 96 yJ2_checkBoundsBeginEnd_d044e, Cond.static yJ2_checkBoundsBeginEnd_d044e]
def wsX0_isWhole_r4 : List Cond := [Cond.code yJ2_checkBoundsBeginEnd_d044e cJ2_checkBoundsBeginEnd_d044e 3 none, Cond.methodLink RJ2 48 yJ2_length_9d52b, Cond.static yJ2_length_9d52b, Cond.code yJ2_length_9d52b cJ2_length_9d52b 1 (some .int), Cond.methodLink RJ2 241 yJ0_checkBoundsBeginEnd_23922, Cond.static yJ0_checkBoundsBeginEnd_23922, Cond.code yJ0_checkBoundsBeginEnd_23922 cJ0_checkBoundsBeginEnd_23922 3 none, Cond.fieldLink RJ0 1053 "jdk/internal/util/Preconditions" "SIOOBE_FORMATTER" "Ljava/util/function/BiFunction;", Cond.methodLink RJ0 1062 yJ3_checkFromToIndex_8c36e, Cond.static yJ3_checkFromToIndex_8c36e, Cond.initialized RJ3, Cond.code yJ3_checkFromToIndex_8c36e cJ3_checkFromToIndex_8c36e 4 (some .int), Cond.methodLink RJ2 244 yJ2_indexOfCharUnsafe_4cfef, Cond.static yJ2_indexOfCharUnsafe_4cfef, Cond.code yJ2_indexOfCharUnsafe_4cfef cJ2_indexOfCharUnsafe_4cfef 5 (some .int), Cond.methodLink RJ2 71 yJ2_getChar_3b067, Cond.static yJ2_getChar_3b067, Cond.code yJ2_getChar_3b067 cJ2_getChar_3b067 2 (some .char), Cond.fieldLink RJ2 44 "java/lang/StringUTF16" "$assertionsDisabled" "Z", Cond.fieldLink RJ2 59 "java/lang/StringUTF16" "HI_BYTE_SHIFT" "I", Cond.fieldLink RJ2 63 "java/lang/StringUTF16" "LO_BYTE_SHIFT" "I", Cond.methodLink RJ2 232 yJ2_indexOfSupplementary_4cfef, Cond.static yJ2_indexOfSupplementary_4cfef, Cond.code yJ2_indexOfSupplementary_4cfef cJ2_indexOfSupplementary_4cfef 7 (some .int)]
def wsX0_isWhole_r5 : List Cond := [Cond.methodLink RJ2 164 yJ11_isValidCodePoint_9a6ad, Cond.static yJ11_isValidCodePoint_9a6ad, Cond.initialized RJ11, Cond.code yJ11_isValidCodePoint_9a6ad cJ11_isValidCodePoint_9a6ad 2 (some .boolean), Cond.methodLink RJ2 157 yJ11_highSurrogate_5068e, Cond.static yJ11_highSurrogate_5068e, Cond.code yJ11_highSurrogate_5068e cJ11_highSurrogate_5068e 1 (some .char), Cond.constant RJ11 110 (55232), Cond.methodLink RJ2 161 yJ11_lowSurrogate_5068e, Cond.static yJ11_lowSurrogate_5068e, Cond.code yJ11_lowSurrogate_5068e cJ11_lowSurrogate_5068e 1 (some .char), Cond.constant RJ11 76 (56320), Cond.methodLink RX0 23 yX0_isDigitFrom, Cond.instanceMethod yX0_isDigitFrom, Cond.selects RX0 yX0_isDigitFrom yX0_isDigitFrom, Cond.code yX0_isDigitFrom cX0_isDigitFrom 3 (some .boolean), Cond.static yX2_isWithin, Cond.initialized RX2, Cond.code yX2_isWithin cX2_isWithin 3 (some .boolean), Cond.methodLink RX0 41 yX0_fitsBehindSites, Cond.instanceMethod yX0_fitsBehindSites, Cond.selects RX0 yX0_fitsBehindSites yX0_fitsBehindSites, Cond.code yX0_fitsBehindSites cX0_fitsBehindSites 4 (some .boolean)]
def wsX0_isWhole : List Cond := .code yX0_isWhole cX0_isWhole 1 (some .boolean) :: ((wsX0_isWhole_r1 ++ (wsX0_isWhole_r2 ++ (wsX0_isWhole_r3 ++ (wsX0_isWhole_r4 ++ wsX0_isWhole_r5)))) ++ wsX00)
def wsX0_siteCount : List Cond := .code yX0_siteCount cX0_siteCount 1 (some .int) :: ([.fieldLink RX0 15 "SnowTerm$Page" "size" "I"] ++ wsX00)
def wsX0_kindOf_r1 : List Cond := [Cond.methodLink RX0 35 yX0_kindAt, Cond.instanceMethod yX0_kindAt, Cond.selects RX0 yX0_kindAt yX0_kindAt, Cond.initialized RX0, Cond.code yX0_kindAt cX0_kindAt 2 (some .int), Cond.methodLink RX0 27 yX0_codeAt, Cond.instanceMethod yX0_codeAt, Cond.selects RX0 yX0_codeAt yX0_codeAt, Cond.code yX0_codeAt cX0_codeAt 2 (some .int), Cond.fieldLink RX0 9 "SnowTerm$Page" "codes" "[I", Cond.methodLink RX0 51 yJ0_indexOf_0f7a4, Cond.instanceMethod yJ0_indexOf_0f7a4, Cond.selects RJ0 yJ0_indexOf_0f7a4 yJ0_indexOf_0f7a4, Cond.initialized RJ0, Cond.code yJ0_indexOf_0f7a4 cJ0_indexOf_0f7a4 2 (some .int), Cond.methodLink RJ0 633 yJ0_indexOf_7cf53, Cond.instanceMethod yJ0_indexOf_7cf53, Cond.selects RJ0 yJ0_indexOf_7cf53 yJ0_indexOf_7cf53, Cond.code yJ0_indexOf_7cf53 cJ0_indexOf_7cf53 3 (some .int), Cond.fieldLink RJ0 9 "java/lang/String" "value" "[B", Cond.methodLink RJ0 492 yJ0_isLatin1_aae02, Cond.instanceMethod yJ0_isLatin1_aae02, Cond.selects RJ0 yJ0_isLatin1_aae02 yJ0_isLatin1_aae02, Cond.code yJ0_isLatin1_aae02 cJ0_isLatin1_aae02 1 (some .boolean)]
def wsX0_kindOf_r2 : List Cond := [Cond.fieldLink RJ0 38 "java/lang/String" "COMPACT_STRINGS" "Z", Cond.fieldLink RJ0 15 "java/lang/String" "coder" "B", Cond.methodLink RJ0 505 yJ0_length_8abf5, Cond.instanceMethod yJ0_length_8abf5, Cond.selects RJ0 yJ0_length_8abf5 yJ0_length_8abf5, Cond.code yJ0_length_8abf5 cJ0_length_8abf5 1 (some .int), Cond.methodLink RJ0 335 yJ0_coder_7d493, Cond.instanceMethod yJ0_coder_7d493, Cond.selects RJ0 yJ0_coder_7d493 yJ0_coder_7d493, Cond.code yJ0_coder_7d493 cJ0_coder_7d493 1 (some .byte), Cond.methodLink RJ0 637 yJ1_indexOf_4cfef, Cond.static yJ1_indexOf_4cfef, Cond.initialized RJ1, Cond.code yJ1_indexOf_4cfef cJ1_indexOf_4cfef 4 (some .int), Cond.methodLink RJ1 92 Lib.Math.max.name, Cond.static Lib.Math.max.name, Cond.initialized "java/lang/Math", Cond.code Lib.Math.max.name Lib.Math.max.code 2 (some .int), Cond.methodLink RJ1 38 Lib.Math.min.name, Cond.static Lib.Math.min.name, Cond.code Lib.Math.min.name Lib.Math.min.code 2 (some .int), Cond.methodLink RJ1 88 yJ1_canEncode_9a6ad, Cond.static yJ1_canEncode_9a6ad, Cond.code yJ1_canEncode_9a6ad cJ1_canEncode_9a6ad 1 (some .boolean)]
def wsX0_kindOf_r3 : List Cond := [Cond.methodLink RJ1 95 yJ1_indexOfChar_4cfef, Cond.static yJ1_indexOfChar_4cfef, Cond.code yJ1_indexOfChar_4cfef cJ1_indexOfChar_4cfef 6 (some .int), Cond.methodLink RJ0 640 yJ2_indexOf_4cfef, Cond.static yJ2_indexOf_4cfef, Cond.initialized RJ2, Cond.code yJ2_indexOf_4cfef cJ2_indexOf_4cfef 4 (some .int), Cond.methodLink RJ2 224 Lib.Math.max.name, Cond.methodLink RJ2 183 Lib.Math.min.name, Cond.constant RJ2 227 (65536), Cond.methodLink RJ2 228 yJ2_indexOfChar_4cfef, Cond.static yJ2_indexOfChar_4cfef, Cond.code yJ2_indexOfChar_4cfef cJ2_indexOfChar_4cfef 4 (some .int), Cond.methodLink RJ2 96 yJ2_checkBoundsBeginEnd_d044e, Cond.static yJ2_checkBoundsBeginEnd_d044e, Cond.code yJ2_checkBoundsBeginEnd_d044e cJ2_checkBoundsBeginEnd_d044e 3 none, Cond.methodLink RJ2 48 yJ2_length_9d52b, Cond.static yJ2_length_9d52b, Cond.code yJ2_length_9d52b cJ2_length_9d52b 1 (some .int), Cond.methodLink RJ2 241 yJ0_checkBoundsBeginEnd_23922, Cond.static yJ0_checkBoundsBeginEnd_23922, Cond.code yJ0_checkBoundsBeginEnd_23922 cJ0_checkBoundsBeginEnd_23922 3 none, Cond.fieldLink RJ0 1053 "jdk/internal/util/Preconditions" "SIOOBE_FORMATTER" "Ljava/util/function/BiFunction;", Cond.methodLink RJ0 1062 yJ3_checkFromToIndex_8c36e]
def wsX0_kindOf_r4 : List Cond := [Cond.static yJ3_checkFromToIndex_8c36e, Cond.initialized RJ3, Cond.code yJ3_checkFromToIndex_8c36e cJ3_checkFromToIndex_8c36e 4 (some .int), Cond.methodLink RJ2 244 yJ2_indexOfCharUnsafe_4cfef, Cond.static yJ2_indexOfCharUnsafe_4cfef, Cond.code yJ2_indexOfCharUnsafe_4cfef cJ2_indexOfCharUnsafe_4cfef 5 (some .int), Cond.methodLink RJ2 71 yJ2_getChar_3b067, Cond.static yJ2_getChar_3b067, Cond.code yJ2_getChar_3b067 cJ2_getChar_3b067 2 (some .char), Cond.fieldLink RJ2 44 "java/lang/StringUTF16" "$assertionsDisabled" "Z", Cond.fieldLink RJ2 59 "java/lang/StringUTF16" "HI_BYTE_SHIFT" "I", Cond.fieldLink RJ2 63 "java/lang/StringUTF16" "LO_BYTE_SHIFT" "I", Cond.methodLink RJ2 232 yJ2_indexOfSupplementary_4cfef, Cond.static yJ2_indexOfSupplementary_4cfef, Cond.code yJ2_indexOfSupplementary_4cfef cJ2_indexOfSupplementary_4cfef 7 (some .int), Cond.methodLink RJ2 164 yJ11_isValidCodePoint_9a6ad, Cond.static yJ11_isValidCodePoint_9a6ad, Cond.initialized RJ11, Cond.code yJ11_isValidCodePoint_9a6ad cJ11_isValidCodePoint_9a6ad 2 (some .boolean), Cond.methodLink RJ2 157 yJ11_highSurrogate_5068e, Cond.static yJ11_highSurrogate_5068e, Cond.code yJ11_highSurrogate_5068e cJ11_highSurrogate_5068e 1 (some .char), Cond.constant RJ11 110 (55232), Cond.methodLink RJ2 161 yJ11_lowSurrogate_5068e]
def wsX0_kindOf_r5 : List Cond := [Cond.static yJ11_lowSurrogate_5068e, Cond.code yJ11_lowSurrogate_5068e cJ11_lowSurrogate_5068e 1 (some .char), Cond.constant RJ11 76 (56320)]
def wsX0_kindOf : List Cond := .code yX0_kindOf cX0_kindOf 2 (some .int) :: ((wsX0_kindOf_r1 ++ (wsX0_kindOf_r2 ++ (wsX0_kindOf_r3 ++ (wsX0_kindOf_r4 ++ wsX0_kindOf_r5)))) ++ wsX00)
def wsX0_digitAt : List Cond := .code yX0_digitAt cX0_digitAt 2 (some .int) :: ([.methodLink RX0 27 yX0_codeAt, .instanceMethod yX0_codeAt, .selects RX0 yX0_codeAt yX0_codeAt, .initialized RX0, .code yX0_codeAt cX0_codeAt 2 (some .int), .fieldLink RX0 9 "SnowTerm$Page" "codes" "[I"] ++ wsX00)
def wsX0_wantOf : List Cond := .code yX0_wantOf cX0_wantOf 2 (some .int) :: ([.methodLink RX0 38 yX0_digitAt, .instanceMethod yX0_digitAt, .selects RX0 yX0_digitAt yX0_digitAt, .initialized RX0, .code yX0_digitAt cX0_digitAt 2 (some .int), .methodLink RX0 27 yX0_codeAt, .instanceMethod yX0_codeAt, .selects RX0 yX0_codeAt yX0_codeAt, .code yX0_codeAt cX0_codeAt 2 (some .int), .fieldLink RX0 9 "SnowTerm$Page" "codes" "[I"] ++ wsX00)
def wsX0_sunTold : List Cond := .code yX0_sunTold cX0_sunTold 1 (some .int) :: ([.fieldLink RX0 15 "SnowTerm$Page" "size" "I", .methodLink RX0 38 yX0_digitAt, .instanceMethod yX0_digitAt, .selects RX0 yX0_digitAt yX0_digitAt, .initialized RX0, .code yX0_digitAt cX0_digitAt 2 (some .int), .methodLink RX0 27 yX0_codeAt, .instanceMethod yX0_codeAt, .selects RX0 yX0_codeAt yX0_codeAt, .code yX0_codeAt cX0_codeAt 2 (some .int), .fieldLink RX0 9 "SnowTerm$Page" "codes" "[I"] ++ wsX00)
def wsX1_init : List Cond := .code yX1_init cX1_init 1 none :: ([.methodLink RX1 3 objectInit, .instanceMethod objectInit, .code objectInit ⟨#[0xb1]⟩ 1 none, .arrayClass .int, .fieldLink RX1 9 "SnowTerm$Term" "snow" "[I", .fieldLink RX1 15 "SnowTerm$Term" "snowAtDusk" "[I", .fieldLink RX1 18 "SnowTerm$Term" "feet" "[I", .fieldLink RX1 21 "SnowTerm$Term" "brought" "[I", .fieldLink RX1 24 "SnowTerm$Term" "foundKind" "[I", .fieldLink RX1 27 "SnowTerm$Term" "foundFeet" "[I", .fieldLink RX1 30 "SnowTerm$Term" "foundDeep" "[I", .fieldLink RX1 33 "SnowTerm$Term" "foundLeft" "[I"] ++ wsX10)
def wsX1_begin : List Cond := .code yX1_begin cX1_begin 3 none :: ([.fieldLink RX1 36 "SnowTerm$Term" "day" "I", .fieldLink RX1 40 "SnowTerm$Term" "sun" "I", .fieldLink RX1 43 "SnowTerm$Term" "cost" "I", .fieldLink RX1 46 "SnowTerm$Term" "praise" "I", .fieldLink RX1 49 "SnowTerm$Term" "foundCount" "I", .fieldLink RX1 9 "SnowTerm$Term" "snow" "[I", .fieldLink RX1 15 "SnowTerm$Term" "snowAtDusk" "[I", .fieldLink RX1 18 "SnowTerm$Term" "feet" "[I", .fieldLink RX1 21 "SnowTerm$Term" "brought" "[I"] ++ wsX10)
def wsX1_endDay : List Cond := .code yX1_endDay cX1_endDay 3 none :: ([.fieldLink RX1 36 "SnowTerm$Term" "day" "I", .fieldLink RX1 46 "SnowTerm$Term" "praise" "I", .fieldLink RX1 15 "SnowTerm$Term" "snowAtDusk" "[I", .fieldLink RX1 9 "SnowTerm$Term" "snow" "[I", .fieldLink RX1 21 "SnowTerm$Term" "brought" "[I"] ++ wsX10)
def wsX1_addFound : List Cond := .code yX1_addFound cX1_addFound 5 (some .boolean) :: ([.fieldLink RX1 49 "SnowTerm$Term" "foundCount" "I", .fieldLink RX1 24 "SnowTerm$Term" "foundKind" "[I", .fieldLink RX1 27 "SnowTerm$Term" "foundFeet" "[I", .fieldLink RX1 30 "SnowTerm$Term" "foundDeep" "[I", .fieldLink RX1 33 "SnowTerm$Term" "foundLeft" "[I"] ++ wsX10)
def wsX1_copyRow : List Cond := .code yX1_copyRow cX1_copyRow 2 none :: ([.methodLink RX1 56 Lib.Math.min.name, .static Lib.Math.min.name, .initialized "java/lang/Math", .code Lib.Math.min.name Lib.Math.min.code 2 (some .int), .methodLink RX1 62 arraycopyName, .native arraycopyName, .static arraycopyName, .initialized "java/lang/System"])
def wsX1_copy_r1 : List Cond := [Cond.fieldLink RX1 36 "SnowTerm$Term" "day" "I", Cond.fieldLink RX1 40 "SnowTerm$Term" "sun" "I", Cond.fieldLink RX1 43 "SnowTerm$Term" "cost" "I", Cond.fieldLink RX1 46 "SnowTerm$Term" "praise" "I", Cond.fieldLink RX1 49 "SnowTerm$Term" "foundCount" "I", Cond.fieldLink RX1 9 "SnowTerm$Term" "snow" "[I", Cond.fieldLink RX1 15 "SnowTerm$Term" "snowAtDusk" "[I", Cond.fieldLink RX1 18 "SnowTerm$Term" "feet" "[I", Cond.fieldLink RX1 21 "SnowTerm$Term" "brought" "[I", Cond.fieldLink RX1 24 "SnowTerm$Term" "foundKind" "[I", Cond.fieldLink RX1 27 "SnowTerm$Term" "foundFeet" "[I", Cond.fieldLink RX1 30 "SnowTerm$Term" "foundDeep" "[I", Cond.fieldLink RX1 33 "SnowTerm$Term" "foundLeft" "[I", Cond.methodLink RX1 52 yX1_copyRow, Cond.static yX1_copyRow, Cond.initialized RX1, Cond.code yX1_copyRow cX1_copyRow 2 none, Cond.methodLink RX1 56 Lib.Math.min.name, Cond.static Lib.Math.min.name, Cond.initialized "java/lang/Math", Cond.code Lib.Math.min.name Lib.Math.min.code 2 (some .int), Cond.methodLink RX1 62 arraycopyName, Cond.native arraycopyName, Cond.static arraycopyName]
def wsX1_copy_r2 : List Cond := [Cond.initialized "java/lang/System"]
def wsX1_copy : List Cond := .code yX1_copy cX1_copy 2 none :: ((wsX1_copy_r1 ++ wsX1_copy_r2) ++ wsX10)
def wsX2_init_r1 : List Cond := [Cond.methodLink RX2 1 objectInit, Cond.instanceMethod objectInit, Cond.code objectInit ⟨#[0xb1]⟩ 1 none, Cond.classLink RX2 7 RX0, Cond.instantiable RX0 2, Cond.initialized RX0, Cond.fieldLink RX2 10 "SnowTerm" "page" "LSnowTerm$Page;", Cond.arrayClass .int, Cond.fieldLink RX2 16 "SnowTerm" "kinds" "[I", Cond.fieldLink RX2 20 "SnowTerm" "wants" "[I", Cond.classLink RX2 23 RX1, Cond.instantiable RX1 13, Cond.initialized RX1, Cond.fieldLink RX2 26 "SnowTerm" "now" "LSnowTerm$Term;", Cond.fieldLink RX2 30 "SnowTerm" "atImage" "LSnowTerm$Term;", Cond.fieldLink RX2 33 "SnowTerm" "wouldBe" "[I", Cond.fieldLink RX2 36 "SnowTerm" "needs" "[I", Cond.fieldLink RX2 39 "SnowTerm" "sites" "I", Cond.fieldLink RX2 43 "SnowTerm" "citiesRead" "I", Cond.fieldLink RX2 46 "SnowTerm" "hasImage" "Z", Cond.methodLink RX2 9 yX0_init, Cond.instanceMethod yX0_init, Cond.code yX0_init cX0_init 1 none, Cond.methodLink RX0 3 objectInit]
def wsX2_init_r2 : List Cond := [Cond.fieldLink RX0 9 "SnowTerm$Page" "codes" "[I", Cond.fieldLink RX0 15 "SnowTerm$Page" "size" "I", Cond.methodLink RX2 25 yX1_init, Cond.instanceMethod yX1_init, Cond.code yX1_init cX1_init 1 none, Cond.methodLink RX1 3 objectInit, Cond.fieldLink RX1 9 "SnowTerm$Term" "snow" "[I", Cond.fieldLink RX1 15 "SnowTerm$Term" "snowAtDusk" "[I", Cond.fieldLink RX1 18 "SnowTerm$Term" "feet" "[I", Cond.fieldLink RX1 21 "SnowTerm$Term" "brought" "[I", Cond.fieldLink RX1 24 "SnowTerm$Term" "foundKind" "[I", Cond.fieldLink RX1 27 "SnowTerm$Term" "foundFeet" "[I", Cond.fieldLink RX1 30 "SnowTerm$Term" "foundDeep" "[I", Cond.fieldLink RX1 33 "SnowTerm$Term" "foundLeft" "[I"]
def wsX2_init : List Cond := .code yX2_init cX2_init 1 none :: ((wsX2_init_r1 ++ wsX2_init_r2) ++ wsX00 ++ wsX20 ++ wsX10)
def wsX2_letter : List Cond := .code yX2_letter cX2_letter 2 (some .int) :: ([.fieldLink RX2 10 "SnowTerm" "page" "LSnowTerm$Page;", .fieldLink RX2 58 "SnowTerm$Page" "size" "I", .methodLink RX2 50 yX2_isWithin, .static yX2_isWithin, .initialized RX2, .code yX2_isWithin cX2_isWithin 3 (some .boolean), .methodLink RX2 54 yX0_add, .instanceMethod yX0_add, .selects RX0 yX0_add yX0_add, .initialized RX0, .code yX0_add cX0_add 2 (some .boolean), .fieldLink RX0 15 "SnowTerm$Page" "size" "I", .fieldLink RX0 9 "SnowTerm$Page" "codes" "[I"] ++ wsX20 ++ wsX00)
def wsX2_blank : List Cond := .code yX2_blank cX2_blank 1 (some .int) :: ([.fieldLink RX2 10 "SnowTerm" "page" "LSnowTerm$Page;", .methodLink RX2 61 yX0_clear, .instanceMethod yX0_clear, .selects RX0 yX0_clear yX0_clear, .initialized RX0, .code yX0_clear cX0_clear 2 (some .int), .fieldLink RX0 15 "SnowTerm$Page" "size" "I"] ++ wsX20 ++ wsX00)
def wsX2_fault_r1 : List Cond := [Cond.fieldLink RX2 10 "SnowTerm" "page" "LSnowTerm$Page;", Cond.methodLink RX2 65 yX0_faultPlace, Cond.instanceMethod yX0_faultPlace, Cond.selects RX0 yX0_faultPlace yX0_faultPlace, Cond.initialized RX0, Cond.code yX0_faultPlace cX0_faultPlace 4 (some .int), Cond.fieldLink RX0 15 "SnowTerm$Page" "size" "I", Cond.methodLink RX0 19 yX0_fitsAmongSites, Cond.instanceMethod yX0_fitsAmongSites, Cond.selects RX0 yX0_fitsAmongSites yX0_fitsAmongSites, Cond.code yX0_fitsAmongSites cX0_fitsAmongSites 2 (some .boolean), Cond.methodLink RX0 35 yX0_kindAt, Cond.instanceMethod yX0_kindAt, Cond.selects RX0 yX0_kindAt yX0_kindAt, Cond.code yX0_kindAt cX0_kindAt 2 (some .int), Cond.methodLink RX0 27 yX0_codeAt, Cond.instanceMethod yX0_codeAt, Cond.selects RX0 yX0_codeAt yX0_codeAt, Cond.code yX0_codeAt cX0_codeAt 2 (some .int), Cond.fieldLink RX0 9 "SnowTerm$Page" "codes" "[I", Cond.methodLink RX0 51 yJ0_indexOf_0f7a4, Cond.instanceMethod yJ0_indexOf_0f7a4, Cond.selects RJ0 yJ0_indexOf_0f7a4 yJ0_indexOf_0f7a4, Cond.initialized RJ0]
def wsX2_fault_r2 : List Cond := [Cond.code yJ0_indexOf_0f7a4 cJ0_indexOf_0f7a4 2 (some .int), Cond.methodLink RJ0 633 yJ0_indexOf_7cf53, Cond.instanceMethod yJ0_indexOf_7cf53, Cond.selects RJ0 yJ0_indexOf_7cf53 yJ0_indexOf_7cf53, Cond.code yJ0_indexOf_7cf53 cJ0_indexOf_7cf53 3 (some .int), Cond.fieldLink RJ0 9 "java/lang/String" "value" "[B", Cond.methodLink RJ0 492 yJ0_isLatin1_aae02, Cond.instanceMethod yJ0_isLatin1_aae02, Cond.selects RJ0 yJ0_isLatin1_aae02 yJ0_isLatin1_aae02, Cond.code yJ0_isLatin1_aae02 cJ0_isLatin1_aae02 1 (some .boolean), Cond.fieldLink RJ0 38 "java/lang/String" "COMPACT_STRINGS" "Z", Cond.fieldLink RJ0 15 "java/lang/String" "coder" "B", Cond.methodLink RJ0 505 yJ0_length_8abf5, Cond.instanceMethod yJ0_length_8abf5, Cond.selects RJ0 yJ0_length_8abf5 yJ0_length_8abf5, Cond.code yJ0_length_8abf5 cJ0_length_8abf5 1 (some .int), Cond.methodLink RJ0 335 yJ0_coder_7d493, Cond.instanceMethod yJ0_coder_7d493, Cond.selects RJ0 yJ0_coder_7d493 yJ0_coder_7d493, Cond.code yJ0_coder_7d493 cJ0_coder_7d493 1 (some .byte), Cond.methodLink RJ0 637 yJ1_indexOf_4cfef, Cond.static yJ1_indexOf_4cfef, Cond.initialized RJ1, Cond.code yJ1_indexOf_4cfef cJ1_indexOf_4cfef 4 (some .int)]
def wsX2_fault_r3 : List Cond := [Cond.methodLink RJ1 92 Lib.Math.max.name, Cond.static Lib.Math.max.name, Cond.initialized "java/lang/Math", Cond.code Lib.Math.max.name Lib.Math.max.code 2 (some .int), Cond.methodLink RJ1 38 Lib.Math.min.name, Cond.static Lib.Math.min.name, Cond.code Lib.Math.min.name Lib.Math.min.code 2 (some .int), Cond.methodLink RJ1 88 yJ1_canEncode_9a6ad, Cond.static yJ1_canEncode_9a6ad, Cond.code yJ1_canEncode_9a6ad cJ1_canEncode_9a6ad 1 (some .boolean), Cond.methodLink RJ1 95 yJ1_indexOfChar_4cfef, Cond.static yJ1_indexOfChar_4cfef, Cond.code yJ1_indexOfChar_4cfef cJ1_indexOfChar_4cfef 6 (some .int), Cond.methodLink RJ0 640 yJ2_indexOf_4cfef, Cond.static yJ2_indexOf_4cfef, Cond.initialized RJ2, Cond.code yJ2_indexOf_4cfef cJ2_indexOf_4cfef 4 (some .int), Cond.methodLink RJ2 224 Lib.Math.max.name, Cond.methodLink RJ2 183 Lib.Math.min.name, Cond.constant RJ2 227 (65536), Cond.methodLink RJ2 228 yJ2_indexOfChar_4cfef, Cond.static yJ2_indexOfChar_4cfef, Cond.code yJ2_indexOfChar_4cfef cJ2_indexOfChar_4cfef 4 (some .int), Cond.methodLink RJ2 96 yJ2_checkBoundsBeginEnd_d044e]
def wsX2_fault_r4 : List Cond := [Cond.static yJ2_checkBoundsBeginEnd_d044e, Cond.code yJ2_checkBoundsBeginEnd_d044e cJ2_checkBoundsBeginEnd_d044e 3 none, Cond.methodLink RJ2 48 yJ2_length_9d52b, Cond.static yJ2_length_9d52b, Cond.code yJ2_length_9d52b cJ2_length_9d52b 1 (some .int), Cond.methodLink RJ2 241 yJ0_checkBoundsBeginEnd_23922, Cond.static yJ0_checkBoundsBeginEnd_23922, Cond.code yJ0_checkBoundsBeginEnd_23922 cJ0_checkBoundsBeginEnd_23922 3 none, Cond.fieldLink RJ0 1053 "jdk/internal/util/Preconditions" "SIOOBE_FORMATTER" "Ljava/util/function/BiFunction;", Cond.methodLink RJ0 1062 yJ3_checkFromToIndex_8c36e, Cond.static yJ3_checkFromToIndex_8c36e, Cond.initialized RJ3, Cond.code yJ3_checkFromToIndex_8c36e cJ3_checkFromToIndex_8c36e 4 (some .int), Cond.methodLink RJ2 244 yJ2_indexOfCharUnsafe_4cfef, Cond.static yJ2_indexOfCharUnsafe_4cfef, Cond.code yJ2_indexOfCharUnsafe_4cfef cJ2_indexOfCharUnsafe_4cfef 5 (some .int), Cond.methodLink RJ2 71 yJ2_getChar_3b067, Cond.static yJ2_getChar_3b067, Cond.code yJ2_getChar_3b067 cJ2_getChar_3b067 2 (some .char), Cond.fieldLink RJ2 44 "java/lang/StringUTF16" "$assertionsDisabled" "Z", Cond.fieldLink RJ2 59 "java/lang/StringUTF16" "HI_BYTE_SHIFT" "I", Cond.fieldLink RJ2 63 "java/lang/StringUTF16" "LO_BYTE_SHIFT" "I", Cond.methodLink RJ2 232 yJ2_indexOfSupplementary_4cfef, Cond.static yJ2_indexOfSupplementary_4cfef]
def wsX2_fault_r5 : List Cond := [Cond.code yJ2_indexOfSupplementary_4cfef cJ2_indexOfSupplementary_4cfef 7 (some .int), Cond.methodLink RJ2 164 yJ11_isValidCodePoint_9a6ad, Cond.static yJ11_isValidCodePoint_9a6ad, Cond.initialized RJ11, Cond.code yJ11_isValidCodePoint_9a6ad cJ11_isValidCodePoint_9a6ad 2 (some .boolean), Cond.methodLink RJ2 157 yJ11_highSurrogate_5068e, Cond.static yJ11_highSurrogate_5068e, Cond.code yJ11_highSurrogate_5068e cJ11_highSurrogate_5068e 1 (some .char), Cond.constant RJ11 110 (55232), Cond.methodLink RJ2 161 yJ11_lowSurrogate_5068e, Cond.static yJ11_lowSurrogate_5068e, Cond.code yJ11_lowSurrogate_5068e cJ11_lowSurrogate_5068e 1 (some .char), Cond.constant RJ11 76 (56320), Cond.methodLink RX0 23 yX0_isDigitFrom, Cond.instanceMethod yX0_isDigitFrom, Cond.selects RX0 yX0_isDigitFrom yX0_isDigitFrom, Cond.code yX0_isDigitFrom cX0_isDigitFrom 3 (some .boolean), Cond.static yX2_isWithin, Cond.initialized RX2, Cond.code yX2_isWithin cX2_isWithin 3 (some .boolean), Cond.methodLink RX0 41 yX0_fitsBehindSites, Cond.instanceMethod yX0_fitsBehindSites, Cond.selects RX0 yX0_fitsBehindSites yX0_fitsBehindSites, Cond.code yX0_fitsBehindSites cX0_fitsBehindSites 4 (some .boolean)]
def wsX2_fault : List Cond := .code yX2_fault cX2_fault 1 (some .int) :: ((wsX2_fault_r1 ++ (wsX2_fault_r2 ++ (wsX2_fault_r3 ++ (wsX2_fault_r4 ++ wsX2_fault_r5)))) ++ wsX20 ++ wsX00)
def wsX2_city_r1 : List Cond := [Cond.fieldLink RX2 10 "SnowTerm" "page" "LSnowTerm$Page;", Cond.fieldLink RX2 39 "SnowTerm" "sites" "I", Cond.fieldLink RX2 16 "SnowTerm" "kinds" "[I", Cond.fieldLink RX2 20 "SnowTerm" "wants" "[I", Cond.fieldLink RX2 26 "SnowTerm" "now" "LSnowTerm$Term;", Cond.fieldLink RX2 46 "SnowTerm" "hasImage" "Z", Cond.fieldLink RX2 43 "SnowTerm" "citiesRead" "I", Cond.methodLink RX2 68 yX0_isWhole, Cond.instanceMethod yX0_isWhole, Cond.selects RX0 yX0_isWhole yX0_isWhole, Cond.initialized RX0, Cond.code yX0_isWhole cX0_isWhole 1 (some .boolean), Cond.fieldLink RX0 15 "SnowTerm$Page" "size" "I", Cond.methodLink RX0 31 yX0_faultPlace, Cond.instanceMethod yX0_faultPlace, Cond.selects RX0 yX0_faultPlace yX0_faultPlace, Cond.code yX0_faultPlace cX0_faultPlace 4 (some .int), Cond.methodLink RX0 19 yX0_fitsAmongSites, Cond.instanceMethod yX0_fitsAmongSites, Cond.selects RX0 yX0_fitsAmongSites yX0_fitsAmongSites, Cond.code yX0_fitsAmongSites cX0_fitsAmongSites 2 (some .boolean), Cond.methodLink RX0 35 yX0_kindAt, Cond.instanceMethod yX0_kindAt, Cond.selects RX0 yX0_kindAt yX0_kindAt]
def wsX2_city_r2 : List Cond := [Cond.code yX0_kindAt cX0_kindAt 2 (some .int), Cond.methodLink RX0 27 yX0_codeAt, Cond.instanceMethod yX0_codeAt, Cond.selects RX0 yX0_codeAt yX0_codeAt, Cond.code yX0_codeAt cX0_codeAt 2 (some .int), Cond.fieldLink RX0 9 "SnowTerm$Page" "codes" "[I", Cond.methodLink RX0 51 yJ0_indexOf_0f7a4, Cond.instanceMethod yJ0_indexOf_0f7a4, Cond.selects RJ0 yJ0_indexOf_0f7a4 yJ0_indexOf_0f7a4, Cond.initialized RJ0, Cond.code yJ0_indexOf_0f7a4 cJ0_indexOf_0f7a4 2 (some .int), Cond.methodLink RJ0 633 yJ0_indexOf_7cf53, Cond.instanceMethod yJ0_indexOf_7cf53, Cond.selects RJ0 yJ0_indexOf_7cf53 yJ0_indexOf_7cf53, Cond.code yJ0_indexOf_7cf53 cJ0_indexOf_7cf53 3 (some .int), Cond.fieldLink RJ0 9 "java/lang/String" "value" "[B", Cond.methodLink RJ0 492 yJ0_isLatin1_aae02, Cond.instanceMethod yJ0_isLatin1_aae02, Cond.selects RJ0 yJ0_isLatin1_aae02 yJ0_isLatin1_aae02, Cond.code yJ0_isLatin1_aae02 cJ0_isLatin1_aae02 1 (some .boolean), Cond.fieldLink RJ0 38 "java/lang/String" "COMPACT_STRINGS" "Z", Cond.fieldLink RJ0 15 "java/lang/String" "coder" "B", Cond.methodLink RJ0 505 yJ0_length_8abf5, Cond.instanceMethod yJ0_length_8abf5]
def wsX2_city_r3 : List Cond := [Cond.selects RJ0 yJ0_length_8abf5 yJ0_length_8abf5, Cond.code yJ0_length_8abf5 cJ0_length_8abf5 1 (some .int), Cond.methodLink RJ0 335 yJ0_coder_7d493, Cond.instanceMethod yJ0_coder_7d493, Cond.selects RJ0 yJ0_coder_7d493 yJ0_coder_7d493, Cond.code yJ0_coder_7d493 cJ0_coder_7d493 1 (some .byte), Cond.methodLink RJ0 637 yJ1_indexOf_4cfef, Cond.static yJ1_indexOf_4cfef, Cond.initialized RJ1, Cond.code yJ1_indexOf_4cfef cJ1_indexOf_4cfef 4 (some .int), Cond.methodLink RJ1 92 Lib.Math.max.name, Cond.static Lib.Math.max.name, Cond.initialized "java/lang/Math", Cond.code Lib.Math.max.name Lib.Math.max.code 2 (some .int), Cond.methodLink RJ1 38 Lib.Math.min.name, Cond.static Lib.Math.min.name, Cond.code Lib.Math.min.name Lib.Math.min.code 2 (some .int), Cond.methodLink RJ1 88 yJ1_canEncode_9a6ad, Cond.static yJ1_canEncode_9a6ad, Cond.code yJ1_canEncode_9a6ad cJ1_canEncode_9a6ad 1 (some .boolean), Cond.methodLink RJ1 95 yJ1_indexOfChar_4cfef, Cond.static yJ1_indexOfChar_4cfef, Cond.code yJ1_indexOfChar_4cfef cJ1_indexOfChar_4cfef 6 (some .int), Cond.methodLink RJ0 640 yJ2_indexOf_4cfef]
def wsX2_city_r4 : List Cond := [Cond.static yJ2_indexOf_4cfef, Cond.initialized RJ2, Cond.code yJ2_indexOf_4cfef cJ2_indexOf_4cfef 4 (some .int), Cond.methodLink RJ2 224 Lib.Math.max.name, Cond.methodLink RJ2 183 Lib.Math.min.name, Cond.constant RJ2 227 (65536), Cond.methodLink RJ2 228 yJ2_indexOfChar_4cfef, Cond.static yJ2_indexOfChar_4cfef, Cond.code yJ2_indexOfChar_4cfef cJ2_indexOfChar_4cfef 4 (some .int), Cond.methodLink RJ2 96 yJ2_checkBoundsBeginEnd_d044e, Cond.static yJ2_checkBoundsBeginEnd_d044e, Cond.code yJ2_checkBoundsBeginEnd_d044e cJ2_checkBoundsBeginEnd_d044e 3 none, Cond.methodLink RJ2 48 yJ2_length_9d52b, Cond.static yJ2_length_9d52b, Cond.code yJ2_length_9d52b cJ2_length_9d52b 1 (some .int), Cond.methodLink RJ2 241 yJ0_checkBoundsBeginEnd_23922, Cond.static yJ0_checkBoundsBeginEnd_23922, Cond.code yJ0_checkBoundsBeginEnd_23922 cJ0_checkBoundsBeginEnd_23922 3 none, Cond.fieldLink RJ0 1053 "jdk/internal/util/Preconditions" "SIOOBE_FORMATTER" "Ljava/util/function/BiFunction;", Cond.methodLink RJ0 1062 yJ3_checkFromToIndex_8c36e, Cond.static yJ3_checkFromToIndex_8c36e, Cond.initialized RJ3, Cond.code yJ3_checkFromToIndex_8c36e cJ3_checkFromToIndex_8c36e 4 (some .int), Cond.methodLink RJ2 244 yJ2_indexOfCharUnsafe_4cfef]
def wsX2_city_r5 : List Cond := [Cond.static yJ2_indexOfCharUnsafe_4cfef, Cond.code yJ2_indexOfCharUnsafe_4cfef cJ2_indexOfCharUnsafe_4cfef 5 (some .int), Cond.methodLink RJ2 71 yJ2_getChar_3b067, Cond.static yJ2_getChar_3b067, Cond.code yJ2_getChar_3b067 cJ2_getChar_3b067 2 (some .char), Cond.fieldLink RJ2 44 "java/lang/StringUTF16" "$assertionsDisabled" "Z", Cond.fieldLink RJ2 59 "java/lang/StringUTF16" "HI_BYTE_SHIFT" "I", Cond.fieldLink RJ2 63 "java/lang/StringUTF16" "LO_BYTE_SHIFT" "I", Cond.methodLink RJ2 232 yJ2_indexOfSupplementary_4cfef, Cond.static yJ2_indexOfSupplementary_4cfef, Cond.code yJ2_indexOfSupplementary_4cfef cJ2_indexOfSupplementary_4cfef 7 (some .int), Cond.methodLink RJ2 164 yJ11_isValidCodePoint_9a6ad, Cond.static yJ11_isValidCodePoint_9a6ad, Cond.initialized RJ11, Cond.code yJ11_isValidCodePoint_9a6ad cJ11_isValidCodePoint_9a6ad 2 (some .boolean), Cond.methodLink RJ2 157 yJ11_highSurrogate_5068e, Cond.static yJ11_highSurrogate_5068e, Cond.code yJ11_highSurrogate_5068e cJ11_highSurrogate_5068e 1 (some .char), Cond.constant RJ11 110 (55232), Cond.methodLink RJ2 161 yJ11_lowSurrogate_5068e, Cond.static yJ11_lowSurrogate_5068e, Cond.code yJ11_lowSurrogate_5068e cJ11_lowSurrogate_5068e 1 (some .char), Cond.constant RJ11 76 (56320), Cond.methodLink RX0 23 yX0_isDigitFrom]
def wsX2_city_r6 : List Cond := [Cond.instanceMethod yX0_isDigitFrom, Cond.selects RX0 yX0_isDigitFrom yX0_isDigitFrom, Cond.code yX0_isDigitFrom cX0_isDigitFrom 3 (some .boolean), Cond.static yX2_isWithin, Cond.initialized RX2, Cond.code yX2_isWithin cX2_isWithin 3 (some .boolean), Cond.methodLink RX0 41 yX0_fitsBehindSites, Cond.instanceMethod yX0_fitsBehindSites, Cond.selects RX0 yX0_fitsBehindSites yX0_fitsBehindSites, Cond.code yX0_fitsBehindSites cX0_fitsBehindSites 4 (some .boolean), Cond.methodLink RX2 72 yX0_siteCount, Cond.instanceMethod yX0_siteCount, Cond.selects RX0 yX0_siteCount yX0_siteCount, Cond.code yX0_siteCount cX0_siteCount 1 (some .int), Cond.methodLink RX2 75 yX0_kindOf, Cond.instanceMethod yX0_kindOf, Cond.selects RX0 yX0_kindOf yX0_kindOf, Cond.code yX0_kindOf cX0_kindOf 2 (some .int), Cond.methodLink RX2 79 yX0_wantOf, Cond.instanceMethod yX0_wantOf, Cond.selects RX0 yX0_wantOf yX0_wantOf, Cond.code yX0_wantOf cX0_wantOf 2 (some .int), Cond.methodLink RX0 38 yX0_digitAt, Cond.instanceMethod yX0_digitAt]
def wsX2_city_r7 : List Cond := [Cond.selects RX0 yX0_digitAt yX0_digitAt, Cond.code yX0_digitAt cX0_digitAt 2 (some .int), Cond.methodLink RX2 82 yX0_sunTold, Cond.instanceMethod yX0_sunTold, Cond.selects RX0 yX0_sunTold yX0_sunTold, Cond.code yX0_sunTold cX0_sunTold 1 (some .int), Cond.methodLink RX2 85 yX1_begin, Cond.instanceMethod yX1_begin, Cond.selects RX1 yX1_begin yX1_begin, Cond.initialized RX1, Cond.code yX1_begin cX1_begin 3 none, Cond.fieldLink RX1 36 "SnowTerm$Term" "day" "I", Cond.fieldLink RX1 40 "SnowTerm$Term" "sun" "I", Cond.fieldLink RX1 43 "SnowTerm$Term" "cost" "I", Cond.fieldLink RX1 46 "SnowTerm$Term" "praise" "I", Cond.fieldLink RX1 49 "SnowTerm$Term" "foundCount" "I", Cond.fieldLink RX1 9 "SnowTerm$Term" "snow" "[I", Cond.fieldLink RX1 15 "SnowTerm$Term" "snowAtDusk" "[I", Cond.fieldLink RX1 18 "SnowTerm$Term" "feet" "[I", Cond.fieldLink RX1 21 "SnowTerm$Term" "brought" "[I", Cond.methodLink RX2 61 yX0_clear, Cond.instanceMethod yX0_clear, Cond.selects RX0 yX0_clear yX0_clear, Cond.code yX0_clear cX0_clear 2 (some .int)]
def wsX2_city : List Cond := .code yX2_city cX2_city 2 (some .int) :: ((wsX2_city_r1 ++ (wsX2_city_r2 ++ (wsX2_city_r3 ++ (wsX2_city_r4 ++ (wsX2_city_r5 ++ (wsX2_city_r6 ++ wsX2_city_r7)))))) ++ wsX20 ++ wsX00 ++ wsX10)
def wsX2_isSite : List Cond := .code yX2_isSite cX2_isSite 2 (some .boolean) :: ([.fieldLink RX2 39 "SnowTerm" "sites" "I"] ++ wsX20)
def wsX2_melting : List Cond := .code yX2_melting cX2_melting 4 (some .int) :: ([])
def wsX2_meltsNow : List Cond := .code yX2_meltsNow cX2_meltsNow 2 (some .int) :: ([.fieldLink RX2 16 "SnowTerm" "kinds" "[I", .fieldLink RX2 26 "SnowTerm" "now" "LSnowTerm$Term;", .fieldLink RX2 121 "SnowTerm$Term" "sun" "I", .fieldLink RX2 95 "SnowTerm$Term" "feet" "[I", .methodLink RX2 243 yX2_melting, .static yX2_melting, .initialized RX2, .code yX2_melting cX2_melting 4 (some .int)] ++ wsX20 ++ wsX10)
def wsX2_isKeptWith : List Cond := .code yX2_isKeptWith cX2_isKeptWith 3 (some .boolean) :: ([.fieldLink RX2 20 "SnowTerm" "wants" "[I"] ++ wsX20)
def wsX2_about : List Cond := .code yX2_about cX2_about 3 (some .int) :: ([.fieldLink RX2 16 "SnowTerm" "kinds" "[I", .fieldLink RX2 20 "SnowTerm" "wants" "[I", .fieldLink RX2 26 "SnowTerm" "now" "LSnowTerm$Term;", .fieldLink RX2 92 "SnowTerm$Term" "snow" "[I", .fieldLink RX2 95 "SnowTerm$Term" "feet" "[I", .fieldLink RX2 105 "SnowTerm$Term" "brought" "[I", .methodLink RX2 89 yX2_isSite, .instanceMethod yX2_isSite, .selects RX2 yX2_isSite yX2_isSite, .initialized RX2, .code yX2_isSite cX2_isSite 2 (some .boolean), .fieldLink RX2 39 "SnowTerm" "sites" "I", .methodLink RX2 98 yX2_meltsNow, .instanceMethod yX2_meltsNow, .selects RX2 yX2_meltsNow yX2_meltsNow, .code yX2_meltsNow cX2_meltsNow 2 (some .int), .fieldLink RX2 121 "SnowTerm$Term" "sun" "I", .methodLink RX2 243 yX2_melting, .static yX2_melting, .code yX2_melting cX2_melting 4 (some .int), .methodLink RX2 101 yX2_isKeptWith, .instanceMethod yX2_isKeptWith, .selects RX2 yX2_isKeptWith yX2_isKeptWith, .code yX2_isKeptWith cX2_isKeptWith 3 (some .boolean)] ++ wsX20 ++ wsX10)
def wsX2_isOfKind : List Cond := .code yX2_isOfKind cX2_isOfKind 2 (some .boolean) :: ([])
def wsX2_as : List Cond := .code yX2_as cX2_as 3 (some .int) :: ([.fieldLink RX2 16 "SnowTerm" "kinds" "[I", .methodLink RX2 89 yX2_isSite, .instanceMethod yX2_isSite, .selects RX2 yX2_isSite yX2_isSite, .initialized RX2, .code yX2_isSite cX2_isSite 2 (some .boolean), .fieldLink RX2 39 "SnowTerm" "sites" "I", .methodLink RX2 50 yX2_isWithin, .static yX2_isWithin, .code yX2_isWithin cX2_isWithin 3 (some .boolean), .methodLink RX2 108 yX2_isOfKind, .static yX2_isOfKind, .code yX2_isOfKind cX2_isOfKind 2 (some .boolean)] ++ wsX20)
def wsX2_deepened : List Cond := .code yX2_deepened cX2_deepened 2 (some .int) :: ([.methodLink RX2 246 Lib.Math.min.name, .static Lib.Math.min.name, .initialized "java/lang/Math", .code Lib.Math.min.name Lib.Math.min.code 2 (some .int)])
def wsX2_priceAt : List Cond := .code yX2_priceAt cX2_priceAt 1 (some .int) :: ([])
def wsX2_bring : List Cond := .code yX2_bring cX2_bring 3 (some .int) :: ([.fieldLink RX2 26 "SnowTerm" "now" "LSnowTerm$Term;", .fieldLink RX2 105 "SnowTerm$Term" "brought" "[I", .fieldLink RX2 92 "SnowTerm$Term" "snow" "[I", .fieldLink RX2 115 "SnowTerm$Term" "cost" "I", .methodLink RX2 89 yX2_isSite, .instanceMethod yX2_isSite, .selects RX2 yX2_isSite yX2_isSite, .initialized RX2, .code yX2_isSite cX2_isSite 2 (some .boolean), .fieldLink RX2 39 "SnowTerm" "sites" "I", .methodLink RX2 50 yX2_isWithin, .static yX2_isWithin, .code yX2_isWithin cX2_isWithin 3 (some .boolean), .methodLink RX2 111 yX2_deepened, .static yX2_deepened, .code yX2_deepened cX2_deepened 2 (some .int), .methodLink RX2 246 Lib.Math.min.name, .static Lib.Math.min.name, .initialized "java/lang/Math", .code Lib.Math.min.name Lib.Math.min.code 2 (some .int), .methodLink RX2 118 yX2_priceAt, .static yX2_priceAt, .code yX2_priceAt cX2_priceAt 1 (some .int)] ++ wsX20 ++ wsX10)
def wsX2_tread : List Cond := .code yX2_tread cX2_tread 4 (some .int) :: ([.fieldLink RX2 26 "SnowTerm" "now" "LSnowTerm$Term;", .fieldLink RX2 95 "SnowTerm$Term" "feet" "[I", .methodLink RX2 89 yX2_isSite, .instanceMethod yX2_isSite, .selects RX2 yX2_isSite yX2_isSite, .initialized RX2, .code yX2_isSite cX2_isSite 2 (some .boolean), .fieldLink RX2 39 "SnowTerm" "sites" "I", .methodLink RX2 50 yX2_isWithin, .static yX2_isWithin, .code yX2_isWithin cX2_isWithin 3 (some .boolean)] ++ wsX20 ++ wsX10)
def wsX2_sun : List Cond := .code yX2_sun cX2_sun 3 (some .int) :: ([.fieldLink RX2 39 "SnowTerm" "sites" "I", .fieldLink RX2 26 "SnowTerm" "now" "LSnowTerm$Term;", .fieldLink RX2 121 "SnowTerm$Term" "sun" "I", .methodLink RX2 50 yX2_isWithin, .static yX2_isWithin, .initialized RX2, .code yX2_isWithin cX2_isWithin 3 (some .boolean)] ++ wsX20 ++ wsX10)
def wsX2_leftOf : List Cond := .code yX2_leftOf cX2_leftOf 2 (some .int) :: ([])
def wsX2_keptIn : List Cond := .code yX2_keptIn cX2_keptIn 4 (some .int) :: ([.fieldLink RX2 39 "SnowTerm" "sites" "I", .methodLink RX2 101 yX2_isKeptWith, .instanceMethod yX2_isKeptWith, .selects RX2 yX2_isKeptWith yX2_isKeptWith, .initialized RX2, .code yX2_isKeptWith cX2_isKeptWith 3 (some .boolean), .fieldLink RX2 20 "SnowTerm" "wants" "[I"] ++ wsX20)
def wsX2_meltAll : List Cond := .code yX2_meltAll cX2_meltAll 4 (some .int) :: ([.fieldLink RX2 39 "SnowTerm" "sites" "I", .fieldLink RX2 16 "SnowTerm" "kinds" "[I", .fieldLink RX2 26 "SnowTerm" "now" "LSnowTerm$Term;", .fieldLink RX2 95 "SnowTerm$Term" "feet" "[I", .methodLink RX2 243 yX2_melting, .static yX2_melting, .initialized RX2, .code yX2_melting cX2_melting 4 (some .int), .methodLink RX2 251 yX2_leftOf, .static yX2_leftOf, .code yX2_leftOf cX2_leftOf 2 (some .int), .methodLink RX2 197 yX2_keptIn, .instanceMethod yX2_keptIn, .selects RX2 yX2_keptIn yX2_keptIn, .code yX2_keptIn cX2_keptIn 4 (some .int), .methodLink RX2 101 yX2_isKeptWith, .instanceMethod yX2_isKeptWith, .selects RX2 yX2_isKeptWith yX2_isKeptWith, .code yX2_isKeptWith cX2_isKeptWith 3 (some .boolean), .fieldLink RX2 20 "SnowTerm" "wants" "[I"] ++ wsX20 ++ wsX10)
def wsX2_day_r1 : List Cond := [Cond.fieldLink RX2 39 "SnowTerm" "sites" "I", Cond.fieldLink RX2 26 "SnowTerm" "now" "LSnowTerm$Term;", Cond.fieldLink RX2 92 "SnowTerm$Term" "snow" "[I", Cond.fieldLink RX2 121 "SnowTerm$Term" "sun" "I", Cond.methodLink RX2 124 yX2_meltAll, Cond.instanceMethod yX2_meltAll, Cond.selects RX2 yX2_meltAll yX2_meltAll, Cond.initialized RX2, Cond.code yX2_meltAll cX2_meltAll 4 (some .int), Cond.fieldLink RX2 16 "SnowTerm" "kinds" "[I", Cond.fieldLink RX2 95 "SnowTerm$Term" "feet" "[I", Cond.methodLink RX2 243 yX2_melting, Cond.static yX2_melting, Cond.code yX2_melting cX2_melting 4 (some .int), Cond.methodLink RX2 251 yX2_leftOf, Cond.static yX2_leftOf, Cond.code yX2_leftOf cX2_leftOf 2 (some .int), Cond.methodLink RX2 197 yX2_keptIn, Cond.instanceMethod yX2_keptIn, Cond.selects RX2 yX2_keptIn yX2_keptIn, Cond.code yX2_keptIn cX2_keptIn 4 (some .int), Cond.methodLink RX2 101 yX2_isKeptWith, Cond.instanceMethod yX2_isKeptWith, Cond.selects RX2 yX2_isKeptWith yX2_isKeptWith]
def wsX2_day_r2 : List Cond := [Cond.code yX2_isKeptWith cX2_isKeptWith 3 (some .boolean), Cond.fieldLink RX2 20 "SnowTerm" "wants" "[I", Cond.methodLink RX2 128 yX1_endDay, Cond.instanceMethod yX1_endDay, Cond.selects RX1 yX1_endDay yX1_endDay, Cond.initialized RX1, Cond.code yX1_endDay cX1_endDay 3 none, Cond.fieldLink RX1 36 "SnowTerm$Term" "day" "I", Cond.fieldLink RX1 46 "SnowTerm$Term" "praise" "I", Cond.fieldLink RX1 15 "SnowTerm$Term" "snowAtDusk" "[I", Cond.fieldLink RX1 9 "SnowTerm$Term" "snow" "[I", Cond.fieldLink RX1 21 "SnowTerm$Term" "brought" "[I"]
def wsX2_day : List Cond := .code yX2_day cX2_day 2 (some .int) :: ((wsX2_day_r1 ++ wsX2_day_r2) ++ wsX20 ++ wsX10)
def wsX2_loadsNeeded : List Cond := .code yX2_loadsNeeded cX2_loadsNeeded 4 (some .int) :: ([.fieldLink RX2 20 "SnowTerm" "wants" "[I", .fieldLink RX2 26 "SnowTerm" "now" "LSnowTerm$Term;", .fieldLink RX2 92 "SnowTerm$Term" "snow" "[I", .methodLink RX2 254 Lib.Math.max.name, .static Lib.Math.max.name, .initialized "java/lang/Math", .code Lib.Math.max.name Lib.Math.max.code 2 (some .int), .methodLink RX2 98 yX2_meltsNow, .instanceMethod yX2_meltsNow, .selects RX2 yX2_meltsNow yX2_meltsNow, .initialized RX2, .code yX2_meltsNow cX2_meltsNow 2 (some .int), .fieldLink RX2 16 "SnowTerm" "kinds" "[I", .fieldLink RX2 121 "SnowTerm$Term" "sun" "I", .fieldLink RX2 95 "SnowTerm$Term" "feet" "[I", .methodLink RX2 243 yX2_melting, .static yX2_melting, .code yX2_melting cX2_melting 4 (some .int)] ++ wsX20 ++ wsX10)
def wsX2_need_r1 : List Cond := [Cond.methodLink RX2 89 yX2_isSite, Cond.instanceMethod yX2_isSite, Cond.selects RX2 yX2_isSite yX2_isSite, Cond.initialized RX2, Cond.code yX2_isSite cX2_isSite 2 (some .boolean), Cond.fieldLink RX2 39 "SnowTerm" "sites" "I", Cond.methodLink RX2 50 yX2_isWithin, Cond.static yX2_isWithin, Cond.code yX2_isWithin cX2_isWithin 3 (some .boolean), Cond.methodLink RX2 131 yX2_loadsNeeded, Cond.instanceMethod yX2_loadsNeeded, Cond.selects RX2 yX2_loadsNeeded yX2_loadsNeeded, Cond.code yX2_loadsNeeded cX2_loadsNeeded 4 (some .int), Cond.fieldLink RX2 20 "SnowTerm" "wants" "[I", Cond.fieldLink RX2 26 "SnowTerm" "now" "LSnowTerm$Term;", Cond.fieldLink RX2 92 "SnowTerm$Term" "snow" "[I", Cond.methodLink RX2 254 Lib.Math.max.name, Cond.static Lib.Math.max.name, Cond.initialized "java/lang/Math", Cond.code Lib.Math.max.name Lib.Math.max.code 2 (some .int), Cond.methodLink RX2 98 yX2_meltsNow, Cond.instanceMethod yX2_meltsNow, Cond.selects RX2 yX2_meltsNow yX2_meltsNow, Cond.code yX2_meltsNow cX2_meltsNow 2 (some .int)]
def wsX2_need_r2 : List Cond := [Cond.fieldLink RX2 16 "SnowTerm" "kinds" "[I", Cond.fieldLink RX2 121 "SnowTerm$Term" "sun" "I", Cond.fieldLink RX2 95 "SnowTerm$Term" "feet" "[I", Cond.methodLink RX2 243 yX2_melting, Cond.static yX2_melting, Cond.code yX2_melting cX2_melting 4 (some .int)]
def wsX2_need : List Cond := .code yX2_need cX2_need 3 (some .int) :: ((wsX2_need_r1 ++ wsX2_need_r2) ++ wsX20 ++ wsX10)
def wsX2_tellNeeds : List Cond := .code yX2_tellNeeds cX2_tellNeeds 3 none :: ([.fieldLink RX2 39 "SnowTerm" "sites" "I", .fieldLink RX2 36 "SnowTerm" "needs" "[I", .methodLink RX2 131 yX2_loadsNeeded, .instanceMethod yX2_loadsNeeded, .selects RX2 yX2_loadsNeeded yX2_loadsNeeded, .initialized RX2, .code yX2_loadsNeeded cX2_loadsNeeded 4 (some .int), .fieldLink RX2 20 "SnowTerm" "wants" "[I", .fieldLink RX2 26 "SnowTerm" "now" "LSnowTerm$Term;", .fieldLink RX2 92 "SnowTerm$Term" "snow" "[I", .methodLink RX2 254 Lib.Math.max.name, .static Lib.Math.max.name, .initialized "java/lang/Math", .code Lib.Math.max.name Lib.Math.max.code 2 (some .int), .methodLink RX2 98 yX2_meltsNow, .instanceMethod yX2_meltsNow, .selects RX2 yX2_meltsNow yX2_meltsNow, .code yX2_meltsNow cX2_meltsNow 2 (some .int), .fieldLink RX2 16 "SnowTerm" "kinds" "[I", .fieldLink RX2 121 "SnowTerm$Term" "sun" "I", .fieldLink RX2 95 "SnowTerm$Term" "feet" "[I", .methodLink RX2 243 yX2_melting, .static yX2_melting, .code yX2_melting cX2_melting 4 (some .int)] ++ wsX20 ++ wsX10)
def wsX2_hasBit : List Cond := .code yX2_hasBit cX2_hasBit 2 (some .boolean) :: ([])
def wsX2_loadsOf : List Cond := .code yX2_loadsOf cX2_loadsOf 4 (some .int) :: ([.fieldLink RX2 39 "SnowTerm" "sites" "I", .fieldLink RX2 36 "SnowTerm" "needs" "[I", .methodLink RX2 260 yX2_hasBit, .static yX2_hasBit, .initialized RX2, .code yX2_hasBit cX2_hasBit 2 (some .boolean)] ++ wsX20)
def wsJ6_bitCount_0f7a4 : List Cond := .code yJ6_bitCount_0f7a4 cJ6_bitCount_0f7a4 1 (some .int) :: ([.constant RJ6 265 (1431655765), .constant RJ6 266 (858993459), .constant RJ6 267 (252645135)])
def wsX2_costOf : List Cond := .code yX2_costOf cX2_costOf 4 (some .int) :: ([.fieldLink RX2 39 "SnowTerm" "sites" "I", .fieldLink RX2 36 "SnowTerm" "needs" "[I", .methodLink RX2 260 yX2_hasBit, .static yX2_hasBit, .initialized RX2, .code yX2_hasBit cX2_hasBit 2 (some .boolean), .methodLink RX2 118 yX2_priceAt, .static yX2_priceAt, .code yX2_priceAt cX2_priceAt 1 (some .int)] ++ wsX20)
def wsX2_isBetterPlan : List Cond := .code yX2_isBetterPlan cX2_isBetterPlan 4 (some .boolean) :: ([.methodLink RX2 140 yJ6_bitCount_0f7a4, .static yJ6_bitCount_0f7a4, .initialized RJ6, .code yJ6_bitCount_0f7a4 cJ6_bitCount_0f7a4 1 (some .int), .constant RJ6 265 (1431655765), .constant RJ6 266 (858993459), .constant RJ6 267 (252645135), .methodLink RX2 148 yX2_costOf, .instanceMethod yX2_costOf, .selects RX2 yX2_costOf yX2_costOf, .initialized RX2, .code yX2_costOf cX2_costOf 4 (some .int), .fieldLink RX2 39 "SnowTerm" "sites" "I", .fieldLink RX2 36 "SnowTerm" "needs" "[I", .methodLink RX2 260 yX2_hasBit, .static yX2_hasBit, .code yX2_hasBit cX2_hasBit 2 (some .boolean), .methodLink RX2 118 yX2_priceAt, .static yX2_priceAt, .code yX2_priceAt cX2_priceAt 1 (some .int)] ++ wsX20)
def wsX2_bestPlan_r1 : List Cond := [Cond.fieldLink RX2 39 "SnowTerm" "sites" "I", Cond.methodLink RX2 145 yX2_loadsOf, Cond.instanceMethod yX2_loadsOf, Cond.selects RX2 yX2_loadsOf yX2_loadsOf, Cond.initialized RX2, Cond.code yX2_loadsOf cX2_loadsOf 4 (some .int), Cond.fieldLink RX2 36 "SnowTerm" "needs" "[I", Cond.methodLink RX2 260 yX2_hasBit, Cond.static yX2_hasBit, Cond.code yX2_hasBit cX2_hasBit 2 (some .boolean), Cond.methodLink RX2 257 yX2_isBetterPlan, Cond.instanceMethod yX2_isBetterPlan, Cond.selects RX2 yX2_isBetterPlan yX2_isBetterPlan, Cond.code yX2_isBetterPlan cX2_isBetterPlan 4 (some .boolean), Cond.methodLink RX2 140 yJ6_bitCount_0f7a4, Cond.static yJ6_bitCount_0f7a4, Cond.initialized RJ6, Cond.code yJ6_bitCount_0f7a4 cJ6_bitCount_0f7a4 1 (some .int), Cond.constant RJ6 265 (1431655765), Cond.constant RJ6 266 (858993459), Cond.constant RJ6 267 (252645135), Cond.methodLink RX2 148 yX2_costOf, Cond.instanceMethod yX2_costOf, Cond.selects RX2 yX2_costOf yX2_costOf]
def wsX2_bestPlan_r2 : List Cond := [Cond.code yX2_costOf cX2_costOf 4 (some .int), Cond.methodLink RX2 118 yX2_priceAt, Cond.static yX2_priceAt, Cond.code yX2_priceAt cX2_priceAt 1 (some .int)]
def wsX2_bestPlan : List Cond := .code yX2_bestPlan cX2_bestPlan 5 (some .int) :: ((wsX2_bestPlan_r1 ++ wsX2_bestPlan_r2) ++ wsX20)
def wsX2_plan_r1 : List Cond := [Cond.fieldLink RX2 39 "SnowTerm" "sites" "I", Cond.methodLink RX2 50 yX2_isWithin, Cond.static yX2_isWithin, Cond.initialized RX2, Cond.code yX2_isWithin cX2_isWithin 3 (some .boolean), Cond.methodLink RX2 134 yX2_tellNeeds, Cond.instanceMethod yX2_tellNeeds, Cond.selects RX2 yX2_tellNeeds yX2_tellNeeds, Cond.code yX2_tellNeeds cX2_tellNeeds 3 none, Cond.fieldLink RX2 36 "SnowTerm" "needs" "[I", Cond.methodLink RX2 131 yX2_loadsNeeded, Cond.instanceMethod yX2_loadsNeeded, Cond.selects RX2 yX2_loadsNeeded yX2_loadsNeeded, Cond.code yX2_loadsNeeded cX2_loadsNeeded 4 (some .int), Cond.fieldLink RX2 20 "SnowTerm" "wants" "[I", Cond.fieldLink RX2 26 "SnowTerm" "now" "LSnowTerm$Term;", Cond.fieldLink RX2 92 "SnowTerm$Term" "snow" "[I", Cond.methodLink RX2 254 Lib.Math.max.name, Cond.static Lib.Math.max.name, Cond.initialized "java/lang/Math", Cond.code Lib.Math.max.name Lib.Math.max.code 2 (some .int), Cond.methodLink RX2 98 yX2_meltsNow, Cond.instanceMethod yX2_meltsNow, Cond.selects RX2 yX2_meltsNow yX2_meltsNow]
def wsX2_plan_r2 : List Cond := [Cond.code yX2_meltsNow cX2_meltsNow 2 (some .int), Cond.fieldLink RX2 16 "SnowTerm" "kinds" "[I", Cond.fieldLink RX2 121 "SnowTerm$Term" "sun" "I", Cond.fieldLink RX2 95 "SnowTerm$Term" "feet" "[I", Cond.methodLink RX2 243 yX2_melting, Cond.static yX2_melting, Cond.code yX2_melting cX2_melting 4 (some .int), Cond.methodLink RX2 137 yX2_bestPlan, Cond.instanceMethod yX2_bestPlan, Cond.selects RX2 yX2_bestPlan yX2_bestPlan, Cond.code yX2_bestPlan cX2_bestPlan 5 (some .int), Cond.methodLink RX2 145 yX2_loadsOf, Cond.instanceMethod yX2_loadsOf, Cond.selects RX2 yX2_loadsOf yX2_loadsOf, Cond.code yX2_loadsOf cX2_loadsOf 4 (some .int), Cond.methodLink RX2 260 yX2_hasBit, Cond.static yX2_hasBit, Cond.code yX2_hasBit cX2_hasBit 2 (some .boolean), Cond.methodLink RX2 257 yX2_isBetterPlan, Cond.instanceMethod yX2_isBetterPlan, Cond.selects RX2 yX2_isBetterPlan yX2_isBetterPlan, Cond.code yX2_isBetterPlan cX2_isBetterPlan 4 (some .boolean), Cond.methodLink RX2 140 yJ6_bitCount_0f7a4, Cond.static yJ6_bitCount_0f7a4]
def wsX2_plan_r3 : List Cond := [Cond.initialized RJ6, Cond.code yJ6_bitCount_0f7a4 cJ6_bitCount_0f7a4 1 (some .int), Cond.constant RJ6 265 (1431655765), Cond.constant RJ6 266 (858993459), Cond.constant RJ6 267 (252645135), Cond.methodLink RX2 148 yX2_costOf, Cond.instanceMethod yX2_costOf, Cond.selects RX2 yX2_costOf yX2_costOf, Cond.code yX2_costOf cX2_costOf 4 (some .int), Cond.methodLink RX2 118 yX2_priceAt, Cond.static yX2_priceAt, Cond.code yX2_priceAt cX2_priceAt 1 (some .int)]
def wsX2_plan : List Cond := .code yX2_plan cX2_plan 5 (some .int) :: ((wsX2_plan_r1 ++ (wsX2_plan_r2 ++ wsX2_plan_r3)) ++ wsX20 ++ wsX10)
def wsX2_deepWithLoadsOf : List Cond := .code yX2_deepWithLoadsOf cX2_deepWithLoadsOf 3 (some .int) :: ([.fieldLink RX2 26 "SnowTerm" "now" "LSnowTerm$Term;", .fieldLink RX2 266 "SnowTerm$Term" "snowAtDusk" "[I", .fieldLink RX2 105 "SnowTerm$Term" "brought" "[I", .methodLink RX2 89 yX2_isSite, .instanceMethod yX2_isSite, .selects RX2 yX2_isSite yX2_isSite, .initialized RX2, .code yX2_isSite cX2_isSite 2 (some .boolean), .fieldLink RX2 39 "SnowTerm" "sites" "I", .methodLink RX2 111 yX2_deepened, .static yX2_deepened, .code yX2_deepened cX2_deepened 2 (some .int), .methodLink RX2 246 Lib.Math.min.name, .static Lib.Math.min.name, .initialized "java/lang/Math", .code Lib.Math.min.name Lib.Math.min.code 2 (some .int)] ++ wsX20 ++ wsX10)
def wsX2_keptIfSwapped_r1 : List Cond := [Cond.fieldLink RX2 39 "SnowTerm" "sites" "I", Cond.fieldLink RX2 26 "SnowTerm" "now" "LSnowTerm$Term;", Cond.fieldLink RX2 92 "SnowTerm$Term" "snow" "[I", Cond.methodLink RX2 263 yX2_deepWithLoadsOf, Cond.instanceMethod yX2_deepWithLoadsOf, Cond.selects RX2 yX2_deepWithLoadsOf yX2_deepWithLoadsOf, Cond.initialized RX2, Cond.code yX2_deepWithLoadsOf cX2_deepWithLoadsOf 3 (some .int), Cond.fieldLink RX2 266 "SnowTerm$Term" "snowAtDusk" "[I", Cond.fieldLink RX2 105 "SnowTerm$Term" "brought" "[I", Cond.methodLink RX2 89 yX2_isSite, Cond.instanceMethod yX2_isSite, Cond.selects RX2 yX2_isSite yX2_isSite, Cond.code yX2_isSite cX2_isSite 2 (some .boolean), Cond.methodLink RX2 111 yX2_deepened, Cond.static yX2_deepened, Cond.code yX2_deepened cX2_deepened 2 (some .int), Cond.methodLink RX2 246 Lib.Math.min.name, Cond.static Lib.Math.min.name, Cond.initialized "java/lang/Math", Cond.code Lib.Math.min.name Lib.Math.min.code 2 (some .int), Cond.methodLink RX2 101 yX2_isKeptWith, Cond.instanceMethod yX2_isKeptWith, Cond.selects RX2 yX2_isKeptWith yX2_isKeptWith]
def wsX2_keptIfSwapped_r2 : List Cond := [Cond.code yX2_isKeptWith cX2_isKeptWith 3 (some .boolean), Cond.fieldLink RX2 20 "SnowTerm" "wants" "[I"]
def wsX2_keptIfSwapped : List Cond := .code yX2_keptIfSwapped cX2_keptIfSwapped 6 (some .int) :: ((wsX2_keptIfSwapped_r1 ++ wsX2_keptIfSwapped_r2) ++ wsX20 ++ wsX10)
def wsX2_bestError_r1 : List Cond := [Cond.fieldLink RX2 26 "SnowTerm" "now" "LSnowTerm$Term;", Cond.fieldLink RX2 92 "SnowTerm$Term" "snow" "[I", Cond.fieldLink RX2 39 "SnowTerm" "sites" "I", Cond.methodLink RX2 197 yX2_keptIn, Cond.instanceMethod yX2_keptIn, Cond.selects RX2 yX2_keptIn yX2_keptIn, Cond.initialized RX2, Cond.code yX2_keptIn cX2_keptIn 4 (some .int), Cond.methodLink RX2 101 yX2_isKeptWith, Cond.instanceMethod yX2_isKeptWith, Cond.selects RX2 yX2_isKeptWith yX2_isKeptWith, Cond.code yX2_isKeptWith cX2_isKeptWith 3 (some .boolean), Cond.fieldLink RX2 20 "SnowTerm" "wants" "[I", Cond.methodLink RX2 154 yX2_keptIfSwapped, Cond.instanceMethod yX2_keptIfSwapped, Cond.selects RX2 yX2_keptIfSwapped yX2_keptIfSwapped, Cond.code yX2_keptIfSwapped cX2_keptIfSwapped 6 (some .int), Cond.methodLink RX2 263 yX2_deepWithLoadsOf, Cond.instanceMethod yX2_deepWithLoadsOf, Cond.selects RX2 yX2_deepWithLoadsOf yX2_deepWithLoadsOf, Cond.code yX2_deepWithLoadsOf cX2_deepWithLoadsOf 3 (some .int), Cond.fieldLink RX2 266 "SnowTerm$Term" "snowAtDusk" "[I", Cond.fieldLink RX2 105 "SnowTerm$Term" "brought" "[I", Cond.methodLink RX2 89 yX2_isSite]
def wsX2_bestError_r2 : List Cond := [Cond.instanceMethod yX2_isSite, Cond.selects RX2 yX2_isSite yX2_isSite, Cond.code yX2_isSite cX2_isSite 2 (some .boolean), Cond.methodLink RX2 111 yX2_deepened, Cond.static yX2_deepened, Cond.code yX2_deepened cX2_deepened 2 (some .int), Cond.methodLink RX2 246 Lib.Math.min.name, Cond.static Lib.Math.min.name, Cond.initialized "java/lang/Math", Cond.code Lib.Math.min.name Lib.Math.min.code 2 (some .int)]
def wsX2_bestError : List Cond := .code yX2_bestError cX2_bestError 6 (some .int) :: ((wsX2_bestError_r1 ++ wsX2_bestError_r2) ++ wsX20 ++ wsX10)
def wsX2_error_r1 : List Cond := [Cond.fieldLink RX2 39 "SnowTerm" "sites" "I", Cond.methodLink RX2 50 yX2_isWithin, Cond.static yX2_isWithin, Cond.initialized RX2, Cond.code yX2_isWithin cX2_isWithin 3 (some .boolean), Cond.methodLink RX2 151 yX2_bestError, Cond.instanceMethod yX2_bestError, Cond.selects RX2 yX2_bestError yX2_bestError, Cond.code yX2_bestError cX2_bestError 6 (some .int), Cond.fieldLink RX2 26 "SnowTerm" "now" "LSnowTerm$Term;", Cond.fieldLink RX2 92 "SnowTerm$Term" "snow" "[I", Cond.methodLink RX2 197 yX2_keptIn, Cond.instanceMethod yX2_keptIn, Cond.selects RX2 yX2_keptIn yX2_keptIn, Cond.code yX2_keptIn cX2_keptIn 4 (some .int), Cond.methodLink RX2 101 yX2_isKeptWith, Cond.instanceMethod yX2_isKeptWith, Cond.selects RX2 yX2_isKeptWith yX2_isKeptWith, Cond.code yX2_isKeptWith cX2_isKeptWith 3 (some .boolean), Cond.fieldLink RX2 20 "SnowTerm" "wants" "[I", Cond.methodLink RX2 154 yX2_keptIfSwapped, Cond.instanceMethod yX2_keptIfSwapped, Cond.selects RX2 yX2_keptIfSwapped yX2_keptIfSwapped, Cond.code yX2_keptIfSwapped cX2_keptIfSwapped 6 (some .int)]
def wsX2_error_r2 : List Cond := [Cond.methodLink RX2 263 yX2_deepWithLoadsOf, Cond.instanceMethod yX2_deepWithLoadsOf, Cond.selects RX2 yX2_deepWithLoadsOf yX2_deepWithLoadsOf, Cond.code yX2_deepWithLoadsOf cX2_deepWithLoadsOf 3 (some .int), Cond.fieldLink RX2 266 "SnowTerm$Term" "snowAtDusk" "[I", Cond.fieldLink RX2 105 "SnowTerm$Term" "brought" "[I", Cond.methodLink RX2 89 yX2_isSite, Cond.instanceMethod yX2_isSite, Cond.selects RX2 yX2_isSite yX2_isSite, Cond.code yX2_isSite cX2_isSite 2 (some .boolean), Cond.methodLink RX2 111 yX2_deepened, Cond.static yX2_deepened, Cond.code yX2_deepened cX2_deepened 2 (some .int), Cond.methodLink RX2 246 Lib.Math.min.name, Cond.static Lib.Math.min.name, Cond.initialized "java/lang/Math", Cond.code Lib.Math.min.name Lib.Math.min.code 2 (some .int)]
def wsX2_error : List Cond := .code yX2_error cX2_error 3 (some .int) :: ((wsX2_error_r1 ++ wsX2_error_r2) ++ wsX20 ++ wsX10)
def wsX2_found : List Cond := .code yX2_found cX2_found 4 (some .int) :: ([.fieldLink RX2 26 "SnowTerm" "now" "LSnowTerm$Term;", .fieldLink RX2 16 "SnowTerm" "kinds" "[I", .fieldLink RX2 95 "SnowTerm$Term" "feet" "[I", .fieldLink RX2 161 "SnowTerm$Term" "foundCount" "I", .methodLink RX2 89 yX2_isSite, .instanceMethod yX2_isSite, .selects RX2 yX2_isSite yX2_isSite, .initialized RX2, .code yX2_isSite cX2_isSite 2 (some .boolean), .fieldLink RX2 39 "SnowTerm" "sites" "I", .methodLink RX2 50 yX2_isWithin, .static yX2_isWithin, .code yX2_isWithin cX2_isWithin 3 (some .boolean), .methodLink RX2 157 yX1_addFound, .instanceMethod yX1_addFound, .selects RX1 yX1_addFound yX1_addFound, .initialized RX1, .code yX1_addFound cX1_addFound 5 (some .boolean), .fieldLink RX1 49 "SnowTerm$Term" "foundCount" "I", .fieldLink RX1 24 "SnowTerm$Term" "foundKind" "[I", .fieldLink RX1 27 "SnowTerm$Term" "foundFeet" "[I", .fieldLink RX1 30 "SnowTerm$Term" "foundDeep" "[I", .fieldLink RX1 33 "SnowTerm$Term" "foundLeft" "[I"] ++ wsX20 ++ wsX10)
def wsX2_forget : List Cond := .code yX2_forget cX2_forget 2 (some .int) :: ([.fieldLink RX2 26 "SnowTerm" "now" "LSnowTerm$Term;", .fieldLink RX2 161 "SnowTerm$Term" "foundCount" "I"] ++ wsX20 ++ wsX10)
def wsX2_explainsAllFound : List Cond := .code yX2_explainsAllFound cX2_explainsAllFound 4 (some .boolean) :: ([.fieldLink RX2 26 "SnowTerm" "now" "LSnowTerm$Term;", .fieldLink RX2 161 "SnowTerm$Term" "foundCount" "I", .fieldLink RX2 272 "SnowTerm$Term" "foundKind" "[I", .fieldLink RX2 275 "SnowTerm$Term" "foundFeet" "[I", .fieldLink RX2 278 "SnowTerm$Term" "foundDeep" "[I", .fieldLink RX2 281 "SnowTerm$Term" "foundLeft" "[I", .methodLink RX2 243 yX2_melting, .static yX2_melting, .initialized RX2, .code yX2_melting cX2_melting 4 (some .int), .methodLink RX2 251 yX2_leftOf, .static yX2_leftOf, .code yX2_leftOf cX2_leftOf 2 (some .int)] ++ wsX20 ++ wsX10)
def wsX2_possibleSuns : List Cond := .code yX2_possibleSuns cX2_possibleSuns 3 (some .int) :: ([.methodLink RX2 269 yX2_explainsAllFound, .instanceMethod yX2_explainsAllFound, .selects RX2 yX2_explainsAllFound yX2_explainsAllFound, .initialized RX2, .code yX2_explainsAllFound cX2_explainsAllFound 4 (some .boolean), .fieldLink RX2 26 "SnowTerm" "now" "LSnowTerm$Term;", .fieldLink RX2 161 "SnowTerm$Term" "foundCount" "I", .fieldLink RX2 272 "SnowTerm$Term" "foundKind" "[I", .fieldLink RX2 275 "SnowTerm$Term" "foundFeet" "[I", .fieldLink RX2 278 "SnowTerm$Term" "foundDeep" "[I", .fieldLink RX2 281 "SnowTerm$Term" "foundLeft" "[I", .methodLink RX2 243 yX2_melting, .static yX2_melting, .code yX2_melting cX2_melting 4 (some .int), .methodLink RX2 251 yX2_leftOf, .static yX2_leftOf, .code yX2_leftOf cX2_leftOf 2 (some .int)] ++ wsX20 ++ wsX10)
def wsX2_suns : List Cond := .code yX2_suns cX2_suns 1 (some .int) :: ([.fieldLink RX2 39 "SnowTerm" "sites" "I", .methodLink RX2 164 yX2_possibleSuns, .instanceMethod yX2_possibleSuns, .selects RX2 yX2_possibleSuns yX2_possibleSuns, .initialized RX2, .code yX2_possibleSuns cX2_possibleSuns 3 (some .int), .methodLink RX2 269 yX2_explainsAllFound, .instanceMethod yX2_explainsAllFound, .selects RX2 yX2_explainsAllFound yX2_explainsAllFound, .code yX2_explainsAllFound cX2_explainsAllFound 4 (some .boolean), .fieldLink RX2 26 "SnowTerm" "now" "LSnowTerm$Term;", .fieldLink RX2 161 "SnowTerm$Term" "foundCount" "I", .fieldLink RX2 272 "SnowTerm$Term" "foundKind" "[I", .fieldLink RX2 275 "SnowTerm$Term" "foundFeet" "[I", .fieldLink RX2 278 "SnowTerm$Term" "foundDeep" "[I", .fieldLink RX2 281 "SnowTerm$Term" "foundLeft" "[I", .methodLink RX2 243 yX2_melting, .static yX2_melting, .code yX2_melting cX2_melting 4 (some .int), .methodLink RX2 251 yX2_leftOf, .static yX2_leftOf, .code yX2_leftOf cX2_leftOf 2 (some .int)] ++ wsX20 ++ wsX10)
def wsX2_leftOfDeepest : List Cond := .code yX2_leftOfDeepest cX2_leftOfDeepest 3 (some .int) :: ([.fieldLink RX2 16 "SnowTerm" "kinds" "[I", .fieldLink RX2 26 "SnowTerm" "now" "LSnowTerm$Term;", .fieldLink RX2 95 "SnowTerm$Term" "feet" "[I", .methodLink RX2 89 yX2_isSite, .instanceMethod yX2_isSite, .selects RX2 yX2_isSite yX2_isSite, .initialized RX2, .code yX2_isSite cX2_isSite 2 (some .boolean), .fieldLink RX2 39 "SnowTerm" "sites" "I", .methodLink RX2 243 yX2_melting, .static yX2_melting, .code yX2_melting cX2_melting 4 (some .int), .methodLink RX2 251 yX2_leftOf, .static yX2_leftOf, .code yX2_leftOf cX2_leftOf 2 (some .int)] ++ wsX20 ++ wsX10)
def wsX2_sunsLikeThis : List Cond := .code yX2_sunsLikeThis cX2_sunsLikeThis 7 (some .int) :: ([.methodLink RX2 290 yX2_leftOfDeepest, .instanceMethod yX2_leftOfDeepest, .selects RX2 yX2_leftOfDeepest yX2_leftOfDeepest, .initialized RX2, .code yX2_leftOfDeepest cX2_leftOfDeepest 3 (some .int), .fieldLink RX2 16 "SnowTerm" "kinds" "[I", .fieldLink RX2 26 "SnowTerm" "now" "LSnowTerm$Term;", .fieldLink RX2 95 "SnowTerm$Term" "feet" "[I", .methodLink RX2 89 yX2_isSite, .instanceMethod yX2_isSite, .selects RX2 yX2_isSite yX2_isSite, .code yX2_isSite cX2_isSite 2 (some .boolean), .fieldLink RX2 39 "SnowTerm" "sites" "I", .methodLink RX2 243 yX2_melting, .static yX2_melting, .code yX2_melting cX2_melting 4 (some .int), .methodLink RX2 251 yX2_leftOf, .static yX2_leftOf, .code yX2_leftOf cX2_leftOf 2 (some .int), .methodLink RX2 260 yX2_hasBit, .static yX2_hasBit, .code yX2_hasBit cX2_hasBit 2 (some .boolean)] ++ wsX20 ++ wsX10)
def wsX2_sunsLeftAtWorst_r1 : List Cond := [Cond.methodLink RX2 254 Lib.Math.max.name, Cond.static Lib.Math.max.name, Cond.initialized "java/lang/Math", Cond.code Lib.Math.max.name Lib.Math.max.code 2 (some .int), Cond.methodLink RX2 260 yX2_hasBit, Cond.static yX2_hasBit, Cond.initialized RX2, Cond.code yX2_hasBit cX2_hasBit 2 (some .boolean), Cond.methodLink RX2 287 yX2_sunsLikeThis, Cond.instanceMethod yX2_sunsLikeThis, Cond.selects RX2 yX2_sunsLikeThis yX2_sunsLikeThis, Cond.code yX2_sunsLikeThis cX2_sunsLikeThis 7 (some .int), Cond.methodLink RX2 290 yX2_leftOfDeepest, Cond.instanceMethod yX2_leftOfDeepest, Cond.selects RX2 yX2_leftOfDeepest yX2_leftOfDeepest, Cond.code yX2_leftOfDeepest cX2_leftOfDeepest 3 (some .int), Cond.fieldLink RX2 16 "SnowTerm" "kinds" "[I", Cond.fieldLink RX2 26 "SnowTerm" "now" "LSnowTerm$Term;", Cond.fieldLink RX2 95 "SnowTerm$Term" "feet" "[I", Cond.methodLink RX2 89 yX2_isSite, Cond.instanceMethod yX2_isSite, Cond.selects RX2 yX2_isSite yX2_isSite, Cond.code yX2_isSite cX2_isSite 2 (some .boolean), Cond.fieldLink RX2 39 "SnowTerm" "sites" "I"]
def wsX2_sunsLeftAtWorst_r2 : List Cond := [Cond.methodLink RX2 243 yX2_melting, Cond.static yX2_melting, Cond.code yX2_melting cX2_melting 4 (some .int), Cond.methodLink RX2 251 yX2_leftOf, Cond.static yX2_leftOf, Cond.code yX2_leftOf cX2_leftOf 2 (some .int)]
def wsX2_sunsLeftAtWorst : List Cond := .code yX2_sunsLeftAtWorst cX2_sunsLeftAtWorst 5 (some .int) :: ((wsX2_sunsLeftAtWorst_r1 ++ wsX2_sunsLeftAtWorst_r2) ++ wsX20 ++ wsX10)
def wsX2_bestLook_r1 : List Cond := [Cond.fieldLink RX2 39 "SnowTerm" "sites" "I", Cond.methodLink RX2 284 yX2_sunsLeftAtWorst, Cond.instanceMethod yX2_sunsLeftAtWorst, Cond.selects RX2 yX2_sunsLeftAtWorst yX2_sunsLeftAtWorst, Cond.initialized RX2, Cond.code yX2_sunsLeftAtWorst cX2_sunsLeftAtWorst 5 (some .int), Cond.methodLink RX2 254 Lib.Math.max.name, Cond.static Lib.Math.max.name, Cond.initialized "java/lang/Math", Cond.code Lib.Math.max.name Lib.Math.max.code 2 (some .int), Cond.methodLink RX2 260 yX2_hasBit, Cond.static yX2_hasBit, Cond.code yX2_hasBit cX2_hasBit 2 (some .boolean), Cond.methodLink RX2 287 yX2_sunsLikeThis, Cond.instanceMethod yX2_sunsLikeThis, Cond.selects RX2 yX2_sunsLikeThis yX2_sunsLikeThis, Cond.code yX2_sunsLikeThis cX2_sunsLikeThis 7 (some .int), Cond.methodLink RX2 290 yX2_leftOfDeepest, Cond.instanceMethod yX2_leftOfDeepest, Cond.selects RX2 yX2_leftOfDeepest yX2_leftOfDeepest, Cond.code yX2_leftOfDeepest cX2_leftOfDeepest 3 (some .int), Cond.fieldLink RX2 16 "SnowTerm" "kinds" "[I", Cond.fieldLink RX2 26 "SnowTerm" "now" "LSnowTerm$Term;", Cond.fieldLink RX2 95 "SnowTerm$Term" "feet" "[I"]
def wsX2_bestLook_r2 : List Cond := [Cond.methodLink RX2 89 yX2_isSite, Cond.instanceMethod yX2_isSite, Cond.selects RX2 yX2_isSite yX2_isSite, Cond.code yX2_isSite cX2_isSite 2 (some .boolean), Cond.methodLink RX2 243 yX2_melting, Cond.static yX2_melting, Cond.code yX2_melting cX2_melting 4 (some .int), Cond.methodLink RX2 251 yX2_leftOf, Cond.static yX2_leftOf, Cond.code yX2_leftOf cX2_leftOf 2 (some .int)]
def wsX2_bestLook : List Cond := .code yX2_bestLook cX2_bestLook 4 (some .int) :: ((wsX2_bestLook_r1 ++ wsX2_bestLook_r2) ++ wsX20 ++ wsX10)
def wsX2_look_r1 : List Cond := [Cond.fieldLink RX2 39 "SnowTerm" "sites" "I", Cond.methodLink RX2 164 yX2_possibleSuns, Cond.instanceMethod yX2_possibleSuns, Cond.selects RX2 yX2_possibleSuns yX2_possibleSuns, Cond.initialized RX2, Cond.code yX2_possibleSuns cX2_possibleSuns 3 (some .int), Cond.methodLink RX2 269 yX2_explainsAllFound, Cond.instanceMethod yX2_explainsAllFound, Cond.selects RX2 yX2_explainsAllFound yX2_explainsAllFound, Cond.code yX2_explainsAllFound cX2_explainsAllFound 4 (some .boolean), Cond.fieldLink RX2 26 "SnowTerm" "now" "LSnowTerm$Term;", Cond.fieldLink RX2 161 "SnowTerm$Term" "foundCount" "I", Cond.fieldLink RX2 272 "SnowTerm$Term" "foundKind" "[I", Cond.fieldLink RX2 275 "SnowTerm$Term" "foundFeet" "[I", Cond.fieldLink RX2 278 "SnowTerm$Term" "foundDeep" "[I", Cond.fieldLink RX2 281 "SnowTerm$Term" "foundLeft" "[I", Cond.methodLink RX2 243 yX2_melting, Cond.static yX2_melting, Cond.code yX2_melting cX2_melting 4 (some .int), Cond.methodLink RX2 251 yX2_leftOf, Cond.static yX2_leftOf, Cond.code yX2_leftOf cX2_leftOf 2 (some .int), Cond.methodLink RX2 167 yX2_bestLook, Cond.instanceMethod yX2_bestLook]
def wsX2_look_r2 : List Cond := [Cond.selects RX2 yX2_bestLook yX2_bestLook, Cond.code yX2_bestLook cX2_bestLook 4 (some .int), Cond.methodLink RX2 284 yX2_sunsLeftAtWorst, Cond.instanceMethod yX2_sunsLeftAtWorst, Cond.selects RX2 yX2_sunsLeftAtWorst yX2_sunsLeftAtWorst, Cond.code yX2_sunsLeftAtWorst cX2_sunsLeftAtWorst 5 (some .int), Cond.methodLink RX2 254 Lib.Math.max.name, Cond.static Lib.Math.max.name, Cond.initialized "java/lang/Math", Cond.code Lib.Math.max.name Lib.Math.max.code 2 (some .int), Cond.methodLink RX2 260 yX2_hasBit, Cond.static yX2_hasBit, Cond.code yX2_hasBit cX2_hasBit 2 (some .boolean), Cond.methodLink RX2 287 yX2_sunsLikeThis, Cond.instanceMethod yX2_sunsLikeThis, Cond.selects RX2 yX2_sunsLikeThis yX2_sunsLikeThis, Cond.code yX2_sunsLikeThis cX2_sunsLikeThis 7 (some .int), Cond.methodLink RX2 290 yX2_leftOfDeepest, Cond.instanceMethod yX2_leftOfDeepest, Cond.selects RX2 yX2_leftOfDeepest yX2_leftOfDeepest, Cond.code yX2_leftOfDeepest cX2_leftOfDeepest 3 (some .int), Cond.fieldLink RX2 16 "SnowTerm" "kinds" "[I", Cond.fieldLink RX2 95 "SnowTerm$Term" "feet" "[I", Cond.methodLink RX2 89 yX2_isSite]
def wsX2_look_r3 : List Cond := [Cond.instanceMethod yX2_isSite, Cond.selects RX2 yX2_isSite yX2_isSite, Cond.code yX2_isSite cX2_isSite 2 (some .boolean)]
def wsX2_look : List Cond := .code yX2_look cX2_look 1 (some .int) :: ((wsX2_look_r1 ++ (wsX2_look_r2 ++ wsX2_look_r3)) ++ wsX20 ++ wsX10)
def wsX2_seedAfter : List Cond := .code yX2_seedAfter cX2_seedAfter 1 (some .int) :: ([.constantLong RX2 236 (1103515245), .constantLong RX2 238 (12345), .constantLong RX2 240 (2147483648)])
def wsX2_drawOf : List Cond := .code yX2_drawOf cX2_drawOf 2 (some .int) :: ([.constant RX2 242 (65536)])
def wsX2_bringOneLoad : List Cond := .code yX2_bringOneLoad cX2_bringOneLoad 3 none :: ([.methodLink RX2 89 yX2_isSite, .instanceMethod yX2_isSite, .selects RX2 yX2_isSite yX2_isSite, .initialized RX2, .code yX2_isSite cX2_isSite 2 (some .boolean), .fieldLink RX2 39 "SnowTerm" "sites" "I", .methodLink RX2 111 yX2_deepened, .static yX2_deepened, .code yX2_deepened cX2_deepened 2 (some .int), .methodLink RX2 246 Lib.Math.min.name, .static Lib.Math.min.name, .initialized "java/lang/Math", .code Lib.Math.min.name Lib.Math.min.code 2 (some .int)] ++ wsX20)
def wsX2_snowIn : List Cond := .code yX2_snowIn cX2_snowIn 4 (some .int) :: ([.fieldLink RX2 39 "SnowTerm" "sites" "I"] ++ wsX20)
def wsX2_winters_r1 : List Cond := [Cond.fieldLink RX2 39 "SnowTerm" "sites" "I", Cond.fieldLink RX2 26 "SnowTerm" "now" "LSnowTerm$Term;", Cond.fieldLink RX2 92 "SnowTerm$Term" "snow" "[I", Cond.fieldLink RX2 33 "SnowTerm" "wouldBe" "[I", Cond.methodLink RX2 170 arraycopyName, Cond.native arraycopyName, Cond.static arraycopyName, Cond.initialized "java/lang/System", Cond.methodLink RX2 50 yX2_isWithin, Cond.static yX2_isWithin, Cond.initialized RX2, Cond.code yX2_isWithin cX2_isWithin 3 (some .boolean), Cond.methodLink RX2 176 yX2_seedAfter, Cond.static yX2_seedAfter, Cond.code yX2_seedAfter cX2_seedAfter 1 (some .int), Cond.constantLong RX2 236 (1103515245), Cond.constantLong RX2 238 (12345), Cond.constantLong RX2 240 (2147483648), Cond.methodLink RX2 179 yX2_drawOf, Cond.static yX2_drawOf, Cond.code yX2_drawOf cX2_drawOf 2 (some .int), Cond.constant RX2 242 (65536), Cond.methodLink RX2 182 yX2_bringOneLoad, Cond.instanceMethod yX2_bringOneLoad]
def wsX2_winters_r2 : List Cond := [Cond.selects RX2 yX2_bringOneLoad yX2_bringOneLoad, Cond.code yX2_bringOneLoad cX2_bringOneLoad 3 none, Cond.methodLink RX2 89 yX2_isSite, Cond.instanceMethod yX2_isSite, Cond.selects RX2 yX2_isSite yX2_isSite, Cond.code yX2_isSite cX2_isSite 2 (some .boolean), Cond.methodLink RX2 111 yX2_deepened, Cond.static yX2_deepened, Cond.code yX2_deepened cX2_deepened 2 (some .int), Cond.methodLink RX2 246 Lib.Math.min.name, Cond.static Lib.Math.min.name, Cond.initialized "java/lang/Math", Cond.code Lib.Math.min.name Lib.Math.min.code 2 (some .int), Cond.methodLink RX2 124 yX2_meltAll, Cond.instanceMethod yX2_meltAll, Cond.selects RX2 yX2_meltAll yX2_meltAll, Cond.code yX2_meltAll cX2_meltAll 4 (some .int), Cond.fieldLink RX2 16 "SnowTerm" "kinds" "[I", Cond.fieldLink RX2 95 "SnowTerm$Term" "feet" "[I", Cond.methodLink RX2 243 yX2_melting, Cond.static yX2_melting, Cond.code yX2_melting cX2_melting 4 (some .int), Cond.methodLink RX2 251 yX2_leftOf, Cond.static yX2_leftOf]
def wsX2_winters_r3 : List Cond := [Cond.code yX2_leftOf cX2_leftOf 2 (some .int), Cond.methodLink RX2 197 yX2_keptIn, Cond.instanceMethod yX2_keptIn, Cond.selects RX2 yX2_keptIn yX2_keptIn, Cond.code yX2_keptIn cX2_keptIn 4 (some .int), Cond.methodLink RX2 101 yX2_isKeptWith, Cond.instanceMethod yX2_isKeptWith, Cond.selects RX2 yX2_isKeptWith yX2_isKeptWith, Cond.code yX2_isKeptWith cX2_isKeptWith 3 (some .boolean), Cond.fieldLink RX2 20 "SnowTerm" "wants" "[I", Cond.methodLink RX2 186 yX2_snowIn, Cond.instanceMethod yX2_snowIn, Cond.selects RX2 yX2_snowIn yX2_snowIn, Cond.code yX2_snowIn cX2_snowIn 4 (some .int)]
def wsX2_winters : List Cond := .code yX2_winters cX2_winters 8 (some .int) :: ((wsX2_winters_r1 ++ (wsX2_winters_r2 ++ wsX2_winters_r3)) ++ wsX20 ++ wsX10)
def wsX2_image_r1 : List Cond := [Cond.fieldLink RX2 39 "SnowTerm" "sites" "I", Cond.fieldLink RX2 30 "SnowTerm" "atImage" "LSnowTerm$Term;", Cond.fieldLink RX2 26 "SnowTerm" "now" "LSnowTerm$Term;", Cond.fieldLink RX2 46 "SnowTerm" "hasImage" "Z", Cond.fieldLink RX2 194 "SnowTerm$Term" "day" "I", Cond.methodLink RX2 190 yX1_copy, Cond.instanceMethod yX1_copy, Cond.selects RX1 yX1_copy yX1_copy, Cond.initialized RX1, Cond.code yX1_copy cX1_copy 2 none, Cond.fieldLink RX1 36 "SnowTerm$Term" "day" "I", Cond.fieldLink RX1 40 "SnowTerm$Term" "sun" "I", Cond.fieldLink RX1 43 "SnowTerm$Term" "cost" "I", Cond.fieldLink RX1 46 "SnowTerm$Term" "praise" "I", Cond.fieldLink RX1 49 "SnowTerm$Term" "foundCount" "I", Cond.fieldLink RX1 9 "SnowTerm$Term" "snow" "[I", Cond.fieldLink RX1 15 "SnowTerm$Term" "snowAtDusk" "[I", Cond.fieldLink RX1 18 "SnowTerm$Term" "feet" "[I", Cond.fieldLink RX1 21 "SnowTerm$Term" "brought" "[I", Cond.fieldLink RX1 24 "SnowTerm$Term" "foundKind" "[I", Cond.fieldLink RX1 27 "SnowTerm$Term" "foundFeet" "[I", Cond.fieldLink RX1 30 "SnowTerm$Term" "foundDeep" "[I", Cond.fieldLink RX1 33 "SnowTerm$Term" "foundLeft" "[I", Cond.methodLink RX1 52 yX1_copyRow]
def wsX2_image_r2 : List Cond := [Cond.static yX1_copyRow, Cond.code yX1_copyRow cX1_copyRow 2 none, Cond.methodLink RX1 56 Lib.Math.min.name, Cond.static Lib.Math.min.name, Cond.initialized "java/lang/Math", Cond.code Lib.Math.min.name Lib.Math.min.code 2 (some .int), Cond.methodLink RX1 62 arraycopyName, Cond.native arraycopyName, Cond.static arraycopyName, Cond.initialized "java/lang/System"]
def wsX2_image : List Cond := .code yX2_image cX2_image 1 (some .int) :: ((wsX2_image_r1 ++ wsX2_image_r2) ++ wsX20 ++ wsX10)
def wsX2_restore_r1 : List Cond := [Cond.fieldLink RX2 46 "SnowTerm" "hasImage" "Z", Cond.fieldLink RX2 26 "SnowTerm" "now" "LSnowTerm$Term;", Cond.fieldLink RX2 30 "SnowTerm" "atImage" "LSnowTerm$Term;", Cond.fieldLink RX2 194 "SnowTerm$Term" "day" "I", Cond.methodLink RX2 190 yX1_copy, Cond.instanceMethod yX1_copy, Cond.selects RX1 yX1_copy yX1_copy, Cond.initialized RX1, Cond.code yX1_copy cX1_copy 2 none, Cond.fieldLink RX1 36 "SnowTerm$Term" "day" "I", Cond.fieldLink RX1 40 "SnowTerm$Term" "sun" "I", Cond.fieldLink RX1 43 "SnowTerm$Term" "cost" "I", Cond.fieldLink RX1 46 "SnowTerm$Term" "praise" "I", Cond.fieldLink RX1 49 "SnowTerm$Term" "foundCount" "I", Cond.fieldLink RX1 9 "SnowTerm$Term" "snow" "[I", Cond.fieldLink RX1 15 "SnowTerm$Term" "snowAtDusk" "[I", Cond.fieldLink RX1 18 "SnowTerm$Term" "feet" "[I", Cond.fieldLink RX1 21 "SnowTerm$Term" "brought" "[I", Cond.fieldLink RX1 24 "SnowTerm$Term" "foundKind" "[I", Cond.fieldLink RX1 27 "SnowTerm$Term" "foundFeet" "[I", Cond.fieldLink RX1 30 "SnowTerm$Term" "foundDeep" "[I", Cond.fieldLink RX1 33 "SnowTerm$Term" "foundLeft" "[I", Cond.methodLink RX1 52 yX1_copyRow, Cond.static yX1_copyRow]
def wsX2_restore_r2 : List Cond := [Cond.code yX1_copyRow cX1_copyRow 2 none, Cond.methodLink RX1 56 Lib.Math.min.name, Cond.static Lib.Math.min.name, Cond.initialized "java/lang/Math", Cond.code Lib.Math.min.name Lib.Math.min.code 2 (some .int), Cond.methodLink RX1 62 arraycopyName, Cond.native arraycopyName, Cond.static arraycopyName, Cond.initialized "java/lang/System"]
def wsX2_restore : List Cond := .code yX2_restore cX2_restore 1 (some .int) :: ((wsX2_restore_r1 ++ wsX2_restore_r2) ++ wsX20 ++ wsX10)
def wsX2_count_r1 : List Cond := [Cond.fieldLink RX2 39 "SnowTerm" "sites" "I", Cond.fieldLink RX2 26 "SnowTerm" "now" "LSnowTerm$Term;", Cond.fieldLink RX2 121 "SnowTerm$Term" "sun" "I", Cond.fieldLink RX2 194 "SnowTerm$Term" "day" "I", Cond.fieldLink RX2 92 "SnowTerm$Term" "snow" "[I", Cond.fieldLink RX2 200 "SnowTerm$Term" "praise" "I", Cond.fieldLink RX2 115 "SnowTerm$Term" "cost" "I", Cond.fieldLink RX2 161 "SnowTerm$Term" "foundCount" "I", Cond.fieldLink RX2 10 "SnowTerm" "page" "LSnowTerm$Page;", Cond.fieldLink RX2 58 "SnowTerm$Page" "size" "I", Cond.fieldLink RX2 43 "SnowTerm" "citiesRead" "I", Cond.methodLink RX2 186 yX2_snowIn, Cond.instanceMethod yX2_snowIn, Cond.selects RX2 yX2_snowIn yX2_snowIn, Cond.initialized RX2, Cond.code yX2_snowIn cX2_snowIn 4 (some .int), Cond.methodLink RX2 197 yX2_keptIn, Cond.instanceMethod yX2_keptIn, Cond.selects RX2 yX2_keptIn yX2_keptIn, Cond.code yX2_keptIn cX2_keptIn 4 (some .int), Cond.methodLink RX2 101 yX2_isKeptWith, Cond.instanceMethod yX2_isKeptWith, Cond.selects RX2 yX2_isKeptWith yX2_isKeptWith, Cond.code yX2_isKeptWith cX2_isKeptWith 3 (some .boolean)]
def wsX2_count_r2 : List Cond := [Cond.fieldLink RX2 20 "SnowTerm" "wants" "[I"]
def wsX2_count : List Cond := .code yX2_count cX2_count 2 (some .int) :: ((wsX2_count_r1 ++ wsX2_count_r2) ++ wsX20 ++ wsX10 ++ wsX00)
def wsX2_mixed : List Cond := .code yX2_mixed cX2_mixed 3 (some .long) :: ([.constantLong RX2 234 (31)])
def wsX2_digest_r1 : List Cond := [Cond.constantLong RX2 203 (1061), Cond.fieldLink RX2 39 "SnowTerm" "sites" "I", Cond.fieldLink RX2 10 "SnowTerm" "page" "LSnowTerm$Page;", Cond.fieldLink RX2 58 "SnowTerm$Page" "size" "I", Cond.methodLink RX2 205 yX2_about, Cond.instanceMethod yX2_about, Cond.selects RX2 yX2_about yX2_about, Cond.initialized RX2, Cond.code yX2_about cX2_about 3 (some .int), Cond.fieldLink RX2 16 "SnowTerm" "kinds" "[I", Cond.fieldLink RX2 20 "SnowTerm" "wants" "[I", Cond.fieldLink RX2 26 "SnowTerm" "now" "LSnowTerm$Term;", Cond.fieldLink RX2 92 "SnowTerm$Term" "snow" "[I", Cond.fieldLink RX2 95 "SnowTerm$Term" "feet" "[I", Cond.fieldLink RX2 105 "SnowTerm$Term" "brought" "[I", Cond.methodLink RX2 89 yX2_isSite, Cond.instanceMethod yX2_isSite, Cond.selects RX2 yX2_isSite yX2_isSite, Cond.code yX2_isSite cX2_isSite 2 (some .boolean), Cond.methodLink RX2 98 yX2_meltsNow, Cond.instanceMethod yX2_meltsNow, Cond.selects RX2 yX2_meltsNow yX2_meltsNow, Cond.code yX2_meltsNow cX2_meltsNow 2 (some .int), Cond.fieldLink RX2 121 "SnowTerm$Term" "sun" "I"]
def wsX2_digest_r2 : List Cond := [Cond.methodLink RX2 243 yX2_melting, Cond.static yX2_melting, Cond.code yX2_melting cX2_melting 4 (some .int), Cond.methodLink RX2 101 yX2_isKeptWith, Cond.instanceMethod yX2_isKeptWith, Cond.selects RX2 yX2_isKeptWith yX2_isKeptWith, Cond.code yX2_isKeptWith cX2_isKeptWith 3 (some .boolean), Cond.methodLink RX2 208 yX2_mixed, Cond.static yX2_mixed, Cond.code yX2_mixed cX2_mixed 3 (some .long), Cond.constantLong RX2 234 (31), Cond.methodLink RX2 212 yX2_need, Cond.instanceMethod yX2_need, Cond.selects RX2 yX2_need yX2_need, Cond.code yX2_need cX2_need 3 (some .int), Cond.methodLink RX2 50 yX2_isWithin, Cond.static yX2_isWithin, Cond.code yX2_isWithin cX2_isWithin 3 (some .boolean), Cond.methodLink RX2 131 yX2_loadsNeeded, Cond.instanceMethod yX2_loadsNeeded, Cond.selects RX2 yX2_loadsNeeded yX2_loadsNeeded, Cond.code yX2_loadsNeeded cX2_loadsNeeded 4 (some .int), Cond.methodLink RX2 254 Lib.Math.max.name, Cond.static Lib.Math.max.name]
def wsX2_digest_r3 : List Cond := [Cond.initialized "java/lang/Math", Cond.code Lib.Math.max.name Lib.Math.max.code 2 (some .int), Cond.methodLink RX2 215 yX2_plan, Cond.instanceMethod yX2_plan, Cond.selects RX2 yX2_plan yX2_plan, Cond.code yX2_plan cX2_plan 5 (some .int), Cond.methodLink RX2 134 yX2_tellNeeds, Cond.instanceMethod yX2_tellNeeds, Cond.selects RX2 yX2_tellNeeds yX2_tellNeeds, Cond.code yX2_tellNeeds cX2_tellNeeds 3 none, Cond.fieldLink RX2 36 "SnowTerm" "needs" "[I", Cond.methodLink RX2 137 yX2_bestPlan, Cond.instanceMethod yX2_bestPlan, Cond.selects RX2 yX2_bestPlan yX2_bestPlan, Cond.code yX2_bestPlan cX2_bestPlan 5 (some .int), Cond.methodLink RX2 145 yX2_loadsOf, Cond.instanceMethod yX2_loadsOf, Cond.selects RX2 yX2_loadsOf yX2_loadsOf, Cond.code yX2_loadsOf cX2_loadsOf 4 (some .int), Cond.methodLink RX2 260 yX2_hasBit, Cond.static yX2_hasBit, Cond.code yX2_hasBit cX2_hasBit 2 (some .boolean), Cond.methodLink RX2 257 yX2_isBetterPlan, Cond.instanceMethod yX2_isBetterPlan]
def wsX2_digest_r4 : List Cond := [Cond.selects RX2 yX2_isBetterPlan yX2_isBetterPlan, Cond.code yX2_isBetterPlan cX2_isBetterPlan 4 (some .boolean), Cond.methodLink RX2 140 yJ6_bitCount_0f7a4, Cond.static yJ6_bitCount_0f7a4, Cond.initialized RJ6, Cond.code yJ6_bitCount_0f7a4 cJ6_bitCount_0f7a4 1 (some .int), Cond.constant RJ6 265 (1431655765), Cond.constant RJ6 266 (858993459), Cond.constant RJ6 267 (252645135), Cond.methodLink RX2 148 yX2_costOf, Cond.instanceMethod yX2_costOf, Cond.selects RX2 yX2_costOf yX2_costOf, Cond.code yX2_costOf cX2_costOf 4 (some .int), Cond.methodLink RX2 118 yX2_priceAt, Cond.static yX2_priceAt, Cond.code yX2_priceAt cX2_priceAt 1 (some .int), Cond.methodLink RX2 219 yX2_error, Cond.instanceMethod yX2_error, Cond.selects RX2 yX2_error yX2_error, Cond.code yX2_error cX2_error 3 (some .int), Cond.methodLink RX2 151 yX2_bestError, Cond.instanceMethod yX2_bestError, Cond.selects RX2 yX2_bestError yX2_bestError, Cond.code yX2_bestError cX2_bestError 6 (some .int)]
def wsX2_digest_r5 : List Cond := [Cond.methodLink RX2 197 yX2_keptIn, Cond.instanceMethod yX2_keptIn, Cond.selects RX2 yX2_keptIn yX2_keptIn, Cond.code yX2_keptIn cX2_keptIn 4 (some .int), Cond.methodLink RX2 154 yX2_keptIfSwapped, Cond.instanceMethod yX2_keptIfSwapped, Cond.selects RX2 yX2_keptIfSwapped yX2_keptIfSwapped, Cond.code yX2_keptIfSwapped cX2_keptIfSwapped 6 (some .int), Cond.methodLink RX2 263 yX2_deepWithLoadsOf, Cond.instanceMethod yX2_deepWithLoadsOf, Cond.selects RX2 yX2_deepWithLoadsOf yX2_deepWithLoadsOf, Cond.code yX2_deepWithLoadsOf cX2_deepWithLoadsOf 3 (some .int), Cond.fieldLink RX2 266 "SnowTerm$Term" "snowAtDusk" "[I", Cond.methodLink RX2 111 yX2_deepened, Cond.static yX2_deepened, Cond.code yX2_deepened cX2_deepened 2 (some .int), Cond.methodLink RX2 246 Lib.Math.min.name, Cond.static Lib.Math.min.name, Cond.code Lib.Math.min.name Lib.Math.min.code 2 (some .int), Cond.methodLink RX2 222 yX2_suns, Cond.instanceMethod yX2_suns, Cond.selects RX2 yX2_suns yX2_suns, Cond.code yX2_suns cX2_suns 1 (some .int), Cond.methodLink RX2 164 yX2_possibleSuns]
def wsX2_digest_r6 : List Cond := [Cond.instanceMethod yX2_possibleSuns, Cond.selects RX2 yX2_possibleSuns yX2_possibleSuns, Cond.code yX2_possibleSuns cX2_possibleSuns 3 (some .int), Cond.methodLink RX2 269 yX2_explainsAllFound, Cond.instanceMethod yX2_explainsAllFound, Cond.selects RX2 yX2_explainsAllFound yX2_explainsAllFound, Cond.code yX2_explainsAllFound cX2_explainsAllFound 4 (some .boolean), Cond.fieldLink RX2 161 "SnowTerm$Term" "foundCount" "I", Cond.fieldLink RX2 272 "SnowTerm$Term" "foundKind" "[I", Cond.fieldLink RX2 275 "SnowTerm$Term" "foundFeet" "[I", Cond.fieldLink RX2 278 "SnowTerm$Term" "foundDeep" "[I", Cond.fieldLink RX2 281 "SnowTerm$Term" "foundLeft" "[I", Cond.methodLink RX2 251 yX2_leftOf, Cond.static yX2_leftOf, Cond.code yX2_leftOf cX2_leftOf 2 (some .int), Cond.methodLink RX2 225 yX2_look, Cond.instanceMethod yX2_look, Cond.selects RX2 yX2_look yX2_look, Cond.code yX2_look cX2_look 1 (some .int), Cond.methodLink RX2 167 yX2_bestLook, Cond.instanceMethod yX2_bestLook, Cond.selects RX2 yX2_bestLook yX2_bestLook, Cond.code yX2_bestLook cX2_bestLook 4 (some .int), Cond.methodLink RX2 284 yX2_sunsLeftAtWorst]
def wsX2_digest_r7 : List Cond := [Cond.instanceMethod yX2_sunsLeftAtWorst, Cond.selects RX2 yX2_sunsLeftAtWorst yX2_sunsLeftAtWorst, Cond.code yX2_sunsLeftAtWorst cX2_sunsLeftAtWorst 5 (some .int), Cond.methodLink RX2 287 yX2_sunsLikeThis, Cond.instanceMethod yX2_sunsLikeThis, Cond.selects RX2 yX2_sunsLikeThis yX2_sunsLikeThis, Cond.code yX2_sunsLikeThis cX2_sunsLikeThis 7 (some .int), Cond.methodLink RX2 290 yX2_leftOfDeepest, Cond.instanceMethod yX2_leftOfDeepest, Cond.selects RX2 yX2_leftOfDeepest yX2_leftOfDeepest, Cond.code yX2_leftOfDeepest cX2_leftOfDeepest 3 (some .int), Cond.methodLink RX2 228 yX0_codeAt, Cond.instanceMethod yX0_codeAt, Cond.selects RX0 yX0_codeAt yX0_codeAt, Cond.initialized RX0, Cond.code yX0_codeAt cX0_codeAt 2 (some .int), Cond.fieldLink RX0 9 "SnowTerm$Page" "codes" "[I", Cond.methodLink RX2 231 yX2_count, Cond.instanceMethod yX2_count, Cond.selects RX2 yX2_count yX2_count, Cond.code yX2_count cX2_count 2 (some .int), Cond.fieldLink RX2 194 "SnowTerm$Term" "day" "I", Cond.fieldLink RX2 200 "SnowTerm$Term" "praise" "I", Cond.fieldLink RX2 115 "SnowTerm$Term" "cost" "I"]
def wsX2_digest_r8 : List Cond := [Cond.fieldLink RX2 43 "SnowTerm" "citiesRead" "I", Cond.methodLink RX2 186 yX2_snowIn, Cond.instanceMethod yX2_snowIn, Cond.selects RX2 yX2_snowIn yX2_snowIn, Cond.code yX2_snowIn cX2_snowIn 4 (some .int)]
def wsX2_digest : List Cond := .code yX2_digest cX2_digest 5 (some .long) :: ((wsX2_digest_r1 ++ (wsX2_digest_r2 ++ (wsX2_digest_r3 ++ (wsX2_digest_r4 ++ (wsX2_digest_r5 ++ (wsX2_digest_r6 ++ (wsX2_digest_r7 ++ wsX2_digest_r8))))))) ++ wsX20 ++ wsX00 ++ wsX10)
def wsX3_init : List Cond := .code yX3_init cX3_init 1 none :: ([.methodLink RX3 1 objectInit, .instanceMethod objectInit, .code objectInit ⟨#[0xb1]⟩ 1 none, .arrayClass .int, .fieldLink RX3 7 "SnowTermModel" "kindOf" "[I", .fieldLink RX3 13 "SnowTermModel" "wantOf" "[I", .fieldLink RX3 16 "SnowTermModel" "deepOf" "[I", .fieldLink RX3 19 "SnowTermModel" "startOf" "[I", .fieldLink RX3 22 "SnowTermModel" "broughtTo" "[I", .fieldLink RX3 25 "SnowTermModel" "feetOf" "[I", .fieldLink RX3 28 "SnowTermModel" "foundSite" "[I", .fieldLink RX3 31 "SnowTermModel" "foundDeep" "[I", .fieldLink RX3 34 "SnowTermModel" "foundLeft" "[I", .arrayClass .byte, .fieldLink RX3 37 "SnowTermModel" "page" "[B", .fieldLink RX3 41 "SnowTermModel" "needs" "[I", .fieldLink RX3 44 "SnowTermModel" "savedDeep" "[I", .fieldLink RX3 47 "SnowTermModel" "keptDeep" "[I", .fieldLink RX3 50 "SnowTermModel" "keptStart" "[I", .fieldLink RX3 53 "SnowTermModel" "keptBrought" "[I", .fieldLink RX3 56 "SnowTermModel" "keptFeet" "[I", .fieldLink RX3 59 "SnowTermModel" "keptSite" "[I", .fieldLink RX3 62 "SnowTermModel" "keptFoundDeep" "[I", .fieldLink RX3 65 "SnowTermModel" "keptLeft" "[I"] ++ wsX30)
def wsX3_within : List Cond := .code yX3_within cX3_within 3 (some .boolean) :: ([])
def wsX3_isIn : List Cond := .code yX3_isIn cX3_isIn 2 (some .boolean) :: ([])
def wsX3_size : List Cond := .code yX3_size cX3_size 3 (some .int) :: ([])
def wsX3_atMost : List Cond := .code yX3_atMost cX3_atMost 1 (some .int) :: ([])
def wsX3_notBelow : List Cond := .code yX3_notBelow cX3_notBelow 1 (some .int) :: ([])
def wsX3_letter : List Cond := .code yX3_letter cX3_letter 2 (some .int) :: ([.fieldLink RX3 72 "SnowTermModel" "pageLength" "I", .fieldLink RX3 37 "SnowTermModel" "page" "[B", .methodLink RX3 68 yX3_within, .static yX3_within, .initialized RX3, .code yX3_within cX3_within 3 (some .boolean)] ++ wsX30)
def wsX3_blank : List Cond := .code yX3_blank cX3_blank 2 (some .int) :: ([.fieldLink RX3 72 "SnowTermModel" "pageLength" "I"] ++ wsX30)
def wsX3_kindBy : List Cond := .code yX3_kindBy cX3_kindBy 1 (some .int) :: ([])
def wsX3_figure : List Cond := .code yX3_figure cX3_figure 2 (some .int) :: ([.fieldLink RX3 72 "SnowTermModel" "pageLength" "I", .fieldLink RX3 37 "SnowTermModel" "page" "[B"] ++ wsX30)
def wsX3_read : List Cond := .code yX3_read cX3_read 2 (some .int) :: ([.fieldLink RX3 76 "SnowTermModel" "isWhole" "Z", .fieldLink RX3 80 "SnowTermModel" "newMany" "I", .fieldLink RX3 72 "SnowTermModel" "pageLength" "I", .fieldLink RX3 37 "SnowTermModel" "page" "[B", .methodLink RX3 83 yX3_kindBy, .static yX3_kindBy, .initialized RX3, .code yX3_kindBy cX3_kindBy 1 (some .int), .methodLink RX3 87 yX3_figure, .instanceMethod yX3_figure, .selects RX3 yX3_figure yX3_figure, .code yX3_figure cX3_figure 2 (some .int), .methodLink RX3 68 yX3_within, .static yX3_within, .code yX3_within cX3_within 3 (some .boolean)] ++ wsX30)
def wsX3_fault : List Cond := .code yX3_fault cX3_fault 1 (some .int) :: ([.methodLink RX3 90 yX3_read, .instanceMethod yX3_read, .selects RX3 yX3_read yX3_read, .initialized RX3, .code yX3_read cX3_read 2 (some .int), .fieldLink RX3 76 "SnowTermModel" "isWhole" "Z", .fieldLink RX3 80 "SnowTermModel" "newMany" "I", .fieldLink RX3 72 "SnowTermModel" "pageLength" "I", .fieldLink RX3 37 "SnowTermModel" "page" "[B", .methodLink RX3 83 yX3_kindBy, .static yX3_kindBy, .code yX3_kindBy cX3_kindBy 1 (some .int), .methodLink RX3 87 yX3_figure, .instanceMethod yX3_figure, .selects RX3 yX3_figure yX3_figure, .code yX3_figure cX3_figure 2 (some .int), .methodLink RX3 68 yX3_within, .static yX3_within, .code yX3_within cX3_within 3 (some .boolean)] ++ wsX30)
def wsX3_city_r1 : List Cond := [Cond.fieldLink RX3 76 "SnowTermModel" "isWhole" "Z", Cond.fieldLink RX3 80 "SnowTermModel" "newMany" "I", Cond.fieldLink RX3 94 "SnowTermModel" "sites" "I", Cond.fieldLink RX3 7 "SnowTermModel" "kindOf" "[I", Cond.fieldLink RX3 37 "SnowTermModel" "page" "[B", Cond.fieldLink RX3 13 "SnowTermModel" "wantOf" "[I", Cond.fieldLink RX3 16 "SnowTermModel" "deepOf" "[I", Cond.fieldLink RX3 19 "SnowTermModel" "startOf" "[I", Cond.fieldLink RX3 22 "SnowTermModel" "broughtTo" "[I", Cond.fieldLink RX3 25 "SnowTermModel" "feetOf" "[I", Cond.fieldLink RX3 97 "SnowTermModel" "sunNow" "I", Cond.fieldLink RX3 100 "SnowTermModel" "cities" "I", Cond.fieldLink RX3 103 "SnowTermModel" "days" "I", Cond.fieldLink RX3 106 "SnowTermModel" "praise" "I", Cond.fieldLink RX3 109 "SnowTermModel" "cost" "I", Cond.fieldLink RX3 112 "SnowTermModel" "found" "I", Cond.fieldLink RX3 72 "SnowTermModel" "pageLength" "I", Cond.methodLink RX3 90 yX3_read, Cond.instanceMethod yX3_read, Cond.selects RX3 yX3_read yX3_read, Cond.initialized RX3, Cond.code yX3_read cX3_read 2 (some .int), Cond.methodLink RX3 83 yX3_kindBy, Cond.static yX3_kindBy]
def wsX3_city_r2 : List Cond := [Cond.code yX3_kindBy cX3_kindBy 1 (some .int), Cond.methodLink RX3 87 yX3_figure, Cond.instanceMethod yX3_figure, Cond.selects RX3 yX3_figure yX3_figure, Cond.code yX3_figure cX3_figure 2 (some .int), Cond.methodLink RX3 68 yX3_within, Cond.static yX3_within, Cond.code yX3_within cX3_within 3 (some .boolean)]
def wsX3_city : List Cond := .code yX3_city cX3_city 3 (some .int) :: ((wsX3_city_r1 ++ wsX3_city_r2) ++ wsX30)
def wsX3_isSite : List Cond := .code yX3_isSite cX3_isSite 2 (some .boolean) :: ([.fieldLink RX3 94 "SnowTermModel" "sites" "I", .methodLink RX3 68 yX3_within, .static yX3_within, .initialized RX3, .code yX3_within cX3_within 3 (some .boolean)] ++ wsX30)
def wsX3_meltsBy : List Cond := .code yX3_meltsBy cX3_meltsBy 4 (some .int) :: ([.fieldLink RX3 25 "SnowTermModel" "feetOf" "[I", .fieldLink RX3 7 "SnowTermModel" "kindOf" "[I", .methodLink RX3 115 yX3_notBelow, .static yX3_notBelow, .initialized RX3, .code yX3_notBelow cX3_notBelow 1 (some .int)] ++ wsX30)
def wsX3_isKept : List Cond := .code yX3_isKept cX3_isKept 3 (some .boolean) :: ([.fieldLink RX3 13 "SnowTermModel" "wantOf" "[I"] ++ wsX30)
def wsX3_siteNow : List Cond := .code yX3_siteNow cX3_siteNow 3 (some .int) :: ([.fieldLink RX3 7 "SnowTermModel" "kindOf" "[I", .fieldLink RX3 13 "SnowTermModel" "wantOf" "[I", .fieldLink RX3 16 "SnowTermModel" "deepOf" "[I", .fieldLink RX3 25 "SnowTermModel" "feetOf" "[I", .fieldLink RX3 97 "SnowTermModel" "sunNow" "I", .fieldLink RX3 22 "SnowTermModel" "broughtTo" "[I", .methodLink RX3 118 yX3_meltsBy, .instanceMethod yX3_meltsBy, .selects RX3 yX3_meltsBy yX3_meltsBy, .initialized RX3, .code yX3_meltsBy cX3_meltsBy 4 (some .int), .methodLink RX3 115 yX3_notBelow, .static yX3_notBelow, .code yX3_notBelow cX3_notBelow 1 (some .int), .methodLink RX3 122 yX3_isKept, .instanceMethod yX3_isKept, .selects RX3 yX3_isKept yX3_isKept, .code yX3_isKept cX3_isKept 3 (some .boolean)] ++ wsX30)
def wsX3_about_r1 : List Cond := [Cond.methodLink RX3 126 yX3_isSite, Cond.instanceMethod yX3_isSite, Cond.selects RX3 yX3_isSite yX3_isSite, Cond.initialized RX3, Cond.code yX3_isSite cX3_isSite 2 (some .boolean), Cond.fieldLink RX3 94 "SnowTermModel" "sites" "I", Cond.methodLink RX3 68 yX3_within, Cond.static yX3_within, Cond.code yX3_within cX3_within 3 (some .boolean), Cond.methodLink RX3 130 yX3_siteNow, Cond.instanceMethod yX3_siteNow, Cond.selects RX3 yX3_siteNow yX3_siteNow, Cond.code yX3_siteNow cX3_siteNow 3 (some .int), Cond.fieldLink RX3 7 "SnowTermModel" "kindOf" "[I", Cond.fieldLink RX3 13 "SnowTermModel" "wantOf" "[I", Cond.fieldLink RX3 16 "SnowTermModel" "deepOf" "[I", Cond.fieldLink RX3 25 "SnowTermModel" "feetOf" "[I", Cond.fieldLink RX3 97 "SnowTermModel" "sunNow" "I", Cond.fieldLink RX3 22 "SnowTermModel" "broughtTo" "[I", Cond.methodLink RX3 118 yX3_meltsBy, Cond.instanceMethod yX3_meltsBy, Cond.selects RX3 yX3_meltsBy yX3_meltsBy, Cond.code yX3_meltsBy cX3_meltsBy 4 (some .int), Cond.methodLink RX3 115 yX3_notBelow]
def wsX3_about_r2 : List Cond := [Cond.static yX3_notBelow, Cond.code yX3_notBelow cX3_notBelow 1 (some .int), Cond.methodLink RX3 122 yX3_isKept, Cond.instanceMethod yX3_isKept, Cond.selects RX3 yX3_isKept yX3_isKept, Cond.code yX3_isKept cX3_isKept 3 (some .boolean)]
def wsX3_about : List Cond := .code yX3_about cX3_about 3 (some .int) :: ((wsX3_about_r1 ++ wsX3_about_r2) ++ wsX30)
def wsX3_as : List Cond := .code yX3_as cX3_as 4 (some .int) :: ([.fieldLink RX3 7 "SnowTermModel" "kindOf" "[I", .methodLink RX3 126 yX3_isSite, .instanceMethod yX3_isSite, .selects RX3 yX3_isSite yX3_isSite, .initialized RX3, .code yX3_isSite cX3_isSite 2 (some .boolean), .fieldLink RX3 94 "SnowTermModel" "sites" "I", .methodLink RX3 68 yX3_within, .static yX3_within, .code yX3_within cX3_within 3 (some .boolean)] ++ wsX30)
def wsX3_bring : List Cond := .code yX3_bring cX3_bring 3 (some .int) :: ([.fieldLink RX3 22 "SnowTermModel" "broughtTo" "[I", .fieldLink RX3 16 "SnowTermModel" "deepOf" "[I", .fieldLink RX3 109 "SnowTermModel" "cost" "I", .methodLink RX3 126 yX3_isSite, .instanceMethod yX3_isSite, .selects RX3 yX3_isSite yX3_isSite, .initialized RX3, .code yX3_isSite cX3_isSite 2 (some .boolean), .fieldLink RX3 94 "SnowTermModel" "sites" "I", .methodLink RX3 68 yX3_within, .static yX3_within, .code yX3_within cX3_within 3 (some .boolean), .methodLink RX3 133 yX3_atMost, .static yX3_atMost, .code yX3_atMost cX3_atMost 1 (some .int)] ++ wsX30)
def wsX3_tread : List Cond := .code yX3_tread cX3_tread 4 (some .int) :: ([.fieldLink RX3 25 "SnowTermModel" "feetOf" "[I", .methodLink RX3 126 yX3_isSite, .instanceMethod yX3_isSite, .selects RX3 yX3_isSite yX3_isSite, .initialized RX3, .code yX3_isSite cX3_isSite 2 (some .boolean), .fieldLink RX3 94 "SnowTermModel" "sites" "I", .methodLink RX3 68 yX3_within, .static yX3_within, .code yX3_within cX3_within 3 (some .boolean)] ++ wsX30)
def wsX3_sun : List Cond := .code yX3_sun cX3_sun 3 (some .int) :: ([.fieldLink RX3 94 "SnowTermModel" "sites" "I", .fieldLink RX3 97 "SnowTermModel" "sunNow" "I", .methodLink RX3 68 yX3_within, .static yX3_within, .initialized RX3, .code yX3_within cX3_within 3 (some .boolean)] ++ wsX30)
def wsX3_keptNow : List Cond := .code yX3_keptNow cX3_keptNow 3 (some .int) :: ([.fieldLink RX3 94 "SnowTermModel" "sites" "I", .fieldLink RX3 16 "SnowTermModel" "deepOf" "[I", .methodLink RX3 122 yX3_isKept, .instanceMethod yX3_isKept, .selects RX3 yX3_isKept yX3_isKept, .initialized RX3, .code yX3_isKept cX3_isKept 3 (some .boolean), .fieldLink RX3 13 "SnowTermModel" "wantOf" "[I"] ++ wsX30)
def wsX3_melt : List Cond := .code yX3_melt cX3_melt 3 none :: ([.fieldLink RX3 94 "SnowTermModel" "sites" "I", .fieldLink RX3 16 "SnowTermModel" "deepOf" "[I", .methodLink RX3 118 yX3_meltsBy, .instanceMethod yX3_meltsBy, .selects RX3 yX3_meltsBy yX3_meltsBy, .initialized RX3, .code yX3_meltsBy cX3_meltsBy 4 (some .int), .fieldLink RX3 25 "SnowTermModel" "feetOf" "[I", .fieldLink RX3 7 "SnowTermModel" "kindOf" "[I", .methodLink RX3 115 yX3_notBelow, .static yX3_notBelow, .code yX3_notBelow cX3_notBelow 1 (some .int)] ++ wsX30)
def wsX3_day_r1 : List Cond := [Cond.fieldLink RX3 94 "SnowTermModel" "sites" "I", Cond.fieldLink RX3 97 "SnowTermModel" "sunNow" "I", Cond.fieldLink RX3 19 "SnowTermModel" "startOf" "[I", Cond.fieldLink RX3 16 "SnowTermModel" "deepOf" "[I", Cond.fieldLink RX3 22 "SnowTermModel" "broughtTo" "[I", Cond.fieldLink RX3 103 "SnowTermModel" "days" "I", Cond.fieldLink RX3 106 "SnowTermModel" "praise" "I", Cond.methodLink RX3 136 yX3_melt, Cond.instanceMethod yX3_melt, Cond.selects RX3 yX3_melt yX3_melt, Cond.initialized RX3, Cond.code yX3_melt cX3_melt 3 none, Cond.methodLink RX3 118 yX3_meltsBy, Cond.instanceMethod yX3_meltsBy, Cond.selects RX3 yX3_meltsBy yX3_meltsBy, Cond.code yX3_meltsBy cX3_meltsBy 4 (some .int), Cond.fieldLink RX3 25 "SnowTermModel" "feetOf" "[I", Cond.fieldLink RX3 7 "SnowTermModel" "kindOf" "[I", Cond.methodLink RX3 115 yX3_notBelow, Cond.static yX3_notBelow, Cond.code yX3_notBelow cX3_notBelow 1 (some .int), Cond.methodLink RX3 140 yX3_keptNow, Cond.instanceMethod yX3_keptNow, Cond.selects RX3 yX3_keptNow yX3_keptNow]
def wsX3_day_r2 : List Cond := [Cond.code yX3_keptNow cX3_keptNow 3 (some .int), Cond.methodLink RX3 122 yX3_isKept, Cond.instanceMethod yX3_isKept, Cond.selects RX3 yX3_isKept yX3_isKept, Cond.code yX3_isKept cX3_isKept 3 (some .boolean), Cond.fieldLink RX3 13 "SnowTermModel" "wantOf" "[I"]
def wsX3_day : List Cond := .code yX3_day cX3_day 2 (some .int) :: ((wsX3_day_r1 ++ wsX3_day_r2) ++ wsX30)
def wsX3_isKeptFor : List Cond := .code yX3_isKeptFor cX3_isKeptFor 7 (some .boolean) :: ([.fieldLink RX3 16 "SnowTermModel" "deepOf" "[I", .fieldLink RX3 97 "SnowTermModel" "sunNow" "I", .methodLink RX3 133 yX3_atMost, .static yX3_atMost, .initialized RX3, .code yX3_atMost cX3_atMost 1 (some .int), .methodLink RX3 122 yX3_isKept, .instanceMethod yX3_isKept, .selects RX3 yX3_isKept yX3_isKept, .code yX3_isKept cX3_isKept 3 (some .boolean), .fieldLink RX3 13 "SnowTermModel" "wantOf" "[I", .methodLink RX3 118 yX3_meltsBy, .instanceMethod yX3_meltsBy, .selects RX3 yX3_meltsBy yX3_meltsBy, .code yX3_meltsBy cX3_meltsBy 4 (some .int), .fieldLink RX3 25 "SnowTermModel" "feetOf" "[I", .fieldLink RX3 7 "SnowTermModel" "kindOf" "[I", .methodLink RX3 115 yX3_notBelow, .static yX3_notBelow, .code yX3_notBelow cX3_notBelow 1 (some .int)] ++ wsX30)
def wsX3_needOf : List Cond := .code yX3_needOf cX3_needOf 4 (some .int) :: ([.methodLink RX3 143 yX3_isKeptFor, .instanceMethod yX3_isKeptFor, .selects RX3 yX3_isKeptFor yX3_isKeptFor, .initialized RX3, .code yX3_isKeptFor cX3_isKeptFor 7 (some .boolean), .fieldLink RX3 16 "SnowTermModel" "deepOf" "[I", .fieldLink RX3 97 "SnowTermModel" "sunNow" "I", .methodLink RX3 133 yX3_atMost, .static yX3_atMost, .code yX3_atMost cX3_atMost 1 (some .int), .methodLink RX3 122 yX3_isKept, .instanceMethod yX3_isKept, .selects RX3 yX3_isKept yX3_isKept, .code yX3_isKept cX3_isKept 3 (some .boolean), .fieldLink RX3 13 "SnowTermModel" "wantOf" "[I", .methodLink RX3 118 yX3_meltsBy, .instanceMethod yX3_meltsBy, .selects RX3 yX3_meltsBy yX3_meltsBy, .code yX3_meltsBy cX3_meltsBy 4 (some .int), .fieldLink RX3 25 "SnowTermModel" "feetOf" "[I", .fieldLink RX3 7 "SnowTermModel" "kindOf" "[I", .methodLink RX3 115 yX3_notBelow, .static yX3_notBelow, .code yX3_notBelow cX3_notBelow 1 (some .int)] ++ wsX30)
def wsX3_need_r1 : List Cond := [Cond.methodLink RX3 126 yX3_isSite, Cond.instanceMethod yX3_isSite, Cond.selects RX3 yX3_isSite yX3_isSite, Cond.initialized RX3, Cond.code yX3_isSite cX3_isSite 2 (some .boolean), Cond.fieldLink RX3 94 "SnowTermModel" "sites" "I", Cond.methodLink RX3 68 yX3_within, Cond.static yX3_within, Cond.code yX3_within cX3_within 3 (some .boolean), Cond.methodLink RX3 146 yX3_needOf, Cond.instanceMethod yX3_needOf, Cond.selects RX3 yX3_needOf yX3_needOf, Cond.code yX3_needOf cX3_needOf 4 (some .int), Cond.methodLink RX3 143 yX3_isKeptFor, Cond.instanceMethod yX3_isKeptFor, Cond.selects RX3 yX3_isKeptFor yX3_isKeptFor, Cond.code yX3_isKeptFor cX3_isKeptFor 7 (some .boolean), Cond.fieldLink RX3 16 "SnowTermModel" "deepOf" "[I", Cond.fieldLink RX3 97 "SnowTermModel" "sunNow" "I", Cond.methodLink RX3 133 yX3_atMost, Cond.static yX3_atMost, Cond.code yX3_atMost cX3_atMost 1 (some .int), Cond.methodLink RX3 122 yX3_isKept, Cond.instanceMethod yX3_isKept]
def wsX3_need_r2 : List Cond := [Cond.selects RX3 yX3_isKept yX3_isKept, Cond.code yX3_isKept cX3_isKept 3 (some .boolean), Cond.fieldLink RX3 13 "SnowTermModel" "wantOf" "[I", Cond.methodLink RX3 118 yX3_meltsBy, Cond.instanceMethod yX3_meltsBy, Cond.selects RX3 yX3_meltsBy yX3_meltsBy, Cond.code yX3_meltsBy cX3_meltsBy 4 (some .int), Cond.fieldLink RX3 25 "SnowTermModel" "feetOf" "[I", Cond.fieldLink RX3 7 "SnowTermModel" "kindOf" "[I", Cond.methodLink RX3 115 yX3_notBelow, Cond.static yX3_notBelow, Cond.code yX3_notBelow cX3_notBelow 1 (some .int)]
def wsX3_need : List Cond := .code yX3_need cX3_need 3 (some .int) :: ((wsX3_need_r1 ++ wsX3_need_r2) ++ wsX30)
def wsX3_layNeeds : List Cond := .code yX3_layNeeds cX3_layNeeds 4 (some .boolean) :: ([.fieldLink RX3 149 "SnowTermModel" "setLoads" "I", .fieldLink RX3 152 "SnowTermModel" "setCost" "I", .fieldLink RX3 94 "SnowTermModel" "sites" "I", .fieldLink RX3 41 "SnowTermModel" "needs" "[I", .methodLink RX3 155 yX3_isIn, .static yX3_isIn, .initialized RX3, .code yX3_isIn cX3_isIn 2 (some .boolean)] ++ wsX30)
def wsX3_planNow_r1 : List Cond := [Cond.fieldLink RX3 94 "SnowTermModel" "sites" "I", Cond.fieldLink RX3 41 "SnowTermModel" "needs" "[I", Cond.fieldLink RX3 149 "SnowTermModel" "setLoads" "I", Cond.fieldLink RX3 152 "SnowTermModel" "setCost" "I", Cond.methodLink RX3 146 yX3_needOf, Cond.instanceMethod yX3_needOf, Cond.selects RX3 yX3_needOf yX3_needOf, Cond.initialized RX3, Cond.code yX3_needOf cX3_needOf 4 (some .int), Cond.methodLink RX3 143 yX3_isKeptFor, Cond.instanceMethod yX3_isKeptFor, Cond.selects RX3 yX3_isKeptFor yX3_isKeptFor, Cond.code yX3_isKeptFor cX3_isKeptFor 7 (some .boolean), Cond.fieldLink RX3 16 "SnowTermModel" "deepOf" "[I", Cond.fieldLink RX3 97 "SnowTermModel" "sunNow" "I", Cond.methodLink RX3 133 yX3_atMost, Cond.static yX3_atMost, Cond.code yX3_atMost cX3_atMost 1 (some .int), Cond.methodLink RX3 122 yX3_isKept, Cond.instanceMethod yX3_isKept, Cond.selects RX3 yX3_isKept yX3_isKept, Cond.code yX3_isKept cX3_isKept 3 (some .boolean), Cond.fieldLink RX3 13 "SnowTermModel" "wantOf" "[I", Cond.methodLink RX3 118 yX3_meltsBy]
def wsX3_planNow_r2 : List Cond := [Cond.instanceMethod yX3_meltsBy, Cond.selects RX3 yX3_meltsBy yX3_meltsBy, Cond.code yX3_meltsBy cX3_meltsBy 4 (some .int), Cond.fieldLink RX3 25 "SnowTermModel" "feetOf" "[I", Cond.fieldLink RX3 7 "SnowTermModel" "kindOf" "[I", Cond.methodLink RX3 115 yX3_notBelow, Cond.static yX3_notBelow, Cond.code yX3_notBelow cX3_notBelow 1 (some .int), Cond.methodLink RX3 158 yX3_layNeeds, Cond.instanceMethod yX3_layNeeds, Cond.selects RX3 yX3_layNeeds yX3_layNeeds, Cond.code yX3_layNeeds cX3_layNeeds 4 (some .boolean), Cond.methodLink RX3 155 yX3_isIn, Cond.static yX3_isIn, Cond.code yX3_isIn cX3_isIn 2 (some .boolean), Cond.methodLink RX3 161 yX3_size, Cond.static yX3_size, Cond.code yX3_size cX3_size 3 (some .int)]
def wsX3_planNow : List Cond := .code yX3_planNow cX3_planNow 9 (some .int) :: ((wsX3_planNow_r1 ++ wsX3_planNow_r2) ++ wsX30)
def wsX3_plan_r1 : List Cond := [Cond.fieldLink RX3 94 "SnowTermModel" "sites" "I", Cond.methodLink RX3 68 yX3_within, Cond.static yX3_within, Cond.initialized RX3, Cond.code yX3_within cX3_within 3 (some .boolean), Cond.methodLink RX3 164 yX3_planNow, Cond.instanceMethod yX3_planNow, Cond.selects RX3 yX3_planNow yX3_planNow, Cond.code yX3_planNow cX3_planNow 9 (some .int), Cond.fieldLink RX3 41 "SnowTermModel" "needs" "[I", Cond.fieldLink RX3 149 "SnowTermModel" "setLoads" "I", Cond.fieldLink RX3 152 "SnowTermModel" "setCost" "I", Cond.methodLink RX3 146 yX3_needOf, Cond.instanceMethod yX3_needOf, Cond.selects RX3 yX3_needOf yX3_needOf, Cond.code yX3_needOf cX3_needOf 4 (some .int), Cond.methodLink RX3 143 yX3_isKeptFor, Cond.instanceMethod yX3_isKeptFor, Cond.selects RX3 yX3_isKeptFor yX3_isKeptFor, Cond.code yX3_isKeptFor cX3_isKeptFor 7 (some .boolean), Cond.fieldLink RX3 16 "SnowTermModel" "deepOf" "[I", Cond.fieldLink RX3 97 "SnowTermModel" "sunNow" "I", Cond.methodLink RX3 133 yX3_atMost, Cond.static yX3_atMost]
def wsX3_plan_r2 : List Cond := [Cond.code yX3_atMost cX3_atMost 1 (some .int), Cond.methodLink RX3 122 yX3_isKept, Cond.instanceMethod yX3_isKept, Cond.selects RX3 yX3_isKept yX3_isKept, Cond.code yX3_isKept cX3_isKept 3 (some .boolean), Cond.fieldLink RX3 13 "SnowTermModel" "wantOf" "[I", Cond.methodLink RX3 118 yX3_meltsBy, Cond.instanceMethod yX3_meltsBy, Cond.selects RX3 yX3_meltsBy yX3_meltsBy, Cond.code yX3_meltsBy cX3_meltsBy 4 (some .int), Cond.fieldLink RX3 25 "SnowTermModel" "feetOf" "[I", Cond.fieldLink RX3 7 "SnowTermModel" "kindOf" "[I", Cond.methodLink RX3 115 yX3_notBelow, Cond.static yX3_notBelow, Cond.code yX3_notBelow cX3_notBelow 1 (some .int), Cond.methodLink RX3 158 yX3_layNeeds, Cond.instanceMethod yX3_layNeeds, Cond.selects RX3 yX3_layNeeds yX3_layNeeds, Cond.code yX3_layNeeds cX3_layNeeds 4 (some .boolean), Cond.methodLink RX3 155 yX3_isIn, Cond.static yX3_isIn, Cond.code yX3_isIn cX3_isIn 2 (some .boolean), Cond.methodLink RX3 161 yX3_size, Cond.static yX3_size]
def wsX3_plan_r3 : List Cond := [Cond.code yX3_size cX3_size 3 (some .int)]
def wsX3_plan : List Cond := .code yX3_plan cX3_plan 4 (some .int) :: ((wsX3_plan_r1 ++ (wsX3_plan_r2 ++ wsX3_plan_r3)) ++ wsX30)
def wsX3_keptBy : List Cond := .code yX3_keptBy cX3_keptBy 6 (some .int) :: ([.fieldLink RX3 94 "SnowTermModel" "sites" "I", .fieldLink RX3 19 "SnowTermModel" "startOf" "[I", .fieldLink RX3 22 "SnowTermModel" "broughtTo" "[I", .fieldLink RX3 16 "SnowTermModel" "deepOf" "[I", .methodLink RX3 133 yX3_atMost, .static yX3_atMost, .initialized RX3, .code yX3_atMost cX3_atMost 1 (some .int), .methodLink RX3 122 yX3_isKept, .instanceMethod yX3_isKept, .selects RX3 yX3_isKept yX3_isKept, .code yX3_isKept cX3_isKept 3 (some .boolean), .fieldLink RX3 13 "SnowTermModel" "wantOf" "[I"] ++ wsX30)
def wsX3_errorNow : List Cond := .code yX3_errorNow cX3_errorNow 7 (some .int) :: ([.fieldLink RX3 94 "SnowTermModel" "sites" "I", .methodLink RX3 140 yX3_keptNow, .instanceMethod yX3_keptNow, .selects RX3 yX3_keptNow yX3_keptNow, .initialized RX3, .code yX3_keptNow cX3_keptNow 3 (some .int), .fieldLink RX3 16 "SnowTermModel" "deepOf" "[I", .methodLink RX3 122 yX3_isKept, .instanceMethod yX3_isKept, .selects RX3 yX3_isKept yX3_isKept, .code yX3_isKept cX3_isKept 3 (some .boolean), .fieldLink RX3 13 "SnowTermModel" "wantOf" "[I", .methodLink RX3 168 yX3_keptBy, .instanceMethod yX3_keptBy, .selects RX3 yX3_keptBy yX3_keptBy, .code yX3_keptBy cX3_keptBy 6 (some .int), .fieldLink RX3 19 "SnowTermModel" "startOf" "[I", .fieldLink RX3 22 "SnowTermModel" "broughtTo" "[I", .methodLink RX3 133 yX3_atMost, .static yX3_atMost, .code yX3_atMost cX3_atMost 1 (some .int)] ++ wsX30)
def wsX3_error_r1 : List Cond := [Cond.fieldLink RX3 94 "SnowTermModel" "sites" "I", Cond.methodLink RX3 68 yX3_within, Cond.static yX3_within, Cond.initialized RX3, Cond.code yX3_within cX3_within 3 (some .boolean), Cond.methodLink RX3 171 yX3_errorNow, Cond.instanceMethod yX3_errorNow, Cond.selects RX3 yX3_errorNow yX3_errorNow, Cond.code yX3_errorNow cX3_errorNow 7 (some .int), Cond.methodLink RX3 140 yX3_keptNow, Cond.instanceMethod yX3_keptNow, Cond.selects RX3 yX3_keptNow yX3_keptNow, Cond.code yX3_keptNow cX3_keptNow 3 (some .int), Cond.fieldLink RX3 16 "SnowTermModel" "deepOf" "[I", Cond.methodLink RX3 122 yX3_isKept, Cond.instanceMethod yX3_isKept, Cond.selects RX3 yX3_isKept yX3_isKept, Cond.code yX3_isKept cX3_isKept 3 (some .boolean), Cond.fieldLink RX3 13 "SnowTermModel" "wantOf" "[I", Cond.methodLink RX3 168 yX3_keptBy, Cond.instanceMethod yX3_keptBy, Cond.selects RX3 yX3_keptBy yX3_keptBy, Cond.code yX3_keptBy cX3_keptBy 6 (some .int), Cond.fieldLink RX3 19 "SnowTermModel" "startOf" "[I"]
def wsX3_error_r2 : List Cond := [Cond.fieldLink RX3 22 "SnowTermModel" "broughtTo" "[I", Cond.methodLink RX3 133 yX3_atMost, Cond.static yX3_atMost, Cond.code yX3_atMost cX3_atMost 1 (some .int)]
def wsX3_error : List Cond := .code yX3_error cX3_error 2 (some .int) :: ((wsX3_error_r1 ++ wsX3_error_r2) ++ wsX30)
def wsX3_found : List Cond := .code yX3_found cX3_found 4 (some .int) :: ([.fieldLink RX3 112 "SnowTermModel" "found" "I", .fieldLink RX3 28 "SnowTermModel" "foundSite" "[I", .fieldLink RX3 31 "SnowTermModel" "foundDeep" "[I", .fieldLink RX3 34 "SnowTermModel" "foundLeft" "[I", .methodLink RX3 126 yX3_isSite, .instanceMethod yX3_isSite, .selects RX3 yX3_isSite yX3_isSite, .initialized RX3, .code yX3_isSite cX3_isSite 2 (some .boolean), .fieldLink RX3 94 "SnowTermModel" "sites" "I", .methodLink RX3 68 yX3_within, .static yX3_within, .code yX3_within cX3_within 3 (some .boolean)] ++ wsX30)
def wsX3_forget : List Cond := .code yX3_forget cX3_forget 2 (some .int) :: ([.fieldLink RX3 112 "SnowTermModel" "found" "I"] ++ wsX30)
def wsX3_leftOf : List Cond := .code yX3_leftOf cX3_leftOf 4 (some .int) :: ([.methodLink RX3 118 yX3_meltsBy, .instanceMethod yX3_meltsBy, .selects RX3 yX3_meltsBy yX3_meltsBy, .initialized RX3, .code yX3_meltsBy cX3_meltsBy 4 (some .int), .fieldLink RX3 25 "SnowTermModel" "feetOf" "[I", .fieldLink RX3 7 "SnowTermModel" "kindOf" "[I", .methodLink RX3 115 yX3_notBelow, .static yX3_notBelow, .code yX3_notBelow cX3_notBelow 1 (some .int)] ++ wsX30)
def wsX3_sunsNow : List Cond := .code yX3_sunsNow cX3_sunsNow 5 (some .int) :: ([.fieldLink RX3 112 "SnowTermModel" "found" "I", .fieldLink RX3 28 "SnowTermModel" "foundSite" "[I", .fieldLink RX3 31 "SnowTermModel" "foundDeep" "[I", .fieldLink RX3 34 "SnowTermModel" "foundLeft" "[I", .methodLink RX3 174 yX3_leftOf, .instanceMethod yX3_leftOf, .selects RX3 yX3_leftOf yX3_leftOf, .initialized RX3, .code yX3_leftOf cX3_leftOf 4 (some .int), .methodLink RX3 118 yX3_meltsBy, .instanceMethod yX3_meltsBy, .selects RX3 yX3_meltsBy yX3_meltsBy, .code yX3_meltsBy cX3_meltsBy 4 (some .int), .fieldLink RX3 25 "SnowTermModel" "feetOf" "[I", .fieldLink RX3 7 "SnowTermModel" "kindOf" "[I", .methodLink RX3 115 yX3_notBelow, .static yX3_notBelow, .code yX3_notBelow cX3_notBelow 1 (some .int)] ++ wsX30)
def wsX3_suns : List Cond := .code yX3_suns cX3_suns 1 (some .int) :: ([.fieldLink RX3 94 "SnowTermModel" "sites" "I", .methodLink RX3 177 yX3_sunsNow, .instanceMethod yX3_sunsNow, .selects RX3 yX3_sunsNow yX3_sunsNow, .initialized RX3, .code yX3_sunsNow cX3_sunsNow 5 (some .int), .fieldLink RX3 112 "SnowTermModel" "found" "I", .fieldLink RX3 28 "SnowTermModel" "foundSite" "[I", .fieldLink RX3 31 "SnowTermModel" "foundDeep" "[I", .fieldLink RX3 34 "SnowTermModel" "foundLeft" "[I", .methodLink RX3 174 yX3_leftOf, .instanceMethod yX3_leftOf, .selects RX3 yX3_leftOf yX3_leftOf, .code yX3_leftOf cX3_leftOf 4 (some .int), .methodLink RX3 118 yX3_meltsBy, .instanceMethod yX3_meltsBy, .selects RX3 yX3_meltsBy yX3_meltsBy, .code yX3_meltsBy cX3_meltsBy 4 (some .int), .fieldLink RX3 25 "SnowTermModel" "feetOf" "[I", .fieldLink RX3 7 "SnowTermModel" "kindOf" "[I", .methodLink RX3 115 yX3_notBelow, .static yX3_notBelow, .code yX3_notBelow cX3_notBelow 1 (some .int)] ++ wsX30)
def wsX3_worstAt : List Cond := .code yX3_worstAt cX3_worstAt 7 (some .int) :: ([.methodLink RX3 155 yX3_isIn, .static yX3_isIn, .initialized RX3, .code yX3_isIn cX3_isIn 2 (some .boolean), .methodLink RX3 174 yX3_leftOf, .instanceMethod yX3_leftOf, .selects RX3 yX3_leftOf yX3_leftOf, .code yX3_leftOf cX3_leftOf 4 (some .int), .methodLink RX3 118 yX3_meltsBy, .instanceMethod yX3_meltsBy, .selects RX3 yX3_meltsBy yX3_meltsBy, .code yX3_meltsBy cX3_meltsBy 4 (some .int), .fieldLink RX3 25 "SnowTermModel" "feetOf" "[I", .fieldLink RX3 7 "SnowTermModel" "kindOf" "[I", .methodLink RX3 115 yX3_notBelow, .static yX3_notBelow, .code yX3_notBelow cX3_notBelow 1 (some .int)] ++ wsX30)
def wsX3_lookNow_r1 : List Cond := [Cond.constant RX3 180 (268435456), Cond.fieldLink RX3 94 "SnowTermModel" "sites" "I", Cond.methodLink RX3 177 yX3_sunsNow, Cond.instanceMethod yX3_sunsNow, Cond.selects RX3 yX3_sunsNow yX3_sunsNow, Cond.initialized RX3, Cond.code yX3_sunsNow cX3_sunsNow 5 (some .int), Cond.fieldLink RX3 112 "SnowTermModel" "found" "I", Cond.fieldLink RX3 28 "SnowTermModel" "foundSite" "[I", Cond.fieldLink RX3 31 "SnowTermModel" "foundDeep" "[I", Cond.fieldLink RX3 34 "SnowTermModel" "foundLeft" "[I", Cond.methodLink RX3 174 yX3_leftOf, Cond.instanceMethod yX3_leftOf, Cond.selects RX3 yX3_leftOf yX3_leftOf, Cond.code yX3_leftOf cX3_leftOf 4 (some .int), Cond.methodLink RX3 118 yX3_meltsBy, Cond.instanceMethod yX3_meltsBy, Cond.selects RX3 yX3_meltsBy yX3_meltsBy, Cond.code yX3_meltsBy cX3_meltsBy 4 (some .int), Cond.fieldLink RX3 25 "SnowTermModel" "feetOf" "[I", Cond.fieldLink RX3 7 "SnowTermModel" "kindOf" "[I", Cond.methodLink RX3 115 yX3_notBelow, Cond.static yX3_notBelow, Cond.code yX3_notBelow cX3_notBelow 1 (some .int)]
def wsX3_lookNow_r2 : List Cond := [Cond.methodLink RX3 181 yX3_worstAt, Cond.instanceMethod yX3_worstAt, Cond.selects RX3 yX3_worstAt yX3_worstAt, Cond.code yX3_worstAt cX3_worstAt 7 (some .int), Cond.methodLink RX3 155 yX3_isIn, Cond.static yX3_isIn, Cond.code yX3_isIn cX3_isIn 2 (some .boolean)]
def wsX3_lookNow : List Cond := .code yX3_lookNow cX3_lookNow 6 (some .int) :: ((wsX3_lookNow_r1 ++ wsX3_lookNow_r2) ++ wsX30)
def wsX3_look_r1 : List Cond := [Cond.fieldLink RX3 94 "SnowTermModel" "sites" "I", Cond.methodLink RX3 184 yX3_lookNow, Cond.instanceMethod yX3_lookNow, Cond.selects RX3 yX3_lookNow yX3_lookNow, Cond.initialized RX3, Cond.code yX3_lookNow cX3_lookNow 6 (some .int), Cond.constant RX3 180 (268435456), Cond.methodLink RX3 177 yX3_sunsNow, Cond.instanceMethod yX3_sunsNow, Cond.selects RX3 yX3_sunsNow yX3_sunsNow, Cond.code yX3_sunsNow cX3_sunsNow 5 (some .int), Cond.fieldLink RX3 112 "SnowTermModel" "found" "I", Cond.fieldLink RX3 28 "SnowTermModel" "foundSite" "[I", Cond.fieldLink RX3 31 "SnowTermModel" "foundDeep" "[I", Cond.fieldLink RX3 34 "SnowTermModel" "foundLeft" "[I", Cond.methodLink RX3 174 yX3_leftOf, Cond.instanceMethod yX3_leftOf, Cond.selects RX3 yX3_leftOf yX3_leftOf, Cond.code yX3_leftOf cX3_leftOf 4 (some .int), Cond.methodLink RX3 118 yX3_meltsBy, Cond.instanceMethod yX3_meltsBy, Cond.selects RX3 yX3_meltsBy yX3_meltsBy, Cond.code yX3_meltsBy cX3_meltsBy 4 (some .int), Cond.fieldLink RX3 25 "SnowTermModel" "feetOf" "[I"]
def wsX3_look_r2 : List Cond := [Cond.fieldLink RX3 7 "SnowTermModel" "kindOf" "[I", Cond.methodLink RX3 115 yX3_notBelow, Cond.static yX3_notBelow, Cond.code yX3_notBelow cX3_notBelow 1 (some .int), Cond.methodLink RX3 181 yX3_worstAt, Cond.instanceMethod yX3_worstAt, Cond.selects RX3 yX3_worstAt yX3_worstAt, Cond.code yX3_worstAt cX3_worstAt 7 (some .int), Cond.methodLink RX3 155 yX3_isIn, Cond.static yX3_isIn, Cond.code yX3_isIn cX3_isIn 2 (some .boolean)]
def wsX3_look : List Cond := .code yX3_look cX3_look 1 (some .int) :: ((wsX3_look_r1 ++ wsX3_look_r2) ++ wsX30)
def wsX3_draw : List Cond := .code yX3_draw cX3_draw 2 (some .int) :: ([.constantLong RX3 187 (1103515245), .fieldLink RX3 189 "SnowTermModel" "seedNow" "J", .constantLong RX3 193 (12345), .constantLong RX3 195 (2147483647), .constantLong RX3 197 (65536)] ++ wsX30)
def wsX3_snowAll : List Cond := .code yX3_snowAll cX3_snowAll 3 (some .int) :: ([.fieldLink RX3 94 "SnowTermModel" "sites" "I", .fieldLink RX3 16 "SnowTermModel" "deepOf" "[I"] ++ wsX30)
def wsX3_wintersNow_r1 : List Cond := [Cond.fieldLink RX3 44 "SnowTermModel" "savedDeep" "[I", Cond.fieldLink RX3 16 "SnowTermModel" "deepOf" "[I", Cond.fieldLink RX3 189 "SnowTermModel" "seedNow" "J", Cond.fieldLink RX3 94 "SnowTermModel" "sites" "I", Cond.methodLink RX3 199 yX3_draw, Cond.instanceMethod yX3_draw, Cond.selects RX3 yX3_draw yX3_draw, Cond.initialized RX3, Cond.code yX3_draw cX3_draw 2 (some .int), Cond.constantLong RX3 187 (1103515245), Cond.constantLong RX3 193 (12345), Cond.constantLong RX3 195 (2147483647), Cond.constantLong RX3 197 (65536), Cond.methodLink RX3 133 yX3_atMost, Cond.static yX3_atMost, Cond.code yX3_atMost cX3_atMost 1 (some .int), Cond.methodLink RX3 136 yX3_melt, Cond.instanceMethod yX3_melt, Cond.selects RX3 yX3_melt yX3_melt, Cond.code yX3_melt cX3_melt 3 none, Cond.methodLink RX3 118 yX3_meltsBy, Cond.instanceMethod yX3_meltsBy, Cond.selects RX3 yX3_meltsBy yX3_meltsBy, Cond.code yX3_meltsBy cX3_meltsBy 4 (some .int)]
def wsX3_wintersNow_r2 : List Cond := [Cond.fieldLink RX3 25 "SnowTermModel" "feetOf" "[I", Cond.fieldLink RX3 7 "SnowTermModel" "kindOf" "[I", Cond.methodLink RX3 115 yX3_notBelow, Cond.static yX3_notBelow, Cond.code yX3_notBelow cX3_notBelow 1 (some .int), Cond.methodLink RX3 140 yX3_keptNow, Cond.instanceMethod yX3_keptNow, Cond.selects RX3 yX3_keptNow yX3_keptNow, Cond.code yX3_keptNow cX3_keptNow 3 (some .int), Cond.methodLink RX3 122 yX3_isKept, Cond.instanceMethod yX3_isKept, Cond.selects RX3 yX3_isKept yX3_isKept, Cond.code yX3_isKept cX3_isKept 3 (some .boolean), Cond.fieldLink RX3 13 "SnowTermModel" "wantOf" "[I", Cond.methodLink RX3 202 yX3_snowAll, Cond.instanceMethod yX3_snowAll, Cond.selects RX3 yX3_snowAll yX3_snowAll, Cond.code yX3_snowAll cX3_snowAll 3 (some .int)]
def wsX3_wintersNow : List Cond := .code yX3_wintersNow cX3_wintersNow 8 (some .int) :: ((wsX3_wintersNow_r1 ++ wsX3_wintersNow_r2) ++ wsX30)
def wsX3_winters_r1 : List Cond := [Cond.fieldLink RX3 94 "SnowTermModel" "sites" "I", Cond.methodLink RX3 68 yX3_within, Cond.static yX3_within, Cond.initialized RX3, Cond.code yX3_within cX3_within 3 (some .boolean), Cond.methodLink RX3 205 yX3_wintersNow, Cond.instanceMethod yX3_wintersNow, Cond.selects RX3 yX3_wintersNow yX3_wintersNow, Cond.code yX3_wintersNow cX3_wintersNow 8 (some .int), Cond.fieldLink RX3 44 "SnowTermModel" "savedDeep" "[I", Cond.fieldLink RX3 16 "SnowTermModel" "deepOf" "[I", Cond.fieldLink RX3 189 "SnowTermModel" "seedNow" "J", Cond.methodLink RX3 199 yX3_draw, Cond.instanceMethod yX3_draw, Cond.selects RX3 yX3_draw yX3_draw, Cond.code yX3_draw cX3_draw 2 (some .int), Cond.constantLong RX3 187 (1103515245), Cond.constantLong RX3 193 (12345), Cond.constantLong RX3 195 (2147483647), Cond.constantLong RX3 197 (65536), Cond.methodLink RX3 133 yX3_atMost, Cond.static yX3_atMost, Cond.code yX3_atMost cX3_atMost 1 (some .int), Cond.methodLink RX3 136 yX3_melt]
def wsX3_winters_r2 : List Cond := [Cond.instanceMethod yX3_melt, Cond.selects RX3 yX3_melt yX3_melt, Cond.code yX3_melt cX3_melt 3 none, Cond.methodLink RX3 118 yX3_meltsBy, Cond.instanceMethod yX3_meltsBy, Cond.selects RX3 yX3_meltsBy yX3_meltsBy, Cond.code yX3_meltsBy cX3_meltsBy 4 (some .int), Cond.fieldLink RX3 25 "SnowTermModel" "feetOf" "[I", Cond.fieldLink RX3 7 "SnowTermModel" "kindOf" "[I", Cond.methodLink RX3 115 yX3_notBelow, Cond.static yX3_notBelow, Cond.code yX3_notBelow cX3_notBelow 1 (some .int), Cond.methodLink RX3 140 yX3_keptNow, Cond.instanceMethod yX3_keptNow, Cond.selects RX3 yX3_keptNow yX3_keptNow, Cond.code yX3_keptNow cX3_keptNow 3 (some .int), Cond.methodLink RX3 122 yX3_isKept, Cond.instanceMethod yX3_isKept, Cond.selects RX3 yX3_isKept yX3_isKept, Cond.code yX3_isKept cX3_isKept 3 (some .boolean), Cond.fieldLink RX3 13 "SnowTermModel" "wantOf" "[I", Cond.methodLink RX3 202 yX3_snowAll, Cond.instanceMethod yX3_snowAll, Cond.selects RX3 yX3_snowAll yX3_snowAll]
def wsX3_winters_r3 : List Cond := [Cond.code yX3_snowAll cX3_snowAll 3 (some .int)]
def wsX3_winters : List Cond := .code yX3_winters cX3_winters 4 (some .int) :: ((wsX3_winters_r1 ++ (wsX3_winters_r2 ++ wsX3_winters_r3)) ++ wsX30)
def wsX3_image_r1 : List Cond := [Cond.fieldLink RX3 94 "SnowTermModel" "sites" "I", Cond.fieldLink RX3 208 "SnowTermModel" "isImage" "Z", Cond.fieldLink RX3 100 "SnowTermModel" "cities" "I", Cond.fieldLink RX3 211 "SnowTermModel" "keptCity" "I", Cond.fieldLink RX3 97 "SnowTermModel" "sunNow" "I", Cond.fieldLink RX3 214 "SnowTermModel" "keptSun" "I", Cond.fieldLink RX3 103 "SnowTermModel" "days" "I", Cond.fieldLink RX3 217 "SnowTermModel" "keptDays" "I", Cond.fieldLink RX3 106 "SnowTermModel" "praise" "I", Cond.fieldLink RX3 220 "SnowTermModel" "keptPraise" "I", Cond.fieldLink RX3 109 "SnowTermModel" "cost" "I", Cond.fieldLink RX3 223 "SnowTermModel" "keptCost" "I", Cond.fieldLink RX3 112 "SnowTermModel" "found" "I", Cond.fieldLink RX3 226 "SnowTermModel" "keptFound" "I", Cond.fieldLink RX3 47 "SnowTermModel" "keptDeep" "[I", Cond.fieldLink RX3 16 "SnowTermModel" "deepOf" "[I", Cond.fieldLink RX3 50 "SnowTermModel" "keptStart" "[I", Cond.fieldLink RX3 19 "SnowTermModel" "startOf" "[I", Cond.fieldLink RX3 53 "SnowTermModel" "keptBrought" "[I", Cond.fieldLink RX3 22 "SnowTermModel" "broughtTo" "[I", Cond.fieldLink RX3 56 "SnowTermModel" "keptFeet" "[I", Cond.fieldLink RX3 25 "SnowTermModel" "feetOf" "[I", Cond.fieldLink RX3 59 "SnowTermModel" "keptSite" "[I", Cond.fieldLink RX3 28 "SnowTermModel" "foundSite" "[I"]
def wsX3_image_r2 : List Cond := [Cond.fieldLink RX3 62 "SnowTermModel" "keptFoundDeep" "[I", Cond.fieldLink RX3 31 "SnowTermModel" "foundDeep" "[I", Cond.fieldLink RX3 65 "SnowTermModel" "keptLeft" "[I", Cond.fieldLink RX3 34 "SnowTermModel" "foundLeft" "[I"]
def wsX3_image : List Cond := .code yX3_image cX3_image 2 (some .int) :: ((wsX3_image_r1 ++ wsX3_image_r2) ++ wsX30)
def wsX3_restore_r1 : List Cond := [Cond.fieldLink RX3 208 "SnowTermModel" "isImage" "Z", Cond.fieldLink RX3 211 "SnowTermModel" "keptCity" "I", Cond.fieldLink RX3 100 "SnowTermModel" "cities" "I", Cond.fieldLink RX3 214 "SnowTermModel" "keptSun" "I", Cond.fieldLink RX3 97 "SnowTermModel" "sunNow" "I", Cond.fieldLink RX3 217 "SnowTermModel" "keptDays" "I", Cond.fieldLink RX3 103 "SnowTermModel" "days" "I", Cond.fieldLink RX3 220 "SnowTermModel" "keptPraise" "I", Cond.fieldLink RX3 106 "SnowTermModel" "praise" "I", Cond.fieldLink RX3 223 "SnowTermModel" "keptCost" "I", Cond.fieldLink RX3 109 "SnowTermModel" "cost" "I", Cond.fieldLink RX3 226 "SnowTermModel" "keptFound" "I", Cond.fieldLink RX3 112 "SnowTermModel" "found" "I", Cond.fieldLink RX3 16 "SnowTermModel" "deepOf" "[I", Cond.fieldLink RX3 47 "SnowTermModel" "keptDeep" "[I", Cond.fieldLink RX3 19 "SnowTermModel" "startOf" "[I", Cond.fieldLink RX3 50 "SnowTermModel" "keptStart" "[I", Cond.fieldLink RX3 22 "SnowTermModel" "broughtTo" "[I", Cond.fieldLink RX3 53 "SnowTermModel" "keptBrought" "[I", Cond.fieldLink RX3 25 "SnowTermModel" "feetOf" "[I", Cond.fieldLink RX3 56 "SnowTermModel" "keptFeet" "[I", Cond.fieldLink RX3 28 "SnowTermModel" "foundSite" "[I", Cond.fieldLink RX3 59 "SnowTermModel" "keptSite" "[I", Cond.fieldLink RX3 31 "SnowTermModel" "foundDeep" "[I"]
def wsX3_restore_r2 : List Cond := [Cond.fieldLink RX3 62 "SnowTermModel" "keptFoundDeep" "[I", Cond.fieldLink RX3 34 "SnowTermModel" "foundLeft" "[I", Cond.fieldLink RX3 65 "SnowTermModel" "keptLeft" "[I"]
def wsX3_restore : List Cond := .code yX3_restore cX3_restore 2 (some .int) :: ((wsX3_restore_r1 ++ wsX3_restore_r2) ++ wsX30)
def wsX3_howMany : List Cond := .code yX3_howMany cX3_howMany 2 (some .int) :: ([.fieldLink RX3 94 "SnowTermModel" "sites" "I", .fieldLink RX3 97 "SnowTermModel" "sunNow" "I", .fieldLink RX3 103 "SnowTermModel" "days" "I", .fieldLink RX3 106 "SnowTermModel" "praise" "I", .fieldLink RX3 109 "SnowTermModel" "cost" "I", .fieldLink RX3 112 "SnowTermModel" "found" "I", .fieldLink RX3 72 "SnowTermModel" "pageLength" "I", .fieldLink RX3 100 "SnowTermModel" "cities" "I", .methodLink RX3 202 yX3_snowAll, .instanceMethod yX3_snowAll, .selects RX3 yX3_snowAll yX3_snowAll, .initialized RX3, .code yX3_snowAll cX3_snowAll 3 (some .int), .fieldLink RX3 16 "SnowTermModel" "deepOf" "[I", .methodLink RX3 140 yX3_keptNow, .instanceMethod yX3_keptNow, .selects RX3 yX3_keptNow yX3_keptNow, .code yX3_keptNow cX3_keptNow 3 (some .int), .methodLink RX3 122 yX3_isKept, .instanceMethod yX3_isKept, .selects RX3 yX3_isKept yX3_isKept, .code yX3_isKept cX3_isKept 3 (some .boolean), .fieldLink RX3 13 "SnowTermModel" "wantOf" "[I"] ++ wsX30)
def wsX3_count_r1 : List Cond := [Cond.methodLink RX3 229 yX3_howMany, Cond.instanceMethod yX3_howMany, Cond.selects RX3 yX3_howMany yX3_howMany, Cond.initialized RX3, Cond.code yX3_howMany cX3_howMany 2 (some .int), Cond.fieldLink RX3 94 "SnowTermModel" "sites" "I", Cond.fieldLink RX3 97 "SnowTermModel" "sunNow" "I", Cond.fieldLink RX3 103 "SnowTermModel" "days" "I", Cond.fieldLink RX3 106 "SnowTermModel" "praise" "I", Cond.fieldLink RX3 109 "SnowTermModel" "cost" "I", Cond.fieldLink RX3 112 "SnowTermModel" "found" "I", Cond.fieldLink RX3 72 "SnowTermModel" "pageLength" "I", Cond.fieldLink RX3 100 "SnowTermModel" "cities" "I", Cond.methodLink RX3 202 yX3_snowAll, Cond.instanceMethod yX3_snowAll, Cond.selects RX3 yX3_snowAll yX3_snowAll, Cond.code yX3_snowAll cX3_snowAll 3 (some .int), Cond.fieldLink RX3 16 "SnowTermModel" "deepOf" "[I", Cond.methodLink RX3 140 yX3_keptNow, Cond.instanceMethod yX3_keptNow, Cond.selects RX3 yX3_keptNow yX3_keptNow, Cond.code yX3_keptNow cX3_keptNow 3 (some .int), Cond.methodLink RX3 122 yX3_isKept, Cond.instanceMethod yX3_isKept]
def wsX3_count_r2 : List Cond := [Cond.selects RX3 yX3_isKept yX3_isKept, Cond.code yX3_isKept cX3_isKept 3 (some .boolean), Cond.fieldLink RX3 13 "SnowTermModel" "wantOf" "[I"]
def wsX3_count : List Cond := .code yX3_count cX3_count 2 (some .int) :: ((wsX3_count_r1 ++ wsX3_count_r2) ++ wsX30)
def wsX3_mix : List Cond := .code yX3_mix cX3_mix 3 none :: ([.constantLong RX3 232 (31), .fieldLink RX3 234 "SnowTermModel" "h" "J"] ++ wsX30)
def wsX3_digest_r1 : List Cond := [Cond.constantLong RX3 237 (1061), Cond.fieldLink RX3 234 "SnowTermModel" "h" "J", Cond.fieldLink RX3 94 "SnowTermModel" "sites" "I", Cond.fieldLink RX3 72 "SnowTermModel" "pageLength" "I", Cond.fieldLink RX3 37 "SnowTermModel" "page" "[B", Cond.methodLink RX3 130 yX3_siteNow, Cond.instanceMethod yX3_siteNow, Cond.selects RX3 yX3_siteNow yX3_siteNow, Cond.initialized RX3, Cond.code yX3_siteNow cX3_siteNow 3 (some .int), Cond.fieldLink RX3 7 "SnowTermModel" "kindOf" "[I", Cond.fieldLink RX3 13 "SnowTermModel" "wantOf" "[I", Cond.fieldLink RX3 16 "SnowTermModel" "deepOf" "[I", Cond.fieldLink RX3 25 "SnowTermModel" "feetOf" "[I", Cond.fieldLink RX3 97 "SnowTermModel" "sunNow" "I", Cond.fieldLink RX3 22 "SnowTermModel" "broughtTo" "[I", Cond.methodLink RX3 118 yX3_meltsBy, Cond.instanceMethod yX3_meltsBy, Cond.selects RX3 yX3_meltsBy yX3_meltsBy, Cond.code yX3_meltsBy cX3_meltsBy 4 (some .int), Cond.methodLink RX3 115 yX3_notBelow, Cond.static yX3_notBelow, Cond.code yX3_notBelow cX3_notBelow 1 (some .int), Cond.methodLink RX3 122 yX3_isKept]
def wsX3_digest_r2 : List Cond := [Cond.instanceMethod yX3_isKept, Cond.selects RX3 yX3_isKept yX3_isKept, Cond.code yX3_isKept cX3_isKept 3 (some .boolean), Cond.methodLink RX3 239 yX3_mix, Cond.instanceMethod yX3_mix, Cond.selects RX3 yX3_mix yX3_mix, Cond.code yX3_mix cX3_mix 3 none, Cond.constantLong RX3 232 (31), Cond.methodLink RX3 146 yX3_needOf, Cond.instanceMethod yX3_needOf, Cond.selects RX3 yX3_needOf yX3_needOf, Cond.code yX3_needOf cX3_needOf 4 (some .int), Cond.methodLink RX3 143 yX3_isKeptFor, Cond.instanceMethod yX3_isKeptFor, Cond.selects RX3 yX3_isKeptFor yX3_isKeptFor, Cond.code yX3_isKeptFor cX3_isKeptFor 7 (some .boolean), Cond.methodLink RX3 133 yX3_atMost, Cond.static yX3_atMost, Cond.code yX3_atMost cX3_atMost 1 (some .int), Cond.methodLink RX3 164 yX3_planNow, Cond.instanceMethod yX3_planNow, Cond.selects RX3 yX3_planNow yX3_planNow, Cond.code yX3_planNow cX3_planNow 9 (some .int), Cond.fieldLink RX3 41 "SnowTermModel" "needs" "[I"]
def wsX3_digest_r3 : List Cond := [Cond.fieldLink RX3 149 "SnowTermModel" "setLoads" "I", Cond.fieldLink RX3 152 "SnowTermModel" "setCost" "I", Cond.methodLink RX3 158 yX3_layNeeds, Cond.instanceMethod yX3_layNeeds, Cond.selects RX3 yX3_layNeeds yX3_layNeeds, Cond.code yX3_layNeeds cX3_layNeeds 4 (some .boolean), Cond.methodLink RX3 155 yX3_isIn, Cond.static yX3_isIn, Cond.code yX3_isIn cX3_isIn 2 (some .boolean), Cond.methodLink RX3 161 yX3_size, Cond.static yX3_size, Cond.code yX3_size cX3_size 3 (some .int), Cond.methodLink RX3 171 yX3_errorNow, Cond.instanceMethod yX3_errorNow, Cond.selects RX3 yX3_errorNow yX3_errorNow, Cond.code yX3_errorNow cX3_errorNow 7 (some .int), Cond.methodLink RX3 140 yX3_keptNow, Cond.instanceMethod yX3_keptNow, Cond.selects RX3 yX3_keptNow yX3_keptNow, Cond.code yX3_keptNow cX3_keptNow 3 (some .int), Cond.methodLink RX3 168 yX3_keptBy, Cond.instanceMethod yX3_keptBy, Cond.selects RX3 yX3_keptBy yX3_keptBy, Cond.code yX3_keptBy cX3_keptBy 6 (some .int)]
def wsX3_digest_r4 : List Cond := [Cond.fieldLink RX3 19 "SnowTermModel" "startOf" "[I", Cond.methodLink RX3 177 yX3_sunsNow, Cond.instanceMethod yX3_sunsNow, Cond.selects RX3 yX3_sunsNow yX3_sunsNow, Cond.code yX3_sunsNow cX3_sunsNow 5 (some .int), Cond.fieldLink RX3 112 "SnowTermModel" "found" "I", Cond.fieldLink RX3 28 "SnowTermModel" "foundSite" "[I", Cond.fieldLink RX3 31 "SnowTermModel" "foundDeep" "[I", Cond.fieldLink RX3 34 "SnowTermModel" "foundLeft" "[I", Cond.methodLink RX3 174 yX3_leftOf, Cond.instanceMethod yX3_leftOf, Cond.selects RX3 yX3_leftOf yX3_leftOf, Cond.code yX3_leftOf cX3_leftOf 4 (some .int), Cond.methodLink RX3 184 yX3_lookNow, Cond.instanceMethod yX3_lookNow, Cond.selects RX3 yX3_lookNow yX3_lookNow, Cond.code yX3_lookNow cX3_lookNow 6 (some .int), Cond.constant RX3 180 (268435456), Cond.methodLink RX3 181 yX3_worstAt, Cond.instanceMethod yX3_worstAt, Cond.selects RX3 yX3_worstAt yX3_worstAt, Cond.code yX3_worstAt cX3_worstAt 7 (some .int), Cond.methodLink RX3 229 yX3_howMany, Cond.instanceMethod yX3_howMany]
def wsX3_digest_r5 : List Cond := [Cond.selects RX3 yX3_howMany yX3_howMany, Cond.code yX3_howMany cX3_howMany 2 (some .int), Cond.fieldLink RX3 103 "SnowTermModel" "days" "I", Cond.fieldLink RX3 106 "SnowTermModel" "praise" "I", Cond.fieldLink RX3 109 "SnowTermModel" "cost" "I", Cond.fieldLink RX3 100 "SnowTermModel" "cities" "I", Cond.methodLink RX3 202 yX3_snowAll, Cond.instanceMethod yX3_snowAll, Cond.selects RX3 yX3_snowAll yX3_snowAll, Cond.code yX3_snowAll cX3_snowAll 3 (some .int)]
def wsX3_digest : List Cond := .code yX3_digest cX3_digest 3 (some .long) :: ((wsX3_digest_r1 ++ (wsX3_digest_r2 ++ (wsX3_digest_r3 ++ (wsX3_digest_r4 ++ wsX3_digest_r5)))) ++ wsX30)
def wsJ9_max_7cf53 : List Cond := .code yJ9_max_7cf53 cJ9_max_7cf53 2 (some .int) :: ([])
def wsJ9_min_7cf53 : List Cond := .code yJ9_min_7cf53 cJ9_min_7cf53 2 (some .int) :: ([])
def wsL_law_r1 : List Cond := [Cond.classLink RL 7 RX2, Cond.instantiable RX2 10, Cond.initialized RX2, Cond.classLink RL 10 RX3, Cond.instantiable RX3 40, Cond.initialized RX3, Cond.methodLink RL 9 yX2_init, Cond.instanceMethod yX2_init, Cond.code yX2_init cX2_init 1 none, Cond.methodLink RX2 1 objectInit, Cond.instanceMethod objectInit, Cond.code objectInit ⟨#[0xb1]⟩ 1 none, Cond.classLink RX2 7 RX0, Cond.instantiable RX0 2, Cond.initialized RX0, Cond.fieldLink RX2 10 "SnowTerm" "page" "LSnowTerm$Page;", Cond.arrayClass .int, Cond.fieldLink RX2 16 "SnowTerm" "kinds" "[I", Cond.fieldLink RX2 20 "SnowTerm" "wants" "[I", Cond.classLink RX2 23 RX1, Cond.instantiable RX1 13, Cond.initialized RX1, Cond.fieldLink RX2 26 "SnowTerm" "now" "LSnowTerm$Term;", Cond.fieldLink RX2 30 "SnowTerm" "atImage" "LSnowTerm$Term;"]
def wsL_law_r2 : List Cond := [Cond.fieldLink RX2 33 "SnowTerm" "wouldBe" "[I", Cond.fieldLink RX2 36 "SnowTerm" "needs" "[I", Cond.fieldLink RX2 39 "SnowTerm" "sites" "I", Cond.fieldLink RX2 43 "SnowTerm" "citiesRead" "I", Cond.fieldLink RX2 46 "SnowTerm" "hasImage" "Z", Cond.methodLink RX2 9 yX0_init, Cond.instanceMethod yX0_init, Cond.code yX0_init cX0_init 1 none, Cond.methodLink RX0 3 objectInit, Cond.fieldLink RX0 9 "SnowTerm$Page" "codes" "[I", Cond.fieldLink RX0 15 "SnowTerm$Page" "size" "I", Cond.methodLink RX2 25 yX1_init, Cond.instanceMethod yX1_init, Cond.code yX1_init cX1_init 1 none, Cond.methodLink RX1 3 objectInit, Cond.fieldLink RX1 9 "SnowTerm$Term" "snow" "[I", Cond.fieldLink RX1 15 "SnowTerm$Term" "snowAtDusk" "[I", Cond.fieldLink RX1 18 "SnowTerm$Term" "feet" "[I", Cond.fieldLink RX1 21 "SnowTerm$Term" "brought" "[I", Cond.fieldLink RX1 24 "SnowTerm$Term" "foundKind" "[I", Cond.fieldLink RX1 27 "SnowTerm$Term" "foundFeet" "[I", Cond.fieldLink RX1 30 "SnowTerm$Term" "foundDeep" "[I", Cond.fieldLink RX1 33 "SnowTerm$Term" "foundLeft" "[I", Cond.methodLink RL 12 yX3_init]
def wsL_law_r3 : List Cond := [Cond.instanceMethod yX3_init, Cond.code yX3_init cX3_init 1 none, Cond.methodLink RX3 1 objectInit, Cond.fieldLink RX3 7 "SnowTermModel" "kindOf" "[I", Cond.fieldLink RX3 13 "SnowTermModel" "wantOf" "[I", Cond.fieldLink RX3 16 "SnowTermModel" "deepOf" "[I", Cond.fieldLink RX3 19 "SnowTermModel" "startOf" "[I", Cond.fieldLink RX3 22 "SnowTermModel" "broughtTo" "[I", Cond.fieldLink RX3 25 "SnowTermModel" "feetOf" "[I", Cond.fieldLink RX3 28 "SnowTermModel" "foundSite" "[I", Cond.fieldLink RX3 31 "SnowTermModel" "foundDeep" "[I", Cond.fieldLink RX3 34 "SnowTermModel" "foundLeft" "[I", Cond.arrayClass .byte, Cond.fieldLink RX3 37 "SnowTermModel" "page" "[B", Cond.fieldLink RX3 41 "SnowTermModel" "needs" "[I", Cond.fieldLink RX3 44 "SnowTermModel" "savedDeep" "[I", Cond.fieldLink RX3 47 "SnowTermModel" "keptDeep" "[I", Cond.fieldLink RX3 50 "SnowTermModel" "keptStart" "[I", Cond.fieldLink RX3 53 "SnowTermModel" "keptBrought" "[I", Cond.fieldLink RX3 56 "SnowTermModel" "keptFeet" "[I", Cond.fieldLink RX3 59 "SnowTermModel" "keptSite" "[I", Cond.fieldLink RX3 62 "SnowTermModel" "keptFoundDeep" "[I", Cond.fieldLink RX3 65 "SnowTermModel" "keptLeft" "[I", Cond.methodLink RL 13 yX2_letter]
def wsL_law_r4 : List Cond := [Cond.instanceMethod yX2_letter, Cond.selects RX2 yX2_letter yX2_letter, Cond.code yX2_letter cX2_letter 2 (some .int), Cond.fieldLink RX2 58 "SnowTerm$Page" "size" "I", Cond.methodLink RX2 50 yX2_isWithin, Cond.static yX2_isWithin, Cond.code yX2_isWithin cX2_isWithin 3 (some .boolean), Cond.methodLink RX2 54 yX0_add, Cond.instanceMethod yX0_add, Cond.selects RX0 yX0_add yX0_add, Cond.code yX0_add cX0_add 2 (some .boolean), Cond.methodLink RL 17 yX3_letter, Cond.instanceMethod yX3_letter, Cond.selects RX3 yX3_letter yX3_letter, Cond.code yX3_letter cX3_letter 2 (some .int), Cond.fieldLink RX3 72 "SnowTermModel" "pageLength" "I", Cond.methodLink RX3 68 yX3_within, Cond.static yX3_within, Cond.code yX3_within cX3_within 3 (some .boolean), Cond.methodLink RL 18 yX2_blank, Cond.instanceMethod yX2_blank, Cond.selects RX2 yX2_blank yX2_blank, Cond.code yX2_blank cX2_blank 1 (some .int), Cond.methodLink RX2 61 yX0_clear]
def wsL_law_r5 : List Cond := [Cond.instanceMethod yX0_clear, Cond.selects RX0 yX0_clear yX0_clear, Cond.code yX0_clear cX0_clear 2 (some .int), Cond.methodLink RL 22 yX3_blank, Cond.instanceMethod yX3_blank, Cond.selects RX3 yX3_blank yX3_blank, Cond.code yX3_blank cX3_blank 2 (some .int), Cond.methodLink RL 23 yX2_fault, Cond.instanceMethod yX2_fault, Cond.selects RX2 yX2_fault yX2_fault, Cond.code yX2_fault cX2_fault 1 (some .int), Cond.methodLink RX2 65 yX0_faultPlace, Cond.instanceMethod yX0_faultPlace, Cond.selects RX0 yX0_faultPlace yX0_faultPlace, Cond.code yX0_faultPlace cX0_faultPlace 4 (some .int), Cond.methodLink RX0 19 yX0_fitsAmongSites, Cond.instanceMethod yX0_fitsAmongSites, Cond.selects RX0 yX0_fitsAmongSites yX0_fitsAmongSites, Cond.code yX0_fitsAmongSites cX0_fitsAmongSites 2 (some .boolean), Cond.methodLink RX0 35 yX0_kindAt, Cond.instanceMethod yX0_kindAt, Cond.selects RX0 yX0_kindAt yX0_kindAt, Cond.code yX0_kindAt cX0_kindAt 2 (some .int), Cond.methodLink RX0 27 yX0_codeAt]
def wsL_law_r6 : List Cond := [Cond.instanceMethod yX0_codeAt, Cond.selects RX0 yX0_codeAt yX0_codeAt, Cond.code yX0_codeAt cX0_codeAt 2 (some .int), Cond.methodLink RX0 51 yJ0_indexOf_0f7a4, Cond.instanceMethod yJ0_indexOf_0f7a4, Cond.selects RJ0 yJ0_indexOf_0f7a4 yJ0_indexOf_0f7a4, Cond.initialized RJ0, Cond.code yJ0_indexOf_0f7a4 cJ0_indexOf_0f7a4 2 (some .int), Cond.methodLink RJ0 633 yJ0_indexOf_7cf53, Cond.instanceMethod yJ0_indexOf_7cf53, Cond.selects RJ0 yJ0_indexOf_7cf53 yJ0_indexOf_7cf53, Cond.code yJ0_indexOf_7cf53 cJ0_indexOf_7cf53 3 (some .int), Cond.fieldLink RJ0 9 "java/lang/String" "value" "[B", Cond.methodLink RJ0 492 yJ0_isLatin1_aae02, Cond.instanceMethod yJ0_isLatin1_aae02, Cond.selects RJ0 yJ0_isLatin1_aae02 yJ0_isLatin1_aae02, Cond.code yJ0_isLatin1_aae02 cJ0_isLatin1_aae02 1 (some .boolean), Cond.fieldLink RJ0 38 "java/lang/String" "COMPACT_STRINGS" "Z", Cond.fieldLink RJ0 15 "java/lang/String" "coder" "B", Cond.methodLink RJ0 505 yJ0_length_8abf5, Cond.instanceMethod yJ0_length_8abf5, Cond.selects RJ0 yJ0_length_8abf5 yJ0_length_8abf5, Cond.code yJ0_length_8abf5 cJ0_length_8abf5 1 (some .int), Cond.methodLink RJ0 335 yJ0_coder_7d493]
def wsL_law_r7 : List Cond := [Cond.instanceMethod yJ0_coder_7d493, Cond.selects RJ0 yJ0_coder_7d493 yJ0_coder_7d493, Cond.code yJ0_coder_7d493 cJ0_coder_7d493 1 (some .byte), Cond.methodLink RJ0 637 yJ1_indexOf_4cfef, Cond.static yJ1_indexOf_4cfef, Cond.initialized RJ1, Cond.code yJ1_indexOf_4cfef cJ1_indexOf_4cfef 4 (some .int), Cond.methodLink RJ1 92 Lib.Math.max.name, Cond.static Lib.Math.max.name, Cond.initialized "java/lang/Math", Cond.code Lib.Math.max.name Lib.Math.max.code 2 (some .int), Cond.methodLink RJ1 38 Lib.Math.min.name, Cond.static Lib.Math.min.name, Cond.code Lib.Math.min.name Lib.Math.min.code 2 (some .int), Cond.methodLink RJ1 88 yJ1_canEncode_9a6ad, Cond.static yJ1_canEncode_9a6ad, Cond.code yJ1_canEncode_9a6ad cJ1_canEncode_9a6ad 1 (some .boolean), Cond.methodLink RJ1 95 yJ1_indexOfChar_4cfef, Cond.static yJ1_indexOfChar_4cfef, Cond.code yJ1_indexOfChar_4cfef cJ1_indexOfChar_4cfef 6 (some .int), Cond.methodLink RJ0 640 yJ2_indexOf_4cfef, Cond.static yJ2_indexOf_4cfef, Cond.initialized RJ2, Cond.code yJ2_indexOf_4cfef cJ2_indexOf_4cfef 4 (some .int)]
def wsL_law_r8 : List Cond := [Cond.methodLink RJ2 224 Lib.Math.max.name, Cond.methodLink RJ2 183 Lib.Math.min.name, Cond.constant RJ2 227 (65536), Cond.methodLink RJ2 228 yJ2_indexOfChar_4cfef, Cond.static yJ2_indexOfChar_4cfef, Cond.code yJ2_indexOfChar_4cfef cJ2_indexOfChar_4cfef 4 (some .int), Cond.methodLink RJ2 96 yJ2_checkBoundsBeginEnd_d044e, Cond.static yJ2_checkBoundsBeginEnd_d044e, Cond.code yJ2_checkBoundsBeginEnd_d044e cJ2_checkBoundsBeginEnd_d044e 3 none, Cond.methodLink RJ2 48 yJ2_length_9d52b, Cond.static yJ2_length_9d52b, Cond.code yJ2_length_9d52b cJ2_length_9d52b 1 (some .int), Cond.methodLink RJ2 241 yJ0_checkBoundsBeginEnd_23922, Cond.static yJ0_checkBoundsBeginEnd_23922, Cond.code yJ0_checkBoundsBeginEnd_23922 cJ0_checkBoundsBeginEnd_23922 3 none, Cond.fieldLink RJ0 1053 "jdk/internal/util/Preconditions" "SIOOBE_FORMATTER" "Ljava/util/function/BiFunction;", Cond.methodLink RJ0 1062 yJ3_checkFromToIndex_8c36e, Cond.static yJ3_checkFromToIndex_8c36e, Cond.initialized RJ3, Cond.code yJ3_checkFromToIndex_8c36e cJ3_checkFromToIndex_8c36e 4 (some .int), Cond.methodLink RJ2 244 yJ2_indexOfCharUnsafe_4cfef, Cond.static yJ2_indexOfCharUnsafe_4cfef, Cond.code yJ2_indexOfCharUnsafe_4cfef cJ2_indexOfCharUnsafe_4cfef 5 (some .int), Cond.methodLink RJ2 71 yJ2_getChar_3b067]
def wsL_law_r9 : List Cond := [Cond.static yJ2_getChar_3b067, Cond.code yJ2_getChar_3b067 cJ2_getChar_3b067 2 (some .char), Cond.fieldLink RJ2 44 "java/lang/StringUTF16" "$assertionsDisabled" "Z", Cond.fieldLink RJ2 59 "java/lang/StringUTF16" "HI_BYTE_SHIFT" "I", Cond.fieldLink RJ2 63 "java/lang/StringUTF16" "LO_BYTE_SHIFT" "I", Cond.methodLink RJ2 232 yJ2_indexOfSupplementary_4cfef, Cond.static yJ2_indexOfSupplementary_4cfef, Cond.code yJ2_indexOfSupplementary_4cfef cJ2_indexOfSupplementary_4cfef 7 (some .int), Cond.methodLink RJ2 164 yJ11_isValidCodePoint_9a6ad, Cond.static yJ11_isValidCodePoint_9a6ad, Cond.initialized RJ11, Cond.code yJ11_isValidCodePoint_9a6ad cJ11_isValidCodePoint_9a6ad 2 (some .boolean), Cond.methodLink RJ2 157 yJ11_highSurrogate_5068e, Cond.static yJ11_highSurrogate_5068e, Cond.code yJ11_highSurrogate_5068e cJ11_highSurrogate_5068e 1 (some .char), Cond.constant RJ11 110 (55232), Cond.methodLink RJ2 161 yJ11_lowSurrogate_5068e, Cond.static yJ11_lowSurrogate_5068e, Cond.code yJ11_lowSurrogate_5068e cJ11_lowSurrogate_5068e 1 (some .char), Cond.constant RJ11 76 (56320), Cond.methodLink RX0 23 yX0_isDigitFrom, Cond.instanceMethod yX0_isDigitFrom, Cond.selects RX0 yX0_isDigitFrom yX0_isDigitFrom, Cond.code yX0_isDigitFrom cX0_isDigitFrom 3 (some .boolean)]
def wsL_law_r10 : List Cond := [Cond.methodLink RX0 41 yX0_fitsBehindSites, Cond.instanceMethod yX0_fitsBehindSites, Cond.selects RX0 yX0_fitsBehindSites yX0_fitsBehindSites, Cond.code yX0_fitsBehindSites cX0_fitsBehindSites 4 (some .boolean), Cond.methodLink RL 26 yX3_fault, Cond.instanceMethod yX3_fault, Cond.selects RX3 yX3_fault yX3_fault, Cond.code yX3_fault cX3_fault 1 (some .int), Cond.methodLink RX3 90 yX3_read, Cond.instanceMethod yX3_read, Cond.selects RX3 yX3_read yX3_read, Cond.code yX3_read cX3_read 2 (some .int), Cond.fieldLink RX3 76 "SnowTermModel" "isWhole" "Z", Cond.fieldLink RX3 80 "SnowTermModel" "newMany" "I", Cond.methodLink RX3 83 yX3_kindBy, Cond.static yX3_kindBy, Cond.code yX3_kindBy cX3_kindBy 1 (some .int), Cond.methodLink RX3 87 yX3_figure, Cond.instanceMethod yX3_figure, Cond.selects RX3 yX3_figure yX3_figure, Cond.code yX3_figure cX3_figure 2 (some .int), Cond.methodLink RL 27 yX2_city, Cond.instanceMethod yX2_city, Cond.selects RX2 yX2_city yX2_city]
def wsL_law_r11 : List Cond := [Cond.code yX2_city cX2_city 2 (some .int), Cond.methodLink RX2 68 yX0_isWhole, Cond.instanceMethod yX0_isWhole, Cond.selects RX0 yX0_isWhole yX0_isWhole, Cond.code yX0_isWhole cX0_isWhole 1 (some .boolean), Cond.methodLink RX0 31 yX0_faultPlace, Cond.methodLink RX2 72 yX0_siteCount, Cond.instanceMethod yX0_siteCount, Cond.selects RX0 yX0_siteCount yX0_siteCount, Cond.code yX0_siteCount cX0_siteCount 1 (some .int), Cond.methodLink RX2 75 yX0_kindOf, Cond.instanceMethod yX0_kindOf, Cond.selects RX0 yX0_kindOf yX0_kindOf, Cond.code yX0_kindOf cX0_kindOf 2 (some .int), Cond.methodLink RX2 79 yX0_wantOf, Cond.instanceMethod yX0_wantOf, Cond.selects RX0 yX0_wantOf yX0_wantOf, Cond.code yX0_wantOf cX0_wantOf 2 (some .int), Cond.methodLink RX0 38 yX0_digitAt, Cond.instanceMethod yX0_digitAt, Cond.selects RX0 yX0_digitAt yX0_digitAt, Cond.code yX0_digitAt cX0_digitAt 2 (some .int), Cond.methodLink RX2 82 yX0_sunTold, Cond.instanceMethod yX0_sunTold]
def wsL_law_r12 : List Cond := [Cond.selects RX0 yX0_sunTold yX0_sunTold, Cond.code yX0_sunTold cX0_sunTold 1 (some .int), Cond.methodLink RX2 85 yX1_begin, Cond.instanceMethod yX1_begin, Cond.selects RX1 yX1_begin yX1_begin, Cond.code yX1_begin cX1_begin 3 none, Cond.fieldLink RX1 36 "SnowTerm$Term" "day" "I", Cond.fieldLink RX1 40 "SnowTerm$Term" "sun" "I", Cond.fieldLink RX1 43 "SnowTerm$Term" "cost" "I", Cond.fieldLink RX1 46 "SnowTerm$Term" "praise" "I", Cond.fieldLink RX1 49 "SnowTerm$Term" "foundCount" "I", Cond.methodLink RL 30 yX3_city, Cond.instanceMethod yX3_city, Cond.selects RX3 yX3_city yX3_city, Cond.code yX3_city cX3_city 3 (some .int), Cond.fieldLink RX3 94 "SnowTermModel" "sites" "I", Cond.fieldLink RX3 97 "SnowTermModel" "sunNow" "I", Cond.fieldLink RX3 100 "SnowTermModel" "cities" "I", Cond.fieldLink RX3 103 "SnowTermModel" "days" "I", Cond.fieldLink RX3 106 "SnowTermModel" "praise" "I", Cond.fieldLink RX3 109 "SnowTermModel" "cost" "I", Cond.fieldLink RX3 112 "SnowTermModel" "found" "I", Cond.methodLink RL 31 yX2_about, Cond.instanceMethod yX2_about]
def wsL_law_r13 : List Cond := [Cond.selects RX2 yX2_about yX2_about, Cond.code yX2_about cX2_about 3 (some .int), Cond.fieldLink RX2 92 "SnowTerm$Term" "snow" "[I", Cond.fieldLink RX2 95 "SnowTerm$Term" "feet" "[I", Cond.fieldLink RX2 105 "SnowTerm$Term" "brought" "[I", Cond.methodLink RX2 89 yX2_isSite, Cond.instanceMethod yX2_isSite, Cond.selects RX2 yX2_isSite yX2_isSite, Cond.code yX2_isSite cX2_isSite 2 (some .boolean), Cond.methodLink RX2 98 yX2_meltsNow, Cond.instanceMethod yX2_meltsNow, Cond.selects RX2 yX2_meltsNow yX2_meltsNow, Cond.code yX2_meltsNow cX2_meltsNow 2 (some .int), Cond.fieldLink RX2 121 "SnowTerm$Term" "sun" "I", Cond.methodLink RX2 243 yX2_melting, Cond.static yX2_melting, Cond.code yX2_melting cX2_melting 4 (some .int), Cond.methodLink RX2 101 yX2_isKeptWith, Cond.instanceMethod yX2_isKeptWith, Cond.selects RX2 yX2_isKeptWith yX2_isKeptWith, Cond.code yX2_isKeptWith cX2_isKeptWith 3 (some .boolean), Cond.methodLink RL 35 yX3_about, Cond.instanceMethod yX3_about, Cond.selects RX3 yX3_about yX3_about]
def wsL_law_r14 : List Cond := [Cond.code yX3_about cX3_about 3 (some .int), Cond.methodLink RX3 126 yX3_isSite, Cond.instanceMethod yX3_isSite, Cond.selects RX3 yX3_isSite yX3_isSite, Cond.code yX3_isSite cX3_isSite 2 (some .boolean), Cond.methodLink RX3 130 yX3_siteNow, Cond.instanceMethod yX3_siteNow, Cond.selects RX3 yX3_siteNow yX3_siteNow, Cond.code yX3_siteNow cX3_siteNow 3 (some .int), Cond.methodLink RX3 118 yX3_meltsBy, Cond.instanceMethod yX3_meltsBy, Cond.selects RX3 yX3_meltsBy yX3_meltsBy, Cond.code yX3_meltsBy cX3_meltsBy 4 (some .int), Cond.methodLink RX3 115 yX3_notBelow, Cond.static yX3_notBelow, Cond.code yX3_notBelow cX3_notBelow 1 (some .int), Cond.methodLink RX3 122 yX3_isKept, Cond.instanceMethod yX3_isKept, Cond.selects RX3 yX3_isKept yX3_isKept, Cond.code yX3_isKept cX3_isKept 3 (some .boolean), Cond.methodLink RL 36 yX2_as, Cond.instanceMethod yX2_as, Cond.selects RX2 yX2_as yX2_as, Cond.code yX2_as cX2_as 3 (some .int)]
def wsL_law_r15 : List Cond := [Cond.methodLink RX2 108 yX2_isOfKind, Cond.static yX2_isOfKind, Cond.code yX2_isOfKind cX2_isOfKind 2 (some .boolean), Cond.methodLink RL 39 yX3_as, Cond.instanceMethod yX3_as, Cond.selects RX3 yX3_as yX3_as, Cond.code yX3_as cX3_as 4 (some .int), Cond.methodLink RL 40 yX2_bring, Cond.instanceMethod yX2_bring, Cond.selects RX2 yX2_bring yX2_bring, Cond.code yX2_bring cX2_bring 3 (some .int), Cond.fieldLink RX2 115 "SnowTerm$Term" "cost" "I", Cond.methodLink RX2 111 yX2_deepened, Cond.static yX2_deepened, Cond.code yX2_deepened cX2_deepened 2 (some .int), Cond.methodLink RX2 246 Lib.Math.min.name, Cond.methodLink RX2 118 yX2_priceAt, Cond.static yX2_priceAt, Cond.code yX2_priceAt cX2_priceAt 1 (some .int), Cond.methodLink RL 43 yX3_bring, Cond.instanceMethod yX3_bring, Cond.selects RX3 yX3_bring yX3_bring, Cond.code yX3_bring cX3_bring 3 (some .int), Cond.methodLink RX3 133 yX3_atMost]
def wsL_law_r16 : List Cond := [Cond.static yX3_atMost, Cond.code yX3_atMost cX3_atMost 1 (some .int), Cond.methodLink RL 44 yX2_tread, Cond.instanceMethod yX2_tread, Cond.selects RX2 yX2_tread yX2_tread, Cond.code yX2_tread cX2_tread 4 (some .int), Cond.methodLink RL 47 yX3_tread, Cond.instanceMethod yX3_tread, Cond.selects RX3 yX3_tread yX3_tread, Cond.code yX3_tread cX3_tread 4 (some .int), Cond.methodLink RL 48 yX2_sun, Cond.instanceMethod yX2_sun, Cond.selects RX2 yX2_sun yX2_sun, Cond.code yX2_sun cX2_sun 3 (some .int), Cond.methodLink RL 51 yX3_sun, Cond.instanceMethod yX3_sun, Cond.selects RX3 yX3_sun yX3_sun, Cond.code yX3_sun cX3_sun 3 (some .int), Cond.methodLink RL 52 yX2_day, Cond.instanceMethod yX2_day, Cond.selects RX2 yX2_day yX2_day, Cond.code yX2_day cX2_day 2 (some .int), Cond.methodLink RX2 124 yX2_meltAll, Cond.instanceMethod yX2_meltAll]
def wsL_law_r17 : List Cond := [Cond.selects RX2 yX2_meltAll yX2_meltAll, Cond.code yX2_meltAll cX2_meltAll 4 (some .int), Cond.methodLink RX2 251 yX2_leftOf, Cond.static yX2_leftOf, Cond.code yX2_leftOf cX2_leftOf 2 (some .int), Cond.methodLink RX2 197 yX2_keptIn, Cond.instanceMethod yX2_keptIn, Cond.selects RX2 yX2_keptIn yX2_keptIn, Cond.code yX2_keptIn cX2_keptIn 4 (some .int), Cond.methodLink RX2 128 yX1_endDay, Cond.instanceMethod yX1_endDay, Cond.selects RX1 yX1_endDay yX1_endDay, Cond.code yX1_endDay cX1_endDay 3 none, Cond.methodLink RL 55 yX3_day, Cond.instanceMethod yX3_day, Cond.selects RX3 yX3_day yX3_day, Cond.code yX3_day cX3_day 2 (some .int), Cond.methodLink RX3 136 yX3_melt, Cond.instanceMethod yX3_melt, Cond.selects RX3 yX3_melt yX3_melt, Cond.code yX3_melt cX3_melt 3 none, Cond.methodLink RX3 140 yX3_keptNow, Cond.instanceMethod yX3_keptNow, Cond.selects RX3 yX3_keptNow yX3_keptNow]
def wsL_law_r18 : List Cond := [Cond.code yX3_keptNow cX3_keptNow 3 (some .int), Cond.methodLink RL 56 yX2_need, Cond.instanceMethod yX2_need, Cond.selects RX2 yX2_need yX2_need, Cond.code yX2_need cX2_need 3 (some .int), Cond.methodLink RX2 131 yX2_loadsNeeded, Cond.instanceMethod yX2_loadsNeeded, Cond.selects RX2 yX2_loadsNeeded yX2_loadsNeeded, Cond.code yX2_loadsNeeded cX2_loadsNeeded 4 (some .int), Cond.methodLink RX2 254 Lib.Math.max.name, Cond.methodLink RL 59 yX3_need, Cond.instanceMethod yX3_need, Cond.selects RX3 yX3_need yX3_need, Cond.code yX3_need cX3_need 3 (some .int), Cond.methodLink RX3 146 yX3_needOf, Cond.instanceMethod yX3_needOf, Cond.selects RX3 yX3_needOf yX3_needOf, Cond.code yX3_needOf cX3_needOf 4 (some .int), Cond.methodLink RX3 143 yX3_isKeptFor, Cond.instanceMethod yX3_isKeptFor, Cond.selects RX3 yX3_isKeptFor yX3_isKeptFor, Cond.code yX3_isKeptFor cX3_isKeptFor 7 (some .boolean), Cond.methodLink RL 60 yX2_plan, Cond.instanceMethod yX2_plan]
def wsL_law_r19 : List Cond := [Cond.selects RX2 yX2_plan yX2_plan, Cond.code yX2_plan cX2_plan 5 (some .int), Cond.methodLink RX2 134 yX2_tellNeeds, Cond.instanceMethod yX2_tellNeeds, Cond.selects RX2 yX2_tellNeeds yX2_tellNeeds, Cond.code yX2_tellNeeds cX2_tellNeeds 3 none, Cond.methodLink RX2 137 yX2_bestPlan, Cond.instanceMethod yX2_bestPlan, Cond.selects RX2 yX2_bestPlan yX2_bestPlan, Cond.code yX2_bestPlan cX2_bestPlan 5 (some .int), Cond.methodLink RX2 145 yX2_loadsOf, Cond.instanceMethod yX2_loadsOf, Cond.selects RX2 yX2_loadsOf yX2_loadsOf, Cond.code yX2_loadsOf cX2_loadsOf 4 (some .int), Cond.methodLink RX2 260 yX2_hasBit, Cond.static yX2_hasBit, Cond.code yX2_hasBit cX2_hasBit 2 (some .boolean), Cond.methodLink RX2 257 yX2_isBetterPlan, Cond.instanceMethod yX2_isBetterPlan, Cond.selects RX2 yX2_isBetterPlan yX2_isBetterPlan, Cond.code yX2_isBetterPlan cX2_isBetterPlan 4 (some .boolean), Cond.methodLink RX2 140 yJ6_bitCount_0f7a4, Cond.static yJ6_bitCount_0f7a4, Cond.initialized RJ6]
def wsL_law_r20 : List Cond := [Cond.code yJ6_bitCount_0f7a4 cJ6_bitCount_0f7a4 1 (some .int), Cond.constant RJ6 265 (1431655765), Cond.constant RJ6 266 (858993459), Cond.constant RJ6 267 (252645135), Cond.methodLink RX2 148 yX2_costOf, Cond.instanceMethod yX2_costOf, Cond.selects RX2 yX2_costOf yX2_costOf, Cond.code yX2_costOf cX2_costOf 4 (some .int), Cond.methodLink RL 64 yX3_plan, Cond.instanceMethod yX3_plan, Cond.selects RX3 yX3_plan yX3_plan, Cond.code yX3_plan cX3_plan 4 (some .int), Cond.methodLink RX3 164 yX3_planNow, Cond.instanceMethod yX3_planNow, Cond.selects RX3 yX3_planNow yX3_planNow, Cond.code yX3_planNow cX3_planNow 9 (some .int), Cond.fieldLink RX3 149 "SnowTermModel" "setLoads" "I", Cond.fieldLink RX3 152 "SnowTermModel" "setCost" "I", Cond.methodLink RX3 158 yX3_layNeeds, Cond.instanceMethod yX3_layNeeds, Cond.selects RX3 yX3_layNeeds yX3_layNeeds, Cond.code yX3_layNeeds cX3_layNeeds 4 (some .boolean), Cond.methodLink RX3 155 yX3_isIn, Cond.static yX3_isIn]
def wsL_law_r21 : List Cond := [Cond.code yX3_isIn cX3_isIn 2 (some .boolean), Cond.methodLink RX3 161 yX3_size, Cond.static yX3_size, Cond.code yX3_size cX3_size 3 (some .int), Cond.methodLink RL 65 yX2_error, Cond.instanceMethod yX2_error, Cond.selects RX2 yX2_error yX2_error, Cond.code yX2_error cX2_error 3 (some .int), Cond.methodLink RX2 151 yX2_bestError, Cond.instanceMethod yX2_bestError, Cond.selects RX2 yX2_bestError yX2_bestError, Cond.code yX2_bestError cX2_bestError 6 (some .int), Cond.methodLink RX2 154 yX2_keptIfSwapped, Cond.instanceMethod yX2_keptIfSwapped, Cond.selects RX2 yX2_keptIfSwapped yX2_keptIfSwapped, Cond.code yX2_keptIfSwapped cX2_keptIfSwapped 6 (some .int), Cond.methodLink RX2 263 yX2_deepWithLoadsOf, Cond.instanceMethod yX2_deepWithLoadsOf, Cond.selects RX2 yX2_deepWithLoadsOf yX2_deepWithLoadsOf, Cond.code yX2_deepWithLoadsOf cX2_deepWithLoadsOf 3 (some .int), Cond.fieldLink RX2 266 "SnowTerm$Term" "snowAtDusk" "[I", Cond.methodLink RL 68 yX3_error, Cond.instanceMethod yX3_error, Cond.selects RX3 yX3_error yX3_error]
def wsL_law_r22 : List Cond := [Cond.code yX3_error cX3_error 2 (some .int), Cond.methodLink RX3 171 yX3_errorNow, Cond.instanceMethod yX3_errorNow, Cond.selects RX3 yX3_errorNow yX3_errorNow, Cond.code yX3_errorNow cX3_errorNow 7 (some .int), Cond.methodLink RX3 168 yX3_keptBy, Cond.instanceMethod yX3_keptBy, Cond.selects RX3 yX3_keptBy yX3_keptBy, Cond.code yX3_keptBy cX3_keptBy 6 (some .int), Cond.methodLink RL 69 yX2_found, Cond.instanceMethod yX2_found, Cond.selects RX2 yX2_found yX2_found, Cond.code yX2_found cX2_found 4 (some .int), Cond.fieldLink RX2 161 "SnowTerm$Term" "foundCount" "I", Cond.methodLink RX2 157 yX1_addFound, Cond.instanceMethod yX1_addFound, Cond.selects RX1 yX1_addFound yX1_addFound, Cond.code yX1_addFound cX1_addFound 5 (some .boolean), Cond.methodLink RL 72 yX3_found, Cond.instanceMethod yX3_found, Cond.selects RX3 yX3_found yX3_found, Cond.code yX3_found cX3_found 4 (some .int), Cond.methodLink RL 73 yX2_forget, Cond.instanceMethod yX2_forget]
def wsL_law_r23 : List Cond := [Cond.selects RX2 yX2_forget yX2_forget, Cond.code yX2_forget cX2_forget 2 (some .int), Cond.methodLink RL 76 yX3_forget, Cond.instanceMethod yX3_forget, Cond.selects RX3 yX3_forget yX3_forget, Cond.code yX3_forget cX3_forget 2 (some .int), Cond.methodLink RL 77 yX2_suns, Cond.instanceMethod yX2_suns, Cond.selects RX2 yX2_suns yX2_suns, Cond.code yX2_suns cX2_suns 1 (some .int), Cond.methodLink RX2 164 yX2_possibleSuns, Cond.instanceMethod yX2_possibleSuns, Cond.selects RX2 yX2_possibleSuns yX2_possibleSuns, Cond.code yX2_possibleSuns cX2_possibleSuns 3 (some .int), Cond.methodLink RX2 269 yX2_explainsAllFound, Cond.instanceMethod yX2_explainsAllFound, Cond.selects RX2 yX2_explainsAllFound yX2_explainsAllFound, Cond.code yX2_explainsAllFound cX2_explainsAllFound 4 (some .boolean), Cond.fieldLink RX2 272 "SnowTerm$Term" "foundKind" "[I", Cond.fieldLink RX2 275 "SnowTerm$Term" "foundFeet" "[I", Cond.fieldLink RX2 278 "SnowTerm$Term" "foundDeep" "[I", Cond.fieldLink RX2 281 "SnowTerm$Term" "foundLeft" "[I", Cond.methodLink RL 80 yX3_suns, Cond.instanceMethod yX3_suns]
def wsL_law_r24 : List Cond := [Cond.selects RX3 yX3_suns yX3_suns, Cond.code yX3_suns cX3_suns 1 (some .int), Cond.methodLink RX3 177 yX3_sunsNow, Cond.instanceMethod yX3_sunsNow, Cond.selects RX3 yX3_sunsNow yX3_sunsNow, Cond.code yX3_sunsNow cX3_sunsNow 5 (some .int), Cond.methodLink RX3 174 yX3_leftOf, Cond.instanceMethod yX3_leftOf, Cond.selects RX3 yX3_leftOf yX3_leftOf, Cond.code yX3_leftOf cX3_leftOf 4 (some .int), Cond.methodLink RL 81 yX2_look, Cond.instanceMethod yX2_look, Cond.selects RX2 yX2_look yX2_look, Cond.code yX2_look cX2_look 1 (some .int), Cond.methodLink RX2 167 yX2_bestLook, Cond.instanceMethod yX2_bestLook, Cond.selects RX2 yX2_bestLook yX2_bestLook, Cond.code yX2_bestLook cX2_bestLook 4 (some .int), Cond.methodLink RX2 284 yX2_sunsLeftAtWorst, Cond.instanceMethod yX2_sunsLeftAtWorst, Cond.selects RX2 yX2_sunsLeftAtWorst yX2_sunsLeftAtWorst, Cond.code yX2_sunsLeftAtWorst cX2_sunsLeftAtWorst 5 (some .int), Cond.methodLink RX2 287 yX2_sunsLikeThis, Cond.instanceMethod yX2_sunsLikeThis]
def wsL_law_r25 : List Cond := [Cond.selects RX2 yX2_sunsLikeThis yX2_sunsLikeThis, Cond.code yX2_sunsLikeThis cX2_sunsLikeThis 7 (some .int), Cond.methodLink RX2 290 yX2_leftOfDeepest, Cond.instanceMethod yX2_leftOfDeepest, Cond.selects RX2 yX2_leftOfDeepest yX2_leftOfDeepest, Cond.code yX2_leftOfDeepest cX2_leftOfDeepest 3 (some .int), Cond.methodLink RL 84 yX3_look, Cond.instanceMethod yX3_look, Cond.selects RX3 yX3_look yX3_look, Cond.code yX3_look cX3_look 1 (some .int), Cond.methodLink RX3 184 yX3_lookNow, Cond.instanceMethod yX3_lookNow, Cond.selects RX3 yX3_lookNow yX3_lookNow, Cond.code yX3_lookNow cX3_lookNow 6 (some .int), Cond.constant RX3 180 (268435456), Cond.methodLink RX3 181 yX3_worstAt, Cond.instanceMethod yX3_worstAt, Cond.selects RX3 yX3_worstAt yX3_worstAt, Cond.code yX3_worstAt cX3_worstAt 7 (some .int), Cond.methodLink RL 85 yX2_winters, Cond.instanceMethod yX2_winters, Cond.selects RX2 yX2_winters yX2_winters, Cond.code yX2_winters cX2_winters 8 (some .int), Cond.methodLink RX2 170 arraycopyName]
def wsL_law_r26 : List Cond := [Cond.native arraycopyName, Cond.static arraycopyName, Cond.initialized "java/lang/System", Cond.methodLink RX2 176 yX2_seedAfter, Cond.static yX2_seedAfter, Cond.code yX2_seedAfter cX2_seedAfter 1 (some .int), Cond.constantLong RX2 236 (1103515245), Cond.constantLong RX2 238 (12345), Cond.constantLong RX2 240 (2147483648), Cond.methodLink RX2 179 yX2_drawOf, Cond.static yX2_drawOf, Cond.code yX2_drawOf cX2_drawOf 2 (some .int), Cond.constant RX2 242 (65536), Cond.methodLink RX2 182 yX2_bringOneLoad, Cond.instanceMethod yX2_bringOneLoad, Cond.selects RX2 yX2_bringOneLoad yX2_bringOneLoad, Cond.code yX2_bringOneLoad cX2_bringOneLoad 3 none, Cond.methodLink RX2 186 yX2_snowIn, Cond.instanceMethod yX2_snowIn, Cond.selects RX2 yX2_snowIn yX2_snowIn, Cond.code yX2_snowIn cX2_snowIn 4 (some .int), Cond.methodLink RL 88 yX3_winters, Cond.instanceMethod yX3_winters, Cond.selects RX3 yX3_winters yX3_winters]
def wsL_law_r27 : List Cond := [Cond.code yX3_winters cX3_winters 4 (some .int), Cond.methodLink RX3 205 yX3_wintersNow, Cond.instanceMethod yX3_wintersNow, Cond.selects RX3 yX3_wintersNow yX3_wintersNow, Cond.code yX3_wintersNow cX3_wintersNow 8 (some .int), Cond.fieldLink RX3 189 "SnowTermModel" "seedNow" "J", Cond.methodLink RX3 199 yX3_draw, Cond.instanceMethod yX3_draw, Cond.selects RX3 yX3_draw yX3_draw, Cond.code yX3_draw cX3_draw 2 (some .int), Cond.constantLong RX3 187 (1103515245), Cond.constantLong RX3 193 (12345), Cond.constantLong RX3 195 (2147483647), Cond.constantLong RX3 197 (65536), Cond.methodLink RX3 202 yX3_snowAll, Cond.instanceMethod yX3_snowAll, Cond.selects RX3 yX3_snowAll yX3_snowAll, Cond.code yX3_snowAll cX3_snowAll 3 (some .int), Cond.methodLink RL 89 yX2_image, Cond.instanceMethod yX2_image, Cond.selects RX2 yX2_image yX2_image, Cond.code yX2_image cX2_image 1 (some .int), Cond.fieldLink RX2 194 "SnowTerm$Term" "day" "I", Cond.methodLink RX2 190 yX1_copy]
def wsL_law_r28 : List Cond := [Cond.instanceMethod yX1_copy, Cond.selects RX1 yX1_copy yX1_copy, Cond.code yX1_copy cX1_copy 2 none, Cond.methodLink RX1 52 yX1_copyRow, Cond.static yX1_copyRow, Cond.code yX1_copyRow cX1_copyRow 2 none, Cond.methodLink RX1 56 Lib.Math.min.name, Cond.methodLink RX1 62 arraycopyName, Cond.methodLink RL 92 yX3_image, Cond.instanceMethod yX3_image, Cond.selects RX3 yX3_image yX3_image, Cond.code yX3_image cX3_image 2 (some .int), Cond.fieldLink RX3 208 "SnowTermModel" "isImage" "Z", Cond.fieldLink RX3 211 "SnowTermModel" "keptCity" "I", Cond.fieldLink RX3 214 "SnowTermModel" "keptSun" "I", Cond.fieldLink RX3 217 "SnowTermModel" "keptDays" "I", Cond.fieldLink RX3 220 "SnowTermModel" "keptPraise" "I", Cond.fieldLink RX3 223 "SnowTermModel" "keptCost" "I", Cond.fieldLink RX3 226 "SnowTermModel" "keptFound" "I", Cond.methodLink RL 93 yX2_restore, Cond.instanceMethod yX2_restore, Cond.selects RX2 yX2_restore yX2_restore, Cond.code yX2_restore cX2_restore 1 (some .int), Cond.methodLink RL 96 yX3_restore]
def wsL_law_r29 : List Cond := [Cond.instanceMethod yX3_restore, Cond.selects RX3 yX3_restore yX3_restore, Cond.code yX3_restore cX3_restore 2 (some .int), Cond.methodLink RL 97 yX2_count, Cond.instanceMethod yX2_count, Cond.selects RX2 yX2_count yX2_count, Cond.code yX2_count cX2_count 2 (some .int), Cond.fieldLink RX2 200 "SnowTerm$Term" "praise" "I", Cond.methodLink RL 100 yX3_count, Cond.instanceMethod yX3_count, Cond.selects RX3 yX3_count yX3_count, Cond.code yX3_count cX3_count 2 (some .int), Cond.methodLink RX3 229 yX3_howMany, Cond.instanceMethod yX3_howMany, Cond.selects RX3 yX3_howMany yX3_howMany, Cond.code yX3_howMany cX3_howMany 2 (some .int), Cond.methodLink RL 101 yX2_digest, Cond.instanceMethod yX2_digest, Cond.selects RX2 yX2_digest yX2_digest, Cond.code yX2_digest cX2_digest 5 (some .long), Cond.constantLong RX2 203 (1061), Cond.methodLink RX2 205 yX2_about, Cond.methodLink RX2 208 yX2_mixed, Cond.static yX2_mixed]
def wsL_law_r30 : List Cond := [Cond.code yX2_mixed cX2_mixed 3 (some .long), Cond.constantLong RX2 234 (31), Cond.methodLink RX2 212 yX2_need, Cond.methodLink RX2 215 yX2_plan, Cond.methodLink RX2 219 yX2_error, Cond.methodLink RX2 222 yX2_suns, Cond.methodLink RX2 225 yX2_look, Cond.methodLink RX2 228 yX0_codeAt, Cond.methodLink RX2 231 yX2_count, Cond.methodLink RL 105 yX3_digest, Cond.instanceMethod yX3_digest, Cond.selects RX3 yX3_digest yX3_digest, Cond.code yX3_digest cX3_digest 3 (some .long), Cond.constantLong RX3 237 (1061), Cond.fieldLink RX3 234 "SnowTermModel" "h" "J", Cond.methodLink RX3 239 yX3_mix, Cond.instanceMethod yX3_mix, Cond.selects RX3 yX3_mix yX3_mix, Cond.code yX3_mix cX3_mix 3 none, Cond.constantLong RX3 232 (31)]
def wsL_law : List Cond := (wsL_law_r1 ++ (wsL_law_r2 ++ (wsL_law_r3 ++ (wsL_law_r4 ++ (wsL_law_r5 ++ (wsL_law_r6 ++ (wsL_law_r7 ++ (wsL_law_r8 ++ (wsL_law_r9 ++ (wsL_law_r10 ++ (wsL_law_r11 ++ (wsL_law_r12 ++ (wsL_law_r13 ++ (wsL_law_r14 ++ (wsL_law_r15 ++ (wsL_law_r16 ++ (wsL_law_r17 ++ (wsL_law_r18 ++ (wsL_law_r19 ++ (wsL_law_r20 ++ (wsL_law_r21 ++ (wsL_law_r22 ++ (wsL_law_r23 ++ (wsL_law_r24 ++ (wsL_law_r25 ++ (wsL_law_r26 ++ (wsL_law_r27 ++ (wsL_law_r28 ++ (wsL_law_r29 ++ wsL_law_r30))))))))))))))))))))))))))))) ++ wsX20 ++ wsX30 ++ wsX00 ++ wsX10 ++ ([] : List Cond)
abbrev vwCl : List vw_C := [(RX0, TX0, 2), (RX1, TX1, 13), (RX2, TX2, 10), (RX3, TX3, 40)]
end
section
/-- the cells of a SnowTerm: f its numbers, ta its two rows of scratch (6 wouldBe, 7 needs), f (0 sites, 1 citiesRead, 2 hasImage, 3 page.size, 4.. now, 9.. atImage), a its rows by the place of the cell -/
def wX (cI : ClassId) (ad : Nat → Nat) (f : Nat → Int32) (a ta : Nat → Nat → Int32) : va_W := [(ad 0, .inr (2, [.ref (ad 1), .ref (ad 2), .ref (ad 3), .ref (ad 4), .ref (ad 5), .ref (ad 6), .ref (ad 7), .int (f 0), .int (f 1), .int (f 2)])),
  (ad 1, .inr (0, [.ref (ad 8), .int (f 3)])),
  (ad 2, .inl (cI, 6, .inl (a 2))),
  (ad 3, .inl (cI, 6, .inl (a 3))),
  (ad 4, .inr (1, [.int (f 4), .int (f 5), .int (f 6), .int (f 7), .ref (ad 9), .ref (ad 10), .ref (ad 11), .ref (ad 12), .ref (ad 13), .ref (ad 14), .ref (ad 15), .ref (ad 16), .int (f 8)])),
  (ad 5, .inr (1, [.int (f 9), .int (f 10), .int (f 11), .int (f 12), .ref (ad 17), .ref (ad 18), .ref (ad 19), .ref (ad 20), .ref (ad 21), .ref (ad 22), .ref (ad 23), .ref (ad 24), .int (f 13)])),
  (ad 6, .inl (cI, 6, .inl (ta 6))),
  (ad 7, .inl (cI, 6, .inl (ta 7))),
  (ad 8, .inl (cI, 21, .inl (a 8))),
  (ad 9, .inl (cI, 6, .inl (a 9))),
  (ad 10, .inl (cI, 6, .inl (a 10))),
  (ad 11, .inl (cI, 6, .inl (a 11))),
  (ad 12, .inl (cI, 6, .inl (a 12))),
  (ad 13, .inl (cI, 6, .inl (a 13))),
  (ad 14, .inl (cI, 6, .inl (a 14))),
  (ad 15, .inl (cI, 6, .inl (a 15))),
  (ad 16, .inl (cI, 6, .inl (a 16))),
  (ad 17, .inl (cI, 6, .inl (a 17))),
  (ad 18, .inl (cI, 6, .inl (a 18))),
  (ad 19, .inl (cI, 6, .inl (a 19))),
  (ad 20, .inl (cI, 6, .inl (a 20))),
  (ad 21, .inl (cI, 6, .inl (a 21))),
  (ad 22, .inl (cI, 6, .inl (a 22))),
  (ad 23, .inl (cI, 6, .inl (a 23))),
  (ad 24, .inl (cI, 6, .inl (a 24)))]
/-- the cells of a SnowTermModel: g its numbers and hl its longs by their slots, b its rows by the place of the cell -/
def wM (cI cB : ClassId) (ad : Nat → Nat) (g t : Nat → Int32) (gl : Nat → Int64) (b tb : Nat → Nat → Int32) : va_W := [(ad 0, .inr (3, [.int (g 0), .int (g 1), .ref (ad 1), .ref (ad 2), .ref (ad 3), .ref (ad 4), .ref (ad 5), .ref (ad 6), .int (g 8), .int (g 9), .int (g 10), .int (g 11), .int (g 12), .ref (ad 7), .ref (ad 8), .ref (ad 9), .int (g 16), .ref (ad 10), .int (t 18), .int (t 19), .ref (ad 11), .int (t 21), .int (t 22), .long (gl 23), .ref (ad 12), .int (g 25), .int (g 26), .int (g 27), .int (g 28), .int (g 29), .int (g 30), .int (g 31), .ref (ad 13), .ref (ad 14), .ref (ad 15), .ref (ad 16), .ref (ad 17), .ref (ad 18), .ref (ad 19), .long (gl 39)])),
  (ad 1, .inl (cI, 6, .inl (b 1))),
  (ad 2, .inl (cI, 6, .inl (b 2))),
  (ad 3, .inl (cI, 6, .inl (b 3))),
  (ad 4, .inl (cI, 6, .inl (b 4))),
  (ad 5, .inl (cI, 6, .inl (b 5))),
  (ad 6, .inl (cI, 6, .inl (b 6))),
  (ad 7, .inl (cI, 6, .inl (b 7))),
  (ad 8, .inl (cI, 6, .inl (b 8))),
  (ad 9, .inl (cI, 6, .inl (b 9))),
  (ad 10, .inl (cB, 21, .inl (b 10))),
  (ad 11, .inl (cI, 6, .inl (tb 11))),
  (ad 12, .inl (cI, 6, .inl (tb 12))),
  (ad 13, .inl (cI, 6, .inl (b 13))),
  (ad 14, .inl (cI, 6, .inl (b 14))),
  (ad 15, .inl (cI, 6, .inl (b 15))),
  (ad 16, .inl (cI, 6, .inl (b 16))),
  (ad 17, .inl (cI, 6, .inl (b 17))),
  (ad 18, .inl (cI, 6, .inl (b 18))),
  (ad 19, .inl (cI, 6, .inl (b 19)))]
/-- addresses that are apart; the cells that they name -/
def wI (n : Nat) (ad : Nat → Nat) : Prop := ∀ i j : Nat, i < n → j < n → ad i = ad j → i = j
def wA (n : Nat) (ad : Nat → Nat) : Nat → Prop := fun q => ∃ k : Nat, k < n ∧ q = ad k
theorem wX_fst (cI : ClassId) (ad : Nat → Nat) (f : Nat → Int32) (a ta : Nat → Nat → Int32) : (wX cI ad f a ta).map Prod.fst = (List.range 25).map ad := rfl
theorem wM_fst (cI cB : ClassId) (ad : Nat → Nat) (g t : Nat → Int32) (gl : Nat → Int64) (b tb : Nat → Nat → Int32) : (wM cI cB ad g t gl b tb).map Prod.fst = (List.range 20).map ad := rfl
theorem w_key {ws : va_W} {n : Nat} {ad : Nat → Nat} (hw : ws.map Prod.fst = (List.range n).map ad) {i : Nat} {q : Nat × va_E} (h : ws[i]? = some q) : i < n ∧ q.1 = ad i := by
  have h1 : (ws.map Prod.fst)[i]? = some q.1 := by rw [List.getElem?_map, h]; rfl
  rw [hw] at h1
  have hi : i < n := by
    have := (List.getElem?_eq_some_iff.mp h1).1
    simpa using this
  refine ⟨hi, ?_⟩
  simp [hi] at h1
  exact h1.symm
theorem w_D {ws : va_W} {n : Nat} {ad : Nat → Nat} (hw : ws.map Prod.fst = (List.range n).map ad) (hI : wI n ad) : va_D (wA n ad) ws := by
  refine ⟨fun i j x y hx hy hxy => ?_, fun k q hk => ⟨k, (w_key hw hk).1, (w_key hw hk).2⟩⟩
  obtain ⟨i1, i2⟩ := w_key hw hx
  obtain ⟨j1, j2⟩ := w_key hw hy
  exact hI i j i1 j1 (by rw [← i2, ← j2, hxy])
theorem wX_D {cI : ClassId} {ad : Nat → Nat} {f : Nat → Int32} {a ta : Nat → Nat → Int32} (hI : wI 25 ad) : va_D (wA 25 ad) (wX cI ad f a ta) := w_D (wX_fst cI ad f a ta) hI
theorem wM_D {cI cB : ClassId} {ad : Nat → Nat} {g t : Nat → Int32} {gl : Nat → Int64} {b tb : Nat → Nat → Int32} (hI : wI 20 ad) : va_D (wA 20 ad) (wM cI cB ad g t gl b tb) := w_D (wM_fst cI cB ad g t gl b tb) hI
def uL (f : Nat → Int64) (k : Nat) (x : Int64) : Nat → Int64 := fun j => if j = k then x else f j
def uA (f : Nat → Nat → Int32) (k : Nat) (x : Nat → Int32) : Nat → Nat → Int32 := fun j => if j = k then x else f j
abbrev wK (D : va_G) (cI cB : ClassId) (s : State) : Prop := va_K D vwCl [(cI, .int), (cB, .byte)] s
section WROWS
variable {p : Program} {l : Launch} {e : Env} {R : Room} {s : State} {m : MethodId} {args : Array Value} {below : List Frame} {meth : Method} {c : Code} {H H0 : Heap} {locs : List Loc} {cells slots : Nat} {Q : State → Prop} {pc : Nat} {ls : Array Slot} {rest : List Value} {cc : ByteArray} {nL : Nat} {Ts : List Cond} {own : String} {D : va_G} {cI cB : ClassId}
theorem xg_0_0 {ad : Nat → Nat} {f : Nat → Int32} {a ta : Nat → Nat → Int32} (E : CallFix p m c cc nL s args Ts own) (hK : wK D cI cB s) (hP : va_P D vwCl (wX cI ad f a ta) H) (hin : ∀ w ∈ wsX20, w ∈ Ts) {idx : Nat} (hl0 : (Cond.fieldLink own idx "SnowTerm" "page" "LSnowTerm$Page;").before args s = true) (hdg : decode cc pc = .ok (.getfield idx, 3)) (k : W p l e R s m args below meth c H locs cells slots Q (F0 m (pc + 3) ls (.ref (ad 1) :: rest))) : W p l e R s m args below meth c H locs cells slots Q (F0 m pc ls (.ref (ad 0) :: rest)) := va_get E.1 E.2.1 E.2.2.2.2 hin E.2.2.2.1 hK hP 0 rfl rfl 0 (by decide) hl0 (fun _ h => h) rfl hdg k
theorem xg_0_1 {ad : Nat → Nat} {f : Nat → Int32} {a ta : Nat → Nat → Int32} (E : CallFix p m c cc nL s args Ts own) (hK : wK D cI cB s) (hP : va_P D vwCl (wX cI ad f a ta) H) (hin : ∀ w ∈ wsX20, w ∈ Ts) {idx : Nat} (hl0 : (Cond.fieldLink own idx "SnowTerm" "kinds" "[I").before args s = true) (hdg : decode cc pc = .ok (.getfield idx, 3)) (k : W p l e R s m args below meth c H locs cells slots Q (F0 m (pc + 3) ls (.ref (ad 2) :: rest))) : W p l e R s m args below meth c H locs cells slots Q (F0 m pc ls (.ref (ad 0) :: rest)) := va_get E.1 E.2.1 E.2.2.2.2 hin E.2.2.2.1 hK hP 0 rfl rfl 1 (by decide) hl0 (fun _ h => h) rfl hdg k
theorem xg_0_2 {ad : Nat → Nat} {f : Nat → Int32} {a ta : Nat → Nat → Int32} (E : CallFix p m c cc nL s args Ts own) (hK : wK D cI cB s) (hP : va_P D vwCl (wX cI ad f a ta) H) (hin : ∀ w ∈ wsX20, w ∈ Ts) {idx : Nat} (hl0 : (Cond.fieldLink own idx "SnowTerm" "wants" "[I").before args s = true) (hdg : decode cc pc = .ok (.getfield idx, 3)) (k : W p l e R s m args below meth c H locs cells slots Q (F0 m (pc + 3) ls (.ref (ad 3) :: rest))) : W p l e R s m args below meth c H locs cells slots Q (F0 m pc ls (.ref (ad 0) :: rest)) := va_get E.1 E.2.1 E.2.2.2.2 hin E.2.2.2.1 hK hP 0 rfl rfl 2 (by decide) hl0 (fun _ h => h) rfl hdg k
theorem xg_0_3 {ad : Nat → Nat} {f : Nat → Int32} {a ta : Nat → Nat → Int32} (E : CallFix p m c cc nL s args Ts own) (hK : wK D cI cB s) (hP : va_P D vwCl (wX cI ad f a ta) H) (hin : ∀ w ∈ wsX20, w ∈ Ts) {idx : Nat} (hl0 : (Cond.fieldLink own idx "SnowTerm" "now" "LSnowTerm$Term;").before args s = true) (hdg : decode cc pc = .ok (.getfield idx, 3)) (k : W p l e R s m args below meth c H locs cells slots Q (F0 m (pc + 3) ls (.ref (ad 4) :: rest))) : W p l e R s m args below meth c H locs cells slots Q (F0 m pc ls (.ref (ad 0) :: rest)) := va_get E.1 E.2.1 E.2.2.2.2 hin E.2.2.2.1 hK hP 0 rfl rfl 3 (by decide) hl0 (fun _ h => h) rfl hdg k
theorem xg_0_4 {ad : Nat → Nat} {f : Nat → Int32} {a ta : Nat → Nat → Int32} (E : CallFix p m c cc nL s args Ts own) (hK : wK D cI cB s) (hP : va_P D vwCl (wX cI ad f a ta) H) (hin : ∀ w ∈ wsX20, w ∈ Ts) {idx : Nat} (hl0 : (Cond.fieldLink own idx "SnowTerm" "atImage" "LSnowTerm$Term;").before args s = true) (hdg : decode cc pc = .ok (.getfield idx, 3)) (k : W p l e R s m args below meth c H locs cells slots Q (F0 m (pc + 3) ls (.ref (ad 5) :: rest))) : W p l e R s m args below meth c H locs cells slots Q (F0 m pc ls (.ref (ad 0) :: rest)) := va_get E.1 E.2.1 E.2.2.2.2 hin E.2.2.2.1 hK hP 0 rfl rfl 4 (by decide) hl0 (fun _ h => h) rfl hdg k
theorem xg_0_5 {ad : Nat → Nat} {f : Nat → Int32} {a ta : Nat → Nat → Int32} (E : CallFix p m c cc nL s args Ts own) (hK : wK D cI cB s) (hP : va_P D vwCl (wX cI ad f a ta) H) (hin : ∀ w ∈ wsX20, w ∈ Ts) {idx : Nat} (hl0 : (Cond.fieldLink own idx "SnowTerm" "wouldBe" "[I").before args s = true) (hdg : decode cc pc = .ok (.getfield idx, 3)) (k : W p l e R s m args below meth c H locs cells slots Q (F0 m (pc + 3) ls (.ref (ad 6) :: rest))) : W p l e R s m args below meth c H locs cells slots Q (F0 m pc ls (.ref (ad 0) :: rest)) := va_get E.1 E.2.1 E.2.2.2.2 hin E.2.2.2.1 hK hP 0 rfl rfl 5 (by decide) hl0 (fun _ h => h) rfl hdg k
theorem xg_0_6 {ad : Nat → Nat} {f : Nat → Int32} {a ta : Nat → Nat → Int32} (E : CallFix p m c cc nL s args Ts own) (hK : wK D cI cB s) (hP : va_P D vwCl (wX cI ad f a ta) H) (hin : ∀ w ∈ wsX20, w ∈ Ts) {idx : Nat} (hl0 : (Cond.fieldLink own idx "SnowTerm" "needs" "[I").before args s = true) (hdg : decode cc pc = .ok (.getfield idx, 3)) (k : W p l e R s m args below meth c H locs cells slots Q (F0 m (pc + 3) ls (.ref (ad 7) :: rest))) : W p l e R s m args below meth c H locs cells slots Q (F0 m pc ls (.ref (ad 0) :: rest)) := va_get E.1 E.2.1 E.2.2.2.2 hin E.2.2.2.1 hK hP 0 rfl rfl 6 (by decide) hl0 (fun _ h => h) rfl hdg k
theorem xg_0_7 {ad : Nat → Nat} {f : Nat → Int32} {a ta : Nat → Nat → Int32} (E : CallFix p m c cc nL s args Ts own) (hK : wK D cI cB s) (hP : va_P D vwCl (wX cI ad f a ta) H) (hin : ∀ w ∈ wsX20, w ∈ Ts) {idx : Nat} (hl0 : (Cond.fieldLink own idx "SnowTerm" "sites" "I").before args s = true) (hdg : decode cc pc = .ok (.getfield idx, 3)) (k : W p l e R s m args below meth c H locs cells slots Q (F0 m (pc + 3) ls (.int (f 0) :: rest))) : W p l e R s m args below meth c H locs cells slots Q (F0 m pc ls (.ref (ad 0) :: rest)) := va_get E.1 E.2.1 E.2.2.2.2 hin E.2.2.2.1 hK hP 0 rfl rfl 7 (by decide) hl0 (fun _ h => h) rfl hdg k
theorem xp_0_7 {ad : Nat → Nat} {f : Nat → Int32} {a ta : Nat → Nat → Int32} {v : Int32} (E : CallFix p m c cc nL s args Ts own) (hK : wK D cI cB s) (hP : va_P D vwCl (wX cI ad f a ta) H) (hin : ∀ w ∈ wsX20, w ∈ Ts) {idx : Nat} (hl0 : (Cond.fieldLink own idx "SnowTerm" "sites" "I").before args s = true) (hI : wI 25 ad) (hS : va_S (wA 25 ad) H0 H locs) (hdg : decode cc pc = .ok (.putfield idx, 3)) (kk : ∀ (H : Heap) (locs : List Loc), va_P D vwCl (wX cI ad (upd f 0 v) a ta) H → va_S (wA 25 ad) H0 H locs → W p l e R s m args below meth c H locs cells slots Q (F0 m (pc + 3) ls rest)) : W p l e R s m args below meth c H locs cells slots Q (F0 m pc ls (.int v :: .ref (ad 0) :: rest)) := va_put (v := .int v) (ty := .int) E.1 E.2.1 E.2.2.2.2 hin tyX2 tyX2_ok nmX2 E.2.2.2.1 hK hP (wX_D hI) hS 0 rfl rfl 7 (by decide) hl0 (fun _ h => h) rfl (by decide +kernel) rfl rfl (Nat.le_of_ble_eq_true rfl) hdg (fun H1 locs1 hP1 _ hS1 => kk H1 locs1 hP1 hS1)
theorem xg_0_8 {ad : Nat → Nat} {f : Nat → Int32} {a ta : Nat → Nat → Int32} (E : CallFix p m c cc nL s args Ts own) (hK : wK D cI cB s) (hP : va_P D vwCl (wX cI ad f a ta) H) (hin : ∀ w ∈ wsX20, w ∈ Ts) {idx : Nat} (hl0 : (Cond.fieldLink own idx "SnowTerm" "citiesRead" "I").before args s = true) (hdg : decode cc pc = .ok (.getfield idx, 3)) (k : W p l e R s m args below meth c H locs cells slots Q (F0 m (pc + 3) ls (.int (f 1) :: rest))) : W p l e R s m args below meth c H locs cells slots Q (F0 m pc ls (.ref (ad 0) :: rest)) := va_get E.1 E.2.1 E.2.2.2.2 hin E.2.2.2.1 hK hP 0 rfl rfl 8 (by decide) hl0 (fun _ h => h) rfl hdg k
theorem xp_0_8 {ad : Nat → Nat} {f : Nat → Int32} {a ta : Nat → Nat → Int32} {v : Int32} (E : CallFix p m c cc nL s args Ts own) (hK : wK D cI cB s) (hP : va_P D vwCl (wX cI ad f a ta) H) (hin : ∀ w ∈ wsX20, w ∈ Ts) {idx : Nat} (hl0 : (Cond.fieldLink own idx "SnowTerm" "citiesRead" "I").before args s = true) (hI : wI 25 ad) (hS : va_S (wA 25 ad) H0 H locs) (hdg : decode cc pc = .ok (.putfield idx, 3)) (kk : ∀ (H : Heap) (locs : List Loc), va_P D vwCl (wX cI ad (upd f 1 v) a ta) H → va_S (wA 25 ad) H0 H locs → W p l e R s m args below meth c H locs cells slots Q (F0 m (pc + 3) ls rest)) : W p l e R s m args below meth c H locs cells slots Q (F0 m pc ls (.int v :: .ref (ad 0) :: rest)) := va_put (v := .int v) (ty := .int) E.1 E.2.1 E.2.2.2.2 hin tyX2 tyX2_ok nmX2 E.2.2.2.1 hK hP (wX_D hI) hS 0 rfl rfl 8 (by decide) hl0 (fun _ h => h) rfl (by decide +kernel) rfl rfl (Nat.le_of_ble_eq_true rfl) hdg (fun H1 locs1 hP1 _ hS1 => kk H1 locs1 hP1 hS1)
theorem xg_0_9 {ad : Nat → Nat} {f : Nat → Int32} {a ta : Nat → Nat → Int32} (E : CallFix p m c cc nL s args Ts own) (hK : wK D cI cB s) (hP : va_P D vwCl (wX cI ad f a ta) H) (hin : ∀ w ∈ wsX20, w ∈ Ts) {idx : Nat} (hl0 : (Cond.fieldLink own idx "SnowTerm" "hasImage" "Z").before args s = true) (hdg : decode cc pc = .ok (.getfield idx, 3)) (k : W p l e R s m args below meth c H locs cells slots Q (F0 m (pc + 3) ls (.int (f 2) :: rest))) : W p l e R s m args below meth c H locs cells slots Q (F0 m pc ls (.ref (ad 0) :: rest)) := va_get E.1 E.2.1 E.2.2.2.2 hin E.2.2.2.1 hK hP 0 rfl rfl 9 (by decide) hl0 (fun _ h => h) rfl hdg k
theorem xp_0_9 {ad : Nat → Nat} {f : Nat → Int32} {a ta : Nat → Nat → Int32} {v : Int32} (E : CallFix p m c cc nL s args Ts own) (hK : wK D cI cB s) (hP : va_P D vwCl (wX cI ad f a ta) H) (hin : ∀ w ∈ wsX20, w ∈ Ts) {idx : Nat} (hl0 : (Cond.fieldLink own idx "SnowTerm" "hasImage" "Z").before args s = true) (hI : wI 25 ad) (hS : va_S (wA 25 ad) H0 H locs) (hn : narrow .boolean (.int v) = .int v) (hft : fits .boolean (.int v) = true) (hdg : decode cc pc = .ok (.putfield idx, 3)) (kk : ∀ (H : Heap) (locs : List Loc), va_P D vwCl (wX cI ad (upd f 2 v) a ta) H → va_S (wA 25 ad) H0 H locs → W p l e R s m args below meth c H locs cells slots Q (F0 m (pc + 3) ls rest)) : W p l e R s m args below meth c H locs cells slots Q (F0 m pc ls (.int v :: .ref (ad 0) :: rest)) := va_put (v := .int v) (ty := .boolean) E.1 E.2.1 E.2.2.2.2 hin tyX2 tyX2_ok nmX2 E.2.2.2.1 hK hP (wX_D hI) hS 0 rfl rfl 9 (by decide) hl0 (fun _ h => h) rfl (by decide +kernel) hn hft (Nat.le_of_ble_eq_true rfl) hdg (fun H1 locs1 hP1 _ hS1 => kk H1 locs1 hP1 hS1)
theorem xg_1_0 {ad : Nat → Nat} {f : Nat → Int32} {a ta : Nat → Nat → Int32} (E : CallFix p m c cc nL s args Ts own) (hK : wK D cI cB s) (hP : va_P D vwCl (wX cI ad f a ta) H) (hin : ∀ w ∈ wsX00, w ∈ Ts) {idx : Nat} (hl0 : (Cond.fieldLink own idx "SnowTerm$Page" "codes" "[I").before args s = true) (hdg : decode cc pc = .ok (.getfield idx, 3)) (k : W p l e R s m args below meth c H locs cells slots Q (F0 m (pc + 3) ls (.ref (ad 8) :: rest))) : W p l e R s m args below meth c H locs cells slots Q (F0 m pc ls (.ref (ad 1) :: rest)) := va_get E.1 E.2.1 E.2.2.2.2 hin E.2.2.2.1 hK hP 1 rfl rfl 0 (by decide) hl0 (fun _ h => h) rfl hdg k
theorem xg_1_1 {ad : Nat → Nat} {f : Nat → Int32} {a ta : Nat → Nat → Int32} (E : CallFix p m c cc nL s args Ts own) (hK : wK D cI cB s) (hP : va_P D vwCl (wX cI ad f a ta) H) (hin : ∀ w ∈ wsX00, w ∈ Ts) {idx : Nat} (hl0 : (Cond.fieldLink own idx "SnowTerm$Page" "size" "I").before args s = true) (hdg : decode cc pc = .ok (.getfield idx, 3)) (k : W p l e R s m args below meth c H locs cells slots Q (F0 m (pc + 3) ls (.int (f 3) :: rest))) : W p l e R s m args below meth c H locs cells slots Q (F0 m pc ls (.ref (ad 1) :: rest)) := va_get E.1 E.2.1 E.2.2.2.2 hin E.2.2.2.1 hK hP 1 rfl rfl 1 (by decide) hl0 (fun _ h => h) rfl hdg k
theorem xp_1_1 {ad : Nat → Nat} {f : Nat → Int32} {a ta : Nat → Nat → Int32} {v : Int32} (E : CallFix p m c cc nL s args Ts own) (hK : wK D cI cB s) (hP : va_P D vwCl (wX cI ad f a ta) H) (hin : ∀ w ∈ wsX00, w ∈ Ts) {idx : Nat} (hl0 : (Cond.fieldLink own idx "SnowTerm$Page" "size" "I").before args s = true) (hI : wI 25 ad) (hS : va_S (wA 25 ad) H0 H locs) (hdg : decode cc pc = .ok (.putfield idx, 3)) (kk : ∀ (H : Heap) (locs : List Loc), va_P D vwCl (wX cI ad (upd f 3 v) a ta) H → va_S (wA 25 ad) H0 H locs → W p l e R s m args below meth c H locs cells slots Q (F0 m (pc + 3) ls rest)) : W p l e R s m args below meth c H locs cells slots Q (F0 m pc ls (.int v :: .ref (ad 1) :: rest)) := va_put (v := .int v) (ty := .int) E.1 E.2.1 E.2.2.2.2 hin tyX0 tyX0_ok nmX0 E.2.2.2.1 hK hP (wX_D hI) hS 1 rfl rfl 1 (by decide) hl0 (fun _ h => h) rfl (by decide +kernel) rfl rfl (Nat.le_of_ble_eq_true rfl) hdg (fun H1 locs1 hP1 _ hS1 => kk H1 locs1 hP1 hS1)
theorem xg_4_0 {ad : Nat → Nat} {f : Nat → Int32} {a ta : Nat → Nat → Int32} (E : CallFix p m c cc nL s args Ts own) (hK : wK D cI cB s) (hP : va_P D vwCl (wX cI ad f a ta) H) (hin : ∀ w ∈ wsX10, w ∈ Ts) {idx : Nat} (hl0 : (Cond.fieldLink own idx "SnowTerm$Term" "day" "I").before args s = true) (hdg : decode cc pc = .ok (.getfield idx, 3)) (k : W p l e R s m args below meth c H locs cells slots Q (F0 m (pc + 3) ls (.int (f 4) :: rest))) : W p l e R s m args below meth c H locs cells slots Q (F0 m pc ls (.ref (ad 4) :: rest)) := va_get E.1 E.2.1 E.2.2.2.2 hin E.2.2.2.1 hK hP 4 rfl rfl 0 (by decide) hl0 (fun _ h => h) rfl hdg k
theorem xp_4_0 {ad : Nat → Nat} {f : Nat → Int32} {a ta : Nat → Nat → Int32} {v : Int32} (E : CallFix p m c cc nL s args Ts own) (hK : wK D cI cB s) (hP : va_P D vwCl (wX cI ad f a ta) H) (hin : ∀ w ∈ wsX10, w ∈ Ts) {idx : Nat} (hl0 : (Cond.fieldLink own idx "SnowTerm$Term" "day" "I").before args s = true) (hI : wI 25 ad) (hS : va_S (wA 25 ad) H0 H locs) (hdg : decode cc pc = .ok (.putfield idx, 3)) (kk : ∀ (H : Heap) (locs : List Loc), va_P D vwCl (wX cI ad (upd f 4 v) a ta) H → va_S (wA 25 ad) H0 H locs → W p l e R s m args below meth c H locs cells slots Q (F0 m (pc + 3) ls rest)) : W p l e R s m args below meth c H locs cells slots Q (F0 m pc ls (.int v :: .ref (ad 4) :: rest)) := va_put (v := .int v) (ty := .int) E.1 E.2.1 E.2.2.2.2 hin tyX1 tyX1_ok nmX1 E.2.2.2.1 hK hP (wX_D hI) hS 4 rfl rfl 0 (by decide) hl0 (fun _ h => h) rfl (by decide +kernel) rfl rfl (Nat.le_of_ble_eq_true rfl) hdg (fun H1 locs1 hP1 _ hS1 => kk H1 locs1 hP1 hS1)
theorem xg_4_1 {ad : Nat → Nat} {f : Nat → Int32} {a ta : Nat → Nat → Int32} (E : CallFix p m c cc nL s args Ts own) (hK : wK D cI cB s) (hP : va_P D vwCl (wX cI ad f a ta) H) (hin : ∀ w ∈ wsX10, w ∈ Ts) {idx : Nat} (hl0 : (Cond.fieldLink own idx "SnowTerm$Term" "sun" "I").before args s = true) (hdg : decode cc pc = .ok (.getfield idx, 3)) (k : W p l e R s m args below meth c H locs cells slots Q (F0 m (pc + 3) ls (.int (f 5) :: rest))) : W p l e R s m args below meth c H locs cells slots Q (F0 m pc ls (.ref (ad 4) :: rest)) := va_get E.1 E.2.1 E.2.2.2.2 hin E.2.2.2.1 hK hP 4 rfl rfl 1 (by decide) hl0 (fun _ h => h) rfl hdg k
theorem xp_4_1 {ad : Nat → Nat} {f : Nat → Int32} {a ta : Nat → Nat → Int32} {v : Int32} (E : CallFix p m c cc nL s args Ts own) (hK : wK D cI cB s) (hP : va_P D vwCl (wX cI ad f a ta) H) (hin : ∀ w ∈ wsX10, w ∈ Ts) {idx : Nat} (hl0 : (Cond.fieldLink own idx "SnowTerm$Term" "sun" "I").before args s = true) (hI : wI 25 ad) (hS : va_S (wA 25 ad) H0 H locs) (hdg : decode cc pc = .ok (.putfield idx, 3)) (kk : ∀ (H : Heap) (locs : List Loc), va_P D vwCl (wX cI ad (upd f 5 v) a ta) H → va_S (wA 25 ad) H0 H locs → W p l e R s m args below meth c H locs cells slots Q (F0 m (pc + 3) ls rest)) : W p l e R s m args below meth c H locs cells slots Q (F0 m pc ls (.int v :: .ref (ad 4) :: rest)) := va_put (v := .int v) (ty := .int) E.1 E.2.1 E.2.2.2.2 hin tyX1 tyX1_ok nmX1 E.2.2.2.1 hK hP (wX_D hI) hS 4 rfl rfl 1 (by decide) hl0 (fun _ h => h) rfl (by decide +kernel) rfl rfl (Nat.le_of_ble_eq_true rfl) hdg (fun H1 locs1 hP1 _ hS1 => kk H1 locs1 hP1 hS1)
theorem xg_4_2 {ad : Nat → Nat} {f : Nat → Int32} {a ta : Nat → Nat → Int32} (E : CallFix p m c cc nL s args Ts own) (hK : wK D cI cB s) (hP : va_P D vwCl (wX cI ad f a ta) H) (hin : ∀ w ∈ wsX10, w ∈ Ts) {idx : Nat} (hl0 : (Cond.fieldLink own idx "SnowTerm$Term" "cost" "I").before args s = true) (hdg : decode cc pc = .ok (.getfield idx, 3)) (k : W p l e R s m args below meth c H locs cells slots Q (F0 m (pc + 3) ls (.int (f 6) :: rest))) : W p l e R s m args below meth c H locs cells slots Q (F0 m pc ls (.ref (ad 4) :: rest)) := va_get E.1 E.2.1 E.2.2.2.2 hin E.2.2.2.1 hK hP 4 rfl rfl 2 (by decide) hl0 (fun _ h => h) rfl hdg k
theorem xp_4_2 {ad : Nat → Nat} {f : Nat → Int32} {a ta : Nat → Nat → Int32} {v : Int32} (E : CallFix p m c cc nL s args Ts own) (hK : wK D cI cB s) (hP : va_P D vwCl (wX cI ad f a ta) H) (hin : ∀ w ∈ wsX10, w ∈ Ts) {idx : Nat} (hl0 : (Cond.fieldLink own idx "SnowTerm$Term" "cost" "I").before args s = true) (hI : wI 25 ad) (hS : va_S (wA 25 ad) H0 H locs) (hdg : decode cc pc = .ok (.putfield idx, 3)) (kk : ∀ (H : Heap) (locs : List Loc), va_P D vwCl (wX cI ad (upd f 6 v) a ta) H → va_S (wA 25 ad) H0 H locs → W p l e R s m args below meth c H locs cells slots Q (F0 m (pc + 3) ls rest)) : W p l e R s m args below meth c H locs cells slots Q (F0 m pc ls (.int v :: .ref (ad 4) :: rest)) := va_put (v := .int v) (ty := .int) E.1 E.2.1 E.2.2.2.2 hin tyX1 tyX1_ok nmX1 E.2.2.2.1 hK hP (wX_D hI) hS 4 rfl rfl 2 (by decide) hl0 (fun _ h => h) rfl (by decide +kernel) rfl rfl (Nat.le_of_ble_eq_true rfl) hdg (fun H1 locs1 hP1 _ hS1 => kk H1 locs1 hP1 hS1)
theorem xg_4_3 {ad : Nat → Nat} {f : Nat → Int32} {a ta : Nat → Nat → Int32} (E : CallFix p m c cc nL s args Ts own) (hK : wK D cI cB s) (hP : va_P D vwCl (wX cI ad f a ta) H) (hin : ∀ w ∈ wsX10, w ∈ Ts) {idx : Nat} (hl0 : (Cond.fieldLink own idx "SnowTerm$Term" "praise" "I").before args s = true) (hdg : decode cc pc = .ok (.getfield idx, 3)) (k : W p l e R s m args below meth c H locs cells slots Q (F0 m (pc + 3) ls (.int (f 7) :: rest))) : W p l e R s m args below meth c H locs cells slots Q (F0 m pc ls (.ref (ad 4) :: rest)) := va_get E.1 E.2.1 E.2.2.2.2 hin E.2.2.2.1 hK hP 4 rfl rfl 3 (by decide) hl0 (fun _ h => h) rfl hdg k
theorem xp_4_3 {ad : Nat → Nat} {f : Nat → Int32} {a ta : Nat → Nat → Int32} {v : Int32} (E : CallFix p m c cc nL s args Ts own) (hK : wK D cI cB s) (hP : va_P D vwCl (wX cI ad f a ta) H) (hin : ∀ w ∈ wsX10, w ∈ Ts) {idx : Nat} (hl0 : (Cond.fieldLink own idx "SnowTerm$Term" "praise" "I").before args s = true) (hI : wI 25 ad) (hS : va_S (wA 25 ad) H0 H locs) (hdg : decode cc pc = .ok (.putfield idx, 3)) (kk : ∀ (H : Heap) (locs : List Loc), va_P D vwCl (wX cI ad (upd f 7 v) a ta) H → va_S (wA 25 ad) H0 H locs → W p l e R s m args below meth c H locs cells slots Q (F0 m (pc + 3) ls rest)) : W p l e R s m args below meth c H locs cells slots Q (F0 m pc ls (.int v :: .ref (ad 4) :: rest)) := va_put (v := .int v) (ty := .int) E.1 E.2.1 E.2.2.2.2 hin tyX1 tyX1_ok nmX1 E.2.2.2.1 hK hP (wX_D hI) hS 4 rfl rfl 3 (by decide) hl0 (fun _ h => h) rfl (by decide +kernel) rfl rfl (Nat.le_of_ble_eq_true rfl) hdg (fun H1 locs1 hP1 _ hS1 => kk H1 locs1 hP1 hS1)
theorem xg_4_4 {ad : Nat → Nat} {f : Nat → Int32} {a ta : Nat → Nat → Int32} (E : CallFix p m c cc nL s args Ts own) (hK : wK D cI cB s) (hP : va_P D vwCl (wX cI ad f a ta) H) (hin : ∀ w ∈ wsX10, w ∈ Ts) {idx : Nat} (hl0 : (Cond.fieldLink own idx "SnowTerm$Term" "snow" "[I").before args s = true) (hdg : decode cc pc = .ok (.getfield idx, 3)) (k : W p l e R s m args below meth c H locs cells slots Q (F0 m (pc + 3) ls (.ref (ad 9) :: rest))) : W p l e R s m args below meth c H locs cells slots Q (F0 m pc ls (.ref (ad 4) :: rest)) := va_get E.1 E.2.1 E.2.2.2.2 hin E.2.2.2.1 hK hP 4 rfl rfl 4 (by decide) hl0 (fun _ h => h) rfl hdg k
theorem xg_4_5 {ad : Nat → Nat} {f : Nat → Int32} {a ta : Nat → Nat → Int32} (E : CallFix p m c cc nL s args Ts own) (hK : wK D cI cB s) (hP : va_P D vwCl (wX cI ad f a ta) H) (hin : ∀ w ∈ wsX10, w ∈ Ts) {idx : Nat} (hl0 : (Cond.fieldLink own idx "SnowTerm$Term" "snowAtDusk" "[I").before args s = true) (hdg : decode cc pc = .ok (.getfield idx, 3)) (k : W p l e R s m args below meth c H locs cells slots Q (F0 m (pc + 3) ls (.ref (ad 10) :: rest))) : W p l e R s m args below meth c H locs cells slots Q (F0 m pc ls (.ref (ad 4) :: rest)) := va_get E.1 E.2.1 E.2.2.2.2 hin E.2.2.2.1 hK hP 4 rfl rfl 5 (by decide) hl0 (fun _ h => h) rfl hdg k
theorem xg_4_6 {ad : Nat → Nat} {f : Nat → Int32} {a ta : Nat → Nat → Int32} (E : CallFix p m c cc nL s args Ts own) (hK : wK D cI cB s) (hP : va_P D vwCl (wX cI ad f a ta) H) (hin : ∀ w ∈ wsX10, w ∈ Ts) {idx : Nat} (hl0 : (Cond.fieldLink own idx "SnowTerm$Term" "feet" "[I").before args s = true) (hdg : decode cc pc = .ok (.getfield idx, 3)) (k : W p l e R s m args below meth c H locs cells slots Q (F0 m (pc + 3) ls (.ref (ad 11) :: rest))) : W p l e R s m args below meth c H locs cells slots Q (F0 m pc ls (.ref (ad 4) :: rest)) := va_get E.1 E.2.1 E.2.2.2.2 hin E.2.2.2.1 hK hP 4 rfl rfl 6 (by decide) hl0 (fun _ h => h) rfl hdg k
theorem xg_4_7 {ad : Nat → Nat} {f : Nat → Int32} {a ta : Nat → Nat → Int32} (E : CallFix p m c cc nL s args Ts own) (hK : wK D cI cB s) (hP : va_P D vwCl (wX cI ad f a ta) H) (hin : ∀ w ∈ wsX10, w ∈ Ts) {idx : Nat} (hl0 : (Cond.fieldLink own idx "SnowTerm$Term" "brought" "[I").before args s = true) (hdg : decode cc pc = .ok (.getfield idx, 3)) (k : W p l e R s m args below meth c H locs cells slots Q (F0 m (pc + 3) ls (.ref (ad 12) :: rest))) : W p l e R s m args below meth c H locs cells slots Q (F0 m pc ls (.ref (ad 4) :: rest)) := va_get E.1 E.2.1 E.2.2.2.2 hin E.2.2.2.1 hK hP 4 rfl rfl 7 (by decide) hl0 (fun _ h => h) rfl hdg k
theorem xg_4_8 {ad : Nat → Nat} {f : Nat → Int32} {a ta : Nat → Nat → Int32} (E : CallFix p m c cc nL s args Ts own) (hK : wK D cI cB s) (hP : va_P D vwCl (wX cI ad f a ta) H) (hin : ∀ w ∈ wsX10, w ∈ Ts) {idx : Nat} (hl0 : (Cond.fieldLink own idx "SnowTerm$Term" "foundKind" "[I").before args s = true) (hdg : decode cc pc = .ok (.getfield idx, 3)) (k : W p l e R s m args below meth c H locs cells slots Q (F0 m (pc + 3) ls (.ref (ad 13) :: rest))) : W p l e R s m args below meth c H locs cells slots Q (F0 m pc ls (.ref (ad 4) :: rest)) := va_get E.1 E.2.1 E.2.2.2.2 hin E.2.2.2.1 hK hP 4 rfl rfl 8 (by decide) hl0 (fun _ h => h) rfl hdg k
theorem xg_4_9 {ad : Nat → Nat} {f : Nat → Int32} {a ta : Nat → Nat → Int32} (E : CallFix p m c cc nL s args Ts own) (hK : wK D cI cB s) (hP : va_P D vwCl (wX cI ad f a ta) H) (hin : ∀ w ∈ wsX10, w ∈ Ts) {idx : Nat} (hl0 : (Cond.fieldLink own idx "SnowTerm$Term" "foundFeet" "[I").before args s = true) (hdg : decode cc pc = .ok (.getfield idx, 3)) (k : W p l e R s m args below meth c H locs cells slots Q (F0 m (pc + 3) ls (.ref (ad 14) :: rest))) : W p l e R s m args below meth c H locs cells slots Q (F0 m pc ls (.ref (ad 4) :: rest)) := va_get E.1 E.2.1 E.2.2.2.2 hin E.2.2.2.1 hK hP 4 rfl rfl 9 (by decide) hl0 (fun _ h => h) rfl hdg k
theorem xg_4_10 {ad : Nat → Nat} {f : Nat → Int32} {a ta : Nat → Nat → Int32} (E : CallFix p m c cc nL s args Ts own) (hK : wK D cI cB s) (hP : va_P D vwCl (wX cI ad f a ta) H) (hin : ∀ w ∈ wsX10, w ∈ Ts) {idx : Nat} (hl0 : (Cond.fieldLink own idx "SnowTerm$Term" "foundDeep" "[I").before args s = true) (hdg : decode cc pc = .ok (.getfield idx, 3)) (k : W p l e R s m args below meth c H locs cells slots Q (F0 m (pc + 3) ls (.ref (ad 15) :: rest))) : W p l e R s m args below meth c H locs cells slots Q (F0 m pc ls (.ref (ad 4) :: rest)) := va_get E.1 E.2.1 E.2.2.2.2 hin E.2.2.2.1 hK hP 4 rfl rfl 10 (by decide) hl0 (fun _ h => h) rfl hdg k
theorem xg_4_11 {ad : Nat → Nat} {f : Nat → Int32} {a ta : Nat → Nat → Int32} (E : CallFix p m c cc nL s args Ts own) (hK : wK D cI cB s) (hP : va_P D vwCl (wX cI ad f a ta) H) (hin : ∀ w ∈ wsX10, w ∈ Ts) {idx : Nat} (hl0 : (Cond.fieldLink own idx "SnowTerm$Term" "foundLeft" "[I").before args s = true) (hdg : decode cc pc = .ok (.getfield idx, 3)) (k : W p l e R s m args below meth c H locs cells slots Q (F0 m (pc + 3) ls (.ref (ad 16) :: rest))) : W p l e R s m args below meth c H locs cells slots Q (F0 m pc ls (.ref (ad 4) :: rest)) := va_get E.1 E.2.1 E.2.2.2.2 hin E.2.2.2.1 hK hP 4 rfl rfl 11 (by decide) hl0 (fun _ h => h) rfl hdg k
theorem xg_4_12 {ad : Nat → Nat} {f : Nat → Int32} {a ta : Nat → Nat → Int32} (E : CallFix p m c cc nL s args Ts own) (hK : wK D cI cB s) (hP : va_P D vwCl (wX cI ad f a ta) H) (hin : ∀ w ∈ wsX10, w ∈ Ts) {idx : Nat} (hl0 : (Cond.fieldLink own idx "SnowTerm$Term" "foundCount" "I").before args s = true) (hdg : decode cc pc = .ok (.getfield idx, 3)) (k : W p l e R s m args below meth c H locs cells slots Q (F0 m (pc + 3) ls (.int (f 8) :: rest))) : W p l e R s m args below meth c H locs cells slots Q (F0 m pc ls (.ref (ad 4) :: rest)) := va_get E.1 E.2.1 E.2.2.2.2 hin E.2.2.2.1 hK hP 4 rfl rfl 12 (by decide) hl0 (fun _ h => h) rfl hdg k
theorem xp_4_12 {ad : Nat → Nat} {f : Nat → Int32} {a ta : Nat → Nat → Int32} {v : Int32} (E : CallFix p m c cc nL s args Ts own) (hK : wK D cI cB s) (hP : va_P D vwCl (wX cI ad f a ta) H) (hin : ∀ w ∈ wsX10, w ∈ Ts) {idx : Nat} (hl0 : (Cond.fieldLink own idx "SnowTerm$Term" "foundCount" "I").before args s = true) (hI : wI 25 ad) (hS : va_S (wA 25 ad) H0 H locs) (hdg : decode cc pc = .ok (.putfield idx, 3)) (kk : ∀ (H : Heap) (locs : List Loc), va_P D vwCl (wX cI ad (upd f 8 v) a ta) H → va_S (wA 25 ad) H0 H locs → W p l e R s m args below meth c H locs cells slots Q (F0 m (pc + 3) ls rest)) : W p l e R s m args below meth c H locs cells slots Q (F0 m pc ls (.int v :: .ref (ad 4) :: rest)) := va_put (v := .int v) (ty := .int) E.1 E.2.1 E.2.2.2.2 hin tyX1 tyX1_ok nmX1 E.2.2.2.1 hK hP (wX_D hI) hS 4 rfl rfl 12 (by decide) hl0 (fun _ h => h) rfl (by decide +kernel) rfl rfl (Nat.le_of_ble_eq_true rfl) hdg (fun H1 locs1 hP1 _ hS1 => kk H1 locs1 hP1 hS1)
theorem xg_5_0 {ad : Nat → Nat} {f : Nat → Int32} {a ta : Nat → Nat → Int32} (E : CallFix p m c cc nL s args Ts own) (hK : wK D cI cB s) (hP : va_P D vwCl (wX cI ad f a ta) H) (hin : ∀ w ∈ wsX10, w ∈ Ts) {idx : Nat} (hl0 : (Cond.fieldLink own idx "SnowTerm$Term" "day" "I").before args s = true) (hdg : decode cc pc = .ok (.getfield idx, 3)) (k : W p l e R s m args below meth c H locs cells slots Q (F0 m (pc + 3) ls (.int (f 9) :: rest))) : W p l e R s m args below meth c H locs cells slots Q (F0 m pc ls (.ref (ad 5) :: rest)) := va_get E.1 E.2.1 E.2.2.2.2 hin E.2.2.2.1 hK hP 5 rfl rfl 0 (by decide) hl0 (fun _ h => h) rfl hdg k
theorem xp_5_0 {ad : Nat → Nat} {f : Nat → Int32} {a ta : Nat → Nat → Int32} {v : Int32} (E : CallFix p m c cc nL s args Ts own) (hK : wK D cI cB s) (hP : va_P D vwCl (wX cI ad f a ta) H) (hin : ∀ w ∈ wsX10, w ∈ Ts) {idx : Nat} (hl0 : (Cond.fieldLink own idx "SnowTerm$Term" "day" "I").before args s = true) (hI : wI 25 ad) (hS : va_S (wA 25 ad) H0 H locs) (hdg : decode cc pc = .ok (.putfield idx, 3)) (kk : ∀ (H : Heap) (locs : List Loc), va_P D vwCl (wX cI ad (upd f 9 v) a ta) H → va_S (wA 25 ad) H0 H locs → W p l e R s m args below meth c H locs cells slots Q (F0 m (pc + 3) ls rest)) : W p l e R s m args below meth c H locs cells slots Q (F0 m pc ls (.int v :: .ref (ad 5) :: rest)) := va_put (v := .int v) (ty := .int) E.1 E.2.1 E.2.2.2.2 hin tyX1 tyX1_ok nmX1 E.2.2.2.1 hK hP (wX_D hI) hS 5 rfl rfl 0 (by decide) hl0 (fun _ h => h) rfl (by decide +kernel) rfl rfl (Nat.le_of_ble_eq_true rfl) hdg (fun H1 locs1 hP1 _ hS1 => kk H1 locs1 hP1 hS1)
theorem xg_5_1 {ad : Nat → Nat} {f : Nat → Int32} {a ta : Nat → Nat → Int32} (E : CallFix p m c cc nL s args Ts own) (hK : wK D cI cB s) (hP : va_P D vwCl (wX cI ad f a ta) H) (hin : ∀ w ∈ wsX10, w ∈ Ts) {idx : Nat} (hl0 : (Cond.fieldLink own idx "SnowTerm$Term" "sun" "I").before args s = true) (hdg : decode cc pc = .ok (.getfield idx, 3)) (k : W p l e R s m args below meth c H locs cells slots Q (F0 m (pc + 3) ls (.int (f 10) :: rest))) : W p l e R s m args below meth c H locs cells slots Q (F0 m pc ls (.ref (ad 5) :: rest)) := va_get E.1 E.2.1 E.2.2.2.2 hin E.2.2.2.1 hK hP 5 rfl rfl 1 (by decide) hl0 (fun _ h => h) rfl hdg k
theorem xp_5_1 {ad : Nat → Nat} {f : Nat → Int32} {a ta : Nat → Nat → Int32} {v : Int32} (E : CallFix p m c cc nL s args Ts own) (hK : wK D cI cB s) (hP : va_P D vwCl (wX cI ad f a ta) H) (hin : ∀ w ∈ wsX10, w ∈ Ts) {idx : Nat} (hl0 : (Cond.fieldLink own idx "SnowTerm$Term" "sun" "I").before args s = true) (hI : wI 25 ad) (hS : va_S (wA 25 ad) H0 H locs) (hdg : decode cc pc = .ok (.putfield idx, 3)) (kk : ∀ (H : Heap) (locs : List Loc), va_P D vwCl (wX cI ad (upd f 10 v) a ta) H → va_S (wA 25 ad) H0 H locs → W p l e R s m args below meth c H locs cells slots Q (F0 m (pc + 3) ls rest)) : W p l e R s m args below meth c H locs cells slots Q (F0 m pc ls (.int v :: .ref (ad 5) :: rest)) := va_put (v := .int v) (ty := .int) E.1 E.2.1 E.2.2.2.2 hin tyX1 tyX1_ok nmX1 E.2.2.2.1 hK hP (wX_D hI) hS 5 rfl rfl 1 (by decide) hl0 (fun _ h => h) rfl (by decide +kernel) rfl rfl (Nat.le_of_ble_eq_true rfl) hdg (fun H1 locs1 hP1 _ hS1 => kk H1 locs1 hP1 hS1)
theorem xg_5_2 {ad : Nat → Nat} {f : Nat → Int32} {a ta : Nat → Nat → Int32} (E : CallFix p m c cc nL s args Ts own) (hK : wK D cI cB s) (hP : va_P D vwCl (wX cI ad f a ta) H) (hin : ∀ w ∈ wsX10, w ∈ Ts) {idx : Nat} (hl0 : (Cond.fieldLink own idx "SnowTerm$Term" "cost" "I").before args s = true) (hdg : decode cc pc = .ok (.getfield idx, 3)) (k : W p l e R s m args below meth c H locs cells slots Q (F0 m (pc + 3) ls (.int (f 11) :: rest))) : W p l e R s m args below meth c H locs cells slots Q (F0 m pc ls (.ref (ad 5) :: rest)) := va_get E.1 E.2.1 E.2.2.2.2 hin E.2.2.2.1 hK hP 5 rfl rfl 2 (by decide) hl0 (fun _ h => h) rfl hdg k
theorem xp_5_2 {ad : Nat → Nat} {f : Nat → Int32} {a ta : Nat → Nat → Int32} {v : Int32} (E : CallFix p m c cc nL s args Ts own) (hK : wK D cI cB s) (hP : va_P D vwCl (wX cI ad f a ta) H) (hin : ∀ w ∈ wsX10, w ∈ Ts) {idx : Nat} (hl0 : (Cond.fieldLink own idx "SnowTerm$Term" "cost" "I").before args s = true) (hI : wI 25 ad) (hS : va_S (wA 25 ad) H0 H locs) (hdg : decode cc pc = .ok (.putfield idx, 3)) (kk : ∀ (H : Heap) (locs : List Loc), va_P D vwCl (wX cI ad (upd f 11 v) a ta) H → va_S (wA 25 ad) H0 H locs → W p l e R s m args below meth c H locs cells slots Q (F0 m (pc + 3) ls rest)) : W p l e R s m args below meth c H locs cells slots Q (F0 m pc ls (.int v :: .ref (ad 5) :: rest)) := va_put (v := .int v) (ty := .int) E.1 E.2.1 E.2.2.2.2 hin tyX1 tyX1_ok nmX1 E.2.2.2.1 hK hP (wX_D hI) hS 5 rfl rfl 2 (by decide) hl0 (fun _ h => h) rfl (by decide +kernel) rfl rfl (Nat.le_of_ble_eq_true rfl) hdg (fun H1 locs1 hP1 _ hS1 => kk H1 locs1 hP1 hS1)
theorem xg_5_3 {ad : Nat → Nat} {f : Nat → Int32} {a ta : Nat → Nat → Int32} (E : CallFix p m c cc nL s args Ts own) (hK : wK D cI cB s) (hP : va_P D vwCl (wX cI ad f a ta) H) (hin : ∀ w ∈ wsX10, w ∈ Ts) {idx : Nat} (hl0 : (Cond.fieldLink own idx "SnowTerm$Term" "praise" "I").before args s = true) (hdg : decode cc pc = .ok (.getfield idx, 3)) (k : W p l e R s m args below meth c H locs cells slots Q (F0 m (pc + 3) ls (.int (f 12) :: rest))) : W p l e R s m args below meth c H locs cells slots Q (F0 m pc ls (.ref (ad 5) :: rest)) := va_get E.1 E.2.1 E.2.2.2.2 hin E.2.2.2.1 hK hP 5 rfl rfl 3 (by decide) hl0 (fun _ h => h) rfl hdg k
theorem xp_5_3 {ad : Nat → Nat} {f : Nat → Int32} {a ta : Nat → Nat → Int32} {v : Int32} (E : CallFix p m c cc nL s args Ts own) (hK : wK D cI cB s) (hP : va_P D vwCl (wX cI ad f a ta) H) (hin : ∀ w ∈ wsX10, w ∈ Ts) {idx : Nat} (hl0 : (Cond.fieldLink own idx "SnowTerm$Term" "praise" "I").before args s = true) (hI : wI 25 ad) (hS : va_S (wA 25 ad) H0 H locs) (hdg : decode cc pc = .ok (.putfield idx, 3)) (kk : ∀ (H : Heap) (locs : List Loc), va_P D vwCl (wX cI ad (upd f 12 v) a ta) H → va_S (wA 25 ad) H0 H locs → W p l e R s m args below meth c H locs cells slots Q (F0 m (pc + 3) ls rest)) : W p l e R s m args below meth c H locs cells slots Q (F0 m pc ls (.int v :: .ref (ad 5) :: rest)) := va_put (v := .int v) (ty := .int) E.1 E.2.1 E.2.2.2.2 hin tyX1 tyX1_ok nmX1 E.2.2.2.1 hK hP (wX_D hI) hS 5 rfl rfl 3 (by decide) hl0 (fun _ h => h) rfl (by decide +kernel) rfl rfl (Nat.le_of_ble_eq_true rfl) hdg (fun H1 locs1 hP1 _ hS1 => kk H1 locs1 hP1 hS1)
theorem xg_5_4 {ad : Nat → Nat} {f : Nat → Int32} {a ta : Nat → Nat → Int32} (E : CallFix p m c cc nL s args Ts own) (hK : wK D cI cB s) (hP : va_P D vwCl (wX cI ad f a ta) H) (hin : ∀ w ∈ wsX10, w ∈ Ts) {idx : Nat} (hl0 : (Cond.fieldLink own idx "SnowTerm$Term" "snow" "[I").before args s = true) (hdg : decode cc pc = .ok (.getfield idx, 3)) (k : W p l e R s m args below meth c H locs cells slots Q (F0 m (pc + 3) ls (.ref (ad 17) :: rest))) : W p l e R s m args below meth c H locs cells slots Q (F0 m pc ls (.ref (ad 5) :: rest)) := va_get E.1 E.2.1 E.2.2.2.2 hin E.2.2.2.1 hK hP 5 rfl rfl 4 (by decide) hl0 (fun _ h => h) rfl hdg k
theorem xg_5_5 {ad : Nat → Nat} {f : Nat → Int32} {a ta : Nat → Nat → Int32} (E : CallFix p m c cc nL s args Ts own) (hK : wK D cI cB s) (hP : va_P D vwCl (wX cI ad f a ta) H) (hin : ∀ w ∈ wsX10, w ∈ Ts) {idx : Nat} (hl0 : (Cond.fieldLink own idx "SnowTerm$Term" "snowAtDusk" "[I").before args s = true) (hdg : decode cc pc = .ok (.getfield idx, 3)) (k : W p l e R s m args below meth c H locs cells slots Q (F0 m (pc + 3) ls (.ref (ad 18) :: rest))) : W p l e R s m args below meth c H locs cells slots Q (F0 m pc ls (.ref (ad 5) :: rest)) := va_get E.1 E.2.1 E.2.2.2.2 hin E.2.2.2.1 hK hP 5 rfl rfl 5 (by decide) hl0 (fun _ h => h) rfl hdg k
theorem xg_5_6 {ad : Nat → Nat} {f : Nat → Int32} {a ta : Nat → Nat → Int32} (E : CallFix p m c cc nL s args Ts own) (hK : wK D cI cB s) (hP : va_P D vwCl (wX cI ad f a ta) H) (hin : ∀ w ∈ wsX10, w ∈ Ts) {idx : Nat} (hl0 : (Cond.fieldLink own idx "SnowTerm$Term" "feet" "[I").before args s = true) (hdg : decode cc pc = .ok (.getfield idx, 3)) (k : W p l e R s m args below meth c H locs cells slots Q (F0 m (pc + 3) ls (.ref (ad 19) :: rest))) : W p l e R s m args below meth c H locs cells slots Q (F0 m pc ls (.ref (ad 5) :: rest)) := va_get E.1 E.2.1 E.2.2.2.2 hin E.2.2.2.1 hK hP 5 rfl rfl 6 (by decide) hl0 (fun _ h => h) rfl hdg k
theorem xg_5_7 {ad : Nat → Nat} {f : Nat → Int32} {a ta : Nat → Nat → Int32} (E : CallFix p m c cc nL s args Ts own) (hK : wK D cI cB s) (hP : va_P D vwCl (wX cI ad f a ta) H) (hin : ∀ w ∈ wsX10, w ∈ Ts) {idx : Nat} (hl0 : (Cond.fieldLink own idx "SnowTerm$Term" "brought" "[I").before args s = true) (hdg : decode cc pc = .ok (.getfield idx, 3)) (k : W p l e R s m args below meth c H locs cells slots Q (F0 m (pc + 3) ls (.ref (ad 20) :: rest))) : W p l e R s m args below meth c H locs cells slots Q (F0 m pc ls (.ref (ad 5) :: rest)) := va_get E.1 E.2.1 E.2.2.2.2 hin E.2.2.2.1 hK hP 5 rfl rfl 7 (by decide) hl0 (fun _ h => h) rfl hdg k
theorem xg_5_8 {ad : Nat → Nat} {f : Nat → Int32} {a ta : Nat → Nat → Int32} (E : CallFix p m c cc nL s args Ts own) (hK : wK D cI cB s) (hP : va_P D vwCl (wX cI ad f a ta) H) (hin : ∀ w ∈ wsX10, w ∈ Ts) {idx : Nat} (hl0 : (Cond.fieldLink own idx "SnowTerm$Term" "foundKind" "[I").before args s = true) (hdg : decode cc pc = .ok (.getfield idx, 3)) (k : W p l e R s m args below meth c H locs cells slots Q (F0 m (pc + 3) ls (.ref (ad 21) :: rest))) : W p l e R s m args below meth c H locs cells slots Q (F0 m pc ls (.ref (ad 5) :: rest)) := va_get E.1 E.2.1 E.2.2.2.2 hin E.2.2.2.1 hK hP 5 rfl rfl 8 (by decide) hl0 (fun _ h => h) rfl hdg k
theorem xg_5_9 {ad : Nat → Nat} {f : Nat → Int32} {a ta : Nat → Nat → Int32} (E : CallFix p m c cc nL s args Ts own) (hK : wK D cI cB s) (hP : va_P D vwCl (wX cI ad f a ta) H) (hin : ∀ w ∈ wsX10, w ∈ Ts) {idx : Nat} (hl0 : (Cond.fieldLink own idx "SnowTerm$Term" "foundFeet" "[I").before args s = true) (hdg : decode cc pc = .ok (.getfield idx, 3)) (k : W p l e R s m args below meth c H locs cells slots Q (F0 m (pc + 3) ls (.ref (ad 22) :: rest))) : W p l e R s m args below meth c H locs cells slots Q (F0 m pc ls (.ref (ad 5) :: rest)) := va_get E.1 E.2.1 E.2.2.2.2 hin E.2.2.2.1 hK hP 5 rfl rfl 9 (by decide) hl0 (fun _ h => h) rfl hdg k
theorem xg_5_10 {ad : Nat → Nat} {f : Nat → Int32} {a ta : Nat → Nat → Int32} (E : CallFix p m c cc nL s args Ts own) (hK : wK D cI cB s) (hP : va_P D vwCl (wX cI ad f a ta) H) (hin : ∀ w ∈ wsX10, w ∈ Ts) {idx : Nat} (hl0 : (Cond.fieldLink own idx "SnowTerm$Term" "foundDeep" "[I").before args s = true) (hdg : decode cc pc = .ok (.getfield idx, 3)) (k : W p l e R s m args below meth c H locs cells slots Q (F0 m (pc + 3) ls (.ref (ad 23) :: rest))) : W p l e R s m args below meth c H locs cells slots Q (F0 m pc ls (.ref (ad 5) :: rest)) := va_get E.1 E.2.1 E.2.2.2.2 hin E.2.2.2.1 hK hP 5 rfl rfl 10 (by decide) hl0 (fun _ h => h) rfl hdg k
theorem xg_5_11 {ad : Nat → Nat} {f : Nat → Int32} {a ta : Nat → Nat → Int32} (E : CallFix p m c cc nL s args Ts own) (hK : wK D cI cB s) (hP : va_P D vwCl (wX cI ad f a ta) H) (hin : ∀ w ∈ wsX10, w ∈ Ts) {idx : Nat} (hl0 : (Cond.fieldLink own idx "SnowTerm$Term" "foundLeft" "[I").before args s = true) (hdg : decode cc pc = .ok (.getfield idx, 3)) (k : W p l e R s m args below meth c H locs cells slots Q (F0 m (pc + 3) ls (.ref (ad 24) :: rest))) : W p l e R s m args below meth c H locs cells slots Q (F0 m pc ls (.ref (ad 5) :: rest)) := va_get E.1 E.2.1 E.2.2.2.2 hin E.2.2.2.1 hK hP 5 rfl rfl 11 (by decide) hl0 (fun _ h => h) rfl hdg k
theorem xg_5_12 {ad : Nat → Nat} {f : Nat → Int32} {a ta : Nat → Nat → Int32} (E : CallFix p m c cc nL s args Ts own) (hK : wK D cI cB s) (hP : va_P D vwCl (wX cI ad f a ta) H) (hin : ∀ w ∈ wsX10, w ∈ Ts) {idx : Nat} (hl0 : (Cond.fieldLink own idx "SnowTerm$Term" "foundCount" "I").before args s = true) (hdg : decode cc pc = .ok (.getfield idx, 3)) (k : W p l e R s m args below meth c H locs cells slots Q (F0 m (pc + 3) ls (.int (f 13) :: rest))) : W p l e R s m args below meth c H locs cells slots Q (F0 m pc ls (.ref (ad 5) :: rest)) := va_get E.1 E.2.1 E.2.2.2.2 hin E.2.2.2.1 hK hP 5 rfl rfl 12 (by decide) hl0 (fun _ h => h) rfl hdg k
theorem xp_5_12 {ad : Nat → Nat} {f : Nat → Int32} {a ta : Nat → Nat → Int32} {v : Int32} (E : CallFix p m c cc nL s args Ts own) (hK : wK D cI cB s) (hP : va_P D vwCl (wX cI ad f a ta) H) (hin : ∀ w ∈ wsX10, w ∈ Ts) {idx : Nat} (hl0 : (Cond.fieldLink own idx "SnowTerm$Term" "foundCount" "I").before args s = true) (hI : wI 25 ad) (hS : va_S (wA 25 ad) H0 H locs) (hdg : decode cc pc = .ok (.putfield idx, 3)) (kk : ∀ (H : Heap) (locs : List Loc), va_P D vwCl (wX cI ad (upd f 13 v) a ta) H → va_S (wA 25 ad) H0 H locs → W p l e R s m args below meth c H locs cells slots Q (F0 m (pc + 3) ls rest)) : W p l e R s m args below meth c H locs cells slots Q (F0 m pc ls (.int v :: .ref (ad 5) :: rest)) := va_put (v := .int v) (ty := .int) E.1 E.2.1 E.2.2.2.2 hin tyX1 tyX1_ok nmX1 E.2.2.2.1 hK hP (wX_D hI) hS 5 rfl rfl 12 (by decide) hl0 (fun _ h => h) rfl (by decide +kernel) rfl rfl (Nat.le_of_ble_eq_true rfl) hdg (fun H1 locs1 hP1 _ hS1 => kk H1 locs1 hP1 hS1)
theorem xl_2 {ad : Nat → Nat} {f : Nat → Int32} {a ta : Nat → Nat → Int32} {i : Int32} (E : CallFix p m c cc nL s args Ts own) (hK : wK D cI cB s) (hP : va_P D vwCl (wX cI ad f a ta) H) (hi : vp_in i 6) (hdg : decode cc pc = .ok (.iaload, 1)) (k : W p l e R s m args below meth c H locs cells slots Q (F0 m (pc + 1) ls (.int (a 2 i.toNatClampNeg) :: rest))) : W p l e R s m args below meth c H locs cells slots Q (F0 m pc ls (.int i :: .ref (ad 2) :: rest)) := va_iald E.1 E.2.1 hK hP 2 0 rfl rfl hi hdg k
theorem xs_2 {ad : Nat → Nat} {f : Nat → Int32} {a ta : Nat → Nat → Int32} {i v : Int32} (E : CallFix p m c cc nL s args Ts own) (hK : wK D cI cB s) (hP : va_P D vwCl (wX cI ad f a ta) H) (hI : wI 25 ad) (hS : va_S (wA 25 ad) H0 H locs) (hi : vp_in i 6) (hdg : decode cc pc = .ok (.iastore, 1)) (kk : ∀ (H : Heap) (locs : List Loc), va_P D vwCl (wX cI ad f (uA a 2 (upd (a 2) i.toNatClampNeg v)) ta) H → va_S (wA 25 ad) H0 H locs → W p l e R s m args below meth c H locs cells slots Q (F0 m (pc + 1) ls rest)) : W p l e R s m args below meth c H locs cells slots Q (F0 m pc ls (.int v :: .int i :: .ref (ad 2) :: rest)) := va_iast E.1 E.2.1 hK hP (wX_D hI) hS 2 0 rfl rfl hi hdg (fun H1 locs1 hP1 _ hS1 => kk H1 locs1 hP1 hS1)
theorem xn_2 {ad : Nat → Nat} {f : Nat → Int32} {a ta : Nat → Nat → Int32} (E : CallFix p m c cc nL s args Ts own) (hK : wK D cI cB s) (hP : va_P D vwCl (wX cI ad f a ta) H) (hdg : decode cc pc = .ok (.arraylength, 1)) (k : W p l e R s m args below meth c H locs cells slots Q (F0 m (pc + 1) ls (.int 6 :: rest))) : W p l e R s m args below meth c H locs cells slots Q (F0 m pc ls (.ref (ad 2) :: rest)) := va_alen (v := 6) E.1 E.2.1 hK hP 2 0 rfl rfl rfl hdg k
theorem xl_3 {ad : Nat → Nat} {f : Nat → Int32} {a ta : Nat → Nat → Int32} {i : Int32} (E : CallFix p m c cc nL s args Ts own) (hK : wK D cI cB s) (hP : va_P D vwCl (wX cI ad f a ta) H) (hi : vp_in i 6) (hdg : decode cc pc = .ok (.iaload, 1)) (k : W p l e R s m args below meth c H locs cells slots Q (F0 m (pc + 1) ls (.int (a 3 i.toNatClampNeg) :: rest))) : W p l e R s m args below meth c H locs cells slots Q (F0 m pc ls (.int i :: .ref (ad 3) :: rest)) := va_iald E.1 E.2.1 hK hP 3 0 rfl rfl hi hdg k
theorem xs_3 {ad : Nat → Nat} {f : Nat → Int32} {a ta : Nat → Nat → Int32} {i v : Int32} (E : CallFix p m c cc nL s args Ts own) (hK : wK D cI cB s) (hP : va_P D vwCl (wX cI ad f a ta) H) (hI : wI 25 ad) (hS : va_S (wA 25 ad) H0 H locs) (hi : vp_in i 6) (hdg : decode cc pc = .ok (.iastore, 1)) (kk : ∀ (H : Heap) (locs : List Loc), va_P D vwCl (wX cI ad f (uA a 3 (upd (a 3) i.toNatClampNeg v)) ta) H → va_S (wA 25 ad) H0 H locs → W p l e R s m args below meth c H locs cells slots Q (F0 m (pc + 1) ls rest)) : W p l e R s m args below meth c H locs cells slots Q (F0 m pc ls (.int v :: .int i :: .ref (ad 3) :: rest)) := va_iast E.1 E.2.1 hK hP (wX_D hI) hS 3 0 rfl rfl hi hdg (fun H1 locs1 hP1 _ hS1 => kk H1 locs1 hP1 hS1)
theorem xn_3 {ad : Nat → Nat} {f : Nat → Int32} {a ta : Nat → Nat → Int32} (E : CallFix p m c cc nL s args Ts own) (hK : wK D cI cB s) (hP : va_P D vwCl (wX cI ad f a ta) H) (hdg : decode cc pc = .ok (.arraylength, 1)) (k : W p l e R s m args below meth c H locs cells slots Q (F0 m (pc + 1) ls (.int 6 :: rest))) : W p l e R s m args below meth c H locs cells slots Q (F0 m pc ls (.ref (ad 3) :: rest)) := va_alen (v := 6) E.1 E.2.1 hK hP 3 0 rfl rfl rfl hdg k
theorem xl_6 {ad : Nat → Nat} {f : Nat → Int32} {a ta : Nat → Nat → Int32} {i : Int32} (E : CallFix p m c cc nL s args Ts own) (hK : wK D cI cB s) (hP : va_P D vwCl (wX cI ad f a ta) H) (hi : vp_in i 6) (hdg : decode cc pc = .ok (.iaload, 1)) (k : W p l e R s m args below meth c H locs cells slots Q (F0 m (pc + 1) ls (.int (ta 6 i.toNatClampNeg) :: rest))) : W p l e R s m args below meth c H locs cells slots Q (F0 m pc ls (.int i :: .ref (ad 6) :: rest)) := va_iald E.1 E.2.1 hK hP 6 0 rfl rfl hi hdg k
theorem xs_6 {ad : Nat → Nat} {f : Nat → Int32} {a ta : Nat → Nat → Int32} {i v : Int32} (E : CallFix p m c cc nL s args Ts own) (hK : wK D cI cB s) (hP : va_P D vwCl (wX cI ad f a ta) H) (hI : wI 25 ad) (hS : va_S (wA 25 ad) H0 H locs) (hi : vp_in i 6) (hdg : decode cc pc = .ok (.iastore, 1)) (kk : ∀ (H : Heap) (locs : List Loc), va_P D vwCl (wX cI ad f a (uA ta 6 (upd (ta 6) i.toNatClampNeg v))) H → va_S (wA 25 ad) H0 H locs → W p l e R s m args below meth c H locs cells slots Q (F0 m (pc + 1) ls rest)) : W p l e R s m args below meth c H locs cells slots Q (F0 m pc ls (.int v :: .int i :: .ref (ad 6) :: rest)) := va_iast E.1 E.2.1 hK hP (wX_D hI) hS 6 0 rfl rfl hi hdg (fun H1 locs1 hP1 _ hS1 => kk H1 locs1 hP1 hS1)
theorem xn_6 {ad : Nat → Nat} {f : Nat → Int32} {a ta : Nat → Nat → Int32} (E : CallFix p m c cc nL s args Ts own) (hK : wK D cI cB s) (hP : va_P D vwCl (wX cI ad f a ta) H) (hdg : decode cc pc = .ok (.arraylength, 1)) (k : W p l e R s m args below meth c H locs cells slots Q (F0 m (pc + 1) ls (.int 6 :: rest))) : W p l e R s m args below meth c H locs cells slots Q (F0 m pc ls (.ref (ad 6) :: rest)) := va_alen (v := 6) E.1 E.2.1 hK hP 6 0 rfl rfl rfl hdg k
theorem xl_7 {ad : Nat → Nat} {f : Nat → Int32} {a ta : Nat → Nat → Int32} {i : Int32} (E : CallFix p m c cc nL s args Ts own) (hK : wK D cI cB s) (hP : va_P D vwCl (wX cI ad f a ta) H) (hi : vp_in i 6) (hdg : decode cc pc = .ok (.iaload, 1)) (k : W p l e R s m args below meth c H locs cells slots Q (F0 m (pc + 1) ls (.int (ta 7 i.toNatClampNeg) :: rest))) : W p l e R s m args below meth c H locs cells slots Q (F0 m pc ls (.int i :: .ref (ad 7) :: rest)) := va_iald E.1 E.2.1 hK hP 7 0 rfl rfl hi hdg k
theorem xs_7 {ad : Nat → Nat} {f : Nat → Int32} {a ta : Nat → Nat → Int32} {i v : Int32} (E : CallFix p m c cc nL s args Ts own) (hK : wK D cI cB s) (hP : va_P D vwCl (wX cI ad f a ta) H) (hI : wI 25 ad) (hS : va_S (wA 25 ad) H0 H locs) (hi : vp_in i 6) (hdg : decode cc pc = .ok (.iastore, 1)) (kk : ∀ (H : Heap) (locs : List Loc), va_P D vwCl (wX cI ad f a (uA ta 7 (upd (ta 7) i.toNatClampNeg v))) H → va_S (wA 25 ad) H0 H locs → W p l e R s m args below meth c H locs cells slots Q (F0 m (pc + 1) ls rest)) : W p l e R s m args below meth c H locs cells slots Q (F0 m pc ls (.int v :: .int i :: .ref (ad 7) :: rest)) := va_iast E.1 E.2.1 hK hP (wX_D hI) hS 7 0 rfl rfl hi hdg (fun H1 locs1 hP1 _ hS1 => kk H1 locs1 hP1 hS1)
theorem xn_7 {ad : Nat → Nat} {f : Nat → Int32} {a ta : Nat → Nat → Int32} (E : CallFix p m c cc nL s args Ts own) (hK : wK D cI cB s) (hP : va_P D vwCl (wX cI ad f a ta) H) (hdg : decode cc pc = .ok (.arraylength, 1)) (k : W p l e R s m args below meth c H locs cells slots Q (F0 m (pc + 1) ls (.int 6 :: rest))) : W p l e R s m args below meth c H locs cells slots Q (F0 m pc ls (.ref (ad 7) :: rest)) := va_alen (v := 6) E.1 E.2.1 hK hP 7 0 rfl rfl rfl hdg k
theorem xl_8 {ad : Nat → Nat} {f : Nat → Int32} {a ta : Nat → Nat → Int32} {i : Int32} (E : CallFix p m c cc nL s args Ts own) (hK : wK D cI cB s) (hP : va_P D vwCl (wX cI ad f a ta) H) (hi : vp_in i 21) (hdg : decode cc pc = .ok (.iaload, 1)) (k : W p l e R s m args below meth c H locs cells slots Q (F0 m (pc + 1) ls (.int (a 8 i.toNatClampNeg) :: rest))) : W p l e R s m args below meth c H locs cells slots Q (F0 m pc ls (.int i :: .ref (ad 8) :: rest)) := va_iald E.1 E.2.1 hK hP 8 0 rfl rfl hi hdg k
theorem xs_8 {ad : Nat → Nat} {f : Nat → Int32} {a ta : Nat → Nat → Int32} {i v : Int32} (E : CallFix p m c cc nL s args Ts own) (hK : wK D cI cB s) (hP : va_P D vwCl (wX cI ad f a ta) H) (hI : wI 25 ad) (hS : va_S (wA 25 ad) H0 H locs) (hi : vp_in i 21) (hdg : decode cc pc = .ok (.iastore, 1)) (kk : ∀ (H : Heap) (locs : List Loc), va_P D vwCl (wX cI ad f (uA a 8 (upd (a 8) i.toNatClampNeg v)) ta) H → va_S (wA 25 ad) H0 H locs → W p l e R s m args below meth c H locs cells slots Q (F0 m (pc + 1) ls rest)) : W p l e R s m args below meth c H locs cells slots Q (F0 m pc ls (.int v :: .int i :: .ref (ad 8) :: rest)) := va_iast E.1 E.2.1 hK hP (wX_D hI) hS 8 0 rfl rfl hi hdg (fun H1 locs1 hP1 _ hS1 => kk H1 locs1 hP1 hS1)
theorem xn_8 {ad : Nat → Nat} {f : Nat → Int32} {a ta : Nat → Nat → Int32} (E : CallFix p m c cc nL s args Ts own) (hK : wK D cI cB s) (hP : va_P D vwCl (wX cI ad f a ta) H) (hdg : decode cc pc = .ok (.arraylength, 1)) (k : W p l e R s m args below meth c H locs cells slots Q (F0 m (pc + 1) ls (.int 21 :: rest))) : W p l e R s m args below meth c H locs cells slots Q (F0 m pc ls (.ref (ad 8) :: rest)) := va_alen (v := 21) E.1 E.2.1 hK hP 8 0 rfl rfl rfl hdg k
theorem xl_9 {ad : Nat → Nat} {f : Nat → Int32} {a ta : Nat → Nat → Int32} {i : Int32} (E : CallFix p m c cc nL s args Ts own) (hK : wK D cI cB s) (hP : va_P D vwCl (wX cI ad f a ta) H) (hi : vp_in i 6) (hdg : decode cc pc = .ok (.iaload, 1)) (k : W p l e R s m args below meth c H locs cells slots Q (F0 m (pc + 1) ls (.int (a 9 i.toNatClampNeg) :: rest))) : W p l e R s m args below meth c H locs cells slots Q (F0 m pc ls (.int i :: .ref (ad 9) :: rest)) := va_iald E.1 E.2.1 hK hP 9 0 rfl rfl hi hdg k
theorem xs_9 {ad : Nat → Nat} {f : Nat → Int32} {a ta : Nat → Nat → Int32} {i v : Int32} (E : CallFix p m c cc nL s args Ts own) (hK : wK D cI cB s) (hP : va_P D vwCl (wX cI ad f a ta) H) (hI : wI 25 ad) (hS : va_S (wA 25 ad) H0 H locs) (hi : vp_in i 6) (hdg : decode cc pc = .ok (.iastore, 1)) (kk : ∀ (H : Heap) (locs : List Loc), va_P D vwCl (wX cI ad f (uA a 9 (upd (a 9) i.toNatClampNeg v)) ta) H → va_S (wA 25 ad) H0 H locs → W p l e R s m args below meth c H locs cells slots Q (F0 m (pc + 1) ls rest)) : W p l e R s m args below meth c H locs cells slots Q (F0 m pc ls (.int v :: .int i :: .ref (ad 9) :: rest)) := va_iast E.1 E.2.1 hK hP (wX_D hI) hS 9 0 rfl rfl hi hdg (fun H1 locs1 hP1 _ hS1 => kk H1 locs1 hP1 hS1)
theorem xn_9 {ad : Nat → Nat} {f : Nat → Int32} {a ta : Nat → Nat → Int32} (E : CallFix p m c cc nL s args Ts own) (hK : wK D cI cB s) (hP : va_P D vwCl (wX cI ad f a ta) H) (hdg : decode cc pc = .ok (.arraylength, 1)) (k : W p l e R s m args below meth c H locs cells slots Q (F0 m (pc + 1) ls (.int 6 :: rest))) : W p l e R s m args below meth c H locs cells slots Q (F0 m pc ls (.ref (ad 9) :: rest)) := va_alen (v := 6) E.1 E.2.1 hK hP 9 0 rfl rfl rfl hdg k
theorem xl_10 {ad : Nat → Nat} {f : Nat → Int32} {a ta : Nat → Nat → Int32} {i : Int32} (E : CallFix p m c cc nL s args Ts own) (hK : wK D cI cB s) (hP : va_P D vwCl (wX cI ad f a ta) H) (hi : vp_in i 6) (hdg : decode cc pc = .ok (.iaload, 1)) (k : W p l e R s m args below meth c H locs cells slots Q (F0 m (pc + 1) ls (.int (a 10 i.toNatClampNeg) :: rest))) : W p l e R s m args below meth c H locs cells slots Q (F0 m pc ls (.int i :: .ref (ad 10) :: rest)) := va_iald E.1 E.2.1 hK hP 10 0 rfl rfl hi hdg k
theorem xs_10 {ad : Nat → Nat} {f : Nat → Int32} {a ta : Nat → Nat → Int32} {i v : Int32} (E : CallFix p m c cc nL s args Ts own) (hK : wK D cI cB s) (hP : va_P D vwCl (wX cI ad f a ta) H) (hI : wI 25 ad) (hS : va_S (wA 25 ad) H0 H locs) (hi : vp_in i 6) (hdg : decode cc pc = .ok (.iastore, 1)) (kk : ∀ (H : Heap) (locs : List Loc), va_P D vwCl (wX cI ad f (uA a 10 (upd (a 10) i.toNatClampNeg v)) ta) H → va_S (wA 25 ad) H0 H locs → W p l e R s m args below meth c H locs cells slots Q (F0 m (pc + 1) ls rest)) : W p l e R s m args below meth c H locs cells slots Q (F0 m pc ls (.int v :: .int i :: .ref (ad 10) :: rest)) := va_iast E.1 E.2.1 hK hP (wX_D hI) hS 10 0 rfl rfl hi hdg (fun H1 locs1 hP1 _ hS1 => kk H1 locs1 hP1 hS1)
theorem xn_10 {ad : Nat → Nat} {f : Nat → Int32} {a ta : Nat → Nat → Int32} (E : CallFix p m c cc nL s args Ts own) (hK : wK D cI cB s) (hP : va_P D vwCl (wX cI ad f a ta) H) (hdg : decode cc pc = .ok (.arraylength, 1)) (k : W p l e R s m args below meth c H locs cells slots Q (F0 m (pc + 1) ls (.int 6 :: rest))) : W p l e R s m args below meth c H locs cells slots Q (F0 m pc ls (.ref (ad 10) :: rest)) := va_alen (v := 6) E.1 E.2.1 hK hP 10 0 rfl rfl rfl hdg k
theorem xl_11 {ad : Nat → Nat} {f : Nat → Int32} {a ta : Nat → Nat → Int32} {i : Int32} (E : CallFix p m c cc nL s args Ts own) (hK : wK D cI cB s) (hP : va_P D vwCl (wX cI ad f a ta) H) (hi : vp_in i 6) (hdg : decode cc pc = .ok (.iaload, 1)) (k : W p l e R s m args below meth c H locs cells slots Q (F0 m (pc + 1) ls (.int (a 11 i.toNatClampNeg) :: rest))) : W p l e R s m args below meth c H locs cells slots Q (F0 m pc ls (.int i :: .ref (ad 11) :: rest)) := va_iald E.1 E.2.1 hK hP 11 0 rfl rfl hi hdg k
theorem xs_11 {ad : Nat → Nat} {f : Nat → Int32} {a ta : Nat → Nat → Int32} {i v : Int32} (E : CallFix p m c cc nL s args Ts own) (hK : wK D cI cB s) (hP : va_P D vwCl (wX cI ad f a ta) H) (hI : wI 25 ad) (hS : va_S (wA 25 ad) H0 H locs) (hi : vp_in i 6) (hdg : decode cc pc = .ok (.iastore, 1)) (kk : ∀ (H : Heap) (locs : List Loc), va_P D vwCl (wX cI ad f (uA a 11 (upd (a 11) i.toNatClampNeg v)) ta) H → va_S (wA 25 ad) H0 H locs → W p l e R s m args below meth c H locs cells slots Q (F0 m (pc + 1) ls rest)) : W p l e R s m args below meth c H locs cells slots Q (F0 m pc ls (.int v :: .int i :: .ref (ad 11) :: rest)) := va_iast E.1 E.2.1 hK hP (wX_D hI) hS 11 0 rfl rfl hi hdg (fun H1 locs1 hP1 _ hS1 => kk H1 locs1 hP1 hS1)
theorem xn_11 {ad : Nat → Nat} {f : Nat → Int32} {a ta : Nat → Nat → Int32} (E : CallFix p m c cc nL s args Ts own) (hK : wK D cI cB s) (hP : va_P D vwCl (wX cI ad f a ta) H) (hdg : decode cc pc = .ok (.arraylength, 1)) (k : W p l e R s m args below meth c H locs cells slots Q (F0 m (pc + 1) ls (.int 6 :: rest))) : W p l e R s m args below meth c H locs cells slots Q (F0 m pc ls (.ref (ad 11) :: rest)) := va_alen (v := 6) E.1 E.2.1 hK hP 11 0 rfl rfl rfl hdg k
theorem xl_12 {ad : Nat → Nat} {f : Nat → Int32} {a ta : Nat → Nat → Int32} {i : Int32} (E : CallFix p m c cc nL s args Ts own) (hK : wK D cI cB s) (hP : va_P D vwCl (wX cI ad f a ta) H) (hi : vp_in i 6) (hdg : decode cc pc = .ok (.iaload, 1)) (k : W p l e R s m args below meth c H locs cells slots Q (F0 m (pc + 1) ls (.int (a 12 i.toNatClampNeg) :: rest))) : W p l e R s m args below meth c H locs cells slots Q (F0 m pc ls (.int i :: .ref (ad 12) :: rest)) := va_iald E.1 E.2.1 hK hP 12 0 rfl rfl hi hdg k
theorem xs_12 {ad : Nat → Nat} {f : Nat → Int32} {a ta : Nat → Nat → Int32} {i v : Int32} (E : CallFix p m c cc nL s args Ts own) (hK : wK D cI cB s) (hP : va_P D vwCl (wX cI ad f a ta) H) (hI : wI 25 ad) (hS : va_S (wA 25 ad) H0 H locs) (hi : vp_in i 6) (hdg : decode cc pc = .ok (.iastore, 1)) (kk : ∀ (H : Heap) (locs : List Loc), va_P D vwCl (wX cI ad f (uA a 12 (upd (a 12) i.toNatClampNeg v)) ta) H → va_S (wA 25 ad) H0 H locs → W p l e R s m args below meth c H locs cells slots Q (F0 m (pc + 1) ls rest)) : W p l e R s m args below meth c H locs cells slots Q (F0 m pc ls (.int v :: .int i :: .ref (ad 12) :: rest)) := va_iast E.1 E.2.1 hK hP (wX_D hI) hS 12 0 rfl rfl hi hdg (fun H1 locs1 hP1 _ hS1 => kk H1 locs1 hP1 hS1)
theorem xn_12 {ad : Nat → Nat} {f : Nat → Int32} {a ta : Nat → Nat → Int32} (E : CallFix p m c cc nL s args Ts own) (hK : wK D cI cB s) (hP : va_P D vwCl (wX cI ad f a ta) H) (hdg : decode cc pc = .ok (.arraylength, 1)) (k : W p l e R s m args below meth c H locs cells slots Q (F0 m (pc + 1) ls (.int 6 :: rest))) : W p l e R s m args below meth c H locs cells slots Q (F0 m pc ls (.ref (ad 12) :: rest)) := va_alen (v := 6) E.1 E.2.1 hK hP 12 0 rfl rfl rfl hdg k
theorem xl_13 {ad : Nat → Nat} {f : Nat → Int32} {a ta : Nat → Nat → Int32} {i : Int32} (E : CallFix p m c cc nL s args Ts own) (hK : wK D cI cB s) (hP : va_P D vwCl (wX cI ad f a ta) H) (hi : vp_in i 6) (hdg : decode cc pc = .ok (.iaload, 1)) (k : W p l e R s m args below meth c H locs cells slots Q (F0 m (pc + 1) ls (.int (a 13 i.toNatClampNeg) :: rest))) : W p l e R s m args below meth c H locs cells slots Q (F0 m pc ls (.int i :: .ref (ad 13) :: rest)) := va_iald E.1 E.2.1 hK hP 13 0 rfl rfl hi hdg k
theorem xs_13 {ad : Nat → Nat} {f : Nat → Int32} {a ta : Nat → Nat → Int32} {i v : Int32} (E : CallFix p m c cc nL s args Ts own) (hK : wK D cI cB s) (hP : va_P D vwCl (wX cI ad f a ta) H) (hI : wI 25 ad) (hS : va_S (wA 25 ad) H0 H locs) (hi : vp_in i 6) (hdg : decode cc pc = .ok (.iastore, 1)) (kk : ∀ (H : Heap) (locs : List Loc), va_P D vwCl (wX cI ad f (uA a 13 (upd (a 13) i.toNatClampNeg v)) ta) H → va_S (wA 25 ad) H0 H locs → W p l e R s m args below meth c H locs cells slots Q (F0 m (pc + 1) ls rest)) : W p l e R s m args below meth c H locs cells slots Q (F0 m pc ls (.int v :: .int i :: .ref (ad 13) :: rest)) := va_iast E.1 E.2.1 hK hP (wX_D hI) hS 13 0 rfl rfl hi hdg (fun H1 locs1 hP1 _ hS1 => kk H1 locs1 hP1 hS1)
theorem xn_13 {ad : Nat → Nat} {f : Nat → Int32} {a ta : Nat → Nat → Int32} (E : CallFix p m c cc nL s args Ts own) (hK : wK D cI cB s) (hP : va_P D vwCl (wX cI ad f a ta) H) (hdg : decode cc pc = .ok (.arraylength, 1)) (k : W p l e R s m args below meth c H locs cells slots Q (F0 m (pc + 1) ls (.int 6 :: rest))) : W p l e R s m args below meth c H locs cells slots Q (F0 m pc ls (.ref (ad 13) :: rest)) := va_alen (v := 6) E.1 E.2.1 hK hP 13 0 rfl rfl rfl hdg k
theorem xl_14 {ad : Nat → Nat} {f : Nat → Int32} {a ta : Nat → Nat → Int32} {i : Int32} (E : CallFix p m c cc nL s args Ts own) (hK : wK D cI cB s) (hP : va_P D vwCl (wX cI ad f a ta) H) (hi : vp_in i 6) (hdg : decode cc pc = .ok (.iaload, 1)) (k : W p l e R s m args below meth c H locs cells slots Q (F0 m (pc + 1) ls (.int (a 14 i.toNatClampNeg) :: rest))) : W p l e R s m args below meth c H locs cells slots Q (F0 m pc ls (.int i :: .ref (ad 14) :: rest)) := va_iald E.1 E.2.1 hK hP 14 0 rfl rfl hi hdg k
theorem xs_14 {ad : Nat → Nat} {f : Nat → Int32} {a ta : Nat → Nat → Int32} {i v : Int32} (E : CallFix p m c cc nL s args Ts own) (hK : wK D cI cB s) (hP : va_P D vwCl (wX cI ad f a ta) H) (hI : wI 25 ad) (hS : va_S (wA 25 ad) H0 H locs) (hi : vp_in i 6) (hdg : decode cc pc = .ok (.iastore, 1)) (kk : ∀ (H : Heap) (locs : List Loc), va_P D vwCl (wX cI ad f (uA a 14 (upd (a 14) i.toNatClampNeg v)) ta) H → va_S (wA 25 ad) H0 H locs → W p l e R s m args below meth c H locs cells slots Q (F0 m (pc + 1) ls rest)) : W p l e R s m args below meth c H locs cells slots Q (F0 m pc ls (.int v :: .int i :: .ref (ad 14) :: rest)) := va_iast E.1 E.2.1 hK hP (wX_D hI) hS 14 0 rfl rfl hi hdg (fun H1 locs1 hP1 _ hS1 => kk H1 locs1 hP1 hS1)
theorem xn_14 {ad : Nat → Nat} {f : Nat → Int32} {a ta : Nat → Nat → Int32} (E : CallFix p m c cc nL s args Ts own) (hK : wK D cI cB s) (hP : va_P D vwCl (wX cI ad f a ta) H) (hdg : decode cc pc = .ok (.arraylength, 1)) (k : W p l e R s m args below meth c H locs cells slots Q (F0 m (pc + 1) ls (.int 6 :: rest))) : W p l e R s m args below meth c H locs cells slots Q (F0 m pc ls (.ref (ad 14) :: rest)) := va_alen (v := 6) E.1 E.2.1 hK hP 14 0 rfl rfl rfl hdg k
theorem xl_15 {ad : Nat → Nat} {f : Nat → Int32} {a ta : Nat → Nat → Int32} {i : Int32} (E : CallFix p m c cc nL s args Ts own) (hK : wK D cI cB s) (hP : va_P D vwCl (wX cI ad f a ta) H) (hi : vp_in i 6) (hdg : decode cc pc = .ok (.iaload, 1)) (k : W p l e R s m args below meth c H locs cells slots Q (F0 m (pc + 1) ls (.int (a 15 i.toNatClampNeg) :: rest))) : W p l e R s m args below meth c H locs cells slots Q (F0 m pc ls (.int i :: .ref (ad 15) :: rest)) := va_iald E.1 E.2.1 hK hP 15 0 rfl rfl hi hdg k
theorem xs_15 {ad : Nat → Nat} {f : Nat → Int32} {a ta : Nat → Nat → Int32} {i v : Int32} (E : CallFix p m c cc nL s args Ts own) (hK : wK D cI cB s) (hP : va_P D vwCl (wX cI ad f a ta) H) (hI : wI 25 ad) (hS : va_S (wA 25 ad) H0 H locs) (hi : vp_in i 6) (hdg : decode cc pc = .ok (.iastore, 1)) (kk : ∀ (H : Heap) (locs : List Loc), va_P D vwCl (wX cI ad f (uA a 15 (upd (a 15) i.toNatClampNeg v)) ta) H → va_S (wA 25 ad) H0 H locs → W p l e R s m args below meth c H locs cells slots Q (F0 m (pc + 1) ls rest)) : W p l e R s m args below meth c H locs cells slots Q (F0 m pc ls (.int v :: .int i :: .ref (ad 15) :: rest)) := va_iast E.1 E.2.1 hK hP (wX_D hI) hS 15 0 rfl rfl hi hdg (fun H1 locs1 hP1 _ hS1 => kk H1 locs1 hP1 hS1)
theorem xn_15 {ad : Nat → Nat} {f : Nat → Int32} {a ta : Nat → Nat → Int32} (E : CallFix p m c cc nL s args Ts own) (hK : wK D cI cB s) (hP : va_P D vwCl (wX cI ad f a ta) H) (hdg : decode cc pc = .ok (.arraylength, 1)) (k : W p l e R s m args below meth c H locs cells slots Q (F0 m (pc + 1) ls (.int 6 :: rest))) : W p l e R s m args below meth c H locs cells slots Q (F0 m pc ls (.ref (ad 15) :: rest)) := va_alen (v := 6) E.1 E.2.1 hK hP 15 0 rfl rfl rfl hdg k
theorem xl_16 {ad : Nat → Nat} {f : Nat → Int32} {a ta : Nat → Nat → Int32} {i : Int32} (E : CallFix p m c cc nL s args Ts own) (hK : wK D cI cB s) (hP : va_P D vwCl (wX cI ad f a ta) H) (hi : vp_in i 6) (hdg : decode cc pc = .ok (.iaload, 1)) (k : W p l e R s m args below meth c H locs cells slots Q (F0 m (pc + 1) ls (.int (a 16 i.toNatClampNeg) :: rest))) : W p l e R s m args below meth c H locs cells slots Q (F0 m pc ls (.int i :: .ref (ad 16) :: rest)) := va_iald E.1 E.2.1 hK hP 16 0 rfl rfl hi hdg k
theorem xs_16 {ad : Nat → Nat} {f : Nat → Int32} {a ta : Nat → Nat → Int32} {i v : Int32} (E : CallFix p m c cc nL s args Ts own) (hK : wK D cI cB s) (hP : va_P D vwCl (wX cI ad f a ta) H) (hI : wI 25 ad) (hS : va_S (wA 25 ad) H0 H locs) (hi : vp_in i 6) (hdg : decode cc pc = .ok (.iastore, 1)) (kk : ∀ (H : Heap) (locs : List Loc), va_P D vwCl (wX cI ad f (uA a 16 (upd (a 16) i.toNatClampNeg v)) ta) H → va_S (wA 25 ad) H0 H locs → W p l e R s m args below meth c H locs cells slots Q (F0 m (pc + 1) ls rest)) : W p l e R s m args below meth c H locs cells slots Q (F0 m pc ls (.int v :: .int i :: .ref (ad 16) :: rest)) := va_iast E.1 E.2.1 hK hP (wX_D hI) hS 16 0 rfl rfl hi hdg (fun H1 locs1 hP1 _ hS1 => kk H1 locs1 hP1 hS1)
theorem xn_16 {ad : Nat → Nat} {f : Nat → Int32} {a ta : Nat → Nat → Int32} (E : CallFix p m c cc nL s args Ts own) (hK : wK D cI cB s) (hP : va_P D vwCl (wX cI ad f a ta) H) (hdg : decode cc pc = .ok (.arraylength, 1)) (k : W p l e R s m args below meth c H locs cells slots Q (F0 m (pc + 1) ls (.int 6 :: rest))) : W p l e R s m args below meth c H locs cells slots Q (F0 m pc ls (.ref (ad 16) :: rest)) := va_alen (v := 6) E.1 E.2.1 hK hP 16 0 rfl rfl rfl hdg k
theorem xl_17 {ad : Nat → Nat} {f : Nat → Int32} {a ta : Nat → Nat → Int32} {i : Int32} (E : CallFix p m c cc nL s args Ts own) (hK : wK D cI cB s) (hP : va_P D vwCl (wX cI ad f a ta) H) (hi : vp_in i 6) (hdg : decode cc pc = .ok (.iaload, 1)) (k : W p l e R s m args below meth c H locs cells slots Q (F0 m (pc + 1) ls (.int (a 17 i.toNatClampNeg) :: rest))) : W p l e R s m args below meth c H locs cells slots Q (F0 m pc ls (.int i :: .ref (ad 17) :: rest)) := va_iald E.1 E.2.1 hK hP 17 0 rfl rfl hi hdg k
theorem xs_17 {ad : Nat → Nat} {f : Nat → Int32} {a ta : Nat → Nat → Int32} {i v : Int32} (E : CallFix p m c cc nL s args Ts own) (hK : wK D cI cB s) (hP : va_P D vwCl (wX cI ad f a ta) H) (hI : wI 25 ad) (hS : va_S (wA 25 ad) H0 H locs) (hi : vp_in i 6) (hdg : decode cc pc = .ok (.iastore, 1)) (kk : ∀ (H : Heap) (locs : List Loc), va_P D vwCl (wX cI ad f (uA a 17 (upd (a 17) i.toNatClampNeg v)) ta) H → va_S (wA 25 ad) H0 H locs → W p l e R s m args below meth c H locs cells slots Q (F0 m (pc + 1) ls rest)) : W p l e R s m args below meth c H locs cells slots Q (F0 m pc ls (.int v :: .int i :: .ref (ad 17) :: rest)) := va_iast E.1 E.2.1 hK hP (wX_D hI) hS 17 0 rfl rfl hi hdg (fun H1 locs1 hP1 _ hS1 => kk H1 locs1 hP1 hS1)
theorem xn_17 {ad : Nat → Nat} {f : Nat → Int32} {a ta : Nat → Nat → Int32} (E : CallFix p m c cc nL s args Ts own) (hK : wK D cI cB s) (hP : va_P D vwCl (wX cI ad f a ta) H) (hdg : decode cc pc = .ok (.arraylength, 1)) (k : W p l e R s m args below meth c H locs cells slots Q (F0 m (pc + 1) ls (.int 6 :: rest))) : W p l e R s m args below meth c H locs cells slots Q (F0 m pc ls (.ref (ad 17) :: rest)) := va_alen (v := 6) E.1 E.2.1 hK hP 17 0 rfl rfl rfl hdg k
theorem xl_18 {ad : Nat → Nat} {f : Nat → Int32} {a ta : Nat → Nat → Int32} {i : Int32} (E : CallFix p m c cc nL s args Ts own) (hK : wK D cI cB s) (hP : va_P D vwCl (wX cI ad f a ta) H) (hi : vp_in i 6) (hdg : decode cc pc = .ok (.iaload, 1)) (k : W p l e R s m args below meth c H locs cells slots Q (F0 m (pc + 1) ls (.int (a 18 i.toNatClampNeg) :: rest))) : W p l e R s m args below meth c H locs cells slots Q (F0 m pc ls (.int i :: .ref (ad 18) :: rest)) := va_iald E.1 E.2.1 hK hP 18 0 rfl rfl hi hdg k
theorem xs_18 {ad : Nat → Nat} {f : Nat → Int32} {a ta : Nat → Nat → Int32} {i v : Int32} (E : CallFix p m c cc nL s args Ts own) (hK : wK D cI cB s) (hP : va_P D vwCl (wX cI ad f a ta) H) (hI : wI 25 ad) (hS : va_S (wA 25 ad) H0 H locs) (hi : vp_in i 6) (hdg : decode cc pc = .ok (.iastore, 1)) (kk : ∀ (H : Heap) (locs : List Loc), va_P D vwCl (wX cI ad f (uA a 18 (upd (a 18) i.toNatClampNeg v)) ta) H → va_S (wA 25 ad) H0 H locs → W p l e R s m args below meth c H locs cells slots Q (F0 m (pc + 1) ls rest)) : W p l e R s m args below meth c H locs cells slots Q (F0 m pc ls (.int v :: .int i :: .ref (ad 18) :: rest)) := va_iast E.1 E.2.1 hK hP (wX_D hI) hS 18 0 rfl rfl hi hdg (fun H1 locs1 hP1 _ hS1 => kk H1 locs1 hP1 hS1)
theorem xn_18 {ad : Nat → Nat} {f : Nat → Int32} {a ta : Nat → Nat → Int32} (E : CallFix p m c cc nL s args Ts own) (hK : wK D cI cB s) (hP : va_P D vwCl (wX cI ad f a ta) H) (hdg : decode cc pc = .ok (.arraylength, 1)) (k : W p l e R s m args below meth c H locs cells slots Q (F0 m (pc + 1) ls (.int 6 :: rest))) : W p l e R s m args below meth c H locs cells slots Q (F0 m pc ls (.ref (ad 18) :: rest)) := va_alen (v := 6) E.1 E.2.1 hK hP 18 0 rfl rfl rfl hdg k
theorem xl_19 {ad : Nat → Nat} {f : Nat → Int32} {a ta : Nat → Nat → Int32} {i : Int32} (E : CallFix p m c cc nL s args Ts own) (hK : wK D cI cB s) (hP : va_P D vwCl (wX cI ad f a ta) H) (hi : vp_in i 6) (hdg : decode cc pc = .ok (.iaload, 1)) (k : W p l e R s m args below meth c H locs cells slots Q (F0 m (pc + 1) ls (.int (a 19 i.toNatClampNeg) :: rest))) : W p l e R s m args below meth c H locs cells slots Q (F0 m pc ls (.int i :: .ref (ad 19) :: rest)) := va_iald E.1 E.2.1 hK hP 19 0 rfl rfl hi hdg k
theorem xs_19 {ad : Nat → Nat} {f : Nat → Int32} {a ta : Nat → Nat → Int32} {i v : Int32} (E : CallFix p m c cc nL s args Ts own) (hK : wK D cI cB s) (hP : va_P D vwCl (wX cI ad f a ta) H) (hI : wI 25 ad) (hS : va_S (wA 25 ad) H0 H locs) (hi : vp_in i 6) (hdg : decode cc pc = .ok (.iastore, 1)) (kk : ∀ (H : Heap) (locs : List Loc), va_P D vwCl (wX cI ad f (uA a 19 (upd (a 19) i.toNatClampNeg v)) ta) H → va_S (wA 25 ad) H0 H locs → W p l e R s m args below meth c H locs cells slots Q (F0 m (pc + 1) ls rest)) : W p l e R s m args below meth c H locs cells slots Q (F0 m pc ls (.int v :: .int i :: .ref (ad 19) :: rest)) := va_iast E.1 E.2.1 hK hP (wX_D hI) hS 19 0 rfl rfl hi hdg (fun H1 locs1 hP1 _ hS1 => kk H1 locs1 hP1 hS1)
theorem xn_19 {ad : Nat → Nat} {f : Nat → Int32} {a ta : Nat → Nat → Int32} (E : CallFix p m c cc nL s args Ts own) (hK : wK D cI cB s) (hP : va_P D vwCl (wX cI ad f a ta) H) (hdg : decode cc pc = .ok (.arraylength, 1)) (k : W p l e R s m args below meth c H locs cells slots Q (F0 m (pc + 1) ls (.int 6 :: rest))) : W p l e R s m args below meth c H locs cells slots Q (F0 m pc ls (.ref (ad 19) :: rest)) := va_alen (v := 6) E.1 E.2.1 hK hP 19 0 rfl rfl rfl hdg k
theorem xl_20 {ad : Nat → Nat} {f : Nat → Int32} {a ta : Nat → Nat → Int32} {i : Int32} (E : CallFix p m c cc nL s args Ts own) (hK : wK D cI cB s) (hP : va_P D vwCl (wX cI ad f a ta) H) (hi : vp_in i 6) (hdg : decode cc pc = .ok (.iaload, 1)) (k : W p l e R s m args below meth c H locs cells slots Q (F0 m (pc + 1) ls (.int (a 20 i.toNatClampNeg) :: rest))) : W p l e R s m args below meth c H locs cells slots Q (F0 m pc ls (.int i :: .ref (ad 20) :: rest)) := va_iald E.1 E.2.1 hK hP 20 0 rfl rfl hi hdg k
theorem xs_20 {ad : Nat → Nat} {f : Nat → Int32} {a ta : Nat → Nat → Int32} {i v : Int32} (E : CallFix p m c cc nL s args Ts own) (hK : wK D cI cB s) (hP : va_P D vwCl (wX cI ad f a ta) H) (hI : wI 25 ad) (hS : va_S (wA 25 ad) H0 H locs) (hi : vp_in i 6) (hdg : decode cc pc = .ok (.iastore, 1)) (kk : ∀ (H : Heap) (locs : List Loc), va_P D vwCl (wX cI ad f (uA a 20 (upd (a 20) i.toNatClampNeg v)) ta) H → va_S (wA 25 ad) H0 H locs → W p l e R s m args below meth c H locs cells slots Q (F0 m (pc + 1) ls rest)) : W p l e R s m args below meth c H locs cells slots Q (F0 m pc ls (.int v :: .int i :: .ref (ad 20) :: rest)) := va_iast E.1 E.2.1 hK hP (wX_D hI) hS 20 0 rfl rfl hi hdg (fun H1 locs1 hP1 _ hS1 => kk H1 locs1 hP1 hS1)
theorem xn_20 {ad : Nat → Nat} {f : Nat → Int32} {a ta : Nat → Nat → Int32} (E : CallFix p m c cc nL s args Ts own) (hK : wK D cI cB s) (hP : va_P D vwCl (wX cI ad f a ta) H) (hdg : decode cc pc = .ok (.arraylength, 1)) (k : W p l e R s m args below meth c H locs cells slots Q (F0 m (pc + 1) ls (.int 6 :: rest))) : W p l e R s m args below meth c H locs cells slots Q (F0 m pc ls (.ref (ad 20) :: rest)) := va_alen (v := 6) E.1 E.2.1 hK hP 20 0 rfl rfl rfl hdg k
theorem xl_21 {ad : Nat → Nat} {f : Nat → Int32} {a ta : Nat → Nat → Int32} {i : Int32} (E : CallFix p m c cc nL s args Ts own) (hK : wK D cI cB s) (hP : va_P D vwCl (wX cI ad f a ta) H) (hi : vp_in i 6) (hdg : decode cc pc = .ok (.iaload, 1)) (k : W p l e R s m args below meth c H locs cells slots Q (F0 m (pc + 1) ls (.int (a 21 i.toNatClampNeg) :: rest))) : W p l e R s m args below meth c H locs cells slots Q (F0 m pc ls (.int i :: .ref (ad 21) :: rest)) := va_iald E.1 E.2.1 hK hP 21 0 rfl rfl hi hdg k
theorem xs_21 {ad : Nat → Nat} {f : Nat → Int32} {a ta : Nat → Nat → Int32} {i v : Int32} (E : CallFix p m c cc nL s args Ts own) (hK : wK D cI cB s) (hP : va_P D vwCl (wX cI ad f a ta) H) (hI : wI 25 ad) (hS : va_S (wA 25 ad) H0 H locs) (hi : vp_in i 6) (hdg : decode cc pc = .ok (.iastore, 1)) (kk : ∀ (H : Heap) (locs : List Loc), va_P D vwCl (wX cI ad f (uA a 21 (upd (a 21) i.toNatClampNeg v)) ta) H → va_S (wA 25 ad) H0 H locs → W p l e R s m args below meth c H locs cells slots Q (F0 m (pc + 1) ls rest)) : W p l e R s m args below meth c H locs cells slots Q (F0 m pc ls (.int v :: .int i :: .ref (ad 21) :: rest)) := va_iast E.1 E.2.1 hK hP (wX_D hI) hS 21 0 rfl rfl hi hdg (fun H1 locs1 hP1 _ hS1 => kk H1 locs1 hP1 hS1)
theorem xn_21 {ad : Nat → Nat} {f : Nat → Int32} {a ta : Nat → Nat → Int32} (E : CallFix p m c cc nL s args Ts own) (hK : wK D cI cB s) (hP : va_P D vwCl (wX cI ad f a ta) H) (hdg : decode cc pc = .ok (.arraylength, 1)) (k : W p l e R s m args below meth c H locs cells slots Q (F0 m (pc + 1) ls (.int 6 :: rest))) : W p l e R s m args below meth c H locs cells slots Q (F0 m pc ls (.ref (ad 21) :: rest)) := va_alen (v := 6) E.1 E.2.1 hK hP 21 0 rfl rfl rfl hdg k
theorem xl_22 {ad : Nat → Nat} {f : Nat → Int32} {a ta : Nat → Nat → Int32} {i : Int32} (E : CallFix p m c cc nL s args Ts own) (hK : wK D cI cB s) (hP : va_P D vwCl (wX cI ad f a ta) H) (hi : vp_in i 6) (hdg : decode cc pc = .ok (.iaload, 1)) (k : W p l e R s m args below meth c H locs cells slots Q (F0 m (pc + 1) ls (.int (a 22 i.toNatClampNeg) :: rest))) : W p l e R s m args below meth c H locs cells slots Q (F0 m pc ls (.int i :: .ref (ad 22) :: rest)) := va_iald E.1 E.2.1 hK hP 22 0 rfl rfl hi hdg k
theorem xs_22 {ad : Nat → Nat} {f : Nat → Int32} {a ta : Nat → Nat → Int32} {i v : Int32} (E : CallFix p m c cc nL s args Ts own) (hK : wK D cI cB s) (hP : va_P D vwCl (wX cI ad f a ta) H) (hI : wI 25 ad) (hS : va_S (wA 25 ad) H0 H locs) (hi : vp_in i 6) (hdg : decode cc pc = .ok (.iastore, 1)) (kk : ∀ (H : Heap) (locs : List Loc), va_P D vwCl (wX cI ad f (uA a 22 (upd (a 22) i.toNatClampNeg v)) ta) H → va_S (wA 25 ad) H0 H locs → W p l e R s m args below meth c H locs cells slots Q (F0 m (pc + 1) ls rest)) : W p l e R s m args below meth c H locs cells slots Q (F0 m pc ls (.int v :: .int i :: .ref (ad 22) :: rest)) := va_iast E.1 E.2.1 hK hP (wX_D hI) hS 22 0 rfl rfl hi hdg (fun H1 locs1 hP1 _ hS1 => kk H1 locs1 hP1 hS1)
theorem xn_22 {ad : Nat → Nat} {f : Nat → Int32} {a ta : Nat → Nat → Int32} (E : CallFix p m c cc nL s args Ts own) (hK : wK D cI cB s) (hP : va_P D vwCl (wX cI ad f a ta) H) (hdg : decode cc pc = .ok (.arraylength, 1)) (k : W p l e R s m args below meth c H locs cells slots Q (F0 m (pc + 1) ls (.int 6 :: rest))) : W p l e R s m args below meth c H locs cells slots Q (F0 m pc ls (.ref (ad 22) :: rest)) := va_alen (v := 6) E.1 E.2.1 hK hP 22 0 rfl rfl rfl hdg k
theorem xl_23 {ad : Nat → Nat} {f : Nat → Int32} {a ta : Nat → Nat → Int32} {i : Int32} (E : CallFix p m c cc nL s args Ts own) (hK : wK D cI cB s) (hP : va_P D vwCl (wX cI ad f a ta) H) (hi : vp_in i 6) (hdg : decode cc pc = .ok (.iaload, 1)) (k : W p l e R s m args below meth c H locs cells slots Q (F0 m (pc + 1) ls (.int (a 23 i.toNatClampNeg) :: rest))) : W p l e R s m args below meth c H locs cells slots Q (F0 m pc ls (.int i :: .ref (ad 23) :: rest)) := va_iald E.1 E.2.1 hK hP 23 0 rfl rfl hi hdg k
theorem xs_23 {ad : Nat → Nat} {f : Nat → Int32} {a ta : Nat → Nat → Int32} {i v : Int32} (E : CallFix p m c cc nL s args Ts own) (hK : wK D cI cB s) (hP : va_P D vwCl (wX cI ad f a ta) H) (hI : wI 25 ad) (hS : va_S (wA 25 ad) H0 H locs) (hi : vp_in i 6) (hdg : decode cc pc = .ok (.iastore, 1)) (kk : ∀ (H : Heap) (locs : List Loc), va_P D vwCl (wX cI ad f (uA a 23 (upd (a 23) i.toNatClampNeg v)) ta) H → va_S (wA 25 ad) H0 H locs → W p l e R s m args below meth c H locs cells slots Q (F0 m (pc + 1) ls rest)) : W p l e R s m args below meth c H locs cells slots Q (F0 m pc ls (.int v :: .int i :: .ref (ad 23) :: rest)) := va_iast E.1 E.2.1 hK hP (wX_D hI) hS 23 0 rfl rfl hi hdg (fun H1 locs1 hP1 _ hS1 => kk H1 locs1 hP1 hS1)
theorem xn_23 {ad : Nat → Nat} {f : Nat → Int32} {a ta : Nat → Nat → Int32} (E : CallFix p m c cc nL s args Ts own) (hK : wK D cI cB s) (hP : va_P D vwCl (wX cI ad f a ta) H) (hdg : decode cc pc = .ok (.arraylength, 1)) (k : W p l e R s m args below meth c H locs cells slots Q (F0 m (pc + 1) ls (.int 6 :: rest))) : W p l e R s m args below meth c H locs cells slots Q (F0 m pc ls (.ref (ad 23) :: rest)) := va_alen (v := 6) E.1 E.2.1 hK hP 23 0 rfl rfl rfl hdg k
theorem xl_24 {ad : Nat → Nat} {f : Nat → Int32} {a ta : Nat → Nat → Int32} {i : Int32} (E : CallFix p m c cc nL s args Ts own) (hK : wK D cI cB s) (hP : va_P D vwCl (wX cI ad f a ta) H) (hi : vp_in i 6) (hdg : decode cc pc = .ok (.iaload, 1)) (k : W p l e R s m args below meth c H locs cells slots Q (F0 m (pc + 1) ls (.int (a 24 i.toNatClampNeg) :: rest))) : W p l e R s m args below meth c H locs cells slots Q (F0 m pc ls (.int i :: .ref (ad 24) :: rest)) := va_iald E.1 E.2.1 hK hP 24 0 rfl rfl hi hdg k
theorem xs_24 {ad : Nat → Nat} {f : Nat → Int32} {a ta : Nat → Nat → Int32} {i v : Int32} (E : CallFix p m c cc nL s args Ts own) (hK : wK D cI cB s) (hP : va_P D vwCl (wX cI ad f a ta) H) (hI : wI 25 ad) (hS : va_S (wA 25 ad) H0 H locs) (hi : vp_in i 6) (hdg : decode cc pc = .ok (.iastore, 1)) (kk : ∀ (H : Heap) (locs : List Loc), va_P D vwCl (wX cI ad f (uA a 24 (upd (a 24) i.toNatClampNeg v)) ta) H → va_S (wA 25 ad) H0 H locs → W p l e R s m args below meth c H locs cells slots Q (F0 m (pc + 1) ls rest)) : W p l e R s m args below meth c H locs cells slots Q (F0 m pc ls (.int v :: .int i :: .ref (ad 24) :: rest)) := va_iast E.1 E.2.1 hK hP (wX_D hI) hS 24 0 rfl rfl hi hdg (fun H1 locs1 hP1 _ hS1 => kk H1 locs1 hP1 hS1)
theorem xn_24 {ad : Nat → Nat} {f : Nat → Int32} {a ta : Nat → Nat → Int32} (E : CallFix p m c cc nL s args Ts own) (hK : wK D cI cB s) (hP : va_P D vwCl (wX cI ad f a ta) H) (hdg : decode cc pc = .ok (.arraylength, 1)) (k : W p l e R s m args below meth c H locs cells slots Q (F0 m (pc + 1) ls (.int 6 :: rest))) : W p l e R s m args below meth c H locs cells slots Q (F0 m pc ls (.ref (ad 24) :: rest)) := va_alen (v := 6) E.1 E.2.1 hK hP 24 0 rfl rfl rfl hdg k
theorem mg_0_0 {ad : Nat → Nat} {g t : Nat → Int32} {gl : Nat → Int64} {b tb : Nat → Nat → Int32} (E : CallFix p m c cc nL s args Ts own) (hK : wK D cI cB s) (hP : va_P D vwCl (wM cI cB ad g t gl b tb) H) (hin : ∀ w ∈ wsX30, w ∈ Ts) {idx : Nat} (hl0 : (Cond.fieldLink own idx "SnowTermModel" "cities" "I").before args s = true) (hdg : decode cc pc = .ok (.getfield idx, 3)) (k : W p l e R s m args below meth c H locs cells slots Q (F0 m (pc + 3) ls (.int (g 0) :: rest))) : W p l e R s m args below meth c H locs cells slots Q (F0 m pc ls (.ref (ad 0) :: rest)) := va_get E.1 E.2.1 E.2.2.2.2 hin E.2.2.2.1 hK hP 0 rfl rfl 0 (by decide) hl0 (fun _ h => h) rfl hdg k
theorem mp_0_0 {ad : Nat → Nat} {g t : Nat → Int32} {gl : Nat → Int64} {b tb : Nat → Nat → Int32} {v : Int32} (E : CallFix p m c cc nL s args Ts own) (hK : wK D cI cB s) (hP : va_P D vwCl (wM cI cB ad g t gl b tb) H) (hin : ∀ w ∈ wsX30, w ∈ Ts) {idx : Nat} (hl0 : (Cond.fieldLink own idx "SnowTermModel" "cities" "I").before args s = true) (hI : wI 20 ad) (hS : va_S (wA 20 ad) H0 H locs) (hdg : decode cc pc = .ok (.putfield idx, 3)) (kk : ∀ (H : Heap) (locs : List Loc), va_P D vwCl (wM cI cB ad (upd g 0 v) t gl b tb) H → va_S (wA 20 ad) H0 H locs → W p l e R s m args below meth c H locs cells slots Q (F0 m (pc + 3) ls rest)) : W p l e R s m args below meth c H locs cells slots Q (F0 m pc ls (.int v :: .ref (ad 0) :: rest)) := va_put (v := .int v) (ty := .int) E.1 E.2.1 E.2.2.2.2 hin tyX3 tyX3_ok nmX3 E.2.2.2.1 hK hP (wM_D hI) hS 0 rfl rfl 0 (by decide) hl0 (fun _ h => h) rfl (by decide +kernel) rfl rfl (Nat.le_of_ble_eq_true rfl) hdg (fun H1 locs1 hP1 _ hS1 => kk H1 locs1 hP1 hS1)
theorem mg_0_1 {ad : Nat → Nat} {g t : Nat → Int32} {gl : Nat → Int64} {b tb : Nat → Nat → Int32} (E : CallFix p m c cc nL s args Ts own) (hK : wK D cI cB s) (hP : va_P D vwCl (wM cI cB ad g t gl b tb) H) (hin : ∀ w ∈ wsX30, w ∈ Ts) {idx : Nat} (hl0 : (Cond.fieldLink own idx "SnowTermModel" "sites" "I").before args s = true) (hdg : decode cc pc = .ok (.getfield idx, 3)) (k : W p l e R s m args below meth c H locs cells slots Q (F0 m (pc + 3) ls (.int (g 1) :: rest))) : W p l e R s m args below meth c H locs cells slots Q (F0 m pc ls (.ref (ad 0) :: rest)) := va_get E.1 E.2.1 E.2.2.2.2 hin E.2.2.2.1 hK hP 0 rfl rfl 1 (by decide) hl0 (fun _ h => h) rfl hdg k
theorem mp_0_1 {ad : Nat → Nat} {g t : Nat → Int32} {gl : Nat → Int64} {b tb : Nat → Nat → Int32} {v : Int32} (E : CallFix p m c cc nL s args Ts own) (hK : wK D cI cB s) (hP : va_P D vwCl (wM cI cB ad g t gl b tb) H) (hin : ∀ w ∈ wsX30, w ∈ Ts) {idx : Nat} (hl0 : (Cond.fieldLink own idx "SnowTermModel" "sites" "I").before args s = true) (hI : wI 20 ad) (hS : va_S (wA 20 ad) H0 H locs) (hdg : decode cc pc = .ok (.putfield idx, 3)) (kk : ∀ (H : Heap) (locs : List Loc), va_P D vwCl (wM cI cB ad (upd g 1 v) t gl b tb) H → va_S (wA 20 ad) H0 H locs → W p l e R s m args below meth c H locs cells slots Q (F0 m (pc + 3) ls rest)) : W p l e R s m args below meth c H locs cells slots Q (F0 m pc ls (.int v :: .ref (ad 0) :: rest)) := va_put (v := .int v) (ty := .int) E.1 E.2.1 E.2.2.2.2 hin tyX3 tyX3_ok nmX3 E.2.2.2.1 hK hP (wM_D hI) hS 0 rfl rfl 1 (by decide) hl0 (fun _ h => h) rfl (by decide +kernel) rfl rfl (Nat.le_of_ble_eq_true rfl) hdg (fun H1 locs1 hP1 _ hS1 => kk H1 locs1 hP1 hS1)
theorem mg_0_2 {ad : Nat → Nat} {g t : Nat → Int32} {gl : Nat → Int64} {b tb : Nat → Nat → Int32} (E : CallFix p m c cc nL s args Ts own) (hK : wK D cI cB s) (hP : va_P D vwCl (wM cI cB ad g t gl b tb) H) (hin : ∀ w ∈ wsX30, w ∈ Ts) {idx : Nat} (hl0 : (Cond.fieldLink own idx "SnowTermModel" "kindOf" "[I").before args s = true) (hdg : decode cc pc = .ok (.getfield idx, 3)) (k : W p l e R s m args below meth c H locs cells slots Q (F0 m (pc + 3) ls (.ref (ad 1) :: rest))) : W p l e R s m args below meth c H locs cells slots Q (F0 m pc ls (.ref (ad 0) :: rest)) := va_get E.1 E.2.1 E.2.2.2.2 hin E.2.2.2.1 hK hP 0 rfl rfl 2 (by decide) hl0 (fun _ h => h) rfl hdg k
theorem mg_0_3 {ad : Nat → Nat} {g t : Nat → Int32} {gl : Nat → Int64} {b tb : Nat → Nat → Int32} (E : CallFix p m c cc nL s args Ts own) (hK : wK D cI cB s) (hP : va_P D vwCl (wM cI cB ad g t gl b tb) H) (hin : ∀ w ∈ wsX30, w ∈ Ts) {idx : Nat} (hl0 : (Cond.fieldLink own idx "SnowTermModel" "wantOf" "[I").before args s = true) (hdg : decode cc pc = .ok (.getfield idx, 3)) (k : W p l e R s m args below meth c H locs cells slots Q (F0 m (pc + 3) ls (.ref (ad 2) :: rest))) : W p l e R s m args below meth c H locs cells slots Q (F0 m pc ls (.ref (ad 0) :: rest)) := va_get E.1 E.2.1 E.2.2.2.2 hin E.2.2.2.1 hK hP 0 rfl rfl 3 (by decide) hl0 (fun _ h => h) rfl hdg k
theorem mg_0_4 {ad : Nat → Nat} {g t : Nat → Int32} {gl : Nat → Int64} {b tb : Nat → Nat → Int32} (E : CallFix p m c cc nL s args Ts own) (hK : wK D cI cB s) (hP : va_P D vwCl (wM cI cB ad g t gl b tb) H) (hin : ∀ w ∈ wsX30, w ∈ Ts) {idx : Nat} (hl0 : (Cond.fieldLink own idx "SnowTermModel" "deepOf" "[I").before args s = true) (hdg : decode cc pc = .ok (.getfield idx, 3)) (k : W p l e R s m args below meth c H locs cells slots Q (F0 m (pc + 3) ls (.ref (ad 3) :: rest))) : W p l e R s m args below meth c H locs cells slots Q (F0 m pc ls (.ref (ad 0) :: rest)) := va_get E.1 E.2.1 E.2.2.2.2 hin E.2.2.2.1 hK hP 0 rfl rfl 4 (by decide) hl0 (fun _ h => h) rfl hdg k
theorem mg_0_5 {ad : Nat → Nat} {g t : Nat → Int32} {gl : Nat → Int64} {b tb : Nat → Nat → Int32} (E : CallFix p m c cc nL s args Ts own) (hK : wK D cI cB s) (hP : va_P D vwCl (wM cI cB ad g t gl b tb) H) (hin : ∀ w ∈ wsX30, w ∈ Ts) {idx : Nat} (hl0 : (Cond.fieldLink own idx "SnowTermModel" "startOf" "[I").before args s = true) (hdg : decode cc pc = .ok (.getfield idx, 3)) (k : W p l e R s m args below meth c H locs cells slots Q (F0 m (pc + 3) ls (.ref (ad 4) :: rest))) : W p l e R s m args below meth c H locs cells slots Q (F0 m pc ls (.ref (ad 0) :: rest)) := va_get E.1 E.2.1 E.2.2.2.2 hin E.2.2.2.1 hK hP 0 rfl rfl 5 (by decide) hl0 (fun _ h => h) rfl hdg k
theorem mg_0_6 {ad : Nat → Nat} {g t : Nat → Int32} {gl : Nat → Int64} {b tb : Nat → Nat → Int32} (E : CallFix p m c cc nL s args Ts own) (hK : wK D cI cB s) (hP : va_P D vwCl (wM cI cB ad g t gl b tb) H) (hin : ∀ w ∈ wsX30, w ∈ Ts) {idx : Nat} (hl0 : (Cond.fieldLink own idx "SnowTermModel" "broughtTo" "[I").before args s = true) (hdg : decode cc pc = .ok (.getfield idx, 3)) (k : W p l e R s m args below meth c H locs cells slots Q (F0 m (pc + 3) ls (.ref (ad 5) :: rest))) : W p l e R s m args below meth c H locs cells slots Q (F0 m pc ls (.ref (ad 0) :: rest)) := va_get E.1 E.2.1 E.2.2.2.2 hin E.2.2.2.1 hK hP 0 rfl rfl 6 (by decide) hl0 (fun _ h => h) rfl hdg k
theorem mg_0_7 {ad : Nat → Nat} {g t : Nat → Int32} {gl : Nat → Int64} {b tb : Nat → Nat → Int32} (E : CallFix p m c cc nL s args Ts own) (hK : wK D cI cB s) (hP : va_P D vwCl (wM cI cB ad g t gl b tb) H) (hin : ∀ w ∈ wsX30, w ∈ Ts) {idx : Nat} (hl0 : (Cond.fieldLink own idx "SnowTermModel" "feetOf" "[I").before args s = true) (hdg : decode cc pc = .ok (.getfield idx, 3)) (k : W p l e R s m args below meth c H locs cells slots Q (F0 m (pc + 3) ls (.ref (ad 6) :: rest))) : W p l e R s m args below meth c H locs cells slots Q (F0 m pc ls (.ref (ad 0) :: rest)) := va_get E.1 E.2.1 E.2.2.2.2 hin E.2.2.2.1 hK hP 0 rfl rfl 7 (by decide) hl0 (fun _ h => h) rfl hdg k
theorem mg_0_8 {ad : Nat → Nat} {g t : Nat → Int32} {gl : Nat → Int64} {b tb : Nat → Nat → Int32} (E : CallFix p m c cc nL s args Ts own) (hK : wK D cI cB s) (hP : va_P D vwCl (wM cI cB ad g t gl b tb) H) (hin : ∀ w ∈ wsX30, w ∈ Ts) {idx : Nat} (hl0 : (Cond.fieldLink own idx "SnowTermModel" "sunNow" "I").before args s = true) (hdg : decode cc pc = .ok (.getfield idx, 3)) (k : W p l e R s m args below meth c H locs cells slots Q (F0 m (pc + 3) ls (.int (g 8) :: rest))) : W p l e R s m args below meth c H locs cells slots Q (F0 m pc ls (.ref (ad 0) :: rest)) := va_get E.1 E.2.1 E.2.2.2.2 hin E.2.2.2.1 hK hP 0 rfl rfl 8 (by decide) hl0 (fun _ h => h) rfl hdg k
theorem mp_0_8 {ad : Nat → Nat} {g t : Nat → Int32} {gl : Nat → Int64} {b tb : Nat → Nat → Int32} {v : Int32} (E : CallFix p m c cc nL s args Ts own) (hK : wK D cI cB s) (hP : va_P D vwCl (wM cI cB ad g t gl b tb) H) (hin : ∀ w ∈ wsX30, w ∈ Ts) {idx : Nat} (hl0 : (Cond.fieldLink own idx "SnowTermModel" "sunNow" "I").before args s = true) (hI : wI 20 ad) (hS : va_S (wA 20 ad) H0 H locs) (hdg : decode cc pc = .ok (.putfield idx, 3)) (kk : ∀ (H : Heap) (locs : List Loc), va_P D vwCl (wM cI cB ad (upd g 8 v) t gl b tb) H → va_S (wA 20 ad) H0 H locs → W p l e R s m args below meth c H locs cells slots Q (F0 m (pc + 3) ls rest)) : W p l e R s m args below meth c H locs cells slots Q (F0 m pc ls (.int v :: .ref (ad 0) :: rest)) := va_put (v := .int v) (ty := .int) E.1 E.2.1 E.2.2.2.2 hin tyX3 tyX3_ok nmX3 E.2.2.2.1 hK hP (wM_D hI) hS 0 rfl rfl 8 (by decide) hl0 (fun _ h => h) rfl (by decide +kernel) rfl rfl (Nat.le_of_ble_eq_true rfl) hdg (fun H1 locs1 hP1 _ hS1 => kk H1 locs1 hP1 hS1)
theorem mg_0_9 {ad : Nat → Nat} {g t : Nat → Int32} {gl : Nat → Int64} {b tb : Nat → Nat → Int32} (E : CallFix p m c cc nL s args Ts own) (hK : wK D cI cB s) (hP : va_P D vwCl (wM cI cB ad g t gl b tb) H) (hin : ∀ w ∈ wsX30, w ∈ Ts) {idx : Nat} (hl0 : (Cond.fieldLink own idx "SnowTermModel" "days" "I").before args s = true) (hdg : decode cc pc = .ok (.getfield idx, 3)) (k : W p l e R s m args below meth c H locs cells slots Q (F0 m (pc + 3) ls (.int (g 9) :: rest))) : W p l e R s m args below meth c H locs cells slots Q (F0 m pc ls (.ref (ad 0) :: rest)) := va_get E.1 E.2.1 E.2.2.2.2 hin E.2.2.2.1 hK hP 0 rfl rfl 9 (by decide) hl0 (fun _ h => h) rfl hdg k
theorem mp_0_9 {ad : Nat → Nat} {g t : Nat → Int32} {gl : Nat → Int64} {b tb : Nat → Nat → Int32} {v : Int32} (E : CallFix p m c cc nL s args Ts own) (hK : wK D cI cB s) (hP : va_P D vwCl (wM cI cB ad g t gl b tb) H) (hin : ∀ w ∈ wsX30, w ∈ Ts) {idx : Nat} (hl0 : (Cond.fieldLink own idx "SnowTermModel" "days" "I").before args s = true) (hI : wI 20 ad) (hS : va_S (wA 20 ad) H0 H locs) (hdg : decode cc pc = .ok (.putfield idx, 3)) (kk : ∀ (H : Heap) (locs : List Loc), va_P D vwCl (wM cI cB ad (upd g 9 v) t gl b tb) H → va_S (wA 20 ad) H0 H locs → W p l e R s m args below meth c H locs cells slots Q (F0 m (pc + 3) ls rest)) : W p l e R s m args below meth c H locs cells slots Q (F0 m pc ls (.int v :: .ref (ad 0) :: rest)) := va_put (v := .int v) (ty := .int) E.1 E.2.1 E.2.2.2.2 hin tyX3 tyX3_ok nmX3 E.2.2.2.1 hK hP (wM_D hI) hS 0 rfl rfl 9 (by decide) hl0 (fun _ h => h) rfl (by decide +kernel) rfl rfl (Nat.le_of_ble_eq_true rfl) hdg (fun H1 locs1 hP1 _ hS1 => kk H1 locs1 hP1 hS1)
theorem mg_0_10 {ad : Nat → Nat} {g t : Nat → Int32} {gl : Nat → Int64} {b tb : Nat → Nat → Int32} (E : CallFix p m c cc nL s args Ts own) (hK : wK D cI cB s) (hP : va_P D vwCl (wM cI cB ad g t gl b tb) H) (hin : ∀ w ∈ wsX30, w ∈ Ts) {idx : Nat} (hl0 : (Cond.fieldLink own idx "SnowTermModel" "praise" "I").before args s = true) (hdg : decode cc pc = .ok (.getfield idx, 3)) (k : W p l e R s m args below meth c H locs cells slots Q (F0 m (pc + 3) ls (.int (g 10) :: rest))) : W p l e R s m args below meth c H locs cells slots Q (F0 m pc ls (.ref (ad 0) :: rest)) := va_get E.1 E.2.1 E.2.2.2.2 hin E.2.2.2.1 hK hP 0 rfl rfl 10 (by decide) hl0 (fun _ h => h) rfl hdg k
theorem mp_0_10 {ad : Nat → Nat} {g t : Nat → Int32} {gl : Nat → Int64} {b tb : Nat → Nat → Int32} {v : Int32} (E : CallFix p m c cc nL s args Ts own) (hK : wK D cI cB s) (hP : va_P D vwCl (wM cI cB ad g t gl b tb) H) (hin : ∀ w ∈ wsX30, w ∈ Ts) {idx : Nat} (hl0 : (Cond.fieldLink own idx "SnowTermModel" "praise" "I").before args s = true) (hI : wI 20 ad) (hS : va_S (wA 20 ad) H0 H locs) (hdg : decode cc pc = .ok (.putfield idx, 3)) (kk : ∀ (H : Heap) (locs : List Loc), va_P D vwCl (wM cI cB ad (upd g 10 v) t gl b tb) H → va_S (wA 20 ad) H0 H locs → W p l e R s m args below meth c H locs cells slots Q (F0 m (pc + 3) ls rest)) : W p l e R s m args below meth c H locs cells slots Q (F0 m pc ls (.int v :: .ref (ad 0) :: rest)) := va_put (v := .int v) (ty := .int) E.1 E.2.1 E.2.2.2.2 hin tyX3 tyX3_ok nmX3 E.2.2.2.1 hK hP (wM_D hI) hS 0 rfl rfl 10 (by decide) hl0 (fun _ h => h) rfl (by decide +kernel) rfl rfl (Nat.le_of_ble_eq_true rfl) hdg (fun H1 locs1 hP1 _ hS1 => kk H1 locs1 hP1 hS1)
theorem mg_0_11 {ad : Nat → Nat} {g t : Nat → Int32} {gl : Nat → Int64} {b tb : Nat → Nat → Int32} (E : CallFix p m c cc nL s args Ts own) (hK : wK D cI cB s) (hP : va_P D vwCl (wM cI cB ad g t gl b tb) H) (hin : ∀ w ∈ wsX30, w ∈ Ts) {idx : Nat} (hl0 : (Cond.fieldLink own idx "SnowTermModel" "cost" "I").before args s = true) (hdg : decode cc pc = .ok (.getfield idx, 3)) (k : W p l e R s m args below meth c H locs cells slots Q (F0 m (pc + 3) ls (.int (g 11) :: rest))) : W p l e R s m args below meth c H locs cells slots Q (F0 m pc ls (.ref (ad 0) :: rest)) := va_get E.1 E.2.1 E.2.2.2.2 hin E.2.2.2.1 hK hP 0 rfl rfl 11 (by decide) hl0 (fun _ h => h) rfl hdg k
theorem mp_0_11 {ad : Nat → Nat} {g t : Nat → Int32} {gl : Nat → Int64} {b tb : Nat → Nat → Int32} {v : Int32} (E : CallFix p m c cc nL s args Ts own) (hK : wK D cI cB s) (hP : va_P D vwCl (wM cI cB ad g t gl b tb) H) (hin : ∀ w ∈ wsX30, w ∈ Ts) {idx : Nat} (hl0 : (Cond.fieldLink own idx "SnowTermModel" "cost" "I").before args s = true) (hI : wI 20 ad) (hS : va_S (wA 20 ad) H0 H locs) (hdg : decode cc pc = .ok (.putfield idx, 3)) (kk : ∀ (H : Heap) (locs : List Loc), va_P D vwCl (wM cI cB ad (upd g 11 v) t gl b tb) H → va_S (wA 20 ad) H0 H locs → W p l e R s m args below meth c H locs cells slots Q (F0 m (pc + 3) ls rest)) : W p l e R s m args below meth c H locs cells slots Q (F0 m pc ls (.int v :: .ref (ad 0) :: rest)) := va_put (v := .int v) (ty := .int) E.1 E.2.1 E.2.2.2.2 hin tyX3 tyX3_ok nmX3 E.2.2.2.1 hK hP (wM_D hI) hS 0 rfl rfl 11 (by decide) hl0 (fun _ h => h) rfl (by decide +kernel) rfl rfl (Nat.le_of_ble_eq_true rfl) hdg (fun H1 locs1 hP1 _ hS1 => kk H1 locs1 hP1 hS1)
theorem mg_0_12 {ad : Nat → Nat} {g t : Nat → Int32} {gl : Nat → Int64} {b tb : Nat → Nat → Int32} (E : CallFix p m c cc nL s args Ts own) (hK : wK D cI cB s) (hP : va_P D vwCl (wM cI cB ad g t gl b tb) H) (hin : ∀ w ∈ wsX30, w ∈ Ts) {idx : Nat} (hl0 : (Cond.fieldLink own idx "SnowTermModel" "found" "I").before args s = true) (hdg : decode cc pc = .ok (.getfield idx, 3)) (k : W p l e R s m args below meth c H locs cells slots Q (F0 m (pc + 3) ls (.int (g 12) :: rest))) : W p l e R s m args below meth c H locs cells slots Q (F0 m pc ls (.ref (ad 0) :: rest)) := va_get E.1 E.2.1 E.2.2.2.2 hin E.2.2.2.1 hK hP 0 rfl rfl 12 (by decide) hl0 (fun _ h => h) rfl hdg k
theorem mp_0_12 {ad : Nat → Nat} {g t : Nat → Int32} {gl : Nat → Int64} {b tb : Nat → Nat → Int32} {v : Int32} (E : CallFix p m c cc nL s args Ts own) (hK : wK D cI cB s) (hP : va_P D vwCl (wM cI cB ad g t gl b tb) H) (hin : ∀ w ∈ wsX30, w ∈ Ts) {idx : Nat} (hl0 : (Cond.fieldLink own idx "SnowTermModel" "found" "I").before args s = true) (hI : wI 20 ad) (hS : va_S (wA 20 ad) H0 H locs) (hdg : decode cc pc = .ok (.putfield idx, 3)) (kk : ∀ (H : Heap) (locs : List Loc), va_P D vwCl (wM cI cB ad (upd g 12 v) t gl b tb) H → va_S (wA 20 ad) H0 H locs → W p l e R s m args below meth c H locs cells slots Q (F0 m (pc + 3) ls rest)) : W p l e R s m args below meth c H locs cells slots Q (F0 m pc ls (.int v :: .ref (ad 0) :: rest)) := va_put (v := .int v) (ty := .int) E.1 E.2.1 E.2.2.2.2 hin tyX3 tyX3_ok nmX3 E.2.2.2.1 hK hP (wM_D hI) hS 0 rfl rfl 12 (by decide) hl0 (fun _ h => h) rfl (by decide +kernel) rfl rfl (Nat.le_of_ble_eq_true rfl) hdg (fun H1 locs1 hP1 _ hS1 => kk H1 locs1 hP1 hS1)
theorem mg_0_13 {ad : Nat → Nat} {g t : Nat → Int32} {gl : Nat → Int64} {b tb : Nat → Nat → Int32} (E : CallFix p m c cc nL s args Ts own) (hK : wK D cI cB s) (hP : va_P D vwCl (wM cI cB ad g t gl b tb) H) (hin : ∀ w ∈ wsX30, w ∈ Ts) {idx : Nat} (hl0 : (Cond.fieldLink own idx "SnowTermModel" "foundSite" "[I").before args s = true) (hdg : decode cc pc = .ok (.getfield idx, 3)) (k : W p l e R s m args below meth c H locs cells slots Q (F0 m (pc + 3) ls (.ref (ad 7) :: rest))) : W p l e R s m args below meth c H locs cells slots Q (F0 m pc ls (.ref (ad 0) :: rest)) := va_get E.1 E.2.1 E.2.2.2.2 hin E.2.2.2.1 hK hP 0 rfl rfl 13 (by decide) hl0 (fun _ h => h) rfl hdg k
theorem mg_0_14 {ad : Nat → Nat} {g t : Nat → Int32} {gl : Nat → Int64} {b tb : Nat → Nat → Int32} (E : CallFix p m c cc nL s args Ts own) (hK : wK D cI cB s) (hP : va_P D vwCl (wM cI cB ad g t gl b tb) H) (hin : ∀ w ∈ wsX30, w ∈ Ts) {idx : Nat} (hl0 : (Cond.fieldLink own idx "SnowTermModel" "foundDeep" "[I").before args s = true) (hdg : decode cc pc = .ok (.getfield idx, 3)) (k : W p l e R s m args below meth c H locs cells slots Q (F0 m (pc + 3) ls (.ref (ad 8) :: rest))) : W p l e R s m args below meth c H locs cells slots Q (F0 m pc ls (.ref (ad 0) :: rest)) := va_get E.1 E.2.1 E.2.2.2.2 hin E.2.2.2.1 hK hP 0 rfl rfl 14 (by decide) hl0 (fun _ h => h) rfl hdg k
theorem mg_0_15 {ad : Nat → Nat} {g t : Nat → Int32} {gl : Nat → Int64} {b tb : Nat → Nat → Int32} (E : CallFix p m c cc nL s args Ts own) (hK : wK D cI cB s) (hP : va_P D vwCl (wM cI cB ad g t gl b tb) H) (hin : ∀ w ∈ wsX30, w ∈ Ts) {idx : Nat} (hl0 : (Cond.fieldLink own idx "SnowTermModel" "foundLeft" "[I").before args s = true) (hdg : decode cc pc = .ok (.getfield idx, 3)) (k : W p l e R s m args below meth c H locs cells slots Q (F0 m (pc + 3) ls (.ref (ad 9) :: rest))) : W p l e R s m args below meth c H locs cells slots Q (F0 m pc ls (.ref (ad 0) :: rest)) := va_get E.1 E.2.1 E.2.2.2.2 hin E.2.2.2.1 hK hP 0 rfl rfl 15 (by decide) hl0 (fun _ h => h) rfl hdg k
theorem mg_0_16 {ad : Nat → Nat} {g t : Nat → Int32} {gl : Nat → Int64} {b tb : Nat → Nat → Int32} (E : CallFix p m c cc nL s args Ts own) (hK : wK D cI cB s) (hP : va_P D vwCl (wM cI cB ad g t gl b tb) H) (hin : ∀ w ∈ wsX30, w ∈ Ts) {idx : Nat} (hl0 : (Cond.fieldLink own idx "SnowTermModel" "pageLength" "I").before args s = true) (hdg : decode cc pc = .ok (.getfield idx, 3)) (k : W p l e R s m args below meth c H locs cells slots Q (F0 m (pc + 3) ls (.int (g 16) :: rest))) : W p l e R s m args below meth c H locs cells slots Q (F0 m pc ls (.ref (ad 0) :: rest)) := va_get E.1 E.2.1 E.2.2.2.2 hin E.2.2.2.1 hK hP 0 rfl rfl 16 (by decide) hl0 (fun _ h => h) rfl hdg k
theorem mp_0_16 {ad : Nat → Nat} {g t : Nat → Int32} {gl : Nat → Int64} {b tb : Nat → Nat → Int32} {v : Int32} (E : CallFix p m c cc nL s args Ts own) (hK : wK D cI cB s) (hP : va_P D vwCl (wM cI cB ad g t gl b tb) H) (hin : ∀ w ∈ wsX30, w ∈ Ts) {idx : Nat} (hl0 : (Cond.fieldLink own idx "SnowTermModel" "pageLength" "I").before args s = true) (hI : wI 20 ad) (hS : va_S (wA 20 ad) H0 H locs) (hdg : decode cc pc = .ok (.putfield idx, 3)) (kk : ∀ (H : Heap) (locs : List Loc), va_P D vwCl (wM cI cB ad (upd g 16 v) t gl b tb) H → va_S (wA 20 ad) H0 H locs → W p l e R s m args below meth c H locs cells slots Q (F0 m (pc + 3) ls rest)) : W p l e R s m args below meth c H locs cells slots Q (F0 m pc ls (.int v :: .ref (ad 0) :: rest)) := va_put (v := .int v) (ty := .int) E.1 E.2.1 E.2.2.2.2 hin tyX3 tyX3_ok nmX3 E.2.2.2.1 hK hP (wM_D hI) hS 0 rfl rfl 16 (by decide) hl0 (fun _ h => h) rfl (by decide +kernel) rfl rfl (Nat.le_of_ble_eq_true rfl) hdg (fun H1 locs1 hP1 _ hS1 => kk H1 locs1 hP1 hS1)
theorem mg_0_17 {ad : Nat → Nat} {g t : Nat → Int32} {gl : Nat → Int64} {b tb : Nat → Nat → Int32} (E : CallFix p m c cc nL s args Ts own) (hK : wK D cI cB s) (hP : va_P D vwCl (wM cI cB ad g t gl b tb) H) (hin : ∀ w ∈ wsX30, w ∈ Ts) {idx : Nat} (hl0 : (Cond.fieldLink own idx "SnowTermModel" "page" "[B").before args s = true) (hdg : decode cc pc = .ok (.getfield idx, 3)) (k : W p l e R s m args below meth c H locs cells slots Q (F0 m (pc + 3) ls (.ref (ad 10) :: rest))) : W p l e R s m args below meth c H locs cells slots Q (F0 m pc ls (.ref (ad 0) :: rest)) := va_get E.1 E.2.1 E.2.2.2.2 hin E.2.2.2.1 hK hP 0 rfl rfl 17 (by decide) hl0 (fun _ h => h) rfl hdg k
theorem mg_0_18 {ad : Nat → Nat} {g t : Nat → Int32} {gl : Nat → Int64} {b tb : Nat → Nat → Int32} (E : CallFix p m c cc nL s args Ts own) (hK : wK D cI cB s) (hP : va_P D vwCl (wM cI cB ad g t gl b tb) H) (hin : ∀ w ∈ wsX30, w ∈ Ts) {idx : Nat} (hl0 : (Cond.fieldLink own idx "SnowTermModel" "isWhole" "Z").before args s = true) (hdg : decode cc pc = .ok (.getfield idx, 3)) (k : W p l e R s m args below meth c H locs cells slots Q (F0 m (pc + 3) ls (.int (t 18) :: rest))) : W p l e R s m args below meth c H locs cells slots Q (F0 m pc ls (.ref (ad 0) :: rest)) := va_get E.1 E.2.1 E.2.2.2.2 hin E.2.2.2.1 hK hP 0 rfl rfl 18 (by decide) hl0 (fun _ h => h) rfl hdg k
theorem mp_0_18 {ad : Nat → Nat} {g t : Nat → Int32} {gl : Nat → Int64} {b tb : Nat → Nat → Int32} {v : Int32} (E : CallFix p m c cc nL s args Ts own) (hK : wK D cI cB s) (hP : va_P D vwCl (wM cI cB ad g t gl b tb) H) (hin : ∀ w ∈ wsX30, w ∈ Ts) {idx : Nat} (hl0 : (Cond.fieldLink own idx "SnowTermModel" "isWhole" "Z").before args s = true) (hI : wI 20 ad) (hS : va_S (wA 20 ad) H0 H locs) (hn : narrow .boolean (.int v) = .int v) (hft : fits .boolean (.int v) = true) (hdg : decode cc pc = .ok (.putfield idx, 3)) (kk : ∀ (H : Heap) (locs : List Loc), va_P D vwCl (wM cI cB ad g (upd t 18 v) gl b tb) H → va_S (wA 20 ad) H0 H locs → W p l e R s m args below meth c H locs cells slots Q (F0 m (pc + 3) ls rest)) : W p l e R s m args below meth c H locs cells slots Q (F0 m pc ls (.int v :: .ref (ad 0) :: rest)) := va_put (v := .int v) (ty := .boolean) E.1 E.2.1 E.2.2.2.2 hin tyX3 tyX3_ok nmX3 E.2.2.2.1 hK hP (wM_D hI) hS 0 rfl rfl 18 (by decide) hl0 (fun _ h => h) rfl (by decide +kernel) hn hft (Nat.le_of_ble_eq_true rfl) hdg (fun H1 locs1 hP1 _ hS1 => kk H1 locs1 hP1 hS1)
theorem mg_0_19 {ad : Nat → Nat} {g t : Nat → Int32} {gl : Nat → Int64} {b tb : Nat → Nat → Int32} (E : CallFix p m c cc nL s args Ts own) (hK : wK D cI cB s) (hP : va_P D vwCl (wM cI cB ad g t gl b tb) H) (hin : ∀ w ∈ wsX30, w ∈ Ts) {idx : Nat} (hl0 : (Cond.fieldLink own idx "SnowTermModel" "newMany" "I").before args s = true) (hdg : decode cc pc = .ok (.getfield idx, 3)) (k : W p l e R s m args below meth c H locs cells slots Q (F0 m (pc + 3) ls (.int (t 19) :: rest))) : W p l e R s m args below meth c H locs cells slots Q (F0 m pc ls (.ref (ad 0) :: rest)) := va_get E.1 E.2.1 E.2.2.2.2 hin E.2.2.2.1 hK hP 0 rfl rfl 19 (by decide) hl0 (fun _ h => h) rfl hdg k
theorem mp_0_19 {ad : Nat → Nat} {g t : Nat → Int32} {gl : Nat → Int64} {b tb : Nat → Nat → Int32} {v : Int32} (E : CallFix p m c cc nL s args Ts own) (hK : wK D cI cB s) (hP : va_P D vwCl (wM cI cB ad g t gl b tb) H) (hin : ∀ w ∈ wsX30, w ∈ Ts) {idx : Nat} (hl0 : (Cond.fieldLink own idx "SnowTermModel" "newMany" "I").before args s = true) (hI : wI 20 ad) (hS : va_S (wA 20 ad) H0 H locs) (hdg : decode cc pc = .ok (.putfield idx, 3)) (kk : ∀ (H : Heap) (locs : List Loc), va_P D vwCl (wM cI cB ad g (upd t 19 v) gl b tb) H → va_S (wA 20 ad) H0 H locs → W p l e R s m args below meth c H locs cells slots Q (F0 m (pc + 3) ls rest)) : W p l e R s m args below meth c H locs cells slots Q (F0 m pc ls (.int v :: .ref (ad 0) :: rest)) := va_put (v := .int v) (ty := .int) E.1 E.2.1 E.2.2.2.2 hin tyX3 tyX3_ok nmX3 E.2.2.2.1 hK hP (wM_D hI) hS 0 rfl rfl 19 (by decide) hl0 (fun _ h => h) rfl (by decide +kernel) rfl rfl (Nat.le_of_ble_eq_true rfl) hdg (fun H1 locs1 hP1 _ hS1 => kk H1 locs1 hP1 hS1)
theorem mg_0_20 {ad : Nat → Nat} {g t : Nat → Int32} {gl : Nat → Int64} {b tb : Nat → Nat → Int32} (E : CallFix p m c cc nL s args Ts own) (hK : wK D cI cB s) (hP : va_P D vwCl (wM cI cB ad g t gl b tb) H) (hin : ∀ w ∈ wsX30, w ∈ Ts) {idx : Nat} (hl0 : (Cond.fieldLink own idx "SnowTermModel" "needs" "[I").before args s = true) (hdg : decode cc pc = .ok (.getfield idx, 3)) (k : W p l e R s m args below meth c H locs cells slots Q (F0 m (pc + 3) ls (.ref (ad 11) :: rest))) : W p l e R s m args below meth c H locs cells slots Q (F0 m pc ls (.ref (ad 0) :: rest)) := va_get E.1 E.2.1 E.2.2.2.2 hin E.2.2.2.1 hK hP 0 rfl rfl 20 (by decide) hl0 (fun _ h => h) rfl hdg k
theorem mg_0_21 {ad : Nat → Nat} {g t : Nat → Int32} {gl : Nat → Int64} {b tb : Nat → Nat → Int32} (E : CallFix p m c cc nL s args Ts own) (hK : wK D cI cB s) (hP : va_P D vwCl (wM cI cB ad g t gl b tb) H) (hin : ∀ w ∈ wsX30, w ∈ Ts) {idx : Nat} (hl0 : (Cond.fieldLink own idx "SnowTermModel" "setLoads" "I").before args s = true) (hdg : decode cc pc = .ok (.getfield idx, 3)) (k : W p l e R s m args below meth c H locs cells slots Q (F0 m (pc + 3) ls (.int (t 21) :: rest))) : W p l e R s m args below meth c H locs cells slots Q (F0 m pc ls (.ref (ad 0) :: rest)) := va_get E.1 E.2.1 E.2.2.2.2 hin E.2.2.2.1 hK hP 0 rfl rfl 21 (by decide) hl0 (fun _ h => h) rfl hdg k
theorem mp_0_21 {ad : Nat → Nat} {g t : Nat → Int32} {gl : Nat → Int64} {b tb : Nat → Nat → Int32} {v : Int32} (E : CallFix p m c cc nL s args Ts own) (hK : wK D cI cB s) (hP : va_P D vwCl (wM cI cB ad g t gl b tb) H) (hin : ∀ w ∈ wsX30, w ∈ Ts) {idx : Nat} (hl0 : (Cond.fieldLink own idx "SnowTermModel" "setLoads" "I").before args s = true) (hI : wI 20 ad) (hS : va_S (wA 20 ad) H0 H locs) (hdg : decode cc pc = .ok (.putfield idx, 3)) (kk : ∀ (H : Heap) (locs : List Loc), va_P D vwCl (wM cI cB ad g (upd t 21 v) gl b tb) H → va_S (wA 20 ad) H0 H locs → W p l e R s m args below meth c H locs cells slots Q (F0 m (pc + 3) ls rest)) : W p l e R s m args below meth c H locs cells slots Q (F0 m pc ls (.int v :: .ref (ad 0) :: rest)) := va_put (v := .int v) (ty := .int) E.1 E.2.1 E.2.2.2.2 hin tyX3 tyX3_ok nmX3 E.2.2.2.1 hK hP (wM_D hI) hS 0 rfl rfl 21 (by decide) hl0 (fun _ h => h) rfl (by decide +kernel) rfl rfl (Nat.le_of_ble_eq_true rfl) hdg (fun H1 locs1 hP1 _ hS1 => kk H1 locs1 hP1 hS1)
theorem mg_0_22 {ad : Nat → Nat} {g t : Nat → Int32} {gl : Nat → Int64} {b tb : Nat → Nat → Int32} (E : CallFix p m c cc nL s args Ts own) (hK : wK D cI cB s) (hP : va_P D vwCl (wM cI cB ad g t gl b tb) H) (hin : ∀ w ∈ wsX30, w ∈ Ts) {idx : Nat} (hl0 : (Cond.fieldLink own idx "SnowTermModel" "setCost" "I").before args s = true) (hdg : decode cc pc = .ok (.getfield idx, 3)) (k : W p l e R s m args below meth c H locs cells slots Q (F0 m (pc + 3) ls (.int (t 22) :: rest))) : W p l e R s m args below meth c H locs cells slots Q (F0 m pc ls (.ref (ad 0) :: rest)) := va_get E.1 E.2.1 E.2.2.2.2 hin E.2.2.2.1 hK hP 0 rfl rfl 22 (by decide) hl0 (fun _ h => h) rfl hdg k
theorem mp_0_22 {ad : Nat → Nat} {g t : Nat → Int32} {gl : Nat → Int64} {b tb : Nat → Nat → Int32} {v : Int32} (E : CallFix p m c cc nL s args Ts own) (hK : wK D cI cB s) (hP : va_P D vwCl (wM cI cB ad g t gl b tb) H) (hin : ∀ w ∈ wsX30, w ∈ Ts) {idx : Nat} (hl0 : (Cond.fieldLink own idx "SnowTermModel" "setCost" "I").before args s = true) (hI : wI 20 ad) (hS : va_S (wA 20 ad) H0 H locs) (hdg : decode cc pc = .ok (.putfield idx, 3)) (kk : ∀ (H : Heap) (locs : List Loc), va_P D vwCl (wM cI cB ad g (upd t 22 v) gl b tb) H → va_S (wA 20 ad) H0 H locs → W p l e R s m args below meth c H locs cells slots Q (F0 m (pc + 3) ls rest)) : W p l e R s m args below meth c H locs cells slots Q (F0 m pc ls (.int v :: .ref (ad 0) :: rest)) := va_put (v := .int v) (ty := .int) E.1 E.2.1 E.2.2.2.2 hin tyX3 tyX3_ok nmX3 E.2.2.2.1 hK hP (wM_D hI) hS 0 rfl rfl 22 (by decide) hl0 (fun _ h => h) rfl (by decide +kernel) rfl rfl (Nat.le_of_ble_eq_true rfl) hdg (fun H1 locs1 hP1 _ hS1 => kk H1 locs1 hP1 hS1)
theorem mg_0_23 {ad : Nat → Nat} {g t : Nat → Int32} {gl : Nat → Int64} {b tb : Nat → Nat → Int32} (E : CallFix p m c cc nL s args Ts own) (hK : wK D cI cB s) (hP : va_P D vwCl (wM cI cB ad g t gl b tb) H) (hin : ∀ w ∈ wsX30, w ∈ Ts) {idx : Nat} (hl0 : (Cond.fieldLink own idx "SnowTermModel" "seedNow" "J").before args s = true) (hdg : decode cc pc = .ok (.getfield idx, 3)) (k : W p l e R s m args below meth c H locs cells slots Q (F0 m (pc + 3) ls (.long (gl 23) :: rest))) : W p l e R s m args below meth c H locs cells slots Q (F0 m pc ls (.ref (ad 0) :: rest)) := va_get E.1 E.2.1 E.2.2.2.2 hin E.2.2.2.1 hK hP 0 rfl rfl 23 (by decide) hl0 (fun _ h => h) rfl hdg k
theorem mp_0_23 {ad : Nat → Nat} {g t : Nat → Int32} {gl : Nat → Int64} {b tb : Nat → Nat → Int32} {v : Int64} (E : CallFix p m c cc nL s args Ts own) (hK : wK D cI cB s) (hP : va_P D vwCl (wM cI cB ad g t gl b tb) H) (hin : ∀ w ∈ wsX30, w ∈ Ts) {idx : Nat} (hl0 : (Cond.fieldLink own idx "SnowTermModel" "seedNow" "J").before args s = true) (hI : wI 20 ad) (hS : va_S (wA 20 ad) H0 H locs) (hdg : decode cc pc = .ok (.putfield idx, 3)) (kk : ∀ (H : Heap) (locs : List Loc), va_P D vwCl (wM cI cB ad g t (uL gl 23 v) b tb) H → va_S (wA 20 ad) H0 H locs → W p l e R s m args below meth c H locs cells slots Q (F0 m (pc + 3) ls rest)) : W p l e R s m args below meth c H locs cells slots Q (F0 m pc ls (.long v :: .ref (ad 0) :: rest)) := va_put (v := .long v) (ty := .long) E.1 E.2.1 E.2.2.2.2 hin tyX3 tyX3_ok nmX3 E.2.2.2.1 hK hP (wM_D hI) hS 0 rfl rfl 23 (by decide) hl0 (fun _ h => h) rfl (by decide +kernel) rfl rfl (Nat.le_of_ble_eq_true rfl) hdg (fun H1 locs1 hP1 _ hS1 => kk H1 locs1 hP1 hS1)
theorem mg_0_24 {ad : Nat → Nat} {g t : Nat → Int32} {gl : Nat → Int64} {b tb : Nat → Nat → Int32} (E : CallFix p m c cc nL s args Ts own) (hK : wK D cI cB s) (hP : va_P D vwCl (wM cI cB ad g t gl b tb) H) (hin : ∀ w ∈ wsX30, w ∈ Ts) {idx : Nat} (hl0 : (Cond.fieldLink own idx "SnowTermModel" "savedDeep" "[I").before args s = true) (hdg : decode cc pc = .ok (.getfield idx, 3)) (k : W p l e R s m args below meth c H locs cells slots Q (F0 m (pc + 3) ls (.ref (ad 12) :: rest))) : W p l e R s m args below meth c H locs cells slots Q (F0 m pc ls (.ref (ad 0) :: rest)) := va_get E.1 E.2.1 E.2.2.2.2 hin E.2.2.2.1 hK hP 0 rfl rfl 24 (by decide) hl0 (fun _ h => h) rfl hdg k
theorem mg_0_25 {ad : Nat → Nat} {g t : Nat → Int32} {gl : Nat → Int64} {b tb : Nat → Nat → Int32} (E : CallFix p m c cc nL s args Ts own) (hK : wK D cI cB s) (hP : va_P D vwCl (wM cI cB ad g t gl b tb) H) (hin : ∀ w ∈ wsX30, w ∈ Ts) {idx : Nat} (hl0 : (Cond.fieldLink own idx "SnowTermModel" "isImage" "Z").before args s = true) (hdg : decode cc pc = .ok (.getfield idx, 3)) (k : W p l e R s m args below meth c H locs cells slots Q (F0 m (pc + 3) ls (.int (g 25) :: rest))) : W p l e R s m args below meth c H locs cells slots Q (F0 m pc ls (.ref (ad 0) :: rest)) := va_get E.1 E.2.1 E.2.2.2.2 hin E.2.2.2.1 hK hP 0 rfl rfl 25 (by decide) hl0 (fun _ h => h) rfl hdg k
theorem mp_0_25 {ad : Nat → Nat} {g t : Nat → Int32} {gl : Nat → Int64} {b tb : Nat → Nat → Int32} {v : Int32} (E : CallFix p m c cc nL s args Ts own) (hK : wK D cI cB s) (hP : va_P D vwCl (wM cI cB ad g t gl b tb) H) (hin : ∀ w ∈ wsX30, w ∈ Ts) {idx : Nat} (hl0 : (Cond.fieldLink own idx "SnowTermModel" "isImage" "Z").before args s = true) (hI : wI 20 ad) (hS : va_S (wA 20 ad) H0 H locs) (hn : narrow .boolean (.int v) = .int v) (hft : fits .boolean (.int v) = true) (hdg : decode cc pc = .ok (.putfield idx, 3)) (kk : ∀ (H : Heap) (locs : List Loc), va_P D vwCl (wM cI cB ad (upd g 25 v) t gl b tb) H → va_S (wA 20 ad) H0 H locs → W p l e R s m args below meth c H locs cells slots Q (F0 m (pc + 3) ls rest)) : W p l e R s m args below meth c H locs cells slots Q (F0 m pc ls (.int v :: .ref (ad 0) :: rest)) := va_put (v := .int v) (ty := .boolean) E.1 E.2.1 E.2.2.2.2 hin tyX3 tyX3_ok nmX3 E.2.2.2.1 hK hP (wM_D hI) hS 0 rfl rfl 25 (by decide) hl0 (fun _ h => h) rfl (by decide +kernel) hn hft (Nat.le_of_ble_eq_true rfl) hdg (fun H1 locs1 hP1 _ hS1 => kk H1 locs1 hP1 hS1)
theorem mg_0_26 {ad : Nat → Nat} {g t : Nat → Int32} {gl : Nat → Int64} {b tb : Nat → Nat → Int32} (E : CallFix p m c cc nL s args Ts own) (hK : wK D cI cB s) (hP : va_P D vwCl (wM cI cB ad g t gl b tb) H) (hin : ∀ w ∈ wsX30, w ∈ Ts) {idx : Nat} (hl0 : (Cond.fieldLink own idx "SnowTermModel" "keptCity" "I").before args s = true) (hdg : decode cc pc = .ok (.getfield idx, 3)) (k : W p l e R s m args below meth c H locs cells slots Q (F0 m (pc + 3) ls (.int (g 26) :: rest))) : W p l e R s m args below meth c H locs cells slots Q (F0 m pc ls (.ref (ad 0) :: rest)) := va_get E.1 E.2.1 E.2.2.2.2 hin E.2.2.2.1 hK hP 0 rfl rfl 26 (by decide) hl0 (fun _ h => h) rfl hdg k
theorem mp_0_26 {ad : Nat → Nat} {g t : Nat → Int32} {gl : Nat → Int64} {b tb : Nat → Nat → Int32} {v : Int32} (E : CallFix p m c cc nL s args Ts own) (hK : wK D cI cB s) (hP : va_P D vwCl (wM cI cB ad g t gl b tb) H) (hin : ∀ w ∈ wsX30, w ∈ Ts) {idx : Nat} (hl0 : (Cond.fieldLink own idx "SnowTermModel" "keptCity" "I").before args s = true) (hI : wI 20 ad) (hS : va_S (wA 20 ad) H0 H locs) (hdg : decode cc pc = .ok (.putfield idx, 3)) (kk : ∀ (H : Heap) (locs : List Loc), va_P D vwCl (wM cI cB ad (upd g 26 v) t gl b tb) H → va_S (wA 20 ad) H0 H locs → W p l e R s m args below meth c H locs cells slots Q (F0 m (pc + 3) ls rest)) : W p l e R s m args below meth c H locs cells slots Q (F0 m pc ls (.int v :: .ref (ad 0) :: rest)) := va_put (v := .int v) (ty := .int) E.1 E.2.1 E.2.2.2.2 hin tyX3 tyX3_ok nmX3 E.2.2.2.1 hK hP (wM_D hI) hS 0 rfl rfl 26 (by decide) hl0 (fun _ h => h) rfl (by decide +kernel) rfl rfl (Nat.le_of_ble_eq_true rfl) hdg (fun H1 locs1 hP1 _ hS1 => kk H1 locs1 hP1 hS1)
theorem mg_0_27 {ad : Nat → Nat} {g t : Nat → Int32} {gl : Nat → Int64} {b tb : Nat → Nat → Int32} (E : CallFix p m c cc nL s args Ts own) (hK : wK D cI cB s) (hP : va_P D vwCl (wM cI cB ad g t gl b tb) H) (hin : ∀ w ∈ wsX30, w ∈ Ts) {idx : Nat} (hl0 : (Cond.fieldLink own idx "SnowTermModel" "keptSun" "I").before args s = true) (hdg : decode cc pc = .ok (.getfield idx, 3)) (k : W p l e R s m args below meth c H locs cells slots Q (F0 m (pc + 3) ls (.int (g 27) :: rest))) : W p l e R s m args below meth c H locs cells slots Q (F0 m pc ls (.ref (ad 0) :: rest)) := va_get E.1 E.2.1 E.2.2.2.2 hin E.2.2.2.1 hK hP 0 rfl rfl 27 (by decide) hl0 (fun _ h => h) rfl hdg k
theorem mp_0_27 {ad : Nat → Nat} {g t : Nat → Int32} {gl : Nat → Int64} {b tb : Nat → Nat → Int32} {v : Int32} (E : CallFix p m c cc nL s args Ts own) (hK : wK D cI cB s) (hP : va_P D vwCl (wM cI cB ad g t gl b tb) H) (hin : ∀ w ∈ wsX30, w ∈ Ts) {idx : Nat} (hl0 : (Cond.fieldLink own idx "SnowTermModel" "keptSun" "I").before args s = true) (hI : wI 20 ad) (hS : va_S (wA 20 ad) H0 H locs) (hdg : decode cc pc = .ok (.putfield idx, 3)) (kk : ∀ (H : Heap) (locs : List Loc), va_P D vwCl (wM cI cB ad (upd g 27 v) t gl b tb) H → va_S (wA 20 ad) H0 H locs → W p l e R s m args below meth c H locs cells slots Q (F0 m (pc + 3) ls rest)) : W p l e R s m args below meth c H locs cells slots Q (F0 m pc ls (.int v :: .ref (ad 0) :: rest)) := va_put (v := .int v) (ty := .int) E.1 E.2.1 E.2.2.2.2 hin tyX3 tyX3_ok nmX3 E.2.2.2.1 hK hP (wM_D hI) hS 0 rfl rfl 27 (by decide) hl0 (fun _ h => h) rfl (by decide +kernel) rfl rfl (Nat.le_of_ble_eq_true rfl) hdg (fun H1 locs1 hP1 _ hS1 => kk H1 locs1 hP1 hS1)
theorem mg_0_28 {ad : Nat → Nat} {g t : Nat → Int32} {gl : Nat → Int64} {b tb : Nat → Nat → Int32} (E : CallFix p m c cc nL s args Ts own) (hK : wK D cI cB s) (hP : va_P D vwCl (wM cI cB ad g t gl b tb) H) (hin : ∀ w ∈ wsX30, w ∈ Ts) {idx : Nat} (hl0 : (Cond.fieldLink own idx "SnowTermModel" "keptDays" "I").before args s = true) (hdg : decode cc pc = .ok (.getfield idx, 3)) (k : W p l e R s m args below meth c H locs cells slots Q (F0 m (pc + 3) ls (.int (g 28) :: rest))) : W p l e R s m args below meth c H locs cells slots Q (F0 m pc ls (.ref (ad 0) :: rest)) := va_get E.1 E.2.1 E.2.2.2.2 hin E.2.2.2.1 hK hP 0 rfl rfl 28 (by decide) hl0 (fun _ h => h) rfl hdg k
theorem mp_0_28 {ad : Nat → Nat} {g t : Nat → Int32} {gl : Nat → Int64} {b tb : Nat → Nat → Int32} {v : Int32} (E : CallFix p m c cc nL s args Ts own) (hK : wK D cI cB s) (hP : va_P D vwCl (wM cI cB ad g t gl b tb) H) (hin : ∀ w ∈ wsX30, w ∈ Ts) {idx : Nat} (hl0 : (Cond.fieldLink own idx "SnowTermModel" "keptDays" "I").before args s = true) (hI : wI 20 ad) (hS : va_S (wA 20 ad) H0 H locs) (hdg : decode cc pc = .ok (.putfield idx, 3)) (kk : ∀ (H : Heap) (locs : List Loc), va_P D vwCl (wM cI cB ad (upd g 28 v) t gl b tb) H → va_S (wA 20 ad) H0 H locs → W p l e R s m args below meth c H locs cells slots Q (F0 m (pc + 3) ls rest)) : W p l e R s m args below meth c H locs cells slots Q (F0 m pc ls (.int v :: .ref (ad 0) :: rest)) := va_put (v := .int v) (ty := .int) E.1 E.2.1 E.2.2.2.2 hin tyX3 tyX3_ok nmX3 E.2.2.2.1 hK hP (wM_D hI) hS 0 rfl rfl 28 (by decide) hl0 (fun _ h => h) rfl (by decide +kernel) rfl rfl (Nat.le_of_ble_eq_true rfl) hdg (fun H1 locs1 hP1 _ hS1 => kk H1 locs1 hP1 hS1)
theorem mg_0_29 {ad : Nat → Nat} {g t : Nat → Int32} {gl : Nat → Int64} {b tb : Nat → Nat → Int32} (E : CallFix p m c cc nL s args Ts own) (hK : wK D cI cB s) (hP : va_P D vwCl (wM cI cB ad g t gl b tb) H) (hin : ∀ w ∈ wsX30, w ∈ Ts) {idx : Nat} (hl0 : (Cond.fieldLink own idx "SnowTermModel" "keptPraise" "I").before args s = true) (hdg : decode cc pc = .ok (.getfield idx, 3)) (k : W p l e R s m args below meth c H locs cells slots Q (F0 m (pc + 3) ls (.int (g 29) :: rest))) : W p l e R s m args below meth c H locs cells slots Q (F0 m pc ls (.ref (ad 0) :: rest)) := va_get E.1 E.2.1 E.2.2.2.2 hin E.2.2.2.1 hK hP 0 rfl rfl 29 (by decide) hl0 (fun _ h => h) rfl hdg k
theorem mp_0_29 {ad : Nat → Nat} {g t : Nat → Int32} {gl : Nat → Int64} {b tb : Nat → Nat → Int32} {v : Int32} (E : CallFix p m c cc nL s args Ts own) (hK : wK D cI cB s) (hP : va_P D vwCl (wM cI cB ad g t gl b tb) H) (hin : ∀ w ∈ wsX30, w ∈ Ts) {idx : Nat} (hl0 : (Cond.fieldLink own idx "SnowTermModel" "keptPraise" "I").before args s = true) (hI : wI 20 ad) (hS : va_S (wA 20 ad) H0 H locs) (hdg : decode cc pc = .ok (.putfield idx, 3)) (kk : ∀ (H : Heap) (locs : List Loc), va_P D vwCl (wM cI cB ad (upd g 29 v) t gl b tb) H → va_S (wA 20 ad) H0 H locs → W p l e R s m args below meth c H locs cells slots Q (F0 m (pc + 3) ls rest)) : W p l e R s m args below meth c H locs cells slots Q (F0 m pc ls (.int v :: .ref (ad 0) :: rest)) := va_put (v := .int v) (ty := .int) E.1 E.2.1 E.2.2.2.2 hin tyX3 tyX3_ok nmX3 E.2.2.2.1 hK hP (wM_D hI) hS 0 rfl rfl 29 (by decide) hl0 (fun _ h => h) rfl (by decide +kernel) rfl rfl (Nat.le_of_ble_eq_true rfl) hdg (fun H1 locs1 hP1 _ hS1 => kk H1 locs1 hP1 hS1)
theorem mg_0_30 {ad : Nat → Nat} {g t : Nat → Int32} {gl : Nat → Int64} {b tb : Nat → Nat → Int32} (E : CallFix p m c cc nL s args Ts own) (hK : wK D cI cB s) (hP : va_P D vwCl (wM cI cB ad g t gl b tb) H) (hin : ∀ w ∈ wsX30, w ∈ Ts) {idx : Nat} (hl0 : (Cond.fieldLink own idx "SnowTermModel" "keptCost" "I").before args s = true) (hdg : decode cc pc = .ok (.getfield idx, 3)) (k : W p l e R s m args below meth c H locs cells slots Q (F0 m (pc + 3) ls (.int (g 30) :: rest))) : W p l e R s m args below meth c H locs cells slots Q (F0 m pc ls (.ref (ad 0) :: rest)) := va_get E.1 E.2.1 E.2.2.2.2 hin E.2.2.2.1 hK hP 0 rfl rfl 30 (by decide) hl0 (fun _ h => h) rfl hdg k
theorem mp_0_30 {ad : Nat → Nat} {g t : Nat → Int32} {gl : Nat → Int64} {b tb : Nat → Nat → Int32} {v : Int32} (E : CallFix p m c cc nL s args Ts own) (hK : wK D cI cB s) (hP : va_P D vwCl (wM cI cB ad g t gl b tb) H) (hin : ∀ w ∈ wsX30, w ∈ Ts) {idx : Nat} (hl0 : (Cond.fieldLink own idx "SnowTermModel" "keptCost" "I").before args s = true) (hI : wI 20 ad) (hS : va_S (wA 20 ad) H0 H locs) (hdg : decode cc pc = .ok (.putfield idx, 3)) (kk : ∀ (H : Heap) (locs : List Loc), va_P D vwCl (wM cI cB ad (upd g 30 v) t gl b tb) H → va_S (wA 20 ad) H0 H locs → W p l e R s m args below meth c H locs cells slots Q (F0 m (pc + 3) ls rest)) : W p l e R s m args below meth c H locs cells slots Q (F0 m pc ls (.int v :: .ref (ad 0) :: rest)) := va_put (v := .int v) (ty := .int) E.1 E.2.1 E.2.2.2.2 hin tyX3 tyX3_ok nmX3 E.2.2.2.1 hK hP (wM_D hI) hS 0 rfl rfl 30 (by decide) hl0 (fun _ h => h) rfl (by decide +kernel) rfl rfl (Nat.le_of_ble_eq_true rfl) hdg (fun H1 locs1 hP1 _ hS1 => kk H1 locs1 hP1 hS1)
theorem mg_0_31 {ad : Nat → Nat} {g t : Nat → Int32} {gl : Nat → Int64} {b tb : Nat → Nat → Int32} (E : CallFix p m c cc nL s args Ts own) (hK : wK D cI cB s) (hP : va_P D vwCl (wM cI cB ad g t gl b tb) H) (hin : ∀ w ∈ wsX30, w ∈ Ts) {idx : Nat} (hl0 : (Cond.fieldLink own idx "SnowTermModel" "keptFound" "I").before args s = true) (hdg : decode cc pc = .ok (.getfield idx, 3)) (k : W p l e R s m args below meth c H locs cells slots Q (F0 m (pc + 3) ls (.int (g 31) :: rest))) : W p l e R s m args below meth c H locs cells slots Q (F0 m pc ls (.ref (ad 0) :: rest)) := va_get E.1 E.2.1 E.2.2.2.2 hin E.2.2.2.1 hK hP 0 rfl rfl 31 (by decide) hl0 (fun _ h => h) rfl hdg k
theorem mp_0_31 {ad : Nat → Nat} {g t : Nat → Int32} {gl : Nat → Int64} {b tb : Nat → Nat → Int32} {v : Int32} (E : CallFix p m c cc nL s args Ts own) (hK : wK D cI cB s) (hP : va_P D vwCl (wM cI cB ad g t gl b tb) H) (hin : ∀ w ∈ wsX30, w ∈ Ts) {idx : Nat} (hl0 : (Cond.fieldLink own idx "SnowTermModel" "keptFound" "I").before args s = true) (hI : wI 20 ad) (hS : va_S (wA 20 ad) H0 H locs) (hdg : decode cc pc = .ok (.putfield idx, 3)) (kk : ∀ (H : Heap) (locs : List Loc), va_P D vwCl (wM cI cB ad (upd g 31 v) t gl b tb) H → va_S (wA 20 ad) H0 H locs → W p l e R s m args below meth c H locs cells slots Q (F0 m (pc + 3) ls rest)) : W p l e R s m args below meth c H locs cells slots Q (F0 m pc ls (.int v :: .ref (ad 0) :: rest)) := va_put (v := .int v) (ty := .int) E.1 E.2.1 E.2.2.2.2 hin tyX3 tyX3_ok nmX3 E.2.2.2.1 hK hP (wM_D hI) hS 0 rfl rfl 31 (by decide) hl0 (fun _ h => h) rfl (by decide +kernel) rfl rfl (Nat.le_of_ble_eq_true rfl) hdg (fun H1 locs1 hP1 _ hS1 => kk H1 locs1 hP1 hS1)
theorem mg_0_32 {ad : Nat → Nat} {g t : Nat → Int32} {gl : Nat → Int64} {b tb : Nat → Nat → Int32} (E : CallFix p m c cc nL s args Ts own) (hK : wK D cI cB s) (hP : va_P D vwCl (wM cI cB ad g t gl b tb) H) (hin : ∀ w ∈ wsX30, w ∈ Ts) {idx : Nat} (hl0 : (Cond.fieldLink own idx "SnowTermModel" "keptDeep" "[I").before args s = true) (hdg : decode cc pc = .ok (.getfield idx, 3)) (k : W p l e R s m args below meth c H locs cells slots Q (F0 m (pc + 3) ls (.ref (ad 13) :: rest))) : W p l e R s m args below meth c H locs cells slots Q (F0 m pc ls (.ref (ad 0) :: rest)) := va_get E.1 E.2.1 E.2.2.2.2 hin E.2.2.2.1 hK hP 0 rfl rfl 32 (by decide) hl0 (fun _ h => h) rfl hdg k
theorem mg_0_33 {ad : Nat → Nat} {g t : Nat → Int32} {gl : Nat → Int64} {b tb : Nat → Nat → Int32} (E : CallFix p m c cc nL s args Ts own) (hK : wK D cI cB s) (hP : va_P D vwCl (wM cI cB ad g t gl b tb) H) (hin : ∀ w ∈ wsX30, w ∈ Ts) {idx : Nat} (hl0 : (Cond.fieldLink own idx "SnowTermModel" "keptStart" "[I").before args s = true) (hdg : decode cc pc = .ok (.getfield idx, 3)) (k : W p l e R s m args below meth c H locs cells slots Q (F0 m (pc + 3) ls (.ref (ad 14) :: rest))) : W p l e R s m args below meth c H locs cells slots Q (F0 m pc ls (.ref (ad 0) :: rest)) := va_get E.1 E.2.1 E.2.2.2.2 hin E.2.2.2.1 hK hP 0 rfl rfl 33 (by decide) hl0 (fun _ h => h) rfl hdg k
theorem mg_0_34 {ad : Nat → Nat} {g t : Nat → Int32} {gl : Nat → Int64} {b tb : Nat → Nat → Int32} (E : CallFix p m c cc nL s args Ts own) (hK : wK D cI cB s) (hP : va_P D vwCl (wM cI cB ad g t gl b tb) H) (hin : ∀ w ∈ wsX30, w ∈ Ts) {idx : Nat} (hl0 : (Cond.fieldLink own idx "SnowTermModel" "keptBrought" "[I").before args s = true) (hdg : decode cc pc = .ok (.getfield idx, 3)) (k : W p l e R s m args below meth c H locs cells slots Q (F0 m (pc + 3) ls (.ref (ad 15) :: rest))) : W p l e R s m args below meth c H locs cells slots Q (F0 m pc ls (.ref (ad 0) :: rest)) := va_get E.1 E.2.1 E.2.2.2.2 hin E.2.2.2.1 hK hP 0 rfl rfl 34 (by decide) hl0 (fun _ h => h) rfl hdg k
theorem mg_0_35 {ad : Nat → Nat} {g t : Nat → Int32} {gl : Nat → Int64} {b tb : Nat → Nat → Int32} (E : CallFix p m c cc nL s args Ts own) (hK : wK D cI cB s) (hP : va_P D vwCl (wM cI cB ad g t gl b tb) H) (hin : ∀ w ∈ wsX30, w ∈ Ts) {idx : Nat} (hl0 : (Cond.fieldLink own idx "SnowTermModel" "keptFeet" "[I").before args s = true) (hdg : decode cc pc = .ok (.getfield idx, 3)) (k : W p l e R s m args below meth c H locs cells slots Q (F0 m (pc + 3) ls (.ref (ad 16) :: rest))) : W p l e R s m args below meth c H locs cells slots Q (F0 m pc ls (.ref (ad 0) :: rest)) := va_get E.1 E.2.1 E.2.2.2.2 hin E.2.2.2.1 hK hP 0 rfl rfl 35 (by decide) hl0 (fun _ h => h) rfl hdg k
theorem mg_0_36 {ad : Nat → Nat} {g t : Nat → Int32} {gl : Nat → Int64} {b tb : Nat → Nat → Int32} (E : CallFix p m c cc nL s args Ts own) (hK : wK D cI cB s) (hP : va_P D vwCl (wM cI cB ad g t gl b tb) H) (hin : ∀ w ∈ wsX30, w ∈ Ts) {idx : Nat} (hl0 : (Cond.fieldLink own idx "SnowTermModel" "keptSite" "[I").before args s = true) (hdg : decode cc pc = .ok (.getfield idx, 3)) (k : W p l e R s m args below meth c H locs cells slots Q (F0 m (pc + 3) ls (.ref (ad 17) :: rest))) : W p l e R s m args below meth c H locs cells slots Q (F0 m pc ls (.ref (ad 0) :: rest)) := va_get E.1 E.2.1 E.2.2.2.2 hin E.2.2.2.1 hK hP 0 rfl rfl 36 (by decide) hl0 (fun _ h => h) rfl hdg k
theorem mg_0_37 {ad : Nat → Nat} {g t : Nat → Int32} {gl : Nat → Int64} {b tb : Nat → Nat → Int32} (E : CallFix p m c cc nL s args Ts own) (hK : wK D cI cB s) (hP : va_P D vwCl (wM cI cB ad g t gl b tb) H) (hin : ∀ w ∈ wsX30, w ∈ Ts) {idx : Nat} (hl0 : (Cond.fieldLink own idx "SnowTermModel" "keptFoundDeep" "[I").before args s = true) (hdg : decode cc pc = .ok (.getfield idx, 3)) (k : W p l e R s m args below meth c H locs cells slots Q (F0 m (pc + 3) ls (.ref (ad 18) :: rest))) : W p l e R s m args below meth c H locs cells slots Q (F0 m pc ls (.ref (ad 0) :: rest)) := va_get E.1 E.2.1 E.2.2.2.2 hin E.2.2.2.1 hK hP 0 rfl rfl 37 (by decide) hl0 (fun _ h => h) rfl hdg k
theorem mg_0_38 {ad : Nat → Nat} {g t : Nat → Int32} {gl : Nat → Int64} {b tb : Nat → Nat → Int32} (E : CallFix p m c cc nL s args Ts own) (hK : wK D cI cB s) (hP : va_P D vwCl (wM cI cB ad g t gl b tb) H) (hin : ∀ w ∈ wsX30, w ∈ Ts) {idx : Nat} (hl0 : (Cond.fieldLink own idx "SnowTermModel" "keptLeft" "[I").before args s = true) (hdg : decode cc pc = .ok (.getfield idx, 3)) (k : W p l e R s m args below meth c H locs cells slots Q (F0 m (pc + 3) ls (.ref (ad 19) :: rest))) : W p l e R s m args below meth c H locs cells slots Q (F0 m pc ls (.ref (ad 0) :: rest)) := va_get E.1 E.2.1 E.2.2.2.2 hin E.2.2.2.1 hK hP 0 rfl rfl 38 (by decide) hl0 (fun _ h => h) rfl hdg k
theorem mg_0_39 {ad : Nat → Nat} {g t : Nat → Int32} {gl : Nat → Int64} {b tb : Nat → Nat → Int32} (E : CallFix p m c cc nL s args Ts own) (hK : wK D cI cB s) (hP : va_P D vwCl (wM cI cB ad g t gl b tb) H) (hin : ∀ w ∈ wsX30, w ∈ Ts) {idx : Nat} (hl0 : (Cond.fieldLink own idx "SnowTermModel" "h" "J").before args s = true) (hdg : decode cc pc = .ok (.getfield idx, 3)) (k : W p l e R s m args below meth c H locs cells slots Q (F0 m (pc + 3) ls (.long (gl 39) :: rest))) : W p l e R s m args below meth c H locs cells slots Q (F0 m pc ls (.ref (ad 0) :: rest)) := va_get E.1 E.2.1 E.2.2.2.2 hin E.2.2.2.1 hK hP 0 rfl rfl 39 (by decide) hl0 (fun _ h => h) rfl hdg k
theorem mp_0_39 {ad : Nat → Nat} {g t : Nat → Int32} {gl : Nat → Int64} {b tb : Nat → Nat → Int32} {v : Int64} (E : CallFix p m c cc nL s args Ts own) (hK : wK D cI cB s) (hP : va_P D vwCl (wM cI cB ad g t gl b tb) H) (hin : ∀ w ∈ wsX30, w ∈ Ts) {idx : Nat} (hl0 : (Cond.fieldLink own idx "SnowTermModel" "h" "J").before args s = true) (hI : wI 20 ad) (hS : va_S (wA 20 ad) H0 H locs) (hdg : decode cc pc = .ok (.putfield idx, 3)) (kk : ∀ (H : Heap) (locs : List Loc), va_P D vwCl (wM cI cB ad g t (uL gl 39 v) b tb) H → va_S (wA 20 ad) H0 H locs → W p l e R s m args below meth c H locs cells slots Q (F0 m (pc + 3) ls rest)) : W p l e R s m args below meth c H locs cells slots Q (F0 m pc ls (.long v :: .ref (ad 0) :: rest)) := va_put (v := .long v) (ty := .long) E.1 E.2.1 E.2.2.2.2 hin tyX3 tyX3_ok nmX3 E.2.2.2.1 hK hP (wM_D hI) hS 0 rfl rfl 39 (by decide) hl0 (fun _ h => h) rfl (by decide +kernel) rfl rfl (Nat.le_of_ble_eq_true rfl) hdg (fun H1 locs1 hP1 _ hS1 => kk H1 locs1 hP1 hS1)
theorem ml_1 {ad : Nat → Nat} {g t : Nat → Int32} {gl : Nat → Int64} {b tb : Nat → Nat → Int32} {i : Int32} (E : CallFix p m c cc nL s args Ts own) (hK : wK D cI cB s) (hP : va_P D vwCl (wM cI cB ad g t gl b tb) H) (hi : vp_in i 6) (hdg : decode cc pc = .ok (.iaload, 1)) (k : W p l e R s m args below meth c H locs cells slots Q (F0 m (pc + 1) ls (.int (b 1 i.toNatClampNeg) :: rest))) : W p l e R s m args below meth c H locs cells slots Q (F0 m pc ls (.int i :: .ref (ad 1) :: rest)) := va_iald E.1 E.2.1 hK hP 1 0 rfl rfl hi hdg k
theorem ms_1 {ad : Nat → Nat} {g t : Nat → Int32} {gl : Nat → Int64} {b tb : Nat → Nat → Int32} {i v : Int32} (E : CallFix p m c cc nL s args Ts own) (hK : wK D cI cB s) (hP : va_P D vwCl (wM cI cB ad g t gl b tb) H) (hI : wI 20 ad) (hS : va_S (wA 20 ad) H0 H locs) (hi : vp_in i 6) (hdg : decode cc pc = .ok (.iastore, 1)) (kk : ∀ (H : Heap) (locs : List Loc), va_P D vwCl (wM cI cB ad g t gl (uA b 1 (upd (b 1) i.toNatClampNeg v)) tb) H → va_S (wA 20 ad) H0 H locs → W p l e R s m args below meth c H locs cells slots Q (F0 m (pc + 1) ls rest)) : W p l e R s m args below meth c H locs cells slots Q (F0 m pc ls (.int v :: .int i :: .ref (ad 1) :: rest)) := va_iast E.1 E.2.1 hK hP (wM_D hI) hS 1 0 rfl rfl hi hdg (fun H1 locs1 hP1 _ hS1 => kk H1 locs1 hP1 hS1)
theorem mn_1 {ad : Nat → Nat} {g t : Nat → Int32} {gl : Nat → Int64} {b tb : Nat → Nat → Int32} (E : CallFix p m c cc nL s args Ts own) (hK : wK D cI cB s) (hP : va_P D vwCl (wM cI cB ad g t gl b tb) H) (hdg : decode cc pc = .ok (.arraylength, 1)) (k : W p l e R s m args below meth c H locs cells slots Q (F0 m (pc + 1) ls (.int 6 :: rest))) : W p l e R s m args below meth c H locs cells slots Q (F0 m pc ls (.ref (ad 1) :: rest)) := va_alen (v := 6) E.1 E.2.1 hK hP 1 0 rfl rfl rfl hdg k
theorem ml_2 {ad : Nat → Nat} {g t : Nat → Int32} {gl : Nat → Int64} {b tb : Nat → Nat → Int32} {i : Int32} (E : CallFix p m c cc nL s args Ts own) (hK : wK D cI cB s) (hP : va_P D vwCl (wM cI cB ad g t gl b tb) H) (hi : vp_in i 6) (hdg : decode cc pc = .ok (.iaload, 1)) (k : W p l e R s m args below meth c H locs cells slots Q (F0 m (pc + 1) ls (.int (b 2 i.toNatClampNeg) :: rest))) : W p l e R s m args below meth c H locs cells slots Q (F0 m pc ls (.int i :: .ref (ad 2) :: rest)) := va_iald E.1 E.2.1 hK hP 2 0 rfl rfl hi hdg k
theorem ms_2 {ad : Nat → Nat} {g t : Nat → Int32} {gl : Nat → Int64} {b tb : Nat → Nat → Int32} {i v : Int32} (E : CallFix p m c cc nL s args Ts own) (hK : wK D cI cB s) (hP : va_P D vwCl (wM cI cB ad g t gl b tb) H) (hI : wI 20 ad) (hS : va_S (wA 20 ad) H0 H locs) (hi : vp_in i 6) (hdg : decode cc pc = .ok (.iastore, 1)) (kk : ∀ (H : Heap) (locs : List Loc), va_P D vwCl (wM cI cB ad g t gl (uA b 2 (upd (b 2) i.toNatClampNeg v)) tb) H → va_S (wA 20 ad) H0 H locs → W p l e R s m args below meth c H locs cells slots Q (F0 m (pc + 1) ls rest)) : W p l e R s m args below meth c H locs cells slots Q (F0 m pc ls (.int v :: .int i :: .ref (ad 2) :: rest)) := va_iast E.1 E.2.1 hK hP (wM_D hI) hS 2 0 rfl rfl hi hdg (fun H1 locs1 hP1 _ hS1 => kk H1 locs1 hP1 hS1)
theorem mn_2 {ad : Nat → Nat} {g t : Nat → Int32} {gl : Nat → Int64} {b tb : Nat → Nat → Int32} (E : CallFix p m c cc nL s args Ts own) (hK : wK D cI cB s) (hP : va_P D vwCl (wM cI cB ad g t gl b tb) H) (hdg : decode cc pc = .ok (.arraylength, 1)) (k : W p l e R s m args below meth c H locs cells slots Q (F0 m (pc + 1) ls (.int 6 :: rest))) : W p l e R s m args below meth c H locs cells slots Q (F0 m pc ls (.ref (ad 2) :: rest)) := va_alen (v := 6) E.1 E.2.1 hK hP 2 0 rfl rfl rfl hdg k
theorem ml_3 {ad : Nat → Nat} {g t : Nat → Int32} {gl : Nat → Int64} {b tb : Nat → Nat → Int32} {i : Int32} (E : CallFix p m c cc nL s args Ts own) (hK : wK D cI cB s) (hP : va_P D vwCl (wM cI cB ad g t gl b tb) H) (hi : vp_in i 6) (hdg : decode cc pc = .ok (.iaload, 1)) (k : W p l e R s m args below meth c H locs cells slots Q (F0 m (pc + 1) ls (.int (b 3 i.toNatClampNeg) :: rest))) : W p l e R s m args below meth c H locs cells slots Q (F0 m pc ls (.int i :: .ref (ad 3) :: rest)) := va_iald E.1 E.2.1 hK hP 3 0 rfl rfl hi hdg k
theorem ms_3 {ad : Nat → Nat} {g t : Nat → Int32} {gl : Nat → Int64} {b tb : Nat → Nat → Int32} {i v : Int32} (E : CallFix p m c cc nL s args Ts own) (hK : wK D cI cB s) (hP : va_P D vwCl (wM cI cB ad g t gl b tb) H) (hI : wI 20 ad) (hS : va_S (wA 20 ad) H0 H locs) (hi : vp_in i 6) (hdg : decode cc pc = .ok (.iastore, 1)) (kk : ∀ (H : Heap) (locs : List Loc), va_P D vwCl (wM cI cB ad g t gl (uA b 3 (upd (b 3) i.toNatClampNeg v)) tb) H → va_S (wA 20 ad) H0 H locs → W p l e R s m args below meth c H locs cells slots Q (F0 m (pc + 1) ls rest)) : W p l e R s m args below meth c H locs cells slots Q (F0 m pc ls (.int v :: .int i :: .ref (ad 3) :: rest)) := va_iast E.1 E.2.1 hK hP (wM_D hI) hS 3 0 rfl rfl hi hdg (fun H1 locs1 hP1 _ hS1 => kk H1 locs1 hP1 hS1)
theorem mn_3 {ad : Nat → Nat} {g t : Nat → Int32} {gl : Nat → Int64} {b tb : Nat → Nat → Int32} (E : CallFix p m c cc nL s args Ts own) (hK : wK D cI cB s) (hP : va_P D vwCl (wM cI cB ad g t gl b tb) H) (hdg : decode cc pc = .ok (.arraylength, 1)) (k : W p l e R s m args below meth c H locs cells slots Q (F0 m (pc + 1) ls (.int 6 :: rest))) : W p l e R s m args below meth c H locs cells slots Q (F0 m pc ls (.ref (ad 3) :: rest)) := va_alen (v := 6) E.1 E.2.1 hK hP 3 0 rfl rfl rfl hdg k
theorem ml_4 {ad : Nat → Nat} {g t : Nat → Int32} {gl : Nat → Int64} {b tb : Nat → Nat → Int32} {i : Int32} (E : CallFix p m c cc nL s args Ts own) (hK : wK D cI cB s) (hP : va_P D vwCl (wM cI cB ad g t gl b tb) H) (hi : vp_in i 6) (hdg : decode cc pc = .ok (.iaload, 1)) (k : W p l e R s m args below meth c H locs cells slots Q (F0 m (pc + 1) ls (.int (b 4 i.toNatClampNeg) :: rest))) : W p l e R s m args below meth c H locs cells slots Q (F0 m pc ls (.int i :: .ref (ad 4) :: rest)) := va_iald E.1 E.2.1 hK hP 4 0 rfl rfl hi hdg k
theorem ms_4 {ad : Nat → Nat} {g t : Nat → Int32} {gl : Nat → Int64} {b tb : Nat → Nat → Int32} {i v : Int32} (E : CallFix p m c cc nL s args Ts own) (hK : wK D cI cB s) (hP : va_P D vwCl (wM cI cB ad g t gl b tb) H) (hI : wI 20 ad) (hS : va_S (wA 20 ad) H0 H locs) (hi : vp_in i 6) (hdg : decode cc pc = .ok (.iastore, 1)) (kk : ∀ (H : Heap) (locs : List Loc), va_P D vwCl (wM cI cB ad g t gl (uA b 4 (upd (b 4) i.toNatClampNeg v)) tb) H → va_S (wA 20 ad) H0 H locs → W p l e R s m args below meth c H locs cells slots Q (F0 m (pc + 1) ls rest)) : W p l e R s m args below meth c H locs cells slots Q (F0 m pc ls (.int v :: .int i :: .ref (ad 4) :: rest)) := va_iast E.1 E.2.1 hK hP (wM_D hI) hS 4 0 rfl rfl hi hdg (fun H1 locs1 hP1 _ hS1 => kk H1 locs1 hP1 hS1)
theorem mn_4 {ad : Nat → Nat} {g t : Nat → Int32} {gl : Nat → Int64} {b tb : Nat → Nat → Int32} (E : CallFix p m c cc nL s args Ts own) (hK : wK D cI cB s) (hP : va_P D vwCl (wM cI cB ad g t gl b tb) H) (hdg : decode cc pc = .ok (.arraylength, 1)) (k : W p l e R s m args below meth c H locs cells slots Q (F0 m (pc + 1) ls (.int 6 :: rest))) : W p l e R s m args below meth c H locs cells slots Q (F0 m pc ls (.ref (ad 4) :: rest)) := va_alen (v := 6) E.1 E.2.1 hK hP 4 0 rfl rfl rfl hdg k
theorem ml_5 {ad : Nat → Nat} {g t : Nat → Int32} {gl : Nat → Int64} {b tb : Nat → Nat → Int32} {i : Int32} (E : CallFix p m c cc nL s args Ts own) (hK : wK D cI cB s) (hP : va_P D vwCl (wM cI cB ad g t gl b tb) H) (hi : vp_in i 6) (hdg : decode cc pc = .ok (.iaload, 1)) (k : W p l e R s m args below meth c H locs cells slots Q (F0 m (pc + 1) ls (.int (b 5 i.toNatClampNeg) :: rest))) : W p l e R s m args below meth c H locs cells slots Q (F0 m pc ls (.int i :: .ref (ad 5) :: rest)) := va_iald E.1 E.2.1 hK hP 5 0 rfl rfl hi hdg k
theorem ms_5 {ad : Nat → Nat} {g t : Nat → Int32} {gl : Nat → Int64} {b tb : Nat → Nat → Int32} {i v : Int32} (E : CallFix p m c cc nL s args Ts own) (hK : wK D cI cB s) (hP : va_P D vwCl (wM cI cB ad g t gl b tb) H) (hI : wI 20 ad) (hS : va_S (wA 20 ad) H0 H locs) (hi : vp_in i 6) (hdg : decode cc pc = .ok (.iastore, 1)) (kk : ∀ (H : Heap) (locs : List Loc), va_P D vwCl (wM cI cB ad g t gl (uA b 5 (upd (b 5) i.toNatClampNeg v)) tb) H → va_S (wA 20 ad) H0 H locs → W p l e R s m args below meth c H locs cells slots Q (F0 m (pc + 1) ls rest)) : W p l e R s m args below meth c H locs cells slots Q (F0 m pc ls (.int v :: .int i :: .ref (ad 5) :: rest)) := va_iast E.1 E.2.1 hK hP (wM_D hI) hS 5 0 rfl rfl hi hdg (fun H1 locs1 hP1 _ hS1 => kk H1 locs1 hP1 hS1)
theorem mn_5 {ad : Nat → Nat} {g t : Nat → Int32} {gl : Nat → Int64} {b tb : Nat → Nat → Int32} (E : CallFix p m c cc nL s args Ts own) (hK : wK D cI cB s) (hP : va_P D vwCl (wM cI cB ad g t gl b tb) H) (hdg : decode cc pc = .ok (.arraylength, 1)) (k : W p l e R s m args below meth c H locs cells slots Q (F0 m (pc + 1) ls (.int 6 :: rest))) : W p l e R s m args below meth c H locs cells slots Q (F0 m pc ls (.ref (ad 5) :: rest)) := va_alen (v := 6) E.1 E.2.1 hK hP 5 0 rfl rfl rfl hdg k
theorem ml_6 {ad : Nat → Nat} {g t : Nat → Int32} {gl : Nat → Int64} {b tb : Nat → Nat → Int32} {i : Int32} (E : CallFix p m c cc nL s args Ts own) (hK : wK D cI cB s) (hP : va_P D vwCl (wM cI cB ad g t gl b tb) H) (hi : vp_in i 6) (hdg : decode cc pc = .ok (.iaload, 1)) (k : W p l e R s m args below meth c H locs cells slots Q (F0 m (pc + 1) ls (.int (b 6 i.toNatClampNeg) :: rest))) : W p l e R s m args below meth c H locs cells slots Q (F0 m pc ls (.int i :: .ref (ad 6) :: rest)) := va_iald E.1 E.2.1 hK hP 6 0 rfl rfl hi hdg k
theorem ms_6 {ad : Nat → Nat} {g t : Nat → Int32} {gl : Nat → Int64} {b tb : Nat → Nat → Int32} {i v : Int32} (E : CallFix p m c cc nL s args Ts own) (hK : wK D cI cB s) (hP : va_P D vwCl (wM cI cB ad g t gl b tb) H) (hI : wI 20 ad) (hS : va_S (wA 20 ad) H0 H locs) (hi : vp_in i 6) (hdg : decode cc pc = .ok (.iastore, 1)) (kk : ∀ (H : Heap) (locs : List Loc), va_P D vwCl (wM cI cB ad g t gl (uA b 6 (upd (b 6) i.toNatClampNeg v)) tb) H → va_S (wA 20 ad) H0 H locs → W p l e R s m args below meth c H locs cells slots Q (F0 m (pc + 1) ls rest)) : W p l e R s m args below meth c H locs cells slots Q (F0 m pc ls (.int v :: .int i :: .ref (ad 6) :: rest)) := va_iast E.1 E.2.1 hK hP (wM_D hI) hS 6 0 rfl rfl hi hdg (fun H1 locs1 hP1 _ hS1 => kk H1 locs1 hP1 hS1)
theorem mn_6 {ad : Nat → Nat} {g t : Nat → Int32} {gl : Nat → Int64} {b tb : Nat → Nat → Int32} (E : CallFix p m c cc nL s args Ts own) (hK : wK D cI cB s) (hP : va_P D vwCl (wM cI cB ad g t gl b tb) H) (hdg : decode cc pc = .ok (.arraylength, 1)) (k : W p l e R s m args below meth c H locs cells slots Q (F0 m (pc + 1) ls (.int 6 :: rest))) : W p l e R s m args below meth c H locs cells slots Q (F0 m pc ls (.ref (ad 6) :: rest)) := va_alen (v := 6) E.1 E.2.1 hK hP 6 0 rfl rfl rfl hdg k
theorem ml_7 {ad : Nat → Nat} {g t : Nat → Int32} {gl : Nat → Int64} {b tb : Nat → Nat → Int32} {i : Int32} (E : CallFix p m c cc nL s args Ts own) (hK : wK D cI cB s) (hP : va_P D vwCl (wM cI cB ad g t gl b tb) H) (hi : vp_in i 6) (hdg : decode cc pc = .ok (.iaload, 1)) (k : W p l e R s m args below meth c H locs cells slots Q (F0 m (pc + 1) ls (.int (b 7 i.toNatClampNeg) :: rest))) : W p l e R s m args below meth c H locs cells slots Q (F0 m pc ls (.int i :: .ref (ad 7) :: rest)) := va_iald E.1 E.2.1 hK hP 7 0 rfl rfl hi hdg k
theorem ms_7 {ad : Nat → Nat} {g t : Nat → Int32} {gl : Nat → Int64} {b tb : Nat → Nat → Int32} {i v : Int32} (E : CallFix p m c cc nL s args Ts own) (hK : wK D cI cB s) (hP : va_P D vwCl (wM cI cB ad g t gl b tb) H) (hI : wI 20 ad) (hS : va_S (wA 20 ad) H0 H locs) (hi : vp_in i 6) (hdg : decode cc pc = .ok (.iastore, 1)) (kk : ∀ (H : Heap) (locs : List Loc), va_P D vwCl (wM cI cB ad g t gl (uA b 7 (upd (b 7) i.toNatClampNeg v)) tb) H → va_S (wA 20 ad) H0 H locs → W p l e R s m args below meth c H locs cells slots Q (F0 m (pc + 1) ls rest)) : W p l e R s m args below meth c H locs cells slots Q (F0 m pc ls (.int v :: .int i :: .ref (ad 7) :: rest)) := va_iast E.1 E.2.1 hK hP (wM_D hI) hS 7 0 rfl rfl hi hdg (fun H1 locs1 hP1 _ hS1 => kk H1 locs1 hP1 hS1)
theorem mn_7 {ad : Nat → Nat} {g t : Nat → Int32} {gl : Nat → Int64} {b tb : Nat → Nat → Int32} (E : CallFix p m c cc nL s args Ts own) (hK : wK D cI cB s) (hP : va_P D vwCl (wM cI cB ad g t gl b tb) H) (hdg : decode cc pc = .ok (.arraylength, 1)) (k : W p l e R s m args below meth c H locs cells slots Q (F0 m (pc + 1) ls (.int 6 :: rest))) : W p l e R s m args below meth c H locs cells slots Q (F0 m pc ls (.ref (ad 7) :: rest)) := va_alen (v := 6) E.1 E.2.1 hK hP 7 0 rfl rfl rfl hdg k
theorem ml_8 {ad : Nat → Nat} {g t : Nat → Int32} {gl : Nat → Int64} {b tb : Nat → Nat → Int32} {i : Int32} (E : CallFix p m c cc nL s args Ts own) (hK : wK D cI cB s) (hP : va_P D vwCl (wM cI cB ad g t gl b tb) H) (hi : vp_in i 6) (hdg : decode cc pc = .ok (.iaload, 1)) (k : W p l e R s m args below meth c H locs cells slots Q (F0 m (pc + 1) ls (.int (b 8 i.toNatClampNeg) :: rest))) : W p l e R s m args below meth c H locs cells slots Q (F0 m pc ls (.int i :: .ref (ad 8) :: rest)) := va_iald E.1 E.2.1 hK hP 8 0 rfl rfl hi hdg k
theorem ms_8 {ad : Nat → Nat} {g t : Nat → Int32} {gl : Nat → Int64} {b tb : Nat → Nat → Int32} {i v : Int32} (E : CallFix p m c cc nL s args Ts own) (hK : wK D cI cB s) (hP : va_P D vwCl (wM cI cB ad g t gl b tb) H) (hI : wI 20 ad) (hS : va_S (wA 20 ad) H0 H locs) (hi : vp_in i 6) (hdg : decode cc pc = .ok (.iastore, 1)) (kk : ∀ (H : Heap) (locs : List Loc), va_P D vwCl (wM cI cB ad g t gl (uA b 8 (upd (b 8) i.toNatClampNeg v)) tb) H → va_S (wA 20 ad) H0 H locs → W p l e R s m args below meth c H locs cells slots Q (F0 m (pc + 1) ls rest)) : W p l e R s m args below meth c H locs cells slots Q (F0 m pc ls (.int v :: .int i :: .ref (ad 8) :: rest)) := va_iast E.1 E.2.1 hK hP (wM_D hI) hS 8 0 rfl rfl hi hdg (fun H1 locs1 hP1 _ hS1 => kk H1 locs1 hP1 hS1)
theorem mn_8 {ad : Nat → Nat} {g t : Nat → Int32} {gl : Nat → Int64} {b tb : Nat → Nat → Int32} (E : CallFix p m c cc nL s args Ts own) (hK : wK D cI cB s) (hP : va_P D vwCl (wM cI cB ad g t gl b tb) H) (hdg : decode cc pc = .ok (.arraylength, 1)) (k : W p l e R s m args below meth c H locs cells slots Q (F0 m (pc + 1) ls (.int 6 :: rest))) : W p l e R s m args below meth c H locs cells slots Q (F0 m pc ls (.ref (ad 8) :: rest)) := va_alen (v := 6) E.1 E.2.1 hK hP 8 0 rfl rfl rfl hdg k
theorem ml_9 {ad : Nat → Nat} {g t : Nat → Int32} {gl : Nat → Int64} {b tb : Nat → Nat → Int32} {i : Int32} (E : CallFix p m c cc nL s args Ts own) (hK : wK D cI cB s) (hP : va_P D vwCl (wM cI cB ad g t gl b tb) H) (hi : vp_in i 6) (hdg : decode cc pc = .ok (.iaload, 1)) (k : W p l e R s m args below meth c H locs cells slots Q (F0 m (pc + 1) ls (.int (b 9 i.toNatClampNeg) :: rest))) : W p l e R s m args below meth c H locs cells slots Q (F0 m pc ls (.int i :: .ref (ad 9) :: rest)) := va_iald E.1 E.2.1 hK hP 9 0 rfl rfl hi hdg k
theorem ms_9 {ad : Nat → Nat} {g t : Nat → Int32} {gl : Nat → Int64} {b tb : Nat → Nat → Int32} {i v : Int32} (E : CallFix p m c cc nL s args Ts own) (hK : wK D cI cB s) (hP : va_P D vwCl (wM cI cB ad g t gl b tb) H) (hI : wI 20 ad) (hS : va_S (wA 20 ad) H0 H locs) (hi : vp_in i 6) (hdg : decode cc pc = .ok (.iastore, 1)) (kk : ∀ (H : Heap) (locs : List Loc), va_P D vwCl (wM cI cB ad g t gl (uA b 9 (upd (b 9) i.toNatClampNeg v)) tb) H → va_S (wA 20 ad) H0 H locs → W p l e R s m args below meth c H locs cells slots Q (F0 m (pc + 1) ls rest)) : W p l e R s m args below meth c H locs cells slots Q (F0 m pc ls (.int v :: .int i :: .ref (ad 9) :: rest)) := va_iast E.1 E.2.1 hK hP (wM_D hI) hS 9 0 rfl rfl hi hdg (fun H1 locs1 hP1 _ hS1 => kk H1 locs1 hP1 hS1)
theorem mn_9 {ad : Nat → Nat} {g t : Nat → Int32} {gl : Nat → Int64} {b tb : Nat → Nat → Int32} (E : CallFix p m c cc nL s args Ts own) (hK : wK D cI cB s) (hP : va_P D vwCl (wM cI cB ad g t gl b tb) H) (hdg : decode cc pc = .ok (.arraylength, 1)) (k : W p l e R s m args below meth c H locs cells slots Q (F0 m (pc + 1) ls (.int 6 :: rest))) : W p l e R s m args below meth c H locs cells slots Q (F0 m pc ls (.ref (ad 9) :: rest)) := va_alen (v := 6) E.1 E.2.1 hK hP 9 0 rfl rfl rfl hdg k
theorem ml_10 {ad : Nat → Nat} {g t : Nat → Int32} {gl : Nat → Int64} {b tb : Nat → Nat → Int32} {i : Int32} (E : CallFix p m c cc nL s args Ts own) (hK : wK D cI cB s) (hP : va_P D vwCl (wM cI cB ad g t gl b tb) H) (hi : vp_in i 21) (hdg : decode cc pc = .ok (.baload, 1)) (k : W p l e R s m args below meth c H locs cells slots Q (F0 m (pc + 1) ls (.int (b 10 i.toNatClampNeg) :: rest))) : W p l e R s m args below meth c H locs cells slots Q (F0 m pc ls (.int i :: .ref (ad 10) :: rest)) := va_bald E.1 E.2.1 hK hP 10 1 rfl rfl hi hdg k
theorem ms_10 {ad : Nat → Nat} {g t : Nat → Int32} {gl : Nat → Int64} {b tb : Nat → Nat → Int32} {i v : Int32} (E : CallFix p m c cc nL s args Ts own) (hK : wK D cI cB s) (hP : va_P D vwCl (wM cI cB ad g t gl b tb) H) (hI : wI 20 ad) (hS : va_S (wA 20 ad) H0 H locs) (hi : vp_in i 21) (hdg : decode cc pc = .ok (.bastore, 1)) (kk : ∀ (H : Heap) (locs : List Loc), va_P D vwCl (wM cI cB ad g t gl (uA b 10 (upd (b 10) i.toNatClampNeg (vp_nar .byte v))) tb) H → va_S (wA 20 ad) H0 H locs → W p l e R s m args below meth c H locs cells slots Q (F0 m (pc + 1) ls rest)) : W p l e R s m args below meth c H locs cells slots Q (F0 m pc ls (.int v :: .int i :: .ref (ad 10) :: rest)) := va_bast E.1 E.2.1 hK hP (wM_D hI) hS 10 1 rfl rfl hi hdg (fun H1 locs1 hP1 _ hS1 => kk H1 locs1 hP1 hS1)
theorem mn_10 {ad : Nat → Nat} {g t : Nat → Int32} {gl : Nat → Int64} {b tb : Nat → Nat → Int32} (E : CallFix p m c cc nL s args Ts own) (hK : wK D cI cB s) (hP : va_P D vwCl (wM cI cB ad g t gl b tb) H) (hdg : decode cc pc = .ok (.arraylength, 1)) (k : W p l e R s m args below meth c H locs cells slots Q (F0 m (pc + 1) ls (.int 21 :: rest))) : W p l e R s m args below meth c H locs cells slots Q (F0 m pc ls (.ref (ad 10) :: rest)) := va_alen (v := 21) E.1 E.2.1 hK hP 10 1 rfl rfl rfl hdg k
theorem ml_11 {ad : Nat → Nat} {g t : Nat → Int32} {gl : Nat → Int64} {b tb : Nat → Nat → Int32} {i : Int32} (E : CallFix p m c cc nL s args Ts own) (hK : wK D cI cB s) (hP : va_P D vwCl (wM cI cB ad g t gl b tb) H) (hi : vp_in i 6) (hdg : decode cc pc = .ok (.iaload, 1)) (k : W p l e R s m args below meth c H locs cells slots Q (F0 m (pc + 1) ls (.int (tb 11 i.toNatClampNeg) :: rest))) : W p l e R s m args below meth c H locs cells slots Q (F0 m pc ls (.int i :: .ref (ad 11) :: rest)) := va_iald E.1 E.2.1 hK hP 11 0 rfl rfl hi hdg k
theorem ms_11 {ad : Nat → Nat} {g t : Nat → Int32} {gl : Nat → Int64} {b tb : Nat → Nat → Int32} {i v : Int32} (E : CallFix p m c cc nL s args Ts own) (hK : wK D cI cB s) (hP : va_P D vwCl (wM cI cB ad g t gl b tb) H) (hI : wI 20 ad) (hS : va_S (wA 20 ad) H0 H locs) (hi : vp_in i 6) (hdg : decode cc pc = .ok (.iastore, 1)) (kk : ∀ (H : Heap) (locs : List Loc), va_P D vwCl (wM cI cB ad g t gl b (uA tb 11 (upd (tb 11) i.toNatClampNeg v))) H → va_S (wA 20 ad) H0 H locs → W p l e R s m args below meth c H locs cells slots Q (F0 m (pc + 1) ls rest)) : W p l e R s m args below meth c H locs cells slots Q (F0 m pc ls (.int v :: .int i :: .ref (ad 11) :: rest)) := va_iast E.1 E.2.1 hK hP (wM_D hI) hS 11 0 rfl rfl hi hdg (fun H1 locs1 hP1 _ hS1 => kk H1 locs1 hP1 hS1)
theorem mn_11 {ad : Nat → Nat} {g t : Nat → Int32} {gl : Nat → Int64} {b tb : Nat → Nat → Int32} (E : CallFix p m c cc nL s args Ts own) (hK : wK D cI cB s) (hP : va_P D vwCl (wM cI cB ad g t gl b tb) H) (hdg : decode cc pc = .ok (.arraylength, 1)) (k : W p l e R s m args below meth c H locs cells slots Q (F0 m (pc + 1) ls (.int 6 :: rest))) : W p l e R s m args below meth c H locs cells slots Q (F0 m pc ls (.ref (ad 11) :: rest)) := va_alen (v := 6) E.1 E.2.1 hK hP 11 0 rfl rfl rfl hdg k
theorem ml_12 {ad : Nat → Nat} {g t : Nat → Int32} {gl : Nat → Int64} {b tb : Nat → Nat → Int32} {i : Int32} (E : CallFix p m c cc nL s args Ts own) (hK : wK D cI cB s) (hP : va_P D vwCl (wM cI cB ad g t gl b tb) H) (hi : vp_in i 6) (hdg : decode cc pc = .ok (.iaload, 1)) (k : W p l e R s m args below meth c H locs cells slots Q (F0 m (pc + 1) ls (.int (tb 12 i.toNatClampNeg) :: rest))) : W p l e R s m args below meth c H locs cells slots Q (F0 m pc ls (.int i :: .ref (ad 12) :: rest)) := va_iald E.1 E.2.1 hK hP 12 0 rfl rfl hi hdg k
theorem ms_12 {ad : Nat → Nat} {g t : Nat → Int32} {gl : Nat → Int64} {b tb : Nat → Nat → Int32} {i v : Int32} (E : CallFix p m c cc nL s args Ts own) (hK : wK D cI cB s) (hP : va_P D vwCl (wM cI cB ad g t gl b tb) H) (hI : wI 20 ad) (hS : va_S (wA 20 ad) H0 H locs) (hi : vp_in i 6) (hdg : decode cc pc = .ok (.iastore, 1)) (kk : ∀ (H : Heap) (locs : List Loc), va_P D vwCl (wM cI cB ad g t gl b (uA tb 12 (upd (tb 12) i.toNatClampNeg v))) H → va_S (wA 20 ad) H0 H locs → W p l e R s m args below meth c H locs cells slots Q (F0 m (pc + 1) ls rest)) : W p l e R s m args below meth c H locs cells slots Q (F0 m pc ls (.int v :: .int i :: .ref (ad 12) :: rest)) := va_iast E.1 E.2.1 hK hP (wM_D hI) hS 12 0 rfl rfl hi hdg (fun H1 locs1 hP1 _ hS1 => kk H1 locs1 hP1 hS1)
theorem mn_12 {ad : Nat → Nat} {g t : Nat → Int32} {gl : Nat → Int64} {b tb : Nat → Nat → Int32} (E : CallFix p m c cc nL s args Ts own) (hK : wK D cI cB s) (hP : va_P D vwCl (wM cI cB ad g t gl b tb) H) (hdg : decode cc pc = .ok (.arraylength, 1)) (k : W p l e R s m args below meth c H locs cells slots Q (F0 m (pc + 1) ls (.int 6 :: rest))) : W p l e R s m args below meth c H locs cells slots Q (F0 m pc ls (.ref (ad 12) :: rest)) := va_alen (v := 6) E.1 E.2.1 hK hP 12 0 rfl rfl rfl hdg k
theorem ml_13 {ad : Nat → Nat} {g t : Nat → Int32} {gl : Nat → Int64} {b tb : Nat → Nat → Int32} {i : Int32} (E : CallFix p m c cc nL s args Ts own) (hK : wK D cI cB s) (hP : va_P D vwCl (wM cI cB ad g t gl b tb) H) (hi : vp_in i 6) (hdg : decode cc pc = .ok (.iaload, 1)) (k : W p l e R s m args below meth c H locs cells slots Q (F0 m (pc + 1) ls (.int (b 13 i.toNatClampNeg) :: rest))) : W p l e R s m args below meth c H locs cells slots Q (F0 m pc ls (.int i :: .ref (ad 13) :: rest)) := va_iald E.1 E.2.1 hK hP 13 0 rfl rfl hi hdg k
theorem ms_13 {ad : Nat → Nat} {g t : Nat → Int32} {gl : Nat → Int64} {b tb : Nat → Nat → Int32} {i v : Int32} (E : CallFix p m c cc nL s args Ts own) (hK : wK D cI cB s) (hP : va_P D vwCl (wM cI cB ad g t gl b tb) H) (hI : wI 20 ad) (hS : va_S (wA 20 ad) H0 H locs) (hi : vp_in i 6) (hdg : decode cc pc = .ok (.iastore, 1)) (kk : ∀ (H : Heap) (locs : List Loc), va_P D vwCl (wM cI cB ad g t gl (uA b 13 (upd (b 13) i.toNatClampNeg v)) tb) H → va_S (wA 20 ad) H0 H locs → W p l e R s m args below meth c H locs cells slots Q (F0 m (pc + 1) ls rest)) : W p l e R s m args below meth c H locs cells slots Q (F0 m pc ls (.int v :: .int i :: .ref (ad 13) :: rest)) := va_iast E.1 E.2.1 hK hP (wM_D hI) hS 13 0 rfl rfl hi hdg (fun H1 locs1 hP1 _ hS1 => kk H1 locs1 hP1 hS1)
theorem mn_13 {ad : Nat → Nat} {g t : Nat → Int32} {gl : Nat → Int64} {b tb : Nat → Nat → Int32} (E : CallFix p m c cc nL s args Ts own) (hK : wK D cI cB s) (hP : va_P D vwCl (wM cI cB ad g t gl b tb) H) (hdg : decode cc pc = .ok (.arraylength, 1)) (k : W p l e R s m args below meth c H locs cells slots Q (F0 m (pc + 1) ls (.int 6 :: rest))) : W p l e R s m args below meth c H locs cells slots Q (F0 m pc ls (.ref (ad 13) :: rest)) := va_alen (v := 6) E.1 E.2.1 hK hP 13 0 rfl rfl rfl hdg k
theorem ml_14 {ad : Nat → Nat} {g t : Nat → Int32} {gl : Nat → Int64} {b tb : Nat → Nat → Int32} {i : Int32} (E : CallFix p m c cc nL s args Ts own) (hK : wK D cI cB s) (hP : va_P D vwCl (wM cI cB ad g t gl b tb) H) (hi : vp_in i 6) (hdg : decode cc pc = .ok (.iaload, 1)) (k : W p l e R s m args below meth c H locs cells slots Q (F0 m (pc + 1) ls (.int (b 14 i.toNatClampNeg) :: rest))) : W p l e R s m args below meth c H locs cells slots Q (F0 m pc ls (.int i :: .ref (ad 14) :: rest)) := va_iald E.1 E.2.1 hK hP 14 0 rfl rfl hi hdg k
theorem ms_14 {ad : Nat → Nat} {g t : Nat → Int32} {gl : Nat → Int64} {b tb : Nat → Nat → Int32} {i v : Int32} (E : CallFix p m c cc nL s args Ts own) (hK : wK D cI cB s) (hP : va_P D vwCl (wM cI cB ad g t gl b tb) H) (hI : wI 20 ad) (hS : va_S (wA 20 ad) H0 H locs) (hi : vp_in i 6) (hdg : decode cc pc = .ok (.iastore, 1)) (kk : ∀ (H : Heap) (locs : List Loc), va_P D vwCl (wM cI cB ad g t gl (uA b 14 (upd (b 14) i.toNatClampNeg v)) tb) H → va_S (wA 20 ad) H0 H locs → W p l e R s m args below meth c H locs cells slots Q (F0 m (pc + 1) ls rest)) : W p l e R s m args below meth c H locs cells slots Q (F0 m pc ls (.int v :: .int i :: .ref (ad 14) :: rest)) := va_iast E.1 E.2.1 hK hP (wM_D hI) hS 14 0 rfl rfl hi hdg (fun H1 locs1 hP1 _ hS1 => kk H1 locs1 hP1 hS1)
theorem mn_14 {ad : Nat → Nat} {g t : Nat → Int32} {gl : Nat → Int64} {b tb : Nat → Nat → Int32} (E : CallFix p m c cc nL s args Ts own) (hK : wK D cI cB s) (hP : va_P D vwCl (wM cI cB ad g t gl b tb) H) (hdg : decode cc pc = .ok (.arraylength, 1)) (k : W p l e R s m args below meth c H locs cells slots Q (F0 m (pc + 1) ls (.int 6 :: rest))) : W p l e R s m args below meth c H locs cells slots Q (F0 m pc ls (.ref (ad 14) :: rest)) := va_alen (v := 6) E.1 E.2.1 hK hP 14 0 rfl rfl rfl hdg k
theorem ml_15 {ad : Nat → Nat} {g t : Nat → Int32} {gl : Nat → Int64} {b tb : Nat → Nat → Int32} {i : Int32} (E : CallFix p m c cc nL s args Ts own) (hK : wK D cI cB s) (hP : va_P D vwCl (wM cI cB ad g t gl b tb) H) (hi : vp_in i 6) (hdg : decode cc pc = .ok (.iaload, 1)) (k : W p l e R s m args below meth c H locs cells slots Q (F0 m (pc + 1) ls (.int (b 15 i.toNatClampNeg) :: rest))) : W p l e R s m args below meth c H locs cells slots Q (F0 m pc ls (.int i :: .ref (ad 15) :: rest)) := va_iald E.1 E.2.1 hK hP 15 0 rfl rfl hi hdg k
theorem ms_15 {ad : Nat → Nat} {g t : Nat → Int32} {gl : Nat → Int64} {b tb : Nat → Nat → Int32} {i v : Int32} (E : CallFix p m c cc nL s args Ts own) (hK : wK D cI cB s) (hP : va_P D vwCl (wM cI cB ad g t gl b tb) H) (hI : wI 20 ad) (hS : va_S (wA 20 ad) H0 H locs) (hi : vp_in i 6) (hdg : decode cc pc = .ok (.iastore, 1)) (kk : ∀ (H : Heap) (locs : List Loc), va_P D vwCl (wM cI cB ad g t gl (uA b 15 (upd (b 15) i.toNatClampNeg v)) tb) H → va_S (wA 20 ad) H0 H locs → W p l e R s m args below meth c H locs cells slots Q (F0 m (pc + 1) ls rest)) : W p l e R s m args below meth c H locs cells slots Q (F0 m pc ls (.int v :: .int i :: .ref (ad 15) :: rest)) := va_iast E.1 E.2.1 hK hP (wM_D hI) hS 15 0 rfl rfl hi hdg (fun H1 locs1 hP1 _ hS1 => kk H1 locs1 hP1 hS1)
theorem mn_15 {ad : Nat → Nat} {g t : Nat → Int32} {gl : Nat → Int64} {b tb : Nat → Nat → Int32} (E : CallFix p m c cc nL s args Ts own) (hK : wK D cI cB s) (hP : va_P D vwCl (wM cI cB ad g t gl b tb) H) (hdg : decode cc pc = .ok (.arraylength, 1)) (k : W p l e R s m args below meth c H locs cells slots Q (F0 m (pc + 1) ls (.int 6 :: rest))) : W p l e R s m args below meth c H locs cells slots Q (F0 m pc ls (.ref (ad 15) :: rest)) := va_alen (v := 6) E.1 E.2.1 hK hP 15 0 rfl rfl rfl hdg k
theorem ml_16 {ad : Nat → Nat} {g t : Nat → Int32} {gl : Nat → Int64} {b tb : Nat → Nat → Int32} {i : Int32} (E : CallFix p m c cc nL s args Ts own) (hK : wK D cI cB s) (hP : va_P D vwCl (wM cI cB ad g t gl b tb) H) (hi : vp_in i 6) (hdg : decode cc pc = .ok (.iaload, 1)) (k : W p l e R s m args below meth c H locs cells slots Q (F0 m (pc + 1) ls (.int (b 16 i.toNatClampNeg) :: rest))) : W p l e R s m args below meth c H locs cells slots Q (F0 m pc ls (.int i :: .ref (ad 16) :: rest)) := va_iald E.1 E.2.1 hK hP 16 0 rfl rfl hi hdg k
theorem ms_16 {ad : Nat → Nat} {g t : Nat → Int32} {gl : Nat → Int64} {b tb : Nat → Nat → Int32} {i v : Int32} (E : CallFix p m c cc nL s args Ts own) (hK : wK D cI cB s) (hP : va_P D vwCl (wM cI cB ad g t gl b tb) H) (hI : wI 20 ad) (hS : va_S (wA 20 ad) H0 H locs) (hi : vp_in i 6) (hdg : decode cc pc = .ok (.iastore, 1)) (kk : ∀ (H : Heap) (locs : List Loc), va_P D vwCl (wM cI cB ad g t gl (uA b 16 (upd (b 16) i.toNatClampNeg v)) tb) H → va_S (wA 20 ad) H0 H locs → W p l e R s m args below meth c H locs cells slots Q (F0 m (pc + 1) ls rest)) : W p l e R s m args below meth c H locs cells slots Q (F0 m pc ls (.int v :: .int i :: .ref (ad 16) :: rest)) := va_iast E.1 E.2.1 hK hP (wM_D hI) hS 16 0 rfl rfl hi hdg (fun H1 locs1 hP1 _ hS1 => kk H1 locs1 hP1 hS1)
theorem mn_16 {ad : Nat → Nat} {g t : Nat → Int32} {gl : Nat → Int64} {b tb : Nat → Nat → Int32} (E : CallFix p m c cc nL s args Ts own) (hK : wK D cI cB s) (hP : va_P D vwCl (wM cI cB ad g t gl b tb) H) (hdg : decode cc pc = .ok (.arraylength, 1)) (k : W p l e R s m args below meth c H locs cells slots Q (F0 m (pc + 1) ls (.int 6 :: rest))) : W p l e R s m args below meth c H locs cells slots Q (F0 m pc ls (.ref (ad 16) :: rest)) := va_alen (v := 6) E.1 E.2.1 hK hP 16 0 rfl rfl rfl hdg k
theorem ml_17 {ad : Nat → Nat} {g t : Nat → Int32} {gl : Nat → Int64} {b tb : Nat → Nat → Int32} {i : Int32} (E : CallFix p m c cc nL s args Ts own) (hK : wK D cI cB s) (hP : va_P D vwCl (wM cI cB ad g t gl b tb) H) (hi : vp_in i 6) (hdg : decode cc pc = .ok (.iaload, 1)) (k : W p l e R s m args below meth c H locs cells slots Q (F0 m (pc + 1) ls (.int (b 17 i.toNatClampNeg) :: rest))) : W p l e R s m args below meth c H locs cells slots Q (F0 m pc ls (.int i :: .ref (ad 17) :: rest)) := va_iald E.1 E.2.1 hK hP 17 0 rfl rfl hi hdg k
theorem ms_17 {ad : Nat → Nat} {g t : Nat → Int32} {gl : Nat → Int64} {b tb : Nat → Nat → Int32} {i v : Int32} (E : CallFix p m c cc nL s args Ts own) (hK : wK D cI cB s) (hP : va_P D vwCl (wM cI cB ad g t gl b tb) H) (hI : wI 20 ad) (hS : va_S (wA 20 ad) H0 H locs) (hi : vp_in i 6) (hdg : decode cc pc = .ok (.iastore, 1)) (kk : ∀ (H : Heap) (locs : List Loc), va_P D vwCl (wM cI cB ad g t gl (uA b 17 (upd (b 17) i.toNatClampNeg v)) tb) H → va_S (wA 20 ad) H0 H locs → W p l e R s m args below meth c H locs cells slots Q (F0 m (pc + 1) ls rest)) : W p l e R s m args below meth c H locs cells slots Q (F0 m pc ls (.int v :: .int i :: .ref (ad 17) :: rest)) := va_iast E.1 E.2.1 hK hP (wM_D hI) hS 17 0 rfl rfl hi hdg (fun H1 locs1 hP1 _ hS1 => kk H1 locs1 hP1 hS1)
theorem mn_17 {ad : Nat → Nat} {g t : Nat → Int32} {gl : Nat → Int64} {b tb : Nat → Nat → Int32} (E : CallFix p m c cc nL s args Ts own) (hK : wK D cI cB s) (hP : va_P D vwCl (wM cI cB ad g t gl b tb) H) (hdg : decode cc pc = .ok (.arraylength, 1)) (k : W p l e R s m args below meth c H locs cells slots Q (F0 m (pc + 1) ls (.int 6 :: rest))) : W p l e R s m args below meth c H locs cells slots Q (F0 m pc ls (.ref (ad 17) :: rest)) := va_alen (v := 6) E.1 E.2.1 hK hP 17 0 rfl rfl rfl hdg k
theorem ml_18 {ad : Nat → Nat} {g t : Nat → Int32} {gl : Nat → Int64} {b tb : Nat → Nat → Int32} {i : Int32} (E : CallFix p m c cc nL s args Ts own) (hK : wK D cI cB s) (hP : va_P D vwCl (wM cI cB ad g t gl b tb) H) (hi : vp_in i 6) (hdg : decode cc pc = .ok (.iaload, 1)) (k : W p l e R s m args below meth c H locs cells slots Q (F0 m (pc + 1) ls (.int (b 18 i.toNatClampNeg) :: rest))) : W p l e R s m args below meth c H locs cells slots Q (F0 m pc ls (.int i :: .ref (ad 18) :: rest)) := va_iald E.1 E.2.1 hK hP 18 0 rfl rfl hi hdg k
theorem ms_18 {ad : Nat → Nat} {g t : Nat → Int32} {gl : Nat → Int64} {b tb : Nat → Nat → Int32} {i v : Int32} (E : CallFix p m c cc nL s args Ts own) (hK : wK D cI cB s) (hP : va_P D vwCl (wM cI cB ad g t gl b tb) H) (hI : wI 20 ad) (hS : va_S (wA 20 ad) H0 H locs) (hi : vp_in i 6) (hdg : decode cc pc = .ok (.iastore, 1)) (kk : ∀ (H : Heap) (locs : List Loc), va_P D vwCl (wM cI cB ad g t gl (uA b 18 (upd (b 18) i.toNatClampNeg v)) tb) H → va_S (wA 20 ad) H0 H locs → W p l e R s m args below meth c H locs cells slots Q (F0 m (pc + 1) ls rest)) : W p l e R s m args below meth c H locs cells slots Q (F0 m pc ls (.int v :: .int i :: .ref (ad 18) :: rest)) := va_iast E.1 E.2.1 hK hP (wM_D hI) hS 18 0 rfl rfl hi hdg (fun H1 locs1 hP1 _ hS1 => kk H1 locs1 hP1 hS1)
theorem mn_18 {ad : Nat → Nat} {g t : Nat → Int32} {gl : Nat → Int64} {b tb : Nat → Nat → Int32} (E : CallFix p m c cc nL s args Ts own) (hK : wK D cI cB s) (hP : va_P D vwCl (wM cI cB ad g t gl b tb) H) (hdg : decode cc pc = .ok (.arraylength, 1)) (k : W p l e R s m args below meth c H locs cells slots Q (F0 m (pc + 1) ls (.int 6 :: rest))) : W p l e R s m args below meth c H locs cells slots Q (F0 m pc ls (.ref (ad 18) :: rest)) := va_alen (v := 6) E.1 E.2.1 hK hP 18 0 rfl rfl rfl hdg k
theorem ml_19 {ad : Nat → Nat} {g t : Nat → Int32} {gl : Nat → Int64} {b tb : Nat → Nat → Int32} {i : Int32} (E : CallFix p m c cc nL s args Ts own) (hK : wK D cI cB s) (hP : va_P D vwCl (wM cI cB ad g t gl b tb) H) (hi : vp_in i 6) (hdg : decode cc pc = .ok (.iaload, 1)) (k : W p l e R s m args below meth c H locs cells slots Q (F0 m (pc + 1) ls (.int (b 19 i.toNatClampNeg) :: rest))) : W p l e R s m args below meth c H locs cells slots Q (F0 m pc ls (.int i :: .ref (ad 19) :: rest)) := va_iald E.1 E.2.1 hK hP 19 0 rfl rfl hi hdg k
theorem ms_19 {ad : Nat → Nat} {g t : Nat → Int32} {gl : Nat → Int64} {b tb : Nat → Nat → Int32} {i v : Int32} (E : CallFix p m c cc nL s args Ts own) (hK : wK D cI cB s) (hP : va_P D vwCl (wM cI cB ad g t gl b tb) H) (hI : wI 20 ad) (hS : va_S (wA 20 ad) H0 H locs) (hi : vp_in i 6) (hdg : decode cc pc = .ok (.iastore, 1)) (kk : ∀ (H : Heap) (locs : List Loc), va_P D vwCl (wM cI cB ad g t gl (uA b 19 (upd (b 19) i.toNatClampNeg v)) tb) H → va_S (wA 20 ad) H0 H locs → W p l e R s m args below meth c H locs cells slots Q (F0 m (pc + 1) ls rest)) : W p l e R s m args below meth c H locs cells slots Q (F0 m pc ls (.int v :: .int i :: .ref (ad 19) :: rest)) := va_iast E.1 E.2.1 hK hP (wM_D hI) hS 19 0 rfl rfl hi hdg (fun H1 locs1 hP1 _ hS1 => kk H1 locs1 hP1 hS1)
theorem mn_19 {ad : Nat → Nat} {g t : Nat → Int32} {gl : Nat → Int64} {b tb : Nat → Nat → Int32} (E : CallFix p m c cc nL s args Ts own) (hK : wK D cI cB s) (hP : va_P D vwCl (wM cI cB ad g t gl b tb) H) (hdg : decode cc pc = .ok (.arraylength, 1)) (k : W p l e R s m args below meth c H locs cells slots Q (F0 m (pc + 1) ls (.int 6 :: rest))) : W p l e R s m args below meth c H locs cells slots Q (F0 m pc ls (.ref (ad 19) :: rest)) := va_alen (v := 6) E.1 E.2.1 hK hP 19 0 rfl rfl rfl hdg k
end WROWS
end
section
/-- a contract's start, over a world of cells; nothing is asked of the heap beside it -/
def GPc (D : va_G) (cI cB : ClassId) (ws : va_W) (av : List Value) : Array Value → State → Prop := va_Pc av (fun U => va_P D vwCl ws U.heap ∧ wK D cI cB U)
theorem GPc_blind {D : va_G} {cI cB : ClassId} {ws : va_W} {av : List Value} : FrameBlind (GPc D cI cB ws av) := fun a U g mk q => by
  obtain ⟨q0, qP, qK⟩ := q
  exact ⟨q0, qP, va_K.moved (u := U) (U := U.calling g mk a) (Vm.Alike.refl U.vm) qK⟩
/-- a method that reads, and answers the long r -/
def QcL (r : Int64) : Array Value → State → Outcome → State → Prop := vp_Sl (fun z => z = r)
section GCALLS
variable {p : Program} {l : Launch} {e : Env} {R : Room} {s : State} {m : MethodId} {args : Array Value} {below : List Frame} {meth : Method} {c : Code} {H H0 : Heap} {locs : List Loc} {cells slots : Nat} {Q : State → Prop} {pc : Nat} {ls : Array Slot} {rest st : List Value} {cc bytes : ByteArray} {nL maxL n index : Nat} {ret : Option FieldType} {Ts wsy : List Cond} {own C : String} {D : va_G} {cI cB : ClassId} {ws : va_W} {y : MethodName} {rm : Room} {As : List Value} {b : Nat} {r : Int32} {rl : Int64}
theorem g_VR (E : CallFix p m c cc nL s args Ts own) (hK : wK D cI cB s) (hP : va_P D vwCl ws H) (hM : Met l y wsy rm (GPc D cI cB ws (.ref b :: As)) (QcRead r) 0 0 (fun _ => False)) (cw : CallW R s args own C index y bytes maxL ret wsy rm 0 0 n) (hrc : ∃ cell : Cell, H[b]? = some cell ∧ cell.vm.isStatics = false ∧ s.vm.findClass C = some cell.cls) (hn : As.length = n) (hsz : ls.size = nL) (hst : st = As.reverse ++ .ref b :: rest) (hW : (rest.map fun v => v.category).sum ≤ 8) (hdg : decode cc pc = .ok (.invokevirtual index, 3)) (hf : cells ≤ R.cells ∧ slots ≤ R.slots)
    (k : W p l e R s m args below meth c H locs cells slots Q (F0 m (pc + 3) ls (.int r :: rest))) : W p l e R s m args below meth c H locs cells slots Q (F0 m pc ls st) :=
  W.callR (W.runV (g := F0 m pc ls st) E hM cw ⟨GPc_blind, hrc, fun U hU hW => ⟨rfl, by rw [hU]; exact hP, va_K.moved hW.alike hK⟩⟩ rfl hn hsz hst (lv_room hW) hdg hf) k
theorem g_SR (E : CallFix p m c cc nL s args Ts own) (hK : wK D cI cB s) (hM : Met l y wsy rm (GPc D cI cB [] As) (QcRead r) 0 0 (fun _ => False)) (cw : CallB R s args own index y bytes maxL ret wsy rm 0 0 n ∧ (Cond.static y).before args s = true) (hn : As.length = n) (hsz : ls.size = nL) (hst : st = As.reverse ++ rest) (hW : (rest.map fun v => v.category).sum ≤ 8) (hdg : decode cc pc = .ok (.invokestatic index, 3)) (hf : cells ≤ R.cells ∧ slots ≤ R.slots)
    (k : W p l e R s m args below meth c H locs cells slots Q (F0 m (pc + 3) ls (.int r :: rest))) : W p l e R s m args below meth c H locs cells slots Q (F0 m pc ls st) :=
  W.callR (W.runS (g := F0 m pc ls st) E hM cw ⟨GPc_blind, fun U hU hW => ⟨rfl, fun k q h => by simp at h, va_K.moved hW.alike hK⟩⟩ rfl hn hsz hst (lv_room hW) hdg hf) k
theorem g_SL (E : CallFix p m c cc nL s args Ts own) (hK : wK D cI cB s) (hM : Met l y wsy rm (GPc D cI cB [] As) (QcL rl) 0 0 (fun _ => False)) (cw : CallB R s args own index y bytes maxL ret wsy rm 0 0 n ∧ (Cond.static y).before args s = true) (hn : As.length = n) (hsz : ls.size = nL) (hst : st = As.reverse ++ rest) (hW : (rest.map fun v => v.category).sum ≤ 8) (hdg : decode cc pc = .ok (.invokestatic index, 3)) (hf : cells ≤ R.cells ∧ slots ≤ R.slots)
    (k : W p l e R s m args below meth c H locs cells slots Q (F0 m (pc + 3) ls (.long rl :: rest))) : W p l e R s m args below meth c H locs cells slots Q (F0 m pc ls st) :=
  vp_callSl (W.runS (g := F0 m pc ls st) E hM cw ⟨GPc_blind, fun U hU hW => ⟨rfl, fun k q h => by simp at h, va_K.moved hW.alike hK⟩⟩ rfl hn hsz hst (lv_room hW) hdg hf) (fun z hz => by subst hz; exact k)
theorem g_VL (E : CallFix p m c cc nL s args Ts own) (hK : wK D cI cB s) (hP : va_P D vwCl ws H) (hM : Met l y wsy rm (GPc D cI cB ws (.ref b :: As)) (QcL rl) 0 0 (fun _ => False)) (cw : CallW R s args own C index y bytes maxL ret wsy rm 0 0 n) (hrc : ∃ cell : Cell, H[b]? = some cell ∧ cell.vm.isStatics = false ∧ s.vm.findClass C = some cell.cls) (hn : As.length = n) (hsz : ls.size = nL) (hst : st = As.reverse ++ .ref b :: rest) (hW : (rest.map fun v => v.category).sum ≤ 8) (hdg : decode cc pc = .ok (.invokevirtual index, 3)) (hf : cells ≤ R.cells ∧ slots ≤ R.slots)
    (k : W p l e R s m args below meth c H locs cells slots Q (F0 m (pc + 3) ls (.long rl :: rest))) : W p l e R s m args below meth c H locs cells slots Q (F0 m pc ls st) :=
  vp_callSl (W.runV (g := F0 m pc ls st) E hM cw ⟨GPc_blind, hrc, fun U hU hW => ⟨rfl, by rw [hU]; exact hP, va_K.moved hW.alike hK⟩⟩ rfl hn hsz hst (lv_room hW) hdg hf) (fun z hz => by subst hz; exact k)
/-- methods that write: the world behind them is 'wu u', the cells A1 may have changed -/
theorem g_VWi {S : Type} {post : Int32 → S → Prop} {wu : S → va_W} {A0 A1 : Nat → Prop} (E : CallFix p m c cc nL s args Ts own) (hK : wK D cI cB s) (hP : va_P D vwCl ws H) (hS : va_S A0 H0 H locs) (hA : ∀ q, A1 q → A0 q) (hM : Met l y wsy rm (GPc D cI cB ws (.ref b :: As)) (va_Qi post (fun u t => va_P D vwCl (wu u) t.heap) A1) 0 0 A1) (cw : CallW R s args own C index y bytes maxL ret wsy rm 0 0 n) (hrc : ∃ cell : Cell, H[b]? = some cell ∧ cell.vm.isStatics = false ∧ s.vm.findClass C = some cell.cls) (hn : As.length = n) (hsz : ls.size = nL) (hst : st = As.reverse ++ .ref b :: rest) (hW : (rest.map fun v => v.category).sum ≤ 8) (hdg : decode cc pc = .ok (.invokevirtual index, 3)) (hf : cells ≤ R.cells ∧ slots ≤ R.slots)
    (kk : ∀ (r : Int32) (u : S) (H1 : Heap) (locs1 : List Loc), post r u → va_P D vwCl (wu u) H1 → (∀ q : Nat, q < H.size → ¬ A1 q → H1[q]? = H[q]?) → va_S A0 H0 H1 locs1 → W p l e R s m args below meth c H1 locs1 cells slots Q (F0 m (pc + 3) ls (.int r :: rest))) : W p l e R s m args below meth c H locs cells slots Q (F0 m pc ls st) :=
  va_calli (va_runV (g := F0 m pc ls st) E hM cw ⟨GPc_blind, hrc, fun U hU hW => ⟨rfl, by rw [hU]; exact hP, va_K.moved hW.alike hK⟩⟩ rfl hn hsz hst (lv_room hW) hdg hf) hS (fun q _ h => hA q h) (fun q h => hA q h) (fun r u t H1 locs1 ht _ hp hB _ hk hS1 => kk r u H1 locs1 hp (by rw [← ht]; exact hB) hk hS1)
theorem g_VWl {S : Type} {post : Int64 → S → Prop} {wu : S → va_W} {A0 A1 : Nat → Prop} (E : CallFix p m c cc nL s args Ts own) (hK : wK D cI cB s) (hP : va_P D vwCl ws H) (hS : va_S A0 H0 H locs) (hA : ∀ q, A1 q → A0 q) (hM : Met l y wsy rm (GPc D cI cB ws (.ref b :: As)) (va_Ql post (fun u t => va_P D vwCl (wu u) t.heap) A1) 0 0 A1) (cw : CallW R s args own C index y bytes maxL ret wsy rm 0 0 n) (hrc : ∃ cell : Cell, H[b]? = some cell ∧ cell.vm.isStatics = false ∧ s.vm.findClass C = some cell.cls) (hn : As.length = n) (hsz : ls.size = nL) (hst : st = As.reverse ++ .ref b :: rest) (hW : (rest.map fun v => v.category).sum ≤ 8) (hdg : decode cc pc = .ok (.invokevirtual index, 3)) (hf : cells ≤ R.cells ∧ slots ≤ R.slots)
    (kk : ∀ (r : Int64) (u : S) (H1 : Heap) (locs1 : List Loc), post r u → va_P D vwCl (wu u) H1 → (∀ q : Nat, q < H.size → ¬ A1 q → H1[q]? = H[q]?) → va_S A0 H0 H1 locs1 → W p l e R s m args below meth c H1 locs1 cells slots Q (F0 m (pc + 3) ls (.long r :: rest))) : W p l e R s m args below meth c H locs cells slots Q (F0 m pc ls st) :=
  va_calll (va_runV (g := F0 m pc ls st) E hM cw ⟨GPc_blind, hrc, fun U hU hW => ⟨rfl, by rw [hU]; exact hP, va_K.moved hW.alike hK⟩⟩ rfl hn hsz hst (lv_room hW) hdg hf) hS (fun q _ h => hA q h) (fun q h => hA q h) (fun r u t H1 locs1 ht _ hp hB _ hk hS1 => kk r u H1 locs1 hp (by rw [← ht]; exact hB) hk hS1)
theorem g_VWv {S : Type} {post : S → Prop} {wu : S → va_W} {A0 A1 : Nat → Prop} (E : CallFix p m c cc nL s args Ts own) (hK : wK D cI cB s) (hP : va_P D vwCl ws H) (hS : va_S A0 H0 H locs) (hA : ∀ q, A1 q → A0 q) (hM : Met l y wsy rm (GPc D cI cB ws (.ref b :: As)) (va_Qv post (fun u t => va_P D vwCl (wu u) t.heap) A1) 0 0 A1) (cw : CallW R s args own C index y bytes maxL ret wsy rm 0 0 n) (hrc : ∃ cell : Cell, H[b]? = some cell ∧ cell.vm.isStatics = false ∧ s.vm.findClass C = some cell.cls) (hn : As.length = n) (hsz : ls.size = nL) (hst : st = As.reverse ++ .ref b :: rest) (hW : (rest.map fun v => v.category).sum ≤ 8) (hdg : decode cc pc = .ok (.invokevirtual index, 3)) (hf : cells ≤ R.cells ∧ slots ≤ R.slots)
    (kk : ∀ (u : S) (H1 : Heap) (locs1 : List Loc), post u → va_P D vwCl (wu u) H1 → (∀ q : Nat, q < H.size → ¬ A1 q → H1[q]? = H[q]?) → va_S A0 H0 H1 locs1 → W p l e R s m args below meth c H1 locs1 cells slots Q (F0 m (pc + 3) ls rest)) : W p l e R s m args below meth c H locs cells slots Q (F0 m pc ls st) :=
  va_callv (va_runV (g := F0 m pc ls st) E hM cw ⟨GPc_blind, hrc, fun U hU hW => ⟨rfl, by rw [hU]; exact hP, va_K.moved hW.alike hK⟩⟩ rfl hn hsz hst (lv_room hW) hdg hf) hS (fun q _ h => hA q h) (fun q h => hA q h) (fun u t H1 locs1 ht _ hp hB _ hk hS1 => kk u H1 locs1 hp (by rw [← ht]; exact hB) hk hS1)
end GCALLS
/-- the receivers -/
theorem rx {D : va_G} {cI cB : ClassId} {ad : Nat → Nat} {f : Nat → Int32} {a ta : Nat → Nat → Int32} {s : State} {H : Heap} (hK : wK D cI cB s) (hP : va_P D vwCl (wX cI ad f a ta) H) : ∃ cell : Cell, H[ad 0]? = some cell ∧ cell.vm.isStatics = false ∧ s.vm.findClass RX2 = some cell.cls := va_recv hK hP (ci := 2) (q0 := 0) rfl rfl
theorem rxp {D : va_G} {cI cB : ClassId} {ad : Nat → Nat} {f : Nat → Int32} {a ta : Nat → Nat → Int32} {s : State} {H : Heap} (hK : wK D cI cB s) (hP : va_P D vwCl (wX cI ad f a ta) H) : ∃ cell : Cell, H[ad 1]? = some cell ∧ cell.vm.isStatics = false ∧ s.vm.findClass RX0 = some cell.cls := va_recv hK hP (ci := 0) (q0 := 1) rfl rfl
theorem rxn {D : va_G} {cI cB : ClassId} {ad : Nat → Nat} {f : Nat → Int32} {a ta : Nat → Nat → Int32} {s : State} {H : Heap} (hK : wK D cI cB s) (hP : va_P D vwCl (wX cI ad f a ta) H) : ∃ cell : Cell, H[ad 4]? = some cell ∧ cell.vm.isStatics = false ∧ s.vm.findClass RX1 = some cell.cls := va_recv hK hP (ci := 1) (q0 := 4) rfl rfl
theorem rxi {D : va_G} {cI cB : ClassId} {ad : Nat → Nat} {f : Nat → Int32} {a ta : Nat → Nat → Int32} {s : State} {H : Heap} (hK : wK D cI cB s) (hP : va_P D vwCl (wX cI ad f a ta) H) : ∃ cell : Cell, H[ad 5]? = some cell ∧ cell.vm.isStatics = false ∧ s.vm.findClass RX1 = some cell.cls := va_recv hK hP (ci := 1) (q0 := 5) rfl rfl
theorem rm0x {D : va_G} {cI cB : ClassId} {ad : Nat → Nat} {g t : Nat → Int32} {gl : Nat → Int64} {b tb : Nat → Nat → Int32} {s : State} {H : Heap} (hK : wK D cI cB s) (hP : va_P D vwCl (wM cI cB ad g t gl b tb) H) : ∃ cell : Cell, H[ad 0]? = some cell ∧ cell.vm.isStatics = false ∧ s.vm.findClass RX3 = some cell.cls := va_recv hK hP (ci := 3) (q0 := 0) rfl rfl
theorem ite10_0 {c : Prop} [Decidable c] (h : (if c then (1 : Int32) else 0) = 0) : ¬ c := by
  intro hc
  rw [if_pos hc] at h
  exact absurd h (by decide)
theorem ite10_1 {c : Prop} [Decidable c] (h : ¬ (if c then (1 : Int32) else 0) = 0) : c := by
  by_cases hc : c
  · exact hc
  · rw [if_neg hc] at h
    exact absurd rfl h
end
section
set_option maxRecDepth 20000 in
theorem wsL_law_r1_in : ∀ w ∈ wsL_law_r1, w ∈ lw_tbl := fun w h => (goodIn_p wsL_law_r1 [67, 70] (by decide +kernel) (by decide +kernel) w h).1
set_option maxRecDepth 20000 in
theorem wsL_law_r2_in : ∀ w ∈ wsL_law_r2, w ∈ lw_tbl := fun w h => (goodIn_p wsL_law_r2 [75, 90] (by decide +kernel) (by decide +kernel) w h).1
set_option maxRecDepth 20000 in
theorem wsL_law_r3_in : ∀ w ∈ wsL_law_r3, w ∈ lw_tbl := fun w h => (goodIn_p wsL_law_r3 [578] (by decide +kernel) (by decide +kernel) w h).1
set_option maxRecDepth 20000 in
theorem wsL_law_r4_in : ∀ w ∈ wsL_law_r4, w ∈ lw_tbl := fun w h => (goodIn_p wsL_law_r4 [179, 182, 186, 704, 707, 190] (by decide +kernel) (by decide +kernel) w h).1
set_option maxRecDepth 20000 in
theorem wsL_law_r5_in : ∀ w ∈ wsL_law_r5, w ∈ lw_tbl := fun w h => (goodIn_p wsL_law_r5 [194, 711, 198, 202, 206, 210] (by decide +kernel) (by decide +kernel) w h).1
set_option maxRecDepth 20000 in
theorem wsL_law_r6_in : ∀ w ∈ wsL_law_r6, w ∈ lw_tbl := fun w h => (goodIn_p wsL_law_r6 [215, 219, 223, 227, 233] (by decide +kernel) (by decide +kernel) w h).1
set_option maxRecDepth 20000 in
theorem wsL_law_r7_in : ∀ w ∈ wsL_law_r7, w ∈ lw_tbl := fun w h => (goodIn_p wsL_law_r7 [237, 240, 246, 249, 243, 252, 255] (by decide +kernel) (by decide +kernel) w h).1
set_option maxRecDepth 20000 in
theorem wsL_law_r8_in : ∀ w ∈ wsL_law_r8, w ∈ lw_tbl := fun w h => (goodIn_p wsL_law_r8 [261, 264, 267, 270, 275, 278] (by decide +kernel) (by decide +kernel) w h).1
set_option maxRecDepth 20000 in
theorem wsL_law_r9_in : ∀ w ∈ wsL_law_r9, w ∈ lw_tbl := fun w h => (goodIn_p wsL_law_r9 [281, 290, 293, 296, 300, 305] (by decide +kernel) (by decide +kernel) w h).1
set_option maxRecDepth 20000 in
theorem wsL_law_r10_in : ∀ w ∈ wsL_law_r10, w ∈ lw_tbl := fun w h => (goodIn_p wsL_law_r10 [310, 715, 719, 722, 726] (by decide +kernel) (by decide +kernel) w h).1
end
section
set_option maxRecDepth 20000 in
theorem wsL_law_r11_in : ∀ w ∈ wsL_law_r11, w ∈ lw_tbl := fun w h => (goodIn_p wsL_law_r11 [315, 319, 324, 328, 332, 336] (by decide +kernel) (by decide +kernel) w h).1
set_option maxRecDepth 20000 in
theorem wsL_law_r12_in : ∀ w ∈ wsL_law_r12, w ∈ lw_tbl := fun w h => (goodIn_p wsL_law_r12 [340, 344, 730] (by decide +kernel) (by decide +kernel) w h).1
set_option maxRecDepth 20000 in
theorem wsL_law_r13_in : ∀ w ∈ wsL_law_r13, w ∈ lw_tbl := fun w h => (goodIn_p wsL_law_r13 [348, 352, 356, 359, 363] (by decide +kernel) (by decide +kernel) w h).1
set_option maxRecDepth 20000 in
theorem wsL_law_r14_in : ∀ w ∈ wsL_law_r14, w ∈ lw_tbl := fun w h => (goodIn_p wsL_law_r14 [734, 738, 742, 746, 749, 753, 367] (by decide +kernel) (by decide +kernel) w h).1
set_option maxRecDepth 20000 in
theorem wsL_law_r15_in : ∀ w ∈ wsL_law_r15, w ∈ lw_tbl := fun w h => (goodIn_p wsL_law_r15 [370, 757, 374, 377, 381, 761] (by decide +kernel) (by decide +kernel) w h).1
set_option maxRecDepth 20000 in
theorem wsL_law_r16_in : ∀ w ∈ wsL_law_r16, w ∈ lw_tbl := fun w h => (goodIn_p wsL_law_r16 [764, 385, 768, 389, 772, 393] (by decide +kernel) (by decide +kernel) w h).1
set_option maxRecDepth 20000 in
theorem wsL_law_r17_in : ∀ w ∈ wsL_law_r17, w ∈ lw_tbl := fun w h => (goodIn_p wsL_law_r17 [397, 400, 404, 408, 776, 780] (by decide +kernel) (by decide +kernel) w h).1
set_option maxRecDepth 20000 in
theorem wsL_law_r18_in : ∀ w ∈ wsL_law_r18, w ∈ lw_tbl := fun w h => (goodIn_p wsL_law_r18 [784, 412, 416, 788, 792, 796] (by decide +kernel) (by decide +kernel) w h).1
set_option maxRecDepth 20000 in
theorem wsL_law_r19_in : ∀ w ∈ wsL_law_r19, w ∈ lw_tbl := fun w h => (goodIn_p wsL_law_r19 [421, 425, 429, 433, 436, 440] (by decide +kernel) (by decide +kernel) w h).1
set_option maxRecDepth 20000 in
theorem wsL_law_r20_in : ∀ w ∈ wsL_law_r20, w ∈ lw_tbl := fun w h => (goodIn_p wsL_law_r20 [443, 450, 800, 804, 808] (by decide +kernel) (by decide +kernel) w h).1
end
section
set_option maxRecDepth 20000 in
theorem wsL_law_r21_in : ∀ w ∈ wsL_law_r21, w ∈ lw_tbl := fun w h => (goodIn_p wsL_law_r21 [811, 814, 454, 458, 462, 466] (by decide +kernel) (by decide +kernel) w h).1
set_option maxRecDepth 20000 in
theorem wsL_law_r22_in : ∀ w ∈ wsL_law_r22, w ∈ lw_tbl := fun w h => (goodIn_p wsL_law_r22 [818, 822, 826, 470, 474, 830] (by decide +kernel) (by decide +kernel) w h).1
set_option maxRecDepth 20000 in
theorem wsL_law_r23_in : ∀ w ∈ wsL_law_r23, w ∈ lw_tbl := fun w h => (goodIn_p wsL_law_r23 [478, 834, 482, 486, 490] (by decide +kernel) (by decide +kernel) w h).1
set_option maxRecDepth 20000 in
theorem wsL_law_r24_in : ∀ w ∈ wsL_law_r24, w ∈ lw_tbl := fun w h => (goodIn_p wsL_law_r24 [838, 842, 846, 494, 498, 502] (by decide +kernel) (by decide +kernel) w h).1
set_option maxRecDepth 20000 in
theorem wsL_law_r25_in : ∀ w ∈ wsL_law_r25, w ∈ lw_tbl := fun w h => (goodIn_p wsL_law_r25 [506, 510, 850, 854, 859, 514] (by decide +kernel) (by decide +kernel) w h).1
set_option maxRecDepth 20000 in
theorem wsL_law_r26_in : ∀ w ∈ wsL_law_r26, w ∈ lw_tbl := fun w h => (goodIn_p wsL_law_r26 [520, 526, 531, 535] (by decide +kernel) (by decide +kernel) w h).1
set_option maxRecDepth 20000 in
theorem wsL_law_r27_in : ∀ w ∈ wsL_law_r27, w ∈ lw_tbl := fun w h => (goodIn_p wsL_law_r27 [863, 867, 871, 879, 539] (by decide +kernel) (by decide +kernel) w h).1
set_option maxRecDepth 20000 in
theorem wsL_law_r28_in : ∀ w ∈ wsL_law_r28, w ∈ lw_tbl := fun w h => (goodIn_p wsL_law_r28 [543, 546, 883, 552] (by decide +kernel) (by decide +kernel) w h).1
set_option maxRecDepth 20000 in
theorem wsL_law_r29_in : ∀ w ∈ wsL_law_r29, w ∈ lw_tbl := fun w h => (goodIn_p wsL_law_r29 [887, 556, 891, 895, 560] (by decide +kernel) (by decide +kernel) w h).1
set_option maxRecDepth 20000 in
theorem wsL_law_r30_in : ∀ w ∈ wsL_law_r30, w ∈ lw_tbl := fun w h => (goodIn_p wsL_law_r30 [565, 899, 904] (by decide +kernel) (by decide +kernel) w h).1
end
section
set_option maxRecDepth 20000 in
theorem inX0 : ∀ w ∈ wsX00, w ∈ lw_tbl := fun w h => (goodIn_p wsX00 [] (by decide +kernel) (by decide +kernel) w h).1
set_option maxRecDepth 20000 in
theorem inX1 : ∀ w ∈ wsX10, w ∈ lw_tbl := fun w h => (goodIn_p wsX10 [] (by decide +kernel) (by decide +kernel) w h).1
set_option maxRecDepth 20000 in
theorem inX2 : ∀ w ∈ wsX20, w ∈ lw_tbl := fun w h => (goodIn_p wsX20 [] (by decide +kernel) (by decide +kernel) w h).1
set_option maxRecDepth 20000 in
theorem inX3 : ∀ w ∈ wsX30, w ∈ lw_tbl := fun w h => (goodIn_p wsX30 [] (by decide +kernel) (by decide +kernel) w h).1
theorem wsL_law_in : ∀ w ∈ wsL_law, w ∈ lw_tbl := fun w h => (List.mem_append.mp h).elim (fun h => (List.mem_append.mp h).elim (fun h => (List.mem_append.mp h).elim (fun h => (List.mem_append.mp h).elim (fun h => (List.mem_append.mp h).elim (fun h => (List.mem_append.mp h).elim (fun h => wsL_law_r1_in w h) (fun h => (List.mem_append.mp h).elim (fun h => wsL_law_r2_in w h) (fun h => (List.mem_append.mp h).elim (fun h => wsL_law_r3_in w h) (fun h => (List.mem_append.mp h).elim (fun h => wsL_law_r4_in w h) (fun h => (List.mem_append.mp h).elim (fun h => wsL_law_r5_in w h) (fun h => (List.mem_append.mp h).elim (fun h => wsL_law_r6_in w h) (fun h => (List.mem_append.mp h).elim (fun h => wsL_law_r7_in w h) (fun h => (List.mem_append.mp h).elim (fun h => wsL_law_r8_in w h) (fun h => (List.mem_append.mp h).elim (fun h => wsL_law_r9_in w h) (fun h => (List.mem_append.mp h).elim (fun h => wsL_law_r10_in w h) (fun h => (List.mem_append.mp h).elim (fun h => wsL_law_r11_in w h) (fun h => (List.mem_append.mp h).elim (fun h => wsL_law_r12_in w h) (fun h => (List.mem_append.mp h).elim (fun h => wsL_law_r13_in w h) (fun h => (List.mem_append.mp h).elim (fun h => wsL_law_r14_in w h) (fun h => (List.mem_append.mp h).elim (fun h => wsL_law_r15_in w h) (fun h => (List.mem_append.mp h).elim (fun h => wsL_law_r16_in w h) (fun h => (List.mem_append.mp h).elim (fun h => wsL_law_r17_in w h) (fun h => (List.mem_append.mp h).elim (fun h => wsL_law_r18_in w h) (fun h => (List.mem_append.mp h).elim (fun h => wsL_law_r19_in w h) (fun h => (List.mem_append.mp h).elim (fun h => wsL_law_r20_in w h) (fun h => (List.mem_append.mp h).elim (fun h => wsL_law_r21_in w h) (fun h => (List.mem_append.mp h).elim (fun h => wsL_law_r22_in w h) (fun h => (List.mem_append.mp h).elim (fun h => wsL_law_r23_in w h) (fun h => (List.mem_append.mp h).elim (fun h => wsL_law_r24_in w h) (fun h => (List.mem_append.mp h).elim (fun h => wsL_law_r25_in w h) (fun h => (List.mem_append.mp h).elim (fun h => wsL_law_r26_in w h) (fun h => (List.mem_append.mp h).elim (fun h => wsL_law_r27_in w h) (fun h => (List.mem_append.mp h).elim (fun h => wsL_law_r28_in w h) (fun h => (List.mem_append.mp h).elim (fun h => wsL_law_r29_in w h) (fun h => wsL_law_r30_in w h)))))))))))))))))))))))))))))) (fun h => inX2 w h)) (fun h => inX3 w h)) (fun h => inX0 w h)) (fun h => inX1 w h)) (fun h => absurd h List.not_mem_nil)
theorem inlX0 : ∀ w ∈ wsX00, w ∈ wsL_law := fun _ h => List.mem_append_left _ (List.mem_append_left _ (List.mem_append_right _ h))
theorem inlX1 : ∀ w ∈ wsX10, w ∈ wsL_law := fun _ h => List.mem_append_left _ (List.mem_append_right _ h)
theorem inlX2 : ∀ w ∈ wsX20, w ∈ wsL_law := fun _ h => List.mem_append_left _ (List.mem_append_left _ (List.mem_append_left _ (List.mem_append_left _ (List.mem_append_right _ h))))
theorem inlX3 : ∀ w ∈ wsX30, w ∈ wsL_law := fun _ h => List.mem_append_left _ (List.mem_append_left _ (List.mem_append_left _ (List.mem_append_right _ h)))
theorem inJ11 : ∀ w ∈ wsJ110, w ∈ lw_tbl := by decide +kernel
theorem inJ6 : ∀ w ∈ wsJ60, w ∈ lw_tbl := by decide +kernel
theorem inJ9 : ∀ w ∈ wsJ90, w ∈ lw_tbl := by decide +kernel
theorem inJ0 : ∀ w ∈ wsJ00, w ∈ lw_tbl := by decide +kernel
theorem inJ1 : ∀ w ∈ wsJ10, w ∈ lw_tbl := by decide +kernel
theorem inJ2 : ∀ w ∈ wsJ20, w ∈ lw_tbl := by decide +kernel
theorem inJ10 : ∀ w ∈ wsJ100, w ∈ lw_tbl := by decide +kernel
theorem inJ3 : ∀ w ∈ wsJ30, w ∈ lw_tbl := by decide +kernel
end
section
theorem dX0_init_0 : decode cX0_init 0 = .ok (.aload_n 0, 1) := by decide +kernel
theorem dX0_init_1 : decode cX0_init 1 = .ok (.invokespecial 3, 3) := by decide +kernel
theorem dX0_init_4 : decode cX0_init 4 = .ok (.aload_n 0, 1) := by decide +kernel
theorem dX0_init_5 : decode cX0_init 5 = .ok (.bipush 21, 2) := by decide +kernel
theorem dX0_init_7 : decode cX0_init 7 = .ok (.newarray .int, 2) := by decide +kernel
theorem dX0_init_9 : decode cX0_init 9 = .ok (.putfield 9, 3) := by decide +kernel
theorem dX0_init_12 : decode cX0_init 12 = .ok (.aload_n 0, 1) := by decide +kernel
theorem dX0_init_13 : decode cX0_init 13 = .ok (.iconst 0, 1) := by decide +kernel
theorem dX0_init_14 : decode cX0_init 14 = .ok (.putfield 15, 3) := by decide +kernel
theorem dX0_init_17 : decode cX0_init 17 = .ok (.return_, 1) := by decide +kernel
theorem dX0_add_0 : decode cX0_add 0 = .ok (.aload_n 0, 1) := by decide +kernel
theorem dX0_add_1 : decode cX0_add 1 = .ok (.getfield 15, 3) := by decide +kernel
theorem dX0_add_4 : decode cX0_add 4 = .ok (.ifCond .lt 15, 3) := by decide +kernel
theorem dX0_add_7 : decode cX0_add 7 = .ok (.aload_n 0, 1) := by decide +kernel
theorem dX0_add_8 : decode cX0_add 8 = .ok (.getfield 15, 3) := by decide +kernel
theorem dX0_add_11 : decode cX0_add 11 = .ok (.aload_n 0, 1) := by decide +kernel
theorem dX0_add_12 : decode cX0_add 12 = .ok (.getfield 9, 3) := by decide +kernel
theorem dX0_add_15 : decode cX0_add 15 = .ok (.arraylength, 1) := by decide +kernel
theorem dX0_add_16 : decode cX0_add 16 = .ok (.if_icmp .lt 5, 3) := by decide +kernel
theorem dX0_add_19 : decode cX0_add 19 = .ok (.iconst 0, 1) := by decide +kernel
theorem dX0_add_20 : decode cX0_add 20 = .ok (.ireturn, 1) := by decide +kernel
theorem dX0_add_21 : decode cX0_add 21 = .ok (.aload_n 0, 1) := by decide +kernel
theorem dX0_add_22 : decode cX0_add 22 = .ok (.getfield 9, 3) := by decide +kernel
theorem dX0_add_25 : decode cX0_add 25 = .ok (.aload_n 0, 1) := by decide +kernel
theorem dX0_add_26 : decode cX0_add 26 = .ok (.getfield 15, 3) := by decide +kernel
theorem dX0_add_29 : decode cX0_add 29 = .ok (.iload_n 1, 1) := by decide +kernel
theorem dX0_add_30 : decode cX0_add 30 = .ok (.iastore, 1) := by decide +kernel
theorem dX0_add_31 : decode cX0_add 31 = .ok (.aload_n 0, 1) := by decide +kernel
theorem dX0_add_32 : decode cX0_add 32 = .ok (.dup, 1) := by decide +kernel
theorem dX0_add_33 : decode cX0_add 33 = .ok (.getfield 15, 3) := by decide +kernel
theorem dX0_add_36 : decode cX0_add 36 = .ok (.iconst 1, 1) := by decide +kernel
theorem dX0_add_37 : decode cX0_add 37 = .ok (.iadd, 1) := by decide +kernel
theorem dX0_add_38 : decode cX0_add 38 = .ok (.putfield 15, 3) := by decide +kernel
theorem dX0_add_41 : decode cX0_add 41 = .ok (.iconst 1, 1) := by decide +kernel
theorem dX0_add_42 : decode cX0_add 42 = .ok (.ireturn, 1) := by decide +kernel
theorem dX0_clear_0 : decode cX0_clear 0 = .ok (.aload_n 0, 1) := by decide +kernel
theorem dX0_clear_1 : decode cX0_clear 1 = .ok (.getfield 15, 3) := by decide +kernel
theorem dX0_clear_4 : decode cX0_clear 4 = .ok (.istore_n 1, 1) := by decide +kernel
theorem dX0_clear_5 : decode cX0_clear 5 = .ok (.aload_n 0, 1) := by decide +kernel
theorem dX0_clear_6 : decode cX0_clear 6 = .ok (.iconst 0, 1) := by decide +kernel
theorem dX0_clear_7 : decode cX0_clear 7 = .ok (.putfield 15, 3) := by decide +kernel
theorem dX0_clear_10 : decode cX0_clear 10 = .ok (.iload_n 1, 1) := by decide +kernel
theorem dX0_clear_11 : decode cX0_clear 11 = .ok (.ireturn, 1) := by decide +kernel
set_option maxRecDepth 20000 in
theorem ggX0_faultPlace_X0_fitsAmongSites : GoodIn wsX0_faultPlace wsX0_fitsAmongSites := goodIn_r _ [6, 7, 8, 9, 5, 10, 11, 12, 13, 14, 15, 16, 17, 18, 19, 20, 21, 22, 23, 24, 25, 26, 27, 28, 29, 30, 31, 32, 33, 34, 35, 36, 37, 38, 39, 40, 41, 42, 43, 44, 45, 46, 47, 48, 49, 50, 51, 52, 53, 54, 55, 56, 57, 58, 59, 60, 61, 62, 63, 64, 65, 66, 67, 68, 69, 70, 71, 72, 73, 74, 75, 76, 77, 78, 79, 80, 81, 82, 83, 84, 85, 86, 87, 88, 89, 90, 91, 92, 93, 94, 95, 96, 97, 98, 99, 100, 101, 102, 103, 104, 105, 106, 107, 108, 109, 110, 111, 112, 113, 114, 115, 116, 117] (by decide +kernel) (by decide +kernel)
set_option maxRecDepth 20000 in
theorem gX0_faultPlace_X0_fitsAmongSites : GoodIn wsX0_faultPlace (wsV RX0 19 RX0 yX0_fitsAmongSites wsX0_fitsAmongSites) := goodIn_app (goodIn_of _ (by decide +kernel)) ggX0_faultPlace_X0_fitsAmongSites
set_option maxRecDepth 20000 in
theorem ggX0_faultPlace_X0_isDigitFrom : GoodIn wsX0_faultPlace wsX0_isDigitFrom := goodIn_r _ [108, 11, 12, 13, 5, 14, 15, 109, 110, 111, 116, 117] (by decide +kernel) (by decide +kernel)
set_option maxRecDepth 20000 in
theorem gX0_faultPlace_X0_isDigitFrom : GoodIn wsX0_faultPlace (wsV RX0 23 RX0 yX0_isDigitFrom wsX0_isDigitFrom) := goodIn_app (goodIn_of _ (by decide +kernel)) ggX0_faultPlace_X0_isDigitFrom
set_option maxRecDepth 20000 in
theorem ggX0_faultPlace_X0_codeAt : GoodIn wsX0_faultPlace wsX0_codeAt := goodIn_r _ [14, 15, 116, 117] (by decide +kernel) (by decide +kernel)
set_option maxRecDepth 20000 in
theorem gX0_faultPlace_X0_codeAt : GoodIn wsX0_faultPlace (wsV RX0 27 RX0 yX0_codeAt wsX0_codeAt) := goodIn_app (goodIn_of _ (by decide +kernel)) ggX0_faultPlace_X0_codeAt
theorem dX0_faultPlace_0 : decode cX0_faultPlace 0 = .ok (.iconst (-1), 1) := by decide +kernel
theorem dX0_faultPlace_1 : decode cX0_faultPlace 1 = .ok (.istore_n 1, 1) := by decide +kernel
theorem dX0_faultPlace_2 : decode cX0_faultPlace 2 = .ok (.iconst 0, 1) := by decide +kernel
theorem dX0_faultPlace_3 : decode cX0_faultPlace 3 = .ok (.istore_n 2, 1) := by decide +kernel
theorem dX0_faultPlace_4 : decode cX0_faultPlace 4 = .ok (.iload_n 2, 1) := by decide +kernel
theorem dX0_faultPlace_5 : decode cX0_faultPlace 5 = .ok (.aload_n 0, 1) := by decide +kernel
theorem dX0_faultPlace_6 : decode cX0_faultPlace 6 = .ok (.getfield 15, 3) := by decide +kernel
theorem dX0_faultPlace_9 : decode cX0_faultPlace 9 = .ok (.if_icmp .ge 63, 3) := by decide +kernel
theorem dX0_faultPlace_12 : decode cX0_faultPlace 12 = .ok (.iload_n 1, 1) := by decide +kernel
theorem dX0_faultPlace_13 : decode cX0_faultPlace 13 = .ok (.iconst (-1), 1) := by decide +kernel
theorem dX0_faultPlace_14 : decode cX0_faultPlace 14 = .ok (.if_icmp .ne 11, 3) := by decide +kernel
theorem dX0_faultPlace_17 : decode cX0_faultPlace 17 = .ok (.aload_n 0, 1) := by decide +kernel
theorem dX0_faultPlace_18 : decode cX0_faultPlace 18 = .ok (.iload_n 2, 1) := by decide +kernel
theorem dX0_faultPlace_19 : decode cX0_faultPlace 19 = .ok (.invokevirtual 19, 3) := by decide +kernel
theorem dX0_faultPlace_22 : decode cX0_faultPlace 22 = .ok (.goto 25, 3) := by decide +kernel
theorem dX0_faultPlace_25 : decode cX0_faultPlace 25 = .ok (.iload_n 2, 1) := by decide +kernel
theorem dX0_faultPlace_26 : decode cX0_faultPlace 26 = .ok (.iload_n 1, 1) := by decide +kernel
theorem dX0_faultPlace_27 : decode cX0_faultPlace 27 = .ok (.iconst 1, 1) := by decide +kernel
theorem dX0_faultPlace_28 : decode cX0_faultPlace 28 = .ok (.iadd, 1) := by decide +kernel
theorem dX0_faultPlace_29 : decode cX0_faultPlace 29 = .ok (.if_icmp .ne 17, 3) := by decide +kernel
theorem dX0_faultPlace_32 : decode cX0_faultPlace 32 = .ok (.aload_n 0, 1) := by decide +kernel
theorem dX0_faultPlace_33 : decode cX0_faultPlace 33 = .ok (.bipush 48, 2) := by decide +kernel
theorem dX0_faultPlace_35 : decode cX0_faultPlace 35 = .ok (.iload_n 2, 1) := by decide +kernel
theorem dX0_faultPlace_36 : decode cX0_faultPlace 36 = .ok (.invokevirtual 23, 3) := by decide +kernel
theorem dX0_faultPlace_39 : decode cX0_faultPlace 39 = .ok (.ifCond .eq 7, 3) := by decide +kernel
theorem dX0_faultPlace_42 : decode cX0_faultPlace 42 = .ok (.iconst 1, 1) := by decide +kernel
theorem dX0_faultPlace_43 : decode cX0_faultPlace 43 = .ok (.goto 4, 3) := by decide +kernel
theorem dX0_faultPlace_46 : decode cX0_faultPlace 46 = .ok (.iconst 0, 1) := by decide +kernel
theorem dX0_faultPlace_47 : decode cX0_faultPlace 47 = .ok (.istore_n 3, 1) := by decide +kernel
theorem dX0_faultPlace_48 : decode cX0_faultPlace 48 = .ok (.iload_n 3, 1) := by decide +kernel
theorem dX0_faultPlace_49 : decode cX0_faultPlace 49 = .ok (.ifCond .ne 5, 3) := by decide +kernel
theorem dX0_faultPlace_52 : decode cX0_faultPlace 52 = .ok (.iload_n 2, 1) := by decide +kernel
theorem dX0_faultPlace_53 : decode cX0_faultPlace 53 = .ok (.ireturn, 1) := by decide +kernel
theorem dX0_faultPlace_54 : decode cX0_faultPlace 54 = .ok (.aload_n 0, 1) := by decide +kernel
theorem dX0_faultPlace_55 : decode cX0_faultPlace 55 = .ok (.iload_n 2, 1) := by decide +kernel
theorem dX0_faultPlace_56 : decode cX0_faultPlace 56 = .ok (.invokevirtual 27, 3) := by decide +kernel
theorem dX0_faultPlace_59 : decode cX0_faultPlace 59 = .ok (.bipush 59, 2) := by decide +kernel
theorem dX0_faultPlace_61 : decode cX0_faultPlace 61 = .ok (.if_icmp .ne 5, 3) := by decide +kernel
theorem dX0_faultPlace_64 : decode cX0_faultPlace 64 = .ok (.iload_n 2, 1) := by decide +kernel
theorem dX0_faultPlace_65 : decode cX0_faultPlace 65 = .ok (.istore_n 1, 1) := by decide +kernel
theorem dX0_faultPlace_66 : decode cX0_faultPlace 66 = .ok (.iinc 2 1, 3) := by decide +kernel
theorem dX0_faultPlace_69 : decode cX0_faultPlace 69 = .ok (.goto (-65), 3) := by decide +kernel
theorem dX0_faultPlace_72 : decode cX0_faultPlace 72 = .ok (.aload_n 0, 1) := by decide +kernel
theorem dX0_faultPlace_73 : decode cX0_faultPlace 73 = .ok (.getfield 15, 3) := by decide +kernel
theorem dX0_faultPlace_76 : decode cX0_faultPlace 76 = .ok (.ireturn, 1) := by decide +kernel
set_option maxRecDepth 20000 in
theorem ggX0_isWhole_X0_faultPlace : GoodIn wsX0_isWhole wsX0_faultPlace := goodIn_r _ [6, 1, 7, 8, 9, 5, 10, 11, 12, 13, 14, 15, 16, 17, 18, 19, 20, 21, 22, 23, 24, 25, 26, 27, 28, 29, 30, 31, 32, 33, 34, 35, 36, 37, 38, 39, 40, 41, 42, 43, 44, 45, 46, 47, 48, 49, 50, 51, 52, 53, 54, 55, 56, 57, 58, 59, 60, 61, 62, 63, 64, 65, 66, 67, 68, 69, 70, 71, 72, 73, 74, 75, 76, 77, 78, 79, 80, 81, 82, 83, 84, 85, 86, 87, 88, 89, 90, 91, 92, 93, 94, 95, 96, 97, 98, 99, 100, 101, 102, 103, 104, 105, 106, 107, 108, 109, 110, 111, 112, 113, 114, 115, 116, 117, 118, 119, 120, 121] (by decide +kernel) (by decide +kernel)
set_option maxRecDepth 20000 in
theorem gX0_isWhole_X0_faultPlace : GoodIn wsX0_isWhole (wsV RX0 31 RX0 yX0_faultPlace wsX0_faultPlace) := goodIn_app (goodIn_of _ (by decide +kernel)) ggX0_isWhole_X0_faultPlace
set_option maxRecDepth 20000 in
theorem ggX0_isWhole_X0_codeAt : GoodIn wsX0_isWhole wsX0_codeAt := goodIn_r _ [18, 19, 120, 121] (by decide +kernel) (by decide +kernel)
set_option maxRecDepth 20000 in
theorem gX0_isWhole_X0_codeAt : GoodIn wsX0_isWhole (wsV RX0 27 RX0 yX0_codeAt wsX0_codeAt) := goodIn_app (goodIn_of _ (by decide +kernel)) ggX0_isWhole_X0_codeAt
theorem dX0_isWhole_0 : decode cX0_isWhole 0 = .ok (.aload_n 0, 1) := by decide +kernel
theorem dX0_isWhole_1 : decode cX0_isWhole 1 = .ok (.getfield 15, 3) := by decide +kernel
theorem dX0_isWhole_4 : decode cX0_isWhole 4 = .ok (.iconst 2, 1) := by decide +kernel
theorem dX0_isWhole_5 : decode cX0_isWhole 5 = .ok (.if_icmp .lt 33, 3) := by decide +kernel
theorem dX0_isWhole_8 : decode cX0_isWhole 8 = .ok (.aload_n 0, 1) := by decide +kernel
theorem dX0_isWhole_9 : decode cX0_isWhole 9 = .ok (.invokevirtual 31, 3) := by decide +kernel
theorem dX0_isWhole_12 : decode cX0_isWhole 12 = .ok (.aload_n 0, 1) := by decide +kernel
theorem dX0_isWhole_13 : decode cX0_isWhole 13 = .ok (.getfield 15, 3) := by decide +kernel
theorem dX0_isWhole_16 : decode cX0_isWhole 16 = .ok (.if_icmp .ne 22, 3) := by decide +kernel
theorem dX0_isWhole_19 : decode cX0_isWhole 19 = .ok (.aload_n 0, 1) := by decide +kernel
theorem dX0_isWhole_20 : decode cX0_isWhole 20 = .ok (.aload_n 0, 1) := by decide +kernel
theorem dX0_isWhole_21 : decode cX0_isWhole 21 = .ok (.getfield 15, 3) := by decide +kernel
theorem dX0_isWhole_24 : decode cX0_isWhole 24 = .ok (.iconst 2, 1) := by decide +kernel
theorem dX0_isWhole_25 : decode cX0_isWhole 25 = .ok (.isub, 1) := by decide +kernel
theorem dX0_isWhole_26 : decode cX0_isWhole 26 = .ok (.invokevirtual 27, 3) := by decide +kernel
theorem dX0_isWhole_29 : decode cX0_isWhole 29 = .ok (.bipush 59, 2) := by decide +kernel
theorem dX0_isWhole_31 : decode cX0_isWhole 31 = .ok (.if_icmp .ne 7, 3) := by decide +kernel
theorem dX0_isWhole_34 : decode cX0_isWhole 34 = .ok (.iconst 1, 1) := by decide +kernel
theorem dX0_isWhole_35 : decode cX0_isWhole 35 = .ok (.goto 4, 3) := by decide +kernel
theorem dX0_isWhole_38 : decode cX0_isWhole 38 = .ok (.iconst 0, 1) := by decide +kernel
theorem dX0_isWhole_39 : decode cX0_isWhole 39 = .ok (.ireturn, 1) := by decide +kernel
theorem dX0_siteCount_0 : decode cX0_siteCount 0 = .ok (.aload_n 0, 1) := by decide +kernel
theorem dX0_siteCount_1 : decode cX0_siteCount 1 = .ok (.getfield 15, 3) := by decide +kernel
theorem dX0_siteCount_4 : decode cX0_siteCount 4 = .ok (.iconst 1, 1) := by decide +kernel
theorem dX0_siteCount_5 : decode cX0_siteCount 5 = .ok (.isub, 1) := by decide +kernel
theorem dX0_siteCount_6 : decode cX0_siteCount 6 = .ok (.iconst 3, 1) := by decide +kernel
theorem dX0_siteCount_7 : decode cX0_siteCount 7 = .ok (.idiv, 1) := by decide +kernel
theorem dX0_siteCount_8 : decode cX0_siteCount 8 = .ok (.ireturn, 1) := by decide +kernel
set_option maxRecDepth 20000 in
theorem ggX0_kindOf_X0_kindAt : GoodIn wsX0_kindOf wsX0_kindAt := goodIn_r _ [5, 6, 7, 8, 4, 9, 10, 11, 12, 13, 14, 15, 16, 17, 18, 19, 20, 21, 22, 23, 24, 25, 26, 27, 28, 29, 30, 31, 32, 33, 34, 35, 36, 37, 38, 39, 40, 41, 42, 43, 44, 45, 46, 47, 48, 49, 50, 51, 52, 53, 54, 55, 56, 57, 58, 59, 60, 61, 62, 63, 64, 65, 66, 67, 68, 69, 70, 71, 72, 73, 74, 75, 76, 77, 78, 79, 80, 81, 82, 83, 84, 85, 86, 87, 88, 89, 90, 91, 92, 93, 94, 95, 96, 97, 98, 99, 100, 101] (by decide +kernel) (by decide +kernel)
set_option maxRecDepth 20000 in
theorem gX0_kindOf_X0_kindAt : GoodIn wsX0_kindOf (wsV RX0 35 RX0 yX0_kindAt wsX0_kindAt) := goodIn_app (goodIn_of _ (by decide +kernel)) ggX0_kindOf_X0_kindAt
theorem dX0_kindOf_0 : decode cX0_kindOf 0 = .ok (.aload_n 0, 1) := by decide +kernel
theorem dX0_kindOf_1 : decode cX0_kindOf 1 = .ok (.iload_n 1, 1) := by decide +kernel
theorem dX0_kindOf_2 : decode cX0_kindOf 2 = .ok (.iconst 3, 1) := by decide +kernel
theorem dX0_kindOf_3 : decode cX0_kindOf 3 = .ok (.imul, 1) := by decide +kernel
theorem dX0_kindOf_4 : decode cX0_kindOf 4 = .ok (.invokevirtual 35, 3) := by decide +kernel
theorem dX0_kindOf_7 : decode cX0_kindOf 7 = .ok (.ireturn, 1) := by decide +kernel
set_option maxRecDepth 20000 in
theorem ggX0_wantOf_X0_digitAt : GoodIn wsX0_wantOf wsX0_digitAt := goodIn_r _ [5, 6, 7, 8, 4, 9, 10, 11, 12] (by decide +kernel) (by decide +kernel)
set_option maxRecDepth 20000 in
theorem gX0_wantOf_X0_digitAt : GoodIn wsX0_wantOf (wsV RX0 38 RX0 yX0_digitAt wsX0_digitAt) := goodIn_app (goodIn_of _ (by decide +kernel)) ggX0_wantOf_X0_digitAt
theorem dX0_wantOf_0 : decode cX0_wantOf 0 = .ok (.aload_n 0, 1) := by decide +kernel
theorem dX0_wantOf_1 : decode cX0_wantOf 1 = .ok (.iload_n 1, 1) := by decide +kernel
theorem dX0_wantOf_2 : decode cX0_wantOf 2 = .ok (.iconst 3, 1) := by decide +kernel
theorem dX0_wantOf_3 : decode cX0_wantOf 3 = .ok (.imul, 1) := by decide +kernel
theorem dX0_wantOf_4 : decode cX0_wantOf 4 = .ok (.iconst 1, 1) := by decide +kernel
theorem dX0_wantOf_5 : decode cX0_wantOf 5 = .ok (.iadd, 1) := by decide +kernel
theorem dX0_wantOf_6 : decode cX0_wantOf 6 = .ok (.invokevirtual 38, 3) := by decide +kernel
theorem dX0_wantOf_9 : decode cX0_wantOf 9 = .ok (.ireturn, 1) := by decide +kernel
set_option maxRecDepth 20000 in
theorem ggX0_sunTold_X0_digitAt : GoodIn wsX0_sunTold wsX0_digitAt := goodIn_r _ [6, 7, 8, 9, 5, 10, 11, 12, 13] (by decide +kernel) (by decide +kernel)
set_option maxRecDepth 20000 in
theorem gX0_sunTold_X0_digitAt : GoodIn wsX0_sunTold (wsV RX0 38 RX0 yX0_digitAt wsX0_digitAt) := goodIn_app (goodIn_of _ (by decide +kernel)) ggX0_sunTold_X0_digitAt
theorem dX0_sunTold_0 : decode cX0_sunTold 0 = .ok (.aload_n 0, 1) := by decide +kernel
theorem dX0_sunTold_1 : decode cX0_sunTold 1 = .ok (.aload_n 0, 1) := by decide +kernel
theorem dX0_sunTold_2 : decode cX0_sunTold 2 = .ok (.getfield 15, 3) := by decide +kernel
theorem dX0_sunTold_5 : decode cX0_sunTold 5 = .ok (.iconst 1, 1) := by decide +kernel
theorem dX0_sunTold_6 : decode cX0_sunTold 6 = .ok (.isub, 1) := by decide +kernel
theorem dX0_sunTold_7 : decode cX0_sunTold 7 = .ok (.invokevirtual 38, 3) := by decide +kernel
theorem dX0_sunTold_10 : decode cX0_sunTold 10 = .ok (.ireturn, 1) := by decide +kernel
set_option maxRecDepth 20000 in
theorem ggX0_fitsAmongSites_X0_kindAt : GoodIn wsX0_fitsAmongSites wsX0_kindAt := goodIn_r _ [5, 6, 7, 8, 4, 9, 10, 11, 12, 13, 14, 15, 16, 17, 18, 19, 20, 21, 22, 23, 24, 25, 26, 27, 28, 29, 30, 31, 32, 33, 34, 35, 36, 37, 38, 39, 40, 41, 42, 43, 44, 45, 46, 47, 48, 49, 50, 51, 52, 53, 54, 55, 56, 57, 58, 59, 60, 61, 62, 63, 64, 65, 66, 67, 68, 69, 70, 71, 72, 73, 74, 75, 76, 77, 78, 79, 80, 81, 82, 83, 84, 85, 86, 87, 88, 89, 90, 91, 92, 93, 94, 95, 96, 97, 98, 99, 111, 112] (by decide +kernel) (by decide +kernel)
set_option maxRecDepth 20000 in
theorem gX0_fitsAmongSites_X0_kindAt : GoodIn wsX0_fitsAmongSites (wsV RX0 35 RX0 yX0_kindAt wsX0_kindAt) := goodIn_app (goodIn_of _ (by decide +kernel)) ggX0_fitsAmongSites_X0_kindAt
set_option maxRecDepth 20000 in
theorem ggX0_fitsAmongSites_X0_isDigitFrom : GoodIn wsX0_fitsAmongSites wsX0_isDigitFrom := goodIn_r _ [103, 6, 7, 8, 4, 9, 10, 104, 105, 106, 111, 112] (by decide +kernel) (by decide +kernel)
set_option maxRecDepth 20000 in
theorem gX0_fitsAmongSites_X0_isDigitFrom : GoodIn wsX0_fitsAmongSites (wsV RX0 23 RX0 yX0_isDigitFrom wsX0_isDigitFrom) := goodIn_app (goodIn_of _ (by decide +kernel)) ggX0_fitsAmongSites_X0_isDigitFrom
set_option maxRecDepth 20000 in
theorem ggX0_fitsAmongSites_X0_fitsBehindSites : GoodIn wsX0_fitsAmongSites wsX0_fitsBehindSites := goodIn_r _ [110, 6, 7, 8, 4, 9, 10, 111, 112] (by decide +kernel) (by decide +kernel)
set_option maxRecDepth 20000 in
theorem gX0_fitsAmongSites_X0_fitsBehindSites : GoodIn wsX0_fitsAmongSites (wsV RX0 41 RX0 yX0_fitsBehindSites wsX0_fitsBehindSites) := goodIn_app (goodIn_of _ (by decide +kernel)) ggX0_fitsAmongSites_X0_fitsBehindSites
theorem dX0_fitsAmongSites_0 : decode cX0_fitsAmongSites 0 = .ok (.iload_n 1, 1) := by decide +kernel
theorem dX0_fitsAmongSites_1 : decode cX0_fitsAmongSites 1 = .ok (.iconst 3, 1) := by decide +kernel
theorem dX0_fitsAmongSites_2 : decode cX0_fitsAmongSites 2 = .ok (.irem, 1) := by decide +kernel
theorem dX0_fitsAmongSites_3 : decode cX0_fitsAmongSites 3 = .ok (.lookupswitch 47 #[(0, 25), (1, 39)], 25) := by decide +kernel
theorem dX0_fitsAmongSites_28 : decode cX0_fitsAmongSites 28 = .ok (.aload_n 0, 1) := by decide +kernel
theorem dX0_fitsAmongSites_29 : decode cX0_fitsAmongSites 29 = .ok (.iload_n 1, 1) := by decide +kernel
theorem dX0_fitsAmongSites_30 : decode cX0_fitsAmongSites 30 = .ok (.invokevirtual 35, 3) := by decide +kernel
theorem dX0_fitsAmongSites_33 : decode cX0_fitsAmongSites 33 = .ok (.ifCond .lt 7, 3) := by decide +kernel
theorem dX0_fitsAmongSites_36 : decode cX0_fitsAmongSites 36 = .ok (.iconst 1, 1) := by decide +kernel
theorem dX0_fitsAmongSites_37 : decode cX0_fitsAmongSites 37 = .ok (.goto 4, 3) := by decide +kernel
theorem dX0_fitsAmongSites_40 : decode cX0_fitsAmongSites 40 = .ok (.iconst 0, 1) := by decide +kernel
theorem dX0_fitsAmongSites_41 : decode cX0_fitsAmongSites 41 = .ok (.ireturn, 1) := by decide +kernel
theorem dX0_fitsAmongSites_42 : decode cX0_fitsAmongSites 42 = .ok (.aload_n 0, 1) := by decide +kernel
theorem dX0_fitsAmongSites_43 : decode cX0_fitsAmongSites 43 = .ok (.bipush 49, 2) := by decide +kernel
theorem dX0_fitsAmongSites_45 : decode cX0_fitsAmongSites 45 = .ok (.iload_n 1, 1) := by decide +kernel
theorem dX0_fitsAmongSites_46 : decode cX0_fitsAmongSites 46 = .ok (.invokevirtual 23, 3) := by decide +kernel
theorem dX0_fitsAmongSites_49 : decode cX0_fitsAmongSites 49 = .ok (.ireturn, 1) := by decide +kernel
theorem dX0_fitsAmongSites_50 : decode cX0_fitsAmongSites 50 = .ok (.aload_n 0, 1) := by decide +kernel
theorem dX0_fitsAmongSites_51 : decode cX0_fitsAmongSites 51 = .ok (.iload_n 1, 1) := by decide +kernel
theorem dX0_fitsAmongSites_52 : decode cX0_fitsAmongSites 52 = .ok (.iload_n 1, 1) := by decide +kernel
theorem dX0_fitsAmongSites_53 : decode cX0_fitsAmongSites 53 = .ok (.iconst 3, 1) := by decide +kernel
theorem dX0_fitsAmongSites_54 : decode cX0_fitsAmongSites 54 = .ok (.idiv, 1) := by decide +kernel
theorem dX0_fitsAmongSites_55 : decode cX0_fitsAmongSites 55 = .ok (.iconst 1, 1) := by decide +kernel
theorem dX0_fitsAmongSites_56 : decode cX0_fitsAmongSites 56 = .ok (.iadd, 1) := by decide +kernel
theorem dX0_fitsAmongSites_57 : decode cX0_fitsAmongSites 57 = .ok (.invokevirtual 41, 3) := by decide +kernel
theorem dX0_fitsAmongSites_60 : decode cX0_fitsAmongSites 60 = .ok (.ireturn, 1) := by decide +kernel
set_option maxRecDepth 20000 in
theorem ggX0_fitsBehindSites_X0_codeAt : GoodIn wsX0_fitsBehindSites wsX0_codeAt := goodIn_r _ [5, 6, 7, 8] (by decide +kernel) (by decide +kernel)
set_option maxRecDepth 20000 in
theorem gX0_fitsBehindSites_X0_codeAt : GoodIn wsX0_fitsBehindSites (wsV RX0 27 RX0 yX0_codeAt wsX0_codeAt) := goodIn_app (goodIn_of _ (by decide +kernel)) ggX0_fitsBehindSites_X0_codeAt
theorem dX0_fitsBehindSites_0 : decode cX0_fitsBehindSites 0 = .ok (.aload_n 0, 1) := by decide +kernel
theorem dX0_fitsBehindSites_1 : decode cX0_fitsBehindSites 1 = .ok (.iload_n 1, 1) := by decide +kernel
theorem dX0_fitsBehindSites_2 : decode cX0_fitsBehindSites 2 = .ok (.invokevirtual 27, 3) := by decide +kernel
theorem dX0_fitsBehindSites_5 : decode cX0_fitsBehindSites 5 = .ok (.istore_n 3, 1) := by decide +kernel
theorem dX0_fitsBehindSites_6 : decode cX0_fitsBehindSites 6 = .ok (.iload_n 3, 1) := by decide +kernel
theorem dX0_fitsBehindSites_7 : decode cX0_fitsBehindSites 7 = .ok (.bipush 44, 2) := by decide +kernel
theorem dX0_fitsBehindSites_9 : decode cX0_fitsBehindSites 9 = .ok (.if_icmp .ne 9, 3) := by decide +kernel
theorem dX0_fitsBehindSites_12 : decode cX0_fitsBehindSites 12 = .ok (.iload_n 2, 1) := by decide +kernel
theorem dX0_fitsBehindSites_13 : decode cX0_fitsBehindSites 13 = .ok (.bipush 6, 2) := by decide +kernel
theorem dX0_fitsBehindSites_15 : decode cX0_fitsBehindSites 15 = .ok (.if_icmp .lt 14, 3) := by decide +kernel
theorem dX0_fitsBehindSites_18 : decode cX0_fitsBehindSites 18 = .ok (.iload_n 3, 1) := by decide +kernel
theorem dX0_fitsBehindSites_19 : decode cX0_fitsBehindSites 19 = .ok (.bipush 59, 2) := by decide +kernel
theorem dX0_fitsBehindSites_21 : decode cX0_fitsBehindSites 21 = .ok (.if_icmp .ne 12, 3) := by decide +kernel
theorem dX0_fitsBehindSites_24 : decode cX0_fitsBehindSites 24 = .ok (.iload_n 2, 1) := by decide +kernel
theorem dX0_fitsBehindSites_25 : decode cX0_fitsBehindSites 25 = .ok (.iconst 2, 1) := by decide +kernel
theorem dX0_fitsBehindSites_26 : decode cX0_fitsBehindSites 26 = .ok (.if_icmp .lt 7, 3) := by decide +kernel
theorem dX0_fitsBehindSites_29 : decode cX0_fitsBehindSites 29 = .ok (.iconst 1, 1) := by decide +kernel
theorem dX0_fitsBehindSites_30 : decode cX0_fitsBehindSites 30 = .ok (.goto 4, 3) := by decide +kernel
theorem dX0_fitsBehindSites_33 : decode cX0_fitsBehindSites 33 = .ok (.iconst 0, 1) := by decide +kernel
theorem dX0_fitsBehindSites_34 : decode cX0_fitsBehindSites 34 = .ok (.ireturn, 1) := by decide +kernel
set_option maxRecDepth 20000 in
theorem ggX0_isDigitFrom_X0_codeAt : GoodIn wsX0_isDigitFrom wsX0_codeAt := goodIn_r _ [5, 6, 10, 11] (by decide +kernel) (by decide +kernel)
set_option maxRecDepth 20000 in
theorem gX0_isDigitFrom_X0_codeAt : GoodIn wsX0_isDigitFrom (wsV RX0 27 RX0 yX0_codeAt wsX0_codeAt) := goodIn_app (goodIn_of _ (by decide +kernel)) ggX0_isDigitFrom_X0_codeAt
set_option maxRecDepth 20000 in
theorem ggX0_isDigitFrom_X2_isWithin : GoodIn wsX0_isDigitFrom wsX2_isWithin := goodIn_r _ [9] (by decide +kernel) (by decide +kernel)
set_option maxRecDepth 20000 in
theorem gX0_isDigitFrom_X2_isWithin_n45 : GoodIn wsX0_isDigitFrom (wsX2_isWithin) := ggX0_isDigitFrom_X2_isWithin
theorem dX0_isDigitFrom_0 : decode cX0_isDigitFrom 0 = .ok (.aload_n 0, 1) := by decide +kernel
theorem dX0_isDigitFrom_1 : decode cX0_isDigitFrom 1 = .ok (.iload_n 2, 1) := by decide +kernel
theorem dX0_isDigitFrom_2 : decode cX0_isDigitFrom 2 = .ok (.invokevirtual 27, 3) := by decide +kernel
theorem dX0_isDigitFrom_5 : decode cX0_isDigitFrom 5 = .ok (.iload_n 1, 1) := by decide +kernel
theorem dX0_isDigitFrom_6 : decode cX0_isDigitFrom 6 = .ok (.bipush 57, 2) := by decide +kernel
theorem dX0_isDigitFrom_8 : decode cX0_isDigitFrom 8 = .ok (.invokestatic 45, 3) := by decide +kernel
theorem dX0_isDigitFrom_11 : decode cX0_isDigitFrom 11 = .ok (.ireturn, 1) := by decide +kernel
set_option maxRecDepth 20000 in
theorem ggX0_digitAt_X0_codeAt : GoodIn wsX0_digitAt wsX0_codeAt := goodIn_r _ [5, 6, 7, 8] (by decide +kernel) (by decide +kernel)
set_option maxRecDepth 20000 in
theorem gX0_digitAt_X0_codeAt : GoodIn wsX0_digitAt (wsV RX0 27 RX0 yX0_codeAt wsX0_codeAt) := goodIn_app (goodIn_of _ (by decide +kernel)) ggX0_digitAt_X0_codeAt
theorem dX0_digitAt_0 : decode cX0_digitAt 0 = .ok (.aload_n 0, 1) := by decide +kernel
theorem dX0_digitAt_1 : decode cX0_digitAt 1 = .ok (.iload_n 1, 1) := by decide +kernel
theorem dX0_digitAt_2 : decode cX0_digitAt 2 = .ok (.invokevirtual 27, 3) := by decide +kernel
theorem dX0_digitAt_5 : decode cX0_digitAt 5 = .ok (.bipush 48, 2) := by decide +kernel
theorem dX0_digitAt_7 : decode cX0_digitAt 7 = .ok (.isub, 1) := by decide +kernel
theorem dX0_digitAt_8 : decode cX0_digitAt 8 = .ok (.ireturn, 1) := by decide +kernel
set_option maxRecDepth 20000 in
theorem ggX0_kindAt_X0_codeAt : GoodIn wsX0_kindAt wsX0_codeAt := goodIn_r _ [5, 6, 96, 97] (by decide +kernel) (by decide +kernel)
set_option maxRecDepth 20000 in
theorem gX0_kindAt_X0_codeAt : GoodIn wsX0_kindAt (wsV RX0 27 RX0 yX0_codeAt wsX0_codeAt) := goodIn_app (goodIn_of _ (by decide +kernel)) ggX0_kindAt_X0_codeAt
set_option maxRecDepth 20000 in
theorem ggX0_kindAt_J0_indexOf_0f7a4 : GoodIn wsX0_kindAt wsJ0_indexOf_0f7a4 := goodIn_r _ [11, 12, 13, 14, 10, 15, 16, 17, 18, 19, 20, 21, 22, 23, 24, 25, 26, 27, 28, 29, 30, 31, 32, 33, 34, 35, 36, 37, 38, 39, 40, 41, 42, 43, 44, 45, 46, 47, 48, 49, 50, 51, 52, 53, 54, 55, 56, 57, 58, 59, 60, 61, 62, 63, 64, 65, 66, 67, 68, 69, 70, 71, 72, 73, 74, 75, 76, 77, 78, 79, 80, 81, 82, 83, 84, 85, 86, 87, 88, 89, 90, 91, 92, 93, 94, 95] (by decide +kernel) (by decide +kernel)
set_option maxRecDepth 20000 in
theorem gX0_kindAt_J0_indexOf_0f7a4 : GoodIn wsX0_kindAt (wsV RX0 51 RJ0 yJ0_indexOf_0f7a4 wsJ0_indexOf_0f7a4) := goodIn_app (goodIn_of _ (by decide +kernel)) ggX0_kindAt_J0_indexOf_0f7a4
theorem dX0_kindAt_0 : decode cX0_kindAt 0 = .ok (.ldc 49, 2) := by decide +kernel
theorem dX0_kindAt_2 : decode cX0_kindAt 2 = .ok (.aload_n 0, 1) := by decide +kernel
theorem dX0_kindAt_3 : decode cX0_kindAt 3 = .ok (.iload_n 1, 1) := by decide +kernel
theorem dX0_kindAt_4 : decode cX0_kindAt 4 = .ok (.invokevirtual 27, 3) := by decide +kernel
theorem dX0_kindAt_7 : decode cX0_kindAt 7 = .ok (.i2c, 1) := by decide +kernel
theorem dX0_kindAt_8 : decode cX0_kindAt 8 = .ok (.invokevirtual 51, 3) := by decide +kernel
theorem dX0_kindAt_11 : decode cX0_kindAt 11 = .ok (.ireturn, 1) := by decide +kernel
theorem dX0_codeAt_0 : decode cX0_codeAt 0 = .ok (.iload_n 1, 1) := by decide +kernel
theorem dX0_codeAt_1 : decode cX0_codeAt 1 = .ok (.ifCond .lt 21, 3) := by decide +kernel
theorem dX0_codeAt_4 : decode cX0_codeAt 4 = .ok (.iload_n 1, 1) := by decide +kernel
theorem dX0_codeAt_5 : decode cX0_codeAt 5 = .ok (.aload_n 0, 1) := by decide +kernel
theorem dX0_codeAt_6 : decode cX0_codeAt 6 = .ok (.getfield 9, 3) := by decide +kernel
theorem dX0_codeAt_9 : decode cX0_codeAt 9 = .ok (.arraylength, 1) := by decide +kernel
theorem dX0_codeAt_10 : decode cX0_codeAt 10 = .ok (.if_icmp .ge 12, 3) := by decide +kernel
theorem dX0_codeAt_13 : decode cX0_codeAt 13 = .ok (.aload_n 0, 1) := by decide +kernel
theorem dX0_codeAt_14 : decode cX0_codeAt 14 = .ok (.getfield 9, 3) := by decide +kernel
theorem dX0_codeAt_17 : decode cX0_codeAt 17 = .ok (.iload_n 1, 1) := by decide +kernel
theorem dX0_codeAt_18 : decode cX0_codeAt 18 = .ok (.iaload, 1) := by decide +kernel
theorem dX0_codeAt_19 : decode cX0_codeAt 19 = .ok (.goto 4, 3) := by decide +kernel
theorem dX0_codeAt_22 : decode cX0_codeAt 22 = .ok (.iconst 0, 1) := by decide +kernel
theorem dX0_codeAt_23 : decode cX0_codeAt 23 = .ok (.ireturn, 1) := by decide +kernel
theorem dX1_init_0 : decode cX1_init 0 = .ok (.aload_n 0, 1) := by decide +kernel
theorem dX1_init_1 : decode cX1_init 1 = .ok (.invokespecial 3, 3) := by decide +kernel
theorem dX1_init_4 : decode cX1_init 4 = .ok (.aload_n 0, 1) := by decide +kernel
theorem dX1_init_5 : decode cX1_init 5 = .ok (.bipush 6, 2) := by decide +kernel
theorem dX1_init_7 : decode cX1_init 7 = .ok (.newarray .int, 2) := by decide +kernel
theorem dX1_init_9 : decode cX1_init 9 = .ok (.putfield 9, 3) := by decide +kernel
theorem dX1_init_12 : decode cX1_init 12 = .ok (.aload_n 0, 1) := by decide +kernel
theorem dX1_init_13 : decode cX1_init 13 = .ok (.bipush 6, 2) := by decide +kernel
theorem dX1_init_15 : decode cX1_init 15 = .ok (.newarray .int, 2) := by decide +kernel
theorem dX1_init_17 : decode cX1_init 17 = .ok (.putfield 15, 3) := by decide +kernel
theorem dX1_init_20 : decode cX1_init 20 = .ok (.aload_n 0, 1) := by decide +kernel
theorem dX1_init_21 : decode cX1_init 21 = .ok (.bipush 6, 2) := by decide +kernel
theorem dX1_init_23 : decode cX1_init 23 = .ok (.newarray .int, 2) := by decide +kernel
theorem dX1_init_25 : decode cX1_init 25 = .ok (.putfield 18, 3) := by decide +kernel
theorem dX1_init_28 : decode cX1_init 28 = .ok (.aload_n 0, 1) := by decide +kernel
theorem dX1_init_29 : decode cX1_init 29 = .ok (.bipush 6, 2) := by decide +kernel
theorem dX1_init_31 : decode cX1_init 31 = .ok (.newarray .int, 2) := by decide +kernel
theorem dX1_init_33 : decode cX1_init 33 = .ok (.putfield 21, 3) := by decide +kernel
theorem dX1_init_36 : decode cX1_init 36 = .ok (.aload_n 0, 1) := by decide +kernel
theorem dX1_init_37 : decode cX1_init 37 = .ok (.bipush 6, 2) := by decide +kernel
theorem dX1_init_39 : decode cX1_init 39 = .ok (.newarray .int, 2) := by decide +kernel
theorem dX1_init_41 : decode cX1_init 41 = .ok (.putfield 24, 3) := by decide +kernel
theorem dX1_init_44 : decode cX1_init 44 = .ok (.aload_n 0, 1) := by decide +kernel
theorem dX1_init_45 : decode cX1_init 45 = .ok (.bipush 6, 2) := by decide +kernel
theorem dX1_init_47 : decode cX1_init 47 = .ok (.newarray .int, 2) := by decide +kernel
theorem dX1_init_49 : decode cX1_init 49 = .ok (.putfield 27, 3) := by decide +kernel
theorem dX1_init_52 : decode cX1_init 52 = .ok (.aload_n 0, 1) := by decide +kernel
theorem dX1_init_53 : decode cX1_init 53 = .ok (.bipush 6, 2) := by decide +kernel
theorem dX1_init_55 : decode cX1_init 55 = .ok (.newarray .int, 2) := by decide +kernel
theorem dX1_init_57 : decode cX1_init 57 = .ok (.putfield 30, 3) := by decide +kernel
theorem dX1_init_60 : decode cX1_init 60 = .ok (.aload_n 0, 1) := by decide +kernel
theorem dX1_init_61 : decode cX1_init 61 = .ok (.bipush 6, 2) := by decide +kernel
theorem dX1_init_63 : decode cX1_init 63 = .ok (.newarray .int, 2) := by decide +kernel
theorem dX1_init_65 : decode cX1_init 65 = .ok (.putfield 33, 3) := by decide +kernel
theorem dX1_init_68 : decode cX1_init 68 = .ok (.return_, 1) := by decide +kernel
theorem dX1_begin_0 : decode cX1_begin 0 = .ok (.aload_n 0, 1) := by decide +kernel
theorem dX1_begin_1 : decode cX1_begin 1 = .ok (.iconst 0, 1) := by decide +kernel
theorem dX1_begin_2 : decode cX1_begin 2 = .ok (.putfield 36, 3) := by decide +kernel
theorem dX1_begin_5 : decode cX1_begin 5 = .ok (.aload_n 0, 1) := by decide +kernel
theorem dX1_begin_6 : decode cX1_begin 6 = .ok (.iload_n 1, 1) := by decide +kernel
theorem dX1_begin_7 : decode cX1_begin 7 = .ok (.putfield 40, 3) := by decide +kernel
theorem dX1_begin_10 : decode cX1_begin 10 = .ok (.aload_n 0, 1) := by decide +kernel
theorem dX1_begin_11 : decode cX1_begin 11 = .ok (.iconst 0, 1) := by decide +kernel
theorem dX1_begin_12 : decode cX1_begin 12 = .ok (.putfield 43, 3) := by decide +kernel
theorem dX1_begin_15 : decode cX1_begin 15 = .ok (.aload_n 0, 1) := by decide +kernel
theorem dX1_begin_16 : decode cX1_begin 16 = .ok (.iconst 0, 1) := by decide +kernel
theorem dX1_begin_17 : decode cX1_begin 17 = .ok (.putfield 46, 3) := by decide +kernel
theorem dX1_begin_20 : decode cX1_begin 20 = .ok (.aload_n 0, 1) := by decide +kernel
theorem dX1_begin_21 : decode cX1_begin 21 = .ok (.iconst 0, 1) := by decide +kernel
theorem dX1_begin_22 : decode cX1_begin 22 = .ok (.putfield 49, 3) := by decide +kernel
theorem dX1_begin_25 : decode cX1_begin 25 = .ok (.iconst 0, 1) := by decide +kernel
theorem dX1_begin_26 : decode cX1_begin 26 = .ok (.istore_n 2, 1) := by decide +kernel
theorem dX1_begin_27 : decode cX1_begin 27 = .ok (.iload_n 2, 1) := by decide +kernel
theorem dX1_begin_28 : decode cX1_begin 28 = .ok (.bipush 6, 2) := by decide +kernel
theorem dX1_begin_30 : decode cX1_begin 30 = .ok (.if_icmp .ge 37, 3) := by decide +kernel
theorem dX1_begin_33 : decode cX1_begin 33 = .ok (.aload_n 0, 1) := by decide +kernel
theorem dX1_begin_34 : decode cX1_begin 34 = .ok (.getfield 9, 3) := by decide +kernel
theorem dX1_begin_37 : decode cX1_begin 37 = .ok (.iload_n 2, 1) := by decide +kernel
theorem dX1_begin_38 : decode cX1_begin 38 = .ok (.iconst 0, 1) := by decide +kernel
theorem dX1_begin_39 : decode cX1_begin 39 = .ok (.iastore, 1) := by decide +kernel
theorem dX1_begin_40 : decode cX1_begin 40 = .ok (.aload_n 0, 1) := by decide +kernel
theorem dX1_begin_41 : decode cX1_begin 41 = .ok (.getfield 15, 3) := by decide +kernel
theorem dX1_begin_44 : decode cX1_begin 44 = .ok (.iload_n 2, 1) := by decide +kernel
theorem dX1_begin_45 : decode cX1_begin 45 = .ok (.iconst 0, 1) := by decide +kernel
theorem dX1_begin_46 : decode cX1_begin 46 = .ok (.iastore, 1) := by decide +kernel
theorem dX1_begin_47 : decode cX1_begin 47 = .ok (.aload_n 0, 1) := by decide +kernel
theorem dX1_begin_48 : decode cX1_begin 48 = .ok (.getfield 18, 3) := by decide +kernel
theorem dX1_begin_51 : decode cX1_begin 51 = .ok (.iload_n 2, 1) := by decide +kernel
theorem dX1_begin_52 : decode cX1_begin 52 = .ok (.iconst 0, 1) := by decide +kernel
theorem dX1_begin_53 : decode cX1_begin 53 = .ok (.iastore, 1) := by decide +kernel
theorem dX1_begin_54 : decode cX1_begin 54 = .ok (.aload_n 0, 1) := by decide +kernel
theorem dX1_begin_55 : decode cX1_begin 55 = .ok (.getfield 21, 3) := by decide +kernel
theorem dX1_begin_58 : decode cX1_begin 58 = .ok (.iload_n 2, 1) := by decide +kernel
theorem dX1_begin_59 : decode cX1_begin 59 = .ok (.iconst 0, 1) := by decide +kernel
theorem dX1_begin_60 : decode cX1_begin 60 = .ok (.iastore, 1) := by decide +kernel
theorem dX1_begin_61 : decode cX1_begin 61 = .ok (.iinc 2 1, 3) := by decide +kernel
theorem dX1_begin_64 : decode cX1_begin 64 = .ok (.goto (-37), 3) := by decide +kernel
theorem dX1_begin_67 : decode cX1_begin 67 = .ok (.return_, 1) := by decide +kernel
theorem dX1_endDay_0 : decode cX1_endDay 0 = .ok (.aload_n 0, 1) := by decide +kernel
theorem dX1_endDay_1 : decode cX1_endDay 1 = .ok (.dup, 1) := by decide +kernel
theorem dX1_endDay_2 : decode cX1_endDay 2 = .ok (.getfield 36, 3) := by decide +kernel
theorem dX1_endDay_5 : decode cX1_endDay 5 = .ok (.iconst 1, 1) := by decide +kernel
theorem dX1_endDay_6 : decode cX1_endDay 6 = .ok (.iadd, 1) := by decide +kernel
theorem dX1_endDay_7 : decode cX1_endDay 7 = .ok (.putfield 36, 3) := by decide +kernel
theorem dX1_endDay_10 : decode cX1_endDay 10 = .ok (.aload_n 0, 1) := by decide +kernel
theorem dX1_endDay_11 : decode cX1_endDay 11 = .ok (.dup, 1) := by decide +kernel
theorem dX1_endDay_12 : decode cX1_endDay 12 = .ok (.getfield 46, 3) := by decide +kernel
theorem dX1_endDay_15 : decode cX1_endDay 15 = .ok (.iload_n 1, 1) := by decide +kernel
theorem dX1_endDay_16 : decode cX1_endDay 16 = .ok (.iadd, 1) := by decide +kernel
theorem dX1_endDay_17 : decode cX1_endDay 17 = .ok (.putfield 46, 3) := by decide +kernel
theorem dX1_endDay_20 : decode cX1_endDay 20 = .ok (.iconst 0, 1) := by decide +kernel
theorem dX1_endDay_21 : decode cX1_endDay 21 = .ok (.istore_n 2, 1) := by decide +kernel
theorem dX1_endDay_22 : decode cX1_endDay 22 = .ok (.iload_n 2, 1) := by decide +kernel
theorem dX1_endDay_23 : decode cX1_endDay 23 = .ok (.bipush 6, 2) := by decide +kernel
theorem dX1_endDay_25 : decode cX1_endDay 25 = .ok (.if_icmp .ge 28, 3) := by decide +kernel
theorem dX1_endDay_28 : decode cX1_endDay 28 = .ok (.aload_n 0, 1) := by decide +kernel
theorem dX1_endDay_29 : decode cX1_endDay 29 = .ok (.getfield 15, 3) := by decide +kernel
theorem dX1_endDay_32 : decode cX1_endDay 32 = .ok (.iload_n 2, 1) := by decide +kernel
theorem dX1_endDay_33 : decode cX1_endDay 33 = .ok (.aload_n 0, 1) := by decide +kernel
theorem dX1_endDay_34 : decode cX1_endDay 34 = .ok (.getfield 9, 3) := by decide +kernel
theorem dX1_endDay_37 : decode cX1_endDay 37 = .ok (.iload_n 2, 1) := by decide +kernel
theorem dX1_endDay_38 : decode cX1_endDay 38 = .ok (.iaload, 1) := by decide +kernel
theorem dX1_endDay_39 : decode cX1_endDay 39 = .ok (.iastore, 1) := by decide +kernel
theorem dX1_endDay_40 : decode cX1_endDay 40 = .ok (.aload_n 0, 1) := by decide +kernel
theorem dX1_endDay_41 : decode cX1_endDay 41 = .ok (.getfield 21, 3) := by decide +kernel
theorem dX1_endDay_44 : decode cX1_endDay 44 = .ok (.iload_n 2, 1) := by decide +kernel
theorem dX1_endDay_45 : decode cX1_endDay 45 = .ok (.iconst 0, 1) := by decide +kernel
theorem dX1_endDay_46 : decode cX1_endDay 46 = .ok (.iastore, 1) := by decide +kernel
theorem dX1_endDay_47 : decode cX1_endDay 47 = .ok (.iinc 2 1, 3) := by decide +kernel
theorem dX1_endDay_50 : decode cX1_endDay 50 = .ok (.goto (-28), 3) := by decide +kernel
theorem dX1_endDay_53 : decode cX1_endDay 53 = .ok (.return_, 1) := by decide +kernel
theorem dX1_addFound_0 : decode cX1_addFound 0 = .ok (.aload_n 0, 1) := by decide +kernel
theorem dX1_addFound_1 : decode cX1_addFound 1 = .ok (.getfield 49, 3) := by decide +kernel
theorem dX1_addFound_4 : decode cX1_addFound 4 = .ok (.ifCond .lt 12, 3) := by decide +kernel
theorem dX1_addFound_7 : decode cX1_addFound 7 = .ok (.aload_n 0, 1) := by decide +kernel
theorem dX1_addFound_8 : decode cX1_addFound 8 = .ok (.getfield 49, 3) := by decide +kernel
theorem dX1_addFound_11 : decode cX1_addFound 11 = .ok (.bipush 6, 2) := by decide +kernel
theorem dX1_addFound_13 : decode cX1_addFound 13 = .ok (.if_icmp .lt 5, 3) := by decide +kernel
theorem dX1_addFound_16 : decode cX1_addFound 16 = .ok (.iconst 0, 1) := by decide +kernel
theorem dX1_addFound_17 : decode cX1_addFound 17 = .ok (.ireturn, 1) := by decide +kernel
theorem dX1_addFound_18 : decode cX1_addFound 18 = .ok (.aload_n 0, 1) := by decide +kernel
theorem dX1_addFound_19 : decode cX1_addFound 19 = .ok (.getfield 24, 3) := by decide +kernel
theorem dX1_addFound_22 : decode cX1_addFound 22 = .ok (.aload_n 0, 1) := by decide +kernel
theorem dX1_addFound_23 : decode cX1_addFound 23 = .ok (.getfield 49, 3) := by decide +kernel
theorem dX1_addFound_26 : decode cX1_addFound 26 = .ok (.iload_n 1, 1) := by decide +kernel
theorem dX1_addFound_27 : decode cX1_addFound 27 = .ok (.iastore, 1) := by decide +kernel
theorem dX1_addFound_28 : decode cX1_addFound 28 = .ok (.aload_n 0, 1) := by decide +kernel
theorem dX1_addFound_29 : decode cX1_addFound 29 = .ok (.getfield 27, 3) := by decide +kernel
theorem dX1_addFound_32 : decode cX1_addFound 32 = .ok (.aload_n 0, 1) := by decide +kernel
theorem dX1_addFound_33 : decode cX1_addFound 33 = .ok (.getfield 49, 3) := by decide +kernel
theorem dX1_addFound_36 : decode cX1_addFound 36 = .ok (.iload_n 2, 1) := by decide +kernel
theorem dX1_addFound_37 : decode cX1_addFound 37 = .ok (.iastore, 1) := by decide +kernel
theorem dX1_addFound_38 : decode cX1_addFound 38 = .ok (.aload_n 0, 1) := by decide +kernel
theorem dX1_addFound_39 : decode cX1_addFound 39 = .ok (.getfield 30, 3) := by decide +kernel
theorem dX1_addFound_42 : decode cX1_addFound 42 = .ok (.aload_n 0, 1) := by decide +kernel
theorem dX1_addFound_43 : decode cX1_addFound 43 = .ok (.getfield 49, 3) := by decide +kernel
theorem dX1_addFound_46 : decode cX1_addFound 46 = .ok (.iload_n 3, 1) := by decide +kernel
theorem dX1_addFound_47 : decode cX1_addFound 47 = .ok (.iastore, 1) := by decide +kernel
theorem dX1_addFound_48 : decode cX1_addFound 48 = .ok (.aload_n 0, 1) := by decide +kernel
theorem dX1_addFound_49 : decode cX1_addFound 49 = .ok (.getfield 33, 3) := by decide +kernel
theorem dX1_addFound_52 : decode cX1_addFound 52 = .ok (.aload_n 0, 1) := by decide +kernel
theorem dX1_addFound_53 : decode cX1_addFound 53 = .ok (.getfield 49, 3) := by decide +kernel
theorem dX1_addFound_56 : decode cX1_addFound 56 = .ok (.iload 4, 2) := by decide +kernel
theorem dX1_addFound_58 : decode cX1_addFound 58 = .ok (.iastore, 1) := by decide +kernel
theorem dX1_addFound_59 : decode cX1_addFound 59 = .ok (.aload_n 0, 1) := by decide +kernel
theorem dX1_addFound_60 : decode cX1_addFound 60 = .ok (.dup, 1) := by decide +kernel
theorem dX1_addFound_61 : decode cX1_addFound 61 = .ok (.getfield 49, 3) := by decide +kernel
theorem dX1_addFound_64 : decode cX1_addFound 64 = .ok (.iconst 1, 1) := by decide +kernel
theorem dX1_addFound_65 : decode cX1_addFound 65 = .ok (.iadd, 1) := by decide +kernel
theorem dX1_addFound_66 : decode cX1_addFound 66 = .ok (.putfield 49, 3) := by decide +kernel
theorem dX1_addFound_69 : decode cX1_addFound 69 = .ok (.iconst 1, 1) := by decide +kernel
theorem dX1_addFound_70 : decode cX1_addFound 70 = .ok (.ireturn, 1) := by decide +kernel
set_option maxRecDepth 20000 in
theorem ggX1_copy_X1_copyRow : GoodIn wsX1_copy wsX1_copyRow := goodIn_r _ [17, 18, 19, 20, 21, 22, 23, 24, 25] (by decide +kernel) (by decide +kernel)
set_option maxRecDepth 20000 in
theorem gX1_copy_X1_copyRow : GoodIn wsX1_copy (va_wsS RX1 52 yX1_copyRow wsX1_copyRow) := goodIn_app (goodIn_of _ (by decide +kernel)) ggX1_copy_X1_copyRow
theorem dX1_copy_0 : decode cX1_copy 0 = .ok (.aload_n 0, 1) := by decide +kernel
theorem dX1_copy_1 : decode cX1_copy 1 = .ok (.aload_n 1, 1) := by decide +kernel
theorem dX1_copy_2 : decode cX1_copy 2 = .ok (.getfield 36, 3) := by decide +kernel
theorem dX1_copy_5 : decode cX1_copy 5 = .ok (.putfield 36, 3) := by decide +kernel
theorem dX1_copy_8 : decode cX1_copy 8 = .ok (.aload_n 0, 1) := by decide +kernel
theorem dX1_copy_9 : decode cX1_copy 9 = .ok (.aload_n 1, 1) := by decide +kernel
theorem dX1_copy_10 : decode cX1_copy 10 = .ok (.getfield 40, 3) := by decide +kernel
theorem dX1_copy_13 : decode cX1_copy 13 = .ok (.putfield 40, 3) := by decide +kernel
theorem dX1_copy_16 : decode cX1_copy 16 = .ok (.aload_n 0, 1) := by decide +kernel
theorem dX1_copy_17 : decode cX1_copy 17 = .ok (.aload_n 1, 1) := by decide +kernel
theorem dX1_copy_18 : decode cX1_copy 18 = .ok (.getfield 43, 3) := by decide +kernel
theorem dX1_copy_21 : decode cX1_copy 21 = .ok (.putfield 43, 3) := by decide +kernel
theorem dX1_copy_24 : decode cX1_copy 24 = .ok (.aload_n 0, 1) := by decide +kernel
theorem dX1_copy_25 : decode cX1_copy 25 = .ok (.aload_n 1, 1) := by decide +kernel
theorem dX1_copy_26 : decode cX1_copy 26 = .ok (.getfield 46, 3) := by decide +kernel
theorem dX1_copy_29 : decode cX1_copy 29 = .ok (.putfield 46, 3) := by decide +kernel
theorem dX1_copy_32 : decode cX1_copy 32 = .ok (.aload_n 0, 1) := by decide +kernel
theorem dX1_copy_33 : decode cX1_copy 33 = .ok (.aload_n 1, 1) := by decide +kernel
theorem dX1_copy_34 : decode cX1_copy 34 = .ok (.getfield 49, 3) := by decide +kernel
theorem dX1_copy_37 : decode cX1_copy 37 = .ok (.putfield 49, 3) := by decide +kernel
theorem dX1_copy_40 : decode cX1_copy 40 = .ok (.aload_n 1, 1) := by decide +kernel
theorem dX1_copy_41 : decode cX1_copy 41 = .ok (.getfield 9, 3) := by decide +kernel
theorem dX1_copy_44 : decode cX1_copy 44 = .ok (.aload_n 0, 1) := by decide +kernel
theorem dX1_copy_45 : decode cX1_copy 45 = .ok (.getfield 9, 3) := by decide +kernel
theorem dX1_copy_48 : decode cX1_copy 48 = .ok (.invokestatic 52, 3) := by decide +kernel
theorem dX1_copy_51 : decode cX1_copy 51 = .ok (.aload_n 1, 1) := by decide +kernel
theorem dX1_copy_52 : decode cX1_copy 52 = .ok (.getfield 15, 3) := by decide +kernel
theorem dX1_copy_55 : decode cX1_copy 55 = .ok (.aload_n 0, 1) := by decide +kernel
theorem dX1_copy_56 : decode cX1_copy 56 = .ok (.getfield 15, 3) := by decide +kernel
theorem dX1_copy_59 : decode cX1_copy 59 = .ok (.invokestatic 52, 3) := by decide +kernel
theorem dX1_copy_62 : decode cX1_copy 62 = .ok (.aload_n 1, 1) := by decide +kernel
theorem dX1_copy_63 : decode cX1_copy 63 = .ok (.getfield 18, 3) := by decide +kernel
theorem dX1_copy_66 : decode cX1_copy 66 = .ok (.aload_n 0, 1) := by decide +kernel
theorem dX1_copy_67 : decode cX1_copy 67 = .ok (.getfield 18, 3) := by decide +kernel
theorem dX1_copy_70 : decode cX1_copy 70 = .ok (.invokestatic 52, 3) := by decide +kernel
theorem dX1_copy_73 : decode cX1_copy 73 = .ok (.aload_n 1, 1) := by decide +kernel
theorem dX1_copy_74 : decode cX1_copy 74 = .ok (.getfield 21, 3) := by decide +kernel
theorem dX1_copy_77 : decode cX1_copy 77 = .ok (.aload_n 0, 1) := by decide +kernel
theorem dX1_copy_78 : decode cX1_copy 78 = .ok (.getfield 21, 3) := by decide +kernel
theorem dX1_copy_81 : decode cX1_copy 81 = .ok (.invokestatic 52, 3) := by decide +kernel
theorem dX1_copy_84 : decode cX1_copy 84 = .ok (.aload_n 1, 1) := by decide +kernel
theorem dX1_copy_85 : decode cX1_copy 85 = .ok (.getfield 24, 3) := by decide +kernel
theorem dX1_copy_88 : decode cX1_copy 88 = .ok (.aload_n 0, 1) := by decide +kernel
theorem dX1_copy_89 : decode cX1_copy 89 = .ok (.getfield 24, 3) := by decide +kernel
theorem dX1_copy_92 : decode cX1_copy 92 = .ok (.invokestatic 52, 3) := by decide +kernel
theorem dX1_copy_95 : decode cX1_copy 95 = .ok (.aload_n 1, 1) := by decide +kernel
theorem dX1_copy_96 : decode cX1_copy 96 = .ok (.getfield 27, 3) := by decide +kernel
theorem dX1_copy_99 : decode cX1_copy 99 = .ok (.aload_n 0, 1) := by decide +kernel
theorem dX1_copy_100 : decode cX1_copy 100 = .ok (.getfield 27, 3) := by decide +kernel
theorem dX1_copy_103 : decode cX1_copy 103 = .ok (.invokestatic 52, 3) := by decide +kernel
theorem dX1_copy_106 : decode cX1_copy 106 = .ok (.aload_n 1, 1) := by decide +kernel
theorem dX1_copy_107 : decode cX1_copy 107 = .ok (.getfield 30, 3) := by decide +kernel
theorem dX1_copy_110 : decode cX1_copy 110 = .ok (.aload_n 0, 1) := by decide +kernel
theorem dX1_copy_111 : decode cX1_copy 111 = .ok (.getfield 30, 3) := by decide +kernel
theorem dX1_copy_114 : decode cX1_copy 114 = .ok (.invokestatic 52, 3) := by decide +kernel
theorem dX1_copy_117 : decode cX1_copy 117 = .ok (.aload_n 1, 1) := by decide +kernel
theorem dX1_copy_118 : decode cX1_copy 118 = .ok (.getfield 33, 3) := by decide +kernel
theorem dX1_copy_121 : decode cX1_copy 121 = .ok (.aload_n 0, 1) := by decide +kernel
theorem dX1_copy_122 : decode cX1_copy 122 = .ok (.getfield 33, 3) := by decide +kernel
theorem dX1_copy_125 : decode cX1_copy 125 = .ok (.invokestatic 52, 3) := by decide +kernel
theorem dX1_copy_128 : decode cX1_copy 128 = .ok (.return_, 1) := by decide +kernel
theorem dX1_copyRow_0 : decode cX1_copyRow 0 = .ok (.aload_n 0, 1) := by decide +kernel
theorem dX1_copyRow_1 : decode cX1_copyRow 1 = .ok (.iconst 0, 1) := by decide +kernel
theorem dX1_copyRow_2 : decode cX1_copyRow 2 = .ok (.aload_n 1, 1) := by decide +kernel
theorem dX1_copyRow_3 : decode cX1_copyRow 3 = .ok (.iconst 0, 1) := by decide +kernel
theorem dX1_copyRow_4 : decode cX1_copyRow 4 = .ok (.aload_n 0, 1) := by decide +kernel
theorem dX1_copyRow_5 : decode cX1_copyRow 5 = .ok (.arraylength, 1) := by decide +kernel
theorem dX1_copyRow_6 : decode cX1_copyRow 6 = .ok (.aload_n 1, 1) := by decide +kernel
theorem dX1_copyRow_7 : decode cX1_copyRow 7 = .ok (.arraylength, 1) := by decide +kernel
theorem dX1_copyRow_8 : decode cX1_copyRow 8 = .ok (.invokestatic 56, 3) := by decide +kernel
theorem dX1_copyRow_11 : decode cX1_copyRow 11 = .ok (.invokestatic 62, 3) := by decide +kernel
theorem dX1_copyRow_14 : decode cX1_copyRow 14 = .ok (.return_, 1) := by decide +kernel
end
section
set_option maxRecDepth 20000 in
theorem ggX2_init_X0_init : GoodIn wsX2_init wsX0_init := goodIn_r _ [23, 24, 2, 3, 8, 25, 26, 39, 40] (by decide +kernel) (by decide +kernel)
set_option maxRecDepth 20000 in
theorem gX2_init_X0_init : GoodIn wsX2_init (wsX0_init) := ggX2_init_X0_init
set_option maxRecDepth 20000 in
theorem ggX2_init_X1_init : GoodIn wsX2_init wsX1_init := goodIn_r _ [29, 30, 2, 3, 8, 31, 32, 33, 34, 35, 36, 37, 38, 51, 52, 53, 54, 55, 56, 57, 58, 59, 60, 61, 62, 63] (by decide +kernel) (by decide +kernel)
set_option maxRecDepth 20000 in
theorem gX2_init_X1_init : GoodIn wsX2_init (wsX1_init) := ggX2_init_X1_init
theorem dX2_init_0 : decode cX2_init 0 = .ok (.aload_n 0, 1) := by decide +kernel
theorem dX2_init_1 : decode cX2_init 1 = .ok (.invokespecial 1, 3) := by decide +kernel
theorem dX2_init_4 : decode cX2_init 4 = .ok (.aload_n 0, 1) := by decide +kernel
theorem dX2_init_5 : decode cX2_init 5 = .ok (.new 7, 3) := by decide +kernel
theorem dX2_init_8 : decode cX2_init 8 = .ok (.dup, 1) := by decide +kernel
theorem dX2_init_9 : decode cX2_init 9 = .ok (.invokespecial 9, 3) := by decide +kernel
theorem dX2_init_12 : decode cX2_init 12 = .ok (.putfield 10, 3) := by decide +kernel
theorem dX2_init_15 : decode cX2_init 15 = .ok (.aload_n 0, 1) := by decide +kernel
theorem dX2_init_16 : decode cX2_init 16 = .ok (.bipush 6, 2) := by decide +kernel
theorem dX2_init_18 : decode cX2_init 18 = .ok (.newarray .int, 2) := by decide +kernel
theorem dX2_init_20 : decode cX2_init 20 = .ok (.putfield 16, 3) := by decide +kernel
theorem dX2_init_23 : decode cX2_init 23 = .ok (.aload_n 0, 1) := by decide +kernel
theorem dX2_init_24 : decode cX2_init 24 = .ok (.bipush 6, 2) := by decide +kernel
theorem dX2_init_26 : decode cX2_init 26 = .ok (.newarray .int, 2) := by decide +kernel
theorem dX2_init_28 : decode cX2_init 28 = .ok (.putfield 20, 3) := by decide +kernel
theorem dX2_init_31 : decode cX2_init 31 = .ok (.aload_n 0, 1) := by decide +kernel
theorem dX2_init_32 : decode cX2_init 32 = .ok (.new 23, 3) := by decide +kernel
theorem dX2_init_35 : decode cX2_init 35 = .ok (.dup, 1) := by decide +kernel
theorem dX2_init_36 : decode cX2_init 36 = .ok (.invokespecial 25, 3) := by decide +kernel
theorem dX2_init_39 : decode cX2_init 39 = .ok (.putfield 26, 3) := by decide +kernel
theorem dX2_init_42 : decode cX2_init 42 = .ok (.aload_n 0, 1) := by decide +kernel
theorem dX2_init_43 : decode cX2_init 43 = .ok (.new 23, 3) := by decide +kernel
theorem dX2_init_46 : decode cX2_init 46 = .ok (.dup, 1) := by decide +kernel
theorem dX2_init_47 : decode cX2_init 47 = .ok (.invokespecial 25, 3) := by decide +kernel
theorem dX2_init_50 : decode cX2_init 50 = .ok (.putfield 30, 3) := by decide +kernel
theorem dX2_init_53 : decode cX2_init 53 = .ok (.aload_n 0, 1) := by decide +kernel
theorem dX2_init_54 : decode cX2_init 54 = .ok (.bipush 6, 2) := by decide +kernel
theorem dX2_init_56 : decode cX2_init 56 = .ok (.newarray .int, 2) := by decide +kernel
theorem dX2_init_58 : decode cX2_init 58 = .ok (.putfield 33, 3) := by decide +kernel
theorem dX2_init_61 : decode cX2_init 61 = .ok (.aload_n 0, 1) := by decide +kernel
theorem dX2_init_62 : decode cX2_init 62 = .ok (.bipush 6, 2) := by decide +kernel
theorem dX2_init_64 : decode cX2_init 64 = .ok (.newarray .int, 2) := by decide +kernel
theorem dX2_init_66 : decode cX2_init 66 = .ok (.putfield 36, 3) := by decide +kernel
theorem dX2_init_69 : decode cX2_init 69 = .ok (.aload_n 0, 1) := by decide +kernel
theorem dX2_init_70 : decode cX2_init 70 = .ok (.iconst 0, 1) := by decide +kernel
theorem dX2_init_71 : decode cX2_init 71 = .ok (.putfield 39, 3) := by decide +kernel
theorem dX2_init_74 : decode cX2_init 74 = .ok (.aload_n 0, 1) := by decide +kernel
theorem dX2_init_75 : decode cX2_init 75 = .ok (.iconst 0, 1) := by decide +kernel
theorem dX2_init_76 : decode cX2_init 76 = .ok (.putfield 43, 3) := by decide +kernel
theorem dX2_init_79 : decode cX2_init 79 = .ok (.aload_n 0, 1) := by decide +kernel
theorem dX2_init_80 : decode cX2_init 80 = .ok (.iconst 0, 1) := by decide +kernel
theorem dX2_init_81 : decode cX2_init 81 = .ok (.putfield 46, 3) := by decide +kernel
theorem dX2_init_84 : decode cX2_init 84 = .ok (.return_, 1) := by decide +kernel
set_option maxRecDepth 20000 in
theorem ggX2_letter_X2_isWithin : GoodIn wsX2_letter wsX2_isWithin := goodIn_r _ [6] (by decide +kernel) (by decide +kernel)
set_option maxRecDepth 20000 in
theorem gX2_letter_X2_isWithin : GoodIn wsX2_letter (va_wsS RX2 50 yX2_isWithin wsX2_isWithin) := goodIn_app (goodIn_of _ (by decide +kernel)) ggX2_letter_X2_isWithin
set_option maxRecDepth 20000 in
theorem ggX2_letter_X0_add : GoodIn wsX2_letter wsX0_add := goodIn_r _ [11, 12, 13, 24, 25] (by decide +kernel) (by decide +kernel)
set_option maxRecDepth 20000 in
theorem gX2_letter_X0_add : GoodIn wsX2_letter (wsV RX2 54 RX0 yX0_add wsX0_add) := goodIn_app (goodIn_of _ (by decide +kernel)) ggX2_letter_X0_add
theorem dX2_letter_0 : decode cX2_letter 0 = .ok (.iload_n 1, 1) := by decide +kernel
theorem dX2_letter_1 : decode cX2_letter 1 = .ok (.bipush 32, 2) := by decide +kernel
theorem dX2_letter_3 : decode cX2_letter 3 = .ok (.bipush 126, 2) := by decide +kernel
theorem dX2_letter_5 : decode cX2_letter 5 = .ok (.invokestatic 50, 3) := by decide +kernel
theorem dX2_letter_8 : decode cX2_letter 8 = .ok (.ifCond .ne 6, 3) := by decide +kernel
theorem dX2_letter_11 : decode cX2_letter 11 = .ok (.bipush (-102), 2) := by decide +kernel
theorem dX2_letter_13 : decode cX2_letter 13 = .ok (.ireturn, 1) := by decide +kernel
theorem dX2_letter_14 : decode cX2_letter 14 = .ok (.aload_n 0, 1) := by decide +kernel
theorem dX2_letter_15 : decode cX2_letter 15 = .ok (.getfield 10, 3) := by decide +kernel
theorem dX2_letter_18 : decode cX2_letter 18 = .ok (.iload_n 1, 1) := by decide +kernel
theorem dX2_letter_19 : decode cX2_letter 19 = .ok (.invokevirtual 54, 3) := by decide +kernel
theorem dX2_letter_22 : decode cX2_letter 22 = .ok (.ifCond .ne 6, 3) := by decide +kernel
theorem dX2_letter_25 : decode cX2_letter 25 = .ok (.bipush (-104), 2) := by decide +kernel
theorem dX2_letter_27 : decode cX2_letter 27 = .ok (.ireturn, 1) := by decide +kernel
theorem dX2_letter_28 : decode cX2_letter 28 = .ok (.aload_n 0, 1) := by decide +kernel
theorem dX2_letter_29 : decode cX2_letter 29 = .ok (.getfield 10, 3) := by decide +kernel
theorem dX2_letter_32 : decode cX2_letter 32 = .ok (.getfield 58, 3) := by decide +kernel
theorem dX2_letter_35 : decode cX2_letter 35 = .ok (.ireturn, 1) := by decide +kernel
set_option maxRecDepth 20000 in
theorem ggX2_blank_X0_clear : GoodIn wsX2_blank wsX0_clear := goodIn_r _ [6, 7, 18, 19] (by decide +kernel) (by decide +kernel)
set_option maxRecDepth 20000 in
theorem gX2_blank_X0_clear : GoodIn wsX2_blank (wsV RX2 61 RX0 yX0_clear wsX0_clear) := goodIn_app (goodIn_of _ (by decide +kernel)) ggX2_blank_X0_clear
theorem dX2_blank_0 : decode cX2_blank 0 = .ok (.aload_n 0, 1) := by decide +kernel
theorem dX2_blank_1 : decode cX2_blank 1 = .ok (.getfield 10, 3) := by decide +kernel
theorem dX2_blank_4 : decode cX2_blank 4 = .ok (.invokevirtual 61, 3) := by decide +kernel
theorem dX2_blank_7 : decode cX2_blank 7 = .ok (.ireturn, 1) := by decide +kernel
set_option maxRecDepth 20000 in
theorem ggX2_fault_X0_faultPlace : GoodIn wsX2_fault wsX0_faultPlace := goodIn_r _ [6, 7, 8, 9, 10, 5, 11, 12, 13, 14, 15, 16, 17, 18, 19, 20, 21, 22, 23, 24, 25, 26, 27, 28, 29, 30, 31, 32, 33, 34, 35, 36, 37, 38, 39, 40, 41, 42, 43, 44, 45, 46, 47, 48, 49, 50, 51, 52, 53, 54, 55, 56, 57, 58, 59, 60, 61, 62, 63, 64, 65, 66, 67, 68, 69, 70, 71, 72, 73, 74, 75, 76, 77, 78, 79, 80, 81, 82, 83, 84, 85, 86, 87, 88, 89, 90, 91, 92, 93, 94, 95, 96, 97, 98, 99, 100, 101, 102, 103, 104, 105, 106, 107, 108, 109, 110, 111, 112, 113, 114, 115, 116, 117, 118, 119, 120, 131, 132] (by decide +kernel) (by decide +kernel)
set_option maxRecDepth 20000 in
theorem gX2_fault_X0_faultPlace : GoodIn wsX2_fault (wsV RX2 65 RX0 yX0_faultPlace wsX0_faultPlace) := goodIn_app (goodIn_of _ (by decide +kernel)) ggX2_fault_X0_faultPlace
theorem dX2_fault_0 : decode cX2_fault 0 = .ok (.aload_n 0, 1) := by decide +kernel
theorem dX2_fault_1 : decode cX2_fault 1 = .ok (.getfield 10, 3) := by decide +kernel
theorem dX2_fault_4 : decode cX2_fault 4 = .ok (.invokevirtual 65, 3) := by decide +kernel
theorem dX2_fault_7 : decode cX2_fault 7 = .ok (.ireturn, 1) := by decide +kernel
set_option maxRecDepth 20000 in
theorem ggX2_city_X0_isWhole : GoodIn wsX2_city wsX0_isWhole := goodIn_r _ [12, 13, 14, 15, 16, 11, 17, 18, 19, 20, 21, 22, 23, 24, 25, 26, 27, 28, 29, 30, 31, 32, 33, 34, 35, 36, 37, 38, 39, 40, 41, 42, 43, 44, 45, 46, 47, 48, 49, 50, 51, 52, 53, 54, 55, 56, 57, 58, 59, 60, 61, 62, 63, 64, 65, 66, 67, 68, 69, 70, 71, 72, 73, 74, 75, 76, 77, 78, 79, 80, 81, 82, 83, 84, 85, 86, 87, 88, 89, 90, 91, 92, 93, 94, 95, 96, 97, 98, 99, 100, 101, 102, 103, 104, 105, 106, 107, 108, 109, 110, 111, 112, 113, 114, 115, 116, 117, 118, 119, 120, 121, 122, 123, 124, 125, 126, 127, 128, 129, 130, 179, 180] (by decide +kernel) (by decide +kernel)
set_option maxRecDepth 20000 in
theorem gX2_city_X0_isWhole : GoodIn wsX2_city (wsV RX2 68 RX0 yX0_isWhole wsX0_isWhole) := goodIn_app (goodIn_of _ (by decide +kernel)) ggX2_city_X0_isWhole
set_option maxRecDepth 20000 in
theorem ggX2_city_X0_siteCount : GoodIn wsX2_city wsX0_siteCount := goodIn_r _ [134, 13, 179, 180] (by decide +kernel) (by decide +kernel)
set_option maxRecDepth 20000 in
theorem gX2_city_X0_siteCount : GoodIn wsX2_city (wsV RX2 72 RX0 yX0_siteCount wsX0_siteCount) := goodIn_app (goodIn_of _ (by decide +kernel)) ggX2_city_X0_siteCount
set_option maxRecDepth 20000 in
theorem ggX2_city_X0_kindOf : GoodIn wsX2_city wsX0_kindOf := goodIn_r _ [138, 22, 23, 24, 11, 25, 26, 27, 28, 29, 30, 31, 32, 33, 34, 35, 36, 37, 38, 39, 40, 41, 42, 43, 44, 45, 46, 47, 48, 49, 50, 51, 52, 53, 54, 55, 56, 57, 58, 59, 60, 61, 62, 63, 64, 65, 66, 67, 68, 69, 70, 71, 72, 73, 74, 75, 76, 77, 78, 79, 80, 81, 82, 83, 84, 85, 86, 87, 88, 89, 90, 91, 92, 93, 94, 95, 96, 97, 98, 99, 100, 101, 102, 103, 104, 105, 106, 107, 108, 109, 110, 111, 112, 113, 114, 115, 116, 117, 118, 119, 179, 180] (by decide +kernel) (by decide +kernel)
set_option maxRecDepth 20000 in
theorem gX2_city_X0_kindOf : GoodIn wsX2_city (wsV RX2 75 RX0 yX0_kindOf wsX0_kindOf) := goodIn_app (goodIn_of _ (by decide +kernel)) ggX2_city_X0_kindOf
set_option maxRecDepth 20000 in
theorem ggX2_city_X0_wantOf : GoodIn wsX2_city wsX0_wantOf := goodIn_r _ [142, 143, 144, 145, 11, 146, 26, 27, 28, 29, 30, 179, 180] (by decide +kernel) (by decide +kernel)
set_option maxRecDepth 20000 in
theorem gX2_city_X0_wantOf : GoodIn wsX2_city (wsV RX2 79 RX0 yX0_wantOf wsX0_wantOf) := goodIn_app (goodIn_of _ (by decide +kernel)) ggX2_city_X0_wantOf
set_option maxRecDepth 20000 in
theorem ggX2_city_X0_sunTold : GoodIn wsX2_city wsX0_sunTold := goodIn_r _ [150, 13, 143, 144, 145, 11, 146, 26, 27, 28, 29, 30, 179, 180] (by decide +kernel) (by decide +kernel)
set_option maxRecDepth 20000 in
theorem gX2_city_X0_sunTold : GoodIn wsX2_city (wsV RX2 82 RX0 yX0_sunTold wsX0_sunTold) := goodIn_app (goodIn_of _ (by decide +kernel)) ggX2_city_X0_sunTold
set_option maxRecDepth 20000 in
theorem ggX2_city_X1_begin : GoodIn wsX2_city wsX1_begin := goodIn_r _ [155, 156, 157, 158, 159, 160, 161, 162, 163, 164, 181, 182, 183, 184, 185, 186, 187, 188, 189, 190, 191, 192, 193] (by decide +kernel) (by decide +kernel)
set_option maxRecDepth 20000 in
theorem gX2_city_X1_begin : GoodIn wsX2_city (wsV RX2 85 RX1 yX1_begin wsX1_begin) := goodIn_app (goodIn_of _ (by decide +kernel)) ggX2_city_X1_begin
set_option maxRecDepth 20000 in
theorem ggX2_city_X0_clear : GoodIn wsX2_city wsX0_clear := goodIn_r _ [168, 13, 179, 180] (by decide +kernel) (by decide +kernel)
set_option maxRecDepth 20000 in
theorem gX2_city_X0_clear : GoodIn wsX2_city (wsV RX2 61 RX0 yX0_clear wsX0_clear) := goodIn_app (goodIn_of _ (by decide +kernel)) ggX2_city_X0_clear
theorem dX2_city_0 : decode cX2_city 0 = .ok (.aload_n 0, 1) := by decide +kernel
theorem dX2_city_1 : decode cX2_city 1 = .ok (.getfield 10, 3) := by decide +kernel
theorem dX2_city_4 : decode cX2_city 4 = .ok (.invokevirtual 68, 3) := by decide +kernel
theorem dX2_city_7 : decode cX2_city 7 = .ok (.ifCond .ne 6, 3) := by decide +kernel
theorem dX2_city_10 : decode cX2_city 10 = .ok (.bipush (-103), 2) := by decide +kernel
theorem dX2_city_12 : decode cX2_city 12 = .ok (.ireturn, 1) := by decide +kernel
theorem dX2_city_13 : decode cX2_city 13 = .ok (.aload_n 0, 1) := by decide +kernel
theorem dX2_city_14 : decode cX2_city 14 = .ok (.aload_n 0, 1) := by decide +kernel
theorem dX2_city_15 : decode cX2_city 15 = .ok (.getfield 10, 3) := by decide +kernel
theorem dX2_city_18 : decode cX2_city 18 = .ok (.invokevirtual 72, 3) := by decide +kernel
theorem dX2_city_21 : decode cX2_city 21 = .ok (.putfield 39, 3) := by decide +kernel
theorem dX2_city_24 : decode cX2_city 24 = .ok (.iconst 0, 1) := by decide +kernel
theorem dX2_city_25 : decode cX2_city 25 = .ok (.istore_n 1, 1) := by decide +kernel
theorem dX2_city_26 : decode cX2_city 26 = .ok (.iload_n 1, 1) := by decide +kernel
theorem dX2_city_27 : decode cX2_city 27 = .ok (.aload_n 0, 1) := by decide +kernel
theorem dX2_city_28 : decode cX2_city 28 = .ok (.getfield 39, 3) := by decide +kernel
theorem dX2_city_31 : decode cX2_city 31 = .ok (.if_icmp .ge 37, 3) := by decide +kernel
theorem dX2_city_34 : decode cX2_city 34 = .ok (.aload_n 0, 1) := by decide +kernel
theorem dX2_city_35 : decode cX2_city 35 = .ok (.getfield 16, 3) := by decide +kernel
theorem dX2_city_38 : decode cX2_city 38 = .ok (.iload_n 1, 1) := by decide +kernel
theorem dX2_city_39 : decode cX2_city 39 = .ok (.aload_n 0, 1) := by decide +kernel
theorem dX2_city_40 : decode cX2_city 40 = .ok (.getfield 10, 3) := by decide +kernel
theorem dX2_city_43 : decode cX2_city 43 = .ok (.iload_n 1, 1) := by decide +kernel
theorem dX2_city_44 : decode cX2_city 44 = .ok (.invokevirtual 75, 3) := by decide +kernel
theorem dX2_city_47 : decode cX2_city 47 = .ok (.iastore, 1) := by decide +kernel
theorem dX2_city_48 : decode cX2_city 48 = .ok (.aload_n 0, 1) := by decide +kernel
theorem dX2_city_49 : decode cX2_city 49 = .ok (.getfield 20, 3) := by decide +kernel
theorem dX2_city_52 : decode cX2_city 52 = .ok (.iload_n 1, 1) := by decide +kernel
theorem dX2_city_53 : decode cX2_city 53 = .ok (.aload_n 0, 1) := by decide +kernel
theorem dX2_city_54 : decode cX2_city 54 = .ok (.getfield 10, 3) := by decide +kernel
theorem dX2_city_57 : decode cX2_city 57 = .ok (.iload_n 1, 1) := by decide +kernel
theorem dX2_city_58 : decode cX2_city 58 = .ok (.invokevirtual 79, 3) := by decide +kernel
theorem dX2_city_61 : decode cX2_city 61 = .ok (.iastore, 1) := by decide +kernel
theorem dX2_city_62 : decode cX2_city 62 = .ok (.iinc 1 1, 3) := by decide +kernel
theorem dX2_city_65 : decode cX2_city 65 = .ok (.goto (-39), 3) := by decide +kernel
theorem dX2_city_68 : decode cX2_city 68 = .ok (.aload_n 0, 1) := by decide +kernel
theorem dX2_city_69 : decode cX2_city 69 = .ok (.getfield 26, 3) := by decide +kernel
theorem dX2_city_72 : decode cX2_city 72 = .ok (.aload_n 0, 1) := by decide +kernel
theorem dX2_city_73 : decode cX2_city 73 = .ok (.getfield 10, 3) := by decide +kernel
theorem dX2_city_76 : decode cX2_city 76 = .ok (.invokevirtual 82, 3) := by decide +kernel
theorem dX2_city_79 : decode cX2_city 79 = .ok (.invokevirtual 85, 3) := by decide +kernel
theorem dX2_city_82 : decode cX2_city 82 = .ok (.aload_n 0, 1) := by decide +kernel
theorem dX2_city_83 : decode cX2_city 83 = .ok (.iconst 0, 1) := by decide +kernel
theorem dX2_city_84 : decode cX2_city 84 = .ok (.putfield 46, 3) := by decide +kernel
theorem dX2_city_87 : decode cX2_city 87 = .ok (.aload_n 0, 1) := by decide +kernel
theorem dX2_city_88 : decode cX2_city 88 = .ok (.dup, 1) := by decide +kernel
theorem dX2_city_89 : decode cX2_city 89 = .ok (.getfield 43, 3) := by decide +kernel
theorem dX2_city_92 : decode cX2_city 92 = .ok (.iconst 1, 1) := by decide +kernel
theorem dX2_city_93 : decode cX2_city 93 = .ok (.iadd, 1) := by decide +kernel
theorem dX2_city_94 : decode cX2_city 94 = .ok (.putfield 43, 3) := by decide +kernel
theorem dX2_city_97 : decode cX2_city 97 = .ok (.aload_n 0, 1) := by decide +kernel
theorem dX2_city_98 : decode cX2_city 98 = .ok (.getfield 10, 3) := by decide +kernel
theorem dX2_city_101 : decode cX2_city 101 = .ok (.invokevirtual 61, 3) := by decide +kernel
theorem dX2_city_104 : decode cX2_city 104 = .ok (.pop, 1) := by decide +kernel
theorem dX2_city_105 : decode cX2_city 105 = .ok (.aload_n 0, 1) := by decide +kernel
theorem dX2_city_106 : decode cX2_city 106 = .ok (.getfield 39, 3) := by decide +kernel
theorem dX2_city_109 : decode cX2_city 109 = .ok (.ireturn, 1) := by decide +kernel
set_option maxRecDepth 20000 in
theorem ggX2_about_X2_isSite : GoodIn wsX2_about wsX2_isSite := goodIn_r _ [11, 12, 25, 26, 27, 28, 29, 30, 31, 32, 33, 34] (by decide +kernel) (by decide +kernel)
set_option maxRecDepth 20000 in
theorem gX2_about_X2_isSite : GoodIn wsX2_about (wsV RX2 89 RX2 yX2_isSite wsX2_isSite) := goodIn_app (goodIn_of _ (by decide +kernel)) ggX2_about_X2_isSite
set_option maxRecDepth 20000 in
theorem ggX2_about_X2_meltsNow : GoodIn wsX2_about wsX2_meltsNow := goodIn_r _ [16, 1, 3, 17, 5, 18, 19, 10, 20, 25, 26, 27, 28, 29, 30, 31, 32, 33, 34, 35, 36, 37, 38, 39, 40, 41, 42, 43, 44, 45, 46, 47] (by decide +kernel) (by decide +kernel)
set_option maxRecDepth 20000 in
theorem gX2_about_X2_meltsNow : GoodIn wsX2_about (wsV RX2 98 RX2 yX2_meltsNow wsX2_meltsNow) := goodIn_app (goodIn_of _ (by decide +kernel)) ggX2_about_X2_meltsNow
set_option maxRecDepth 20000 in
theorem ggX2_about_X2_isKeptWith : GoodIn wsX2_about wsX2_isKeptWith := goodIn_r _ [24, 2, 25, 26, 27, 28, 29, 30, 31, 32, 33, 34] (by decide +kernel) (by decide +kernel)
set_option maxRecDepth 20000 in
theorem gX2_about_X2_isKeptWith : GoodIn wsX2_about (wsV RX2 101 RX2 yX2_isKeptWith wsX2_isKeptWith) := goodIn_app (goodIn_of _ (by decide +kernel)) ggX2_about_X2_isKeptWith
theorem dX2_about_0 : decode cX2_about 0 = .ok (.aload_n 0, 1) := by decide +kernel
theorem dX2_about_1 : decode cX2_about 1 = .ok (.iload_n 1, 1) := by decide +kernel
theorem dX2_about_2 : decode cX2_about 2 = .ok (.invokevirtual 89, 3) := by decide +kernel
theorem dX2_about_5 : decode cX2_about 5 = .ok (.ifCond .ne 6, 3) := by decide +kernel
theorem dX2_about_8 : decode cX2_about 8 = .ok (.bipush (-101), 2) := by decide +kernel
theorem dX2_about_10 : decode cX2_about 10 = .ok (.ireturn, 1) := by decide +kernel
theorem dX2_about_11 : decode cX2_about 11 = .ok (.iload_n 2, 1) := by decide +kernel
theorem dX2_about_12 : decode cX2_about 12 = .ok (.tableswitch 117 0 6 #[44, 51, 58, 68, 78, 84, 107], 44) := by decide +kernel
theorem dX2_about_56 : decode cX2_about 56 = .ok (.aload_n 0, 1) := by decide +kernel
theorem dX2_about_57 : decode cX2_about 57 = .ok (.getfield 16, 3) := by decide +kernel
theorem dX2_about_60 : decode cX2_about 60 = .ok (.iload_n 1, 1) := by decide +kernel
theorem dX2_about_61 : decode cX2_about 61 = .ok (.iaload, 1) := by decide +kernel
theorem dX2_about_62 : decode cX2_about 62 = .ok (.ireturn, 1) := by decide +kernel
theorem dX2_about_63 : decode cX2_about 63 = .ok (.aload_n 0, 1) := by decide +kernel
theorem dX2_about_64 : decode cX2_about 64 = .ok (.getfield 20, 3) := by decide +kernel
theorem dX2_about_67 : decode cX2_about 67 = .ok (.iload_n 1, 1) := by decide +kernel
theorem dX2_about_68 : decode cX2_about 68 = .ok (.iaload, 1) := by decide +kernel
theorem dX2_about_69 : decode cX2_about 69 = .ok (.ireturn, 1) := by decide +kernel
theorem dX2_about_70 : decode cX2_about 70 = .ok (.aload_n 0, 1) := by decide +kernel
theorem dX2_about_71 : decode cX2_about 71 = .ok (.getfield 26, 3) := by decide +kernel
theorem dX2_about_74 : decode cX2_about 74 = .ok (.getfield 92, 3) := by decide +kernel
theorem dX2_about_77 : decode cX2_about 77 = .ok (.iload_n 1, 1) := by decide +kernel
theorem dX2_about_78 : decode cX2_about 78 = .ok (.iaload, 1) := by decide +kernel
theorem dX2_about_79 : decode cX2_about 79 = .ok (.ireturn, 1) := by decide +kernel
theorem dX2_about_80 : decode cX2_about 80 = .ok (.aload_n 0, 1) := by decide +kernel
theorem dX2_about_81 : decode cX2_about 81 = .ok (.getfield 26, 3) := by decide +kernel
theorem dX2_about_84 : decode cX2_about 84 = .ok (.getfield 95, 3) := by decide +kernel
theorem dX2_about_87 : decode cX2_about 87 = .ok (.iload_n 1, 1) := by decide +kernel
theorem dX2_about_88 : decode cX2_about 88 = .ok (.iaload, 1) := by decide +kernel
theorem dX2_about_89 : decode cX2_about 89 = .ok (.ireturn, 1) := by decide +kernel
theorem dX2_about_90 : decode cX2_about 90 = .ok (.aload_n 0, 1) := by decide +kernel
theorem dX2_about_91 : decode cX2_about 91 = .ok (.iload_n 1, 1) := by decide +kernel
theorem dX2_about_92 : decode cX2_about 92 = .ok (.invokevirtual 98, 3) := by decide +kernel
theorem dX2_about_95 : decode cX2_about 95 = .ok (.ireturn, 1) := by decide +kernel
theorem dX2_about_96 : decode cX2_about 96 = .ok (.aload_n 0, 1) := by decide +kernel
theorem dX2_about_97 : decode cX2_about 97 = .ok (.iload_n 1, 1) := by decide +kernel
theorem dX2_about_98 : decode cX2_about 98 = .ok (.aload_n 0, 1) := by decide +kernel
theorem dX2_about_99 : decode cX2_about 99 = .ok (.getfield 26, 3) := by decide +kernel
theorem dX2_about_102 : decode cX2_about 102 = .ok (.getfield 92, 3) := by decide +kernel
theorem dX2_about_105 : decode cX2_about 105 = .ok (.iload_n 1, 1) := by decide +kernel
theorem dX2_about_106 : decode cX2_about 106 = .ok (.iaload, 1) := by decide +kernel
theorem dX2_about_107 : decode cX2_about 107 = .ok (.invokevirtual 101, 3) := by decide +kernel
theorem dX2_about_110 : decode cX2_about 110 = .ok (.ifCond .eq 7, 3) := by decide +kernel
theorem dX2_about_113 : decode cX2_about 113 = .ok (.iconst 1, 1) := by decide +kernel
theorem dX2_about_114 : decode cX2_about 114 = .ok (.goto 4, 3) := by decide +kernel
theorem dX2_about_117 : decode cX2_about 117 = .ok (.iconst 0, 1) := by decide +kernel
theorem dX2_about_118 : decode cX2_about 118 = .ok (.ireturn, 1) := by decide +kernel
theorem dX2_about_119 : decode cX2_about 119 = .ok (.aload_n 0, 1) := by decide +kernel
theorem dX2_about_120 : decode cX2_about 120 = .ok (.getfield 26, 3) := by decide +kernel
theorem dX2_about_123 : decode cX2_about 123 = .ok (.getfield 105, 3) := by decide +kernel
theorem dX2_about_126 : decode cX2_about 126 = .ok (.iload_n 1, 1) := by decide +kernel
theorem dX2_about_127 : decode cX2_about 127 = .ok (.iaload, 1) := by decide +kernel
theorem dX2_about_128 : decode cX2_about 128 = .ok (.ireturn, 1) := by decide +kernel
theorem dX2_about_129 : decode cX2_about 129 = .ok (.bipush (-102), 2) := by decide +kernel
theorem dX2_about_131 : decode cX2_about 131 = .ok (.ireturn, 1) := by decide +kernel
set_option maxRecDepth 20000 in
theorem ggX2_as_X2_isSite : GoodIn wsX2_as wsX2_isSite := goodIn_r _ [6, 7, 14, 15, 16, 17, 18, 19, 20, 21, 22, 23] (by decide +kernel) (by decide +kernel)
set_option maxRecDepth 20000 in
theorem gX2_as_X2_isSite : GoodIn wsX2_as (wsV RX2 89 RX2 yX2_isSite wsX2_isSite) := goodIn_app (goodIn_of _ (by decide +kernel)) ggX2_as_X2_isSite
set_option maxRecDepth 20000 in
theorem ggX2_as_X2_isWithin : GoodIn wsX2_as wsX2_isWithin := goodIn_r _ [10] (by decide +kernel) (by decide +kernel)
set_option maxRecDepth 20000 in
theorem gX2_as_X2_isWithin : GoodIn wsX2_as (va_wsS RX2 50 yX2_isWithin wsX2_isWithin) := goodIn_app (goodIn_of _ (by decide +kernel)) ggX2_as_X2_isWithin
set_option maxRecDepth 20000 in
theorem ggX2_as_X2_isOfKind : GoodIn wsX2_as wsX2_isOfKind := goodIn_r _ [13] (by decide +kernel) (by decide +kernel)
set_option maxRecDepth 20000 in
theorem gX2_as_X2_isOfKind : GoodIn wsX2_as (va_wsS RX2 108 yX2_isOfKind wsX2_isOfKind) := goodIn_app (goodIn_of _ (by decide +kernel)) ggX2_as_X2_isOfKind
theorem dX2_as_0 : decode cX2_as 0 = .ok (.aload_n 0, 1) := by decide +kernel
theorem dX2_as_1 : decode cX2_as 1 = .ok (.iload_n 1, 1) := by decide +kernel
theorem dX2_as_2 : decode cX2_as 2 = .ok (.invokevirtual 89, 3) := by decide +kernel
theorem dX2_as_5 : decode cX2_as 5 = .ok (.ifCond .ne 6, 3) := by decide +kernel
theorem dX2_as_8 : decode cX2_as 8 = .ok (.bipush (-101), 2) := by decide +kernel
theorem dX2_as_10 : decode cX2_as 10 = .ok (.ireturn, 1) := by decide +kernel
theorem dX2_as_11 : decode cX2_as 11 = .ok (.iload_n 2, 1) := by decide +kernel
theorem dX2_as_12 : decode cX2_as 12 = .ok (.iconst 0, 1) := by decide +kernel
theorem dX2_as_13 : decode cX2_as 13 = .ok (.iconst 4, 1) := by decide +kernel
theorem dX2_as_14 : decode cX2_as 14 = .ok (.invokestatic 50, 3) := by decide +kernel
theorem dX2_as_17 : decode cX2_as 17 = .ok (.ifCond .ne 6, 3) := by decide +kernel
theorem dX2_as_20 : decode cX2_as 20 = .ok (.bipush (-102), 2) := by decide +kernel
theorem dX2_as_22 : decode cX2_as 22 = .ok (.ireturn, 1) := by decide +kernel
theorem dX2_as_23 : decode cX2_as 23 = .ok (.aload_n 0, 1) := by decide +kernel
theorem dX2_as_24 : decode cX2_as 24 = .ok (.getfield 16, 3) := by decide +kernel
theorem dX2_as_27 : decode cX2_as 27 = .ok (.iload_n 1, 1) := by decide +kernel
theorem dX2_as_28 : decode cX2_as 28 = .ok (.iaload, 1) := by decide +kernel
theorem dX2_as_29 : decode cX2_as 29 = .ok (.iload_n 2, 1) := by decide +kernel
theorem dX2_as_30 : decode cX2_as 30 = .ok (.invokestatic 108, 3) := by decide +kernel
theorem dX2_as_33 : decode cX2_as 33 = .ok (.ifCond .eq 7, 3) := by decide +kernel
theorem dX2_as_36 : decode cX2_as 36 = .ok (.iload_n 1, 1) := by decide +kernel
theorem dX2_as_37 : decode cX2_as 37 = .ok (.goto 4, 3) := by decide +kernel
theorem dX2_as_40 : decode cX2_as 40 = .ok (.iconst (-1), 1) := by decide +kernel
theorem dX2_as_41 : decode cX2_as 41 = .ok (.ireturn, 1) := by decide +kernel
set_option maxRecDepth 20000 in
theorem ggX2_bring_X2_isSite : GoodIn wsX2_bring wsX2_isSite := goodIn_r _ [9, 10, 24, 25, 26, 27, 28, 29, 30, 31, 32, 33] (by decide +kernel) (by decide +kernel)
set_option maxRecDepth 20000 in
theorem gX2_bring_X2_isSite : GoodIn wsX2_bring (wsV RX2 89 RX2 yX2_isSite wsX2_isSite) := goodIn_app (goodIn_of _ (by decide +kernel)) ggX2_bring_X2_isSite
set_option maxRecDepth 20000 in
theorem ggX2_bring_X2_isWithin : GoodIn wsX2_bring wsX2_isWithin := goodIn_r _ [13] (by decide +kernel) (by decide +kernel)
set_option maxRecDepth 20000 in
theorem gX2_bring_X2_isWithin : GoodIn wsX2_bring (va_wsS RX2 50 yX2_isWithin wsX2_isWithin) := goodIn_app (goodIn_of _ (by decide +kernel)) ggX2_bring_X2_isWithin
set_option maxRecDepth 20000 in
theorem ggX2_bring_X2_deepened : GoodIn wsX2_bring wsX2_deepened := goodIn_r _ [16, 17, 18, 19, 20] (by decide +kernel) (by decide +kernel)
set_option maxRecDepth 20000 in
theorem gX2_bring_X2_deepened : GoodIn wsX2_bring (va_wsS RX2 111 yX2_deepened wsX2_deepened) := goodIn_app (goodIn_of _ (by decide +kernel)) ggX2_bring_X2_deepened
set_option maxRecDepth 20000 in
theorem ggX2_bring_X2_priceAt : GoodIn wsX2_bring wsX2_priceAt := goodIn_r _ [23] (by decide +kernel) (by decide +kernel)
set_option maxRecDepth 20000 in
theorem gX2_bring_X2_priceAt : GoodIn wsX2_bring (va_wsS RX2 118 yX2_priceAt wsX2_priceAt) := goodIn_app (goodIn_of _ (by decide +kernel)) ggX2_bring_X2_priceAt
theorem dX2_bring_0 : decode cX2_bring 0 = .ok (.aload_n 0, 1) := by decide +kernel
theorem dX2_bring_1 : decode cX2_bring 1 = .ok (.iload_n 1, 1) := by decide +kernel
theorem dX2_bring_2 : decode cX2_bring 2 = .ok (.invokevirtual 89, 3) := by decide +kernel
theorem dX2_bring_5 : decode cX2_bring 5 = .ok (.ifCond .ne 6, 3) := by decide +kernel
theorem dX2_bring_8 : decode cX2_bring 8 = .ok (.bipush (-101), 2) := by decide +kernel
theorem dX2_bring_10 : decode cX2_bring 10 = .ok (.ireturn, 1) := by decide +kernel
theorem dX2_bring_11 : decode cX2_bring 11 = .ok (.iload_n 2, 1) := by decide +kernel
theorem dX2_bring_12 : decode cX2_bring 12 = .ok (.iconst 1, 1) := by decide +kernel
theorem dX2_bring_13 : decode cX2_bring 13 = .ok (.bipush 9, 2) := by decide +kernel
theorem dX2_bring_15 : decode cX2_bring 15 = .ok (.invokestatic 50, 3) := by decide +kernel
theorem dX2_bring_18 : decode cX2_bring 18 = .ok (.ifCond .ne 6, 3) := by decide +kernel
theorem dX2_bring_21 : decode cX2_bring 21 = .ok (.bipush (-102), 2) := by decide +kernel
theorem dX2_bring_23 : decode cX2_bring 23 = .ok (.ireturn, 1) := by decide +kernel
theorem dX2_bring_24 : decode cX2_bring 24 = .ok (.aload_n 0, 1) := by decide +kernel
theorem dX2_bring_25 : decode cX2_bring 25 = .ok (.getfield 26, 3) := by decide +kernel
theorem dX2_bring_28 : decode cX2_bring 28 = .ok (.getfield 105, 3) := by decide +kernel
theorem dX2_bring_31 : decode cX2_bring 31 = .ok (.iload_n 1, 1) := by decide +kernel
theorem dX2_bring_32 : decode cX2_bring 32 = .ok (.iaload, 1) := by decide +kernel
theorem dX2_bring_33 : decode cX2_bring 33 = .ok (.iload_n 2, 1) := by decide +kernel
theorem dX2_bring_34 : decode cX2_bring 34 = .ok (.iadd, 1) := by decide +kernel
theorem dX2_bring_35 : decode cX2_bring 35 = .ok (.bipush 99, 2) := by decide +kernel
theorem dX2_bring_37 : decode cX2_bring 37 = .ok (.if_icmp .le 6, 3) := by decide +kernel
theorem dX2_bring_40 : decode cX2_bring 40 = .ok (.bipush (-104), 2) := by decide +kernel
theorem dX2_bring_42 : decode cX2_bring 42 = .ok (.ireturn, 1) := by decide +kernel
theorem dX2_bring_43 : decode cX2_bring 43 = .ok (.aload_n 0, 1) := by decide +kernel
theorem dX2_bring_44 : decode cX2_bring 44 = .ok (.getfield 26, 3) := by decide +kernel
theorem dX2_bring_47 : decode cX2_bring 47 = .ok (.getfield 105, 3) := by decide +kernel
theorem dX2_bring_50 : decode cX2_bring 50 = .ok (.iload_n 1, 1) := by decide +kernel
theorem dX2_bring_51 : decode cX2_bring 51 = .ok (.dup2, 1) := by decide +kernel
theorem dX2_bring_52 : decode cX2_bring 52 = .ok (.iaload, 1) := by decide +kernel
theorem dX2_bring_53 : decode cX2_bring 53 = .ok (.iload_n 2, 1) := by decide +kernel
theorem dX2_bring_54 : decode cX2_bring 54 = .ok (.iadd, 1) := by decide +kernel
theorem dX2_bring_55 : decode cX2_bring 55 = .ok (.iastore, 1) := by decide +kernel
theorem dX2_bring_56 : decode cX2_bring 56 = .ok (.aload_n 0, 1) := by decide +kernel
theorem dX2_bring_57 : decode cX2_bring 57 = .ok (.getfield 26, 3) := by decide +kernel
theorem dX2_bring_60 : decode cX2_bring 60 = .ok (.getfield 92, 3) := by decide +kernel
theorem dX2_bring_63 : decode cX2_bring 63 = .ok (.iload_n 1, 1) := by decide +kernel
theorem dX2_bring_64 : decode cX2_bring 64 = .ok (.aload_n 0, 1) := by decide +kernel
theorem dX2_bring_65 : decode cX2_bring 65 = .ok (.getfield 26, 3) := by decide +kernel
theorem dX2_bring_68 : decode cX2_bring 68 = .ok (.getfield 92, 3) := by decide +kernel
theorem dX2_bring_71 : decode cX2_bring 71 = .ok (.iload_n 1, 1) := by decide +kernel
theorem dX2_bring_72 : decode cX2_bring 72 = .ok (.iaload, 1) := by decide +kernel
theorem dX2_bring_73 : decode cX2_bring 73 = .ok (.iload_n 2, 1) := by decide +kernel
theorem dX2_bring_74 : decode cX2_bring 74 = .ok (.invokestatic 111, 3) := by decide +kernel
theorem dX2_bring_77 : decode cX2_bring 77 = .ok (.iastore, 1) := by decide +kernel
theorem dX2_bring_78 : decode cX2_bring 78 = .ok (.aload_n 0, 1) := by decide +kernel
theorem dX2_bring_79 : decode cX2_bring 79 = .ok (.getfield 26, 3) := by decide +kernel
theorem dX2_bring_82 : decode cX2_bring 82 = .ok (.dup, 1) := by decide +kernel
theorem dX2_bring_83 : decode cX2_bring 83 = .ok (.getfield 115, 3) := by decide +kernel
theorem dX2_bring_86 : decode cX2_bring 86 = .ok (.iload_n 2, 1) := by decide +kernel
theorem dX2_bring_87 : decode cX2_bring 87 = .ok (.iload_n 1, 1) := by decide +kernel
theorem dX2_bring_88 : decode cX2_bring 88 = .ok (.invokestatic 118, 3) := by decide +kernel
theorem dX2_bring_91 : decode cX2_bring 91 = .ok (.imul, 1) := by decide +kernel
theorem dX2_bring_92 : decode cX2_bring 92 = .ok (.iadd, 1) := by decide +kernel
theorem dX2_bring_93 : decode cX2_bring 93 = .ok (.putfield 115, 3) := by decide +kernel
theorem dX2_bring_96 : decode cX2_bring 96 = .ok (.aload_n 0, 1) := by decide +kernel
theorem dX2_bring_97 : decode cX2_bring 97 = .ok (.getfield 26, 3) := by decide +kernel
theorem dX2_bring_100 : decode cX2_bring 100 = .ok (.getfield 92, 3) := by decide +kernel
theorem dX2_bring_103 : decode cX2_bring 103 = .ok (.iload_n 1, 1) := by decide +kernel
theorem dX2_bring_104 : decode cX2_bring 104 = .ok (.iaload, 1) := by decide +kernel
theorem dX2_bring_105 : decode cX2_bring 105 = .ok (.ireturn, 1) := by decide +kernel
set_option maxRecDepth 20000 in
theorem ggX2_tread_X2_isSite : GoodIn wsX2_tread wsX2_isSite := goodIn_r _ [7, 8, 12, 13, 14, 15, 16, 17, 18, 19, 20, 21] (by decide +kernel) (by decide +kernel)
set_option maxRecDepth 20000 in
theorem gX2_tread_X2_isSite : GoodIn wsX2_tread (wsV RX2 89 RX2 yX2_isSite wsX2_isSite) := goodIn_app (goodIn_of _ (by decide +kernel)) ggX2_tread_X2_isSite
set_option maxRecDepth 20000 in
theorem ggX2_tread_X2_isWithin : GoodIn wsX2_tread wsX2_isWithin := goodIn_r _ [11] (by decide +kernel) (by decide +kernel)
set_option maxRecDepth 20000 in
theorem gX2_tread_X2_isWithin : GoodIn wsX2_tread (va_wsS RX2 50 yX2_isWithin wsX2_isWithin) := goodIn_app (goodIn_of _ (by decide +kernel)) ggX2_tread_X2_isWithin
theorem dX2_tread_0 : decode cX2_tread 0 = .ok (.aload_n 0, 1) := by decide +kernel
theorem dX2_tread_1 : decode cX2_tread 1 = .ok (.iload_n 1, 1) := by decide +kernel
theorem dX2_tread_2 : decode cX2_tread 2 = .ok (.invokevirtual 89, 3) := by decide +kernel
theorem dX2_tread_5 : decode cX2_tread 5 = .ok (.ifCond .ne 6, 3) := by decide +kernel
theorem dX2_tread_8 : decode cX2_tread 8 = .ok (.bipush (-101), 2) := by decide +kernel
theorem dX2_tread_10 : decode cX2_tread 10 = .ok (.ireturn, 1) := by decide +kernel
theorem dX2_tread_11 : decode cX2_tread 11 = .ok (.iload_n 2, 1) := by decide +kernel
theorem dX2_tread_12 : decode cX2_tread 12 = .ok (.iconst 0, 1) := by decide +kernel
theorem dX2_tread_13 : decode cX2_tread 13 = .ok (.bipush 9, 2) := by decide +kernel
theorem dX2_tread_15 : decode cX2_tread 15 = .ok (.invokestatic 50, 3) := by decide +kernel
theorem dX2_tread_18 : decode cX2_tread 18 = .ok (.ifCond .ne 6, 3) := by decide +kernel
theorem dX2_tread_21 : decode cX2_tread 21 = .ok (.bipush (-102), 2) := by decide +kernel
theorem dX2_tread_23 : decode cX2_tread 23 = .ok (.ireturn, 1) := by decide +kernel
theorem dX2_tread_24 : decode cX2_tread 24 = .ok (.aload_n 0, 1) := by decide +kernel
theorem dX2_tread_25 : decode cX2_tread 25 = .ok (.getfield 26, 3) := by decide +kernel
theorem dX2_tread_28 : decode cX2_tread 28 = .ok (.getfield 95, 3) := by decide +kernel
theorem dX2_tread_31 : decode cX2_tread 31 = .ok (.iload_n 1, 1) := by decide +kernel
theorem dX2_tread_32 : decode cX2_tread 32 = .ok (.iaload, 1) := by decide +kernel
theorem dX2_tread_33 : decode cX2_tread 33 = .ok (.istore_n 3, 1) := by decide +kernel
theorem dX2_tread_34 : decode cX2_tread 34 = .ok (.aload_n 0, 1) := by decide +kernel
theorem dX2_tread_35 : decode cX2_tread 35 = .ok (.getfield 26, 3) := by decide +kernel
theorem dX2_tread_38 : decode cX2_tread 38 = .ok (.getfield 95, 3) := by decide +kernel
theorem dX2_tread_41 : decode cX2_tread 41 = .ok (.iload_n 1, 1) := by decide +kernel
theorem dX2_tread_42 : decode cX2_tread 42 = .ok (.iload_n 2, 1) := by decide +kernel
theorem dX2_tread_43 : decode cX2_tread 43 = .ok (.iastore, 1) := by decide +kernel
theorem dX2_tread_44 : decode cX2_tread 44 = .ok (.iload_n 3, 1) := by decide +kernel
theorem dX2_tread_45 : decode cX2_tread 45 = .ok (.ireturn, 1) := by decide +kernel
set_option maxRecDepth 20000 in
theorem ggX2_sun_X2_isWithin : GoodIn wsX2_sun wsX2_isWithin := goodIn_r _ [7] (by decide +kernel) (by decide +kernel)
set_option maxRecDepth 20000 in
theorem gX2_sun_X2_isWithin : GoodIn wsX2_sun (va_wsS RX2 50 yX2_isWithin wsX2_isWithin) := goodIn_app (goodIn_of _ (by decide +kernel)) ggX2_sun_X2_isWithin
theorem dX2_sun_0 : decode cX2_sun 0 = .ok (.iload_n 1, 1) := by decide +kernel
theorem dX2_sun_1 : decode cX2_sun 1 = .ok (.iconst 0, 1) := by decide +kernel
theorem dX2_sun_2 : decode cX2_sun 2 = .ok (.bipush 9, 2) := by decide +kernel
theorem dX2_sun_4 : decode cX2_sun 4 = .ok (.invokestatic 50, 3) := by decide +kernel
theorem dX2_sun_7 : decode cX2_sun 7 = .ok (.ifCond .ne 6, 3) := by decide +kernel
theorem dX2_sun_10 : decode cX2_sun 10 = .ok (.bipush (-102), 2) := by decide +kernel
theorem dX2_sun_12 : decode cX2_sun 12 = .ok (.ireturn, 1) := by decide +kernel
theorem dX2_sun_13 : decode cX2_sun 13 = .ok (.aload_n 0, 1) := by decide +kernel
theorem dX2_sun_14 : decode cX2_sun 14 = .ok (.getfield 39, 3) := by decide +kernel
theorem dX2_sun_17 : decode cX2_sun 17 = .ok (.ifCond .ne 6, 3) := by decide +kernel
theorem dX2_sun_20 : decode cX2_sun 20 = .ok (.bipush (-103), 2) := by decide +kernel
theorem dX2_sun_22 : decode cX2_sun 22 = .ok (.ireturn, 1) := by decide +kernel
theorem dX2_sun_23 : decode cX2_sun 23 = .ok (.aload_n 0, 1) := by decide +kernel
theorem dX2_sun_24 : decode cX2_sun 24 = .ok (.getfield 26, 3) := by decide +kernel
theorem dX2_sun_27 : decode cX2_sun 27 = .ok (.getfield 121, 3) := by decide +kernel
theorem dX2_sun_30 : decode cX2_sun 30 = .ok (.istore_n 2, 1) := by decide +kernel
theorem dX2_sun_31 : decode cX2_sun 31 = .ok (.aload_n 0, 1) := by decide +kernel
theorem dX2_sun_32 : decode cX2_sun 32 = .ok (.getfield 26, 3) := by decide +kernel
theorem dX2_sun_35 : decode cX2_sun 35 = .ok (.iload_n 1, 1) := by decide +kernel
theorem dX2_sun_36 : decode cX2_sun 36 = .ok (.putfield 121, 3) := by decide +kernel
theorem dX2_sun_39 : decode cX2_sun 39 = .ok (.iload_n 2, 1) := by decide +kernel
theorem dX2_sun_40 : decode cX2_sun 40 = .ok (.ireturn, 1) := by decide +kernel
set_option maxRecDepth 20000 in
theorem ggX2_day_X2_meltAll : GoodIn wsX2_day wsX2_meltAll := goodIn_r _ [9, 1, 10, 2, 11, 12, 13, 8, 14, 15, 16, 17, 18, 19, 20, 21, 22, 23, 24, 25, 26, 37, 38, 39, 40, 41, 42, 43, 44, 45, 46, 47, 48, 49, 50, 51, 52, 53, 54, 55, 56, 57, 58, 59] (by decide +kernel) (by decide +kernel)
set_option maxRecDepth 20000 in
theorem gX2_day_X2_meltAll : GoodIn wsX2_day (wsV RX2 124 RX2 yX2_meltAll wsX2_meltAll) := goodIn_app (goodIn_of _ (by decide +kernel)) ggX2_day_X2_meltAll
set_option maxRecDepth 20000 in
theorem ggX2_day_X1_endDay : GoodIn wsX2_day wsX1_endDay := goodIn_r _ [31, 32, 33, 34, 35, 36, 47, 48, 49, 50, 51, 52, 53, 54, 55, 56, 57, 58, 59] (by decide +kernel) (by decide +kernel)
set_option maxRecDepth 20000 in
theorem gX2_day_X1_endDay : GoodIn wsX2_day (wsV RX2 128 RX1 yX1_endDay wsX1_endDay) := goodIn_app (goodIn_of _ (by decide +kernel)) ggX2_day_X1_endDay
theorem dX2_day_0 : decode cX2_day 0 = .ok (.aload_n 0, 1) := by decide +kernel
theorem dX2_day_1 : decode cX2_day 1 = .ok (.getfield 39, 3) := by decide +kernel
theorem dX2_day_4 : decode cX2_day 4 = .ok (.ifCond .ne 6, 3) := by decide +kernel
theorem dX2_day_7 : decode cX2_day 7 = .ok (.bipush (-103), 2) := by decide +kernel
theorem dX2_day_9 : decode cX2_day 9 = .ok (.ireturn, 1) := by decide +kernel
theorem dX2_day_10 : decode cX2_day 10 = .ok (.aload_n 0, 1) := by decide +kernel
theorem dX2_day_11 : decode cX2_day 11 = .ok (.aload_n 0, 1) := by decide +kernel
theorem dX2_day_12 : decode cX2_day 12 = .ok (.getfield 26, 3) := by decide +kernel
theorem dX2_day_15 : decode cX2_day 15 = .ok (.getfield 92, 3) := by decide +kernel
theorem dX2_day_18 : decode cX2_day 18 = .ok (.aload_n 0, 1) := by decide +kernel
theorem dX2_day_19 : decode cX2_day 19 = .ok (.getfield 26, 3) := by decide +kernel
theorem dX2_day_22 : decode cX2_day 22 = .ok (.getfield 121, 3) := by decide +kernel
theorem dX2_day_25 : decode cX2_day 25 = .ok (.invokevirtual 124, 3) := by decide +kernel
theorem dX2_day_28 : decode cX2_day 28 = .ok (.istore_n 1, 1) := by decide +kernel
theorem dX2_day_29 : decode cX2_day 29 = .ok (.aload_n 0, 1) := by decide +kernel
theorem dX2_day_30 : decode cX2_day 30 = .ok (.getfield 26, 3) := by decide +kernel
theorem dX2_day_33 : decode cX2_day 33 = .ok (.iload_n 1, 1) := by decide +kernel
theorem dX2_day_34 : decode cX2_day 34 = .ok (.invokevirtual 128, 3) := by decide +kernel
theorem dX2_day_37 : decode cX2_day 37 = .ok (.iload_n 1, 1) := by decide +kernel
theorem dX2_day_38 : decode cX2_day 38 = .ok (.ireturn, 1) := by decide +kernel
set_option maxRecDepth 20000 in
theorem ggX2_need_X2_isSite : GoodIn wsX2_need wsX2_isSite := goodIn_r _ [5, 6, 31, 32, 33, 34, 35, 36, 37, 38, 39, 40] (by decide +kernel) (by decide +kernel)
set_option maxRecDepth 20000 in
theorem gX2_need_X2_isSite : GoodIn wsX2_need (wsV RX2 89 RX2 yX2_isSite wsX2_isSite) := goodIn_app (goodIn_of _ (by decide +kernel)) ggX2_need_X2_isSite
set_option maxRecDepth 20000 in
theorem ggX2_need_X2_isWithin : GoodIn wsX2_need wsX2_isWithin := goodIn_r _ [9] (by decide +kernel) (by decide +kernel)
set_option maxRecDepth 20000 in
theorem gX2_need_X2_isWithin : GoodIn wsX2_need (va_wsS RX2 50 yX2_isWithin wsX2_isWithin) := goodIn_app (goodIn_of _ (by decide +kernel)) ggX2_need_X2_isWithin
set_option maxRecDepth 20000 in
theorem ggX2_need_X2_loadsNeeded : GoodIn wsX2_need wsX2_loadsNeeded := goodIn_r _ [13, 14, 15, 16, 17, 18, 19, 20, 21, 22, 23, 4, 24, 25, 26, 27, 28, 29, 30, 31, 32, 33, 34, 35, 36, 37, 38, 39, 40, 41, 42, 43, 44, 45, 46, 47, 48, 49, 50, 51, 52, 53] (by decide +kernel) (by decide +kernel)
set_option maxRecDepth 20000 in
theorem gX2_need_X2_loadsNeeded : GoodIn wsX2_need (wsV RX2 131 RX2 yX2_loadsNeeded wsX2_loadsNeeded) := goodIn_app (goodIn_of _ (by decide +kernel)) ggX2_need_X2_loadsNeeded
theorem dX2_need_0 : decode cX2_need 0 = .ok (.aload_n 0, 1) := by decide +kernel
theorem dX2_need_1 : decode cX2_need 1 = .ok (.iload_n 1, 1) := by decide +kernel
theorem dX2_need_2 : decode cX2_need 2 = .ok (.invokevirtual 89, 3) := by decide +kernel
theorem dX2_need_5 : decode cX2_need 5 = .ok (.ifCond .ne 6, 3) := by decide +kernel
theorem dX2_need_8 : decode cX2_need 8 = .ok (.bipush (-101), 2) := by decide +kernel
theorem dX2_need_10 : decode cX2_need 10 = .ok (.ireturn, 1) := by decide +kernel
theorem dX2_need_11 : decode cX2_need 11 = .ok (.iload_n 2, 1) := by decide +kernel
theorem dX2_need_12 : decode cX2_need 12 = .ok (.iconst 0, 1) := by decide +kernel
theorem dX2_need_13 : decode cX2_need 13 = .ok (.bipush 9, 2) := by decide +kernel
theorem dX2_need_15 : decode cX2_need 15 = .ok (.invokestatic 50, 3) := by decide +kernel
theorem dX2_need_18 : decode cX2_need 18 = .ok (.ifCond .ne 6, 3) := by decide +kernel
theorem dX2_need_21 : decode cX2_need 21 = .ok (.bipush (-102), 2) := by decide +kernel
theorem dX2_need_23 : decode cX2_need 23 = .ok (.ireturn, 1) := by decide +kernel
theorem dX2_need_24 : decode cX2_need 24 = .ok (.aload_n 0, 1) := by decide +kernel
theorem dX2_need_25 : decode cX2_need 25 = .ok (.iload_n 1, 1) := by decide +kernel
theorem dX2_need_26 : decode cX2_need 26 = .ok (.iload_n 2, 1) := by decide +kernel
theorem dX2_need_27 : decode cX2_need 27 = .ok (.invokevirtual 131, 3) := by decide +kernel
theorem dX2_need_30 : decode cX2_need 30 = .ok (.ireturn, 1) := by decide +kernel
set_option maxRecDepth 20000 in
theorem ggX2_plan_X2_isWithin : GoodIn wsX2_plan wsX2_isWithin := goodIn_r _ [5] (by decide +kernel) (by decide +kernel)
set_option maxRecDepth 20000 in
theorem gX2_plan_X2_isWithin : GoodIn wsX2_plan (va_wsS RX2 50 yX2_isWithin wsX2_isWithin) := goodIn_app (goodIn_of _ (by decide +kernel)) ggX2_plan_X2_isWithin
set_option maxRecDepth 20000 in
theorem ggX2_plan_X2_tellNeeds : GoodIn wsX2_plan wsX2_tellNeeds := goodIn_r _ [9, 1, 10, 11, 12, 13, 4, 14, 15, 16, 17, 18, 19, 20, 21, 22, 23, 24, 25, 26, 27, 28, 29, 30, 31, 61, 62, 63, 64, 65, 66, 67, 68, 69, 70, 71, 72, 73, 74, 75, 76, 77, 78, 79, 80, 81, 82, 83] (by decide +kernel) (by decide +kernel)
set_option maxRecDepth 20000 in
theorem gX2_plan_X2_tellNeeds : GoodIn wsX2_plan (wsV RX2 134 RX2 yX2_tellNeeds wsX2_tellNeeds) := goodIn_app (goodIn_of _ (by decide +kernel)) ggX2_plan_X2_tellNeeds
set_option maxRecDepth 20000 in
theorem ggX2_plan_X2_bestPlan : GoodIn wsX2_plan wsX2_bestPlan := goodIn_r _ [35, 1, 36, 37, 38, 4, 39, 10, 40, 41, 42, 43, 44, 45, 46, 47, 48, 49, 50, 51, 52, 53, 54, 55, 56, 57, 58, 59, 60, 61, 62, 63, 64, 65, 66, 67, 68, 69, 70] (by decide +kernel) (by decide +kernel)
set_option maxRecDepth 20000 in
theorem gX2_plan_X2_bestPlan : GoodIn wsX2_plan (wsV RX2 137 RX2 yX2_bestPlan wsX2_bestPlan) := goodIn_app (goodIn_of _ (by decide +kernel)) ggX2_plan_X2_bestPlan
set_option maxRecDepth 20000 in
theorem ggX2_plan_J6_bitCount_0f7a4 : GoodIn wsX2_plan wsJ6_bitCount_0f7a4 := goodIn_r _ [50, 51, 52, 53] (by decide +kernel) (by decide +kernel)
set_option maxRecDepth 20000 in
theorem gX2_plan_J6_bitCount_0f7a4 : GoodIn wsX2_plan (va_wsS RX2 140 yJ6_bitCount_0f7a4 wsJ6_bitCount_0f7a4) := goodIn_app (goodIn_of _ (by decide +kernel)) ggX2_plan_J6_bitCount_0f7a4
set_option maxRecDepth 20000 in
theorem ggX2_plan_X2_loadsOf : GoodIn wsX2_plan wsX2_loadsOf := goodIn_r _ [39, 1, 10, 40, 41, 4, 42, 61, 62, 63, 64, 65, 66, 67, 68, 69, 70] (by decide +kernel) (by decide +kernel)
set_option maxRecDepth 20000 in
theorem gX2_plan_X2_loadsOf : GoodIn wsX2_plan (wsV RX2 145 RX2 yX2_loadsOf wsX2_loadsOf) := goodIn_app (goodIn_of _ (by decide +kernel)) ggX2_plan_X2_loadsOf
set_option maxRecDepth 20000 in
theorem ggX2_plan_X2_costOf : GoodIn wsX2_plan wsX2_costOf := goodIn_r _ [57, 1, 10, 40, 41, 4, 42, 58, 59, 60, 61, 62, 63, 64, 65, 66, 67, 68, 69, 70] (by decide +kernel) (by decide +kernel)
set_option maxRecDepth 20000 in
theorem gX2_plan_X2_costOf : GoodIn wsX2_plan (wsV RX2 148 RX2 yX2_costOf wsX2_costOf) := goodIn_app (goodIn_of _ (by decide +kernel)) ggX2_plan_X2_costOf
theorem dX2_plan_0 : decode cX2_plan 0 = .ok (.iload_n 1, 1) := by decide +kernel
theorem dX2_plan_1 : decode cX2_plan 1 = .ok (.iconst 0, 1) := by decide +kernel
theorem dX2_plan_2 : decode cX2_plan 2 = .ok (.bipush 60, 2) := by decide +kernel
theorem dX2_plan_4 : decode cX2_plan 4 = .ok (.invokestatic 50, 3) := by decide +kernel
theorem dX2_plan_7 : decode cX2_plan 7 = .ok (.ifCond .eq 22, 3) := by decide +kernel
theorem dX2_plan_10 : decode cX2_plan 10 = .ok (.iload_n 2, 1) := by decide +kernel
theorem dX2_plan_11 : decode cX2_plan 11 = .ok (.iconst 0, 1) := by decide +kernel
theorem dX2_plan_12 : decode cX2_plan 12 = .ok (.bipush 9, 2) := by decide +kernel
theorem dX2_plan_14 : decode cX2_plan 14 = .ok (.invokestatic 50, 3) := by decide +kernel
theorem dX2_plan_17 : decode cX2_plan 17 = .ok (.ifCond .eq 12, 3) := by decide +kernel
theorem dX2_plan_20 : decode cX2_plan 20 = .ok (.iload_n 3, 1) := by decide +kernel
theorem dX2_plan_21 : decode cX2_plan 21 = .ok (.iconst 0, 1) := by decide +kernel
theorem dX2_plan_22 : decode cX2_plan 22 = .ok (.iconst 3, 1) := by decide +kernel
theorem dX2_plan_23 : decode cX2_plan 23 = .ok (.invokestatic 50, 3) := by decide +kernel
theorem dX2_plan_26 : decode cX2_plan 26 = .ok (.ifCond .ne 6, 3) := by decide +kernel
theorem dX2_plan_29 : decode cX2_plan 29 = .ok (.bipush (-102), 2) := by decide +kernel
theorem dX2_plan_31 : decode cX2_plan 31 = .ok (.ireturn, 1) := by decide +kernel
theorem dX2_plan_32 : decode cX2_plan 32 = .ok (.aload_n 0, 1) := by decide +kernel
theorem dX2_plan_33 : decode cX2_plan 33 = .ok (.getfield 39, 3) := by decide +kernel
theorem dX2_plan_36 : decode cX2_plan 36 = .ok (.ifCond .ne 6, 3) := by decide +kernel
theorem dX2_plan_39 : decode cX2_plan 39 = .ok (.bipush (-103), 2) := by decide +kernel
theorem dX2_plan_41 : decode cX2_plan 41 = .ok (.ireturn, 1) := by decide +kernel
theorem dX2_plan_42 : decode cX2_plan 42 = .ok (.aload_n 0, 1) := by decide +kernel
theorem dX2_plan_43 : decode cX2_plan 43 = .ok (.iload_n 2, 1) := by decide +kernel
theorem dX2_plan_44 : decode cX2_plan 44 = .ok (.invokevirtual 134, 3) := by decide +kernel
theorem dX2_plan_47 : decode cX2_plan 47 = .ok (.aload_n 0, 1) := by decide +kernel
theorem dX2_plan_48 : decode cX2_plan 48 = .ok (.iload_n 1, 1) := by decide +kernel
theorem dX2_plan_49 : decode cX2_plan 49 = .ok (.invokevirtual 137, 3) := by decide +kernel
theorem dX2_plan_52 : decode cX2_plan 52 = .ok (.istore 4, 2) := by decide +kernel
theorem dX2_plan_54 : decode cX2_plan 54 = .ok (.iload_n 3, 1) := by decide +kernel
theorem dX2_plan_55 : decode cX2_plan 55 = .ok (.tableswitch 41 0 2 #[25, 31, 34], 25) := by decide +kernel
theorem dX2_plan_80 : decode cX2_plan 80 = .ok (.iload 4, 2) := by decide +kernel
theorem dX2_plan_82 : decode cX2_plan 82 = .ok (.invokestatic 140, 3) := by decide +kernel
theorem dX2_plan_85 : decode cX2_plan 85 = .ok (.ireturn, 1) := by decide +kernel
theorem dX2_plan_86 : decode cX2_plan 86 = .ok (.iload 4, 2) := by decide +kernel
theorem dX2_plan_88 : decode cX2_plan 88 = .ok (.ireturn, 1) := by decide +kernel
theorem dX2_plan_89 : decode cX2_plan 89 = .ok (.aload_n 0, 1) := by decide +kernel
theorem dX2_plan_90 : decode cX2_plan 90 = .ok (.iload 4, 2) := by decide +kernel
theorem dX2_plan_92 : decode cX2_plan 92 = .ok (.invokevirtual 145, 3) := by decide +kernel
theorem dX2_plan_95 : decode cX2_plan 95 = .ok (.ireturn, 1) := by decide +kernel
theorem dX2_plan_96 : decode cX2_plan 96 = .ok (.aload_n 0, 1) := by decide +kernel
theorem dX2_plan_97 : decode cX2_plan 97 = .ok (.iload 4, 2) := by decide +kernel
theorem dX2_plan_99 : decode cX2_plan 99 = .ok (.invokevirtual 148, 3) := by decide +kernel
theorem dX2_plan_102 : decode cX2_plan 102 = .ok (.ireturn, 1) := by decide +kernel
set_option maxRecDepth 20000 in
theorem ggX2_error_X2_isWithin : GoodIn wsX2_error wsX2_isWithin := goodIn_r _ [5] (by decide +kernel) (by decide +kernel)
set_option maxRecDepth 20000 in
theorem gX2_error_X2_isWithin : GoodIn wsX2_error (va_wsS RX2 50 yX2_isWithin wsX2_isWithin) := goodIn_app (goodIn_of _ (by decide +kernel)) ggX2_error_X2_isWithin
set_option maxRecDepth 20000 in
theorem ggX2_error_X2_bestError : GoodIn wsX2_error wsX2_bestError := goodIn_r _ [9, 10, 11, 1, 12, 13, 14, 4, 15, 16, 17, 18, 19, 20, 21, 22, 23, 24, 25, 26, 27, 28, 29, 30, 31, 32, 33, 34, 35, 36, 37, 38, 39, 40, 41, 42, 43, 44, 45, 46, 47, 48, 49, 50, 51, 52, 53, 54, 55, 56, 57, 58, 59, 60, 61, 62, 63, 64] (by decide +kernel) (by decide +kernel)
set_option maxRecDepth 20000 in
theorem gX2_error_X2_bestError : GoodIn wsX2_error (wsV RX2 151 RX2 yX2_bestError wsX2_bestError) := goodIn_app (goodIn_of _ (by decide +kernel)) ggX2_error_X2_bestError
set_option maxRecDepth 20000 in
theorem ggX2_error_X2_keptIfSwapped : GoodIn wsX2_error wsX2_keptIfSwapped := goodIn_r _ [24, 1, 10, 11, 25, 26, 27, 4, 28, 29, 30, 31, 32, 33, 34, 35, 36, 37, 38, 39, 40, 41, 16, 17, 18, 19, 20, 42, 43, 44, 45, 46, 47, 48, 49, 50, 51, 52, 53, 54, 55, 56, 57, 58, 59, 60, 61, 62, 63, 64] (by decide +kernel) (by decide +kernel)
set_option maxRecDepth 20000 in
theorem gX2_error_X2_keptIfSwapped : GoodIn wsX2_error (wsV RX2 154 RX2 yX2_keptIfSwapped wsX2_keptIfSwapped) := goodIn_app (goodIn_of _ (by decide +kernel)) ggX2_error_X2_keptIfSwapped
theorem dX2_error_0 : decode cX2_error 0 = .ok (.iload_n 1, 1) := by decide +kernel
theorem dX2_error_1 : decode cX2_error 1 = .ok (.iconst 0, 1) := by decide +kernel
theorem dX2_error_2 : decode cX2_error 2 = .ok (.iconst 1, 1) := by decide +kernel
theorem dX2_error_3 : decode cX2_error 3 = .ok (.invokestatic 50, 3) := by decide +kernel
theorem dX2_error_6 : decode cX2_error 6 = .ok (.ifCond .ne 6, 3) := by decide +kernel
theorem dX2_error_9 : decode cX2_error 9 = .ok (.bipush (-102), 2) := by decide +kernel
theorem dX2_error_11 : decode cX2_error 11 = .ok (.ireturn, 1) := by decide +kernel
theorem dX2_error_12 : decode cX2_error 12 = .ok (.aload_n 0, 1) := by decide +kernel
theorem dX2_error_13 : decode cX2_error 13 = .ok (.getfield 39, 3) := by decide +kernel
theorem dX2_error_16 : decode cX2_error 16 = .ok (.ifCond .ne 6, 3) := by decide +kernel
theorem dX2_error_19 : decode cX2_error 19 = .ok (.bipush (-103), 2) := by decide +kernel
theorem dX2_error_21 : decode cX2_error 21 = .ok (.ireturn, 1) := by decide +kernel
theorem dX2_error_22 : decode cX2_error 22 = .ok (.aload_n 0, 1) := by decide +kernel
theorem dX2_error_23 : decode cX2_error 23 = .ok (.invokevirtual 151, 3) := by decide +kernel
theorem dX2_error_26 : decode cX2_error 26 = .ok (.istore_n 2, 1) := by decide +kernel
theorem dX2_error_27 : decode cX2_error 27 = .ok (.iload_n 2, 1) := by decide +kernel
theorem dX2_error_28 : decode cX2_error 28 = .ok (.iconst (-1), 1) := by decide +kernel
theorem dX2_error_29 : decode cX2_error 29 = .ok (.if_icmp .eq 7, 3) := by decide +kernel
theorem dX2_error_32 : decode cX2_error 32 = .ok (.iload_n 1, 1) := by decide +kernel
theorem dX2_error_33 : decode cX2_error 33 = .ok (.ifCond .ne 5, 3) := by decide +kernel
theorem dX2_error_36 : decode cX2_error 36 = .ok (.iload_n 2, 1) := by decide +kernel
theorem dX2_error_37 : decode cX2_error 37 = .ok (.ireturn, 1) := by decide +kernel
theorem dX2_error_38 : decode cX2_error 38 = .ok (.aload_n 0, 1) := by decide +kernel
theorem dX2_error_39 : decode cX2_error 39 = .ok (.iload_n 2, 1) := by decide +kernel
theorem dX2_error_40 : decode cX2_error 40 = .ok (.bipush 10, 2) := by decide +kernel
theorem dX2_error_42 : decode cX2_error 42 = .ok (.idiv, 1) := by decide +kernel
theorem dX2_error_43 : decode cX2_error 43 = .ok (.iload_n 2, 1) := by decide +kernel
theorem dX2_error_44 : decode cX2_error 44 = .ok (.bipush 10, 2) := by decide +kernel
theorem dX2_error_46 : decode cX2_error 46 = .ok (.irem, 1) := by decide +kernel
theorem dX2_error_47 : decode cX2_error 47 = .ok (.invokevirtual 154, 3) := by decide +kernel
theorem dX2_error_50 : decode cX2_error 50 = .ok (.ireturn, 1) := by decide +kernel
set_option maxRecDepth 20000 in
theorem ggX2_found_X2_isSite : GoodIn wsX2_found wsX2_isSite := goodIn_r _ [9, 10, 24, 25, 26, 27, 28, 29, 30, 31, 32, 33] (by decide +kernel) (by decide +kernel)
set_option maxRecDepth 20000 in
theorem gX2_found_X2_isSite : GoodIn wsX2_found (wsV RX2 89 RX2 yX2_isSite wsX2_isSite) := goodIn_app (goodIn_of _ (by decide +kernel)) ggX2_found_X2_isSite
set_option maxRecDepth 20000 in
theorem ggX2_found_X2_isWithin : GoodIn wsX2_found wsX2_isWithin := goodIn_r _ [13] (by decide +kernel) (by decide +kernel)
set_option maxRecDepth 20000 in
theorem gX2_found_X2_isWithin : GoodIn wsX2_found (va_wsS RX2 50 yX2_isWithin wsX2_isWithin) := goodIn_app (goodIn_of _ (by decide +kernel)) ggX2_found_X2_isWithin
set_option maxRecDepth 20000 in
theorem ggX2_found_X1_addFound : GoodIn wsX2_found wsX1_addFound := goodIn_r _ [18, 19, 20, 21, 22, 23, 34, 35, 36, 37, 38, 39, 40, 41, 42, 43, 44, 45, 46] (by decide +kernel) (by decide +kernel)
set_option maxRecDepth 20000 in
theorem gX2_found_X1_addFound : GoodIn wsX2_found (wsV RX2 157 RX1 yX1_addFound wsX1_addFound) := goodIn_app (goodIn_of _ (by decide +kernel)) ggX2_found_X1_addFound
theorem dX2_found_0 : decode cX2_found 0 = .ok (.aload_n 0, 1) := by decide +kernel
theorem dX2_found_1 : decode cX2_found 1 = .ok (.iload_n 1, 1) := by decide +kernel
theorem dX2_found_2 : decode cX2_found 2 = .ok (.invokevirtual 89, 3) := by decide +kernel
theorem dX2_found_5 : decode cX2_found 5 = .ok (.ifCond .ne 6, 3) := by decide +kernel
theorem dX2_found_8 : decode cX2_found 8 = .ok (.bipush (-101), 2) := by decide +kernel
theorem dX2_found_10 : decode cX2_found 10 = .ok (.ireturn, 1) := by decide +kernel
theorem dX2_found_11 : decode cX2_found 11 = .ok (.iload_n 2, 1) := by decide +kernel
theorem dX2_found_12 : decode cX2_found 12 = .ok (.iconst 0, 1) := by decide +kernel
theorem dX2_found_13 : decode cX2_found 13 = .ok (.bipush 30, 2) := by decide +kernel
theorem dX2_found_15 : decode cX2_found 15 = .ok (.invokestatic 50, 3) := by decide +kernel
theorem dX2_found_18 : decode cX2_found 18 = .ok (.ifCond .eq 13, 3) := by decide +kernel
theorem dX2_found_21 : decode cX2_found 21 = .ok (.iload_n 3, 1) := by decide +kernel
theorem dX2_found_22 : decode cX2_found 22 = .ok (.iconst 0, 1) := by decide +kernel
theorem dX2_found_23 : decode cX2_found 23 = .ok (.bipush 30, 2) := by decide +kernel
theorem dX2_found_25 : decode cX2_found 25 = .ok (.invokestatic 50, 3) := by decide +kernel
theorem dX2_found_28 : decode cX2_found 28 = .ok (.ifCond .ne 6, 3) := by decide +kernel
theorem dX2_found_31 : decode cX2_found 31 = .ok (.bipush (-102), 2) := by decide +kernel
theorem dX2_found_33 : decode cX2_found 33 = .ok (.ireturn, 1) := by decide +kernel
theorem dX2_found_34 : decode cX2_found 34 = .ok (.aload_n 0, 1) := by decide +kernel
theorem dX2_found_35 : decode cX2_found 35 = .ok (.getfield 26, 3) := by decide +kernel
theorem dX2_found_38 : decode cX2_found 38 = .ok (.aload_n 0, 1) := by decide +kernel
theorem dX2_found_39 : decode cX2_found 39 = .ok (.getfield 16, 3) := by decide +kernel
theorem dX2_found_42 : decode cX2_found 42 = .ok (.iload_n 1, 1) := by decide +kernel
theorem dX2_found_43 : decode cX2_found 43 = .ok (.iaload, 1) := by decide +kernel
theorem dX2_found_44 : decode cX2_found 44 = .ok (.aload_n 0, 1) := by decide +kernel
theorem dX2_found_45 : decode cX2_found 45 = .ok (.getfield 26, 3) := by decide +kernel
theorem dX2_found_48 : decode cX2_found 48 = .ok (.getfield 95, 3) := by decide +kernel
theorem dX2_found_51 : decode cX2_found 51 = .ok (.iload_n 1, 1) := by decide +kernel
theorem dX2_found_52 : decode cX2_found 52 = .ok (.iaload, 1) := by decide +kernel
theorem dX2_found_53 : decode cX2_found 53 = .ok (.iload_n 2, 1) := by decide +kernel
theorem dX2_found_54 : decode cX2_found 54 = .ok (.iload_n 3, 1) := by decide +kernel
theorem dX2_found_55 : decode cX2_found 55 = .ok (.invokevirtual 157, 3) := by decide +kernel
theorem dX2_found_58 : decode cX2_found 58 = .ok (.ifCond .ne 6, 3) := by decide +kernel
theorem dX2_found_61 : decode cX2_found 61 = .ok (.bipush (-104), 2) := by decide +kernel
theorem dX2_found_63 : decode cX2_found 63 = .ok (.ireturn, 1) := by decide +kernel
theorem dX2_found_64 : decode cX2_found 64 = .ok (.aload_n 0, 1) := by decide +kernel
theorem dX2_found_65 : decode cX2_found 65 = .ok (.getfield 26, 3) := by decide +kernel
theorem dX2_found_68 : decode cX2_found 68 = .ok (.getfield 161, 3) := by decide +kernel
theorem dX2_found_71 : decode cX2_found 71 = .ok (.ireturn, 1) := by decide +kernel
theorem dX2_forget_0 : decode cX2_forget 0 = .ok (.aload_n 0, 1) := by decide +kernel
theorem dX2_forget_1 : decode cX2_forget 1 = .ok (.getfield 26, 3) := by decide +kernel
theorem dX2_forget_4 : decode cX2_forget 4 = .ok (.getfield 161, 3) := by decide +kernel
theorem dX2_forget_7 : decode cX2_forget 7 = .ok (.istore_n 1, 1) := by decide +kernel
theorem dX2_forget_8 : decode cX2_forget 8 = .ok (.aload_n 0, 1) := by decide +kernel
theorem dX2_forget_9 : decode cX2_forget 9 = .ok (.getfield 26, 3) := by decide +kernel
theorem dX2_forget_12 : decode cX2_forget 12 = .ok (.iconst 0, 1) := by decide +kernel
theorem dX2_forget_13 : decode cX2_forget 13 = .ok (.putfield 161, 3) := by decide +kernel
theorem dX2_forget_16 : decode cX2_forget 16 = .ok (.iload_n 1, 1) := by decide +kernel
theorem dX2_forget_17 : decode cX2_forget 17 = .ok (.ireturn, 1) := by decide +kernel
set_option maxRecDepth 20000 in
theorem ggX2_suns_X2_possibleSuns : GoodIn wsX2_suns wsX2_possibleSuns := goodIn_r _ [6, 7, 8, 9, 5, 10, 11, 12, 13, 14, 15, 16, 17, 18, 19, 20, 21, 22, 23, 24, 25, 26, 27, 28, 29, 30, 31, 32, 33, 34, 35, 36, 37, 38, 39, 40, 41, 42, 43, 44, 45] (by decide +kernel) (by decide +kernel)
set_option maxRecDepth 20000 in
theorem gX2_suns_X2_possibleSuns : GoodIn wsX2_suns (wsV RX2 164 RX2 yX2_possibleSuns wsX2_possibleSuns) := goodIn_app (goodIn_of _ (by decide +kernel)) ggX2_suns_X2_possibleSuns
theorem dX2_suns_0 : decode cX2_suns 0 = .ok (.aload_n 0, 1) := by decide +kernel
theorem dX2_suns_1 : decode cX2_suns 1 = .ok (.getfield 39, 3) := by decide +kernel
theorem dX2_suns_4 : decode cX2_suns 4 = .ok (.ifCond .ne 6, 3) := by decide +kernel
theorem dX2_suns_7 : decode cX2_suns 7 = .ok (.bipush (-103), 2) := by decide +kernel
theorem dX2_suns_9 : decode cX2_suns 9 = .ok (.ireturn, 1) := by decide +kernel
theorem dX2_suns_10 : decode cX2_suns 10 = .ok (.aload_n 0, 1) := by decide +kernel
theorem dX2_suns_11 : decode cX2_suns 11 = .ok (.invokevirtual 164, 3) := by decide +kernel
theorem dX2_suns_14 : decode cX2_suns 14 = .ok (.ireturn, 1) := by decide +kernel
set_option maxRecDepth 20000 in
theorem ggX2_look_X2_possibleSuns : GoodIn wsX2_look wsX2_possibleSuns := goodIn_r _ [6, 7, 8, 9, 5, 10, 11, 12, 13, 14, 15, 16, 17, 18, 19, 20, 21, 22, 52, 53, 54, 55, 56, 57, 58, 59, 60, 61, 62, 63, 64, 65, 66, 67, 68, 69, 70, 71, 72, 73, 74] (by decide +kernel) (by decide +kernel)
set_option maxRecDepth 20000 in
theorem gX2_look_X2_possibleSuns : GoodIn wsX2_look (wsV RX2 164 RX2 yX2_possibleSuns wsX2_possibleSuns) := goodIn_app (goodIn_of _ (by decide +kernel)) ggX2_look_X2_possibleSuns
set_option maxRecDepth 20000 in
theorem ggX2_look_X2_bestLook : GoodIn wsX2_look wsX2_bestLook := goodIn_r _ [26, 1, 27, 28, 29, 5, 30, 31, 32, 33, 34, 35, 36, 37, 38, 39, 40, 41, 42, 43, 44, 45, 46, 11, 47, 48, 49, 50, 51, 17, 18, 19, 20, 21, 22, 52, 53, 54, 55, 56, 57, 58, 59, 60, 61, 62, 63, 64, 65, 66, 67, 68, 69, 70, 71, 72, 73, 74] (by decide +kernel) (by decide +kernel)
set_option maxRecDepth 20000 in
theorem gX2_look_X2_bestLook : GoodIn wsX2_look (wsV RX2 167 RX2 yX2_bestLook wsX2_bestLook) := goodIn_app (goodIn_of _ (by decide +kernel)) ggX2_look_X2_bestLook
theorem dX2_look_0 : decode cX2_look 0 = .ok (.aload_n 0, 1) := by decide +kernel
theorem dX2_look_1 : decode cX2_look 1 = .ok (.getfield 39, 3) := by decide +kernel
theorem dX2_look_4 : decode cX2_look 4 = .ok (.ifCond .ne 6, 3) := by decide +kernel
theorem dX2_look_7 : decode cX2_look 7 = .ok (.bipush (-103), 2) := by decide +kernel
theorem dX2_look_9 : decode cX2_look 9 = .ok (.ireturn, 1) := by decide +kernel
theorem dX2_look_10 : decode cX2_look 10 = .ok (.aload_n 0, 1) := by decide +kernel
theorem dX2_look_11 : decode cX2_look 11 = .ok (.aload_n 0, 1) := by decide +kernel
theorem dX2_look_12 : decode cX2_look 12 = .ok (.invokevirtual 164, 3) := by decide +kernel
theorem dX2_look_15 : decode cX2_look 15 = .ok (.invokevirtual 167, 3) := by decide +kernel
theorem dX2_look_18 : decode cX2_look 18 = .ok (.ireturn, 1) := by decide +kernel
set_option maxRecDepth 20000 in
theorem ggX2_winters_X2_isWithin : GoodIn wsX2_winters wsX2_isWithin := goodIn_r _ [12] (by decide +kernel) (by decide +kernel)
set_option maxRecDepth 20000 in
theorem gX2_winters_X2_isWithin : GoodIn wsX2_winters (va_wsS RX2 50 yX2_isWithin wsX2_isWithin) := goodIn_app (goodIn_of _ (by decide +kernel)) ggX2_winters_X2_isWithin
set_option maxRecDepth 20000 in
theorem ggX2_winters_X2_seedAfter : GoodIn wsX2_winters wsX2_seedAfter := goodIn_r _ [15, 16, 17, 18] (by decide +kernel) (by decide +kernel)
set_option maxRecDepth 20000 in
theorem gX2_winters_X2_seedAfter : GoodIn wsX2_winters (va_wsS RX2 176 yX2_seedAfter wsX2_seedAfter) := goodIn_app (goodIn_of _ (by decide +kernel)) ggX2_winters_X2_seedAfter
set_option maxRecDepth 20000 in
theorem ggX2_winters_X2_drawOf : GoodIn wsX2_winters wsX2_drawOf := goodIn_r _ [21, 22] (by decide +kernel) (by decide +kernel)
set_option maxRecDepth 20000 in
theorem gX2_winters_X2_drawOf : GoodIn wsX2_winters (va_wsS RX2 179 yX2_drawOf wsX2_drawOf) := goodIn_app (goodIn_of _ (by decide +kernel)) ggX2_winters_X2_drawOf
set_option maxRecDepth 20000 in
theorem ggX2_winters_X2_bringOneLoad : GoodIn wsX2_winters wsX2_bringOneLoad := goodIn_r _ [26, 27, 28, 29, 11, 30, 1, 31, 32, 33, 34, 35, 36, 37, 63, 64, 65, 66, 67, 68, 69, 70, 71, 72] (by decide +kernel) (by decide +kernel)
set_option maxRecDepth 20000 in
theorem gX2_winters_X2_bringOneLoad : GoodIn wsX2_winters (wsV RX2 182 RX2 yX2_bringOneLoad wsX2_bringOneLoad) := goodIn_app (goodIn_of _ (by decide +kernel)) ggX2_winters_X2_bringOneLoad
set_option maxRecDepth 20000 in
theorem ggX2_winters_X2_meltAll : GoodIn wsX2_winters wsX2_meltAll := goodIn_r _ [41, 1, 42, 2, 43, 44, 45, 11, 46, 47, 48, 49, 50, 51, 52, 53, 54, 55, 56, 57, 58, 63, 64, 65, 66, 67, 68, 69, 70, 71, 72, 73, 74, 75, 76, 77, 78, 79, 80, 81, 82, 83, 84, 85] (by decide +kernel) (by decide +kernel)
set_option maxRecDepth 20000 in
theorem gX2_winters_X2_meltAll : GoodIn wsX2_winters (wsV RX2 124 RX2 yX2_meltAll wsX2_meltAll) := goodIn_app (goodIn_of _ (by decide +kernel)) ggX2_winters_X2_meltAll
set_option maxRecDepth 20000 in
theorem ggX2_winters_X2_snowIn : GoodIn wsX2_winters wsX2_snowIn := goodIn_r _ [62, 1, 63, 64, 65, 66, 67, 68, 69, 70, 71, 72] (by decide +kernel) (by decide +kernel)
set_option maxRecDepth 20000 in
theorem gX2_winters_X2_snowIn : GoodIn wsX2_winters (wsV RX2 186 RX2 yX2_snowIn wsX2_snowIn) := goodIn_app (goodIn_of _ (by decide +kernel)) ggX2_winters_X2_snowIn
theorem dX2_winters_0 : decode cX2_winters 0 = .ok (.iload_n 1, 1) := by decide +kernel
theorem dX2_winters_1 : decode cX2_winters 1 = .ok (.iconst 1, 1) := by decide +kernel
theorem dX2_winters_2 : decode cX2_winters 2 = .ok (.bipush 60, 2) := by decide +kernel
theorem dX2_winters_4 : decode cX2_winters 4 = .ok (.invokestatic 50, 3) := by decide +kernel
theorem dX2_winters_7 : decode cX2_winters 7 = .ok (.ifCond .eq 16, 3) := by decide +kernel
theorem dX2_winters_10 : decode cX2_winters 10 = .ok (.iload_n 2, 1) := by decide +kernel
theorem dX2_winters_11 : decode cX2_winters 11 = .ok (.ifCond .lt 12, 3) := by decide +kernel
theorem dX2_winters_14 : decode cX2_winters 14 = .ok (.iload_n 3, 1) := by decide +kernel
theorem dX2_winters_15 : decode cX2_winters 15 = .ok (.iconst 0, 1) := by decide +kernel
theorem dX2_winters_16 : decode cX2_winters 16 = .ok (.iconst 2, 1) := by decide +kernel
theorem dX2_winters_17 : decode cX2_winters 17 = .ok (.invokestatic 50, 3) := by decide +kernel
theorem dX2_winters_20 : decode cX2_winters 20 = .ok (.ifCond .ne 6, 3) := by decide +kernel
theorem dX2_winters_23 : decode cX2_winters 23 = .ok (.bipush (-102), 2) := by decide +kernel
theorem dX2_winters_25 : decode cX2_winters 25 = .ok (.ireturn, 1) := by decide +kernel
theorem dX2_winters_26 : decode cX2_winters 26 = .ok (.aload_n 0, 1) := by decide +kernel
theorem dX2_winters_27 : decode cX2_winters 27 = .ok (.getfield 39, 3) := by decide +kernel
theorem dX2_winters_30 : decode cX2_winters 30 = .ok (.ifCond .ne 6, 3) := by decide +kernel
theorem dX2_winters_33 : decode cX2_winters 33 = .ok (.bipush (-103), 2) := by decide +kernel
theorem dX2_winters_35 : decode cX2_winters 35 = .ok (.ireturn, 1) := by decide +kernel
theorem dX2_winters_36 : decode cX2_winters 36 = .ok (.aload_n 0, 1) := by decide +kernel
theorem dX2_winters_37 : decode cX2_winters 37 = .ok (.getfield 26, 3) := by decide +kernel
theorem dX2_winters_40 : decode cX2_winters 40 = .ok (.getfield 92, 3) := by decide +kernel
theorem dX2_winters_43 : decode cX2_winters 43 = .ok (.iconst 0, 1) := by decide +kernel
theorem dX2_winters_44 : decode cX2_winters 44 = .ok (.aload_n 0, 1) := by decide +kernel
theorem dX2_winters_45 : decode cX2_winters 45 = .ok (.getfield 33, 3) := by decide +kernel
theorem dX2_winters_48 : decode cX2_winters 48 = .ok (.iconst 0, 1) := by decide +kernel
theorem dX2_winters_49 : decode cX2_winters 49 = .ok (.bipush 6, 2) := by decide +kernel
theorem dX2_winters_51 : decode cX2_winters 51 = .ok (.invokestatic 170, 3) := by decide +kernel
theorem dX2_winters_54 : decode cX2_winters 54 = .ok (.iconst 0, 1) := by decide +kernel
theorem dX2_winters_55 : decode cX2_winters 55 = .ok (.istore 4, 2) := by decide +kernel
theorem dX2_winters_57 : decode cX2_winters 57 = .ok (.iload_n 2, 1) := by decide +kernel
theorem dX2_winters_58 : decode cX2_winters 58 = .ok (.istore 5, 2) := by decide +kernel
theorem dX2_winters_60 : decode cX2_winters 60 = .ok (.iconst 0, 1) := by decide +kernel
theorem dX2_winters_61 : decode cX2_winters 61 = .ok (.istore 6, 2) := by decide +kernel
theorem dX2_winters_63 : decode cX2_winters 63 = .ok (.iload 6, 2) := by decide +kernel
theorem dX2_winters_65 : decode cX2_winters 65 = .ok (.iload_n 1, 1) := by decide +kernel
theorem dX2_winters_66 : decode cX2_winters 66 = .ok (.if_icmp .ge 63, 3) := by decide +kernel
theorem dX2_winters_69 : decode cX2_winters 69 = .ok (.iload 5, 2) := by decide +kernel
theorem dX2_winters_71 : decode cX2_winters 71 = .ok (.invokestatic 176, 3) := by decide +kernel
theorem dX2_winters_74 : decode cX2_winters 74 = .ok (.istore 5, 2) := by decide +kernel
theorem dX2_winters_76 : decode cX2_winters 76 = .ok (.iconst 5, 1) := by decide +kernel
theorem dX2_winters_77 : decode cX2_winters 77 = .ok (.iload 5, 2) := by decide +kernel
theorem dX2_winters_79 : decode cX2_winters 79 = .ok (.invokestatic 179, 3) := by decide +kernel
theorem dX2_winters_82 : decode cX2_winters 82 = .ok (.istore 7, 2) := by decide +kernel
theorem dX2_winters_84 : decode cX2_winters 84 = .ok (.iload 5, 2) := by decide +kernel
theorem dX2_winters_86 : decode cX2_winters 86 = .ok (.invokestatic 176, 3) := by decide +kernel
theorem dX2_winters_89 : decode cX2_winters 89 = .ok (.istore 5, 2) := by decide +kernel
theorem dX2_winters_91 : decode cX2_winters 91 = .ok (.aload_n 0, 1) := by decide +kernel
theorem dX2_winters_92 : decode cX2_winters 92 = .ok (.aload_n 0, 1) := by decide +kernel
theorem dX2_winters_93 : decode cX2_winters 93 = .ok (.getfield 33, 3) := by decide +kernel
theorem dX2_winters_96 : decode cX2_winters 96 = .ok (.aload_n 0, 1) := by decide +kernel
theorem dX2_winters_97 : decode cX2_winters 97 = .ok (.getfield 39, 3) := by decide +kernel
theorem dX2_winters_100 : decode cX2_winters 100 = .ok (.iload 5, 2) := by decide +kernel
theorem dX2_winters_102 : decode cX2_winters 102 = .ok (.invokestatic 179, 3) := by decide +kernel
theorem dX2_winters_105 : decode cX2_winters 105 = .ok (.invokevirtual 182, 3) := by decide +kernel
theorem dX2_winters_108 : decode cX2_winters 108 = .ok (.iload 4, 2) := by decide +kernel
theorem dX2_winters_110 : decode cX2_winters 110 = .ok (.aload_n 0, 1) := by decide +kernel
theorem dX2_winters_111 : decode cX2_winters 111 = .ok (.aload_n 0, 1) := by decide +kernel
theorem dX2_winters_112 : decode cX2_winters 112 = .ok (.getfield 33, 3) := by decide +kernel
theorem dX2_winters_115 : decode cX2_winters 115 = .ok (.iload 7, 2) := by decide +kernel
theorem dX2_winters_117 : decode cX2_winters 117 = .ok (.invokevirtual 124, 3) := by decide +kernel
theorem dX2_winters_120 : decode cX2_winters 120 = .ok (.iadd, 1) := by decide +kernel
theorem dX2_winters_121 : decode cX2_winters 121 = .ok (.istore 4, 2) := by decide +kernel
theorem dX2_winters_123 : decode cX2_winters 123 = .ok (.iinc 6 1, 3) := by decide +kernel
theorem dX2_winters_126 : decode cX2_winters 126 = .ok (.goto (-63), 3) := by decide +kernel
theorem dX2_winters_129 : decode cX2_winters 129 = .ok (.iload_n 3, 1) := by decide +kernel
theorem dX2_winters_130 : decode cX2_winters 130 = .ok (.lookupswitch 38 #[(0, 26), (1, 29)], 26) := by decide +kernel
theorem dX2_winters_156 : decode cX2_winters 156 = .ok (.iload 4, 2) := by decide +kernel
theorem dX2_winters_158 : decode cX2_winters 158 = .ok (.ireturn, 1) := by decide +kernel
theorem dX2_winters_159 : decode cX2_winters 159 = .ok (.aload_n 0, 1) := by decide +kernel
theorem dX2_winters_160 : decode cX2_winters 160 = .ok (.aload_n 0, 1) := by decide +kernel
theorem dX2_winters_161 : decode cX2_winters 161 = .ok (.getfield 33, 3) := by decide +kernel
theorem dX2_winters_164 : decode cX2_winters 164 = .ok (.invokevirtual 186, 3) := by decide +kernel
theorem dX2_winters_167 : decode cX2_winters 167 = .ok (.ireturn, 1) := by decide +kernel
theorem dX2_winters_168 : decode cX2_winters 168 = .ok (.iload 5, 2) := by decide +kernel
theorem dX2_winters_170 : decode cX2_winters 170 = .ok (.ireturn, 1) := by decide +kernel
set_option maxRecDepth 20000 in
theorem ggX2_image_X1_copy : GoodIn wsX2_image wsX1_copy := goodIn_r _ [10, 11, 12, 13, 14, 15, 16, 17, 18, 19, 20, 21, 22, 23, 24, 25, 9, 26, 27, 28, 29, 30, 31, 32, 33, 34, 45, 46, 47, 48, 49, 50, 51, 52, 53, 54, 55, 56, 57] (by decide +kernel) (by decide +kernel)
set_option maxRecDepth 20000 in
theorem gX2_image_X1_copy : GoodIn wsX2_image (wsV RX2 190 RX1 yX1_copy wsX1_copy) := goodIn_app (goodIn_of _ (by decide +kernel)) ggX2_image_X1_copy
theorem dX2_image_0 : decode cX2_image 0 = .ok (.aload_n 0, 1) := by decide +kernel
theorem dX2_image_1 : decode cX2_image 1 = .ok (.getfield 39, 3) := by decide +kernel
theorem dX2_image_4 : decode cX2_image 4 = .ok (.ifCond .ne 6, 3) := by decide +kernel
theorem dX2_image_7 : decode cX2_image 7 = .ok (.bipush (-103), 2) := by decide +kernel
theorem dX2_image_9 : decode cX2_image 9 = .ok (.ireturn, 1) := by decide +kernel
theorem dX2_image_10 : decode cX2_image 10 = .ok (.aload_n 0, 1) := by decide +kernel
theorem dX2_image_11 : decode cX2_image 11 = .ok (.getfield 30, 3) := by decide +kernel
theorem dX2_image_14 : decode cX2_image 14 = .ok (.aload_n 0, 1) := by decide +kernel
theorem dX2_image_15 : decode cX2_image 15 = .ok (.getfield 26, 3) := by decide +kernel
theorem dX2_image_18 : decode cX2_image 18 = .ok (.invokevirtual 190, 3) := by decide +kernel
theorem dX2_image_21 : decode cX2_image 21 = .ok (.aload_n 0, 1) := by decide +kernel
theorem dX2_image_22 : decode cX2_image 22 = .ok (.iconst 1, 1) := by decide +kernel
theorem dX2_image_23 : decode cX2_image 23 = .ok (.putfield 46, 3) := by decide +kernel
theorem dX2_image_26 : decode cX2_image 26 = .ok (.aload_n 0, 1) := by decide +kernel
theorem dX2_image_27 : decode cX2_image 27 = .ok (.getfield 30, 3) := by decide +kernel
theorem dX2_image_30 : decode cX2_image 30 = .ok (.getfield 194, 3) := by decide +kernel
theorem dX2_image_33 : decode cX2_image 33 = .ok (.ireturn, 1) := by decide +kernel
set_option maxRecDepth 20000 in
theorem ggX2_restore_X1_copy : GoodIn wsX2_restore wsX1_copy := goodIn_r _ [9, 10, 11, 12, 13, 14, 15, 16, 17, 18, 19, 20, 21, 22, 23, 24, 8, 25, 26, 27, 28, 29, 30, 31, 32, 33, 44, 45, 46, 47, 48, 49, 50, 51, 52, 53, 54, 55, 56] (by decide +kernel) (by decide +kernel)
set_option maxRecDepth 20000 in
theorem gX2_restore_X1_copy : GoodIn wsX2_restore (wsV RX2 190 RX1 yX1_copy wsX1_copy) := goodIn_app (goodIn_of _ (by decide +kernel)) ggX2_restore_X1_copy
theorem dX2_restore_0 : decode cX2_restore 0 = .ok (.aload_n 0, 1) := by decide +kernel
theorem dX2_restore_1 : decode cX2_restore 1 = .ok (.getfield 46, 3) := by decide +kernel
theorem dX2_restore_4 : decode cX2_restore 4 = .ok (.ifCond .ne 6, 3) := by decide +kernel
theorem dX2_restore_7 : decode cX2_restore 7 = .ok (.bipush (-103), 2) := by decide +kernel
theorem dX2_restore_9 : decode cX2_restore 9 = .ok (.ireturn, 1) := by decide +kernel
theorem dX2_restore_10 : decode cX2_restore 10 = .ok (.aload_n 0, 1) := by decide +kernel
theorem dX2_restore_11 : decode cX2_restore 11 = .ok (.getfield 26, 3) := by decide +kernel
theorem dX2_restore_14 : decode cX2_restore 14 = .ok (.aload_n 0, 1) := by decide +kernel
theorem dX2_restore_15 : decode cX2_restore 15 = .ok (.getfield 30, 3) := by decide +kernel
theorem dX2_restore_18 : decode cX2_restore 18 = .ok (.invokevirtual 190, 3) := by decide +kernel
theorem dX2_restore_21 : decode cX2_restore 21 = .ok (.aload_n 0, 1) := by decide +kernel
theorem dX2_restore_22 : decode cX2_restore 22 = .ok (.getfield 26, 3) := by decide +kernel
theorem dX2_restore_25 : decode cX2_restore 25 = .ok (.getfield 194, 3) := by decide +kernel
theorem dX2_restore_28 : decode cX2_restore 28 = .ok (.ireturn, 1) := by decide +kernel
set_option maxRecDepth 20000 in
theorem ggX2_count_X2_snowIn : GoodIn wsX2_count wsX2_snowIn := goodIn_r _ [16, 1, 26, 27, 28, 29, 30, 31, 32, 33, 34, 35] (by decide +kernel) (by decide +kernel)
set_option maxRecDepth 20000 in
theorem gX2_count_X2_snowIn : GoodIn wsX2_count (wsV RX2 186 RX2 yX2_snowIn wsX2_snowIn) := goodIn_app (goodIn_of _ (by decide +kernel)) ggX2_count_X2_snowIn
set_option maxRecDepth 20000 in
theorem ggX2_count_X2_keptIn : GoodIn wsX2_count wsX2_keptIn := goodIn_r _ [20, 1, 21, 22, 23, 15, 24, 25, 26, 27, 28, 29, 30, 31, 32, 33, 34, 35] (by decide +kernel) (by decide +kernel)
set_option maxRecDepth 20000 in
theorem gX2_count_X2_keptIn : GoodIn wsX2_count (wsV RX2 197 RX2 yX2_keptIn wsX2_keptIn) := goodIn_app (goodIn_of _ (by decide +kernel)) ggX2_count_X2_keptIn
theorem dX2_count_0 : decode cX2_count 0 = .ok (.iload_n 1, 1) := by decide +kernel
theorem dX2_count_1 : decode cX2_count 1 = .ok (.tableswitch 137 0 9 #[55, 60, 68, 76, 88, 100, 108, 116, 124, 132], 55) := by decide +kernel
theorem dX2_count_56 : decode cX2_count 56 = .ok (.aload_n 0, 1) := by decide +kernel
theorem dX2_count_57 : decode cX2_count 57 = .ok (.getfield 39, 3) := by decide +kernel
theorem dX2_count_60 : decode cX2_count 60 = .ok (.ireturn, 1) := by decide +kernel
theorem dX2_count_61 : decode cX2_count 61 = .ok (.aload_n 0, 1) := by decide +kernel
theorem dX2_count_62 : decode cX2_count 62 = .ok (.getfield 26, 3) := by decide +kernel
theorem dX2_count_65 : decode cX2_count 65 = .ok (.getfield 121, 3) := by decide +kernel
theorem dX2_count_68 : decode cX2_count 68 = .ok (.ireturn, 1) := by decide +kernel
theorem dX2_count_69 : decode cX2_count 69 = .ok (.aload_n 0, 1) := by decide +kernel
theorem dX2_count_70 : decode cX2_count 70 = .ok (.getfield 26, 3) := by decide +kernel
theorem dX2_count_73 : decode cX2_count 73 = .ok (.getfield 194, 3) := by decide +kernel
theorem dX2_count_76 : decode cX2_count 76 = .ok (.ireturn, 1) := by decide +kernel
theorem dX2_count_77 : decode cX2_count 77 = .ok (.aload_n 0, 1) := by decide +kernel
theorem dX2_count_78 : decode cX2_count 78 = .ok (.aload_n 0, 1) := by decide +kernel
theorem dX2_count_79 : decode cX2_count 79 = .ok (.getfield 26, 3) := by decide +kernel
theorem dX2_count_82 : decode cX2_count 82 = .ok (.getfield 92, 3) := by decide +kernel
theorem dX2_count_85 : decode cX2_count 85 = .ok (.invokevirtual 186, 3) := by decide +kernel
theorem dX2_count_88 : decode cX2_count 88 = .ok (.ireturn, 1) := by decide +kernel
theorem dX2_count_89 : decode cX2_count 89 = .ok (.aload_n 0, 1) := by decide +kernel
theorem dX2_count_90 : decode cX2_count 90 = .ok (.aload_n 0, 1) := by decide +kernel
theorem dX2_count_91 : decode cX2_count 91 = .ok (.getfield 26, 3) := by decide +kernel
theorem dX2_count_94 : decode cX2_count 94 = .ok (.getfield 92, 3) := by decide +kernel
theorem dX2_count_97 : decode cX2_count 97 = .ok (.invokevirtual 197, 3) := by decide +kernel
theorem dX2_count_100 : decode cX2_count 100 = .ok (.ireturn, 1) := by decide +kernel
theorem dX2_count_101 : decode cX2_count 101 = .ok (.aload_n 0, 1) := by decide +kernel
theorem dX2_count_102 : decode cX2_count 102 = .ok (.getfield 26, 3) := by decide +kernel
theorem dX2_count_105 : decode cX2_count 105 = .ok (.getfield 200, 3) := by decide +kernel
theorem dX2_count_108 : decode cX2_count 108 = .ok (.ireturn, 1) := by decide +kernel
theorem dX2_count_109 : decode cX2_count 109 = .ok (.aload_n 0, 1) := by decide +kernel
theorem dX2_count_110 : decode cX2_count 110 = .ok (.getfield 26, 3) := by decide +kernel
theorem dX2_count_113 : decode cX2_count 113 = .ok (.getfield 115, 3) := by decide +kernel
theorem dX2_count_116 : decode cX2_count 116 = .ok (.ireturn, 1) := by decide +kernel
theorem dX2_count_117 : decode cX2_count 117 = .ok (.aload_n 0, 1) := by decide +kernel
theorem dX2_count_118 : decode cX2_count 118 = .ok (.getfield 26, 3) := by decide +kernel
theorem dX2_count_121 : decode cX2_count 121 = .ok (.getfield 161, 3) := by decide +kernel
theorem dX2_count_124 : decode cX2_count 124 = .ok (.ireturn, 1) := by decide +kernel
theorem dX2_count_125 : decode cX2_count 125 = .ok (.aload_n 0, 1) := by decide +kernel
theorem dX2_count_126 : decode cX2_count 126 = .ok (.getfield 10, 3) := by decide +kernel
theorem dX2_count_129 : decode cX2_count 129 = .ok (.getfield 58, 3) := by decide +kernel
theorem dX2_count_132 : decode cX2_count 132 = .ok (.ireturn, 1) := by decide +kernel
theorem dX2_count_133 : decode cX2_count 133 = .ok (.aload_n 0, 1) := by decide +kernel
theorem dX2_count_134 : decode cX2_count 134 = .ok (.getfield 43, 3) := by decide +kernel
theorem dX2_count_137 : decode cX2_count 137 = .ok (.ireturn, 1) := by decide +kernel
theorem dX2_count_138 : decode cX2_count 138 = .ok (.bipush (-102), 2) := by decide +kernel
theorem dX2_count_140 : decode cX2_count 140 = .ok (.ireturn, 1) := by decide +kernel
set_option maxRecDepth 20000 in
theorem ggX2_digest_X2_about : GoodIn wsX2_digest wsX2_about := goodIn_r _ [9, 10, 11, 12, 13, 14, 15, 16, 17, 18, 8, 19, 2, 20, 21, 22, 23, 24, 25, 26, 27, 28, 29, 30, 31, 174, 175, 176, 177, 178, 179, 180, 181, 182, 183, 186, 187, 188, 189, 190, 191, 192, 193, 194, 195, 196, 197, 198] (by decide +kernel) (by decide +kernel)
set_option maxRecDepth 20000 in
theorem gX2_digest_X2_about : GoodIn wsX2_digest (wsV RX2 205 RX2 yX2_about wsX2_about) := goodIn_app (goodIn_of _ (by decide +kernel)) ggX2_digest_X2_about
set_option maxRecDepth 20000 in
theorem ggX2_digest_X2_mixed : GoodIn wsX2_digest wsX2_mixed := goodIn_r _ [34, 35] (by decide +kernel) (by decide +kernel)
set_option maxRecDepth 20000 in
theorem gX2_digest_X2_mixed : GoodIn wsX2_digest (va_wsS RX2 208 yX2_mixed wsX2_mixed) := goodIn_app (goodIn_of _ (by decide +kernel)) ggX2_digest_X2_mixed
set_option maxRecDepth 20000 in
theorem ggX2_digest_X2_need : GoodIn wsX2_digest wsX2_need := goodIn_r _ [39, 16, 17, 18, 8, 19, 2, 40, 41, 42, 43, 44, 45, 46, 11, 12, 13, 47, 48, 49, 50, 20, 21, 22, 23, 10, 24, 14, 25, 26, 27, 174, 175, 176, 177, 178, 179, 180, 181, 182, 183, 186, 187, 188, 189, 190, 191, 192, 193, 194, 195, 196, 197, 198] (by decide +kernel) (by decide +kernel)
set_option maxRecDepth 20000 in
theorem gX2_digest_X2_need : GoodIn wsX2_digest (wsV RX2 212 RX2 yX2_need wsX2_need) := goodIn_app (goodIn_of _ (by decide +kernel)) ggX2_digest_X2_need
set_option maxRecDepth 20000 in
theorem ggX2_digest_X2_plan : GoodIn wsX2_digest wsX2_plan := goodIn_r _ [54, 2, 40, 41, 8, 42, 55, 56, 57, 58, 59, 43, 44, 45, 46, 11, 12, 13, 47, 48, 49, 50, 20, 21, 22, 23, 10, 24, 14, 25, 26, 27, 60, 61, 62, 63, 64, 65, 66, 67, 68, 69, 70, 71, 72, 73, 74, 75, 76, 77, 78, 79, 80, 81, 82, 83, 84, 85, 86, 87, 88, 174, 175, 176, 177, 178, 179, 180, 181, 182, 183, 186, 187, 188, 189, 190, 191, 192, 193, 194, 195, 196, 197, 198] (by decide +kernel) (by decide +kernel)
set_option maxRecDepth 20000 in
theorem gX2_digest_X2_plan : GoodIn wsX2_digest (wsV RX2 215 RX2 yX2_plan wsX2_plan) := goodIn_app (goodIn_of _ (by decide +kernel)) ggX2_digest_X2_plan
set_option maxRecDepth 20000 in
theorem ggX2_digest_X2_error : GoodIn wsX2_digest wsX2_error := goodIn_r _ [92, 2, 40, 41, 8, 42, 93, 94, 95, 96, 12, 13, 97, 98, 99, 100, 28, 29, 30, 31, 11, 101, 102, 103, 104, 105, 106, 107, 108, 109, 15, 16, 17, 18, 19, 110, 111, 112, 113, 114, 49, 115, 174, 175, 176, 177, 178, 179, 180, 181, 182, 183, 186, 187, 188, 189, 190, 191, 192, 193, 194, 195, 196, 197, 198] (by decide +kernel) (by decide +kernel)
set_option maxRecDepth 20000 in
theorem gX2_digest_X2_error : GoodIn wsX2_digest (wsV RX2 219 RX2 yX2_error wsX2_error) := goodIn_app (goodIn_of _ (by decide +kernel)) ggX2_digest_X2_error
set_option maxRecDepth 20000 in
theorem ggX2_digest_X2_suns : GoodIn wsX2_digest wsX2_suns := goodIn_r _ [119, 2, 120, 121, 122, 8, 123, 124, 125, 126, 127, 12, 128, 129, 130, 131, 132, 25, 26, 27, 133, 134, 135, 174, 175, 176, 177, 178, 179, 180, 181, 182, 183, 186, 187, 188, 189, 190, 191, 192, 193, 194, 195, 196, 197, 198] (by decide +kernel) (by decide +kernel)
set_option maxRecDepth 20000 in
theorem gX2_digest_X2_suns : GoodIn wsX2_digest (wsV RX2 222 RX2 yX2_suns wsX2_suns) := goodIn_app (goodIn_of _ (by decide +kernel)) ggX2_digest_X2_suns
set_option maxRecDepth 20000 in
theorem ggX2_digest_X2_look : GoodIn wsX2_digest wsX2_look := goodIn_r _ [139, 2, 120, 121, 122, 8, 123, 124, 125, 126, 127, 12, 128, 129, 130, 131, 132, 25, 26, 27, 133, 134, 135, 140, 141, 142, 143, 144, 145, 146, 147, 47, 48, 49, 50, 68, 69, 70, 148, 149, 150, 151, 152, 153, 154, 155, 10, 14, 16, 17, 18, 19, 174, 175, 176, 177, 178, 179, 180, 181, 182, 183, 186, 187, 188, 189, 190, 191, 192, 193, 194, 195, 196, 197, 198] (by decide +kernel) (by decide +kernel)
set_option maxRecDepth 20000 in
theorem gX2_digest_X2_look : GoodIn wsX2_digest (wsV RX2 225 RX2 yX2_look wsX2_look) := goodIn_app (goodIn_of _ (by decide +kernel)) ggX2_digest_X2_look
set_option maxRecDepth 20000 in
theorem ggX2_digest_X0_codeAt : GoodIn wsX2_digest wsX0_codeAt := goodIn_r _ [160, 161, 184, 185] (by decide +kernel) (by decide +kernel)
set_option maxRecDepth 20000 in
theorem gX2_digest_X0_codeAt : GoodIn wsX2_digest (wsV RX2 228 RX0 yX0_codeAt wsX0_codeAt) := goodIn_app (goodIn_of _ (by decide +kernel)) ggX2_digest_X0_codeAt
set_option maxRecDepth 20000 in
theorem ggX2_digest_X2_count : GoodIn wsX2_digest wsX2_count := goodIn_r _ [165, 2, 12, 24, 166, 13, 167, 168, 128, 3, 4, 169, 170, 171, 172, 8, 173, 97, 98, 99, 100, 28, 29, 30, 31, 11, 174, 175, 176, 177, 178, 179, 180, 181, 182, 183, 186, 187, 188, 189, 190, 191, 192, 193, 194, 195, 196, 197, 198, 184, 185] (by decide +kernel) (by decide +kernel)
set_option maxRecDepth 20000 in
theorem gX2_digest_X2_count : GoodIn wsX2_digest (wsV RX2 231 RX2 yX2_count wsX2_count) := goodIn_app (goodIn_of _ (by decide +kernel)) ggX2_digest_X2_count
theorem dX2_digest_0 : decode cX2_digest 0 = .ok (.ldc2_w 203, 3) := by decide +kernel
theorem dX2_digest_3 : decode cX2_digest 3 = .ok (.lstore_n 1, 1) := by decide +kernel
theorem dX2_digest_4 : decode cX2_digest 4 = .ok (.iconst 0, 1) := by decide +kernel
theorem dX2_digest_5 : decode cX2_digest 5 = .ok (.istore_n 3, 1) := by decide +kernel
theorem dX2_digest_6 : decode cX2_digest 6 = .ok (.iload_n 3, 1) := by decide +kernel
theorem dX2_digest_7 : decode cX2_digest 7 = .ok (.aload_n 0, 1) := by decide +kernel
theorem dX2_digest_8 : decode cX2_digest 8 = .ok (.getfield 39, 3) := by decide +kernel
theorem dX2_digest_11 : decode cX2_digest 11 = .ok (.if_icmp .ge 70, 3) := by decide +kernel
theorem dX2_digest_14 : decode cX2_digest 14 = .ok (.iconst 0, 1) := by decide +kernel
theorem dX2_digest_15 : decode cX2_digest 15 = .ok (.istore 4, 2) := by decide +kernel
theorem dX2_digest_17 : decode cX2_digest 17 = .ok (.iload 4, 2) := by decide +kernel
theorem dX2_digest_19 : decode cX2_digest 19 = .ok (.bipush 6, 2) := by decide +kernel
theorem dX2_digest_21 : decode cX2_digest 21 = .ok (.if_icmp .gt 21, 3) := by decide +kernel
theorem dX2_digest_24 : decode cX2_digest 24 = .ok (.lload_n 1, 1) := by decide +kernel
theorem dX2_digest_25 : decode cX2_digest 25 = .ok (.aload_n 0, 1) := by decide +kernel
theorem dX2_digest_26 : decode cX2_digest 26 = .ok (.iload_n 3, 1) := by decide +kernel
theorem dX2_digest_27 : decode cX2_digest 27 = .ok (.iload 4, 2) := by decide +kernel
theorem dX2_digest_29 : decode cX2_digest 29 = .ok (.invokevirtual 205, 3) := by decide +kernel
theorem dX2_digest_32 : decode cX2_digest 32 = .ok (.invokestatic 208, 3) := by decide +kernel
theorem dX2_digest_35 : decode cX2_digest 35 = .ok (.lstore_n 1, 1) := by decide +kernel
theorem dX2_digest_36 : decode cX2_digest 36 = .ok (.iinc 4 1, 3) := by decide +kernel
theorem dX2_digest_39 : decode cX2_digest 39 = .ok (.goto (-22), 3) := by decide +kernel
theorem dX2_digest_42 : decode cX2_digest 42 = .ok (.lload_n 1, 1) := by decide +kernel
theorem dX2_digest_43 : decode cX2_digest 43 = .ok (.aload_n 0, 1) := by decide +kernel
theorem dX2_digest_44 : decode cX2_digest 44 = .ok (.iload_n 3, 1) := by decide +kernel
end
section
theorem dX2_digest_45 : decode cX2_digest 45 = .ok (.iconst 0, 1) := by decide +kernel
theorem dX2_digest_46 : decode cX2_digest 46 = .ok (.invokevirtual 212, 3) := by decide +kernel
theorem dX2_digest_49 : decode cX2_digest 49 = .ok (.invokestatic 208, 3) := by decide +kernel
theorem dX2_digest_52 : decode cX2_digest 52 = .ok (.lstore_n 1, 1) := by decide +kernel
theorem dX2_digest_53 : decode cX2_digest 53 = .ok (.lload_n 1, 1) := by decide +kernel
theorem dX2_digest_54 : decode cX2_digest 54 = .ok (.aload_n 0, 1) := by decide +kernel
theorem dX2_digest_55 : decode cX2_digest 55 = .ok (.iload_n 3, 1) := by decide +kernel
theorem dX2_digest_56 : decode cX2_digest 56 = .ok (.iconst 1, 1) := by decide +kernel
theorem dX2_digest_57 : decode cX2_digest 57 = .ok (.invokevirtual 212, 3) := by decide +kernel
theorem dX2_digest_60 : decode cX2_digest 60 = .ok (.invokestatic 208, 3) := by decide +kernel
theorem dX2_digest_63 : decode cX2_digest 63 = .ok (.lstore_n 1, 1) := by decide +kernel
theorem dX2_digest_64 : decode cX2_digest 64 = .ok (.lload_n 1, 1) := by decide +kernel
theorem dX2_digest_65 : decode cX2_digest 65 = .ok (.aload_n 0, 1) := by decide +kernel
theorem dX2_digest_66 : decode cX2_digest 66 = .ok (.iload_n 3, 1) := by decide +kernel
theorem dX2_digest_67 : decode cX2_digest 67 = .ok (.iconst 5, 1) := by decide +kernel
theorem dX2_digest_68 : decode cX2_digest 68 = .ok (.invokevirtual 212, 3) := by decide +kernel
theorem dX2_digest_71 : decode cX2_digest 71 = .ok (.invokestatic 208, 3) := by decide +kernel
theorem dX2_digest_74 : decode cX2_digest 74 = .ok (.lstore_n 1, 1) := by decide +kernel
theorem dX2_digest_75 : decode cX2_digest 75 = .ok (.iinc 3 1, 3) := by decide +kernel
theorem dX2_digest_78 : decode cX2_digest 78 = .ok (.goto (-72), 3) := by decide +kernel
theorem dX2_digest_81 : decode cX2_digest 81 = .ok (.aload_n 0, 1) := by decide +kernel
theorem dX2_digest_82 : decode cX2_digest 82 = .ok (.getfield 39, 3) := by decide +kernel
theorem dX2_digest_85 : decode cX2_digest 85 = .ok (.ifCond .le 67, 3) := by decide +kernel
theorem dX2_digest_88 : decode cX2_digest 88 = .ok (.iconst 0, 1) := by decide +kernel
theorem dX2_digest_89 : decode cX2_digest 89 = .ok (.istore_n 3, 1) := by decide +kernel
theorem dX2_digest_90 : decode cX2_digest 90 = .ok (.iload_n 3, 1) := by decide +kernel
theorem dX2_digest_91 : decode cX2_digest 91 = .ok (.iconst 3, 1) := by decide +kernel
theorem dX2_digest_92 : decode cX2_digest 92 = .ok (.if_icmp .gt 22, 3) := by decide +kernel
theorem dX2_digest_95 : decode cX2_digest 95 = .ok (.lload_n 1, 1) := by decide +kernel
theorem dX2_digest_96 : decode cX2_digest 96 = .ok (.aload_n 0, 1) := by decide +kernel
theorem dX2_digest_97 : decode cX2_digest 97 = .ok (.bipush 20, 2) := by decide +kernel
theorem dX2_digest_99 : decode cX2_digest 99 = .ok (.iconst 2, 1) := by decide +kernel
theorem dX2_digest_100 : decode cX2_digest 100 = .ok (.iload_n 3, 1) := by decide +kernel
theorem dX2_digest_101 : decode cX2_digest 101 = .ok (.invokevirtual 215, 3) := by decide +kernel
theorem dX2_digest_104 : decode cX2_digest 104 = .ok (.invokestatic 208, 3) := by decide +kernel
theorem dX2_digest_107 : decode cX2_digest 107 = .ok (.lstore_n 1, 1) := by decide +kernel
theorem dX2_digest_108 : decode cX2_digest 108 = .ok (.iinc 3 1, 3) := by decide +kernel
theorem dX2_digest_111 : decode cX2_digest 111 = .ok (.goto (-21), 3) := by decide +kernel
theorem dX2_digest_114 : decode cX2_digest 114 = .ok (.lload_n 1, 1) := by decide +kernel
theorem dX2_digest_115 : decode cX2_digest 115 = .ok (.aload_n 0, 1) := by decide +kernel
theorem dX2_digest_116 : decode cX2_digest 116 = .ok (.iconst 0, 1) := by decide +kernel
theorem dX2_digest_117 : decode cX2_digest 117 = .ok (.invokevirtual 219, 3) := by decide +kernel
theorem dX2_digest_120 : decode cX2_digest 120 = .ok (.invokestatic 208, 3) := by decide +kernel
theorem dX2_digest_123 : decode cX2_digest 123 = .ok (.lstore_n 1, 1) := by decide +kernel
theorem dX2_digest_124 : decode cX2_digest 124 = .ok (.lload_n 1, 1) := by decide +kernel
theorem dX2_digest_125 : decode cX2_digest 125 = .ok (.aload_n 0, 1) := by decide +kernel
theorem dX2_digest_126 : decode cX2_digest 126 = .ok (.iconst 1, 1) := by decide +kernel
theorem dX2_digest_127 : decode cX2_digest 127 = .ok (.invokevirtual 219, 3) := by decide +kernel
theorem dX2_digest_130 : decode cX2_digest 130 = .ok (.invokestatic 208, 3) := by decide +kernel
theorem dX2_digest_133 : decode cX2_digest 133 = .ok (.lstore_n 1, 1) := by decide +kernel
theorem dX2_digest_134 : decode cX2_digest 134 = .ok (.lload_n 1, 1) := by decide +kernel
theorem dX2_digest_135 : decode cX2_digest 135 = .ok (.aload_n 0, 1) := by decide +kernel
theorem dX2_digest_136 : decode cX2_digest 136 = .ok (.invokevirtual 222, 3) := by decide +kernel
theorem dX2_digest_139 : decode cX2_digest 139 = .ok (.invokestatic 208, 3) := by decide +kernel
theorem dX2_digest_142 : decode cX2_digest 142 = .ok (.lstore_n 1, 1) := by decide +kernel
theorem dX2_digest_143 : decode cX2_digest 143 = .ok (.lload_n 1, 1) := by decide +kernel
theorem dX2_digest_144 : decode cX2_digest 144 = .ok (.aload_n 0, 1) := by decide +kernel
theorem dX2_digest_145 : decode cX2_digest 145 = .ok (.invokevirtual 225, 3) := by decide +kernel
theorem dX2_digest_148 : decode cX2_digest 148 = .ok (.invokestatic 208, 3) := by decide +kernel
theorem dX2_digest_151 : decode cX2_digest 151 = .ok (.lstore_n 1, 1) := by decide +kernel
theorem dX2_digest_152 : decode cX2_digest 152 = .ok (.iconst 0, 1) := by decide +kernel
theorem dX2_digest_153 : decode cX2_digest 153 = .ok (.istore_n 3, 1) := by decide +kernel
theorem dX2_digest_154 : decode cX2_digest 154 = .ok (.iload_n 3, 1) := by decide +kernel
theorem dX2_digest_155 : decode cX2_digest 155 = .ok (.aload_n 0, 1) := by decide +kernel
theorem dX2_digest_156 : decode cX2_digest 156 = .ok (.getfield 10, 3) := by decide +kernel
theorem dX2_digest_159 : decode cX2_digest 159 = .ok (.getfield 58, 3) := by decide +kernel
theorem dX2_digest_162 : decode cX2_digest 162 = .ok (.if_icmp .ge 22, 3) := by decide +kernel
theorem dX2_digest_165 : decode cX2_digest 165 = .ok (.lload_n 1, 1) := by decide +kernel
theorem dX2_digest_166 : decode cX2_digest 166 = .ok (.aload_n 0, 1) := by decide +kernel
theorem dX2_digest_167 : decode cX2_digest 167 = .ok (.getfield 10, 3) := by decide +kernel
theorem dX2_digest_170 : decode cX2_digest 170 = .ok (.iload_n 3, 1) := by decide +kernel
theorem dX2_digest_171 : decode cX2_digest 171 = .ok (.invokevirtual 228, 3) := by decide +kernel
theorem dX2_digest_174 : decode cX2_digest 174 = .ok (.invokestatic 208, 3) := by decide +kernel
theorem dX2_digest_177 : decode cX2_digest 177 = .ok (.lstore_n 1, 1) := by decide +kernel
theorem dX2_digest_178 : decode cX2_digest 178 = .ok (.iinc 3 1, 3) := by decide +kernel
theorem dX2_digest_181 : decode cX2_digest 181 = .ok (.goto (-27), 3) := by decide +kernel
theorem dX2_digest_184 : decode cX2_digest 184 = .ok (.iconst 0, 1) := by decide +kernel
theorem dX2_digest_185 : decode cX2_digest 185 = .ok (.istore_n 3, 1) := by decide +kernel
theorem dX2_digest_186 : decode cX2_digest 186 = .ok (.iload_n 3, 1) := by decide +kernel
theorem dX2_digest_187 : decode cX2_digest 187 = .ok (.bipush 9, 2) := by decide +kernel
theorem dX2_digest_189 : decode cX2_digest 189 = .ok (.if_icmp .gt 19, 3) := by decide +kernel
theorem dX2_digest_192 : decode cX2_digest 192 = .ok (.lload_n 1, 1) := by decide +kernel
theorem dX2_digest_193 : decode cX2_digest 193 = .ok (.aload_n 0, 1) := by decide +kernel
theorem dX2_digest_194 : decode cX2_digest 194 = .ok (.iload_n 3, 1) := by decide +kernel
theorem dX2_digest_195 : decode cX2_digest 195 = .ok (.invokevirtual 231, 3) := by decide +kernel
theorem dX2_digest_198 : decode cX2_digest 198 = .ok (.invokestatic 208, 3) := by decide +kernel
theorem dX2_digest_201 : decode cX2_digest 201 = .ok (.lstore_n 1, 1) := by decide +kernel
theorem dX2_digest_202 : decode cX2_digest 202 = .ok (.iinc 3 1, 3) := by decide +kernel
theorem dX2_digest_205 : decode cX2_digest 205 = .ok (.goto (-19), 3) := by decide +kernel
theorem dX2_digest_208 : decode cX2_digest 208 = .ok (.lload_n 1, 1) := by decide +kernel
theorem dX2_digest_209 : decode cX2_digest 209 = .ok (.lreturn, 1) := by decide +kernel
theorem dX2_isWithin_0 : decode cX2_isWithin 0 = .ok (.iload_n 0, 1) := by decide +kernel
theorem dX2_isWithin_1 : decode cX2_isWithin 1 = .ok (.iload_n 1, 1) := by decide +kernel
theorem dX2_isWithin_2 : decode cX2_isWithin 2 = .ok (.if_icmp .lt 12, 3) := by decide +kernel
theorem dX2_isWithin_5 : decode cX2_isWithin 5 = .ok (.iload_n 0, 1) := by decide +kernel
theorem dX2_isWithin_6 : decode cX2_isWithin 6 = .ok (.iload_n 2, 1) := by decide +kernel
theorem dX2_isWithin_7 : decode cX2_isWithin 7 = .ok (.if_icmp .gt 7, 3) := by decide +kernel
theorem dX2_isWithin_10 : decode cX2_isWithin 10 = .ok (.iconst 1, 1) := by decide +kernel
theorem dX2_isWithin_11 : decode cX2_isWithin 11 = .ok (.goto 4, 3) := by decide +kernel
theorem dX2_isWithin_14 : decode cX2_isWithin 14 = .ok (.iconst 0, 1) := by decide +kernel
theorem dX2_isWithin_15 : decode cX2_isWithin 15 = .ok (.ireturn, 1) := by decide +kernel
theorem dX2_hasBit_0 : decode cX2_hasBit 0 = .ok (.iload_n 0, 1) := by decide +kernel
theorem dX2_hasBit_1 : decode cX2_hasBit 1 = .ok (.iload_n 1, 1) := by decide +kernel
theorem dX2_hasBit_2 : decode cX2_hasBit 2 = .ok (.ishr, 1) := by decide +kernel
theorem dX2_hasBit_3 : decode cX2_hasBit 3 = .ok (.iconst 1, 1) := by decide +kernel
theorem dX2_hasBit_4 : decode cX2_hasBit 4 = .ok (.iand, 1) := by decide +kernel
theorem dX2_hasBit_5 : decode cX2_hasBit 5 = .ok (.iconst 1, 1) := by decide +kernel
theorem dX2_hasBit_6 : decode cX2_hasBit 6 = .ok (.if_icmp .ne 7, 3) := by decide +kernel
theorem dX2_hasBit_9 : decode cX2_hasBit 9 = .ok (.iconst 1, 1) := by decide +kernel
theorem dX2_hasBit_10 : decode cX2_hasBit 10 = .ok (.goto 4, 3) := by decide +kernel
theorem dX2_hasBit_13 : decode cX2_hasBit 13 = .ok (.iconst 0, 1) := by decide +kernel
theorem dX2_hasBit_14 : decode cX2_hasBit 14 = .ok (.ireturn, 1) := by decide +kernel
theorem dX2_mixed_0 : decode cX2_mixed 0 = .ok (.ldc2_w 234, 3) := by decide +kernel
theorem dX2_mixed_3 : decode cX2_mixed 3 = .ok (.lload_n 0, 1) := by decide +kernel
theorem dX2_mixed_4 : decode cX2_mixed 4 = .ok (.lmul, 1) := by decide +kernel
theorem dX2_mixed_5 : decode cX2_mixed 5 = .ok (.iload_n 2, 1) := by decide +kernel
theorem dX2_mixed_6 : decode cX2_mixed 6 = .ok (.i2l, 1) := by decide +kernel
theorem dX2_mixed_7 : decode cX2_mixed 7 = .ok (.ladd, 1) := by decide +kernel
theorem dX2_mixed_8 : decode cX2_mixed 8 = .ok (.lreturn, 1) := by decide +kernel
theorem dX2_seedAfter_0 : decode cX2_seedAfter 0 = .ok (.ldc2_w 236, 3) := by decide +kernel
theorem dX2_seedAfter_3 : decode cX2_seedAfter 3 = .ok (.iload_n 0, 1) := by decide +kernel
theorem dX2_seedAfter_4 : decode cX2_seedAfter 4 = .ok (.i2l, 1) := by decide +kernel
theorem dX2_seedAfter_5 : decode cX2_seedAfter 5 = .ok (.lmul, 1) := by decide +kernel
theorem dX2_seedAfter_6 : decode cX2_seedAfter 6 = .ok (.ldc2_w 238, 3) := by decide +kernel
theorem dX2_seedAfter_9 : decode cX2_seedAfter 9 = .ok (.ladd, 1) := by decide +kernel
theorem dX2_seedAfter_10 : decode cX2_seedAfter 10 = .ok (.ldc2_w 240, 3) := by decide +kernel
theorem dX2_seedAfter_13 : decode cX2_seedAfter 13 = .ok (.lrem, 1) := by decide +kernel
theorem dX2_seedAfter_14 : decode cX2_seedAfter 14 = .ok (.l2i, 1) := by decide +kernel
theorem dX2_seedAfter_15 : decode cX2_seedAfter 15 = .ok (.ireturn, 1) := by decide +kernel
theorem dX2_drawOf_0 : decode cX2_drawOf 0 = .ok (.iload_n 0, 1) := by decide +kernel
theorem dX2_drawOf_1 : decode cX2_drawOf 1 = .ok (.ifCond .le 12, 3) := by decide +kernel
theorem dX2_drawOf_4 : decode cX2_drawOf 4 = .ok (.iload_n 1, 1) := by decide +kernel
theorem dX2_drawOf_5 : decode cX2_drawOf 5 = .ok (.ldc 242, 2) := by decide +kernel
theorem dX2_drawOf_7 : decode cX2_drawOf 7 = .ok (.idiv, 1) := by decide +kernel
theorem dX2_drawOf_8 : decode cX2_drawOf 8 = .ok (.iload_n 0, 1) := by decide +kernel
theorem dX2_drawOf_9 : decode cX2_drawOf 9 = .ok (.irem, 1) := by decide +kernel
theorem dX2_drawOf_10 : decode cX2_drawOf 10 = .ok (.goto 4, 3) := by decide +kernel
theorem dX2_drawOf_13 : decode cX2_drawOf 13 = .ok (.iconst 0, 1) := by decide +kernel
theorem dX2_drawOf_14 : decode cX2_drawOf 14 = .ok (.ireturn, 1) := by decide +kernel
theorem dX2_isSite_0 : decode cX2_isSite 0 = .ok (.iload_n 1, 1) := by decide +kernel
theorem dX2_isSite_1 : decode cX2_isSite 1 = .ok (.ifCond .lt 15, 3) := by decide +kernel
theorem dX2_isSite_4 : decode cX2_isSite 4 = .ok (.iload_n 1, 1) := by decide +kernel
theorem dX2_isSite_5 : decode cX2_isSite 5 = .ok (.aload_n 0, 1) := by decide +kernel
theorem dX2_isSite_6 : decode cX2_isSite 6 = .ok (.getfield 39, 3) := by decide +kernel
theorem dX2_isSite_9 : decode cX2_isSite 9 = .ok (.if_icmp .ge 7, 3) := by decide +kernel
theorem dX2_isSite_12 : decode cX2_isSite 12 = .ok (.iconst 1, 1) := by decide +kernel
theorem dX2_isSite_13 : decode cX2_isSite 13 = .ok (.goto 4, 3) := by decide +kernel
theorem dX2_isSite_16 : decode cX2_isSite 16 = .ok (.iconst 0, 1) := by decide +kernel
theorem dX2_isSite_17 : decode cX2_isSite 17 = .ok (.ireturn, 1) := by decide +kernel
theorem dX2_isOfKind_0 : decode cX2_isOfKind 0 = .ok (.iload_n 1, 1) := by decide +kernel
theorem dX2_isOfKind_1 : decode cX2_isOfKind 1 = .ok (.ifCond .eq 18, 3) := by decide +kernel
theorem dX2_isOfKind_4 : decode cX2_isOfKind 4 = .ok (.iload_n 1, 1) := by decide +kernel
theorem dX2_isOfKind_5 : decode cX2_isOfKind 5 = .ok (.iload_n 0, 1) := by decide +kernel
theorem dX2_isOfKind_6 : decode cX2_isOfKind 6 = .ok (.if_icmp .eq 13, 3) := by decide +kernel
theorem dX2_isOfKind_9 : decode cX2_isOfKind 9 = .ok (.iload_n 1, 1) := by decide +kernel
theorem dX2_isOfKind_10 : decode cX2_isOfKind 10 = .ok (.iconst 2, 1) := by decide +kernel
theorem dX2_isOfKind_11 : decode cX2_isOfKind 11 = .ok (.if_icmp .ne 12, 3) := by decide +kernel
theorem dX2_isOfKind_14 : decode cX2_isOfKind 14 = .ok (.iload_n 0, 1) := by decide +kernel
theorem dX2_isOfKind_15 : decode cX2_isOfKind 15 = .ok (.iconst 4, 1) := by decide +kernel
theorem dX2_isOfKind_16 : decode cX2_isOfKind 16 = .ok (.if_icmp .ne 7, 3) := by decide +kernel
theorem dX2_isOfKind_19 : decode cX2_isOfKind 19 = .ok (.iconst 1, 1) := by decide +kernel
theorem dX2_isOfKind_20 : decode cX2_isOfKind 20 = .ok (.goto 4, 3) := by decide +kernel
theorem dX2_isOfKind_23 : decode cX2_isOfKind 23 = .ok (.iconst 0, 1) := by decide +kernel
theorem dX2_isOfKind_24 : decode cX2_isOfKind 24 = .ok (.ireturn, 1) := by decide +kernel
theorem dX2_melting_0 : decode cX2_melting 0 = .ok (.iload_n 1, 1) := by decide +kernel
theorem dX2_melting_1 : decode cX2_melting 1 = .ok (.iload_n 2, 1) := by decide +kernel
theorem dX2_melting_2 : decode cX2_melting 2 = .ok (.iadd, 1) := by decide +kernel
theorem dX2_melting_3 : decode cX2_melting 3 = .ok (.istore_n 3, 1) := by decide +kernel
theorem dX2_melting_4 : decode cX2_melting 4 = .ok (.iload_n 0, 1) := by decide +kernel
theorem dX2_melting_5 : decode cX2_melting 5 = .ok (.tableswitch 65 1 4 #[31, 44, 48, 50], 31) := by decide +kernel
theorem dX2_melting_36 : decode cX2_melting 36 = .ok (.iload_n 3, 1) := by decide +kernel
theorem dX2_melting_37 : decode cX2_melting 37 = .ok (.iconst 2, 1) := by decide +kernel
theorem dX2_melting_38 : decode cX2_melting 38 = .ok (.if_icmp .le 9, 3) := by decide +kernel
theorem dX2_melting_41 : decode cX2_melting 41 = .ok (.iload_n 3, 1) := by decide +kernel
theorem dX2_melting_42 : decode cX2_melting 42 = .ok (.iconst 2, 1) := by decide +kernel
theorem dX2_melting_43 : decode cX2_melting 43 = .ok (.isub, 1) := by decide +kernel
theorem dX2_melting_44 : decode cX2_melting 44 = .ok (.goto 4, 3) := by decide +kernel
theorem dX2_melting_47 : decode cX2_melting 47 = .ok (.iconst 0, 1) := by decide +kernel
theorem dX2_melting_48 : decode cX2_melting 48 = .ok (.ireturn, 1) := by decide +kernel
theorem dX2_melting_49 : decode cX2_melting 49 = .ok (.iload_n 3, 1) := by decide +kernel
theorem dX2_melting_50 : decode cX2_melting 50 = .ok (.iconst 2, 1) := by decide +kernel
theorem dX2_melting_51 : decode cX2_melting 51 = .ok (.idiv, 1) := by decide +kernel
theorem dX2_melting_52 : decode cX2_melting 52 = .ok (.ireturn, 1) := by decide +kernel
theorem dX2_melting_53 : decode cX2_melting 53 = .ok (.iload_n 1, 1) := by decide +kernel
theorem dX2_melting_54 : decode cX2_melting 54 = .ok (.ireturn, 1) := by decide +kernel
theorem dX2_melting_55 : decode cX2_melting 55 = .ok (.iload_n 3, 1) := by decide +kernel
theorem dX2_melting_56 : decode cX2_melting 56 = .ok (.iconst 2, 1) := by decide +kernel
theorem dX2_melting_57 : decode cX2_melting 57 = .ok (.if_icmp .le 11, 3) := by decide +kernel
theorem dX2_melting_60 : decode cX2_melting 60 = .ok (.iload_n 3, 1) := by decide +kernel
theorem dX2_melting_61 : decode cX2_melting 61 = .ok (.iconst 2, 1) := by decide +kernel
theorem dX2_melting_62 : decode cX2_melting 62 = .ok (.idiv, 1) := by decide +kernel
theorem dX2_melting_63 : decode cX2_melting 63 = .ok (.iconst 1, 1) := by decide +kernel
theorem dX2_melting_64 : decode cX2_melting 64 = .ok (.isub, 1) := by decide +kernel
theorem dX2_melting_65 : decode cX2_melting 65 = .ok (.goto 4, 3) := by decide +kernel
theorem dX2_melting_68 : decode cX2_melting 68 = .ok (.iconst 0, 1) := by decide +kernel
theorem dX2_melting_69 : decode cX2_melting 69 = .ok (.ireturn, 1) := by decide +kernel
theorem dX2_melting_70 : decode cX2_melting 70 = .ok (.iload_n 3, 1) := by decide +kernel
theorem dX2_melting_71 : decode cX2_melting 71 = .ok (.ireturn, 1) := by decide +kernel
set_option maxRecDepth 20000 in
theorem ggX2_meltsNow_X2_melting : GoodIn wsX2_meltsNow wsX2_melting := goodIn_r _ [8] (by decide +kernel) (by decide +kernel)
set_option maxRecDepth 20000 in
theorem gX2_meltsNow_X2_melting : GoodIn wsX2_meltsNow (va_wsS RX2 243 yX2_melting wsX2_melting) := goodIn_app (goodIn_of _ (by decide +kernel)) ggX2_meltsNow_X2_melting
theorem dX2_meltsNow_0 : decode cX2_meltsNow 0 = .ok (.aload_n 0, 1) := by decide +kernel
theorem dX2_meltsNow_1 : decode cX2_meltsNow 1 = .ok (.getfield 16, 3) := by decide +kernel
theorem dX2_meltsNow_4 : decode cX2_meltsNow 4 = .ok (.iload_n 1, 1) := by decide +kernel
theorem dX2_meltsNow_5 : decode cX2_meltsNow 5 = .ok (.iaload, 1) := by decide +kernel
theorem dX2_meltsNow_6 : decode cX2_meltsNow 6 = .ok (.aload_n 0, 1) := by decide +kernel
theorem dX2_meltsNow_7 : decode cX2_meltsNow 7 = .ok (.getfield 26, 3) := by decide +kernel
theorem dX2_meltsNow_10 : decode cX2_meltsNow 10 = .ok (.getfield 121, 3) := by decide +kernel
theorem dX2_meltsNow_13 : decode cX2_meltsNow 13 = .ok (.aload_n 0, 1) := by decide +kernel
theorem dX2_meltsNow_14 : decode cX2_meltsNow 14 = .ok (.getfield 26, 3) := by decide +kernel
theorem dX2_meltsNow_17 : decode cX2_meltsNow 17 = .ok (.getfield 95, 3) := by decide +kernel
theorem dX2_meltsNow_20 : decode cX2_meltsNow 20 = .ok (.iload_n 1, 1) := by decide +kernel
theorem dX2_meltsNow_21 : decode cX2_meltsNow 21 = .ok (.iaload, 1) := by decide +kernel
theorem dX2_meltsNow_22 : decode cX2_meltsNow 22 = .ok (.invokestatic 243, 3) := by decide +kernel
theorem dX2_meltsNow_25 : decode cX2_meltsNow 25 = .ok (.ireturn, 1) := by decide +kernel
theorem dX2_deepened_0 : decode cX2_deepened 0 = .ok (.bipush 30, 2) := by decide +kernel
theorem dX2_deepened_2 : decode cX2_deepened 2 = .ok (.iload_n 0, 1) := by decide +kernel
theorem dX2_deepened_3 : decode cX2_deepened 3 = .ok (.iload_n 1, 1) := by decide +kernel
theorem dX2_deepened_4 : decode cX2_deepened 4 = .ok (.iadd, 1) := by decide +kernel
theorem dX2_deepened_5 : decode cX2_deepened 5 = .ok (.invokestatic 246, 3) := by decide +kernel
theorem dX2_deepened_8 : decode cX2_deepened 8 = .ok (.ireturn, 1) := by decide +kernel
theorem dX2_leftOf_0 : decode cX2_leftOf 0 = .ok (.iload_n 0, 1) := by decide +kernel
theorem dX2_leftOf_1 : decode cX2_leftOf 1 = .ok (.iload_n 1, 1) := by decide +kernel
theorem dX2_leftOf_2 : decode cX2_leftOf 2 = .ok (.if_icmp .le 9, 3) := by decide +kernel
theorem dX2_leftOf_5 : decode cX2_leftOf 5 = .ok (.iload_n 0, 1) := by decide +kernel
theorem dX2_leftOf_6 : decode cX2_leftOf 6 = .ok (.iload_n 1, 1) := by decide +kernel
theorem dX2_leftOf_7 : decode cX2_leftOf 7 = .ok (.isub, 1) := by decide +kernel
theorem dX2_leftOf_8 : decode cX2_leftOf 8 = .ok (.goto 4, 3) := by decide +kernel
theorem dX2_leftOf_11 : decode cX2_leftOf 11 = .ok (.iconst 0, 1) := by decide +kernel
theorem dX2_leftOf_12 : decode cX2_leftOf 12 = .ok (.ireturn, 1) := by decide +kernel
theorem dX2_priceAt_0 : decode cX2_priceAt 0 = .ok (.iload_n 0, 1) := by decide +kernel
theorem dX2_priceAt_1 : decode cX2_priceAt 1 = .ok (.iconst 1, 1) := by decide +kernel
theorem dX2_priceAt_2 : decode cX2_priceAt 2 = .ok (.iadd, 1) := by decide +kernel
theorem dX2_priceAt_3 : decode cX2_priceAt 3 = .ok (.ireturn, 1) := by decide +kernel
theorem dX2_isKeptWith_0 : decode cX2_isKeptWith 0 = .ok (.iload_n 2, 1) := by decide +kernel
theorem dX2_isKeptWith_1 : decode cX2_isKeptWith 1 = .ok (.aload_n 0, 1) := by decide +kernel
theorem dX2_isKeptWith_2 : decode cX2_isKeptWith 2 = .ok (.getfield 20, 3) := by decide +kernel
theorem dX2_isKeptWith_5 : decode cX2_isKeptWith 5 = .ok (.iload_n 1, 1) := by decide +kernel
theorem dX2_isKeptWith_6 : decode cX2_isKeptWith 6 = .ok (.iaload, 1) := by decide +kernel
theorem dX2_isKeptWith_7 : decode cX2_isKeptWith 7 = .ok (.if_icmp .lt 7, 3) := by decide +kernel
theorem dX2_isKeptWith_10 : decode cX2_isKeptWith 10 = .ok (.iconst 1, 1) := by decide +kernel
theorem dX2_isKeptWith_11 : decode cX2_isKeptWith 11 = .ok (.goto 4, 3) := by decide +kernel
theorem dX2_isKeptWith_14 : decode cX2_isKeptWith 14 = .ok (.iconst 0, 1) := by decide +kernel
theorem dX2_isKeptWith_15 : decode cX2_isKeptWith 15 = .ok (.ireturn, 1) := by decide +kernel
set_option maxRecDepth 20000 in
theorem ggX2_keptIn_X2_isKeptWith : GoodIn wsX2_keptIn wsX2_isKeptWith := goodIn_r _ [6, 7, 8, 9, 10, 11, 12, 13, 14, 15, 16, 17] (by decide +kernel) (by decide +kernel)
set_option maxRecDepth 20000 in
theorem gX2_keptIn_X2_isKeptWith : GoodIn wsX2_keptIn (wsV RX2 101 RX2 yX2_isKeptWith wsX2_isKeptWith) := goodIn_app (goodIn_of _ (by decide +kernel)) ggX2_keptIn_X2_isKeptWith
theorem dX2_keptIn_0 : decode cX2_keptIn 0 = .ok (.iconst 0, 1) := by decide +kernel
theorem dX2_keptIn_1 : decode cX2_keptIn 1 = .ok (.istore_n 2, 1) := by decide +kernel
theorem dX2_keptIn_2 : decode cX2_keptIn 2 = .ok (.iconst 0, 1) := by decide +kernel
theorem dX2_keptIn_3 : decode cX2_keptIn 3 = .ok (.istore_n 3, 1) := by decide +kernel
theorem dX2_keptIn_4 : decode cX2_keptIn 4 = .ok (.iload_n 3, 1) := by decide +kernel
theorem dX2_keptIn_5 : decode cX2_keptIn 5 = .ok (.aload_n 0, 1) := by decide +kernel
theorem dX2_keptIn_6 : decode cX2_keptIn 6 = .ok (.getfield 39, 3) := by decide +kernel
theorem dX2_keptIn_9 : decode cX2_keptIn 9 = .ok (.if_icmp .ge 23, 3) := by decide +kernel
theorem dX2_keptIn_12 : decode cX2_keptIn 12 = .ok (.aload_n 0, 1) := by decide +kernel
theorem dX2_keptIn_13 : decode cX2_keptIn 13 = .ok (.iload_n 3, 1) := by decide +kernel
theorem dX2_keptIn_14 : decode cX2_keptIn 14 = .ok (.aload_n 1, 1) := by decide +kernel
theorem dX2_keptIn_15 : decode cX2_keptIn 15 = .ok (.iload_n 3, 1) := by decide +kernel
theorem dX2_keptIn_16 : decode cX2_keptIn 16 = .ok (.iaload, 1) := by decide +kernel
theorem dX2_keptIn_17 : decode cX2_keptIn 17 = .ok (.invokevirtual 101, 3) := by decide +kernel
theorem dX2_keptIn_20 : decode cX2_keptIn 20 = .ok (.ifCond .eq 6, 3) := by decide +kernel
theorem dX2_keptIn_23 : decode cX2_keptIn 23 = .ok (.iinc 2 1, 3) := by decide +kernel
theorem dX2_keptIn_26 : decode cX2_keptIn 26 = .ok (.iinc 3 1, 3) := by decide +kernel
theorem dX2_keptIn_29 : decode cX2_keptIn 29 = .ok (.goto (-25), 3) := by decide +kernel
theorem dX2_keptIn_32 : decode cX2_keptIn 32 = .ok (.iload_n 2, 1) := by decide +kernel
theorem dX2_keptIn_33 : decode cX2_keptIn 33 = .ok (.ireturn, 1) := by decide +kernel
theorem dX2_snowIn_0 : decode cX2_snowIn 0 = .ok (.iconst 0, 1) := by decide +kernel
theorem dX2_snowIn_1 : decode cX2_snowIn 1 = .ok (.istore_n 2, 1) := by decide +kernel
theorem dX2_snowIn_2 : decode cX2_snowIn 2 = .ok (.iconst 0, 1) := by decide +kernel
theorem dX2_snowIn_3 : decode cX2_snowIn 3 = .ok (.istore_n 3, 1) := by decide +kernel
theorem dX2_snowIn_4 : decode cX2_snowIn 4 = .ok (.iload_n 3, 1) := by decide +kernel
theorem dX2_snowIn_5 : decode cX2_snowIn 5 = .ok (.aload_n 0, 1) := by decide +kernel
theorem dX2_snowIn_6 : decode cX2_snowIn 6 = .ok (.getfield 39, 3) := by decide +kernel
theorem dX2_snowIn_9 : decode cX2_snowIn 9 = .ok (.if_icmp .ge 15, 3) := by decide +kernel
theorem dX2_snowIn_12 : decode cX2_snowIn 12 = .ok (.iload_n 2, 1) := by decide +kernel
theorem dX2_snowIn_13 : decode cX2_snowIn 13 = .ok (.aload_n 1, 1) := by decide +kernel
theorem dX2_snowIn_14 : decode cX2_snowIn 14 = .ok (.iload_n 3, 1) := by decide +kernel
theorem dX2_snowIn_15 : decode cX2_snowIn 15 = .ok (.iaload, 1) := by decide +kernel
theorem dX2_snowIn_16 : decode cX2_snowIn 16 = .ok (.iadd, 1) := by decide +kernel
theorem dX2_snowIn_17 : decode cX2_snowIn 17 = .ok (.istore_n 2, 1) := by decide +kernel
theorem dX2_snowIn_18 : decode cX2_snowIn 18 = .ok (.iinc 3 1, 3) := by decide +kernel
theorem dX2_snowIn_21 : decode cX2_snowIn 21 = .ok (.goto (-17), 3) := by decide +kernel
theorem dX2_snowIn_24 : decode cX2_snowIn 24 = .ok (.iload_n 2, 1) := by decide +kernel
theorem dX2_snowIn_25 : decode cX2_snowIn 25 = .ok (.ireturn, 1) := by decide +kernel
set_option maxRecDepth 20000 in
theorem ggX2_bringOneLoad_X2_isSite : GoodIn wsX2_bringOneLoad wsX2_isSite := goodIn_r _ [5, 6, 14, 15, 16, 17, 18, 19, 20, 21, 22, 23] (by decide +kernel) (by decide +kernel)
set_option maxRecDepth 20000 in
theorem gX2_bringOneLoad_X2_isSite : GoodIn wsX2_bringOneLoad (wsV RX2 89 RX2 yX2_isSite wsX2_isSite) := goodIn_app (goodIn_of _ (by decide +kernel)) ggX2_bringOneLoad_X2_isSite
set_option maxRecDepth 20000 in
theorem ggX2_bringOneLoad_X2_deepened : GoodIn wsX2_bringOneLoad wsX2_deepened := goodIn_r _ [9, 10, 11, 12, 13] (by decide +kernel) (by decide +kernel)
set_option maxRecDepth 20000 in
theorem gX2_bringOneLoad_X2_deepened : GoodIn wsX2_bringOneLoad (va_wsS RX2 111 yX2_deepened wsX2_deepened) := goodIn_app (goodIn_of _ (by decide +kernel)) ggX2_bringOneLoad_X2_deepened
theorem dX2_bringOneLoad_0 : decode cX2_bringOneLoad 0 = .ok (.aload_n 0, 1) := by decide +kernel
theorem dX2_bringOneLoad_1 : decode cX2_bringOneLoad 1 = .ok (.iload_n 2, 1) := by decide +kernel
theorem dX2_bringOneLoad_2 : decode cX2_bringOneLoad 2 = .ok (.invokevirtual 89, 3) := by decide +kernel
theorem dX2_bringOneLoad_5 : decode cX2_bringOneLoad 5 = .ok (.ifCond .eq 13, 3) := by decide +kernel
theorem dX2_bringOneLoad_8 : decode cX2_bringOneLoad 8 = .ok (.aload_n 1, 1) := by decide +kernel
theorem dX2_bringOneLoad_9 : decode cX2_bringOneLoad 9 = .ok (.iload_n 2, 1) := by decide +kernel
theorem dX2_bringOneLoad_10 : decode cX2_bringOneLoad 10 = .ok (.aload_n 1, 1) := by decide +kernel
theorem dX2_bringOneLoad_11 : decode cX2_bringOneLoad 11 = .ok (.iload_n 2, 1) := by decide +kernel
theorem dX2_bringOneLoad_12 : decode cX2_bringOneLoad 12 = .ok (.iaload, 1) := by decide +kernel
theorem dX2_bringOneLoad_13 : decode cX2_bringOneLoad 13 = .ok (.iconst 1, 1) := by decide +kernel
theorem dX2_bringOneLoad_14 : decode cX2_bringOneLoad 14 = .ok (.invokestatic 111, 3) := by decide +kernel
theorem dX2_bringOneLoad_17 : decode cX2_bringOneLoad 17 = .ok (.iastore, 1) := by decide +kernel
theorem dX2_bringOneLoad_18 : decode cX2_bringOneLoad 18 = .ok (.return_, 1) := by decide +kernel
set_option maxRecDepth 20000 in
theorem ggX2_meltAll_X2_melting : GoodIn wsX2_meltAll wsX2_melting := goodIn_r _ [8] (by decide +kernel) (by decide +kernel)
set_option maxRecDepth 20000 in
theorem gX2_meltAll_X2_melting : GoodIn wsX2_meltAll (va_wsS RX2 243 yX2_melting wsX2_melting) := goodIn_app (goodIn_of _ (by decide +kernel)) ggX2_meltAll_X2_melting
set_option maxRecDepth 20000 in
theorem ggX2_meltAll_X2_leftOf : GoodIn wsX2_meltAll wsX2_leftOf := goodIn_r _ [11] (by decide +kernel) (by decide +kernel)
set_option maxRecDepth 20000 in
theorem gX2_meltAll_X2_leftOf : GoodIn wsX2_meltAll (va_wsS RX2 251 yX2_leftOf wsX2_leftOf) := goodIn_app (goodIn_of _ (by decide +kernel)) ggX2_meltAll_X2_leftOf
set_option maxRecDepth 20000 in
theorem ggX2_meltAll_X2_keptIn : GoodIn wsX2_meltAll wsX2_keptIn := goodIn_r _ [15, 1, 16, 17, 18, 7, 19, 20, 21, 22, 23, 24, 25, 26, 27, 28, 29, 30] (by decide +kernel) (by decide +kernel)
set_option maxRecDepth 20000 in
theorem gX2_meltAll_X2_keptIn : GoodIn wsX2_meltAll (wsV RX2 197 RX2 yX2_keptIn wsX2_keptIn) := goodIn_app (goodIn_of _ (by decide +kernel)) ggX2_meltAll_X2_keptIn
theorem dX2_meltAll_0 : decode cX2_meltAll 0 = .ok (.iconst 0, 1) := by decide +kernel
theorem dX2_meltAll_1 : decode cX2_meltAll 1 = .ok (.istore_n 3, 1) := by decide +kernel
theorem dX2_meltAll_2 : decode cX2_meltAll 2 = .ok (.iload_n 3, 1) := by decide +kernel
theorem dX2_meltAll_3 : decode cX2_meltAll 3 = .ok (.aload_n 0, 1) := by decide +kernel
theorem dX2_meltAll_4 : decode cX2_meltAll 4 = .ok (.getfield 39, 3) := by decide +kernel
theorem dX2_meltAll_7 : decode cX2_meltAll 7 = .ok (.if_icmp .ge 37, 3) := by decide +kernel
theorem dX2_meltAll_10 : decode cX2_meltAll 10 = .ok (.aload_n 1, 1) := by decide +kernel
theorem dX2_meltAll_11 : decode cX2_meltAll 11 = .ok (.iload_n 3, 1) := by decide +kernel
theorem dX2_meltAll_12 : decode cX2_meltAll 12 = .ok (.aload_n 1, 1) := by decide +kernel
theorem dX2_meltAll_13 : decode cX2_meltAll 13 = .ok (.iload_n 3, 1) := by decide +kernel
theorem dX2_meltAll_14 : decode cX2_meltAll 14 = .ok (.iaload, 1) := by decide +kernel
theorem dX2_meltAll_15 : decode cX2_meltAll 15 = .ok (.aload_n 0, 1) := by decide +kernel
theorem dX2_meltAll_16 : decode cX2_meltAll 16 = .ok (.getfield 16, 3) := by decide +kernel
theorem dX2_meltAll_19 : decode cX2_meltAll 19 = .ok (.iload_n 3, 1) := by decide +kernel
theorem dX2_meltAll_20 : decode cX2_meltAll 20 = .ok (.iaload, 1) := by decide +kernel
theorem dX2_meltAll_21 : decode cX2_meltAll 21 = .ok (.iload_n 2, 1) := by decide +kernel
theorem dX2_meltAll_22 : decode cX2_meltAll 22 = .ok (.aload_n 0, 1) := by decide +kernel
theorem dX2_meltAll_23 : decode cX2_meltAll 23 = .ok (.getfield 26, 3) := by decide +kernel
theorem dX2_meltAll_26 : decode cX2_meltAll 26 = .ok (.getfield 95, 3) := by decide +kernel
theorem dX2_meltAll_29 : decode cX2_meltAll 29 = .ok (.iload_n 3, 1) := by decide +kernel
theorem dX2_meltAll_30 : decode cX2_meltAll 30 = .ok (.iaload, 1) := by decide +kernel
theorem dX2_meltAll_31 : decode cX2_meltAll 31 = .ok (.invokestatic 243, 3) := by decide +kernel
theorem dX2_meltAll_34 : decode cX2_meltAll 34 = .ok (.invokestatic 251, 3) := by decide +kernel
theorem dX2_meltAll_37 : decode cX2_meltAll 37 = .ok (.iastore, 1) := by decide +kernel
theorem dX2_meltAll_38 : decode cX2_meltAll 38 = .ok (.iinc 3 1, 3) := by decide +kernel
theorem dX2_meltAll_41 : decode cX2_meltAll 41 = .ok (.goto (-39), 3) := by decide +kernel
theorem dX2_meltAll_44 : decode cX2_meltAll 44 = .ok (.aload_n 0, 1) := by decide +kernel
theorem dX2_meltAll_45 : decode cX2_meltAll 45 = .ok (.aload_n 1, 1) := by decide +kernel
theorem dX2_meltAll_46 : decode cX2_meltAll 46 = .ok (.invokevirtual 197, 3) := by decide +kernel
theorem dX2_meltAll_49 : decode cX2_meltAll 49 = .ok (.ireturn, 1) := by decide +kernel
set_option maxRecDepth 20000 in
theorem ggX2_loadsNeeded_X2_meltsNow : GoodIn wsX2_loadsNeeded wsX2_meltsNow := goodIn_r _ [12, 13, 2, 14, 15, 16, 17, 11, 18, 19, 20, 21, 22, 23, 24, 25, 26, 27, 28, 29, 30, 31, 32, 33, 34, 35, 36, 37, 38, 39, 40, 41] (by decide +kernel) (by decide +kernel)
set_option maxRecDepth 20000 in
theorem gX2_loadsNeeded_X2_meltsNow : GoodIn wsX2_loadsNeeded (wsV RX2 98 RX2 yX2_meltsNow wsX2_meltsNow) := goodIn_app (goodIn_of _ (by decide +kernel)) ggX2_loadsNeeded_X2_meltsNow
theorem dX2_loadsNeeded_0 : decode cX2_loadsNeeded 0 = .ok (.aload_n 0, 1) := by decide +kernel
theorem dX2_loadsNeeded_1 : decode cX2_loadsNeeded 1 = .ok (.getfield 20, 3) := by decide +kernel
theorem dX2_loadsNeeded_4 : decode cX2_loadsNeeded 4 = .ok (.iload_n 1, 1) := by decide +kernel
theorem dX2_loadsNeeded_5 : decode cX2_loadsNeeded 5 = .ok (.iaload, 1) := by decide +kernel
theorem dX2_loadsNeeded_6 : decode cX2_loadsNeeded 6 = .ok (.iload_n 2, 1) := by decide +kernel
theorem dX2_loadsNeeded_7 : decode cX2_loadsNeeded 7 = .ok (.aload_n 0, 1) := by decide +kernel
theorem dX2_loadsNeeded_8 : decode cX2_loadsNeeded 8 = .ok (.iload_n 1, 1) := by decide +kernel
theorem dX2_loadsNeeded_9 : decode cX2_loadsNeeded 9 = .ok (.invokevirtual 98, 3) := by decide +kernel
theorem dX2_loadsNeeded_12 : decode cX2_loadsNeeded 12 = .ok (.imul, 1) := by decide +kernel
theorem dX2_loadsNeeded_13 : decode cX2_loadsNeeded 13 = .ok (.iadd, 1) := by decide +kernel
theorem dX2_loadsNeeded_14 : decode cX2_loadsNeeded 14 = .ok (.istore_n 3, 1) := by decide +kernel
theorem dX2_loadsNeeded_15 : decode cX2_loadsNeeded 15 = .ok (.iload_n 3, 1) := by decide +kernel
theorem dX2_loadsNeeded_16 : decode cX2_loadsNeeded 16 = .ok (.bipush 30, 2) := by decide +kernel
theorem dX2_loadsNeeded_18 : decode cX2_loadsNeeded 18 = .ok (.if_icmp .le 7, 3) := by decide +kernel
theorem dX2_loadsNeeded_21 : decode cX2_loadsNeeded 21 = .ok (.iconst (-1), 1) := by decide +kernel
theorem dX2_loadsNeeded_22 : decode cX2_loadsNeeded 22 = .ok (.goto 18, 3) := by decide +kernel
theorem dX2_loadsNeeded_25 : decode cX2_loadsNeeded 25 = .ok (.iconst 0, 1) := by decide +kernel
theorem dX2_loadsNeeded_26 : decode cX2_loadsNeeded 26 = .ok (.iload_n 3, 1) := by decide +kernel
theorem dX2_loadsNeeded_27 : decode cX2_loadsNeeded 27 = .ok (.aload_n 0, 1) := by decide +kernel
theorem dX2_loadsNeeded_28 : decode cX2_loadsNeeded 28 = .ok (.getfield 26, 3) := by decide +kernel
theorem dX2_loadsNeeded_31 : decode cX2_loadsNeeded 31 = .ok (.getfield 92, 3) := by decide +kernel
theorem dX2_loadsNeeded_34 : decode cX2_loadsNeeded 34 = .ok (.iload_n 1, 1) := by decide +kernel
theorem dX2_loadsNeeded_35 : decode cX2_loadsNeeded 35 = .ok (.iaload, 1) := by decide +kernel
theorem dX2_loadsNeeded_36 : decode cX2_loadsNeeded 36 = .ok (.isub, 1) := by decide +kernel
theorem dX2_loadsNeeded_37 : decode cX2_loadsNeeded 37 = .ok (.invokestatic 254, 3) := by decide +kernel
theorem dX2_loadsNeeded_40 : decode cX2_loadsNeeded 40 = .ok (.ireturn, 1) := by decide +kernel
set_option maxRecDepth 20000 in
theorem ggX2_tellNeeds_X2_loadsNeeded : GoodIn wsX2_tellNeeds wsX2_loadsNeeded := goodIn_r _ [7, 8, 9, 10, 11, 12, 13, 14, 15, 16, 17, 6, 18, 19, 20, 21, 22, 23, 24, 25, 26, 27, 28, 29, 30, 31, 32, 33, 34, 35, 36, 37, 38, 39, 40, 41, 42, 43, 44, 45, 46, 47] (by decide +kernel) (by decide +kernel)
set_option maxRecDepth 20000 in
theorem gX2_tellNeeds_X2_loadsNeeded : GoodIn wsX2_tellNeeds (wsV RX2 131 RX2 yX2_loadsNeeded wsX2_loadsNeeded) := goodIn_app (goodIn_of _ (by decide +kernel)) ggX2_tellNeeds_X2_loadsNeeded
theorem dX2_tellNeeds_0 : decode cX2_tellNeeds 0 = .ok (.iconst 0, 1) := by decide +kernel
theorem dX2_tellNeeds_1 : decode cX2_tellNeeds 1 = .ok (.istore_n 2, 1) := by decide +kernel
theorem dX2_tellNeeds_2 : decode cX2_tellNeeds 2 = .ok (.iload_n 2, 1) := by decide +kernel
theorem dX2_tellNeeds_3 : decode cX2_tellNeeds 3 = .ok (.aload_n 0, 1) := by decide +kernel
theorem dX2_tellNeeds_4 : decode cX2_tellNeeds 4 = .ok (.getfield 39, 3) := by decide +kernel
theorem dX2_tellNeeds_7 : decode cX2_tellNeeds 7 = .ok (.if_icmp .ge 21, 3) := by decide +kernel
theorem dX2_tellNeeds_10 : decode cX2_tellNeeds 10 = .ok (.aload_n 0, 1) := by decide +kernel
theorem dX2_tellNeeds_11 : decode cX2_tellNeeds 11 = .ok (.getfield 36, 3) := by decide +kernel
theorem dX2_tellNeeds_14 : decode cX2_tellNeeds 14 = .ok (.iload_n 2, 1) := by decide +kernel
theorem dX2_tellNeeds_15 : decode cX2_tellNeeds 15 = .ok (.aload_n 0, 1) := by decide +kernel
theorem dX2_tellNeeds_16 : decode cX2_tellNeeds 16 = .ok (.iload_n 2, 1) := by decide +kernel
theorem dX2_tellNeeds_17 : decode cX2_tellNeeds 17 = .ok (.iload_n 1, 1) := by decide +kernel
theorem dX2_tellNeeds_18 : decode cX2_tellNeeds 18 = .ok (.invokevirtual 131, 3) := by decide +kernel
theorem dX2_tellNeeds_21 : decode cX2_tellNeeds 21 = .ok (.iastore, 1) := by decide +kernel
theorem dX2_tellNeeds_22 : decode cX2_tellNeeds 22 = .ok (.iinc 2 1, 3) := by decide +kernel
theorem dX2_tellNeeds_25 : decode cX2_tellNeeds 25 = .ok (.goto (-23), 3) := by decide +kernel
theorem dX2_tellNeeds_28 : decode cX2_tellNeeds 28 = .ok (.return_, 1) := by decide +kernel
set_option maxRecDepth 20000 in
theorem ggX2_bestPlan_X2_loadsOf : GoodIn wsX2_bestPlan wsX2_loadsOf := goodIn_r _ [6, 1, 7, 8, 9, 5, 10, 29, 30, 31, 32, 33, 34, 35, 36, 37, 38] (by decide +kernel) (by decide +kernel)
set_option maxRecDepth 20000 in
theorem gX2_bestPlan_X2_loadsOf : GoodIn wsX2_bestPlan (wsV RX2 145 RX2 yX2_loadsOf wsX2_loadsOf) := goodIn_app (goodIn_of _ (by decide +kernel)) ggX2_bestPlan_X2_loadsOf
set_option maxRecDepth 20000 in
theorem ggX2_bestPlan_X2_isBetterPlan : GoodIn wsX2_bestPlan wsX2_isBetterPlan := goodIn_r _ [14, 15, 16, 17, 18, 19, 20, 21, 22, 23, 24, 5, 25, 1, 7, 8, 9, 10, 26, 27, 28, 29, 30, 31, 32, 33, 34, 35, 36, 37, 38] (by decide +kernel) (by decide +kernel)
set_option maxRecDepth 20000 in
theorem gX2_bestPlan_X2_isBetterPlan : GoodIn wsX2_bestPlan (wsV RX2 257 RX2 yX2_isBetterPlan wsX2_isBetterPlan) := goodIn_app (goodIn_of _ (by decide +kernel)) ggX2_bestPlan_X2_isBetterPlan
theorem dX2_bestPlan_0 : decode cX2_bestPlan 0 = .ok (.iconst 0, 1) := by decide +kernel
theorem dX2_bestPlan_1 : decode cX2_bestPlan 1 = .ok (.istore_n 2, 1) := by decide +kernel
theorem dX2_bestPlan_2 : decode cX2_bestPlan 2 = .ok (.iconst 1, 1) := by decide +kernel
theorem dX2_bestPlan_3 : decode cX2_bestPlan 3 = .ok (.istore_n 3, 1) := by decide +kernel
theorem dX2_bestPlan_4 : decode cX2_bestPlan 4 = .ok (.iload_n 3, 1) := by decide +kernel
theorem dX2_bestPlan_5 : decode cX2_bestPlan 5 = .ok (.iconst 1, 1) := by decide +kernel
theorem dX2_bestPlan_6 : decode cX2_bestPlan 6 = .ok (.aload_n 0, 1) := by decide +kernel
theorem dX2_bestPlan_7 : decode cX2_bestPlan 7 = .ok (.getfield 39, 3) := by decide +kernel
theorem dX2_bestPlan_10 : decode cX2_bestPlan 10 = .ok (.ishl, 1) := by decide +kernel
theorem dX2_bestPlan_11 : decode cX2_bestPlan 11 = .ok (.if_icmp .ge 39, 3) := by decide +kernel
theorem dX2_bestPlan_14 : decode cX2_bestPlan 14 = .ok (.aload_n 0, 1) := by decide +kernel
theorem dX2_bestPlan_15 : decode cX2_bestPlan 15 = .ok (.iload_n 3, 1) := by decide +kernel
theorem dX2_bestPlan_16 : decode cX2_bestPlan 16 = .ok (.invokevirtual 145, 3) := by decide +kernel
theorem dX2_bestPlan_19 : decode cX2_bestPlan 19 = .ok (.istore 4, 2) := by decide +kernel
theorem dX2_bestPlan_21 : decode cX2_bestPlan 21 = .ok (.iload 4, 2) := by decide +kernel
theorem dX2_bestPlan_23 : decode cX2_bestPlan 23 = .ok (.iconst (-1), 1) := by decide +kernel
theorem dX2_bestPlan_24 : decode cX2_bestPlan 24 = .ok (.if_icmp .eq 20, 3) := by decide +kernel
theorem dX2_bestPlan_27 : decode cX2_bestPlan 27 = .ok (.iload 4, 2) := by decide +kernel
theorem dX2_bestPlan_29 : decode cX2_bestPlan 29 = .ok (.iload_n 1, 1) := by decide +kernel
theorem dX2_bestPlan_30 : decode cX2_bestPlan 30 = .ok (.if_icmp .gt 14, 3) := by decide +kernel
theorem dX2_bestPlan_33 : decode cX2_bestPlan 33 = .ok (.aload_n 0, 1) := by decide +kernel
theorem dX2_bestPlan_34 : decode cX2_bestPlan 34 = .ok (.iload_n 3, 1) := by decide +kernel
theorem dX2_bestPlan_35 : decode cX2_bestPlan 35 = .ok (.iload_n 2, 1) := by decide +kernel
theorem dX2_bestPlan_36 : decode cX2_bestPlan 36 = .ok (.invokevirtual 257, 3) := by decide +kernel
theorem dX2_bestPlan_39 : decode cX2_bestPlan 39 = .ok (.ifCond .eq 5, 3) := by decide +kernel
theorem dX2_bestPlan_42 : decode cX2_bestPlan 42 = .ok (.iload_n 3, 1) := by decide +kernel
theorem dX2_bestPlan_43 : decode cX2_bestPlan 43 = .ok (.istore_n 2, 1) := by decide +kernel
theorem dX2_bestPlan_44 : decode cX2_bestPlan 44 = .ok (.iinc 3 1, 3) := by decide +kernel
theorem dX2_bestPlan_47 : decode cX2_bestPlan 47 = .ok (.goto (-43), 3) := by decide +kernel
theorem dX2_bestPlan_50 : decode cX2_bestPlan 50 = .ok (.iload_n 2, 1) := by decide +kernel
theorem dX2_bestPlan_51 : decode cX2_bestPlan 51 = .ok (.ireturn, 1) := by decide +kernel
set_option maxRecDepth 20000 in
theorem ggX2_isBetterPlan_J6_bitCount_0f7a4 : GoodIn wsX2_isBetterPlan wsJ6_bitCount_0f7a4 := goodIn_r _ [4, 5, 6, 7] (by decide +kernel) (by decide +kernel)
set_option maxRecDepth 20000 in
theorem gX2_isBetterPlan_J6_bitCount_0f7a4 : GoodIn wsX2_isBetterPlan (va_wsS RX2 140 yJ6_bitCount_0f7a4 wsJ6_bitCount_0f7a4) := goodIn_app (goodIn_of _ (by decide +kernel)) ggX2_isBetterPlan_J6_bitCount_0f7a4
set_option maxRecDepth 20000 in
theorem ggX2_isBetterPlan_X2_costOf : GoodIn wsX2_isBetterPlan wsX2_costOf := goodIn_r _ [12, 13, 14, 15, 16, 11, 17, 18, 19, 20, 21, 22, 23, 24, 25, 26, 27, 28, 29, 30] (by decide +kernel) (by decide +kernel)
set_option maxRecDepth 20000 in
theorem gX2_isBetterPlan_X2_costOf : GoodIn wsX2_isBetterPlan (wsV RX2 148 RX2 yX2_costOf wsX2_costOf) := goodIn_app (goodIn_of _ (by decide +kernel)) ggX2_isBetterPlan_X2_costOf
theorem dX2_isBetterPlan_0 : decode cX2_isBetterPlan 0 = .ok (.iload_n 1, 1) := by decide +kernel
theorem dX2_isBetterPlan_1 : decode cX2_isBetterPlan 1 = .ok (.invokestatic 140, 3) := by decide +kernel
theorem dX2_isBetterPlan_4 : decode cX2_isBetterPlan 4 = .ok (.iload_n 2, 1) := by decide +kernel
theorem dX2_isBetterPlan_5 : decode cX2_isBetterPlan 5 = .ok (.invokestatic 140, 3) := by decide +kernel
theorem dX2_isBetterPlan_8 : decode cX2_isBetterPlan 8 = .ok (.isub, 1) := by decide +kernel
theorem dX2_isBetterPlan_9 : decode cX2_isBetterPlan 9 = .ok (.istore_n 3, 1) := by decide +kernel
theorem dX2_isBetterPlan_10 : decode cX2_isBetterPlan 10 = .ok (.iload_n 3, 1) := by decide +kernel
theorem dX2_isBetterPlan_11 : decode cX2_isBetterPlan 11 = .ok (.ifCond .gt 20, 3) := by decide +kernel
theorem dX2_isBetterPlan_14 : decode cX2_isBetterPlan 14 = .ok (.iload_n 3, 1) := by decide +kernel
theorem dX2_isBetterPlan_15 : decode cX2_isBetterPlan 15 = .ok (.ifCond .ne 20, 3) := by decide +kernel
theorem dX2_isBetterPlan_18 : decode cX2_isBetterPlan 18 = .ok (.aload_n 0, 1) := by decide +kernel
theorem dX2_isBetterPlan_19 : decode cX2_isBetterPlan 19 = .ok (.iload_n 1, 1) := by decide +kernel
theorem dX2_isBetterPlan_20 : decode cX2_isBetterPlan 20 = .ok (.invokevirtual 148, 3) := by decide +kernel
theorem dX2_isBetterPlan_23 : decode cX2_isBetterPlan 23 = .ok (.aload_n 0, 1) := by decide +kernel
theorem dX2_isBetterPlan_24 : decode cX2_isBetterPlan 24 = .ok (.iload_n 2, 1) := by decide +kernel
theorem dX2_isBetterPlan_25 : decode cX2_isBetterPlan 25 = .ok (.invokevirtual 148, 3) := by decide +kernel
theorem dX2_isBetterPlan_28 : decode cX2_isBetterPlan 28 = .ok (.if_icmp .ge 7, 3) := by decide +kernel
theorem dX2_isBetterPlan_31 : decode cX2_isBetterPlan 31 = .ok (.iconst 1, 1) := by decide +kernel
theorem dX2_isBetterPlan_32 : decode cX2_isBetterPlan 32 = .ok (.goto 4, 3) := by decide +kernel
theorem dX2_isBetterPlan_35 : decode cX2_isBetterPlan 35 = .ok (.iconst 0, 1) := by decide +kernel
theorem dX2_isBetterPlan_36 : decode cX2_isBetterPlan 36 = .ok (.ireturn, 1) := by decide +kernel
set_option maxRecDepth 20000 in
theorem ggX2_loadsOf_X2_hasBit : GoodIn wsX2_loadsOf wsX2_hasBit := goodIn_r _ [6] (by decide +kernel) (by decide +kernel)
set_option maxRecDepth 20000 in
theorem gX2_loadsOf_X2_hasBit : GoodIn wsX2_loadsOf (va_wsS RX2 260 yX2_hasBit wsX2_hasBit) := goodIn_app (goodIn_of _ (by decide +kernel)) ggX2_loadsOf_X2_hasBit
theorem dX2_loadsOf_0 : decode cX2_loadsOf 0 = .ok (.iconst 0, 1) := by decide +kernel
theorem dX2_loadsOf_1 : decode cX2_loadsOf 1 = .ok (.istore_n 2, 1) := by decide +kernel
theorem dX2_loadsOf_2 : decode cX2_loadsOf 2 = .ok (.iconst 0, 1) := by decide +kernel
theorem dX2_loadsOf_3 : decode cX2_loadsOf 3 = .ok (.istore_n 3, 1) := by decide +kernel
theorem dX2_loadsOf_4 : decode cX2_loadsOf 4 = .ok (.iload_n 3, 1) := by decide +kernel
theorem dX2_loadsOf_5 : decode cX2_loadsOf 5 = .ok (.aload_n 0, 1) := by decide +kernel
theorem dX2_loadsOf_6 : decode cX2_loadsOf 6 = .ok (.getfield 39, 3) := by decide +kernel
theorem dX2_loadsOf_9 : decode cX2_loadsOf 9 = .ok (.if_icmp .ge 38, 3) := by decide +kernel
theorem dX2_loadsOf_12 : decode cX2_loadsOf 12 = .ok (.iload_n 1, 1) := by decide +kernel
theorem dX2_loadsOf_13 : decode cX2_loadsOf 13 = .ok (.iload_n 3, 1) := by decide +kernel
theorem dX2_loadsOf_14 : decode cX2_loadsOf 14 = .ok (.invokestatic 260, 3) := by decide +kernel
theorem dX2_loadsOf_17 : decode cX2_loadsOf 17 = .ok (.ifCond .eq 24, 3) := by decide +kernel
theorem dX2_loadsOf_20 : decode cX2_loadsOf 20 = .ok (.aload_n 0, 1) := by decide +kernel
theorem dX2_loadsOf_21 : decode cX2_loadsOf 21 = .ok (.getfield 36, 3) := by decide +kernel
theorem dX2_loadsOf_24 : decode cX2_loadsOf 24 = .ok (.iload_n 3, 1) := by decide +kernel
theorem dX2_loadsOf_25 : decode cX2_loadsOf 25 = .ok (.iaload, 1) := by decide +kernel
theorem dX2_loadsOf_26 : decode cX2_loadsOf 26 = .ok (.iconst (-1), 1) := by decide +kernel
theorem dX2_loadsOf_27 : decode cX2_loadsOf 27 = .ok (.if_icmp .ne 5, 3) := by decide +kernel
theorem dX2_loadsOf_30 : decode cX2_loadsOf 30 = .ok (.iconst (-1), 1) := by decide +kernel
theorem dX2_loadsOf_31 : decode cX2_loadsOf 31 = .ok (.ireturn, 1) := by decide +kernel
theorem dX2_loadsOf_32 : decode cX2_loadsOf 32 = .ok (.iload_n 2, 1) := by decide +kernel
theorem dX2_loadsOf_33 : decode cX2_loadsOf 33 = .ok (.aload_n 0, 1) := by decide +kernel
theorem dX2_loadsOf_34 : decode cX2_loadsOf 34 = .ok (.getfield 36, 3) := by decide +kernel
theorem dX2_loadsOf_37 : decode cX2_loadsOf 37 = .ok (.iload_n 3, 1) := by decide +kernel
theorem dX2_loadsOf_38 : decode cX2_loadsOf 38 = .ok (.iaload, 1) := by decide +kernel
theorem dX2_loadsOf_39 : decode cX2_loadsOf 39 = .ok (.iadd, 1) := by decide +kernel
theorem dX2_loadsOf_40 : decode cX2_loadsOf 40 = .ok (.istore_n 2, 1) := by decide +kernel
theorem dX2_loadsOf_41 : decode cX2_loadsOf 41 = .ok (.iinc 3 1, 3) := by decide +kernel
theorem dX2_loadsOf_44 : decode cX2_loadsOf 44 = .ok (.goto (-40), 3) := by decide +kernel
theorem dX2_loadsOf_47 : decode cX2_loadsOf 47 = .ok (.iload_n 2, 1) := by decide +kernel
theorem dX2_loadsOf_48 : decode cX2_loadsOf 48 = .ok (.ireturn, 1) := by decide +kernel
set_option maxRecDepth 20000 in
theorem ggX2_costOf_X2_hasBit : GoodIn wsX2_costOf wsX2_hasBit := goodIn_r _ [6] (by decide +kernel) (by decide +kernel)
set_option maxRecDepth 20000 in
theorem gX2_costOf_X2_hasBit : GoodIn wsX2_costOf (va_wsS RX2 260 yX2_hasBit wsX2_hasBit) := goodIn_app (goodIn_of _ (by decide +kernel)) ggX2_costOf_X2_hasBit
set_option maxRecDepth 20000 in
theorem ggX2_costOf_X2_priceAt : GoodIn wsX2_costOf wsX2_priceAt := goodIn_r _ [9] (by decide +kernel) (by decide +kernel)
set_option maxRecDepth 20000 in
theorem gX2_costOf_X2_priceAt : GoodIn wsX2_costOf (va_wsS RX2 118 yX2_priceAt wsX2_priceAt) := goodIn_app (goodIn_of _ (by decide +kernel)) ggX2_costOf_X2_priceAt
theorem dX2_costOf_0 : decode cX2_costOf 0 = .ok (.iconst 0, 1) := by decide +kernel
theorem dX2_costOf_1 : decode cX2_costOf 1 = .ok (.istore_n 2, 1) := by decide +kernel
theorem dX2_costOf_2 : decode cX2_costOf 2 = .ok (.iconst 0, 1) := by decide +kernel
theorem dX2_costOf_3 : decode cX2_costOf 3 = .ok (.istore_n 3, 1) := by decide +kernel
theorem dX2_costOf_4 : decode cX2_costOf 4 = .ok (.iload_n 3, 1) := by decide +kernel
theorem dX2_costOf_5 : decode cX2_costOf 5 = .ok (.aload_n 0, 1) := by decide +kernel
theorem dX2_costOf_6 : decode cX2_costOf 6 = .ok (.getfield 39, 3) := by decide +kernel
theorem dX2_costOf_9 : decode cX2_costOf 9 = .ok (.if_icmp .ge 31, 3) := by decide +kernel
theorem dX2_costOf_12 : decode cX2_costOf 12 = .ok (.iload_n 1, 1) := by decide +kernel
theorem dX2_costOf_13 : decode cX2_costOf 13 = .ok (.iload_n 3, 1) := by decide +kernel
theorem dX2_costOf_14 : decode cX2_costOf 14 = .ok (.invokestatic 260, 3) := by decide +kernel
theorem dX2_costOf_17 : decode cX2_costOf 17 = .ok (.ifCond .eq 17, 3) := by decide +kernel
theorem dX2_costOf_20 : decode cX2_costOf 20 = .ok (.iload_n 2, 1) := by decide +kernel
theorem dX2_costOf_21 : decode cX2_costOf 21 = .ok (.aload_n 0, 1) := by decide +kernel
theorem dX2_costOf_22 : decode cX2_costOf 22 = .ok (.getfield 36, 3) := by decide +kernel
theorem dX2_costOf_25 : decode cX2_costOf 25 = .ok (.iload_n 3, 1) := by decide +kernel
theorem dX2_costOf_26 : decode cX2_costOf 26 = .ok (.iaload, 1) := by decide +kernel
theorem dX2_costOf_27 : decode cX2_costOf 27 = .ok (.iload_n 3, 1) := by decide +kernel
theorem dX2_costOf_28 : decode cX2_costOf 28 = .ok (.invokestatic 118, 3) := by decide +kernel
theorem dX2_costOf_31 : decode cX2_costOf 31 = .ok (.imul, 1) := by decide +kernel
theorem dX2_costOf_32 : decode cX2_costOf 32 = .ok (.iadd, 1) := by decide +kernel
theorem dX2_costOf_33 : decode cX2_costOf 33 = .ok (.istore_n 2, 1) := by decide +kernel
theorem dX2_costOf_34 : decode cX2_costOf 34 = .ok (.iinc 3 1, 3) := by decide +kernel
theorem dX2_costOf_37 : decode cX2_costOf 37 = .ok (.goto (-33), 3) := by decide +kernel
theorem dX2_costOf_40 : decode cX2_costOf 40 = .ok (.iload_n 2, 1) := by decide +kernel
theorem dX2_costOf_41 : decode cX2_costOf 41 = .ok (.ireturn, 1) := by decide +kernel
set_option maxRecDepth 20000 in
theorem ggX2_bestError_X2_keptIn : GoodIn wsX2_bestError wsX2_keptIn := goodIn_r _ [8, 3, 9, 10, 11, 7, 12, 13, 35, 36, 37, 38, 39, 40, 41, 42, 43, 44] (by decide +kernel) (by decide +kernel)
set_option maxRecDepth 20000 in
theorem gX2_bestError_X2_keptIn : GoodIn wsX2_bestError (wsV RX2 197 RX2 yX2_keptIn wsX2_keptIn) := goodIn_app (goodIn_of _ (by decide +kernel)) ggX2_bestError_X2_keptIn
set_option maxRecDepth 20000 in
theorem ggX2_bestError_X2_keptIfSwapped : GoodIn wsX2_bestError wsX2_keptIfSwapped := goodIn_r _ [17, 3, 1, 2, 18, 19, 20, 7, 21, 22, 23, 24, 25, 26, 27, 28, 29, 30, 31, 32, 33, 34, 9, 10, 11, 12, 13, 35, 36, 37, 38, 39, 40, 41, 42, 43, 44, 45, 46, 47, 48, 49, 50, 51, 52, 53, 54, 55, 56, 57] (by decide +kernel) (by decide +kernel)
set_option maxRecDepth 20000 in
theorem gX2_bestError_X2_keptIfSwapped : GoodIn wsX2_bestError (wsV RX2 154 RX2 yX2_keptIfSwapped wsX2_keptIfSwapped) := goodIn_app (goodIn_of _ (by decide +kernel)) ggX2_bestError_X2_keptIfSwapped
theorem dX2_bestError_0 : decode cX2_bestError 0 = .ok (.iconst (-1), 1) := by decide +kernel
theorem dX2_bestError_1 : decode cX2_bestError 1 = .ok (.istore_n 1, 1) := by decide +kernel
theorem dX2_bestError_2 : decode cX2_bestError 2 = .ok (.aload_n 0, 1) := by decide +kernel
theorem dX2_bestError_3 : decode cX2_bestError 3 = .ok (.aload_n 0, 1) := by decide +kernel
theorem dX2_bestError_4 : decode cX2_bestError 4 = .ok (.getfield 26, 3) := by decide +kernel
theorem dX2_bestError_7 : decode cX2_bestError 7 = .ok (.getfield 92, 3) := by decide +kernel
theorem dX2_bestError_10 : decode cX2_bestError 10 = .ok (.invokevirtual 197, 3) := by decide +kernel
theorem dX2_bestError_13 : decode cX2_bestError 13 = .ok (.istore_n 2, 1) := by decide +kernel
theorem dX2_bestError_14 : decode cX2_bestError 14 = .ok (.iconst 0, 1) := by decide +kernel
theorem dX2_bestError_15 : decode cX2_bestError 15 = .ok (.istore_n 3, 1) := by decide +kernel
theorem dX2_bestError_16 : decode cX2_bestError 16 = .ok (.iload_n 3, 1) := by decide +kernel
theorem dX2_bestError_17 : decode cX2_bestError 17 = .ok (.aload_n 0, 1) := by decide +kernel
theorem dX2_bestError_18 : decode cX2_bestError 18 = .ok (.getfield 39, 3) := by decide +kernel
theorem dX2_bestError_21 : decode cX2_bestError 21 = .ok (.if_icmp .ge 55, 3) := by decide +kernel
theorem dX2_bestError_24 : decode cX2_bestError 24 = .ok (.iload_n 3, 1) := by decide +kernel
theorem dX2_bestError_25 : decode cX2_bestError 25 = .ok (.iconst 1, 1) := by decide +kernel
theorem dX2_bestError_26 : decode cX2_bestError 26 = .ok (.iadd, 1) := by decide +kernel
theorem dX2_bestError_27 : decode cX2_bestError 27 = .ok (.istore 4, 2) := by decide +kernel
theorem dX2_bestError_29 : decode cX2_bestError 29 = .ok (.iload 4, 2) := by decide +kernel
theorem dX2_bestError_31 : decode cX2_bestError 31 = .ok (.aload_n 0, 1) := by decide +kernel
theorem dX2_bestError_32 : decode cX2_bestError 32 = .ok (.getfield 39, 3) := by decide +kernel
theorem dX2_bestError_35 : decode cX2_bestError 35 = .ok (.if_icmp .ge 35, 3) := by decide +kernel
theorem dX2_bestError_38 : decode cX2_bestError 38 = .ok (.aload_n 0, 1) := by decide +kernel
theorem dX2_bestError_39 : decode cX2_bestError 39 = .ok (.iload_n 3, 1) := by decide +kernel
theorem dX2_bestError_40 : decode cX2_bestError 40 = .ok (.iload 4, 2) := by decide +kernel
theorem dX2_bestError_42 : decode cX2_bestError 42 = .ok (.invokevirtual 154, 3) := by decide +kernel
theorem dX2_bestError_45 : decode cX2_bestError 45 = .ok (.istore 5, 2) := by decide +kernel
theorem dX2_bestError_47 : decode cX2_bestError 47 = .ok (.iload 5, 2) := by decide +kernel
theorem dX2_bestError_49 : decode cX2_bestError 49 = .ok (.iload_n 2, 1) := by decide +kernel
theorem dX2_bestError_50 : decode cX2_bestError 50 = .ok (.if_icmp .le 14, 3) := by decide +kernel
theorem dX2_bestError_53 : decode cX2_bestError 53 = .ok (.iload 5, 2) := by decide +kernel
theorem dX2_bestError_55 : decode cX2_bestError 55 = .ok (.istore_n 2, 1) := by decide +kernel
theorem dX2_bestError_56 : decode cX2_bestError 56 = .ok (.bipush 10, 2) := by decide +kernel
theorem dX2_bestError_58 : decode cX2_bestError 58 = .ok (.iload_n 3, 1) := by decide +kernel
theorem dX2_bestError_59 : decode cX2_bestError 59 = .ok (.imul, 1) := by decide +kernel
theorem dX2_bestError_60 : decode cX2_bestError 60 = .ok (.iload 4, 2) := by decide +kernel
theorem dX2_bestError_62 : decode cX2_bestError 62 = .ok (.iadd, 1) := by decide +kernel
theorem dX2_bestError_63 : decode cX2_bestError 63 = .ok (.istore_n 1, 1) := by decide +kernel
theorem dX2_bestError_64 : decode cX2_bestError 64 = .ok (.iinc 4 1, 3) := by decide +kernel
theorem dX2_bestError_67 : decode cX2_bestError 67 = .ok (.goto (-38), 3) := by decide +kernel
theorem dX2_bestError_70 : decode cX2_bestError 70 = .ok (.iinc 3 1, 3) := by decide +kernel
theorem dX2_bestError_73 : decode cX2_bestError 73 = .ok (.goto (-57), 3) := by decide +kernel
theorem dX2_bestError_76 : decode cX2_bestError 76 = .ok (.iload_n 1, 1) := by decide +kernel
theorem dX2_bestError_77 : decode cX2_bestError 77 = .ok (.ireturn, 1) := by decide +kernel
set_option maxRecDepth 20000 in
theorem ggX2_keptIfSwapped_X2_deepWithLoadsOf : GoodIn wsX2_keptIfSwapped wsX2_deepWithLoadsOf := goodIn_r _ [8, 2, 9, 10, 11, 12, 13, 7, 14, 1, 15, 16, 17, 18, 19, 20, 21, 27, 28, 29, 30, 31, 32, 33, 34, 35, 36, 37, 38, 39, 40, 41, 42, 43, 44, 45, 46, 47, 48, 49] (by decide +kernel) (by decide +kernel)
set_option maxRecDepth 20000 in
theorem gX2_keptIfSwapped_X2_deepWithLoadsOf : GoodIn wsX2_keptIfSwapped (wsV RX2 263 RX2 yX2_deepWithLoadsOf wsX2_deepWithLoadsOf) := goodIn_app (goodIn_of _ (by decide +kernel)) ggX2_keptIfSwapped_X2_deepWithLoadsOf
set_option maxRecDepth 20000 in
theorem ggX2_keptIfSwapped_X2_isKeptWith : GoodIn wsX2_keptIfSwapped wsX2_isKeptWith := goodIn_r _ [25, 26, 27, 28, 29, 30, 31, 32, 33, 34, 35, 36] (by decide +kernel) (by decide +kernel)
set_option maxRecDepth 20000 in
theorem gX2_keptIfSwapped_X2_isKeptWith : GoodIn wsX2_keptIfSwapped (wsV RX2 101 RX2 yX2_isKeptWith wsX2_isKeptWith) := goodIn_app (goodIn_of _ (by decide +kernel)) ggX2_keptIfSwapped_X2_isKeptWith
theorem dX2_keptIfSwapped_0 : decode cX2_keptIfSwapped 0 = .ok (.iconst 0, 1) := by decide +kernel
theorem dX2_keptIfSwapped_1 : decode cX2_keptIfSwapped 1 = .ok (.istore_n 3, 1) := by decide +kernel
theorem dX2_keptIfSwapped_2 : decode cX2_keptIfSwapped 2 = .ok (.iconst 0, 1) := by decide +kernel
theorem dX2_keptIfSwapped_3 : decode cX2_keptIfSwapped 3 = .ok (.istore 4, 2) := by decide +kernel
theorem dX2_keptIfSwapped_5 : decode cX2_keptIfSwapped 5 = .ok (.iload 4, 2) := by decide +kernel
theorem dX2_keptIfSwapped_7 : decode cX2_keptIfSwapped 7 = .ok (.aload_n 0, 1) := by decide +kernel
theorem dX2_keptIfSwapped_8 : decode cX2_keptIfSwapped 8 = .ok (.getfield 39, 3) := by decide +kernel
theorem dX2_keptIfSwapped_11 : decode cX2_keptIfSwapped 11 = .ok (.if_icmp .ge 68, 3) := by decide +kernel
theorem dX2_keptIfSwapped_14 : decode cX2_keptIfSwapped 14 = .ok (.aload_n 0, 1) := by decide +kernel
theorem dX2_keptIfSwapped_15 : decode cX2_keptIfSwapped 15 = .ok (.getfield 26, 3) := by decide +kernel
theorem dX2_keptIfSwapped_18 : decode cX2_keptIfSwapped 18 = .ok (.getfield 92, 3) := by decide +kernel
theorem dX2_keptIfSwapped_21 : decode cX2_keptIfSwapped 21 = .ok (.iload 4, 2) := by decide +kernel
theorem dX2_keptIfSwapped_23 : decode cX2_keptIfSwapped 23 = .ok (.iaload, 1) := by decide +kernel
theorem dX2_keptIfSwapped_24 : decode cX2_keptIfSwapped 24 = .ok (.istore 5, 2) := by decide +kernel
theorem dX2_keptIfSwapped_26 : decode cX2_keptIfSwapped 26 = .ok (.iload 4, 2) := by decide +kernel
theorem dX2_keptIfSwapped_28 : decode cX2_keptIfSwapped 28 = .ok (.iload_n 1, 1) := by decide +kernel
theorem dX2_keptIfSwapped_29 : decode cX2_keptIfSwapped 29 = .ok (.if_icmp .ne 15, 3) := by decide +kernel
theorem dX2_keptIfSwapped_32 : decode cX2_keptIfSwapped 32 = .ok (.aload_n 0, 1) := by decide +kernel
theorem dX2_keptIfSwapped_33 : decode cX2_keptIfSwapped 33 = .ok (.iload 4, 2) := by decide +kernel
theorem dX2_keptIfSwapped_35 : decode cX2_keptIfSwapped 35 = .ok (.iload_n 2, 1) := by decide +kernel
theorem dX2_keptIfSwapped_36 : decode cX2_keptIfSwapped 36 = .ok (.invokevirtual 263, 3) := by decide +kernel
theorem dX2_keptIfSwapped_39 : decode cX2_keptIfSwapped 39 = .ok (.istore 5, 2) := by decide +kernel
theorem dX2_keptIfSwapped_41 : decode cX2_keptIfSwapped 41 = .ok (.goto 18, 3) := by decide +kernel
theorem dX2_keptIfSwapped_44 : decode cX2_keptIfSwapped 44 = .ok (.iload 4, 2) := by decide +kernel
theorem dX2_keptIfSwapped_46 : decode cX2_keptIfSwapped 46 = .ok (.iload_n 2, 1) := by decide +kernel
theorem dX2_keptIfSwapped_47 : decode cX2_keptIfSwapped 47 = .ok (.if_icmp .ne 12, 3) := by decide +kernel
theorem dX2_keptIfSwapped_50 : decode cX2_keptIfSwapped 50 = .ok (.aload_n 0, 1) := by decide +kernel
theorem dX2_keptIfSwapped_51 : decode cX2_keptIfSwapped 51 = .ok (.iload 4, 2) := by decide +kernel
theorem dX2_keptIfSwapped_53 : decode cX2_keptIfSwapped 53 = .ok (.iload_n 1, 1) := by decide +kernel
theorem dX2_keptIfSwapped_54 : decode cX2_keptIfSwapped 54 = .ok (.invokevirtual 263, 3) := by decide +kernel
theorem dX2_keptIfSwapped_57 : decode cX2_keptIfSwapped 57 = .ok (.istore 5, 2) := by decide +kernel
theorem dX2_keptIfSwapped_59 : decode cX2_keptIfSwapped 59 = .ok (.aload_n 0, 1) := by decide +kernel
theorem dX2_keptIfSwapped_60 : decode cX2_keptIfSwapped 60 = .ok (.iload 4, 2) := by decide +kernel
theorem dX2_keptIfSwapped_62 : decode cX2_keptIfSwapped 62 = .ok (.iload 5, 2) := by decide +kernel
theorem dX2_keptIfSwapped_64 : decode cX2_keptIfSwapped 64 = .ok (.invokevirtual 101, 3) := by decide +kernel
theorem dX2_keptIfSwapped_67 : decode cX2_keptIfSwapped 67 = .ok (.ifCond .eq 6, 3) := by decide +kernel
theorem dX2_keptIfSwapped_70 : decode cX2_keptIfSwapped 70 = .ok (.iinc 3 1, 3) := by decide +kernel
theorem dX2_keptIfSwapped_73 : decode cX2_keptIfSwapped 73 = .ok (.iinc 4 1, 3) := by decide +kernel
theorem dX2_keptIfSwapped_76 : decode cX2_keptIfSwapped 76 = .ok (.goto (-71), 3) := by decide +kernel
theorem dX2_keptIfSwapped_79 : decode cX2_keptIfSwapped 79 = .ok (.iload_n 3, 1) := by decide +kernel
theorem dX2_keptIfSwapped_80 : decode cX2_keptIfSwapped 80 = .ok (.ireturn, 1) := by decide +kernel
set_option maxRecDepth 20000 in
theorem ggX2_deepWithLoadsOf_X2_isSite : GoodIn wsX2_deepWithLoadsOf wsX2_isSite := goodIn_r _ [8, 9, 17, 18, 19, 20, 21, 22, 23, 24, 25, 26] (by decide +kernel) (by decide +kernel)
set_option maxRecDepth 20000 in
theorem gX2_deepWithLoadsOf_X2_isSite : GoodIn wsX2_deepWithLoadsOf (wsV RX2 89 RX2 yX2_isSite wsX2_isSite) := goodIn_app (goodIn_of _ (by decide +kernel)) ggX2_deepWithLoadsOf_X2_isSite
set_option maxRecDepth 20000 in
theorem ggX2_deepWithLoadsOf_X2_deepened : GoodIn wsX2_deepWithLoadsOf wsX2_deepened := goodIn_r _ [12, 13, 14, 15, 16] (by decide +kernel) (by decide +kernel)
set_option maxRecDepth 20000 in
theorem gX2_deepWithLoadsOf_X2_deepened : GoodIn wsX2_deepWithLoadsOf (va_wsS RX2 111 yX2_deepened wsX2_deepened) := goodIn_app (goodIn_of _ (by decide +kernel)) ggX2_deepWithLoadsOf_X2_deepened
theorem dX2_deepWithLoadsOf_0 : decode cX2_deepWithLoadsOf 0 = .ok (.aload_n 0, 1) := by decide +kernel
theorem dX2_deepWithLoadsOf_1 : decode cX2_deepWithLoadsOf 1 = .ok (.iload_n 1, 1) := by decide +kernel
theorem dX2_deepWithLoadsOf_2 : decode cX2_deepWithLoadsOf 2 = .ok (.invokevirtual 89, 3) := by decide +kernel
theorem dX2_deepWithLoadsOf_5 : decode cX2_deepWithLoadsOf 5 = .ok (.ifCond .eq 11, 3) := by decide +kernel
theorem dX2_deepWithLoadsOf_8 : decode cX2_deepWithLoadsOf 8 = .ok (.aload_n 0, 1) := by decide +kernel
theorem dX2_deepWithLoadsOf_9 : decode cX2_deepWithLoadsOf 9 = .ok (.iload_n 2, 1) := by decide +kernel
theorem dX2_deepWithLoadsOf_10 : decode cX2_deepWithLoadsOf 10 = .ok (.invokevirtual 89, 3) := by decide +kernel
theorem dX2_deepWithLoadsOf_13 : decode cX2_deepWithLoadsOf 13 = .ok (.ifCond .ne 5, 3) := by decide +kernel
theorem dX2_deepWithLoadsOf_16 : decode cX2_deepWithLoadsOf 16 = .ok (.iconst 0, 1) := by decide +kernel
theorem dX2_deepWithLoadsOf_17 : decode cX2_deepWithLoadsOf 17 = .ok (.ireturn, 1) := by decide +kernel
theorem dX2_deepWithLoadsOf_18 : decode cX2_deepWithLoadsOf 18 = .ok (.aload_n 0, 1) := by decide +kernel
theorem dX2_deepWithLoadsOf_19 : decode cX2_deepWithLoadsOf 19 = .ok (.getfield 26, 3) := by decide +kernel
theorem dX2_deepWithLoadsOf_22 : decode cX2_deepWithLoadsOf 22 = .ok (.getfield 266, 3) := by decide +kernel
theorem dX2_deepWithLoadsOf_25 : decode cX2_deepWithLoadsOf 25 = .ok (.iload_n 1, 1) := by decide +kernel
theorem dX2_deepWithLoadsOf_26 : decode cX2_deepWithLoadsOf 26 = .ok (.iaload, 1) := by decide +kernel
theorem dX2_deepWithLoadsOf_27 : decode cX2_deepWithLoadsOf 27 = .ok (.aload_n 0, 1) := by decide +kernel
theorem dX2_deepWithLoadsOf_28 : decode cX2_deepWithLoadsOf 28 = .ok (.getfield 26, 3) := by decide +kernel
theorem dX2_deepWithLoadsOf_31 : decode cX2_deepWithLoadsOf 31 = .ok (.getfield 105, 3) := by decide +kernel
theorem dX2_deepWithLoadsOf_34 : decode cX2_deepWithLoadsOf 34 = .ok (.iload_n 2, 1) := by decide +kernel
theorem dX2_deepWithLoadsOf_35 : decode cX2_deepWithLoadsOf 35 = .ok (.iaload, 1) := by decide +kernel
theorem dX2_deepWithLoadsOf_36 : decode cX2_deepWithLoadsOf 36 = .ok (.invokestatic 111, 3) := by decide +kernel
theorem dX2_deepWithLoadsOf_39 : decode cX2_deepWithLoadsOf 39 = .ok (.ireturn, 1) := by decide +kernel
set_option maxRecDepth 20000 in
theorem ggX2_possibleSuns_X2_explainsAllFound : GoodIn wsX2_possibleSuns wsX2_explainsAllFound := goodIn_r _ [5, 6, 7, 8, 9, 10, 11, 12, 13, 4, 14, 15, 16, 17, 18, 19, 20, 21, 22, 23, 24, 25, 26, 27, 28, 29, 30, 31, 32, 33, 34, 35, 36, 37, 38, 39, 40] (by decide +kernel) (by decide +kernel)
set_option maxRecDepth 20000 in
theorem gX2_possibleSuns_X2_explainsAllFound : GoodIn wsX2_possibleSuns (wsV RX2 269 RX2 yX2_explainsAllFound wsX2_explainsAllFound) := goodIn_app (goodIn_of _ (by decide +kernel)) ggX2_possibleSuns_X2_explainsAllFound
theorem dX2_possibleSuns_0 : decode cX2_possibleSuns 0 = .ok (.iconst 0, 1) := by decide +kernel
theorem dX2_possibleSuns_1 : decode cX2_possibleSuns 1 = .ok (.istore_n 1, 1) := by decide +kernel
theorem dX2_possibleSuns_2 : decode cX2_possibleSuns 2 = .ok (.iconst 0, 1) := by decide +kernel
theorem dX2_possibleSuns_3 : decode cX2_possibleSuns 3 = .ok (.istore_n 2, 1) := by decide +kernel
theorem dX2_possibleSuns_4 : decode cX2_possibleSuns 4 = .ok (.iload_n 2, 1) := by decide +kernel
theorem dX2_possibleSuns_5 : decode cX2_possibleSuns 5 = .ok (.bipush 9, 2) := by decide +kernel
theorem dX2_possibleSuns_7 : decode cX2_possibleSuns 7 = .ok (.if_icmp .gt 23, 3) := by decide +kernel
theorem dX2_possibleSuns_10 : decode cX2_possibleSuns 10 = .ok (.aload_n 0, 1) := by decide +kernel
theorem dX2_possibleSuns_11 : decode cX2_possibleSuns 11 = .ok (.iload_n 2, 1) := by decide +kernel
theorem dX2_possibleSuns_12 : decode cX2_possibleSuns 12 = .ok (.invokevirtual 269, 3) := by decide +kernel
theorem dX2_possibleSuns_15 : decode cX2_possibleSuns 15 = .ok (.ifCond .eq 9, 3) := by decide +kernel
theorem dX2_possibleSuns_18 : decode cX2_possibleSuns 18 = .ok (.iload_n 1, 1) := by decide +kernel
theorem dX2_possibleSuns_19 : decode cX2_possibleSuns 19 = .ok (.iconst 1, 1) := by decide +kernel
theorem dX2_possibleSuns_20 : decode cX2_possibleSuns 20 = .ok (.iload_n 2, 1) := by decide +kernel
theorem dX2_possibleSuns_21 : decode cX2_possibleSuns 21 = .ok (.ishl, 1) := by decide +kernel
theorem dX2_possibleSuns_22 : decode cX2_possibleSuns 22 = .ok (.ior, 1) := by decide +kernel
theorem dX2_possibleSuns_23 : decode cX2_possibleSuns 23 = .ok (.istore_n 1, 1) := by decide +kernel
theorem dX2_possibleSuns_24 : decode cX2_possibleSuns 24 = .ok (.iinc 2 1, 3) := by decide +kernel
theorem dX2_possibleSuns_27 : decode cX2_possibleSuns 27 = .ok (.goto (-23), 3) := by decide +kernel
theorem dX2_possibleSuns_30 : decode cX2_possibleSuns 30 = .ok (.iload_n 1, 1) := by decide +kernel
theorem dX2_possibleSuns_31 : decode cX2_possibleSuns 31 = .ok (.ireturn, 1) := by decide +kernel
set_option maxRecDepth 20000 in
theorem ggX2_explainsAllFound_X2_melting : GoodIn wsX2_explainsAllFound wsX2_melting := goodIn_r _ [10] (by decide +kernel) (by decide +kernel)
set_option maxRecDepth 20000 in
theorem gX2_explainsAllFound_X2_melting : GoodIn wsX2_explainsAllFound (va_wsS RX2 243 yX2_melting wsX2_melting) := goodIn_app (goodIn_of _ (by decide +kernel)) ggX2_explainsAllFound_X2_melting
set_option maxRecDepth 20000 in
theorem ggX2_explainsAllFound_X2_leftOf : GoodIn wsX2_explainsAllFound wsX2_leftOf := goodIn_r _ [13] (by decide +kernel) (by decide +kernel)
set_option maxRecDepth 20000 in
theorem gX2_explainsAllFound_X2_leftOf : GoodIn wsX2_explainsAllFound (va_wsS RX2 251 yX2_leftOf wsX2_leftOf) := goodIn_app (goodIn_of _ (by decide +kernel)) ggX2_explainsAllFound_X2_leftOf
theorem dX2_explainsAllFound_0 : decode cX2_explainsAllFound 0 = .ok (.iconst 0, 1) := by decide +kernel
theorem dX2_explainsAllFound_1 : decode cX2_explainsAllFound 1 = .ok (.istore_n 2, 1) := by decide +kernel
theorem dX2_explainsAllFound_2 : decode cX2_explainsAllFound 2 = .ok (.iload_n 2, 1) := by decide +kernel
theorem dX2_explainsAllFound_3 : decode cX2_explainsAllFound 3 = .ok (.aload_n 0, 1) := by decide +kernel
theorem dX2_explainsAllFound_4 : decode cX2_explainsAllFound 4 = .ok (.getfield 26, 3) := by decide +kernel
theorem dX2_explainsAllFound_7 : decode cX2_explainsAllFound 7 = .ok (.getfield 161, 3) := by decide +kernel
theorem dX2_explainsAllFound_10 : decode cX2_explainsAllFound 10 = .ok (.if_icmp .ge 59, 3) := by decide +kernel
theorem dX2_explainsAllFound_13 : decode cX2_explainsAllFound 13 = .ok (.aload_n 0, 1) := by decide +kernel
theorem dX2_explainsAllFound_14 : decode cX2_explainsAllFound 14 = .ok (.getfield 26, 3) := by decide +kernel
theorem dX2_explainsAllFound_17 : decode cX2_explainsAllFound 17 = .ok (.getfield 272, 3) := by decide +kernel
theorem dX2_explainsAllFound_20 : decode cX2_explainsAllFound 20 = .ok (.iload_n 2, 1) := by decide +kernel
theorem dX2_explainsAllFound_21 : decode cX2_explainsAllFound 21 = .ok (.iaload, 1) := by decide +kernel
theorem dX2_explainsAllFound_22 : decode cX2_explainsAllFound 22 = .ok (.iload_n 1, 1) := by decide +kernel
theorem dX2_explainsAllFound_23 : decode cX2_explainsAllFound 23 = .ok (.aload_n 0, 1) := by decide +kernel
theorem dX2_explainsAllFound_24 : decode cX2_explainsAllFound 24 = .ok (.getfield 26, 3) := by decide +kernel
theorem dX2_explainsAllFound_27 : decode cX2_explainsAllFound 27 = .ok (.getfield 275, 3) := by decide +kernel
theorem dX2_explainsAllFound_30 : decode cX2_explainsAllFound 30 = .ok (.iload_n 2, 1) := by decide +kernel
theorem dX2_explainsAllFound_31 : decode cX2_explainsAllFound 31 = .ok (.iaload, 1) := by decide +kernel
theorem dX2_explainsAllFound_32 : decode cX2_explainsAllFound 32 = .ok (.invokestatic 243, 3) := by decide +kernel
theorem dX2_explainsAllFound_35 : decode cX2_explainsAllFound 35 = .ok (.istore_n 3, 1) := by decide +kernel
theorem dX2_explainsAllFound_36 : decode cX2_explainsAllFound 36 = .ok (.aload_n 0, 1) := by decide +kernel
theorem dX2_explainsAllFound_37 : decode cX2_explainsAllFound 37 = .ok (.getfield 26, 3) := by decide +kernel
theorem dX2_explainsAllFound_40 : decode cX2_explainsAllFound 40 = .ok (.getfield 278, 3) := by decide +kernel
theorem dX2_explainsAllFound_43 : decode cX2_explainsAllFound 43 = .ok (.iload_n 2, 1) := by decide +kernel
theorem dX2_explainsAllFound_44 : decode cX2_explainsAllFound 44 = .ok (.iaload, 1) := by decide +kernel
theorem dX2_explainsAllFound_45 : decode cX2_explainsAllFound 45 = .ok (.iload_n 3, 1) := by decide +kernel
theorem dX2_explainsAllFound_46 : decode cX2_explainsAllFound 46 = .ok (.invokestatic 251, 3) := by decide +kernel
theorem dX2_explainsAllFound_49 : decode cX2_explainsAllFound 49 = .ok (.aload_n 0, 1) := by decide +kernel
theorem dX2_explainsAllFound_50 : decode cX2_explainsAllFound 50 = .ok (.getfield 26, 3) := by decide +kernel
theorem dX2_explainsAllFound_53 : decode cX2_explainsAllFound 53 = .ok (.getfield 281, 3) := by decide +kernel
theorem dX2_explainsAllFound_56 : decode cX2_explainsAllFound 56 = .ok (.iload_n 2, 1) := by decide +kernel
theorem dX2_explainsAllFound_57 : decode cX2_explainsAllFound 57 = .ok (.iaload, 1) := by decide +kernel
theorem dX2_explainsAllFound_58 : decode cX2_explainsAllFound 58 = .ok (.if_icmp .eq 5, 3) := by decide +kernel
theorem dX2_explainsAllFound_61 : decode cX2_explainsAllFound 61 = .ok (.iconst 0, 1) := by decide +kernel
theorem dX2_explainsAllFound_62 : decode cX2_explainsAllFound 62 = .ok (.ireturn, 1) := by decide +kernel
theorem dX2_explainsAllFound_63 : decode cX2_explainsAllFound 63 = .ok (.iinc 2 1, 3) := by decide +kernel
theorem dX2_explainsAllFound_66 : decode cX2_explainsAllFound 66 = .ok (.goto (-64), 3) := by decide +kernel
theorem dX2_explainsAllFound_69 : decode cX2_explainsAllFound 69 = .ok (.iconst 1, 1) := by decide +kernel
theorem dX2_explainsAllFound_70 : decode cX2_explainsAllFound 70 = .ok (.ireturn, 1) := by decide +kernel
set_option maxRecDepth 20000 in
theorem ggX2_bestLook_X2_sunsLeftAtWorst : GoodIn wsX2_bestLook wsX2_sunsLeftAtWorst := goodIn_r _ [6, 7, 8, 9, 10, 11, 12, 5, 13, 14, 15, 16, 17, 18, 19, 20, 21, 22, 23, 24, 25, 26, 27, 28, 1, 29, 30, 31, 32, 33, 34, 35, 36, 37, 38, 39, 40, 41, 42, 43, 44, 45, 46, 47, 48, 49, 50, 51, 52, 53, 54, 55, 56, 57] (by decide +kernel) (by decide +kernel)
set_option maxRecDepth 20000 in
theorem gX2_bestLook_X2_sunsLeftAtWorst : GoodIn wsX2_bestLook (wsV RX2 284 RX2 yX2_sunsLeftAtWorst wsX2_sunsLeftAtWorst) := goodIn_app (goodIn_of _ (by decide +kernel)) ggX2_bestLook_X2_sunsLeftAtWorst
theorem dX2_bestLook_0 : decode cX2_bestLook 0 = .ok (.iload_n 1, 1) := by decide +kernel
theorem dX2_bestLook_1 : decode cX2_bestLook 1 = .ok (.ifCond .ne 5, 3) := by decide +kernel
theorem dX2_bestLook_4 : decode cX2_bestLook 4 = .ok (.iconst (-1), 1) := by decide +kernel
theorem dX2_bestLook_5 : decode cX2_bestLook 5 = .ok (.ireturn, 1) := by decide +kernel
theorem dX2_bestLook_6 : decode cX2_bestLook 6 = .ok (.iconst 0, 1) := by decide +kernel
theorem dX2_bestLook_7 : decode cX2_bestLook 7 = .ok (.istore_n 2, 1) := by decide +kernel
theorem dX2_bestLook_8 : decode cX2_bestLook 8 = .ok (.iconst 1, 1) := by decide +kernel
theorem dX2_bestLook_9 : decode cX2_bestLook 9 = .ok (.istore_n 3, 1) := by decide +kernel
theorem dX2_bestLook_10 : decode cX2_bestLook 10 = .ok (.iload_n 3, 1) := by decide +kernel
theorem dX2_bestLook_11 : decode cX2_bestLook 11 = .ok (.aload_n 0, 1) := by decide +kernel
theorem dX2_bestLook_12 : decode cX2_bestLook 12 = .ok (.getfield 39, 3) := by decide +kernel
theorem dX2_bestLook_15 : decode cX2_bestLook 15 = .ok (.if_icmp .ge 26, 3) := by decide +kernel
theorem dX2_bestLook_18 : decode cX2_bestLook 18 = .ok (.aload_n 0, 1) := by decide +kernel
theorem dX2_bestLook_19 : decode cX2_bestLook 19 = .ok (.iload_n 3, 1) := by decide +kernel
theorem dX2_bestLook_20 : decode cX2_bestLook 20 = .ok (.iload_n 1, 1) := by decide +kernel
theorem dX2_bestLook_21 : decode cX2_bestLook 21 = .ok (.invokevirtual 284, 3) := by decide +kernel
theorem dX2_bestLook_24 : decode cX2_bestLook 24 = .ok (.aload_n 0, 1) := by decide +kernel
theorem dX2_bestLook_25 : decode cX2_bestLook 25 = .ok (.iload_n 2, 1) := by decide +kernel
theorem dX2_bestLook_26 : decode cX2_bestLook 26 = .ok (.iload_n 1, 1) := by decide +kernel
theorem dX2_bestLook_27 : decode cX2_bestLook 27 = .ok (.invokevirtual 284, 3) := by decide +kernel
theorem dX2_bestLook_30 : decode cX2_bestLook 30 = .ok (.if_icmp .ge 5, 3) := by decide +kernel
theorem dX2_bestLook_33 : decode cX2_bestLook 33 = .ok (.iload_n 3, 1) := by decide +kernel
theorem dX2_bestLook_34 : decode cX2_bestLook 34 = .ok (.istore_n 2, 1) := by decide +kernel
theorem dX2_bestLook_35 : decode cX2_bestLook 35 = .ok (.iinc 3 1, 3) := by decide +kernel
theorem dX2_bestLook_38 : decode cX2_bestLook 38 = .ok (.goto (-28), 3) := by decide +kernel
theorem dX2_bestLook_41 : decode cX2_bestLook 41 = .ok (.iload_n 2, 1) := by decide +kernel
theorem dX2_bestLook_42 : decode cX2_bestLook 42 = .ok (.ireturn, 1) := by decide +kernel
set_option maxRecDepth 20000 in
theorem ggX2_sunsLeftAtWorst_X2_hasBit : GoodIn wsX2_sunsLeftAtWorst wsX2_hasBit := goodIn_r _ [8] (by decide +kernel) (by decide +kernel)
set_option maxRecDepth 20000 in
theorem gX2_sunsLeftAtWorst_X2_hasBit : GoodIn wsX2_sunsLeftAtWorst (va_wsS RX2 260 yX2_hasBit wsX2_hasBit) := goodIn_app (goodIn_of _ (by decide +kernel)) ggX2_sunsLeftAtWorst_X2_hasBit
set_option maxRecDepth 20000 in
theorem ggX2_sunsLeftAtWorst_X2_sunsLikeThis : GoodIn wsX2_sunsLeftAtWorst wsX2_sunsLikeThis := goodIn_r _ [12, 13, 14, 15, 7, 16, 17, 18, 19, 20, 21, 22, 23, 24, 25, 26, 27, 28, 29, 30, 5, 6, 8, 31, 32, 33, 34, 35, 36, 37, 38, 39, 40, 41, 42, 43, 44, 45, 46, 47, 48, 49, 50, 51, 52, 53] (by decide +kernel) (by decide +kernel)
set_option maxRecDepth 20000 in
theorem gX2_sunsLeftAtWorst_X2_sunsLikeThis : GoodIn wsX2_sunsLeftAtWorst (wsV RX2 287 RX2 yX2_sunsLikeThis wsX2_sunsLikeThis) := goodIn_app (goodIn_of _ (by decide +kernel)) ggX2_sunsLeftAtWorst_X2_sunsLikeThis
theorem dX2_sunsLeftAtWorst_0 : decode cX2_sunsLeftAtWorst 0 = .ok (.iconst 0, 1) := by decide +kernel
theorem dX2_sunsLeftAtWorst_1 : decode cX2_sunsLeftAtWorst 1 = .ok (.istore_n 3, 1) := by decide +kernel
theorem dX2_sunsLeftAtWorst_2 : decode cX2_sunsLeftAtWorst 2 = .ok (.iconst 0, 1) := by decide +kernel
theorem dX2_sunsLeftAtWorst_3 : decode cX2_sunsLeftAtWorst 3 = .ok (.istore 4, 2) := by decide +kernel
theorem dX2_sunsLeftAtWorst_5 : decode cX2_sunsLeftAtWorst 5 = .ok (.iload 4, 2) := by decide +kernel
theorem dX2_sunsLeftAtWorst_7 : decode cX2_sunsLeftAtWorst 7 = .ok (.bipush 9, 2) := by decide +kernel
theorem dX2_sunsLeftAtWorst_9 : decode cX2_sunsLeftAtWorst 9 = .ok (.if_icmp .gt 31, 3) := by decide +kernel
theorem dX2_sunsLeftAtWorst_12 : decode cX2_sunsLeftAtWorst 12 = .ok (.iload_n 2, 1) := by decide +kernel
theorem dX2_sunsLeftAtWorst_13 : decode cX2_sunsLeftAtWorst 13 = .ok (.iload 4, 2) := by decide +kernel
theorem dX2_sunsLeftAtWorst_15 : decode cX2_sunsLeftAtWorst 15 = .ok (.invokestatic 260, 3) := by decide +kernel
theorem dX2_sunsLeftAtWorst_18 : decode cX2_sunsLeftAtWorst 18 = .ok (.ifCond .eq 16, 3) := by decide +kernel
theorem dX2_sunsLeftAtWorst_21 : decode cX2_sunsLeftAtWorst 21 = .ok (.iload_n 3, 1) := by decide +kernel
theorem dX2_sunsLeftAtWorst_22 : decode cX2_sunsLeftAtWorst 22 = .ok (.aload_n 0, 1) := by decide +kernel
theorem dX2_sunsLeftAtWorst_23 : decode cX2_sunsLeftAtWorst 23 = .ok (.iload_n 1, 1) := by decide +kernel
theorem dX2_sunsLeftAtWorst_24 : decode cX2_sunsLeftAtWorst 24 = .ok (.iload 4, 2) := by decide +kernel
theorem dX2_sunsLeftAtWorst_26 : decode cX2_sunsLeftAtWorst 26 = .ok (.iload_n 2, 1) := by decide +kernel
theorem dX2_sunsLeftAtWorst_27 : decode cX2_sunsLeftAtWorst 27 = .ok (.invokevirtual 287, 3) := by decide +kernel
theorem dX2_sunsLeftAtWorst_30 : decode cX2_sunsLeftAtWorst 30 = .ok (.invokestatic 254, 3) := by decide +kernel
theorem dX2_sunsLeftAtWorst_33 : decode cX2_sunsLeftAtWorst 33 = .ok (.istore_n 3, 1) := by decide +kernel
theorem dX2_sunsLeftAtWorst_34 : decode cX2_sunsLeftAtWorst 34 = .ok (.iinc 4 1, 3) := by decide +kernel
theorem dX2_sunsLeftAtWorst_37 : decode cX2_sunsLeftAtWorst 37 = .ok (.goto (-32), 3) := by decide +kernel
theorem dX2_sunsLeftAtWorst_40 : decode cX2_sunsLeftAtWorst 40 = .ok (.iload_n 3, 1) := by decide +kernel
theorem dX2_sunsLeftAtWorst_41 : decode cX2_sunsLeftAtWorst 41 = .ok (.ireturn, 1) := by decide +kernel
set_option maxRecDepth 20000 in
theorem ggX2_sunsLikeThis_X2_leftOfDeepest : GoodIn wsX2_sunsLikeThis wsX2_leftOfDeepest := goodIn_r _ [5, 6, 7, 8, 9, 10, 11, 4, 12, 13, 14, 15, 16, 17, 18, 19, 23, 24, 25, 26, 27, 28, 29, 30, 31, 32, 33, 34, 35, 36, 37, 38, 39, 40, 41, 42, 43, 44, 45] (by decide +kernel) (by decide +kernel)
set_option maxRecDepth 20000 in
theorem gX2_sunsLikeThis_X2_leftOfDeepest : GoodIn wsX2_sunsLikeThis (wsV RX2 290 RX2 yX2_leftOfDeepest wsX2_leftOfDeepest) := goodIn_app (goodIn_of _ (by decide +kernel)) ggX2_sunsLikeThis_X2_leftOfDeepest
set_option maxRecDepth 20000 in
theorem ggX2_sunsLikeThis_X2_hasBit : GoodIn wsX2_sunsLikeThis wsX2_hasBit := goodIn_r _ [22] (by decide +kernel) (by decide +kernel)
set_option maxRecDepth 20000 in
theorem gX2_sunsLikeThis_X2_hasBit : GoodIn wsX2_sunsLikeThis (va_wsS RX2 260 yX2_hasBit wsX2_hasBit) := goodIn_app (goodIn_of _ (by decide +kernel)) ggX2_sunsLikeThis_X2_hasBit
theorem dX2_sunsLikeThis_0 : decode cX2_sunsLikeThis 0 = .ok (.aload_n 0, 1) := by decide +kernel
theorem dX2_sunsLikeThis_1 : decode cX2_sunsLikeThis 1 = .ok (.iload_n 1, 1) := by decide +kernel
theorem dX2_sunsLikeThis_2 : decode cX2_sunsLikeThis 2 = .ok (.iload_n 2, 1) := by decide +kernel
theorem dX2_sunsLikeThis_3 : decode cX2_sunsLikeThis 3 = .ok (.invokevirtual 290, 3) := by decide +kernel
theorem dX2_sunsLikeThis_6 : decode cX2_sunsLikeThis 6 = .ok (.istore 4, 2) := by decide +kernel
theorem dX2_sunsLikeThis_8 : decode cX2_sunsLikeThis 8 = .ok (.iconst 0, 1) := by decide +kernel
theorem dX2_sunsLikeThis_9 : decode cX2_sunsLikeThis 9 = .ok (.istore 5, 2) := by decide +kernel
theorem dX2_sunsLikeThis_11 : decode cX2_sunsLikeThis 11 = .ok (.iconst 0, 1) := by decide +kernel
theorem dX2_sunsLikeThis_12 : decode cX2_sunsLikeThis 12 = .ok (.istore 6, 2) := by decide +kernel
theorem dX2_sunsLikeThis_14 : decode cX2_sunsLikeThis 14 = .ok (.iload 6, 2) := by decide +kernel
theorem dX2_sunsLikeThis_16 : decode cX2_sunsLikeThis 16 = .ok (.bipush 9, 2) := by decide +kernel
theorem dX2_sunsLikeThis_18 : decode cX2_sunsLikeThis 18 = .ok (.if_icmp .gt 33, 3) := by decide +kernel
theorem dX2_sunsLikeThis_21 : decode cX2_sunsLikeThis 21 = .ok (.iload_n 3, 1) := by decide +kernel
theorem dX2_sunsLikeThis_22 : decode cX2_sunsLikeThis 22 = .ok (.iload 6, 2) := by decide +kernel
theorem dX2_sunsLikeThis_24 : decode cX2_sunsLikeThis 24 = .ok (.invokestatic 260, 3) := by decide +kernel
theorem dX2_sunsLikeThis_27 : decode cX2_sunsLikeThis 27 = .ok (.ifCond .eq 18, 3) := by decide +kernel
theorem dX2_sunsLikeThis_30 : decode cX2_sunsLikeThis 30 = .ok (.aload_n 0, 1) := by decide +kernel
theorem dX2_sunsLikeThis_31 : decode cX2_sunsLikeThis 31 = .ok (.iload_n 1, 1) := by decide +kernel
theorem dX2_sunsLikeThis_32 : decode cX2_sunsLikeThis 32 = .ok (.iload 6, 2) := by decide +kernel
theorem dX2_sunsLikeThis_34 : decode cX2_sunsLikeThis 34 = .ok (.invokevirtual 290, 3) := by decide +kernel
theorem dX2_sunsLikeThis_37 : decode cX2_sunsLikeThis 37 = .ok (.iload 4, 2) := by decide +kernel
theorem dX2_sunsLikeThis_39 : decode cX2_sunsLikeThis 39 = .ok (.if_icmp .ne 6, 3) := by decide +kernel
theorem dX2_sunsLikeThis_42 : decode cX2_sunsLikeThis 42 = .ok (.iinc 5 1, 3) := by decide +kernel
theorem dX2_sunsLikeThis_45 : decode cX2_sunsLikeThis 45 = .ok (.iinc 6 1, 3) := by decide +kernel
theorem dX2_sunsLikeThis_48 : decode cX2_sunsLikeThis 48 = .ok (.goto (-34), 3) := by decide +kernel
theorem dX2_sunsLikeThis_51 : decode cX2_sunsLikeThis 51 = .ok (.iload 5, 2) := by decide +kernel
theorem dX2_sunsLikeThis_53 : decode cX2_sunsLikeThis 53 = .ok (.ireturn, 1) := by decide +kernel
set_option maxRecDepth 20000 in
theorem ggX2_leftOfDeepest_X2_isSite : GoodIn wsX2_leftOfDeepest wsX2_isSite := goodIn_r _ [8, 9, 16, 17, 18, 19, 20, 21, 22, 23, 24, 25] (by decide +kernel) (by decide +kernel)
set_option maxRecDepth 20000 in
theorem gX2_leftOfDeepest_X2_isSite : GoodIn wsX2_leftOfDeepest (wsV RX2 89 RX2 yX2_isSite wsX2_isSite) := goodIn_app (goodIn_of _ (by decide +kernel)) ggX2_leftOfDeepest_X2_isSite
set_option maxRecDepth 20000 in
theorem ggX2_leftOfDeepest_X2_melting : GoodIn wsX2_leftOfDeepest wsX2_melting := goodIn_r _ [12] (by decide +kernel) (by decide +kernel)
set_option maxRecDepth 20000 in
theorem gX2_leftOfDeepest_X2_melting : GoodIn wsX2_leftOfDeepest (va_wsS RX2 243 yX2_melting wsX2_melting) := goodIn_app (goodIn_of _ (by decide +kernel)) ggX2_leftOfDeepest_X2_melting
set_option maxRecDepth 20000 in
theorem ggX2_leftOfDeepest_X2_leftOf : GoodIn wsX2_leftOfDeepest wsX2_leftOf := goodIn_r _ [15] (by decide +kernel) (by decide +kernel)
set_option maxRecDepth 20000 in
theorem gX2_leftOfDeepest_X2_leftOf : GoodIn wsX2_leftOfDeepest (va_wsS RX2 251 yX2_leftOf wsX2_leftOf) := goodIn_app (goodIn_of _ (by decide +kernel)) ggX2_leftOfDeepest_X2_leftOf
theorem dX2_leftOfDeepest_0 : decode cX2_leftOfDeepest 0 = .ok (.aload_n 0, 1) := by decide +kernel
theorem dX2_leftOfDeepest_1 : decode cX2_leftOfDeepest 1 = .ok (.iload_n 1, 1) := by decide +kernel
theorem dX2_leftOfDeepest_2 : decode cX2_leftOfDeepest 2 = .ok (.invokevirtual 89, 3) := by decide +kernel
theorem dX2_leftOfDeepest_5 : decode cX2_leftOfDeepest 5 = .ok (.ifCond .ne 5, 3) := by decide +kernel
theorem dX2_leftOfDeepest_8 : decode cX2_leftOfDeepest 8 = .ok (.iconst 0, 1) := by decide +kernel
theorem dX2_leftOfDeepest_9 : decode cX2_leftOfDeepest 9 = .ok (.ireturn, 1) := by decide +kernel
theorem dX2_leftOfDeepest_10 : decode cX2_leftOfDeepest 10 = .ok (.bipush 30, 2) := by decide +kernel
theorem dX2_leftOfDeepest_12 : decode cX2_leftOfDeepest 12 = .ok (.aload_n 0, 1) := by decide +kernel
theorem dX2_leftOfDeepest_13 : decode cX2_leftOfDeepest 13 = .ok (.getfield 16, 3) := by decide +kernel
theorem dX2_leftOfDeepest_16 : decode cX2_leftOfDeepest 16 = .ok (.iload_n 1, 1) := by decide +kernel
theorem dX2_leftOfDeepest_17 : decode cX2_leftOfDeepest 17 = .ok (.iaload, 1) := by decide +kernel
theorem dX2_leftOfDeepest_18 : decode cX2_leftOfDeepest 18 = .ok (.iload_n 2, 1) := by decide +kernel
theorem dX2_leftOfDeepest_19 : decode cX2_leftOfDeepest 19 = .ok (.aload_n 0, 1) := by decide +kernel
theorem dX2_leftOfDeepest_20 : decode cX2_leftOfDeepest 20 = .ok (.getfield 26, 3) := by decide +kernel
theorem dX2_leftOfDeepest_23 : decode cX2_leftOfDeepest 23 = .ok (.getfield 95, 3) := by decide +kernel
theorem dX2_leftOfDeepest_26 : decode cX2_leftOfDeepest 26 = .ok (.iload_n 1, 1) := by decide +kernel
theorem dX2_leftOfDeepest_27 : decode cX2_leftOfDeepest 27 = .ok (.iaload, 1) := by decide +kernel
theorem dX2_leftOfDeepest_28 : decode cX2_leftOfDeepest 28 = .ok (.invokestatic 243, 3) := by decide +kernel
theorem dX2_leftOfDeepest_31 : decode cX2_leftOfDeepest 31 = .ok (.invokestatic 251, 3) := by decide +kernel
theorem dX2_leftOfDeepest_34 : decode cX2_leftOfDeepest 34 = .ok (.ireturn, 1) := by decide +kernel
end
section
theorem dX3_init_0 : decode cX3_init 0 = .ok (.aload_n 0, 1) := by decide +kernel
theorem dX3_init_1 : decode cX3_init 1 = .ok (.invokespecial 1, 3) := by decide +kernel
theorem dX3_init_4 : decode cX3_init 4 = .ok (.aload_n 0, 1) := by decide +kernel
theorem dX3_init_5 : decode cX3_init 5 = .ok (.bipush 6, 2) := by decide +kernel
theorem dX3_init_7 : decode cX3_init 7 = .ok (.newarray .int, 2) := by decide +kernel
theorem dX3_init_9 : decode cX3_init 9 = .ok (.putfield 7, 3) := by decide +kernel
theorem dX3_init_12 : decode cX3_init 12 = .ok (.aload_n 0, 1) := by decide +kernel
theorem dX3_init_13 : decode cX3_init 13 = .ok (.bipush 6, 2) := by decide +kernel
theorem dX3_init_15 : decode cX3_init 15 = .ok (.newarray .int, 2) := by decide +kernel
theorem dX3_init_17 : decode cX3_init 17 = .ok (.putfield 13, 3) := by decide +kernel
theorem dX3_init_20 : decode cX3_init 20 = .ok (.aload_n 0, 1) := by decide +kernel
theorem dX3_init_21 : decode cX3_init 21 = .ok (.bipush 6, 2) := by decide +kernel
theorem dX3_init_23 : decode cX3_init 23 = .ok (.newarray .int, 2) := by decide +kernel
theorem dX3_init_25 : decode cX3_init 25 = .ok (.putfield 16, 3) := by decide +kernel
theorem dX3_init_28 : decode cX3_init 28 = .ok (.aload_n 0, 1) := by decide +kernel
theorem dX3_init_29 : decode cX3_init 29 = .ok (.bipush 6, 2) := by decide +kernel
theorem dX3_init_31 : decode cX3_init 31 = .ok (.newarray .int, 2) := by decide +kernel
theorem dX3_init_33 : decode cX3_init 33 = .ok (.putfield 19, 3) := by decide +kernel
theorem dX3_init_36 : decode cX3_init 36 = .ok (.aload_n 0, 1) := by decide +kernel
theorem dX3_init_37 : decode cX3_init 37 = .ok (.bipush 6, 2) := by decide +kernel
theorem dX3_init_39 : decode cX3_init 39 = .ok (.newarray .int, 2) := by decide +kernel
theorem dX3_init_41 : decode cX3_init 41 = .ok (.putfield 22, 3) := by decide +kernel
theorem dX3_init_44 : decode cX3_init 44 = .ok (.aload_n 0, 1) := by decide +kernel
theorem dX3_init_45 : decode cX3_init 45 = .ok (.bipush 6, 2) := by decide +kernel
theorem dX3_init_47 : decode cX3_init 47 = .ok (.newarray .int, 2) := by decide +kernel
theorem dX3_init_49 : decode cX3_init 49 = .ok (.putfield 25, 3) := by decide +kernel
theorem dX3_init_52 : decode cX3_init 52 = .ok (.aload_n 0, 1) := by decide +kernel
theorem dX3_init_53 : decode cX3_init 53 = .ok (.bipush 6, 2) := by decide +kernel
theorem dX3_init_55 : decode cX3_init 55 = .ok (.newarray .int, 2) := by decide +kernel
theorem dX3_init_57 : decode cX3_init 57 = .ok (.putfield 28, 3) := by decide +kernel
theorem dX3_init_60 : decode cX3_init 60 = .ok (.aload_n 0, 1) := by decide +kernel
theorem dX3_init_61 : decode cX3_init 61 = .ok (.bipush 6, 2) := by decide +kernel
theorem dX3_init_63 : decode cX3_init 63 = .ok (.newarray .int, 2) := by decide +kernel
theorem dX3_init_65 : decode cX3_init 65 = .ok (.putfield 31, 3) := by decide +kernel
theorem dX3_init_68 : decode cX3_init 68 = .ok (.aload_n 0, 1) := by decide +kernel
theorem dX3_init_69 : decode cX3_init 69 = .ok (.bipush 6, 2) := by decide +kernel
theorem dX3_init_71 : decode cX3_init 71 = .ok (.newarray .int, 2) := by decide +kernel
theorem dX3_init_73 : decode cX3_init 73 = .ok (.putfield 34, 3) := by decide +kernel
theorem dX3_init_76 : decode cX3_init 76 = .ok (.aload_n 0, 1) := by decide +kernel
theorem dX3_init_77 : decode cX3_init 77 = .ok (.bipush 21, 2) := by decide +kernel
theorem dX3_init_79 : decode cX3_init 79 = .ok (.newarray .byte, 2) := by decide +kernel
theorem dX3_init_81 : decode cX3_init 81 = .ok (.putfield 37, 3) := by decide +kernel
theorem dX3_init_84 : decode cX3_init 84 = .ok (.aload_n 0, 1) := by decide +kernel
theorem dX3_init_85 : decode cX3_init 85 = .ok (.bipush 6, 2) := by decide +kernel
theorem dX3_init_87 : decode cX3_init 87 = .ok (.newarray .int, 2) := by decide +kernel
theorem dX3_init_89 : decode cX3_init 89 = .ok (.putfield 41, 3) := by decide +kernel
theorem dX3_init_92 : decode cX3_init 92 = .ok (.aload_n 0, 1) := by decide +kernel
theorem dX3_init_93 : decode cX3_init 93 = .ok (.bipush 6, 2) := by decide +kernel
theorem dX3_init_95 : decode cX3_init 95 = .ok (.newarray .int, 2) := by decide +kernel
theorem dX3_init_97 : decode cX3_init 97 = .ok (.putfield 44, 3) := by decide +kernel
theorem dX3_init_100 : decode cX3_init 100 = .ok (.aload_n 0, 1) := by decide +kernel
theorem dX3_init_101 : decode cX3_init 101 = .ok (.bipush 6, 2) := by decide +kernel
theorem dX3_init_103 : decode cX3_init 103 = .ok (.newarray .int, 2) := by decide +kernel
theorem dX3_init_105 : decode cX3_init 105 = .ok (.putfield 47, 3) := by decide +kernel
theorem dX3_init_108 : decode cX3_init 108 = .ok (.aload_n 0, 1) := by decide +kernel
theorem dX3_init_109 : decode cX3_init 109 = .ok (.bipush 6, 2) := by decide +kernel
theorem dX3_init_111 : decode cX3_init 111 = .ok (.newarray .int, 2) := by decide +kernel
theorem dX3_init_113 : decode cX3_init 113 = .ok (.putfield 50, 3) := by decide +kernel
theorem dX3_init_116 : decode cX3_init 116 = .ok (.aload_n 0, 1) := by decide +kernel
theorem dX3_init_117 : decode cX3_init 117 = .ok (.bipush 6, 2) := by decide +kernel
theorem dX3_init_119 : decode cX3_init 119 = .ok (.newarray .int, 2) := by decide +kernel
theorem dX3_init_121 : decode cX3_init 121 = .ok (.putfield 53, 3) := by decide +kernel
theorem dX3_init_124 : decode cX3_init 124 = .ok (.aload_n 0, 1) := by decide +kernel
theorem dX3_init_125 : decode cX3_init 125 = .ok (.bipush 6, 2) := by decide +kernel
theorem dX3_init_127 : decode cX3_init 127 = .ok (.newarray .int, 2) := by decide +kernel
theorem dX3_init_129 : decode cX3_init 129 = .ok (.putfield 56, 3) := by decide +kernel
theorem dX3_init_132 : decode cX3_init 132 = .ok (.aload_n 0, 1) := by decide +kernel
theorem dX3_init_133 : decode cX3_init 133 = .ok (.bipush 6, 2) := by decide +kernel
theorem dX3_init_135 : decode cX3_init 135 = .ok (.newarray .int, 2) := by decide +kernel
theorem dX3_init_137 : decode cX3_init 137 = .ok (.putfield 59, 3) := by decide +kernel
theorem dX3_init_140 : decode cX3_init 140 = .ok (.aload_n 0, 1) := by decide +kernel
theorem dX3_init_141 : decode cX3_init 141 = .ok (.bipush 6, 2) := by decide +kernel
theorem dX3_init_143 : decode cX3_init 143 = .ok (.newarray .int, 2) := by decide +kernel
theorem dX3_init_145 : decode cX3_init 145 = .ok (.putfield 62, 3) := by decide +kernel
theorem dX3_init_148 : decode cX3_init 148 = .ok (.aload_n 0, 1) := by decide +kernel
theorem dX3_init_149 : decode cX3_init 149 = .ok (.bipush 6, 2) := by decide +kernel
theorem dX3_init_151 : decode cX3_init 151 = .ok (.newarray .int, 2) := by decide +kernel
theorem dX3_init_153 : decode cX3_init 153 = .ok (.putfield 65, 3) := by decide +kernel
theorem dX3_init_156 : decode cX3_init 156 = .ok (.return_, 1) := by decide +kernel
theorem dX3_within_0 : decode cX3_within 0 = .ok (.iload_n 0, 1) := by decide +kernel
theorem dX3_within_1 : decode cX3_within 1 = .ok (.iload_n 1, 1) := by decide +kernel
theorem dX3_within_2 : decode cX3_within 2 = .ok (.if_icmp .lt 12, 3) := by decide +kernel
theorem dX3_within_5 : decode cX3_within 5 = .ok (.iload_n 0, 1) := by decide +kernel
theorem dX3_within_6 : decode cX3_within 6 = .ok (.iload_n 2, 1) := by decide +kernel
theorem dX3_within_7 : decode cX3_within 7 = .ok (.if_icmp .gt 7, 3) := by decide +kernel
theorem dX3_within_10 : decode cX3_within 10 = .ok (.iconst 1, 1) := by decide +kernel
theorem dX3_within_11 : decode cX3_within 11 = .ok (.goto 4, 3) := by decide +kernel
theorem dX3_within_14 : decode cX3_within 14 = .ok (.iconst 0, 1) := by decide +kernel
theorem dX3_within_15 : decode cX3_within 15 = .ok (.ireturn, 1) := by decide +kernel
theorem dX3_isIn_0 : decode cX3_isIn 0 = .ok (.iload_n 0, 1) := by decide +kernel
theorem dX3_isIn_1 : decode cX3_isIn 1 = .ok (.iload_n 1, 1) := by decide +kernel
theorem dX3_isIn_2 : decode cX3_isIn 2 = .ok (.ishr, 1) := by decide +kernel
theorem dX3_isIn_3 : decode cX3_isIn 3 = .ok (.iconst 1, 1) := by decide +kernel
theorem dX3_isIn_4 : decode cX3_isIn 4 = .ok (.iand, 1) := by decide +kernel
theorem dX3_isIn_5 : decode cX3_isIn 5 = .ok (.iconst 1, 1) := by decide +kernel
theorem dX3_isIn_6 : decode cX3_isIn 6 = .ok (.if_icmp .ne 7, 3) := by decide +kernel
theorem dX3_isIn_9 : decode cX3_isIn 9 = .ok (.iconst 1, 1) := by decide +kernel
theorem dX3_isIn_10 : decode cX3_isIn 10 = .ok (.goto 4, 3) := by decide +kernel
theorem dX3_isIn_13 : decode cX3_isIn 13 = .ok (.iconst 0, 1) := by decide +kernel
theorem dX3_isIn_14 : decode cX3_isIn 14 = .ok (.ireturn, 1) := by decide +kernel
theorem dX3_size_0 : decode cX3_size 0 = .ok (.iconst 0, 1) := by decide +kernel
theorem dX3_size_1 : decode cX3_size 1 = .ok (.istore_n 1, 1) := by decide +kernel
theorem dX3_size_2 : decode cX3_size 2 = .ok (.iconst 0, 1) := by decide +kernel
theorem dX3_size_3 : decode cX3_size 3 = .ok (.istore_n 2, 1) := by decide +kernel
theorem dX3_size_4 : decode cX3_size 4 = .ok (.iload_n 2, 1) := by decide +kernel
theorem dX3_size_5 : decode cX3_size 5 = .ok (.bipush 10, 2) := by decide +kernel
theorem dX3_size_7 : decode cX3_size 7 = .ok (.if_icmp .ge 17, 3) := by decide +kernel
theorem dX3_size_10 : decode cX3_size 10 = .ok (.iload_n 1, 1) := by decide +kernel
theorem dX3_size_11 : decode cX3_size 11 = .ok (.iload_n 0, 1) := by decide +kernel
theorem dX3_size_12 : decode cX3_size 12 = .ok (.iload_n 2, 1) := by decide +kernel
theorem dX3_size_13 : decode cX3_size 13 = .ok (.ishr, 1) := by decide +kernel
theorem dX3_size_14 : decode cX3_size 14 = .ok (.iconst 1, 1) := by decide +kernel
theorem dX3_size_15 : decode cX3_size 15 = .ok (.iand, 1) := by decide +kernel
theorem dX3_size_16 : decode cX3_size 16 = .ok (.iadd, 1) := by decide +kernel
theorem dX3_size_17 : decode cX3_size 17 = .ok (.istore_n 1, 1) := by decide +kernel
theorem dX3_size_18 : decode cX3_size 18 = .ok (.iinc 2 1, 3) := by decide +kernel
theorem dX3_size_21 : decode cX3_size 21 = .ok (.goto (-17), 3) := by decide +kernel
theorem dX3_size_24 : decode cX3_size 24 = .ok (.iload_n 1, 1) := by decide +kernel
theorem dX3_size_25 : decode cX3_size 25 = .ok (.ireturn, 1) := by decide +kernel
theorem dX3_atMost_0 : decode cX3_atMost 0 = .ok (.iload_n 0, 1) := by decide +kernel
theorem dX3_atMost_1 : decode cX3_atMost 1 = .ok (.bipush 30, 2) := by decide +kernel
theorem dX3_atMost_3 : decode cX3_atMost 3 = .ok (.if_icmp .le 8, 3) := by decide +kernel
theorem dX3_atMost_6 : decode cX3_atMost 6 = .ok (.bipush 30, 2) := by decide +kernel
theorem dX3_atMost_8 : decode cX3_atMost 8 = .ok (.goto 4, 3) := by decide +kernel
theorem dX3_atMost_11 : decode cX3_atMost 11 = .ok (.iload_n 0, 1) := by decide +kernel
theorem dX3_atMost_12 : decode cX3_atMost 12 = .ok (.ireturn, 1) := by decide +kernel
theorem dX3_notBelow_0 : decode cX3_notBelow 0 = .ok (.iload_n 0, 1) := by decide +kernel
theorem dX3_notBelow_1 : decode cX3_notBelow 1 = .ok (.ifCond .ge 7, 3) := by decide +kernel
theorem dX3_notBelow_4 : decode cX3_notBelow 4 = .ok (.iconst 0, 1) := by decide +kernel
theorem dX3_notBelow_5 : decode cX3_notBelow 5 = .ok (.goto 4, 3) := by decide +kernel
theorem dX3_notBelow_8 : decode cX3_notBelow 8 = .ok (.iload_n 0, 1) := by decide +kernel
theorem dX3_notBelow_9 : decode cX3_notBelow 9 = .ok (.ireturn, 1) := by decide +kernel
set_option maxRecDepth 20000 in
theorem ggX3_letter_X3_within : GoodIn wsX3_letter wsX3_within := goodIn_r _ [6] (by decide +kernel) (by decide +kernel)
set_option maxRecDepth 20000 in
theorem gX3_letter_X3_within : GoodIn wsX3_letter (va_wsS RX3 68 yX3_within wsX3_within) := goodIn_app (goodIn_of _ (by decide +kernel)) ggX3_letter_X3_within
theorem dX3_letter_0 : decode cX3_letter 0 = .ok (.iload_n 1, 1) := by decide +kernel
theorem dX3_letter_1 : decode cX3_letter 1 = .ok (.bipush 32, 2) := by decide +kernel
theorem dX3_letter_3 : decode cX3_letter 3 = .ok (.bipush 126, 2) := by decide +kernel
theorem dX3_letter_5 : decode cX3_letter 5 = .ok (.invokestatic 68, 3) := by decide +kernel
theorem dX3_letter_8 : decode cX3_letter 8 = .ok (.ifCond .ne 6, 3) := by decide +kernel
theorem dX3_letter_11 : decode cX3_letter 11 = .ok (.bipush (-102), 2) := by decide +kernel
theorem dX3_letter_13 : decode cX3_letter 13 = .ok (.ireturn, 1) := by decide +kernel
theorem dX3_letter_14 : decode cX3_letter 14 = .ok (.aload_n 0, 1) := by decide +kernel
theorem dX3_letter_15 : decode cX3_letter 15 = .ok (.getfield 72, 3) := by decide +kernel
theorem dX3_letter_18 : decode cX3_letter 18 = .ok (.bipush 21, 2) := by decide +kernel
theorem dX3_letter_20 : decode cX3_letter 20 = .ok (.if_icmp .ne 6, 3) := by decide +kernel
theorem dX3_letter_23 : decode cX3_letter 23 = .ok (.bipush (-104), 2) := by decide +kernel
theorem dX3_letter_25 : decode cX3_letter 25 = .ok (.ireturn, 1) := by decide +kernel
theorem dX3_letter_26 : decode cX3_letter 26 = .ok (.aload_n 0, 1) := by decide +kernel
theorem dX3_letter_27 : decode cX3_letter 27 = .ok (.getfield 37, 3) := by decide +kernel
theorem dX3_letter_30 : decode cX3_letter 30 = .ok (.aload_n 0, 1) := by decide +kernel
theorem dX3_letter_31 : decode cX3_letter 31 = .ok (.getfield 72, 3) := by decide +kernel
theorem dX3_letter_34 : decode cX3_letter 34 = .ok (.iload_n 1, 1) := by decide +kernel
theorem dX3_letter_35 : decode cX3_letter 35 = .ok (.i2b, 1) := by decide +kernel
theorem dX3_letter_36 : decode cX3_letter 36 = .ok (.bastore, 1) := by decide +kernel
theorem dX3_letter_37 : decode cX3_letter 37 = .ok (.aload_n 0, 1) := by decide +kernel
theorem dX3_letter_38 : decode cX3_letter 38 = .ok (.dup, 1) := by decide +kernel
theorem dX3_letter_39 : decode cX3_letter 39 = .ok (.getfield 72, 3) := by decide +kernel
theorem dX3_letter_42 : decode cX3_letter 42 = .ok (.iconst 1, 1) := by decide +kernel
theorem dX3_letter_43 : decode cX3_letter 43 = .ok (.iadd, 1) := by decide +kernel
theorem dX3_letter_44 : decode cX3_letter 44 = .ok (.putfield 72, 3) := by decide +kernel
theorem dX3_letter_47 : decode cX3_letter 47 = .ok (.aload_n 0, 1) := by decide +kernel
theorem dX3_letter_48 : decode cX3_letter 48 = .ok (.getfield 72, 3) := by decide +kernel
theorem dX3_letter_51 : decode cX3_letter 51 = .ok (.ireturn, 1) := by decide +kernel
theorem dX3_blank_0 : decode cX3_blank 0 = .ok (.aload_n 0, 1) := by decide +kernel
theorem dX3_blank_1 : decode cX3_blank 1 = .ok (.getfield 72, 3) := by decide +kernel
theorem dX3_blank_4 : decode cX3_blank 4 = .ok (.istore_n 1, 1) := by decide +kernel
theorem dX3_blank_5 : decode cX3_blank 5 = .ok (.aload_n 0, 1) := by decide +kernel
theorem dX3_blank_6 : decode cX3_blank 6 = .ok (.iconst 0, 1) := by decide +kernel
theorem dX3_blank_7 : decode cX3_blank 7 = .ok (.putfield 72, 3) := by decide +kernel
theorem dX3_blank_10 : decode cX3_blank 10 = .ok (.iload_n 1, 1) := by decide +kernel
theorem dX3_blank_11 : decode cX3_blank 11 = .ok (.ireturn, 1) := by decide +kernel
theorem dX3_kindBy_0 : decode cX3_kindBy 0 = .ok (.iload_n 0, 1) := by decide +kernel
theorem dX3_kindBy_1 : decode cX3_kindBy 1 = .ok (.lookupswitch 61 #[(98, 57), (103, 55), (115, 51), (116, 59), (121, 53)], 51) := by decide +kernel
theorem dX3_kindBy_52 : decode cX3_kindBy 52 = .ok (.iconst 0, 1) := by decide +kernel
theorem dX3_kindBy_53 : decode cX3_kindBy 53 = .ok (.ireturn, 1) := by decide +kernel
theorem dX3_kindBy_54 : decode cX3_kindBy 54 = .ok (.iconst 1, 1) := by decide +kernel
theorem dX3_kindBy_55 : decode cX3_kindBy 55 = .ok (.ireturn, 1) := by decide +kernel
theorem dX3_kindBy_56 : decode cX3_kindBy 56 = .ok (.iconst 2, 1) := by decide +kernel
theorem dX3_kindBy_57 : decode cX3_kindBy 57 = .ok (.ireturn, 1) := by decide +kernel
theorem dX3_kindBy_58 : decode cX3_kindBy 58 = .ok (.iconst 3, 1) := by decide +kernel
theorem dX3_kindBy_59 : decode cX3_kindBy 59 = .ok (.ireturn, 1) := by decide +kernel
theorem dX3_kindBy_60 : decode cX3_kindBy 60 = .ok (.iconst 4, 1) := by decide +kernel
theorem dX3_kindBy_61 : decode cX3_kindBy 61 = .ok (.ireturn, 1) := by decide +kernel
theorem dX3_kindBy_62 : decode cX3_kindBy 62 = .ok (.iconst (-1), 1) := by decide +kernel
theorem dX3_kindBy_63 : decode cX3_kindBy 63 = .ok (.ireturn, 1) := by decide +kernel
theorem dX3_figure_0 : decode cX3_figure 0 = .ok (.iload_n 1, 1) := by decide +kernel
theorem dX3_figure_1 : decode cX3_figure 1 = .ok (.aload_n 0, 1) := by decide +kernel
theorem dX3_figure_2 : decode cX3_figure 2 = .ok (.getfield 72, 3) := by decide +kernel
theorem dX3_figure_5 : decode cX3_figure 5 = .ok (.if_icmp .ge 15, 3) := by decide +kernel
theorem dX3_figure_8 : decode cX3_figure 8 = .ok (.aload_n 0, 1) := by decide +kernel
theorem dX3_figure_9 : decode cX3_figure 9 = .ok (.getfield 37, 3) := by decide +kernel
theorem dX3_figure_12 : decode cX3_figure 12 = .ok (.iload_n 1, 1) := by decide +kernel
theorem dX3_figure_13 : decode cX3_figure 13 = .ok (.baload, 1) := by decide +kernel
theorem dX3_figure_14 : decode cX3_figure 14 = .ok (.bipush 48, 2) := by decide +kernel
theorem dX3_figure_16 : decode cX3_figure 16 = .ok (.isub, 1) := by decide +kernel
theorem dX3_figure_17 : decode cX3_figure 17 = .ok (.goto 4, 3) := by decide +kernel
theorem dX3_figure_20 : decode cX3_figure 20 = .ok (.iconst (-1), 1) := by decide +kernel
theorem dX3_figure_21 : decode cX3_figure 21 = .ok (.ireturn, 1) := by decide +kernel
set_option maxRecDepth 20000 in
theorem ggX3_read_X3_kindBy : GoodIn wsX3_read wsX3_kindBy := goodIn_r _ [8] (by decide +kernel) (by decide +kernel)
set_option maxRecDepth 20000 in
theorem gX3_read_X3_kindBy : GoodIn wsX3_read (va_wsS RX3 83 yX3_kindBy wsX3_kindBy) := goodIn_app (goodIn_of _ (by decide +kernel)) ggX3_read_X3_kindBy
set_option maxRecDepth 20000 in
theorem ggX3_read_X3_figure : GoodIn wsX3_read wsX3_figure := goodIn_r _ [12, 3, 4, 16, 17, 18, 19, 20, 21, 22, 23, 24, 25, 26, 27, 28, 29, 30, 31, 32, 33, 34, 35, 36, 37, 38, 39, 40, 41, 42, 43, 44, 45, 46, 47, 48, 49, 50, 51, 52, 53, 54, 55] (by decide +kernel) (by decide +kernel)
set_option maxRecDepth 20000 in
theorem gX3_read_X3_figure : GoodIn wsX3_read (wsV RX3 87 RX3 yX3_figure wsX3_figure) := goodIn_app (goodIn_of _ (by decide +kernel)) ggX3_read_X3_figure
set_option maxRecDepth 20000 in
theorem ggX3_read_X3_within : GoodIn wsX3_read wsX3_within := goodIn_r _ [15] (by decide +kernel) (by decide +kernel)
set_option maxRecDepth 20000 in
theorem gX3_read_X3_within : GoodIn wsX3_read (va_wsS RX3 68 yX3_within wsX3_within) := goodIn_app (goodIn_of _ (by decide +kernel)) ggX3_read_X3_within
theorem dX3_read_0 : decode cX3_read 0 = .ok (.aload_n 0, 1) := by decide +kernel
theorem dX3_read_1 : decode cX3_read 1 = .ok (.iconst 0, 1) := by decide +kernel
theorem dX3_read_2 : decode cX3_read 2 = .ok (.putfield 76, 3) := by decide +kernel
theorem dX3_read_5 : decode cX3_read 5 = .ok (.aload_n 0, 1) := by decide +kernel
theorem dX3_read_6 : decode cX3_read 6 = .ok (.iconst 0, 1) := by decide +kernel
theorem dX3_read_7 : decode cX3_read 7 = .ok (.putfield 80, 3) := by decide +kernel
theorem dX3_read_10 : decode cX3_read 10 = .ok (.iconst 0, 1) := by decide +kernel
theorem dX3_read_11 : decode cX3_read 11 = .ok (.istore_n 1, 1) := by decide +kernel
theorem dX3_read_12 : decode cX3_read 12 = .ok (.aload_n 0, 1) := by decide +kernel
theorem dX3_read_13 : decode cX3_read 13 = .ok (.getfield 80, 3) := by decide +kernel
theorem dX3_read_16 : decode cX3_read 16 = .ok (.bipush 6, 2) := by decide +kernel
theorem dX3_read_18 : decode cX3_read 18 = .ok (.if_icmp .ge 183, 3) := by decide +kernel
theorem dX3_read_21 : decode cX3_read 21 = .ok (.iload_n 1, 1) := by decide +kernel
theorem dX3_read_22 : decode cX3_read 22 = .ok (.aload_n 0, 1) := by decide +kernel
theorem dX3_read_23 : decode cX3_read 23 = .ok (.getfield 72, 3) := by decide +kernel
theorem dX3_read_26 : decode cX3_read 26 = .ok (.if_icmp .eq 16, 3) := by decide +kernel
theorem dX3_read_29 : decode cX3_read 29 = .ok (.aload_n 0, 1) := by decide +kernel
theorem dX3_read_30 : decode cX3_read 30 = .ok (.getfield 37, 3) := by decide +kernel
theorem dX3_read_33 : decode cX3_read 33 = .ok (.iload_n 1, 1) := by decide +kernel
theorem dX3_read_34 : decode cX3_read 34 = .ok (.baload, 1) := by decide +kernel
theorem dX3_read_35 : decode cX3_read 35 = .ok (.invokestatic 83, 3) := by decide +kernel
theorem dX3_read_38 : decode cX3_read 38 = .ok (.iconst (-1), 1) := by decide +kernel
theorem dX3_read_39 : decode cX3_read 39 = .ok (.if_icmp .ne 5, 3) := by decide +kernel
theorem dX3_read_42 : decode cX3_read 42 = .ok (.iload_n 1, 1) := by decide +kernel
theorem dX3_read_43 : decode cX3_read 43 = .ok (.ireturn, 1) := by decide +kernel
theorem dX3_read_44 : decode cX3_read 44 = .ok (.aload_n 0, 1) := by decide +kernel
theorem dX3_read_45 : decode cX3_read 45 = .ok (.iload_n 1, 1) := by decide +kernel
theorem dX3_read_46 : decode cX3_read 46 = .ok (.iconst 1, 1) := by decide +kernel
theorem dX3_read_47 : decode cX3_read 47 = .ok (.iadd, 1) := by decide +kernel
theorem dX3_read_48 : decode cX3_read 48 = .ok (.invokevirtual 87, 3) := by decide +kernel
theorem dX3_read_51 : decode cX3_read 51 = .ok (.iconst 1, 1) := by decide +kernel
theorem dX3_read_52 : decode cX3_read 52 = .ok (.bipush 9, 2) := by decide +kernel
theorem dX3_read_54 : decode cX3_read 54 = .ok (.invokestatic 68, 3) := by decide +kernel
theorem dX3_read_57 : decode cX3_read 57 = .ok (.ifCond .ne 7, 3) := by decide +kernel
theorem dX3_read_60 : decode cX3_read 60 = .ok (.iload_n 1, 1) := by decide +kernel
theorem dX3_read_61 : decode cX3_read 61 = .ok (.iconst 1, 1) := by decide +kernel
theorem dX3_read_62 : decode cX3_read 62 = .ok (.iadd, 1) := by decide +kernel
theorem dX3_read_63 : decode cX3_read 63 = .ok (.ireturn, 1) := by decide +kernel
theorem dX3_read_64 : decode cX3_read 64 = .ok (.aload_n 0, 1) := by decide +kernel
theorem dX3_read_65 : decode cX3_read 65 = .ok (.dup, 1) := by decide +kernel
theorem dX3_read_66 : decode cX3_read 66 = .ok (.getfield 80, 3) := by decide +kernel
theorem dX3_read_69 : decode cX3_read 69 = .ok (.iconst 1, 1) := by decide +kernel
theorem dX3_read_70 : decode cX3_read 70 = .ok (.iadd, 1) := by decide +kernel
theorem dX3_read_71 : decode cX3_read 71 = .ok (.putfield 80, 3) := by decide +kernel
theorem dX3_read_74 : decode cX3_read 74 = .ok (.iinc 1 2, 3) := by decide +kernel
theorem dX3_read_77 : decode cX3_read 77 = .ok (.iload_n 1, 1) := by decide +kernel
theorem dX3_read_78 : decode cX3_read 78 = .ok (.aload_n 0, 1) := by decide +kernel
theorem dX3_read_79 : decode cX3_read 79 = .ok (.getfield 72, 3) := by decide +kernel
theorem dX3_read_82 : decode cX3_read 82 = .ok (.if_icmp .ge 83, 3) := by decide +kernel
theorem dX3_read_85 : decode cX3_read 85 = .ok (.aload_n 0, 1) := by decide +kernel
theorem dX3_read_86 : decode cX3_read 86 = .ok (.getfield 37, 3) := by decide +kernel
theorem dX3_read_89 : decode cX3_read 89 = .ok (.iload_n 1, 1) := by decide +kernel
theorem dX3_read_90 : decode cX3_read 90 = .ok (.baload, 1) := by decide +kernel
theorem dX3_read_91 : decode cX3_read 91 = .ok (.bipush 59, 2) := by decide +kernel
theorem dX3_read_93 : decode cX3_read 93 = .ok (.if_icmp .ne 72, 3) := by decide +kernel
theorem dX3_read_96 : decode cX3_read 96 = .ok (.aload_n 0, 1) := by decide +kernel
theorem dX3_read_97 : decode cX3_read 97 = .ok (.getfield 80, 3) := by decide +kernel
theorem dX3_read_100 : decode cX3_read 100 = .ok (.iconst 1, 1) := by decide +kernel
theorem dX3_read_101 : decode cX3_read 101 = .ok (.if_icmp .le 64, 3) := by decide +kernel
theorem dX3_read_104 : decode cX3_read 104 = .ok (.aload_n 0, 1) := by decide +kernel
theorem dX3_read_105 : decode cX3_read 105 = .ok (.aload_n 0, 1) := by decide +kernel
theorem dX3_read_106 : decode cX3_read 106 = .ok (.iload_n 1, 1) := by decide +kernel
theorem dX3_read_107 : decode cX3_read 107 = .ok (.iconst 1, 1) := by decide +kernel
theorem dX3_read_108 : decode cX3_read 108 = .ok (.iadd, 1) := by decide +kernel
theorem dX3_read_109 : decode cX3_read 109 = .ok (.invokevirtual 87, 3) := by decide +kernel
theorem dX3_read_112 : decode cX3_read 112 = .ok (.iconst 0, 1) := by decide +kernel
theorem dX3_read_113 : decode cX3_read 113 = .ok (.bipush 9, 2) := by decide +kernel
theorem dX3_read_115 : decode cX3_read 115 = .ok (.invokestatic 68, 3) := by decide +kernel
theorem dX3_read_118 : decode cX3_read 118 = .ok (.ifCond .eq 17, 3) := by decide +kernel
theorem dX3_read_121 : decode cX3_read 121 = .ok (.iload_n 1, 1) := by decide +kernel
theorem dX3_read_122 : decode cX3_read 122 = .ok (.iconst 2, 1) := by decide +kernel
theorem dX3_read_123 : decode cX3_read 123 = .ok (.iadd, 1) := by decide +kernel
theorem dX3_read_124 : decode cX3_read 124 = .ok (.aload_n 0, 1) := by decide +kernel
theorem dX3_read_125 : decode cX3_read 125 = .ok (.getfield 72, 3) := by decide +kernel
theorem dX3_read_128 : decode cX3_read 128 = .ok (.if_icmp .ne 7, 3) := by decide +kernel
theorem dX3_read_131 : decode cX3_read 131 = .ok (.iconst 1, 1) := by decide +kernel
theorem dX3_read_132 : decode cX3_read 132 = .ok (.goto 4, 3) := by decide +kernel
theorem dX3_read_135 : decode cX3_read 135 = .ok (.iconst 0, 1) := by decide +kernel
theorem dX3_read_136 : decode cX3_read 136 = .ok (.putfield 76, 3) := by decide +kernel
theorem dX3_read_139 : decode cX3_read 139 = .ok (.aload_n 0, 1) := by decide +kernel
theorem dX3_read_140 : decode cX3_read 140 = .ok (.iload_n 1, 1) := by decide +kernel
theorem dX3_read_141 : decode cX3_read 141 = .ok (.iconst 1, 1) := by decide +kernel
theorem dX3_read_142 : decode cX3_read 142 = .ok (.iadd, 1) := by decide +kernel
theorem dX3_read_143 : decode cX3_read 143 = .ok (.invokevirtual 87, 3) := by decide +kernel
theorem dX3_read_146 : decode cX3_read 146 = .ok (.iconst 0, 1) := by decide +kernel
theorem dX3_read_147 : decode cX3_read 147 = .ok (.bipush 9, 2) := by decide +kernel
theorem dX3_read_149 : decode cX3_read 149 = .ok (.invokestatic 68, 3) := by decide +kernel
theorem dX3_read_152 : decode cX3_read 152 = .ok (.ifCond .eq 9, 3) := by decide +kernel
theorem dX3_read_155 : decode cX3_read 155 = .ok (.iload_n 1, 1) := by decide +kernel
theorem dX3_read_156 : decode cX3_read 156 = .ok (.iconst 2, 1) := by decide +kernel
theorem dX3_read_157 : decode cX3_read 157 = .ok (.iadd, 1) := by decide +kernel
theorem dX3_read_158 : decode cX3_read 158 = .ok (.goto 6, 3) := by decide +kernel
theorem dX3_read_161 : decode cX3_read 161 = .ok (.iload_n 1, 1) := by decide +kernel
theorem dX3_read_162 : decode cX3_read 162 = .ok (.iconst 1, 1) := by decide +kernel
theorem dX3_read_163 : decode cX3_read 163 = .ok (.iadd, 1) := by decide +kernel
theorem dX3_read_164 : decode cX3_read 164 = .ok (.ireturn, 1) := by decide +kernel
theorem dX3_read_165 : decode cX3_read 165 = .ok (.iload_n 1, 1) := by decide +kernel
theorem dX3_read_166 : decode cX3_read 166 = .ok (.aload_n 0, 1) := by decide +kernel
theorem dX3_read_167 : decode cX3_read 167 = .ok (.getfield 72, 3) := by decide +kernel
theorem dX3_read_170 : decode cX3_read 170 = .ok (.if_icmp .eq 23, 3) := by decide +kernel
theorem dX3_read_173 : decode cX3_read 173 = .ok (.aload_n 0, 1) := by decide +kernel
theorem dX3_read_174 : decode cX3_read 174 = .ok (.getfield 80, 3) := by decide +kernel
theorem dX3_read_177 : decode cX3_read 177 = .ok (.bipush 6, 2) := by decide +kernel
theorem dX3_read_179 : decode cX3_read 179 = .ok (.if_icmp .eq 14, 3) := by decide +kernel
theorem dX3_read_182 : decode cX3_read 182 = .ok (.aload_n 0, 1) := by decide +kernel
theorem dX3_read_183 : decode cX3_read 183 = .ok (.getfield 37, 3) := by decide +kernel
theorem dX3_read_186 : decode cX3_read 186 = .ok (.iload_n 1, 1) := by decide +kernel
theorem dX3_read_187 : decode cX3_read 187 = .ok (.baload, 1) := by decide +kernel
theorem dX3_read_188 : decode cX3_read 188 = .ok (.bipush 44, 2) := by decide +kernel
theorem dX3_read_190 : decode cX3_read 190 = .ok (.if_icmp .eq 5, 3) := by decide +kernel
theorem dX3_read_193 : decode cX3_read 193 = .ok (.iload_n 1, 1) := by decide +kernel
theorem dX3_read_194 : decode cX3_read 194 = .ok (.ireturn, 1) := by decide +kernel
theorem dX3_read_195 : decode cX3_read 195 = .ok (.iinc 1 1, 3) := by decide +kernel
theorem dX3_read_198 : decode cX3_read 198 = .ok (.goto (-186), 3) := by decide +kernel
theorem dX3_read_201 : decode cX3_read 201 = .ok (.iload_n 1, 1) := by decide +kernel
theorem dX3_read_202 : decode cX3_read 202 = .ok (.ireturn, 1) := by decide +kernel
set_option maxRecDepth 20000 in
theorem ggX3_fault_X3_read : GoodIn wsX3_fault wsX3_read := goodIn_r _ [5, 6, 7, 8, 9, 10, 11, 4, 12, 13, 14, 15, 16, 17, 18, 19, 20, 21, 22, 23, 24, 25, 26, 27, 28, 29, 30, 31, 32, 33, 34, 35, 36, 37, 38, 39, 40, 41, 42, 43, 44, 45, 46, 47, 48, 49, 50, 51, 52, 53, 54, 55, 56, 57, 58, 59] (by decide +kernel) (by decide +kernel)
set_option maxRecDepth 20000 in
theorem gX3_fault_X3_read : GoodIn wsX3_fault (wsV RX3 90 RX3 yX3_read wsX3_read) := goodIn_app (goodIn_of _ (by decide +kernel)) ggX3_fault_X3_read
theorem dX3_fault_0 : decode cX3_fault 0 = .ok (.aload_n 0, 1) := by decide +kernel
theorem dX3_fault_1 : decode cX3_fault 1 = .ok (.invokevirtual 90, 3) := by decide +kernel
theorem dX3_fault_4 : decode cX3_fault 4 = .ok (.ireturn, 1) := by decide +kernel
set_option maxRecDepth 20000 in
theorem ggX3_city_X3_read : GoodIn wsX3_city wsX3_read := goodIn_r _ [22, 1, 2, 17, 5, 23, 24, 21, 25, 26, 27, 28, 29, 30, 31, 32, 33, 34, 35, 36, 37, 38, 39, 40, 41, 42, 43, 44, 45, 46, 47, 48, 49, 50, 51, 52, 53, 54, 55, 56, 57, 58, 59, 60, 61, 62, 63, 64, 65, 66, 67, 68, 69, 70, 71, 72] (by decide +kernel) (by decide +kernel)
set_option maxRecDepth 20000 in
theorem gX3_city_X3_read : GoodIn wsX3_city (wsV RX3 90 RX3 yX3_read wsX3_read) := goodIn_app (goodIn_of _ (by decide +kernel)) ggX3_city_X3_read
set_option maxRecDepth 20000 in
theorem ggX3_city_X3_kindBy : GoodIn wsX3_city wsX3_kindBy := goodIn_r _ [25] (by decide +kernel) (by decide +kernel)
set_option maxRecDepth 20000 in
theorem gX3_city_X3_kindBy : GoodIn wsX3_city (va_wsS RX3 83 yX3_kindBy wsX3_kindBy) := goodIn_app (goodIn_of _ (by decide +kernel)) ggX3_city_X3_kindBy
theorem dX3_city_0 : decode cX3_city 0 = .ok (.aload_n 0, 1) := by decide +kernel
theorem dX3_city_1 : decode cX3_city 1 = .ok (.invokevirtual 90, 3) := by decide +kernel
theorem dX3_city_4 : decode cX3_city 4 = .ok (.istore_n 1, 1) := by decide +kernel
theorem dX3_city_5 : decode cX3_city 5 = .ok (.aload_n 0, 1) := by decide +kernel
theorem dX3_city_6 : decode cX3_city 6 = .ok (.getfield 76, 3) := by decide +kernel
theorem dX3_city_9 : decode cX3_city 9 = .ok (.ifCond .ne 6, 3) := by decide +kernel
theorem dX3_city_12 : decode cX3_city 12 = .ok (.bipush (-103), 2) := by decide +kernel
theorem dX3_city_14 : decode cX3_city 14 = .ok (.ireturn, 1) := by decide +kernel
theorem dX3_city_15 : decode cX3_city 15 = .ok (.aload_n 0, 1) := by decide +kernel
theorem dX3_city_16 : decode cX3_city 16 = .ok (.aload_n 0, 1) := by decide +kernel
theorem dX3_city_17 : decode cX3_city 17 = .ok (.getfield 80, 3) := by decide +kernel
theorem dX3_city_20 : decode cX3_city 20 = .ok (.putfield 94, 3) := by decide +kernel
theorem dX3_city_23 : decode cX3_city 23 = .ok (.iconst 0, 1) := by decide +kernel
theorem dX3_city_24 : decode cX3_city 24 = .ok (.istore_n 2, 1) := by decide +kernel
theorem dX3_city_25 : decode cX3_city 25 = .ok (.iload_n 2, 1) := by decide +kernel
theorem dX3_city_26 : decode cX3_city 26 = .ok (.aload_n 0, 1) := by decide +kernel
theorem dX3_city_27 : decode cX3_city 27 = .ok (.getfield 94, 3) := by decide +kernel
theorem dX3_city_30 : decode cX3_city 30 = .ok (.if_icmp .ge 73, 3) := by decide +kernel
theorem dX3_city_33 : decode cX3_city 33 = .ok (.aload_n 0, 1) := by decide +kernel
theorem dX3_city_34 : decode cX3_city 34 = .ok (.getfield 7, 3) := by decide +kernel
theorem dX3_city_37 : decode cX3_city 37 = .ok (.iload_n 2, 1) := by decide +kernel
theorem dX3_city_38 : decode cX3_city 38 = .ok (.aload_n 0, 1) := by decide +kernel
theorem dX3_city_39 : decode cX3_city 39 = .ok (.getfield 37, 3) := by decide +kernel
theorem dX3_city_42 : decode cX3_city 42 = .ok (.iconst 3, 1) := by decide +kernel
theorem dX3_city_43 : decode cX3_city 43 = .ok (.iload_n 2, 1) := by decide +kernel
theorem dX3_city_44 : decode cX3_city 44 = .ok (.imul, 1) := by decide +kernel
theorem dX3_city_45 : decode cX3_city 45 = .ok (.baload, 1) := by decide +kernel
theorem dX3_city_46 : decode cX3_city 46 = .ok (.invokestatic 83, 3) := by decide +kernel
theorem dX3_city_49 : decode cX3_city 49 = .ok (.iastore, 1) := by decide +kernel
theorem dX3_city_50 : decode cX3_city 50 = .ok (.aload_n 0, 1) := by decide +kernel
theorem dX3_city_51 : decode cX3_city 51 = .ok (.getfield 13, 3) := by decide +kernel
theorem dX3_city_54 : decode cX3_city 54 = .ok (.iload_n 2, 1) := by decide +kernel
theorem dX3_city_55 : decode cX3_city 55 = .ok (.aload_n 0, 1) := by decide +kernel
theorem dX3_city_56 : decode cX3_city 56 = .ok (.getfield 37, 3) := by decide +kernel
theorem dX3_city_59 : decode cX3_city 59 = .ok (.iconst 3, 1) := by decide +kernel
theorem dX3_city_60 : decode cX3_city 60 = .ok (.iload_n 2, 1) := by decide +kernel
theorem dX3_city_61 : decode cX3_city 61 = .ok (.imul, 1) := by decide +kernel
theorem dX3_city_62 : decode cX3_city 62 = .ok (.iconst 1, 1) := by decide +kernel
theorem dX3_city_63 : decode cX3_city 63 = .ok (.iadd, 1) := by decide +kernel
theorem dX3_city_64 : decode cX3_city 64 = .ok (.baload, 1) := by decide +kernel
theorem dX3_city_65 : decode cX3_city 65 = .ok (.bipush 48, 2) := by decide +kernel
theorem dX3_city_67 : decode cX3_city 67 = .ok (.isub, 1) := by decide +kernel
theorem dX3_city_68 : decode cX3_city 68 = .ok (.iastore, 1) := by decide +kernel
theorem dX3_city_69 : decode cX3_city 69 = .ok (.aload_n 0, 1) := by decide +kernel
theorem dX3_city_70 : decode cX3_city 70 = .ok (.getfield 16, 3) := by decide +kernel
theorem dX3_city_73 : decode cX3_city 73 = .ok (.iload_n 2, 1) := by decide +kernel
theorem dX3_city_74 : decode cX3_city 74 = .ok (.iconst 0, 1) := by decide +kernel
theorem dX3_city_75 : decode cX3_city 75 = .ok (.iastore, 1) := by decide +kernel
theorem dX3_city_76 : decode cX3_city 76 = .ok (.aload_n 0, 1) := by decide +kernel
theorem dX3_city_77 : decode cX3_city 77 = .ok (.getfield 19, 3) := by decide +kernel
theorem dX3_city_80 : decode cX3_city 80 = .ok (.iload_n 2, 1) := by decide +kernel
theorem dX3_city_81 : decode cX3_city 81 = .ok (.iconst 0, 1) := by decide +kernel
theorem dX3_city_82 : decode cX3_city 82 = .ok (.iastore, 1) := by decide +kernel
theorem dX3_city_83 : decode cX3_city 83 = .ok (.aload_n 0, 1) := by decide +kernel
theorem dX3_city_84 : decode cX3_city 84 = .ok (.getfield 22, 3) := by decide +kernel
theorem dX3_city_87 : decode cX3_city 87 = .ok (.iload_n 2, 1) := by decide +kernel
theorem dX3_city_88 : decode cX3_city 88 = .ok (.iconst 0, 1) := by decide +kernel
theorem dX3_city_89 : decode cX3_city 89 = .ok (.iastore, 1) := by decide +kernel
theorem dX3_city_90 : decode cX3_city 90 = .ok (.aload_n 0, 1) := by decide +kernel
theorem dX3_city_91 : decode cX3_city 91 = .ok (.getfield 25, 3) := by decide +kernel
theorem dX3_city_94 : decode cX3_city 94 = .ok (.iload_n 2, 1) := by decide +kernel
theorem dX3_city_95 : decode cX3_city 95 = .ok (.iconst 0, 1) := by decide +kernel
theorem dX3_city_96 : decode cX3_city 96 = .ok (.iastore, 1) := by decide +kernel
theorem dX3_city_97 : decode cX3_city 97 = .ok (.iinc 2 1, 3) := by decide +kernel
theorem dX3_city_100 : decode cX3_city 100 = .ok (.goto (-75), 3) := by decide +kernel
theorem dX3_city_103 : decode cX3_city 103 = .ok (.aload_n 0, 1) := by decide +kernel
theorem dX3_city_104 : decode cX3_city 104 = .ok (.aload_n 0, 1) := by decide +kernel
theorem dX3_city_105 : decode cX3_city 105 = .ok (.getfield 37, 3) := by decide +kernel
theorem dX3_city_108 : decode cX3_city 108 = .ok (.iload_n 1, 1) := by decide +kernel
theorem dX3_city_109 : decode cX3_city 109 = .ok (.iconst 1, 1) := by decide +kernel
theorem dX3_city_110 : decode cX3_city 110 = .ok (.isub, 1) := by decide +kernel
theorem dX3_city_111 : decode cX3_city 111 = .ok (.baload, 1) := by decide +kernel
theorem dX3_city_112 : decode cX3_city 112 = .ok (.bipush 48, 2) := by decide +kernel
theorem dX3_city_114 : decode cX3_city 114 = .ok (.isub, 1) := by decide +kernel
theorem dX3_city_115 : decode cX3_city 115 = .ok (.putfield 97, 3) := by decide +kernel
theorem dX3_city_118 : decode cX3_city 118 = .ok (.aload_n 0, 1) := by decide +kernel
theorem dX3_city_119 : decode cX3_city 119 = .ok (.dup, 1) := by decide +kernel
theorem dX3_city_120 : decode cX3_city 120 = .ok (.getfield 100, 3) := by decide +kernel
theorem dX3_city_123 : decode cX3_city 123 = .ok (.iconst 1, 1) := by decide +kernel
theorem dX3_city_124 : decode cX3_city 124 = .ok (.iadd, 1) := by decide +kernel
theorem dX3_city_125 : decode cX3_city 125 = .ok (.putfield 100, 3) := by decide +kernel
theorem dX3_city_128 : decode cX3_city 128 = .ok (.aload_n 0, 1) := by decide +kernel
theorem dX3_city_129 : decode cX3_city 129 = .ok (.iconst 0, 1) := by decide +kernel
theorem dX3_city_130 : decode cX3_city 130 = .ok (.putfield 103, 3) := by decide +kernel
theorem dX3_city_133 : decode cX3_city 133 = .ok (.aload_n 0, 1) := by decide +kernel
theorem dX3_city_134 : decode cX3_city 134 = .ok (.iconst 0, 1) := by decide +kernel
theorem dX3_city_135 : decode cX3_city 135 = .ok (.putfield 106, 3) := by decide +kernel
theorem dX3_city_138 : decode cX3_city 138 = .ok (.aload_n 0, 1) := by decide +kernel
theorem dX3_city_139 : decode cX3_city 139 = .ok (.iconst 0, 1) := by decide +kernel
theorem dX3_city_140 : decode cX3_city 140 = .ok (.putfield 109, 3) := by decide +kernel
theorem dX3_city_143 : decode cX3_city 143 = .ok (.aload_n 0, 1) := by decide +kernel
theorem dX3_city_144 : decode cX3_city 144 = .ok (.iconst 0, 1) := by decide +kernel
theorem dX3_city_145 : decode cX3_city 145 = .ok (.putfield 112, 3) := by decide +kernel
theorem dX3_city_148 : decode cX3_city 148 = .ok (.aload_n 0, 1) := by decide +kernel
theorem dX3_city_149 : decode cX3_city 149 = .ok (.iconst 0, 1) := by decide +kernel
theorem dX3_city_150 : decode cX3_city 150 = .ok (.putfield 72, 3) := by decide +kernel
theorem dX3_city_153 : decode cX3_city 153 = .ok (.aload_n 0, 1) := by decide +kernel
theorem dX3_city_154 : decode cX3_city 154 = .ok (.getfield 94, 3) := by decide +kernel
theorem dX3_city_157 : decode cX3_city 157 = .ok (.ireturn, 1) := by decide +kernel
set_option maxRecDepth 20000 in
theorem ggX3_isSite_X3_within : GoodIn wsX3_isSite wsX3_within := goodIn_r _ [5] (by decide +kernel) (by decide +kernel)
set_option maxRecDepth 20000 in
theorem gX3_isSite_X3_within : GoodIn wsX3_isSite (va_wsS RX3 68 yX3_within wsX3_within) := goodIn_app (goodIn_of _ (by decide +kernel)) ggX3_isSite_X3_within
theorem dX3_isSite_0 : decode cX3_isSite 0 = .ok (.iload_n 1, 1) := by decide +kernel
theorem dX3_isSite_1 : decode cX3_isSite 1 = .ok (.iconst 0, 1) := by decide +kernel
theorem dX3_isSite_2 : decode cX3_isSite 2 = .ok (.aload_n 0, 1) := by decide +kernel
theorem dX3_isSite_3 : decode cX3_isSite 3 = .ok (.getfield 94, 3) := by decide +kernel
theorem dX3_isSite_6 : decode cX3_isSite 6 = .ok (.iconst 1, 1) := by decide +kernel
theorem dX3_isSite_7 : decode cX3_isSite 7 = .ok (.isub, 1) := by decide +kernel
theorem dX3_isSite_8 : decode cX3_isSite 8 = .ok (.invokestatic 68, 3) := by decide +kernel
theorem dX3_isSite_11 : decode cX3_isSite 11 = .ok (.ireturn, 1) := by decide +kernel
set_option maxRecDepth 20000 in
theorem ggX3_meltsBy_X3_notBelow : GoodIn wsX3_meltsBy wsX3_notBelow := goodIn_r _ [6] (by decide +kernel) (by decide +kernel)
set_option maxRecDepth 20000 in
theorem gX3_meltsBy_X3_notBelow : GoodIn wsX3_meltsBy (va_wsS RX3 115 yX3_notBelow wsX3_notBelow) := goodIn_app (goodIn_of _ (by decide +kernel)) ggX3_meltsBy_X3_notBelow
theorem dX3_meltsBy_0 : decode cX3_meltsBy 0 = .ok (.iload_n 2, 1) := by decide +kernel
theorem dX3_meltsBy_1 : decode cX3_meltsBy 1 = .ok (.aload_n 0, 1) := by decide +kernel
theorem dX3_meltsBy_2 : decode cX3_meltsBy 2 = .ok (.getfield 25, 3) := by decide +kernel
theorem dX3_meltsBy_5 : decode cX3_meltsBy 5 = .ok (.iload_n 1, 1) := by decide +kernel
theorem dX3_meltsBy_6 : decode cX3_meltsBy 6 = .ok (.iaload, 1) := by decide +kernel
theorem dX3_meltsBy_7 : decode cX3_meltsBy 7 = .ok (.iadd, 1) := by decide +kernel
theorem dX3_meltsBy_8 : decode cX3_meltsBy 8 = .ok (.istore_n 3, 1) := by decide +kernel
theorem dX3_meltsBy_9 : decode cX3_meltsBy 9 = .ok (.aload_n 0, 1) := by decide +kernel
theorem dX3_meltsBy_10 : decode cX3_meltsBy 10 = .ok (.getfield 7, 3) := by decide +kernel
theorem dX3_meltsBy_13 : decode cX3_meltsBy 13 = .ok (.iload_n 1, 1) := by decide +kernel
theorem dX3_meltsBy_14 : decode cX3_meltsBy 14 = .ok (.iaload, 1) := by decide +kernel
theorem dX3_meltsBy_15 : decode cX3_meltsBy 15 = .ok (.tableswitch 51 1 4 #[29, 36, 40, 42], 29) := by decide +kernel
theorem dX3_meltsBy_44 : decode cX3_meltsBy 44 = .ok (.iload_n 3, 1) := by decide +kernel
theorem dX3_meltsBy_45 : decode cX3_meltsBy 45 = .ok (.iconst 2, 1) := by decide +kernel
theorem dX3_meltsBy_46 : decode cX3_meltsBy 46 = .ok (.isub, 1) := by decide +kernel
theorem dX3_meltsBy_47 : decode cX3_meltsBy 47 = .ok (.invokestatic 115, 3) := by decide +kernel
theorem dX3_meltsBy_50 : decode cX3_meltsBy 50 = .ok (.ireturn, 1) := by decide +kernel
theorem dX3_meltsBy_51 : decode cX3_meltsBy 51 = .ok (.iload_n 3, 1) := by decide +kernel
theorem dX3_meltsBy_52 : decode cX3_meltsBy 52 = .ok (.iconst 2, 1) := by decide +kernel
theorem dX3_meltsBy_53 : decode cX3_meltsBy 53 = .ok (.idiv, 1) := by decide +kernel
theorem dX3_meltsBy_54 : decode cX3_meltsBy 54 = .ok (.ireturn, 1) := by decide +kernel
theorem dX3_meltsBy_55 : decode cX3_meltsBy 55 = .ok (.iload_n 2, 1) := by decide +kernel
theorem dX3_meltsBy_56 : decode cX3_meltsBy 56 = .ok (.ireturn, 1) := by decide +kernel
theorem dX3_meltsBy_57 : decode cX3_meltsBy 57 = .ok (.iload_n 3, 1) := by decide +kernel
theorem dX3_meltsBy_58 : decode cX3_meltsBy 58 = .ok (.iconst 2, 1) := by decide +kernel
theorem dX3_meltsBy_59 : decode cX3_meltsBy 59 = .ok (.idiv, 1) := by decide +kernel
theorem dX3_meltsBy_60 : decode cX3_meltsBy 60 = .ok (.iconst 1, 1) := by decide +kernel
theorem dX3_meltsBy_61 : decode cX3_meltsBy 61 = .ok (.isub, 1) := by decide +kernel
theorem dX3_meltsBy_62 : decode cX3_meltsBy 62 = .ok (.invokestatic 115, 3) := by decide +kernel
theorem dX3_meltsBy_65 : decode cX3_meltsBy 65 = .ok (.ireturn, 1) := by decide +kernel
theorem dX3_meltsBy_66 : decode cX3_meltsBy 66 = .ok (.iload_n 3, 1) := by decide +kernel
theorem dX3_meltsBy_67 : decode cX3_meltsBy 67 = .ok (.ireturn, 1) := by decide +kernel
theorem dX3_isKept_0 : decode cX3_isKept 0 = .ok (.iload_n 2, 1) := by decide +kernel
theorem dX3_isKept_1 : decode cX3_isKept 1 = .ok (.aload_n 0, 1) := by decide +kernel
theorem dX3_isKept_2 : decode cX3_isKept 2 = .ok (.getfield 13, 3) := by decide +kernel
theorem dX3_isKept_5 : decode cX3_isKept 5 = .ok (.iload_n 1, 1) := by decide +kernel
theorem dX3_isKept_6 : decode cX3_isKept 6 = .ok (.iaload, 1) := by decide +kernel
theorem dX3_isKept_7 : decode cX3_isKept 7 = .ok (.if_icmp .lt 7, 3) := by decide +kernel
theorem dX3_isKept_10 : decode cX3_isKept 10 = .ok (.iconst 1, 1) := by decide +kernel
theorem dX3_isKept_11 : decode cX3_isKept 11 = .ok (.goto 4, 3) := by decide +kernel
theorem dX3_isKept_14 : decode cX3_isKept 14 = .ok (.iconst 0, 1) := by decide +kernel
theorem dX3_isKept_15 : decode cX3_isKept 15 = .ok (.ireturn, 1) := by decide +kernel
set_option maxRecDepth 20000 in
theorem ggX3_siteNow_X3_meltsBy : GoodIn wsX3_siteNow wsX3_meltsBy := goodIn_r _ [11, 4, 1, 12, 13, 10, 14, 19, 20, 21, 22, 23, 24, 25, 26, 27, 28, 29, 30, 31, 32, 33, 34, 35, 36, 37, 38, 39, 40, 41, 42, 43, 44, 45, 46, 47, 48, 49, 50, 51, 52, 53, 54, 55, 56, 57, 58] (by decide +kernel) (by decide +kernel)
set_option maxRecDepth 20000 in
theorem gX3_siteNow_X3_meltsBy : GoodIn wsX3_siteNow (wsV RX3 118 RX3 yX3_meltsBy wsX3_meltsBy) := goodIn_app (goodIn_of _ (by decide +kernel)) ggX3_siteNow_X3_meltsBy
set_option maxRecDepth 20000 in
theorem ggX3_siteNow_X3_isKept : GoodIn wsX3_siteNow wsX3_isKept := goodIn_r _ [18, 2, 19, 20, 21, 22, 23, 24, 25, 26, 27, 28, 29, 30, 31, 32, 33, 34, 35, 36, 37, 38, 39, 40, 41, 42, 43, 44, 45, 46, 47, 48, 49, 50, 51, 52, 53, 54, 55, 56, 57, 58] (by decide +kernel) (by decide +kernel)
set_option maxRecDepth 20000 in
theorem gX3_siteNow_X3_isKept : GoodIn wsX3_siteNow (wsV RX3 122 RX3 yX3_isKept wsX3_isKept) := goodIn_app (goodIn_of _ (by decide +kernel)) ggX3_siteNow_X3_isKept
theorem dX3_siteNow_0 : decode cX3_siteNow 0 = .ok (.iload_n 2, 1) := by decide +kernel
theorem dX3_siteNow_1 : decode cX3_siteNow 1 = .ok (.tableswitch 97 0 5 #[39, 46, 53, 60, 67, 77], 39) := by decide +kernel
theorem dX3_siteNow_40 : decode cX3_siteNow 40 = .ok (.aload_n 0, 1) := by decide +kernel
theorem dX3_siteNow_41 : decode cX3_siteNow 41 = .ok (.getfield 7, 3) := by decide +kernel
theorem dX3_siteNow_44 : decode cX3_siteNow 44 = .ok (.iload_n 1, 1) := by decide +kernel
theorem dX3_siteNow_45 : decode cX3_siteNow 45 = .ok (.iaload, 1) := by decide +kernel
theorem dX3_siteNow_46 : decode cX3_siteNow 46 = .ok (.ireturn, 1) := by decide +kernel
theorem dX3_siteNow_47 : decode cX3_siteNow 47 = .ok (.aload_n 0, 1) := by decide +kernel
theorem dX3_siteNow_48 : decode cX3_siteNow 48 = .ok (.getfield 13, 3) := by decide +kernel
theorem dX3_siteNow_51 : decode cX3_siteNow 51 = .ok (.iload_n 1, 1) := by decide +kernel
theorem dX3_siteNow_52 : decode cX3_siteNow 52 = .ok (.iaload, 1) := by decide +kernel
theorem dX3_siteNow_53 : decode cX3_siteNow 53 = .ok (.ireturn, 1) := by decide +kernel
theorem dX3_siteNow_54 : decode cX3_siteNow 54 = .ok (.aload_n 0, 1) := by decide +kernel
theorem dX3_siteNow_55 : decode cX3_siteNow 55 = .ok (.getfield 16, 3) := by decide +kernel
theorem dX3_siteNow_58 : decode cX3_siteNow 58 = .ok (.iload_n 1, 1) := by decide +kernel
theorem dX3_siteNow_59 : decode cX3_siteNow 59 = .ok (.iaload, 1) := by decide +kernel
theorem dX3_siteNow_60 : decode cX3_siteNow 60 = .ok (.ireturn, 1) := by decide +kernel
theorem dX3_siteNow_61 : decode cX3_siteNow 61 = .ok (.aload_n 0, 1) := by decide +kernel
theorem dX3_siteNow_62 : decode cX3_siteNow 62 = .ok (.getfield 25, 3) := by decide +kernel
theorem dX3_siteNow_65 : decode cX3_siteNow 65 = .ok (.iload_n 1, 1) := by decide +kernel
theorem dX3_siteNow_66 : decode cX3_siteNow 66 = .ok (.iaload, 1) := by decide +kernel
theorem dX3_siteNow_67 : decode cX3_siteNow 67 = .ok (.ireturn, 1) := by decide +kernel
theorem dX3_siteNow_68 : decode cX3_siteNow 68 = .ok (.aload_n 0, 1) := by decide +kernel
theorem dX3_siteNow_69 : decode cX3_siteNow 69 = .ok (.iload_n 1, 1) := by decide +kernel
theorem dX3_siteNow_70 : decode cX3_siteNow 70 = .ok (.aload_n 0, 1) := by decide +kernel
theorem dX3_siteNow_71 : decode cX3_siteNow 71 = .ok (.getfield 97, 3) := by decide +kernel
theorem dX3_siteNow_74 : decode cX3_siteNow 74 = .ok (.invokevirtual 118, 3) := by decide +kernel
theorem dX3_siteNow_77 : decode cX3_siteNow 77 = .ok (.ireturn, 1) := by decide +kernel
theorem dX3_siteNow_78 : decode cX3_siteNow 78 = .ok (.aload_n 0, 1) := by decide +kernel
theorem dX3_siteNow_79 : decode cX3_siteNow 79 = .ok (.iload_n 1, 1) := by decide +kernel
theorem dX3_siteNow_80 : decode cX3_siteNow 80 = .ok (.aload_n 0, 1) := by decide +kernel
theorem dX3_siteNow_81 : decode cX3_siteNow 81 = .ok (.getfield 16, 3) := by decide +kernel
theorem dX3_siteNow_84 : decode cX3_siteNow 84 = .ok (.iload_n 1, 1) := by decide +kernel
theorem dX3_siteNow_85 : decode cX3_siteNow 85 = .ok (.iaload, 1) := by decide +kernel
theorem dX3_siteNow_86 : decode cX3_siteNow 86 = .ok (.invokevirtual 122, 3) := by decide +kernel
theorem dX3_siteNow_89 : decode cX3_siteNow 89 = .ok (.ifCond .eq 7, 3) := by decide +kernel
theorem dX3_siteNow_92 : decode cX3_siteNow 92 = .ok (.iconst 1, 1) := by decide +kernel
theorem dX3_siteNow_93 : decode cX3_siteNow 93 = .ok (.goto 4, 3) := by decide +kernel
theorem dX3_siteNow_96 : decode cX3_siteNow 96 = .ok (.iconst 0, 1) := by decide +kernel
theorem dX3_siteNow_97 : decode cX3_siteNow 97 = .ok (.ireturn, 1) := by decide +kernel
theorem dX3_siteNow_98 : decode cX3_siteNow 98 = .ok (.aload_n 0, 1) := by decide +kernel
theorem dX3_siteNow_99 : decode cX3_siteNow 99 = .ok (.getfield 22, 3) := by decide +kernel
theorem dX3_siteNow_102 : decode cX3_siteNow 102 = .ok (.iload_n 1, 1) := by decide +kernel
theorem dX3_siteNow_103 : decode cX3_siteNow 103 = .ok (.iaload, 1) := by decide +kernel
theorem dX3_siteNow_104 : decode cX3_siteNow 104 = .ok (.ireturn, 1) := by decide +kernel
set_option maxRecDepth 20000 in
theorem ggX3_about_X3_isSite : GoodIn wsX3_about wsX3_isSite := goodIn_r _ [5, 6, 7, 8, 4, 9, 31, 32, 33, 34, 35, 36, 37, 38, 39, 40, 41, 42, 43, 44, 45, 46, 47, 48, 49, 50, 51, 52, 53, 54, 55, 56, 57, 58, 59, 60, 61, 62, 63, 64, 65, 66, 67, 68, 69, 70] (by decide +kernel) (by decide +kernel)
set_option maxRecDepth 20000 in
theorem gX3_about_X3_isSite : GoodIn wsX3_about (wsV RX3 126 RX3 yX3_isSite wsX3_isSite) := goodIn_app (goodIn_of _ (by decide +kernel)) ggX3_about_X3_isSite
set_option maxRecDepth 20000 in
theorem ggX3_about_X3_within : GoodIn wsX3_about wsX3_within := goodIn_r _ [9] (by decide +kernel) (by decide +kernel)
set_option maxRecDepth 20000 in
theorem gX3_about_X3_within : GoodIn wsX3_about (va_wsS RX3 68 yX3_within wsX3_within) := goodIn_app (goodIn_of _ (by decide +kernel)) ggX3_about_X3_within
set_option maxRecDepth 20000 in
theorem ggX3_about_X3_siteNow : GoodIn wsX3_about wsX3_siteNow := goodIn_r _ [13, 14, 15, 16, 17, 18, 19, 20, 21, 22, 4, 23, 24, 25, 26, 27, 28, 29, 30, 31, 32, 33, 34, 35, 36, 37, 38, 39, 40, 41, 42, 43, 44, 45, 46, 47, 48, 49, 50, 51, 52, 53, 54, 55, 56, 57, 58, 59, 60, 61, 62, 63, 64, 65, 66, 67, 68, 69, 70] (by decide +kernel) (by decide +kernel)
set_option maxRecDepth 20000 in
theorem gX3_about_X3_siteNow : GoodIn wsX3_about (wsV RX3 130 RX3 yX3_siteNow wsX3_siteNow) := goodIn_app (goodIn_of _ (by decide +kernel)) ggX3_about_X3_siteNow
theorem dX3_about_0 : decode cX3_about 0 = .ok (.aload_n 0, 1) := by decide +kernel
theorem dX3_about_1 : decode cX3_about 1 = .ok (.iload_n 1, 1) := by decide +kernel
theorem dX3_about_2 : decode cX3_about 2 = .ok (.invokevirtual 126, 3) := by decide +kernel
theorem dX3_about_5 : decode cX3_about 5 = .ok (.ifCond .ne 8, 3) := by decide +kernel
theorem dX3_about_8 : decode cX3_about 8 = .ok (.bipush (-101), 2) := by decide +kernel
theorem dX3_about_10 : decode cX3_about 10 = .ok (.goto 24, 3) := by decide +kernel
theorem dX3_about_13 : decode cX3_about 13 = .ok (.iload_n 2, 1) := by decide +kernel
theorem dX3_about_14 : decode cX3_about 14 = .ok (.iconst 0, 1) := by decide +kernel
theorem dX3_about_15 : decode cX3_about 15 = .ok (.bipush 6, 2) := by decide +kernel
theorem dX3_about_17 : decode cX3_about 17 = .ok (.invokestatic 68, 3) := by decide +kernel
theorem dX3_about_20 : decode cX3_about 20 = .ok (.ifCond .eq 12, 3) := by decide +kernel
theorem dX3_about_23 : decode cX3_about 23 = .ok (.aload_n 0, 1) := by decide +kernel
theorem dX3_about_24 : decode cX3_about 24 = .ok (.iload_n 1, 1) := by decide +kernel
theorem dX3_about_25 : decode cX3_about 25 = .ok (.iload_n 2, 1) := by decide +kernel
theorem dX3_about_26 : decode cX3_about 26 = .ok (.invokevirtual 130, 3) := by decide +kernel
theorem dX3_about_29 : decode cX3_about 29 = .ok (.goto 5, 3) := by decide +kernel
theorem dX3_about_32 : decode cX3_about 32 = .ok (.bipush (-102), 2) := by decide +kernel
theorem dX3_about_34 : decode cX3_about 34 = .ok (.ireturn, 1) := by decide +kernel
set_option maxRecDepth 20000 in
theorem ggX3_as_X3_isSite : GoodIn wsX3_as wsX3_isSite := goodIn_r _ [6, 7, 8, 9, 5, 10, 11, 12, 13, 14, 15, 16, 17, 18, 19, 20, 21, 22, 23, 24, 25, 26, 27, 28, 29, 30, 31, 32, 33, 34, 35, 36, 37, 38, 39, 40, 41, 42, 43, 44, 45, 46, 47, 48, 49, 50] (by decide +kernel) (by decide +kernel)
set_option maxRecDepth 20000 in
theorem gX3_as_X3_isSite : GoodIn wsX3_as (wsV RX3 126 RX3 yX3_isSite wsX3_isSite) := goodIn_app (goodIn_of _ (by decide +kernel)) ggX3_as_X3_isSite
set_option maxRecDepth 20000 in
theorem ggX3_as_X3_within : GoodIn wsX3_as wsX3_within := goodIn_r _ [10] (by decide +kernel) (by decide +kernel)
set_option maxRecDepth 20000 in
theorem gX3_as_X3_within : GoodIn wsX3_as (va_wsS RX3 68 yX3_within wsX3_within) := goodIn_app (goodIn_of _ (by decide +kernel)) ggX3_as_X3_within
theorem dX3_as_0 : decode cX3_as 0 = .ok (.aload_n 0, 1) := by decide +kernel
theorem dX3_as_1 : decode cX3_as 1 = .ok (.iload_n 1, 1) := by decide +kernel
theorem dX3_as_2 : decode cX3_as 2 = .ok (.invokevirtual 126, 3) := by decide +kernel
theorem dX3_as_5 : decode cX3_as 5 = .ok (.ifCond .ne 6, 3) := by decide +kernel
theorem dX3_as_8 : decode cX3_as 8 = .ok (.bipush (-101), 2) := by decide +kernel
theorem dX3_as_10 : decode cX3_as 10 = .ok (.ireturn, 1) := by decide +kernel
theorem dX3_as_11 : decode cX3_as 11 = .ok (.iload_n 2, 1) := by decide +kernel
theorem dX3_as_12 : decode cX3_as 12 = .ok (.iconst 0, 1) := by decide +kernel
theorem dX3_as_13 : decode cX3_as 13 = .ok (.iconst 4, 1) := by decide +kernel
theorem dX3_as_14 : decode cX3_as 14 = .ok (.invokestatic 68, 3) := by decide +kernel
theorem dX3_as_17 : decode cX3_as 17 = .ok (.ifCond .ne 6, 3) := by decide +kernel
theorem dX3_as_20 : decode cX3_as 20 = .ok (.bipush (-102), 2) := by decide +kernel
theorem dX3_as_22 : decode cX3_as 22 = .ok (.ireturn, 1) := by decide +kernel
theorem dX3_as_23 : decode cX3_as 23 = .ok (.aload_n 0, 1) := by decide +kernel
theorem dX3_as_24 : decode cX3_as 24 = .ok (.getfield 7, 3) := by decide +kernel
theorem dX3_as_27 : decode cX3_as 27 = .ok (.iload_n 1, 1) := by decide +kernel
theorem dX3_as_28 : decode cX3_as 28 = .ok (.iaload, 1) := by decide +kernel
theorem dX3_as_29 : decode cX3_as 29 = .ok (.istore_n 3, 1) := by decide +kernel
theorem dX3_as_30 : decode cX3_as 30 = .ok (.iload_n 2, 1) := by decide +kernel
theorem dX3_as_31 : decode cX3_as 31 = .ok (.ifCond .eq 18, 3) := by decide +kernel
theorem dX3_as_34 : decode cX3_as 34 = .ok (.iload_n 3, 1) := by decide +kernel
theorem dX3_as_35 : decode cX3_as 35 = .ok (.iload_n 2, 1) := by decide +kernel
theorem dX3_as_36 : decode cX3_as 36 = .ok (.if_icmp .eq 13, 3) := by decide +kernel
theorem dX3_as_39 : decode cX3_as 39 = .ok (.iload_n 2, 1) := by decide +kernel
theorem dX3_as_40 : decode cX3_as 40 = .ok (.iconst 2, 1) := by decide +kernel
theorem dX3_as_41 : decode cX3_as 41 = .ok (.if_icmp .ne 12, 3) := by decide +kernel
theorem dX3_as_44 : decode cX3_as 44 = .ok (.iload_n 3, 1) := by decide +kernel
theorem dX3_as_45 : decode cX3_as 45 = .ok (.iconst 4, 1) := by decide +kernel
theorem dX3_as_46 : decode cX3_as 46 = .ok (.if_icmp .ne 7, 3) := by decide +kernel
theorem dX3_as_49 : decode cX3_as 49 = .ok (.iload_n 1, 1) := by decide +kernel
theorem dX3_as_50 : decode cX3_as 50 = .ok (.goto 4, 3) := by decide +kernel
theorem dX3_as_53 : decode cX3_as 53 = .ok (.iconst (-1), 1) := by decide +kernel
theorem dX3_as_54 : decode cX3_as 54 = .ok (.ireturn, 1) := by decide +kernel
set_option maxRecDepth 20000 in
theorem ggX3_bring_X3_isSite : GoodIn wsX3_bring wsX3_isSite := goodIn_r _ [8, 9, 10, 11, 7, 12, 16, 17, 18, 19, 20, 21, 22, 23, 24, 25, 26, 27, 28, 29, 30, 31, 32, 33, 34, 35, 36, 37, 38, 39, 40, 41, 42, 43, 44, 45, 46, 47, 48, 49, 50, 51, 52, 53, 54, 55] (by decide +kernel) (by decide +kernel)
set_option maxRecDepth 20000 in
theorem gX3_bring_X3_isSite : GoodIn wsX3_bring (wsV RX3 126 RX3 yX3_isSite wsX3_isSite) := goodIn_app (goodIn_of _ (by decide +kernel)) ggX3_bring_X3_isSite
set_option maxRecDepth 20000 in
theorem ggX3_bring_X3_within : GoodIn wsX3_bring wsX3_within := goodIn_r _ [12] (by decide +kernel) (by decide +kernel)
set_option maxRecDepth 20000 in
theorem gX3_bring_X3_within : GoodIn wsX3_bring (va_wsS RX3 68 yX3_within wsX3_within) := goodIn_app (goodIn_of _ (by decide +kernel)) ggX3_bring_X3_within
set_option maxRecDepth 20000 in
theorem ggX3_bring_X3_atMost : GoodIn wsX3_bring wsX3_atMost := goodIn_r _ [15] (by decide +kernel) (by decide +kernel)
set_option maxRecDepth 20000 in
theorem gX3_bring_X3_atMost : GoodIn wsX3_bring (va_wsS RX3 133 yX3_atMost wsX3_atMost) := goodIn_app (goodIn_of _ (by decide +kernel)) ggX3_bring_X3_atMost
theorem dX3_bring_0 : decode cX3_bring 0 = .ok (.aload_n 0, 1) := by decide +kernel
theorem dX3_bring_1 : decode cX3_bring 1 = .ok (.iload_n 1, 1) := by decide +kernel
theorem dX3_bring_2 : decode cX3_bring 2 = .ok (.invokevirtual 126, 3) := by decide +kernel
theorem dX3_bring_5 : decode cX3_bring 5 = .ok (.ifCond .ne 6, 3) := by decide +kernel
theorem dX3_bring_8 : decode cX3_bring 8 = .ok (.bipush (-101), 2) := by decide +kernel
theorem dX3_bring_10 : decode cX3_bring 10 = .ok (.ireturn, 1) := by decide +kernel
theorem dX3_bring_11 : decode cX3_bring 11 = .ok (.iload_n 2, 1) := by decide +kernel
theorem dX3_bring_12 : decode cX3_bring 12 = .ok (.iconst 1, 1) := by decide +kernel
theorem dX3_bring_13 : decode cX3_bring 13 = .ok (.bipush 9, 2) := by decide +kernel
theorem dX3_bring_15 : decode cX3_bring 15 = .ok (.invokestatic 68, 3) := by decide +kernel
theorem dX3_bring_18 : decode cX3_bring 18 = .ok (.ifCond .ne 6, 3) := by decide +kernel
theorem dX3_bring_21 : decode cX3_bring 21 = .ok (.bipush (-102), 2) := by decide +kernel
theorem dX3_bring_23 : decode cX3_bring 23 = .ok (.ireturn, 1) := by decide +kernel
theorem dX3_bring_24 : decode cX3_bring 24 = .ok (.aload_n 0, 1) := by decide +kernel
theorem dX3_bring_25 : decode cX3_bring 25 = .ok (.getfield 22, 3) := by decide +kernel
theorem dX3_bring_28 : decode cX3_bring 28 = .ok (.iload_n 1, 1) := by decide +kernel
theorem dX3_bring_29 : decode cX3_bring 29 = .ok (.iaload, 1) := by decide +kernel
theorem dX3_bring_30 : decode cX3_bring 30 = .ok (.iload_n 2, 1) := by decide +kernel
theorem dX3_bring_31 : decode cX3_bring 31 = .ok (.iadd, 1) := by decide +kernel
theorem dX3_bring_32 : decode cX3_bring 32 = .ok (.bipush 99, 2) := by decide +kernel
theorem dX3_bring_34 : decode cX3_bring 34 = .ok (.if_icmp .le 6, 3) := by decide +kernel
theorem dX3_bring_37 : decode cX3_bring 37 = .ok (.bipush (-104), 2) := by decide +kernel
theorem dX3_bring_39 : decode cX3_bring 39 = .ok (.ireturn, 1) := by decide +kernel
theorem dX3_bring_40 : decode cX3_bring 40 = .ok (.aload_n 0, 1) := by decide +kernel
theorem dX3_bring_41 : decode cX3_bring 41 = .ok (.getfield 22, 3) := by decide +kernel
theorem dX3_bring_44 : decode cX3_bring 44 = .ok (.iload_n 1, 1) := by decide +kernel
theorem dX3_bring_45 : decode cX3_bring 45 = .ok (.dup2, 1) := by decide +kernel
theorem dX3_bring_46 : decode cX3_bring 46 = .ok (.iaload, 1) := by decide +kernel
theorem dX3_bring_47 : decode cX3_bring 47 = .ok (.iload_n 2, 1) := by decide +kernel
theorem dX3_bring_48 : decode cX3_bring 48 = .ok (.iadd, 1) := by decide +kernel
theorem dX3_bring_49 : decode cX3_bring 49 = .ok (.iastore, 1) := by decide +kernel
theorem dX3_bring_50 : decode cX3_bring 50 = .ok (.aload_n 0, 1) := by decide +kernel
theorem dX3_bring_51 : decode cX3_bring 51 = .ok (.getfield 16, 3) := by decide +kernel
theorem dX3_bring_54 : decode cX3_bring 54 = .ok (.iload_n 1, 1) := by decide +kernel
theorem dX3_bring_55 : decode cX3_bring 55 = .ok (.aload_n 0, 1) := by decide +kernel
theorem dX3_bring_56 : decode cX3_bring 56 = .ok (.getfield 16, 3) := by decide +kernel
theorem dX3_bring_59 : decode cX3_bring 59 = .ok (.iload_n 1, 1) := by decide +kernel
theorem dX3_bring_60 : decode cX3_bring 60 = .ok (.iaload, 1) := by decide +kernel
theorem dX3_bring_61 : decode cX3_bring 61 = .ok (.iload_n 2, 1) := by decide +kernel
theorem dX3_bring_62 : decode cX3_bring 62 = .ok (.iadd, 1) := by decide +kernel
theorem dX3_bring_63 : decode cX3_bring 63 = .ok (.invokestatic 133, 3) := by decide +kernel
theorem dX3_bring_66 : decode cX3_bring 66 = .ok (.iastore, 1) := by decide +kernel
theorem dX3_bring_67 : decode cX3_bring 67 = .ok (.aload_n 0, 1) := by decide +kernel
theorem dX3_bring_68 : decode cX3_bring 68 = .ok (.dup, 1) := by decide +kernel
theorem dX3_bring_69 : decode cX3_bring 69 = .ok (.getfield 109, 3) := by decide +kernel
theorem dX3_bring_72 : decode cX3_bring 72 = .ok (.iload_n 2, 1) := by decide +kernel
theorem dX3_bring_73 : decode cX3_bring 73 = .ok (.iload_n 1, 1) := by decide +kernel
theorem dX3_bring_74 : decode cX3_bring 74 = .ok (.iconst 1, 1) := by decide +kernel
theorem dX3_bring_75 : decode cX3_bring 75 = .ok (.iadd, 1) := by decide +kernel
theorem dX3_bring_76 : decode cX3_bring 76 = .ok (.imul, 1) := by decide +kernel
theorem dX3_bring_77 : decode cX3_bring 77 = .ok (.iadd, 1) := by decide +kernel
theorem dX3_bring_78 : decode cX3_bring 78 = .ok (.putfield 109, 3) := by decide +kernel
theorem dX3_bring_81 : decode cX3_bring 81 = .ok (.aload_n 0, 1) := by decide +kernel
theorem dX3_bring_82 : decode cX3_bring 82 = .ok (.getfield 16, 3) := by decide +kernel
theorem dX3_bring_85 : decode cX3_bring 85 = .ok (.iload_n 1, 1) := by decide +kernel
theorem dX3_bring_86 : decode cX3_bring 86 = .ok (.iaload, 1) := by decide +kernel
theorem dX3_bring_87 : decode cX3_bring 87 = .ok (.ireturn, 1) := by decide +kernel
set_option maxRecDepth 20000 in
theorem ggX3_tread_X3_isSite : GoodIn wsX3_tread wsX3_isSite := goodIn_r _ [6, 7, 8, 9, 5, 10, 11, 12, 13, 14, 15, 16, 17, 18, 19, 20, 21, 22, 23, 24, 25, 26, 27, 28, 29, 30, 31, 32, 33, 34, 35, 36, 37, 38, 39, 40, 41, 42, 43, 44, 45, 46, 47, 48, 49, 50] (by decide +kernel) (by decide +kernel)
set_option maxRecDepth 20000 in
theorem gX3_tread_X3_isSite : GoodIn wsX3_tread (wsV RX3 126 RX3 yX3_isSite wsX3_isSite) := goodIn_app (goodIn_of _ (by decide +kernel)) ggX3_tread_X3_isSite
set_option maxRecDepth 20000 in
theorem ggX3_tread_X3_within : GoodIn wsX3_tread wsX3_within := goodIn_r _ [10] (by decide +kernel) (by decide +kernel)
set_option maxRecDepth 20000 in
theorem gX3_tread_X3_within : GoodIn wsX3_tread (va_wsS RX3 68 yX3_within wsX3_within) := goodIn_app (goodIn_of _ (by decide +kernel)) ggX3_tread_X3_within
theorem dX3_tread_0 : decode cX3_tread 0 = .ok (.aload_n 0, 1) := by decide +kernel
theorem dX3_tread_1 : decode cX3_tread 1 = .ok (.iload_n 1, 1) := by decide +kernel
theorem dX3_tread_2 : decode cX3_tread 2 = .ok (.invokevirtual 126, 3) := by decide +kernel
theorem dX3_tread_5 : decode cX3_tread 5 = .ok (.ifCond .ne 6, 3) := by decide +kernel
theorem dX3_tread_8 : decode cX3_tread 8 = .ok (.bipush (-101), 2) := by decide +kernel
theorem dX3_tread_10 : decode cX3_tread 10 = .ok (.ireturn, 1) := by decide +kernel
theorem dX3_tread_11 : decode cX3_tread 11 = .ok (.iload_n 2, 1) := by decide +kernel
theorem dX3_tread_12 : decode cX3_tread 12 = .ok (.iconst 0, 1) := by decide +kernel
theorem dX3_tread_13 : decode cX3_tread 13 = .ok (.bipush 9, 2) := by decide +kernel
theorem dX3_tread_15 : decode cX3_tread 15 = .ok (.invokestatic 68, 3) := by decide +kernel
theorem dX3_tread_18 : decode cX3_tread 18 = .ok (.ifCond .ne 6, 3) := by decide +kernel
theorem dX3_tread_21 : decode cX3_tread 21 = .ok (.bipush (-102), 2) := by decide +kernel
theorem dX3_tread_23 : decode cX3_tread 23 = .ok (.ireturn, 1) := by decide +kernel
theorem dX3_tread_24 : decode cX3_tread 24 = .ok (.aload_n 0, 1) := by decide +kernel
theorem dX3_tread_25 : decode cX3_tread 25 = .ok (.getfield 25, 3) := by decide +kernel
theorem dX3_tread_28 : decode cX3_tread 28 = .ok (.iload_n 1, 1) := by decide +kernel
theorem dX3_tread_29 : decode cX3_tread 29 = .ok (.iaload, 1) := by decide +kernel
theorem dX3_tread_30 : decode cX3_tread 30 = .ok (.istore_n 3, 1) := by decide +kernel
theorem dX3_tread_31 : decode cX3_tread 31 = .ok (.aload_n 0, 1) := by decide +kernel
theorem dX3_tread_32 : decode cX3_tread 32 = .ok (.getfield 25, 3) := by decide +kernel
theorem dX3_tread_35 : decode cX3_tread 35 = .ok (.iload_n 1, 1) := by decide +kernel
theorem dX3_tread_36 : decode cX3_tread 36 = .ok (.iload_n 2, 1) := by decide +kernel
theorem dX3_tread_37 : decode cX3_tread 37 = .ok (.iastore, 1) := by decide +kernel
theorem dX3_tread_38 : decode cX3_tread 38 = .ok (.iload_n 3, 1) := by decide +kernel
theorem dX3_tread_39 : decode cX3_tread 39 = .ok (.ireturn, 1) := by decide +kernel
set_option maxRecDepth 20000 in
theorem ggX3_sun_X3_within : GoodIn wsX3_sun wsX3_within := goodIn_r _ [6] (by decide +kernel) (by decide +kernel)
set_option maxRecDepth 20000 in
theorem gX3_sun_X3_within : GoodIn wsX3_sun (va_wsS RX3 68 yX3_within wsX3_within) := goodIn_app (goodIn_of _ (by decide +kernel)) ggX3_sun_X3_within
theorem dX3_sun_0 : decode cX3_sun 0 = .ok (.iload_n 1, 1) := by decide +kernel
theorem dX3_sun_1 : decode cX3_sun 1 = .ok (.iconst 0, 1) := by decide +kernel
theorem dX3_sun_2 : decode cX3_sun 2 = .ok (.bipush 9, 2) := by decide +kernel
theorem dX3_sun_4 : decode cX3_sun 4 = .ok (.invokestatic 68, 3) := by decide +kernel
theorem dX3_sun_7 : decode cX3_sun 7 = .ok (.ifCond .ne 6, 3) := by decide +kernel
theorem dX3_sun_10 : decode cX3_sun 10 = .ok (.bipush (-102), 2) := by decide +kernel
theorem dX3_sun_12 : decode cX3_sun 12 = .ok (.ireturn, 1) := by decide +kernel
theorem dX3_sun_13 : decode cX3_sun 13 = .ok (.aload_n 0, 1) := by decide +kernel
theorem dX3_sun_14 : decode cX3_sun 14 = .ok (.getfield 94, 3) := by decide +kernel
theorem dX3_sun_17 : decode cX3_sun 17 = .ok (.ifCond .ne 6, 3) := by decide +kernel
theorem dX3_sun_20 : decode cX3_sun 20 = .ok (.bipush (-103), 2) := by decide +kernel
theorem dX3_sun_22 : decode cX3_sun 22 = .ok (.ireturn, 1) := by decide +kernel
theorem dX3_sun_23 : decode cX3_sun 23 = .ok (.aload_n 0, 1) := by decide +kernel
theorem dX3_sun_24 : decode cX3_sun 24 = .ok (.getfield 97, 3) := by decide +kernel
theorem dX3_sun_27 : decode cX3_sun 27 = .ok (.istore_n 2, 1) := by decide +kernel
theorem dX3_sun_28 : decode cX3_sun 28 = .ok (.aload_n 0, 1) := by decide +kernel
theorem dX3_sun_29 : decode cX3_sun 29 = .ok (.iload_n 1, 1) := by decide +kernel
theorem dX3_sun_30 : decode cX3_sun 30 = .ok (.putfield 97, 3) := by decide +kernel
theorem dX3_sun_33 : decode cX3_sun 33 = .ok (.iload_n 2, 1) := by decide +kernel
theorem dX3_sun_34 : decode cX3_sun 34 = .ok (.ireturn, 1) := by decide +kernel
set_option maxRecDepth 20000 in
theorem ggX3_keptNow_X3_isKept : GoodIn wsX3_keptNow wsX3_isKept := goodIn_r _ [7, 8, 9, 10, 11, 12, 13, 14, 15, 16, 17, 18, 19, 20, 21, 22, 23, 24, 25, 26, 27, 28, 29, 30, 31, 32, 33, 34, 35, 36, 37, 38, 39, 40, 41, 42, 43, 44, 45, 46, 47, 48] (by decide +kernel) (by decide +kernel)
set_option maxRecDepth 20000 in
theorem gX3_keptNow_X3_isKept : GoodIn wsX3_keptNow (wsV RX3 122 RX3 yX3_isKept wsX3_isKept) := goodIn_app (goodIn_of _ (by decide +kernel)) ggX3_keptNow_X3_isKept
theorem dX3_keptNow_0 : decode cX3_keptNow 0 = .ok (.iconst 0, 1) := by decide +kernel
theorem dX3_keptNow_1 : decode cX3_keptNow 1 = .ok (.istore_n 1, 1) := by decide +kernel
theorem dX3_keptNow_2 : decode cX3_keptNow 2 = .ok (.iconst 0, 1) := by decide +kernel
theorem dX3_keptNow_3 : decode cX3_keptNow 3 = .ok (.istore_n 2, 1) := by decide +kernel
theorem dX3_keptNow_4 : decode cX3_keptNow 4 = .ok (.iload_n 2, 1) := by decide +kernel
theorem dX3_keptNow_5 : decode cX3_keptNow 5 = .ok (.aload_n 0, 1) := by decide +kernel
theorem dX3_keptNow_6 : decode cX3_keptNow 6 = .ok (.getfield 94, 3) := by decide +kernel
theorem dX3_keptNow_9 : decode cX3_keptNow 9 = .ok (.if_icmp .ge 31, 3) := by decide +kernel
theorem dX3_keptNow_12 : decode cX3_keptNow 12 = .ok (.iload_n 1, 1) := by decide +kernel
theorem dX3_keptNow_13 : decode cX3_keptNow 13 = .ok (.aload_n 0, 1) := by decide +kernel
theorem dX3_keptNow_14 : decode cX3_keptNow 14 = .ok (.iload_n 2, 1) := by decide +kernel
theorem dX3_keptNow_15 : decode cX3_keptNow 15 = .ok (.aload_n 0, 1) := by decide +kernel
theorem dX3_keptNow_16 : decode cX3_keptNow 16 = .ok (.getfield 16, 3) := by decide +kernel
theorem dX3_keptNow_19 : decode cX3_keptNow 19 = .ok (.iload_n 2, 1) := by decide +kernel
theorem dX3_keptNow_20 : decode cX3_keptNow 20 = .ok (.iaload, 1) := by decide +kernel
theorem dX3_keptNow_21 : decode cX3_keptNow 21 = .ok (.invokevirtual 122, 3) := by decide +kernel
theorem dX3_keptNow_24 : decode cX3_keptNow 24 = .ok (.ifCond .eq 7, 3) := by decide +kernel
theorem dX3_keptNow_27 : decode cX3_keptNow 27 = .ok (.iconst 1, 1) := by decide +kernel
theorem dX3_keptNow_28 : decode cX3_keptNow 28 = .ok (.goto 4, 3) := by decide +kernel
theorem dX3_keptNow_31 : decode cX3_keptNow 31 = .ok (.iconst 0, 1) := by decide +kernel
theorem dX3_keptNow_32 : decode cX3_keptNow 32 = .ok (.iadd, 1) := by decide +kernel
theorem dX3_keptNow_33 : decode cX3_keptNow 33 = .ok (.istore_n 1, 1) := by decide +kernel
theorem dX3_keptNow_34 : decode cX3_keptNow 34 = .ok (.iinc 2 1, 3) := by decide +kernel
theorem dX3_keptNow_37 : decode cX3_keptNow 37 = .ok (.goto (-33), 3) := by decide +kernel
theorem dX3_keptNow_40 : decode cX3_keptNow 40 = .ok (.iload_n 1, 1) := by decide +kernel
theorem dX3_keptNow_41 : decode cX3_keptNow 41 = .ok (.ireturn, 1) := by decide +kernel
set_option maxRecDepth 20000 in
theorem ggX3_melt_X3_meltsBy : GoodIn wsX3_melt wsX3_meltsBy := goodIn_r _ [7, 8, 9, 10, 11, 6, 12, 13, 14, 15, 16, 17, 18, 19, 20, 21, 22, 23, 24, 25, 26, 27, 28, 29, 30, 31, 32, 33, 34, 35, 36, 37, 38, 39, 40, 41, 42, 43, 44, 45, 46, 47, 48, 49, 50, 51, 52] (by decide +kernel) (by decide +kernel)
set_option maxRecDepth 20000 in
theorem gX3_melt_X3_meltsBy : GoodIn wsX3_melt (wsV RX3 118 RX3 yX3_meltsBy wsX3_meltsBy) := goodIn_app (goodIn_of _ (by decide +kernel)) ggX3_melt_X3_meltsBy
set_option maxRecDepth 20000 in
theorem ggX3_melt_X3_notBelow : GoodIn wsX3_melt wsX3_notBelow := goodIn_r _ [12] (by decide +kernel) (by decide +kernel)
set_option maxRecDepth 20000 in
theorem gX3_melt_X3_notBelow : GoodIn wsX3_melt (va_wsS RX3 115 yX3_notBelow wsX3_notBelow) := goodIn_app (goodIn_of _ (by decide +kernel)) ggX3_melt_X3_notBelow
theorem dX3_melt_0 : decode cX3_melt 0 = .ok (.iconst 0, 1) := by decide +kernel
theorem dX3_melt_1 : decode cX3_melt 1 = .ok (.istore_n 2, 1) := by decide +kernel
theorem dX3_melt_2 : decode cX3_melt 2 = .ok (.iload_n 2, 1) := by decide +kernel
theorem dX3_melt_3 : decode cX3_melt 3 = .ok (.aload_n 0, 1) := by decide +kernel
theorem dX3_melt_4 : decode cX3_melt 4 = .ok (.getfield 94, 3) := by decide +kernel
theorem dX3_melt_7 : decode cX3_melt 7 = .ok (.if_icmp .ge 31, 3) := by decide +kernel
theorem dX3_melt_10 : decode cX3_melt 10 = .ok (.aload_n 0, 1) := by decide +kernel
theorem dX3_melt_11 : decode cX3_melt 11 = .ok (.getfield 16, 3) := by decide +kernel
theorem dX3_melt_14 : decode cX3_melt 14 = .ok (.iload_n 2, 1) := by decide +kernel
theorem dX3_melt_15 : decode cX3_melt 15 = .ok (.aload_n 0, 1) := by decide +kernel
theorem dX3_melt_16 : decode cX3_melt 16 = .ok (.getfield 16, 3) := by decide +kernel
theorem dX3_melt_19 : decode cX3_melt 19 = .ok (.iload_n 2, 1) := by decide +kernel
theorem dX3_melt_20 : decode cX3_melt 20 = .ok (.iaload, 1) := by decide +kernel
theorem dX3_melt_21 : decode cX3_melt 21 = .ok (.aload_n 0, 1) := by decide +kernel
theorem dX3_melt_22 : decode cX3_melt 22 = .ok (.iload_n 2, 1) := by decide +kernel
theorem dX3_melt_23 : decode cX3_melt 23 = .ok (.iload_n 1, 1) := by decide +kernel
theorem dX3_melt_24 : decode cX3_melt 24 = .ok (.invokevirtual 118, 3) := by decide +kernel
theorem dX3_melt_27 : decode cX3_melt 27 = .ok (.isub, 1) := by decide +kernel
theorem dX3_melt_28 : decode cX3_melt 28 = .ok (.invokestatic 115, 3) := by decide +kernel
theorem dX3_melt_31 : decode cX3_melt 31 = .ok (.iastore, 1) := by decide +kernel
theorem dX3_melt_32 : decode cX3_melt 32 = .ok (.iinc 2 1, 3) := by decide +kernel
theorem dX3_melt_35 : decode cX3_melt 35 = .ok (.goto (-33), 3) := by decide +kernel
theorem dX3_melt_38 : decode cX3_melt 38 = .ok (.return_, 1) := by decide +kernel
set_option maxRecDepth 20000 in
theorem ggX3_day_X3_melt : GoodIn wsX3_day wsX3_melt := goodIn_r _ [12, 1, 4, 13, 14, 15, 11, 16, 17, 18, 19, 20, 21, 31, 32, 33, 34, 35, 36, 37, 38, 39, 40, 41, 42, 43, 44, 45, 46, 47, 48, 49, 50, 51, 52, 53, 54, 55, 56, 57, 58, 59, 60, 61, 62, 63, 64, 65, 66, 67, 68, 69, 70] (by decide +kernel) (by decide +kernel)
set_option maxRecDepth 20000 in
theorem gX3_day_X3_melt : GoodIn wsX3_day (wsV RX3 136 RX3 yX3_melt wsX3_melt) := goodIn_app (goodIn_of _ (by decide +kernel)) ggX3_day_X3_melt
set_option maxRecDepth 20000 in
theorem ggX3_day_X3_keptNow : GoodIn wsX3_day wsX3_keptNow := goodIn_r _ [25, 1, 4, 26, 27, 28, 11, 29, 30, 31, 32, 33, 34, 35, 36, 37, 38, 39, 40, 41, 42, 43, 44, 45, 46, 47, 48, 49, 50, 51, 52, 53, 54, 55, 56, 57, 58, 59, 60, 61, 62, 63, 64, 65, 66, 67, 68, 69, 70] (by decide +kernel) (by decide +kernel)
set_option maxRecDepth 20000 in
theorem gX3_day_X3_keptNow : GoodIn wsX3_day (wsV RX3 140 RX3 yX3_keptNow wsX3_keptNow) := goodIn_app (goodIn_of _ (by decide +kernel)) ggX3_day_X3_keptNow
theorem dX3_day_0 : decode cX3_day 0 = .ok (.aload_n 0, 1) := by decide +kernel
theorem dX3_day_1 : decode cX3_day 1 = .ok (.getfield 94, 3) := by decide +kernel
theorem dX3_day_4 : decode cX3_day 4 = .ok (.ifCond .ne 6, 3) := by decide +kernel
theorem dX3_day_7 : decode cX3_day 7 = .ok (.bipush (-103), 2) := by decide +kernel
theorem dX3_day_9 : decode cX3_day 9 = .ok (.ireturn, 1) := by decide +kernel
theorem dX3_day_10 : decode cX3_day 10 = .ok (.aload_n 0, 1) := by decide +kernel
theorem dX3_day_11 : decode cX3_day 11 = .ok (.aload_n 0, 1) := by decide +kernel
theorem dX3_day_12 : decode cX3_day 12 = .ok (.getfield 97, 3) := by decide +kernel
theorem dX3_day_15 : decode cX3_day 15 = .ok (.invokevirtual 136, 3) := by decide +kernel
theorem dX3_day_18 : decode cX3_day 18 = .ok (.iconst 0, 1) := by decide +kernel
theorem dX3_day_19 : decode cX3_day 19 = .ok (.istore_n 1, 1) := by decide +kernel
theorem dX3_day_20 : decode cX3_day 20 = .ok (.iload_n 1, 1) := by decide +kernel
theorem dX3_day_21 : decode cX3_day 21 = .ok (.aload_n 0, 1) := by decide +kernel
theorem dX3_day_22 : decode cX3_day 22 = .ok (.getfield 94, 3) := by decide +kernel
theorem dX3_day_25 : decode cX3_day 25 = .ok (.if_icmp .ge 28, 3) := by decide +kernel
theorem dX3_day_28 : decode cX3_day 28 = .ok (.aload_n 0, 1) := by decide +kernel
theorem dX3_day_29 : decode cX3_day 29 = .ok (.getfield 19, 3) := by decide +kernel
theorem dX3_day_32 : decode cX3_day 32 = .ok (.iload_n 1, 1) := by decide +kernel
theorem dX3_day_33 : decode cX3_day 33 = .ok (.aload_n 0, 1) := by decide +kernel
theorem dX3_day_34 : decode cX3_day 34 = .ok (.getfield 16, 3) := by decide +kernel
theorem dX3_day_37 : decode cX3_day 37 = .ok (.iload_n 1, 1) := by decide +kernel
theorem dX3_day_38 : decode cX3_day 38 = .ok (.iaload, 1) := by decide +kernel
theorem dX3_day_39 : decode cX3_day 39 = .ok (.iastore, 1) := by decide +kernel
theorem dX3_day_40 : decode cX3_day 40 = .ok (.aload_n 0, 1) := by decide +kernel
theorem dX3_day_41 : decode cX3_day 41 = .ok (.getfield 22, 3) := by decide +kernel
theorem dX3_day_44 : decode cX3_day 44 = .ok (.iload_n 1, 1) := by decide +kernel
theorem dX3_day_45 : decode cX3_day 45 = .ok (.iconst 0, 1) := by decide +kernel
theorem dX3_day_46 : decode cX3_day 46 = .ok (.iastore, 1) := by decide +kernel
theorem dX3_day_47 : decode cX3_day 47 = .ok (.iinc 1 1, 3) := by decide +kernel
theorem dX3_day_50 : decode cX3_day 50 = .ok (.goto (-30), 3) := by decide +kernel
theorem dX3_day_53 : decode cX3_day 53 = .ok (.aload_n 0, 1) := by decide +kernel
theorem dX3_day_54 : decode cX3_day 54 = .ok (.dup, 1) := by decide +kernel
theorem dX3_day_55 : decode cX3_day 55 = .ok (.getfield 103, 3) := by decide +kernel
theorem dX3_day_58 : decode cX3_day 58 = .ok (.iconst 1, 1) := by decide +kernel
theorem dX3_day_59 : decode cX3_day 59 = .ok (.iadd, 1) := by decide +kernel
theorem dX3_day_60 : decode cX3_day 60 = .ok (.putfield 103, 3) := by decide +kernel
theorem dX3_day_63 : decode cX3_day 63 = .ok (.aload_n 0, 1) := by decide +kernel
theorem dX3_day_64 : decode cX3_day 64 = .ok (.dup, 1) := by decide +kernel
theorem dX3_day_65 : decode cX3_day 65 = .ok (.getfield 106, 3) := by decide +kernel
theorem dX3_day_68 : decode cX3_day 68 = .ok (.aload_n 0, 1) := by decide +kernel
theorem dX3_day_69 : decode cX3_day 69 = .ok (.invokevirtual 140, 3) := by decide +kernel
theorem dX3_day_72 : decode cX3_day 72 = .ok (.iadd, 1) := by decide +kernel
theorem dX3_day_73 : decode cX3_day 73 = .ok (.putfield 106, 3) := by decide +kernel
theorem dX3_day_76 : decode cX3_day 76 = .ok (.aload_n 0, 1) := by decide +kernel
theorem dX3_day_77 : decode cX3_day 77 = .ok (.invokevirtual 140, 3) := by decide +kernel
theorem dX3_day_80 : decode cX3_day 80 = .ok (.ireturn, 1) := by decide +kernel
set_option maxRecDepth 20000 in
theorem ggX3_isKeptFor_X3_atMost : GoodIn wsX3_isKeptFor wsX3_atMost := goodIn_r _ [6] (by decide +kernel) (by decide +kernel)
set_option maxRecDepth 20000 in
theorem gX3_isKeptFor_X3_atMost : GoodIn wsX3_isKeptFor (va_wsS RX3 133 yX3_atMost wsX3_atMost) := goodIn_app (goodIn_of _ (by decide +kernel)) ggX3_isKeptFor_X3_atMost
set_option maxRecDepth 20000 in
theorem ggX3_isKeptFor_X3_isKept : GoodIn wsX3_isKeptFor wsX3_isKept := goodIn_r _ [10, 11, 21, 22, 23, 24, 25, 26, 27, 28, 29, 30, 31, 32, 33, 34, 35, 36, 37, 38, 39, 40, 41, 42, 43, 44, 45, 46, 47, 48, 49, 50, 51, 52, 53, 54, 55, 56, 57, 58, 59, 60] (by decide +kernel) (by decide +kernel)
set_option maxRecDepth 20000 in
theorem gX3_isKeptFor_X3_isKept : GoodIn wsX3_isKeptFor (wsV RX3 122 RX3 yX3_isKept wsX3_isKept) := goodIn_app (goodIn_of _ (by decide +kernel)) ggX3_isKeptFor_X3_isKept
set_option maxRecDepth 20000 in
theorem ggX3_isKeptFor_X3_meltsBy : GoodIn wsX3_isKeptFor wsX3_meltsBy := goodIn_r _ [15, 16, 17, 18, 19, 5, 20, 21, 22, 23, 24, 25, 26, 27, 28, 29, 30, 31, 32, 33, 34, 35, 36, 37, 38, 39, 40, 41, 42, 43, 44, 45, 46, 47, 48, 49, 50, 51, 52, 53, 54, 55, 56, 57, 58, 59, 60] (by decide +kernel) (by decide +kernel)
set_option maxRecDepth 20000 in
theorem gX3_isKeptFor_X3_meltsBy : GoodIn wsX3_isKeptFor (wsV RX3 118 RX3 yX3_meltsBy wsX3_meltsBy) := goodIn_app (goodIn_of _ (by decide +kernel)) ggX3_isKeptFor_X3_meltsBy
set_option maxRecDepth 20000 in
theorem ggX3_isKeptFor_X3_notBelow : GoodIn wsX3_isKeptFor wsX3_notBelow := goodIn_r _ [20] (by decide +kernel) (by decide +kernel)
set_option maxRecDepth 20000 in
theorem gX3_isKeptFor_X3_notBelow : GoodIn wsX3_isKeptFor (va_wsS RX3 115 yX3_notBelow wsX3_notBelow) := goodIn_app (goodIn_of _ (by decide +kernel)) ggX3_isKeptFor_X3_notBelow
theorem dX3_isKeptFor_0 : decode cX3_isKeptFor 0 = .ok (.aload_n 0, 1) := by decide +kernel
theorem dX3_isKeptFor_1 : decode cX3_isKeptFor 1 = .ok (.getfield 16, 3) := by decide +kernel
theorem dX3_isKeptFor_4 : decode cX3_isKeptFor 4 = .ok (.iload_n 1, 1) := by decide +kernel
theorem dX3_isKeptFor_5 : decode cX3_isKeptFor 5 = .ok (.iaload, 1) := by decide +kernel
theorem dX3_isKeptFor_6 : decode cX3_isKeptFor 6 = .ok (.iload_n 2, 1) := by decide +kernel
theorem dX3_isKeptFor_7 : decode cX3_isKeptFor 7 = .ok (.iadd, 1) := by decide +kernel
theorem dX3_isKeptFor_8 : decode cX3_isKeptFor 8 = .ok (.invokestatic 133, 3) := by decide +kernel
theorem dX3_isKeptFor_11 : decode cX3_isKeptFor 11 = .ok (.istore 4, 2) := by decide +kernel
theorem dX3_isKeptFor_13 : decode cX3_isKeptFor 13 = .ok (.iload_n 3, 1) := by decide +kernel
theorem dX3_isKeptFor_14 : decode cX3_isKeptFor 14 = .ok (.ifCond .gt 13, 3) := by decide +kernel
theorem dX3_isKeptFor_17 : decode cX3_isKeptFor 17 = .ok (.aload_n 0, 1) := by decide +kernel
theorem dX3_isKeptFor_18 : decode cX3_isKeptFor 18 = .ok (.iload_n 1, 1) := by decide +kernel
theorem dX3_isKeptFor_19 : decode cX3_isKeptFor 19 = .ok (.iload 4, 2) := by decide +kernel
theorem dX3_isKeptFor_21 : decode cX3_isKeptFor 21 = .ok (.invokevirtual 122, 3) := by decide +kernel
theorem dX3_isKeptFor_24 : decode cX3_isKeptFor 24 = .ok (.ifCond .eq 7, 3) := by decide +kernel
theorem dX3_isKeptFor_27 : decode cX3_isKeptFor 27 = .ok (.iconst 1, 1) := by decide +kernel
theorem dX3_isKeptFor_28 : decode cX3_isKeptFor 28 = .ok (.goto 4, 3) := by decide +kernel
theorem dX3_isKeptFor_31 : decode cX3_isKeptFor 31 = .ok (.iconst 0, 1) := by decide +kernel
theorem dX3_isKeptFor_32 : decode cX3_isKeptFor 32 = .ok (.istore 5, 2) := by decide +kernel
theorem dX3_isKeptFor_34 : decode cX3_isKeptFor 34 = .ok (.iconst 0, 1) := by decide +kernel
theorem dX3_isKeptFor_35 : decode cX3_isKeptFor 35 = .ok (.istore 6, 2) := by decide +kernel
theorem dX3_isKeptFor_37 : decode cX3_isKeptFor 37 = .ok (.iload 6, 2) := by decide +kernel
theorem dX3_isKeptFor_39 : decode cX3_isKeptFor 39 = .ok (.iload_n 3, 1) := by decide +kernel
theorem dX3_isKeptFor_40 : decode cX3_isKeptFor 40 = .ok (.if_icmp .ge 48, 3) := by decide +kernel
theorem dX3_isKeptFor_43 : decode cX3_isKeptFor 43 = .ok (.iload 4, 2) := by decide +kernel
theorem dX3_isKeptFor_45 : decode cX3_isKeptFor 45 = .ok (.aload_n 0, 1) := by decide +kernel
theorem dX3_isKeptFor_46 : decode cX3_isKeptFor 46 = .ok (.iload_n 1, 1) := by decide +kernel
theorem dX3_isKeptFor_47 : decode cX3_isKeptFor 47 = .ok (.aload_n 0, 1) := by decide +kernel
theorem dX3_isKeptFor_48 : decode cX3_isKeptFor 48 = .ok (.getfield 97, 3) := by decide +kernel
theorem dX3_isKeptFor_51 : decode cX3_isKeptFor 51 = .ok (.invokevirtual 118, 3) := by decide +kernel
theorem dX3_isKeptFor_54 : decode cX3_isKeptFor 54 = .ok (.isub, 1) := by decide +kernel
theorem dX3_isKeptFor_55 : decode cX3_isKeptFor 55 = .ok (.invokestatic 115, 3) := by decide +kernel
theorem dX3_isKeptFor_58 : decode cX3_isKeptFor 58 = .ok (.istore 4, 2) := by decide +kernel
theorem dX3_isKeptFor_60 : decode cX3_isKeptFor 60 = .ok (.iload 5, 2) := by decide +kernel
theorem dX3_isKeptFor_62 : decode cX3_isKeptFor 62 = .ok (.ifCond .eq 17, 3) := by decide +kernel
theorem dX3_isKeptFor_65 : decode cX3_isKeptFor 65 = .ok (.aload_n 0, 1) := by decide +kernel
theorem dX3_isKeptFor_66 : decode cX3_isKeptFor 66 = .ok (.iload_n 1, 1) := by decide +kernel
theorem dX3_isKeptFor_67 : decode cX3_isKeptFor 67 = .ok (.iload 4, 2) := by decide +kernel
theorem dX3_isKeptFor_69 : decode cX3_isKeptFor 69 = .ok (.invokevirtual 122, 3) := by decide +kernel
theorem dX3_isKeptFor_72 : decode cX3_isKeptFor 72 = .ok (.ifCond .eq 7, 3) := by decide +kernel
theorem dX3_isKeptFor_75 : decode cX3_isKeptFor 75 = .ok (.iconst 1, 1) := by decide +kernel
theorem dX3_isKeptFor_76 : decode cX3_isKeptFor 76 = .ok (.goto 4, 3) := by decide +kernel
theorem dX3_isKeptFor_79 : decode cX3_isKeptFor 79 = .ok (.iconst 0, 1) := by decide +kernel
theorem dX3_isKeptFor_80 : decode cX3_isKeptFor 80 = .ok (.istore 5, 2) := by decide +kernel
theorem dX3_isKeptFor_82 : decode cX3_isKeptFor 82 = .ok (.iinc 6 1, 3) := by decide +kernel
theorem dX3_isKeptFor_85 : decode cX3_isKeptFor 85 = .ok (.goto (-48), 3) := by decide +kernel
theorem dX3_isKeptFor_88 : decode cX3_isKeptFor 88 = .ok (.iload 5, 2) := by decide +kernel
theorem dX3_isKeptFor_90 : decode cX3_isKeptFor 90 = .ok (.ireturn, 1) := by decide +kernel
set_option maxRecDepth 20000 in
theorem ggX3_needOf_X3_isKeptFor : GoodIn wsX3_needOf wsX3_isKeptFor := goodIn_r _ [5, 6, 7, 8, 9, 4, 10, 11, 12, 13, 14, 15, 16, 17, 18, 19, 20, 21, 22, 23, 24, 25, 26, 27, 28, 29, 30, 31, 32, 33, 34, 35, 36, 37, 38, 39, 40, 41, 42, 43, 44, 45, 46, 47, 48, 49, 50, 51, 52, 53, 54, 55, 56, 57, 58, 59, 60, 61, 62, 63, 64] (by decide +kernel) (by decide +kernel)
set_option maxRecDepth 20000 in
theorem gX3_needOf_X3_isKeptFor : GoodIn wsX3_needOf (wsV RX3 143 RX3 yX3_isKeptFor wsX3_isKeptFor) := goodIn_app (goodIn_of _ (by decide +kernel)) ggX3_needOf_X3_isKeptFor
theorem dX3_needOf_0 : decode cX3_needOf 0 = .ok (.iconst 0, 1) := by decide +kernel
theorem dX3_needOf_1 : decode cX3_needOf 1 = .ok (.istore_n 3, 1) := by decide +kernel
theorem dX3_needOf_2 : decode cX3_needOf 2 = .ok (.iload_n 3, 1) := by decide +kernel
theorem dX3_needOf_3 : decode cX3_needOf 3 = .ok (.bipush 30, 2) := by decide +kernel
theorem dX3_needOf_5 : decode cX3_needOf 5 = .ok (.if_icmp .gt 21, 3) := by decide +kernel
theorem dX3_needOf_8 : decode cX3_needOf 8 = .ok (.aload_n 0, 1) := by decide +kernel
theorem dX3_needOf_9 : decode cX3_needOf 9 = .ok (.iload_n 1, 1) := by decide +kernel
theorem dX3_needOf_10 : decode cX3_needOf 10 = .ok (.iload_n 3, 1) := by decide +kernel
theorem dX3_needOf_11 : decode cX3_needOf 11 = .ok (.iload_n 2, 1) := by decide +kernel
theorem dX3_needOf_12 : decode cX3_needOf 12 = .ok (.invokevirtual 143, 3) := by decide +kernel
theorem dX3_needOf_15 : decode cX3_needOf 15 = .ok (.ifCond .eq 5, 3) := by decide +kernel
theorem dX3_needOf_18 : decode cX3_needOf 18 = .ok (.iload_n 3, 1) := by decide +kernel
theorem dX3_needOf_19 : decode cX3_needOf 19 = .ok (.ireturn, 1) := by decide +kernel
theorem dX3_needOf_20 : decode cX3_needOf 20 = .ok (.iinc 3 1, 3) := by decide +kernel
theorem dX3_needOf_23 : decode cX3_needOf 23 = .ok (.goto (-21), 3) := by decide +kernel
theorem dX3_needOf_26 : decode cX3_needOf 26 = .ok (.iconst (-1), 1) := by decide +kernel
theorem dX3_needOf_27 : decode cX3_needOf 27 = .ok (.ireturn, 1) := by decide +kernel
set_option maxRecDepth 20000 in
theorem ggX3_need_X3_isSite : GoodIn wsX3_need wsX3_isSite := goodIn_r _ [5, 6, 7, 8, 4, 9, 37, 38, 39, 40, 41, 42, 43, 44, 45, 46, 47, 48, 49, 50, 51, 52, 53, 54, 55, 56, 57, 58, 59, 60, 61, 62, 63, 64, 65, 66, 67, 68, 69, 70, 71, 72, 73, 74, 75, 76] (by decide +kernel) (by decide +kernel)
set_option maxRecDepth 20000 in
theorem gX3_need_X3_isSite : GoodIn wsX3_need (wsV RX3 126 RX3 yX3_isSite wsX3_isSite) := goodIn_app (goodIn_of _ (by decide +kernel)) ggX3_need_X3_isSite
set_option maxRecDepth 20000 in
theorem ggX3_need_X3_within : GoodIn wsX3_need wsX3_within := goodIn_r _ [9] (by decide +kernel) (by decide +kernel)
set_option maxRecDepth 20000 in
theorem gX3_need_X3_within : GoodIn wsX3_need (va_wsS RX3 68 yX3_within wsX3_within) := goodIn_app (goodIn_of _ (by decide +kernel)) ggX3_need_X3_within
set_option maxRecDepth 20000 in
theorem ggX3_need_X3_needOf : GoodIn wsX3_need wsX3_needOf := goodIn_r _ [13, 14, 15, 16, 4, 17, 18, 19, 20, 21, 22, 23, 24, 25, 26, 27, 28, 29, 30, 31, 32, 33, 34, 35, 36, 37, 38, 39, 40, 41, 42, 43, 44, 45, 46, 47, 48, 49, 50, 51, 52, 53, 54, 55, 56, 57, 58, 59, 60, 61, 62, 63, 64, 65, 66, 67, 68, 69, 70, 71, 72, 73, 74, 75, 76] (by decide +kernel) (by decide +kernel)
set_option maxRecDepth 20000 in
theorem gX3_need_X3_needOf : GoodIn wsX3_need (wsV RX3 146 RX3 yX3_needOf wsX3_needOf) := goodIn_app (goodIn_of _ (by decide +kernel)) ggX3_need_X3_needOf
theorem dX3_need_0 : decode cX3_need 0 = .ok (.aload_n 0, 1) := by decide +kernel
theorem dX3_need_1 : decode cX3_need 1 = .ok (.iload_n 1, 1) := by decide +kernel
theorem dX3_need_2 : decode cX3_need 2 = .ok (.invokevirtual 126, 3) := by decide +kernel
theorem dX3_need_5 : decode cX3_need 5 = .ok (.ifCond .ne 8, 3) := by decide +kernel
theorem dX3_need_8 : decode cX3_need 8 = .ok (.bipush (-101), 2) := by decide +kernel
theorem dX3_need_10 : decode cX3_need 10 = .ok (.goto 24, 3) := by decide +kernel
theorem dX3_need_13 : decode cX3_need 13 = .ok (.iload_n 2, 1) := by decide +kernel
theorem dX3_need_14 : decode cX3_need 14 = .ok (.iconst 0, 1) := by decide +kernel
theorem dX3_need_15 : decode cX3_need 15 = .ok (.bipush 9, 2) := by decide +kernel
theorem dX3_need_17 : decode cX3_need 17 = .ok (.invokestatic 68, 3) := by decide +kernel
theorem dX3_need_20 : decode cX3_need 20 = .ok (.ifCond .eq 12, 3) := by decide +kernel
theorem dX3_need_23 : decode cX3_need 23 = .ok (.aload_n 0, 1) := by decide +kernel
theorem dX3_need_24 : decode cX3_need 24 = .ok (.iload_n 1, 1) := by decide +kernel
theorem dX3_need_25 : decode cX3_need 25 = .ok (.iload_n 2, 1) := by decide +kernel
theorem dX3_need_26 : decode cX3_need 26 = .ok (.invokevirtual 146, 3) := by decide +kernel
theorem dX3_need_29 : decode cX3_need 29 = .ok (.goto 5, 3) := by decide +kernel
theorem dX3_need_32 : decode cX3_need 32 = .ok (.bipush (-102), 2) := by decide +kernel
theorem dX3_need_34 : decode cX3_need 34 = .ok (.ireturn, 1) := by decide +kernel
set_option maxRecDepth 20000 in
theorem ggX3_layNeeds_X3_isIn : GoodIn wsX3_layNeeds wsX3_isIn := goodIn_r _ [8] (by decide +kernel) (by decide +kernel)
set_option maxRecDepth 20000 in
theorem gX3_layNeeds_X3_isIn : GoodIn wsX3_layNeeds (va_wsS RX3 155 yX3_isIn wsX3_isIn) := goodIn_app (goodIn_of _ (by decide +kernel)) ggX3_layNeeds_X3_isIn
theorem dX3_layNeeds_0 : decode cX3_layNeeds 0 = .ok (.aload_n 0, 1) := by decide +kernel
theorem dX3_layNeeds_1 : decode cX3_layNeeds 1 = .ok (.iconst 0, 1) := by decide +kernel
theorem dX3_layNeeds_2 : decode cX3_layNeeds 2 = .ok (.putfield 149, 3) := by decide +kernel
theorem dX3_layNeeds_5 : decode cX3_layNeeds 5 = .ok (.aload_n 0, 1) := by decide +kernel
theorem dX3_layNeeds_6 : decode cX3_layNeeds 6 = .ok (.iconst 0, 1) := by decide +kernel
theorem dX3_layNeeds_7 : decode cX3_layNeeds 7 = .ok (.putfield 152, 3) := by decide +kernel
theorem dX3_layNeeds_10 : decode cX3_layNeeds 10 = .ok (.iconst 1, 1) := by decide +kernel
theorem dX3_layNeeds_11 : decode cX3_layNeeds 11 = .ok (.istore_n 2, 1) := by decide +kernel
theorem dX3_layNeeds_12 : decode cX3_layNeeds 12 = .ok (.iconst 0, 1) := by decide +kernel
theorem dX3_layNeeds_13 : decode cX3_layNeeds 13 = .ok (.istore_n 3, 1) := by decide +kernel
theorem dX3_layNeeds_14 : decode cX3_layNeeds 14 = .ok (.iload_n 3, 1) := by decide +kernel
theorem dX3_layNeeds_15 : decode cX3_layNeeds 15 = .ok (.aload_n 0, 1) := by decide +kernel
theorem dX3_layNeeds_16 : decode cX3_layNeeds 16 = .ok (.getfield 94, 3) := by decide +kernel
theorem dX3_layNeeds_19 : decode cX3_layNeeds 19 = .ok (.if_icmp .ge 71, 3) := by decide +kernel
theorem dX3_layNeeds_22 : decode cX3_layNeeds 22 = .ok (.iload_n 1, 1) := by decide +kernel
theorem dX3_layNeeds_23 : decode cX3_layNeeds 23 = .ok (.iload_n 3, 1) := by decide +kernel
theorem dX3_layNeeds_24 : decode cX3_layNeeds 24 = .ok (.invokestatic 155, 3) := by decide +kernel
theorem dX3_layNeeds_27 : decode cX3_layNeeds 27 = .ok (.ifCond .eq 57, 3) := by decide +kernel
theorem dX3_layNeeds_30 : decode cX3_layNeeds 30 = .ok (.iload_n 2, 1) := by decide +kernel
theorem dX3_layNeeds_31 : decode cX3_layNeeds 31 = .ok (.ifCond .eq 17, 3) := by decide +kernel
theorem dX3_layNeeds_34 : decode cX3_layNeeds 34 = .ok (.aload_n 0, 1) := by decide +kernel
theorem dX3_layNeeds_35 : decode cX3_layNeeds 35 = .ok (.getfield 41, 3) := by decide +kernel
theorem dX3_layNeeds_38 : decode cX3_layNeeds 38 = .ok (.iload_n 3, 1) := by decide +kernel
theorem dX3_layNeeds_39 : decode cX3_layNeeds 39 = .ok (.iaload, 1) := by decide +kernel
theorem dX3_layNeeds_40 : decode cX3_layNeeds 40 = .ok (.iconst (-1), 1) := by decide +kernel
theorem dX3_layNeeds_41 : decode cX3_layNeeds 41 = .ok (.if_icmp .eq 7, 3) := by decide +kernel
theorem dX3_layNeeds_44 : decode cX3_layNeeds 44 = .ok (.iconst 1, 1) := by decide +kernel
theorem dX3_layNeeds_45 : decode cX3_layNeeds 45 = .ok (.goto 4, 3) := by decide +kernel
theorem dX3_layNeeds_48 : decode cX3_layNeeds 48 = .ok (.iconst 0, 1) := by decide +kernel
theorem dX3_layNeeds_49 : decode cX3_layNeeds 49 = .ok (.istore_n 2, 1) := by decide +kernel
theorem dX3_layNeeds_50 : decode cX3_layNeeds 50 = .ok (.aload_n 0, 1) := by decide +kernel
theorem dX3_layNeeds_51 : decode cX3_layNeeds 51 = .ok (.dup, 1) := by decide +kernel
theorem dX3_layNeeds_52 : decode cX3_layNeeds 52 = .ok (.getfield 149, 3) := by decide +kernel
theorem dX3_layNeeds_55 : decode cX3_layNeeds 55 = .ok (.aload_n 0, 1) := by decide +kernel
theorem dX3_layNeeds_56 : decode cX3_layNeeds 56 = .ok (.getfield 41, 3) := by decide +kernel
theorem dX3_layNeeds_59 : decode cX3_layNeeds 59 = .ok (.iload_n 3, 1) := by decide +kernel
theorem dX3_layNeeds_60 : decode cX3_layNeeds 60 = .ok (.iaload, 1) := by decide +kernel
theorem dX3_layNeeds_61 : decode cX3_layNeeds 61 = .ok (.iadd, 1) := by decide +kernel
theorem dX3_layNeeds_62 : decode cX3_layNeeds 62 = .ok (.putfield 149, 3) := by decide +kernel
theorem dX3_layNeeds_65 : decode cX3_layNeeds 65 = .ok (.aload_n 0, 1) := by decide +kernel
theorem dX3_layNeeds_66 : decode cX3_layNeeds 66 = .ok (.dup, 1) := by decide +kernel
theorem dX3_layNeeds_67 : decode cX3_layNeeds 67 = .ok (.getfield 152, 3) := by decide +kernel
theorem dX3_layNeeds_70 : decode cX3_layNeeds 70 = .ok (.aload_n 0, 1) := by decide +kernel
theorem dX3_layNeeds_71 : decode cX3_layNeeds 71 = .ok (.getfield 41, 3) := by decide +kernel
theorem dX3_layNeeds_74 : decode cX3_layNeeds 74 = .ok (.iload_n 3, 1) := by decide +kernel
theorem dX3_layNeeds_75 : decode cX3_layNeeds 75 = .ok (.iaload, 1) := by decide +kernel
theorem dX3_layNeeds_76 : decode cX3_layNeeds 76 = .ok (.iload_n 3, 1) := by decide +kernel
theorem dX3_layNeeds_77 : decode cX3_layNeeds 77 = .ok (.iconst 1, 1) := by decide +kernel
theorem dX3_layNeeds_78 : decode cX3_layNeeds 78 = .ok (.iadd, 1) := by decide +kernel
theorem dX3_layNeeds_79 : decode cX3_layNeeds 79 = .ok (.imul, 1) := by decide +kernel
theorem dX3_layNeeds_80 : decode cX3_layNeeds 80 = .ok (.iadd, 1) := by decide +kernel
theorem dX3_layNeeds_81 : decode cX3_layNeeds 81 = .ok (.putfield 152, 3) := by decide +kernel
theorem dX3_layNeeds_84 : decode cX3_layNeeds 84 = .ok (.iinc 3 1, 3) := by decide +kernel
theorem dX3_layNeeds_87 : decode cX3_layNeeds 87 = .ok (.goto (-73), 3) := by decide +kernel
theorem dX3_layNeeds_90 : decode cX3_layNeeds 90 = .ok (.iload_n 2, 1) := by decide +kernel
theorem dX3_layNeeds_91 : decode cX3_layNeeds 91 = .ok (.ireturn, 1) := by decide +kernel
set_option maxRecDepth 20000 in
theorem ggX3_planNow_X3_needOf : GoodIn wsX3_planNow wsX3_needOf := goodIn_r _ [9, 10, 11, 12, 8, 13, 14, 15, 16, 17, 18, 19, 20, 21, 22, 23, 24, 25, 26, 27, 28, 29, 30, 31, 32, 43, 44, 45, 46, 47, 48, 49, 50, 51, 52, 53, 54, 55, 56, 57, 58, 59, 60, 61, 62, 63, 64, 65, 66, 67, 68, 69, 70, 71, 72, 73, 74, 75, 76, 77, 78, 79, 80, 81, 82] (by decide +kernel) (by decide +kernel)
set_option maxRecDepth 20000 in
theorem gX3_planNow_X3_needOf : GoodIn wsX3_planNow (wsV RX3 146 RX3 yX3_needOf wsX3_needOf) := goodIn_app (goodIn_of _ (by decide +kernel)) ggX3_planNow_X3_needOf
set_option maxRecDepth 20000 in
theorem ggX3_planNow_X3_layNeeds : GoodIn wsX3_planNow wsX3_layNeeds := goodIn_r _ [36, 3, 4, 1, 2, 37, 38, 8, 39, 43, 44, 45, 46, 47, 48, 49, 50, 51, 52, 53, 54, 55, 56, 57, 58, 59, 60, 61, 62, 63, 64, 65, 66, 67, 68, 69, 70, 71, 72, 73, 74, 75, 76, 77, 78, 79, 80, 81, 82] (by decide +kernel) (by decide +kernel)
set_option maxRecDepth 20000 in
theorem gX3_planNow_X3_layNeeds : GoodIn wsX3_planNow (wsV RX3 158 RX3 yX3_layNeeds wsX3_layNeeds) := goodIn_app (goodIn_of _ (by decide +kernel)) ggX3_planNow_X3_layNeeds
set_option maxRecDepth 20000 in
theorem ggX3_planNow_X3_size : GoodIn wsX3_planNow wsX3_size := goodIn_r _ [42] (by decide +kernel) (by decide +kernel)
set_option maxRecDepth 20000 in
theorem gX3_planNow_X3_size : GoodIn wsX3_planNow (va_wsS RX3 161 yX3_size wsX3_size) := goodIn_app (goodIn_of _ (by decide +kernel)) ggX3_planNow_X3_size
theorem dX3_planNow_0 : decode cX3_planNow 0 = .ok (.iconst 0, 1) := by decide +kernel
theorem dX3_planNow_1 : decode cX3_planNow 1 = .ok (.istore 4, 2) := by decide +kernel
theorem dX3_planNow_3 : decode cX3_planNow 3 = .ok (.iload 4, 2) := by decide +kernel
theorem dX3_planNow_5 : decode cX3_planNow 5 = .ok (.aload_n 0, 1) := by decide +kernel
theorem dX3_planNow_6 : decode cX3_planNow 6 = .ok (.getfield 94, 3) := by decide +kernel
theorem dX3_planNow_9 : decode cX3_planNow 9 = .ok (.if_icmp .ge 23, 3) := by decide +kernel
theorem dX3_planNow_12 : decode cX3_planNow 12 = .ok (.aload_n 0, 1) := by decide +kernel
theorem dX3_planNow_13 : decode cX3_planNow 13 = .ok (.getfield 41, 3) := by decide +kernel
theorem dX3_planNow_16 : decode cX3_planNow 16 = .ok (.iload 4, 2) := by decide +kernel
theorem dX3_planNow_18 : decode cX3_planNow 18 = .ok (.aload_n 0, 1) := by decide +kernel
theorem dX3_planNow_19 : decode cX3_planNow 19 = .ok (.iload 4, 2) := by decide +kernel
theorem dX3_planNow_21 : decode cX3_planNow 21 = .ok (.iload_n 2, 1) := by decide +kernel
theorem dX3_planNow_22 : decode cX3_planNow 22 = .ok (.invokevirtual 146, 3) := by decide +kernel
theorem dX3_planNow_25 : decode cX3_planNow 25 = .ok (.iastore, 1) := by decide +kernel
theorem dX3_planNow_26 : decode cX3_planNow 26 = .ok (.iinc 4 1, 3) := by decide +kernel
theorem dX3_planNow_29 : decode cX3_planNow 29 = .ok (.goto (-26), 3) := by decide +kernel
theorem dX3_planNow_32 : decode cX3_planNow 32 = .ok (.iconst 0, 1) := by decide +kernel
theorem dX3_planNow_33 : decode cX3_planNow 33 = .ok (.istore 4, 2) := by decide +kernel
theorem dX3_planNow_35 : decode cX3_planNow 35 = .ok (.iconst 0, 1) := by decide +kernel
theorem dX3_planNow_36 : decode cX3_planNow 36 = .ok (.istore 5, 2) := by decide +kernel
theorem dX3_planNow_38 : decode cX3_planNow 38 = .ok (.iconst 0, 1) := by decide +kernel
theorem dX3_planNow_39 : decode cX3_planNow 39 = .ok (.istore 6, 2) := by decide +kernel
theorem dX3_planNow_41 : decode cX3_planNow 41 = .ok (.iload 6, 2) := by decide +kernel
theorem dX3_planNow_43 : decode cX3_planNow 43 = .ok (.iconst 1, 1) := by decide +kernel
theorem dX3_planNow_44 : decode cX3_planNow 44 = .ok (.aload_n 0, 1) := by decide +kernel
theorem dX3_planNow_45 : decode cX3_planNow 45 = .ok (.getfield 94, 3) := by decide +kernel
theorem dX3_planNow_48 : decode cX3_planNow 48 = .ok (.ishl, 1) := by decide +kernel
theorem dX3_planNow_49 : decode cX3_planNow 49 = .ok (.if_icmp .ge 95, 3) := by decide +kernel
theorem dX3_planNow_52 : decode cX3_planNow 52 = .ok (.aload_n 0, 1) := by decide +kernel
theorem dX3_planNow_53 : decode cX3_planNow 53 = .ok (.iload 6, 2) := by decide +kernel
theorem dX3_planNow_55 : decode cX3_planNow 55 = .ok (.invokevirtual 158, 3) := by decide +kernel
theorem dX3_planNow_58 : decode cX3_planNow 58 = .ok (.ifCond .eq 15, 3) := by decide +kernel
theorem dX3_planNow_61 : decode cX3_planNow 61 = .ok (.aload_n 0, 1) := by decide +kernel
theorem dX3_planNow_62 : decode cX3_planNow 62 = .ok (.getfield 149, 3) := by decide +kernel
theorem dX3_planNow_65 : decode cX3_planNow 65 = .ok (.iload_n 1, 1) := by decide +kernel
theorem dX3_planNow_66 : decode cX3_planNow 66 = .ok (.if_icmp .gt 7, 3) := by decide +kernel
theorem dX3_planNow_69 : decode cX3_planNow 69 = .ok (.iconst 1, 1) := by decide +kernel
theorem dX3_planNow_70 : decode cX3_planNow 70 = .ok (.goto 4, 3) := by decide +kernel
theorem dX3_planNow_73 : decode cX3_planNow 73 = .ok (.iconst 0, 1) := by decide +kernel
theorem dX3_planNow_74 : decode cX3_planNow 74 = .ok (.istore 7, 2) := by decide +kernel
theorem dX3_planNow_76 : decode cX3_planNow 76 = .ok (.iload 6, 2) := by decide +kernel
end
section
theorem dX3_planNow_78 : decode cX3_planNow 78 = .ok (.invokestatic 161, 3) := by decide +kernel
theorem dX3_planNow_81 : decode cX3_planNow 81 = .ok (.iload 4, 2) := by decide +kernel
theorem dX3_planNow_83 : decode cX3_planNow 83 = .ok (.invokestatic 161, 3) := by decide +kernel
theorem dX3_planNow_86 : decode cX3_planNow 86 = .ok (.if_icmp .gt 25, 3) := by decide +kernel
theorem dX3_planNow_89 : decode cX3_planNow 89 = .ok (.iload 6, 2) := by decide +kernel
theorem dX3_planNow_91 : decode cX3_planNow 91 = .ok (.invokestatic 161, 3) := by decide +kernel
theorem dX3_planNow_94 : decode cX3_planNow 94 = .ok (.iload 4, 2) := by decide +kernel
theorem dX3_planNow_96 : decode cX3_planNow 96 = .ok (.invokestatic 161, 3) := by decide +kernel
theorem dX3_planNow_99 : decode cX3_planNow 99 = .ok (.if_icmp .ne 16, 3) := by decide +kernel
theorem dX3_planNow_102 : decode cX3_planNow 102 = .ok (.aload_n 0, 1) := by decide +kernel
theorem dX3_planNow_103 : decode cX3_planNow 103 = .ok (.getfield 152, 3) := by decide +kernel
theorem dX3_planNow_106 : decode cX3_planNow 106 = .ok (.iload 5, 2) := by decide +kernel
theorem dX3_planNow_108 : decode cX3_planNow 108 = .ok (.if_icmp .ge 7, 3) := by decide +kernel
theorem dX3_planNow_111 : decode cX3_planNow 111 = .ok (.iconst 1, 1) := by decide +kernel
theorem dX3_planNow_112 : decode cX3_planNow 112 = .ok (.goto 4, 3) := by decide +kernel
theorem dX3_planNow_115 : decode cX3_planNow 115 = .ok (.iconst 0, 1) := by decide +kernel
theorem dX3_planNow_116 : decode cX3_planNow 116 = .ok (.istore 8, 2) := by decide +kernel
theorem dX3_planNow_118 : decode cX3_planNow 118 = .ok (.iload 7, 2) := by decide +kernel
theorem dX3_planNow_120 : decode cX3_planNow 120 = .ok (.ifCond .eq 18, 3) := by decide +kernel
theorem dX3_planNow_123 : decode cX3_planNow 123 = .ok (.iload 8, 2) := by decide +kernel
theorem dX3_planNow_125 : decode cX3_planNow 125 = .ok (.ifCond .eq 13, 3) := by decide +kernel
theorem dX3_planNow_128 : decode cX3_planNow 128 = .ok (.iload 6, 2) := by decide +kernel
theorem dX3_planNow_130 : decode cX3_planNow 130 = .ok (.istore 4, 2) := by decide +kernel
theorem dX3_planNow_132 : decode cX3_planNow 132 = .ok (.aload_n 0, 1) := by decide +kernel
theorem dX3_planNow_133 : decode cX3_planNow 133 = .ok (.getfield 152, 3) := by decide +kernel
theorem dX3_planNow_136 : decode cX3_planNow 136 = .ok (.istore 5, 2) := by decide +kernel
theorem dX3_planNow_138 : decode cX3_planNow 138 = .ok (.iinc 6 1, 3) := by decide +kernel
theorem dX3_planNow_141 : decode cX3_planNow 141 = .ok (.goto (-100), 3) := by decide +kernel
theorem dX3_planNow_144 : decode cX3_planNow 144 = .ok (.aload_n 0, 1) := by decide +kernel
theorem dX3_planNow_145 : decode cX3_planNow 145 = .ok (.iload 4, 2) := by decide +kernel
theorem dX3_planNow_147 : decode cX3_planNow 147 = .ok (.invokevirtual 158, 3) := by decide +kernel
theorem dX3_planNow_150 : decode cX3_planNow 150 = .ok (.pop, 1) := by decide +kernel
theorem dX3_planNow_151 : decode cX3_planNow 151 = .ok (.iload_n 3, 1) := by decide +kernel
theorem dX3_planNow_152 : decode cX3_planNow 152 = .ok (.ifCond .ne 11, 3) := by decide +kernel
theorem dX3_planNow_155 : decode cX3_planNow 155 = .ok (.iload 4, 2) := by decide +kernel
theorem dX3_planNow_157 : decode cX3_planNow 157 = .ok (.invokestatic 161, 3) := by decide +kernel
theorem dX3_planNow_160 : decode cX3_planNow 160 = .ok (.goto 29, 3) := by decide +kernel
theorem dX3_planNow_163 : decode cX3_planNow 163 = .ok (.iload_n 3, 1) := by decide +kernel
theorem dX3_planNow_164 : decode cX3_planNow 164 = .ok (.iconst 1, 1) := by decide +kernel
theorem dX3_planNow_165 : decode cX3_planNow 165 = .ok (.if_icmp .ne 8, 3) := by decide +kernel
theorem dX3_planNow_168 : decode cX3_planNow 168 = .ok (.iload 4, 2) := by decide +kernel
theorem dX3_planNow_170 : decode cX3_planNow 170 = .ok (.goto 19, 3) := by decide +kernel
theorem dX3_planNow_173 : decode cX3_planNow 173 = .ok (.iload_n 3, 1) := by decide +kernel
theorem dX3_planNow_174 : decode cX3_planNow 174 = .ok (.iconst 2, 1) := by decide +kernel
theorem dX3_planNow_175 : decode cX3_planNow 175 = .ok (.if_icmp .ne 10, 3) := by decide +kernel
theorem dX3_planNow_178 : decode cX3_planNow 178 = .ok (.aload_n 0, 1) := by decide +kernel
theorem dX3_planNow_179 : decode cX3_planNow 179 = .ok (.getfield 149, 3) := by decide +kernel
theorem dX3_planNow_182 : decode cX3_planNow 182 = .ok (.goto 7, 3) := by decide +kernel
theorem dX3_planNow_185 : decode cX3_planNow 185 = .ok (.aload_n 0, 1) := by decide +kernel
theorem dX3_planNow_186 : decode cX3_planNow 186 = .ok (.getfield 152, 3) := by decide +kernel
theorem dX3_planNow_189 : decode cX3_planNow 189 = .ok (.ireturn, 1) := by decide +kernel
set_option maxRecDepth 20000 in
theorem ggX3_plan_X3_within : GoodIn wsX3_plan wsX3_within := goodIn_r _ [5] (by decide +kernel) (by decide +kernel)
set_option maxRecDepth 20000 in
theorem gX3_plan_X3_within : GoodIn wsX3_plan (va_wsS RX3 68 yX3_within wsX3_within) := goodIn_app (goodIn_of _ (by decide +kernel)) ggX3_plan_X3_within
set_option maxRecDepth 20000 in
theorem ggX3_plan_X3_planNow : GoodIn wsX3_plan wsX3_planNow := goodIn_r _ [9, 1, 10, 11, 12, 13, 14, 15, 4, 16, 17, 18, 19, 20, 21, 22, 23, 24, 25, 26, 27, 28, 29, 30, 31, 32, 33, 34, 35, 36, 37, 38, 39, 40, 41, 42, 43, 44, 45, 46, 47, 48, 49, 50, 51, 52, 53, 54, 55, 56, 57, 58, 59, 60, 61, 62, 63, 64, 65, 66, 67, 68, 69, 70, 71, 72, 73, 74, 75, 76, 77, 78, 79, 80, 81, 82, 83, 84, 85, 86, 87, 88, 89] (by decide +kernel) (by decide +kernel)
set_option maxRecDepth 20000 in
theorem gX3_plan_X3_planNow : GoodIn wsX3_plan (wsV RX3 164 RX3 yX3_planNow wsX3_planNow) := goodIn_app (goodIn_of _ (by decide +kernel)) ggX3_plan_X3_planNow
theorem dX3_plan_0 : decode cX3_plan 0 = .ok (.iload_n 1, 1) := by decide +kernel
theorem dX3_plan_1 : decode cX3_plan 1 = .ok (.iconst 0, 1) := by decide +kernel
theorem dX3_plan_2 : decode cX3_plan 2 = .ok (.bipush 60, 2) := by decide +kernel
theorem dX3_plan_4 : decode cX3_plan 4 = .ok (.invokestatic 68, 3) := by decide +kernel
theorem dX3_plan_7 : decode cX3_plan 7 = .ok (.ifCond .eq 22, 3) := by decide +kernel
theorem dX3_plan_10 : decode cX3_plan 10 = .ok (.iload_n 2, 1) := by decide +kernel
theorem dX3_plan_11 : decode cX3_plan 11 = .ok (.iconst 0, 1) := by decide +kernel
theorem dX3_plan_12 : decode cX3_plan 12 = .ok (.bipush 9, 2) := by decide +kernel
theorem dX3_plan_14 : decode cX3_plan 14 = .ok (.invokestatic 68, 3) := by decide +kernel
theorem dX3_plan_17 : decode cX3_plan 17 = .ok (.ifCond .eq 12, 3) := by decide +kernel
theorem dX3_plan_20 : decode cX3_plan 20 = .ok (.iload_n 3, 1) := by decide +kernel
theorem dX3_plan_21 : decode cX3_plan 21 = .ok (.iconst 0, 1) := by decide +kernel
theorem dX3_plan_22 : decode cX3_plan 22 = .ok (.iconst 3, 1) := by decide +kernel
theorem dX3_plan_23 : decode cX3_plan 23 = .ok (.invokestatic 68, 3) := by decide +kernel
theorem dX3_plan_26 : decode cX3_plan 26 = .ok (.ifCond .ne 6, 3) := by decide +kernel
theorem dX3_plan_29 : decode cX3_plan 29 = .ok (.bipush (-102), 2) := by decide +kernel
theorem dX3_plan_31 : decode cX3_plan 31 = .ok (.ireturn, 1) := by decide +kernel
theorem dX3_plan_32 : decode cX3_plan 32 = .ok (.aload_n 0, 1) := by decide +kernel
theorem dX3_plan_33 : decode cX3_plan 33 = .ok (.getfield 94, 3) := by decide +kernel
theorem dX3_plan_36 : decode cX3_plan 36 = .ok (.ifCond .ne 8, 3) := by decide +kernel
theorem dX3_plan_39 : decode cX3_plan 39 = .ok (.bipush (-103), 2) := by decide +kernel
theorem dX3_plan_41 : decode cX3_plan 41 = .ok (.goto 10, 3) := by decide +kernel
theorem dX3_plan_44 : decode cX3_plan 44 = .ok (.aload_n 0, 1) := by decide +kernel
theorem dX3_plan_45 : decode cX3_plan 45 = .ok (.iload_n 1, 1) := by decide +kernel
theorem dX3_plan_46 : decode cX3_plan 46 = .ok (.iload_n 2, 1) := by decide +kernel
theorem dX3_plan_47 : decode cX3_plan 47 = .ok (.iload_n 3, 1) := by decide +kernel
theorem dX3_plan_48 : decode cX3_plan 48 = .ok (.invokevirtual 164, 3) := by decide +kernel
theorem dX3_plan_51 : decode cX3_plan 51 = .ok (.ireturn, 1) := by decide +kernel
set_option maxRecDepth 20000 in
theorem ggX3_keptBy_X3_atMost : GoodIn wsX3_keptBy wsX3_atMost := goodIn_r _ [8] (by decide +kernel) (by decide +kernel)
set_option maxRecDepth 20000 in
theorem gX3_keptBy_X3_atMost : GoodIn wsX3_keptBy (va_wsS RX3 133 yX3_atMost wsX3_atMost) := goodIn_app (goodIn_of _ (by decide +kernel)) ggX3_keptBy_X3_atMost
set_option maxRecDepth 20000 in
theorem ggX3_keptBy_X3_isKept : GoodIn wsX3_keptBy wsX3_isKept := goodIn_r _ [12, 13, 14, 15, 16, 17, 18, 19, 20, 21, 22, 23, 24, 25, 26, 27, 28, 29, 30, 31, 32, 33, 34, 35, 36, 37, 38, 39, 40, 41, 42, 43, 44, 45, 46, 47, 48, 49, 50, 51, 52, 53] (by decide +kernel) (by decide +kernel)
set_option maxRecDepth 20000 in
theorem gX3_keptBy_X3_isKept : GoodIn wsX3_keptBy (wsV RX3 122 RX3 yX3_isKept wsX3_isKept) := goodIn_app (goodIn_of _ (by decide +kernel)) ggX3_keptBy_X3_isKept
theorem dX3_keptBy_0 : decode cX3_keptBy 0 = .ok (.iconst 0, 1) := by decide +kernel
theorem dX3_keptBy_1 : decode cX3_keptBy 1 = .ok (.istore_n 3, 1) := by decide +kernel
theorem dX3_keptBy_2 : decode cX3_keptBy 2 = .ok (.iconst 0, 1) := by decide +kernel
theorem dX3_keptBy_3 : decode cX3_keptBy 3 = .ok (.istore 4, 2) := by decide +kernel
theorem dX3_keptBy_5 : decode cX3_keptBy 5 = .ok (.iload 4, 2) := by decide +kernel
theorem dX3_keptBy_7 : decode cX3_keptBy 7 = .ok (.aload_n 0, 1) := by decide +kernel
theorem dX3_keptBy_8 : decode cX3_keptBy 8 = .ok (.getfield 94, 3) := by decide +kernel
theorem dX3_keptBy_11 : decode cX3_keptBy 11 = .ok (.if_icmp .ge 87, 3) := by decide +kernel
theorem dX3_keptBy_14 : decode cX3_keptBy 14 = .ok (.iload 4, 2) := by decide +kernel
theorem dX3_keptBy_16 : decode cX3_keptBy 16 = .ok (.iload_n 1, 1) := by decide +kernel
theorem dX3_keptBy_17 : decode cX3_keptBy 17 = .ok (.if_icmp .ne 22, 3) := by decide +kernel
theorem dX3_keptBy_20 : decode cX3_keptBy 20 = .ok (.aload_n 0, 1) := by decide +kernel
theorem dX3_keptBy_21 : decode cX3_keptBy 21 = .ok (.getfield 19, 3) := by decide +kernel
theorem dX3_keptBy_24 : decode cX3_keptBy 24 = .ok (.iload_n 1, 1) := by decide +kernel
theorem dX3_keptBy_25 : decode cX3_keptBy 25 = .ok (.iaload, 1) := by decide +kernel
theorem dX3_keptBy_26 : decode cX3_keptBy 26 = .ok (.aload_n 0, 1) := by decide +kernel
theorem dX3_keptBy_27 : decode cX3_keptBy 27 = .ok (.getfield 22, 3) := by decide +kernel
theorem dX3_keptBy_30 : decode cX3_keptBy 30 = .ok (.iload_n 2, 1) := by decide +kernel
theorem dX3_keptBy_31 : decode cX3_keptBy 31 = .ok (.iaload, 1) := by decide +kernel
theorem dX3_keptBy_32 : decode cX3_keptBy 32 = .ok (.iadd, 1) := by decide +kernel
theorem dX3_keptBy_33 : decode cX3_keptBy 33 = .ok (.invokestatic 133, 3) := by decide +kernel
theorem dX3_keptBy_36 : decode cX3_keptBy 36 = .ok (.goto 35, 3) := by decide +kernel
theorem dX3_keptBy_39 : decode cX3_keptBy 39 = .ok (.iload 4, 2) := by decide +kernel
theorem dX3_keptBy_41 : decode cX3_keptBy 41 = .ok (.iload_n 2, 1) := by decide +kernel
theorem dX3_keptBy_42 : decode cX3_keptBy 42 = .ok (.if_icmp .ne 22, 3) := by decide +kernel
theorem dX3_keptBy_45 : decode cX3_keptBy 45 = .ok (.aload_n 0, 1) := by decide +kernel
theorem dX3_keptBy_46 : decode cX3_keptBy 46 = .ok (.getfield 19, 3) := by decide +kernel
theorem dX3_keptBy_49 : decode cX3_keptBy 49 = .ok (.iload_n 2, 1) := by decide +kernel
theorem dX3_keptBy_50 : decode cX3_keptBy 50 = .ok (.iaload, 1) := by decide +kernel
theorem dX3_keptBy_51 : decode cX3_keptBy 51 = .ok (.aload_n 0, 1) := by decide +kernel
theorem dX3_keptBy_52 : decode cX3_keptBy 52 = .ok (.getfield 22, 3) := by decide +kernel
theorem dX3_keptBy_55 : decode cX3_keptBy 55 = .ok (.iload_n 1, 1) := by decide +kernel
theorem dX3_keptBy_56 : decode cX3_keptBy 56 = .ok (.iaload, 1) := by decide +kernel
theorem dX3_keptBy_57 : decode cX3_keptBy 57 = .ok (.iadd, 1) := by decide +kernel
theorem dX3_keptBy_58 : decode cX3_keptBy 58 = .ok (.invokestatic 133, 3) := by decide +kernel
theorem dX3_keptBy_61 : decode cX3_keptBy 61 = .ok (.goto 10, 3) := by decide +kernel
theorem dX3_keptBy_64 : decode cX3_keptBy 64 = .ok (.aload_n 0, 1) := by decide +kernel
theorem dX3_keptBy_65 : decode cX3_keptBy 65 = .ok (.getfield 16, 3) := by decide +kernel
theorem dX3_keptBy_68 : decode cX3_keptBy 68 = .ok (.iload 4, 2) := by decide +kernel
theorem dX3_keptBy_70 : decode cX3_keptBy 70 = .ok (.iaload, 1) := by decide +kernel
theorem dX3_keptBy_71 : decode cX3_keptBy 71 = .ok (.istore 5, 2) := by decide +kernel
theorem dX3_keptBy_73 : decode cX3_keptBy 73 = .ok (.iload_n 3, 1) := by decide +kernel
theorem dX3_keptBy_74 : decode cX3_keptBy 74 = .ok (.aload_n 0, 1) := by decide +kernel
theorem dX3_keptBy_75 : decode cX3_keptBy 75 = .ok (.iload 4, 2) := by decide +kernel
theorem dX3_keptBy_77 : decode cX3_keptBy 77 = .ok (.iload 5, 2) := by decide +kernel
theorem dX3_keptBy_79 : decode cX3_keptBy 79 = .ok (.invokevirtual 122, 3) := by decide +kernel
theorem dX3_keptBy_82 : decode cX3_keptBy 82 = .ok (.ifCond .eq 7, 3) := by decide +kernel
theorem dX3_keptBy_85 : decode cX3_keptBy 85 = .ok (.iconst 1, 1) := by decide +kernel
theorem dX3_keptBy_86 : decode cX3_keptBy 86 = .ok (.goto 4, 3) := by decide +kernel
theorem dX3_keptBy_89 : decode cX3_keptBy 89 = .ok (.iconst 0, 1) := by decide +kernel
theorem dX3_keptBy_90 : decode cX3_keptBy 90 = .ok (.iadd, 1) := by decide +kernel
theorem dX3_keptBy_91 : decode cX3_keptBy 91 = .ok (.istore_n 3, 1) := by decide +kernel
theorem dX3_keptBy_92 : decode cX3_keptBy 92 = .ok (.iinc 4 1, 3) := by decide +kernel
theorem dX3_keptBy_95 : decode cX3_keptBy 95 = .ok (.goto (-90), 3) := by decide +kernel
theorem dX3_keptBy_98 : decode cX3_keptBy 98 = .ok (.iload_n 3, 1) := by decide +kernel
theorem dX3_keptBy_99 : decode cX3_keptBy 99 = .ok (.ireturn, 1) := by decide +kernel
set_option maxRecDepth 20000 in
theorem ggX3_errorNow_X3_keptNow : GoodIn wsX3_errorNow wsX3_keptNow := goodIn_r _ [6, 1, 7, 8, 9, 10, 5, 11, 12, 22, 23, 24, 25, 26, 27, 28, 29, 30, 31, 32, 33, 34, 35, 36, 37, 38, 39, 40, 41, 42, 43, 44, 45, 46, 47, 48, 49, 50, 51, 52, 53, 54, 55, 56, 57, 58, 59, 60, 61] (by decide +kernel) (by decide +kernel)
set_option maxRecDepth 20000 in
theorem gX3_errorNow_X3_keptNow : GoodIn wsX3_errorNow (wsV RX3 140 RX3 yX3_keptNow wsX3_keptNow) := goodIn_app (goodIn_of _ (by decide +kernel)) ggX3_errorNow_X3_keptNow
set_option maxRecDepth 20000 in
theorem ggX3_errorNow_X3_keptBy : GoodIn wsX3_errorNow wsX3_keptBy := goodIn_r _ [16, 1, 17, 18, 7, 19, 20, 5, 21, 8, 9, 10, 11, 12, 22, 23, 24, 25, 26, 27, 28, 29, 30, 31, 32, 33, 34, 35, 36, 37, 38, 39, 40, 41, 42, 43, 44, 45, 46, 47, 48, 49, 50, 51, 52, 53, 54, 55, 56, 57, 58, 59, 60, 61] (by decide +kernel) (by decide +kernel)
set_option maxRecDepth 20000 in
theorem gX3_errorNow_X3_keptBy : GoodIn wsX3_errorNow (wsV RX3 168 RX3 yX3_keptBy wsX3_keptBy) := goodIn_app (goodIn_of _ (by decide +kernel)) ggX3_errorNow_X3_keptBy
theorem dX3_errorNow_0 : decode cX3_errorNow 0 = .ok (.iconst (-1), 1) := by decide +kernel
theorem dX3_errorNow_1 : decode cX3_errorNow 1 = .ok (.istore_n 2, 1) := by decide +kernel
theorem dX3_errorNow_2 : decode cX3_errorNow 2 = .ok (.aload_n 0, 1) := by decide +kernel
theorem dX3_errorNow_3 : decode cX3_errorNow 3 = .ok (.invokevirtual 140, 3) := by decide +kernel
theorem dX3_errorNow_6 : decode cX3_errorNow 6 = .ok (.istore_n 3, 1) := by decide +kernel
theorem dX3_errorNow_7 : decode cX3_errorNow 7 = .ok (.iconst 0, 1) := by decide +kernel
theorem dX3_errorNow_8 : decode cX3_errorNow 8 = .ok (.istore 4, 2) := by decide +kernel
theorem dX3_errorNow_10 : decode cX3_errorNow 10 = .ok (.iload 4, 2) := by decide +kernel
theorem dX3_errorNow_12 : decode cX3_errorNow 12 = .ok (.aload_n 0, 1) := by decide +kernel
theorem dX3_errorNow_13 : decode cX3_errorNow 13 = .ok (.getfield 94, 3) := by decide +kernel
theorem dX3_errorNow_16 : decode cX3_errorNow 16 = .ok (.if_icmp .ge 72, 3) := by decide +kernel
theorem dX3_errorNow_19 : decode cX3_errorNow 19 = .ok (.iload 4, 2) := by decide +kernel
theorem dX3_errorNow_21 : decode cX3_errorNow 21 = .ok (.iconst 1, 1) := by decide +kernel
theorem dX3_errorNow_22 : decode cX3_errorNow 22 = .ok (.iadd, 1) := by decide +kernel
theorem dX3_errorNow_23 : decode cX3_errorNow 23 = .ok (.istore 5, 2) := by decide +kernel
theorem dX3_errorNow_25 : decode cX3_errorNow 25 = .ok (.iload 5, 2) := by decide +kernel
theorem dX3_errorNow_27 : decode cX3_errorNow 27 = .ok (.aload_n 0, 1) := by decide +kernel
theorem dX3_errorNow_28 : decode cX3_errorNow 28 = .ok (.getfield 94, 3) := by decide +kernel
theorem dX3_errorNow_31 : decode cX3_errorNow 31 = .ok (.if_icmp .ge 51, 3) := by decide +kernel
theorem dX3_errorNow_34 : decode cX3_errorNow 34 = .ok (.aload_n 0, 1) := by decide +kernel
theorem dX3_errorNow_35 : decode cX3_errorNow 35 = .ok (.iload 4, 2) := by decide +kernel
theorem dX3_errorNow_37 : decode cX3_errorNow 37 = .ok (.iload 5, 2) := by decide +kernel
theorem dX3_errorNow_39 : decode cX3_errorNow 39 = .ok (.invokevirtual 168, 3) := by decide +kernel
theorem dX3_errorNow_42 : decode cX3_errorNow 42 = .ok (.istore 6, 2) := by decide +kernel
theorem dX3_errorNow_44 : decode cX3_errorNow 44 = .ok (.iload 6, 2) := by decide +kernel
theorem dX3_errorNow_46 : decode cX3_errorNow 46 = .ok (.iload_n 3, 1) := by decide +kernel
theorem dX3_errorNow_47 : decode cX3_errorNow 47 = .ok (.if_icmp .le 14, 3) := by decide +kernel
theorem dX3_errorNow_50 : decode cX3_errorNow 50 = .ok (.bipush 10, 2) := by decide +kernel
theorem dX3_errorNow_52 : decode cX3_errorNow 52 = .ok (.iload 4, 2) := by decide +kernel
theorem dX3_errorNow_54 : decode cX3_errorNow 54 = .ok (.imul, 1) := by decide +kernel
theorem dX3_errorNow_55 : decode cX3_errorNow 55 = .ok (.iload 5, 2) := by decide +kernel
theorem dX3_errorNow_57 : decode cX3_errorNow 57 = .ok (.iadd, 1) := by decide +kernel
theorem dX3_errorNow_58 : decode cX3_errorNow 58 = .ok (.goto 4, 3) := by decide +kernel
theorem dX3_errorNow_61 : decode cX3_errorNow 61 = .ok (.iload_n 2, 1) := by decide +kernel
theorem dX3_errorNow_62 : decode cX3_errorNow 62 = .ok (.istore_n 2, 1) := by decide +kernel
theorem dX3_errorNow_63 : decode cX3_errorNow 63 = .ok (.iload 6, 2) := by decide +kernel
theorem dX3_errorNow_65 : decode cX3_errorNow 65 = .ok (.iload_n 3, 1) := by decide +kernel
theorem dX3_errorNow_66 : decode cX3_errorNow 66 = .ok (.if_icmp .le 8, 3) := by decide +kernel
theorem dX3_errorNow_69 : decode cX3_errorNow 69 = .ok (.iload 6, 2) := by decide +kernel
theorem dX3_errorNow_71 : decode cX3_errorNow 71 = .ok (.goto 4, 3) := by decide +kernel
theorem dX3_errorNow_74 : decode cX3_errorNow 74 = .ok (.iload_n 3, 1) := by decide +kernel
theorem dX3_errorNow_75 : decode cX3_errorNow 75 = .ok (.istore_n 3, 1) := by decide +kernel
theorem dX3_errorNow_76 : decode cX3_errorNow 76 = .ok (.iinc 5 1, 3) := by decide +kernel
theorem dX3_errorNow_79 : decode cX3_errorNow 79 = .ok (.goto (-54), 3) := by decide +kernel
theorem dX3_errorNow_82 : decode cX3_errorNow 82 = .ok (.iinc 4 1, 3) := by decide +kernel
theorem dX3_errorNow_85 : decode cX3_errorNow 85 = .ok (.goto (-75), 3) := by decide +kernel
theorem dX3_errorNow_88 : decode cX3_errorNow 88 = .ok (.iload_n 2, 1) := by decide +kernel
theorem dX3_errorNow_89 : decode cX3_errorNow 89 = .ok (.iconst (-1), 1) := by decide +kernel
theorem dX3_errorNow_90 : decode cX3_errorNow 90 = .ok (.if_icmp .eq 7, 3) := by decide +kernel
theorem dX3_errorNow_93 : decode cX3_errorNow 93 = .ok (.iload_n 1, 1) := by decide +kernel
theorem dX3_errorNow_94 : decode cX3_errorNow 94 = .ok (.ifCond .ne 7, 3) := by decide +kernel
theorem dX3_errorNow_97 : decode cX3_errorNow 97 = .ok (.iload_n 2, 1) := by decide +kernel
theorem dX3_errorNow_98 : decode cX3_errorNow 98 = .ok (.goto 4, 3) := by decide +kernel
theorem dX3_errorNow_101 : decode cX3_errorNow 101 = .ok (.iload_n 3, 1) := by decide +kernel
theorem dX3_errorNow_102 : decode cX3_errorNow 102 = .ok (.ireturn, 1) := by decide +kernel
set_option maxRecDepth 20000 in
theorem ggX3_error_X3_within : GoodIn wsX3_error wsX3_within := goodIn_r _ [5] (by decide +kernel) (by decide +kernel)
set_option maxRecDepth 20000 in
theorem gX3_error_X3_within : GoodIn wsX3_error (va_wsS RX3 68 yX3_within wsX3_within) := goodIn_app (goodIn_of _ (by decide +kernel)) ggX3_error_X3_within
set_option maxRecDepth 20000 in
theorem ggX3_error_X3_errorNow : GoodIn wsX3_error wsX3_errorNow := goodIn_r _ [9, 1, 10, 11, 12, 4, 13, 14, 15, 16, 17, 18, 19, 20, 21, 22, 23, 24, 25, 26, 27, 28, 29, 30, 31, 32, 33, 34, 35, 36, 37, 38, 39, 40, 41, 42, 43, 44, 45, 46, 47, 48, 49, 50, 51, 52, 53, 54, 55, 56, 57, 58, 59, 60, 61, 62, 63, 64, 65, 66, 67, 68] (by decide +kernel) (by decide +kernel)
set_option maxRecDepth 20000 in
theorem gX3_error_X3_errorNow : GoodIn wsX3_error (wsV RX3 171 RX3 yX3_errorNow wsX3_errorNow) := goodIn_app (goodIn_of _ (by decide +kernel)) ggX3_error_X3_errorNow
theorem dX3_error_0 : decode cX3_error 0 = .ok (.iload_n 1, 1) := by decide +kernel
theorem dX3_error_1 : decode cX3_error 1 = .ok (.iconst 0, 1) := by decide +kernel
theorem dX3_error_2 : decode cX3_error 2 = .ok (.iconst 1, 1) := by decide +kernel
theorem dX3_error_3 : decode cX3_error 3 = .ok (.invokestatic 68, 3) := by decide +kernel
theorem dX3_error_6 : decode cX3_error 6 = .ok (.ifCond .ne 6, 3) := by decide +kernel
theorem dX3_error_9 : decode cX3_error 9 = .ok (.bipush (-102), 2) := by decide +kernel
theorem dX3_error_11 : decode cX3_error 11 = .ok (.ireturn, 1) := by decide +kernel
theorem dX3_error_12 : decode cX3_error 12 = .ok (.aload_n 0, 1) := by decide +kernel
theorem dX3_error_13 : decode cX3_error 13 = .ok (.getfield 94, 3) := by decide +kernel
theorem dX3_error_16 : decode cX3_error 16 = .ok (.ifCond .ne 8, 3) := by decide +kernel
theorem dX3_error_19 : decode cX3_error 19 = .ok (.bipush (-103), 2) := by decide +kernel
theorem dX3_error_21 : decode cX3_error 21 = .ok (.goto 8, 3) := by decide +kernel
theorem dX3_error_24 : decode cX3_error 24 = .ok (.aload_n 0, 1) := by decide +kernel
theorem dX3_error_25 : decode cX3_error 25 = .ok (.iload_n 1, 1) := by decide +kernel
theorem dX3_error_26 : decode cX3_error 26 = .ok (.invokevirtual 171, 3) := by decide +kernel
theorem dX3_error_29 : decode cX3_error 29 = .ok (.ireturn, 1) := by decide +kernel
set_option maxRecDepth 20000 in
theorem ggX3_found_X3_isSite : GoodIn wsX3_found wsX3_isSite := goodIn_r _ [9, 10, 11, 12, 8, 13, 14, 15, 16, 17, 18, 19, 20, 21, 22, 23, 24, 25, 26, 27, 28, 29, 30, 31, 32, 33, 34, 35, 36, 37, 38, 39, 40, 41, 42, 43, 44, 45, 46, 47, 48, 49, 50, 51, 52, 53] (by decide +kernel) (by decide +kernel)
set_option maxRecDepth 20000 in
theorem gX3_found_X3_isSite : GoodIn wsX3_found (wsV RX3 126 RX3 yX3_isSite wsX3_isSite) := goodIn_app (goodIn_of _ (by decide +kernel)) ggX3_found_X3_isSite
set_option maxRecDepth 20000 in
theorem ggX3_found_X3_within : GoodIn wsX3_found wsX3_within := goodIn_r _ [13] (by decide +kernel) (by decide +kernel)
set_option maxRecDepth 20000 in
theorem gX3_found_X3_within : GoodIn wsX3_found (va_wsS RX3 68 yX3_within wsX3_within) := goodIn_app (goodIn_of _ (by decide +kernel)) ggX3_found_X3_within
theorem dX3_found_0 : decode cX3_found 0 = .ok (.aload_n 0, 1) := by decide +kernel
theorem dX3_found_1 : decode cX3_found 1 = .ok (.iload_n 1, 1) := by decide +kernel
theorem dX3_found_2 : decode cX3_found 2 = .ok (.invokevirtual 126, 3) := by decide +kernel
theorem dX3_found_5 : decode cX3_found 5 = .ok (.ifCond .ne 6, 3) := by decide +kernel
theorem dX3_found_8 : decode cX3_found 8 = .ok (.bipush (-101), 2) := by decide +kernel
theorem dX3_found_10 : decode cX3_found 10 = .ok (.ireturn, 1) := by decide +kernel
theorem dX3_found_11 : decode cX3_found 11 = .ok (.iload_n 2, 1) := by decide +kernel
theorem dX3_found_12 : decode cX3_found 12 = .ok (.iconst 0, 1) := by decide +kernel
theorem dX3_found_13 : decode cX3_found 13 = .ok (.bipush 30, 2) := by decide +kernel
theorem dX3_found_15 : decode cX3_found 15 = .ok (.invokestatic 68, 3) := by decide +kernel
theorem dX3_found_18 : decode cX3_found 18 = .ok (.ifCond .eq 13, 3) := by decide +kernel
theorem dX3_found_21 : decode cX3_found 21 = .ok (.iload_n 3, 1) := by decide +kernel
theorem dX3_found_22 : decode cX3_found 22 = .ok (.iconst 0, 1) := by decide +kernel
theorem dX3_found_23 : decode cX3_found 23 = .ok (.bipush 30, 2) := by decide +kernel
theorem dX3_found_25 : decode cX3_found 25 = .ok (.invokestatic 68, 3) := by decide +kernel
theorem dX3_found_28 : decode cX3_found 28 = .ok (.ifCond .ne 6, 3) := by decide +kernel
theorem dX3_found_31 : decode cX3_found 31 = .ok (.bipush (-102), 2) := by decide +kernel
theorem dX3_found_33 : decode cX3_found 33 = .ok (.ireturn, 1) := by decide +kernel
theorem dX3_found_34 : decode cX3_found 34 = .ok (.aload_n 0, 1) := by decide +kernel
theorem dX3_found_35 : decode cX3_found 35 = .ok (.getfield 112, 3) := by decide +kernel
theorem dX3_found_38 : decode cX3_found 38 = .ok (.bipush 6, 2) := by decide +kernel
theorem dX3_found_40 : decode cX3_found 40 = .ok (.if_icmp .ne 6, 3) := by decide +kernel
theorem dX3_found_43 : decode cX3_found 43 = .ok (.bipush (-104), 2) := by decide +kernel
theorem dX3_found_45 : decode cX3_found 45 = .ok (.ireturn, 1) := by decide +kernel
theorem dX3_found_46 : decode cX3_found 46 = .ok (.aload_n 0, 1) := by decide +kernel
theorem dX3_found_47 : decode cX3_found 47 = .ok (.getfield 28, 3) := by decide +kernel
theorem dX3_found_50 : decode cX3_found 50 = .ok (.aload_n 0, 1) := by decide +kernel
theorem dX3_found_51 : decode cX3_found 51 = .ok (.getfield 112, 3) := by decide +kernel
theorem dX3_found_54 : decode cX3_found 54 = .ok (.iload_n 1, 1) := by decide +kernel
theorem dX3_found_55 : decode cX3_found 55 = .ok (.iastore, 1) := by decide +kernel
theorem dX3_found_56 : decode cX3_found 56 = .ok (.aload_n 0, 1) := by decide +kernel
theorem dX3_found_57 : decode cX3_found 57 = .ok (.getfield 31, 3) := by decide +kernel
theorem dX3_found_60 : decode cX3_found 60 = .ok (.aload_n 0, 1) := by decide +kernel
theorem dX3_found_61 : decode cX3_found 61 = .ok (.getfield 112, 3) := by decide +kernel
theorem dX3_found_64 : decode cX3_found 64 = .ok (.iload_n 2, 1) := by decide +kernel
theorem dX3_found_65 : decode cX3_found 65 = .ok (.iastore, 1) := by decide +kernel
theorem dX3_found_66 : decode cX3_found 66 = .ok (.aload_n 0, 1) := by decide +kernel
theorem dX3_found_67 : decode cX3_found 67 = .ok (.getfield 34, 3) := by decide +kernel
theorem dX3_found_70 : decode cX3_found 70 = .ok (.aload_n 0, 1) := by decide +kernel
theorem dX3_found_71 : decode cX3_found 71 = .ok (.getfield 112, 3) := by decide +kernel
theorem dX3_found_74 : decode cX3_found 74 = .ok (.iload_n 3, 1) := by decide +kernel
theorem dX3_found_75 : decode cX3_found 75 = .ok (.iastore, 1) := by decide +kernel
theorem dX3_found_76 : decode cX3_found 76 = .ok (.aload_n 0, 1) := by decide +kernel
theorem dX3_found_77 : decode cX3_found 77 = .ok (.dup, 1) := by decide +kernel
theorem dX3_found_78 : decode cX3_found 78 = .ok (.getfield 112, 3) := by decide +kernel
theorem dX3_found_81 : decode cX3_found 81 = .ok (.iconst 1, 1) := by decide +kernel
theorem dX3_found_82 : decode cX3_found 82 = .ok (.iadd, 1) := by decide +kernel
theorem dX3_found_83 : decode cX3_found 83 = .ok (.putfield 112, 3) := by decide +kernel
theorem dX3_found_86 : decode cX3_found 86 = .ok (.aload_n 0, 1) := by decide +kernel
theorem dX3_found_87 : decode cX3_found 87 = .ok (.getfield 112, 3) := by decide +kernel
theorem dX3_found_90 : decode cX3_found 90 = .ok (.ireturn, 1) := by decide +kernel
theorem dX3_forget_0 : decode cX3_forget 0 = .ok (.aload_n 0, 1) := by decide +kernel
theorem dX3_forget_1 : decode cX3_forget 1 = .ok (.getfield 112, 3) := by decide +kernel
theorem dX3_forget_4 : decode cX3_forget 4 = .ok (.istore_n 1, 1) := by decide +kernel
theorem dX3_forget_5 : decode cX3_forget 5 = .ok (.aload_n 0, 1) := by decide +kernel
theorem dX3_forget_6 : decode cX3_forget 6 = .ok (.iconst 0, 1) := by decide +kernel
theorem dX3_forget_7 : decode cX3_forget 7 = .ok (.putfield 112, 3) := by decide +kernel
theorem dX3_forget_10 : decode cX3_forget 10 = .ok (.iload_n 1, 1) := by decide +kernel
theorem dX3_forget_11 : decode cX3_forget 11 = .ok (.ireturn, 1) := by decide +kernel
set_option maxRecDepth 20000 in
theorem ggX3_leftOf_X3_meltsBy : GoodIn wsX3_leftOf wsX3_meltsBy := goodIn_r _ [5, 6, 7, 8, 9, 4, 10, 11, 12, 13, 14, 15, 16, 17, 18, 19, 20, 21, 22, 23, 24, 25, 26, 27, 28, 29, 30, 31, 32, 33, 34, 35, 36, 37, 38, 39, 40, 41, 42, 43, 44, 45, 46, 47, 48, 49, 50] (by decide +kernel) (by decide +kernel)
set_option maxRecDepth 20000 in
theorem gX3_leftOf_X3_meltsBy : GoodIn wsX3_leftOf (wsV RX3 118 RX3 yX3_meltsBy wsX3_meltsBy) := goodIn_app (goodIn_of _ (by decide +kernel)) ggX3_leftOf_X3_meltsBy
set_option maxRecDepth 20000 in
theorem ggX3_leftOf_X3_notBelow : GoodIn wsX3_leftOf wsX3_notBelow := goodIn_r _ [10] (by decide +kernel) (by decide +kernel)
set_option maxRecDepth 20000 in
theorem gX3_leftOf_X3_notBelow : GoodIn wsX3_leftOf (va_wsS RX3 115 yX3_notBelow wsX3_notBelow) := goodIn_app (goodIn_of _ (by decide +kernel)) ggX3_leftOf_X3_notBelow
theorem dX3_leftOf_0 : decode cX3_leftOf 0 = .ok (.iload_n 2, 1) := by decide +kernel
theorem dX3_leftOf_1 : decode cX3_leftOf 1 = .ok (.aload_n 0, 1) := by decide +kernel
theorem dX3_leftOf_2 : decode cX3_leftOf 2 = .ok (.iload_n 1, 1) := by decide +kernel
theorem dX3_leftOf_3 : decode cX3_leftOf 3 = .ok (.iload_n 3, 1) := by decide +kernel
theorem dX3_leftOf_4 : decode cX3_leftOf 4 = .ok (.invokevirtual 118, 3) := by decide +kernel
theorem dX3_leftOf_7 : decode cX3_leftOf 7 = .ok (.isub, 1) := by decide +kernel
theorem dX3_leftOf_8 : decode cX3_leftOf 8 = .ok (.invokestatic 115, 3) := by decide +kernel
theorem dX3_leftOf_11 : decode cX3_leftOf 11 = .ok (.ireturn, 1) := by decide +kernel
set_option maxRecDepth 20000 in
theorem ggX3_sunsNow_X3_leftOf : GoodIn wsX3_sunsNow wsX3_leftOf := goodIn_r _ [9, 10, 11, 12, 8, 13, 14, 15, 16, 17, 18, 19, 20, 21, 22, 23, 24, 25, 26, 27, 28, 29, 30, 31, 32, 33, 34, 35, 36, 37, 38, 39, 40, 41, 42, 43, 44, 45, 46, 47, 48, 49, 50, 51, 52, 53, 54, 55, 56, 57, 58] (by decide +kernel) (by decide +kernel)
set_option maxRecDepth 20000 in
theorem gX3_sunsNow_X3_leftOf : GoodIn wsX3_sunsNow (wsV RX3 174 RX3 yX3_leftOf wsX3_leftOf) := goodIn_app (goodIn_of _ (by decide +kernel)) ggX3_sunsNow_X3_leftOf
theorem dX3_sunsNow_0 : decode cX3_sunsNow 0 = .ok (.iconst 0, 1) := by decide +kernel
theorem dX3_sunsNow_1 : decode cX3_sunsNow 1 = .ok (.istore_n 1, 1) := by decide +kernel
theorem dX3_sunsNow_2 : decode cX3_sunsNow 2 = .ok (.iconst 0, 1) := by decide +kernel
theorem dX3_sunsNow_3 : decode cX3_sunsNow 3 = .ok (.istore_n 2, 1) := by decide +kernel
theorem dX3_sunsNow_4 : decode cX3_sunsNow 4 = .ok (.iload_n 2, 1) := by decide +kernel
theorem dX3_sunsNow_5 : decode cX3_sunsNow 5 = .ok (.bipush 9, 2) := by decide +kernel
theorem dX3_sunsNow_7 : decode cX3_sunsNow 7 = .ok (.if_icmp .gt 82, 3) := by decide +kernel
theorem dX3_sunsNow_10 : decode cX3_sunsNow 10 = .ok (.iconst 1, 1) := by decide +kernel
theorem dX3_sunsNow_11 : decode cX3_sunsNow 11 = .ok (.istore_n 3, 1) := by decide +kernel
theorem dX3_sunsNow_12 : decode cX3_sunsNow 12 = .ok (.iconst 0, 1) := by decide +kernel
theorem dX3_sunsNow_13 : decode cX3_sunsNow 13 = .ok (.istore 4, 2) := by decide +kernel
theorem dX3_sunsNow_15 : decode cX3_sunsNow 15 = .ok (.iload 4, 2) := by decide +kernel
theorem dX3_sunsNow_17 : decode cX3_sunsNow 17 = .ok (.aload_n 0, 1) := by decide +kernel
theorem dX3_sunsNow_18 : decode cX3_sunsNow 18 = .ok (.getfield 112, 3) := by decide +kernel
theorem dX3_sunsNow_21 : decode cX3_sunsNow 21 = .ok (.if_icmp .ge 48, 3) := by decide +kernel
theorem dX3_sunsNow_24 : decode cX3_sunsNow 24 = .ok (.iload_n 3, 1) := by decide +kernel
theorem dX3_sunsNow_25 : decode cX3_sunsNow 25 = .ok (.ifCond .eq 36, 3) := by decide +kernel
theorem dX3_sunsNow_28 : decode cX3_sunsNow 28 = .ok (.aload_n 0, 1) := by decide +kernel
theorem dX3_sunsNow_29 : decode cX3_sunsNow 29 = .ok (.aload_n 0, 1) := by decide +kernel
theorem dX3_sunsNow_30 : decode cX3_sunsNow 30 = .ok (.getfield 28, 3) := by decide +kernel
theorem dX3_sunsNow_33 : decode cX3_sunsNow 33 = .ok (.iload 4, 2) := by decide +kernel
theorem dX3_sunsNow_35 : decode cX3_sunsNow 35 = .ok (.iaload, 1) := by decide +kernel
theorem dX3_sunsNow_36 : decode cX3_sunsNow 36 = .ok (.aload_n 0, 1) := by decide +kernel
theorem dX3_sunsNow_37 : decode cX3_sunsNow 37 = .ok (.getfield 31, 3) := by decide +kernel
theorem dX3_sunsNow_40 : decode cX3_sunsNow 40 = .ok (.iload 4, 2) := by decide +kernel
theorem dX3_sunsNow_42 : decode cX3_sunsNow 42 = .ok (.iaload, 1) := by decide +kernel
theorem dX3_sunsNow_43 : decode cX3_sunsNow 43 = .ok (.iload_n 2, 1) := by decide +kernel
theorem dX3_sunsNow_44 : decode cX3_sunsNow 44 = .ok (.invokevirtual 174, 3) := by decide +kernel
theorem dX3_sunsNow_47 : decode cX3_sunsNow 47 = .ok (.aload_n 0, 1) := by decide +kernel
theorem dX3_sunsNow_48 : decode cX3_sunsNow 48 = .ok (.getfield 34, 3) := by decide +kernel
theorem dX3_sunsNow_51 : decode cX3_sunsNow 51 = .ok (.iload 4, 2) := by decide +kernel
theorem dX3_sunsNow_53 : decode cX3_sunsNow 53 = .ok (.iaload, 1) := by decide +kernel
theorem dX3_sunsNow_54 : decode cX3_sunsNow 54 = .ok (.if_icmp .ne 7, 3) := by decide +kernel
theorem dX3_sunsNow_57 : decode cX3_sunsNow 57 = .ok (.iconst 1, 1) := by decide +kernel
theorem dX3_sunsNow_58 : decode cX3_sunsNow 58 = .ok (.goto 4, 3) := by decide +kernel
theorem dX3_sunsNow_61 : decode cX3_sunsNow 61 = .ok (.iconst 0, 1) := by decide +kernel
theorem dX3_sunsNow_62 : decode cX3_sunsNow 62 = .ok (.istore_n 3, 1) := by decide +kernel
theorem dX3_sunsNow_63 : decode cX3_sunsNow 63 = .ok (.iinc 4 1, 3) := by decide +kernel
theorem dX3_sunsNow_66 : decode cX3_sunsNow 66 = .ok (.goto (-51), 3) := by decide +kernel
theorem dX3_sunsNow_69 : decode cX3_sunsNow 69 = .ok (.iload_n 1, 1) := by decide +kernel
theorem dX3_sunsNow_70 : decode cX3_sunsNow 70 = .ok (.iload_n 3, 1) := by decide +kernel
theorem dX3_sunsNow_71 : decode cX3_sunsNow 71 = .ok (.ifCond .eq 9, 3) := by decide +kernel
theorem dX3_sunsNow_74 : decode cX3_sunsNow 74 = .ok (.iconst 1, 1) := by decide +kernel
theorem dX3_sunsNow_75 : decode cX3_sunsNow 75 = .ok (.iload_n 2, 1) := by decide +kernel
theorem dX3_sunsNow_76 : decode cX3_sunsNow 76 = .ok (.ishl, 1) := by decide +kernel
theorem dX3_sunsNow_77 : decode cX3_sunsNow 77 = .ok (.goto 4, 3) := by decide +kernel
theorem dX3_sunsNow_80 : decode cX3_sunsNow 80 = .ok (.iconst 0, 1) := by decide +kernel
theorem dX3_sunsNow_81 : decode cX3_sunsNow 81 = .ok (.ior, 1) := by decide +kernel
theorem dX3_sunsNow_82 : decode cX3_sunsNow 82 = .ok (.istore_n 1, 1) := by decide +kernel
theorem dX3_sunsNow_83 : decode cX3_sunsNow 83 = .ok (.iinc 2 1, 3) := by decide +kernel
theorem dX3_sunsNow_86 : decode cX3_sunsNow 86 = .ok (.goto (-82), 3) := by decide +kernel
theorem dX3_sunsNow_89 : decode cX3_sunsNow 89 = .ok (.iload_n 1, 1) := by decide +kernel
theorem dX3_sunsNow_90 : decode cX3_sunsNow 90 = .ok (.ireturn, 1) := by decide +kernel
set_option maxRecDepth 20000 in
theorem ggX3_suns_X3_sunsNow : GoodIn wsX3_suns wsX3_sunsNow := goodIn_r _ [6, 7, 8, 9, 10, 11, 12, 13, 5, 14, 15, 16, 17, 18, 19, 20, 21, 22, 23, 24, 25, 26, 27, 28, 29, 30, 31, 32, 33, 34, 35, 36, 37, 38, 39, 40, 41, 42, 43, 44, 45, 46, 47, 48, 49, 50, 51, 52, 53, 54, 55, 56, 57, 58, 59, 60, 61, 62, 63] (by decide +kernel) (by decide +kernel)
set_option maxRecDepth 20000 in
theorem gX3_suns_X3_sunsNow : GoodIn wsX3_suns (wsV RX3 177 RX3 yX3_sunsNow wsX3_sunsNow) := goodIn_app (goodIn_of _ (by decide +kernel)) ggX3_suns_X3_sunsNow
theorem dX3_suns_0 : decode cX3_suns 0 = .ok (.aload_n 0, 1) := by decide +kernel
theorem dX3_suns_1 : decode cX3_suns 1 = .ok (.getfield 94, 3) := by decide +kernel
theorem dX3_suns_4 : decode cX3_suns 4 = .ok (.ifCond .ne 8, 3) := by decide +kernel
theorem dX3_suns_7 : decode cX3_suns 7 = .ok (.bipush (-103), 2) := by decide +kernel
theorem dX3_suns_9 : decode cX3_suns 9 = .ok (.goto 7, 3) := by decide +kernel
theorem dX3_suns_12 : decode cX3_suns 12 = .ok (.aload_n 0, 1) := by decide +kernel
theorem dX3_suns_13 : decode cX3_suns 13 = .ok (.invokevirtual 177, 3) := by decide +kernel
theorem dX3_suns_16 : decode cX3_suns 16 = .ok (.ireturn, 1) := by decide +kernel
set_option maxRecDepth 20000 in
theorem ggX3_worstAt_X3_isIn : GoodIn wsX3_worstAt wsX3_isIn := goodIn_r _ [4] (by decide +kernel) (by decide +kernel)
set_option maxRecDepth 20000 in
theorem gX3_worstAt_X3_isIn : GoodIn wsX3_worstAt (va_wsS RX3 155 yX3_isIn wsX3_isIn) := goodIn_app (goodIn_of _ (by decide +kernel)) ggX3_worstAt_X3_isIn
set_option maxRecDepth 20000 in
theorem ggX3_worstAt_X3_leftOf : GoodIn wsX3_worstAt wsX3_leftOf := goodIn_r _ [8, 9, 10, 11, 3, 12, 13, 14, 15, 16, 17, 18, 19, 20, 21, 22, 23, 24, 25, 26, 27, 28, 29, 30, 31, 32, 33, 34, 35, 36, 37, 38, 39, 40, 41, 42, 43, 44, 45, 46, 47, 48, 49, 50, 51, 52, 53, 54, 55, 56, 57] (by decide +kernel) (by decide +kernel)
set_option maxRecDepth 20000 in
theorem gX3_worstAt_X3_leftOf : GoodIn wsX3_worstAt (wsV RX3 174 RX3 yX3_leftOf wsX3_leftOf) := goodIn_app (goodIn_of _ (by decide +kernel)) ggX3_worstAt_X3_leftOf
theorem dX3_worstAt_0 : decode cX3_worstAt 0 = .ok (.iconst 0, 1) := by decide +kernel
theorem dX3_worstAt_1 : decode cX3_worstAt 1 = .ok (.istore_n 3, 1) := by decide +kernel
theorem dX3_worstAt_2 : decode cX3_worstAt 2 = .ok (.iconst 0, 1) := by decide +kernel
theorem dX3_worstAt_3 : decode cX3_worstAt 3 = .ok (.istore 4, 2) := by decide +kernel
theorem dX3_worstAt_5 : decode cX3_worstAt 5 = .ok (.iload 4, 2) := by decide +kernel
theorem dX3_worstAt_7 : decode cX3_worstAt 7 = .ok (.bipush 9, 2) := by decide +kernel
theorem dX3_worstAt_9 : decode cX3_worstAt 9 = .ok (.if_icmp .gt 90, 3) := by decide +kernel
theorem dX3_worstAt_12 : decode cX3_worstAt 12 = .ok (.iconst 0, 1) := by decide +kernel
theorem dX3_worstAt_13 : decode cX3_worstAt 13 = .ok (.istore 5, 2) := by decide +kernel
theorem dX3_worstAt_15 : decode cX3_worstAt 15 = .ok (.iconst 0, 1) := by decide +kernel
theorem dX3_worstAt_16 : decode cX3_worstAt 16 = .ok (.istore 6, 2) := by decide +kernel
theorem dX3_worstAt_18 : decode cX3_worstAt 18 = .ok (.iload 6, 2) := by decide +kernel
theorem dX3_worstAt_20 : decode cX3_worstAt 20 = .ok (.bipush 9, 2) := by decide +kernel
theorem dX3_worstAt_22 : decode cX3_worstAt 22 = .ok (.if_icmp .gt 58, 3) := by decide +kernel
theorem dX3_worstAt_25 : decode cX3_worstAt 25 = .ok (.iload 5, 2) := by decide +kernel
theorem dX3_worstAt_27 : decode cX3_worstAt 27 = .ok (.iload_n 1, 1) := by decide +kernel
theorem dX3_worstAt_28 : decode cX3_worstAt 28 = .ok (.iload 4, 2) := by decide +kernel
theorem dX3_worstAt_30 : decode cX3_worstAt 30 = .ok (.invokestatic 155, 3) := by decide +kernel
theorem dX3_worstAt_33 : decode cX3_worstAt 33 = .ok (.ifCond .eq 37, 3) := by decide +kernel
theorem dX3_worstAt_36 : decode cX3_worstAt 36 = .ok (.iload_n 1, 1) := by decide +kernel
theorem dX3_worstAt_37 : decode cX3_worstAt 37 = .ok (.iload 6, 2) := by decide +kernel
theorem dX3_worstAt_39 : decode cX3_worstAt 39 = .ok (.invokestatic 155, 3) := by decide +kernel
theorem dX3_worstAt_42 : decode cX3_worstAt 42 = .ok (.ifCond .eq 28, 3) := by decide +kernel
theorem dX3_worstAt_45 : decode cX3_worstAt 45 = .ok (.aload_n 0, 1) := by decide +kernel
theorem dX3_worstAt_46 : decode cX3_worstAt 46 = .ok (.iload_n 2, 1) := by decide +kernel
theorem dX3_worstAt_47 : decode cX3_worstAt 47 = .ok (.bipush 30, 2) := by decide +kernel
theorem dX3_worstAt_49 : decode cX3_worstAt 49 = .ok (.iload 4, 2) := by decide +kernel
theorem dX3_worstAt_51 : decode cX3_worstAt 51 = .ok (.invokevirtual 174, 3) := by decide +kernel
theorem dX3_worstAt_54 : decode cX3_worstAt 54 = .ok (.aload_n 0, 1) := by decide +kernel
theorem dX3_worstAt_55 : decode cX3_worstAt 55 = .ok (.iload_n 2, 1) := by decide +kernel
theorem dX3_worstAt_56 : decode cX3_worstAt 56 = .ok (.bipush 30, 2) := by decide +kernel
theorem dX3_worstAt_58 : decode cX3_worstAt 58 = .ok (.iload 6, 2) := by decide +kernel
theorem dX3_worstAt_60 : decode cX3_worstAt 60 = .ok (.invokevirtual 174, 3) := by decide +kernel
theorem dX3_worstAt_63 : decode cX3_worstAt 63 = .ok (.if_icmp .ne 7, 3) := by decide +kernel
theorem dX3_worstAt_66 : decode cX3_worstAt 66 = .ok (.iconst 1, 1) := by decide +kernel
theorem dX3_worstAt_67 : decode cX3_worstAt 67 = .ok (.goto 4, 3) := by decide +kernel
theorem dX3_worstAt_70 : decode cX3_worstAt 70 = .ok (.iconst 0, 1) := by decide +kernel
theorem dX3_worstAt_71 : decode cX3_worstAt 71 = .ok (.iadd, 1) := by decide +kernel
theorem dX3_worstAt_72 : decode cX3_worstAt 72 = .ok (.istore 5, 2) := by decide +kernel
theorem dX3_worstAt_74 : decode cX3_worstAt 74 = .ok (.iinc 6 1, 3) := by decide +kernel
theorem dX3_worstAt_77 : decode cX3_worstAt 77 = .ok (.goto (-59), 3) := by decide +kernel
theorem dX3_worstAt_80 : decode cX3_worstAt 80 = .ok (.iload 5, 2) := by decide +kernel
theorem dX3_worstAt_82 : decode cX3_worstAt 82 = .ok (.iload_n 3, 1) := by decide +kernel
theorem dX3_worstAt_83 : decode cX3_worstAt 83 = .ok (.if_icmp .le 8, 3) := by decide +kernel
theorem dX3_worstAt_86 : decode cX3_worstAt 86 = .ok (.iload 5, 2) := by decide +kernel
theorem dX3_worstAt_88 : decode cX3_worstAt 88 = .ok (.goto 4, 3) := by decide +kernel
theorem dX3_worstAt_91 : decode cX3_worstAt 91 = .ok (.iload_n 3, 1) := by decide +kernel
theorem dX3_worstAt_92 : decode cX3_worstAt 92 = .ok (.istore_n 3, 1) := by decide +kernel
theorem dX3_worstAt_93 : decode cX3_worstAt 93 = .ok (.iinc 4 1, 3) := by decide +kernel
theorem dX3_worstAt_96 : decode cX3_worstAt 96 = .ok (.goto (-91), 3) := by decide +kernel
theorem dX3_worstAt_99 : decode cX3_worstAt 99 = .ok (.iload_n 3, 1) := by decide +kernel
theorem dX3_worstAt_100 : decode cX3_worstAt 100 = .ok (.ireturn, 1) := by decide +kernel
set_option maxRecDepth 20000 in
theorem ggX3_lookNow_X3_sunsNow : GoodIn wsX3_lookNow wsX3_sunsNow := goodIn_r _ [7, 8, 9, 10, 11, 12, 13, 14, 6, 15, 16, 17, 18, 19, 20, 21, 22, 23, 24, 32, 33, 34, 35, 36, 37, 38, 39, 40, 41, 42, 43, 44, 45, 46, 47, 48, 49, 50, 51, 52, 53, 54, 55, 56, 57, 58, 59, 60, 61, 62, 63, 64, 65, 66, 67, 68, 69, 70, 71] (by decide +kernel) (by decide +kernel)
set_option maxRecDepth 20000 in
theorem gX3_lookNow_X3_sunsNow : GoodIn wsX3_lookNow (wsV RX3 177 RX3 yX3_sunsNow wsX3_sunsNow) := goodIn_app (goodIn_of _ (by decide +kernel)) ggX3_lookNow_X3_sunsNow
set_option maxRecDepth 20000 in
theorem ggX3_lookNow_X3_worstAt : GoodIn wsX3_lookNow wsX3_worstAt := goodIn_r _ [28, 29, 30, 6, 31, 12, 13, 14, 15, 16, 17, 18, 19, 20, 21, 22, 23, 24, 32, 33, 34, 35, 36, 37, 38, 39, 40, 41, 42, 43, 44, 45, 46, 47, 48, 49, 50, 51, 52, 53, 54, 55, 56, 57, 58, 59, 60, 61, 62, 63, 64, 65, 66, 67, 68, 69, 70, 71] (by decide +kernel) (by decide +kernel)
set_option maxRecDepth 20000 in
theorem gX3_lookNow_X3_worstAt : GoodIn wsX3_lookNow (wsV RX3 181 RX3 yX3_worstAt wsX3_worstAt) := goodIn_app (goodIn_of _ (by decide +kernel)) ggX3_lookNow_X3_worstAt
theorem dX3_lookNow_0 : decode cX3_lookNow 0 = .ok (.aload_n 0, 1) := by decide +kernel
theorem dX3_lookNow_1 : decode cX3_lookNow 1 = .ok (.invokevirtual 177, 3) := by decide +kernel
theorem dX3_lookNow_4 : decode cX3_lookNow 4 = .ok (.istore_n 1, 1) := by decide +kernel
theorem dX3_lookNow_5 : decode cX3_lookNow 5 = .ok (.iconst (-1), 1) := by decide +kernel
theorem dX3_lookNow_6 : decode cX3_lookNow 6 = .ok (.istore_n 2, 1) := by decide +kernel
theorem dX3_lookNow_7 : decode cX3_lookNow 7 = .ok (.iload_n 1, 1) := by decide +kernel
theorem dX3_lookNow_8 : decode cX3_lookNow 8 = .ok (.ifCond .ne 7, 3) := by decide +kernel
theorem dX3_lookNow_11 : decode cX3_lookNow 11 = .ok (.iconst 0, 1) := by decide +kernel
theorem dX3_lookNow_12 : decode cX3_lookNow 12 = .ok (.goto 5, 3) := by decide +kernel
theorem dX3_lookNow_15 : decode cX3_lookNow 15 = .ok (.ldc 180, 2) := by decide +kernel
theorem dX3_lookNow_17 : decode cX3_lookNow 17 = .ok (.istore_n 3, 1) := by decide +kernel
theorem dX3_lookNow_18 : decode cX3_lookNow 18 = .ok (.iconst 0, 1) := by decide +kernel
theorem dX3_lookNow_19 : decode cX3_lookNow 19 = .ok (.istore 4, 2) := by decide +kernel
theorem dX3_lookNow_21 : decode cX3_lookNow 21 = .ok (.iload 4, 2) := by decide +kernel
theorem dX3_lookNow_23 : decode cX3_lookNow 23 = .ok (.aload_n 0, 1) := by decide +kernel
theorem dX3_lookNow_24 : decode cX3_lookNow 24 = .ok (.getfield 94, 3) := by decide +kernel
theorem dX3_lookNow_27 : decode cX3_lookNow 27 = .ok (.if_icmp .ge 44, 3) := by decide +kernel
theorem dX3_lookNow_30 : decode cX3_lookNow 30 = .ok (.aload_n 0, 1) := by decide +kernel
theorem dX3_lookNow_31 : decode cX3_lookNow 31 = .ok (.iload_n 1, 1) := by decide +kernel
theorem dX3_lookNow_32 : decode cX3_lookNow 32 = .ok (.iload 4, 2) := by decide +kernel
theorem dX3_lookNow_34 : decode cX3_lookNow 34 = .ok (.invokevirtual 181, 3) := by decide +kernel
theorem dX3_lookNow_37 : decode cX3_lookNow 37 = .ok (.istore 5, 2) := by decide +kernel
theorem dX3_lookNow_39 : decode cX3_lookNow 39 = .ok (.iload 5, 2) := by decide +kernel
theorem dX3_lookNow_41 : decode cX3_lookNow 41 = .ok (.iload_n 3, 1) := by decide +kernel
theorem dX3_lookNow_42 : decode cX3_lookNow 42 = .ok (.if_icmp .ge 8, 3) := by decide +kernel
theorem dX3_lookNow_45 : decode cX3_lookNow 45 = .ok (.iload 4, 2) := by decide +kernel
theorem dX3_lookNow_47 : decode cX3_lookNow 47 = .ok (.goto 4, 3) := by decide +kernel
theorem dX3_lookNow_50 : decode cX3_lookNow 50 = .ok (.iload_n 2, 1) := by decide +kernel
theorem dX3_lookNow_51 : decode cX3_lookNow 51 = .ok (.istore_n 2, 1) := by decide +kernel
theorem dX3_lookNow_52 : decode cX3_lookNow 52 = .ok (.iload 5, 2) := by decide +kernel
theorem dX3_lookNow_54 : decode cX3_lookNow 54 = .ok (.iload_n 3, 1) := by decide +kernel
theorem dX3_lookNow_55 : decode cX3_lookNow 55 = .ok (.if_icmp .ge 8, 3) := by decide +kernel
theorem dX3_lookNow_58 : decode cX3_lookNow 58 = .ok (.iload 5, 2) := by decide +kernel
theorem dX3_lookNow_60 : decode cX3_lookNow 60 = .ok (.goto 4, 3) := by decide +kernel
theorem dX3_lookNow_63 : decode cX3_lookNow 63 = .ok (.iload_n 3, 1) := by decide +kernel
theorem dX3_lookNow_64 : decode cX3_lookNow 64 = .ok (.istore_n 3, 1) := by decide +kernel
theorem dX3_lookNow_65 : decode cX3_lookNow 65 = .ok (.iinc 4 1, 3) := by decide +kernel
theorem dX3_lookNow_68 : decode cX3_lookNow 68 = .ok (.goto (-47), 3) := by decide +kernel
theorem dX3_lookNow_71 : decode cX3_lookNow 71 = .ok (.iload_n 2, 1) := by decide +kernel
theorem dX3_lookNow_72 : decode cX3_lookNow 72 = .ok (.ireturn, 1) := by decide +kernel
set_option maxRecDepth 20000 in
theorem ggX3_look_X3_lookNow : GoodIn wsX3_look wsX3_lookNow := goodIn_r _ [6, 7, 1, 8, 9, 10, 5, 11, 12, 13, 14, 15, 16, 17, 18, 19, 20, 21, 22, 23, 24, 25, 26, 27, 28, 29, 30, 31, 32, 33, 34, 35, 36, 37, 38, 39, 40, 41, 42, 43, 44, 45, 46, 47, 48, 49, 50, 51, 52, 53, 54, 55, 56, 57, 58, 59, 60, 61, 62, 63, 64, 65, 66, 67, 68, 69, 70, 71, 72, 73, 74, 75] (by decide +kernel) (by decide +kernel)
set_option maxRecDepth 20000 in
theorem gX3_look_X3_lookNow : GoodIn wsX3_look (wsV RX3 184 RX3 yX3_lookNow wsX3_lookNow) := goodIn_app (goodIn_of _ (by decide +kernel)) ggX3_look_X3_lookNow
theorem dX3_look_0 : decode cX3_look 0 = .ok (.aload_n 0, 1) := by decide +kernel
theorem dX3_look_1 : decode cX3_look 1 = .ok (.getfield 94, 3) := by decide +kernel
theorem dX3_look_4 : decode cX3_look 4 = .ok (.ifCond .ne 8, 3) := by decide +kernel
theorem dX3_look_7 : decode cX3_look 7 = .ok (.bipush (-103), 2) := by decide +kernel
theorem dX3_look_9 : decode cX3_look 9 = .ok (.goto 7, 3) := by decide +kernel
theorem dX3_look_12 : decode cX3_look 12 = .ok (.aload_n 0, 1) := by decide +kernel
theorem dX3_look_13 : decode cX3_look 13 = .ok (.invokevirtual 184, 3) := by decide +kernel
theorem dX3_look_16 : decode cX3_look 16 = .ok (.ireturn, 1) := by decide +kernel
theorem dX3_draw_0 : decode cX3_draw 0 = .ok (.aload_n 0, 1) := by decide +kernel
theorem dX3_draw_1 : decode cX3_draw 1 = .ok (.ldc2_w 187, 3) := by decide +kernel
theorem dX3_draw_4 : decode cX3_draw 4 = .ok (.aload_n 0, 1) := by decide +kernel
theorem dX3_draw_5 : decode cX3_draw 5 = .ok (.getfield 189, 3) := by decide +kernel
theorem dX3_draw_8 : decode cX3_draw 8 = .ok (.lmul, 1) := by decide +kernel
theorem dX3_draw_9 : decode cX3_draw 9 = .ok (.ldc2_w 193, 3) := by decide +kernel
theorem dX3_draw_12 : decode cX3_draw 12 = .ok (.ladd, 1) := by decide +kernel
theorem dX3_draw_13 : decode cX3_draw 13 = .ok (.ldc2_w 195, 3) := by decide +kernel
theorem dX3_draw_16 : decode cX3_draw 16 = .ok (.land, 1) := by decide +kernel
theorem dX3_draw_17 : decode cX3_draw 17 = .ok (.putfield 189, 3) := by decide +kernel
theorem dX3_draw_20 : decode cX3_draw 20 = .ok (.aload_n 0, 1) := by decide +kernel
theorem dX3_draw_21 : decode cX3_draw 21 = .ok (.getfield 189, 3) := by decide +kernel
theorem dX3_draw_24 : decode cX3_draw 24 = .ok (.ldc2_w 197, 3) := by decide +kernel
theorem dX3_draw_27 : decode cX3_draw 27 = .ok (.ldiv, 1) := by decide +kernel
theorem dX3_draw_28 : decode cX3_draw 28 = .ok (.iload_n 1, 1) := by decide +kernel
theorem dX3_draw_29 : decode cX3_draw 29 = .ok (.i2l, 1) := by decide +kernel
theorem dX3_draw_30 : decode cX3_draw 30 = .ok (.lrem, 1) := by decide +kernel
theorem dX3_draw_31 : decode cX3_draw 31 = .ok (.l2i, 1) := by decide +kernel
theorem dX3_draw_32 : decode cX3_draw 32 = .ok (.ireturn, 1) := by decide +kernel
theorem dX3_snowAll_0 : decode cX3_snowAll 0 = .ok (.iconst 0, 1) := by decide +kernel
theorem dX3_snowAll_1 : decode cX3_snowAll 1 = .ok (.istore_n 1, 1) := by decide +kernel
theorem dX3_snowAll_2 : decode cX3_snowAll 2 = .ok (.iconst 0, 1) := by decide +kernel
theorem dX3_snowAll_3 : decode cX3_snowAll 3 = .ok (.istore_n 2, 1) := by decide +kernel
theorem dX3_snowAll_4 : decode cX3_snowAll 4 = .ok (.iload_n 2, 1) := by decide +kernel
theorem dX3_snowAll_5 : decode cX3_snowAll 5 = .ok (.aload_n 0, 1) := by decide +kernel
theorem dX3_snowAll_6 : decode cX3_snowAll 6 = .ok (.getfield 94, 3) := by decide +kernel
theorem dX3_snowAll_9 : decode cX3_snowAll 9 = .ok (.if_icmp .ge 18, 3) := by decide +kernel
theorem dX3_snowAll_12 : decode cX3_snowAll 12 = .ok (.iload_n 1, 1) := by decide +kernel
theorem dX3_snowAll_13 : decode cX3_snowAll 13 = .ok (.aload_n 0, 1) := by decide +kernel
theorem dX3_snowAll_14 : decode cX3_snowAll 14 = .ok (.getfield 16, 3) := by decide +kernel
theorem dX3_snowAll_17 : decode cX3_snowAll 17 = .ok (.iload_n 2, 1) := by decide +kernel
theorem dX3_snowAll_18 : decode cX3_snowAll 18 = .ok (.iaload, 1) := by decide +kernel
theorem dX3_snowAll_19 : decode cX3_snowAll 19 = .ok (.iadd, 1) := by decide +kernel
theorem dX3_snowAll_20 : decode cX3_snowAll 20 = .ok (.istore_n 1, 1) := by decide +kernel
theorem dX3_snowAll_21 : decode cX3_snowAll 21 = .ok (.iinc 2 1, 3) := by decide +kernel
theorem dX3_snowAll_24 : decode cX3_snowAll 24 = .ok (.goto (-20), 3) := by decide +kernel
theorem dX3_snowAll_27 : decode cX3_snowAll 27 = .ok (.iload_n 1, 1) := by decide +kernel
theorem dX3_snowAll_28 : decode cX3_snowAll 28 = .ok (.ireturn, 1) := by decide +kernel
set_option maxRecDepth 20000 in
theorem ggX3_wintersNow_X3_draw : GoodIn wsX3_wintersNow wsX3_draw := goodIn_r _ [9, 10, 3, 11, 12, 13, 43, 44, 45, 46, 47, 48, 49, 50, 51, 52, 53, 54, 55, 56, 57, 58, 59, 60, 61, 62, 63, 64, 65, 66, 67, 68, 69, 70, 71, 72, 73, 74, 75, 76, 77, 78, 79, 80, 81, 82] (by decide +kernel) (by decide +kernel)
set_option maxRecDepth 20000 in
theorem gX3_wintersNow_X3_draw : GoodIn wsX3_wintersNow (wsV RX3 199 RX3 yX3_draw wsX3_draw) := goodIn_app (goodIn_of _ (by decide +kernel)) ggX3_wintersNow_X3_draw
set_option maxRecDepth 20000 in
theorem ggX3_wintersNow_X3_atMost : GoodIn wsX3_wintersNow wsX3_atMost := goodIn_r _ [16] (by decide +kernel) (by decide +kernel)
set_option maxRecDepth 20000 in
theorem gX3_wintersNow_X3_atMost : GoodIn wsX3_wintersNow (va_wsS RX3 133 yX3_atMost wsX3_atMost) := goodIn_app (goodIn_of _ (by decide +kernel)) ggX3_wintersNow_X3_atMost
set_option maxRecDepth 20000 in
theorem ggX3_wintersNow_X3_melt : GoodIn wsX3_wintersNow wsX3_melt := goodIn_r _ [20, 4, 2, 21, 22, 23, 8, 24, 25, 26, 27, 28, 29, 43, 44, 45, 46, 47, 48, 49, 50, 51, 52, 53, 54, 55, 56, 57, 58, 59, 60, 61, 62, 63, 64, 65, 66, 67, 68, 69, 70, 71, 72, 73, 74, 75, 76, 77, 78, 79, 80, 81, 82] (by decide +kernel) (by decide +kernel)
set_option maxRecDepth 20000 in
theorem gX3_wintersNow_X3_melt : GoodIn wsX3_wintersNow (wsV RX3 136 RX3 yX3_melt wsX3_melt) := goodIn_app (goodIn_of _ (by decide +kernel)) ggX3_wintersNow_X3_melt
set_option maxRecDepth 20000 in
theorem ggX3_wintersNow_X3_keptNow : GoodIn wsX3_wintersNow wsX3_keptNow := goodIn_r _ [33, 4, 2, 34, 35, 36, 8, 37, 38, 43, 44, 45, 46, 47, 48, 49, 50, 51, 52, 53, 54, 55, 56, 57, 58, 59, 60, 61, 62, 63, 64, 65, 66, 67, 68, 69, 70, 71, 72, 73, 74, 75, 76, 77, 78, 79, 80, 81, 82] (by decide +kernel) (by decide +kernel)
set_option maxRecDepth 20000 in
theorem gX3_wintersNow_X3_keptNow : GoodIn wsX3_wintersNow (wsV RX3 140 RX3 yX3_keptNow wsX3_keptNow) := goodIn_app (goodIn_of _ (by decide +kernel)) ggX3_wintersNow_X3_keptNow
set_option maxRecDepth 20000 in
theorem ggX3_wintersNow_X3_snowAll : GoodIn wsX3_wintersNow wsX3_snowAll := goodIn_r _ [42, 4, 2, 43, 44, 45, 46, 47, 48, 49, 50, 51, 52, 53, 54, 55, 56, 57, 58, 59, 60, 61, 62, 63, 64, 65, 66, 67, 68, 69, 70, 71, 72, 73, 74, 75, 76, 77, 78, 79, 80, 81, 82] (by decide +kernel) (by decide +kernel)
set_option maxRecDepth 20000 in
theorem gX3_wintersNow_X3_snowAll : GoodIn wsX3_wintersNow (wsV RX3 202 RX3 yX3_snowAll wsX3_snowAll) := goodIn_app (goodIn_of _ (by decide +kernel)) ggX3_wintersNow_X3_snowAll
theorem dX3_wintersNow_0 : decode cX3_wintersNow 0 = .ok (.iconst 0, 1) := by decide +kernel
theorem dX3_wintersNow_1 : decode cX3_wintersNow 1 = .ok (.istore 4, 2) := by decide +kernel
theorem dX3_wintersNow_3 : decode cX3_wintersNow 3 = .ok (.iload 4, 2) := by decide +kernel
theorem dX3_wintersNow_5 : decode cX3_wintersNow 5 = .ok (.bipush 6, 2) := by decide +kernel
theorem dX3_wintersNow_7 : decode cX3_wintersNow 7 = .ok (.if_icmp .ge 23, 3) := by decide +kernel
theorem dX3_wintersNow_10 : decode cX3_wintersNow 10 = .ok (.aload_n 0, 1) := by decide +kernel
theorem dX3_wintersNow_11 : decode cX3_wintersNow 11 = .ok (.getfield 44, 3) := by decide +kernel
theorem dX3_wintersNow_14 : decode cX3_wintersNow 14 = .ok (.iload 4, 2) := by decide +kernel
theorem dX3_wintersNow_16 : decode cX3_wintersNow 16 = .ok (.aload_n 0, 1) := by decide +kernel
theorem dX3_wintersNow_17 : decode cX3_wintersNow 17 = .ok (.getfield 16, 3) := by decide +kernel
theorem dX3_wintersNow_20 : decode cX3_wintersNow 20 = .ok (.iload 4, 2) := by decide +kernel
theorem dX3_wintersNow_22 : decode cX3_wintersNow 22 = .ok (.iaload, 1) := by decide +kernel
theorem dX3_wintersNow_23 : decode cX3_wintersNow 23 = .ok (.iastore, 1) := by decide +kernel
theorem dX3_wintersNow_24 : decode cX3_wintersNow 24 = .ok (.iinc 4 1, 3) := by decide +kernel
theorem dX3_wintersNow_27 : decode cX3_wintersNow 27 = .ok (.goto (-24), 3) := by decide +kernel
theorem dX3_wintersNow_30 : decode cX3_wintersNow 30 = .ok (.aload_n 0, 1) := by decide +kernel
theorem dX3_wintersNow_31 : decode cX3_wintersNow 31 = .ok (.iload_n 2, 1) := by decide +kernel
theorem dX3_wintersNow_32 : decode cX3_wintersNow 32 = .ok (.i2l, 1) := by decide +kernel
theorem dX3_wintersNow_33 : decode cX3_wintersNow 33 = .ok (.putfield 189, 3) := by decide +kernel
theorem dX3_wintersNow_36 : decode cX3_wintersNow 36 = .ok (.iconst 0, 1) := by decide +kernel
theorem dX3_wintersNow_37 : decode cX3_wintersNow 37 = .ok (.istore 4, 2) := by decide +kernel
theorem dX3_wintersNow_39 : decode cX3_wintersNow 39 = .ok (.iconst 0, 1) := by decide +kernel
theorem dX3_wintersNow_40 : decode cX3_wintersNow 40 = .ok (.istore 5, 2) := by decide +kernel
theorem dX3_wintersNow_42 : decode cX3_wintersNow 42 = .ok (.iload 5, 2) := by decide +kernel
theorem dX3_wintersNow_44 : decode cX3_wintersNow 44 = .ok (.iload_n 1, 1) := by decide +kernel
theorem dX3_wintersNow_45 : decode cX3_wintersNow 45 = .ok (.if_icmp .ge 60, 3) := by decide +kernel
theorem dX3_wintersNow_48 : decode cX3_wintersNow 48 = .ok (.aload_n 0, 1) := by decide +kernel
theorem dX3_wintersNow_49 : decode cX3_wintersNow 49 = .ok (.iconst 5, 1) := by decide +kernel
theorem dX3_wintersNow_50 : decode cX3_wintersNow 50 = .ok (.invokevirtual 199, 3) := by decide +kernel
theorem dX3_wintersNow_53 : decode cX3_wintersNow 53 = .ok (.istore 6, 2) := by decide +kernel
theorem dX3_wintersNow_55 : decode cX3_wintersNow 55 = .ok (.aload_n 0, 1) := by decide +kernel
theorem dX3_wintersNow_56 : decode cX3_wintersNow 56 = .ok (.aload_n 0, 1) := by decide +kernel
theorem dX3_wintersNow_57 : decode cX3_wintersNow 57 = .ok (.getfield 94, 3) := by decide +kernel
theorem dX3_wintersNow_60 : decode cX3_wintersNow 60 = .ok (.invokevirtual 199, 3) := by decide +kernel
theorem dX3_wintersNow_63 : decode cX3_wintersNow 63 = .ok (.istore 7, 2) := by decide +kernel
theorem dX3_wintersNow_65 : decode cX3_wintersNow 65 = .ok (.aload_n 0, 1) := by decide +kernel
theorem dX3_wintersNow_66 : decode cX3_wintersNow 66 = .ok (.getfield 16, 3) := by decide +kernel
theorem dX3_wintersNow_69 : decode cX3_wintersNow 69 = .ok (.iload 7, 2) := by decide +kernel
theorem dX3_wintersNow_71 : decode cX3_wintersNow 71 = .ok (.aload_n 0, 1) := by decide +kernel
theorem dX3_wintersNow_72 : decode cX3_wintersNow 72 = .ok (.getfield 16, 3) := by decide +kernel
theorem dX3_wintersNow_75 : decode cX3_wintersNow 75 = .ok (.iload 7, 2) := by decide +kernel
theorem dX3_wintersNow_77 : decode cX3_wintersNow 77 = .ok (.iaload, 1) := by decide +kernel
theorem dX3_wintersNow_78 : decode cX3_wintersNow 78 = .ok (.iconst 1, 1) := by decide +kernel
theorem dX3_wintersNow_79 : decode cX3_wintersNow 79 = .ok (.iadd, 1) := by decide +kernel
theorem dX3_wintersNow_80 : decode cX3_wintersNow 80 = .ok (.invokestatic 133, 3) := by decide +kernel
theorem dX3_wintersNow_83 : decode cX3_wintersNow 83 = .ok (.iastore, 1) := by decide +kernel
theorem dX3_wintersNow_84 : decode cX3_wintersNow 84 = .ok (.aload_n 0, 1) := by decide +kernel
theorem dX3_wintersNow_85 : decode cX3_wintersNow 85 = .ok (.iload 6, 2) := by decide +kernel
theorem dX3_wintersNow_87 : decode cX3_wintersNow 87 = .ok (.invokevirtual 136, 3) := by decide +kernel
theorem dX3_wintersNow_90 : decode cX3_wintersNow 90 = .ok (.iload 4, 2) := by decide +kernel
theorem dX3_wintersNow_92 : decode cX3_wintersNow 92 = .ok (.aload_n 0, 1) := by decide +kernel
theorem dX3_wintersNow_93 : decode cX3_wintersNow 93 = .ok (.invokevirtual 140, 3) := by decide +kernel
theorem dX3_wintersNow_96 : decode cX3_wintersNow 96 = .ok (.iadd, 1) := by decide +kernel
theorem dX3_wintersNow_97 : decode cX3_wintersNow 97 = .ok (.istore 4, 2) := by decide +kernel
theorem dX3_wintersNow_99 : decode cX3_wintersNow 99 = .ok (.iinc 5 1, 3) := by decide +kernel
theorem dX3_wintersNow_102 : decode cX3_wintersNow 102 = .ok (.goto (-60), 3) := by decide +kernel
theorem dX3_wintersNow_105 : decode cX3_wintersNow 105 = .ok (.aload_n 0, 1) := by decide +kernel
theorem dX3_wintersNow_106 : decode cX3_wintersNow 106 = .ok (.invokevirtual 202, 3) := by decide +kernel
theorem dX3_wintersNow_109 : decode cX3_wintersNow 109 = .ok (.istore 5, 2) := by decide +kernel
theorem dX3_wintersNow_111 : decode cX3_wintersNow 111 = .ok (.iconst 0, 1) := by decide +kernel
theorem dX3_wintersNow_112 : decode cX3_wintersNow 112 = .ok (.istore 6, 2) := by decide +kernel
theorem dX3_wintersNow_114 : decode cX3_wintersNow 114 = .ok (.iload 6, 2) := by decide +kernel
theorem dX3_wintersNow_116 : decode cX3_wintersNow 116 = .ok (.bipush 6, 2) := by decide +kernel
theorem dX3_wintersNow_118 : decode cX3_wintersNow 118 = .ok (.if_icmp .ge 23, 3) := by decide +kernel
theorem dX3_wintersNow_121 : decode cX3_wintersNow 121 = .ok (.aload_n 0, 1) := by decide +kernel
theorem dX3_wintersNow_122 : decode cX3_wintersNow 122 = .ok (.getfield 16, 3) := by decide +kernel
theorem dX3_wintersNow_125 : decode cX3_wintersNow 125 = .ok (.iload 6, 2) := by decide +kernel
theorem dX3_wintersNow_127 : decode cX3_wintersNow 127 = .ok (.aload_n 0, 1) := by decide +kernel
theorem dX3_wintersNow_128 : decode cX3_wintersNow 128 = .ok (.getfield 44, 3) := by decide +kernel
theorem dX3_wintersNow_131 : decode cX3_wintersNow 131 = .ok (.iload 6, 2) := by decide +kernel
theorem dX3_wintersNow_133 : decode cX3_wintersNow 133 = .ok (.iaload, 1) := by decide +kernel
theorem dX3_wintersNow_134 : decode cX3_wintersNow 134 = .ok (.iastore, 1) := by decide +kernel
theorem dX3_wintersNow_135 : decode cX3_wintersNow 135 = .ok (.iinc 6 1, 3) := by decide +kernel
theorem dX3_wintersNow_138 : decode cX3_wintersNow 138 = .ok (.goto (-24), 3) := by decide +kernel
theorem dX3_wintersNow_141 : decode cX3_wintersNow 141 = .ok (.iload_n 3, 1) := by decide +kernel
theorem dX3_wintersNow_142 : decode cX3_wintersNow 142 = .ok (.ifCond .ne 8, 3) := by decide +kernel
theorem dX3_wintersNow_145 : decode cX3_wintersNow 145 = .ok (.iload 4, 2) := by decide +kernel
theorem dX3_wintersNow_147 : decode cX3_wintersNow 147 = .ok (.goto 18, 3) := by decide +kernel
theorem dX3_wintersNow_150 : decode cX3_wintersNow 150 = .ok (.iload_n 3, 1) := by decide +kernel
theorem dX3_wintersNow_151 : decode cX3_wintersNow 151 = .ok (.iconst 1, 1) := by decide +kernel
theorem dX3_wintersNow_152 : decode cX3_wintersNow 152 = .ok (.if_icmp .ne 8, 3) := by decide +kernel
theorem dX3_wintersNow_155 : decode cX3_wintersNow 155 = .ok (.iload 5, 2) := by decide +kernel
theorem dX3_wintersNow_157 : decode cX3_wintersNow 157 = .ok (.goto 8, 3) := by decide +kernel
theorem dX3_wintersNow_160 : decode cX3_wintersNow 160 = .ok (.aload_n 0, 1) := by decide +kernel
theorem dX3_wintersNow_161 : decode cX3_wintersNow 161 = .ok (.getfield 189, 3) := by decide +kernel
theorem dX3_wintersNow_164 : decode cX3_wintersNow 164 = .ok (.l2i, 1) := by decide +kernel
theorem dX3_wintersNow_165 : decode cX3_wintersNow 165 = .ok (.ireturn, 1) := by decide +kernel
set_option maxRecDepth 20000 in
theorem ggX3_winters_X3_within : GoodIn wsX3_winters wsX3_within := goodIn_r _ [5] (by decide +kernel) (by decide +kernel)
set_option maxRecDepth 20000 in
theorem gX3_winters_X3_within : GoodIn wsX3_winters (va_wsS RX3 68 yX3_within wsX3_within) := goodIn_app (goodIn_of _ (by decide +kernel)) ggX3_winters_X3_within
set_option maxRecDepth 20000 in
theorem ggX3_winters_X3_wintersNow : GoodIn wsX3_winters wsX3_wintersNow := goodIn_r _ [9, 10, 11, 12, 1, 13, 14, 15, 4, 16, 17, 18, 19, 20, 21, 22, 23, 24, 25, 26, 27, 28, 29, 30, 31, 32, 33, 34, 35, 36, 37, 38, 39, 40, 41, 42, 43, 44, 45, 46, 47, 48, 49, 50, 51, 52, 53, 54, 55, 56, 57, 58, 59, 60, 61, 62, 63, 64, 65, 66, 67, 68, 69, 70, 71, 72, 73, 74, 75, 76, 77, 78, 79, 80, 81, 82, 83, 84, 85, 86, 87, 88, 89] (by decide +kernel) (by decide +kernel)
set_option maxRecDepth 20000 in
theorem gX3_winters_X3_wintersNow : GoodIn wsX3_winters (wsV RX3 205 RX3 yX3_wintersNow wsX3_wintersNow) := goodIn_app (goodIn_of _ (by decide +kernel)) ggX3_winters_X3_wintersNow
theorem dX3_winters_0 : decode cX3_winters 0 = .ok (.iload_n 1, 1) := by decide +kernel
theorem dX3_winters_1 : decode cX3_winters 1 = .ok (.iconst 1, 1) := by decide +kernel
theorem dX3_winters_2 : decode cX3_winters 2 = .ok (.bipush 60, 2) := by decide +kernel
theorem dX3_winters_4 : decode cX3_winters 4 = .ok (.invokestatic 68, 3) := by decide +kernel
theorem dX3_winters_7 : decode cX3_winters 7 = .ok (.ifCond .eq 16, 3) := by decide +kernel
theorem dX3_winters_10 : decode cX3_winters 10 = .ok (.iload_n 2, 1) := by decide +kernel
theorem dX3_winters_11 : decode cX3_winters 11 = .ok (.ifCond .lt 12, 3) := by decide +kernel
theorem dX3_winters_14 : decode cX3_winters 14 = .ok (.iload_n 3, 1) := by decide +kernel
theorem dX3_winters_15 : decode cX3_winters 15 = .ok (.iconst 0, 1) := by decide +kernel
theorem dX3_winters_16 : decode cX3_winters 16 = .ok (.iconst 2, 1) := by decide +kernel
theorem dX3_winters_17 : decode cX3_winters 17 = .ok (.invokestatic 68, 3) := by decide +kernel
theorem dX3_winters_20 : decode cX3_winters 20 = .ok (.ifCond .ne 6, 3) := by decide +kernel
theorem dX3_winters_23 : decode cX3_winters 23 = .ok (.bipush (-102), 2) := by decide +kernel
theorem dX3_winters_25 : decode cX3_winters 25 = .ok (.ireturn, 1) := by decide +kernel
theorem dX3_winters_26 : decode cX3_winters 26 = .ok (.aload_n 0, 1) := by decide +kernel
theorem dX3_winters_27 : decode cX3_winters 27 = .ok (.getfield 94, 3) := by decide +kernel
theorem dX3_winters_30 : decode cX3_winters 30 = .ok (.ifCond .ne 8, 3) := by decide +kernel
theorem dX3_winters_33 : decode cX3_winters 33 = .ok (.bipush (-103), 2) := by decide +kernel
theorem dX3_winters_35 : decode cX3_winters 35 = .ok (.goto 10, 3) := by decide +kernel
theorem dX3_winters_38 : decode cX3_winters 38 = .ok (.aload_n 0, 1) := by decide +kernel
theorem dX3_winters_39 : decode cX3_winters 39 = .ok (.iload_n 1, 1) := by decide +kernel
theorem dX3_winters_40 : decode cX3_winters 40 = .ok (.iload_n 2, 1) := by decide +kernel
theorem dX3_winters_41 : decode cX3_winters 41 = .ok (.iload_n 3, 1) := by decide +kernel
theorem dX3_winters_42 : decode cX3_winters 42 = .ok (.invokevirtual 205, 3) := by decide +kernel
theorem dX3_winters_45 : decode cX3_winters 45 = .ok (.ireturn, 1) := by decide +kernel
theorem dX3_image_0 : decode cX3_image 0 = .ok (.aload_n 0, 1) := by decide +kernel
theorem dX3_image_1 : decode cX3_image 1 = .ok (.getfield 94, 3) := by decide +kernel
theorem dX3_image_4 : decode cX3_image 4 = .ok (.ifCond .ne 6, 3) := by decide +kernel
theorem dX3_image_7 : decode cX3_image 7 = .ok (.bipush (-103), 2) := by decide +kernel
theorem dX3_image_9 : decode cX3_image 9 = .ok (.ireturn, 1) := by decide +kernel
theorem dX3_image_10 : decode cX3_image 10 = .ok (.aload_n 0, 1) := by decide +kernel
theorem dX3_image_11 : decode cX3_image 11 = .ok (.iconst 1, 1) := by decide +kernel
theorem dX3_image_12 : decode cX3_image 12 = .ok (.putfield 208, 3) := by decide +kernel
theorem dX3_image_15 : decode cX3_image 15 = .ok (.aload_n 0, 1) := by decide +kernel
theorem dX3_image_16 : decode cX3_image 16 = .ok (.aload_n 0, 1) := by decide +kernel
theorem dX3_image_17 : decode cX3_image 17 = .ok (.getfield 100, 3) := by decide +kernel
theorem dX3_image_20 : decode cX3_image 20 = .ok (.putfield 211, 3) := by decide +kernel
theorem dX3_image_23 : decode cX3_image 23 = .ok (.aload_n 0, 1) := by decide +kernel
theorem dX3_image_24 : decode cX3_image 24 = .ok (.aload_n 0, 1) := by decide +kernel
theorem dX3_image_25 : decode cX3_image 25 = .ok (.getfield 97, 3) := by decide +kernel
theorem dX3_image_28 : decode cX3_image 28 = .ok (.putfield 214, 3) := by decide +kernel
theorem dX3_image_31 : decode cX3_image 31 = .ok (.aload_n 0, 1) := by decide +kernel
theorem dX3_image_32 : decode cX3_image 32 = .ok (.aload_n 0, 1) := by decide +kernel
theorem dX3_image_33 : decode cX3_image 33 = .ok (.getfield 103, 3) := by decide +kernel
theorem dX3_image_36 : decode cX3_image 36 = .ok (.putfield 217, 3) := by decide +kernel
theorem dX3_image_39 : decode cX3_image 39 = .ok (.aload_n 0, 1) := by decide +kernel
theorem dX3_image_40 : decode cX3_image 40 = .ok (.aload_n 0, 1) := by decide +kernel
theorem dX3_image_41 : decode cX3_image 41 = .ok (.getfield 106, 3) := by decide +kernel
theorem dX3_image_44 : decode cX3_image 44 = .ok (.putfield 220, 3) := by decide +kernel
theorem dX3_image_47 : decode cX3_image 47 = .ok (.aload_n 0, 1) := by decide +kernel
theorem dX3_image_48 : decode cX3_image 48 = .ok (.aload_n 0, 1) := by decide +kernel
theorem dX3_image_49 : decode cX3_image 49 = .ok (.getfield 109, 3) := by decide +kernel
theorem dX3_image_52 : decode cX3_image 52 = .ok (.putfield 223, 3) := by decide +kernel
theorem dX3_image_55 : decode cX3_image 55 = .ok (.aload_n 0, 1) := by decide +kernel
theorem dX3_image_56 : decode cX3_image 56 = .ok (.aload_n 0, 1) := by decide +kernel
theorem dX3_image_57 : decode cX3_image 57 = .ok (.getfield 112, 3) := by decide +kernel
theorem dX3_image_60 : decode cX3_image 60 = .ok (.putfield 226, 3) := by decide +kernel
theorem dX3_image_63 : decode cX3_image 63 = .ok (.iconst 0, 1) := by decide +kernel
theorem dX3_image_64 : decode cX3_image 64 = .ok (.istore_n 1, 1) := by decide +kernel
theorem dX3_image_65 : decode cX3_image 65 = .ok (.iload_n 1, 1) := by decide +kernel
theorem dX3_image_66 : decode cX3_image 66 = .ok (.bipush 6, 2) := by decide +kernel
theorem dX3_image_68 : decode cX3_image 68 = .ok (.if_icmp .ge 93, 3) := by decide +kernel
theorem dX3_image_71 : decode cX3_image 71 = .ok (.aload_n 0, 1) := by decide +kernel
theorem dX3_image_72 : decode cX3_image 72 = .ok (.getfield 47, 3) := by decide +kernel
theorem dX3_image_75 : decode cX3_image 75 = .ok (.iload_n 1, 1) := by decide +kernel
theorem dX3_image_76 : decode cX3_image 76 = .ok (.aload_n 0, 1) := by decide +kernel
theorem dX3_image_77 : decode cX3_image 77 = .ok (.getfield 16, 3) := by decide +kernel
theorem dX3_image_80 : decode cX3_image 80 = .ok (.iload_n 1, 1) := by decide +kernel
theorem dX3_image_81 : decode cX3_image 81 = .ok (.iaload, 1) := by decide +kernel
theorem dX3_image_82 : decode cX3_image 82 = .ok (.iastore, 1) := by decide +kernel
theorem dX3_image_83 : decode cX3_image 83 = .ok (.aload_n 0, 1) := by decide +kernel
theorem dX3_image_84 : decode cX3_image 84 = .ok (.getfield 50, 3) := by decide +kernel
theorem dX3_image_87 : decode cX3_image 87 = .ok (.iload_n 1, 1) := by decide +kernel
theorem dX3_image_88 : decode cX3_image 88 = .ok (.aload_n 0, 1) := by decide +kernel
theorem dX3_image_89 : decode cX3_image 89 = .ok (.getfield 19, 3) := by decide +kernel
theorem dX3_image_92 : decode cX3_image 92 = .ok (.iload_n 1, 1) := by decide +kernel
theorem dX3_image_93 : decode cX3_image 93 = .ok (.iaload, 1) := by decide +kernel
theorem dX3_image_94 : decode cX3_image 94 = .ok (.iastore, 1) := by decide +kernel
theorem dX3_image_95 : decode cX3_image 95 = .ok (.aload_n 0, 1) := by decide +kernel
theorem dX3_image_96 : decode cX3_image 96 = .ok (.getfield 53, 3) := by decide +kernel
theorem dX3_image_99 : decode cX3_image 99 = .ok (.iload_n 1, 1) := by decide +kernel
theorem dX3_image_100 : decode cX3_image 100 = .ok (.aload_n 0, 1) := by decide +kernel
theorem dX3_image_101 : decode cX3_image 101 = .ok (.getfield 22, 3) := by decide +kernel
theorem dX3_image_104 : decode cX3_image 104 = .ok (.iload_n 1, 1) := by decide +kernel
theorem dX3_image_105 : decode cX3_image 105 = .ok (.iaload, 1) := by decide +kernel
theorem dX3_image_106 : decode cX3_image 106 = .ok (.iastore, 1) := by decide +kernel
theorem dX3_image_107 : decode cX3_image 107 = .ok (.aload_n 0, 1) := by decide +kernel
theorem dX3_image_108 : decode cX3_image 108 = .ok (.getfield 56, 3) := by decide +kernel
theorem dX3_image_111 : decode cX3_image 111 = .ok (.iload_n 1, 1) := by decide +kernel
theorem dX3_image_112 : decode cX3_image 112 = .ok (.aload_n 0, 1) := by decide +kernel
theorem dX3_image_113 : decode cX3_image 113 = .ok (.getfield 25, 3) := by decide +kernel
theorem dX3_image_116 : decode cX3_image 116 = .ok (.iload_n 1, 1) := by decide +kernel
theorem dX3_image_117 : decode cX3_image 117 = .ok (.iaload, 1) := by decide +kernel
theorem dX3_image_118 : decode cX3_image 118 = .ok (.iastore, 1) := by decide +kernel
theorem dX3_image_119 : decode cX3_image 119 = .ok (.aload_n 0, 1) := by decide +kernel
theorem dX3_image_120 : decode cX3_image 120 = .ok (.getfield 59, 3) := by decide +kernel
theorem dX3_image_123 : decode cX3_image 123 = .ok (.iload_n 1, 1) := by decide +kernel
theorem dX3_image_124 : decode cX3_image 124 = .ok (.aload_n 0, 1) := by decide +kernel
theorem dX3_image_125 : decode cX3_image 125 = .ok (.getfield 28, 3) := by decide +kernel
theorem dX3_image_128 : decode cX3_image 128 = .ok (.iload_n 1, 1) := by decide +kernel
theorem dX3_image_129 : decode cX3_image 129 = .ok (.iaload, 1) := by decide +kernel
theorem dX3_image_130 : decode cX3_image 130 = .ok (.iastore, 1) := by decide +kernel
theorem dX3_image_131 : decode cX3_image 131 = .ok (.aload_n 0, 1) := by decide +kernel
theorem dX3_image_132 : decode cX3_image 132 = .ok (.getfield 62, 3) := by decide +kernel
theorem dX3_image_135 : decode cX3_image 135 = .ok (.iload_n 1, 1) := by decide +kernel
theorem dX3_image_136 : decode cX3_image 136 = .ok (.aload_n 0, 1) := by decide +kernel
theorem dX3_image_137 : decode cX3_image 137 = .ok (.getfield 31, 3) := by decide +kernel
theorem dX3_image_140 : decode cX3_image 140 = .ok (.iload_n 1, 1) := by decide +kernel
theorem dX3_image_141 : decode cX3_image 141 = .ok (.iaload, 1) := by decide +kernel
theorem dX3_image_142 : decode cX3_image 142 = .ok (.iastore, 1) := by decide +kernel
theorem dX3_image_143 : decode cX3_image 143 = .ok (.aload_n 0, 1) := by decide +kernel
theorem dX3_image_144 : decode cX3_image 144 = .ok (.getfield 65, 3) := by decide +kernel
theorem dX3_image_147 : decode cX3_image 147 = .ok (.iload_n 1, 1) := by decide +kernel
theorem dX3_image_148 : decode cX3_image 148 = .ok (.aload_n 0, 1) := by decide +kernel
theorem dX3_image_149 : decode cX3_image 149 = .ok (.getfield 34, 3) := by decide +kernel
theorem dX3_image_152 : decode cX3_image 152 = .ok (.iload_n 1, 1) := by decide +kernel
theorem dX3_image_153 : decode cX3_image 153 = .ok (.iaload, 1) := by decide +kernel
theorem dX3_image_154 : decode cX3_image 154 = .ok (.iastore, 1) := by decide +kernel
theorem dX3_image_155 : decode cX3_image 155 = .ok (.iinc 1 1, 3) := by decide +kernel
theorem dX3_image_158 : decode cX3_image 158 = .ok (.goto (-93), 3) := by decide +kernel
theorem dX3_image_161 : decode cX3_image 161 = .ok (.aload_n 0, 1) := by decide +kernel
theorem dX3_image_162 : decode cX3_image 162 = .ok (.getfield 103, 3) := by decide +kernel
theorem dX3_image_165 : decode cX3_image 165 = .ok (.ireturn, 1) := by decide +kernel
theorem dX3_restore_0 : decode cX3_restore 0 = .ok (.aload_n 0, 1) := by decide +kernel
theorem dX3_restore_1 : decode cX3_restore 1 = .ok (.getfield 208, 3) := by decide +kernel
theorem dX3_restore_4 : decode cX3_restore 4 = .ok (.ifCond .eq 14, 3) := by decide +kernel
theorem dX3_restore_7 : decode cX3_restore 7 = .ok (.aload_n 0, 1) := by decide +kernel
theorem dX3_restore_8 : decode cX3_restore 8 = .ok (.getfield 211, 3) := by decide +kernel
theorem dX3_restore_11 : decode cX3_restore 11 = .ok (.aload_n 0, 1) := by decide +kernel
theorem dX3_restore_12 : decode cX3_restore 12 = .ok (.getfield 100, 3) := by decide +kernel
theorem dX3_restore_15 : decode cX3_restore 15 = .ok (.if_icmp .eq 6, 3) := by decide +kernel
theorem dX3_restore_18 : decode cX3_restore 18 = .ok (.bipush (-103), 2) := by decide +kernel
theorem dX3_restore_20 : decode cX3_restore 20 = .ok (.ireturn, 1) := by decide +kernel
theorem dX3_restore_21 : decode cX3_restore 21 = .ok (.aload_n 0, 1) := by decide +kernel
theorem dX3_restore_22 : decode cX3_restore 22 = .ok (.aload_n 0, 1) := by decide +kernel
theorem dX3_restore_23 : decode cX3_restore 23 = .ok (.getfield 214, 3) := by decide +kernel
theorem dX3_restore_26 : decode cX3_restore 26 = .ok (.putfield 97, 3) := by decide +kernel
theorem dX3_restore_29 : decode cX3_restore 29 = .ok (.aload_n 0, 1) := by decide +kernel
theorem dX3_restore_30 : decode cX3_restore 30 = .ok (.aload_n 0, 1) := by decide +kernel
theorem dX3_restore_31 : decode cX3_restore 31 = .ok (.getfield 217, 3) := by decide +kernel
theorem dX3_restore_34 : decode cX3_restore 34 = .ok (.putfield 103, 3) := by decide +kernel
theorem dX3_restore_37 : decode cX3_restore 37 = .ok (.aload_n 0, 1) := by decide +kernel
theorem dX3_restore_38 : decode cX3_restore 38 = .ok (.aload_n 0, 1) := by decide +kernel
theorem dX3_restore_39 : decode cX3_restore 39 = .ok (.getfield 220, 3) := by decide +kernel
theorem dX3_restore_42 : decode cX3_restore 42 = .ok (.putfield 106, 3) := by decide +kernel
theorem dX3_restore_45 : decode cX3_restore 45 = .ok (.aload_n 0, 1) := by decide +kernel
theorem dX3_restore_46 : decode cX3_restore 46 = .ok (.aload_n 0, 1) := by decide +kernel
theorem dX3_restore_47 : decode cX3_restore 47 = .ok (.getfield 223, 3) := by decide +kernel
theorem dX3_restore_50 : decode cX3_restore 50 = .ok (.putfield 109, 3) := by decide +kernel
theorem dX3_restore_53 : decode cX3_restore 53 = .ok (.aload_n 0, 1) := by decide +kernel
theorem dX3_restore_54 : decode cX3_restore 54 = .ok (.aload_n 0, 1) := by decide +kernel
theorem dX3_restore_55 : decode cX3_restore 55 = .ok (.getfield 226, 3) := by decide +kernel
theorem dX3_restore_58 : decode cX3_restore 58 = .ok (.putfield 112, 3) := by decide +kernel
theorem dX3_restore_61 : decode cX3_restore 61 = .ok (.iconst 0, 1) := by decide +kernel
theorem dX3_restore_62 : decode cX3_restore 62 = .ok (.istore_n 1, 1) := by decide +kernel
theorem dX3_restore_63 : decode cX3_restore 63 = .ok (.iload_n 1, 1) := by decide +kernel
theorem dX3_restore_64 : decode cX3_restore 64 = .ok (.bipush 6, 2) := by decide +kernel
theorem dX3_restore_66 : decode cX3_restore 66 = .ok (.if_icmp .ge 93, 3) := by decide +kernel
theorem dX3_restore_69 : decode cX3_restore 69 = .ok (.aload_n 0, 1) := by decide +kernel
theorem dX3_restore_70 : decode cX3_restore 70 = .ok (.getfield 16, 3) := by decide +kernel
theorem dX3_restore_73 : decode cX3_restore 73 = .ok (.iload_n 1, 1) := by decide +kernel
theorem dX3_restore_74 : decode cX3_restore 74 = .ok (.aload_n 0, 1) := by decide +kernel
theorem dX3_restore_75 : decode cX3_restore 75 = .ok (.getfield 47, 3) := by decide +kernel
theorem dX3_restore_78 : decode cX3_restore 78 = .ok (.iload_n 1, 1) := by decide +kernel
theorem dX3_restore_79 : decode cX3_restore 79 = .ok (.iaload, 1) := by decide +kernel
theorem dX3_restore_80 : decode cX3_restore 80 = .ok (.iastore, 1) := by decide +kernel
theorem dX3_restore_81 : decode cX3_restore 81 = .ok (.aload_n 0, 1) := by decide +kernel
theorem dX3_restore_82 : decode cX3_restore 82 = .ok (.getfield 19, 3) := by decide +kernel
theorem dX3_restore_85 : decode cX3_restore 85 = .ok (.iload_n 1, 1) := by decide +kernel
theorem dX3_restore_86 : decode cX3_restore 86 = .ok (.aload_n 0, 1) := by decide +kernel
theorem dX3_restore_87 : decode cX3_restore 87 = .ok (.getfield 50, 3) := by decide +kernel
theorem dX3_restore_90 : decode cX3_restore 90 = .ok (.iload_n 1, 1) := by decide +kernel
theorem dX3_restore_91 : decode cX3_restore 91 = .ok (.iaload, 1) := by decide +kernel
theorem dX3_restore_92 : decode cX3_restore 92 = .ok (.iastore, 1) := by decide +kernel
theorem dX3_restore_93 : decode cX3_restore 93 = .ok (.aload_n 0, 1) := by decide +kernel
theorem dX3_restore_94 : decode cX3_restore 94 = .ok (.getfield 22, 3) := by decide +kernel
theorem dX3_restore_97 : decode cX3_restore 97 = .ok (.iload_n 1, 1) := by decide +kernel
theorem dX3_restore_98 : decode cX3_restore 98 = .ok (.aload_n 0, 1) := by decide +kernel
theorem dX3_restore_99 : decode cX3_restore 99 = .ok (.getfield 53, 3) := by decide +kernel
theorem dX3_restore_102 : decode cX3_restore 102 = .ok (.iload_n 1, 1) := by decide +kernel
theorem dX3_restore_103 : decode cX3_restore 103 = .ok (.iaload, 1) := by decide +kernel
theorem dX3_restore_104 : decode cX3_restore 104 = .ok (.iastore, 1) := by decide +kernel
theorem dX3_restore_105 : decode cX3_restore 105 = .ok (.aload_n 0, 1) := by decide +kernel
theorem dX3_restore_106 : decode cX3_restore 106 = .ok (.getfield 25, 3) := by decide +kernel
theorem dX3_restore_109 : decode cX3_restore 109 = .ok (.iload_n 1, 1) := by decide +kernel
theorem dX3_restore_110 : decode cX3_restore 110 = .ok (.aload_n 0, 1) := by decide +kernel
theorem dX3_restore_111 : decode cX3_restore 111 = .ok (.getfield 56, 3) := by decide +kernel
theorem dX3_restore_114 : decode cX3_restore 114 = .ok (.iload_n 1, 1) := by decide +kernel
theorem dX3_restore_115 : decode cX3_restore 115 = .ok (.iaload, 1) := by decide +kernel
theorem dX3_restore_116 : decode cX3_restore 116 = .ok (.iastore, 1) := by decide +kernel
theorem dX3_restore_117 : decode cX3_restore 117 = .ok (.aload_n 0, 1) := by decide +kernel
theorem dX3_restore_118 : decode cX3_restore 118 = .ok (.getfield 28, 3) := by decide +kernel
theorem dX3_restore_121 : decode cX3_restore 121 = .ok (.iload_n 1, 1) := by decide +kernel
theorem dX3_restore_122 : decode cX3_restore 122 = .ok (.aload_n 0, 1) := by decide +kernel
theorem dX3_restore_123 : decode cX3_restore 123 = .ok (.getfield 59, 3) := by decide +kernel
theorem dX3_restore_126 : decode cX3_restore 126 = .ok (.iload_n 1, 1) := by decide +kernel
theorem dX3_restore_127 : decode cX3_restore 127 = .ok (.iaload, 1) := by decide +kernel
theorem dX3_restore_128 : decode cX3_restore 128 = .ok (.iastore, 1) := by decide +kernel
theorem dX3_restore_129 : decode cX3_restore 129 = .ok (.aload_n 0, 1) := by decide +kernel
theorem dX3_restore_130 : decode cX3_restore 130 = .ok (.getfield 31, 3) := by decide +kernel
theorem dX3_restore_133 : decode cX3_restore 133 = .ok (.iload_n 1, 1) := by decide +kernel
theorem dX3_restore_134 : decode cX3_restore 134 = .ok (.aload_n 0, 1) := by decide +kernel
theorem dX3_restore_135 : decode cX3_restore 135 = .ok (.getfield 62, 3) := by decide +kernel
theorem dX3_restore_138 : decode cX3_restore 138 = .ok (.iload_n 1, 1) := by decide +kernel
theorem dX3_restore_139 : decode cX3_restore 139 = .ok (.iaload, 1) := by decide +kernel
theorem dX3_restore_140 : decode cX3_restore 140 = .ok (.iastore, 1) := by decide +kernel
theorem dX3_restore_141 : decode cX3_restore 141 = .ok (.aload_n 0, 1) := by decide +kernel
theorem dX3_restore_142 : decode cX3_restore 142 = .ok (.getfield 34, 3) := by decide +kernel
theorem dX3_restore_145 : decode cX3_restore 145 = .ok (.iload_n 1, 1) := by decide +kernel
theorem dX3_restore_146 : decode cX3_restore 146 = .ok (.aload_n 0, 1) := by decide +kernel
theorem dX3_restore_147 : decode cX3_restore 147 = .ok (.getfield 65, 3) := by decide +kernel
theorem dX3_restore_150 : decode cX3_restore 150 = .ok (.iload_n 1, 1) := by decide +kernel
theorem dX3_restore_151 : decode cX3_restore 151 = .ok (.iaload, 1) := by decide +kernel
theorem dX3_restore_152 : decode cX3_restore 152 = .ok (.iastore, 1) := by decide +kernel
theorem dX3_restore_153 : decode cX3_restore 153 = .ok (.iinc 1 1, 3) := by decide +kernel
theorem dX3_restore_156 : decode cX3_restore 156 = .ok (.goto (-93), 3) := by decide +kernel
theorem dX3_restore_159 : decode cX3_restore 159 = .ok (.aload_n 0, 1) := by decide +kernel
theorem dX3_restore_160 : decode cX3_restore 160 = .ok (.getfield 103, 3) := by decide +kernel
theorem dX3_restore_163 : decode cX3_restore 163 = .ok (.ireturn, 1) := by decide +kernel
set_option maxRecDepth 20000 in
theorem ggX3_howMany_X3_snowAll : GoodIn wsX3_howMany wsX3_snowAll := goodIn_r _ [13, 1, 14, 24, 25, 26, 27, 28, 29, 30, 31, 32, 33, 34, 35, 36, 37, 38, 39, 40, 41, 42, 43, 44, 45, 46, 47, 48, 49, 50, 51, 52, 53, 54, 55, 56, 57, 58, 59, 60, 61, 62, 63] (by decide +kernel) (by decide +kernel)
set_option maxRecDepth 20000 in
theorem gX3_howMany_X3_snowAll : GoodIn wsX3_howMany (wsV RX3 202 RX3 yX3_snowAll wsX3_snowAll) := goodIn_app (goodIn_of _ (by decide +kernel)) ggX3_howMany_X3_snowAll
set_option maxRecDepth 20000 in
theorem ggX3_howMany_X3_keptNow : GoodIn wsX3_howMany wsX3_keptNow := goodIn_r _ [18, 1, 14, 19, 20, 21, 12, 22, 23, 24, 25, 26, 27, 28, 29, 30, 31, 32, 33, 34, 35, 36, 37, 38, 39, 40, 41, 42, 43, 44, 45, 46, 47, 48, 49, 50, 51, 52, 53, 54, 55, 56, 57, 58, 59, 60, 61, 62, 63] (by decide +kernel) (by decide +kernel)
set_option maxRecDepth 20000 in
theorem gX3_howMany_X3_keptNow : GoodIn wsX3_howMany (wsV RX3 140 RX3 yX3_keptNow wsX3_keptNow) := goodIn_app (goodIn_of _ (by decide +kernel)) ggX3_howMany_X3_keptNow
theorem dX3_howMany_0 : decode cX3_howMany 0 = .ok (.iload_n 1, 1) := by decide +kernel
theorem dX3_howMany_1 : decode cX3_howMany 1 = .ok (.tableswitch 105 0 9 #[55, 60, 65, 70, 75, 80, 85, 90, 95, 100], 55) := by decide +kernel
theorem dX3_howMany_56 : decode cX3_howMany 56 = .ok (.aload_n 0, 1) := by decide +kernel
theorem dX3_howMany_57 : decode cX3_howMany 57 = .ok (.getfield 94, 3) := by decide +kernel
theorem dX3_howMany_60 : decode cX3_howMany 60 = .ok (.ireturn, 1) := by decide +kernel
theorem dX3_howMany_61 : decode cX3_howMany 61 = .ok (.aload_n 0, 1) := by decide +kernel
theorem dX3_howMany_62 : decode cX3_howMany 62 = .ok (.getfield 97, 3) := by decide +kernel
theorem dX3_howMany_65 : decode cX3_howMany 65 = .ok (.ireturn, 1) := by decide +kernel
theorem dX3_howMany_66 : decode cX3_howMany 66 = .ok (.aload_n 0, 1) := by decide +kernel
theorem dX3_howMany_67 : decode cX3_howMany 67 = .ok (.getfield 103, 3) := by decide +kernel
theorem dX3_howMany_70 : decode cX3_howMany 70 = .ok (.ireturn, 1) := by decide +kernel
theorem dX3_howMany_71 : decode cX3_howMany 71 = .ok (.aload_n 0, 1) := by decide +kernel
theorem dX3_howMany_72 : decode cX3_howMany 72 = .ok (.invokevirtual 202, 3) := by decide +kernel
theorem dX3_howMany_75 : decode cX3_howMany 75 = .ok (.ireturn, 1) := by decide +kernel
theorem dX3_howMany_76 : decode cX3_howMany 76 = .ok (.aload_n 0, 1) := by decide +kernel
theorem dX3_howMany_77 : decode cX3_howMany 77 = .ok (.invokevirtual 140, 3) := by decide +kernel
theorem dX3_howMany_80 : decode cX3_howMany 80 = .ok (.ireturn, 1) := by decide +kernel
theorem dX3_howMany_81 : decode cX3_howMany 81 = .ok (.aload_n 0, 1) := by decide +kernel
theorem dX3_howMany_82 : decode cX3_howMany 82 = .ok (.getfield 106, 3) := by decide +kernel
theorem dX3_howMany_85 : decode cX3_howMany 85 = .ok (.ireturn, 1) := by decide +kernel
theorem dX3_howMany_86 : decode cX3_howMany 86 = .ok (.aload_n 0, 1) := by decide +kernel
theorem dX3_howMany_87 : decode cX3_howMany 87 = .ok (.getfield 109, 3) := by decide +kernel
theorem dX3_howMany_90 : decode cX3_howMany 90 = .ok (.ireturn, 1) := by decide +kernel
theorem dX3_howMany_91 : decode cX3_howMany 91 = .ok (.aload_n 0, 1) := by decide +kernel
theorem dX3_howMany_92 : decode cX3_howMany 92 = .ok (.getfield 112, 3) := by decide +kernel
theorem dX3_howMany_95 : decode cX3_howMany 95 = .ok (.ireturn, 1) := by decide +kernel
theorem dX3_howMany_96 : decode cX3_howMany 96 = .ok (.aload_n 0, 1) := by decide +kernel
theorem dX3_howMany_97 : decode cX3_howMany 97 = .ok (.getfield 72, 3) := by decide +kernel
theorem dX3_howMany_100 : decode cX3_howMany 100 = .ok (.ireturn, 1) := by decide +kernel
theorem dX3_howMany_101 : decode cX3_howMany 101 = .ok (.aload_n 0, 1) := by decide +kernel
theorem dX3_howMany_102 : decode cX3_howMany 102 = .ok (.getfield 100, 3) := by decide +kernel
theorem dX3_howMany_105 : decode cX3_howMany 105 = .ok (.ireturn, 1) := by decide +kernel
theorem dX3_howMany_106 : decode cX3_howMany 106 = .ok (.bipush (-102), 2) := by decide +kernel
theorem dX3_howMany_108 : decode cX3_howMany 108 = .ok (.ireturn, 1) := by decide +kernel
set_option maxRecDepth 20000 in
theorem ggX3_count_X3_howMany : GoodIn wsX3_count wsX3_howMany := goodIn_r _ [5, 6, 7, 8, 9, 10, 11, 12, 13, 14, 15, 16, 4, 17, 18, 19, 20, 21, 22, 23, 24, 25, 26, 27, 28, 29, 30, 31, 32, 33, 34, 35, 36, 37, 38, 39, 40, 41, 42, 43, 44, 45, 46, 47, 48, 49, 50, 51, 52, 53, 54, 55, 56, 57, 58, 59, 60, 61, 62, 63, 64, 65, 66, 67] (by decide +kernel) (by decide +kernel)
set_option maxRecDepth 20000 in
theorem gX3_count_X3_howMany : GoodIn wsX3_count (wsV RX3 229 RX3 yX3_howMany wsX3_howMany) := goodIn_app (goodIn_of _ (by decide +kernel)) ggX3_count_X3_howMany
theorem dX3_count_0 : decode cX3_count 0 = .ok (.aload_n 0, 1) := by decide +kernel
theorem dX3_count_1 : decode cX3_count 1 = .ok (.iload_n 1, 1) := by decide +kernel
theorem dX3_count_2 : decode cX3_count 2 = .ok (.invokevirtual 229, 3) := by decide +kernel
theorem dX3_count_5 : decode cX3_count 5 = .ok (.ireturn, 1) := by decide +kernel
theorem dX3_mix_0 : decode cX3_mix 0 = .ok (.aload_n 0, 1) := by decide +kernel
theorem dX3_mix_1 : decode cX3_mix 1 = .ok (.ldc2_w 232, 3) := by decide +kernel
theorem dX3_mix_4 : decode cX3_mix 4 = .ok (.aload_n 0, 1) := by decide +kernel
theorem dX3_mix_5 : decode cX3_mix 5 = .ok (.getfield 234, 3) := by decide +kernel
theorem dX3_mix_8 : decode cX3_mix 8 = .ok (.lmul, 1) := by decide +kernel
theorem dX3_mix_9 : decode cX3_mix 9 = .ok (.lload_n 1, 1) := by decide +kernel
theorem dX3_mix_10 : decode cX3_mix 10 = .ok (.ladd, 1) := by decide +kernel
theorem dX3_mix_11 : decode cX3_mix 11 = .ok (.putfield 234, 3) := by decide +kernel
theorem dX3_mix_14 : decode cX3_mix 14 = .ok (.return_, 1) := by decide +kernel
set_option maxRecDepth 20000 in
theorem ggX3_digest_X3_siteNow : GoodIn wsX3_digest wsX3_siteNow := goodIn_r _ [10, 11, 12, 13, 14, 15, 16, 17, 18, 19, 9, 20, 21, 22, 23, 24, 25, 26, 27, 107, 108, 109, 110, 111, 112, 113, 114, 115, 116, 117, 118, 119, 120, 121, 122, 123, 124, 125, 126, 127, 128, 129, 130, 131, 132, 133, 134, 135, 136, 137, 138, 139, 140, 141, 142, 143, 144, 145, 146] (by decide +kernel) (by decide +kernel)
set_option maxRecDepth 20000 in
theorem gX3_digest_X3_siteNow : GoodIn wsX3_digest (wsV RX3 130 RX3 yX3_siteNow wsX3_siteNow) := goodIn_app (goodIn_of _ (by decide +kernel)) ggX3_digest_X3_siteNow
set_option maxRecDepth 20000 in
theorem ggX3_digest_X3_mix : GoodIn wsX3_digest wsX3_mix := goodIn_r _ [31, 32, 2, 107, 108, 109, 110, 111, 112, 113, 114, 115, 116, 117, 118, 119, 120, 121, 122, 123, 124, 125, 126, 127, 128, 129, 130, 131, 132, 133, 134, 135, 136, 137, 138, 139, 140, 141, 142, 143, 144, 145, 146] (by decide +kernel) (by decide +kernel)
set_option maxRecDepth 20000 in
theorem gX3_digest_X3_mix : GoodIn wsX3_digest (wsV RX3 239 RX3 yX3_mix wsX3_mix) := goodIn_app (goodIn_of _ (by decide +kernel)) ggX3_digest_X3_mix
set_option maxRecDepth 20000 in
theorem ggX3_digest_X3_needOf : GoodIn wsX3_digest wsX3_needOf := goodIn_r _ [36, 37, 38, 39, 9, 40, 13, 15, 41, 42, 43, 24, 25, 26, 27, 12, 17, 18, 19, 20, 14, 11, 21, 22, 23, 107, 108, 109, 110, 111, 112, 113, 114, 115, 116, 117, 118, 119, 120, 121, 122, 123, 124, 125, 126, 127, 128, 129, 130, 131, 132, 133, 134, 135, 136, 137, 138, 139, 140, 141, 142, 143, 144, 145, 146] (by decide +kernel) (by decide +kernel)
set_option maxRecDepth 20000 in
theorem gX3_digest_X3_needOf : GoodIn wsX3_digest (wsV RX3 146 RX3 yX3_needOf wsX3_needOf) := goodIn_app (goodIn_of _ (by decide +kernel)) ggX3_digest_X3_needOf
set_option maxRecDepth 20000 in
theorem ggX3_digest_X3_planNow : GoodIn wsX3_digest wsX3_planNow := goodIn_r _ [47, 3, 48, 49, 50, 33, 34, 35, 9, 36, 37, 38, 39, 40, 13, 15, 41, 42, 43, 24, 25, 26, 27, 12, 17, 18, 19, 20, 14, 11, 21, 22, 23, 51, 52, 53, 54, 55, 56, 57, 58, 59, 60, 107, 108, 109, 110, 111, 112, 113, 114, 115, 116, 117, 118, 119, 120, 121, 122, 123, 124, 125, 126, 127, 128, 129, 130, 131, 132, 133, 134, 135, 136, 137, 138, 139, 140, 141, 142, 143, 144, 145, 146] (by decide +kernel) (by decide +kernel)
set_option maxRecDepth 20000 in
theorem gX3_digest_X3_planNow : GoodIn wsX3_digest (wsV RX3 164 RX3 yX3_planNow wsX3_planNow) := goodIn_app (goodIn_of _ (by decide +kernel)) ggX3_digest_X3_planNow
set_option maxRecDepth 20000 in
theorem ggX3_digest_X3_errorNow : GoodIn wsX3_digest wsX3_errorNow := goodIn_r _ [64, 3, 65, 66, 67, 9, 68, 13, 24, 25, 26, 27, 12, 69, 70, 71, 72, 73, 16, 41, 42, 43, 107, 108, 109, 110, 111, 112, 113, 114, 115, 116, 117, 118, 119, 120, 121, 122, 123, 124, 125, 126, 127, 128, 129, 130, 131, 132, 133, 134, 135, 136, 137, 138, 139, 140, 141, 142, 143, 144, 145, 146] (by decide +kernel) (by decide +kernel)
set_option maxRecDepth 20000 in
theorem gX3_digest_X3_errorNow : GoodIn wsX3_digest (wsV RX3 171 RX3 yX3_errorNow wsX3_errorNow) := goodIn_app (goodIn_of _ (by decide +kernel)) ggX3_digest_X3_errorNow
set_option maxRecDepth 20000 in
theorem ggX3_digest_X3_sunsNow : GoodIn wsX3_digest wsX3_sunsNow := goodIn_r _ [77, 78, 79, 80, 81, 82, 83, 84, 9, 85, 17, 18, 19, 20, 14, 11, 21, 22, 23, 107, 108, 109, 110, 111, 112, 113, 114, 115, 116, 117, 118, 119, 120, 121, 122, 123, 124, 125, 126, 127, 128, 129, 130, 131, 132, 133, 134, 135, 136, 137, 138, 139, 140, 141, 142, 143, 144, 145, 146] (by decide +kernel) (by decide +kernel)
set_option maxRecDepth 20000 in
theorem gX3_digest_X3_sunsNow : GoodIn wsX3_digest (wsV RX3 177 RX3 yX3_sunsNow wsX3_sunsNow) := goodIn_app (goodIn_of _ (by decide +kernel)) ggX3_digest_X3_sunsNow
set_option maxRecDepth 20000 in
theorem ggX3_digest_X3_lookNow : GoodIn wsX3_digest wsX3_lookNow := goodIn_r _ [89, 90, 3, 74, 75, 76, 9, 77, 78, 79, 80, 81, 82, 83, 84, 85, 17, 18, 19, 20, 14, 11, 21, 22, 23, 91, 92, 93, 94, 55, 56, 57, 107, 108, 109, 110, 111, 112, 113, 114, 115, 116, 117, 118, 119, 120, 121, 122, 123, 124, 125, 126, 127, 128, 129, 130, 131, 132, 133, 134, 135, 136, 137, 138, 139, 140, 141, 142, 143, 144, 145, 146] (by decide +kernel) (by decide +kernel)
set_option maxRecDepth 20000 in
theorem gX3_digest_X3_lookNow : GoodIn wsX3_digest (wsV RX3 184 RX3 yX3_lookNow wsX3_lookNow) := goodIn_app (goodIn_of _ (by decide +kernel)) ggX3_digest_X3_lookNow
set_option maxRecDepth 20000 in
theorem ggX3_digest_X3_howMany : GoodIn wsX3_digest wsX3_howMany := goodIn_r _ [98, 3, 15, 99, 100, 101, 78, 4, 102, 103, 104, 105, 9, 106, 13, 65, 66, 67, 68, 24, 25, 26, 27, 12, 107, 108, 109, 110, 111, 112, 113, 114, 115, 116, 117, 118, 119, 120, 121, 122, 123, 124, 125, 126, 127, 128, 129, 130, 131, 132, 133, 134, 135, 136, 137, 138, 139, 140, 141, 142, 143, 144, 145, 146] (by decide +kernel) (by decide +kernel)
set_option maxRecDepth 20000 in
theorem gX3_digest_X3_howMany : GoodIn wsX3_digest (wsV RX3 229 RX3 yX3_howMany wsX3_howMany) := goodIn_app (goodIn_of _ (by decide +kernel)) ggX3_digest_X3_howMany
theorem dX3_digest_0 : decode cX3_digest 0 = .ok (.aload_n 0, 1) := by decide +kernel
theorem dX3_digest_1 : decode cX3_digest 1 = .ok (.ldc2_w 237, 3) := by decide +kernel
theorem dX3_digest_4 : decode cX3_digest 4 = .ok (.putfield 234, 3) := by decide +kernel
theorem dX3_digest_7 : decode cX3_digest 7 = .ok (.iconst 0, 1) := by decide +kernel
theorem dX3_digest_8 : decode cX3_digest 8 = .ok (.istore_n 1, 1) := by decide +kernel
theorem dX3_digest_9 : decode cX3_digest 9 = .ok (.iload_n 1, 1) := by decide +kernel
theorem dX3_digest_10 : decode cX3_digest 10 = .ok (.aload_n 0, 1) := by decide +kernel
theorem dX3_digest_11 : decode cX3_digest 11 = .ok (.getfield 94, 3) := by decide +kernel
theorem dX3_digest_14 : decode cX3_digest 14 = .ok (.if_icmp .ge 67, 3) := by decide +kernel
theorem dX3_digest_17 : decode cX3_digest 17 = .ok (.iconst 0, 1) := by decide +kernel
theorem dX3_digest_18 : decode cX3_digest 18 = .ok (.istore_n 2, 1) := by decide +kernel
theorem dX3_digest_19 : decode cX3_digest 19 = .ok (.iload_n 2, 1) := by decide +kernel
theorem dX3_digest_20 : decode cX3_digest 20 = .ok (.bipush 7, 2) := by decide +kernel
theorem dX3_digest_22 : decode cX3_digest 22 = .ok (.if_icmp .ge 20, 3) := by decide +kernel
theorem dX3_digest_25 : decode cX3_digest 25 = .ok (.aload_n 0, 1) := by decide +kernel
theorem dX3_digest_26 : decode cX3_digest 26 = .ok (.aload_n 0, 1) := by decide +kernel
theorem dX3_digest_27 : decode cX3_digest 27 = .ok (.iload_n 1, 1) := by decide +kernel
theorem dX3_digest_28 : decode cX3_digest 28 = .ok (.iload_n 2, 1) := by decide +kernel
theorem dX3_digest_29 : decode cX3_digest 29 = .ok (.invokevirtual 130, 3) := by decide +kernel
theorem dX3_digest_32 : decode cX3_digest 32 = .ok (.i2l, 1) := by decide +kernel
theorem dX3_digest_33 : decode cX3_digest 33 = .ok (.invokevirtual 239, 3) := by decide +kernel
theorem dX3_digest_36 : decode cX3_digest 36 = .ok (.iinc 2 1, 3) := by decide +kernel
theorem dX3_digest_39 : decode cX3_digest 39 = .ok (.goto (-20), 3) := by decide +kernel
theorem dX3_digest_42 : decode cX3_digest 42 = .ok (.aload_n 0, 1) := by decide +kernel
theorem dX3_digest_43 : decode cX3_digest 43 = .ok (.aload_n 0, 1) := by decide +kernel
theorem dX3_digest_44 : decode cX3_digest 44 = .ok (.iload_n 1, 1) := by decide +kernel
theorem dX3_digest_45 : decode cX3_digest 45 = .ok (.iconst 0, 1) := by decide +kernel
theorem dX3_digest_46 : decode cX3_digest 46 = .ok (.invokevirtual 146, 3) := by decide +kernel
theorem dX3_digest_49 : decode cX3_digest 49 = .ok (.i2l, 1) := by decide +kernel
theorem dX3_digest_50 : decode cX3_digest 50 = .ok (.invokevirtual 239, 3) := by decide +kernel
theorem dX3_digest_53 : decode cX3_digest 53 = .ok (.aload_n 0, 1) := by decide +kernel
theorem dX3_digest_54 : decode cX3_digest 54 = .ok (.aload_n 0, 1) := by decide +kernel
theorem dX3_digest_55 : decode cX3_digest 55 = .ok (.iload_n 1, 1) := by decide +kernel
theorem dX3_digest_56 : decode cX3_digest 56 = .ok (.iconst 1, 1) := by decide +kernel
theorem dX3_digest_57 : decode cX3_digest 57 = .ok (.invokevirtual 146, 3) := by decide +kernel
theorem dX3_digest_60 : decode cX3_digest 60 = .ok (.i2l, 1) := by decide +kernel
theorem dX3_digest_61 : decode cX3_digest 61 = .ok (.invokevirtual 239, 3) := by decide +kernel
theorem dX3_digest_64 : decode cX3_digest 64 = .ok (.aload_n 0, 1) := by decide +kernel
theorem dX3_digest_65 : decode cX3_digest 65 = .ok (.aload_n 0, 1) := by decide +kernel
theorem dX3_digest_66 : decode cX3_digest 66 = .ok (.iload_n 1, 1) := by decide +kernel
theorem dX3_digest_67 : decode cX3_digest 67 = .ok (.iconst 5, 1) := by decide +kernel
theorem dX3_digest_68 : decode cX3_digest 68 = .ok (.invokevirtual 146, 3) := by decide +kernel
theorem dX3_digest_71 : decode cX3_digest 71 = .ok (.i2l, 1) := by decide +kernel
theorem dX3_digest_72 : decode cX3_digest 72 = .ok (.invokevirtual 239, 3) := by decide +kernel
theorem dX3_digest_75 : decode cX3_digest 75 = .ok (.iinc 1 1, 3) := by decide +kernel
theorem dX3_digest_78 : decode cX3_digest 78 = .ok (.goto (-69), 3) := by decide +kernel
theorem dX3_digest_81 : decode cX3_digest 81 = .ok (.aload_n 0, 1) := by decide +kernel
theorem dX3_digest_82 : decode cX3_digest 82 = .ok (.getfield 94, 3) := by decide +kernel
theorem dX3_digest_85 : decode cX3_digest 85 = .ok (.ifCond .le 67, 3) := by decide +kernel
theorem dX3_digest_88 : decode cX3_digest 88 = .ok (.iconst 0, 1) := by decide +kernel
theorem dX3_digest_89 : decode cX3_digest 89 = .ok (.istore_n 1, 1) := by decide +kernel
theorem dX3_digest_90 : decode cX3_digest 90 = .ok (.iload_n 1, 1) := by decide +kernel
theorem dX3_digest_91 : decode cX3_digest 91 = .ok (.iconst 4, 1) := by decide +kernel
theorem dX3_digest_92 : decode cX3_digest 92 = .ok (.if_icmp .ge 22, 3) := by decide +kernel
theorem dX3_digest_95 : decode cX3_digest 95 = .ok (.aload_n 0, 1) := by decide +kernel
theorem dX3_digest_96 : decode cX3_digest 96 = .ok (.aload_n 0, 1) := by decide +kernel
theorem dX3_digest_97 : decode cX3_digest 97 = .ok (.bipush 20, 2) := by decide +kernel
theorem dX3_digest_99 : decode cX3_digest 99 = .ok (.iconst 2, 1) := by decide +kernel
theorem dX3_digest_100 : decode cX3_digest 100 = .ok (.iload_n 1, 1) := by decide +kernel
theorem dX3_digest_101 : decode cX3_digest 101 = .ok (.invokevirtual 164, 3) := by decide +kernel
theorem dX3_digest_104 : decode cX3_digest 104 = .ok (.i2l, 1) := by decide +kernel
theorem dX3_digest_105 : decode cX3_digest 105 = .ok (.invokevirtual 239, 3) := by decide +kernel
theorem dX3_digest_108 : decode cX3_digest 108 = .ok (.iinc 1 1, 3) := by decide +kernel
theorem dX3_digest_111 : decode cX3_digest 111 = .ok (.goto (-21), 3) := by decide +kernel
theorem dX3_digest_114 : decode cX3_digest 114 = .ok (.aload_n 0, 1) := by decide +kernel
theorem dX3_digest_115 : decode cX3_digest 115 = .ok (.aload_n 0, 1) := by decide +kernel
theorem dX3_digest_116 : decode cX3_digest 116 = .ok (.iconst 0, 1) := by decide +kernel
theorem dX3_digest_117 : decode cX3_digest 117 = .ok (.invokevirtual 171, 3) := by decide +kernel
theorem dX3_digest_120 : decode cX3_digest 120 = .ok (.i2l, 1) := by decide +kernel
theorem dX3_digest_121 : decode cX3_digest 121 = .ok (.invokevirtual 239, 3) := by decide +kernel
theorem dX3_digest_124 : decode cX3_digest 124 = .ok (.aload_n 0, 1) := by decide +kernel
theorem dX3_digest_125 : decode cX3_digest 125 = .ok (.aload_n 0, 1) := by decide +kernel
theorem dX3_digest_126 : decode cX3_digest 126 = .ok (.iconst 1, 1) := by decide +kernel
theorem dX3_digest_127 : decode cX3_digest 127 = .ok (.invokevirtual 171, 3) := by decide +kernel
theorem dX3_digest_130 : decode cX3_digest 130 = .ok (.i2l, 1) := by decide +kernel
theorem dX3_digest_131 : decode cX3_digest 131 = .ok (.invokevirtual 239, 3) := by decide +kernel
theorem dX3_digest_134 : decode cX3_digest 134 = .ok (.aload_n 0, 1) := by decide +kernel
theorem dX3_digest_135 : decode cX3_digest 135 = .ok (.aload_n 0, 1) := by decide +kernel
theorem dX3_digest_136 : decode cX3_digest 136 = .ok (.invokevirtual 177, 3) := by decide +kernel
theorem dX3_digest_139 : decode cX3_digest 139 = .ok (.i2l, 1) := by decide +kernel
theorem dX3_digest_140 : decode cX3_digest 140 = .ok (.invokevirtual 239, 3) := by decide +kernel
theorem dX3_digest_143 : decode cX3_digest 143 = .ok (.aload_n 0, 1) := by decide +kernel
theorem dX3_digest_144 : decode cX3_digest 144 = .ok (.aload_n 0, 1) := by decide +kernel
theorem dX3_digest_145 : decode cX3_digest 145 = .ok (.invokevirtual 184, 3) := by decide +kernel
theorem dX3_digest_148 : decode cX3_digest 148 = .ok (.i2l, 1) := by decide +kernel
theorem dX3_digest_149 : decode cX3_digest 149 = .ok (.invokevirtual 239, 3) := by decide +kernel
theorem dX3_digest_152 : decode cX3_digest 152 = .ok (.iconst 0, 1) := by decide +kernel
theorem dX3_digest_153 : decode cX3_digest 153 = .ok (.istore_n 1, 1) := by decide +kernel
theorem dX3_digest_154 : decode cX3_digest 154 = .ok (.iload_n 1, 1) := by decide +kernel
theorem dX3_digest_155 : decode cX3_digest 155 = .ok (.aload_n 0, 1) := by decide +kernel
theorem dX3_digest_156 : decode cX3_digest 156 = .ok (.getfield 72, 3) := by decide +kernel
theorem dX3_digest_159 : decode cX3_digest 159 = .ok (.if_icmp .ge 20, 3) := by decide +kernel
theorem dX3_digest_162 : decode cX3_digest 162 = .ok (.aload_n 0, 1) := by decide +kernel
theorem dX3_digest_163 : decode cX3_digest 163 = .ok (.aload_n 0, 1) := by decide +kernel
theorem dX3_digest_164 : decode cX3_digest 164 = .ok (.getfield 37, 3) := by decide +kernel
theorem dX3_digest_167 : decode cX3_digest 167 = .ok (.iload_n 1, 1) := by decide +kernel
theorem dX3_digest_168 : decode cX3_digest 168 = .ok (.baload, 1) := by decide +kernel
theorem dX3_digest_169 : decode cX3_digest 169 = .ok (.i2l, 1) := by decide +kernel
theorem dX3_digest_170 : decode cX3_digest 170 = .ok (.invokevirtual 239, 3) := by decide +kernel
theorem dX3_digest_173 : decode cX3_digest 173 = .ok (.iinc 1 1, 3) := by decide +kernel
theorem dX3_digest_176 : decode cX3_digest 176 = .ok (.goto (-22), 3) := by decide +kernel
theorem dX3_digest_179 : decode cX3_digest 179 = .ok (.iconst 0, 1) := by decide +kernel
theorem dX3_digest_180 : decode cX3_digest 180 = .ok (.istore_n 1, 1) := by decide +kernel
theorem dX3_digest_181 : decode cX3_digest 181 = .ok (.iload_n 1, 1) := by decide +kernel
theorem dX3_digest_182 : decode cX3_digest 182 = .ok (.bipush 10, 2) := by decide +kernel
theorem dX3_digest_184 : decode cX3_digest 184 = .ok (.if_icmp .ge 19, 3) := by decide +kernel
theorem dX3_digest_187 : decode cX3_digest 187 = .ok (.aload_n 0, 1) := by decide +kernel
theorem dX3_digest_188 : decode cX3_digest 188 = .ok (.aload_n 0, 1) := by decide +kernel
theorem dX3_digest_189 : decode cX3_digest 189 = .ok (.iload_n 1, 1) := by decide +kernel
theorem dX3_digest_190 : decode cX3_digest 190 = .ok (.invokevirtual 229, 3) := by decide +kernel
theorem dX3_digest_193 : decode cX3_digest 193 = .ok (.i2l, 1) := by decide +kernel
theorem dX3_digest_194 : decode cX3_digest 194 = .ok (.invokevirtual 239, 3) := by decide +kernel
theorem dX3_digest_197 : decode cX3_digest 197 = .ok (.iinc 1 1, 3) := by decide +kernel
theorem dX3_digest_200 : decode cX3_digest 200 = .ok (.goto (-19), 3) := by decide +kernel
theorem dX3_digest_203 : decode cX3_digest 203 = .ok (.aload_n 0, 1) := by decide +kernel
theorem dX3_digest_204 : decode cX3_digest 204 = .ok (.getfield 234, 3) := by decide +kernel
theorem dX3_digest_207 : decode cX3_digest 207 = .ok (.lreturn, 1) := by decide +kernel
end
section
theorem dJ11_isValidCodePoint_9a6ad_0 : decode cJ11_isValidCodePoint_9a6ad 0 = .ok (.iload_n 0, 1) := by decide +kernel
theorem dJ11_isValidCodePoint_9a6ad_1 : decode cJ11_isValidCodePoint_9a6ad 1 = .ok (.bipush 16, 2) := by decide +kernel
theorem dJ11_isValidCodePoint_9a6ad_3 : decode cJ11_isValidCodePoint_9a6ad 3 = .ok (.iushr, 1) := by decide +kernel
theorem dJ11_isValidCodePoint_9a6ad_4 : decode cJ11_isValidCodePoint_9a6ad 4 = .ok (.istore_n 1, 1) := by decide +kernel
theorem dJ11_isValidCodePoint_9a6ad_5 : decode cJ11_isValidCodePoint_9a6ad 5 = .ok (.iload_n 1, 1) := by decide +kernel
theorem dJ11_isValidCodePoint_9a6ad_6 : decode cJ11_isValidCodePoint_9a6ad 6 = .ok (.bipush 17, 2) := by decide +kernel
theorem dJ11_isValidCodePoint_9a6ad_8 : decode cJ11_isValidCodePoint_9a6ad 8 = .ok (.if_icmp .ge 7, 3) := by decide +kernel
theorem dJ11_isValidCodePoint_9a6ad_11 : decode cJ11_isValidCodePoint_9a6ad 11 = .ok (.iconst 1, 1) := by decide +kernel
theorem dJ11_isValidCodePoint_9a6ad_12 : decode cJ11_isValidCodePoint_9a6ad 12 = .ok (.goto 4, 3) := by decide +kernel
theorem dJ11_isValidCodePoint_9a6ad_15 : decode cJ11_isValidCodePoint_9a6ad 15 = .ok (.iconst 0, 1) := by decide +kernel
theorem dJ11_isValidCodePoint_9a6ad_16 : decode cJ11_isValidCodePoint_9a6ad 16 = .ok (.ireturn, 1) := by decide +kernel
theorem dJ11_highSurrogate_5068e_0 : decode cJ11_highSurrogate_5068e 0 = .ok (.iload_n 0, 1) := by decide +kernel
theorem dJ11_highSurrogate_5068e_1 : decode cJ11_highSurrogate_5068e 1 = .ok (.bipush 10, 2) := by decide +kernel
theorem dJ11_highSurrogate_5068e_3 : decode cJ11_highSurrogate_5068e 3 = .ok (.iushr, 1) := by decide +kernel
theorem dJ11_highSurrogate_5068e_4 : decode cJ11_highSurrogate_5068e 4 = .ok (.ldc 110, 2) := by decide +kernel
theorem dJ11_highSurrogate_5068e_6 : decode cJ11_highSurrogate_5068e 6 = .ok (.iadd, 1) := by decide +kernel
theorem dJ11_highSurrogate_5068e_7 : decode cJ11_highSurrogate_5068e 7 = .ok (.i2c, 1) := by decide +kernel
theorem dJ11_highSurrogate_5068e_8 : decode cJ11_highSurrogate_5068e 8 = .ok (.ireturn, 1) := by decide +kernel
theorem dJ11_lowSurrogate_5068e_0 : decode cJ11_lowSurrogate_5068e 0 = .ok (.iload_n 0, 1) := by decide +kernel
theorem dJ11_lowSurrogate_5068e_1 : decode cJ11_lowSurrogate_5068e 1 = .ok (.sipush 1023, 3) := by decide +kernel
theorem dJ11_lowSurrogate_5068e_4 : decode cJ11_lowSurrogate_5068e 4 = .ok (.iand, 1) := by decide +kernel
theorem dJ11_lowSurrogate_5068e_5 : decode cJ11_lowSurrogate_5068e 5 = .ok (.ldc 76, 2) := by decide +kernel
theorem dJ11_lowSurrogate_5068e_7 : decode cJ11_lowSurrogate_5068e 7 = .ok (.iadd, 1) := by decide +kernel
theorem dJ11_lowSurrogate_5068e_8 : decode cJ11_lowSurrogate_5068e 8 = .ok (.i2c, 1) := by decide +kernel
theorem dJ11_lowSurrogate_5068e_9 : decode cJ11_lowSurrogate_5068e 9 = .ok (.ireturn, 1) := by decide +kernel
theorem dJ6_bitCount_0f7a4_0 : decode cJ6_bitCount_0f7a4 0 = .ok (.iload_n 0, 1) := by decide +kernel
theorem dJ6_bitCount_0f7a4_1 : decode cJ6_bitCount_0f7a4 1 = .ok (.iload_n 0, 1) := by decide +kernel
theorem dJ6_bitCount_0f7a4_2 : decode cJ6_bitCount_0f7a4 2 = .ok (.iconst 1, 1) := by decide +kernel
theorem dJ6_bitCount_0f7a4_3 : decode cJ6_bitCount_0f7a4 3 = .ok (.iushr, 1) := by decide +kernel
theorem dJ6_bitCount_0f7a4_4 : decode cJ6_bitCount_0f7a4 4 = .ok (.ldc_w 265, 3) := by decide +kernel
theorem dJ6_bitCount_0f7a4_7 : decode cJ6_bitCount_0f7a4 7 = .ok (.iand, 1) := by decide +kernel
theorem dJ6_bitCount_0f7a4_8 : decode cJ6_bitCount_0f7a4 8 = .ok (.isub, 1) := by decide +kernel
theorem dJ6_bitCount_0f7a4_9 : decode cJ6_bitCount_0f7a4 9 = .ok (.istore_n 0, 1) := by decide +kernel
theorem dJ6_bitCount_0f7a4_10 : decode cJ6_bitCount_0f7a4 10 = .ok (.iload_n 0, 1) := by decide +kernel
theorem dJ6_bitCount_0f7a4_11 : decode cJ6_bitCount_0f7a4 11 = .ok (.ldc_w 266, 3) := by decide +kernel
theorem dJ6_bitCount_0f7a4_14 : decode cJ6_bitCount_0f7a4 14 = .ok (.iand, 1) := by decide +kernel
theorem dJ6_bitCount_0f7a4_15 : decode cJ6_bitCount_0f7a4 15 = .ok (.iload_n 0, 1) := by decide +kernel
theorem dJ6_bitCount_0f7a4_16 : decode cJ6_bitCount_0f7a4 16 = .ok (.iconst 2, 1) := by decide +kernel
theorem dJ6_bitCount_0f7a4_17 : decode cJ6_bitCount_0f7a4 17 = .ok (.iushr, 1) := by decide +kernel
theorem dJ6_bitCount_0f7a4_18 : decode cJ6_bitCount_0f7a4 18 = .ok (.ldc_w 266, 3) := by decide +kernel
theorem dJ6_bitCount_0f7a4_21 : decode cJ6_bitCount_0f7a4 21 = .ok (.iand, 1) := by decide +kernel
theorem dJ6_bitCount_0f7a4_22 : decode cJ6_bitCount_0f7a4 22 = .ok (.iadd, 1) := by decide +kernel
theorem dJ6_bitCount_0f7a4_23 : decode cJ6_bitCount_0f7a4 23 = .ok (.istore_n 0, 1) := by decide +kernel
theorem dJ6_bitCount_0f7a4_24 : decode cJ6_bitCount_0f7a4 24 = .ok (.iload_n 0, 1) := by decide +kernel
theorem dJ6_bitCount_0f7a4_25 : decode cJ6_bitCount_0f7a4 25 = .ok (.iload_n 0, 1) := by decide +kernel
theorem dJ6_bitCount_0f7a4_26 : decode cJ6_bitCount_0f7a4 26 = .ok (.iconst 4, 1) := by decide +kernel
theorem dJ6_bitCount_0f7a4_27 : decode cJ6_bitCount_0f7a4 27 = .ok (.iushr, 1) := by decide +kernel
theorem dJ6_bitCount_0f7a4_28 : decode cJ6_bitCount_0f7a4 28 = .ok (.iadd, 1) := by decide +kernel
theorem dJ6_bitCount_0f7a4_29 : decode cJ6_bitCount_0f7a4 29 = .ok (.ldc_w 267, 3) := by decide +kernel
theorem dJ6_bitCount_0f7a4_32 : decode cJ6_bitCount_0f7a4 32 = .ok (.iand, 1) := by decide +kernel
theorem dJ6_bitCount_0f7a4_33 : decode cJ6_bitCount_0f7a4 33 = .ok (.istore_n 0, 1) := by decide +kernel
theorem dJ6_bitCount_0f7a4_34 : decode cJ6_bitCount_0f7a4 34 = .ok (.iload_n 0, 1) := by decide +kernel
theorem dJ6_bitCount_0f7a4_35 : decode cJ6_bitCount_0f7a4 35 = .ok (.iload_n 0, 1) := by decide +kernel
theorem dJ6_bitCount_0f7a4_36 : decode cJ6_bitCount_0f7a4 36 = .ok (.bipush 8, 2) := by decide +kernel
theorem dJ6_bitCount_0f7a4_38 : decode cJ6_bitCount_0f7a4 38 = .ok (.iushr, 1) := by decide +kernel
theorem dJ6_bitCount_0f7a4_39 : decode cJ6_bitCount_0f7a4 39 = .ok (.iadd, 1) := by decide +kernel
theorem dJ6_bitCount_0f7a4_40 : decode cJ6_bitCount_0f7a4 40 = .ok (.istore_n 0, 1) := by decide +kernel
theorem dJ6_bitCount_0f7a4_41 : decode cJ6_bitCount_0f7a4 41 = .ok (.iload_n 0, 1) := by decide +kernel
theorem dJ6_bitCount_0f7a4_42 : decode cJ6_bitCount_0f7a4 42 = .ok (.iload_n 0, 1) := by decide +kernel
theorem dJ6_bitCount_0f7a4_43 : decode cJ6_bitCount_0f7a4 43 = .ok (.bipush 16, 2) := by decide +kernel
theorem dJ6_bitCount_0f7a4_45 : decode cJ6_bitCount_0f7a4 45 = .ok (.iushr, 1) := by decide +kernel
theorem dJ6_bitCount_0f7a4_46 : decode cJ6_bitCount_0f7a4 46 = .ok (.iadd, 1) := by decide +kernel
theorem dJ6_bitCount_0f7a4_47 : decode cJ6_bitCount_0f7a4 47 = .ok (.istore_n 0, 1) := by decide +kernel
theorem dJ6_bitCount_0f7a4_48 : decode cJ6_bitCount_0f7a4 48 = .ok (.iload_n 0, 1) := by decide +kernel
theorem dJ6_bitCount_0f7a4_49 : decode cJ6_bitCount_0f7a4 49 = .ok (.bipush 63, 2) := by decide +kernel
theorem dJ6_bitCount_0f7a4_51 : decode cJ6_bitCount_0f7a4 51 = .ok (.iand, 1) := by decide +kernel
theorem dJ6_bitCount_0f7a4_52 : decode cJ6_bitCount_0f7a4 52 = .ok (.ireturn, 1) := by decide +kernel
theorem dJ9_max_7cf53_0 : decode cJ9_max_7cf53 0 = .ok (.iload_n 0, 1) := by decide +kernel
theorem dJ9_max_7cf53_1 : decode cJ9_max_7cf53 1 = .ok (.iload_n 1, 1) := by decide +kernel
theorem dJ9_max_7cf53_2 : decode cJ9_max_7cf53 2 = .ok (.if_icmp .lt 7, 3) := by decide +kernel
theorem dJ9_max_7cf53_5 : decode cJ9_max_7cf53 5 = .ok (.iload_n 0, 1) := by decide +kernel
theorem dJ9_max_7cf53_6 : decode cJ9_max_7cf53 6 = .ok (.goto 4, 3) := by decide +kernel
theorem dJ9_max_7cf53_9 : decode cJ9_max_7cf53 9 = .ok (.iload_n 1, 1) := by decide +kernel
theorem dJ9_max_7cf53_10 : decode cJ9_max_7cf53 10 = .ok (.ireturn, 1) := by decide +kernel
theorem dJ9_min_7cf53_0 : decode cJ9_min_7cf53 0 = .ok (.iload_n 0, 1) := by decide +kernel
theorem dJ9_min_7cf53_1 : decode cJ9_min_7cf53 1 = .ok (.iload_n 1, 1) := by decide +kernel
theorem dJ9_min_7cf53_2 : decode cJ9_min_7cf53 2 = .ok (.if_icmp .gt 7, 3) := by decide +kernel
theorem dJ9_min_7cf53_5 : decode cJ9_min_7cf53 5 = .ok (.iload_n 0, 1) := by decide +kernel
theorem dJ9_min_7cf53_6 : decode cJ9_min_7cf53 6 = .ok (.goto 4, 3) := by decide +kernel
theorem dJ9_min_7cf53_9 : decode cJ9_min_7cf53 9 = .ok (.iload_n 1, 1) := by decide +kernel
theorem dJ9_min_7cf53_10 : decode cJ9_min_7cf53 10 = .ok (.ireturn, 1) := by decide +kernel
set_option maxRecDepth 20000 in
theorem ggJ0_length_8abf5_J0_coder_7d493 : GoodIn wsJ0_length_8abf5 wsJ0_coder_7d493 := goodIn_r _ [6, 7, 8] (by decide +kernel) (by decide +kernel)
set_option maxRecDepth 20000 in
theorem gJ0_length_8abf5_J0_coder_7d493 : GoodIn wsJ0_length_8abf5 (wsV RJ0 335 RJ0 yJ0_coder_7d493 wsJ0_coder_7d493) := goodIn_app (goodIn_of _ (by decide +kernel)) ggJ0_length_8abf5_J0_coder_7d493
theorem dJ0_length_8abf5_0 : decode cJ0_length_8abf5 0 = .ok (.aload_n 0, 1) := by decide +kernel
theorem dJ0_length_8abf5_1 : decode cJ0_length_8abf5 1 = .ok (.getfield 9, 3) := by decide +kernel
theorem dJ0_length_8abf5_4 : decode cJ0_length_8abf5 4 = .ok (.arraylength, 1) := by decide +kernel
theorem dJ0_length_8abf5_5 : decode cJ0_length_8abf5 5 = .ok (.aload_n 0, 1) := by decide +kernel
theorem dJ0_length_8abf5_6 : decode cJ0_length_8abf5 6 = .ok (.invokevirtual 335, 3) := by decide +kernel
theorem dJ0_length_8abf5_9 : decode cJ0_length_8abf5 9 = .ok (.ishr, 1) := by decide +kernel
theorem dJ0_length_8abf5_10 : decode cJ0_length_8abf5 10 = .ok (.ireturn, 1) := by decide +kernel
set_option maxRecDepth 20000 in
theorem ggJ0_indexOf_0f7a4_J0_indexOf_7cf53 : GoodIn wsJ0_indexOf_0f7a4 wsJ0_indexOf_7cf53 := goodIn_r _ [5, 6, 7, 8, 9, 4, 10, 11, 12, 13, 14, 15, 16, 17, 18, 19, 20, 21, 22, 23, 24, 25, 26, 27, 28, 29, 30, 31, 32, 33, 34, 35, 36, 37, 38, 39, 40, 41, 42, 43, 44, 45, 46, 47, 48, 49, 50, 51, 52, 53, 54, 55, 56, 57, 58, 59, 60, 61, 62, 63, 64, 65, 66, 67, 68, 69, 70, 71, 72, 73, 74, 75, 76, 77, 78, 79, 80, 81, 82, 83, 84, 85] (by decide +kernel) (by decide +kernel)
set_option maxRecDepth 20000 in
theorem gJ0_indexOf_0f7a4_J0_indexOf_7cf53 : GoodIn wsJ0_indexOf_0f7a4 (wsV RJ0 633 RJ0 yJ0_indexOf_7cf53 wsJ0_indexOf_7cf53) := goodIn_app (goodIn_of _ (by decide +kernel)) ggJ0_indexOf_0f7a4_J0_indexOf_7cf53
theorem dJ0_indexOf_0f7a4_0 : decode cJ0_indexOf_0f7a4 0 = .ok (.aload_n 0, 1) := by decide +kernel
theorem dJ0_indexOf_0f7a4_1 : decode cJ0_indexOf_0f7a4 1 = .ok (.iload_n 1, 1) := by decide +kernel
theorem dJ0_indexOf_0f7a4_2 : decode cJ0_indexOf_0f7a4 2 = .ok (.iconst 0, 1) := by decide +kernel
theorem dJ0_indexOf_0f7a4_3 : decode cJ0_indexOf_0f7a4 3 = .ok (.invokevirtual 633, 3) := by decide +kernel
theorem dJ0_indexOf_0f7a4_6 : decode cJ0_indexOf_0f7a4 6 = .ok (.ireturn, 1) := by decide +kernel
set_option maxRecDepth 20000 in
theorem ggJ0_indexOf_7cf53_J0_isLatin1_aae02 : GoodIn wsJ0_indexOf_7cf53 wsJ0_isLatin1_aae02 := goodIn_r _ [6, 7, 8] (by decide +kernel) (by decide +kernel)
set_option maxRecDepth 20000 in
theorem gJ0_indexOf_7cf53_J0_isLatin1_aae02 : GoodIn wsJ0_indexOf_7cf53 (wsV RJ0 492 RJ0 yJ0_isLatin1_aae02 wsJ0_isLatin1_aae02) := goodIn_app (goodIn_of _ (by decide +kernel)) ggJ0_indexOf_7cf53_J0_isLatin1_aae02
set_option maxRecDepth 20000 in
theorem ggJ0_indexOf_7cf53_J0_length_8abf5 : GoodIn wsJ0_indexOf_7cf53 wsJ0_length_8abf5 := goodIn_r _ [12, 1, 13, 14, 15, 5, 16, 7, 8] (by decide +kernel) (by decide +kernel)
set_option maxRecDepth 20000 in
theorem gJ0_indexOf_7cf53_J0_length_8abf5 : GoodIn wsJ0_indexOf_7cf53 (wsV RJ0 505 RJ0 yJ0_length_8abf5 wsJ0_length_8abf5) := goodIn_app (goodIn_of _ (by decide +kernel)) ggJ0_indexOf_7cf53_J0_length_8abf5
set_option maxRecDepth 20000 in
theorem ggJ0_indexOf_7cf53_J1_indexOf_4cfef : GoodIn wsJ0_indexOf_7cf53 wsJ1_indexOf_4cfef := goodIn_r _ [20, 21, 22, 23, 24, 25, 26, 27, 28, 29, 19, 30, 31, 32, 33] (by decide +kernel) (by decide +kernel)
set_option maxRecDepth 20000 in
theorem gJ0_indexOf_7cf53_J1_indexOf_4cfef : GoodIn wsJ0_indexOf_7cf53 (va_wsS RJ0 637 yJ1_indexOf_4cfef wsJ1_indexOf_4cfef) := goodIn_app (goodIn_of _ (by decide +kernel)) ggJ0_indexOf_7cf53_J1_indexOf_4cfef
set_option maxRecDepth 20000 in
theorem ggJ0_indexOf_7cf53_J2_indexOf_4cfef : GoodIn wsJ0_indexOf_7cf53 wsJ2_indexOf_4cfef := goodIn_r _ [37, 38, 22, 23, 24, 39, 26, 27, 40, 41, 42, 36, 43, 44, 45, 46, 47, 48, 49, 50, 51, 5, 52, 53, 54, 55, 56, 57, 58, 59, 60, 61, 62, 63, 64, 65, 66, 67, 68, 69, 70, 71, 72, 73, 74, 75, 76, 77, 78, 79, 80, 81] (by decide +kernel) (by decide +kernel)
set_option maxRecDepth 20000 in
theorem gJ0_indexOf_7cf53_J2_indexOf_4cfef : GoodIn wsJ0_indexOf_7cf53 (va_wsS RJ0 640 yJ2_indexOf_4cfef wsJ2_indexOf_4cfef) := goodIn_app (goodIn_of _ (by decide +kernel)) ggJ0_indexOf_7cf53_J2_indexOf_4cfef
theorem dJ0_indexOf_7cf53_0 : decode cJ0_indexOf_7cf53 0 = .ok (.aload_n 0, 1) := by decide +kernel
theorem dJ0_indexOf_7cf53_1 : decode cJ0_indexOf_7cf53 1 = .ok (.invokevirtual 492, 3) := by decide +kernel
theorem dJ0_indexOf_7cf53_4 : decode cJ0_indexOf_7cf53 4 = .ok (.ifCond .eq 19, 3) := by decide +kernel
theorem dJ0_indexOf_7cf53_7 : decode cJ0_indexOf_7cf53 7 = .ok (.aload_n 0, 1) := by decide +kernel
theorem dJ0_indexOf_7cf53_8 : decode cJ0_indexOf_7cf53 8 = .ok (.getfield 9, 3) := by decide +kernel
theorem dJ0_indexOf_7cf53_11 : decode cJ0_indexOf_7cf53 11 = .ok (.iload_n 1, 1) := by decide +kernel
theorem dJ0_indexOf_7cf53_12 : decode cJ0_indexOf_7cf53 12 = .ok (.iload_n 2, 1) := by decide +kernel
theorem dJ0_indexOf_7cf53_13 : decode cJ0_indexOf_7cf53 13 = .ok (.aload_n 0, 1) := by decide +kernel
theorem dJ0_indexOf_7cf53_14 : decode cJ0_indexOf_7cf53 14 = .ok (.invokevirtual 505, 3) := by decide +kernel
theorem dJ0_indexOf_7cf53_17 : decode cJ0_indexOf_7cf53 17 = .ok (.invokestatic 637, 3) := by decide +kernel
theorem dJ0_indexOf_7cf53_20 : decode cJ0_indexOf_7cf53 20 = .ok (.goto 16, 3) := by decide +kernel
theorem dJ0_indexOf_7cf53_23 : decode cJ0_indexOf_7cf53 23 = .ok (.aload_n 0, 1) := by decide +kernel
theorem dJ0_indexOf_7cf53_24 : decode cJ0_indexOf_7cf53 24 = .ok (.getfield 9, 3) := by decide +kernel
theorem dJ0_indexOf_7cf53_27 : decode cJ0_indexOf_7cf53 27 = .ok (.iload_n 1, 1) := by decide +kernel
theorem dJ0_indexOf_7cf53_28 : decode cJ0_indexOf_7cf53 28 = .ok (.iload_n 2, 1) := by decide +kernel
theorem dJ0_indexOf_7cf53_29 : decode cJ0_indexOf_7cf53 29 = .ok (.aload_n 0, 1) := by decide +kernel
theorem dJ0_indexOf_7cf53_30 : decode cJ0_indexOf_7cf53 30 = .ok (.invokevirtual 505, 3) := by decide +kernel
theorem dJ0_indexOf_7cf53_33 : decode cJ0_indexOf_7cf53 33 = .ok (.invokestatic 640, 3) := by decide +kernel
theorem dJ0_indexOf_7cf53_36 : decode cJ0_indexOf_7cf53 36 = .ok (.ireturn, 1) := by decide +kernel
theorem dJ0_coder_7d493_0 : decode cJ0_coder_7d493 0 = .ok (.getstatic 38, 3) := by decide +kernel
theorem dJ0_coder_7d493_3 : decode cJ0_coder_7d493 3 = .ok (.ifCond .eq 10, 3) := by decide +kernel
theorem dJ0_coder_7d493_6 : decode cJ0_coder_7d493 6 = .ok (.aload_n 0, 1) := by decide +kernel
theorem dJ0_coder_7d493_7 : decode cJ0_coder_7d493 7 = .ok (.getfield 15, 3) := by decide +kernel
theorem dJ0_coder_7d493_10 : decode cJ0_coder_7d493 10 = .ok (.goto 4, 3) := by decide +kernel
theorem dJ0_coder_7d493_13 : decode cJ0_coder_7d493 13 = .ok (.iconst 1, 1) := by decide +kernel
theorem dJ0_coder_7d493_14 : decode cJ0_coder_7d493 14 = .ok (.ireturn, 1) := by decide +kernel
theorem dJ0_isLatin1_aae02_0 : decode cJ0_isLatin1_aae02 0 = .ok (.getstatic 38, 3) := by decide +kernel
theorem dJ0_isLatin1_aae02_3 : decode cJ0_isLatin1_aae02 3 = .ok (.ifCond .eq 14, 3) := by decide +kernel
theorem dJ0_isLatin1_aae02_6 : decode cJ0_isLatin1_aae02 6 = .ok (.aload_n 0, 1) := by decide +kernel
theorem dJ0_isLatin1_aae02_7 : decode cJ0_isLatin1_aae02 7 = .ok (.getfield 15, 3) := by decide +kernel
theorem dJ0_isLatin1_aae02_10 : decode cJ0_isLatin1_aae02 10 = .ok (.ifCond .ne 7, 3) := by decide +kernel
theorem dJ0_isLatin1_aae02_13 : decode cJ0_isLatin1_aae02 13 = .ok (.iconst 1, 1) := by decide +kernel
theorem dJ0_isLatin1_aae02_14 : decode cJ0_isLatin1_aae02 14 = .ok (.goto 4, 3) := by decide +kernel
theorem dJ0_isLatin1_aae02_17 : decode cJ0_isLatin1_aae02 17 = .ok (.iconst 0, 1) := by decide +kernel
theorem dJ0_isLatin1_aae02_18 : decode cJ0_isLatin1_aae02 18 = .ok (.ireturn, 1) := by decide +kernel
set_option maxRecDepth 20000 in
theorem ggJ0_checkBoundsBeginEnd_23922_J3_checkFromToIndex_8c36e : GoodIn wsJ0_checkBoundsBeginEnd_23922 wsJ3_checkFromToIndex_8c36e := goodIn_r _ [5] (by decide +kernel) (by decide +kernel)
set_option maxRecDepth 20000 in
theorem gJ0_checkBoundsBeginEnd_23922_J3_checkFromToIndex_8c36e : GoodIn wsJ0_checkBoundsBeginEnd_23922 (va_wsS RJ0 1062 yJ3_checkFromToIndex_8c36e wsJ3_checkFromToIndex_8c36e) := goodIn_app (goodIn_of _ (by decide +kernel)) ggJ0_checkBoundsBeginEnd_23922_J3_checkFromToIndex_8c36e
theorem dJ0_checkBoundsBeginEnd_23922_0 : decode cJ0_checkBoundsBeginEnd_23922 0 = .ok (.iload_n 0, 1) := by decide +kernel
theorem dJ0_checkBoundsBeginEnd_23922_1 : decode cJ0_checkBoundsBeginEnd_23922 1 = .ok (.iload_n 1, 1) := by decide +kernel
theorem dJ0_checkBoundsBeginEnd_23922_2 : decode cJ0_checkBoundsBeginEnd_23922 2 = .ok (.iload_n 2, 1) := by decide +kernel
theorem dJ0_checkBoundsBeginEnd_23922_3 : decode cJ0_checkBoundsBeginEnd_23922 3 = .ok (.getstatic 1053, 3) := by decide +kernel
theorem dJ0_checkBoundsBeginEnd_23922_6 : decode cJ0_checkBoundsBeginEnd_23922 6 = .ok (.invokestatic 1062, 3) := by decide +kernel
theorem dJ0_checkBoundsBeginEnd_23922_9 : decode cJ0_checkBoundsBeginEnd_23922 9 = .ok (.pop, 1) := by decide +kernel
theorem dJ0_checkBoundsBeginEnd_23922_10 : decode cJ0_checkBoundsBeginEnd_23922 10 = .ok (.return_, 1) := by decide +kernel
theorem dJ1_canEncode_9a6ad_0 : decode cJ1_canEncode_9a6ad 0 = .ok (.iload_n 0, 1) := by decide +kernel
theorem dJ1_canEncode_9a6ad_1 : decode cJ1_canEncode_9a6ad 1 = .ok (.ifCond .lt 14, 3) := by decide +kernel
theorem dJ1_canEncode_9a6ad_4 : decode cJ1_canEncode_9a6ad 4 = .ok (.iload_n 0, 1) := by decide +kernel
theorem dJ1_canEncode_9a6ad_5 : decode cJ1_canEncode_9a6ad 5 = .ok (.sipush 255, 3) := by decide +kernel
theorem dJ1_canEncode_9a6ad_8 : decode cJ1_canEncode_9a6ad 8 = .ok (.if_icmp .gt 7, 3) := by decide +kernel
theorem dJ1_canEncode_9a6ad_11 : decode cJ1_canEncode_9a6ad 11 = .ok (.iconst 1, 1) := by decide +kernel
theorem dJ1_canEncode_9a6ad_12 : decode cJ1_canEncode_9a6ad 12 = .ok (.goto 4, 3) := by decide +kernel
theorem dJ1_canEncode_9a6ad_15 : decode cJ1_canEncode_9a6ad 15 = .ok (.iconst 0, 1) := by decide +kernel
theorem dJ1_canEncode_9a6ad_16 : decode cJ1_canEncode_9a6ad 16 = .ok (.ireturn, 1) := by decide +kernel
set_option maxRecDepth 20000 in
theorem ggJ1_indexOf_4cfef_J1_canEncode_9a6ad : GoodIn wsJ1_indexOf_4cfef wsJ1_canEncode_9a6ad := goodIn_r _ [11] (by decide +kernel) (by decide +kernel)
set_option maxRecDepth 20000 in
theorem gJ1_indexOf_4cfef_J1_canEncode_9a6ad : GoodIn wsJ1_indexOf_4cfef (va_wsS RJ1 88 yJ1_canEncode_9a6ad wsJ1_canEncode_9a6ad) := goodIn_app (goodIn_of _ (by decide +kernel)) ggJ1_indexOf_4cfef_J1_canEncode_9a6ad
set_option maxRecDepth 20000 in
theorem ggJ1_indexOf_4cfef_J1_indexOfChar_4cfef : GoodIn wsJ1_indexOf_4cfef wsJ1_indexOfChar_4cfef := goodIn_r _ [14] (by decide +kernel) (by decide +kernel)
set_option maxRecDepth 20000 in
theorem gJ1_indexOf_4cfef_J1_indexOfChar_4cfef : GoodIn wsJ1_indexOf_4cfef (va_wsS RJ1 95 yJ1_indexOfChar_4cfef wsJ1_indexOfChar_4cfef) := goodIn_app (goodIn_of _ (by decide +kernel)) ggJ1_indexOf_4cfef_J1_indexOfChar_4cfef
theorem dJ1_indexOf_4cfef_0 : decode cJ1_indexOf_4cfef 0 = .ok (.iload_n 1, 1) := by decide +kernel
theorem dJ1_indexOf_4cfef_1 : decode cJ1_indexOf_4cfef 1 = .ok (.invokestatic 88, 3) := by decide +kernel
theorem dJ1_indexOf_4cfef_4 : decode cJ1_indexOf_4cfef 4 = .ok (.ifCond .ne 5, 3) := by decide +kernel
theorem dJ1_indexOf_4cfef_7 : decode cJ1_indexOf_4cfef 7 = .ok (.iconst (-1), 1) := by decide +kernel
theorem dJ1_indexOf_4cfef_8 : decode cJ1_indexOf_4cfef 8 = .ok (.ireturn, 1) := by decide +kernel
theorem dJ1_indexOf_4cfef_9 : decode cJ1_indexOf_4cfef 9 = .ok (.iload_n 2, 1) := by decide +kernel
theorem dJ1_indexOf_4cfef_10 : decode cJ1_indexOf_4cfef 10 = .ok (.iconst 0, 1) := by decide +kernel
theorem dJ1_indexOf_4cfef_11 : decode cJ1_indexOf_4cfef 11 = .ok (.invokestatic 92, 3) := by decide +kernel
theorem dJ1_indexOf_4cfef_14 : decode cJ1_indexOf_4cfef 14 = .ok (.istore_n 2, 1) := by decide +kernel
theorem dJ1_indexOf_4cfef_15 : decode cJ1_indexOf_4cfef 15 = .ok (.iload_n 3, 1) := by decide +kernel
theorem dJ1_indexOf_4cfef_16 : decode cJ1_indexOf_4cfef 16 = .ok (.aload_n 0, 1) := by decide +kernel
theorem dJ1_indexOf_4cfef_17 : decode cJ1_indexOf_4cfef 17 = .ok (.arraylength, 1) := by decide +kernel
theorem dJ1_indexOf_4cfef_18 : decode cJ1_indexOf_4cfef 18 = .ok (.invokestatic 38, 3) := by decide +kernel
theorem dJ1_indexOf_4cfef_21 : decode cJ1_indexOf_4cfef 21 = .ok (.istore_n 3, 1) := by decide +kernel
theorem dJ1_indexOf_4cfef_22 : decode cJ1_indexOf_4cfef 22 = .ok (.iload_n 2, 1) := by decide +kernel
theorem dJ1_indexOf_4cfef_23 : decode cJ1_indexOf_4cfef 23 = .ok (.iload_n 3, 1) := by decide +kernel
theorem dJ1_indexOf_4cfef_24 : decode cJ1_indexOf_4cfef 24 = .ok (.if_icmp .lt 5, 3) := by decide +kernel
theorem dJ1_indexOf_4cfef_27 : decode cJ1_indexOf_4cfef 27 = .ok (.iconst (-1), 1) := by decide +kernel
theorem dJ1_indexOf_4cfef_28 : decode cJ1_indexOf_4cfef 28 = .ok (.ireturn, 1) := by decide +kernel
theorem dJ1_indexOf_4cfef_29 : decode cJ1_indexOf_4cfef 29 = .ok (.aload_n 0, 1) := by decide +kernel
theorem dJ1_indexOf_4cfef_30 : decode cJ1_indexOf_4cfef 30 = .ok (.iload_n 1, 1) := by decide +kernel
theorem dJ1_indexOf_4cfef_31 : decode cJ1_indexOf_4cfef 31 = .ok (.iload_n 2, 1) := by decide +kernel
theorem dJ1_indexOf_4cfef_32 : decode cJ1_indexOf_4cfef 32 = .ok (.iload_n 3, 1) := by decide +kernel
theorem dJ1_indexOf_4cfef_33 : decode cJ1_indexOf_4cfef 33 = .ok (.invokestatic 95, 3) := by decide +kernel
theorem dJ1_indexOf_4cfef_36 : decode cJ1_indexOf_4cfef 36 = .ok (.ireturn, 1) := by decide +kernel
theorem dJ1_indexOfChar_4cfef_0 : decode cJ1_indexOfChar_4cfef 0 = .ok (.iload_n 1, 1) := by decide +kernel
theorem dJ1_indexOfChar_4cfef_1 : decode cJ1_indexOfChar_4cfef 1 = .ok (.i2b, 1) := by decide +kernel
theorem dJ1_indexOfChar_4cfef_2 : decode cJ1_indexOfChar_4cfef 2 = .ok (.istore 4, 2) := by decide +kernel
theorem dJ1_indexOfChar_4cfef_4 : decode cJ1_indexOfChar_4cfef 4 = .ok (.iload_n 2, 1) := by decide +kernel
theorem dJ1_indexOfChar_4cfef_5 : decode cJ1_indexOfChar_4cfef 5 = .ok (.istore 5, 2) := by decide +kernel
theorem dJ1_indexOfChar_4cfef_7 : decode cJ1_indexOfChar_4cfef 7 = .ok (.iload 5, 2) := by decide +kernel
theorem dJ1_indexOfChar_4cfef_9 : decode cJ1_indexOfChar_4cfef 9 = .ok (.iload_n 3, 1) := by decide +kernel
theorem dJ1_indexOfChar_4cfef_10 : decode cJ1_indexOfChar_4cfef 10 = .ok (.if_icmp .ge 21, 3) := by decide +kernel
theorem dJ1_indexOfChar_4cfef_13 : decode cJ1_indexOfChar_4cfef 13 = .ok (.aload_n 0, 1) := by decide +kernel
theorem dJ1_indexOfChar_4cfef_14 : decode cJ1_indexOfChar_4cfef 14 = .ok (.iload 5, 2) := by decide +kernel
theorem dJ1_indexOfChar_4cfef_16 : decode cJ1_indexOfChar_4cfef 16 = .ok (.baload, 1) := by decide +kernel
theorem dJ1_indexOfChar_4cfef_17 : decode cJ1_indexOfChar_4cfef 17 = .ok (.iload 4, 2) := by decide +kernel
theorem dJ1_indexOfChar_4cfef_19 : decode cJ1_indexOfChar_4cfef 19 = .ok (.if_icmp .ne 6, 3) := by decide +kernel
theorem dJ1_indexOfChar_4cfef_22 : decode cJ1_indexOfChar_4cfef 22 = .ok (.iload 5, 2) := by decide +kernel
theorem dJ1_indexOfChar_4cfef_24 : decode cJ1_indexOfChar_4cfef 24 = .ok (.ireturn, 1) := by decide +kernel
theorem dJ1_indexOfChar_4cfef_25 : decode cJ1_indexOfChar_4cfef 25 = .ok (.iinc 5 1, 3) := by decide +kernel
theorem dJ1_indexOfChar_4cfef_28 : decode cJ1_indexOfChar_4cfef 28 = .ok (.goto (-21), 3) := by decide +kernel
theorem dJ1_indexOfChar_4cfef_31 : decode cJ1_indexOfChar_4cfef 31 = .ok (.iconst (-1), 1) := by decide +kernel
theorem dJ1_indexOfChar_4cfef_32 : decode cJ1_indexOfChar_4cfef 32 = .ok (.ireturn, 1) := by decide +kernel
set_option maxRecDepth 20000 in
theorem ggJ2_getChar_3b067_J2_length_9d52b : GoodIn wsJ2_getChar_3b067 wsJ2_length_9d52b := goodIn_r _ [7] (by decide +kernel) (by decide +kernel)
set_option maxRecDepth 20000 in
theorem gJ2_getChar_3b067_J2_length_9d52b : GoodIn wsJ2_getChar_3b067 (va_wsS RJ2 48 yJ2_length_9d52b wsJ2_length_9d52b) := goodIn_app (goodIn_of _ (by decide +kernel)) ggJ2_getChar_3b067_J2_length_9d52b
theorem dJ2_getChar_3b067_0 : decode cJ2_getChar_3b067 0 = .ok (.getstatic 44, 3) := by decide +kernel
theorem dJ2_getChar_3b067_3 : decode cJ2_getChar_3b067 3 = .ok (.ifCond .ne 25, 3) := by decide +kernel
theorem dJ2_getChar_3b067_6 : decode cJ2_getChar_3b067 6 = .ok (.iload_n 1, 1) := by decide +kernel
theorem dJ2_getChar_3b067_7 : decode cJ2_getChar_3b067 7 = .ok (.ifCond .lt 11, 3) := by decide +kernel
theorem dJ2_getChar_3b067_10 : decode cJ2_getChar_3b067 10 = .ok (.iload_n 1, 1) := by decide +kernel
theorem dJ2_getChar_3b067_11 : decode cJ2_getChar_3b067 11 = .ok (.aload_n 0, 1) := by decide +kernel
theorem dJ2_getChar_3b067_12 : decode cJ2_getChar_3b067 12 = .ok (.invokestatic 48, 3) := by decide +kernel
theorem dJ2_getChar_3b067_15 : decode cJ2_getChar_3b067 15 = .ok (.if_icmp .lt 13, 3) := by decide +kernel
theorem dJ2_getChar_3b067_18 : decode cJ2_getChar_3b067 18 = .ok (.new 52, 3) := by decide +kernel
theorem dJ2_getChar_3b067_21 : decode cJ2_getChar_3b067 21 = .ok (.dup, 1) := by decide +kernel
theorem dJ2_getChar_3b067_22 : decode cJ2_getChar_3b067 22 = .ok (.ldc 54, 2) := by decide +kernel
theorem dJ2_getChar_3b067_24 : decode cJ2_getChar_3b067 24 = .ok (.invokespecial 56, 3) := by decide +kernel
theorem dJ2_getChar_3b067_27 : decode cJ2_getChar_3b067 27 = .ok (.athrow, 1) := by decide +kernel
theorem dJ2_getChar_3b067_28 : decode cJ2_getChar_3b067 28 = .ok (.iload_n 1, 1) := by decide +kernel
theorem dJ2_getChar_3b067_29 : decode cJ2_getChar_3b067 29 = .ok (.iconst 1, 1) := by decide +kernel
theorem dJ2_getChar_3b067_30 : decode cJ2_getChar_3b067 30 = .ok (.ishl, 1) := by decide +kernel
theorem dJ2_getChar_3b067_31 : decode cJ2_getChar_3b067 31 = .ok (.istore_n 1, 1) := by decide +kernel
theorem dJ2_getChar_3b067_32 : decode cJ2_getChar_3b067 32 = .ok (.aload_n 0, 1) := by decide +kernel
theorem dJ2_getChar_3b067_33 : decode cJ2_getChar_3b067 33 = .ok (.iload_n 1, 1) := by decide +kernel
theorem dJ2_getChar_3b067_34 : decode cJ2_getChar_3b067 34 = .ok (.iinc 1 1, 3) := by decide +kernel
theorem dJ2_getChar_3b067_37 : decode cJ2_getChar_3b067 37 = .ok (.baload, 1) := by decide +kernel
theorem dJ2_getChar_3b067_38 : decode cJ2_getChar_3b067 38 = .ok (.sipush 255, 3) := by decide +kernel
theorem dJ2_getChar_3b067_41 : decode cJ2_getChar_3b067 41 = .ok (.iand, 1) := by decide +kernel
theorem dJ2_getChar_3b067_42 : decode cJ2_getChar_3b067 42 = .ok (.getstatic 59, 3) := by decide +kernel
theorem dJ2_getChar_3b067_45 : decode cJ2_getChar_3b067 45 = .ok (.ishl, 1) := by decide +kernel
theorem dJ2_getChar_3b067_46 : decode cJ2_getChar_3b067 46 = .ok (.aload_n 0, 1) := by decide +kernel
theorem dJ2_getChar_3b067_47 : decode cJ2_getChar_3b067 47 = .ok (.iload_n 1, 1) := by decide +kernel
theorem dJ2_getChar_3b067_48 : decode cJ2_getChar_3b067 48 = .ok (.baload, 1) := by decide +kernel
theorem dJ2_getChar_3b067_49 : decode cJ2_getChar_3b067 49 = .ok (.sipush 255, 3) := by decide +kernel
theorem dJ2_getChar_3b067_52 : decode cJ2_getChar_3b067 52 = .ok (.iand, 1) := by decide +kernel
theorem dJ2_getChar_3b067_53 : decode cJ2_getChar_3b067 53 = .ok (.getstatic 63, 3) := by decide +kernel
theorem dJ2_getChar_3b067_56 : decode cJ2_getChar_3b067 56 = .ok (.ishl, 1) := by decide +kernel
theorem dJ2_getChar_3b067_57 : decode cJ2_getChar_3b067 57 = .ok (.ior, 1) := by decide +kernel
theorem dJ2_getChar_3b067_58 : decode cJ2_getChar_3b067 58 = .ok (.i2c, 1) := by decide +kernel
theorem dJ2_getChar_3b067_59 : decode cJ2_getChar_3b067 59 = .ok (.ireturn, 1) := by decide +kernel
theorem dJ2_length_9d52b_0 : decode cJ2_length_9d52b 0 = .ok (.aload_n 0, 1) := by decide +kernel
theorem dJ2_length_9d52b_1 : decode cJ2_length_9d52b 1 = .ok (.arraylength, 1) := by decide +kernel
theorem dJ2_length_9d52b_2 : decode cJ2_length_9d52b 2 = .ok (.iconst 1, 1) := by decide +kernel
theorem dJ2_length_9d52b_3 : decode cJ2_length_9d52b 3 = .ok (.ishr, 1) := by decide +kernel
theorem dJ2_length_9d52b_4 : decode cJ2_length_9d52b 4 = .ok (.ireturn, 1) := by decide +kernel
set_option maxRecDepth 20000 in
theorem ggJ2_indexOf_4cfef_J2_indexOfChar_4cfef : GoodIn wsJ2_indexOf_4cfef wsJ2_indexOfChar_4cfef := goodIn_r _ [12, 13, 14, 11, 15, 16, 17, 18, 19, 20, 21, 22, 23, 24, 25, 26, 27, 28, 29, 30, 31, 32, 33, 34, 35, 36] (by decide +kernel) (by decide +kernel)
set_option maxRecDepth 20000 in
theorem gJ2_indexOf_4cfef_J2_indexOfChar_4cfef : GoodIn wsJ2_indexOf_4cfef (va_wsS RJ2 228 yJ2_indexOfChar_4cfef wsJ2_indexOfChar_4cfef) := goodIn_app (goodIn_of _ (by decide +kernel)) ggJ2_indexOf_4cfef_J2_indexOfChar_4cfef
set_option maxRecDepth 20000 in
theorem ggJ2_indexOf_4cfef_J2_indexOfSupplementary_4cfef : GoodIn wsJ2_indexOf_4cfef wsJ2_indexOfSupplementary_4cfef := goodIn_r _ [39, 40, 41, 42, 43, 44, 45, 46, 47, 48, 49, 50, 51, 13, 14, 11, 15, 16, 17, 18, 19, 20, 21, 22, 23, 24, 25, 26, 27, 31, 32, 33, 34, 35, 36] (by decide +kernel) (by decide +kernel)
set_option maxRecDepth 20000 in
theorem gJ2_indexOf_4cfef_J2_indexOfSupplementary_4cfef : GoodIn wsJ2_indexOf_4cfef (va_wsS RJ2 232 yJ2_indexOfSupplementary_4cfef wsJ2_indexOfSupplementary_4cfef) := goodIn_app (goodIn_of _ (by decide +kernel)) ggJ2_indexOf_4cfef_J2_indexOfSupplementary_4cfef
theorem dJ2_indexOf_4cfef_0 : decode cJ2_indexOf_4cfef 0 = .ok (.iload_n 2, 1) := by decide +kernel
theorem dJ2_indexOf_4cfef_1 : decode cJ2_indexOf_4cfef 1 = .ok (.iconst 0, 1) := by decide +kernel
theorem dJ2_indexOf_4cfef_2 : decode cJ2_indexOf_4cfef 2 = .ok (.invokestatic 224, 3) := by decide +kernel
theorem dJ2_indexOf_4cfef_5 : decode cJ2_indexOf_4cfef 5 = .ok (.istore_n 2, 1) := by decide +kernel
theorem dJ2_indexOf_4cfef_6 : decode cJ2_indexOf_4cfef 6 = .ok (.iload_n 3, 1) := by decide +kernel
theorem dJ2_indexOf_4cfef_7 : decode cJ2_indexOf_4cfef 7 = .ok (.aload_n 0, 1) := by decide +kernel
theorem dJ2_indexOf_4cfef_8 : decode cJ2_indexOf_4cfef 8 = .ok (.arraylength, 1) := by decide +kernel
theorem dJ2_indexOf_4cfef_9 : decode cJ2_indexOf_4cfef 9 = .ok (.iconst 1, 1) := by decide +kernel
theorem dJ2_indexOf_4cfef_10 : decode cJ2_indexOf_4cfef 10 = .ok (.ishr, 1) := by decide +kernel
theorem dJ2_indexOf_4cfef_11 : decode cJ2_indexOf_4cfef 11 = .ok (.invokestatic 183, 3) := by decide +kernel
theorem dJ2_indexOf_4cfef_14 : decode cJ2_indexOf_4cfef 14 = .ok (.istore_n 3, 1) := by decide +kernel
theorem dJ2_indexOf_4cfef_15 : decode cJ2_indexOf_4cfef 15 = .ok (.iload_n 2, 1) := by decide +kernel
theorem dJ2_indexOf_4cfef_16 : decode cJ2_indexOf_4cfef 16 = .ok (.iload_n 3, 1) := by decide +kernel
theorem dJ2_indexOf_4cfef_17 : decode cJ2_indexOf_4cfef 17 = .ok (.if_icmp .lt 5, 3) := by decide +kernel
theorem dJ2_indexOf_4cfef_20 : decode cJ2_indexOf_4cfef 20 = .ok (.iconst (-1), 1) := by decide +kernel
theorem dJ2_indexOf_4cfef_21 : decode cJ2_indexOf_4cfef 21 = .ok (.ireturn, 1) := by decide +kernel
theorem dJ2_indexOf_4cfef_22 : decode cJ2_indexOf_4cfef 22 = .ok (.iload_n 1, 1) := by decide +kernel
theorem dJ2_indexOf_4cfef_23 : decode cJ2_indexOf_4cfef 23 = .ok (.ldc 227, 2) := by decide +kernel
theorem dJ2_indexOf_4cfef_25 : decode cJ2_indexOf_4cfef 25 = .ok (.if_icmp .ge 11, 3) := by decide +kernel
theorem dJ2_indexOf_4cfef_28 : decode cJ2_indexOf_4cfef 28 = .ok (.aload_n 0, 1) := by decide +kernel
theorem dJ2_indexOf_4cfef_29 : decode cJ2_indexOf_4cfef 29 = .ok (.iload_n 1, 1) := by decide +kernel
theorem dJ2_indexOf_4cfef_30 : decode cJ2_indexOf_4cfef 30 = .ok (.iload_n 2, 1) := by decide +kernel
theorem dJ2_indexOf_4cfef_31 : decode cJ2_indexOf_4cfef 31 = .ok (.iload_n 3, 1) := by decide +kernel
theorem dJ2_indexOf_4cfef_32 : decode cJ2_indexOf_4cfef 32 = .ok (.invokestatic 228, 3) := by decide +kernel
theorem dJ2_indexOf_4cfef_35 : decode cJ2_indexOf_4cfef 35 = .ok (.ireturn, 1) := by decide +kernel
theorem dJ2_indexOf_4cfef_36 : decode cJ2_indexOf_4cfef 36 = .ok (.aload_n 0, 1) := by decide +kernel
theorem dJ2_indexOf_4cfef_37 : decode cJ2_indexOf_4cfef 37 = .ok (.iload_n 1, 1) := by decide +kernel
theorem dJ2_indexOf_4cfef_38 : decode cJ2_indexOf_4cfef 38 = .ok (.iload_n 2, 1) := by decide +kernel
theorem dJ2_indexOf_4cfef_39 : decode cJ2_indexOf_4cfef 39 = .ok (.iload_n 3, 1) := by decide +kernel
theorem dJ2_indexOf_4cfef_40 : decode cJ2_indexOf_4cfef 40 = .ok (.invokestatic 232, 3) := by decide +kernel
theorem dJ2_indexOf_4cfef_43 : decode cJ2_indexOf_4cfef 43 = .ok (.ireturn, 1) := by decide +kernel
set_option maxRecDepth 20000 in
theorem ggJ2_indexOfChar_4cfef_J2_checkBoundsBeginEnd_d044e : GoodIn wsJ2_indexOfChar_4cfef wsJ2_checkBoundsBeginEnd_d044e := goodIn_r _ [4, 5, 6, 3, 7, 8, 9, 10, 11, 12, 13, 14, 15, 16] (by decide +kernel) (by decide +kernel)
set_option maxRecDepth 20000 in
theorem gJ2_indexOfChar_4cfef_J2_checkBoundsBeginEnd_d044e : GoodIn wsJ2_indexOfChar_4cfef (va_wsS RJ2 96 yJ2_checkBoundsBeginEnd_d044e wsJ2_checkBoundsBeginEnd_d044e) := goodIn_app (goodIn_of _ (by decide +kernel)) ggJ2_indexOfChar_4cfef_J2_checkBoundsBeginEnd_d044e
set_option maxRecDepth 20000 in
theorem ggJ2_indexOfChar_4cfef_J2_indexOfCharUnsafe_4cfef : GoodIn wsJ2_indexOfChar_4cfef wsJ2_indexOfCharUnsafe_4cfef := goodIn_r _ [19, 20, 21, 3, 22, 23, 24, 25, 5, 6, 7] (by decide +kernel) (by decide +kernel)
set_option maxRecDepth 20000 in
theorem gJ2_indexOfChar_4cfef_J2_indexOfCharUnsafe_4cfef : GoodIn wsJ2_indexOfChar_4cfef (va_wsS RJ2 244 yJ2_indexOfCharUnsafe_4cfef wsJ2_indexOfCharUnsafe_4cfef) := goodIn_app (goodIn_of _ (by decide +kernel)) ggJ2_indexOfChar_4cfef_J2_indexOfCharUnsafe_4cfef
theorem dJ2_indexOfChar_4cfef_0 : decode cJ2_indexOfChar_4cfef 0 = .ok (.iload_n 2, 1) := by decide +kernel
theorem dJ2_indexOfChar_4cfef_1 : decode cJ2_indexOfChar_4cfef 1 = .ok (.iload_n 3, 1) := by decide +kernel
theorem dJ2_indexOfChar_4cfef_2 : decode cJ2_indexOfChar_4cfef 2 = .ok (.aload_n 0, 1) := by decide +kernel
theorem dJ2_indexOfChar_4cfef_3 : decode cJ2_indexOfChar_4cfef 3 = .ok (.invokestatic 96, 3) := by decide +kernel
theorem dJ2_indexOfChar_4cfef_6 : decode cJ2_indexOfChar_4cfef 6 = .ok (.aload_n 0, 1) := by decide +kernel
theorem dJ2_indexOfChar_4cfef_7 : decode cJ2_indexOfChar_4cfef 7 = .ok (.iload_n 1, 1) := by decide +kernel
theorem dJ2_indexOfChar_4cfef_8 : decode cJ2_indexOfChar_4cfef 8 = .ok (.iload_n 2, 1) := by decide +kernel
theorem dJ2_indexOfChar_4cfef_9 : decode cJ2_indexOfChar_4cfef 9 = .ok (.iload_n 3, 1) := by decide +kernel
theorem dJ2_indexOfChar_4cfef_10 : decode cJ2_indexOfChar_4cfef 10 = .ok (.invokestatic 244, 3) := by decide +kernel
theorem dJ2_indexOfChar_4cfef_13 : decode cJ2_indexOfChar_4cfef 13 = .ok (.ireturn, 1) := by decide +kernel
set_option maxRecDepth 20000 in
theorem ggJ2_indexOfCharUnsafe_4cfef_J2_getChar_3b067 : GoodIn wsJ2_indexOfCharUnsafe_4cfef wsJ2_getChar_3b067 := goodIn_r _ [4, 5, 6, 7, 8, 9, 3, 10] (by decide +kernel) (by decide +kernel)
set_option maxRecDepth 20000 in
theorem gJ2_indexOfCharUnsafe_4cfef_J2_getChar_3b067 : GoodIn wsJ2_indexOfCharUnsafe_4cfef (va_wsS RJ2 71 yJ2_getChar_3b067 wsJ2_getChar_3b067) := goodIn_app (goodIn_of _ (by decide +kernel)) ggJ2_indexOfCharUnsafe_4cfef_J2_getChar_3b067
theorem dJ2_indexOfCharUnsafe_4cfef_0 : decode cJ2_indexOfCharUnsafe_4cfef 0 = .ok (.iload_n 2, 1) := by decide +kernel
theorem dJ2_indexOfCharUnsafe_4cfef_1 : decode cJ2_indexOfCharUnsafe_4cfef 1 = .ok (.istore 4, 2) := by decide +kernel
theorem dJ2_indexOfCharUnsafe_4cfef_3 : decode cJ2_indexOfCharUnsafe_4cfef 3 = .ok (.iload 4, 2) := by decide +kernel
theorem dJ2_indexOfCharUnsafe_4cfef_5 : decode cJ2_indexOfCharUnsafe_4cfef 5 = .ok (.iload_n 3, 1) := by decide +kernel
theorem dJ2_indexOfCharUnsafe_4cfef_6 : decode cJ2_indexOfCharUnsafe_4cfef 6 = .ok (.if_icmp .ge 22, 3) := by decide +kernel
theorem dJ2_indexOfCharUnsafe_4cfef_9 : decode cJ2_indexOfCharUnsafe_4cfef 9 = .ok (.aload_n 0, 1) := by decide +kernel
theorem dJ2_indexOfCharUnsafe_4cfef_10 : decode cJ2_indexOfCharUnsafe_4cfef 10 = .ok (.iload 4, 2) := by decide +kernel
theorem dJ2_indexOfCharUnsafe_4cfef_12 : decode cJ2_indexOfCharUnsafe_4cfef 12 = .ok (.invokestatic 71, 3) := by decide +kernel
theorem dJ2_indexOfCharUnsafe_4cfef_15 : decode cJ2_indexOfCharUnsafe_4cfef 15 = .ok (.iload_n 1, 1) := by decide +kernel
theorem dJ2_indexOfCharUnsafe_4cfef_16 : decode cJ2_indexOfCharUnsafe_4cfef 16 = .ok (.if_icmp .ne 6, 3) := by decide +kernel
theorem dJ2_indexOfCharUnsafe_4cfef_19 : decode cJ2_indexOfCharUnsafe_4cfef 19 = .ok (.iload 4, 2) := by decide +kernel
theorem dJ2_indexOfCharUnsafe_4cfef_21 : decode cJ2_indexOfCharUnsafe_4cfef 21 = .ok (.ireturn, 1) := by decide +kernel
theorem dJ2_indexOfCharUnsafe_4cfef_22 : decode cJ2_indexOfCharUnsafe_4cfef 22 = .ok (.iinc 4 1, 3) := by decide +kernel
theorem dJ2_indexOfCharUnsafe_4cfef_25 : decode cJ2_indexOfCharUnsafe_4cfef 25 = .ok (.goto (-22), 3) := by decide +kernel
theorem dJ2_indexOfCharUnsafe_4cfef_28 : decode cJ2_indexOfCharUnsafe_4cfef 28 = .ok (.iconst (-1), 1) := by decide +kernel
theorem dJ2_indexOfCharUnsafe_4cfef_29 : decode cJ2_indexOfCharUnsafe_4cfef 29 = .ok (.ireturn, 1) := by decide +kernel
set_option maxRecDepth 20000 in
theorem ggJ2_indexOfSupplementary_4cfef_J11_isValidCodePoint_9a6ad : GoodIn wsJ2_indexOfSupplementary_4cfef wsJ11_isValidCodePoint_9a6ad := goodIn_r _ [4] (by decide +kernel) (by decide +kernel)
set_option maxRecDepth 20000 in
theorem gJ2_indexOfSupplementary_4cfef_J11_isValidCodePoint_9a6ad : GoodIn wsJ2_indexOfSupplementary_4cfef (va_wsS RJ2 164 yJ11_isValidCodePoint_9a6ad wsJ11_isValidCodePoint_9a6ad) := goodIn_app (goodIn_of _ (by decide +kernel)) ggJ2_indexOfSupplementary_4cfef_J11_isValidCodePoint_9a6ad
set_option maxRecDepth 20000 in
theorem ggJ2_indexOfSupplementary_4cfef_J11_highSurrogate_5068e : GoodIn wsJ2_indexOfSupplementary_4cfef wsJ11_highSurrogate_5068e := goodIn_r _ [7, 8] (by decide +kernel) (by decide +kernel)
set_option maxRecDepth 20000 in
theorem gJ2_indexOfSupplementary_4cfef_J11_highSurrogate_5068e : GoodIn wsJ2_indexOfSupplementary_4cfef (va_wsS RJ2 157 yJ11_highSurrogate_5068e wsJ11_highSurrogate_5068e) := goodIn_app (goodIn_of _ (by decide +kernel)) ggJ2_indexOfSupplementary_4cfef_J11_highSurrogate_5068e
set_option maxRecDepth 20000 in
theorem ggJ2_indexOfSupplementary_4cfef_J11_lowSurrogate_5068e : GoodIn wsJ2_indexOfSupplementary_4cfef wsJ11_lowSurrogate_5068e := goodIn_r _ [11, 12] (by decide +kernel) (by decide +kernel)
set_option maxRecDepth 20000 in
theorem gJ2_indexOfSupplementary_4cfef_J11_lowSurrogate_5068e : GoodIn wsJ2_indexOfSupplementary_4cfef (va_wsS RJ2 161 yJ11_lowSurrogate_5068e wsJ11_lowSurrogate_5068e) := goodIn_app (goodIn_of _ (by decide +kernel)) ggJ2_indexOfSupplementary_4cfef_J11_lowSurrogate_5068e
set_option maxRecDepth 20000 in
theorem ggJ2_indexOfSupplementary_4cfef_J2_checkBoundsBeginEnd_d044e : GoodIn wsJ2_indexOfSupplementary_4cfef wsJ2_checkBoundsBeginEnd_d044e := goodIn_r _ [16, 17, 18, 15, 19, 20, 21, 22, 23, 24, 25, 26, 27, 28] (by decide +kernel) (by decide +kernel)
set_option maxRecDepth 20000 in
theorem gJ2_indexOfSupplementary_4cfef_J2_checkBoundsBeginEnd_d044e : GoodIn wsJ2_indexOfSupplementary_4cfef (va_wsS RJ2 96 yJ2_checkBoundsBeginEnd_d044e wsJ2_checkBoundsBeginEnd_d044e) := goodIn_app (goodIn_of _ (by decide +kernel)) ggJ2_indexOfSupplementary_4cfef_J2_checkBoundsBeginEnd_d044e
set_option maxRecDepth 20000 in
theorem ggJ2_indexOfSupplementary_4cfef_J2_getChar_3b067 : GoodIn wsJ2_indexOfSupplementary_4cfef wsJ2_getChar_3b067 := goodIn_r _ [31, 32, 33, 34, 17, 18, 15, 19] (by decide +kernel) (by decide +kernel)
set_option maxRecDepth 20000 in
theorem gJ2_indexOfSupplementary_4cfef_J2_getChar_3b067 : GoodIn wsJ2_indexOfSupplementary_4cfef (va_wsS RJ2 71 yJ2_getChar_3b067 wsJ2_getChar_3b067) := goodIn_app (goodIn_of _ (by decide +kernel)) ggJ2_indexOfSupplementary_4cfef_J2_getChar_3b067
theorem dJ2_indexOfSupplementary_4cfef_0 : decode cJ2_indexOfSupplementary_4cfef 0 = .ok (.iload_n 1, 1) := by decide +kernel
theorem dJ2_indexOfSupplementary_4cfef_1 : decode cJ2_indexOfSupplementary_4cfef 1 = .ok (.invokestatic 164, 3) := by decide +kernel
theorem dJ2_indexOfSupplementary_4cfef_4 : decode cJ2_indexOfSupplementary_4cfef 4 = .ok (.ifCond .eq 65, 3) := by decide +kernel
theorem dJ2_indexOfSupplementary_4cfef_7 : decode cJ2_indexOfSupplementary_4cfef 7 = .ok (.iload_n 1, 1) := by decide +kernel
theorem dJ2_indexOfSupplementary_4cfef_8 : decode cJ2_indexOfSupplementary_4cfef 8 = .ok (.invokestatic 157, 3) := by decide +kernel
theorem dJ2_indexOfSupplementary_4cfef_11 : decode cJ2_indexOfSupplementary_4cfef 11 = .ok (.istore 4, 2) := by decide +kernel
theorem dJ2_indexOfSupplementary_4cfef_13 : decode cJ2_indexOfSupplementary_4cfef 13 = .ok (.iload_n 1, 1) := by decide +kernel
theorem dJ2_indexOfSupplementary_4cfef_14 : decode cJ2_indexOfSupplementary_4cfef 14 = .ok (.invokestatic 161, 3) := by decide +kernel
theorem dJ2_indexOfSupplementary_4cfef_17 : decode cJ2_indexOfSupplementary_4cfef 17 = .ok (.istore 5, 2) := by decide +kernel
theorem dJ2_indexOfSupplementary_4cfef_19 : decode cJ2_indexOfSupplementary_4cfef 19 = .ok (.iload_n 2, 1) := by decide +kernel
theorem dJ2_indexOfSupplementary_4cfef_20 : decode cJ2_indexOfSupplementary_4cfef 20 = .ok (.iload_n 3, 1) := by decide +kernel
theorem dJ2_indexOfSupplementary_4cfef_21 : decode cJ2_indexOfSupplementary_4cfef 21 = .ok (.aload_n 0, 1) := by decide +kernel
theorem dJ2_indexOfSupplementary_4cfef_22 : decode cJ2_indexOfSupplementary_4cfef 22 = .ok (.invokestatic 96, 3) := by decide +kernel
theorem dJ2_indexOfSupplementary_4cfef_25 : decode cJ2_indexOfSupplementary_4cfef 25 = .ok (.iload_n 2, 1) := by decide +kernel
theorem dJ2_indexOfSupplementary_4cfef_26 : decode cJ2_indexOfSupplementary_4cfef 26 = .ok (.istore 6, 2) := by decide +kernel
theorem dJ2_indexOfSupplementary_4cfef_28 : decode cJ2_indexOfSupplementary_4cfef 28 = .ok (.iload 6, 2) := by decide +kernel
theorem dJ2_indexOfSupplementary_4cfef_30 : decode cJ2_indexOfSupplementary_4cfef 30 = .ok (.iload_n 3, 1) := by decide +kernel
theorem dJ2_indexOfSupplementary_4cfef_31 : decode cJ2_indexOfSupplementary_4cfef 31 = .ok (.iconst 1, 1) := by decide +kernel
theorem dJ2_indexOfSupplementary_4cfef_32 : decode cJ2_indexOfSupplementary_4cfef 32 = .ok (.isub, 1) := by decide +kernel
theorem dJ2_indexOfSupplementary_4cfef_33 : decode cJ2_indexOfSupplementary_4cfef 33 = .ok (.if_icmp .ge 36, 3) := by decide +kernel
theorem dJ2_indexOfSupplementary_4cfef_36 : decode cJ2_indexOfSupplementary_4cfef 36 = .ok (.aload_n 0, 1) := by decide +kernel
theorem dJ2_indexOfSupplementary_4cfef_37 : decode cJ2_indexOfSupplementary_4cfef 37 = .ok (.iload 6, 2) := by decide +kernel
theorem dJ2_indexOfSupplementary_4cfef_39 : decode cJ2_indexOfSupplementary_4cfef 39 = .ok (.invokestatic 71, 3) := by decide +kernel
theorem dJ2_indexOfSupplementary_4cfef_42 : decode cJ2_indexOfSupplementary_4cfef 42 = .ok (.iload 4, 2) := by decide +kernel
theorem dJ2_indexOfSupplementary_4cfef_44 : decode cJ2_indexOfSupplementary_4cfef 44 = .ok (.if_icmp .ne 19, 3) := by decide +kernel
theorem dJ2_indexOfSupplementary_4cfef_47 : decode cJ2_indexOfSupplementary_4cfef 47 = .ok (.aload_n 0, 1) := by decide +kernel
theorem dJ2_indexOfSupplementary_4cfef_48 : decode cJ2_indexOfSupplementary_4cfef 48 = .ok (.iload 6, 2) := by decide +kernel
theorem dJ2_indexOfSupplementary_4cfef_50 : decode cJ2_indexOfSupplementary_4cfef 50 = .ok (.iconst 1, 1) := by decide +kernel
theorem dJ2_indexOfSupplementary_4cfef_51 : decode cJ2_indexOfSupplementary_4cfef 51 = .ok (.iadd, 1) := by decide +kernel
theorem dJ2_indexOfSupplementary_4cfef_52 : decode cJ2_indexOfSupplementary_4cfef 52 = .ok (.invokestatic 71, 3) := by decide +kernel
theorem dJ2_indexOfSupplementary_4cfef_55 : decode cJ2_indexOfSupplementary_4cfef 55 = .ok (.iload 5, 2) := by decide +kernel
theorem dJ2_indexOfSupplementary_4cfef_57 : decode cJ2_indexOfSupplementary_4cfef 57 = .ok (.if_icmp .ne 6, 3) := by decide +kernel
theorem dJ2_indexOfSupplementary_4cfef_60 : decode cJ2_indexOfSupplementary_4cfef 60 = .ok (.iload 6, 2) := by decide +kernel
theorem dJ2_indexOfSupplementary_4cfef_62 : decode cJ2_indexOfSupplementary_4cfef 62 = .ok (.ireturn, 1) := by decide +kernel
theorem dJ2_indexOfSupplementary_4cfef_63 : decode cJ2_indexOfSupplementary_4cfef 63 = .ok (.iinc 6 1, 3) := by decide +kernel
theorem dJ2_indexOfSupplementary_4cfef_66 : decode cJ2_indexOfSupplementary_4cfef 66 = .ok (.goto (-38), 3) := by decide +kernel
theorem dJ2_indexOfSupplementary_4cfef_69 : decode cJ2_indexOfSupplementary_4cfef 69 = .ok (.iconst (-1), 1) := by decide +kernel
theorem dJ2_indexOfSupplementary_4cfef_70 : decode cJ2_indexOfSupplementary_4cfef 70 = .ok (.ireturn, 1) := by decide +kernel
set_option maxRecDepth 20000 in
theorem ggJ2_checkBoundsBeginEnd_d044e_J2_length_9d52b : GoodIn wsJ2_checkBoundsBeginEnd_d044e wsJ2_length_9d52b := goodIn_r _ [4] (by decide +kernel) (by decide +kernel)
set_option maxRecDepth 20000 in
theorem gJ2_checkBoundsBeginEnd_d044e_J2_length_9d52b : GoodIn wsJ2_checkBoundsBeginEnd_d044e (va_wsS RJ2 48 yJ2_length_9d52b wsJ2_length_9d52b) := goodIn_app (goodIn_of _ (by decide +kernel)) ggJ2_checkBoundsBeginEnd_d044e_J2_length_9d52b
set_option maxRecDepth 20000 in
theorem ggJ2_checkBoundsBeginEnd_d044e_J0_checkBoundsBeginEnd_23922 : GoodIn wsJ2_checkBoundsBeginEnd_d044e wsJ0_checkBoundsBeginEnd_23922 := goodIn_r _ [8, 9, 10, 11, 12, 13] (by decide +kernel) (by decide +kernel)
set_option maxRecDepth 20000 in
theorem gJ2_checkBoundsBeginEnd_d044e_J0_checkBoundsBeginEnd_23922 : GoodIn wsJ2_checkBoundsBeginEnd_d044e (va_wsS RJ2 241 yJ0_checkBoundsBeginEnd_23922 wsJ0_checkBoundsBeginEnd_23922) := goodIn_app (goodIn_of _ (by decide +kernel)) ggJ2_checkBoundsBeginEnd_d044e_J0_checkBoundsBeginEnd_23922
theorem dJ2_checkBoundsBeginEnd_d044e_0 : decode cJ2_checkBoundsBeginEnd_d044e 0 = .ok (.iload_n 0, 1) := by decide +kernel
theorem dJ2_checkBoundsBeginEnd_d044e_1 : decode cJ2_checkBoundsBeginEnd_d044e 1 = .ok (.iload_n 1, 1) := by decide +kernel
theorem dJ2_checkBoundsBeginEnd_d044e_2 : decode cJ2_checkBoundsBeginEnd_d044e 2 = .ok (.aload_n 2, 1) := by decide +kernel
theorem dJ2_checkBoundsBeginEnd_d044e_3 : decode cJ2_checkBoundsBeginEnd_d044e 3 = .ok (.invokestatic 48, 3) := by decide +kernel
theorem dJ2_checkBoundsBeginEnd_d044e_6 : decode cJ2_checkBoundsBeginEnd_d044e 6 = .ok (.invokestatic 241, 3) := by decide +kernel
theorem dJ2_checkBoundsBeginEnd_d044e_9 : decode cJ2_checkBoundsBeginEnd_d044e 9 = .ok (.return_, 1) := by decide +kernel
theorem dJ3_checkFromToIndex_8c36e_0 : decode cJ3_checkFromToIndex_8c36e 0 = .ok (.iload_n 0, 1) := by decide +kernel
theorem dJ3_checkFromToIndex_8c36e_1 : decode cJ3_checkFromToIndex_8c36e 1 = .ok (.ifCond .lt 13, 3) := by decide +kernel
theorem dJ3_checkFromToIndex_8c36e_4 : decode cJ3_checkFromToIndex_8c36e 4 = .ok (.iload_n 0, 1) := by decide +kernel
theorem dJ3_checkFromToIndex_8c36e_5 : decode cJ3_checkFromToIndex_8c36e 5 = .ok (.iload_n 1, 1) := by decide +kernel
theorem dJ3_checkFromToIndex_8c36e_6 : decode cJ3_checkFromToIndex_8c36e 6 = .ok (.if_icmp .gt 8, 3) := by decide +kernel
theorem dJ3_checkFromToIndex_8c36e_9 : decode cJ3_checkFromToIndex_8c36e 9 = .ok (.iload_n 1, 1) := by decide +kernel
theorem dJ3_checkFromToIndex_8c36e_10 : decode cJ3_checkFromToIndex_8c36e 10 = .ok (.iload_n 2, 1) := by decide +kernel
theorem dJ3_checkFromToIndex_8c36e_11 : decode cJ3_checkFromToIndex_8c36e 11 = .ok (.if_icmp .le 11, 3) := by decide +kernel
theorem dJ3_checkFromToIndex_8c36e_14 : decode cJ3_checkFromToIndex_8c36e 14 = .ok (.aload_n 3, 1) := by decide +kernel
theorem dJ3_checkFromToIndex_8c36e_15 : decode cJ3_checkFromToIndex_8c36e 15 = .ok (.iload_n 0, 1) := by decide +kernel
theorem dJ3_checkFromToIndex_8c36e_16 : decode cJ3_checkFromToIndex_8c36e 16 = .ok (.iload_n 1, 1) := by decide +kernel
theorem dJ3_checkFromToIndex_8c36e_17 : decode cJ3_checkFromToIndex_8c36e 17 = .ok (.iload_n 2, 1) := by decide +kernel
theorem dJ3_checkFromToIndex_8c36e_18 : decode cJ3_checkFromToIndex_8c36e 18 = .ok (.invokestatic 99, 3) := by decide +kernel
theorem dJ3_checkFromToIndex_8c36e_21 : decode cJ3_checkFromToIndex_8c36e 21 = .ok (.athrow, 1) := by decide +kernel
theorem dJ3_checkFromToIndex_8c36e_22 : decode cJ3_checkFromToIndex_8c36e 22 = .ok (.iload_n 0, 1) := by decide +kernel
theorem dJ3_checkFromToIndex_8c36e_23 : decode cJ3_checkFromToIndex_8c36e 23 = .ok (.ireturn, 1) := by decide +kernel
set_option maxRecDepth 20000 in
theorem ggL_law_X2_init : GoodIn wsL_law wsX2_init := goodIn_r _ [8, 9, 10, 11, 12, 13, 14, 15, 16, 17, 18, 19, 20, 21, 22, 23, 24, 25, 26, 27, 28, 29, 30, 31, 32, 33, 34, 35, 36, 37, 38, 39, 40, 41, 42, 43, 44, 45, 46, 766, 767, 716, 717, 718, 719, 720, 721, 722, 723, 724, 725, 768, 769, 770, 771, 772, 773, 774, 775, 776, 777, 778, 779, 780] (by decide +kernel) (by decide +kernel)
set_option maxRecDepth 20000 in
theorem gL_law_X2_init : GoodIn wsL_law (wsX2_init) := ggL_law_X2_init
set_option maxRecDepth 20000 in
theorem ggL_law_X3_init : GoodIn wsL_law wsX3_init := goodIn_r _ [49, 50, 10, 11, 16, 51, 52, 53, 54, 55, 56, 57, 58, 59, 60, 61, 62, 63, 64, 65, 66, 67, 68, 69, 70, 726, 727, 728, 729, 730, 731, 732, 733, 734, 735, 736, 737, 738, 739, 740, 741, 742, 743, 744, 745, 746, 747, 748, 749, 750, 751, 752, 753, 754, 755, 756, 757, 758, 759, 760, 761, 762, 763, 764, 765] (by decide +kernel) (by decide +kernel)
set_option maxRecDepth 20000 in
theorem gL_law_X3_init : GoodIn wsL_law (wsX3_init) := ggL_law_X3_init
set_option maxRecDepth 20000 in
theorem ggL_law_X2_letter : GoodIn wsL_law wsX2_letter := goodIn_r _ [74, 15, 75, 76, 77, 2, 78, 79, 80, 81, 14, 82, 34, 33, 716, 717, 718, 719, 720, 721, 722, 723, 724, 725, 766, 767] (by decide +kernel) (by decide +kernel)
set_option maxRecDepth 20000 in
theorem gL_law_X2_letter : GoodIn wsL_law (wsV RL 13 RX2 yX2_letter wsX2_letter) := goodIn_app (goodIn_of _ (by decide +kernel)) ggL_law_X2_letter
set_option maxRecDepth 20000 in
theorem ggL_law_X3_letter : GoodIn wsL_law wsX3_letter := goodIn_r _ [86, 87, 61, 88, 89, 5, 90, 726, 727, 728, 729, 730, 731, 732, 733, 734, 735, 736, 737, 738, 739, 740, 741, 742, 743, 744, 745, 746, 747, 748, 749, 750, 751, 752, 753, 754, 755, 756, 757, 758, 759, 760, 761, 762, 763, 764, 765] (by decide +kernel) (by decide +kernel)
set_option maxRecDepth 20000 in
theorem gL_law_X3_letter : GoodIn wsL_law (wsV RL 17 RX3 yX3_letter wsX3_letter) := goodIn_app (goodIn_of _ (by decide +kernel)) ggL_law_X3_letter
set_option maxRecDepth 20000 in
theorem ggL_law_X2_blank : GoodIn wsL_law wsX2_blank := goodIn_r _ [94, 15, 95, 96, 97, 14, 98, 34, 716, 717, 718, 719, 720, 721, 722, 723, 724, 725, 766, 767] (by decide +kernel) (by decide +kernel)
set_option maxRecDepth 20000 in
theorem gL_law_X2_blank : GoodIn wsL_law (wsV RL 18 RX2 yX2_blank wsX2_blank) := goodIn_app (goodIn_of _ (by decide +kernel)) ggL_law_X2_blank
set_option maxRecDepth 20000 in
theorem ggL_law_X3_blank : GoodIn wsL_law wsX3_blank := goodIn_r _ [102, 87, 726, 727, 728, 729, 730, 731, 732, 733, 734, 735, 736, 737, 738, 739, 740, 741, 742, 743, 744, 745, 746, 747, 748, 749, 750, 751, 752, 753, 754, 755, 756, 757, 758, 759, 760, 761, 762, 763, 764, 765] (by decide +kernel) (by decide +kernel)
set_option maxRecDepth 20000 in
theorem gL_law_X3_blank : GoodIn wsL_law (wsV RL 22 RX3 yX3_blank wsX3_blank) := goodIn_app (goodIn_of _ (by decide +kernel)) ggL_law_X3_blank
set_option maxRecDepth 20000 in
theorem ggL_law_X2_fault : GoodIn wsL_law wsX2_fault := goodIn_r _ [106, 15, 107, 108, 109, 14, 110, 34, 111, 112, 113, 114, 115, 116, 117, 118, 119, 120, 121, 122, 33, 123, 124, 125, 126, 127, 128, 129, 130, 131, 132, 133, 134, 135, 136, 137, 138, 139, 140, 141, 142, 143, 144, 145, 146, 147, 148, 149, 150, 151, 152, 153, 154, 155, 156, 157, 158, 159, 160, 161, 162, 163, 164, 165, 166, 167, 168, 169, 170, 171, 172, 173, 174, 175, 176, 177, 178, 179, 180, 181, 182, 183, 184, 185, 186, 187, 188, 189, 190, 191, 192, 193, 194, 195, 196, 197, 198, 199, 200, 201, 202, 203, 204, 205, 206, 207, 208, 209, 210, 211, 212, 213, 214, 215, 77, 2, 78, 216, 217, 218, 219, 716, 717, 718, 719, 720, 721, 722, 723, 724, 725, 766, 767] (by decide +kernel) (by decide +kernel)
set_option maxRecDepth 20000 in
theorem gL_law_X2_fault : GoodIn wsL_law (wsV RL 23 RX2 yX2_fault wsX2_fault) := goodIn_app (goodIn_of _ (by decide +kernel)) ggL_law_X2_fault
set_option maxRecDepth 20000 in
theorem ggL_law_X3_fault : GoodIn wsL_law wsX3_fault := goodIn_r _ [223, 224, 225, 226, 5, 227, 228, 229, 87, 61, 230, 231, 232, 233, 234, 235, 236, 88, 89, 90, 726, 727, 728, 729, 730, 731, 732, 733, 734, 735, 736, 737, 738, 739, 740, 741, 742, 743, 744, 745, 746, 747, 748, 749, 750, 751, 752, 753, 754, 755, 756, 757, 758, 759, 760, 761, 762, 763, 764, 765] (by decide +kernel) (by decide +kernel)
set_option maxRecDepth 20000 in
theorem gL_law_X3_fault : GoodIn wsL_law (wsV RL 26 RX3 yX3_fault wsX3_fault) := goodIn_app (goodIn_of _ (by decide +kernel)) ggL_law_X3_fault
set_option maxRecDepth 20000 in
theorem ggL_law_X2_city : GoodIn wsL_law wsX2_city := goodIn_r _ [240, 15, 26, 17, 18, 22, 28, 27, 241, 242, 243, 14, 244, 34, 245, 108, 109, 110, 111, 112, 113, 114, 115, 116, 117, 118, 119, 120, 121, 122, 33, 123, 124, 125, 126, 127, 128, 129, 130, 131, 132, 133, 134, 135, 136, 137, 138, 139, 140, 141, 142, 143, 144, 145, 146, 147, 148, 149, 150, 151, 152, 153, 154, 155, 156, 157, 158, 159, 160, 161, 162, 163, 164, 165, 166, 167, 168, 169, 170, 171, 172, 173, 174, 175, 176, 177, 178, 179, 180, 181, 182, 183, 184, 185, 186, 187, 188, 189, 190, 191, 192, 193, 194, 195, 196, 197, 198, 199, 200, 201, 202, 203, 204, 205, 206, 207, 208, 209, 210, 211, 212, 213, 214, 215, 77, 2, 78, 216, 217, 218, 219, 246, 247, 248, 249, 250, 251, 252, 253, 254, 255, 256, 257, 258, 259, 260, 261, 262, 263, 264, 265, 266, 267, 268, 21, 269, 270, 271, 272, 273, 274, 39, 40, 41, 42, 95, 96, 97, 98, 716, 717, 718, 719, 720, 721, 722, 723, 724, 725, 766, 767, 768, 769, 770, 771, 772, 773, 774, 775, 776, 777, 778, 779, 780] (by decide +kernel) (by decide +kernel)
set_option maxRecDepth 20000 in
theorem gL_law_X2_city : GoodIn wsL_law (wsV RL 27 RX2 yX2_city wsX2_city) := goodIn_app (goodIn_of _ (by decide +kernel)) ggL_law_X2_city
set_option maxRecDepth 20000 in
theorem ggL_law_X3_city : GoodIn wsL_law wsX3_city := goodIn_r _ [278, 228, 229, 279, 51, 61, 52, 53, 54, 55, 56, 280, 281, 282, 283, 284, 285, 87, 224, 225, 226, 5, 227, 230, 231, 232, 233, 234, 235, 236, 88, 89, 90, 726, 727, 728, 729, 730, 731, 732, 733, 734, 735, 736, 737, 738, 739, 740, 741, 742, 743, 744, 745, 746, 747, 748, 749, 750, 751, 752, 753, 754, 755, 756, 757, 758, 759, 760, 761, 762, 763, 764, 765] (by decide +kernel) (by decide +kernel)
set_option maxRecDepth 20000 in
theorem gL_law_X3_city : GoodIn wsL_law (wsV RL 30 RX3 yX3_city wsX3_city) := goodIn_app (goodIn_of _ (by decide +kernel)) ggL_law_X3_city
set_option maxRecDepth 20000 in
theorem ggL_law_X2_about : GoodIn wsL_law wsX2_about := goodIn_r _ [289, 17, 18, 22, 290, 291, 292, 293, 294, 295, 2, 296, 26, 297, 298, 299, 300, 301, 302, 303, 304, 305, 306, 307, 308, 716, 717, 718, 719, 720, 721, 722, 723, 724, 725, 768, 769, 770, 771, 772, 773, 774, 775, 776, 777, 778, 779, 780] (by decide +kernel) (by decide +kernel)
set_option maxRecDepth 20000 in
theorem gL_law_X2_about : GoodIn wsL_law (wsV RL 31 RX2 yX2_about wsX2_about) := goodIn_app (goodIn_of _ (by decide +kernel)) ggL_law_X2_about
set_option maxRecDepth 20000 in
theorem ggL_law_X3_about : GoodIn wsL_law wsX3_about := goodIn_r _ [312, 313, 314, 315, 5, 316, 279, 88, 89, 90, 317, 318, 319, 320, 51, 52, 53, 56, 280, 55, 321, 322, 323, 324, 325, 326, 327, 328, 329, 330, 331, 726, 727, 728, 729, 730, 731, 732, 733, 734, 735, 736, 737, 738, 739, 740, 741, 742, 743, 744, 745, 746, 747, 748, 749, 750, 751, 752, 753, 754, 755, 756, 757, 758, 759, 760, 761, 762, 763, 764, 765] (by decide +kernel) (by decide +kernel)
set_option maxRecDepth 20000 in
theorem gL_law_X3_about : GoodIn wsL_law (wsV RL 35 RX3 yX3_about wsX3_about) := goodIn_app (goodIn_of _ (by decide +kernel)) ggL_law_X3_about
set_option maxRecDepth 20000 in
theorem ggL_law_X2_as : GoodIn wsL_law wsX2_as := goodIn_r _ [335, 17, 293, 294, 295, 2, 296, 26, 76, 77, 78, 336, 337, 338, 716, 717, 718, 719, 720, 721, 722, 723, 724, 725] (by decide +kernel) (by decide +kernel)
set_option maxRecDepth 20000 in
theorem gL_law_X2_as : GoodIn wsL_law (wsV RL 36 RX2 yX2_as wsX2_as) := goodIn_app (goodIn_of _ (by decide +kernel)) ggL_law_X2_as
set_option maxRecDepth 20000 in
theorem ggL_law_X3_as : GoodIn wsL_law wsX3_as := goodIn_r _ [342, 51, 313, 314, 315, 5, 316, 279, 88, 89, 90, 726, 727, 728, 729, 730, 731, 732, 733, 734, 735, 736, 737, 738, 739, 740, 741, 742, 743, 744, 745, 746, 747, 748, 749, 750, 751, 752, 753, 754, 755, 756, 757, 758, 759, 760, 761, 762, 763, 764, 765] (by decide +kernel) (by decide +kernel)
set_option maxRecDepth 20000 in
theorem gL_law_X3_as : GoodIn wsL_law (wsV RL 39 RX3 yX3_as wsX3_as) := goodIn_app (goodIn_of _ (by decide +kernel)) ggL_law_X3_as
set_option maxRecDepth 20000 in
theorem ggL_law_X2_bring : GoodIn wsL_law wsX2_bring := goodIn_r _ [346, 22, 292, 290, 347, 293, 294, 295, 2, 296, 26, 76, 77, 78, 348, 349, 350, 351, 156, 153, 157, 352, 353, 354, 716, 717, 718, 719, 720, 721, 722, 723, 724, 725, 768, 769, 770, 771, 772, 773, 774, 775, 776, 777, 778, 779, 780] (by decide +kernel) (by decide +kernel)
set_option maxRecDepth 20000 in
theorem gL_law_X2_bring : GoodIn wsL_law (wsV RL 40 RX2 yX2_bring wsX2_bring) := goodIn_app (goodIn_of _ (by decide +kernel)) ggL_law_X2_bring
set_option maxRecDepth 20000 in
theorem ggL_law_X3_bring : GoodIn wsL_law wsX3_bring := goodIn_r _ [358, 55, 53, 284, 313, 314, 315, 5, 316, 279, 88, 89, 90, 359, 360, 361, 726, 727, 728, 729, 730, 731, 732, 733, 734, 735, 736, 737, 738, 739, 740, 741, 742, 743, 744, 745, 746, 747, 748, 749, 750, 751, 752, 753, 754, 755, 756, 757, 758, 759, 760, 761, 762, 763, 764, 765] (by decide +kernel) (by decide +kernel)
set_option maxRecDepth 20000 in
theorem gL_law_X3_bring : GoodIn wsL_law (wsV RL 43 RX3 yX3_bring wsX3_bring) := goodIn_app (goodIn_of _ (by decide +kernel)) ggL_law_X3_bring
set_option maxRecDepth 20000 in
theorem ggL_law_X2_tread : GoodIn wsL_law wsX2_tread := goodIn_r _ [365, 22, 291, 293, 294, 295, 2, 296, 26, 76, 77, 78, 716, 717, 718, 719, 720, 721, 722, 723, 724, 725, 768, 769, 770, 771, 772, 773, 774, 775, 776, 777, 778, 779, 780] (by decide +kernel) (by decide +kernel)
set_option maxRecDepth 20000 in
theorem gL_law_X2_tread : GoodIn wsL_law (wsV RL 44 RX2 yX2_tread wsX2_tread) := goodIn_app (goodIn_of _ (by decide +kernel)) ggL_law_X2_tread
set_option maxRecDepth 20000 in
theorem ggL_law_X3_tread : GoodIn wsL_law wsX3_tread := goodIn_r _ [369, 56, 313, 314, 315, 5, 316, 279, 88, 89, 90, 726, 727, 728, 729, 730, 731, 732, 733, 734, 735, 736, 737, 738, 739, 740, 741, 742, 743, 744, 745, 746, 747, 748, 749, 750, 751, 752, 753, 754, 755, 756, 757, 758, 759, 760, 761, 762, 763, 764, 765] (by decide +kernel) (by decide +kernel)
set_option maxRecDepth 20000 in
theorem gL_law_X3_tread : GoodIn wsL_law (wsV RL 47 RX3 yX3_tread wsX3_tread) := goodIn_app (goodIn_of _ (by decide +kernel)) ggL_law_X3_tread
set_option maxRecDepth 20000 in
theorem ggL_law_X2_sun : GoodIn wsL_law wsX2_sun := goodIn_r _ [373, 26, 22, 301, 76, 77, 2, 78, 716, 717, 718, 719, 720, 721, 722, 723, 724, 725, 768, 769, 770, 771, 772, 773, 774, 775, 776, 777, 778, 779, 780] (by decide +kernel) (by decide +kernel)
set_option maxRecDepth 20000 in
theorem gL_law_X2_sun : GoodIn wsL_law (wsV RL 48 RX2 yX2_sun wsX2_sun) := goodIn_app (goodIn_of _ (by decide +kernel)) ggL_law_X2_sun
set_option maxRecDepth 20000 in
theorem ggL_law_X3_sun : GoodIn wsL_law wsX3_sun := goodIn_r _ [377, 279, 280, 88, 89, 5, 90, 726, 727, 728, 729, 730, 731, 732, 733, 734, 735, 736, 737, 738, 739, 740, 741, 742, 743, 744, 745, 746, 747, 748, 749, 750, 751, 752, 753, 754, 755, 756, 757, 758, 759, 760, 761, 762, 763, 764, 765] (by decide +kernel) (by decide +kernel)
set_option maxRecDepth 20000 in
theorem gL_law_X3_sun : GoodIn wsL_law (wsV RL 51 RX3 yX3_sun wsX3_sun) := goodIn_app (goodIn_of _ (by decide +kernel)) ggL_law_X3_sun
set_option maxRecDepth 20000 in
theorem ggL_law_X2_day : GoodIn wsL_law wsX2_day := goodIn_r _ [381, 26, 22, 290, 301, 382, 383, 384, 2, 385, 17, 291, 302, 303, 304, 386, 387, 388, 389, 390, 391, 392, 305, 306, 307, 308, 18, 393, 394, 395, 21, 396, 270, 273, 40, 39, 42, 716, 717, 718, 719, 720, 721, 722, 723, 724, 725, 768, 769, 770, 771, 772, 773, 774, 775, 776, 777, 778, 779, 780] (by decide +kernel) (by decide +kernel)
set_option maxRecDepth 20000 in
theorem gL_law_X2_day : GoodIn wsL_law (wsV RL 52 RX2 yX2_day wsX2_day) := goodIn_app (goodIn_of _ (by decide +kernel)) ggL_law_X2_day
set_option maxRecDepth 20000 in
theorem ggL_law_X3_day : GoodIn wsL_law wsX3_day := goodIn_r _ [400, 279, 280, 54, 53, 55, 282, 283, 401, 402, 403, 5, 404, 321, 322, 323, 324, 56, 51, 325, 326, 327, 405, 406, 407, 408, 328, 329, 330, 331, 52, 726, 727, 728, 729, 730, 731, 732, 733, 734, 735, 736, 737, 738, 739, 740, 741, 742, 743, 744, 745, 746, 747, 748, 749, 750, 751, 752, 753, 754, 755, 756, 757, 758, 759, 760, 761, 762, 763, 764, 765] (by decide +kernel) (by decide +kernel)
set_option maxRecDepth 20000 in
theorem gL_law_X3_day : GoodIn wsL_law (wsV RL 55 RX3 yX3_day wsX3_day) := goodIn_app (goodIn_of _ (by decide +kernel)) ggL_law_X3_day
set_option maxRecDepth 20000 in
theorem ggL_law_X2_need : GoodIn wsL_law wsX2_need := goodIn_r _ [412, 293, 294, 295, 2, 296, 26, 76, 77, 78, 413, 414, 415, 416, 18, 22, 290, 417, 152, 153, 154, 297, 298, 299, 300, 17, 301, 291, 302, 303, 304, 716, 717, 718, 719, 720, 721, 722, 723, 724, 725, 768, 769, 770, 771, 772, 773, 774, 775, 776, 777, 778, 779, 780] (by decide +kernel) (by decide +kernel)
set_option maxRecDepth 20000 in
theorem gL_law_X2_need : GoodIn wsL_law (wsV RL 56 RX2 yX2_need wsX2_need) := goodIn_app (goodIn_of _ (by decide +kernel)) ggL_law_X2_need
set_option maxRecDepth 20000 in
theorem ggL_law_X3_need : GoodIn wsL_law wsX3_need := goodIn_r _ [421, 313, 314, 315, 5, 316, 279, 88, 89, 90, 422, 423, 424, 425, 426, 427, 428, 429, 53, 280, 359, 360, 361, 328, 329, 330, 331, 52, 321, 322, 323, 324, 56, 51, 325, 326, 327, 726, 727, 728, 729, 730, 731, 732, 733, 734, 735, 736, 737, 738, 739, 740, 741, 742, 743, 744, 745, 746, 747, 748, 749, 750, 751, 752, 753, 754, 755, 756, 757, 758, 759, 760, 761, 762, 763, 764, 765] (by decide +kernel) (by decide +kernel)
set_option maxRecDepth 20000 in
theorem gL_law_X3_need : GoodIn wsL_law (wsV RL 59 RX3 yX3_need wsX3_need) := goodIn_app (goodIn_of _ (by decide +kernel)) ggL_law_X3_need
set_option maxRecDepth 20000 in
theorem ggL_law_X2_plan : GoodIn wsL_law wsX2_plan := goodIn_r _ [433, 26, 76, 77, 2, 78, 434, 435, 436, 437, 25, 413, 414, 415, 416, 18, 22, 290, 417, 152, 153, 154, 297, 298, 299, 300, 17, 301, 291, 302, 303, 304, 438, 439, 440, 441, 442, 443, 444, 445, 446, 447, 448, 449, 450, 451, 452, 453, 454, 455, 456, 457, 458, 459, 460, 461, 462, 463, 352, 353, 354, 716, 717, 718, 719, 720, 721, 722, 723, 724, 725, 768, 769, 770, 771, 772, 773, 774, 775, 776, 777, 778, 779, 780] (by decide +kernel) (by decide +kernel)
set_option maxRecDepth 20000 in
theorem gL_law_X2_plan : GoodIn wsL_law (wsV RL 60 RX2 yX2_plan wsX2_plan) := goodIn_app (goodIn_of _ (by decide +kernel)) ggL_law_X2_plan
set_option maxRecDepth 20000 in
theorem ggL_law_X3_plan : GoodIn wsL_law wsX3_plan := goodIn_r _ [467, 279, 88, 89, 5, 90, 468, 469, 470, 471, 62, 472, 473, 422, 423, 424, 425, 426, 427, 428, 429, 53, 280, 359, 360, 361, 328, 329, 330, 331, 52, 321, 322, 323, 324, 56, 51, 325, 326, 327, 474, 475, 476, 477, 478, 479, 480, 481, 482, 483, 726, 727, 728, 729, 730, 731, 732, 733, 734, 735, 736, 737, 738, 739, 740, 741, 742, 743, 744, 745, 746, 747, 748, 749, 750, 751, 752, 753, 754, 755, 756, 757, 758, 759, 760, 761, 762, 763, 764, 765] (by decide +kernel) (by decide +kernel)
set_option maxRecDepth 20000 in
theorem gL_law_X3_plan : GoodIn wsL_law (wsV RL 64 RX3 yX3_plan wsX3_plan) := goodIn_app (goodIn_of _ (by decide +kernel)) ggL_law_X3_plan
set_option maxRecDepth 20000 in
theorem ggL_law_X2_error : GoodIn wsL_law wsX2_error := goodIn_r _ [487, 26, 76, 77, 2, 78, 488, 489, 490, 491, 22, 290, 389, 390, 391, 392, 305, 306, 307, 308, 18, 492, 493, 494, 495, 496, 497, 498, 499, 500, 292, 293, 294, 295, 296, 348, 349, 350, 351, 156, 153, 157, 716, 717, 718, 719, 720, 721, 722, 723, 724, 725, 768, 769, 770, 771, 772, 773, 774, 775, 776, 777, 778, 779, 780] (by decide +kernel) (by decide +kernel)
set_option maxRecDepth 20000 in
theorem gL_law_X2_error : GoodIn wsL_law (wsV RL 65 RX2 yX2_error wsX2_error) := goodIn_app (goodIn_of _ (by decide +kernel)) ggL_law_X2_error
set_option maxRecDepth 20000 in
theorem ggL_law_X3_error : GoodIn wsL_law wsX3_error := goodIn_r _ [504, 279, 88, 89, 5, 90, 505, 506, 507, 508, 405, 406, 407, 408, 53, 328, 329, 330, 331, 52, 509, 510, 511, 512, 54, 55, 359, 360, 361, 726, 727, 728, 729, 730, 731, 732, 733, 734, 735, 736, 737, 738, 739, 740, 741, 742, 743, 744, 745, 746, 747, 748, 749, 750, 751, 752, 753, 754, 755, 756, 757, 758, 759, 760, 761, 762, 763, 764, 765] (by decide +kernel) (by decide +kernel)
set_option maxRecDepth 20000 in
theorem gL_law_X3_error : GoodIn wsL_law (wsV RL 68 RX3 yX3_error wsX3_error) := goodIn_app (goodIn_of _ (by decide +kernel)) ggL_law_X3_error
set_option maxRecDepth 20000 in
theorem ggL_law_X2_found : GoodIn wsL_law wsX2_found := goodIn_r _ [516, 22, 17, 291, 517, 293, 294, 295, 2, 296, 26, 76, 77, 78, 518, 519, 520, 21, 521, 274, 43, 44, 45, 46, 716, 717, 718, 719, 720, 721, 722, 723, 724, 725, 768, 769, 770, 771, 772, 773, 774, 775, 776, 777, 778, 779, 780] (by decide +kernel) (by decide +kernel)
set_option maxRecDepth 20000 in
theorem gL_law_X2_found : GoodIn wsL_law (wsV RL 69 RX2 yX2_found wsX2_found) := goodIn_app (goodIn_of _ (by decide +kernel)) ggL_law_X2_found
set_option maxRecDepth 20000 in
theorem ggL_law_X3_found : GoodIn wsL_law wsX3_found := goodIn_r _ [525, 285, 57, 58, 59, 313, 314, 315, 5, 316, 279, 88, 89, 90, 726, 727, 728, 729, 730, 731, 732, 733, 734, 735, 736, 737, 738, 739, 740, 741, 742, 743, 744, 745, 746, 747, 748, 749, 750, 751, 752, 753, 754, 755, 756, 757, 758, 759, 760, 761, 762, 763, 764, 765] (by decide +kernel) (by decide +kernel)
set_option maxRecDepth 20000 in
theorem gL_law_X3_found : GoodIn wsL_law (wsV RL 72 RX3 yX3_found wsX3_found) := goodIn_app (goodIn_of _ (by decide +kernel)) ggL_law_X3_found
set_option maxRecDepth 20000 in
theorem ggL_law_X2_forget : GoodIn wsL_law wsX2_forget := goodIn_r _ [529, 22, 517, 716, 717, 718, 719, 720, 721, 722, 723, 724, 725, 768, 769, 770, 771, 772, 773, 774, 775, 776, 777, 778, 779, 780] (by decide +kernel) (by decide +kernel)
set_option maxRecDepth 20000 in
theorem gL_law_X2_forget : GoodIn wsL_law (wsV RL 73 RX2 yX2_forget wsX2_forget) := goodIn_app (goodIn_of _ (by decide +kernel)) ggL_law_X2_forget
set_option maxRecDepth 20000 in
theorem ggL_law_X3_forget : GoodIn wsL_law wsX3_forget := goodIn_r _ [533, 285, 726, 727, 728, 729, 730, 731, 732, 733, 734, 735, 736, 737, 738, 739, 740, 741, 742, 743, 744, 745, 746, 747, 748, 749, 750, 751, 752, 753, 754, 755, 756, 757, 758, 759, 760, 761, 762, 763, 764, 765] (by decide +kernel) (by decide +kernel)
set_option maxRecDepth 20000 in
theorem gL_law_X3_forget : GoodIn wsL_law (wsV RL 76 RX3 yX3_forget wsX3_forget) := goodIn_app (goodIn_of _ (by decide +kernel)) ggL_law_X3_forget
set_option maxRecDepth 20000 in
theorem ggL_law_X2_suns : GoodIn wsL_law wsX2_suns := goodIn_r _ [537, 26, 538, 539, 540, 2, 541, 542, 543, 544, 545, 22, 517, 546, 547, 548, 549, 302, 303, 304, 386, 387, 388, 716, 717, 718, 719, 720, 721, 722, 723, 724, 725, 768, 769, 770, 771, 772, 773, 774, 775, 776, 777, 778, 779, 780] (by decide +kernel) (by decide +kernel)
set_option maxRecDepth 20000 in
theorem gL_law_X2_suns : GoodIn wsL_law (wsV RL 77 RX2 yX2_suns wsX2_suns) := goodIn_app (goodIn_of _ (by decide +kernel)) ggL_law_X2_suns
set_option maxRecDepth 20000 in
theorem ggL_law_X3_suns : GoodIn wsL_law wsX3_suns := goodIn_r _ [553, 279, 554, 555, 556, 5, 557, 285, 57, 58, 59, 558, 559, 560, 561, 321, 322, 323, 324, 56, 51, 325, 326, 327, 726, 727, 728, 729, 730, 731, 732, 733, 734, 735, 736, 737, 738, 739, 740, 741, 742, 743, 744, 745, 746, 747, 748, 749, 750, 751, 752, 753, 754, 755, 756, 757, 758, 759, 760, 761, 762, 763, 764, 765] (by decide +kernel) (by decide +kernel)
set_option maxRecDepth 20000 in
theorem gL_law_X3_suns : GoodIn wsL_law (wsV RL 80 RX3 yX3_suns wsX3_suns) := goodIn_app (goodIn_of _ (by decide +kernel)) ggL_law_X3_suns
set_option maxRecDepth 20000 in
theorem ggL_law_X2_look : GoodIn wsL_law wsX2_look := goodIn_r _ [565, 26, 538, 539, 540, 2, 541, 542, 543, 544, 545, 22, 517, 546, 547, 548, 549, 302, 303, 304, 386, 387, 388, 566, 567, 568, 569, 570, 571, 572, 573, 417, 152, 153, 154, 446, 447, 448, 574, 575, 576, 577, 578, 579, 580, 581, 17, 291, 293, 294, 295, 296, 716, 717, 718, 719, 720, 721, 722, 723, 724, 725, 768, 769, 770, 771, 772, 773, 774, 775, 776, 777, 778, 779, 780] (by decide +kernel) (by decide +kernel)
set_option maxRecDepth 20000 in
theorem gL_law_X2_look : GoodIn wsL_law (wsV RL 81 RX2 yX2_look wsX2_look) := goodIn_app (goodIn_of _ (by decide +kernel)) ggL_law_X2_look
set_option maxRecDepth 20000 in
theorem ggL_law_X3_look : GoodIn wsL_law wsX3_look := goodIn_r _ [585, 279, 586, 587, 588, 5, 589, 590, 554, 555, 556, 557, 285, 57, 58, 59, 558, 559, 560, 561, 321, 322, 323, 324, 56, 51, 325, 326, 327, 591, 592, 593, 594, 478, 479, 480, 726, 727, 728, 729, 730, 731, 732, 733, 734, 735, 736, 737, 738, 739, 740, 741, 742, 743, 744, 745, 746, 747, 748, 749, 750, 751, 752, 753, 754, 755, 756, 757, 758, 759, 760, 761, 762, 763, 764, 765] (by decide +kernel) (by decide +kernel)
set_option maxRecDepth 20000 in
theorem gL_law_X3_look : GoodIn wsL_law (wsV RL 84 RX3 yX3_look wsX3_look) := goodIn_app (goodIn_of _ (by decide +kernel)) ggL_law_X3_look
set_option maxRecDepth 20000 in
theorem ggL_law_X2_winters : GoodIn wsL_law wsX2_winters := goodIn_r _ [598, 26, 22, 290, 24, 599, 600, 601, 602, 76, 77, 2, 78, 603, 604, 605, 606, 607, 608, 609, 610, 611, 612, 613, 614, 615, 616, 293, 294, 295, 296, 348, 349, 350, 351, 156, 153, 157, 382, 383, 384, 385, 17, 291, 302, 303, 304, 386, 387, 388, 389, 390, 391, 392, 305, 306, 307, 308, 18, 617, 618, 619, 620, 716, 717, 718, 719, 720, 721, 722, 723, 724, 725, 768, 769, 770, 771, 772, 773, 774, 775, 776, 777, 778, 779, 780] (by decide +kernel) (by decide +kernel)
set_option maxRecDepth 20000 in
theorem gL_law_X2_winters : GoodIn wsL_law (wsV RL 85 RX2 yX2_winters wsX2_winters) := goodIn_app (goodIn_of _ (by decide +kernel)) ggL_law_X2_winters
set_option maxRecDepth 20000 in
theorem ggL_law_X3_winters : GoodIn wsL_law wsX3_winters := goodIn_r _ [624, 279, 88, 89, 5, 90, 625, 626, 627, 628, 63, 53, 629, 630, 631, 632, 633, 634, 635, 636, 637, 359, 360, 361, 401, 402, 403, 404, 321, 322, 323, 324, 56, 51, 325, 326, 327, 405, 406, 407, 408, 328, 329, 330, 331, 52, 638, 639, 640, 641, 726, 727, 728, 729, 730, 731, 732, 733, 734, 735, 736, 737, 738, 739, 740, 741, 742, 743, 744, 745, 746, 747, 748, 749, 750, 751, 752, 753, 754, 755, 756, 757, 758, 759, 760, 761, 762, 763, 764, 765] (by decide +kernel) (by decide +kernel)
set_option maxRecDepth 20000 in
theorem gL_law_X3_winters : GoodIn wsL_law (wsV RL 88 RX3 yX3_winters wsX3_winters) := goodIn_app (goodIn_of _ (by decide +kernel)) ggL_law_X3_winters
set_option maxRecDepth 20000 in
theorem ggL_law_X2_image : GoodIn wsL_law wsX2_image := goodIn_r _ [645, 26, 23, 22, 28, 646, 647, 648, 649, 21, 650, 270, 271, 272, 273, 274, 39, 40, 41, 42, 43, 44, 45, 46, 651, 652, 653, 654, 156, 153, 157, 655, 600, 601, 602, 716, 717, 718, 719, 720, 721, 722, 723, 724, 725, 768, 769, 770, 771, 772, 773, 774, 775, 776, 777, 778, 779, 780] (by decide +kernel) (by decide +kernel)
set_option maxRecDepth 20000 in
theorem gL_law_X2_image : GoodIn wsL_law (wsV RL 89 RX2 yX2_image wsX2_image) := goodIn_app (goodIn_of _ (by decide +kernel)) ggL_law_X2_image
set_option maxRecDepth 20000 in
theorem ggL_law_X3_image : GoodIn wsL_law wsX3_image := goodIn_r _ [659, 279, 660, 281, 661, 280, 662, 282, 663, 283, 664, 284, 665, 285, 666, 64, 53, 65, 54, 66, 55, 67, 56, 68, 57, 69, 58, 70, 59, 726, 727, 728, 729, 730, 731, 732, 733, 734, 735, 736, 737, 738, 739, 740, 741, 742, 743, 744, 745, 746, 747, 748, 749, 750, 751, 752, 753, 754, 755, 756, 757, 758, 759, 760, 761, 762, 763, 764, 765] (by decide +kernel) (by decide +kernel)
set_option maxRecDepth 20000 in
theorem gL_law_X3_image : GoodIn wsL_law (wsV RL 92 RX3 yX3_image wsX3_image) := goodIn_app (goodIn_of _ (by decide +kernel)) ggL_law_X3_image
set_option maxRecDepth 20000 in
theorem ggL_law_X2_restore : GoodIn wsL_law wsX2_restore := goodIn_r _ [670, 28, 22, 23, 646, 647, 648, 649, 21, 650, 270, 271, 272, 273, 274, 39, 40, 41, 42, 43, 44, 45, 46, 651, 652, 653, 654, 156, 153, 157, 655, 600, 601, 602, 716, 717, 718, 719, 720, 721, 722, 723, 724, 725, 768, 769, 770, 771, 772, 773, 774, 775, 776, 777, 778, 779, 780] (by decide +kernel) (by decide +kernel)
set_option maxRecDepth 20000 in
theorem gL_law_X2_restore : GoodIn wsL_law (wsV RL 93 RX2 yX2_restore wsX2_restore) := goodIn_app (goodIn_of _ (by decide +kernel)) ggL_law_X2_restore
set_option maxRecDepth 20000 in
theorem ggL_law_X3_restore : GoodIn wsL_law wsX3_restore := goodIn_r _ [674, 660, 661, 281, 662, 280, 663, 282, 664, 283, 665, 284, 666, 285, 53, 64, 54, 65, 55, 66, 56, 67, 57, 68, 58, 69, 59, 70, 726, 727, 728, 729, 730, 731, 732, 733, 734, 735, 736, 737, 738, 739, 740, 741, 742, 743, 744, 745, 746, 747, 748, 749, 750, 751, 752, 753, 754, 755, 756, 757, 758, 759, 760, 761, 762, 763, 764, 765] (by decide +kernel) (by decide +kernel)
set_option maxRecDepth 20000 in
theorem gL_law_X3_restore : GoodIn wsL_law (wsV RL 96 RX3 yX3_restore wsX3_restore) := goodIn_app (goodIn_of _ (by decide +kernel)) ggL_law_X3_restore
set_option maxRecDepth 20000 in
theorem ggL_law_X2_count : GoodIn wsL_law wsX2_count := goodIn_r _ [678, 26, 22, 301, 646, 290, 679, 347, 517, 15, 75, 27, 617, 618, 619, 2, 620, 389, 390, 391, 392, 305, 306, 307, 308, 18, 716, 717, 718, 719, 720, 721, 722, 723, 724, 725, 768, 769, 770, 771, 772, 773, 774, 775, 776, 777, 778, 779, 780, 766, 767] (by decide +kernel) (by decide +kernel)
set_option maxRecDepth 20000 in
theorem gL_law_X2_count : GoodIn wsL_law (wsV RL 97 RX2 yX2_count wsX2_count) := goodIn_app (goodIn_of _ (by decide +kernel)) ggL_law_X2_count
set_option maxRecDepth 20000 in
theorem ggL_law_X3_count : GoodIn wsL_law wsX3_count := goodIn_r _ [683, 684, 685, 686, 5, 687, 279, 280, 282, 283, 284, 285, 87, 281, 638, 639, 640, 641, 53, 405, 406, 407, 408, 328, 329, 330, 331, 52, 726, 727, 728, 729, 730, 731, 732, 733, 734, 735, 736, 737, 738, 739, 740, 741, 742, 743, 744, 745, 746, 747, 748, 749, 750, 751, 752, 753, 754, 755, 756, 757, 758, 759, 760, 761, 762, 763, 764, 765] (by decide +kernel) (by decide +kernel)
set_option maxRecDepth 20000 in
theorem gL_law_X3_count : GoodIn wsL_law (wsV RL 100 RX3 yX3_count wsX3_count) := goodIn_app (goodIn_of _ (by decide +kernel)) ggL_law_X3_count
set_option maxRecDepth 20000 in
theorem ggL_law_X2_digest : GoodIn wsL_law wsX2_digest := goodIn_r _ [691, 692, 26, 15, 75, 693, 287, 288, 2, 289, 17, 18, 22, 290, 291, 292, 293, 294, 295, 296, 297, 298, 299, 300, 301, 302, 303, 304, 305, 306, 307, 308, 694, 695, 696, 697, 698, 410, 411, 412, 76, 77, 78, 413, 414, 415, 416, 417, 152, 153, 154, 699, 431, 432, 433, 434, 435, 436, 437, 25, 438, 439, 440, 441, 442, 443, 444, 445, 446, 447, 448, 449, 450, 451, 452, 453, 454, 455, 456, 457, 458, 459, 460, 461, 462, 463, 352, 353, 354, 700, 485, 486, 487, 488, 489, 490, 491, 389, 390, 391, 392, 492, 493, 494, 495, 496, 497, 498, 499, 500, 348, 349, 350, 351, 156, 157, 701, 535, 536, 537, 538, 539, 540, 541, 542, 543, 544, 545, 517, 546, 547, 548, 549, 386, 387, 388, 702, 563, 564, 565, 566, 567, 568, 569, 570, 571, 572, 573, 574, 575, 576, 577, 578, 579, 580, 581, 703, 120, 121, 14, 122, 33, 704, 676, 677, 678, 646, 679, 347, 27, 617, 618, 619, 620, 716, 717, 718, 719, 720, 721, 722, 723, 724, 725, 766, 767, 768, 769, 770, 771, 772, 773, 774, 775, 776, 777, 778, 779, 780] (by decide +kernel) (by decide +kernel)
set_option maxRecDepth 20000 in
theorem gL_law_X2_digest : GoodIn wsL_law (wsV RL 101 RX2 yX2_digest wsX2_digest) := goodIn_app (goodIn_of _ (by decide +kernel)) ggL_law_X2_digest
set_option maxRecDepth 20000 in
theorem ggL_law_X3_digest : GoodIn wsL_law wsX3_digest := goodIn_r _ [708, 709, 710, 279, 87, 61, 317, 318, 319, 5, 320, 51, 52, 53, 56, 280, 55, 321, 322, 323, 324, 325, 326, 327, 328, 329, 330, 331, 711, 712, 713, 714, 715, 422, 423, 424, 425, 426, 427, 428, 429, 359, 360, 361, 468, 469, 470, 471, 62, 472, 473, 474, 475, 476, 477, 478, 479, 480, 481, 482, 483, 505, 506, 507, 508, 405, 406, 407, 408, 509, 510, 511, 512, 54, 554, 555, 556, 557, 285, 57, 58, 59, 558, 559, 560, 561, 586, 587, 588, 589, 590, 591, 592, 593, 594, 684, 685, 686, 687, 282, 283, 284, 281, 638, 639, 640, 641, 726, 727, 728, 729, 730, 731, 732, 733, 734, 735, 736, 737, 738, 739, 740, 741, 742, 743, 744, 745, 746, 747, 748, 749, 750, 751, 752, 753, 754, 755, 756, 757, 758, 759, 760, 761, 762, 763, 764, 765] (by decide +kernel) (by decide +kernel)
set_option maxRecDepth 20000 in
theorem gL_law_X3_digest : GoodIn wsL_law (wsV RL 105 RX3 yX3_digest wsX3_digest) := goodIn_app (goodIn_of _ (by decide +kernel)) ggL_law_X3_digest
theorem dL_law_0 : decode cL_law 0 = .ok (.new 7, 3) := by decide +kernel
theorem dL_law_3 : decode cL_law 3 = .ok (.dup, 1) := by decide +kernel
theorem dL_law_4 : decode cL_law 4 = .ok (.invokespecial 9, 3) := by decide +kernel
theorem dL_law_7 : decode cL_law 7 = .ok (.astore_n 1, 1) := by decide +kernel
theorem dL_law_8 : decode cL_law 8 = .ok (.new 10, 3) := by decide +kernel
theorem dL_law_11 : decode cL_law 11 = .ok (.dup, 1) := by decide +kernel
theorem dL_law_12 : decode cL_law 12 = .ok (.invokespecial 12, 3) := by decide +kernel
theorem dL_law_15 : decode cL_law 15 = .ok (.astore_n 2, 1) := by decide +kernel
theorem dL_law_16 : decode cL_law 16 = .ok (.iconst 0, 1) := by decide +kernel
theorem dL_law_17 : decode cL_law 17 = .ok (.istore_n 3, 1) := by decide +kernel
theorem dL_law_18 : decode cL_law 18 = .ok (.iload_n 3, 1) := by decide +kernel
theorem dL_law_19 : decode cL_law 19 = .ok (.aload_n 0, 1) := by decide +kernel
theorem dL_law_20 : decode cL_law 20 = .ok (.arraylength, 1) := by decide +kernel
theorem dL_law_21 : decode cL_law 21 = .ok (.iconst 4, 1) := by decide +kernel
theorem dL_law_22 : decode cL_law 22 = .ok (.isub, 1) := by decide +kernel
theorem dL_law_23 : decode cL_law 23 = .ok (.if_icmp .gt 635, 3) := by decide +kernel
theorem dL_law_26 : decode cL_law 26 = .ok (.aload_n 0, 1) := by decide +kernel
theorem dL_law_27 : decode cL_law 27 = .ok (.iload_n 3, 1) := by decide +kernel
theorem dL_law_28 : decode cL_law 28 = .ok (.iaload, 1) := by decide +kernel
theorem dL_law_29 : decode cL_law 29 = .ok (.bipush 31, 2) := by decide +kernel
theorem dL_law_31 : decode cL_law 31 = .ok (.iand, 1) := by decide +kernel
theorem dL_law_32 : decode cL_law 32 = .ok (.tableswitch 620 0 21 #[104, 127, 140, 153, 166, 199, 232, 265, 298, 321, 334, 367, 410, 433, 476, 489, 502, 515, 558, 571, 584, 607], 104) := by decide +kernel
theorem dL_law_136 : decode cL_law 136 = .ok (.aload_n 1, 1) := by decide +kernel
theorem dL_law_137 : decode cL_law 137 = .ok (.aload_n 0, 1) := by decide +kernel
theorem dL_law_138 : decode cL_law 138 = .ok (.iload_n 3, 1) := by decide +kernel
theorem dL_law_139 : decode cL_law 139 = .ok (.iconst 1, 1) := by decide +kernel
theorem dL_law_140 : decode cL_law 140 = .ok (.iadd, 1) := by decide +kernel
theorem dL_law_141 : decode cL_law 141 = .ok (.iaload, 1) := by decide +kernel
theorem dL_law_142 : decode cL_law 142 = .ok (.invokevirtual 13, 3) := by decide +kernel
theorem dL_law_145 : decode cL_law 145 = .ok (.aload_n 2, 1) := by decide +kernel
theorem dL_law_146 : decode cL_law 146 = .ok (.aload_n 0, 1) := by decide +kernel
theorem dL_law_147 : decode cL_law 147 = .ok (.iload_n 3, 1) := by decide +kernel
theorem dL_law_148 : decode cL_law 148 = .ok (.iconst 1, 1) := by decide +kernel
theorem dL_law_149 : decode cL_law 149 = .ok (.iadd, 1) := by decide +kernel
theorem dL_law_150 : decode cL_law 150 = .ok (.iaload, 1) := by decide +kernel
theorem dL_law_151 : decode cL_law 151 = .ok (.invokevirtual 17, 3) := by decide +kernel
theorem dL_law_154 : decode cL_law 154 = .ok (.if_icmp .eq 498, 3) := by decide +kernel
theorem dL_law_157 : decode cL_law 157 = .ok (.iconst 0, 1) := by decide +kernel
theorem dL_law_158 : decode cL_law 158 = .ok (.ireturn, 1) := by decide +kernel
theorem dL_law_159 : decode cL_law 159 = .ok (.aload_n 1, 1) := by decide +kernel
theorem dL_law_160 : decode cL_law 160 = .ok (.invokevirtual 18, 3) := by decide +kernel
theorem dL_law_163 : decode cL_law 163 = .ok (.pop, 1) := by decide +kernel
theorem dL_law_164 : decode cL_law 164 = .ok (.aload_n 2, 1) := by decide +kernel
theorem dL_law_165 : decode cL_law 165 = .ok (.invokevirtual 22, 3) := by decide +kernel
theorem dL_law_168 : decode cL_law 168 = .ok (.pop, 1) := by decide +kernel
theorem dL_law_169 : decode cL_law 169 = .ok (.goto 483, 3) := by decide +kernel
theorem dL_law_172 : decode cL_law 172 = .ok (.aload_n 1, 1) := by decide +kernel
theorem dL_law_173 : decode cL_law 173 = .ok (.invokevirtual 23, 3) := by decide +kernel
theorem dL_law_176 : decode cL_law 176 = .ok (.pop, 1) := by decide +kernel
theorem dL_law_177 : decode cL_law 177 = .ok (.aload_n 2, 1) := by decide +kernel
theorem dL_law_178 : decode cL_law 178 = .ok (.invokevirtual 26, 3) := by decide +kernel
theorem dL_law_181 : decode cL_law 181 = .ok (.pop, 1) := by decide +kernel
theorem dL_law_182 : decode cL_law 182 = .ok (.goto 470, 3) := by decide +kernel
theorem dL_law_185 : decode cL_law 185 = .ok (.aload_n 1, 1) := by decide +kernel
theorem dL_law_186 : decode cL_law 186 = .ok (.invokevirtual 27, 3) := by decide +kernel
theorem dL_law_189 : decode cL_law 189 = .ok (.pop, 1) := by decide +kernel
theorem dL_law_190 : decode cL_law 190 = .ok (.aload_n 2, 1) := by decide +kernel
theorem dL_law_191 : decode cL_law 191 = .ok (.invokevirtual 30, 3) := by decide +kernel
theorem dL_law_194 : decode cL_law 194 = .ok (.pop, 1) := by decide +kernel
theorem dL_law_195 : decode cL_law 195 = .ok (.goto 457, 3) := by decide +kernel
theorem dL_law_198 : decode cL_law 198 = .ok (.aload_n 1, 1) := by decide +kernel
theorem dL_law_199 : decode cL_law 199 = .ok (.aload_n 0, 1) := by decide +kernel
theorem dL_law_200 : decode cL_law 200 = .ok (.iload_n 3, 1) := by decide +kernel
theorem dL_law_201 : decode cL_law 201 = .ok (.iconst 1, 1) := by decide +kernel
theorem dL_law_202 : decode cL_law 202 = .ok (.iadd, 1) := by decide +kernel
theorem dL_law_203 : decode cL_law 203 = .ok (.iaload, 1) := by decide +kernel
theorem dL_law_204 : decode cL_law 204 = .ok (.aload_n 0, 1) := by decide +kernel
theorem dL_law_205 : decode cL_law 205 = .ok (.iload_n 3, 1) := by decide +kernel
theorem dL_law_206 : decode cL_law 206 = .ok (.iconst 2, 1) := by decide +kernel
theorem dL_law_207 : decode cL_law 207 = .ok (.iadd, 1) := by decide +kernel
theorem dL_law_208 : decode cL_law 208 = .ok (.iaload, 1) := by decide +kernel
theorem dL_law_209 : decode cL_law 209 = .ok (.invokevirtual 31, 3) := by decide +kernel
theorem dL_law_212 : decode cL_law 212 = .ok (.pop, 1) := by decide +kernel
theorem dL_law_213 : decode cL_law 213 = .ok (.aload_n 2, 1) := by decide +kernel
theorem dL_law_214 : decode cL_law 214 = .ok (.aload_n 0, 1) := by decide +kernel
theorem dL_law_215 : decode cL_law 215 = .ok (.iload_n 3, 1) := by decide +kernel
theorem dL_law_216 : decode cL_law 216 = .ok (.iconst 1, 1) := by decide +kernel
theorem dL_law_217 : decode cL_law 217 = .ok (.iadd, 1) := by decide +kernel
theorem dL_law_218 : decode cL_law 218 = .ok (.iaload, 1) := by decide +kernel
theorem dL_law_219 : decode cL_law 219 = .ok (.aload_n 0, 1) := by decide +kernel
theorem dL_law_220 : decode cL_law 220 = .ok (.iload_n 3, 1) := by decide +kernel
theorem dL_law_221 : decode cL_law 221 = .ok (.iconst 2, 1) := by decide +kernel
theorem dL_law_222 : decode cL_law 222 = .ok (.iadd, 1) := by decide +kernel
theorem dL_law_223 : decode cL_law 223 = .ok (.iaload, 1) := by decide +kernel
theorem dL_law_224 : decode cL_law 224 = .ok (.invokevirtual 35, 3) := by decide +kernel
theorem dL_law_227 : decode cL_law 227 = .ok (.pop, 1) := by decide +kernel
theorem dL_law_228 : decode cL_law 228 = .ok (.goto 424, 3) := by decide +kernel
theorem dL_law_231 : decode cL_law 231 = .ok (.aload_n 1, 1) := by decide +kernel
theorem dL_law_232 : decode cL_law 232 = .ok (.aload_n 0, 1) := by decide +kernel
theorem dL_law_233 : decode cL_law 233 = .ok (.iload_n 3, 1) := by decide +kernel
theorem dL_law_234 : decode cL_law 234 = .ok (.iconst 1, 1) := by decide +kernel
theorem dL_law_235 : decode cL_law 235 = .ok (.iadd, 1) := by decide +kernel
theorem dL_law_236 : decode cL_law 236 = .ok (.iaload, 1) := by decide +kernel
theorem dL_law_237 : decode cL_law 237 = .ok (.aload_n 0, 1) := by decide +kernel
theorem dL_law_238 : decode cL_law 238 = .ok (.iload_n 3, 1) := by decide +kernel
theorem dL_law_239 : decode cL_law 239 = .ok (.iconst 2, 1) := by decide +kernel
theorem dL_law_240 : decode cL_law 240 = .ok (.iadd, 1) := by decide +kernel
theorem dL_law_241 : decode cL_law 241 = .ok (.iaload, 1) := by decide +kernel
theorem dL_law_242 : decode cL_law 242 = .ok (.invokevirtual 36, 3) := by decide +kernel
theorem dL_law_245 : decode cL_law 245 = .ok (.pop, 1) := by decide +kernel
theorem dL_law_246 : decode cL_law 246 = .ok (.aload_n 2, 1) := by decide +kernel
theorem dL_law_247 : decode cL_law 247 = .ok (.aload_n 0, 1) := by decide +kernel
theorem dL_law_248 : decode cL_law 248 = .ok (.iload_n 3, 1) := by decide +kernel
theorem dL_law_249 : decode cL_law 249 = .ok (.iconst 1, 1) := by decide +kernel
theorem dL_law_250 : decode cL_law 250 = .ok (.iadd, 1) := by decide +kernel
theorem dL_law_251 : decode cL_law 251 = .ok (.iaload, 1) := by decide +kernel
theorem dL_law_252 : decode cL_law 252 = .ok (.aload_n 0, 1) := by decide +kernel
theorem dL_law_253 : decode cL_law 253 = .ok (.iload_n 3, 1) := by decide +kernel
theorem dL_law_254 : decode cL_law 254 = .ok (.iconst 2, 1) := by decide +kernel
theorem dL_law_255 : decode cL_law 255 = .ok (.iadd, 1) := by decide +kernel
theorem dL_law_256 : decode cL_law 256 = .ok (.iaload, 1) := by decide +kernel
theorem dL_law_257 : decode cL_law 257 = .ok (.invokevirtual 39, 3) := by decide +kernel
theorem dL_law_260 : decode cL_law 260 = .ok (.pop, 1) := by decide +kernel
theorem dL_law_261 : decode cL_law 261 = .ok (.goto 391, 3) := by decide +kernel
theorem dL_law_264 : decode cL_law 264 = .ok (.aload_n 1, 1) := by decide +kernel
theorem dL_law_265 : decode cL_law 265 = .ok (.aload_n 0, 1) := by decide +kernel
theorem dL_law_266 : decode cL_law 266 = .ok (.iload_n 3, 1) := by decide +kernel
theorem dL_law_267 : decode cL_law 267 = .ok (.iconst 1, 1) := by decide +kernel
theorem dL_law_268 : decode cL_law 268 = .ok (.iadd, 1) := by decide +kernel
theorem dL_law_269 : decode cL_law 269 = .ok (.iaload, 1) := by decide +kernel
theorem dL_law_270 : decode cL_law 270 = .ok (.aload_n 0, 1) := by decide +kernel
theorem dL_law_271 : decode cL_law 271 = .ok (.iload_n 3, 1) := by decide +kernel
theorem dL_law_272 : decode cL_law 272 = .ok (.iconst 2, 1) := by decide +kernel
theorem dL_law_273 : decode cL_law 273 = .ok (.iadd, 1) := by decide +kernel
theorem dL_law_274 : decode cL_law 274 = .ok (.iaload, 1) := by decide +kernel
theorem dL_law_275 : decode cL_law 275 = .ok (.invokevirtual 40, 3) := by decide +kernel
theorem dL_law_278 : decode cL_law 278 = .ok (.pop, 1) := by decide +kernel
theorem dL_law_279 : decode cL_law 279 = .ok (.aload_n 2, 1) := by decide +kernel
theorem dL_law_280 : decode cL_law 280 = .ok (.aload_n 0, 1) := by decide +kernel
theorem dL_law_281 : decode cL_law 281 = .ok (.iload_n 3, 1) := by decide +kernel
theorem dL_law_282 : decode cL_law 282 = .ok (.iconst 1, 1) := by decide +kernel
theorem dL_law_283 : decode cL_law 283 = .ok (.iadd, 1) := by decide +kernel
theorem dL_law_284 : decode cL_law 284 = .ok (.iaload, 1) := by decide +kernel
theorem dL_law_285 : decode cL_law 285 = .ok (.aload_n 0, 1) := by decide +kernel
theorem dL_law_286 : decode cL_law 286 = .ok (.iload_n 3, 1) := by decide +kernel
theorem dL_law_287 : decode cL_law 287 = .ok (.iconst 2, 1) := by decide +kernel
theorem dL_law_288 : decode cL_law 288 = .ok (.iadd, 1) := by decide +kernel
theorem dL_law_289 : decode cL_law 289 = .ok (.iaload, 1) := by decide +kernel
theorem dL_law_290 : decode cL_law 290 = .ok (.invokevirtual 43, 3) := by decide +kernel
theorem dL_law_293 : decode cL_law 293 = .ok (.pop, 1) := by decide +kernel
theorem dL_law_294 : decode cL_law 294 = .ok (.goto 358, 3) := by decide +kernel
theorem dL_law_297 : decode cL_law 297 = .ok (.aload_n 1, 1) := by decide +kernel
theorem dL_law_298 : decode cL_law 298 = .ok (.aload_n 0, 1) := by decide +kernel
theorem dL_law_299 : decode cL_law 299 = .ok (.iload_n 3, 1) := by decide +kernel
theorem dL_law_300 : decode cL_law 300 = .ok (.iconst 1, 1) := by decide +kernel
theorem dL_law_301 : decode cL_law 301 = .ok (.iadd, 1) := by decide +kernel
theorem dL_law_302 : decode cL_law 302 = .ok (.iaload, 1) := by decide +kernel
theorem dL_law_303 : decode cL_law 303 = .ok (.aload_n 0, 1) := by decide +kernel
theorem dL_law_304 : decode cL_law 304 = .ok (.iload_n 3, 1) := by decide +kernel
theorem dL_law_305 : decode cL_law 305 = .ok (.iconst 2, 1) := by decide +kernel
theorem dL_law_306 : decode cL_law 306 = .ok (.iadd, 1) := by decide +kernel
theorem dL_law_307 : decode cL_law 307 = .ok (.iaload, 1) := by decide +kernel
theorem dL_law_308 : decode cL_law 308 = .ok (.invokevirtual 44, 3) := by decide +kernel
theorem dL_law_311 : decode cL_law 311 = .ok (.pop, 1) := by decide +kernel
theorem dL_law_312 : decode cL_law 312 = .ok (.aload_n 2, 1) := by decide +kernel
theorem dL_law_313 : decode cL_law 313 = .ok (.aload_n 0, 1) := by decide +kernel
theorem dL_law_314 : decode cL_law 314 = .ok (.iload_n 3, 1) := by decide +kernel
theorem dL_law_315 : decode cL_law 315 = .ok (.iconst 1, 1) := by decide +kernel
theorem dL_law_316 : decode cL_law 316 = .ok (.iadd, 1) := by decide +kernel
theorem dL_law_317 : decode cL_law 317 = .ok (.iaload, 1) := by decide +kernel
theorem dL_law_318 : decode cL_law 318 = .ok (.aload_n 0, 1) := by decide +kernel
theorem dL_law_319 : decode cL_law 319 = .ok (.iload_n 3, 1) := by decide +kernel
theorem dL_law_320 : decode cL_law 320 = .ok (.iconst 2, 1) := by decide +kernel
theorem dL_law_321 : decode cL_law 321 = .ok (.iadd, 1) := by decide +kernel
theorem dL_law_322 : decode cL_law 322 = .ok (.iaload, 1) := by decide +kernel
theorem dL_law_323 : decode cL_law 323 = .ok (.invokevirtual 47, 3) := by decide +kernel
theorem dL_law_326 : decode cL_law 326 = .ok (.pop, 1) := by decide +kernel
theorem dL_law_327 : decode cL_law 327 = .ok (.goto 325, 3) := by decide +kernel
theorem dL_law_330 : decode cL_law 330 = .ok (.aload_n 1, 1) := by decide +kernel
theorem dL_law_331 : decode cL_law 331 = .ok (.aload_n 0, 1) := by decide +kernel
theorem dL_law_332 : decode cL_law 332 = .ok (.iload_n 3, 1) := by decide +kernel
theorem dL_law_333 : decode cL_law 333 = .ok (.iconst 1, 1) := by decide +kernel
theorem dL_law_334 : decode cL_law 334 = .ok (.iadd, 1) := by decide +kernel
theorem dL_law_335 : decode cL_law 335 = .ok (.iaload, 1) := by decide +kernel
theorem dL_law_336 : decode cL_law 336 = .ok (.invokevirtual 48, 3) := by decide +kernel
theorem dL_law_339 : decode cL_law 339 = .ok (.pop, 1) := by decide +kernel
theorem dL_law_340 : decode cL_law 340 = .ok (.aload_n 2, 1) := by decide +kernel
theorem dL_law_341 : decode cL_law 341 = .ok (.aload_n 0, 1) := by decide +kernel
theorem dL_law_342 : decode cL_law 342 = .ok (.iload_n 3, 1) := by decide +kernel
theorem dL_law_343 : decode cL_law 343 = .ok (.iconst 1, 1) := by decide +kernel
theorem dL_law_344 : decode cL_law 344 = .ok (.iadd, 1) := by decide +kernel
theorem dL_law_345 : decode cL_law 345 = .ok (.iaload, 1) := by decide +kernel
theorem dL_law_346 : decode cL_law 346 = .ok (.invokevirtual 51, 3) := by decide +kernel
theorem dL_law_349 : decode cL_law 349 = .ok (.pop, 1) := by decide +kernel
theorem dL_law_350 : decode cL_law 350 = .ok (.goto 302, 3) := by decide +kernel
theorem dL_law_353 : decode cL_law 353 = .ok (.aload_n 1, 1) := by decide +kernel
theorem dL_law_354 : decode cL_law 354 = .ok (.invokevirtual 52, 3) := by decide +kernel
theorem dL_law_357 : decode cL_law 357 = .ok (.pop, 1) := by decide +kernel
theorem dL_law_358 : decode cL_law 358 = .ok (.aload_n 2, 1) := by decide +kernel
theorem dL_law_359 : decode cL_law 359 = .ok (.invokevirtual 55, 3) := by decide +kernel
theorem dL_law_362 : decode cL_law 362 = .ok (.pop, 1) := by decide +kernel
theorem dL_law_363 : decode cL_law 363 = .ok (.goto 289, 3) := by decide +kernel
theorem dL_law_366 : decode cL_law 366 = .ok (.aload_n 1, 1) := by decide +kernel
theorem dL_law_367 : decode cL_law 367 = .ok (.aload_n 0, 1) := by decide +kernel
theorem dL_law_368 : decode cL_law 368 = .ok (.iload_n 3, 1) := by decide +kernel
theorem dL_law_369 : decode cL_law 369 = .ok (.iconst 1, 1) := by decide +kernel
theorem dL_law_370 : decode cL_law 370 = .ok (.iadd, 1) := by decide +kernel
theorem dL_law_371 : decode cL_law 371 = .ok (.iaload, 1) := by decide +kernel
theorem dL_law_372 : decode cL_law 372 = .ok (.aload_n 0, 1) := by decide +kernel
theorem dL_law_373 : decode cL_law 373 = .ok (.iload_n 3, 1) := by decide +kernel
theorem dL_law_374 : decode cL_law 374 = .ok (.iconst 2, 1) := by decide +kernel
theorem dL_law_375 : decode cL_law 375 = .ok (.iadd, 1) := by decide +kernel
theorem dL_law_376 : decode cL_law 376 = .ok (.iaload, 1) := by decide +kernel
theorem dL_law_377 : decode cL_law 377 = .ok (.invokevirtual 56, 3) := by decide +kernel
theorem dL_law_380 : decode cL_law 380 = .ok (.pop, 1) := by decide +kernel
theorem dL_law_381 : decode cL_law 381 = .ok (.aload_n 2, 1) := by decide +kernel
theorem dL_law_382 : decode cL_law 382 = .ok (.aload_n 0, 1) := by decide +kernel
theorem dL_law_383 : decode cL_law 383 = .ok (.iload_n 3, 1) := by decide +kernel
theorem dL_law_384 : decode cL_law 384 = .ok (.iconst 1, 1) := by decide +kernel
theorem dL_law_385 : decode cL_law 385 = .ok (.iadd, 1) := by decide +kernel
theorem dL_law_386 : decode cL_law 386 = .ok (.iaload, 1) := by decide +kernel
theorem dL_law_387 : decode cL_law 387 = .ok (.aload_n 0, 1) := by decide +kernel
theorem dL_law_388 : decode cL_law 388 = .ok (.iload_n 3, 1) := by decide +kernel
theorem dL_law_389 : decode cL_law 389 = .ok (.iconst 2, 1) := by decide +kernel
theorem dL_law_390 : decode cL_law 390 = .ok (.iadd, 1) := by decide +kernel
theorem dL_law_391 : decode cL_law 391 = .ok (.iaload, 1) := by decide +kernel
theorem dL_law_392 : decode cL_law 392 = .ok (.invokevirtual 59, 3) := by decide +kernel
theorem dL_law_395 : decode cL_law 395 = .ok (.pop, 1) := by decide +kernel
theorem dL_law_396 : decode cL_law 396 = .ok (.goto 256, 3) := by decide +kernel
theorem dL_law_399 : decode cL_law 399 = .ok (.aload_n 1, 1) := by decide +kernel
theorem dL_law_400 : decode cL_law 400 = .ok (.aload_n 0, 1) := by decide +kernel
theorem dL_law_401 : decode cL_law 401 = .ok (.iload_n 3, 1) := by decide +kernel
theorem dL_law_402 : decode cL_law 402 = .ok (.iconst 1, 1) := by decide +kernel
theorem dL_law_403 : decode cL_law 403 = .ok (.iadd, 1) := by decide +kernel
theorem dL_law_404 : decode cL_law 404 = .ok (.iaload, 1) := by decide +kernel
theorem dL_law_405 : decode cL_law 405 = .ok (.aload_n 0, 1) := by decide +kernel
theorem dL_law_406 : decode cL_law 406 = .ok (.iload_n 3, 1) := by decide +kernel
theorem dL_law_407 : decode cL_law 407 = .ok (.iconst 2, 1) := by decide +kernel
theorem dL_law_408 : decode cL_law 408 = .ok (.iadd, 1) := by decide +kernel
theorem dL_law_409 : decode cL_law 409 = .ok (.iaload, 1) := by decide +kernel
theorem dL_law_410 : decode cL_law 410 = .ok (.aload_n 0, 1) := by decide +kernel
theorem dL_law_411 : decode cL_law 411 = .ok (.iload_n 3, 1) := by decide +kernel
theorem dL_law_412 : decode cL_law 412 = .ok (.iconst 3, 1) := by decide +kernel
theorem dL_law_413 : decode cL_law 413 = .ok (.iadd, 1) := by decide +kernel
theorem dL_law_414 : decode cL_law 414 = .ok (.iaload, 1) := by decide +kernel
theorem dL_law_415 : decode cL_law 415 = .ok (.invokevirtual 60, 3) := by decide +kernel
theorem dL_law_418 : decode cL_law 418 = .ok (.pop, 1) := by decide +kernel
theorem dL_law_419 : decode cL_law 419 = .ok (.aload_n 2, 1) := by decide +kernel
theorem dL_law_420 : decode cL_law 420 = .ok (.aload_n 0, 1) := by decide +kernel
theorem dL_law_421 : decode cL_law 421 = .ok (.iload_n 3, 1) := by decide +kernel
theorem dL_law_422 : decode cL_law 422 = .ok (.iconst 1, 1) := by decide +kernel
theorem dL_law_423 : decode cL_law 423 = .ok (.iadd, 1) := by decide +kernel
theorem dL_law_424 : decode cL_law 424 = .ok (.iaload, 1) := by decide +kernel
theorem dL_law_425 : decode cL_law 425 = .ok (.aload_n 0, 1) := by decide +kernel
theorem dL_law_426 : decode cL_law 426 = .ok (.iload_n 3, 1) := by decide +kernel
theorem dL_law_427 : decode cL_law 427 = .ok (.iconst 2, 1) := by decide +kernel
theorem dL_law_428 : decode cL_law 428 = .ok (.iadd, 1) := by decide +kernel
theorem dL_law_429 : decode cL_law 429 = .ok (.iaload, 1) := by decide +kernel
theorem dL_law_430 : decode cL_law 430 = .ok (.aload_n 0, 1) := by decide +kernel
theorem dL_law_431 : decode cL_law 431 = .ok (.iload_n 3, 1) := by decide +kernel
theorem dL_law_432 : decode cL_law 432 = .ok (.iconst 3, 1) := by decide +kernel
theorem dL_law_433 : decode cL_law 433 = .ok (.iadd, 1) := by decide +kernel
theorem dL_law_434 : decode cL_law 434 = .ok (.iaload, 1) := by decide +kernel
theorem dL_law_435 : decode cL_law 435 = .ok (.invokevirtual 64, 3) := by decide +kernel
theorem dL_law_438 : decode cL_law 438 = .ok (.pop, 1) := by decide +kernel
theorem dL_law_439 : decode cL_law 439 = .ok (.goto 213, 3) := by decide +kernel
theorem dL_law_442 : decode cL_law 442 = .ok (.aload_n 1, 1) := by decide +kernel
theorem dL_law_443 : decode cL_law 443 = .ok (.aload_n 0, 1) := by decide +kernel
theorem dL_law_444 : decode cL_law 444 = .ok (.iload_n 3, 1) := by decide +kernel
theorem dL_law_445 : decode cL_law 445 = .ok (.iconst 1, 1) := by decide +kernel
theorem dL_law_446 : decode cL_law 446 = .ok (.iadd, 1) := by decide +kernel
theorem dL_law_447 : decode cL_law 447 = .ok (.iaload, 1) := by decide +kernel
theorem dL_law_448 : decode cL_law 448 = .ok (.invokevirtual 65, 3) := by decide +kernel
theorem dL_law_451 : decode cL_law 451 = .ok (.pop, 1) := by decide +kernel
theorem dL_law_452 : decode cL_law 452 = .ok (.aload_n 2, 1) := by decide +kernel
theorem dL_law_453 : decode cL_law 453 = .ok (.aload_n 0, 1) := by decide +kernel
theorem dL_law_454 : decode cL_law 454 = .ok (.iload_n 3, 1) := by decide +kernel
theorem dL_law_455 : decode cL_law 455 = .ok (.iconst 1, 1) := by decide +kernel
theorem dL_law_456 : decode cL_law 456 = .ok (.iadd, 1) := by decide +kernel
theorem dL_law_457 : decode cL_law 457 = .ok (.iaload, 1) := by decide +kernel
theorem dL_law_458 : decode cL_law 458 = .ok (.invokevirtual 68, 3) := by decide +kernel
theorem dL_law_461 : decode cL_law 461 = .ok (.pop, 1) := by decide +kernel
theorem dL_law_462 : decode cL_law 462 = .ok (.goto 190, 3) := by decide +kernel
theorem dL_law_465 : decode cL_law 465 = .ok (.aload_n 1, 1) := by decide +kernel
theorem dL_law_466 : decode cL_law 466 = .ok (.aload_n 0, 1) := by decide +kernel
theorem dL_law_467 : decode cL_law 467 = .ok (.iload_n 3, 1) := by decide +kernel
theorem dL_law_468 : decode cL_law 468 = .ok (.iconst 1, 1) := by decide +kernel
theorem dL_law_469 : decode cL_law 469 = .ok (.iadd, 1) := by decide +kernel
theorem dL_law_470 : decode cL_law 470 = .ok (.iaload, 1) := by decide +kernel
theorem dL_law_471 : decode cL_law 471 = .ok (.aload_n 0, 1) := by decide +kernel
theorem dL_law_472 : decode cL_law 472 = .ok (.iload_n 3, 1) := by decide +kernel
theorem dL_law_473 : decode cL_law 473 = .ok (.iconst 2, 1) := by decide +kernel
theorem dL_law_474 : decode cL_law 474 = .ok (.iadd, 1) := by decide +kernel
theorem dL_law_475 : decode cL_law 475 = .ok (.iaload, 1) := by decide +kernel
theorem dL_law_476 : decode cL_law 476 = .ok (.aload_n 0, 1) := by decide +kernel
theorem dL_law_477 : decode cL_law 477 = .ok (.iload_n 3, 1) := by decide +kernel
theorem dL_law_478 : decode cL_law 478 = .ok (.iconst 3, 1) := by decide +kernel
theorem dL_law_479 : decode cL_law 479 = .ok (.iadd, 1) := by decide +kernel
theorem dL_law_480 : decode cL_law 480 = .ok (.iaload, 1) := by decide +kernel
theorem dL_law_481 : decode cL_law 481 = .ok (.invokevirtual 69, 3) := by decide +kernel
theorem dL_law_484 : decode cL_law 484 = .ok (.pop, 1) := by decide +kernel
theorem dL_law_485 : decode cL_law 485 = .ok (.aload_n 2, 1) := by decide +kernel
theorem dL_law_486 : decode cL_law 486 = .ok (.aload_n 0, 1) := by decide +kernel
theorem dL_law_487 : decode cL_law 487 = .ok (.iload_n 3, 1) := by decide +kernel
theorem dL_law_488 : decode cL_law 488 = .ok (.iconst 1, 1) := by decide +kernel
theorem dL_law_489 : decode cL_law 489 = .ok (.iadd, 1) := by decide +kernel
theorem dL_law_490 : decode cL_law 490 = .ok (.iaload, 1) := by decide +kernel
theorem dL_law_491 : decode cL_law 491 = .ok (.aload_n 0, 1) := by decide +kernel
theorem dL_law_492 : decode cL_law 492 = .ok (.iload_n 3, 1) := by decide +kernel
theorem dL_law_493 : decode cL_law 493 = .ok (.iconst 2, 1) := by decide +kernel
theorem dL_law_494 : decode cL_law 494 = .ok (.iadd, 1) := by decide +kernel
theorem dL_law_495 : decode cL_law 495 = .ok (.iaload, 1) := by decide +kernel
theorem dL_law_496 : decode cL_law 496 = .ok (.aload_n 0, 1) := by decide +kernel
theorem dL_law_497 : decode cL_law 497 = .ok (.iload_n 3, 1) := by decide +kernel
theorem dL_law_498 : decode cL_law 498 = .ok (.iconst 3, 1) := by decide +kernel
theorem dL_law_499 : decode cL_law 499 = .ok (.iadd, 1) := by decide +kernel
theorem dL_law_500 : decode cL_law 500 = .ok (.iaload, 1) := by decide +kernel
theorem dL_law_501 : decode cL_law 501 = .ok (.invokevirtual 72, 3) := by decide +kernel
theorem dL_law_504 : decode cL_law 504 = .ok (.pop, 1) := by decide +kernel
theorem dL_law_505 : decode cL_law 505 = .ok (.goto 147, 3) := by decide +kernel
theorem dL_law_508 : decode cL_law 508 = .ok (.aload_n 1, 1) := by decide +kernel
theorem dL_law_509 : decode cL_law 509 = .ok (.invokevirtual 73, 3) := by decide +kernel
theorem dL_law_512 : decode cL_law 512 = .ok (.pop, 1) := by decide +kernel
theorem dL_law_513 : decode cL_law 513 = .ok (.aload_n 2, 1) := by decide +kernel
theorem dL_law_514 : decode cL_law 514 = .ok (.invokevirtual 76, 3) := by decide +kernel
theorem dL_law_517 : decode cL_law 517 = .ok (.pop, 1) := by decide +kernel
theorem dL_law_518 : decode cL_law 518 = .ok (.goto 134, 3) := by decide +kernel
theorem dL_law_521 : decode cL_law 521 = .ok (.aload_n 1, 1) := by decide +kernel
theorem dL_law_522 : decode cL_law 522 = .ok (.invokevirtual 77, 3) := by decide +kernel
theorem dL_law_525 : decode cL_law 525 = .ok (.pop, 1) := by decide +kernel
theorem dL_law_526 : decode cL_law 526 = .ok (.aload_n 2, 1) := by decide +kernel
theorem dL_law_527 : decode cL_law 527 = .ok (.invokevirtual 80, 3) := by decide +kernel
theorem dL_law_530 : decode cL_law 530 = .ok (.pop, 1) := by decide +kernel
theorem dL_law_531 : decode cL_law 531 = .ok (.goto 121, 3) := by decide +kernel
theorem dL_law_534 : decode cL_law 534 = .ok (.aload_n 1, 1) := by decide +kernel
theorem dL_law_535 : decode cL_law 535 = .ok (.invokevirtual 81, 3) := by decide +kernel
theorem dL_law_538 : decode cL_law 538 = .ok (.pop, 1) := by decide +kernel
theorem dL_law_539 : decode cL_law 539 = .ok (.aload_n 2, 1) := by decide +kernel
theorem dL_law_540 : decode cL_law 540 = .ok (.invokevirtual 84, 3) := by decide +kernel
theorem dL_law_543 : decode cL_law 543 = .ok (.pop, 1) := by decide +kernel
theorem dL_law_544 : decode cL_law 544 = .ok (.goto 108, 3) := by decide +kernel
theorem dL_law_547 : decode cL_law 547 = .ok (.aload_n 1, 1) := by decide +kernel
theorem dL_law_548 : decode cL_law 548 = .ok (.aload_n 0, 1) := by decide +kernel
theorem dL_law_549 : decode cL_law 549 = .ok (.iload_n 3, 1) := by decide +kernel
theorem dL_law_550 : decode cL_law 550 = .ok (.iconst 1, 1) := by decide +kernel
theorem dL_law_551 : decode cL_law 551 = .ok (.iadd, 1) := by decide +kernel
theorem dL_law_552 : decode cL_law 552 = .ok (.iaload, 1) := by decide +kernel
theorem dL_law_553 : decode cL_law 553 = .ok (.aload_n 0, 1) := by decide +kernel
theorem dL_law_554 : decode cL_law 554 = .ok (.iload_n 3, 1) := by decide +kernel
theorem dL_law_555 : decode cL_law 555 = .ok (.iconst 2, 1) := by decide +kernel
theorem dL_law_556 : decode cL_law 556 = .ok (.iadd, 1) := by decide +kernel
theorem dL_law_557 : decode cL_law 557 = .ok (.iaload, 1) := by decide +kernel
theorem dL_law_558 : decode cL_law 558 = .ok (.aload_n 0, 1) := by decide +kernel
theorem dL_law_559 : decode cL_law 559 = .ok (.iload_n 3, 1) := by decide +kernel
theorem dL_law_560 : decode cL_law 560 = .ok (.iconst 3, 1) := by decide +kernel
theorem dL_law_561 : decode cL_law 561 = .ok (.iadd, 1) := by decide +kernel
theorem dL_law_562 : decode cL_law 562 = .ok (.iaload, 1) := by decide +kernel
theorem dL_law_563 : decode cL_law 563 = .ok (.invokevirtual 85, 3) := by decide +kernel
theorem dL_law_566 : decode cL_law 566 = .ok (.pop, 1) := by decide +kernel
theorem dL_law_567 : decode cL_law 567 = .ok (.aload_n 2, 1) := by decide +kernel
theorem dL_law_568 : decode cL_law 568 = .ok (.aload_n 0, 1) := by decide +kernel
theorem dL_law_569 : decode cL_law 569 = .ok (.iload_n 3, 1) := by decide +kernel
theorem dL_law_570 : decode cL_law 570 = .ok (.iconst 1, 1) := by decide +kernel
theorem dL_law_571 : decode cL_law 571 = .ok (.iadd, 1) := by decide +kernel
theorem dL_law_572 : decode cL_law 572 = .ok (.iaload, 1) := by decide +kernel
theorem dL_law_573 : decode cL_law 573 = .ok (.aload_n 0, 1) := by decide +kernel
theorem dL_law_574 : decode cL_law 574 = .ok (.iload_n 3, 1) := by decide +kernel
theorem dL_law_575 : decode cL_law 575 = .ok (.iconst 2, 1) := by decide +kernel
theorem dL_law_576 : decode cL_law 576 = .ok (.iadd, 1) := by decide +kernel
theorem dL_law_577 : decode cL_law 577 = .ok (.iaload, 1) := by decide +kernel
theorem dL_law_578 : decode cL_law 578 = .ok (.aload_n 0, 1) := by decide +kernel
theorem dL_law_579 : decode cL_law 579 = .ok (.iload_n 3, 1) := by decide +kernel
theorem dL_law_580 : decode cL_law 580 = .ok (.iconst 3, 1) := by decide +kernel
theorem dL_law_581 : decode cL_law 581 = .ok (.iadd, 1) := by decide +kernel
theorem dL_law_582 : decode cL_law 582 = .ok (.iaload, 1) := by decide +kernel
theorem dL_law_583 : decode cL_law 583 = .ok (.invokevirtual 88, 3) := by decide +kernel
theorem dL_law_586 : decode cL_law 586 = .ok (.pop, 1) := by decide +kernel
theorem dL_law_587 : decode cL_law 587 = .ok (.goto 65, 3) := by decide +kernel
theorem dL_law_590 : decode cL_law 590 = .ok (.aload_n 1, 1) := by decide +kernel
theorem dL_law_591 : decode cL_law 591 = .ok (.invokevirtual 89, 3) := by decide +kernel
theorem dL_law_594 : decode cL_law 594 = .ok (.pop, 1) := by decide +kernel
theorem dL_law_595 : decode cL_law 595 = .ok (.aload_n 2, 1) := by decide +kernel
theorem dL_law_596 : decode cL_law 596 = .ok (.invokevirtual 92, 3) := by decide +kernel
theorem dL_law_599 : decode cL_law 599 = .ok (.pop, 1) := by decide +kernel
theorem dL_law_600 : decode cL_law 600 = .ok (.goto 52, 3) := by decide +kernel
theorem dL_law_603 : decode cL_law 603 = .ok (.aload_n 1, 1) := by decide +kernel
theorem dL_law_604 : decode cL_law 604 = .ok (.invokevirtual 93, 3) := by decide +kernel
theorem dL_law_607 : decode cL_law 607 = .ok (.pop, 1) := by decide +kernel
theorem dL_law_608 : decode cL_law 608 = .ok (.aload_n 2, 1) := by decide +kernel
theorem dL_law_609 : decode cL_law 609 = .ok (.invokevirtual 96, 3) := by decide +kernel
theorem dL_law_612 : decode cL_law 612 = .ok (.pop, 1) := by decide +kernel
theorem dL_law_613 : decode cL_law 613 = .ok (.goto 39, 3) := by decide +kernel
theorem dL_law_616 : decode cL_law 616 = .ok (.aload_n 1, 1) := by decide +kernel
theorem dL_law_617 : decode cL_law 617 = .ok (.aload_n 0, 1) := by decide +kernel
theorem dL_law_618 : decode cL_law 618 = .ok (.iload_n 3, 1) := by decide +kernel
theorem dL_law_619 : decode cL_law 619 = .ok (.iconst 1, 1) := by decide +kernel
theorem dL_law_620 : decode cL_law 620 = .ok (.iadd, 1) := by decide +kernel
theorem dL_law_621 : decode cL_law 621 = .ok (.iaload, 1) := by decide +kernel
theorem dL_law_622 : decode cL_law 622 = .ok (.invokevirtual 97, 3) := by decide +kernel
theorem dL_law_625 : decode cL_law 625 = .ok (.pop, 1) := by decide +kernel
theorem dL_law_626 : decode cL_law 626 = .ok (.aload_n 2, 1) := by decide +kernel
theorem dL_law_627 : decode cL_law 627 = .ok (.aload_n 0, 1) := by decide +kernel
theorem dL_law_628 : decode cL_law 628 = .ok (.iload_n 3, 1) := by decide +kernel
theorem dL_law_629 : decode cL_law 629 = .ok (.iconst 1, 1) := by decide +kernel
theorem dL_law_630 : decode cL_law 630 = .ok (.iadd, 1) := by decide +kernel
theorem dL_law_631 : decode cL_law 631 = .ok (.iaload, 1) := by decide +kernel
theorem dL_law_632 : decode cL_law 632 = .ok (.invokevirtual 100, 3) := by decide +kernel
theorem dL_law_635 : decode cL_law 635 = .ok (.pop, 1) := by decide +kernel
theorem dL_law_636 : decode cL_law 636 = .ok (.goto 16, 3) := by decide +kernel
theorem dL_law_639 : decode cL_law 639 = .ok (.aload_n 1, 1) := by decide +kernel
theorem dL_law_640 : decode cL_law 640 = .ok (.invokevirtual 101, 3) := by decide +kernel
theorem dL_law_643 : decode cL_law 643 = .ok (.pop2, 1) := by decide +kernel
theorem dL_law_644 : decode cL_law 644 = .ok (.aload_n 2, 1) := by decide +kernel
theorem dL_law_645 : decode cL_law 645 = .ok (.invokevirtual 105, 3) := by decide +kernel
theorem dL_law_648 : decode cL_law 648 = .ok (.pop2, 1) := by decide +kernel
theorem dL_law_649 : decode cL_law 649 = .ok (.goto 3, 3) := by decide +kernel
theorem dL_law_652 : decode cL_law 652 = .ok (.iinc 3 4, 3) := by decide +kernel
theorem dL_law_655 : decode cL_law 655 = .ok (.goto (-637), 3) := by decide +kernel
theorem dL_law_658 : decode cL_law 658 = .ok (.iconst 1, 1) := by decide +kernel
theorem dL_law_659 : decode cL_law 659 = .ok (.ireturn, 1) := by decide +kernel
end
section
/-- what holds of a SnowTerm's numbers between calls: n sites, z letters, c found -/
def IX (n z c : Nat) (f : Nat → Int32) : Prop := f 0 = nI n ∧ n ≤ 6 ∧ f 3 = nI z ∧ z ≤ 21 ∧ f 8 = nI c ∧ c ≤ 6
/-- the same of a SnowTermModel; what is found is found at a place of its rows -/
def IM (n z c : Nat) (g : Nat → Int32) (b : Nat → Nat → Int32) : Prop := g 1 = nI n ∧ n ≤ 6 ∧ g 16 = nI z ∧ z ≤ 21 ∧ g 12 = nI c ∧ c ≤ 6 ∧ ∀ k : Nat, k < c → ∃ j : Nat, j < 6 ∧ b 7 k = nI j
def bcU (x y : Int32) : Int32 := (Int32.toUInt32 x >>> (Int32.toUInt32 y &&& Int32.toUInt32 31)).toInt32
def bcA (x : Int32) : Int32 := x - ((bcU x 1) &&& 1431655765)
def bcB (x : Int32) : Int32 := (x &&& 858993459) + ((bcU x 2) &&& 858993459)
def bcC (x : Int32) : Int32 := (x + (bcU x 4)) &&& 252645135
def bcD (x : Int32) : Int32 := x + (bcU x 8)
def bcE (x : Int32) : Int32 := x + (bcU x 16)
theorem shl_n {n : Nat} (h : n ≤ 6) : (1 : Int32) <<< (nI n &&& 31) = nI (2 ^ n) := by
  rcases (show n = 0 ∨ n = 1 ∨ n = 2 ∨ n = 3 ∨ n = 4 ∨ n = 5 ∨ n = 6 by omega) with rfl | rfl | rfl | rfl | rfl | rfl | rfl <;> decide
theorem nI_cl {x : Int32} (h : ¬ x < 0) : x = nI x.toNatClampNeg := by
  obtain ⟨j, hj, rfl⟩ := nI_of h
  rw [nI_clamp hj]
theorem in_lt {x : Int32} {n N : Nat} (h1 : ¬ x < 0) (h2 : ¬ nI n ≤ x) (hn : n ≤ N) (hN : N < 2 ^ 31) : vp_in x N := by
  obtain ⟨j, hj, rfl⟩ := nI_of h1
  refine vp_in_nI ?_ hN
  rcases Nat.lt_or_ge j N with q | q
  · exact q
  · exact absurd (nI_le (show n ≤ j by omega) hj) h2
end
section
/-- what the methods that ask the constant text of the kinds' letters find: the text at aS, its bytes at aV; and the link of a nest mate's method. None of it lies in A -/
def zS (aS aV : Nat) (A : Nat → Prop) (U : State) (H : Heap) : Prop := vk_R RX0 49 "sygbt" aS U ∧ vk_S 1 [5] [[115, 121, 103, 98, 116]] (fun _ => aS) (fun _ => aV) A U H ∧ va_Z "java/lang/String" "COMPACT_STRINGS" "Z" (.int 1) A U H ∧ va_Nw (.methodLinkNest RX0 45 yX2_isWithin RX2) U
theorem zS.to {aS aV : Nat} {A : Nat → Prop} {s U : State} {H : Heap} {locs : List Loc} (h : zS aS aV A s s.heap) (hS : va_S A s.heap H locs) (hW : s.WarmedH U.vm) (hU : U.heap = H) : zS aS aV A U U.heap := by
  rw [hU]
  exact ⟨vk_R.warm hW h.1, vk_S.moved hW.alike (vk_S.kept h.2.1 hS.2.1), va_Z.moved hW.alike (va_Z.kept h.2.2.1 hS.2.1), va_Nw.warmM hW h.2.2.2⟩
theorem zS.narrow {aS aV : Nat} {A B : Nat → Prop} {U : State} {H : Heap} (h : zS aS aV A U H) (hAB : ∀ q, B q → A q) : zS aS aV B U H := ⟨h.1, vk_S.narrow h.2.1 hAB, va_Z.narrow h.2.2.1 hAB, h.2.2.2⟩
def GPs (D : va_G) (cI cB : ClassId) (aS aV : Nat) (A : Nat → Prop) (ws : va_W) (av : List Value) : Array Value → State → Prop := va_Pc av (fun U => va_P D vwCl ws U.heap ∧ wK D cI cB U ∧ zS aS aV A U U.heap)
theorem GPs_blind {D : va_G} {cI cB : ClassId} {aS aV : Nat} {A : Nat → Prop} {ws : va_W} {av : List Value} : FrameBlind (GPs D cI cB aS aV A ws av) := fun a U g mk q => by
  obtain ⟨q0, qP, qK, qZ⟩ := q
  exact ⟨q0, qP, va_K.moved (u := U) (U := U.calling g mk a) (Vm.Alike.refl U.vm) qK, vk_R.same (u := U) rfl qZ.1, vk_S.moved (u := U) (U := U.calling g mk a) (Vm.Alike.refl U.vm) qZ.2.1, va_Z.moved (u := U) (U := U.calling g mk a) (Vm.Alike.refl U.vm) qZ.2.2.1, va_Nw.same (u := U) rfl rfl qZ.2.2.2⟩
section GSTR
variable {p : Program} {l : Launch} {e : Env} {R : Room} {s : State} {m : MethodId} {args : Array Value} {below : List Frame} {meth : Method} {c : Code} {H H0 : Heap} {locs : List Loc} {cells slots : Nat} {Q : State → Prop} {pc : Nat} {ls : Array Slot} {rest st : List Value} {cc bytes : ByteArray} {nL maxL n index : Nat} {ret : Option FieldType} {Ts wsy : List Cond} {own C host : String} {D : va_G} {cI cB : ClassId} {ws : va_W} {y : MethodName} {rm : Room} {As : List Value} {b aS aV : Nat} {r : Int32} {A : Nat → Prop}
theorem gs_VR (E : CallFix p m c cc nL s args Ts own) (hK : wK D cI cB s) (hP : va_P D vwCl ws H) (hZ : zS aS aV A s s.heap) (hS : va_S A s.heap H locs) (hM : Met l y wsy rm (GPs D cI cB aS aV A ws (.ref b :: As)) (QcRead r) 0 0 (fun _ => False)) (cw : CallW R s args own C index y bytes maxL ret wsy rm 0 0 n) (hrc : ∃ cell : Cell, H[b]? = some cell ∧ cell.vm.isStatics = false ∧ s.vm.findClass C = some cell.cls) (hn : As.length = n) (hsz : ls.size = nL) (hst : st = As.reverse ++ .ref b :: rest) (hW : (rest.map fun v => v.category).sum ≤ 8) (hdg : decode cc pc = .ok (.invokevirtual index, 3)) (hf : cells ≤ R.cells ∧ slots ≤ R.slots)
    (k : W p l e R s m args below meth c H locs cells slots Q (F0 m (pc + 3) ls (.int r :: rest))) : W p l e R s m args below meth c H locs cells slots Q (F0 m pc ls st) :=
  W.callR (W.runV (g := F0 m pc ls st) E hM cw ⟨GPs_blind, hrc, fun U hU hW => ⟨rfl, by rw [hU]; exact hP, va_K.moved hW.alike hK, hZ.to hS hW hU⟩⟩ rfl hn hsz hst (lv_room hW) hdg hf) k
theorem gs_SR (E : CallFix p m c cc nL s args Ts own) (hK : wK D cI cB s) (hP : va_P D vwCl ws H) (hZ : zS aS aV A s s.heap) (hS : va_S A s.heap H locs) (hM : Met l y wsy rm (GPs D cI cB aS aV A ws As) (QcRead r) 0 0 (fun _ => False)) (cw : CallB R s args own index y bytes maxL ret wsy rm 0 0 n ∧ (Cond.static y).before args s = true) (hn : As.length = n) (hsz : ls.size = nL) (hst : st = As.reverse ++ rest) (hW : (rest.map fun v => v.category).sum ≤ 8) (hdg : decode cc pc = .ok (.invokestatic index, 3)) (hf : cells ≤ R.cells ∧ slots ≤ R.slots)
    (k : W p l e R s m args below meth c H locs cells slots Q (F0 m (pc + 3) ls (.int r :: rest))) : W p l e R s m args below meth c H locs cells slots Q (F0 m pc ls st) :=
  W.callR (W.runS (g := F0 m pc ls st) E hM cw ⟨GPs_blind, fun U hU hW => ⟨rfl, by rw [hU]; exact hP, va_K.moved hW.alike hK, hZ.to hS hW hU⟩⟩ rfl hn hsz hst (lv_room hW) hdg hf) k
/-- a static method of a nest mate that reads nothing -/
theorem g_NR (E : CallFix p m c cc nL s args Ts own) (hK : wK D cI cB s) (hM : Met l y wsy rm (GPc D cI cB [] As) (QcRead r) 0 0 (fun _ => False)) (cw : va_CN R s args own index y host bytes maxL ret wsy rm 0 0 n ∧ (Cond.static y).before args s = true ∧ True) (hn : As.length = n) (hsz : ls.size = nL) (hst : st = As.reverse ++ rest) (hW : (rest.map fun v => v.category).sum ≤ 8) (hdg : decode cc pc = .ok (.invokestatic index, 3)) (hf : cells ≤ R.cells ∧ slots ≤ R.slots)
    (k : W p l e R s m args below meth c H locs cells slots Q (F0 m (pc + 3) ls (.int r :: rest))) : W p l e R s m args below meth c H locs cells slots Q (F0 m pc ls st) := by
  have h := va_runSN (locs := locs) (cells := cells) (slots := slots) (p := p) (l := l) (e := e) (below := below) (meth := meth) (g := F0 m pc ls st) (rest := rest) (H := H) E hM cw ⟨GPc_blind, fun U hU hW => ⟨rfl, fun k q h => by simp at h, va_K.moved hW.alike hK⟩⟩ rfl hn hsz hst (lv_room hW) hdg hf
  refine W.callR (rest := rest) (r := r) (a := As.toArray) (fun T hT X => ?_) k
  obtain ⟨v, st0, t, T', L, h1, h2, h3, h4, -, h6, h7⟩ := h T hT X
  exact ⟨v, st0, t, T', L, h1, h2, h3, h4, h6, h7⟩
end GSTR
end
