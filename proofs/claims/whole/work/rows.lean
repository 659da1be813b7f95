section
-- ===== PART A: goes FIRST, ahead of the names: the tables' words, and 'selects' of the private methods out of them =====
/-- a private method of a class that the tables say can be made, by its rows of tables_1 -/
def lw_okq (q : MethodName × Nat) : Prop := (q.1.cls ≠ "java/lang/invoke/MethodHandle" ∧ q.1.cls ≠ "java/lang/invoke/VarHandle") ∧ Cond.instantiable q.1.cls q.2 ∈ tables_1 ∧ Cond.privateMethod q.1 ∈ tables_1 ∧ Cond.instanceMethod q.1 ∈ tables_1
theorem lw_p0 : lw_okq (⟨"TimedRuns", "isTask", "(II)Z"⟩, 10) := ⟨⟨by decide +kernel, by decide +kernel⟩, List.mem_of_getElem? (i := 18) (by decide +kernel), List.mem_of_getElem? (i := 175) (by decide +kernel), List.mem_of_getElem? (i := 176) (by decide +kernel)⟩
theorem lw_p1 : lw_okq (⟨"TimedRuns", "isJob", "(I)Z"⟩, 10) := ⟨⟨by decide +kernel, by decide +kernel⟩, List.mem_of_getElem? (i := 18) (by decide +kernel), List.mem_of_getElem? (i := 179) (by decide +kernel), List.mem_of_getElem? (i := 180) (by decide +kernel)⟩
theorem lw_p2 : lw_okq (⟨"TimedRuns", "countRunning", "()I"⟩, 10) := ⟨⟨by decide +kernel, by decide +kernel⟩, List.mem_of_getElem? (i := 18) (by decide +kernel), List.mem_of_getElem? (i := 187) (by decide +kernel), List.mem_of_getElem? (i := 188) (by decide +kernel)⟩
theorem lw_p3 : lw_okq (⟨"java/lang/Throwable", "fillInStackTrace", "(I)Ljava/lang/Throwable;"⟩, 6) := ⟨⟨by decide +kernel, by decide +kernel⟩, List.mem_of_getElem? (i := 247) (by decide +kernel), List.mem_of_getElem? (i := 245) (by decide +kernel), List.mem_of_getElem? (i := 246) (by decide +kernel)⟩
theorem lw_p4 : lw_okq (⟨"TimedRuns$Reader", "readField", "(I)V"⟩, 6) := ⟨⟨by decide +kernel, by decide +kernel⟩, List.mem_of_getElem? (i := 26) (by decide +kernel), List.mem_of_getElem? (i := 276) (by decide +kernel), List.mem_of_getElem? (i := 277) (by decide +kernel)⟩
theorem lw_p5 : lw_okq (⟨"TimedRuns$Reader", "readItem", "(I)V"⟩, 6) := ⟨⟨by decide +kernel, by decide +kernel⟩, List.mem_of_getElem? (i := 26) (by decide +kernel), List.mem_of_getElem? (i := 284) (by decide +kernel), List.mem_of_getElem? (i := 285) (by decide +kernel)⟩
theorem lw_p6 : lw_okq (⟨"TimedRuns$Reader", "readNumber", "(II)I"⟩, 6) := ⟨⟨by decide +kernel, by decide +kernel⟩, List.mem_of_getElem? (i := 26) (by decide +kernel), List.mem_of_getElem? (i := 292) (by decide +kernel), List.mem_of_getElem? (i := 293) (by decide +kernel)⟩
theorem lw_p7 : lw_okq (⟨"TimedRuns$Reader", "addNumbers", "(IIII)V"⟩, 6) := ⟨⟨by decide +kernel, by decide +kernel⟩, List.mem_of_getElem? (i := 26) (by decide +kernel), List.mem_of_getElem? (i := 299) (by decide +kernel), List.mem_of_getElem? (i := 300) (by decide +kernel)⟩
theorem lw_p8 : lw_okq (⟨"TimedRuns$Reader", "readEndOfField", "(I)V"⟩, 6) := ⟨⟨by decide +kernel, by decide +kernel⟩, List.mem_of_getElem? (i := 26) (by decide +kernel), List.mem_of_getElem? (i := 303) (by decide +kernel), List.mem_of_getElem? (i := 304) (by decide +kernel)⟩
theorem lw_p9 : lw_okq (⟨"TimedRuns", "holdsAt", "(LTimedRuns$Expression;I)Z"⟩, 10) := ⟨⟨by decide +kernel, by decide +kernel⟩, List.mem_of_getElem? (i := 18) (by decide +kernel), List.mem_of_getElem? (i := 452) (by decide +kernel), List.mem_of_getElem? (i := 453) (by decide +kernel)⟩
theorem lw_p10 : lw_okq (⟨"TimedRuns$Expression", "has", "(II)Z"⟩, 2) := ⟨⟨by decide +kernel, by decide +kernel⟩, List.mem_of_getElem? (i := 327) (by decide +kernel), List.mem_of_getElem? (i := 460) (by decide +kernel), List.mem_of_getElem? (i := 461) (by decide +kernel)⟩
theorem lw_p11 : lw_okq (⟨"TimedRuns$Day", "turnOne", "()V"⟩, 4) := ⟨⟨by decide +kernel, by decide +kernel⟩, List.mem_of_getElem? (i := 67) (by decide +kernel), List.mem_of_getElem? (i := 468) (by decide +kernel), List.mem_of_getElem? (i := 469) (by decide +kernel)⟩
theorem lw_p12 : lw_okq (⟨"TimedRuns$Day", "daysOfMonth", "()I"⟩, 4) := ⟨⟨by decide +kernel, by decide +kernel⟩, List.mem_of_getElem? (i := 67) (by decide +kernel), List.mem_of_getElem? (i := 472) (by decide +kernel), List.mem_of_getElem? (i := 473) (by decide +kernel)⟩
theorem lw_p13 : lw_okq (⟨"TimedRuns$Day", "isLeapYear", "()Z"⟩, 4) := ⟨⟨by decide +kernel, by decide +kernel⟩, List.mem_of_getElem? (i := 67) (by decide +kernel), List.mem_of_getElem? (i := 476) (by decide +kernel), List.mem_of_getElem? (i := 477) (by decide +kernel)⟩
theorem lw_p14 : lw_okq (⟨"TimedRuns$Day", "find", "(I)V"⟩, 4) := ⟨⟨by decide +kernel, by decide +kernel⟩, List.mem_of_getElem? (i := 67) (by decide +kernel), List.mem_of_getElem? (i := 482) (by decide +kernel), List.mem_of_getElem? (i := 483) (by decide +kernel)⟩
theorem lw_p15 : lw_okq (⟨"TimedRuns$Day", "daysOfYear", "()I"⟩, 4) := ⟨⟨by decide +kernel, by decide +kernel⟩, List.mem_of_getElem? (i := 67) (by decide +kernel), List.mem_of_getElem? (i := 486) (by decide +kernel), List.mem_of_getElem? (i := 487) (by decide +kernel)⟩
def lw_privs_1 : List (MethodName × Nat) := [(⟨"TimedRuns", "isTask", "(II)Z"⟩, 10), (⟨"TimedRuns", "isJob", "(I)Z"⟩, 10), (⟨"TimedRuns", "countRunning", "()I"⟩, 10), (⟨"java/lang/Throwable", "fillInStackTrace", "(I)Ljava/lang/Throwable;"⟩, 6), (⟨"TimedRuns$Reader", "readField", "(I)V"⟩, 6), (⟨"TimedRuns$Reader", "readItem", "(I)V"⟩, 6), (⟨"TimedRuns$Reader", "readNumber", "(II)I"⟩, 6), (⟨"TimedRuns$Reader", "addNumbers", "(IIII)V"⟩, 6), (⟨"TimedRuns$Reader", "readEndOfField", "(I)V"⟩, 6), (⟨"TimedRuns", "holdsAt", "(LTimedRuns$Expression;I)Z"⟩, 10), (⟨"TimedRuns$Expression", "has", "(II)Z"⟩, 2), (⟨"TimedRuns$Day", "turnOne", "()V"⟩, 4), (⟨"TimedRuns$Day", "daysOfMonth", "()I"⟩, 4), (⟨"TimedRuns$Day", "isLeapYear", "()Z"⟩, 4), (⟨"TimedRuns$Day", "find", "(I)V"⟩, 4), (⟨"TimedRuns$Day", "daysOfYear", "()I"⟩, 4)]
theorem lw_r1 : ∀ q ∈ lw_privs_1, lw_okq q := List.forall_mem_cons.mpr ⟨lw_p0, List.forall_mem_cons.mpr ⟨lw_p1, List.forall_mem_cons.mpr ⟨lw_p2, List.forall_mem_cons.mpr ⟨lw_p3, List.forall_mem_cons.mpr ⟨lw_p4, List.forall_mem_cons.mpr ⟨lw_p5, List.forall_mem_cons.mpr ⟨lw_p6, List.forall_mem_cons.mpr ⟨lw_p7, List.forall_mem_cons.mpr ⟨lw_p8, List.forall_mem_cons.mpr ⟨lw_p9, List.forall_mem_cons.mpr ⟨lw_p10, List.forall_mem_cons.mpr ⟨lw_p11, List.forall_mem_cons.mpr ⟨lw_p12, List.forall_mem_cons.mpr ⟨lw_p13, List.forall_mem_cons.mpr ⟨lw_p14, List.forall_mem_cons.mpr ⟨lw_p15, fun _ h => absurd h List.not_mem_nil⟩⟩⟩⟩⟩⟩⟩⟩⟩⟩⟩⟩⟩⟩⟩⟩
theorem lw_p16 : lw_okq (⟨"TimedRuns", "firstBehind", "(LTimedRuns$Expression;II)I"⟩, 10) := ⟨⟨by decide +kernel, by decide +kernel⟩, List.mem_of_getElem? (i := 18) (by decide +kernel), List.mem_of_getElem? (i := 506) (by decide +kernel), List.mem_of_getElem? (i := 507) (by decide +kernel)⟩
theorem lw_p17 : lw_okq (⟨"TimedRuns", "makeStep", "()I"⟩, 10) := ⟨⟨by decide +kernel, by decide +kernel⟩, List.mem_of_getElem? (i := 18) (by decide +kernel), List.mem_of_getElem? (i := 546) (by decide +kernel), List.mem_of_getElem? (i := 547) (by decide +kernel)⟩
theorem lw_p18 : lw_okq (⟨"TimedRuns", "fire", "(I)V"⟩, 10) := ⟨⟨by decide +kernel, by decide +kernel⟩, List.mem_of_getElem? (i := 18) (by decide +kernel), List.mem_of_getElem? (i := 550) (by decide +kernel), List.mem_of_getElem? (i := 551) (by decide +kernel)⟩
theorem lw_p19 : lw_okq (⟨"TimedRuns", "closeRunIfOver", "(I)V"⟩, 10) := ⟨⟨by decide +kernel, by decide +kernel⟩, List.mem_of_getElem? (i := 18) (by decide +kernel), List.mem_of_getElem? (i := 566) (by decide +kernel), List.mem_of_getElem? (i := 567) (by decide +kernel)⟩
theorem lw_p20 : lw_okq (⟨"TimedRuns", "startTasks", "()I"⟩, 10) := ⟨⟨by decide +kernel, by decide +kernel⟩, List.mem_of_getElem? (i := 18) (by decide +kernel), List.mem_of_getElem? (i := 578) (by decide +kernel), List.mem_of_getElem? (i := 579) (by decide +kernel)⟩
theorem lw_p21 : lw_okq (⟨"TimedRuns", "firstReadyJob", "()I"⟩, 10) := ⟨⟨by decide +kernel, by decide +kernel⟩, List.mem_of_getElem? (i := 18) (by decide +kernel), List.mem_of_getElem? (i := 582) (by decide +kernel), List.mem_of_getElem? (i := 583) (by decide +kernel)⟩
theorem lw_p22 : lw_okq (⟨"TimedRuns", "isAnyRunUnderWay", "()Z"⟩, 10) := ⟨⟨by decide +kernel, by decide +kernel⟩, List.mem_of_getElem? (i := 18) (by decide +kernel), List.mem_of_getElem? (i := 601) (by decide +kernel), List.mem_of_getElem? (i := 602) (by decide +kernel)⟩
theorem lw_p23 : lw_okq (⟨"TimedRuns", "endTask", "(IIZ)V"⟩, 10) := ⟨⟨by decide +kernel, by decide +kernel⟩, List.mem_of_getElem? (i := 18) (by decide +kernel), List.mem_of_getElem? (i := 612) (by decide +kernel), List.mem_of_getElem? (i := 613) (by decide +kernel)⟩
theorem lw_p24 : lw_okq (⟨"TimedRuns", "leaveOutBehind", "(II)V"⟩, 10) := ⟨⟨by decide +kernel, by decide +kernel⟩, List.mem_of_getElem? (i := 18) (by decide +kernel), List.mem_of_getElem? (i := 620) (by decide +kernel), List.mem_of_getElem? (i := 621) (by decide +kernel)⟩
theorem lw_p25 : lw_okq (⟨"TimedRuns", "catchUp", "()I"⟩, 10) := ⟨⟨by decide +kernel, by decide +kernel⟩, List.mem_of_getElem? (i := 18) (by decide +kernel), List.mem_of_getElem? (i := 631) (by decide +kernel), List.mem_of_getElem? (i := 632) (by decide +kernel)⟩
theorem lw_p26 : lw_okq (⟨"TimedRunsModel", "faultOf", "()I"⟩, 28) := ⟨⟨by decide +kernel, by decide +kernel⟩, List.mem_of_getElem? (i := 650) (by decide +kernel), List.mem_of_getElem? (i := 759) (by decide +kernel), List.mem_of_getElem? (i := 760) (by decide +kernel)⟩
theorem lw_p27 : lw_okq (⟨"TimedRunsModel", "overItem", "(II)I"⟩, 28) := ⟨⟨by decide +kernel, by decide +kernel⟩, List.mem_of_getElem? (i := 650) (by decide +kernel), List.mem_of_getElem? (i := 763) (by decide +kernel), List.mem_of_getElem? (i := 764) (by decide +kernel)⟩
theorem lw_p28 : lw_okq (⟨"TimedRunsModel", "typedAt", "(I)I"⟩, 28) := ⟨⟨by decide +kernel, by decide +kernel⟩, List.mem_of_getElem? (i := 650) (by decide +kernel), List.mem_of_getElem? (i := 767) (by decide +kernel), List.mem_of_getElem? (i := 768) (by decide +kernel)⟩
theorem lw_p29 : lw_okq (⟨"TimedRunsModel", "isNumber", "(III)Z"⟩, 28) := ⟨⟨by decide +kernel, by decide +kernel⟩, List.mem_of_getElem? (i := 650) (by decide +kernel), List.mem_of_getElem? (i := 774) (by decide +kernel), List.mem_of_getElem? (i := 775) (by decide +kernel)⟩
theorem lw_p30 : lw_okq (⟨"TimedRunsModel", "digitsAt", "(I)I"⟩, 28) := ⟨⟨by decide +kernel, by decide +kernel⟩, List.mem_of_getElem? (i := 650) (by decide +kernel), List.mem_of_getElem? (i := 778) (by decide +kernel), List.mem_of_getElem? (i := 779) (by decide +kernel)⟩
theorem lw_p31 : lw_okq (⟨"TimedRunsModel", "valueAt", "(I)I"⟩, 28) := ⟨⟨by decide +kernel, by decide +kernel⟩, List.mem_of_getElem? (i := 650) (by decide +kernel), List.mem_of_getElem? (i := 785) (by decide +kernel), List.mem_of_getElem? (i := 786) (by decide +kernel)⟩
def lw_privs_2 : List (MethodName × Nat) := [(⟨"TimedRuns", "firstBehind", "(LTimedRuns$Expression;II)I"⟩, 10), (⟨"TimedRuns", "makeStep", "()I"⟩, 10), (⟨"TimedRuns", "fire", "(I)V"⟩, 10), (⟨"TimedRuns", "closeRunIfOver", "(I)V"⟩, 10), (⟨"TimedRuns", "startTasks", "()I"⟩, 10), (⟨"TimedRuns", "firstReadyJob", "()I"⟩, 10), (⟨"TimedRuns", "isAnyRunUnderWay", "()Z"⟩, 10), (⟨"TimedRuns", "endTask", "(IIZ)V"⟩, 10), (⟨"TimedRuns", "leaveOutBehind", "(II)V"⟩, 10), (⟨"TimedRuns", "catchUp", "()I"⟩, 10), (⟨"TimedRunsModel", "faultOf", "()I"⟩, 28), (⟨"TimedRunsModel", "overItem", "(II)I"⟩, 28), (⟨"TimedRunsModel", "typedAt", "(I)I"⟩, 28), (⟨"TimedRunsModel", "isNumber", "(III)Z"⟩, 28), (⟨"TimedRunsModel", "digitsAt", "(I)I"⟩, 28), (⟨"TimedRunsModel", "valueAt", "(I)I"⟩, 28)]
theorem lw_r2 : ∀ q ∈ lw_privs_2, lw_okq q := List.forall_mem_cons.mpr ⟨lw_p16, List.forall_mem_cons.mpr ⟨lw_p17, List.forall_mem_cons.mpr ⟨lw_p18, List.forall_mem_cons.mpr ⟨lw_p19, List.forall_mem_cons.mpr ⟨lw_p20, List.forall_mem_cons.mpr ⟨lw_p21, List.forall_mem_cons.mpr ⟨lw_p22, List.forall_mem_cons.mpr ⟨lw_p23, List.forall_mem_cons.mpr ⟨lw_p24, List.forall_mem_cons.mpr ⟨lw_p25, List.forall_mem_cons.mpr ⟨lw_p26, List.forall_mem_cons.mpr ⟨lw_p27, List.forall_mem_cons.mpr ⟨lw_p28, List.forall_mem_cons.mpr ⟨lw_p29, List.forall_mem_cons.mpr ⟨lw_p30, List.forall_mem_cons.mpr ⟨lw_p31, fun _ h => absurd h List.not_mem_nil⟩⟩⟩⟩⟩⟩⟩⟩⟩⟩⟩⟩⟩⟩⟩⟩
theorem lw_p32 : lw_okq (⟨"TimedRunsModel", "isJob", "(I)Z"⟩, 28) := ⟨⟨by decide +kernel, by decide +kernel⟩, List.mem_of_getElem? (i := 650) (by decide +kernel), List.mem_of_getElem? (i := 800) (by decide +kernel), List.mem_of_getElem? (i := 801) (by decide +kernel)⟩
theorem lw_p33 : lw_okq (⟨"TimedRunsModel", "holdsAt", "(II)Z"⟩, 28) := ⟨⟨by decide +kernel, by decide +kernel⟩, List.mem_of_getElem? (i := 650) (by decide +kernel), List.mem_of_getElem? (i := 808) (by decide +kernel), List.mem_of_getElem? (i := 809) (by decide +kernel)⟩
theorem lw_p34 : lw_okq (⟨"TimedRunsModel", "holdsIn", "(II)Z"⟩, 28) := ⟨⟨by decide +kernel, by decide +kernel⟩, List.mem_of_getElem? (i := 650) (by decide +kernel), List.mem_of_getElem? (i := 812) (by decide +kernel), List.mem_of_getElem? (i := 813) (by decide +kernel)⟩
theorem lw_p35 : lw_okq (⟨"TimedRunsModel", "has", "(III)Z"⟩, 28) := ⟨⟨by decide +kernel, by decide +kernel⟩, List.mem_of_getElem? (i := 650) (by decide +kernel), List.mem_of_getElem? (i := 816) (by decide +kernel), List.mem_of_getElem? (i := 817) (by decide +kernel)⟩
theorem lw_p36 : lw_okq (⟨"TimedRunsModel", "itemHas", "(III)Z"⟩, 28) := ⟨⟨by decide +kernel, by decide +kernel⟩, List.mem_of_getElem? (i := 650) (by decide +kernel), List.mem_of_getElem? (i := 820) (by decide +kernel), List.mem_of_getElem? (i := 821) (by decide +kernel)⟩
theorem lw_p37 : lw_okq (⟨"TimedRunsModel", "numberFrom", "(I)I"⟩, 28) := ⟨⟨by decide +kernel, by decide +kernel⟩, List.mem_of_getElem? (i := 650) (by decide +kernel), List.mem_of_getElem? (i := 824) (by decide +kernel), List.mem_of_getElem? (i := 825) (by decide +kernel)⟩
theorem lw_p38 : lw_okq (⟨"TimedRunsModel", "isLetterDigit", "(I)Z"⟩, 28) := ⟨⟨by decide +kernel, by decide +kernel⟩, List.mem_of_getElem? (i := 650) (by decide +kernel), List.mem_of_getElem? (i := 828) (by decide +kernel), List.mem_of_getElem? (i := 829) (by decide +kernel)⟩
theorem lw_p39 : lw_okq (⟨"TimedRunsModel", "behindNumber", "(I)I"⟩, 28) := ⟨⟨by decide +kernel, by decide +kernel⟩, List.mem_of_getElem? (i := 650) (by decide +kernel), List.mem_of_getElem? (i := 832) (by decide +kernel), List.mem_of_getElem? (i := 833) (by decide +kernel)⟩
theorem lw_p40 : lw_okq (⟨"TimedRunsModel", "holdsOn", "(II)Z"⟩, 28) := ⟨⟨by decide +kernel, by decide +kernel⟩, List.mem_of_getElem? (i := 650) (by decide +kernel), List.mem_of_getElem? (i := 836) (by decide +kernel), List.mem_of_getElem? (i := 837) (by decide +kernel)⟩
theorem lw_p41 : lw_okq (⟨"TimedRunsModel", "date", "(I)V"⟩, 28) := ⟨⟨by decide +kernel, by decide +kernel⟩, List.mem_of_getElem? (i := 650) (by decide +kernel), List.mem_of_getElem? (i := 840) (by decide +kernel), List.mem_of_getElem? (i := 841) (by decide +kernel)⟩
theorem lw_p42 : lw_okq (⟨"TimedRunsModel", "isFree", "(II)Z"⟩, 28) := ⟨⟨by decide +kernel, by decide +kernel⟩, List.mem_of_getElem? (i := 650) (by decide +kernel), List.mem_of_getElem? (i := 853) (by decide +kernel), List.mem_of_getElem? (i := 854) (by decide +kernel)⟩
theorem lw_p43 : lw_okq (⟨"TimedRunsModel", "firstFrom", "(III)I"⟩, 28) := ⟨⟨by decide +kernel, by decide +kernel⟩, List.mem_of_getElem? (i := 650) (by decide +kernel), List.mem_of_getElem? (i := 861) (by decide +kernel), List.mem_of_getElem? (i := 862) (by decide +kernel)⟩
theorem lw_p44 : lw_okq (⟨"TimedRunsModel", "fire", "(I)V"⟩, 28) := ⟨⟨by decide +kernel, by decide +kernel⟩, List.mem_of_getElem? (i := 650) (by decide +kernel), List.mem_of_getElem? (i := 881) (by decide +kernel), List.mem_of_getElem? (i := 882) (by decide +kernel)⟩
theorem lw_p45 : lw_okq (⟨"TimedRunsModel", "note", "(III)V"⟩, 28) := ⟨⟨by decide +kernel, by decide +kernel⟩, List.mem_of_getElem? (i := 650) (by decide +kernel), List.mem_of_getElem? (i := 885) (by decide +kernel), List.mem_of_getElem? (i := 886) (by decide +kernel)⟩
theorem lw_p46 : lw_okq (⟨"TimedRunsModel", "start", "()I"⟩, 28) := ⟨⟨by decide +kernel, by decide +kernel⟩, List.mem_of_getElem? (i := 650) (by decide +kernel), List.mem_of_getElem? (i := 889) (by decide +kernel), List.mem_of_getElem? (i := 890) (by decide +kernel)⟩
theorem lw_p47 : lw_okq (⟨"TimedRunsModel", "best", "()I"⟩, 28) := ⟨⟨by decide +kernel, by decide +kernel⟩, List.mem_of_getElem? (i := 650) (by decide +kernel), List.mem_of_getElem? (i := 893) (by decide +kernel), List.mem_of_getElem? (i := 894) (by decide +kernel)⟩
def lw_privs_3 : List (MethodName × Nat) := [(⟨"TimedRunsModel", "isJob", "(I)Z"⟩, 28), (⟨"TimedRunsModel", "holdsAt", "(II)Z"⟩, 28), (⟨"TimedRunsModel", "holdsIn", "(II)Z"⟩, 28), (⟨"TimedRunsModel", "has", "(III)Z"⟩, 28), (⟨"TimedRunsModel", "itemHas", "(III)Z"⟩, 28), (⟨"TimedRunsModel", "numberFrom", "(I)I"⟩, 28), (⟨"TimedRunsModel", "isLetterDigit", "(I)Z"⟩, 28), (⟨"TimedRunsModel", "behindNumber", "(I)I"⟩, 28), (⟨"TimedRunsModel", "holdsOn", "(II)Z"⟩, 28), (⟨"TimedRunsModel", "date", "(I)V"⟩, 28), (⟨"TimedRunsModel", "isFree", "(II)Z"⟩, 28), (⟨"TimedRunsModel", "firstFrom", "(III)I"⟩, 28), (⟨"TimedRunsModel", "fire", "(I)V"⟩, 28), (⟨"TimedRunsModel", "note", "(III)V"⟩, 28), (⟨"TimedRunsModel", "start", "()I"⟩, 28), (⟨"TimedRunsModel", "best", "()I"⟩, 28)]
theorem lw_r3 : ∀ q ∈ lw_privs_3, lw_okq q := List.forall_mem_cons.mpr ⟨lw_p32, List.forall_mem_cons.mpr ⟨lw_p33, List.forall_mem_cons.mpr ⟨lw_p34, List.forall_mem_cons.mpr ⟨lw_p35, List.forall_mem_cons.mpr ⟨lw_p36, List.forall_mem_cons.mpr ⟨lw_p37, List.forall_mem_cons.mpr ⟨lw_p38, List.forall_mem_cons.mpr ⟨lw_p39, List.forall_mem_cons.mpr ⟨lw_p40, List.forall_mem_cons.mpr ⟨lw_p41, List.forall_mem_cons.mpr ⟨lw_p42, List.forall_mem_cons.mpr ⟨lw_p43, List.forall_mem_cons.mpr ⟨lw_p44, List.forall_mem_cons.mpr ⟨lw_p45, List.forall_mem_cons.mpr ⟨lw_p46, List.forall_mem_cons.mpr ⟨lw_p47, fun _ h => absurd h List.not_mem_nil⟩⟩⟩⟩⟩⟩⟩⟩⟩⟩⟩⟩⟩⟩⟩⟩
theorem lw_p48 : lw_okq (⟨"TimedRunsModel", "isReady", "(II)Z"⟩, 28) := ⟨⟨by decide +kernel, by decide +kernel⟩, List.mem_of_getElem? (i := 650) (by decide +kernel), List.mem_of_getElem? (i := 897) (by decide +kernel), List.mem_of_getElem? (i := 898) (by decide +kernel)⟩
theorem lw_p49 : lw_okq (⟨"TimedRunsModel", "runningTasks", "()I"⟩, 28) := ⟨⟨by decide +kernel, by decide +kernel⟩, List.mem_of_getElem? (i := 650) (by decide +kernel), List.mem_of_getElem? (i := 901) (by decide +kernel), List.mem_of_getElem? (i := 902) (by decide +kernel)⟩
theorem lw_p50 : lw_okq (⟨"TimedRunsModel", "isBusy", "()Z"⟩, 28) := ⟨⟨by decide +kernel, by decide +kernel⟩, List.mem_of_getElem? (i := 650) (by decide +kernel), List.mem_of_getElem? (i := 909) (by decide +kernel), List.mem_of_getElem? (i := 910) (by decide +kernel)⟩
theorem lw_p51 : lw_okq (⟨"TimedRunsModel", "isTask", "(II)Z"⟩, 28) := ⟨⟨by decide +kernel, by decide +kernel⟩, List.mem_of_getElem? (i := 650) (by decide +kernel), List.mem_of_getElem? (i := 917) (by decide +kernel), List.mem_of_getElem? (i := 918) (by decide +kernel)⟩
theorem lw_p52 : lw_okq (⟨"TimedRunsModel", "endTask", "(IIZ)V"⟩, 28) := ⟨⟨by decide +kernel, by decide +kernel⟩, List.mem_of_getElem? (i := 650) (by decide +kernel), List.mem_of_getElem? (i := 921) (by decide +kernel), List.mem_of_getElem? (i := 922) (by decide +kernel)⟩
theorem lw_p53 : lw_okq (⟨"TimedRunsModel", "leaveOut", "(II)V"⟩, 28) := ⟨⟨by decide +kernel, by decide +kernel⟩, List.mem_of_getElem? (i := 650) (by decide +kernel), List.mem_of_getElem? (i := 925) (by decide +kernel), List.mem_of_getElem? (i := 926) (by decide +kernel)⟩
theorem lw_p54 : lw_okq (⟨"TimedRunsModel", "comeUp", "()I"⟩, 28) := ⟨⟨by decide +kernel, by decide +kernel⟩, List.mem_of_getElem? (i := 650) (by decide +kernel), List.mem_of_getElem? (i := 933) (by decide +kernel), List.mem_of_getElem? (i := 934) (by decide +kernel)⟩
def lw_privs_4 : List (MethodName × Nat) := [(⟨"TimedRunsModel", "isReady", "(II)Z"⟩, 28), (⟨"TimedRunsModel", "runningTasks", "()I"⟩, 28), (⟨"TimedRunsModel", "isBusy", "()Z"⟩, 28), (⟨"TimedRunsModel", "isTask", "(II)Z"⟩, 28), (⟨"TimedRunsModel", "endTask", "(IIZ)V"⟩, 28), (⟨"TimedRunsModel", "leaveOut", "(II)V"⟩, 28), (⟨"TimedRunsModel", "comeUp", "()I"⟩, 28)]
theorem lw_r4 : ∀ q ∈ lw_privs_4, lw_okq q := List.forall_mem_cons.mpr ⟨lw_p48, List.forall_mem_cons.mpr ⟨lw_p49, List.forall_mem_cons.mpr ⟨lw_p50, List.forall_mem_cons.mpr ⟨lw_p51, List.forall_mem_cons.mpr ⟨lw_p52, List.forall_mem_cons.mpr ⟨lw_p53, List.forall_mem_cons.mpr ⟨lw_p54, fun _ h => absurd h List.not_mem_nil⟩⟩⟩⟩⟩⟩⟩
def lw_privs : List (MethodName × Nat) := lw_privs_1 ++ (lw_privs_2 ++ (lw_privs_3 ++ (lw_privs_4)))
def lw_tbl : List Cond := k2_sels lw_privs ++ tables_1
theorem lw_privs_ok : ∀ q ∈ lw_privs, lw_okq q := by
  show ∀ q ∈ lw_privs_1 ++ (lw_privs_2 ++ (lw_privs_3 ++ (lw_privs_4))), lw_okq q
  exact List.forall_mem_append.mpr ⟨lw_r1, List.forall_mem_append.mpr ⟨lw_r2, List.forall_mem_append.mpr ⟨lw_r3, lw_r4⟩⟩⟩
end
section
/-! ===== BEGIN words of one list among another's, by their places ===== -/
theorem goodIn_r {big : List Cond} (ws : List Cond) (ps : List Nat) (hp : ws = ps.filterMap (fun i => big[i]?)) (h : ws.all goodWord = true) : GoodIn big ws := by
  intro w hw
  have h1 := List.all_eq_true.mp h w hw
  rw [hp] at hw
  obtain ⟨i, -, hi⟩ := List.mem_filterMap.mp hw
  have hm : w ∈ big := by first | exact List.mem_of_getElem? hi | exact List.getElem?_mem hi
  exact ⟨hm, good_of_word h1⟩
theorem goodIn_app {big a b : List Cond} (ha : GoodIn big a) (hb : GoodIn big b) : GoodIn big (a ++ b) := fun w h => (List.mem_append.mp h).elim (ha w) (hb w)
theorem goodIn_ca {big a b : List Cond} {c : Cond} (ha : GoodIn big (c :: a)) (hb : GoodIn big b) : GoodIn big (c :: (a ++ b)) := fun w h => (List.mem_cons.mp h).elim (fun e => ha w (List.mem_cons.mpr (Or.inl e))) (fun h => (List.mem_append.mp h).elim (fun h => ha w (List.mem_cons.mpr (Or.inr h))) (hb w))
theorem goodIn_sub {big ws : List Cond} (hm : ∀ w ∈ ws, w ∈ big) (h : ws.all goodWord = true) : GoodIn big ws := fun w hw => ⟨hm w hw, good_of_word (List.all_eq_true.mp h w hw)⟩
/-! ===== END ===== -/

/-! ===== BEGIN exceptions that leave a method, and their catching by the caller (launches without stack traces) ===== -/
section VXA
/-! The laws vx_back, vx_callV, vx_callS, vx_callSW, vx_throw0, vx_throwS follow proofs of the library, with one case more: JvmDerived/Free/Laws.lean (Back.of_free), Shelf42/LK1.lean (callV, callS), Shelf/KitTraced.lean (throwNew0V, throwNewS). -/
/-- where a method has thrown q: the class by its name, the cell, what was written, the world -/
def vx_T (XC : String → State → State → Prop) (st : State) (q : Addr) (t : State) (mc ms : Nat) (free : Addr → Prop) : Prop :=
  ∃ (E : String) (ce : Cell) (L : List Loc), XC E st t ∧ t.heap[q]? = some ce ∧ ce.vm = .none ∧ st.vm.findClass E = some ce.cls ∧ st.WarmedH t.vm ∧ st.sameButNew ({ t with vm := st.vm } : State) L mc ms ∧ ∀ z ∈ L, free z.base
def vx_Q (Qc : Array Value → State → Outcome → State → Prop) (XC : String → State → State → Prop) (mc ms : Nat) (free : Addr → Prop) : Array Value → State → Outcome → State → Prop := fun a st o t =>
  (Qc a st o t ∧ ∃ L, FrameEnd st o t L mc ms ∧ ∀ q ∈ L, free q.base) ∨ ∃ q, o = .threw q ∧ vx_T XC st q t mc ms free
/-- a callee that returns or throws -/
def vx_Met (l : Launch) (y : MethodName) (ws : List Cond) (rm : Room) (Pc : Array Value → State → Prop) (Qc : Array Value → State → Outcome → State → Prop) (XC : String → State → State → Prop) (mc ms : Nat) (free : Addr → Prop) : Prop :=
  MetFree l y (headSpec ws rm) Pc (fun _ _ _ _ _ => True) (vx_Q Qc XC mc ms free)
def vx_Post (XC : String → State → State → Prop) (mc ms : Nat) (free : Addr → Prop) : Pt → Array Value → Addr → Pt → Prop := fun A a q B =>
  ∃ (g : JFrame) (mk : MethodId) (t : State) (L : List Loc) (E : String) (ce : Cell), B.U.heap = t.heap ∧ B.U.vm = t.vm ∧ XC E (A.U.calling g mk a) t ∧ t.heap[q]? = some ce ∧ ce.vm = .none ∧ A.U.vm.findClass E = some ce.cls ∧ B.locs = A.locs ++ L ∧ (∀ z ∈ L, free z.base) ∧ B.cells = A.cells + mc ∧ B.slots = A.slots + ms
def vx_Back (l : Launch) (R : Room) (p : Program) (e : Env) (below : List Frame) (s : State) (sargs : Array Value) (y : MethodName) (len W9 : Nat)
    (Pre : Pt → Array Value → Prop) (Post : Pt → Array Value → Option Value → Pt → Prop) (PostX : Pt → Array Value → Addr → Pt → Prop) : Prop :=
  ∀ (m : MethodId) (meth : Method) (c : Code) (A : Pt) (g : JFrame) (ig : Instr) (mk : MethodId) (a : Array Value),
    Stand p l e R s m sargs below meth c A.U A.locs A.cells A.slots → g.method = m → g.locals.size = c.maxLocals → decode c.code g.pc = .ok (ig, len) →
    2 * g.monitorRoom + (g.stack.map fun v => v.category).sum ≤ W9 → A.U.methodNamed? y = some mk → Pre A a →
    (∃ (v : Option Value) (B : Pt), Stand p l e R s m sargs below meth c B.U B.locs B.cells B.slots ∧ Post A a v B ∧
      Steps p.tables e below (doInvoke e (A.U.setTop g) [] mk a).1 (B.U.setTop { g with pc := g.pc + len, stack := v.toList ++ g.stack })) ∨
    (∃ (q : Addr) (B : Pt), Stand p l e R s m sargs below meth c B.U B.locs B.cells B.slots ∧ PostX A a q B ∧
      Steps p.tables e below (doInvoke e (A.U.setTop g) [] mk a).1 ((B.U.setTop g).pushFrame (.throwing q)))
section Payer
variable {l : Launch} {R : Room} {p : Program} {e : Env} {below : List Frame} {s : State} {sargs : Array Value} {y : MethodName} {len W9 : Nat}
theorem vx_back {ws : List Cond} {rm : Room} {Pc : Array Value → State → Prop} {Qc : Array Value → State → Outcome → State → Prop} {XC : String → State → State → Prop} {mc ms : Nat} {free : Addr → Prop} {bytes : ByteArray} {maxL : Nat} {ret : Option FieldType}
    (hM : vx_Met l y ws rm Pc Qc XC mc ms free) (hblind : FrameBlind Pc) (hrc : rm.cells = mc) (hrs : rm.slots = ms)
    (hframes : rm.frames + 1 ≤ R.frames) (hlocals : W9 + (maxL + 11) + rm.locals ≤ R.locals)
    (hws : ∀ w ∈ ws, ∀ a' U, s.WarmedH U.vm → w.before a' U = true) (hcode : Cond.code y bytes maxL ret ∈ ws) (hinit : ∀ a' U, s.WarmedH U.vm → (Cond.initialized y.cls).before a' U = true) :
    vx_Back l R p e below s sargs y len W9 (PreOf R mc ms Pc) (PostOf Qc mc ms free) (vx_Post XC mc ms free) := by
  intro m meth c A g ig mk a X hg hsize hdg hW hn hp
  have h1 : (headSpec ws rm).pre.before a A.U = true := atoms_intro fun w hw => hws w hw _ _ X.warmed
  have h2 : (Cond.code y bytes maxL ret).before a A.U = true := hws _ hcode _ _ X.warmed
  have h3 : (Cond.initialized y.cls).before a A.U = true := hinit _ _ X.warmed
  have h4 : A.cells + (headSpec ws rm).room.cells ≤ R.cells := by rw [show (headSpec ws rm).room.cells = mc from hrc]; exact hp.1
  have h5 : A.slots + (headSpec ws rm).room.slots ≤ R.slots := by rw [show (headSpec ws rm).room.slots = ms from hrs]; exact hp.2.1
  have hPc : Pc a (A.U.calling g mk a) := hblind _ _ _ _ hp.2.2
  obtain ⟨U, Ls, c0, s0⟩ := A
  dsimp only [Pt.U, Pt.locs, Pt.cells, Pt.slots] at h1 h2 h3 h4 h5 X hn hPc ⊢
  obtain ⟨methY, cY, hmY, hcY, -, hlY, -, -, -, -⟩ := Cond.code_spec hn h2
  obtain ⟨kY, hkY, -⟩ := className_of_methodNamed hn
  have hinitY : kY.init = .initialized := Cond.initialized_spec (findClass_of_methodNamed hn) hkY h3
  have h : At U g.method c below := by rw [hg]; exact X.here
  have hlocals9 : W9 + (maxL + 11) + (headSpec ws rm).room.locals ≤ R.locals := hlocals
  have happ : (headSpec ws rm).appliesLoose y e.platform (U.calling g mk a) = true :=
    Spec.appliesLoose_calling (g := g) h hdg hn hkY hinitY
      (X.room_calling (g := g) (R' := (headSpec ws rm).room) hsize hmY hcY hframes (by rw [hlY]; omega) h4 h5) h1
  obtain ⟨mid, hmid⟩ := h.above
  have hfr : (U.setTop g).frames = (.java g :: mid) ++ below := by rw [State.frames_setTop' g h.top, hmid]; rfl
  obtain ⟨o, s₂, hsteps, -, hend, hq⟩ := Steps.callFree hM p X.admits X.cas X.clock (acts := []) hfr happ hPc trivial
  have hq' : vx_Q Qc XC mc ms free a (U.calling g mk a) o s₂ := hq
  rw [State.frames_setTop' g h.top] at hend
  obtain ⟨g₀, hg0⟩ := Option.isSome_iff_exists.mp h.top
  obtain ⟨r, hr⟩ := State.topJava?_eq_some.mp hg0
  have hr' : (({ U with heap := s₂.heap, slotsUsed := s₂.slotsUsed } : State).setVm s₂.vm).frames = .java g₀ :: r := hr
  rcases hq' with ⟨hqc, L, hfe, hL⟩ | ⟨q, rfl, E, ce, L, hx, hce, hcv, hcl, hW₂, hsm, hL⟩
  · obtain ⟨⟨v, rfl⟩, hW₂, e2, q2, q3, q4, q5, q6⟩ := id hfe
    have e3 : s₂ = ({ (U.calling g mk a).setFrames s₂.frames with heap := s₂.heap, slotsUsed := s₂.slotsUsed } : State).setVm s₂.vm := by
      have : s₂ = ({ s₂ with vm := (U.calling g mk a).vm } : State).setVm s₂.vm := rfl
      rw [e2] at this
      exact this
    obtain ⟨c₂, i₂, len₂, hc₂, hd₂, hf₂⟩ := hend
    have hW' : U.WarmedH s₂.vm := hW₂
    have hcc : c₂ = c := by
      have h1 : s₂.code? g.method = U.code? g.method := by
        rw [State.code?_eq, State.code?_eq, hW'.alike.method?]
      exact Option.some.inj (hc₂.symm.trans (h1.trans h.code))
    subst hcc
    have hlen : len₂ = len := by rw [hdg] at hd₂; cases hd₂; rfl
    subst hlen
    have hs₂ : s₂ = (({ U with heap := s₂.heap, slotsUsed := s₂.slotsUsed } : State).setVm s₂.vm).setTop { g with pc := g.pc + len₂, stack := v.toList ++ g.stack } := by
      refine e3.trans ?_
      rw [hf₂, State.calling_eq h.top, State.setFrames_setFrames, State.setTop_of_frames _ hr', hr]
      rfl
    have hsame : U.sameButNew ({ U with heap := s₂.heap, slotsUsed := s₂.slotsUsed } : State) L mc ms := by
      refine ⟨?_, q2, q3, q4, q5, q6⟩
      obtain ⟨t, ht, -⟩ := State.frames_cons hr
      show ({ U with heap := s₂.heap, slotsUsed := s₂.slotsUsed } : State) = { U.setFrames U.frames with heap := s₂.heap, slotsUsed := s₂.slotsUsed }
      rw [State.setFrames_self ht]
    subst hg
    refine Or.inl ⟨v, ⟨(({ U with heap := s₂.heap, slotsUsed := s₂.slotsUsed } : State).setVm s₂.vm), Ls ++ L, c0 + mc, s0 + ms⟩,
      ⟨X.admits, X.cas, X.clock, X.frames, X.room, X.hears, X.method, X.code, (X.here.setHeapUsed s₂.heap s₂.slotsUsed).setVm hW'.alike, X.tail, State.WarmedH.trans X.warmed hW', X.limits, X.bytes, X.same.trans (hsame.setVm s.vm)⟩,
      ⟨g, mk, s₂, L, rfl, rfl, hqc, rfl, hL, rfl, rfl⟩, ?_⟩
    show Steps p.tables e below _ ((({ U with heap := s₂.heap, slotsUsed := s₂.slotsUsed } : State).setVm s₂.vm).setTop { g with pc := g.pc + len₂, stack := v.toList ++ g.stack })
    rw [← hs₂]
    exact hsteps
  · obtain ⟨e2, q2, q3, q4, q5, q6⟩ := id hsm
    have e3 : s₂ = ({ (U.calling g mk a).setFrames s₂.frames with heap := s₂.heap, slotsUsed := s₂.slotsUsed } : State).setVm s₂.vm := by
      have : s₂ = ({ s₂ with vm := (U.calling g mk a).vm } : State).setVm s₂.vm := rfl
      rw [e2] at this
      exact this
    have hf₂ : s₂.frames = .throwing q :: .java g :: U.frames.tail := hend
    have hW' : U.WarmedH s₂.vm := hW₂
    have hs₂ : s₂ = ((({ U with heap := s₂.heap, slotsUsed := s₂.slotsUsed } : State).setVm s₂.vm).setTop g).pushFrame (.throwing q) := by
      refine e3.trans ?_
      rw [hf₂, State.calling_eq h.top, State.setFrames_setFrames, State.pushFrame, State.frames_setTop _ hr', State.setTop_of_frames _ hr', State.setFrames_setFrames, hr]
      rfl
    have hsame : U.sameButNew ({ U with heap := s₂.heap, slotsUsed := s₂.slotsUsed } : State) L mc ms := by
      refine ⟨?_, q2, q3, q4, q5, q6⟩
      obtain ⟨t, ht, -⟩ := State.frames_cons hr
      show ({ U with heap := s₂.heap, slotsUsed := s₂.slotsUsed } : State) = { U.setFrames U.frames with heap := s₂.heap, slotsUsed := s₂.slotsUsed }
      rw [State.setFrames_self ht]
    subst hg
    refine Or.inr ⟨q, ⟨(({ U with heap := s₂.heap, slotsUsed := s₂.slotsUsed } : State).setVm s₂.vm), Ls ++ L, c0 + mc, s0 + ms⟩,
      ⟨X.admits, X.cas, X.clock, X.frames, X.room, X.hears, X.method, X.code, (X.here.setHeapUsed s₂.heap s₂.slotsUsed).setVm hW'.alike, X.tail, State.WarmedH.trans X.warmed hW', X.limits, X.bytes, X.same.trans (hsame.setVm s.vm)⟩,
      ⟨g, mk, s₂, L, E, ce, rfl, rfl, hx, hce, hcv, hcl, rfl, hL, rfl, rfl⟩, ?_⟩
    show Steps p.tables e below _ (((({ U with heap := s₂.heap, slotsUsed := s₂.slotsUsed } : State).setVm s₂.vm).setTop g).pushFrame (.throwing q))
    rw [← hs₂]
    exact hsteps
end Payer
section Calls
variable {p : Program} {l : Launch} {e : Env} {R : Room} {s : State} {m : MethodId} {args : Array Value} {below : List Frame} {meth : Method} {c : Code} {T : State} {locs : List Loc} {cells slots : Nat}
theorem vx_callV (X : Stand p l e R s m args below meth c T locs cells slots) (hexec : p.tables.exec = Jvm.exec) {own C : String} {index : Nat} {y : MethodName} {bytes : ByteArray} {maxL : Nat} {ret : Option FieldType}
    (hown : s.vm.findClass own = some m.cls) (hlink : (Cond.methodLink own index y).before args s = true) (hinst : (Cond.instanceMethod y).before args s = true) (hsel : (Cond.selects C y y).before args s = true)
    (hcode : (Cond.code y bytes maxL ret).before args s = true) (hy : y.cls ≠ "java/lang/invoke/MethodHandle" ∧ y.cls ≠ "java/lang/invoke/VarHandle")
    {W9 : Nat} {Pre : Pt → Array Value → Prop} {Post : Pt → Array Value → Option Value → Pt → Prop} {PostX : Pt → Array Value → Addr → Pt → Prop} (hK : vx_Back l R p e below s args y 3 W9 Pre Post PostX)
    {b : Addr} {cellB : Cell} (hcell : T.heap[b]? = some cellB) (hobj : cellB.vm.isStatics = false) (hcls : s.vm.findClass C = some cellB.cls)
    {g : JFrame} (hg : g.method = m) (hsize : g.locals.size = c.maxLocals) {argsL rest : List Value} (hlen : ∀ sig, parseMethodDescriptor y.desc = some sig → argsL.length = sig.parameters.length)
    (hstack : g.stack = argsL.reverse ++ .ref b :: rest) (hW : 2 * g.monitorRoom + (rest.map fun v => v.category).sum ≤ W9) (hdg : decode c.code g.pc = .ok (.invokevirtual index, 3))
    (hpre : ∀ vm₁, s.WarmedH vm₁ → Pre ⟨T.setVm vm₁, locs, cells, slots⟩ (Value.ref b :: argsL).toArray) :
    (∃ (v : Option Value) (vm₁ : Vm) (B : Pt), s.WarmedH vm₁ ∧ Stand p l e R s m args below meth c B.U B.locs B.cells B.slots ∧ Post ⟨T.setVm vm₁, locs, cells, slots⟩ (Value.ref b :: argsL).toArray v B ∧
      ∀ target, Steps p.tables e below (B.U.setTop { g with pc := g.pc + 3, stack := v.toList ++ rest }) target → Steps p.tables e below (T.setTop g) target) ∨
    (∃ (q : Addr) (vm₁ : Vm) (B : Pt), s.WarmedH vm₁ ∧ Stand p l e R s m args below meth c B.U B.locs B.cells B.slots ∧ PostX ⟨T.setVm vm₁, locs, cells, slots⟩ (Value.ref b :: argsL).toArray q B ∧
      Steps p.tables e below (T.setTop g) ((B.U.setTop { g with stack := rest }).pushFrame (.throwing q))) := by
  obtain ⟨mk, methM, hnamed, hmethM, hstM, habM⟩ := Cond.instanceMethod_spec hinst
  obtain ⟨methM', cM, hmethM', -, -, -, -, -, -, hsigM⟩ := Cond.code_spec hnamed hcode
  cases hmethM.symm.trans hmethM'
  obtain ⟨c2, r2, m2, q1, q2, q3, q4, kP, hkP, hkPi⟩ := Cond.selects_spec hsel
  cases hcls.symm.trans q1
  cases (State.methodFound?_of_named hnamed hy).symm.trans q2
  cases hnamed.symm.trans q3
  have hselP : selectMethod e.platform s.vm cellB.cls mk = .method mk := by rw [Launch.admits_selectMethod X.admits]; exact q4
  obtain ⟨vm₁, X₁, hstep₁⟩ := X.invokevirtual hexec hown hlink hnamed hmethM hstM hkP hkPi hy (a := b) (cell := cellB) hcell
    (fun z h => by rw [h] at hobj; cases hobj) hselP hmethM habM hkP hkPi (g := g) hg (argsL := argsL) (rest := rest) (hlen _ hsigM) hstack hdg
  rcases hK m meth c ⟨T.setVm vm₁, locs, cells, slots⟩ { g with stack := rest } (.invokevirtual index) mk (Value.ref b :: argsL).toArray X₁ hg hsize hdg hW (X₁.named hnamed) (hpre vm₁ X₁.warmed) with ⟨v, B, X', hpost, hsteps⟩ | ⟨q, B, X', hpost, hsteps⟩
  · exact Or.inl ⟨v, vm₁, B, X₁.warmed, X', hpost, fun target h => hstep₁ _ fun acts => by rw [doInvoke_state]; exact hsteps.trans h⟩
  · exact Or.inr ⟨q, vm₁, B, X₁.warmed, X', hpost, hstep₁ _ fun acts => by rw [doInvoke_state]; exact hsteps⟩
theorem vx_callS (X : Stand p l e R s m args below meth c T locs cells slots) (hexec : p.tables.exec = Jvm.exec) {own : String} {index : Nat} {y : MethodName} {bytes : ByteArray} {maxL : Nat} {ret : Option FieldType}
    (hown : s.vm.findClass own = some m.cls) (hlink : (Cond.methodLink own index y).before args s = true) (hstat : (Cond.static y).before args s = true) (hinit : (Cond.initialized y.cls).before args s = true)
    (hcode : (Cond.code y bytes maxL ret).before args s = true) (hy : y.cls ≠ "java/lang/invoke/MethodHandle" ∧ y.cls ≠ "java/lang/invoke/VarHandle")
    {W9 : Nat} {Pre : Pt → Array Value → Prop} {Post : Pt → Array Value → Option Value → Pt → Prop} {PostX : Pt → Array Value → Addr → Pt → Prop} (hK : vx_Back l R p e below s args y 3 W9 Pre Post PostX)
    {g : JFrame} (hg : g.method = m) (hsize : g.locals.size = c.maxLocals) {argsL rest : List Value} (hlen : ∀ sig, parseMethodDescriptor y.desc = some sig → argsL.length = sig.parameters.length)
    (hstack : g.stack = argsL.reverse ++ rest) (hW : 2 * g.monitorRoom + (rest.map fun v => v.category).sum ≤ W9) (hdg : decode c.code g.pc = .ok (.invokestatic index, 3))
    (hpre : ∀ vm₁, s.WarmedH vm₁ → Pre ⟨T.setVm vm₁, locs, cells, slots⟩ argsL.toArray) :
    (∃ (v : Option Value) (vm₁ : Vm) (B : Pt), s.WarmedH vm₁ ∧ Stand p l e R s m args below meth c B.U B.locs B.cells B.slots ∧ Post ⟨T.setVm vm₁, locs, cells, slots⟩ argsL.toArray v B ∧
      ∀ target, Steps p.tables e below (B.U.setTop { g with pc := g.pc + 3, stack := v.toList ++ rest }) target → Steps p.tables e below (T.setTop g) target) ∨
    (∃ (q : Addr) (vm₁ : Vm) (B : Pt), s.WarmedH vm₁ ∧ Stand p l e R s m args below meth c B.U B.locs B.cells B.slots ∧ PostX ⟨T.setVm vm₁, locs, cells, slots⟩ argsL.toArray q B ∧
      Steps p.tables e below (T.setTop g) ((B.U.setTop { g with stack := rest }).pushFrame (.throwing q))) := by
  obtain ⟨mk, hnamed⟩ := Cond.code_named hcode
  obtain ⟨methM, cM, hmethM, -, -, -, -, -, -, hsigM⟩ := Cond.code_spec hnamed hcode
  have hstatic : methM.isStatic = true := Cond.static_spec hnamed hmethM hstat
  obtain ⟨kP, hkP, -⟩ := className_of_methodNamed hnamed
  have hinitP : kP.init = .initialized := Cond.initialized_spec (findClass_of_methodNamed hnamed) hkP hinit
  obtain ⟨vm₁, X₁, hstep₁⟩ := X.invokestatic hexec hown hlink hnamed hmethM hstatic hkP hinitP hy (g := g) hg (argsL := argsL) (rest := rest) (hlen _ hsigM) hstack hdg
  rcases hK m meth c ⟨T.setVm vm₁, locs, cells, slots⟩ { g with stack := rest } (.invokestatic index) mk argsL.toArray X₁ hg hsize hdg hW (X₁.named hnamed) (hpre vm₁ X₁.warmed) with ⟨v, B, X', hpost, hsteps⟩ | ⟨q, B, X', hpost, hsteps⟩
  · exact Or.inl ⟨v, vm₁, B, X₁.warmed, X', hpost, fun target h => hstep₁ _ fun acts => by rw [doInvoke_state]; exact hsteps.trans h⟩
  · exact Or.inr ⟨q, vm₁, B, X₁.warmed, X', hpost, hstep₁ _ fun acts => by rw [doInvoke_state]; exact hsteps⟩
end Calls
theorem vx_cls {s : State} {T : State} {vm₁ : Vm} {E : String} {k : ClassId} (hW : s.WarmedH vm₁) (h : (T.setVm vm₁).vm.findClass E = some k) : s.vm.findClass E = some k := by
  have h1 : vm₁.findClass E = some k := h
  rw [hW.alike.findClass] at h1
  exact h1
/-- the method's frame g, with q thrown over it -/
def vx_W (p : Program) (l : Launch) (e : Env) (R : Room) (s : State) (m : MethodId) (args : Array Value) (below : List Frame) (meth : Method) (c : Code) (H : Heap) (locs : List Loc) (cells slots : Nat) (Q : State → Prop) (g : JFrame) (q : Addr) : Prop :=
  ∀ T : State, T.heap = H → Stand p l e R s m args below meth c T locs cells slots → ∃ t, Steps p.tables e below ((T.setTop g).pushFrame (.throwing q)) t ∧ Q t
def vx_Run (p : Program) (l : Launch) (e : Env) (R : Room) (s : State) (m : MethodId) (args : Array Value) (below : List Frame) (meth : Method) (c : Code) (H : Heap) (locs : List Loc) (cells slots mc ms : Nat) (g : JFrame) (rest : List Value) (Qa : State → Outcome → State → Prop) (XC : String → State → State → Prop) (free : Addr → Prop) : Prop :=
  ∀ T : State, T.heap = H → Stand p l e R s m args below meth c T locs cells slots →
    (∃ (v : Option Value) (st₀ t T' : State) (L : List Loc), st₀.heap = H ∧ Stand p l e R s m args below meth c T' (locs ++ L) (cells + mc) (slots + ms) ∧ (∀ q ∈ L, free q.base) ∧ T'.heap = t.heap ∧ T'.vm = t.vm ∧ Qa st₀ (.returned v) t ∧
      Goes p e below T g T' { g with pc := g.pc + 3, stack := v.toList ++ rest }) ∨
    (∃ (q : Addr) (st₀ t T' : State) (L : List Loc) (E : String) (ce : Cell), st₀.heap = H ∧ Stand p l e R s m args below meth c T' (locs ++ L) (cells + mc) (slots + ms) ∧ (∀ z ∈ L, free z.base) ∧ T'.heap = t.heap ∧ T'.vm = t.vm ∧ XC E st₀ t ∧ t.heap[q]? = some ce ∧ ce.vm = .none ∧ s.vm.findClass E = some ce.cls ∧
      Steps p.tables e below (T.setTop g) ((T'.setTop { g with stack := rest }).pushFrame (.throwing q)))
def vx_X {S : Type} (px : S → Prop) (B : String → S → State → Prop) (A : Nat → Prop) : String → State → State → Prop := fun E st t => ∃ u : S, px u ∧ B E u t ∧ va_F A st t
section Runs
variable {p : Program} {l : Launch} {e : Env} {R : Room} {s : State} {m : MethodId} {args : Array Value} {below : List Frame} {meth : Method} {c : Code} {H : Heap} {locs : List Loc} {cells slots : Nat}
variable {y : MethodName} {bytes cc : ByteArray} {maxL nL mc ms n index : Nat} {ret : Option FieldType} {ws : List Cond} {rm : Room} {Pc : Array Value → State → Prop} {Qc : Array Value → State → Outcome → State → Prop} {XC : String → State → State → Prop} {free : Addr → Prop} {Ts : List Cond} {own C : String} {b : Addr} {As rest : List Value} {g : JFrame}
theorem vx_callBack (cb : CallB R s args own index y bytes maxL ret ws rm mc ms n) (hM : vx_Met l y ws rm Pc Qc XC mc ms free) (hbl : FrameBlind Pc) : vx_Back l R p e below s args y 3 8 (PreOf R mc ms Pc) (PostOf Qc mc ms free) (vx_Post XC mc ms free) := by
  obtain ⟨hrc, hrs, hfr, hlo, hws, hcw, -, hini, -⟩ := cb
  exact vx_back (bytes := bytes) (maxL := maxL) (ret := ret) hM hbl hrc hrs hfr hlo hws hcw (fun a' U hW => word_at hW (Or.inl (by first | rfl | simp [Cond.onTables, Cond.keeps, Cond.steady])) hini)
theorem vx_runV (S : CallFix p m c cc nL s args Ts own) (hM : vx_Met l y ws rm Pc Qc XC mc ms free) (cw : CallW R s args own C index y bytes maxL ret ws rm mc ms n) (hp : PreV s H C b Pc As)
    (hg : g.method = m) (hn : As.length = n) (hsize : g.locals.size = nL) (hstack : g.stack = As.reverse ++ .ref b :: rest) (hW : 2 * g.monitorRoom + (rest.map fun v => v.category).sum ≤ 8) (hdg : decode cc g.pc = .ok (.invokevirtual index, 3)) (hf : cells + mc ≤ R.cells ∧ slots + ms ≤ R.slots) :
    vx_Run p l e R s m args below meth c H locs cells slots mc ms g rest (Qc (Value.ref b :: As).toArray) XC free := by
  have hK : vx_Back l R p e below s args y 3 8 (PreOf R mc ms Pc) (PostOf Qc mc ms free) (vx_Post XC mc ms free) := vx_callBack cw.1 hM hp.1
  obtain ⟨⟨-, -, -, -, -, -, hcode, -, hy, hlen, hl⟩, hin, hse⟩ := cw
  obtain ⟨hx, hb, hml, ho, -⟩ := S
  obtain ⟨-, ⟨cellB, hcB, hoB, hclB⟩, hPc⟩ := hp
  intro T hT X
  rcases vx_callV X hx (C := C) (bytes := bytes) (maxL := maxL) (ret := ret) ho hl hin hse hcode hy hK (by rw [hT]; exact hcB) hoB hclB hg (hsize.trans hml.symm) (argsL := As) (rest := rest) (fun sig h => hn.trans (hlen sig h)) hstack hW (by rw [hb]; exact hdg)
    (fun vm₁ hW₁ => ⟨hf.1, hf.2, hPc (T.setVm vm₁) hT hW₁⟩) with ⟨v, vm₁, ⟨U', l2, c2, s2⟩, hW₁, X', ⟨g', mk, t, L, e1, e2, hq, h1, hL, h2, h3⟩, st⟩ | ⟨q, vm₁, ⟨U', l2, c2, s2⟩, hW₁, X', ⟨g', mk, t, L, E, ce, e1, e2, hq, hce, hcv, hcl, h1, hL, h2, h3⟩, st⟩
  · dsimp only [Pt.U, Pt.locs, Pt.cells, Pt.slots] at X' e1 e2 h1 h2 h3 st
    subst h1; subst h2; subst h3
    exact Or.inl ⟨v, (T.setVm vm₁).calling g' mk (Value.ref b :: As).toArray, t, U', L, hT, X', hL, e1, e2, hq, st⟩
  · dsimp only [Pt.U, Pt.locs, Pt.cells, Pt.slots] at X' e1 e2 h1 h2 h3 st hcl
    subst h1; subst h2; subst h3
    exact Or.inr ⟨q, (T.setVm vm₁).calling g' mk (Value.ref b :: As).toArray, t, U', L, E, ce, hT, X', hL, e1, e2, hq, hce, hcv, vx_cls hW₁ hcl, st⟩
theorem vx_runS (S : CallFix p m c cc nL s args Ts own) (hM : vx_Met l y ws rm Pc Qc XC mc ms free) (cw : CallB R s args own index y bytes maxL ret ws rm mc ms n ∧ (Cond.static y).before args s = true) (hp : PreS s H Pc As)
    (hg : g.method = m) (hn : As.length = n) (hsize : g.locals.size = nL) (hstack : g.stack = As.reverse ++ rest) (hW : 2 * g.monitorRoom + (rest.map fun v => v.category).sum ≤ 8) (hdg : decode cc g.pc = .ok (.invokestatic index, 3)) (hf : cells + mc ≤ R.cells ∧ slots + ms ≤ R.slots) :
    vx_Run p l e R s m args below meth c H locs cells slots mc ms g rest (Qc As.toArray) XC free := by
  have hK : vx_Back l R p e below s args y 3 8 (PreOf R mc ms Pc) (PostOf Qc mc ms free) (vx_Post XC mc ms free) := vx_callBack cw.1 hM hp.1
  obtain ⟨⟨-, -, -, -, -, -, hcode, hini, hy, hlen, hl⟩, hstt⟩ := cw
  obtain ⟨hx, hb, hml, ho, -⟩ := S
  intro T hT X
  rcases vx_callS X hx (bytes := bytes) (maxL := maxL) (ret := ret) ho hl hstt hini hcode hy hK hg (hsize.trans hml.symm) (argsL := As) (rest := rest) (fun sig h => hn.trans (hlen sig h)) hstack hW (by rw [hb]; exact hdg)
    (fun vm₁ hW₁ => ⟨hf.1, hf.2, hp.2 (T.setVm vm₁) hT hW₁⟩) with ⟨v, vm₁, ⟨U', l2, c2, s2⟩, hW₁, X', ⟨g', mk, t, L, e1, e2, hq, h1, hL, h2, h3⟩, st⟩ | ⟨q, vm₁, ⟨U', l2, c2, s2⟩, hW₁, X', ⟨g', mk, t, L, E, ce, e1, e2, hq, hce, hcv, hcl, h1, hL, h2, h3⟩, st⟩
  · dsimp only [Pt.U, Pt.locs, Pt.cells, Pt.slots] at X' e1 e2 h1 h2 h3 st
    subst h1; subst h2; subst h3
    exact Or.inl ⟨v, (T.setVm vm₁).calling g' mk As.toArray, t, U', L, hT, X', hL, e1, e2, hq, st⟩
  · dsimp only [Pt.U, Pt.locs, Pt.cells, Pt.slots] at X' e1 e2 h1 h2 h3 st hcl
    subst h1; subst h2; subst h3
    exact Or.inr ⟨q, (T.setVm vm₁).calling g' mk As.toArray, t, U', L, E, ce, hT, X', hL, e1, e2, hq, hce, hcv, vx_cls hW₁ hcl, st⟩
end Runs
section Rows
variable {p : Program} {l : Launch} {e : Env} {R : Room} {s : State} {m : MethodId} {args : Array Value} {below : List Frame} {meth : Method} {c : Code} {H : Heap} {locs : List Loc} {cells slots : Nat} {Q : State → Prop}
variable {mc ms : Nat} {free : Addr → Prop} {A0 A1 : Nat → Prop} {H0 : Heap} {a : Array Value} {pc : Nat} {ls : Array Slot} {st0 rest : List Value}
theorem vx_keep {st₀ t T' : State} {L : List Loc} (h0 : st₀.heap = H) (e1 : T'.heap = t.heap) (hS : va_S A0 H0 H locs) (hA : ∀ q, q < H.size → A1 q → A0 q) (hf : ∀ q, free q → A0 q) (hL : ∀ q ∈ L, free q.base) (hF : va_F A1 st₀ t) :
    H.size ≤ T'.heap.size ∧ (∀ q : Nat, q < H.size → ¬ A1 q → T'.heap[q]? = H[q]?) ∧ va_S A0 H0 T'.heap (locs ++ L) := by
  obtain ⟨hz, hk⟩ := hF
  rw [h0] at hz hk
  exact ⟨by rw [e1]; exact hz, fun q h1 h2 => by rw [e1]; exact hk q h1 h2,
    ⟨Nat.le_trans hS.1 (by rw [e1]; exact hz), fun q h1 h2 => by rw [e1, hk q (Nat.lt_of_lt_of_le h1 hS.1) (fun z => h2 (hA q (Nat.lt_of_lt_of_le h1 hS.1) z))]; exact hS.2.1 q h1 h2, fun q hq => by
      rcases List.mem_append.mp hq with h | h
      · exact hS.2.2 q h
      · exact hf _ (hL q h)⟩⟩
theorem vx_calli {S SX : Type} {post : Int32 → S → Prop} {px : SX → Prop} {B : S → State → Prop} {BX : String → SX → State → Prop} {AX : Nat → Prop} (hr : vx_Run p l e R s m args below meth c H locs cells slots mc ms (F0 m pc ls st0) rest (va_Qi post B A1 a) (vx_X px BX AX) free) (hS : va_S A0 H0 H locs) (hA : ∀ q, q < H.size → A1 q → A0 q) (hf : ∀ q, free q → A0 q) (hAX : ∀ q, q < H.size → AX q → A0 q)
    (kx : ∀ (E : String) (ce : Cell) (q9 : Addr) (u : SX) (t : State) (H1 : Heap) (locs1 : List Loc), t.heap = H1 → s.vm.Alike t.vm → px u → BX E u t → H.size ≤ H1.size → (∀ q : Nat, q < H.size → ¬ AX q → H1[q]? = H[q]?) → va_S A0 H0 H1 locs1 → H1[q9]? = some ce → ce.vm = .none → s.vm.findClass E = some ce.cls → vx_W p l e R s m args below meth c H1 locs1 (cells + mc) (slots + ms) Q (F0 m pc ls rest) q9)
    (kk : ∀ (r : Int32) (u : S) (t : State) (H1 : Heap) (locs1 : List Loc), t.heap = H1 → s.vm.Alike t.vm → post r u → B u t → H.size ≤ H1.size → (∀ q : Nat, q < H.size → ¬ A1 q → H1[q]? = H[q]?) → va_S A0 H0 H1 locs1 → W p l e R s m args below meth c H1 locs1 (cells + mc) (slots + ms) Q (F0 m (pc + 3) ls (.int r :: rest))) : W p l e R s m args below meth c H locs cells slots Q (F0 m pc ls st0) := by
  intro T hT X
  rcases hr T hT X with ⟨v, st₀, t, T', L, h0, X', hL, e1, e2, ⟨⟨r, u, hv, hp, hb⟩, hF⟩, st⟩ | ⟨q, st₀, t, T', L, E, ce, h0, X', hL, e1, e2, ⟨u, hp, hb, hF⟩, hce, hcv, hcl, st⟩
  · cases hv
    obtain ⟨k1, k2, k3⟩ := vx_keep h0 e1 hS hA hf hL hF
    obtain ⟨t2, a1, b1⟩ := kk r u t T'.heap (locs ++ L) e1.symm (by rw [← e2]; exact X'.warmed.alike) hp hb k1 k2 k3 T' rfl X'
    exact ⟨t2, st t2 a1, b1⟩
  · obtain ⟨k1, k2, k3⟩ := vx_keep h0 e1 hS hAX hf hL hF
    obtain ⟨t2, a1, b1⟩ := kx E ce q u t T'.heap (locs ++ L) e1.symm (by rw [← e2]; exact X'.warmed.alike) hp hb k1 k2 k3 (by rw [e1]; exact hce) hcv hcl T' rfl X'
    exact ⟨t2, st.trans a1, b1⟩
theorem vx_calll {S SX : Type} {post : Int64 → S → Prop} {px : SX → Prop} {B : S → State → Prop} {BX : String → SX → State → Prop} {AX : Nat → Prop} (hr : vx_Run p l e R s m args below meth c H locs cells slots mc ms (F0 m pc ls st0) rest (va_Ql post B A1 a) (vx_X px BX AX) free) (hS : va_S A0 H0 H locs) (hA : ∀ q, q < H.size → A1 q → A0 q) (hf : ∀ q, free q → A0 q) (hAX : ∀ q, q < H.size → AX q → A0 q)
    (kx : ∀ (E : String) (ce : Cell) (q9 : Addr) (u : SX) (t : State) (H1 : Heap) (locs1 : List Loc), t.heap = H1 → s.vm.Alike t.vm → px u → BX E u t → H.size ≤ H1.size → (∀ q : Nat, q < H.size → ¬ AX q → H1[q]? = H[q]?) → va_S A0 H0 H1 locs1 → H1[q9]? = some ce → ce.vm = .none → s.vm.findClass E = some ce.cls → vx_W p l e R s m args below meth c H1 locs1 (cells + mc) (slots + ms) Q (F0 m pc ls rest) q9)
    (kk : ∀ (r : Int64) (u : S) (t : State) (H1 : Heap) (locs1 : List Loc), t.heap = H1 → s.vm.Alike t.vm → post r u → B u t → H.size ≤ H1.size → (∀ q : Nat, q < H.size → ¬ A1 q → H1[q]? = H[q]?) → va_S A0 H0 H1 locs1 → W p l e R s m args below meth c H1 locs1 (cells + mc) (slots + ms) Q (F0 m (pc + 3) ls (.long r :: rest))) : W p l e R s m args below meth c H locs cells slots Q (F0 m pc ls st0) := by
  intro T hT X
  rcases hr T hT X with ⟨v, st₀, t, T', L, h0, X', hL, e1, e2, ⟨⟨r, u, hv, hp, hb⟩, hF⟩, st⟩ | ⟨q, st₀, t, T', L, E, ce, h0, X', hL, e1, e2, ⟨u, hp, hb, hF⟩, hce, hcv, hcl, st⟩
  · cases hv
    obtain ⟨k1, k2, k3⟩ := vx_keep h0 e1 hS hA hf hL hF
    obtain ⟨t2, a1, b1⟩ := kk r u t T'.heap (locs ++ L) e1.symm (by rw [← e2]; exact X'.warmed.alike) hp hb k1 k2 k3 T' rfl X'
    exact ⟨t2, st t2 a1, b1⟩
  · obtain ⟨k1, k2, k3⟩ := vx_keep h0 e1 hS hAX hf hL hF
    obtain ⟨t2, a1, b1⟩ := kx E ce q u t T'.heap (locs ++ L) e1.symm (by rw [← e2]; exact X'.warmed.alike) hp hb k1 k2 k3 (by rw [e1]; exact hce) hcv hcl T' rfl X'
    exact ⟨t2, st.trans a1, b1⟩
theorem vx_callf {S SX : Type} {post : UInt32 → S → Prop} {px : SX → Prop} {B : S → State → Prop} {BX : String → SX → State → Prop} {AX : Nat → Prop} (hr : vx_Run p l e R s m args below meth c H locs cells slots mc ms (F0 m pc ls st0) rest (va_Qf post B A1 a) (vx_X px BX AX) free) (hS : va_S A0 H0 H locs) (hA : ∀ q, q < H.size → A1 q → A0 q) (hf : ∀ q, free q → A0 q) (hAX : ∀ q, q < H.size → AX q → A0 q)
    (kx : ∀ (E : String) (ce : Cell) (q9 : Addr) (u : SX) (t : State) (H1 : Heap) (locs1 : List Loc), t.heap = H1 → s.vm.Alike t.vm → px u → BX E u t → H.size ≤ H1.size → (∀ q : Nat, q < H.size → ¬ AX q → H1[q]? = H[q]?) → va_S A0 H0 H1 locs1 → H1[q9]? = some ce → ce.vm = .none → s.vm.findClass E = some ce.cls → vx_W p l e R s m args below meth c H1 locs1 (cells + mc) (slots + ms) Q (F0 m pc ls rest) q9)
    (kk : ∀ (r : UInt32) (u : S) (t : State) (H1 : Heap) (locs1 : List Loc), t.heap = H1 → s.vm.Alike t.vm → post r u → B u t → H.size ≤ H1.size → (∀ q : Nat, q < H.size → ¬ A1 q → H1[q]? = H[q]?) → va_S A0 H0 H1 locs1 → W p l e R s m args below meth c H1 locs1 (cells + mc) (slots + ms) Q (F0 m (pc + 3) ls (.float r :: rest))) : W p l e R s m args below meth c H locs cells slots Q (F0 m pc ls st0) := by
  intro T hT X
  rcases hr T hT X with ⟨v, st₀, t, T', L, h0, X', hL, e1, e2, ⟨⟨r, u, hv, hp, hb⟩, hF⟩, st⟩ | ⟨q, st₀, t, T', L, E, ce, h0, X', hL, e1, e2, ⟨u, hp, hb, hF⟩, hce, hcv, hcl, st⟩
  · cases hv
    obtain ⟨k1, k2, k3⟩ := vx_keep h0 e1 hS hA hf hL hF
    obtain ⟨t2, a1, b1⟩ := kk r u t T'.heap (locs ++ L) e1.symm (by rw [← e2]; exact X'.warmed.alike) hp hb k1 k2 k3 T' rfl X'
    exact ⟨t2, st t2 a1, b1⟩
  · obtain ⟨k1, k2, k3⟩ := vx_keep h0 e1 hS hAX hf hL hF
    obtain ⟨t2, a1, b1⟩ := kx E ce q u t T'.heap (locs ++ L) e1.symm (by rw [← e2]; exact X'.warmed.alike) hp hb k1 k2 k3 (by rw [e1]; exact hce) hcv hcl T' rfl X'
    exact ⟨t2, st.trans a1, b1⟩
theorem vx_calld {S SX : Type} {post : UInt64 → S → Prop} {px : SX → Prop} {B : S → State → Prop} {BX : String → SX → State → Prop} {AX : Nat → Prop} (hr : vx_Run p l e R s m args below meth c H locs cells slots mc ms (F0 m pc ls st0) rest (va_Qd post B A1 a) (vx_X px BX AX) free) (hS : va_S A0 H0 H locs) (hA : ∀ q, q < H.size → A1 q → A0 q) (hf : ∀ q, free q → A0 q) (hAX : ∀ q, q < H.size → AX q → A0 q)
    (kx : ∀ (E : String) (ce : Cell) (q9 : Addr) (u : SX) (t : State) (H1 : Heap) (locs1 : List Loc), t.heap = H1 → s.vm.Alike t.vm → px u → BX E u t → H.size ≤ H1.size → (∀ q : Nat, q < H.size → ¬ AX q → H1[q]? = H[q]?) → va_S A0 H0 H1 locs1 → H1[q9]? = some ce → ce.vm = .none → s.vm.findClass E = some ce.cls → vx_W p l e R s m args below meth c H1 locs1 (cells + mc) (slots + ms) Q (F0 m pc ls rest) q9)
    (kk : ∀ (r : UInt64) (u : S) (t : State) (H1 : Heap) (locs1 : List Loc), t.heap = H1 → s.vm.Alike t.vm → post r u → B u t → H.size ≤ H1.size → (∀ q : Nat, q < H.size → ¬ A1 q → H1[q]? = H[q]?) → va_S A0 H0 H1 locs1 → W p l e R s m args below meth c H1 locs1 (cells + mc) (slots + ms) Q (F0 m (pc + 3) ls (.double r :: rest))) : W p l e R s m args below meth c H locs cells slots Q (F0 m pc ls st0) := by
  intro T hT X
  rcases hr T hT X with ⟨v, st₀, t, T', L, h0, X', hL, e1, e2, ⟨⟨r, u, hv, hp, hb⟩, hF⟩, st⟩ | ⟨q, st₀, t, T', L, E, ce, h0, X', hL, e1, e2, ⟨u, hp, hb, hF⟩, hce, hcv, hcl, st⟩
  · cases hv
    obtain ⟨k1, k2, k3⟩ := vx_keep h0 e1 hS hA hf hL hF
    obtain ⟨t2, a1, b1⟩ := kk r u t T'.heap (locs ++ L) e1.symm (by rw [← e2]; exact X'.warmed.alike) hp hb k1 k2 k3 T' rfl X'
    exact ⟨t2, st t2 a1, b1⟩
  · obtain ⟨k1, k2, k3⟩ := vx_keep h0 e1 hS hAX hf hL hF
    obtain ⟨t2, a1, b1⟩ := kx E ce q u t T'.heap (locs ++ L) e1.symm (by rw [← e2]; exact X'.warmed.alike) hp hb k1 k2 k3 (by rw [e1]; exact hce) hcv hcl T' rfl X'
    exact ⟨t2, st.trans a1, b1⟩
theorem vx_callv {S SX : Type} {post : S → Prop} {px : SX → Prop} {B : S → State → Prop} {BX : String → SX → State → Prop} {AX : Nat → Prop} (hr : vx_Run p l e R s m args below meth c H locs cells slots mc ms (F0 m pc ls st0) rest (va_Qv post B A1 a) (vx_X px BX AX) free) (hS : va_S A0 H0 H locs) (hA : ∀ q, q < H.size → A1 q → A0 q) (hf : ∀ q, free q → A0 q) (hAX : ∀ q, q < H.size → AX q → A0 q)
    (kx : ∀ (E : String) (ce : Cell) (q9 : Addr) (u : SX) (t : State) (H1 : Heap) (locs1 : List Loc), t.heap = H1 → s.vm.Alike t.vm → px u → BX E u t → H.size ≤ H1.size → (∀ q : Nat, q < H.size → ¬ AX q → H1[q]? = H[q]?) → va_S A0 H0 H1 locs1 → H1[q9]? = some ce → ce.vm = .none → s.vm.findClass E = some ce.cls → vx_W p l e R s m args below meth c H1 locs1 (cells + mc) (slots + ms) Q (F0 m pc ls rest) q9)
    (kk : ∀ (u : S) (t : State) (H1 : Heap) (locs1 : List Loc), t.heap = H1 → s.vm.Alike t.vm → post u → B u t → H.size ≤ H1.size → (∀ q : Nat, q < H.size → ¬ A1 q → H1[q]? = H[q]?) → va_S A0 H0 H1 locs1 → W p l e R s m args below meth c H1 locs1 (cells + mc) (slots + ms) Q (F0 m (pc + 3) ls (rest))) : W p l e R s m args below meth c H locs cells slots Q (F0 m pc ls st0) := by
  intro T hT X
  rcases hr T hT X with ⟨v, st₀, t, T', L, h0, X', hL, e1, e2, ⟨⟨u, hv, hp, hb⟩, hF⟩, st⟩ | ⟨q, st₀, t, T', L, E, ce, h0, X', hL, e1, e2, ⟨u, hp, hb, hF⟩, hce, hcv, hcl, st⟩
  · cases hv
    obtain ⟨k1, k2, k3⟩ := vx_keep h0 e1 hS hA hf hL hF
    obtain ⟨t2, a1, b1⟩ := kk u t T'.heap (locs ++ L) e1.symm (by rw [← e2]; exact X'.warmed.alike) hp hb k1 k2 k3 T' rfl X'
    exact ⟨t2, st t2 a1, b1⟩
  · obtain ⟨k1, k2, k3⟩ := vx_keep h0 e1 hS hAX hf hL hF
    obtain ⟨t2, a1, b1⟩ := kx E ce q u t T'.heap (locs ++ L) e1.symm (by rw [← e2]; exact X'.warmed.alike) hp hb k1 k2 k3 (by rw [e1]; exact hce) hcv hcl T' rfl X'
    exact ⟨t2, st.trans a1, b1⟩
/-- caught by the row x of this method's table; the rows ahead don't take it -/
theorem vx_catch {own name : String} {E : String} {ce : Cell} {q : Addr} (hown : s.vm.findClass own = some m.cls) (pre : List ExceptionTableEntry) (x : ExceptionTableEntry) (suf : List ExceptionTableEntry) (hsplit : c.exceptionTable.toList = pre ++ x :: suf)
    (hpass : ∀ z ∈ pre, covers z pc = false ∨ (z.catchType ≠ 0 ∧ ∃ nm : String, (Cond.classLink own z.catchType nm).before args s = true ∧ va_Nc E nm s)) (hx : covers x pc = true) (h0 : x.catchType ≠ 0)
    (hlink : (Cond.classLink own x.catchType name).before args s = true) (hcast : (Cond.castable E name).before args s = true) (hcell : H[q]? = some ce) (hv : ce.vm = .none) (hcl : s.vm.findClass E = some ce.cls)
    (kk : W p l e R s m args below meth c H locs cells slots Q (F0 m x.handlerPc ls [.ref q])) : vx_W p l e R s m args below meth c H locs cells slots Q (F0 m pc ls rest) q := by
  intro T hT X
  have hpl : e.platform.magicAccessors = ({} : Platform).magicAccessors := by rw [X.admits.platform]
  obtain ⟨c3, c4, hc3, hc4, hasg⟩ := Cond.castable_spec hcast
  cases Option.some.inj (hc3.symm.trans hcl)
  obtain ⟨c5, hc5, hcl5⟩ := Cond.classLink_spec hown hlink e.platform hpl
  cases Option.some.inj (hc4.symm.trans hc5)
  obtain ⟨vm', X', st⟩ := X.thenCaughtThrough q (g := F0 m pc ls rest) rfl (Steps.refl _) (by rw [hT]; exact hcell) (by rw [hv]; rfl) (by obtain ⟨k9, h9, -⟩ := Vm.findClass_spec hcl; exact ⟨k9, h9⟩) pre x suf hsplit
    (fun z hz => by
      rcases hpass z hz with h | ⟨hz0, nm, hl1, hn1⟩
      · exact Or.inl h
      · obtain ⟨c6, hc6, hcl6⟩ := Cond.classLink_spec hown hl1 e.platform hpl
        obtain ⟨a8, b8, h1, h2, h3⟩ := hn1
        cases Option.some.inj (h1.symm.trans hcl)
        cases Option.some.inj (h2.symm.trans hc6)
        exact Or.inr ⟨hz0, _, hcl6, h3⟩) hx (Or.inr ⟨h0, c4, hcl5, hasg⟩)
  obtain ⟨t, a1, b1⟩ := kk (T.setVm vm') hT X'
  exact ⟨t, st.trans a1, b1⟩
end Rows
section Ends
variable {p : Program} {l : Launch} {e : Env} {R : Room} {s : State} {m : MethodId} {args : Array Value} {below : List Frame} {meth : Method} {c : Code} {H : Heap} {locs : List Loc} {cells slots : Nat} {Q : State → Prop}
variable {mc ms : Nat} {free : Addr → Prop} {A0 A1 : Nat → Prop} {H0 : Heap} {a : Array Value} {ls : Array Slot} {st0 rest : List Value}
variable {Qc : Array Value → State → Outcome → State → Prop} {XC : String → State → State → Prop}
/-- what a body that may throw owes at its end -/
def vx_MQ (below : List Frame) (Qc : Array Value → State → Outcome → State → Prop) (XC : String → State → State → Prop) (a : Array Value) (s : State) (mc ms : Nat) (free : Addr → Prop) : State → Prop := fun t =>
  ∃ o, t.status = .running ∧ Ended t below o ∧ vx_Q Qc XC mc ms free a s o t
theorem vx_ret {g : JFrame} {mc ms : Nat} (k : W p l e R s m args below meth c H locs cells slots (MQ below Qc args s mc ms free) g) : W p l e R s m args below meth c H locs cells slots (vx_MQ below Qc XC args s mc ms free) g := by
  intro T hT X
  obtain ⟨t, a1, o, b1, b2, b3, b4⟩ := k T hT X
  exact ⟨t, a1, o, b1, b2, Or.inl ⟨b3, b4⟩⟩
/-- not caught here: it goes on to the caller -/
theorem vx_widen {g : JFrame} {q : Addr} {k n : Nat} (h1 : cells ≤ k) (h2 : slots ≤ n) (kk : vx_W p l e R s m args below meth c H locs k n Q g q) : vx_W p l e R s m args below meth c H locs cells slots Q g q := fun T hT X => kk T hT (stand_widen X h1 h2)
theorem vx_out {pc : Nat} {E : String} {ce : Cell} {q : Addr} {mc ms : Nat} (hout : ∀ x ∈ c.exceptionTable.toList, covers x pc = false) (hlocks : meth.locks = false) (hcell : H[q]? = some ce) (hv : ce.vm = .none) (hcl : s.vm.findClass E = some ce.cls)
    (hx : ∀ t : State, t.heap = H → s.vm.Alike t.vm → XC E s t) (hf : ∀ z ∈ locs, free z.base) (hc : cells ≤ mc) (hs : slots ≤ ms) :
    vx_W p l e R s m args below meth c H locs cells slots (vx_MQ below Qc XC args s mc ms free) (F0 m pc ls rest) q := by
  intro T hT X
  obtain ⟨st1, hrun, hend, hW, hsm⟩ := X.leaveThrown q (g := F0 m pc ls rest) rfl rfl rfl hout hlocks
  have hcell9 : (T.setFrames (.throwing q :: below)).heap[q]? = some ce := by
    show T.heap[q]? = some ce
    rw [hT]; exact hcell
  exact ⟨_, st1, .threw q, hrun, hend, Or.inr ⟨q, rfl, E, ce, locs, hx _ hT hW.alike, hcell9, hv, hcl, hW, hsm.mono hc hs, hf⟩⟩
theorem vx_frame {U : State} {k n : Nat} (h : s.sameButNew ({ U with vm := s.vm } : State) locs k n) : s.heap.size ≤ U.heap.size ∧ ∀ q : Nat, q < s.heap.size → (∀ z ∈ locs, z.base ≠ q) → U.heap[q]? = s.heap[q]? := by
  obtain ⟨-, h2, -, -, -, h6⟩ := h
  refine ⟨h2, fun q hq hz => ?_⟩
  obtain ⟨c9, e1, e2, e3, e4⟩ := h6 q _ (Array.getElem?_eq_getElem hq)
  have hs : c9.slots = (s.heap[q]).slots := Array.ext_getElem? fun i => e4 i fun hm => hz _ hm rfl
  have h9 : c9 = s.heap[q] := by
    rw [hs] at e2
    exact e2
  have e5 : U.heap[q]? = some c9 := e1
  rw [e5, h9, Array.getElem?_eq_getElem hq]
/-- the words of a throw but the four that speak of the heap -/
def vx_no (w : Cond) : Bool := decide (w ≠ .isRef (.static Bundle.tN "UNASSIGNED_STACK" Bundle.steD)) && decide (w ≠ .isRef (.static Bundle.tN "SUPPRESSED_SENTINEL" Bundle.listD)) && decide (w ≠ .laysStatic Bundle.tN "UNASSIGNED_STACK" Bundle.steD) && decide (w ≠ .laysStatic Bundle.tN "SUPPRESSED_SENTINEL" Bundle.listD)
def vx_at0 (own : String) (ic : Nat) (X : String) (names : List String) : List Cond := (Bundle.ownAtoms0 own ic X names).filter vx_no
def vx_atS (own : String) (ic : Nat) (X : String) (names : List String) : List Cond := (Bundle.ownAtoms own ic X names).filter vx_no
/-- a word that the tables alone decide, or a good one -/
def vx_ot (w : Cond) : Bool := w.onTables || goodWord w
theorem vx_ot_at {args a' : Array Value} {s U : State} {w : Cond} (hW : s.WarmedH U.vm) (hvm : s.vm = U.vm) (hg : vx_ot w = true) (h : w.before args s = true) : w.before a' U = true := by
  simp only [vx_ot, Bool.or_eq_true] at hg
  rcases hg with hg | hg
  · exact va_tabs hg hvm h
  · exact word_at hW (good_of_word hg) h
/-- a list's words: the good ones out of the method's own list, the others by premises of their own -/
theorem vx_hat {args : Array Value} {s : State} {L B : List Cond} (h1 : ∀ w ∈ L.filter goodWord, w.before args s = true) (h2 : ∀ w ∈ L.filter (fun w => !goodWord w), w ∈ B) (h3 : ∀ w ∈ B, w.before args s = true) : ∀ w ∈ L, w.before args s = true := by
  intro w hw
  by_cases g : goodWord w = true
  · exact h1 w (List.mem_filter.mpr ⟨hw, g⟩)
  · refine h3 w (h2 w (List.mem_filter.mpr ⟨hw, ?_⟩))
    show (!goodWord w) = true
    cases hgw : goodWord w
    · rfl
    · exact absurd hgw g
theorem vx_c {args : Array Value} {s : State} {w : Cond} {B : List Cond} (h : w.before args s = true) (t : ∀ w ∈ B, w.before args s = true) : ∀ w' ∈ w :: B, w'.before args s = true := fun w' h' => (List.mem_cons.mp h').elim (fun e => by rw [e]; exact h) (t w')
theorem vx_n {args : Array Value} {s : State} : ∀ w ∈ ([] : List Cond), w.before args s = true := fun _ h => nomatch h
theorem vx_own {args : Array Value} {s : State} {L : List Cond} (h1 : ∀ w ∈ L.filter vx_no, w.before args s = true)
    (hU : (Cond.isRef (.static Bundle.tN "UNASSIGNED_STACK" Bundle.steD)).before args s = true) (hN : (Cond.isRef (.static Bundle.tN "SUPPRESSED_SENTINEL" Bundle.listD)).before args s = true)
    (lU : (Cond.laysStatic Bundle.tN "UNASSIGNED_STACK" Bundle.steD).before args s = true) (lN : (Cond.laysStatic Bundle.tN "SUPPRESSED_SENTINEL" Bundle.listD).before args s = true) : ∀ w ∈ L, w.before args s = true := by
  intro w hw
  by_cases e1 : w = .isRef (.static Bundle.tN "UNASSIGNED_STACK" Bundle.steD)
  · rw [e1]; exact hU
  · by_cases e2 : w = .isRef (.static Bundle.tN "SUPPRESSED_SENTINEL" Bundle.listD)
    · rw [e2]; exact hN
    · by_cases e3 : w = .laysStatic Bundle.tN "UNASSIGNED_STACK" Bundle.steD
      · rw [e3]; exact lU
      · by_cases e4 : w = .laysStatic Bundle.tN "SUPPRESSED_SENTINEL" Bundle.listD
        · rw [e4]; exact lN
        · exact h1 w (List.mem_filter.mpr ⟨hw, by unfold vx_no; rw [decide_eq_true e1, decide_eq_true e2, decide_eq_true e3, decide_eq_true e4]; rfl⟩)
/-- where a static field lies, its class's statics cell in H -/
def vx_L (C n d : String) (A : Nat → Prop) (U : State) (H : Heap) : Prop := ∃ (c : ClassId) (k : Class) (i : Nat) (f : Field) (a : Nat) (cell : Cell), U.vm.findClass C = some c ∧ U.fieldFound? C n d = some (c, k, i, f) ∧ f.isStatic = true ∧ k.statics = some a ∧ H[a]? = some cell ∧ cell.vm.isStatics = true ∧ cell.cls = c ∧ f.slot < cell.slots.size ∧ k.staticTypes[f.slot]? = some f.type ∧ ¬ A a
theorem vx_L.moved {C n d : String} {A : Nat → Prop} {u U : State} {H : Heap} (hvm : u.vm.Alike U.vm) (h : vx_L C n d A u H) : vx_L C n d A U H := by
  obtain ⟨c, k, i, f, a, cell, h1, h2, h3, h4, h5, h6, h7, h8, h9, h10⟩ := h
  obtain ⟨k', hi', he⟩ := State.fieldFound?_setVm hvm h2
  exact ⟨c, k', i, f, a, cell, by rw [hvm.findClass]; exact h1, hi', h3, by rw [he]; exact h4, h5, h6, h7, h8, by rw [he]; exact h9, h10⟩
theorem vx_L.kept {C n d : String} {A : Nat → Prop} {U : State} {H H1 : Heap} (h : vx_L C n d A U H) (hq : ∀ a : Nat, a < H.size → ¬ A a → H1[a]? = H[a]?) : vx_L C n d A U H1 := by
  obtain ⟨c, k, i, f, a, cell, h1, h2, h3, h4, h5, h6, h7, h8, h9, h10⟩ := h
  exact ⟨c, k, i, f, a, cell, h1, h2, h3, h4, by rw [hq a (Array.getElem?_eq_some_iff.mp h5).1 h10]; exact h5, h6, h7, h8, h9, h10⟩
theorem vx_L.narrow {C n d : String} {A B : Nat → Prop} {U : State} {H : Heap} (h : vx_L C n d A U H) (hAB : ∀ q, B q → A q) : vx_L C n d B U H := by
  obtain ⟨c, k, i, f, a, cell, h1, h2, h3, h4, h5, h6, h7, h8, h9, h10⟩ := h
  exact ⟨c, k, i, f, a, cell, h1, h2, h3, h4, h5, h6, h7, h8, h9, fun z => h10 (hAB _ z)⟩
theorem vx_L.word {C n d : String} {A : Nat → Prop} {s : State} {args : Array Value} (h : vx_L C n d A s s.heap) : (Cond.laysStatic C n d).before args s = true := by
  obtain ⟨c, k, i, f, a, cell, h1, h2, h3, h4, h5, h6, h7, h8, h9, -⟩ := h
  show (Cond.laysStatic C n d).holds args s none s [] = true
  exact Cond.laysStatic_of h1 h2 h3 h4 h5 h6 h7 h8 h9
/-- .. and what it holds: null or some reference -/
def vx_Zq (C n d : String) (A : Nat → Prop) (U : State) (H : Heap) : Prop := va_Zq C n d A U H ∧ vx_L C n d A U H
theorem vx_Zq.moved {C n d : String} {A : Nat → Prop} {u U : State} {H : Heap} (hvm : u.vm.Alike U.vm) (h : vx_Zq C n d A u H) : vx_Zq C n d A U H := ⟨va_Zq.moved hvm h.1, vx_L.moved hvm h.2⟩
theorem vx_Zq.kept {C n d : String} {A : Nat → Prop} {U : State} {H H1 : Heap} (h : vx_Zq C n d A U H) (hq : ∀ a : Nat, a < H.size → ¬ A a → H1[a]? = H[a]?) : vx_Zq C n d A U H1 := ⟨va_Zq.kept h.1 hq, vx_L.kept h.2 hq⟩
theorem vx_Zq.narrow {C n d : String} {A B : Nat → Prop} {U : State} {H : Heap} (h : vx_Zq C n d A U H) (hAB : ∀ q, B q → A q) : vx_Zq C n d B U H := ⟨va_Zq.narrow h.1 hAB, vx_L.narrow h.2 hAB⟩
theorem vx_Zqof {args : Array Value} {s : State} {C n d : String} {A : Nat → Prop} (hl : (Cond.laysStatic C n d).before args s = true) (hini : (Cond.initialized C).before args s = true) (h : (Cond.isRef (.static C n d)).before args s = true) (hA : ∀ a : Nat, a < s.heap.size → ¬ A a) : vx_Zq C n d A s s.heap := by
  refine ⟨va_Zqof hl hini h hA, ?_⟩
  obtain ⟨c, k, i, f, a, cell, h1, h2, h3, h4, h5, h6, h7, h8, h9⟩ := Cond.laysStatic_spec hl
  exact ⟨c, k, i, f, a, cell, h1, h2, h3, h4, h5, h6, h7, h8, h9, hA a (Array.getElem?_eq_some_iff.mp h5).1⟩
theorem vx_isRef {C n d : String} {v : Value} {A : Nat → Prop} {s : State} {args : Array Value} (h : va_Z C n d v A s s.heap) (hv : v.isRef = true) : (Cond.isRef (.static C n d)).before args s = true := by
  obtain ⟨cf, kf, fi, f, a, cell, h1, h2, h3, h4, h5, h6, h7, -⟩ := h
  have he : (Term.static C n d).eval args s none [] s = some v := by
    simp [Term.eval, State.fieldNamed?, h1, h2, h4, h5, h6, h7]
  simp only [Cond.before, Cond.holds, Cond.value, he]
  cases v <;> simp_all [Value.isRef]
theorem vx_isRefq {C n d : String} {A : Nat → Prop} {s : State} {args : Array Value} (h : va_Zq C n d A s s.heap) : (Cond.isRef (.static C n d)).before args s = true := by
  rcases h with h | ⟨t, h⟩
  · exact vx_isRef h rfl
  · exact vx_isRef h rfl
/-- the same frame, seen from here: as if the method were called anew in this heap -/
theorem vx_rebase {T : State} (X : Stand p l e R s m args below meth c T locs cells slots) {R' : Room} (hf : R'.frames ≤ R.frames) (hl : R'.locals ≤ R.locals) (hc : cells + R'.cells ≤ R.cells) (hs : slots + R'.slots ≤ R.slots) :
    Stand p l e R' ((T.setVm s.vm).setFrames (.invoking m args :: below)) m args below meth c T [] 0 0 := by
  have htop : (T.setVm s.vm).topJava?.isSome := X.here.top
  have hF : ((T.setVm s.vm).setFrames (.invoking m args :: below)).frames = .invoking m args :: below := State.frames_setFrames _ (State.cur_lt_of_top htop)
  obtain ⟨g₀, hg0⟩ := Option.isSome_iff_exists.mp htop
  obtain ⟨r, hr⟩ := State.topJava?_eq_some.mp hg0
  have hl9 : e.platform.stackLimits (T.setVm s.vm).me = e.platform.stackLimits s.me := X.limits
  have hb9 : (T.setVm s.vm).me.stackBytes = s.me.stackBytes := X.bytes
  refine ⟨X.admits, X.cas, X.clock, hF, ?_, X.hears, X.method, X.code, X.here, X.tail, X.warmed, ?_, ?_, ?_⟩
  · have h := X.room
    have hU : ((T.setVm s.vm).setFrames (.invoking m args :: below)).localsInUse = s.localsInUse := by
      rw [State.localsInUse_invoking hF (meth := meth) (c := c) X.method X.code, State.localsInUse_invoking X.frames X.method X.code]
    simp only [State.hasRoom, Bool.and_eq_true, decide_eq_true_eq] at h ⊢
    obtain ⟨⟨⟨⟨h1, h2, h3, h4, h5, h6⟩, h7⟩, h8⟩, h9⟩ := h
    rw [X.frames, List.length_cons] at h2 h3
    have q1 := X.heapSize
    have q2 := X.used
    simp only [hF, hU, List.length_cons, State.stackLimits_setFrames, State.stackBytes_setFrames, hl9, hb9]
    refine ⟨⟨⟨⟨by omega, by omega, by omega, by omega, by omega, h6⟩, ?_⟩, ?_⟩, X.book⟩
    · show T.heap.size + R'.cells ≤ e.platform.maxCells
      omega
    · show T.slotsUsed + R'.slots ≤ e.platform.maxSlots
      omega
  · rw [State.stackLimits_setFrames]; rfl
  · rw [State.stackBytes_setFrames]; rfl
  · refine ⟨?_, Nat.le_refl _, Nat.le_refl _, ?_, ?_, fun a c9 h9 => ⟨c9, h9, rfl, rfl, fun _ _ => rfl⟩⟩
    · obtain ⟨t, ht, -⟩ := State.frames_cons hr
      show T.setVm s.vm = { ((T.setVm s.vm).setFrames (.invoking m args :: below)).setFrames (T.setVm s.vm).frames with heap := T.heap, slotsUsed := T.slotsUsed }
      rw [State.setFrames_setFrames, State.setFrames_self ht]
      rfl
    · show T.slotsUsed = T.slotsUsed + ((T.heap.toList.drop T.heap.size).map (·.slots.size)).sum
      rw [List.drop_eq_nil_of_le (Nat.le_of_eq Array.length_toList)]
      rfl
    · show ((T.heap.toList.drop T.heap.size).map (·.slots.size)).sum ≤ 0
      rw [List.drop_eq_nil_of_le (Nat.le_of_eq Array.length_toList)]
      exact Nat.le_refl _
/-- 'throw new E()': new; dup; invokespecial; athrow -/
theorem vx_throw0 {cc : ByteArray} {pc : Nat} (hexec : p.tables.exec = Jvm.exec) (hb : c.code = cc) (hl : l.stackTraces = false) {own cls : String} {names : List String} {ik ic mc ms : Nat} {A : Nat → Prop}
    (hown : s.vm.findClass own = some m.cls) (hcls : Bundle.fit cls = true) (hnames : ∀ n ∈ names, Bundle.fit n = true)
    (hk : (Cond.classLink own ik cls).before args s = true) (hini : (Cond.initialized cls).before args s = true) (hat : ∀ w ∈ vx_at0 own ic cls names, w.before args s = true)
    (hgood : ∀ w ∈ Cond.classLink own ik cls :: Cond.initialized cls :: vx_at0 own ic cls names, vx_ot w = true)
    (hU : vx_Zq Bundle.tN "UNASSIGNED_STACK" Bundle.steD A s s.heap) (hN : vx_Zq Bundle.tN "SUPPRESSED_SENTINEL" Bundle.listD A s s.heap) (hS : va_S A s.heap H locs) (hsize : ls.size = c.maxLocals)
    (d0 : decode cc pc = .ok (.new ik, 3)) (d3 : decode cc (pc + 3) = .ok (.dup, 1)) (d4 : decode cc (pc + 4) = .ok (.invokespecial ic, 3)) (d7 : decode cc (pc + 7) = .ok (.athrow, 1))
    (hout : ∀ x ∈ c.exceptionTable.toList, covers x (pc + 7) = false)
    (hRframes : names.length + 3 < R.frames) (hRlocals : (rest.map fun v => v.category).sum + (13 * (names.length + 1) + 42) ≤ R.locals) (hRcells : cells + 1 ≤ R.cells) (hRslots : slots + 6 ≤ R.slots) (hlocks : meth.locks = false)
    (hx : ∀ t : State, s.vm.Alike t.vm → H.size ≤ t.heap.size → (∀ q : Nat, q < H.size → t.heap[q]? = H[q]?) → XC cls s t)
    (hf : ∀ z ∈ locs, free z.base) (hc : cells + 1 ≤ mc) (hs : slots + 6 ≤ ms) :
    W p l e R s m args below meth c H locs cells slots (vx_MQ below Qc XC args s mc ms free) (F0 m pc ls rest) := by
  intro T hT X
  have htr : e.platform.stackTraces = false := (show e.platform.stackTraces = l.stackTraces by rw [X.admits.platform]).trans hl
  have Y := vx_rebase X (R' := { frames := R.frames, locals := R.locals, cells := 1, slots := 6 }) (Nat.le_refl _) (Nat.le_refl _) hRcells hRslots
  obtain ⟨s', hA⟩ : ∃ z, z = (T.setVm s.vm).setFrames (.invoking m args :: below) := ⟨_, rfl⟩
  rw [← hA] at Y
  have hvm : s'.vm = s.vm := by rw [hA]; rfl
  have hhp : s'.heap = H := by rw [hA]; exact hT
  have hW0 : s.WarmedH s'.vm := by rw [hvm]; exact State.WarmedH.refl s
  have hat' : ∀ w ∈ vx_at0 own ic cls names, w.before args s' = true := fun w hw => vx_ot_at hW0 hvm.symm (hgood w (List.mem_cons_of_mem _ (List.mem_cons_of_mem _ hw))) (hat w hw)
  have hk' : (Cond.classLink own ik cls).before args s' = true := vx_ot_at hW0 hvm.symm (hgood _ List.mem_cons_self) hk
  have hini' : (Cond.initialized cls).before args s' = true := vx_ot_at hW0 hvm.symm (hgood _ (List.mem_cons_of_mem _ List.mem_cons_self)) hini
  have hU' : vx_Zq Bundle.tN "UNASSIGNED_STACK" Bundle.steD A s' s'.heap := by rw [hhp]; exact vx_Zq.moved hW0.alike (hU.kept hS.2.1)
  have hN' : vx_Zq Bundle.tN "SUPPRESSED_SENTINEL" Bundle.listD A s' s'.heap := by rw [hhp]; exact vx_Zq.moved hW0.alike (hN.kept hS.2.1)
  have h : ∀ w ∈ Bundle.ownAtoms0 own ic cls names, w.before args s' = true := vx_own hat' (vx_isRefq hU'.1) (vx_isRefq hN'.1) hU'.2.word hN'.2.word
  have hown' : s'.vm.findClass own = some m.cls := by rw [hvm]; exact hown
  have hins : (Cond.instantiable cls 6).before args s' = true := h _ (by simp [Bundle.ownAtoms0])
  obtain ⟨vm₁, cX, kX, hfX, hkX, -, -, X₁, st1⟩ := Y.newCold hexec (own := own) (C := cls) (index := ik) (n := 6) hown' hk' hins hini'
    (g := F0 m pc ls rest) rfl (by rw [hb]; exact d0) (Nat.le_refl _) (Nat.le_refl _)
  generalize hT1 : (T.setVm vm₁).pushCell { cls := cX, slots := kX.instanceTypes.map defaultValue, vm := .none } = T1 at X₁ st1
  have hcat : (Value.ref T.heap.size).category = 1 := rfl
  have hcellA : T1.heap[T.heap.size]? = some (freshCell cX kX) := by rw [← hT1]; exact State.heap_pushCell_size _ _
  have d3' : decode c.code (pc + 3) = .ok (.dup, 1) := by rw [hb]; exact d3
  obtain ⟨U, hsteps, hrun, hend, hW, hsame, ce, hce, hO⟩ := X₁.ctorThrow0 hexec htr (own := own) (cls := cls) (names := names) (ic := ic) hown' hcls hnames h (fun x hx => nomatch hx) hfX hkX hcellA (by rw [hhp, hT]; exact Nat.le_refl _)
    (g := { method := m, pc := pc + 4, locals := ls, stack := .ref T.heap.size :: .ref T.heap.size :: rest, locked := none }) rfl hsize rfl rfl (rest := rest) rfl
    (by rw [hb]; exact d4) (by rw [hb]; exact d7) hout hRframes (by simp only [List.map_cons, List.sum_cons, hcat]; omega) hlocks
  obtain ⟨f1, f2⟩ := vx_frame hsame
  rw [hhp] at f1 f2
  have hWs : s.WarmedH U.vm := State.WarmedH.trans hW0 hW
  have hcl : s.vm.findClass cls = some ce.cls := by
    have h9 := hO.cls
    rw [hvm] at h9
    exact h9
  have hall : s.sameButNew ({ U with vm := s.vm } : State) locs mc ms := by
    subst hA
    obtain ⟨e1, e2⟩ := hsame
    rw [State.setFrames_setFrames] at e1
    have h2 : (T.setVm s.vm).sameButNew ({ U with vm := s.vm } : State) [] (0 + 1) (0 + 6) := ⟨e1, e2⟩
    have h3 := X.same.trans h2
    rw [List.append_nil] at h3
    exact h3.mono hc hs
  refine ⟨U, ?_, .threw T.heap.size, hrun, hend, Or.inr ⟨T.heap.size, rfl, cls, ce, locs, hx U hWs.alike f1 (fun q hq => f2 q hq (fun z hz => nomatch hz)), hce, hO.vm, hcl, hWs, hall, hf⟩⟩
  refine st1 _ ?_
  show Steps p.tables e below (T1.setTop { method := m, pc := pc + 3, locals := ls, stack := .ref T.heap.size :: rest, locked := none }) _
  jvm_step X₁.here [X₁.here.top, hexec, d3', Value.category]
  exact hsteps
/-- 'throw new E("text")': new; dup; ldc; invokespecial; athrow -/
theorem vx_throwS {cc : ByteArray} {pc : Nat} (hexec : p.tables.exec = Jvm.exec) (hb : c.code = cc) (hl : l.stackTraces = false) {own cls text : String} {names : List String} {ik is ic mc ms sa : Nat} {A : Nat → Prop}
    (hown : s.vm.findClass own = some m.cls) (hcls : Bundle.fit cls = true) (hnames : ∀ n ∈ names, Bundle.fit n = true)
    (hk : (Cond.classLink own ik cls).before args s = true) (hini : (Cond.initialized cls).before args s = true) (hstr : vk_R own is text sa s) (hat : ∀ w ∈ vx_atS own ic cls names, w.before args s = true)
    (hgood : ∀ w ∈ Cond.classLink own ik cls :: Cond.initialized cls :: vx_atS own ic cls names, vx_ot w = true)
    (hU : vx_Zq Bundle.tN "UNASSIGNED_STACK" Bundle.steD A s s.heap) (hN : vx_Zq Bundle.tN "SUPPRESSED_SENTINEL" Bundle.listD A s s.heap) (hS : va_S A s.heap H locs) (hsize : ls.size = c.maxLocals)
    (d0 : decode cc pc = .ok (.new ik, 3)) (d3 : decode cc (pc + 3) = .ok (.dup, 1)) (d4 : decode cc (pc + 4) = .ok (.ldc is, 2)) (d6 : decode cc (pc + 6) = .ok (.invokespecial ic, 3)) (d9 : decode cc (pc + 9) = .ok (.athrow, 1))
    (hout : ∀ x ∈ c.exceptionTable.toList, covers x (pc + 9) = false)
    (hRframes : names.length + 3 < R.frames) (hRlocals : (rest.map fun v => v.category).sum + (13 * (names.length + 1) + 43) ≤ R.locals) (hRcells : cells + 1 ≤ R.cells) (hRslots : slots + 6 ≤ R.slots) (hlocks : meth.locks = false)
    (hx : ∀ t : State, s.vm.Alike t.vm → H.size ≤ t.heap.size → (∀ q : Nat, q < H.size → t.heap[q]? = H[q]?) → XC cls s t)
    (hf : ∀ z ∈ locs, free z.base) (hc : cells + 1 ≤ mc) (hs : slots + 6 ≤ ms) :
    W p l e R s m args below meth c H locs cells slots (vx_MQ below Qc XC args s mc ms free) (F0 m pc ls rest) := by
  intro T hT X
  have htr : e.platform.stackTraces = false := (show e.platform.stackTraces = l.stackTraces by rw [X.admits.platform]).trans hl
  have Y := vx_rebase X (R' := { frames := R.frames, locals := R.locals, cells := 1, slots := 6 }) (Nat.le_refl _) (Nat.le_refl _) hRcells hRslots
  obtain ⟨s', hA⟩ : ∃ z, z = (T.setVm s.vm).setFrames (.invoking m args :: below) := ⟨_, rfl⟩
  rw [← hA] at Y
  have hvm : s'.vm = s.vm := by rw [hA]; rfl
  have hhp : s'.heap = H := by rw [hA]; exact hT
  have hW0 : s.WarmedH s'.vm := by rw [hvm]; exact State.WarmedH.refl s
  have hat' : ∀ w ∈ vx_atS own ic cls names, w.before args s' = true := fun w hw => vx_ot_at hW0 hvm.symm (hgood w (List.mem_cons_of_mem _ (List.mem_cons_of_mem _ hw))) (hat w hw)
  have hk' : (Cond.classLink own ik cls).before args s' = true := vx_ot_at hW0 hvm.symm (hgood _ List.mem_cons_self) hk
  have hini' : (Cond.initialized cls).before args s' = true := vx_ot_at hW0 hvm.symm (hgood _ (List.mem_cons_of_mem _ List.mem_cons_self)) hini
  have hU' : vx_Zq Bundle.tN "UNASSIGNED_STACK" Bundle.steD A s' s'.heap := by rw [hhp]; exact vx_Zq.moved hW0.alike (hU.kept hS.2.1)
  have hN' : vx_Zq Bundle.tN "SUPPRESSED_SENTINEL" Bundle.listD A s' s'.heap := by rw [hhp]; exact vx_Zq.moved hW0.alike (hN.kept hS.2.1)
  have h : ∀ w ∈ Bundle.ownAtoms own ic cls names, w.before args s' = true := vx_own hat' (vx_isRefq hU'.1) (vx_isRefq hN'.1) hU'.2.word hN'.2.word
  have hown' : s'.vm.findClass own = some m.cls := by rw [hvm]; exact hown
  have hins : (Cond.instantiable cls 6).before args s' = true := h _ (by simp [Bundle.ownAtoms])
  obtain ⟨vm₁, cX, kX, hfX, hkX, -, -, X₁, st1⟩ := Y.newCold hexec (own := own) (C := cls) (index := ik) (n := 6) hown' hk' hins hini'
    (g := F0 m pc ls rest) rfl (by rw [hb]; exact d0) (Nat.le_refl _) (Nat.le_refl _)
  generalize hT1 : (T.setVm vm₁).pushCell { cls := cX, slots := kX.instanceTypes.map defaultValue, vm := .none } = T1 at X₁ st1
  have hcat : (Value.ref T.heap.size).category = 1 := rfl
  have hcellA : T1.heap[T.heap.size]? = some (freshCell cX kX) := by rw [← hT1]; exact State.heap_pushCell_size _ _
  have d3' : decode c.code (pc + 3) = .ok (.dup, 1) := by rw [hb]; exact d3
  have d4' : decode c.code (pc + 4) = .ok (.ldc is, 2) := by rw [hb]; exact d4
  have hstr' : vk_R own is text sa s' := vk_R.warm hW0 hstr
  obtain ⟨U, hsteps, hrun, hend, hW, hsame, ce, hce, hO⟩ := X₁.ctorThrowS hexec htr (own := own) (cls := cls) (names := names) (ic := ic) hown' hcls hnames h (fun x hx => nomatch hx) hfX hkX hcellA (by rw [hhp, hT]; exact Nat.le_refl _) (msg := .ref sa) rfl
    (g := { method := m, pc := pc + 6, locals := ls, stack := .ref sa :: .ref T.heap.size :: .ref T.heap.size :: rest, locked := none }) rfl hsize rfl rfl (rest := rest) rfl
    (by rw [hb]; exact d6) (by rw [hb]; exact d9) hout hRframes (by simp only [List.map_cons, List.sum_cons, hcat]; omega) hlocks
  obtain ⟨f1, f2⟩ := vx_frame hsame
  rw [hhp] at f1 f2
  have hWs : s.WarmedH U.vm := State.WarmedH.trans hW0 hW
  have hcl : s.vm.findClass cls = some ce.cls := by
    have h9 := hO.cls
    rw [hvm] at h9
    exact h9
  have hall : s.sameButNew ({ U with vm := s.vm } : State) locs mc ms := by
    subst hA
    obtain ⟨e1, e2⟩ := hsame
    rw [State.setFrames_setFrames] at e1
    have h2 : (T.setVm s.vm).sameButNew ({ U with vm := s.vm } : State) [] (0 + 1) (0 + 6) := ⟨e1, e2⟩
    have h3 := X.same.trans h2
    rw [List.append_nil] at h3
    exact h3.mono hc hs
  refine ⟨U, ?_, .threw T.heap.size, hrun, hend, Or.inr ⟨T.heap.size, rfl, cls, ce, locs, hx U hWs.alike f1 (fun q hq => f2 q hq (fun z hz => nomatch hz)), hce, hO.vm, hcl, hWs, hall, hf⟩⟩
  refine st1 _ ?_
  show Steps p.tables e below (T1.setTop { method := m, pc := pc + 3, locals := ls, stack := .ref T.heap.size :: rest, locked := none }) _
  jvm_step X₁.here [X₁.here.top, hexec, d3', Value.category]
  exact X₁.ldcString hexec (own := own) (text := text) (index := is) (a := sa) hown' hstr'.1 hstr'.2
    (g := { method := m, pc := pc + 4, locals := ls, stack := .ref T.heap.size :: .ref T.heap.size :: rest, locked := none }) rfl d4' _ hsteps
/-- 'throw new E("text")', the text by a wide index -/
theorem vx_throwSW {cc : ByteArray} {pc : Nat} (hexec : p.tables.exec = Jvm.exec) (hb : c.code = cc) (hl : l.stackTraces = false) {own cls text : String} {names : List String} {ik is ic mc ms sa : Nat} {A : Nat → Prop}
    (hown : s.vm.findClass own = some m.cls) (hcls : Bundle.fit cls = true) (hnames : ∀ n ∈ names, Bundle.fit n = true)
    (hk : (Cond.classLink own ik cls).before args s = true) (hini : (Cond.initialized cls).before args s = true) (hstr : vk_R own is text sa s) (hat : ∀ w ∈ vx_atS own ic cls names, w.before args s = true)
    (hgood : ∀ w ∈ Cond.classLink own ik cls :: Cond.initialized cls :: vx_atS own ic cls names, vx_ot w = true)
    (hU : vx_Zq Bundle.tN "UNASSIGNED_STACK" Bundle.steD A s s.heap) (hN : vx_Zq Bundle.tN "SUPPRESSED_SENTINEL" Bundle.listD A s s.heap) (hS : va_S A s.heap H locs) (hsize : ls.size = c.maxLocals)
    (d0 : decode cc pc = .ok (.new ik, 3)) (d3 : decode cc (pc + 3) = .ok (.dup, 1)) (d4 : decode cc (pc + 4) = .ok (.ldc_w is, 3)) (d7 : decode cc (pc + 7) = .ok (.invokespecial ic, 3)) (d10 : decode cc (pc + 10) = .ok (.athrow, 1))
    (hout : ∀ x ∈ c.exceptionTable.toList, covers x (pc + 10) = false)
    (hRframes : names.length + 3 < R.frames) (hRlocals : (rest.map fun v => v.category).sum + (13 * (names.length + 1) + 43) ≤ R.locals) (hRcells : cells + 1 ≤ R.cells) (hRslots : slots + 6 ≤ R.slots) (hlocks : meth.locks = false)
    (hx : ∀ t : State, s.vm.Alike t.vm → H.size ≤ t.heap.size → (∀ q : Nat, q < H.size → t.heap[q]? = H[q]?) → XC cls s t)
    (hf : ∀ z ∈ locs, free z.base) (hc : cells + 1 ≤ mc) (hs : slots + 6 ≤ ms) :
    W p l e R s m args below meth c H locs cells slots (vx_MQ below Qc XC args s mc ms free) (F0 m pc ls rest) := by
  intro T hT X
  have htr : e.platform.stackTraces = false := (show e.platform.stackTraces = l.stackTraces by rw [X.admits.platform]).trans hl
  have Y := vx_rebase X (R' := { frames := R.frames, locals := R.locals, cells := 1, slots := 6 }) (Nat.le_refl _) (Nat.le_refl _) hRcells hRslots
  obtain ⟨s', hA⟩ : ∃ z, z = (T.setVm s.vm).setFrames (.invoking m args :: below) := ⟨_, rfl⟩
  rw [← hA] at Y
  have hvm : s'.vm = s.vm := by rw [hA]; rfl
  have hhp : s'.heap = H := by rw [hA]; exact hT
  have hW0 : s.WarmedH s'.vm := by rw [hvm]; exact State.WarmedH.refl s
  have hat' : ∀ w ∈ vx_atS own ic cls names, w.before args s' = true := fun w hw => vx_ot_at hW0 hvm.symm (hgood w (List.mem_cons_of_mem _ (List.mem_cons_of_mem _ hw))) (hat w hw)
  have hk' : (Cond.classLink own ik cls).before args s' = true := vx_ot_at hW0 hvm.symm (hgood _ List.mem_cons_self) hk
  have hini' : (Cond.initialized cls).before args s' = true := vx_ot_at hW0 hvm.symm (hgood _ (List.mem_cons_of_mem _ List.mem_cons_self)) hini
  have hU' : vx_Zq Bundle.tN "UNASSIGNED_STACK" Bundle.steD A s' s'.heap := by rw [hhp]; exact vx_Zq.moved hW0.alike (hU.kept hS.2.1)
  have hN' : vx_Zq Bundle.tN "SUPPRESSED_SENTINEL" Bundle.listD A s' s'.heap := by rw [hhp]; exact vx_Zq.moved hW0.alike (hN.kept hS.2.1)
  have h : ∀ w ∈ Bundle.ownAtoms own ic cls names, w.before args s' = true := vx_own hat' (vx_isRefq hU'.1) (vx_isRefq hN'.1) hU'.2.word hN'.2.word
  have hown' : s'.vm.findClass own = some m.cls := by rw [hvm]; exact hown
  have hins : (Cond.instantiable cls 6).before args s' = true := h _ (by simp [Bundle.ownAtoms])
  obtain ⟨vm₁, cX, kX, hfX, hkX, -, -, X₁, st1⟩ := Y.newCold hexec (own := own) (C := cls) (index := ik) (n := 6) hown' hk' hins hini'
    (g := F0 m pc ls rest) rfl (by rw [hb]; exact d0) (Nat.le_refl _) (Nat.le_refl _)
  generalize hT1 : (T.setVm vm₁).pushCell { cls := cX, slots := kX.instanceTypes.map defaultValue, vm := .none } = T1 at X₁ st1
  have hcat : (Value.ref T.heap.size).category = 1 := rfl
  have hcellA : T1.heap[T.heap.size]? = some (freshCell cX kX) := by rw [← hT1]; exact State.heap_pushCell_size _ _
  have d3' : decode c.code (pc + 3) = .ok (.dup, 1) := by rw [hb]; exact d3
  have d4' : decode c.code (pc + 4) = .ok (.ldc_w is, 3) := by rw [hb]; exact d4
  have hstr' : vk_R own is text sa s' := vk_R.warm hW0 hstr
  obtain ⟨U, hsteps, hrun, hend, hW, hsame, ce, hce, hO⟩ := X₁.ctorThrowS hexec htr (own := own) (cls := cls) (names := names) (ic := ic) hown' hcls hnames h (fun x hx => nomatch hx) hfX hkX hcellA (by rw [hhp, hT]; exact Nat.le_refl _) (msg := .ref sa) rfl
    (g := { method := m, pc := pc + 7, locals := ls, stack := .ref sa :: .ref T.heap.size :: .ref T.heap.size :: rest, locked := none }) rfl hsize rfl rfl (rest := rest) rfl
    (by rw [hb]; exact d7) (by rw [hb]; exact d10) hout hRframes (by simp only [List.map_cons, List.sum_cons, hcat]; omega) hlocks
  obtain ⟨f1, f2⟩ := vx_frame hsame
  rw [hhp] at f1 f2
  have hWs : s.WarmedH U.vm := State.WarmedH.trans hW0 hW
  have hcl : s.vm.findClass cls = some ce.cls := by
    have h9 := hO.cls
    rw [hvm] at h9
    exact h9
  have hall : s.sameButNew ({ U with vm := s.vm } : State) locs mc ms := by
    subst hA
    obtain ⟨e1, e2⟩ := hsame
    rw [State.setFrames_setFrames] at e1
    have h2 : (T.setVm s.vm).sameButNew ({ U with vm := s.vm } : State) [] (0 + 1) (0 + 6) := ⟨e1, e2⟩
    have h3 := X.same.trans h2
    rw [List.append_nil] at h3
    exact h3.mono hc hs
  refine ⟨U, ?_, .threw T.heap.size, hrun, hend, Or.inr ⟨T.heap.size, rfl, cls, ce, locs, hx U hWs.alike f1 (fun q hq => f2 q hq (fun z hz => nomatch hz)), hce, hO.vm, hcl, hWs, hall, hf⟩⟩
  refine st1 _ ?_
  show Steps p.tables e below (T1.setTop { method := m, pc := pc + 3, locals := ls, stack := .ref T.heap.size :: rest, locked := none }) _
  jvm_step X₁.here [X₁.here.top, hexec, d3', Value.category]
  exact X₁.ldcStringW hexec (own := own) (text := text) (index := is) (a := sa) hown' hstr'.1 hstr'.2
    (g := { method := m, pc := pc + 4, locals := ls, stack := .ref T.heap.size :: .ref T.heap.size :: rest, locked := none }) rfl d4' _ hsteps
end Ends
section Bodies
variable {l : Launch}
theorem vx_ofW {y : MethodName} {ws ws' : List Cond} {rm : Room} {Pc : Array Value → State → Prop} {Qc : Array Value → State → Outcome → State → Prop} {XC : String → State → State → Prop} {mc ms : Nat} {free : Addr → Prop} {cc : ByteArray} {maxL : Nat} {ret : Option FieldType}
    (hy : plainName y.cls = true) (hw : ws = Cond.code y cc maxL ret :: ws')
    (body : ∀ p e s m args below meth c s₁, BodyLoose p l y (headSpec ws rm) cc maxL ret e s m args below meth c s₁ → c.maxLocals = maxL → (∀ x ∈ c.exceptionTable.toList, False) → Pc args s →
      W p l e (headSpec ws rm).room s m args below meth c s.heap [] 0 0 (vx_MQ below Qc XC args s mc ms free) (entryFrame m args maxL)) : vx_Met l y ws rm Pc Qc XC mc ms free := by
  refine MetFree.of_bodyS (code := cc) (maxLocals := maxL) (ret := ret) hy ?_ ?_
  · intro args s m h hn
    obtain ⟨meth, c, h1, h2, h3, h4, h5, h6, -, -⟩ := Cond.code_spec hn (atoms_spec (ws := ws) h _ (by rw [hw]; exact List.mem_cons_self))
    exact ⟨meth, c, h1, h2, h3, h4, h5, h6⟩
  · intro p e s m args below meth c s₁ B hml hP _
    have hh0 : s₁.heap = s.heap := by rw [B.state]; rfl
    have ht : ∀ x ∈ c.exceptionTable.toList, False := by
      obtain ⟨meth9, c9, h1, h2, -, -, -, -, h7, -⟩ := Cond.code_spec B.named (atoms_spec (ws := ws) B.pre _ (by rw [hw]; exact List.mem_cons_self))
      cases Option.some.inj (h1.symm.trans B.method)
      cases Option.some.inj (h2.symm.trans (Stand.of_body B).code)
      intro x hx
      rw [Array.isEmpty_iff.mp h7] at hx
      cases hx
    obtain ⟨t, a1, o, b1, b2, b3⟩ := body p e s m args below meth c s₁ B hml ht hP s₁ hh0 (Stand.of_body B)
    exact ⟨t, o, a1, b1, b2, b3⟩
/-- the table of a body with handlers -/
theorem vx_table {p : Program} {x y : MethodName} {S : Spec} {cc bytes : ByteArray} {maxL maxL' : Nat} {ret ret' : Option FieldType} {e : Env} {s s₁ : State} {m : MethodId} {args : Array Value} {below : List Frame} {meth : Method} {c : Code} {hh : List (Nat × Nat × Nat × Nat)}
    (B : BodyLoose p l y S cc maxL ret e s m args below meth c s₁) (h : (Cond.codeWith y bytes maxL' ret' hh).before args s = true) : c.exceptionTable.toList = tableOf hh := by
  obtain ⟨m9, meth9, c9, hn9, h1, h2, -, -, h6, -⟩ := Cond.codeWith_spec h
  cases Option.some.inj (hn9.symm.trans B.named)
  cases Option.some.inj (h1.symm.trans B.method)
  cases Option.some.inj (h2.symm.trans (Stand.of_body B).code)
  rw [← h6, table_eq]
end Bodies
end VXA
/-! ===== END ===== -/
/-! ===== BEGIN a static call of a method with an exception table ===== -/
section VXS
variable {p : Program} {l : Launch} {e : Env} {R : Room} {s : State} {m : MethodId} {args : Array Value} {below : List Frame} {meth : Method} {c : Code} {T : State} {H : Heap} {locs : List Loc} {cells slots : Nat}
abbrev vx_CSW (R : Room) (s : State) (args : Array Value) (own : String) (index : Nat) (y : MethodName) (bytes : ByteArray) (maxL : Nat) (ret : Option FieldType) (hh : List (Nat × Nat × Nat × Nat)) (ws : List Cond) (rm : Room) (mc ms n : Nat) : Prop :=
  (rm.cells = mc ∧ rm.slots = ms ∧ rm.frames + 1 ≤ R.frames ∧ 8 + (maxL + 11) + rm.locals ≤ R.locals ∧ (∀ w ∈ ws, ∀ (a' : Array Value) (U : State), s.WarmedH U.vm → w.before a' U = true) ∧ Cond.codeWith y bytes maxL ret hh ∈ ws) ∧
  (Cond.codeWith y bytes maxL ret hh).before args s = true ∧ (Cond.initialized y.cls).before args s = true ∧ (y.cls ≠ "java/lang/invoke/MethodHandle" ∧ y.cls ≠ "java/lang/invoke/VarHandle") ∧
  (∀ sig, parseMethodDescriptor y.desc = some sig → n = sig.parameters.length) ∧ (Cond.methodLink own index y).before args s = true ∧ (Cond.static y).before args s = true
theorem vx_cwSW {own : String} {index maxL mc ms : Nat} {y : MethodName} {bytes : ByteArray} {ret : Option FieldType} {hh : List (Nat × Nat × Nat × Nat)} {Ts ws ws' : List Cond} {rm : Room} (n : Nat) (ht : ∀ w ∈ Ts, w.before args s = true) (hT : GoodIn Ts (va_wsS own index y ws)) (hw : ws = Cond.codeWith y bytes maxL ret hh :: ws') (hrc : rm.cells = mc) (hrs : rm.slots = ms)
    (hd : y.cls ≠ "java/lang/invoke/MethodHandle" ∧ y.cls ≠ "java/lang/invoke/VarHandle" ∧ (parseMethodDescriptor y.desc).map (fun d => d.parameters.length) = some n) (hR : rm.frames + 1 ≤ R.frames ∧ 8 + (maxL + 11) + rm.locals ≤ R.locals) :
    vx_CSW R s args own index y bytes maxL ret hh ws rm mc ms n := by
  have ok : ∀ w ∈ va_wsS own index y ws, w.before args s = true := fun w h => ht w (hT w h).1
  have hG : GoodIn Ts ws := fun w h => hT w (by unfold va_wsS; exact List.mem_append_right _ h)
  have hc : Cond.codeWith y bytes maxL ret hh ∈ ws := by rw [hw]; exact List.mem_cons_self
  refine ⟨⟨hrc, hrs, hR.1, hR.2, pay_in ht hG, hc⟩, ht _ (hG _ hc).1, ok _ (by simp [va_wsS]), ⟨hd.1, hd.2.1⟩, fun sig h => ?_, ok _ (by simp [va_wsS]), ok _ (by simp [va_wsS])⟩
  have h2 := hd.2.2
  rw [h] at h2
  exact (Option.some.inj h2).symm
theorem vx_callSW (X : Stand p l e R s m args below meth c T locs cells slots) (hexec : p.tables.exec = Jvm.exec) {own : String} {index : Nat} {y : MethodName} {bytes : ByteArray} {maxL : Nat} {ret : Option FieldType} {hh : List (Nat × Nat × Nat × Nat)}
    (hown : s.vm.findClass own = some m.cls) (hlink : (Cond.methodLink own index y).before args s = true) (hstat : (Cond.static y).before args s = true) (hinit : (Cond.initialized y.cls).before args s = true)
    (hcode : (Cond.codeWith y bytes maxL ret hh).before args s = true) (hy : y.cls ≠ "java/lang/invoke/MethodHandle" ∧ y.cls ≠ "java/lang/invoke/VarHandle")
    {W9 : Nat} {Pre : Pt → Array Value → Prop} {Post : Pt → Array Value → Option Value → Pt → Prop} (hK : Back l R p e below s args y 3 W9 Pre Post)
    {g : JFrame} (hg : g.method = m) (hsize : g.locals.size = c.maxLocals) {argsL rest : List Value} (hlen : ∀ sig, parseMethodDescriptor y.desc = some sig → argsL.length = sig.parameters.length)
    (hstack : g.stack = argsL.reverse ++ rest) (hW : 2 * g.monitorRoom + (rest.map fun v => v.category).sum ≤ W9) (hdg : decode c.code g.pc = .ok (.invokestatic index, 3))
    (hpre : ∀ vm₁, s.WarmedH vm₁ → Pre ⟨T.setVm vm₁, locs, cells, slots⟩ argsL.toArray) :
    ∃ (v : Option Value) (vm₁ : Vm) (B : Pt), s.WarmedH vm₁ ∧ Stand p l e R s m args below meth c B.U B.locs B.cells B.slots ∧ Post ⟨T.setVm vm₁, locs, cells, slots⟩ argsL.toArray v B ∧
      ∀ target, Steps p.tables e below (B.U.setTop { g with pc := g.pc + 3, stack := v.toList ++ rest }) target → Steps p.tables e below (T.setTop g) target := by
  obtain ⟨mk, methM, cM, hnamed, hmethM, -, -, -, -, -, -, hsigM⟩ := Cond.codeWith_spec hcode
  have hstatic : methM.isStatic = true := Cond.static_spec hnamed hmethM hstat
  obtain ⟨kP, hkP, -⟩ := className_of_methodNamed hnamed
  have hinitP : kP.init = .initialized := Cond.initialized_spec (findClass_of_methodNamed hnamed) hkP hinit
  obtain ⟨vm₁, X₁, hstep₁⟩ := X.invokestatic hexec hown hlink hnamed hmethM hstatic hkP hinitP hy (g := g) hg (argsL := argsL) (rest := rest) (hlen _ hsigM) hstack hdg
  obtain ⟨v, B, X', hpost, hsteps⟩ := hK m meth c ⟨T.setVm vm₁, locs, cells, slots⟩ { g with stack := rest } (.invokestatic index) mk argsL.toArray X₁ hg hsize hdg hW (X₁.named hnamed) (hpre vm₁ X₁.warmed)
  exact ⟨v, vm₁, B, X₁.warmed, X', hpost, fun target h => hstep₁ _ fun acts => by rw [doInvoke_state]; exact hsteps.trans h⟩
theorem vx_runSW {y : MethodName} {bytes cc : ByteArray} {maxL nL mc ms n index : Nat} {ret : Option FieldType} {hh : List (Nat × Nat × Nat × Nat)} {ws : List Cond} {rm : Room} {Pc : Array Value → State → Prop} {Qc : Array Value → State → Outcome → State → Prop} {free : Addr → Prop} {Ts : List Cond} {own : String} {As rest : List Value} {g : JFrame}
    (S : CallFix p m c cc nL s args Ts own) (hM : Met l y ws rm Pc Qc mc ms free) (cw : vx_CSW R s args own index y bytes maxL ret hh ws rm mc ms n) (hp : PreS s H Pc As)
    (hg : g.method = m) (hn : As.length = n) (hsize : g.locals.size = nL) (hstack : g.stack = As.reverse ++ rest) (hW : 2 * g.monitorRoom + (rest.map fun v => v.category).sum ≤ 8) (hdg : decode cc g.pc = .ok (.invokestatic index, 3)) (hf : cells + mc ≤ R.cells ∧ slots + ms ≤ R.slots) :
    va_Run p l e R s m args below meth c H locs cells slots mc ms g rest (Qc As.toArray) (free) := by
  obtain ⟨⟨hrc, hrs, hfr, hlo, hws, hcw⟩, hcode, hini, hy, hlen, hl, hstt⟩ := cw
  have hK : Back l R p e below s args y 3 8 (PreOf R mc ms Pc) (PostOf Qc mc ms free) := va_backW (hh := hh) (bytes := bytes) (maxL := maxL) (ret := ret) hM hp.1 hrc hrs hfr hlo hws hcw (fun a' U hW => word_at hW (Or.inl (by first | rfl | simp [Cond.onTables, Cond.keeps, Cond.steady])) hini)
  obtain ⟨hx, hb, hml, ho, -⟩ := S
  intro T hT X
  obtain ⟨v, vm₁, ⟨U', l2, c2, s2⟩, hW₁, X', ⟨g', mk, t, L, e1, e2, hq, h1, hL, h2, h3⟩, st⟩ := vx_callSW X hx (hh := hh) (bytes := bytes) (maxL := maxL) (ret := ret) ho hl hstt hini hcode hy hK hg (hsize.trans hml.symm) (argsL := As) (rest := rest) (fun sig h => hn.trans (hlen sig h)) hstack hW (by rw [hb]; exact hdg)
    (fun vm₁ hW₁ => ⟨hf.1, hf.2, hp.2 (T.setVm vm₁) hT hW₁⟩)
  dsimp only [Pt.U, Pt.locs, Pt.cells, Pt.slots] at X' e1 e2 h1 h2 h3 st
  subst h1; subst h2; subst h3
  exact ⟨v, (T.setVm vm₁).calling g' mk As.toArray, t, U', L, hT, X', hL, e1, e2, hq, st⟩
/-- not caught here, past rows that name other classes: it goes on to the caller -/
theorem vx_outP {p : Program} {l : Launch} {e : Env} {R : Room} {s : State} {m : MethodId} {args : Array Value} {below : List Frame} {meth : Method} {c : Code} {H : Heap} {locs : List Loc} {cells slots : Nat} {free : Addr → Prop} {ls : Array Slot} {rest : List Value} {Qc : Array Value → State → Outcome → State → Prop} {XC : String → State → State → Prop}
    {pc : Nat} {own E : String} {ce : Cell} {q : Addr} {mc ms : Nat} (hown : s.vm.findClass own = some m.cls) (hlocks : meth.locks = false)
    (hpass : ∀ z ∈ c.exceptionTable.toList, covers z pc = false ∨ (z.catchType ≠ 0 ∧ ∃ nm : String, (Cond.classLink own z.catchType nm).before args s = true ∧ va_Nc E nm s)) (hcell : H[q]? = some ce) (hv : ce.vm = .none) (hcl : s.vm.findClass E = some ce.cls)
    (hx : ∀ t : State, t.heap = H → s.vm.Alike t.vm → XC E s t) (hf : ∀ z ∈ locs, free z.base) (hc : cells ≤ mc) (hs : slots ≤ ms) :
    vx_W p l e R s m args below meth c H locs cells slots (vx_MQ below Qc XC args s mc ms free) (F0 m pc ls rest) q := by
  intro T hT X
  have hpl : e.platform.magicAccessors = ({} : Platform).magicAccessors := by rw [X.admits.platform]
  obtain ⟨vm', hW', X', st⟩ := X.outThrough hlocks q (g := F0 m pc ls rest) rfl rfl rfl (cell := ce) (by rw [hT]; exact hcell) (by rw [hv]; rfl)
    (by obtain ⟨k9, h9, -⟩ := Vm.findClass_spec hcl; exact ⟨k9, h9⟩) (fun z hz => by
      rcases hpass z hz with h | ⟨hz0, nm, hl1, hn1⟩
      · exact Or.inl h
      · obtain ⟨c6, hc6, hcl6⟩ := Cond.classLink_spec hown hl1 e.platform hpl
        obtain ⟨a8, b8, h1, h2, h3⟩ := hn1
        cases Option.some.inj (h1.symm.trans hcl)
        cases Option.some.inj (h2.symm.trans hc6)
        exact Or.inr ⟨hz0, _, hcl6, h3⟩)
  obtain ⟨g₀, hfr⟩ := X'.frames_eq
  have hcell9 : ((T.setVm vm').setFrames (.throwing q :: below)).heap[q]? = some ce := by
    show T.heap[q]? = some ce
    rw [hT]; exact hcell
  have hend : Ended ((T.setVm vm').setFrames (.throwing q :: below)) below (.threw q) := State.frames_setFrames _ (State.cur_lt_of_frames hfr)
  refine ⟨(T.setVm vm').setFrames (.throwing q :: below), ?_, .threw q, X'.here.running, hend, Or.inr ⟨q, rfl, E, ce, locs, hx _ hT (X'.ends _).1.alike, hcell9, hv, hcl, (X'.ends _).1, (X'.ends _).2.mono hc hs, hf⟩⟩
  rw [X.pushThrowing_eq]
  exact st
/-- a thing of a world lies in the heap -/
theorem vx_lt {D : va_G} {cl : List vw_C} {ws : va_W} {H1 : Heap} (h : va_P D cl ws H1) {k : Nat} {q : Nat × va_E} (hk : ws[k]? = some q) : q.1 < H1.size := (h k q hk).lt
end VXS
/-! ===== END ===== -/
/-! ===== BEGIN methods with a table of their own: called by a name, returning or throwing ===== -/
section VXH
/-! vx_backW, vx_callVX, vx_callSX, vx_callVW, vx_runVW, vx_runVX, vx_runSX, vx_ofWH follow the same proofs as their sisters above (Free/Laws.lean, Shelf42/LK1.lean); vx_outP calls Shelf42/NT130.lean (outThrough). -/
section
variable {l : Launch} {R : Room} {p : Program} {e : Env} {below : List Frame} {s : State} {sargs : Array Value} {y : MethodName} {len W9 : Nat}
theorem vx_backW {ws : List Cond} {rm : Room} {Pc : Array Value → State → Prop} {Qc : Array Value → State → Outcome → State → Prop} {XC : String → State → State → Prop} {mc ms : Nat} {free : Addr → Prop} {bytes : ByteArray} {maxL : Nat} {ret : Option FieldType} {hh : List (Nat × Nat × Nat × Nat)}
    (hM : vx_Met l y ws rm Pc Qc XC mc ms free) (hblind : FrameBlind Pc) (hrc : rm.cells = mc) (hrs : rm.slots = ms)
    (hframes : rm.frames + 1 ≤ R.frames) (hlocals : W9 + (maxL + 11) + rm.locals ≤ R.locals)
    (hws : ∀ w ∈ ws, ∀ a' U, s.WarmedH U.vm → w.before a' U = true) (hcode : Cond.codeWith y bytes maxL ret hh ∈ ws) (hinit : ∀ a' U, s.WarmedH U.vm → (Cond.initialized y.cls).before a' U = true) :
    vx_Back l R p e below s sargs y len W9 (PreOf R mc ms Pc) (PostOf Qc mc ms free) (vx_Post XC mc ms free) := by
  intro m meth c A g ig mk a X hg hsize hdg hW hn hp
  have h1 : (headSpec ws rm).pre.before a A.U = true := atoms_intro fun w hw => hws w hw _ _ X.warmed
  have h2 : (Cond.codeWith y bytes maxL ret hh).before a A.U = true := hws _ hcode _ _ X.warmed
  have h3 : (Cond.initialized y.cls).before a A.U = true := hinit _ _ X.warmed
  have h4 : A.cells + (headSpec ws rm).room.cells ≤ R.cells := by rw [show (headSpec ws rm).room.cells = mc from hrc]; exact hp.1
  have h5 : A.slots + (headSpec ws rm).room.slots ≤ R.slots := by rw [show (headSpec ws rm).room.slots = ms from hrs]; exact hp.2.1
  have hPc : Pc a (A.U.calling g mk a) := hblind _ _ _ _ hp.2.2
  obtain ⟨U, Ls, c0, s0⟩ := A
  dsimp only [Pt.U, Pt.locs, Pt.cells, Pt.slots] at h1 h2 h3 h4 h5 X hn hPc ⊢
  obtain ⟨m9, methY, cY, hn9, hmY, hcY, -, hlY, -⟩ := Cond.codeWith_spec h2
  cases Option.some.inj (hn9.symm.trans hn)
  obtain ⟨kY, hkY, -⟩ := className_of_methodNamed hn
  have hinitY : kY.init = .initialized := Cond.initialized_spec (findClass_of_methodNamed hn) hkY h3
  have h : At U g.method c below := by rw [hg]; exact X.here
  have hlocals9 : W9 + (maxL + 11) + (headSpec ws rm).room.locals ≤ R.locals := hlocals
  have happ : (headSpec ws rm).appliesLoose y e.platform (U.calling g mk a) = true :=
    Spec.appliesLoose_calling (g := g) h hdg hn hkY hinitY
      (X.room_calling (g := g) (R' := (headSpec ws rm).room) hsize hmY hcY hframes (by rw [hlY]; omega) h4 h5) h1
  obtain ⟨mid, hmid⟩ := h.above
  have hfr : (U.setTop g).frames = (.java g :: mid) ++ below := by rw [State.frames_setTop' g h.top, hmid]; rfl
  obtain ⟨o, s₂, hsteps, -, hend, hq⟩ := Steps.callFree hM p X.admits X.cas X.clock (acts := []) hfr happ hPc trivial
  have hq' : vx_Q Qc XC mc ms free a (U.calling g mk a) o s₂ := hq
  rw [State.frames_setTop' g h.top] at hend
  obtain ⟨g₀, hg0⟩ := Option.isSome_iff_exists.mp h.top
  obtain ⟨r, hr⟩ := State.topJava?_eq_some.mp hg0
  have hr' : (({ U with heap := s₂.heap, slotsUsed := s₂.slotsUsed } : State).setVm s₂.vm).frames = .java g₀ :: r := hr
  rcases hq' with ⟨hqc, L, hfe, hL⟩ | ⟨q, rfl, E, ce, L, hx, hce, hcv, hcl, hW₂, hsm, hL⟩
  · obtain ⟨⟨v, rfl⟩, hW₂, e2, q2, q3, q4, q5, q6⟩ := id hfe
    have e3 : s₂ = ({ (U.calling g mk a).setFrames s₂.frames with heap := s₂.heap, slotsUsed := s₂.slotsUsed } : State).setVm s₂.vm := by
      have : s₂ = ({ s₂ with vm := (U.calling g mk a).vm } : State).setVm s₂.vm := rfl
      rw [e2] at this
      exact this
    obtain ⟨c₂, i₂, len₂, hc₂, hd₂, hf₂⟩ := hend
    have hW' : U.WarmedH s₂.vm := hW₂
    have hcc : c₂ = c := by
      have h1 : s₂.code? g.method = U.code? g.method := by
        rw [State.code?_eq, State.code?_eq, hW'.alike.method?]
      exact Option.some.inj (hc₂.symm.trans (h1.trans h.code))
    subst hcc
    have hlen : len₂ = len := by rw [hdg] at hd₂; cases hd₂; rfl
    subst hlen
    have hs₂ : s₂ = (({ U with heap := s₂.heap, slotsUsed := s₂.slotsUsed } : State).setVm s₂.vm).setTop { g with pc := g.pc + len₂, stack := v.toList ++ g.stack } := by
      refine e3.trans ?_
      rw [hf₂, State.calling_eq h.top, State.setFrames_setFrames, State.setTop_of_frames _ hr', hr]
      rfl
    have hsame : U.sameButNew ({ U with heap := s₂.heap, slotsUsed := s₂.slotsUsed } : State) L mc ms := by
      refine ⟨?_, q2, q3, q4, q5, q6⟩
      obtain ⟨t, ht, -⟩ := State.frames_cons hr
      show ({ U with heap := s₂.heap, slotsUsed := s₂.slotsUsed } : State) = { U.setFrames U.frames with heap := s₂.heap, slotsUsed := s₂.slotsUsed }
      rw [State.setFrames_self ht]
    subst hg
    refine Or.inl ⟨v, ⟨(({ U with heap := s₂.heap, slotsUsed := s₂.slotsUsed } : State).setVm s₂.vm), Ls ++ L, c0 + mc, s0 + ms⟩,
      ⟨X.admits, X.cas, X.clock, X.frames, X.room, X.hears, X.method, X.code, (X.here.setHeapUsed s₂.heap s₂.slotsUsed).setVm hW'.alike, X.tail, State.WarmedH.trans X.warmed hW', X.limits, X.bytes, X.same.trans (hsame.setVm s.vm)⟩,
      ⟨g, mk, s₂, L, rfl, rfl, hqc, rfl, hL, rfl, rfl⟩, ?_⟩
    show Steps p.tables e below _ ((({ U with heap := s₂.heap, slotsUsed := s₂.slotsUsed } : State).setVm s₂.vm).setTop { g with pc := g.pc + len₂, stack := v.toList ++ g.stack })
    rw [← hs₂]
    exact hsteps
  · obtain ⟨e2, q2, q3, q4, q5, q6⟩ := id hsm
    have e3 : s₂ = ({ (U.calling g mk a).setFrames s₂.frames with heap := s₂.heap, slotsUsed := s₂.slotsUsed } : State).setVm s₂.vm := by
      have : s₂ = ({ s₂ with vm := (U.calling g mk a).vm } : State).setVm s₂.vm := rfl
      rw [e2] at this
      exact this
    have hf₂ : s₂.frames = .throwing q :: .java g :: U.frames.tail := hend
    have hW' : U.WarmedH s₂.vm := hW₂
    have hs₂ : s₂ = ((({ U with heap := s₂.heap, slotsUsed := s₂.slotsUsed } : State).setVm s₂.vm).setTop g).pushFrame (.throwing q) := by
      refine e3.trans ?_
      rw [hf₂, State.calling_eq h.top, State.setFrames_setFrames, State.pushFrame, State.frames_setTop _ hr', State.setTop_of_frames _ hr', State.setFrames_setFrames, hr]
      rfl
    have hsame : U.sameButNew ({ U with heap := s₂.heap, slotsUsed := s₂.slotsUsed } : State) L mc ms := by
      refine ⟨?_, q2, q3, q4, q5, q6⟩
      obtain ⟨t, ht, -⟩ := State.frames_cons hr
      show ({ U with heap := s₂.heap, slotsUsed := s₂.slotsUsed } : State) = { U.setFrames U.frames with heap := s₂.heap, slotsUsed := s₂.slotsUsed }
      rw [State.setFrames_self ht]
    subst hg
    refine Or.inr ⟨q, ⟨(({ U with heap := s₂.heap, slotsUsed := s₂.slotsUsed } : State).setVm s₂.vm), Ls ++ L, c0 + mc, s0 + ms⟩,
      ⟨X.admits, X.cas, X.clock, X.frames, X.room, X.hears, X.method, X.code, (X.here.setHeapUsed s₂.heap s₂.slotsUsed).setVm hW'.alike, X.tail, State.WarmedH.trans X.warmed hW', X.limits, X.bytes, X.same.trans (hsame.setVm s.vm)⟩,
      ⟨g, mk, s₂, L, E, ce, rfl, rfl, hx, hce, hcv, hcl, rfl, hL, rfl, rfl⟩, ?_⟩
    show Steps p.tables e below _ (((({ U with heap := s₂.heap, slotsUsed := s₂.slotsUsed } : State).setVm s₂.vm).setTop g).pushFrame (.throwing q))
    rw [← hs₂]
    exact hsteps
end
variable {p : Program} {l : Launch} {e : Env} {R : Room} {s : State} {m : MethodId} {args : Array Value} {below : List Frame} {meth : Method} {c : Code} {T : State} {H : Heap} {locs : List Loc} {cells slots : Nat}
theorem vx_callVX (X : Stand p l e R s m args below meth c T locs cells slots) (hexec : p.tables.exec = Jvm.exec) {own C : String} {index : Nat} {y : MethodName} {bytes : ByteArray} {maxL : Nat} {ret : Option FieldType} {hh : List (Nat × Nat × Nat × Nat)}
    (hown : s.vm.findClass own = some m.cls) (hlink : (Cond.methodLink own index y).before args s = true) (hinst : (Cond.instanceMethod y).before args s = true) (hsel : (Cond.selects C y y).before args s = true)
    (hcode : (Cond.codeWith y bytes maxL ret hh).before args s = true) (hy : y.cls ≠ "java/lang/invoke/MethodHandle" ∧ y.cls ≠ "java/lang/invoke/VarHandle")
    {W9 : Nat} {Pre : Pt → Array Value → Prop} {Post : Pt → Array Value → Option Value → Pt → Prop} {PostX : Pt → Array Value → Addr → Pt → Prop} (hK : vx_Back l R p e below s args y 3 W9 Pre Post PostX)
    {b : Addr} {cellB : Cell} (hcell : T.heap[b]? = some cellB) (hobj : cellB.vm.isStatics = false) (hcls : s.vm.findClass C = some cellB.cls)
    {g : JFrame} (hg : g.method = m) (hsize : g.locals.size = c.maxLocals) {argsL rest : List Value} (hlen : ∀ sig, parseMethodDescriptor y.desc = some sig → argsL.length = sig.parameters.length)
    (hstack : g.stack = argsL.reverse ++ .ref b :: rest) (hW : 2 * g.monitorRoom + (rest.map fun v => v.category).sum ≤ W9) (hdg : decode c.code g.pc = .ok (.invokevirtual index, 3))
    (hpre : ∀ vm₁, s.WarmedH vm₁ → Pre ⟨T.setVm vm₁, locs, cells, slots⟩ (Value.ref b :: argsL).toArray) :
    (∃ (v : Option Value) (vm₁ : Vm) (B : Pt), s.WarmedH vm₁ ∧ Stand p l e R s m args below meth c B.U B.locs B.cells B.slots ∧ Post ⟨T.setVm vm₁, locs, cells, slots⟩ (Value.ref b :: argsL).toArray v B ∧
      ∀ target, Steps p.tables e below (B.U.setTop { g with pc := g.pc + 3, stack := v.toList ++ rest }) target → Steps p.tables e below (T.setTop g) target) ∨
    (∃ (q : Addr) (vm₁ : Vm) (B : Pt), s.WarmedH vm₁ ∧ Stand p l e R s m args below meth c B.U B.locs B.cells B.slots ∧ PostX ⟨T.setVm vm₁, locs, cells, slots⟩ (Value.ref b :: argsL).toArray q B ∧
      Steps p.tables e below (T.setTop g) ((B.U.setTop { g with stack := rest }).pushFrame (.throwing q))) := by
  obtain ⟨mk, methM, hnamed, hmethM, hstM, habM⟩ := Cond.instanceMethod_spec hinst
  obtain ⟨m8, methM', cM, hn8, hmethM', -, -, -, -, -, -, hsigM⟩ := Cond.codeWith_spec hcode
  cases Option.some.inj (hn8.symm.trans hnamed)
  cases hmethM.symm.trans hmethM'
  obtain ⟨c2, r2, m2, q1, q2, q3, q4, kP, hkP, hkPi⟩ := Cond.selects_spec hsel
  cases hcls.symm.trans q1
  cases (State.methodFound?_of_named hnamed hy).symm.trans q2
  cases hnamed.symm.trans q3
  have hselP : selectMethod e.platform s.vm cellB.cls mk = .method mk := by rw [Launch.admits_selectMethod X.admits]; exact q4
  obtain ⟨vm₁, X₁, hstep₁⟩ := X.invokevirtual hexec hown hlink hnamed hmethM hstM hkP hkPi hy (a := b) (cell := cellB) hcell
    (fun z h => by rw [h] at hobj; cases hobj) hselP hmethM habM hkP hkPi (g := g) hg (argsL := argsL) (rest := rest) (hlen _ hsigM) hstack hdg
  rcases hK m meth c ⟨T.setVm vm₁, locs, cells, slots⟩ { g with stack := rest } (.invokevirtual index) mk (Value.ref b :: argsL).toArray X₁ hg hsize hdg hW (X₁.named hnamed) (hpre vm₁ X₁.warmed) with ⟨v, B, X', hpost, hsteps⟩ | ⟨q, B, X', hpost, hsteps⟩
  · exact Or.inl ⟨v, vm₁, B, X₁.warmed, X', hpost, fun target h => hstep₁ _ fun acts => by rw [doInvoke_state]; exact hsteps.trans h⟩
  · exact Or.inr ⟨q, vm₁, B, X₁.warmed, X', hpost, hstep₁ _ fun acts => by rw [doInvoke_state]; exact hsteps⟩
theorem vx_callSX (X : Stand p l e R s m args below meth c T locs cells slots) (hexec : p.tables.exec = Jvm.exec) {own : String} {index : Nat} {y : MethodName} {bytes : ByteArray} {maxL : Nat} {ret : Option FieldType} {hh : List (Nat × Nat × Nat × Nat)}
    (hown : s.vm.findClass own = some m.cls) (hlink : (Cond.methodLink own index y).before args s = true) (hstat : (Cond.static y).before args s = true) (hinit : (Cond.initialized y.cls).before args s = true)
    (hcode : (Cond.codeWith y bytes maxL ret hh).before args s = true) (hy : y.cls ≠ "java/lang/invoke/MethodHandle" ∧ y.cls ≠ "java/lang/invoke/VarHandle")
    {W9 : Nat} {Pre : Pt → Array Value → Prop} {Post : Pt → Array Value → Option Value → Pt → Prop} {PostX : Pt → Array Value → Addr → Pt → Prop} (hK : vx_Back l R p e below s args y 3 W9 Pre Post PostX)
    {g : JFrame} (hg : g.method = m) (hsize : g.locals.size = c.maxLocals) {argsL rest : List Value} (hlen : ∀ sig, parseMethodDescriptor y.desc = some sig → argsL.length = sig.parameters.length)
    (hstack : g.stack = argsL.reverse ++ rest) (hW : 2 * g.monitorRoom + (rest.map fun v => v.category).sum ≤ W9) (hdg : decode c.code g.pc = .ok (.invokestatic index, 3))
    (hpre : ∀ vm₁, s.WarmedH vm₁ → Pre ⟨T.setVm vm₁, locs, cells, slots⟩ argsL.toArray) :
    (∃ (v : Option Value) (vm₁ : Vm) (B : Pt), s.WarmedH vm₁ ∧ Stand p l e R s m args below meth c B.U B.locs B.cells B.slots ∧ Post ⟨T.setVm vm₁, locs, cells, slots⟩ argsL.toArray v B ∧
      ∀ target, Steps p.tables e below (B.U.setTop { g with pc := g.pc + 3, stack := v.toList ++ rest }) target → Steps p.tables e below (T.setTop g) target) ∨
    (∃ (q : Addr) (vm₁ : Vm) (B : Pt), s.WarmedH vm₁ ∧ Stand p l e R s m args below meth c B.U B.locs B.cells B.slots ∧ PostX ⟨T.setVm vm₁, locs, cells, slots⟩ argsL.toArray q B ∧
      Steps p.tables e below (T.setTop g) ((B.U.setTop { g with stack := rest }).pushFrame (.throwing q))) := by
  obtain ⟨mk, methM, cM, hnamed, hmethM, -, -, -, -, -, -, hsigM⟩ := Cond.codeWith_spec hcode
  have hstatic : methM.isStatic = true := Cond.static_spec hnamed hmethM hstat
  obtain ⟨kP, hkP, -⟩ := className_of_methodNamed hnamed
  have hinitP : kP.init = .initialized := Cond.initialized_spec (findClass_of_methodNamed hnamed) hkP hinit
  obtain ⟨vm₁, X₁, hstep₁⟩ := X.invokestatic hexec hown hlink hnamed hmethM hstatic hkP hinitP hy (g := g) hg (argsL := argsL) (rest := rest) (hlen _ hsigM) hstack hdg
  rcases hK m meth c ⟨T.setVm vm₁, locs, cells, slots⟩ { g with stack := rest } (.invokestatic index) mk argsL.toArray X₁ hg hsize hdg hW (X₁.named hnamed) (hpre vm₁ X₁.warmed) with ⟨v, B, X', hpost, hsteps⟩ | ⟨q, B, X', hpost, hsteps⟩
  · exact Or.inl ⟨v, vm₁, B, X₁.warmed, X', hpost, fun target h => hstep₁ _ fun acts => by rw [doInvoke_state]; exact hsteps.trans h⟩
  · exact Or.inr ⟨q, vm₁, B, X₁.warmed, X', hpost, hstep₁ _ fun acts => by rw [doInvoke_state]; exact hsteps⟩
theorem vx_callVW (X : Stand p l e R s m args below meth c T locs cells slots) (hexec : p.tables.exec = Jvm.exec) {own C : String} {index : Nat} {y : MethodName} {bytes : ByteArray} {maxL : Nat} {ret : Option FieldType} {hh : List (Nat × Nat × Nat × Nat)}
    (hown : s.vm.findClass own = some m.cls) (hlink : (Cond.methodLink own index y).before args s = true) (hinst : (Cond.instanceMethod y).before args s = true) (hsel : (Cond.selects C y y).before args s = true)
    (hcode : (Cond.codeWith y bytes maxL ret hh).before args s = true) (hy : y.cls ≠ "java/lang/invoke/MethodHandle" ∧ y.cls ≠ "java/lang/invoke/VarHandle")
    {W9 : Nat} {Pre : Pt → Array Value → Prop} {Post : Pt → Array Value → Option Value → Pt → Prop} (hK : Back l R p e below s args y 3 W9 Pre Post)
    {b : Addr} {cellB : Cell} (hcell : T.heap[b]? = some cellB) (hobj : cellB.vm.isStatics = false) (hcls : s.vm.findClass C = some cellB.cls)
    {g : JFrame} (hg : g.method = m) (hsize : g.locals.size = c.maxLocals) {argsL rest : List Value} (hlen : ∀ sig, parseMethodDescriptor y.desc = some sig → argsL.length = sig.parameters.length)
    (hstack : g.stack = argsL.reverse ++ .ref b :: rest) (hW : 2 * g.monitorRoom + (rest.map fun v => v.category).sum ≤ W9) (hdg : decode c.code g.pc = .ok (.invokevirtual index, 3))
    (hpre : ∀ vm₁, s.WarmedH vm₁ → Pre ⟨T.setVm vm₁, locs, cells, slots⟩ (Value.ref b :: argsL).toArray) :
    ∃ (v : Option Value) (vm₁ : Vm) (B : Pt), s.WarmedH vm₁ ∧ Stand p l e R s m args below meth c B.U B.locs B.cells B.slots ∧ Post ⟨T.setVm vm₁, locs, cells, slots⟩ (Value.ref b :: argsL).toArray v B ∧
      ∀ target, Steps p.tables e below (B.U.setTop { g with pc := g.pc + 3, stack := v.toList ++ rest }) target → Steps p.tables e below (T.setTop g) target := by
  obtain ⟨mk, methM, hnamed, hmethM, hstM, habM⟩ := Cond.instanceMethod_spec hinst
  obtain ⟨m8, methM', cM, hn8, hmethM', -, -, -, -, -, -, hsigM⟩ := Cond.codeWith_spec hcode
  cases Option.some.inj (hn8.symm.trans hnamed)
  cases hmethM.symm.trans hmethM'
  obtain ⟨c2, r2, m2, q1, q2, q3, q4, kP, hkP, hkPi⟩ := Cond.selects_spec hsel
  cases hcls.symm.trans q1
  cases (State.methodFound?_of_named hnamed hy).symm.trans q2
  cases hnamed.symm.trans q3
  have hselP : selectMethod e.platform s.vm cellB.cls mk = .method mk := by rw [Launch.admits_selectMethod X.admits]; exact q4
  obtain ⟨vm₁, X₁, hstep₁⟩ := X.invokevirtual hexec hown hlink hnamed hmethM hstM hkP hkPi hy (a := b) (cell := cellB) hcell
    (fun z h => by rw [h] at hobj; cases hobj) hselP hmethM habM hkP hkPi (g := g) hg (argsL := argsL) (rest := rest) (hlen _ hsigM) hstack hdg
  obtain ⟨v, B, X', hpost, hsteps⟩ := hK m meth c ⟨T.setVm vm₁, locs, cells, slots⟩ { g with stack := rest } (.invokevirtual index) mk (Value.ref b :: argsL).toArray X₁ hg hsize hdg hW (X₁.named hnamed) (hpre vm₁ X₁.warmed)
  exact ⟨v, vm₁, B, X₁.warmed, X', hpost, fun target h => hstep₁ _ fun acts => by rw [doInvoke_state]; exact hsteps.trans h⟩
abbrev vx_CVW (R : Room) (s : State) (args : Array Value) (own C : String) (index : Nat) (y : MethodName) (bytes : ByteArray) (maxL : Nat) (ret : Option FieldType) (hh : List (Nat × Nat × Nat × Nat)) (ws : List Cond) (rm : Room) (mc ms n : Nat) : Prop :=
  (rm.cells = mc ∧ rm.slots = ms ∧ rm.frames + 1 ≤ R.frames ∧ 8 + (maxL + 11) + rm.locals ≤ R.locals ∧ (∀ w ∈ ws, ∀ (a' : Array Value) (U : State), s.WarmedH U.vm → w.before a' U = true) ∧ Cond.codeWith y bytes maxL ret hh ∈ ws) ∧
  (Cond.codeWith y bytes maxL ret hh).before args s = true ∧ (Cond.initialized y.cls).before args s = true ∧ (y.cls ≠ "java/lang/invoke/MethodHandle" ∧ y.cls ≠ "java/lang/invoke/VarHandle") ∧
  (∀ sig, parseMethodDescriptor y.desc = some sig → n = sig.parameters.length) ∧ (Cond.methodLink own index y).before args s = true ∧ (Cond.instanceMethod y).before args s = true ∧ (Cond.selects C y y).before args s = true
theorem vx_cwVW {own C : String} {index maxL mc ms : Nat} {y : MethodName} {bytes : ByteArray} {ret : Option FieldType} {hh : List (Nat × Nat × Nat × Nat)} {Ts ws ws' : List Cond} {rm : Room} (n : Nat) (ht : ∀ w ∈ Ts, w.before args s = true) (hT : GoodIn Ts (wsV own index C y ws)) (hw : ws = Cond.codeWith y bytes maxL ret hh :: ws') (hrc : rm.cells = mc) (hrs : rm.slots = ms)
    (hd : y.cls = C ∧ y.cls ≠ "java/lang/invoke/MethodHandle" ∧ y.cls ≠ "java/lang/invoke/VarHandle" ∧ (parseMethodDescriptor y.desc).map (fun d => d.parameters.length) = some n) (hR : rm.frames + 1 ≤ R.frames ∧ 8 + (maxL + 11) + rm.locals ≤ R.locals) :
    vx_CVW R s args own C index y bytes maxL ret hh ws rm mc ms n := by
  obtain ⟨hC, hd⟩ := hd
  subst hC
  have ok : ∀ w ∈ wsV own index y.cls y ws, w.before args s = true := fun w h => ht w (hT w h).1
  have hG : GoodIn Ts ws := fun w h => hT w (by unfold wsV; exact List.mem_append_right _ h)
  have hc : Cond.codeWith y bytes maxL ret hh ∈ ws := by rw [hw]; exact List.mem_cons_self
  refine ⟨⟨hrc, hrs, hR.1, hR.2, pay_in ht hG, hc⟩, ht _ (hG _ hc).1, ok _ (by simp [wsV]), ⟨hd.1, hd.2.1⟩, fun sig h => ?_, ok _ (by simp [wsV]), ok _ (by simp [wsV]), ok _ (by simp [wsV])⟩
  have h2 := hd.2.2
  rw [h] at h2
  exact (Option.some.inj h2).symm
theorem vx_runVW {y : MethodName} {bytes cc : ByteArray} {maxL nL mc ms n index : Nat} {ret : Option FieldType} {hh : List (Nat × Nat × Nat × Nat)} {ws : List Cond} {rm : Room} {Pc : Array Value → State → Prop} {Qc : Array Value → State → Outcome → State → Prop} {free : Addr → Prop} {Ts : List Cond} {own C : String} {b : Addr} {As rest : List Value} {g : JFrame}
    (S : CallFix p m c cc nL s args Ts own) (hM : Met l y ws rm Pc Qc mc ms free) (cw : vx_CVW R s args own C index y bytes maxL ret hh ws rm mc ms n) (hp : PreV s H C b Pc As)
    (hg : g.method = m) (hn : As.length = n) (hsize : g.locals.size = nL) (hstack : g.stack = As.reverse ++ .ref b :: rest) (hW : 2 * g.monitorRoom + (rest.map fun v => v.category).sum ≤ 8) (hdg : decode cc g.pc = .ok (.invokevirtual index, 3)) (hf : cells + mc ≤ R.cells ∧ slots + ms ≤ R.slots) :
    va_Run p l e R s m args below meth c H locs cells slots mc ms g rest (Qc (Value.ref b :: As).toArray) free := by
  obtain ⟨⟨hrc, hrs, hfr, hlo, hws, hcw⟩, hcode, hini, hy, hlen, hl, hin, hse⟩ := cw
  have hK : Back l R p e below s args y 3 8 (PreOf R mc ms Pc) (PostOf Qc mc ms free) := va_backW (hh := hh) (bytes := bytes) (maxL := maxL) (ret := ret) hM hp.1 hrc hrs hfr hlo hws hcw (fun a' U hW => word_at hW (Or.inl (by first | rfl | simp [Cond.onTables, Cond.keeps, Cond.steady])) hini)
  obtain ⟨hx, hb, hml, ho, -⟩ := S
  obtain ⟨-, ⟨cellB, hcB, hoB, hclB⟩, hPc⟩ := hp
  intro T hT X
  obtain ⟨v, vm₁, ⟨U', l2, c2, s2⟩, hW₁, X', ⟨g', mk, t, L, e1, e2, hq, h1, hL, h2, h3⟩, st⟩ := vx_callVW X hx (C := C) (hh := hh) (bytes := bytes) (maxL := maxL) (ret := ret) ho hl hin hse hcode hy hK (by rw [hT]; exact hcB) hoB hclB hg (hsize.trans hml.symm) (argsL := As) (rest := rest) (fun sig h => hn.trans (hlen sig h)) hstack hW (by rw [hb]; exact hdg)
    (fun vm₁ hW₁ => ⟨hf.1, hf.2, hPc (T.setVm vm₁) hT hW₁⟩)
  dsimp only [Pt.U, Pt.locs, Pt.cells, Pt.slots] at X' e1 e2 h1 h2 h3 st
  subst h1; subst h2; subst h3
  exact ⟨v, (T.setVm vm₁).calling g' mk (Value.ref b :: As).toArray, t, U', L, hT, X', hL, e1, e2, hq, st⟩
section
variable {y : MethodName} {bytes cc : ByteArray} {maxL nL mc ms n index : Nat} {ret : Option FieldType} {ws : List Cond} {rm : Room} {Pc : Array Value → State → Prop} {Qc : Array Value → State → Outcome → State → Prop} {XC : String → State → State → Prop} {free : Addr → Prop} {Ts : List Cond} {own C : String} {b : Addr} {As rest : List Value} {g : JFrame}
theorem vx_runVX {hh : List (Nat × Nat × Nat × Nat)} (S : CallFix p m c cc nL s args Ts own) (hM : vx_Met l y ws rm Pc Qc XC mc ms free) (cw : vx_CVW R s args own C index y bytes maxL ret hh ws rm mc ms n) (hp : PreV s H C b Pc As)
    (hg : g.method = m) (hn : As.length = n) (hsize : g.locals.size = nL) (hstack : g.stack = As.reverse ++ .ref b :: rest) (hW : 2 * g.monitorRoom + (rest.map fun v => v.category).sum ≤ 8) (hdg : decode cc g.pc = .ok (.invokevirtual index, 3)) (hf : cells + mc ≤ R.cells ∧ slots + ms ≤ R.slots) :
    vx_Run p l e R s m args below meth c H locs cells slots mc ms g rest (Qc (Value.ref b :: As).toArray) XC free := by
  obtain ⟨⟨hrc, hrs, hfr, hlo, hws, hcw⟩, hcode, hini, hy, hlen, hl, hin, hse⟩ := cw
  have hK : vx_Back l R p e below s args y 3 8 (PreOf R mc ms Pc) (PostOf Qc mc ms free) (vx_Post XC mc ms free) := vx_backW (hh := hh) (bytes := bytes) (maxL := maxL) (ret := ret) hM hp.1 hrc hrs hfr hlo hws hcw (fun a' U hW => word_at hW (Or.inl (by first | rfl | simp [Cond.onTables, Cond.keeps, Cond.steady])) hini)
  obtain ⟨hx, hb, hml, ho, -⟩ := S
  obtain ⟨-, ⟨cellB, hcB, hoB, hclB⟩, hPc⟩ := hp
  intro T hT X
  rcases vx_callVX X hx (C := C) (hh := hh) (bytes := bytes) (maxL := maxL) (ret := ret) ho hl hin hse hcode hy hK (by rw [hT]; exact hcB) hoB hclB hg (hsize.trans hml.symm) (argsL := As) (rest := rest) (fun sig h => hn.trans (hlen sig h)) hstack hW (by rw [hb]; exact hdg)
    (fun vm₁ hW₁ => ⟨hf.1, hf.2, hPc (T.setVm vm₁) hT hW₁⟩) with ⟨v, vm₁, ⟨U', l2, c2, s2⟩, hW₁, X', ⟨g', mk, t, L, e1, e2, hq, h1, hL, h2, h3⟩, st⟩ | ⟨q, vm₁, ⟨U', l2, c2, s2⟩, hW₁, X', ⟨g', mk, t, L, E, ce, e1, e2, hq, hce, hcv, hcl, h1, hL, h2, h3⟩, st⟩
  · dsimp only [Pt.U, Pt.locs, Pt.cells, Pt.slots] at X' e1 e2 h1 h2 h3 st
    subst h1; subst h2; subst h3
    exact Or.inl ⟨v, (T.setVm vm₁).calling g' mk (Value.ref b :: As).toArray, t, U', L, hT, X', hL, e1, e2, hq, st⟩
  · dsimp only [Pt.U, Pt.locs, Pt.cells, Pt.slots] at X' e1 e2 h1 h2 h3 st hcl
    subst h1; subst h2; subst h3
    exact Or.inr ⟨q, (T.setVm vm₁).calling g' mk (Value.ref b :: As).toArray, t, U', L, E, ce, hT, X', hL, e1, e2, hq, hce, hcv, vx_cls hW₁ hcl, st⟩
theorem vx_runSX {hh : List (Nat × Nat × Nat × Nat)} (S : CallFix p m c cc nL s args Ts own) (hM : vx_Met l y ws rm Pc Qc XC mc ms free) (cw : vx_CSW R s args own index y bytes maxL ret hh ws rm mc ms n) (hp : PreS s H Pc As)
    (hg : g.method = m) (hn : As.length = n) (hsize : g.locals.size = nL) (hstack : g.stack = As.reverse ++ rest) (hW : 2 * g.monitorRoom + (rest.map fun v => v.category).sum ≤ 8) (hdg : decode cc g.pc = .ok (.invokestatic index, 3)) (hf : cells + mc ≤ R.cells ∧ slots + ms ≤ R.slots) :
    vx_Run p l e R s m args below meth c H locs cells slots mc ms g rest (Qc As.toArray) XC free := by
  obtain ⟨⟨hrc, hrs, hfr, hlo, hws, hcw⟩, hcode, hini, hy, hlen, hl, hstt⟩ := cw
  have hK : vx_Back l R p e below s args y 3 8 (PreOf R mc ms Pc) (PostOf Qc mc ms free) (vx_Post XC mc ms free) := vx_backW (hh := hh) (bytes := bytes) (maxL := maxL) (ret := ret) hM hp.1 hrc hrs hfr hlo hws hcw (fun a' U hW => word_at hW (Or.inl (by first | rfl | simp [Cond.onTables, Cond.keeps, Cond.steady])) hini)
  obtain ⟨hx, hb, hml, ho, -⟩ := S
  intro T hT X
  rcases vx_callSX X hx (hh := hh) (bytes := bytes) (maxL := maxL) (ret := ret) ho hl hstt hini hcode hy hK hg (hsize.trans hml.symm) (argsL := As) (rest := rest) (fun sig h => hn.trans (hlen sig h)) hstack hW (by rw [hb]; exact hdg)
    (fun vm₁ hW₁ => ⟨hf.1, hf.2, hp.2 (T.setVm vm₁) hT hW₁⟩) with ⟨v, vm₁, ⟨U', l2, c2, s2⟩, hW₁, X', ⟨g', mk, t, L, e1, e2, hq, h1, hL, h2, h3⟩, st⟩ | ⟨q, vm₁, ⟨U', l2, c2, s2⟩, hW₁, X', ⟨g', mk, t, L, E, ce, e1, e2, hq, hce, hcv, hcl, h1, hL, h2, h3⟩, st⟩
  · dsimp only [Pt.U, Pt.locs, Pt.cells, Pt.slots] at X' e1 e2 h1 h2 h3 st
    subst h1; subst h2; subst h3
    exact Or.inl ⟨v, (T.setVm vm₁).calling g' mk As.toArray, t, U', L, hT, X', hL, e1, e2, hq, st⟩
  · dsimp only [Pt.U, Pt.locs, Pt.cells, Pt.slots] at X' e1 e2 h1 h2 h3 st hcl
    subst h1; subst h2; subst h3
    exact Or.inr ⟨q, (T.setVm vm₁).calling g' mk As.toArray, t, U', L, E, ce, hT, X', hL, e1, e2, hq, hce, hcv, vx_cls hW₁ hcl, st⟩
end
end VXH
theorem vx_ofWH {l : Launch} {y : MethodName} {ws ws' : List Cond} {rm : Room} {Pc : Array Value → State → Prop} {Qc : Array Value → State → Outcome → State → Prop} {XC : String → State → State → Prop} {mc ms : Nat} {free : Addr → Prop} {cc : ByteArray} {maxL : Nat} {ret : Option FieldType} {hh : List (Nat × Nat × Nat × Nat)}
    (hy : plainName y.cls = true) (hw : ws = Cond.codeWith y cc maxL ret hh :: ws')
    (body : ∀ p e s m args below meth c s₁, BodyLoose p l y (headSpec ws rm) cc maxL ret e s m args below meth c s₁ → c.maxLocals = maxL → Pc args s →
      W p l e (headSpec ws rm).room s m args below meth c s.heap [] 0 0 (vx_MQ below Qc XC args s mc ms free) (entryFrame m args maxL)) : vx_Met l y ws rm Pc Qc XC mc ms free := by
  refine MetFree.of_bodyS (code := cc) (maxLocals := maxL) (ret := ret) hy ?_ ?_
  · intro args s m h hn
    obtain ⟨m9, meth, c, hn9, h1, h2, h3, h4, -, h5, h6, -⟩ := Cond.codeWith_spec (atoms_spec (ws := ws) h _ (by rw [hw]; exact List.mem_cons_self))
    cases hn.symm.trans hn9
    exact ⟨meth, c, h1, h2, h3, h4, h5, h6⟩
  · intro p e s m args below meth c s₁ B hml hP _
    have hh0 : s₁.heap = s.heap := by rw [B.state]; rfl
    obtain ⟨t, a1, o, b1, b2, b3⟩ := body p e s m args below meth c s₁ B hml hP s₁ hh0 (Stand.of_body B)
    exact ⟨t, o, a1, b1, b2, b3⟩
/-! ===== END ===== -/
end
section
def RX0 : String := "TimedRuns$Day"
def TX0 : u_T := fun k => match k with
  | 0 => ("TimedRuns$Day", "number", "I", false)
  | 1 => ("TimedRuns$Day", "year", "I", false)
  | 2 => ("TimedRuns$Day", "month", "I", false)
  | _ => ("TimedRuns$Day", "ofMonth", "I", false)
def tyX0 : Nat → FieldType := fun k => match k with
  | 0 => .int
  | 1 => .int
  | 2 => .int
  | _ => .int
abbrev wsX00 : List Cond := u_ws RX0 TX0 4
theorem nmX0 : ∀ a, a < 4 → ∀ b, b < 4 → a ≠ b → (TX0 a).2.1 ≠ (TX0 b).2.1 := by decide +kernel
theorem tyX0_ok : ∀ k, k < 4 → parseFieldDescriptor (TX0 k).2.2.1 = some (tyX0 k) := by decide +kernel
abbrev cX0_init : ByteArray := prog_2_method_1_code
def yX0_init : MethodName := ⟨RX0, "<init>", "()V"⟩
abbrev cX0_turnTo : ByteArray := prog_2_method_2_code
def yX0_turnTo : MethodName := ⟨RX0, "turnTo", "(I)V"⟩
abbrev cX0_turnOne : ByteArray := prog_2_method_3_code
def yX0_turnOne : MethodName := ⟨RX0, "turnOne", "()V"⟩
abbrev cX0_find : ByteArray := prog_2_method_4_code
def yX0_find : MethodName := ⟨RX0, "find", "(I)V"⟩
abbrev cX0_weekday : ByteArray := prog_2_method_5_code
def yX0_weekday : MethodName := ⟨RX0, "weekday", "()I"⟩
abbrev cX0_isLeapYear : ByteArray := prog_2_method_6_code
def yX0_isLeapYear : MethodName := ⟨RX0, "isLeapYear", "()Z"⟩
abbrev cX0_daysOfYear : ByteArray := prog_2_method_7_code
def yX0_daysOfYear : MethodName := ⟨RX0, "daysOfYear", "()I"⟩
abbrev cX0_daysOfMonth : ByteArray := prog_2_method_8_code
def yX0_daysOfMonth : MethodName := ⟨RX0, "daysOfMonth", "()I"⟩
def RX1 : String := "TimedRuns$Expression"
def TX1 : u_T := fun k => match k with
  | 0 => ("TimedRuns$Expression", "numbers", "[J", true)
  | _ => ("TimedRuns$Expression", "bothDays", "Z", true)
def tyX1 : Nat → FieldType := fun k => match k with
  | 0 => .array .long
  | _ => .boolean
abbrev wsX10 : List Cond := u_ws RX1 TX1 2
theorem nmX1 : ∀ a, a < 2 → ∀ b, b < 2 → a ≠ b → (TX1 a).2.1 ≠ (TX1 b).2.1 := by decide +kernel
theorem tyX1_ok : ∀ k, k < 2 → parseFieldDescriptor (TX1 k).2.2.1 = some (tyX1 k) := by decide +kernel
abbrev cX1_init : ByteArray := prog_3_method_1_code
def yX1_init : MethodName := ⟨RX1, "<init>", "([JZ)V"⟩
abbrev cX1_has : ByteArray := prog_3_method_2_code
def yX1_has : MethodName := ⟨RX1, "has", "(II)Z"⟩
abbrev cX1_hasTime : ByteArray := prog_3_method_3_code
def yX1_hasTime : MethodName := ⟨RX1, "hasTime", "(I)Z"⟩
abbrev cX1_hasDay : ByteArray := prog_3_method_4_code
def yX1_hasDay : MethodName := ⟨RX1, "hasDay", "(LTimedRuns$Day;)Z"⟩
abbrev cX1_firstTime : ByteArray := prog_3_method_5_code
def yX1_firstTime : MethodName := ⟨RX1, "firstTime", "(I)I"⟩
def RX2 : String := "TimedRuns$Job"
def TX2 : u_T := fun k => match k with
  | 0 => ("TimedRuns$Job", "rank", "I", true)
  | 1 => ("TimedRuns$Job", "expression", "LTimedRuns$Expression;", true)
  | 2 => ("TimedRuns$Job", "tasks", "[LTimedRuns$Task;", true)
  | 3 => ("TimedRuns$Job", "taskCount", "I", false)
  | 4 => ("TimedRuns$Job", "underWay", "Z", false)
  | 5 => ("TimedRuns$Job", "begun", "I", false)
  | _ => ("TimedRuns$Job", "missed", "I", false)
def tyX2 : Nat → FieldType := fun k => match k with
  | 0 => .int
  | 1 => .object "TimedRuns$Expression"
  | 2 => .array (.object "TimedRuns$Task")
  | 3 => .int
  | 4 => .boolean
  | 5 => .int
  | _ => .int
abbrev wsX20 : List Cond := u_ws RX2 TX2 7
theorem nmX2 : ∀ a, a < 7 → ∀ b, b < 7 → a ≠ b → (TX2 a).2.1 ≠ (TX2 b).2.1 := by decide +kernel
theorem tyX2_ok : ∀ k, k < 7 → parseFieldDescriptor (TX2 k).2.2.1 = some (tyX2 k) := by decide +kernel
abbrev cX2_init : ByteArray := prog_4_method_1_code
def yX2_init : MethodName := ⟨RX2, "<init>", "(ILTimedRuns$Expression;)V"⟩
abbrev cX2_allTasks : ByteArray := prog_4_method_2_code
def yX2_allTasks : MethodName := ⟨RX2, "allTasks", "()I"⟩
abbrev cX2_addTask : ByteArray := prog_4_method_3_code
def yX2_addTask : MethodName := ⟨RX2, "addTask", "(LTimedRuns$Task;)I"⟩
abbrev cX2_begin : ByteArray := prog_4_method_4_code
def yX2_begin : MethodName := ⟨RX2, "begin", "()V"⟩
abbrev cX2_isAllOver : ByteArray := prog_4_method_5_code
def yX2_isAllOver : MethodName := ⟨RX2, "isAllOver", "()Z"⟩
abbrev cX2_countRunning : ByteArray := prog_4_method_6_code
def yX2_countRunning : MethodName := ⟨RX2, "countRunning", "()I"⟩
abbrev cX2_firstReady : ByteArray := prog_4_method_7_code
def yX2_firstReady : MethodName := ⟨RX2, "firstReady", "(I)I"⟩
def RX3 : String := "TimedRuns$Log"
def TX3 : u_T := fun k => match k with
  | 0 => ("TimedRuns$Log", "parts", "[I", true)
  | _ => ("TimedRuns$Log", "total", "I", false)
def tyX3 : Nat → FieldType := fun k => match k with
  | 0 => .array .int
  | _ => .int
abbrev wsX30 : List Cond := u_ws RX3 TX3 2
theorem nmX3 : ∀ a, a < 2 → ∀ b, b < 2 → a ≠ b → (TX3 a).2.1 ≠ (TX3 b).2.1 := by decide +kernel
theorem tyX3_ok : ∀ k, k < 2 → parseFieldDescriptor (TX3 k).2.2.1 = some (tyX3 k) := by decide +kernel
abbrev cX3_init : ByteArray := prog_5_method_1_code
def yX3_init : MethodName := ⟨RX3, "<init>", "()V"⟩
abbrev cX3_add : ByteArray := prog_5_method_2_code
def yX3_add : MethodName := ⟨RX3, "add", "(IIII)V"⟩
abbrev cX3_keeps : ByteArray := prog_5_method_3_code
def yX3_keeps : MethodName := ⟨RX3, "keeps", "(I)Z"⟩
abbrev cX3_read : ByteArray := prog_5_method_4_code
def yX3_read : MethodName := ⟨RX3, "read", "(II)I"⟩
def RX4 : String := "TimedRuns$Reader"
def TX4 : u_T := fun k => match k with
  | 0 => ("TimedRuns$Reader", "text", "LTimedRuns$Text;", true)
  | 1 => ("TimedRuns$Reader", "numbers", "[J", true)
  | 2 => ("TimedRuns$Reader", "daysFree", "Z", false)
  | 3 => ("TimedRuns$Reader", "weekdaysFree", "Z", false)
  | 4 => ("TimedRuns$Reader", "place", "I", false)
  | _ => ("TimedRuns$Reader", "wrong", "I", false)
def tyX4 : Nat → FieldType := fun k => match k with
  | 0 => .object "TimedRuns$Text"
  | 1 => .array .long
  | 2 => .boolean
  | 3 => .boolean
  | 4 => .int
  | _ => .int
abbrev wsX40 : List Cond := u_ws RX4 TX4 6
theorem nmX4 : ∀ a, a < 6 → ∀ b, b < 6 → a ≠ b → (TX4 a).2.1 ≠ (TX4 b).2.1 := by decide +kernel
theorem tyX4_ok : ∀ k, k < 6 → parseFieldDescriptor (TX4 k).2.2.1 = some (tyX4 k) := by decide +kernel
abbrev cX4_init : ByteArray := prog_6_method_1_code
def yX4_init : MethodName := ⟨RX4, "<init>", "()V"⟩
abbrev cX4_read : ByteArray := prog_6_method_2_code
def yX4_read : MethodName := ⟨RX4, "read", "()I"⟩
abbrev cX4_expression : ByteArray := prog_6_method_3_code
def yX4_expression : MethodName := ⟨RX4, "expression", "()LTimedRuns$Expression;"⟩
abbrev cX4_readField : ByteArray := prog_6_method_4_code
def yX4_readField : MethodName := ⟨RX4, "readField", "(I)V"⟩
abbrev cX4_readEndOfField : ByteArray := prog_6_method_5_code
def yX4_readEndOfField : MethodName := ⟨RX4, "readEndOfField", "(I)V"⟩
abbrev cX4_readItem : ByteArray := prog_6_method_6_code
def yX4_readItem : MethodName := ⟨RX4, "readItem", "(I)V"⟩
abbrev cX4_addNumbers : ByteArray := prog_6_method_7_code
def yX4_addNumbers : MethodName := ⟨RX4, "addNumbers", "(IIII)V"⟩
abbrev cX4_readNumber : ByteArray := prog_6_method_8_code
def yX4_readNumber : MethodName := ⟨RX4, "readNumber", "(II)I"⟩
abbrev cX4_isDigit : ByteArray := prog_6_method_9_code
def yX4_isDigit : MethodName := ⟨RX4, "isDigit", "(C)Z"⟩
def RX5 : String := "TimedRuns$Task"
def TX5 : u_T := fun k => match k with
  | 0 => ("TimedRuns$Task", "needs", "I", true)
  | 1 => ("TimedRuns$Task", "mostTries", "I", true)
  | 2 => ("TimedRuns$Task", "pause", "I", true)
  | 3 => ("TimedRuns$Task", "state", "I", false)
  | 4 => ("TimedRuns$Task", "tried", "I", false)
  | _ => ("TimedRuns$Task", "until", "I", false)
def tyX5 : Nat → FieldType := fun k => match k with
  | 0 => .int
  | 1 => .int
  | 2 => .int
  | 3 => .int
  | 4 => .int
  | _ => .int
abbrev wsX50 : List Cond := u_ws RX5 TX5 6
theorem nmX5 : ∀ a, a < 6 → ∀ b, b < 6 → a ≠ b → (TX5 a).2.1 ≠ (TX5 b).2.1 := by decide +kernel
theorem tyX5_ok : ∀ k, k < 6 → parseFieldDescriptor (TX5 k).2.2.1 = some (tyX5 k) := by decide +kernel
abbrev cX5_init : ByteArray := prog_7_method_1_code
def yX5_init : MethodName := ⟨RX5, "<init>", "(III)V"⟩
abbrev cX5_begin : ByteArray := prog_7_method_2_code
def yX5_begin : MethodName := ⟨RX5, "begin", "()V"⟩
abbrev cX5_isOver : ByteArray := prog_7_method_3_code
def yX5_isOver : MethodName := ⟨RX5, "isOver", "()Z"⟩
abbrev cX5_isReady : ByteArray := prog_7_method_4_code
def yX5_isReady : MethodName := ⟨RX5, "isReady", "(II)Z"⟩
abbrev cX5_tryAgain : ByteArray := prog_7_method_5_code
def yX5_tryAgain : MethodName := ⟨RX5, "tryAgain", "(I)Z"⟩
def RX6 : String := "TimedRuns$Text"
def TX6 : u_T := fun k => match k with
  | 0 => ("TimedRuns$Text", "signs", "[C", true)
  | _ => ("TimedRuns$Text", "length", "I", false)
def tyX6 : Nat → FieldType := fun k => match k with
  | 0 => .array .char
  | _ => .int
abbrev wsX60 : List Cond := u_ws RX6 TX6 2
theorem nmX6 : ∀ a, a < 2 → ∀ b, b < 2 → a ≠ b → (TX6 a).2.1 ≠ (TX6 b).2.1 := by decide +kernel
theorem tyX6_ok : ∀ k, k < 2 → parseFieldDescriptor (TX6 k).2.2.1 = some (tyX6 k) := by decide +kernel
abbrev cX6_init : ByteArray := prog_8_method_1_code
def yX6_init : MethodName := ⟨RX6, "<init>", "()V"⟩
abbrev cX6_append : ByteArray := prog_8_method_2_code
def yX6_append : MethodName := ⟨RX6, "append", "(J)Z"⟩
abbrev cX6_signOf : ByteArray := prog_8_method_3_code
def yX6_signOf : MethodName := ⟨RX6, "signOf", "(JI)C"⟩
abbrev cX6_clear : ByteArray := prog_8_method_4_code
def yX6_clear : MethodName := ⟨RX6, "clear", "()V"⟩
abbrev cX6_signAt : ByteArray := prog_8_method_5_code
def yX6_signAt : MethodName := ⟨RX6, "signAt", "(I)C"⟩
def RX7 : String := "TimedRuns"
def TX7 : u_T := fun k => match k with
  | 0 => ("TimedRuns", "reader", "LTimedRuns$Reader;", true)
  | 1 => ("TimedRuns", "day", "LTimedRuns$Day;", true)
  | 2 => ("TimedRuns", "log", "LTimedRuns$Log;", true)
  | 3 => ("TimedRuns", "jobs", "[LTimedRuns$Job;", true)
  | 4 => ("TimedRuns", "jobCount", "I", false)
  | 5 => ("TimedRuns", "lastFault", "I", false)
  | 6 => ("TimedRuns", "slotCount", "I", false)
  | 7 => ("TimedRuns", "minuteNow", "I", false)
  | 8 => ("TimedRuns", "isDown", "Z", false)
  | _ => ("TimedRuns", "downSince", "I", false)
def tyX7 : Nat → FieldType := fun k => match k with
  | 0 => .object "TimedRuns$Reader"
  | 1 => .object "TimedRuns$Day"
  | 2 => .object "TimedRuns$Log"
  | 3 => .array (.object "TimedRuns$Job")
  | 4 => .int
  | 5 => .int
  | 6 => .int
  | 7 => .int
  | 8 => .boolean
  | _ => .int
abbrev wsX70 : List Cond := u_ws RX7 TX7 10
theorem nmX7 : ∀ a, a < 10 → ∀ b, b < 10 → a ≠ b → (TX7 a).2.1 ≠ (TX7 b).2.1 := by decide +kernel
theorem tyX7_ok : ∀ k, k < 10 → parseFieldDescriptor (TX7 k).2.2.1 = some (tyX7 k) := by decide +kernel
abbrev cX7_init : ByteArray := prog_1_method_1_code
def yX7_init : MethodName := ⟨RX7, "<init>", "()V"⟩
abbrev cX7_type : ByteArray := prog_1_method_2_code
def yX7_type : MethodName := ⟨RX7, "type", "(J)Z"⟩
abbrev cX7_job : ByteArray := prog_1_method_3_code
def yX7_job : MethodName := ⟨RX7, "job", "(I)I"⟩
abbrev cX7_fault : ByteArray := prog_1_method_4_code
def yX7_fault : MethodName := ⟨RX7, "fault", "()I"⟩
abbrev cX7_erase : ByteArray := prog_1_method_5_code
def yX7_erase : MethodName := ⟨RX7, "erase", "()V"⟩
abbrev cX7_task : ByteArray := prog_1_method_6_code
def yX7_task : MethodName := ⟨RX7, "task", "(IIII)I"⟩
abbrev cX7_slots : ByteArray := prog_1_method_7_code
def yX7_slots : MethodName := ⟨RX7, "slots", "(I)Z"⟩
abbrev cX7_holds : ByteArray := prog_1_method_8_code
def yX7_holds : MethodName := ⟨RX7, "holds", "(II)Z"⟩
abbrev cX7_next : ByteArray := prog_1_method_9_code
def yX7_next : MethodName := ⟨RX7, "next", "(II)I"⟩
abbrev cX7_part : ByteArray := prog_1_method_10_code
def yX7_part : MethodName := ⟨RX7, "part", "(II)I"⟩
abbrev cX7_pass : ByteArray := prog_1_method_11_code
def yX7_pass : MethodName := ⟨RX7, "pass", "(I)I"⟩
abbrev cX7_set : ByteArray := prog_1_method_12_code
def yX7_set : MethodName := ⟨RX7, "set", "(I)V"⟩
abbrev cX7_end : ByteArray := prog_1_method_13_code
def yX7_end : MethodName := ⟨RX7, "end", "(IIZ)I"⟩
abbrev cX7_down : ByteArray := prog_1_method_14_code
def yX7_down : MethodName := ⟨RX7, "down", "(Z)I"⟩
abbrev cX7_now : ByteArray := prog_1_method_15_code
def yX7_now : MethodName := ⟨RX7, "now", "()I"⟩
abbrev cX7_state : ByteArray := prog_1_method_16_code
def yX7_state : MethodName := ⟨RX7, "state", "(II)I"⟩
abbrev cX7_count : ByteArray := prog_1_method_17_code
def yX7_count : MethodName := ⟨RX7, "count", "(II)I"⟩
abbrev cX7_entries : ByteArray := prog_1_method_18_code
def yX7_entries : MethodName := ⟨RX7, "entries", "()I"⟩
abbrev cX7_entry : ByteArray := prog_1_method_19_code
def yX7_entry : MethodName := ⟨RX7, "entry", "(II)I"⟩
abbrev cX7_isJob : ByteArray := prog_1_method_20_code
def yX7_isJob : MethodName := ⟨RX7, "isJob", "(I)Z"⟩
abbrev cX7_isTask : ByteArray := prog_1_method_21_code
def yX7_isTask : MethodName := ⟨RX7, "isTask", "(II)Z"⟩
abbrev cX7_isMinute : ByteArray := prog_1_method_22_code
def yX7_isMinute : MethodName := ⟨RX7, "isMinute", "(I)Z"⟩
abbrev cX7_isAnyRunUnderWay : ByteArray := prog_1_method_23_code
def yX7_isAnyRunUnderWay : MethodName := ⟨RX7, "isAnyRunUnderWay", "()Z"⟩
abbrev cX7_countRunning : ByteArray := prog_1_method_24_code
def yX7_countRunning : MethodName := ⟨RX7, "countRunning", "()I"⟩
abbrev cX7_holdsAt : ByteArray := prog_1_method_25_code
def yX7_holdsAt : MethodName := ⟨RX7, "holdsAt", "(LTimedRuns$Expression;I)Z"⟩
abbrev cX7_firstBehind : ByteArray := prog_1_method_26_code
def yX7_firstBehind : MethodName := ⟨RX7, "firstBehind", "(LTimedRuns$Expression;II)I"⟩
abbrev cX7_makeStep : ByteArray := prog_1_method_27_code
def yX7_makeStep : MethodName := ⟨RX7, "makeStep", "()I"⟩
abbrev cX7_catchUp : ByteArray := prog_1_method_28_code
def yX7_catchUp : MethodName := ⟨RX7, "catchUp", "()I"⟩
abbrev cX7_fire : ByteArray := prog_1_method_29_code
def yX7_fire : MethodName := ⟨RX7, "fire", "(I)V"⟩
abbrev cX7_closeRunIfOver : ByteArray := prog_1_method_30_code
def yX7_closeRunIfOver : MethodName := ⟨RX7, "closeRunIfOver", "(I)V"⟩
abbrev cX7_startTasks : ByteArray := prog_1_method_31_code
def yX7_startTasks : MethodName := ⟨RX7, "startTasks", "()I"⟩
abbrev cX7_firstReadyJob : ByteArray := prog_1_method_32_code
def yX7_firstReadyJob : MethodName := ⟨RX7, "firstReadyJob", "()I"⟩
abbrev cX7_endTask : ByteArray := prog_1_method_33_code
def yX7_endTask : MethodName := ⟨RX7, "endTask", "(IIZ)V"⟩
abbrev cX7_leaveOutBehind : ByteArray := prog_1_method_34_code
def yX7_leaveOutBehind : MethodName := ⟨RX7, "leaveOutBehind", "(II)V"⟩
def RX8 : String := "TimedRunsModel"
def TX8 : u_T := fun k => match k with
  | 0 => ("TimedRunsModel", "code", "I", false)
  | 1 => ("TimedRunsModel", "now", "I", false)
  | 2 => ("TimedRunsModel", "free", "I", false)
  | 3 => ("TimedRunsModel", "down", "Z", false)
  | 4 => ("TimedRunsModel", "downAt", "I", false)
  | 5 => ("TimedRunsModel", "typed", "I", false)
  | 6 => ("TimedRunsModel", "text", "[I", true)
  | 7 => ("TimedRunsModel", "told", "I", false)
  | 8 => ("TimedRunsModel", "jobs", "I", false)
  | 9 => ("TimedRunsModel", "letters", "[I", true)
  | 10 => ("TimedRunsModel", "fields", "[I", true)
  | 11 => ("TimedRunsModel", "ranks", "[I", true)
  | 12 => ("TimedRunsModel", "sizes", "[I", true)
  | 13 => ("TimedRunsModel", "running", "[Z", true)
  | 14 => ("TimedRunsModel", "runs", "[I", true)
  | 15 => ("TimedRunsModel", "missed", "[I", true)
  | 16 => ("TimedRunsModel", "due", "[Z", true)
  | 17 => ("TimedRunsModel", "needs", "[I", true)
  | 18 => ("TimedRunsModel", "tries", "[I", true)
  | 19 => ("TimedRunsModel", "pauses", "[I", true)
  | 20 => ("TimedRunsModel", "states", "[I", true)
  | 21 => ("TimedRunsModel", "tried", "[I", true)
  | 22 => ("TimedRunsModel", "until", "[I", true)
  | 23 => ("TimedRunsModel", "entries", "I", false)
  | 24 => ("TimedRunsModel", "log", "[I", true)
  | 25 => ("TimedRunsModel", "year", "I", false)
  | 26 => ("TimedRunsModel", "month", "I", false)
  | _ => ("TimedRunsModel", "day", "I", false)
def tyX8 : Nat → FieldType := fun k => match k with
  | 0 => .int
  | 1 => .int
  | 2 => .int
  | 3 => .boolean
  | 4 => .int
  | 5 => .int
  | 6 => .array .int
  | 7 => .int
  | 8 => .int
  | 9 => .array .int
  | 10 => .array .int
  | 11 => .array .int
  | 12 => .array .int
  | 13 => .array .boolean
  | 14 => .array .int
  | 15 => .array .int
  | 16 => .array .boolean
  | 17 => .array .int
  | 18 => .array .int
  | 19 => .array .int
  | 20 => .array .int
  | 21 => .array .int
  | 22 => .array .int
  | 23 => .int
  | 24 => .array .int
  | 25 => .int
  | 26 => .int
  | _ => .int
abbrev wsX80 : List Cond := u_ws RX8 TX8 28
theorem nmX8 : ∀ a, a < 28 → ∀ b, b < 28 → a ≠ b → (TX8 a).2.1 ≠ (TX8 b).2.1 := by decide +kernel
theorem tyX8_ok : ∀ k, k < 28 → parseFieldDescriptor (TX8 k).2.2.1 = some (tyX8 k) := by decide +kernel
abbrev cX8_init : ByteArray := prog_10_method_1_code
def yX8_init : MethodName := ⟨RX8, "<init>", "()V"⟩
abbrev cX8_thrown : ByteArray := prog_10_method_2_code
def yX8_thrown : MethodName := ⟨RX8, "thrown", "()I"⟩
abbrev cX8_type : ByteArray := prog_10_method_3_code
def yX8_type : MethodName := ⟨RX8, "type", "(J)Z"⟩
abbrev cX8_erase : ByteArray := prog_10_method_4_code
def yX8_erase : MethodName := ⟨RX8, "erase", "()V"⟩
abbrev cX8_isDigit : ByteArray := prog_10_method_5_code
def yX8_isDigit : MethodName := ⟨RX8, "isDigit", "(I)Z"⟩
abbrev cX8_least : ByteArray := prog_10_method_6_code
def yX8_least : MethodName := ⟨RX8, "least", "(I)I"⟩
abbrev cX8_most : ByteArray := prog_10_method_7_code
def yX8_most : MethodName := ⟨RX8, "most", "(I)I"⟩
abbrev cX8_typedAt : ByteArray := prog_10_method_8_code
def yX8_typedAt : MethodName := ⟨RX8, "typedAt", "(I)I"⟩
abbrev cX8_digitsAt : ByteArray := prog_10_method_9_code
def yX8_digitsAt : MethodName := ⟨RX8, "digitsAt", "(I)I"⟩
abbrev cX8_valueAt : ByteArray := prog_10_method_10_code
def yX8_valueAt : MethodName := ⟨RX8, "valueAt", "(I)I"⟩
abbrev cX8_isNumber : ByteArray := prog_10_method_11_code
def yX8_isNumber : MethodName := ⟨RX8, "isNumber", "(III)Z"⟩
abbrev cX8_overItem : ByteArray := prog_10_method_12_code
def yX8_overItem : MethodName := ⟨RX8, "overItem", "(II)I"⟩
abbrev cX8_faultOf : ByteArray := prog_10_method_13_code
def yX8_faultOf : MethodName := ⟨RX8, "faultOf", "()I"⟩
abbrev cX8_job : ByteArray := prog_10_method_14_code
def yX8_job : MethodName := ⟨RX8, "job", "(I)I"⟩
abbrev cX8_fault : ByteArray := prog_10_method_15_code
def yX8_fault : MethodName := ⟨RX8, "fault", "()I"⟩
abbrev cX8_isLetterDigit : ByteArray := prog_10_method_16_code
def yX8_isLetterDigit : MethodName := ⟨RX8, "isLetterDigit", "(I)Z"⟩
abbrev cX8_numberFrom : ByteArray := prog_10_method_17_code
def yX8_numberFrom : MethodName := ⟨RX8, "numberFrom", "(I)I"⟩
abbrev cX8_behindNumber : ByteArray := prog_10_method_18_code
def yX8_behindNumber : MethodName := ⟨RX8, "behindNumber", "(I)I"⟩
abbrev cX8_itemHas : ByteArray := prog_10_method_19_code
def yX8_itemHas : MethodName := ⟨RX8, "itemHas", "(III)Z"⟩
abbrev cX8_has : ByteArray := prog_10_method_20_code
def yX8_has : MethodName := ⟨RX8, "has", "(III)Z"⟩
abbrev cX8_isFree : ByteArray := prog_10_method_21_code
def yX8_isFree : MethodName := ⟨RX8, "isFree", "(II)Z"⟩
abbrev cX8_isLeap : ByteArray := prog_10_method_22_code
def yX8_isLeap : MethodName := ⟨RX8, "isLeap", "(I)Z"⟩
abbrev cX8_monthLength : ByteArray := prog_10_method_23_code
def yX8_monthLength : MethodName := ⟨RX8, "monthLength", "(II)I"⟩
abbrev cX8_date : ByteArray := prog_10_method_24_code
def yX8_date : MethodName := ⟨RX8, "date", "(I)V"⟩
abbrev cX8_weekdayOf : ByteArray := prog_10_method_25_code
def yX8_weekdayOf : MethodName := ⟨RX8, "weekdayOf", "(I)I"⟩
abbrev cX8_holdsOn : ByteArray := prog_10_method_26_code
def yX8_holdsOn : MethodName := ⟨RX8, "holdsOn", "(II)Z"⟩
abbrev cX8_holdsIn : ByteArray := prog_10_method_27_code
def yX8_holdsIn : MethodName := ⟨RX8, "holdsIn", "(II)Z"⟩
abbrev cX8_holdsAt : ByteArray := prog_10_method_28_code
def yX8_holdsAt : MethodName := ⟨RX8, "holdsAt", "(II)Z"⟩
abbrev cX8_isJob : ByteArray := prog_10_method_29_code
def yX8_isJob : MethodName := ⟨RX8, "isJob", "(I)Z"⟩
abbrev cX8_isMinute : ByteArray := prog_10_method_30_code
def yX8_isMinute : MethodName := ⟨RX8, "isMinute", "(I)Z"⟩
abbrev cX8_holds : ByteArray := prog_10_method_31_code
def yX8_holds : MethodName := ⟨RX8, "holds", "(II)Z"⟩
abbrev cX8_firstFrom : ByteArray := prog_10_method_32_code
def yX8_firstFrom : MethodName := ⟨RX8, "firstFrom", "(III)I"⟩
abbrev cX8_next : ByteArray := prog_10_method_33_code
def yX8_next : MethodName := ⟨RX8, "next", "(II)I"⟩
abbrev cX8_part : ByteArray := prog_10_method_34_code
def yX8_part : MethodName := ⟨RX8, "part", "(II)I"⟩
abbrev cX8_note : ByteArray := prog_10_method_35_code
def yX8_note : MethodName := ⟨RX8, "note", "(III)V"⟩
abbrev cX8_fire : ByteArray := prog_10_method_36_code
def yX8_fire : MethodName := ⟨RX8, "fire", "(I)V"⟩
abbrev cX8_runningTasks : ByteArray := prog_10_method_37_code
def yX8_runningTasks : MethodName := ⟨RX8, "runningTasks", "()I"⟩
abbrev cX8_isReady : ByteArray := prog_10_method_38_code
def yX8_isReady : MethodName := ⟨RX8, "isReady", "(II)Z"⟩
abbrev cX8_best : ByteArray := prog_10_method_39_code
def yX8_best : MethodName := ⟨RX8, "best", "()I"⟩
abbrev cX8_start : ByteArray := prog_10_method_40_code
def yX8_start : MethodName := ⟨RX8, "start", "()I"⟩
abbrev cX8_leaveOut : ByteArray := prog_10_method_41_code
def yX8_leaveOut : MethodName := ⟨RX8, "leaveOut", "(II)V"⟩
abbrev cX8_endTask : ByteArray := prog_10_method_42_code
def yX8_endTask : MethodName := ⟨RX8, "endTask", "(IIZ)V"⟩
abbrev cX8_task : ByteArray := prog_10_method_43_code
def yX8_task : MethodName := ⟨RX8, "task", "(IIII)I"⟩
abbrev cX8_slots : ByteArray := prog_10_method_44_code
def yX8_slots : MethodName := ⟨RX8, "slots", "(I)Z"⟩
abbrev cX8_pass : ByteArray := prog_10_method_45_code
def yX8_pass : MethodName := ⟨RX8, "pass", "(I)I"⟩
abbrev cX8_isBusy : ByteArray := prog_10_method_46_code
def yX8_isBusy : MethodName := ⟨RX8, "isBusy", "()Z"⟩
abbrev cX8_set : ByteArray := prog_10_method_47_code
def yX8_set : MethodName := ⟨RX8, "set", "(I)V"⟩
abbrev cX8_isTask : ByteArray := prog_10_method_48_code
def yX8_isTask : MethodName := ⟨RX8, "isTask", "(II)Z"⟩
abbrev cX8_end : ByteArray := prog_10_method_49_code
def yX8_end : MethodName := ⟨RX8, "end", "(IIZ)I"⟩
abbrev cX8_comeUp : ByteArray := prog_10_method_50_code
def yX8_comeUp : MethodName := ⟨RX8, "comeUp", "()I"⟩
abbrev cX8_down : ByteArray := prog_10_method_51_code
def yX8_down : MethodName := ⟨RX8, "down", "(Z)I"⟩
abbrev cX8_now : ByteArray := prog_10_method_52_code
def yX8_now : MethodName := ⟨RX8, "now", "()I"⟩
abbrev cX8_state : ByteArray := prog_10_method_53_code
def yX8_state : MethodName := ⟨RX8, "state", "(II)I"⟩
abbrev cX8_count : ByteArray := prog_10_method_54_code
def yX8_count : MethodName := ⟨RX8, "count", "(II)I"⟩
abbrev cX8_entries : ByteArray := prog_10_method_55_code
def yX8_entries : MethodName := ⟨RX8, "entries", "()I"⟩
abbrev cX8_entry : ByteArray := prog_10_method_56_code
def yX8_entry : MethodName := ⟨RX8, "entry", "(II)I"⟩
def RL : String := "TimedRunsLaw"
abbrev cL_job : ByteArray := method_3_code
def yL_job : MethodName := ⟨RL, "job", "(LTimedRuns;I[J)I"⟩
abbrev cL_task : ByteArray := method_4_code
def yL_task : MethodName := ⟨RL, "task", "(LTimedRuns;IIII[J)I"⟩
abbrev cL_holds : ByteArray := method_5_code
def yL_holds : MethodName := ⟨RL, "holds", "(LTimedRuns;II[J)I"⟩
abbrev cL_next : ByteArray := method_6_code
def yL_next : MethodName := ⟨RL, "next", "(LTimedRuns;II[J)I"⟩
abbrev cL_part : ByteArray := method_7_code
def yL_part : MethodName := ⟨RL, "part", "(LTimedRuns;II[J)I"⟩
abbrev cL_pass : ByteArray := method_8_code
def yL_pass : MethodName := ⟨RL, "pass", "(LTimedRuns;I[J)I"⟩
abbrev cL_set : ByteArray := method_9_code
def yL_set : MethodName := ⟨RL, "set", "(LTimedRuns;I)I"⟩
abbrev cL_end : ByteArray := method_10_code
def yL_end : MethodName := ⟨RL, "end", "(LTimedRuns;IIZ[J)I"⟩
abbrev cL_down : ByteArray := method_11_code
def yL_down : MethodName := ⟨RL, "down", "(LTimedRuns;Z[J)I"⟩
abbrev cL_entry : ByteArray := method_12_code
def yL_entry : MethodName := ⟨RL, "entry", "(LTimedRuns;II[J)I"⟩
abbrev cL_law : ByteArray := code
def yL_law : MethodName := ⟨RL, "law", "([I)Z"⟩
abbrev vwCl : List vw_C := [(RX0, TX0, 4), (RX1, TX1, 2), (RX2, TX2, 7), (RX3, TX3, 2), (RX4, TX4, 6), (RX5, TX5, 6), (RX6, TX6, 2), (RX7, TX7, 10), (RX8, TX8, 28)]
end
section
theorem dX0_init_0 : decode cX0_init 0 = .ok (.aload_n 0, 1) := by decide +kernel
theorem dX0_init_1 : decode cX0_init 1 = .ok (.invokespecial 1, 3) := by decide +kernel
theorem dX0_init_4 : decode cX0_init 4 = .ok (.aload_n 0, 1) := by decide +kernel
theorem dX0_init_5 : decode cX0_init 5 = .ok (.iconst 0, 1) := by decide +kernel
theorem dX0_init_6 : decode cX0_init 6 = .ok (.putfield 7, 3) := by decide +kernel
theorem dX0_init_9 : decode cX0_init 9 = .ok (.aload_n 0, 1) := by decide +kernel
theorem dX0_init_10 : decode cX0_init 10 = .ok (.sipush 2000, 3) := by decide +kernel
theorem dX0_init_13 : decode cX0_init 13 = .ok (.putfield 13, 3) := by decide +kernel
theorem dX0_init_16 : decode cX0_init 16 = .ok (.aload_n 0, 1) := by decide +kernel
theorem dX0_init_17 : decode cX0_init 17 = .ok (.iconst 1, 1) := by decide +kernel
theorem dX0_init_18 : decode cX0_init 18 = .ok (.putfield 16, 3) := by decide +kernel
theorem dX0_init_21 : decode cX0_init 21 = .ok (.aload_n 0, 1) := by decide +kernel
theorem dX0_init_22 : decode cX0_init 22 = .ok (.iconst 1, 1) := by decide +kernel
theorem dX0_init_23 : decode cX0_init 23 = .ok (.putfield 19, 3) := by decide +kernel
theorem dX0_init_26 : decode cX0_init 26 = .ok (.return_, 1) := by decide +kernel
theorem dX0_turnTo_0 : decode cX0_turnTo 0 = .ok (.iload_n 1, 1) := by decide +kernel
theorem dX0_turnTo_1 : decode cX0_turnTo 1 = .ok (.aload_n 0, 1) := by decide +kernel
theorem dX0_turnTo_2 : decode cX0_turnTo 2 = .ok (.getfield 7, 3) := by decide +kernel
theorem dX0_turnTo_5 : decode cX0_turnTo 5 = .ok (.if_icmp .ne 4, 3) := by decide +kernel
theorem dX0_turnTo_8 : decode cX0_turnTo 8 = .ok (.return_, 1) := by decide +kernel
theorem dX0_turnTo_9 : decode cX0_turnTo 9 = .ok (.iload_n 1, 1) := by decide +kernel
theorem dX0_turnTo_10 : decode cX0_turnTo 10 = .ok (.aload_n 0, 1) := by decide +kernel
theorem dX0_turnTo_11 : decode cX0_turnTo 11 = .ok (.getfield 7, 3) := by decide +kernel
theorem dX0_turnTo_14 : decode cX0_turnTo 14 = .ok (.iconst 1, 1) := by decide +kernel
theorem dX0_turnTo_15 : decode cX0_turnTo 15 = .ok (.iadd, 1) := by decide +kernel
theorem dX0_turnTo_16 : decode cX0_turnTo 16 = .ok (.if_icmp .ne 10, 3) := by decide +kernel
theorem dX0_turnTo_19 : decode cX0_turnTo 19 = .ok (.aload_n 0, 1) := by decide +kernel
theorem dX0_turnTo_20 : decode cX0_turnTo 20 = .ok (.invokevirtual 22, 3) := by decide +kernel
theorem dX0_turnTo_23 : decode cX0_turnTo 23 = .ok (.goto 8, 3) := by decide +kernel
theorem dX0_turnTo_26 : decode cX0_turnTo 26 = .ok (.aload_n 0, 1) := by decide +kernel
theorem dX0_turnTo_27 : decode cX0_turnTo 27 = .ok (.iload_n 1, 1) := by decide +kernel
theorem dX0_turnTo_28 : decode cX0_turnTo 28 = .ok (.invokevirtual 25, 3) := by decide +kernel
theorem dX0_turnTo_31 : decode cX0_turnTo 31 = .ok (.aload_n 0, 1) := by decide +kernel
theorem dX0_turnTo_32 : decode cX0_turnTo 32 = .ok (.iload_n 1, 1) := by decide +kernel
theorem dX0_turnTo_33 : decode cX0_turnTo 33 = .ok (.putfield 7, 3) := by decide +kernel
theorem dX0_turnTo_36 : decode cX0_turnTo 36 = .ok (.return_, 1) := by decide +kernel
theorem dX0_turnOne_0 : decode cX0_turnOne 0 = .ok (.aload_n 0, 1) := by decide +kernel
theorem dX0_turnOne_1 : decode cX0_turnOne 1 = .ok (.dup, 1) := by decide +kernel
theorem dX0_turnOne_2 : decode cX0_turnOne 2 = .ok (.getfield 19, 3) := by decide +kernel
theorem dX0_turnOne_5 : decode cX0_turnOne 5 = .ok (.iconst 1, 1) := by decide +kernel
theorem dX0_turnOne_6 : decode cX0_turnOne 6 = .ok (.iadd, 1) := by decide +kernel
theorem dX0_turnOne_7 : decode cX0_turnOne 7 = .ok (.putfield 19, 3) := by decide +kernel
theorem dX0_turnOne_10 : decode cX0_turnOne 10 = .ok (.aload_n 0, 1) := by decide +kernel
theorem dX0_turnOne_11 : decode cX0_turnOne 11 = .ok (.getfield 19, 3) := by decide +kernel
theorem dX0_turnOne_14 : decode cX0_turnOne 14 = .ok (.aload_n 0, 1) := by decide +kernel
theorem dX0_turnOne_15 : decode cX0_turnOne 15 = .ok (.invokevirtual 29, 3) := by decide +kernel
theorem dX0_turnOne_18 : decode cX0_turnOne 18 = .ok (.if_icmp .le 18, 3) := by decide +kernel
theorem dX0_turnOne_21 : decode cX0_turnOne 21 = .ok (.aload_n 0, 1) := by decide +kernel
theorem dX0_turnOne_22 : decode cX0_turnOne 22 = .ok (.iconst 1, 1) := by decide +kernel
theorem dX0_turnOne_23 : decode cX0_turnOne 23 = .ok (.putfield 19, 3) := by decide +kernel
theorem dX0_turnOne_26 : decode cX0_turnOne 26 = .ok (.aload_n 0, 1) := by decide +kernel
theorem dX0_turnOne_27 : decode cX0_turnOne 27 = .ok (.dup, 1) := by decide +kernel
theorem dX0_turnOne_28 : decode cX0_turnOne 28 = .ok (.getfield 16, 3) := by decide +kernel
theorem dX0_turnOne_31 : decode cX0_turnOne 31 = .ok (.iconst 1, 1) := by decide +kernel
theorem dX0_turnOne_32 : decode cX0_turnOne 32 = .ok (.iadd, 1) := by decide +kernel
theorem dX0_turnOne_33 : decode cX0_turnOne 33 = .ok (.putfield 16, 3) := by decide +kernel
theorem dX0_turnOne_36 : decode cX0_turnOne 36 = .ok (.aload_n 0, 1) := by decide +kernel
theorem dX0_turnOne_37 : decode cX0_turnOne 37 = .ok (.getfield 16, 3) := by decide +kernel
theorem dX0_turnOne_40 : decode cX0_turnOne 40 = .ok (.bipush 12, 2) := by decide +kernel
theorem dX0_turnOne_42 : decode cX0_turnOne 42 = .ok (.if_icmp .le 18, 3) := by decide +kernel
theorem dX0_turnOne_45 : decode cX0_turnOne 45 = .ok (.aload_n 0, 1) := by decide +kernel
theorem dX0_turnOne_46 : decode cX0_turnOne 46 = .ok (.iconst 1, 1) := by decide +kernel
theorem dX0_turnOne_47 : decode cX0_turnOne 47 = .ok (.putfield 16, 3) := by decide +kernel
theorem dX0_turnOne_50 : decode cX0_turnOne 50 = .ok (.aload_n 0, 1) := by decide +kernel
theorem dX0_turnOne_51 : decode cX0_turnOne 51 = .ok (.dup, 1) := by decide +kernel
theorem dX0_turnOne_52 : decode cX0_turnOne 52 = .ok (.getfield 13, 3) := by decide +kernel
theorem dX0_turnOne_55 : decode cX0_turnOne 55 = .ok (.iconst 1, 1) := by decide +kernel
theorem dX0_turnOne_56 : decode cX0_turnOne 56 = .ok (.iadd, 1) := by decide +kernel
theorem dX0_turnOne_57 : decode cX0_turnOne 57 = .ok (.putfield 13, 3) := by decide +kernel
theorem dX0_turnOne_60 : decode cX0_turnOne 60 = .ok (.return_, 1) := by decide +kernel
theorem dX0_find_0 : decode cX0_find 0 = .ok (.iload_n 1, 1) := by decide +kernel
theorem dX0_find_1 : decode cX0_find 1 = .ok (.istore_n 2, 1) := by decide +kernel
theorem dX0_find_2 : decode cX0_find 2 = .ok (.aload_n 0, 1) := by decide +kernel
theorem dX0_find_3 : decode cX0_find 3 = .ok (.sipush 2000, 3) := by decide +kernel
theorem dX0_find_6 : decode cX0_find 6 = .ok (.putfield 13, 3) := by decide +kernel
theorem dX0_find_9 : decode cX0_find 9 = .ok (.aload_n 0, 1) := by decide +kernel
theorem dX0_find_10 : decode cX0_find 10 = .ok (.getfield 13, 3) := by decide +kernel
theorem dX0_find_13 : decode cX0_find 13 = .ok (.sipush 2038, 3) := by decide +kernel
theorem dX0_find_16 : decode cX0_find 16 = .ok (.if_icmp .ge 31, 3) := by decide +kernel
theorem dX0_find_19 : decode cX0_find 19 = .ok (.iload_n 2, 1) := by decide +kernel
theorem dX0_find_20 : decode cX0_find 20 = .ok (.aload_n 0, 1) := by decide +kernel
theorem dX0_find_21 : decode cX0_find 21 = .ok (.invokevirtual 33, 3) := by decide +kernel
theorem dX0_find_24 : decode cX0_find 24 = .ok (.if_icmp .lt 23, 3) := by decide +kernel
theorem dX0_find_27 : decode cX0_find 27 = .ok (.iload_n 2, 1) := by decide +kernel
theorem dX0_find_28 : decode cX0_find 28 = .ok (.aload_n 0, 1) := by decide +kernel
theorem dX0_find_29 : decode cX0_find 29 = .ok (.invokevirtual 33, 3) := by decide +kernel
theorem dX0_find_32 : decode cX0_find 32 = .ok (.isub, 1) := by decide +kernel
theorem dX0_find_33 : decode cX0_find 33 = .ok (.istore_n 2, 1) := by decide +kernel
theorem dX0_find_34 : decode cX0_find 34 = .ok (.aload_n 0, 1) := by decide +kernel
theorem dX0_find_35 : decode cX0_find 35 = .ok (.dup, 1) := by decide +kernel
theorem dX0_find_36 : decode cX0_find 36 = .ok (.getfield 13, 3) := by decide +kernel
theorem dX0_find_39 : decode cX0_find 39 = .ok (.iconst 1, 1) := by decide +kernel
theorem dX0_find_40 : decode cX0_find 40 = .ok (.iadd, 1) := by decide +kernel
theorem dX0_find_41 : decode cX0_find 41 = .ok (.putfield 13, 3) := by decide +kernel
theorem dX0_find_44 : decode cX0_find 44 = .ok (.goto (-35), 3) := by decide +kernel
theorem dX0_find_47 : decode cX0_find 47 = .ok (.aload_n 0, 1) := by decide +kernel
theorem dX0_find_48 : decode cX0_find 48 = .ok (.iconst 1, 1) := by decide +kernel
theorem dX0_find_49 : decode cX0_find 49 = .ok (.putfield 16, 3) := by decide +kernel
theorem dX0_find_52 : decode cX0_find 52 = .ok (.aload_n 0, 1) := by decide +kernel
theorem dX0_find_53 : decode cX0_find 53 = .ok (.getfield 16, 3) := by decide +kernel
theorem dX0_find_56 : decode cX0_find 56 = .ok (.bipush 12, 2) := by decide +kernel
theorem dX0_find_58 : decode cX0_find 58 = .ok (.if_icmp .ge 31, 3) := by decide +kernel
theorem dX0_find_61 : decode cX0_find 61 = .ok (.iload_n 2, 1) := by decide +kernel
theorem dX0_find_62 : decode cX0_find 62 = .ok (.aload_n 0, 1) := by decide +kernel
theorem dX0_find_63 : decode cX0_find 63 = .ok (.invokevirtual 29, 3) := by decide +kernel
theorem dX0_find_66 : decode cX0_find 66 = .ok (.if_icmp .lt 23, 3) := by decide +kernel
theorem dX0_find_69 : decode cX0_find 69 = .ok (.iload_n 2, 1) := by decide +kernel
theorem dX0_find_70 : decode cX0_find 70 = .ok (.aload_n 0, 1) := by decide +kernel
theorem dX0_find_71 : decode cX0_find 71 = .ok (.invokevirtual 29, 3) := by decide +kernel
theorem dX0_find_74 : decode cX0_find 74 = .ok (.isub, 1) := by decide +kernel
theorem dX0_find_75 : decode cX0_find 75 = .ok (.istore_n 2, 1) := by decide +kernel
theorem dX0_find_76 : decode cX0_find 76 = .ok (.aload_n 0, 1) := by decide +kernel
theorem dX0_find_77 : decode cX0_find 77 = .ok (.dup, 1) := by decide +kernel
theorem dX0_find_78 : decode cX0_find 78 = .ok (.getfield 16, 3) := by decide +kernel
theorem dX0_find_81 : decode cX0_find 81 = .ok (.iconst 1, 1) := by decide +kernel
theorem dX0_find_82 : decode cX0_find 82 = .ok (.iadd, 1) := by decide +kernel
theorem dX0_find_83 : decode cX0_find 83 = .ok (.putfield 16, 3) := by decide +kernel
theorem dX0_find_86 : decode cX0_find 86 = .ok (.goto (-34), 3) := by decide +kernel
theorem dX0_find_89 : decode cX0_find 89 = .ok (.aload_n 0, 1) := by decide +kernel
theorem dX0_find_90 : decode cX0_find 90 = .ok (.iload_n 2, 1) := by decide +kernel
theorem dX0_find_91 : decode cX0_find 91 = .ok (.iconst 1, 1) := by decide +kernel
theorem dX0_find_92 : decode cX0_find 92 = .ok (.iadd, 1) := by decide +kernel
theorem dX0_find_93 : decode cX0_find 93 = .ok (.putfield 19, 3) := by decide +kernel
theorem dX0_find_96 : decode cX0_find 96 = .ok (.return_, 1) := by decide +kernel
theorem dX0_weekday_0 : decode cX0_weekday 0 = .ok (.aload_n 0, 1) := by decide +kernel
theorem dX0_weekday_1 : decode cX0_weekday 1 = .ok (.getfield 7, 3) := by decide +kernel
theorem dX0_weekday_4 : decode cX0_weekday 4 = .ok (.bipush 6, 2) := by decide +kernel
theorem dX0_weekday_6 : decode cX0_weekday 6 = .ok (.iadd, 1) := by decide +kernel
theorem dX0_weekday_7 : decode cX0_weekday 7 = .ok (.bipush 7, 2) := by decide +kernel
theorem dX0_weekday_9 : decode cX0_weekday 9 = .ok (.irem, 1) := by decide +kernel
theorem dX0_weekday_10 : decode cX0_weekday 10 = .ok (.ireturn, 1) := by decide +kernel
theorem dX0_isLeapYear_0 : decode cX0_isLeapYear 0 = .ok (.aload_n 0, 1) := by decide +kernel
theorem dX0_isLeapYear_1 : decode cX0_isLeapYear 1 = .ok (.getfield 13, 3) := by decide +kernel
theorem dX0_isLeapYear_4 : decode cX0_isLeapYear 4 = .ok (.iconst 4, 1) := by decide +kernel
theorem dX0_isLeapYear_5 : decode cX0_isLeapYear 5 = .ok (.irem, 1) := by decide +kernel
theorem dX0_isLeapYear_6 : decode cX0_isLeapYear 6 = .ok (.ifCond .ne 13, 3) := by decide +kernel
theorem dX0_isLeapYear_9 : decode cX0_isLeapYear 9 = .ok (.aload_n 0, 1) := by decide +kernel
theorem dX0_isLeapYear_10 : decode cX0_isLeapYear 10 = .ok (.getfield 13, 3) := by decide +kernel
theorem dX0_isLeapYear_13 : decode cX0_isLeapYear 13 = .ok (.bipush 100, 2) := by decide +kernel
theorem dX0_isLeapYear_15 : decode cX0_isLeapYear 15 = .ok (.irem, 1) := by decide +kernel
theorem dX0_isLeapYear_16 : decode cX0_isLeapYear 16 = .ok (.ifCond .ne 14, 3) := by decide +kernel
theorem dX0_isLeapYear_19 : decode cX0_isLeapYear 19 = .ok (.aload_n 0, 1) := by decide +kernel
theorem dX0_isLeapYear_20 : decode cX0_isLeapYear 20 = .ok (.getfield 13, 3) := by decide +kernel
theorem dX0_isLeapYear_23 : decode cX0_isLeapYear 23 = .ok (.sipush 400, 3) := by decide +kernel
theorem dX0_isLeapYear_26 : decode cX0_isLeapYear 26 = .ok (.irem, 1) := by decide +kernel
theorem dX0_isLeapYear_27 : decode cX0_isLeapYear 27 = .ok (.ifCond .ne 7, 3) := by decide +kernel
theorem dX0_isLeapYear_30 : decode cX0_isLeapYear 30 = .ok (.iconst 1, 1) := by decide +kernel
theorem dX0_isLeapYear_31 : decode cX0_isLeapYear 31 = .ok (.goto 4, 3) := by decide +kernel
theorem dX0_isLeapYear_34 : decode cX0_isLeapYear 34 = .ok (.iconst 0, 1) := by decide +kernel
theorem dX0_isLeapYear_35 : decode cX0_isLeapYear 35 = .ok (.ireturn, 1) := by decide +kernel
theorem dX0_daysOfYear_0 : decode cX0_daysOfYear 0 = .ok (.aload_n 0, 1) := by decide +kernel
theorem dX0_daysOfYear_1 : decode cX0_daysOfYear 1 = .ok (.invokevirtual 36, 3) := by decide +kernel
theorem dX0_daysOfYear_4 : decode cX0_daysOfYear 4 = .ok (.ifCond .eq 9, 3) := by decide +kernel
theorem dX0_daysOfYear_7 : decode cX0_daysOfYear 7 = .ok (.sipush 366, 3) := by decide +kernel
theorem dX0_daysOfYear_10 : decode cX0_daysOfYear 10 = .ok (.goto 6, 3) := by decide +kernel
theorem dX0_daysOfYear_13 : decode cX0_daysOfYear 13 = .ok (.sipush 365, 3) := by decide +kernel
theorem dX0_daysOfYear_16 : decode cX0_daysOfYear 16 = .ok (.ireturn, 1) := by decide +kernel
theorem dX0_daysOfMonth_0 : decode cX0_daysOfMonth 0 = .ok (.aload_n 0, 1) := by decide +kernel
theorem dX0_daysOfMonth_1 : decode cX0_daysOfMonth 1 = .ok (.getfield 16, 3) := by decide +kernel
theorem dX0_daysOfMonth_4 : decode cX0_daysOfMonth 4 = .ok (.iconst 2, 1) := by decide +kernel
theorem dX0_daysOfMonth_5 : decode cX0_daysOfMonth 5 = .ok (.if_icmp .ne 15, 3) := by decide +kernel
theorem dX0_daysOfMonth_8 : decode cX0_daysOfMonth 8 = .ok (.aload_n 0, 1) := by decide +kernel
theorem dX0_daysOfMonth_9 : decode cX0_daysOfMonth 9 = .ok (.invokevirtual 36, 3) := by decide +kernel
theorem dX0_daysOfMonth_12 : decode cX0_daysOfMonth 12 = .ok (.ifCond .eq 8, 3) := by decide +kernel
theorem dX0_daysOfMonth_15 : decode cX0_daysOfMonth 15 = .ok (.bipush 29, 2) := by decide +kernel
theorem dX0_daysOfMonth_17 : decode cX0_daysOfMonth 17 = .ok (.goto 13, 3) := by decide +kernel
theorem dX0_daysOfMonth_20 : decode cX0_daysOfMonth 20 = .ok (.getstatic 40, 3) := by decide +kernel
theorem dX0_daysOfMonth_23 : decode cX0_daysOfMonth 23 = .ok (.aload_n 0, 1) := by decide +kernel
theorem dX0_daysOfMonth_24 : decode cX0_daysOfMonth 24 = .ok (.getfield 16, 3) := by decide +kernel
theorem dX0_daysOfMonth_27 : decode cX0_daysOfMonth 27 = .ok (.iconst 1, 1) := by decide +kernel
theorem dX0_daysOfMonth_28 : decode cX0_daysOfMonth 28 = .ok (.isub, 1) := by decide +kernel
theorem dX0_daysOfMonth_29 : decode cX0_daysOfMonth 29 = .ok (.iaload, 1) := by decide +kernel
theorem dX0_daysOfMonth_30 : decode cX0_daysOfMonth 30 = .ok (.ireturn, 1) := by decide +kernel
theorem dX1_init_0 : decode cX1_init 0 = .ok (.aload_n 0, 1) := by decide +kernel
theorem dX1_init_1 : decode cX1_init 1 = .ok (.invokespecial 3, 3) := by decide +kernel
theorem dX1_init_4 : decode cX1_init 4 = .ok (.aload_n 0, 1) := by decide +kernel
theorem dX1_init_5 : decode cX1_init 5 = .ok (.aload_n 1, 1) := by decide +kernel
theorem dX1_init_6 : decode cX1_init 6 = .ok (.invokevirtual 9, 3) := by decide +kernel
theorem dX1_init_9 : decode cX1_init 9 = .ok (.checkcast 10, 3) := by decide +kernel
theorem dX1_init_12 : decode cX1_init 12 = .ok (.putfield 15, 3) := by decide +kernel
theorem dX1_init_15 : decode cX1_init 15 = .ok (.aload_n 0, 1) := by decide +kernel
theorem dX1_init_16 : decode cX1_init 16 = .ok (.iload_n 2, 1) := by decide +kernel
theorem dX1_init_17 : decode cX1_init 17 = .ok (.putfield 20, 3) := by decide +kernel
theorem dX1_init_20 : decode cX1_init 20 = .ok (.return_, 1) := by decide +kernel
theorem dX1_has_0 : decode cX1_has 0 = .ok (.aload_n 0, 1) := by decide +kernel
theorem dX1_has_1 : decode cX1_has 1 = .ok (.getfield 15, 3) := by decide +kernel
theorem dX1_has_4 : decode cX1_has 4 = .ok (.iload_n 1, 1) := by decide +kernel
theorem dX1_has_5 : decode cX1_has 5 = .ok (.laload, 1) := by decide +kernel
theorem dX1_has_6 : decode cX1_has 6 = .ok (.iload_n 2, 1) := by decide +kernel
theorem dX1_has_7 : decode cX1_has 7 = .ok (.lushr, 1) := by decide +kernel
theorem dX1_has_8 : decode cX1_has 8 = .ok (.lconst 1, 1) := by decide +kernel
theorem dX1_has_9 : decode cX1_has 9 = .ok (.land, 1) := by decide +kernel
theorem dX1_has_10 : decode cX1_has 10 = .ok (.lconst 0, 1) := by decide +kernel
theorem dX1_has_11 : decode cX1_has 11 = .ok (.lcmp, 1) := by decide +kernel
theorem dX1_has_12 : decode cX1_has 12 = .ok (.ifCond .eq 7, 3) := by decide +kernel
theorem dX1_has_15 : decode cX1_has 15 = .ok (.iconst 1, 1) := by decide +kernel
theorem dX1_has_16 : decode cX1_has 16 = .ok (.goto 4, 3) := by decide +kernel
theorem dX1_has_19 : decode cX1_has 19 = .ok (.iconst 0, 1) := by decide +kernel
theorem dX1_has_20 : decode cX1_has 20 = .ok (.ireturn, 1) := by decide +kernel
theorem dX1_hasTime_0 : decode cX1_hasTime 0 = .ok (.aload_n 0, 1) := by decide +kernel
theorem dX1_hasTime_1 : decode cX1_hasTime 1 = .ok (.iconst 0, 1) := by decide +kernel
theorem dX1_hasTime_2 : decode cX1_hasTime 2 = .ok (.iload_n 1, 1) := by decide +kernel
theorem dX1_hasTime_3 : decode cX1_hasTime 3 = .ok (.bipush 60, 2) := by decide +kernel
theorem dX1_hasTime_5 : decode cX1_hasTime 5 = .ok (.irem, 1) := by decide +kernel
theorem dX1_hasTime_6 : decode cX1_hasTime 6 = .ok (.invokevirtual 24, 3) := by decide +kernel
theorem dX1_hasTime_9 : decode cX1_hasTime 9 = .ok (.ifCond .eq 19, 3) := by decide +kernel
theorem dX1_hasTime_12 : decode cX1_hasTime 12 = .ok (.aload_n 0, 1) := by decide +kernel
theorem dX1_hasTime_13 : decode cX1_hasTime 13 = .ok (.iconst 1, 1) := by decide +kernel
theorem dX1_hasTime_14 : decode cX1_hasTime 14 = .ok (.iload_n 1, 1) := by decide +kernel
theorem dX1_hasTime_15 : decode cX1_hasTime 15 = .ok (.bipush 60, 2) := by decide +kernel
theorem dX1_hasTime_17 : decode cX1_hasTime 17 = .ok (.idiv, 1) := by decide +kernel
theorem dX1_hasTime_18 : decode cX1_hasTime 18 = .ok (.invokevirtual 24, 3) := by decide +kernel
theorem dX1_hasTime_21 : decode cX1_hasTime 21 = .ok (.ifCond .eq 7, 3) := by decide +kernel
theorem dX1_hasTime_24 : decode cX1_hasTime 24 = .ok (.iconst 1, 1) := by decide +kernel
theorem dX1_hasTime_25 : decode cX1_hasTime 25 = .ok (.goto 4, 3) := by decide +kernel
theorem dX1_hasTime_28 : decode cX1_hasTime 28 = .ok (.iconst 0, 1) := by decide +kernel
theorem dX1_hasTime_29 : decode cX1_hasTime 29 = .ok (.ireturn, 1) := by decide +kernel
theorem dX1_hasDay_0 : decode cX1_hasDay 0 = .ok (.aload_n 0, 1) := by decide +kernel
theorem dX1_hasDay_1 : decode cX1_hasDay 1 = .ok (.iconst 3, 1) := by decide +kernel
theorem dX1_hasDay_2 : decode cX1_hasDay 2 = .ok (.aload_n 1, 1) := by decide +kernel
theorem dX1_hasDay_3 : decode cX1_hasDay 3 = .ok (.getfield 28, 3) := by decide +kernel
theorem dX1_hasDay_6 : decode cX1_hasDay 6 = .ok (.invokevirtual 24, 3) := by decide +kernel
theorem dX1_hasDay_9 : decode cX1_hasDay 9 = .ok (.ifCond .ne 5, 3) := by decide +kernel
theorem dX1_hasDay_12 : decode cX1_hasDay 12 = .ok (.iconst 0, 1) := by decide +kernel
theorem dX1_hasDay_13 : decode cX1_hasDay 13 = .ok (.ireturn, 1) := by decide +kernel
theorem dX1_hasDay_14 : decode cX1_hasDay 14 = .ok (.aload_n 0, 1) := by decide +kernel
theorem dX1_hasDay_15 : decode cX1_hasDay 15 = .ok (.iconst 2, 1) := by decide +kernel
theorem dX1_hasDay_16 : decode cX1_hasDay 16 = .ok (.aload_n 1, 1) := by decide +kernel
theorem dX1_hasDay_17 : decode cX1_hasDay 17 = .ok (.getfield 34, 3) := by decide +kernel
theorem dX1_hasDay_20 : decode cX1_hasDay 20 = .ok (.invokevirtual 24, 3) := by decide +kernel
theorem dX1_hasDay_23 : decode cX1_hasDay 23 = .ok (.istore_n 2, 1) := by decide +kernel
theorem dX1_hasDay_24 : decode cX1_hasDay 24 = .ok (.aload_n 0, 1) := by decide +kernel
theorem dX1_hasDay_25 : decode cX1_hasDay 25 = .ok (.iconst 4, 1) := by decide +kernel
theorem dX1_hasDay_26 : decode cX1_hasDay 26 = .ok (.aload_n 1, 1) := by decide +kernel
theorem dX1_hasDay_27 : decode cX1_hasDay 27 = .ok (.invokevirtual 37, 3) := by decide +kernel
theorem dX1_hasDay_30 : decode cX1_hasDay 30 = .ok (.invokevirtual 24, 3) := by decide +kernel
theorem dX1_hasDay_33 : decode cX1_hasDay 33 = .ok (.istore_n 3, 1) := by decide +kernel
theorem dX1_hasDay_34 : decode cX1_hasDay 34 = .ok (.aload_n 0, 1) := by decide +kernel
theorem dX1_hasDay_35 : decode cX1_hasDay 35 = .ok (.getfield 20, 3) := by decide +kernel
theorem dX1_hasDay_38 : decode cX1_hasDay 38 = .ok (.ifCond .eq 19, 3) := by decide +kernel
theorem dX1_hasDay_41 : decode cX1_hasDay 41 = .ok (.iload_n 2, 1) := by decide +kernel
theorem dX1_hasDay_42 : decode cX1_hasDay 42 = .ok (.ifCond .eq 11, 3) := by decide +kernel
theorem dX1_hasDay_45 : decode cX1_hasDay 45 = .ok (.iload_n 3, 1) := by decide +kernel
theorem dX1_hasDay_46 : decode cX1_hasDay 46 = .ok (.ifCond .eq 7, 3) := by decide +kernel
theorem dX1_hasDay_49 : decode cX1_hasDay 49 = .ok (.iconst 1, 1) := by decide +kernel
theorem dX1_hasDay_50 : decode cX1_hasDay 50 = .ok (.goto 20, 3) := by decide +kernel
theorem dX1_hasDay_53 : decode cX1_hasDay 53 = .ok (.iconst 0, 1) := by decide +kernel
theorem dX1_hasDay_54 : decode cX1_hasDay 54 = .ok (.goto 16, 3) := by decide +kernel
theorem dX1_hasDay_57 : decode cX1_hasDay 57 = .ok (.iload_n 2, 1) := by decide +kernel
theorem dX1_hasDay_58 : decode cX1_hasDay 58 = .ok (.ifCond .ne 7, 3) := by decide +kernel
theorem dX1_hasDay_61 : decode cX1_hasDay 61 = .ok (.iload_n 3, 1) := by decide +kernel
theorem dX1_hasDay_62 : decode cX1_hasDay 62 = .ok (.ifCond .eq 7, 3) := by decide +kernel
theorem dX1_hasDay_65 : decode cX1_hasDay 65 = .ok (.iconst 1, 1) := by decide +kernel
theorem dX1_hasDay_66 : decode cX1_hasDay 66 = .ok (.goto 4, 3) := by decide +kernel
theorem dX1_hasDay_69 : decode cX1_hasDay 69 = .ok (.iconst 0, 1) := by decide +kernel
theorem dX1_hasDay_70 : decode cX1_hasDay 70 = .ok (.ireturn, 1) := by decide +kernel
theorem dX1_firstTime_0 : decode cX1_firstTime 0 = .ok (.iload_n 1, 1) := by decide +kernel
theorem dX1_firstTime_1 : decode cX1_firstTime 1 = .ok (.istore_n 2, 1) := by decide +kernel
theorem dX1_firstTime_2 : decode cX1_firstTime 2 = .ok (.iload_n 2, 1) := by decide +kernel
theorem dX1_firstTime_3 : decode cX1_firstTime 3 = .ok (.sipush 1440, 3) := by decide +kernel
theorem dX1_firstTime_6 : decode cX1_firstTime 6 = .ok (.if_icmp .ge 19, 3) := by decide +kernel
theorem dX1_firstTime_9 : decode cX1_firstTime 9 = .ok (.aload_n 0, 1) := by decide +kernel
theorem dX1_firstTime_10 : decode cX1_firstTime 10 = .ok (.iload_n 2, 1) := by decide +kernel
theorem dX1_firstTime_11 : decode cX1_firstTime 11 = .ok (.invokevirtual 41, 3) := by decide +kernel
theorem dX1_firstTime_14 : decode cX1_firstTime 14 = .ok (.ifCond .eq 5, 3) := by decide +kernel
theorem dX1_firstTime_17 : decode cX1_firstTime 17 = .ok (.iload_n 2, 1) := by decide +kernel
theorem dX1_firstTime_18 : decode cX1_firstTime 18 = .ok (.ireturn, 1) := by decide +kernel
theorem dX1_firstTime_19 : decode cX1_firstTime 19 = .ok (.iinc 2 1, 3) := by decide +kernel
theorem dX1_firstTime_22 : decode cX1_firstTime 22 = .ok (.goto (-20), 3) := by decide +kernel
theorem dX1_firstTime_25 : decode cX1_firstTime 25 = .ok (.iconst (-1), 1) := by decide +kernel
theorem dX1_firstTime_26 : decode cX1_firstTime 26 = .ok (.ireturn, 1) := by decide +kernel
theorem dX2_init_0 : decode cX2_init 0 = .ok (.aload_n 0, 1) := by decide +kernel
theorem dX2_init_1 : decode cX2_init 1 = .ok (.invokespecial 3, 3) := by decide +kernel
theorem dX2_init_4 : decode cX2_init 4 = .ok (.aload_n 0, 1) := by decide +kernel
theorem dX2_init_5 : decode cX2_init 5 = .ok (.bipush 6, 2) := by decide +kernel
theorem dX2_init_7 : decode cX2_init 7 = .ok (.anewarray 9, 3) := by decide +kernel
theorem dX2_init_10 : decode cX2_init 10 = .ok (.putfield 11, 3) := by decide +kernel
theorem dX2_init_13 : decode cX2_init 13 = .ok (.aload_n 0, 1) := by decide +kernel
theorem dX2_init_14 : decode cX2_init 14 = .ok (.iconst 0, 1) := by decide +kernel
theorem dX2_init_15 : decode cX2_init 15 = .ok (.putfield 17, 3) := by decide +kernel
theorem dX2_init_18 : decode cX2_init 18 = .ok (.aload_n 0, 1) := by decide +kernel
theorem dX2_init_19 : decode cX2_init 19 = .ok (.iconst 0, 1) := by decide +kernel
theorem dX2_init_20 : decode cX2_init 20 = .ok (.putfield 21, 3) := by decide +kernel
theorem dX2_init_23 : decode cX2_init 23 = .ok (.aload_n 0, 1) := by decide +kernel
theorem dX2_init_24 : decode cX2_init 24 = .ok (.iconst 0, 1) := by decide +kernel
theorem dX2_init_25 : decode cX2_init 25 = .ok (.putfield 25, 3) := by decide +kernel
theorem dX2_init_28 : decode cX2_init 28 = .ok (.aload_n 0, 1) := by decide +kernel
theorem dX2_init_29 : decode cX2_init 29 = .ok (.iconst 0, 1) := by decide +kernel
theorem dX2_init_30 : decode cX2_init 30 = .ok (.putfield 28, 3) := by decide +kernel
theorem dX2_init_33 : decode cX2_init 33 = .ok (.aload_n 0, 1) := by decide +kernel
theorem dX2_init_34 : decode cX2_init 34 = .ok (.iload_n 1, 1) := by decide +kernel
theorem dX2_init_35 : decode cX2_init 35 = .ok (.putfield 31, 3) := by decide +kernel
theorem dX2_init_38 : decode cX2_init 38 = .ok (.aload_n 0, 1) := by decide +kernel
theorem dX2_init_39 : decode cX2_init 39 = .ok (.aload_n 2, 1) := by decide +kernel
theorem dX2_init_40 : decode cX2_init 40 = .ok (.putfield 34, 3) := by decide +kernel
theorem dX2_init_43 : decode cX2_init 43 = .ok (.return_, 1) := by decide +kernel
theorem dX2_allTasks_0 : decode cX2_allTasks 0 = .ok (.iconst 1, 1) := by decide +kernel
theorem dX2_allTasks_1 : decode cX2_allTasks 1 = .ok (.aload_n 0, 1) := by decide +kernel
theorem dX2_allTasks_2 : decode cX2_allTasks 2 = .ok (.getfield 17, 3) := by decide +kernel
theorem dX2_allTasks_5 : decode cX2_allTasks 5 = .ok (.ishl, 1) := by decide +kernel
theorem dX2_allTasks_6 : decode cX2_allTasks 6 = .ok (.iconst 1, 1) := by decide +kernel
theorem dX2_allTasks_7 : decode cX2_allTasks 7 = .ok (.isub, 1) := by decide +kernel
theorem dX2_allTasks_8 : decode cX2_allTasks 8 = .ok (.ireturn, 1) := by decide +kernel
theorem dX2_addTask_0 : decode cX2_addTask 0 = .ok (.aload_n 0, 1) := by decide +kernel
theorem dX2_addTask_1 : decode cX2_addTask 1 = .ok (.getfield 11, 3) := by decide +kernel
theorem dX2_addTask_4 : decode cX2_addTask 4 = .ok (.aload_n 0, 1) := by decide +kernel
theorem dX2_addTask_5 : decode cX2_addTask 5 = .ok (.getfield 17, 3) := by decide +kernel
theorem dX2_addTask_8 : decode cX2_addTask 8 = .ok (.aload_n 1, 1) := by decide +kernel
theorem dX2_addTask_9 : decode cX2_addTask 9 = .ok (.aastore, 1) := by decide +kernel
theorem dX2_addTask_10 : decode cX2_addTask 10 = .ok (.aload_n 0, 1) := by decide +kernel
theorem dX2_addTask_11 : decode cX2_addTask 11 = .ok (.dup, 1) := by decide +kernel
theorem dX2_addTask_12 : decode cX2_addTask 12 = .ok (.getfield 17, 3) := by decide +kernel
theorem dX2_addTask_15 : decode cX2_addTask 15 = .ok (.dup_x1, 1) := by decide +kernel
theorem dX2_addTask_16 : decode cX2_addTask 16 = .ok (.iconst 1, 1) := by decide +kernel
theorem dX2_addTask_17 : decode cX2_addTask 17 = .ok (.iadd, 1) := by decide +kernel
theorem dX2_addTask_18 : decode cX2_addTask 18 = .ok (.putfield 17, 3) := by decide +kernel
theorem dX2_addTask_21 : decode cX2_addTask 21 = .ok (.ireturn, 1) := by decide +kernel
theorem dX2_begin_0 : decode cX2_begin 0 = .ok (.aload_n 0, 1) := by decide +kernel
theorem dX2_begin_1 : decode cX2_begin 1 = .ok (.dup, 1) := by decide +kernel
theorem dX2_begin_2 : decode cX2_begin 2 = .ok (.getfield 25, 3) := by decide +kernel
theorem dX2_begin_5 : decode cX2_begin 5 = .ok (.iconst 1, 1) := by decide +kernel
theorem dX2_begin_6 : decode cX2_begin 6 = .ok (.iadd, 1) := by decide +kernel
theorem dX2_begin_7 : decode cX2_begin 7 = .ok (.putfield 25, 3) := by decide +kernel
theorem dX2_begin_10 : decode cX2_begin 10 = .ok (.aload_n 0, 1) := by decide +kernel
theorem dX2_begin_11 : decode cX2_begin 11 = .ok (.iconst 1, 1) := by decide +kernel
theorem dX2_begin_12 : decode cX2_begin 12 = .ok (.putfield 21, 3) := by decide +kernel
theorem dX2_begin_15 : decode cX2_begin 15 = .ok (.iconst 0, 1) := by decide +kernel
theorem dX2_begin_16 : decode cX2_begin 16 = .ok (.istore_n 1, 1) := by decide +kernel
theorem dX2_begin_17 : decode cX2_begin 17 = .ok (.iload_n 1, 1) := by decide +kernel
theorem dX2_begin_18 : decode cX2_begin 18 = .ok (.aload_n 0, 1) := by decide +kernel
theorem dX2_begin_19 : decode cX2_begin 19 = .ok (.getfield 17, 3) := by decide +kernel
theorem dX2_begin_22 : decode cX2_begin 22 = .ok (.if_icmp .ge 18, 3) := by decide +kernel
theorem dX2_begin_25 : decode cX2_begin 25 = .ok (.aload_n 0, 1) := by decide +kernel
theorem dX2_begin_26 : decode cX2_begin 26 = .ok (.getfield 11, 3) := by decide +kernel
theorem dX2_begin_29 : decode cX2_begin 29 = .ok (.iload_n 1, 1) := by decide +kernel
theorem dX2_begin_30 : decode cX2_begin 30 = .ok (.aaload, 1) := by decide +kernel
theorem dX2_begin_31 : decode cX2_begin 31 = .ok (.invokevirtual 38, 3) := by decide +kernel
theorem dX2_begin_34 : decode cX2_begin 34 = .ok (.iinc 1 1, 3) := by decide +kernel
theorem dX2_begin_37 : decode cX2_begin 37 = .ok (.goto (-20), 3) := by decide +kernel
theorem dX2_begin_40 : decode cX2_begin 40 = .ok (.return_, 1) := by decide +kernel
theorem dX2_isAllOver_0 : decode cX2_isAllOver 0 = .ok (.iconst 0, 1) := by decide +kernel
theorem dX2_isAllOver_1 : decode cX2_isAllOver 1 = .ok (.istore_n 1, 1) := by decide +kernel
theorem dX2_isAllOver_2 : decode cX2_isAllOver 2 = .ok (.iload_n 1, 1) := by decide +kernel
theorem dX2_isAllOver_3 : decode cX2_isAllOver 3 = .ok (.aload_n 0, 1) := by decide +kernel
theorem dX2_isAllOver_4 : decode cX2_isAllOver 4 = .ok (.getfield 17, 3) := by decide +kernel
theorem dX2_isAllOver_7 : decode cX2_isAllOver 7 = .ok (.if_icmp .ge 23, 3) := by decide +kernel
theorem dX2_isAllOver_10 : decode cX2_isAllOver 10 = .ok (.aload_n 0, 1) := by decide +kernel
theorem dX2_isAllOver_11 : decode cX2_isAllOver 11 = .ok (.getfield 11, 3) := by decide +kernel
theorem dX2_isAllOver_14 : decode cX2_isAllOver 14 = .ok (.iload_n 1, 1) := by decide +kernel
theorem dX2_isAllOver_15 : decode cX2_isAllOver 15 = .ok (.aaload, 1) := by decide +kernel
theorem dX2_isAllOver_16 : decode cX2_isAllOver 16 = .ok (.invokevirtual 41, 3) := by decide +kernel
theorem dX2_isAllOver_19 : decode cX2_isAllOver 19 = .ok (.ifCond .ne 5, 3) := by decide +kernel
theorem dX2_isAllOver_22 : decode cX2_isAllOver 22 = .ok (.iconst 0, 1) := by decide +kernel
theorem dX2_isAllOver_23 : decode cX2_isAllOver 23 = .ok (.ireturn, 1) := by decide +kernel
theorem dX2_isAllOver_24 : decode cX2_isAllOver 24 = .ok (.iinc 1 1, 3) := by decide +kernel
theorem dX2_isAllOver_27 : decode cX2_isAllOver 27 = .ok (.goto (-25), 3) := by decide +kernel
theorem dX2_isAllOver_30 : decode cX2_isAllOver 30 = .ok (.iconst 1, 1) := by decide +kernel
theorem dX2_isAllOver_31 : decode cX2_isAllOver 31 = .ok (.ireturn, 1) := by decide +kernel
theorem dX2_countRunning_0 : decode cX2_countRunning 0 = .ok (.iconst 0, 1) := by decide +kernel
theorem dX2_countRunning_1 : decode cX2_countRunning 1 = .ok (.istore_n 1, 1) := by decide +kernel
theorem dX2_countRunning_2 : decode cX2_countRunning 2 = .ok (.iconst 0, 1) := by decide +kernel
theorem dX2_countRunning_3 : decode cX2_countRunning 3 = .ok (.istore_n 2, 1) := by decide +kernel
theorem dX2_countRunning_4 : decode cX2_countRunning 4 = .ok (.iload_n 2, 1) := by decide +kernel
theorem dX2_countRunning_5 : decode cX2_countRunning 5 = .ok (.aload_n 0, 1) := by decide +kernel
theorem dX2_countRunning_6 : decode cX2_countRunning 6 = .ok (.getfield 17, 3) := by decide +kernel
theorem dX2_countRunning_9 : decode cX2_countRunning 9 = .ok (.if_icmp .ge 25, 3) := by decide +kernel
theorem dX2_countRunning_12 : decode cX2_countRunning 12 = .ok (.aload_n 0, 1) := by decide +kernel
theorem dX2_countRunning_13 : decode cX2_countRunning 13 = .ok (.getfield 11, 3) := by decide +kernel
theorem dX2_countRunning_16 : decode cX2_countRunning 16 = .ok (.iload_n 2, 1) := by decide +kernel
theorem dX2_countRunning_17 : decode cX2_countRunning 17 = .ok (.aaload, 1) := by decide +kernel
theorem dX2_countRunning_18 : decode cX2_countRunning 18 = .ok (.getfield 45, 3) := by decide +kernel
theorem dX2_countRunning_21 : decode cX2_countRunning 21 = .ok (.iconst 3, 1) := by decide +kernel
theorem dX2_countRunning_22 : decode cX2_countRunning 22 = .ok (.if_icmp .ne 6, 3) := by decide +kernel
theorem dX2_countRunning_25 : decode cX2_countRunning 25 = .ok (.iinc 1 1, 3) := by decide +kernel
theorem dX2_countRunning_28 : decode cX2_countRunning 28 = .ok (.iinc 2 1, 3) := by decide +kernel
theorem dX2_countRunning_31 : decode cX2_countRunning 31 = .ok (.goto (-27), 3) := by decide +kernel
theorem dX2_countRunning_34 : decode cX2_countRunning 34 = .ok (.iload_n 1, 1) := by decide +kernel
theorem dX2_countRunning_35 : decode cX2_countRunning 35 = .ok (.ireturn, 1) := by decide +kernel
theorem dX2_firstReady_0 : decode cX2_firstReady 0 = .ok (.iconst 0, 1) := by decide +kernel
theorem dX2_firstReady_1 : decode cX2_firstReady 1 = .ok (.istore_n 2, 1) := by decide +kernel
theorem dX2_firstReady_2 : decode cX2_firstReady 2 = .ok (.iconst 0, 1) := by decide +kernel
theorem dX2_firstReady_3 : decode cX2_firstReady 3 = .ok (.istore_n 3, 1) := by decide +kernel
theorem dX2_firstReady_4 : decode cX2_firstReady 4 = .ok (.iload_n 3, 1) := by decide +kernel
theorem dX2_firstReady_5 : decode cX2_firstReady 5 = .ok (.aload_n 0, 1) := by decide +kernel
theorem dX2_firstReady_6 : decode cX2_firstReady 6 = .ok (.getfield 17, 3) := by decide +kernel
theorem dX2_firstReady_9 : decode cX2_firstReady 9 = .ok (.if_icmp .ge 44, 3) := by decide +kernel
theorem dX2_firstReady_12 : decode cX2_firstReady 12 = .ok (.aload_n 0, 1) := by decide +kernel
theorem dX2_firstReady_13 : decode cX2_firstReady 13 = .ok (.getfield 11, 3) := by decide +kernel
theorem dX2_firstReady_16 : decode cX2_firstReady 16 = .ok (.iload_n 3, 1) := by decide +kernel
theorem dX2_firstReady_17 : decode cX2_firstReady 17 = .ok (.aaload, 1) := by decide +kernel
theorem dX2_firstReady_18 : decode cX2_firstReady 18 = .ok (.iload_n 1, 1) := by decide +kernel
theorem dX2_firstReady_19 : decode cX2_firstReady 19 = .ok (.iload_n 2, 1) := by decide +kernel
theorem dX2_firstReady_20 : decode cX2_firstReady 20 = .ok (.invokevirtual 48, 3) := by decide +kernel
theorem dX2_firstReady_23 : decode cX2_firstReady 23 = .ok (.ifCond .eq 5, 3) := by decide +kernel
theorem dX2_firstReady_26 : decode cX2_firstReady 26 = .ok (.iload_n 3, 1) := by decide +kernel
theorem dX2_firstReady_27 : decode cX2_firstReady 27 = .ok (.ireturn, 1) := by decide +kernel
theorem dX2_firstReady_28 : decode cX2_firstReady 28 = .ok (.aload_n 0, 1) := by decide +kernel
theorem dX2_firstReady_29 : decode cX2_firstReady 29 = .ok (.getfield 11, 3) := by decide +kernel
theorem dX2_firstReady_32 : decode cX2_firstReady 32 = .ok (.iload_n 3, 1) := by decide +kernel
theorem dX2_firstReady_33 : decode cX2_firstReady 33 = .ok (.aaload, 1) := by decide +kernel
theorem dX2_firstReady_34 : decode cX2_firstReady 34 = .ok (.getfield 45, 3) := by decide +kernel
theorem dX2_firstReady_37 : decode cX2_firstReady 37 = .ok (.iconst 4, 1) := by decide +kernel
theorem dX2_firstReady_38 : decode cX2_firstReady 38 = .ok (.if_icmp .ne 9, 3) := by decide +kernel
theorem dX2_firstReady_41 : decode cX2_firstReady 41 = .ok (.iload_n 2, 1) := by decide +kernel
theorem dX2_firstReady_42 : decode cX2_firstReady 42 = .ok (.iconst 1, 1) := by decide +kernel
theorem dX2_firstReady_43 : decode cX2_firstReady 43 = .ok (.iload_n 3, 1) := by decide +kernel
theorem dX2_firstReady_44 : decode cX2_firstReady 44 = .ok (.ishl, 1) := by decide +kernel
theorem dX2_firstReady_45 : decode cX2_firstReady 45 = .ok (.ior, 1) := by decide +kernel
theorem dX2_firstReady_46 : decode cX2_firstReady 46 = .ok (.istore_n 2, 1) := by decide +kernel
theorem dX2_firstReady_47 : decode cX2_firstReady 47 = .ok (.iinc 3 1, 3) := by decide +kernel
theorem dX2_firstReady_50 : decode cX2_firstReady 50 = .ok (.goto (-46), 3) := by decide +kernel
theorem dX2_firstReady_53 : decode cX2_firstReady 53 = .ok (.iconst (-1), 1) := by decide +kernel
theorem dX2_firstReady_54 : decode cX2_firstReady 54 = .ok (.ireturn, 1) := by decide +kernel
theorem dX3_init_0 : decode cX3_init 0 = .ok (.aload_n 0, 1) := by decide +kernel
theorem dX3_init_1 : decode cX3_init 1 = .ok (.invokespecial 1, 3) := by decide +kernel
theorem dX3_init_4 : decode cX3_init 4 = .ok (.aload_n 0, 1) := by decide +kernel
theorem dX3_init_5 : decode cX3_init 5 = .ok (.sipush 256, 3) := by decide +kernel
theorem dX3_init_8 : decode cX3_init 8 = .ok (.newarray .int, 2) := by decide +kernel
theorem dX3_init_10 : decode cX3_init 10 = .ok (.putfield 9, 3) := by decide +kernel
theorem dX3_init_13 : decode cX3_init 13 = .ok (.aload_n 0, 1) := by decide +kernel
theorem dX3_init_14 : decode cX3_init 14 = .ok (.iconst 0, 1) := by decide +kernel
theorem dX3_init_15 : decode cX3_init 15 = .ok (.putfield 13, 3) := by decide +kernel
theorem dX3_init_18 : decode cX3_init 18 = .ok (.return_, 1) := by decide +kernel
theorem dX3_add_0 : decode cX3_add 0 = .ok (.aload_n 0, 1) := by decide +kernel
theorem dX3_add_1 : decode cX3_add 1 = .ok (.getfield 13, 3) := by decide +kernel
theorem dX3_add_4 : decode cX3_add 4 = .ok (.bipush 64, 2) := by decide +kernel
theorem dX3_add_6 : decode cX3_add 6 = .ok (.irem, 1) := by decide +kernel
theorem dX3_add_7 : decode cX3_add 7 = .ok (.iconst 4, 1) := by decide +kernel
theorem dX3_add_8 : decode cX3_add 8 = .ok (.imul, 1) := by decide +kernel
theorem dX3_add_9 : decode cX3_add 9 = .ok (.istore 5, 2) := by decide +kernel
theorem dX3_add_11 : decode cX3_add 11 = .ok (.aload_n 0, 1) := by decide +kernel
theorem dX3_add_12 : decode cX3_add 12 = .ok (.getfield 9, 3) := by decide +kernel
theorem dX3_add_15 : decode cX3_add 15 = .ok (.iload 5, 2) := by decide +kernel
theorem dX3_add_17 : decode cX3_add 17 = .ok (.iload_n 1, 1) := by decide +kernel
theorem dX3_add_18 : decode cX3_add 18 = .ok (.iastore, 1) := by decide +kernel
theorem dX3_add_19 : decode cX3_add 19 = .ok (.aload_n 0, 1) := by decide +kernel
theorem dX3_add_20 : decode cX3_add 20 = .ok (.getfield 9, 3) := by decide +kernel
theorem dX3_add_23 : decode cX3_add 23 = .ok (.iload 5, 2) := by decide +kernel
theorem dX3_add_25 : decode cX3_add 25 = .ok (.iconst 1, 1) := by decide +kernel
theorem dX3_add_26 : decode cX3_add 26 = .ok (.iadd, 1) := by decide +kernel
theorem dX3_add_27 : decode cX3_add 27 = .ok (.iload_n 2, 1) := by decide +kernel
theorem dX3_add_28 : decode cX3_add 28 = .ok (.iastore, 1) := by decide +kernel
theorem dX3_add_29 : decode cX3_add 29 = .ok (.aload_n 0, 1) := by decide +kernel
theorem dX3_add_30 : decode cX3_add 30 = .ok (.getfield 9, 3) := by decide +kernel
theorem dX3_add_33 : decode cX3_add 33 = .ok (.iload 5, 2) := by decide +kernel
theorem dX3_add_35 : decode cX3_add 35 = .ok (.iconst 2, 1) := by decide +kernel
theorem dX3_add_36 : decode cX3_add 36 = .ok (.iadd, 1) := by decide +kernel
theorem dX3_add_37 : decode cX3_add 37 = .ok (.iload_n 3, 1) := by decide +kernel
theorem dX3_add_38 : decode cX3_add 38 = .ok (.iastore, 1) := by decide +kernel
theorem dX3_add_39 : decode cX3_add 39 = .ok (.aload_n 0, 1) := by decide +kernel
theorem dX3_add_40 : decode cX3_add 40 = .ok (.getfield 9, 3) := by decide +kernel
theorem dX3_add_43 : decode cX3_add 43 = .ok (.iload 5, 2) := by decide +kernel
theorem dX3_add_45 : decode cX3_add 45 = .ok (.iconst 3, 1) := by decide +kernel
theorem dX3_add_46 : decode cX3_add 46 = .ok (.iadd, 1) := by decide +kernel
theorem dX3_add_47 : decode cX3_add 47 = .ok (.iload 4, 2) := by decide +kernel
theorem dX3_add_49 : decode cX3_add 49 = .ok (.iastore, 1) := by decide +kernel
theorem dX3_add_50 : decode cX3_add 50 = .ok (.aload_n 0, 1) := by decide +kernel
theorem dX3_add_51 : decode cX3_add 51 = .ok (.dup, 1) := by decide +kernel
theorem dX3_add_52 : decode cX3_add 52 = .ok (.getfield 13, 3) := by decide +kernel
theorem dX3_add_55 : decode cX3_add 55 = .ok (.iconst 1, 1) := by decide +kernel
theorem dX3_add_56 : decode cX3_add 56 = .ok (.iadd, 1) := by decide +kernel
theorem dX3_add_57 : decode cX3_add 57 = .ok (.putfield 13, 3) := by decide +kernel
theorem dX3_add_60 : decode cX3_add 60 = .ok (.return_, 1) := by decide +kernel
theorem dX3_keeps_0 : decode cX3_keeps 0 = .ok (.iload_n 1, 1) := by decide +kernel
theorem dX3_keeps_1 : decode cX3_keeps 1 = .ok (.ifCond .lt 21, 3) := by decide +kernel
theorem dX3_keeps_4 : decode cX3_keeps 4 = .ok (.iload_n 1, 1) := by decide +kernel
theorem dX3_keeps_5 : decode cX3_keeps 5 = .ok (.bipush 64, 2) := by decide +kernel
theorem dX3_keeps_7 : decode cX3_keeps 7 = .ok (.if_icmp .ge 15, 3) := by decide +kernel
theorem dX3_keeps_10 : decode cX3_keeps 10 = .ok (.iload_n 1, 1) := by decide +kernel
theorem dX3_keeps_11 : decode cX3_keeps 11 = .ok (.aload_n 0, 1) := by decide +kernel
theorem dX3_keeps_12 : decode cX3_keeps 12 = .ok (.getfield 13, 3) := by decide +kernel
theorem dX3_keeps_15 : decode cX3_keeps 15 = .ok (.if_icmp .ge 7, 3) := by decide +kernel
theorem dX3_keeps_18 : decode cX3_keeps 18 = .ok (.iconst 1, 1) := by decide +kernel
theorem dX3_keeps_19 : decode cX3_keeps 19 = .ok (.goto 4, 3) := by decide +kernel
theorem dX3_keeps_22 : decode cX3_keeps 22 = .ok (.iconst 0, 1) := by decide +kernel
theorem dX3_keeps_23 : decode cX3_keeps 23 = .ok (.ireturn, 1) := by decide +kernel
theorem dX3_read_0 : decode cX3_read 0 = .ok (.aload_n 0, 1) := by decide +kernel
theorem dX3_read_1 : decode cX3_read 1 = .ok (.getfield 9, 3) := by decide +kernel
theorem dX3_read_4 : decode cX3_read 4 = .ok (.aload_n 0, 1) := by decide +kernel
theorem dX3_read_5 : decode cX3_read 5 = .ok (.getfield 13, 3) := by decide +kernel
theorem dX3_read_8 : decode cX3_read 8 = .ok (.iconst 1, 1) := by decide +kernel
theorem dX3_read_9 : decode cX3_read 9 = .ok (.isub, 1) := by decide +kernel
theorem dX3_read_10 : decode cX3_read 10 = .ok (.iload_n 1, 1) := by decide +kernel
theorem dX3_read_11 : decode cX3_read 11 = .ok (.isub, 1) := by decide +kernel
theorem dX3_read_12 : decode cX3_read 12 = .ok (.bipush 64, 2) := by decide +kernel
theorem dX3_read_14 : decode cX3_read 14 = .ok (.irem, 1) := by decide +kernel
theorem dX3_read_15 : decode cX3_read 15 = .ok (.iconst 4, 1) := by decide +kernel
theorem dX3_read_16 : decode cX3_read 16 = .ok (.imul, 1) := by decide +kernel
theorem dX3_read_17 : decode cX3_read 17 = .ok (.iload_n 2, 1) := by decide +kernel
theorem dX3_read_18 : decode cX3_read 18 = .ok (.iadd, 1) := by decide +kernel
theorem dX3_read_19 : decode cX3_read 19 = .ok (.iaload, 1) := by decide +kernel
theorem dX3_read_20 : decode cX3_read 20 = .ok (.ireturn, 1) := by decide +kernel
theorem dX4_init_0 : decode cX4_init 0 = .ok (.aload_n 0, 1) := by decide +kernel
theorem dX4_init_1 : decode cX4_init 1 = .ok (.invokespecial 3, 3) := by decide +kernel
theorem dX4_init_4 : decode cX4_init 4 = .ok (.aload_n 0, 1) := by decide +kernel
theorem dX4_init_5 : decode cX4_init 5 = .ok (.new 9, 3) := by decide +kernel
theorem dX4_init_8 : decode cX4_init 8 = .ok (.dup, 1) := by decide +kernel
theorem dX4_init_9 : decode cX4_init 9 = .ok (.invokespecial 11, 3) := by decide +kernel
theorem dX4_init_12 : decode cX4_init 12 = .ok (.putfield 12, 3) := by decide +kernel
theorem dX4_init_15 : decode cX4_init 15 = .ok (.aload_n 0, 1) := by decide +kernel
theorem dX4_init_16 : decode cX4_init 16 = .ok (.iconst 5, 1) := by decide +kernel
theorem dX4_init_17 : decode cX4_init 17 = .ok (.newarray .long, 2) := by decide +kernel
theorem dX4_init_19 : decode cX4_init 19 = .ok (.putfield 18, 3) := by decide +kernel
theorem dX4_init_22 : decode cX4_init 22 = .ok (.aload_n 0, 1) := by decide +kernel
theorem dX4_init_23 : decode cX4_init 23 = .ok (.iconst 0, 1) := by decide +kernel
theorem dX4_init_24 : decode cX4_init 24 = .ok (.putfield 22, 3) := by decide +kernel
theorem dX4_init_27 : decode cX4_init 27 = .ok (.aload_n 0, 1) := by decide +kernel
theorem dX4_init_28 : decode cX4_init 28 = .ok (.iconst 0, 1) := by decide +kernel
theorem dX4_init_29 : decode cX4_init 29 = .ok (.putfield 26, 3) := by decide +kernel
theorem dX4_init_32 : decode cX4_init 32 = .ok (.aload_n 0, 1) := by decide +kernel
theorem dX4_init_33 : decode cX4_init 33 = .ok (.iconst 0, 1) := by decide +kernel
theorem dX4_init_34 : decode cX4_init 34 = .ok (.putfield 29, 3) := by decide +kernel
theorem dX4_init_37 : decode cX4_init 37 = .ok (.aload_n 0, 1) := by decide +kernel
theorem dX4_init_38 : decode cX4_init 38 = .ok (.iconst (-1), 1) := by decide +kernel
theorem dX4_init_39 : decode cX4_init 39 = .ok (.putfield 33, 3) := by decide +kernel
theorem dX4_init_42 : decode cX4_init 42 = .ok (.return_, 1) := by decide +kernel
theorem dX4_read_0 : decode cX4_read 0 = .ok (.aload_n 0, 1) := by decide +kernel
theorem dX4_read_1 : decode cX4_read 1 = .ok (.iconst 0, 1) := by decide +kernel
theorem dX4_read_2 : decode cX4_read 2 = .ok (.putfield 29, 3) := by decide +kernel
theorem dX4_read_5 : decode cX4_read 5 = .ok (.aload_n 0, 1) := by decide +kernel
theorem dX4_read_6 : decode cX4_read 6 = .ok (.iconst (-1), 1) := by decide +kernel
theorem dX4_read_7 : decode cX4_read 7 = .ok (.putfield 33, 3) := by decide +kernel
theorem dX4_read_10 : decode cX4_read 10 = .ok (.iconst 0, 1) := by decide +kernel
theorem dX4_read_11 : decode cX4_read 11 = .ok (.istore_n 1, 1) := by decide +kernel
theorem dX4_read_12 : decode cX4_read 12 = .ok (.iload_n 1, 1) := by decide +kernel
theorem dX4_read_13 : decode cX4_read 13 = .ok (.iconst 5, 1) := by decide +kernel
theorem dX4_read_14 : decode cX4_read 14 = .ok (.if_icmp .ge 22, 3) := by decide +kernel
theorem dX4_read_17 : decode cX4_read 17 = .ok (.aload_n 0, 1) := by decide +kernel
theorem dX4_read_18 : decode cX4_read 18 = .ok (.getfield 33, 3) := by decide +kernel
theorem dX4_read_21 : decode cX4_read 21 = .ok (.iconst (-1), 1) := by decide +kernel
theorem dX4_read_22 : decode cX4_read 22 = .ok (.if_icmp .ne 14, 3) := by decide +kernel
theorem dX4_read_25 : decode cX4_read 25 = .ok (.aload_n 0, 1) := by decide +kernel
theorem dX4_read_26 : decode cX4_read 26 = .ok (.iload_n 1, 1) := by decide +kernel
theorem dX4_read_27 : decode cX4_read 27 = .ok (.invokevirtual 36, 3) := by decide +kernel
theorem dX4_read_30 : decode cX4_read 30 = .ok (.iinc 1 1, 3) := by decide +kernel
theorem dX4_read_33 : decode cX4_read 33 = .ok (.goto (-21), 3) := by decide +kernel
theorem dX4_read_36 : decode cX4_read 36 = .ok (.aload_n 0, 1) := by decide +kernel
theorem dX4_read_37 : decode cX4_read 37 = .ok (.getfield 33, 3) := by decide +kernel
theorem dX4_read_40 : decode cX4_read 40 = .ok (.ireturn, 1) := by decide +kernel
theorem dX4_expression_0 : decode cX4_expression 0 = .ok (.new 40, 3) := by decide +kernel
theorem dX4_expression_3 : decode cX4_expression 3 = .ok (.dup, 1) := by decide +kernel
theorem dX4_expression_4 : decode cX4_expression 4 = .ok (.aload_n 0, 1) := by decide +kernel
theorem dX4_expression_5 : decode cX4_expression 5 = .ok (.getfield 18, 3) := by decide +kernel
theorem dX4_expression_8 : decode cX4_expression 8 = .ok (.aload_n 0, 1) := by decide +kernel
theorem dX4_expression_9 : decode cX4_expression 9 = .ok (.getfield 22, 3) := by decide +kernel
theorem dX4_expression_12 : decode cX4_expression 12 = .ok (.ifCond .ne 10, 3) := by decide +kernel
theorem dX4_expression_15 : decode cX4_expression 15 = .ok (.aload_n 0, 1) := by decide +kernel
theorem dX4_expression_16 : decode cX4_expression 16 = .ok (.getfield 26, 3) := by decide +kernel
theorem dX4_expression_19 : decode cX4_expression 19 = .ok (.ifCond .eq 7, 3) := by decide +kernel
theorem dX4_expression_22 : decode cX4_expression 22 = .ok (.iconst 1, 1) := by decide +kernel
theorem dX4_expression_23 : decode cX4_expression 23 = .ok (.goto 4, 3) := by decide +kernel
theorem dX4_expression_26 : decode cX4_expression 26 = .ok (.iconst 0, 1) := by decide +kernel
theorem dX4_expression_27 : decode cX4_expression 27 = .ok (.invokespecial 42, 3) := by decide +kernel
theorem dX4_expression_30 : decode cX4_expression 30 = .ok (.areturn, 1) := by decide +kernel
theorem dX4_readField_0 : decode cX4_readField 0 = .ok (.aload_n 0, 1) := by decide +kernel
theorem dX4_readField_1 : decode cX4_readField 1 = .ok (.getfield 18, 3) := by decide +kernel
theorem dX4_readField_4 : decode cX4_readField 4 = .ok (.iload_n 1, 1) := by decide +kernel
theorem dX4_readField_5 : decode cX4_readField 5 = .ok (.lconst 0, 1) := by decide +kernel
theorem dX4_readField_6 : decode cX4_readField 6 = .ok (.lastore, 1) := by decide +kernel
theorem dX4_readField_7 : decode cX4_readField 7 = .ok (.iload_n 1, 1) := by decide +kernel
theorem dX4_readField_8 : decode cX4_readField 8 = .ok (.iconst 2, 1) := by decide +kernel
theorem dX4_readField_9 : decode cX4_readField 9 = .ok (.if_icmp .ne 28, 3) := by decide +kernel
theorem dX4_readField_12 : decode cX4_readField 12 = .ok (.aload_n 0, 1) := by decide +kernel
theorem dX4_readField_13 : decode cX4_readField 13 = .ok (.aload_n 0, 1) := by decide +kernel
theorem dX4_readField_14 : decode cX4_readField 14 = .ok (.getfield 12, 3) := by decide +kernel
theorem dX4_readField_17 : decode cX4_readField 17 = .ok (.aload_n 0, 1) := by decide +kernel
theorem dX4_readField_18 : decode cX4_readField 18 = .ok (.getfield 29, 3) := by decide +kernel
theorem dX4_readField_21 : decode cX4_readField 21 = .ok (.invokevirtual 45, 3) := by decide +kernel
theorem dX4_readField_24 : decode cX4_readField 24 = .ok (.bipush 42, 2) := by decide +kernel
theorem dX4_readField_26 : decode cX4_readField 26 = .ok (.if_icmp .ne 7, 3) := by decide +kernel
theorem dX4_readField_29 : decode cX4_readField 29 = .ok (.iconst 1, 1) := by decide +kernel
theorem dX4_readField_30 : decode cX4_readField 30 = .ok (.goto 4, 3) := by decide +kernel
theorem dX4_readField_33 : decode cX4_readField 33 = .ok (.iconst 0, 1) := by decide +kernel
theorem dX4_readField_34 : decode cX4_readField 34 = .ok (.putfield 22, 3) := by decide +kernel
theorem dX4_readField_37 : decode cX4_readField 37 = .ok (.iload_n 1, 1) := by decide +kernel
theorem dX4_readField_38 : decode cX4_readField 38 = .ok (.iconst 4, 1) := by decide +kernel
theorem dX4_readField_39 : decode cX4_readField 39 = .ok (.if_icmp .ne 28, 3) := by decide +kernel
theorem dX4_readField_42 : decode cX4_readField 42 = .ok (.aload_n 0, 1) := by decide +kernel
theorem dX4_readField_43 : decode cX4_readField 43 = .ok (.aload_n 0, 1) := by decide +kernel
theorem dX4_readField_44 : decode cX4_readField 44 = .ok (.getfield 12, 3) := by decide +kernel
theorem dX4_readField_47 : decode cX4_readField 47 = .ok (.aload_n 0, 1) := by decide +kernel
theorem dX4_readField_48 : decode cX4_readField 48 = .ok (.getfield 29, 3) := by decide +kernel
theorem dX4_readField_51 : decode cX4_readField 51 = .ok (.invokevirtual 45, 3) := by decide +kernel
theorem dX4_readField_54 : decode cX4_readField 54 = .ok (.bipush 42, 2) := by decide +kernel
theorem dX4_readField_56 : decode cX4_readField 56 = .ok (.if_icmp .ne 7, 3) := by decide +kernel
theorem dX4_readField_59 : decode cX4_readField 59 = .ok (.iconst 1, 1) := by decide +kernel
theorem dX4_readField_60 : decode cX4_readField 60 = .ok (.goto 4, 3) := by decide +kernel
theorem dX4_readField_63 : decode cX4_readField 63 = .ok (.iconst 0, 1) := by decide +kernel
theorem dX4_readField_64 : decode cX4_readField 64 = .ok (.putfield 26, 3) := by decide +kernel
theorem dX4_readField_67 : decode cX4_readField 67 = .ok (.aload_n 0, 1) := by decide +kernel
theorem dX4_readField_68 : decode cX4_readField 68 = .ok (.iload_n 1, 1) := by decide +kernel
theorem dX4_readField_69 : decode cX4_readField 69 = .ok (.invokevirtual 49, 3) := by decide +kernel
theorem dX4_readField_72 : decode cX4_readField 72 = .ok (.iconst 1, 1) := by decide +kernel
theorem dX4_readField_73 : decode cX4_readField 73 = .ok (.istore_n 2, 1) := by decide +kernel
theorem dX4_readField_74 : decode cX4_readField 74 = .ok (.iload_n 2, 1) := by decide +kernel
theorem dX4_readField_75 : decode cX4_readField 75 = .ok (.bipush 60, 2) := by decide +kernel
theorem dX4_readField_77 : decode cX4_readField 77 = .ok (.if_icmp .ge 48, 3) := by decide +kernel
theorem dX4_readField_80 : decode cX4_readField 80 = .ok (.aload_n 0, 1) := by decide +kernel
theorem dX4_readField_81 : decode cX4_readField 81 = .ok (.getfield 33, 3) := by decide +kernel
theorem dX4_readField_84 : decode cX4_readField 84 = .ok (.iconst (-1), 1) := by decide +kernel
theorem dX4_readField_85 : decode cX4_readField 85 = .ok (.if_icmp .ne 40, 3) := by decide +kernel
theorem dX4_readField_88 : decode cX4_readField 88 = .ok (.aload_n 0, 1) := by decide +kernel
theorem dX4_readField_89 : decode cX4_readField 89 = .ok (.getfield 12, 3) := by decide +kernel
theorem dX4_readField_92 : decode cX4_readField 92 = .ok (.aload_n 0, 1) := by decide +kernel
theorem dX4_readField_93 : decode cX4_readField 93 = .ok (.getfield 29, 3) := by decide +kernel
theorem dX4_readField_96 : decode cX4_readField 96 = .ok (.invokevirtual 45, 3) := by decide +kernel
theorem dX4_readField_99 : decode cX4_readField 99 = .ok (.bipush 44, 2) := by decide +kernel
theorem dX4_readField_101 : decode cX4_readField 101 = .ok (.if_icmp .ne 24, 3) := by decide +kernel
theorem dX4_readField_104 : decode cX4_readField 104 = .ok (.aload_n 0, 1) := by decide +kernel
theorem dX4_readField_105 : decode cX4_readField 105 = .ok (.dup, 1) := by decide +kernel
theorem dX4_readField_106 : decode cX4_readField 106 = .ok (.getfield 29, 3) := by decide +kernel
theorem dX4_readField_109 : decode cX4_readField 109 = .ok (.iconst 1, 1) := by decide +kernel
theorem dX4_readField_110 : decode cX4_readField 110 = .ok (.iadd, 1) := by decide +kernel
theorem dX4_readField_111 : decode cX4_readField 111 = .ok (.putfield 29, 3) := by decide +kernel
theorem dX4_readField_114 : decode cX4_readField 114 = .ok (.aload_n 0, 1) := by decide +kernel
theorem dX4_readField_115 : decode cX4_readField 115 = .ok (.iload_n 1, 1) := by decide +kernel
theorem dX4_readField_116 : decode cX4_readField 116 = .ok (.invokevirtual 49, 3) := by decide +kernel
theorem dX4_readField_119 : decode cX4_readField 119 = .ok (.iinc 2 1, 3) := by decide +kernel
theorem dX4_readField_122 : decode cX4_readField 122 = .ok (.goto (-48), 3) := by decide +kernel
theorem dX4_readField_125 : decode cX4_readField 125 = .ok (.aload_n 0, 1) := by decide +kernel
theorem dX4_readField_126 : decode cX4_readField 126 = .ok (.getfield 33, 3) := by decide +kernel
theorem dX4_readField_129 : decode cX4_readField 129 = .ok (.iconst (-1), 1) := by decide +kernel
theorem dX4_readField_130 : decode cX4_readField 130 = .ok (.if_icmp .ne 8, 3) := by decide +kernel
theorem dX4_readField_133 : decode cX4_readField 133 = .ok (.aload_n 0, 1) := by decide +kernel
theorem dX4_readField_134 : decode cX4_readField 134 = .ok (.iload_n 1, 1) := by decide +kernel
theorem dX4_readField_135 : decode cX4_readField 135 = .ok (.invokevirtual 52, 3) := by decide +kernel
theorem dX4_readField_138 : decode cX4_readField 138 = .ok (.return_, 1) := by decide +kernel
theorem dX4_readEndOfField_0 : decode cX4_readEndOfField 0 = .ok (.iload_n 1, 1) := by decide +kernel
theorem dX4_readEndOfField_1 : decode cX4_readEndOfField 1 = .ok (.iconst 4, 1) := by decide +kernel
theorem dX4_readEndOfField_2 : decode cX4_readEndOfField 2 = .ok (.if_icmp .ne 7, 3) := by decide +kernel
theorem dX4_readEndOfField_5 : decode cX4_readEndOfField 5 = .ok (.iconst 0, 1) := by decide +kernel
theorem dX4_readEndOfField_6 : decode cX4_readEndOfField 6 = .ok (.goto 5, 3) := by decide +kernel
theorem dX4_readEndOfField_9 : decode cX4_readEndOfField 9 = .ok (.bipush 32, 2) := by decide +kernel
theorem dX4_readEndOfField_11 : decode cX4_readEndOfField 11 = .ok (.istore_n 2, 1) := by decide +kernel
theorem dX4_readEndOfField_12 : decode cX4_readEndOfField 12 = .ok (.aload_n 0, 1) := by decide +kernel
theorem dX4_readEndOfField_13 : decode cX4_readEndOfField 13 = .ok (.getfield 12, 3) := by decide +kernel
theorem dX4_readEndOfField_16 : decode cX4_readEndOfField 16 = .ok (.aload_n 0, 1) := by decide +kernel
theorem dX4_readEndOfField_17 : decode cX4_readEndOfField 17 = .ok (.getfield 29, 3) := by decide +kernel
theorem dX4_readEndOfField_20 : decode cX4_readEndOfField 20 = .ok (.invokevirtual 45, 3) := by decide +kernel
theorem dX4_readEndOfField_23 : decode cX4_readEndOfField 23 = .ok (.iload_n 2, 1) := by decide +kernel
theorem dX4_readEndOfField_24 : decode cX4_readEndOfField 24 = .ok (.if_icmp .ne 16, 3) := by decide +kernel
theorem dX4_readEndOfField_27 : decode cX4_readEndOfField 27 = .ok (.aload_n 0, 1) := by decide +kernel
theorem dX4_readEndOfField_28 : decode cX4_readEndOfField 28 = .ok (.dup, 1) := by decide +kernel
theorem dX4_readEndOfField_29 : decode cX4_readEndOfField 29 = .ok (.getfield 29, 3) := by decide +kernel
theorem dX4_readEndOfField_32 : decode cX4_readEndOfField 32 = .ok (.iconst 1, 1) := by decide +kernel
theorem dX4_readEndOfField_33 : decode cX4_readEndOfField 33 = .ok (.iadd, 1) := by decide +kernel
theorem dX4_readEndOfField_34 : decode cX4_readEndOfField 34 = .ok (.putfield 29, 3) := by decide +kernel
theorem dX4_readEndOfField_37 : decode cX4_readEndOfField 37 = .ok (.goto 11, 3) := by decide +kernel
theorem dX4_readEndOfField_40 : decode cX4_readEndOfField 40 = .ok (.aload_n 0, 1) := by decide +kernel
theorem dX4_readEndOfField_41 : decode cX4_readEndOfField 41 = .ok (.aload_n 0, 1) := by decide +kernel
theorem dX4_readEndOfField_42 : decode cX4_readEndOfField 42 = .ok (.getfield 29, 3) := by decide +kernel
theorem dX4_readEndOfField_45 : decode cX4_readEndOfField 45 = .ok (.putfield 33, 3) := by decide +kernel
theorem dX4_readEndOfField_48 : decode cX4_readEndOfField 48 = .ok (.return_, 1) := by decide +kernel
theorem dX4_readItem_0 : decode cX4_readItem 0 = .ok (.getstatic 55, 3) := by decide +kernel
theorem dX4_readItem_3 : decode cX4_readItem 3 = .ok (.iload_n 1, 1) := by decide +kernel
theorem dX4_readItem_4 : decode cX4_readItem 4 = .ok (.iaload, 1) := by decide +kernel
theorem dX4_readItem_5 : decode cX4_readItem 5 = .ok (.istore_n 2, 1) := by decide +kernel
theorem dX4_readItem_6 : decode cX4_readItem 6 = .ok (.getstatic 59, 3) := by decide +kernel
theorem dX4_readItem_9 : decode cX4_readItem 9 = .ok (.iload_n 1, 1) := by decide +kernel
theorem dX4_readItem_10 : decode cX4_readItem 10 = .ok (.iaload, 1) := by decide +kernel
theorem dX4_readItem_11 : decode cX4_readItem 11 = .ok (.istore_n 3, 1) := by decide +kernel
theorem dX4_readItem_12 : decode cX4_readItem 12 = .ok (.iconst 1, 1) := by decide +kernel
theorem dX4_readItem_13 : decode cX4_readItem 13 = .ok (.istore 4, 2) := by decide +kernel
theorem dX4_readItem_15 : decode cX4_readItem 15 = .ok (.aload_n 0, 1) := by decide +kernel
theorem dX4_readItem_16 : decode cX4_readItem 16 = .ok (.getfield 12, 3) := by decide +kernel
theorem dX4_readItem_19 : decode cX4_readItem 19 = .ok (.aload_n 0, 1) := by decide +kernel
theorem dX4_readItem_20 : decode cX4_readItem 20 = .ok (.getfield 29, 3) := by decide +kernel
theorem dX4_readItem_23 : decode cX4_readItem 23 = .ok (.invokevirtual 45, 3) := by decide +kernel
theorem dX4_readItem_26 : decode cX4_readItem 26 = .ok (.bipush 42, 2) := by decide +kernel
theorem dX4_readItem_28 : decode cX4_readItem 28 = .ok (.if_icmp .ne 16, 3) := by decide +kernel
theorem dX4_readItem_31 : decode cX4_readItem 31 = .ok (.aload_n 0, 1) := by decide +kernel
theorem dX4_readItem_32 : decode cX4_readItem 32 = .ok (.dup, 1) := by decide +kernel
theorem dX4_readItem_33 : decode cX4_readItem 33 = .ok (.getfield 29, 3) := by decide +kernel
theorem dX4_readItem_36 : decode cX4_readItem 36 = .ok (.iconst 1, 1) := by decide +kernel
theorem dX4_readItem_37 : decode cX4_readItem 37 = .ok (.iadd, 1) := by decide +kernel
theorem dX4_readItem_38 : decode cX4_readItem 38 = .ok (.putfield 29, 3) := by decide +kernel
theorem dX4_readItem_41 : decode cX4_readItem 41 = .ok (.goto 68, 3) := by decide +kernel
theorem dX4_readItem_44 : decode cX4_readItem 44 = .ok (.aload_n 0, 1) := by decide +kernel
theorem dX4_readItem_45 : decode cX4_readItem 45 = .ok (.iload_n 2, 1) := by decide +kernel
theorem dX4_readItem_46 : decode cX4_readItem 46 = .ok (.iload_n 3, 1) := by decide +kernel
theorem dX4_readItem_47 : decode cX4_readItem 47 = .ok (.invokevirtual 62, 3) := by decide +kernel
theorem dX4_readItem_50 : decode cX4_readItem 50 = .ok (.istore_n 2, 1) := by decide +kernel
theorem dX4_readItem_51 : decode cX4_readItem 51 = .ok (.aload_n 0, 1) := by decide +kernel
theorem dX4_readItem_52 : decode cX4_readItem 52 = .ok (.getfield 33, 3) := by decide +kernel
theorem dX4_readItem_55 : decode cX4_readItem 55 = .ok (.iconst (-1), 1) := by decide +kernel
theorem dX4_readItem_56 : decode cX4_readItem 56 = .ok (.if_icmp .ne 23, 3) := by decide +kernel
theorem dX4_readItem_59 : decode cX4_readItem 59 = .ok (.aload_n 0, 1) := by decide +kernel
theorem dX4_readItem_60 : decode cX4_readItem 60 = .ok (.getfield 12, 3) := by decide +kernel
theorem dX4_readItem_63 : decode cX4_readItem 63 = .ok (.aload_n 0, 1) := by decide +kernel
theorem dX4_readItem_64 : decode cX4_readItem 64 = .ok (.getfield 29, 3) := by decide +kernel
theorem dX4_readItem_67 : decode cX4_readItem 67 = .ok (.invokevirtual 45, 3) := by decide +kernel
theorem dX4_readItem_70 : decode cX4_readItem 70 = .ok (.bipush 45, 2) := by decide +kernel
theorem dX4_readItem_72 : decode cX4_readItem 72 = .ok (.if_icmp .ne 7, 3) := by decide +kernel
theorem dX4_readItem_75 : decode cX4_readItem 75 = .ok (.iconst 1, 1) := by decide +kernel
theorem dX4_readItem_76 : decode cX4_readItem 76 = .ok (.goto 4, 3) := by decide +kernel
theorem dX4_readItem_79 : decode cX4_readItem 79 = .ok (.iconst 0, 1) := by decide +kernel
theorem dX4_readItem_80 : decode cX4_readItem 80 = .ok (.istore 4, 2) := by decide +kernel
theorem dX4_readItem_82 : decode cX4_readItem 82 = .ok (.iload 4, 2) := by decide +kernel
theorem dX4_readItem_84 : decode cX4_readItem 84 = .ok (.ifCond .eq 23, 3) := by decide +kernel
theorem dX4_readItem_87 : decode cX4_readItem 87 = .ok (.aload_n 0, 1) := by decide +kernel
theorem dX4_readItem_88 : decode cX4_readItem 88 = .ok (.dup, 1) := by decide +kernel
theorem dX4_readItem_89 : decode cX4_readItem 89 = .ok (.getfield 29, 3) := by decide +kernel
theorem dX4_readItem_92 : decode cX4_readItem 92 = .ok (.iconst 1, 1) := by decide +kernel
theorem dX4_readItem_93 : decode cX4_readItem 93 = .ok (.iadd, 1) := by decide +kernel
theorem dX4_readItem_94 : decode cX4_readItem 94 = .ok (.putfield 29, 3) := by decide +kernel
theorem dX4_readItem_97 : decode cX4_readItem 97 = .ok (.aload_n 0, 1) := by decide +kernel
theorem dX4_readItem_98 : decode cX4_readItem 98 = .ok (.iload_n 2, 1) := by decide +kernel
theorem dX4_readItem_99 : decode cX4_readItem 99 = .ok (.iload_n 3, 1) := by decide +kernel
theorem dX4_readItem_100 : decode cX4_readItem 100 = .ok (.invokevirtual 62, 3) := by decide +kernel
theorem dX4_readItem_103 : decode cX4_readItem 103 = .ok (.istore_n 3, 1) := by decide +kernel
theorem dX4_readItem_104 : decode cX4_readItem 104 = .ok (.goto 5, 3) := by decide +kernel
theorem dX4_readItem_107 : decode cX4_readItem 107 = .ok (.iload_n 2, 1) := by decide +kernel
theorem dX4_readItem_108 : decode cX4_readItem 108 = .ok (.istore_n 3, 1) := by decide +kernel
theorem dX4_readItem_109 : decode cX4_readItem 109 = .ok (.iconst 1, 1) := by decide +kernel
theorem dX4_readItem_110 : decode cX4_readItem 110 = .ok (.istore 5, 2) := by decide +kernel
theorem dX4_readItem_112 : decode cX4_readItem 112 = .ok (.aload_n 0, 1) := by decide +kernel
theorem dX4_readItem_113 : decode cX4_readItem 113 = .ok (.getfield 33, 3) := by decide +kernel
theorem dX4_readItem_116 : decode cX4_readItem 116 = .ok (.iconst (-1), 1) := by decide +kernel
theorem dX4_readItem_117 : decode cX4_readItem 117 = .ok (.if_icmp .ne 43, 3) := by decide +kernel
theorem dX4_readItem_120 : decode cX4_readItem 120 = .ok (.iload 4, 2) := by decide +kernel
theorem dX4_readItem_122 : decode cX4_readItem 122 = .ok (.ifCond .eq 38, 3) := by decide +kernel
theorem dX4_readItem_125 : decode cX4_readItem 125 = .ok (.aload_n 0, 1) := by decide +kernel
theorem dX4_readItem_126 : decode cX4_readItem 126 = .ok (.getfield 12, 3) := by decide +kernel
theorem dX4_readItem_129 : decode cX4_readItem 129 = .ok (.aload_n 0, 1) := by decide +kernel
theorem dX4_readItem_130 : decode cX4_readItem 130 = .ok (.getfield 29, 3) := by decide +kernel
theorem dX4_readItem_133 : decode cX4_readItem 133 = .ok (.invokevirtual 45, 3) := by decide +kernel
theorem dX4_readItem_136 : decode cX4_readItem 136 = .ok (.bipush 47, 2) := by decide +kernel
theorem dX4_readItem_138 : decode cX4_readItem 138 = .ok (.if_icmp .ne 22, 3) := by decide +kernel
theorem dX4_readItem_141 : decode cX4_readItem 141 = .ok (.aload_n 0, 1) := by decide +kernel
theorem dX4_readItem_142 : decode cX4_readItem 142 = .ok (.dup, 1) := by decide +kernel
theorem dX4_readItem_143 : decode cX4_readItem 143 = .ok (.getfield 29, 3) := by decide +kernel
theorem dX4_readItem_146 : decode cX4_readItem 146 = .ok (.iconst 1, 1) := by decide +kernel
theorem dX4_readItem_147 : decode cX4_readItem 147 = .ok (.iadd, 1) := by decide +kernel
theorem dX4_readItem_148 : decode cX4_readItem 148 = .ok (.putfield 29, 3) := by decide +kernel
theorem dX4_readItem_151 : decode cX4_readItem 151 = .ok (.aload_n 0, 1) := by decide +kernel
theorem dX4_readItem_152 : decode cX4_readItem 152 = .ok (.iconst 1, 1) := by decide +kernel
theorem dX4_readItem_153 : decode cX4_readItem 153 = .ok (.bipush 99, 2) := by decide +kernel
theorem dX4_readItem_155 : decode cX4_readItem 155 = .ok (.invokevirtual 62, 3) := by decide +kernel
theorem dX4_readItem_158 : decode cX4_readItem 158 = .ok (.istore 5, 2) := by decide +kernel
theorem dX4_readItem_160 : decode cX4_readItem 160 = .ok (.aload_n 0, 1) := by decide +kernel
theorem dX4_readItem_161 : decode cX4_readItem 161 = .ok (.getfield 33, 3) := by decide +kernel
theorem dX4_readItem_164 : decode cX4_readItem 164 = .ok (.iconst (-1), 1) := by decide +kernel
theorem dX4_readItem_165 : decode cX4_readItem 165 = .ok (.if_icmp .ne 12, 3) := by decide +kernel
theorem dX4_readItem_168 : decode cX4_readItem 168 = .ok (.aload_n 0, 1) := by decide +kernel
theorem dX4_readItem_169 : decode cX4_readItem 169 = .ok (.iload_n 1, 1) := by decide +kernel
theorem dX4_readItem_170 : decode cX4_readItem 170 = .ok (.iload_n 2, 1) := by decide +kernel
theorem dX4_readItem_171 : decode cX4_readItem 171 = .ok (.iload_n 3, 1) := by decide +kernel
theorem dX4_readItem_172 : decode cX4_readItem 172 = .ok (.iload 5, 2) := by decide +kernel
theorem dX4_readItem_174 : decode cX4_readItem 174 = .ok (.invokevirtual 66, 3) := by decide +kernel
theorem dX4_readItem_177 : decode cX4_readItem 177 = .ok (.return_, 1) := by decide +kernel
theorem dX4_addNumbers_0 : decode cX4_addNumbers 0 = .ok (.iload_n 2, 1) := by decide +kernel
theorem dX4_addNumbers_1 : decode cX4_addNumbers 1 = .ok (.istore 5, 2) := by decide +kernel
theorem dX4_addNumbers_3 : decode cX4_addNumbers 3 = .ok (.iload 5, 2) := by decide +kernel
theorem dX4_addNumbers_5 : decode cX4_addNumbers 5 = .ok (.iload_n 3, 1) := by decide +kernel
theorem dX4_addNumbers_6 : decode cX4_addNumbers 6 = .ok (.if_icmp .gt 49, 3) := by decide +kernel
theorem dX4_addNumbers_9 : decode cX4_addNumbers 9 = .ok (.iload 5, 2) := by decide +kernel
theorem dX4_addNumbers_11 : decode cX4_addNumbers 11 = .ok (.iload_n 2, 1) := by decide +kernel
theorem dX4_addNumbers_12 : decode cX4_addNumbers 12 = .ok (.isub, 1) := by decide +kernel
theorem dX4_addNumbers_13 : decode cX4_addNumbers 13 = .ok (.iload 4, 2) := by decide +kernel
theorem dX4_addNumbers_15 : decode cX4_addNumbers 15 = .ok (.irem, 1) := by decide +kernel
theorem dX4_addNumbers_16 : decode cX4_addNumbers 16 = .ok (.ifCond .ne 33, 3) := by decide +kernel
theorem dX4_addNumbers_19 : decode cX4_addNumbers 19 = .ok (.iload_n 1, 1) := by decide +kernel
theorem dX4_addNumbers_20 : decode cX4_addNumbers 20 = .ok (.iconst 4, 1) := by decide +kernel
theorem dX4_addNumbers_21 : decode cX4_addNumbers 21 = .ok (.if_icmp .ne 11, 3) := by decide +kernel
theorem dX4_addNumbers_24 : decode cX4_addNumbers 24 = .ok (.iload 5, 2) := by decide +kernel
theorem dX4_addNumbers_26 : decode cX4_addNumbers 26 = .ok (.bipush 7, 2) := by decide +kernel
theorem dX4_addNumbers_28 : decode cX4_addNumbers 28 = .ok (.irem, 1) := by decide +kernel
theorem dX4_addNumbers_29 : decode cX4_addNumbers 29 = .ok (.goto 5, 3) := by decide +kernel
theorem dX4_addNumbers_32 : decode cX4_addNumbers 32 = .ok (.iload 5, 2) := by decide +kernel
theorem dX4_addNumbers_34 : decode cX4_addNumbers 34 = .ok (.istore 6, 2) := by decide +kernel
theorem dX4_addNumbers_36 : decode cX4_addNumbers 36 = .ok (.aload_n 0, 1) := by decide +kernel
theorem dX4_addNumbers_37 : decode cX4_addNumbers 37 = .ok (.getfield 18, 3) := by decide +kernel
theorem dX4_addNumbers_40 : decode cX4_addNumbers 40 = .ok (.iload_n 1, 1) := by decide +kernel
theorem dX4_addNumbers_41 : decode cX4_addNumbers 41 = .ok (.dup2, 1) := by decide +kernel
theorem dX4_addNumbers_42 : decode cX4_addNumbers 42 = .ok (.laload, 1) := by decide +kernel
theorem dX4_addNumbers_43 : decode cX4_addNumbers 43 = .ok (.lconst 1, 1) := by decide +kernel
theorem dX4_addNumbers_44 : decode cX4_addNumbers 44 = .ok (.iload 6, 2) := by decide +kernel
theorem dX4_addNumbers_46 : decode cX4_addNumbers 46 = .ok (.lshl, 1) := by decide +kernel
theorem dX4_addNumbers_47 : decode cX4_addNumbers 47 = .ok (.lor, 1) := by decide +kernel
theorem dX4_addNumbers_48 : decode cX4_addNumbers 48 = .ok (.lastore, 1) := by decide +kernel
theorem dX4_addNumbers_49 : decode cX4_addNumbers 49 = .ok (.iinc 5 1, 3) := by decide +kernel
theorem dX4_addNumbers_52 : decode cX4_addNumbers 52 = .ok (.goto (-49), 3) := by decide +kernel
theorem dX4_addNumbers_55 : decode cX4_addNumbers 55 = .ok (.return_, 1) := by decide +kernel
theorem dX4_readNumber_0 : decode cX4_readNumber 0 = .ok (.aload_n 0, 1) := by decide +kernel
theorem dX4_readNumber_1 : decode cX4_readNumber 1 = .ok (.getfield 29, 3) := by decide +kernel
theorem dX4_readNumber_4 : decode cX4_readNumber 4 = .ok (.istore_n 3, 1) := by decide +kernel
theorem dX4_readNumber_5 : decode cX4_readNumber 5 = .ok (.iconst 0, 1) := by decide +kernel
theorem dX4_readNumber_6 : decode cX4_readNumber 6 = .ok (.istore 4, 2) := by decide +kernel
theorem dX4_readNumber_8 : decode cX4_readNumber 8 = .ok (.aload_n 0, 1) := by decide +kernel
theorem dX4_readNumber_9 : decode cX4_readNumber 9 = .ok (.getfield 29, 3) := by decide +kernel
theorem dX4_readNumber_12 : decode cX4_readNumber 12 = .ok (.iload_n 3, 1) := by decide +kernel
theorem dX4_readNumber_13 : decode cX4_readNumber 13 = .ok (.iconst 2, 1) := by decide +kernel
theorem dX4_readNumber_14 : decode cX4_readNumber 14 = .ok (.iadd, 1) := by decide +kernel
theorem dX4_readNumber_15 : decode cX4_readNumber 15 = .ok (.if_icmp .ge 55, 3) := by decide +kernel
theorem dX4_readNumber_18 : decode cX4_readNumber 18 = .ok (.aload_n 0, 1) := by decide +kernel
theorem dX4_readNumber_19 : decode cX4_readNumber 19 = .ok (.getfield 12, 3) := by decide +kernel
theorem dX4_readNumber_22 : decode cX4_readNumber 22 = .ok (.aload_n 0, 1) := by decide +kernel
theorem dX4_readNumber_23 : decode cX4_readNumber 23 = .ok (.getfield 29, 3) := by decide +kernel
theorem dX4_readNumber_26 : decode cX4_readNumber 26 = .ok (.invokevirtual 45, 3) := by decide +kernel
theorem dX4_readNumber_29 : decode cX4_readNumber 29 = .ok (.invokestatic 70, 3) := by decide +kernel
theorem dX4_readNumber_32 : decode cX4_readNumber 32 = .ok (.ifCond .eq 38, 3) := by decide +kernel
theorem dX4_readNumber_35 : decode cX4_readNumber 35 = .ok (.iload 4, 2) := by decide +kernel
theorem dX4_readNumber_37 : decode cX4_readNumber 37 = .ok (.bipush 10, 2) := by decide +kernel
theorem dX4_readNumber_39 : decode cX4_readNumber 39 = .ok (.imul, 1) := by decide +kernel
theorem dX4_readNumber_40 : decode cX4_readNumber 40 = .ok (.aload_n 0, 1) := by decide +kernel
theorem dX4_readNumber_41 : decode cX4_readNumber 41 = .ok (.getfield 12, 3) := by decide +kernel
theorem dX4_readNumber_44 : decode cX4_readNumber 44 = .ok (.aload_n 0, 1) := by decide +kernel
theorem dX4_readNumber_45 : decode cX4_readNumber 45 = .ok (.getfield 29, 3) := by decide +kernel
theorem dX4_readNumber_48 : decode cX4_readNumber 48 = .ok (.invokevirtual 45, 3) := by decide +kernel
theorem dX4_readNumber_51 : decode cX4_readNumber 51 = .ok (.bipush 48, 2) := by decide +kernel
theorem dX4_readNumber_53 : decode cX4_readNumber 53 = .ok (.isub, 1) := by decide +kernel
theorem dX4_readNumber_54 : decode cX4_readNumber 54 = .ok (.iadd, 1) := by decide +kernel
theorem dX4_readNumber_55 : decode cX4_readNumber 55 = .ok (.istore 4, 2) := by decide +kernel
theorem dX4_readNumber_57 : decode cX4_readNumber 57 = .ok (.aload_n 0, 1) := by decide +kernel
theorem dX4_readNumber_58 : decode cX4_readNumber 58 = .ok (.dup, 1) := by decide +kernel
theorem dX4_readNumber_59 : decode cX4_readNumber 59 = .ok (.getfield 29, 3) := by decide +kernel
theorem dX4_readNumber_62 : decode cX4_readNumber 62 = .ok (.iconst 1, 1) := by decide +kernel
theorem dX4_readNumber_63 : decode cX4_readNumber 63 = .ok (.iadd, 1) := by decide +kernel
theorem dX4_readNumber_64 : decode cX4_readNumber 64 = .ok (.putfield 29, 3) := by decide +kernel
theorem dX4_readNumber_67 : decode cX4_readNumber 67 = .ok (.goto (-59), 3) := by decide +kernel
theorem dX4_readNumber_70 : decode cX4_readNumber 70 = .ok (.aload_n 0, 1) := by decide +kernel
theorem dX4_readNumber_71 : decode cX4_readNumber 71 = .ok (.getfield 29, 3) := by decide +kernel
theorem dX4_readNumber_74 : decode cX4_readNumber 74 = .ok (.iload_n 3, 1) := by decide +kernel
theorem dX4_readNumber_75 : decode cX4_readNumber 75 = .ok (.if_icmp .eq 15, 3) := by decide +kernel
theorem dX4_readNumber_78 : decode cX4_readNumber 78 = .ok (.iload 4, 2) := by decide +kernel
theorem dX4_readNumber_80 : decode cX4_readNumber 80 = .ok (.iload_n 1, 1) := by decide +kernel
theorem dX4_readNumber_81 : decode cX4_readNumber 81 = .ok (.if_icmp .lt 9, 3) := by decide +kernel
theorem dX4_readNumber_84 : decode cX4_readNumber 84 = .ok (.iload 4, 2) := by decide +kernel
theorem dX4_readNumber_86 : decode cX4_readNumber 86 = .ok (.iload_n 2, 1) := by decide +kernel
theorem dX4_readNumber_87 : decode cX4_readNumber 87 = .ok (.if_icmp .le 8, 3) := by decide +kernel
theorem dX4_readNumber_90 : decode cX4_readNumber 90 = .ok (.aload_n 0, 1) := by decide +kernel
theorem dX4_readNumber_91 : decode cX4_readNumber 91 = .ok (.iload_n 3, 1) := by decide +kernel
theorem dX4_readNumber_92 : decode cX4_readNumber 92 = .ok (.putfield 33, 3) := by decide +kernel
theorem dX4_readNumber_95 : decode cX4_readNumber 95 = .ok (.iload 4, 2) := by decide +kernel
theorem dX4_readNumber_97 : decode cX4_readNumber 97 = .ok (.ireturn, 1) := by decide +kernel
theorem dX4_isDigit_0 : decode cX4_isDigit 0 = .ok (.iload_n 0, 1) := by decide +kernel
theorem dX4_isDigit_1 : decode cX4_isDigit 1 = .ok (.bipush 48, 2) := by decide +kernel
theorem dX4_isDigit_3 : decode cX4_isDigit 3 = .ok (.if_icmp .lt 13, 3) := by decide +kernel
theorem dX4_isDigit_6 : decode cX4_isDigit 6 = .ok (.iload_n 0, 1) := by decide +kernel
theorem dX4_isDigit_7 : decode cX4_isDigit 7 = .ok (.bipush 57, 2) := by decide +kernel
theorem dX4_isDigit_9 : decode cX4_isDigit 9 = .ok (.if_icmp .gt 7, 3) := by decide +kernel
theorem dX4_isDigit_12 : decode cX4_isDigit 12 = .ok (.iconst 1, 1) := by decide +kernel
theorem dX4_isDigit_13 : decode cX4_isDigit 13 = .ok (.goto 4, 3) := by decide +kernel
theorem dX4_isDigit_16 : decode cX4_isDigit 16 = .ok (.iconst 0, 1) := by decide +kernel
theorem dX4_isDigit_17 : decode cX4_isDigit 17 = .ok (.ireturn, 1) := by decide +kernel
theorem dX5_init_0 : decode cX5_init 0 = .ok (.aload_n 0, 1) := by decide +kernel
theorem dX5_init_1 : decode cX5_init 1 = .ok (.invokespecial 3, 3) := by decide +kernel
theorem dX5_init_4 : decode cX5_init 4 = .ok (.aload_n 0, 1) := by decide +kernel
theorem dX5_init_5 : decode cX5_init 5 = .ok (.iconst 0, 1) := by decide +kernel
theorem dX5_init_6 : decode cX5_init 6 = .ok (.putfield 9, 3) := by decide +kernel
theorem dX5_init_9 : decode cX5_init 9 = .ok (.aload_n 0, 1) := by decide +kernel
theorem dX5_init_10 : decode cX5_init 10 = .ok (.iconst 0, 1) := by decide +kernel
theorem dX5_init_11 : decode cX5_init 11 = .ok (.putfield 15, 3) := by decide +kernel
theorem dX5_init_14 : decode cX5_init 14 = .ok (.aload_n 0, 1) := by decide +kernel
theorem dX5_init_15 : decode cX5_init 15 = .ok (.iconst 0, 1) := by decide +kernel
theorem dX5_init_16 : decode cX5_init 16 = .ok (.putfield 18, 3) := by decide +kernel
theorem dX5_init_19 : decode cX5_init 19 = .ok (.aload_n 0, 1) := by decide +kernel
theorem dX5_init_20 : decode cX5_init 20 = .ok (.iload_n 1, 1) := by decide +kernel
theorem dX5_init_21 : decode cX5_init 21 = .ok (.putfield 21, 3) := by decide +kernel
theorem dX5_init_24 : decode cX5_init 24 = .ok (.aload_n 0, 1) := by decide +kernel
theorem dX5_init_25 : decode cX5_init 25 = .ok (.iload_n 2, 1) := by decide +kernel
theorem dX5_init_26 : decode cX5_init 26 = .ok (.putfield 24, 3) := by decide +kernel
theorem dX5_init_29 : decode cX5_init 29 = .ok (.aload_n 0, 1) := by decide +kernel
theorem dX5_init_30 : decode cX5_init 30 = .ok (.iload_n 3, 1) := by decide +kernel
theorem dX5_init_31 : decode cX5_init 31 = .ok (.putfield 27, 3) := by decide +kernel
theorem dX5_init_34 : decode cX5_init 34 = .ok (.return_, 1) := by decide +kernel
theorem dX5_begin_0 : decode cX5_begin 0 = .ok (.aload_n 0, 1) := by decide +kernel
theorem dX5_begin_1 : decode cX5_begin 1 = .ok (.iconst 1, 1) := by decide +kernel
theorem dX5_begin_2 : decode cX5_begin 2 = .ok (.putfield 9, 3) := by decide +kernel
theorem dX5_begin_5 : decode cX5_begin 5 = .ok (.aload_n 0, 1) := by decide +kernel
theorem dX5_begin_6 : decode cX5_begin 6 = .ok (.iconst 0, 1) := by decide +kernel
theorem dX5_begin_7 : decode cX5_begin 7 = .ok (.putfield 15, 3) := by decide +kernel
theorem dX5_begin_10 : decode cX5_begin 10 = .ok (.return_, 1) := by decide +kernel
theorem dX5_isOver_0 : decode cX5_isOver 0 = .ok (.aload_n 0, 1) := by decide +kernel
theorem dX5_isOver_1 : decode cX5_isOver 1 = .ok (.getfield 9, 3) := by decide +kernel
theorem dX5_isOver_4 : decode cX5_isOver 4 = .ok (.iconst 4, 1) := by decide +kernel
theorem dX5_isOver_5 : decode cX5_isOver 5 = .ok (.if_icmp .eq 20, 3) := by decide +kernel
theorem dX5_isOver_8 : decode cX5_isOver 8 = .ok (.aload_n 0, 1) := by decide +kernel
theorem dX5_isOver_9 : decode cX5_isOver 9 = .ok (.getfield 9, 3) := by decide +kernel
theorem dX5_isOver_12 : decode cX5_isOver 12 = .ok (.iconst 5, 1) := by decide +kernel
theorem dX5_isOver_13 : decode cX5_isOver 13 = .ok (.if_icmp .eq 12, 3) := by decide +kernel
theorem dX5_isOver_16 : decode cX5_isOver 16 = .ok (.aload_n 0, 1) := by decide +kernel
theorem dX5_isOver_17 : decode cX5_isOver 17 = .ok (.getfield 9, 3) := by decide +kernel
theorem dX5_isOver_20 : decode cX5_isOver 20 = .ok (.bipush 6, 2) := by decide +kernel
theorem dX5_isOver_22 : decode cX5_isOver 22 = .ok (.if_icmp .ne 7, 3) := by decide +kernel
theorem dX5_isOver_25 : decode cX5_isOver 25 = .ok (.iconst 1, 1) := by decide +kernel
theorem dX5_isOver_26 : decode cX5_isOver 26 = .ok (.goto 4, 3) := by decide +kernel
theorem dX5_isOver_29 : decode cX5_isOver 29 = .ok (.iconst 0, 1) := by decide +kernel
theorem dX5_isOver_30 : decode cX5_isOver 30 = .ok (.ireturn, 1) := by decide +kernel
theorem dX5_isReady_0 : decode cX5_isReady 0 = .ok (.aload_n 0, 1) := by decide +kernel
theorem dX5_isReady_1 : decode cX5_isReady 1 = .ok (.getfield 9, 3) := by decide +kernel
theorem dX5_isReady_4 : decode cX5_isReady 4 = .ok (.iconst 1, 1) := by decide +kernel
theorem dX5_isReady_5 : decode cX5_isReady 5 = .ok (.if_icmp .eq 19, 3) := by decide +kernel
theorem dX5_isReady_8 : decode cX5_isReady 8 = .ok (.aload_n 0, 1) := by decide +kernel
theorem dX5_isReady_9 : decode cX5_isReady 9 = .ok (.getfield 9, 3) := by decide +kernel
theorem dX5_isReady_12 : decode cX5_isReady 12 = .ok (.iconst 2, 1) := by decide +kernel
theorem dX5_isReady_13 : decode cX5_isReady 13 = .ok (.if_icmp .ne 15, 3) := by decide +kernel
theorem dX5_isReady_16 : decode cX5_isReady 16 = .ok (.aload_n 0, 1) := by decide +kernel
theorem dX5_isReady_17 : decode cX5_isReady 17 = .ok (.getfield 18, 3) := by decide +kernel
theorem dX5_isReady_20 : decode cX5_isReady 20 = .ok (.iload_n 1, 1) := by decide +kernel
theorem dX5_isReady_21 : decode cX5_isReady 21 = .ok (.if_icmp .gt 7, 3) := by decide +kernel
theorem dX5_isReady_24 : decode cX5_isReady 24 = .ok (.iconst 1, 1) := by decide +kernel
theorem dX5_isReady_25 : decode cX5_isReady 25 = .ok (.goto 4, 3) := by decide +kernel
theorem dX5_isReady_28 : decode cX5_isReady 28 = .ok (.iconst 0, 1) := by decide +kernel
theorem dX5_isReady_29 : decode cX5_isReady 29 = .ok (.istore_n 3, 1) := by decide +kernel
theorem dX5_isReady_30 : decode cX5_isReady 30 = .ok (.iload_n 3, 1) := by decide +kernel
theorem dX5_isReady_31 : decode cX5_isReady 31 = .ok (.ifCond .eq 18, 3) := by decide +kernel
theorem dX5_isReady_34 : decode cX5_isReady 34 = .ok (.aload_n 0, 1) := by decide +kernel
theorem dX5_isReady_35 : decode cX5_isReady 35 = .ok (.getfield 21, 3) := by decide +kernel
theorem dX5_isReady_38 : decode cX5_isReady 38 = .ok (.iload_n 2, 1) := by decide +kernel
theorem dX5_isReady_39 : decode cX5_isReady 39 = .ok (.iconst (-1), 1) := by decide +kernel
theorem dX5_isReady_40 : decode cX5_isReady 40 = .ok (.ixor, 1) := by decide +kernel
theorem dX5_isReady_41 : decode cX5_isReady 41 = .ok (.iand, 1) := by decide +kernel
theorem dX5_isReady_42 : decode cX5_isReady 42 = .ok (.ifCond .ne 7, 3) := by decide +kernel
theorem dX5_isReady_45 : decode cX5_isReady 45 = .ok (.iconst 1, 1) := by decide +kernel
theorem dX5_isReady_46 : decode cX5_isReady 46 = .ok (.goto 4, 3) := by decide +kernel
theorem dX5_isReady_49 : decode cX5_isReady 49 = .ok (.iconst 0, 1) := by decide +kernel
theorem dX5_isReady_50 : decode cX5_isReady 50 = .ok (.ireturn, 1) := by decide +kernel
theorem dX5_tryAgain_0 : decode cX5_tryAgain 0 = .ok (.aload_n 0, 1) := by decide +kernel
theorem dX5_tryAgain_1 : decode cX5_tryAgain 1 = .ok (.getfield 15, 3) := by decide +kernel
theorem dX5_tryAgain_4 : decode cX5_tryAgain 4 = .ok (.istore_n 2, 1) := by decide +kernel
theorem dX5_tryAgain_5 : decode cX5_tryAgain 5 = .ok (.aload_n 0, 1) := by decide +kernel
theorem dX5_tryAgain_6 : decode cX5_tryAgain 6 = .ok (.dup, 1) := by decide +kernel
theorem dX5_tryAgain_7 : decode cX5_tryAgain 7 = .ok (.getfield 15, 3) := by decide +kernel
theorem dX5_tryAgain_10 : decode cX5_tryAgain 10 = .ok (.iconst 1, 1) := by decide +kernel
theorem dX5_tryAgain_11 : decode cX5_tryAgain 11 = .ok (.iadd, 1) := by decide +kernel
theorem dX5_tryAgain_12 : decode cX5_tryAgain 12 = .ok (.putfield 15, 3) := by decide +kernel
theorem dX5_tryAgain_15 : decode cX5_tryAgain 15 = .ok (.aload_n 0, 1) := by decide +kernel
theorem dX5_tryAgain_16 : decode cX5_tryAgain 16 = .ok (.getfield 15, 3) := by decide +kernel
theorem dX5_tryAgain_19 : decode cX5_tryAgain 19 = .ok (.aload_n 0, 1) := by decide +kernel
theorem dX5_tryAgain_20 : decode cX5_tryAgain 20 = .ok (.getfield 24, 3) := by decide +kernel
theorem dX5_tryAgain_23 : decode cX5_tryAgain 23 = .ok (.if_icmp .lt 5, 3) := by decide +kernel
theorem dX5_tryAgain_26 : decode cX5_tryAgain 26 = .ok (.iconst 0, 1) := by decide +kernel
theorem dX5_tryAgain_27 : decode cX5_tryAgain 27 = .ok (.ireturn, 1) := by decide +kernel
theorem dX5_tryAgain_28 : decode cX5_tryAgain 28 = .ok (.aload_n 0, 1) := by decide +kernel
theorem dX5_tryAgain_29 : decode cX5_tryAgain 29 = .ok (.iconst 2, 1) := by decide +kernel
theorem dX5_tryAgain_30 : decode cX5_tryAgain 30 = .ok (.putfield 9, 3) := by decide +kernel
theorem dX5_tryAgain_33 : decode cX5_tryAgain 33 = .ok (.aload_n 0, 1) := by decide +kernel
theorem dX5_tryAgain_34 : decode cX5_tryAgain 34 = .ok (.iload_n 1, 1) := by decide +kernel
theorem dX5_tryAgain_35 : decode cX5_tryAgain 35 = .ok (.aload_n 0, 1) := by decide +kernel
theorem dX5_tryAgain_36 : decode cX5_tryAgain 36 = .ok (.getfield 27, 3) := by decide +kernel
theorem dX5_tryAgain_39 : decode cX5_tryAgain 39 = .ok (.iload_n 2, 1) := by decide +kernel
theorem dX5_tryAgain_40 : decode cX5_tryAgain 40 = .ok (.ishl, 1) := by decide +kernel
theorem dX5_tryAgain_41 : decode cX5_tryAgain 41 = .ok (.iadd, 1) := by decide +kernel
theorem dX5_tryAgain_42 : decode cX5_tryAgain 42 = .ok (.putfield 18, 3) := by decide +kernel
theorem dX5_tryAgain_45 : decode cX5_tryAgain 45 = .ok (.iconst 1, 1) := by decide +kernel
theorem dX5_tryAgain_46 : decode cX5_tryAgain 46 = .ok (.ireturn, 1) := by decide +kernel
theorem dX6_init_0 : decode cX6_init 0 = .ok (.aload_n 0, 1) := by decide +kernel
theorem dX6_init_1 : decode cX6_init 1 = .ok (.invokespecial 1, 3) := by decide +kernel
theorem dX6_init_4 : decode cX6_init 4 = .ok (.aload_n 0, 1) := by decide +kernel
theorem dX6_init_5 : decode cX6_init 5 = .ok (.bipush 60, 2) := by decide +kernel
theorem dX6_init_7 : decode cX6_init 7 = .ok (.newarray .char, 2) := by decide +kernel
theorem dX6_init_9 : decode cX6_init 9 = .ok (.putfield 9, 3) := by decide +kernel
theorem dX6_init_12 : decode cX6_init 12 = .ok (.aload_n 0, 1) := by decide +kernel
theorem dX6_init_13 : decode cX6_init 13 = .ok (.iconst 0, 1) := by decide +kernel
theorem dX6_init_14 : decode cX6_init 14 = .ok (.putfield 13, 3) := by decide +kernel
theorem dX6_init_17 : decode cX6_init 17 = .ok (.return_, 1) := by decide +kernel
theorem dX6_append_0 : decode cX6_append 0 = .ok (.iconst 0, 1) := by decide +kernel
theorem dX6_append_1 : decode cX6_append 1 = .ok (.istore_n 3, 1) := by decide +kernel
theorem dX6_append_2 : decode cX6_append 2 = .ok (.iconst 0, 1) := by decide +kernel
theorem dX6_append_3 : decode cX6_append 3 = .ok (.istore 4, 2) := by decide +kernel
theorem dX6_append_5 : decode cX6_append 5 = .ok (.iload 4, 2) := by decide +kernel
theorem dX6_append_7 : decode cX6_append 7 = .ok (.bipush 8, 2) := by decide +kernel
theorem dX6_append_9 : decode cX6_append 9 = .ok (.if_icmp .ge 45, 3) := by decide +kernel
theorem dX6_append_12 : decode cX6_append 12 = .ok (.lload_n 1, 1) := by decide +kernel
theorem dX6_append_13 : decode cX6_append 13 = .ok (.iload 4, 2) := by decide +kernel
theorem dX6_append_15 : decode cX6_append 15 = .ok (.invokestatic 17, 3) := by decide +kernel
theorem dX6_append_18 : decode cX6_append 18 = .ok (.ifCond .eq 36, 3) := by decide +kernel
theorem dX6_append_21 : decode cX6_append 21 = .ok (.lload_n 1, 1) := by decide +kernel
theorem dX6_append_22 : decode cX6_append 22 = .ok (.iload 4, 2) := by decide +kernel
theorem dX6_append_24 : decode cX6_append 24 = .ok (.invokestatic 17, 3) := by decide +kernel
theorem dX6_append_27 : decode cX6_append 27 = .ok (.bipush 32, 2) := by decide +kernel
theorem dX6_append_29 : decode cX6_append 29 = .ok (.if_icmp .lt 14, 3) := by decide +kernel
theorem dX6_append_32 : decode cX6_append 32 = .ok (.lload_n 1, 1) := by decide +kernel
theorem dX6_append_33 : decode cX6_append 33 = .ok (.iload 4, 2) := by decide +kernel
theorem dX6_append_35 : decode cX6_append 35 = .ok (.invokestatic 17, 3) := by decide +kernel
theorem dX6_append_38 : decode cX6_append 38 = .ok (.bipush 126, 2) := by decide +kernel
theorem dX6_append_40 : decode cX6_append 40 = .ok (.if_icmp .le 5, 3) := by decide +kernel
theorem dX6_append_43 : decode cX6_append 43 = .ok (.iconst 0, 1) := by decide +kernel
theorem dX6_append_44 : decode cX6_append 44 = .ok (.ireturn, 1) := by decide +kernel
theorem dX6_append_45 : decode cX6_append 45 = .ok (.iinc 3 1, 3) := by decide +kernel
theorem dX6_append_48 : decode cX6_append 48 = .ok (.iinc 4 1, 3) := by decide +kernel
theorem dX6_append_51 : decode cX6_append 51 = .ok (.goto (-46), 3) := by decide +kernel
theorem dX6_append_54 : decode cX6_append 54 = .ok (.aload_n 0, 1) := by decide +kernel
theorem dX6_append_55 : decode cX6_append 55 = .ok (.getfield 13, 3) := by decide +kernel
theorem dX6_append_58 : decode cX6_append 58 = .ok (.iload_n 3, 1) := by decide +kernel
theorem dX6_append_59 : decode cX6_append 59 = .ok (.iadd, 1) := by decide +kernel
theorem dX6_append_60 : decode cX6_append 60 = .ok (.bipush 60, 2) := by decide +kernel
theorem dX6_append_62 : decode cX6_append 62 = .ok (.if_icmp .le 5, 3) := by decide +kernel
theorem dX6_append_65 : decode cX6_append 65 = .ok (.iconst 0, 1) := by decide +kernel
theorem dX6_append_66 : decode cX6_append 66 = .ok (.ireturn, 1) := by decide +kernel
theorem dX6_append_67 : decode cX6_append 67 = .ok (.iconst 0, 1) := by decide +kernel
theorem dX6_append_68 : decode cX6_append 68 = .ok (.istore 4, 2) := by decide +kernel
theorem dX6_append_70 : decode cX6_append 70 = .ok (.iload 4, 2) := by decide +kernel
theorem dX6_append_72 : decode cX6_append 72 = .ok (.iload_n 3, 1) := by decide +kernel
theorem dX6_append_73 : decode cX6_append 73 = .ok (.if_icmp .ge 27, 3) := by decide +kernel
theorem dX6_append_76 : decode cX6_append 76 = .ok (.aload_n 0, 1) := by decide +kernel
theorem dX6_append_77 : decode cX6_append 77 = .ok (.getfield 9, 3) := by decide +kernel
theorem dX6_append_80 : decode cX6_append 80 = .ok (.aload_n 0, 1) := by decide +kernel
theorem dX6_append_81 : decode cX6_append 81 = .ok (.getfield 13, 3) := by decide +kernel
theorem dX6_append_84 : decode cX6_append 84 = .ok (.iload 4, 2) := by decide +kernel
theorem dX6_append_86 : decode cX6_append 86 = .ok (.iadd, 1) := by decide +kernel
theorem dX6_append_87 : decode cX6_append 87 = .ok (.lload_n 1, 1) := by decide +kernel
theorem dX6_append_88 : decode cX6_append 88 = .ok (.iload 4, 2) := by decide +kernel
theorem dX6_append_90 : decode cX6_append 90 = .ok (.invokestatic 17, 3) := by decide +kernel
theorem dX6_append_93 : decode cX6_append 93 = .ok (.castore, 1) := by decide +kernel
theorem dX6_append_94 : decode cX6_append 94 = .ok (.iinc 4 1, 3) := by decide +kernel
theorem dX6_append_97 : decode cX6_append 97 = .ok (.goto (-27), 3) := by decide +kernel
theorem dX6_append_100 : decode cX6_append 100 = .ok (.aload_n 0, 1) := by decide +kernel
theorem dX6_append_101 : decode cX6_append 101 = .ok (.dup, 1) := by decide +kernel
theorem dX6_append_102 : decode cX6_append 102 = .ok (.getfield 13, 3) := by decide +kernel
theorem dX6_append_105 : decode cX6_append 105 = .ok (.iload_n 3, 1) := by decide +kernel
theorem dX6_append_106 : decode cX6_append 106 = .ok (.iadd, 1) := by decide +kernel
theorem dX6_append_107 : decode cX6_append 107 = .ok (.putfield 13, 3) := by decide +kernel
theorem dX6_append_110 : decode cX6_append 110 = .ok (.iconst 1, 1) := by decide +kernel
theorem dX6_append_111 : decode cX6_append 111 = .ok (.ireturn, 1) := by decide +kernel
theorem dX6_signOf_0 : decode cX6_signOf 0 = .ok (.lload_n 0, 1) := by decide +kernel
theorem dX6_signOf_1 : decode cX6_signOf 1 = .ok (.bipush 8, 2) := by decide +kernel
theorem dX6_signOf_3 : decode cX6_signOf 3 = .ok (.iload_n 2, 1) := by decide +kernel
theorem dX6_signOf_4 : decode cX6_signOf 4 = .ok (.imul, 1) := by decide +kernel
theorem dX6_signOf_5 : decode cX6_signOf 5 = .ok (.lushr, 1) := by decide +kernel
theorem dX6_signOf_6 : decode cX6_signOf 6 = .ok (.ldc2_w 21, 3) := by decide +kernel
theorem dX6_signOf_9 : decode cX6_signOf 9 = .ok (.land, 1) := by decide +kernel
theorem dX6_signOf_10 : decode cX6_signOf 10 = .ok (.l2i, 1) := by decide +kernel
theorem dX6_signOf_11 : decode cX6_signOf 11 = .ok (.i2c, 1) := by decide +kernel
theorem dX6_signOf_12 : decode cX6_signOf 12 = .ok (.ireturn, 1) := by decide +kernel
theorem dX6_clear_0 : decode cX6_clear 0 = .ok (.aload_n 0, 1) := by decide +kernel
theorem dX6_clear_1 : decode cX6_clear 1 = .ok (.iconst 0, 1) := by decide +kernel
theorem dX6_clear_2 : decode cX6_clear 2 = .ok (.putfield 13, 3) := by decide +kernel
theorem dX6_clear_5 : decode cX6_clear 5 = .ok (.return_, 1) := by decide +kernel
theorem dX6_signAt_0 : decode cX6_signAt 0 = .ok (.iload_n 1, 1) := by decide +kernel
theorem dX6_signAt_1 : decode cX6_signAt 1 = .ok (.ifCond .lt 20, 3) := by decide +kernel
theorem dX6_signAt_4 : decode cX6_signAt 4 = .ok (.iload_n 1, 1) := by decide +kernel
theorem dX6_signAt_5 : decode cX6_signAt 5 = .ok (.aload_n 0, 1) := by decide +kernel
theorem dX6_signAt_6 : decode cX6_signAt 6 = .ok (.getfield 13, 3) := by decide +kernel
theorem dX6_signAt_9 : decode cX6_signAt 9 = .ok (.if_icmp .ge 12, 3) := by decide +kernel
theorem dX6_signAt_12 : decode cX6_signAt 12 = .ok (.aload_n 0, 1) := by decide +kernel
theorem dX6_signAt_13 : decode cX6_signAt 13 = .ok (.getfield 9, 3) := by decide +kernel
theorem dX6_signAt_16 : decode cX6_signAt 16 = .ok (.iload_n 1, 1) := by decide +kernel
theorem dX6_signAt_17 : decode cX6_signAt 17 = .ok (.caload, 1) := by decide +kernel
theorem dX6_signAt_18 : decode cX6_signAt 18 = .ok (.goto 4, 3) := by decide +kernel
theorem dX6_signAt_21 : decode cX6_signAt 21 = .ok (.iconst 0, 1) := by decide +kernel
theorem dX6_signAt_22 : decode cX6_signAt 22 = .ok (.ireturn, 1) := by decide +kernel
theorem dX7_init_0 : decode cX7_init 0 = .ok (.aload_n 0, 1) := by decide +kernel
theorem dX7_init_1 : decode cX7_init 1 = .ok (.invokespecial 1, 3) := by decide +kernel
theorem dX7_init_4 : decode cX7_init 4 = .ok (.aload_n 0, 1) := by decide +kernel
theorem dX7_init_5 : decode cX7_init 5 = .ok (.new 7, 3) := by decide +kernel
theorem dX7_init_8 : decode cX7_init 8 = .ok (.dup, 1) := by decide +kernel
theorem dX7_init_9 : decode cX7_init 9 = .ok (.invokespecial 9, 3) := by decide +kernel
theorem dX7_init_12 : decode cX7_init 12 = .ok (.putfield 10, 3) := by decide +kernel
theorem dX7_init_15 : decode cX7_init 15 = .ok (.aload_n 0, 1) := by decide +kernel
theorem dX7_init_16 : decode cX7_init 16 = .ok (.new 16, 3) := by decide +kernel
theorem dX7_init_19 : decode cX7_init 19 = .ok (.dup, 1) := by decide +kernel
theorem dX7_init_20 : decode cX7_init 20 = .ok (.invokespecial 18, 3) := by decide +kernel
theorem dX7_init_23 : decode cX7_init 23 = .ok (.putfield 19, 3) := by decide +kernel
theorem dX7_init_26 : decode cX7_init 26 = .ok (.aload_n 0, 1) := by decide +kernel
theorem dX7_init_27 : decode cX7_init 27 = .ok (.new 23, 3) := by decide +kernel
theorem dX7_init_30 : decode cX7_init 30 = .ok (.dup, 1) := by decide +kernel
theorem dX7_init_31 : decode cX7_init 31 = .ok (.invokespecial 25, 3) := by decide +kernel
theorem dX7_init_34 : decode cX7_init 34 = .ok (.putfield 26, 3) := by decide +kernel
theorem dX7_init_37 : decode cX7_init 37 = .ok (.aload_n 0, 1) := by decide +kernel
theorem dX7_init_38 : decode cX7_init 38 = .ok (.bipush 6, 2) := by decide +kernel
theorem dX7_init_40 : decode cX7_init 40 = .ok (.anewarray 30, 3) := by decide +kernel
theorem dX7_init_43 : decode cX7_init 43 = .ok (.putfield 32, 3) := by decide +kernel
theorem dX7_init_46 : decode cX7_init 46 = .ok (.aload_n 0, 1) := by decide +kernel
theorem dX7_init_47 : decode cX7_init 47 = .ok (.iconst 0, 1) := by decide +kernel
theorem dX7_init_48 : decode cX7_init 48 = .ok (.putfield 36, 3) := by decide +kernel
theorem dX7_init_51 : decode cX7_init 51 = .ok (.aload_n 0, 1) := by decide +kernel
theorem dX7_init_52 : decode cX7_init 52 = .ok (.iconst (-1), 1) := by decide +kernel
theorem dX7_init_53 : decode cX7_init 53 = .ok (.putfield 40, 3) := by decide +kernel
theorem dX7_init_56 : decode cX7_init 56 = .ok (.aload_n 0, 1) := by decide +kernel
theorem dX7_init_57 : decode cX7_init 57 = .ok (.iconst 2, 1) := by decide +kernel
theorem dX7_init_58 : decode cX7_init 58 = .ok (.putfield 43, 3) := by decide +kernel
theorem dX7_init_61 : decode cX7_init 61 = .ok (.aload_n 0, 1) := by decide +kernel
theorem dX7_init_62 : decode cX7_init 62 = .ok (.iconst 0, 1) := by decide +kernel
theorem dX7_init_63 : decode cX7_init 63 = .ok (.putfield 46, 3) := by decide +kernel
theorem dX7_init_66 : decode cX7_init 66 = .ok (.aload_n 0, 1) := by decide +kernel
theorem dX7_init_67 : decode cX7_init 67 = .ok (.iconst 0, 1) := by decide +kernel
theorem dX7_init_68 : decode cX7_init 68 = .ok (.putfield 49, 3) := by decide +kernel
theorem dX7_init_71 : decode cX7_init 71 = .ok (.aload_n 0, 1) := by decide +kernel
theorem dX7_init_72 : decode cX7_init 72 = .ok (.iconst 0, 1) := by decide +kernel
theorem dX7_init_73 : decode cX7_init 73 = .ok (.putfield 53, 3) := by decide +kernel
theorem dX7_init_76 : decode cX7_init 76 = .ok (.return_, 1) := by decide +kernel
theorem dX7_type_0 : decode cX7_type 0 = .ok (.aload_n 0, 1) := by decide +kernel
theorem dX7_type_1 : decode cX7_type 1 = .ok (.getfield 10, 3) := by decide +kernel
theorem dX7_type_4 : decode cX7_type 4 = .ok (.getfield 56, 3) := by decide +kernel
theorem dX7_type_7 : decode cX7_type 7 = .ok (.lload_n 1, 1) := by decide +kernel
theorem dX7_type_8 : decode cX7_type 8 = .ok (.invokevirtual 60, 3) := by decide +kernel
theorem dX7_type_11 : decode cX7_type 11 = .ok (.ireturn, 1) := by decide +kernel
theorem dX7_job_0 : decode cX7_job 0 = .ok (.aload_n 0, 1) := by decide +kernel
theorem dX7_job_1 : decode cX7_job 1 = .ok (.getfield 36, 3) := by decide +kernel
theorem dX7_job_4 : decode cX7_job 4 = .ok (.bipush 6, 2) := by decide +kernel
theorem dX7_job_6 : decode cX7_job 6 = .ok (.if_icmp .lt 11, 3) := by decide +kernel
theorem dX7_job_9 : decode cX7_job 9 = .ok (.new 66, 3) := by decide +kernel
theorem dX7_job_12 : decode cX7_job 12 = .ok (.dup, 1) := by decide +kernel
theorem dX7_job_13 : decode cX7_job 13 = .ok (.invokespecial 68, 3) := by decide +kernel
theorem dX7_job_16 : decode cX7_job 16 = .ok (.athrow, 1) := by decide +kernel
theorem dX7_job_17 : decode cX7_job 17 = .ok (.aload_n 0, 1) := by decide +kernel
theorem dX7_job_18 : decode cX7_job 18 = .ok (.aload_n 0, 1) := by decide +kernel
theorem dX7_job_19 : decode cX7_job 19 = .ok (.getfield 10, 3) := by decide +kernel
theorem dX7_job_22 : decode cX7_job 22 = .ok (.invokevirtual 69, 3) := by decide +kernel
theorem dX7_job_25 : decode cX7_job 25 = .ok (.putfield 40, 3) := by decide +kernel
theorem dX7_job_28 : decode cX7_job 28 = .ok (.aload_n 0, 1) := by decide +kernel
theorem dX7_job_29 : decode cX7_job 29 = .ok (.getfield 40, 3) := by decide +kernel
theorem dX7_job_32 : decode cX7_job 32 = .ok (.iconst (-1), 1) := by decide +kernel
theorem dX7_job_33 : decode cX7_job 33 = .ok (.if_icmp .eq 11, 3) := by decide +kernel
theorem dX7_job_36 : decode cX7_job 36 = .ok (.new 73, 3) := by decide +kernel
theorem dX7_job_39 : decode cX7_job 39 = .ok (.dup, 1) := by decide +kernel
theorem dX7_job_40 : decode cX7_job 40 = .ok (.invokespecial 75, 3) := by decide +kernel
theorem dX7_job_43 : decode cX7_job 43 = .ok (.athrow, 1) := by decide +kernel
theorem dX7_job_44 : decode cX7_job 44 = .ok (.aload_n 0, 1) := by decide +kernel
theorem dX7_job_45 : decode cX7_job 45 = .ok (.getfield 32, 3) := by decide +kernel
theorem dX7_job_48 : decode cX7_job 48 = .ok (.aload_n 0, 1) := by decide +kernel
theorem dX7_job_49 : decode cX7_job 49 = .ok (.getfield 36, 3) := by decide +kernel
theorem dX7_job_52 : decode cX7_job 52 = .ok (.new 30, 3) := by decide +kernel
theorem dX7_job_55 : decode cX7_job 55 = .ok (.dup, 1) := by decide +kernel
theorem dX7_job_56 : decode cX7_job 56 = .ok (.iload_n 1, 1) := by decide +kernel
theorem dX7_job_57 : decode cX7_job 57 = .ok (.aload_n 0, 1) := by decide +kernel
theorem dX7_job_58 : decode cX7_job 58 = .ok (.getfield 10, 3) := by decide +kernel
theorem dX7_job_61 : decode cX7_job 61 = .ok (.invokevirtual 76, 3) := by decide +kernel
theorem dX7_job_64 : decode cX7_job 64 = .ok (.invokespecial 80, 3) := by decide +kernel
theorem dX7_job_67 : decode cX7_job 67 = .ok (.aastore, 1) := by decide +kernel
theorem dX7_job_68 : decode cX7_job 68 = .ok (.aload_n 0, 1) := by decide +kernel
theorem dX7_job_69 : decode cX7_job 69 = .ok (.getfield 10, 3) := by decide +kernel
theorem dX7_job_72 : decode cX7_job 72 = .ok (.getfield 56, 3) := by decide +kernel
theorem dX7_job_75 : decode cX7_job 75 = .ok (.invokevirtual 83, 3) := by decide +kernel
theorem dX7_job_78 : decode cX7_job 78 = .ok (.aload_n 0, 1) := by decide +kernel
theorem dX7_job_79 : decode cX7_job 79 = .ok (.dup, 1) := by decide +kernel
theorem dX7_job_80 : decode cX7_job 80 = .ok (.getfield 36, 3) := by decide +kernel
theorem dX7_job_83 : decode cX7_job 83 = .ok (.dup_x1, 1) := by decide +kernel
theorem dX7_job_84 : decode cX7_job 84 = .ok (.iconst 1, 1) := by decide +kernel
theorem dX7_job_85 : decode cX7_job 85 = .ok (.iadd, 1) := by decide +kernel
theorem dX7_job_86 : decode cX7_job 86 = .ok (.putfield 36, 3) := by decide +kernel
theorem dX7_job_89 : decode cX7_job 89 = .ok (.ireturn, 1) := by decide +kernel
theorem dX7_fault_0 : decode cX7_fault 0 = .ok (.aload_n 0, 1) := by decide +kernel
theorem dX7_fault_1 : decode cX7_fault 1 = .ok (.getfield 40, 3) := by decide +kernel
theorem dX7_fault_4 : decode cX7_fault 4 = .ok (.ireturn, 1) := by decide +kernel
theorem dX7_erase_0 : decode cX7_erase 0 = .ok (.aload_n 0, 1) := by decide +kernel
theorem dX7_erase_1 : decode cX7_erase 1 = .ok (.getfield 10, 3) := by decide +kernel
theorem dX7_erase_4 : decode cX7_erase 4 = .ok (.getfield 56, 3) := by decide +kernel
theorem dX7_erase_7 : decode cX7_erase 7 = .ok (.invokevirtual 83, 3) := by decide +kernel
theorem dX7_erase_10 : decode cX7_erase 10 = .ok (.return_, 1) := by decide +kernel
theorem dX7_task_0 : decode cX7_task 0 = .ok (.aload_n 0, 1) := by decide +kernel
theorem dX7_task_1 : decode cX7_task 1 = .ok (.iload_n 1, 1) := by decide +kernel
theorem dX7_task_2 : decode cX7_task 2 = .ok (.invokevirtual 86, 3) := by decide +kernel
theorem dX7_task_5 : decode cX7_task 5 = .ok (.ifCond .ne 11, 3) := by decide +kernel
theorem dX7_task_8 : decode cX7_task 8 = .ok (.new 90, 3) := by decide +kernel
theorem dX7_task_11 : decode cX7_task 11 = .ok (.dup, 1) := by decide +kernel
theorem dX7_task_12 : decode cX7_task 12 = .ok (.invokespecial 92, 3) := by decide +kernel
theorem dX7_task_15 : decode cX7_task 15 = .ok (.athrow, 1) := by decide +kernel
theorem dX7_task_16 : decode cX7_task 16 = .ok (.aload_n 0, 1) := by decide +kernel
theorem dX7_task_17 : decode cX7_task 17 = .ok (.getfield 32, 3) := by decide +kernel
theorem dX7_task_20 : decode cX7_task 20 = .ok (.iload_n 1, 1) := by decide +kernel
theorem dX7_task_21 : decode cX7_task 21 = .ok (.aaload, 1) := by decide +kernel
theorem dX7_task_22 : decode cX7_task 22 = .ok (.astore 5, 2) := by decide +kernel
theorem dX7_task_24 : decode cX7_task 24 = .ok (.aload 5, 2) := by decide +kernel
theorem dX7_task_26 : decode cX7_task 26 = .ok (.getfield 93, 3) := by decide +kernel
theorem dX7_task_29 : decode cX7_task 29 = .ok (.bipush 6, 2) := by decide +kernel
theorem dX7_task_31 : decode cX7_task 31 = .ok (.if_icmp .ge 11, 3) := by decide +kernel
theorem dX7_task_34 : decode cX7_task 34 = .ok (.aload 5, 2) := by decide +kernel
theorem dX7_task_36 : decode cX7_task 36 = .ok (.getfield 96, 3) := by decide +kernel
theorem dX7_task_39 : decode cX7_task 39 = .ok (.ifCond .eq 11, 3) := by decide +kernel
theorem dX7_task_42 : decode cX7_task 42 = .ok (.new 66, 3) := by decide +kernel
theorem dX7_task_45 : decode cX7_task 45 = .ok (.dup, 1) := by decide +kernel
theorem dX7_task_46 : decode cX7_task 46 = .ok (.invokespecial 68, 3) := by decide +kernel
theorem dX7_task_49 : decode cX7_task 49 = .ok (.athrow, 1) := by decide +kernel
theorem dX7_task_50 : decode cX7_task 50 = .ok (.iload_n 2, 1) := by decide +kernel
theorem dX7_task_51 : decode cX7_task 51 = .ok (.aload 5, 2) := by decide +kernel
theorem dX7_task_53 : decode cX7_task 53 = .ok (.invokevirtual 99, 3) := by decide +kernel
theorem dX7_task_56 : decode cX7_task 56 = .ok (.iconst (-1), 1) := by decide +kernel
theorem dX7_task_57 : decode cX7_task 57 = .ok (.ixor, 1) := by decide +kernel
theorem dX7_task_58 : decode cX7_task 58 = .ok (.iand, 1) := by decide +kernel
theorem dX7_task_59 : decode cX7_task 59 = .ok (.ifCond .eq 7, 3) := by decide +kernel
theorem dX7_task_62 : decode cX7_task 62 = .ok (.iconst 1, 1) := by decide +kernel
theorem dX7_task_63 : decode cX7_task 63 = .ok (.goto 4, 3) := by decide +kernel
theorem dX7_task_66 : decode cX7_task 66 = .ok (.iconst 0, 1) := by decide +kernel
theorem dX7_task_67 : decode cX7_task 67 = .ok (.istore 6, 2) := by decide +kernel
theorem dX7_task_69 : decode cX7_task 69 = .ok (.iload 6, 2) := by decide +kernel
theorem dX7_task_71 : decode cX7_task 71 = .ok (.ifCond .ne 26, 3) := by decide +kernel
theorem dX7_task_74 : decode cX7_task 74 = .ok (.iload_n 3, 1) := by decide +kernel
theorem dX7_task_75 : decode cX7_task 75 = .ok (.iconst 1, 1) := by decide +kernel
theorem dX7_task_76 : decode cX7_task 76 = .ok (.if_icmp .lt 21, 3) := by decide +kernel
theorem dX7_task_79 : decode cX7_task 79 = .ok (.iload_n 3, 1) := by decide +kernel
theorem dX7_task_80 : decode cX7_task 80 = .ok (.iconst 4, 1) := by decide +kernel
theorem dX7_task_81 : decode cX7_task 81 = .ok (.if_icmp .gt 16, 3) := by decide +kernel
theorem dX7_task_84 : decode cX7_task 84 = .ok (.iload 4, 2) := by decide +kernel
theorem dX7_task_86 : decode cX7_task 86 = .ok (.ifCond .lt 11, 3) := by decide +kernel
theorem dX7_task_89 : decode cX7_task 89 = .ok (.iload 4, 2) := by decide +kernel
theorem dX7_task_91 : decode cX7_task 91 = .ok (.sipush 1000, 3) := by decide +kernel
theorem dX7_task_94 : decode cX7_task 94 = .ok (.if_icmp .le 11, 3) := by decide +kernel
theorem dX7_task_97 : decode cX7_task 97 = .ok (.new 73, 3) := by decide +kernel
theorem dX7_task_100 : decode cX7_task 100 = .ok (.dup, 1) := by decide +kernel
theorem dX7_task_101 : decode cX7_task 101 = .ok (.invokespecial 75, 3) := by decide +kernel
theorem dX7_task_104 : decode cX7_task 104 = .ok (.athrow, 1) := by decide +kernel
theorem dX7_task_105 : decode cX7_task 105 = .ok (.aload 5, 2) := by decide +kernel
theorem dX7_task_107 : decode cX7_task 107 = .ok (.new 102, 3) := by decide +kernel
theorem dX7_task_110 : decode cX7_task 110 = .ok (.dup, 1) := by decide +kernel
theorem dX7_task_111 : decode cX7_task 111 = .ok (.iload_n 2, 1) := by decide +kernel
theorem dX7_task_112 : decode cX7_task 112 = .ok (.iload_n 3, 1) := by decide +kernel
theorem dX7_task_113 : decode cX7_task 113 = .ok (.iload 4, 2) := by decide +kernel
theorem dX7_task_115 : decode cX7_task 115 = .ok (.invokespecial 104, 3) := by decide +kernel
theorem dX7_task_118 : decode cX7_task 118 = .ok (.invokevirtual 107, 3) := by decide +kernel
theorem dX7_task_121 : decode cX7_task 121 = .ok (.ireturn, 1) := by decide +kernel
theorem dX7_slots_0 : decode cX7_slots 0 = .ok (.iload_n 1, 1) := by decide +kernel
theorem dX7_slots_1 : decode cX7_slots 1 = .ok (.iconst 1, 1) := by decide +kernel
theorem dX7_slots_2 : decode cX7_slots 2 = .ok (.if_icmp .lt 9, 3) := by decide +kernel
theorem dX7_slots_5 : decode cX7_slots 5 = .ok (.iload_n 1, 1) := by decide +kernel
theorem dX7_slots_6 : decode cX7_slots 6 = .ok (.bipush 6, 2) := by decide +kernel
theorem dX7_slots_8 : decode cX7_slots 8 = .ok (.if_icmp .le 5, 3) := by decide +kernel
theorem dX7_slots_11 : decode cX7_slots 11 = .ok (.iconst 0, 1) := by decide +kernel
theorem dX7_slots_12 : decode cX7_slots 12 = .ok (.ireturn, 1) := by decide +kernel
theorem dX7_slots_13 : decode cX7_slots 13 = .ok (.aload_n 0, 1) := by decide +kernel
theorem dX7_slots_14 : decode cX7_slots 14 = .ok (.iload_n 1, 1) := by decide +kernel
theorem dX7_slots_15 : decode cX7_slots 15 = .ok (.putfield 43, 3) := by decide +kernel
theorem dX7_slots_18 : decode cX7_slots 18 = .ok (.iconst 1, 1) := by decide +kernel
theorem dX7_slots_19 : decode cX7_slots 19 = .ok (.ireturn, 1) := by decide +kernel
theorem dX7_holds_0 : decode cX7_holds 0 = .ok (.aload_n 0, 1) := by decide +kernel
theorem dX7_holds_1 : decode cX7_holds 1 = .ok (.iload_n 1, 1) := by decide +kernel
theorem dX7_holds_2 : decode cX7_holds 2 = .ok (.invokevirtual 86, 3) := by decide +kernel
theorem dX7_holds_5 : decode cX7_holds 5 = .ok (.ifCond .ne 11, 3) := by decide +kernel
theorem dX7_holds_8 : decode cX7_holds 8 = .ok (.new 90, 3) := by decide +kernel
theorem dX7_holds_11 : decode cX7_holds 11 = .ok (.dup, 1) := by decide +kernel
theorem dX7_holds_12 : decode cX7_holds 12 = .ok (.invokespecial 92, 3) := by decide +kernel
theorem dX7_holds_15 : decode cX7_holds 15 = .ok (.athrow, 1) := by decide +kernel
theorem dX7_holds_16 : decode cX7_holds 16 = .ok (.iload_n 2, 1) := by decide +kernel
theorem dX7_holds_17 : decode cX7_holds 17 = .ok (.invokestatic 111, 3) := by decide +kernel
theorem dX7_holds_20 : decode cX7_holds 20 = .ok (.ifCond .ne 11, 3) := by decide +kernel
theorem dX7_holds_23 : decode cX7_holds 23 = .ok (.new 73, 3) := by decide +kernel
theorem dX7_holds_26 : decode cX7_holds 26 = .ok (.dup, 1) := by decide +kernel
theorem dX7_holds_27 : decode cX7_holds 27 = .ok (.invokespecial 75, 3) := by decide +kernel
theorem dX7_holds_30 : decode cX7_holds 30 = .ok (.athrow, 1) := by decide +kernel
theorem dX7_holds_31 : decode cX7_holds 31 = .ok (.aload_n 0, 1) := by decide +kernel
theorem dX7_holds_32 : decode cX7_holds 32 = .ok (.aload_n 0, 1) := by decide +kernel
theorem dX7_holds_33 : decode cX7_holds 33 = .ok (.getfield 32, 3) := by decide +kernel
theorem dX7_holds_36 : decode cX7_holds 36 = .ok (.iload_n 1, 1) := by decide +kernel
theorem dX7_holds_37 : decode cX7_holds 37 = .ok (.aaload, 1) := by decide +kernel
theorem dX7_holds_38 : decode cX7_holds 38 = .ok (.getfield 114, 3) := by decide +kernel
theorem dX7_holds_41 : decode cX7_holds 41 = .ok (.iload_n 2, 1) := by decide +kernel
theorem dX7_holds_42 : decode cX7_holds 42 = .ok (.invokevirtual 117, 3) := by decide +kernel
theorem dX7_holds_45 : decode cX7_holds 45 = .ok (.ireturn, 1) := by decide +kernel
theorem dX7_next_0 : decode cX7_next 0 = .ok (.aload_n 0, 1) := by decide +kernel
theorem dX7_next_1 : decode cX7_next 1 = .ok (.iload_n 1, 1) := by decide +kernel
theorem dX7_next_2 : decode cX7_next 2 = .ok (.invokevirtual 86, 3) := by decide +kernel
theorem dX7_next_5 : decode cX7_next 5 = .ok (.ifCond .ne 11, 3) := by decide +kernel
theorem dX7_next_8 : decode cX7_next 8 = .ok (.new 90, 3) := by decide +kernel
theorem dX7_next_11 : decode cX7_next 11 = .ok (.dup, 1) := by decide +kernel
theorem dX7_next_12 : decode cX7_next 12 = .ok (.invokespecial 92, 3) := by decide +kernel
theorem dX7_next_15 : decode cX7_next 15 = .ok (.athrow, 1) := by decide +kernel
theorem dX7_next_16 : decode cX7_next 16 = .ok (.iload_n 2, 1) := by decide +kernel
theorem dX7_next_17 : decode cX7_next 17 = .ok (.invokestatic 111, 3) := by decide +kernel
theorem dX7_next_20 : decode cX7_next 20 = .ok (.ifCond .ne 11, 3) := by decide +kernel
theorem dX7_next_23 : decode cX7_next 23 = .ok (.new 73, 3) := by decide +kernel
theorem dX7_next_26 : decode cX7_next 26 = .ok (.dup, 1) := by decide +kernel
theorem dX7_next_27 : decode cX7_next 27 = .ok (.invokespecial 75, 3) := by decide +kernel
theorem dX7_next_30 : decode cX7_next 30 = .ok (.athrow, 1) := by decide +kernel
theorem dX7_next_31 : decode cX7_next 31 = .ok (.aload_n 0, 1) := by decide +kernel
theorem dX7_next_32 : decode cX7_next 32 = .ok (.aload_n 0, 1) := by decide +kernel
theorem dX7_next_33 : decode cX7_next 33 = .ok (.getfield 32, 3) := by decide +kernel
theorem dX7_next_36 : decode cX7_next 36 = .ok (.iload_n 1, 1) := by decide +kernel
theorem dX7_next_37 : decode cX7_next 37 = .ok (.aaload, 1) := by decide +kernel
theorem dX7_next_38 : decode cX7_next 38 = .ok (.getfield 114, 3) := by decide +kernel
theorem dX7_next_41 : decode cX7_next 41 = .ok (.iload_n 2, 1) := by decide +kernel
theorem dX7_next_42 : decode cX7_next 42 = .ok (.ldc 121, 2) := by decide +kernel
theorem dX7_next_44 : decode cX7_next 44 = .ok (.invokevirtual 122, 3) := by decide +kernel
theorem dX7_next_47 : decode cX7_next 47 = .ok (.ireturn, 1) := by decide +kernel
theorem dX7_part_0 : decode cX7_part 0 = .ok (.iload_n 1, 1) := by decide +kernel
theorem dX7_part_1 : decode cX7_part 1 = .ok (.invokestatic 111, 3) := by decide +kernel
theorem dX7_part_4 : decode cX7_part 4 = .ok (.ifCond .eq 12, 3) := by decide +kernel
theorem dX7_part_7 : decode cX7_part 7 = .ok (.iload_n 2, 1) := by decide +kernel
theorem dX7_part_8 : decode cX7_part 8 = .ok (.ifCond .lt 8, 3) := by decide +kernel
theorem dX7_part_11 : decode cX7_part 11 = .ok (.iload_n 2, 1) := by decide +kernel
theorem dX7_part_12 : decode cX7_part 12 = .ok (.iconst 5, 1) := by decide +kernel
theorem dX7_part_13 : decode cX7_part 13 = .ok (.if_icmp .le 11, 3) := by decide +kernel
theorem dX7_part_16 : decode cX7_part 16 = .ok (.new 73, 3) := by decide +kernel
theorem dX7_part_19 : decode cX7_part 19 = .ok (.dup, 1) := by decide +kernel
theorem dX7_part_20 : decode cX7_part 20 = .ok (.invokespecial 75, 3) := by decide +kernel
theorem dX7_part_23 : decode cX7_part 23 = .ok (.athrow, 1) := by decide +kernel
theorem dX7_part_24 : decode cX7_part 24 = .ok (.aload_n 0, 1) := by decide +kernel
theorem dX7_part_25 : decode cX7_part 25 = .ok (.getfield 19, 3) := by decide +kernel
theorem dX7_part_28 : decode cX7_part 28 = .ok (.iload_n 1, 1) := by decide +kernel
theorem dX7_part_29 : decode cX7_part 29 = .ok (.sipush 1440, 3) := by decide +kernel
theorem dX7_part_32 : decode cX7_part 32 = .ok (.idiv, 1) := by decide +kernel
theorem dX7_part_33 : decode cX7_part 33 = .ok (.invokevirtual 126, 3) := by decide +kernel
theorem dX7_part_36 : decode cX7_part 36 = .ok (.iload_n 2, 1) := by decide +kernel
theorem dX7_part_37 : decode cX7_part 37 = .ok (.tableswitch 73 0 4 #[35, 43, 51, 59, 68], 35) := by decide +kernel
theorem dX7_part_72 : decode cX7_part 72 = .ok (.aload_n 0, 1) := by decide +kernel
theorem dX7_part_73 : decode cX7_part 73 = .ok (.getfield 19, 3) := by decide +kernel
theorem dX7_part_76 : decode cX7_part 76 = .ok (.getfield 130, 3) := by decide +kernel
theorem dX7_part_79 : decode cX7_part 79 = .ok (.ireturn, 1) := by decide +kernel
theorem dX7_part_80 : decode cX7_part 80 = .ok (.aload_n 0, 1) := by decide +kernel
theorem dX7_part_81 : decode cX7_part 81 = .ok (.getfield 19, 3) := by decide +kernel
theorem dX7_part_84 : decode cX7_part 84 = .ok (.getfield 133, 3) := by decide +kernel
theorem dX7_part_87 : decode cX7_part 87 = .ok (.ireturn, 1) := by decide +kernel
theorem dX7_part_88 : decode cX7_part 88 = .ok (.aload_n 0, 1) := by decide +kernel
theorem dX7_part_89 : decode cX7_part 89 = .ok (.getfield 19, 3) := by decide +kernel
theorem dX7_part_92 : decode cX7_part 92 = .ok (.getfield 136, 3) := by decide +kernel
theorem dX7_part_95 : decode cX7_part 95 = .ok (.ireturn, 1) := by decide +kernel
theorem dX7_part_96 : decode cX7_part 96 = .ok (.iload_n 1, 1) := by decide +kernel
theorem dX7_part_97 : decode cX7_part 97 = .ok (.sipush 1440, 3) := by decide +kernel
theorem dX7_part_100 : decode cX7_part 100 = .ok (.irem, 1) := by decide +kernel
theorem dX7_part_101 : decode cX7_part 101 = .ok (.bipush 60, 2) := by decide +kernel
theorem dX7_part_103 : decode cX7_part 103 = .ok (.idiv, 1) := by decide +kernel
theorem dX7_part_104 : decode cX7_part 104 = .ok (.ireturn, 1) := by decide +kernel
theorem dX7_part_105 : decode cX7_part 105 = .ok (.iload_n 1, 1) := by decide +kernel
theorem dX7_part_106 : decode cX7_part 106 = .ok (.bipush 60, 2) := by decide +kernel
theorem dX7_part_108 : decode cX7_part 108 = .ok (.irem, 1) := by decide +kernel
theorem dX7_part_109 : decode cX7_part 109 = .ok (.ireturn, 1) := by decide +kernel
theorem dX7_part_110 : decode cX7_part 110 = .ok (.aload_n 0, 1) := by decide +kernel
theorem dX7_part_111 : decode cX7_part 111 = .ok (.getfield 19, 3) := by decide +kernel
theorem dX7_part_114 : decode cX7_part 114 = .ok (.invokevirtual 139, 3) := by decide +kernel
theorem dX7_part_117 : decode cX7_part 117 = .ok (.ireturn, 1) := by decide +kernel
theorem dX7_pass_0 : decode cX7_pass 0 = .ok (.iload_n 1, 1) := by decide +kernel
theorem dX7_pass_1 : decode cX7_pass 1 = .ok (.iconst 1, 1) := by decide +kernel
theorem dX7_pass_2 : decode cX7_pass 2 = .ok (.if_icmp .lt 10, 3) := by decide +kernel
theorem dX7_pass_5 : decode cX7_pass 5 = .ok (.iload_n 1, 1) := by decide +kernel
theorem dX7_pass_6 : decode cX7_pass 6 = .ok (.sipush 5000, 3) := by decide +kernel
theorem dX7_pass_9 : decode cX7_pass 9 = .ok (.if_icmp .le 11, 3) := by decide +kernel
theorem dX7_pass_12 : decode cX7_pass 12 = .ok (.new 73, 3) := by decide +kernel
theorem dX7_pass_15 : decode cX7_pass 15 = .ok (.dup, 1) := by decide +kernel
theorem dX7_pass_16 : decode cX7_pass 16 = .ok (.invokespecial 75, 3) := by decide +kernel
theorem dX7_pass_19 : decode cX7_pass 19 = .ok (.athrow, 1) := by decide +kernel
theorem dX7_pass_20 : decode cX7_pass 20 = .ok (.aload_n 0, 1) := by decide +kernel
theorem dX7_pass_21 : decode cX7_pass 21 = .ok (.getfield 46, 3) := by decide +kernel
theorem dX7_pass_24 : decode cX7_pass 24 = .ok (.iload_n 1, 1) := by decide +kernel
theorem dX7_pass_25 : decode cX7_pass 25 = .ok (.iadd, 1) := by decide +kernel
theorem dX7_pass_26 : decode cX7_pass 26 = .ok (.ldc 142, 2) := by decide +kernel
theorem dX7_pass_28 : decode cX7_pass 28 = .ok (.if_icmp .lt 11, 3) := by decide +kernel
theorem dX7_pass_31 : decode cX7_pass 31 = .ok (.new 143, 3) := by decide +kernel
theorem dX7_pass_34 : decode cX7_pass 34 = .ok (.dup, 1) := by decide +kernel
theorem dX7_pass_35 : decode cX7_pass 35 = .ok (.invokespecial 145, 3) := by decide +kernel
theorem dX7_pass_38 : decode cX7_pass 38 = .ok (.athrow, 1) := by decide +kernel
theorem dX7_pass_39 : decode cX7_pass 39 = .ok (.aload_n 0, 1) := by decide +kernel
theorem dX7_pass_40 : decode cX7_pass 40 = .ok (.getfield 49, 3) := by decide +kernel
theorem dX7_pass_43 : decode cX7_pass 43 = .ok (.ifCond .eq 15, 3) := by decide +kernel
theorem dX7_pass_46 : decode cX7_pass 46 = .ok (.aload_n 0, 1) := by decide +kernel
theorem dX7_pass_47 : decode cX7_pass 47 = .ok (.dup, 1) := by decide +kernel
theorem dX7_pass_48 : decode cX7_pass 48 = .ok (.getfield 46, 3) := by decide +kernel
theorem dX7_pass_51 : decode cX7_pass 51 = .ok (.iload_n 1, 1) := by decide +kernel
theorem dX7_pass_52 : decode cX7_pass 52 = .ok (.iadd, 1) := by decide +kernel
theorem dX7_pass_53 : decode cX7_pass 53 = .ok (.putfield 46, 3) := by decide +kernel
theorem dX7_pass_56 : decode cX7_pass 56 = .ok (.iconst 0, 1) := by decide +kernel
theorem dX7_pass_57 : decode cX7_pass 57 = .ok (.ireturn, 1) := by decide +kernel
theorem dX7_pass_58 : decode cX7_pass 58 = .ok (.iconst 0, 1) := by decide +kernel
theorem dX7_pass_59 : decode cX7_pass 59 = .ok (.istore_n 2, 1) := by decide +kernel
theorem dX7_pass_60 : decode cX7_pass 60 = .ok (.iconst 0, 1) := by decide +kernel
theorem dX7_pass_61 : decode cX7_pass 61 = .ok (.istore_n 3, 1) := by decide +kernel
theorem dX7_pass_62 : decode cX7_pass 62 = .ok (.iload_n 3, 1) := by decide +kernel
theorem dX7_pass_63 : decode cX7_pass 63 = .ok (.iload_n 1, 1) := by decide +kernel
theorem dX7_pass_64 : decode cX7_pass 64 = .ok (.if_icmp .ge 16, 3) := by decide +kernel
theorem dX7_pass_67 : decode cX7_pass 67 = .ok (.iload_n 2, 1) := by decide +kernel
theorem dX7_pass_68 : decode cX7_pass 68 = .ok (.aload_n 0, 1) := by decide +kernel
theorem dX7_pass_69 : decode cX7_pass 69 = .ok (.invokevirtual 146, 3) := by decide +kernel
theorem dX7_pass_72 : decode cX7_pass 72 = .ok (.iadd, 1) := by decide +kernel
theorem dX7_pass_73 : decode cX7_pass 73 = .ok (.istore_n 2, 1) := by decide +kernel
theorem dX7_pass_74 : decode cX7_pass 74 = .ok (.iinc 3 1, 3) := by decide +kernel
theorem dX7_pass_77 : decode cX7_pass 77 = .ok (.goto (-15), 3) := by decide +kernel
theorem dX7_pass_80 : decode cX7_pass 80 = .ok (.iload_n 2, 1) := by decide +kernel
theorem dX7_pass_81 : decode cX7_pass 81 = .ok (.ireturn, 1) := by decide +kernel
theorem dX7_set_0 : decode cX7_set 0 = .ok (.aload_n 0, 1) := by decide +kernel
theorem dX7_set_1 : decode cX7_set 1 = .ok (.getfield 49, 3) := by decide +kernel
theorem dX7_set_4 : decode cX7_set 4 = .ok (.ifCond .ne 10, 3) := by decide +kernel
theorem dX7_set_7 : decode cX7_set 7 = .ok (.aload_n 0, 1) := by decide +kernel
theorem dX7_set_8 : decode cX7_set 8 = .ok (.invokevirtual 149, 3) := by decide +kernel
theorem dX7_set_11 : decode cX7_set 11 = .ok (.ifCond .eq 11, 3) := by decide +kernel
theorem dX7_set_14 : decode cX7_set 14 = .ok (.new 143, 3) := by decide +kernel
theorem dX7_set_17 : decode cX7_set 17 = .ok (.dup, 1) := by decide +kernel
theorem dX7_set_18 : decode cX7_set 18 = .ok (.invokespecial 145, 3) := by decide +kernel
theorem dX7_set_21 : decode cX7_set 21 = .ok (.athrow, 1) := by decide +kernel
theorem dX7_set_22 : decode cX7_set 22 = .ok (.iload_n 1, 1) := by decide +kernel
theorem dX7_set_23 : decode cX7_set 23 = .ok (.aload_n 0, 1) := by decide +kernel
theorem dX7_set_24 : decode cX7_set 24 = .ok (.getfield 46, 3) := by decide +kernel
theorem dX7_set_27 : decode cX7_set 27 = .ok (.if_icmp .lt 9, 3) := by decide +kernel
theorem dX7_set_30 : decode cX7_set 30 = .ok (.iload_n 1, 1) := by decide +kernel
theorem dX7_set_31 : decode cX7_set 31 = .ok (.ldc 142, 2) := by decide +kernel
theorem dX7_set_33 : decode cX7_set 33 = .ok (.if_icmp .lt 11, 3) := by decide +kernel
theorem dX7_set_36 : decode cX7_set 36 = .ok (.new 73, 3) := by decide +kernel
theorem dX7_set_39 : decode cX7_set 39 = .ok (.dup, 1) := by decide +kernel
theorem dX7_set_40 : decode cX7_set 40 = .ok (.invokespecial 75, 3) := by decide +kernel
theorem dX7_set_43 : decode cX7_set 43 = .ok (.athrow, 1) := by decide +kernel
theorem dX7_set_44 : decode cX7_set 44 = .ok (.aload_n 0, 1) := by decide +kernel
theorem dX7_set_45 : decode cX7_set 45 = .ok (.iload_n 1, 1) := by decide +kernel
theorem dX7_set_46 : decode cX7_set 46 = .ok (.putfield 46, 3) := by decide +kernel
theorem dX7_set_49 : decode cX7_set 49 = .ok (.return_, 1) := by decide +kernel
theorem dX7_end_0 : decode cX7_end 0 = .ok (.aload_n 0, 1) := by decide +kernel
theorem dX7_end_1 : decode cX7_end 1 = .ok (.iload_n 1, 1) := by decide +kernel
theorem dX7_end_2 : decode cX7_end 2 = .ok (.iload_n 2, 1) := by decide +kernel
theorem dX7_end_3 : decode cX7_end 3 = .ok (.invokevirtual 153, 3) := by decide +kernel
theorem dX7_end_6 : decode cX7_end 6 = .ok (.ifCond .ne 11, 3) := by decide +kernel
theorem dX7_end_9 : decode cX7_end 9 = .ok (.new 90, 3) := by decide +kernel
theorem dX7_end_12 : decode cX7_end 12 = .ok (.dup, 1) := by decide +kernel
theorem dX7_end_13 : decode cX7_end 13 = .ok (.invokespecial 92, 3) := by decide +kernel
theorem dX7_end_16 : decode cX7_end 16 = .ok (.athrow, 1) := by decide +kernel
theorem dX7_end_17 : decode cX7_end 17 = .ok (.aload_n 0, 1) := by decide +kernel
theorem dX7_end_18 : decode cX7_end 18 = .ok (.getfield 49, 3) := by decide +kernel
theorem dX7_end_21 : decode cX7_end 21 = .ok (.ifCond .ne 21, 3) := by decide +kernel
theorem dX7_end_24 : decode cX7_end 24 = .ok (.aload_n 0, 1) := by decide +kernel
theorem dX7_end_25 : decode cX7_end 25 = .ok (.getfield 32, 3) := by decide +kernel
theorem dX7_end_28 : decode cX7_end 28 = .ok (.iload_n 1, 1) := by decide +kernel
theorem dX7_end_29 : decode cX7_end 29 = .ok (.aaload, 1) := by decide +kernel
theorem dX7_end_30 : decode cX7_end 30 = .ok (.getfield 157, 3) := by decide +kernel
theorem dX7_end_33 : decode cX7_end 33 = .ok (.iload_n 2, 1) := by decide +kernel
theorem dX7_end_34 : decode cX7_end 34 = .ok (.aaload, 1) := by decide +kernel
theorem dX7_end_35 : decode cX7_end 35 = .ok (.getfield 161, 3) := by decide +kernel
theorem dX7_end_38 : decode cX7_end 38 = .ok (.iconst 3, 1) := by decide +kernel
theorem dX7_end_39 : decode cX7_end 39 = .ok (.if_icmp .eq 11, 3) := by decide +kernel
theorem dX7_end_42 : decode cX7_end 42 = .ok (.new 143, 3) := by decide +kernel
theorem dX7_end_45 : decode cX7_end 45 = .ok (.dup, 1) := by decide +kernel
theorem dX7_end_46 : decode cX7_end 46 = .ok (.invokespecial 145, 3) := by decide +kernel
theorem dX7_end_49 : decode cX7_end 49 = .ok (.athrow, 1) := by decide +kernel
theorem dX7_end_50 : decode cX7_end 50 = .ok (.aload_n 0, 1) := by decide +kernel
theorem dX7_end_51 : decode cX7_end 51 = .ok (.iload_n 1, 1) := by decide +kernel
theorem dX7_end_52 : decode cX7_end 52 = .ok (.iload_n 2, 1) := by decide +kernel
theorem dX7_end_53 : decode cX7_end 53 = .ok (.iload_n 3, 1) := by decide +kernel
theorem dX7_end_54 : decode cX7_end 54 = .ok (.invokevirtual 164, 3) := by decide +kernel
theorem dX7_end_57 : decode cX7_end 57 = .ok (.aload_n 0, 1) := by decide +kernel
theorem dX7_end_58 : decode cX7_end 58 = .ok (.getfield 32, 3) := by decide +kernel
theorem dX7_end_61 : decode cX7_end 61 = .ok (.iload_n 1, 1) := by decide +kernel
theorem dX7_end_62 : decode cX7_end 62 = .ok (.aaload, 1) := by decide +kernel
theorem dX7_end_63 : decode cX7_end 63 = .ok (.getfield 157, 3) := by decide +kernel
theorem dX7_end_66 : decode cX7_end 66 = .ok (.iload_n 2, 1) := by decide +kernel
theorem dX7_end_67 : decode cX7_end 67 = .ok (.aaload, 1) := by decide +kernel
theorem dX7_end_68 : decode cX7_end 68 = .ok (.getfield 161, 3) := by decide +kernel
theorem dX7_end_71 : decode cX7_end 71 = .ok (.ireturn, 1) := by decide +kernel
theorem dX7_down_0 : decode cX7_down 0 = .ok (.iload_n 1, 1) := by decide +kernel
theorem dX7_down_1 : decode cX7_down 1 = .ok (.aload_n 0, 1) := by decide +kernel
theorem dX7_down_2 : decode cX7_down 2 = .ok (.getfield 49, 3) := by decide +kernel
theorem dX7_down_5 : decode cX7_down 5 = .ok (.if_icmp .ne 11, 3) := by decide +kernel
theorem dX7_down_8 : decode cX7_down 8 = .ok (.new 143, 3) := by decide +kernel
theorem dX7_down_11 : decode cX7_down 11 = .ok (.dup, 1) := by decide +kernel
theorem dX7_down_12 : decode cX7_down 12 = .ok (.invokespecial 145, 3) := by decide +kernel
theorem dX7_down_15 : decode cX7_down 15 = .ok (.athrow, 1) := by decide +kernel
theorem dX7_down_16 : decode cX7_down 16 = .ok (.aload_n 0, 1) := by decide +kernel
theorem dX7_down_17 : decode cX7_down 17 = .ok (.iload_n 1, 1) := by decide +kernel
theorem dX7_down_18 : decode cX7_down 18 = .ok (.putfield 49, 3) := by decide +kernel
theorem dX7_down_21 : decode cX7_down 21 = .ok (.iload_n 1, 1) := by decide +kernel
theorem dX7_down_22 : decode cX7_down 22 = .ok (.ifCond .eq 13, 3) := by decide +kernel
theorem dX7_down_25 : decode cX7_down 25 = .ok (.aload_n 0, 1) := by decide +kernel
theorem dX7_down_26 : decode cX7_down 26 = .ok (.aload_n 0, 1) := by decide +kernel
theorem dX7_down_27 : decode cX7_down 27 = .ok (.getfield 46, 3) := by decide +kernel
theorem dX7_down_30 : decode cX7_down 30 = .ok (.putfield 53, 3) := by decide +kernel
theorem dX7_down_33 : decode cX7_down 33 = .ok (.iconst 0, 1) := by decide +kernel
theorem dX7_down_34 : decode cX7_down 34 = .ok (.ireturn, 1) := by decide +kernel
theorem dX7_down_35 : decode cX7_down 35 = .ok (.aload_n 0, 1) := by decide +kernel
theorem dX7_down_36 : decode cX7_down 36 = .ok (.invokevirtual 168, 3) := by decide +kernel
theorem dX7_down_39 : decode cX7_down 39 = .ok (.ireturn, 1) := by decide +kernel
theorem dX7_now_0 : decode cX7_now 0 = .ok (.aload_n 0, 1) := by decide +kernel
theorem dX7_now_1 : decode cX7_now 1 = .ok (.getfield 46, 3) := by decide +kernel
theorem dX7_now_4 : decode cX7_now 4 = .ok (.ireturn, 1) := by decide +kernel
theorem dX7_state_0 : decode cX7_state 0 = .ok (.aload_n 0, 1) := by decide +kernel
theorem dX7_state_1 : decode cX7_state 1 = .ok (.iload_n 1, 1) := by decide +kernel
theorem dX7_state_2 : decode cX7_state 2 = .ok (.iload_n 2, 1) := by decide +kernel
theorem dX7_state_3 : decode cX7_state 3 = .ok (.invokevirtual 153, 3) := by decide +kernel
theorem dX7_state_6 : decode cX7_state 6 = .ok (.ifCond .eq 20, 3) := by decide +kernel
theorem dX7_state_9 : decode cX7_state 9 = .ok (.aload_n 0, 1) := by decide +kernel
theorem dX7_state_10 : decode cX7_state 10 = .ok (.getfield 32, 3) := by decide +kernel
theorem dX7_state_13 : decode cX7_state 13 = .ok (.iload_n 1, 1) := by decide +kernel
theorem dX7_state_14 : decode cX7_state 14 = .ok (.aaload, 1) := by decide +kernel
theorem dX7_state_15 : decode cX7_state 15 = .ok (.getfield 157, 3) := by decide +kernel
theorem dX7_state_18 : decode cX7_state 18 = .ok (.iload_n 2, 1) := by decide +kernel
theorem dX7_state_19 : decode cX7_state 19 = .ok (.aaload, 1) := by decide +kernel
theorem dX7_state_20 : decode cX7_state 20 = .ok (.getfield 161, 3) := by decide +kernel
theorem dX7_state_23 : decode cX7_state 23 = .ok (.goto 4, 3) := by decide +kernel
theorem dX7_state_26 : decode cX7_state 26 = .ok (.iconst (-1), 1) := by decide +kernel
theorem dX7_state_27 : decode cX7_state 27 = .ok (.ireturn, 1) := by decide +kernel
theorem dX7_count_0 : decode cX7_count 0 = .ok (.iload_n 2, 1) := by decide +kernel
theorem dX7_count_1 : decode cX7_count 1 = .ok (.iconst 4, 1) := by decide +kernel
theorem dX7_count_2 : decode cX7_count 2 = .ok (.if_icmp .ne 8, 3) := by decide +kernel
theorem dX7_count_5 : decode cX7_count 5 = .ok (.aload_n 0, 1) := by decide +kernel
theorem dX7_count_6 : decode cX7_count 6 = .ok (.invokevirtual 171, 3) := by decide +kernel
theorem dX7_count_9 : decode cX7_count 9 = .ok (.ireturn, 1) := by decide +kernel
theorem dX7_count_10 : decode cX7_count 10 = .ok (.aload_n 0, 1) := by decide +kernel
theorem dX7_count_11 : decode cX7_count 11 = .ok (.iload_n 1, 1) := by decide +kernel
theorem dX7_count_12 : decode cX7_count 12 = .ok (.invokevirtual 86, 3) := by decide +kernel
theorem dX7_count_15 : decode cX7_count 15 = .ok (.ifCond .ne 5, 3) := by decide +kernel
theorem dX7_count_18 : decode cX7_count 18 = .ok (.iconst (-1), 1) := by decide +kernel
theorem dX7_count_19 : decode cX7_count 19 = .ok (.ireturn, 1) := by decide +kernel
theorem dX7_count_20 : decode cX7_count 20 = .ok (.iload_n 2, 1) := by decide +kernel
theorem dX7_count_21 : decode cX7_count 21 = .ok (.tableswitch 79 0 3 #[31, 41, 51, 69], 31) := by decide +kernel
theorem dX7_count_52 : decode cX7_count 52 = .ok (.aload_n 0, 1) := by decide +kernel
theorem dX7_count_53 : decode cX7_count 53 = .ok (.getfield 32, 3) := by decide +kernel
theorem dX7_count_56 : decode cX7_count 56 = .ok (.iload_n 1, 1) := by decide +kernel
theorem dX7_count_57 : decode cX7_count 57 = .ok (.aaload, 1) := by decide +kernel
theorem dX7_count_58 : decode cX7_count 58 = .ok (.getfield 174, 3) := by decide +kernel
theorem dX7_count_61 : decode cX7_count 61 = .ok (.ireturn, 1) := by decide +kernel
theorem dX7_count_62 : decode cX7_count 62 = .ok (.aload_n 0, 1) := by decide +kernel
theorem dX7_count_63 : decode cX7_count 63 = .ok (.getfield 32, 3) := by decide +kernel
theorem dX7_count_66 : decode cX7_count 66 = .ok (.iload_n 1, 1) := by decide +kernel
theorem dX7_count_67 : decode cX7_count 67 = .ok (.aaload, 1) := by decide +kernel
theorem dX7_count_68 : decode cX7_count 68 = .ok (.getfield 177, 3) := by decide +kernel
theorem dX7_count_71 : decode cX7_count 71 = .ok (.ireturn, 1) := by decide +kernel
theorem dX7_count_72 : decode cX7_count 72 = .ok (.aload_n 0, 1) := by decide +kernel
theorem dX7_count_73 : decode cX7_count 73 = .ok (.getfield 32, 3) := by decide +kernel
theorem dX7_count_76 : decode cX7_count 76 = .ok (.iload_n 1, 1) := by decide +kernel
theorem dX7_count_77 : decode cX7_count 77 = .ok (.aaload, 1) := by decide +kernel
theorem dX7_count_78 : decode cX7_count 78 = .ok (.getfield 96, 3) := by decide +kernel
theorem dX7_count_81 : decode cX7_count 81 = .ok (.ifCond .eq 7, 3) := by decide +kernel
theorem dX7_count_84 : decode cX7_count 84 = .ok (.iconst 1, 1) := by decide +kernel
theorem dX7_count_85 : decode cX7_count 85 = .ok (.goto 4, 3) := by decide +kernel
theorem dX7_count_88 : decode cX7_count 88 = .ok (.iconst 0, 1) := by decide +kernel
theorem dX7_count_89 : decode cX7_count 89 = .ok (.ireturn, 1) := by decide +kernel
theorem dX7_count_90 : decode cX7_count 90 = .ok (.aload_n 0, 1) := by decide +kernel
theorem dX7_count_91 : decode cX7_count 91 = .ok (.getfield 32, 3) := by decide +kernel
theorem dX7_count_94 : decode cX7_count 94 = .ok (.iload_n 1, 1) := by decide +kernel
theorem dX7_count_95 : decode cX7_count 95 = .ok (.aaload, 1) := by decide +kernel
theorem dX7_count_96 : decode cX7_count 96 = .ok (.getfield 93, 3) := by decide +kernel
theorem dX7_count_99 : decode cX7_count 99 = .ok (.ireturn, 1) := by decide +kernel
theorem dX7_count_100 : decode cX7_count 100 = .ok (.iconst (-1), 1) := by decide +kernel
theorem dX7_count_101 : decode cX7_count 101 = .ok (.ireturn, 1) := by decide +kernel
theorem dX7_entries_0 : decode cX7_entries 0 = .ok (.aload_n 0, 1) := by decide +kernel
theorem dX7_entries_1 : decode cX7_entries 1 = .ok (.getfield 26, 3) := by decide +kernel
theorem dX7_entries_4 : decode cX7_entries 4 = .ok (.getfield 180, 3) := by decide +kernel
theorem dX7_entries_7 : decode cX7_entries 7 = .ok (.ireturn, 1) := by decide +kernel
theorem dX7_entry_0 : decode cX7_entry 0 = .ok (.aload_n 0, 1) := by decide +kernel
theorem dX7_entry_1 : decode cX7_entry 1 = .ok (.getfield 26, 3) := by decide +kernel
theorem dX7_entry_4 : decode cX7_entry 4 = .ok (.iload_n 1, 1) := by decide +kernel
theorem dX7_entry_5 : decode cX7_entry 5 = .ok (.invokevirtual 183, 3) := by decide +kernel
theorem dX7_entry_8 : decode cX7_entry 8 = .ok (.ifCond .eq 12, 3) := by decide +kernel
theorem dX7_entry_11 : decode cX7_entry 11 = .ok (.iload_n 2, 1) := by decide +kernel
theorem dX7_entry_12 : decode cX7_entry 12 = .ok (.ifCond .lt 8, 3) := by decide +kernel
theorem dX7_entry_15 : decode cX7_entry 15 = .ok (.iload_n 2, 1) := by decide +kernel
theorem dX7_entry_16 : decode cX7_entry 16 = .ok (.iconst 4, 1) := by decide +kernel
theorem dX7_entry_17 : decode cX7_entry 17 = .ok (.if_icmp .lt 11, 3) := by decide +kernel
theorem dX7_entry_20 : decode cX7_entry 20 = .ok (.new 90, 3) := by decide +kernel
theorem dX7_entry_23 : decode cX7_entry 23 = .ok (.dup, 1) := by decide +kernel
theorem dX7_entry_24 : decode cX7_entry 24 = .ok (.invokespecial 92, 3) := by decide +kernel
theorem dX7_entry_27 : decode cX7_entry 27 = .ok (.athrow, 1) := by decide +kernel
theorem dX7_entry_28 : decode cX7_entry 28 = .ok (.aload_n 0, 1) := by decide +kernel
theorem dX7_entry_29 : decode cX7_entry 29 = .ok (.getfield 26, 3) := by decide +kernel
theorem dX7_entry_32 : decode cX7_entry 32 = .ok (.iload_n 1, 1) := by decide +kernel
theorem dX7_entry_33 : decode cX7_entry 33 = .ok (.iload_n 2, 1) := by decide +kernel
theorem dX7_entry_34 : decode cX7_entry 34 = .ok (.invokevirtual 186, 3) := by decide +kernel
theorem dX7_entry_37 : decode cX7_entry 37 = .ok (.ireturn, 1) := by decide +kernel
theorem dX7_isJob_0 : decode cX7_isJob 0 = .ok (.iload_n 1, 1) := by decide +kernel
theorem dX7_isJob_1 : decode cX7_isJob 1 = .ok (.ifCond .lt 15, 3) := by decide +kernel
theorem dX7_isJob_4 : decode cX7_isJob 4 = .ok (.iload_n 1, 1) := by decide +kernel
theorem dX7_isJob_5 : decode cX7_isJob 5 = .ok (.aload_n 0, 1) := by decide +kernel
theorem dX7_isJob_6 : decode cX7_isJob 6 = .ok (.getfield 36, 3) := by decide +kernel
theorem dX7_isJob_9 : decode cX7_isJob 9 = .ok (.if_icmp .ge 7, 3) := by decide +kernel
theorem dX7_isJob_12 : decode cX7_isJob 12 = .ok (.iconst 1, 1) := by decide +kernel
theorem dX7_isJob_13 : decode cX7_isJob 13 = .ok (.goto 4, 3) := by decide +kernel
theorem dX7_isJob_16 : decode cX7_isJob 16 = .ok (.iconst 0, 1) := by decide +kernel
theorem dX7_isJob_17 : decode cX7_isJob 17 = .ok (.ireturn, 1) := by decide +kernel
theorem dX7_isTask_0 : decode cX7_isTask 0 = .ok (.aload_n 0, 1) := by decide +kernel
theorem dX7_isTask_1 : decode cX7_isTask 1 = .ok (.iload_n 1, 1) := by decide +kernel
theorem dX7_isTask_2 : decode cX7_isTask 2 = .ok (.invokevirtual 86, 3) := by decide +kernel
theorem dX7_isTask_5 : decode cX7_isTask 5 = .ok (.ifCond .eq 24, 3) := by decide +kernel
theorem dX7_isTask_8 : decode cX7_isTask 8 = .ok (.iload_n 2, 1) := by decide +kernel
theorem dX7_isTask_9 : decode cX7_isTask 9 = .ok (.ifCond .lt 20, 3) := by decide +kernel
theorem dX7_isTask_12 : decode cX7_isTask 12 = .ok (.iload_n 2, 1) := by decide +kernel
theorem dX7_isTask_13 : decode cX7_isTask 13 = .ok (.aload_n 0, 1) := by decide +kernel
theorem dX7_isTask_14 : decode cX7_isTask 14 = .ok (.getfield 32, 3) := by decide +kernel
theorem dX7_isTask_17 : decode cX7_isTask 17 = .ok (.iload_n 1, 1) := by decide +kernel
theorem dX7_isTask_18 : decode cX7_isTask 18 = .ok (.aaload, 1) := by decide +kernel
theorem dX7_isTask_19 : decode cX7_isTask 19 = .ok (.getfield 93, 3) := by decide +kernel
theorem dX7_isTask_22 : decode cX7_isTask 22 = .ok (.if_icmp .ge 7, 3) := by decide +kernel
theorem dX7_isTask_25 : decode cX7_isTask 25 = .ok (.iconst 1, 1) := by decide +kernel
theorem dX7_isTask_26 : decode cX7_isTask 26 = .ok (.goto 4, 3) := by decide +kernel
theorem dX7_isTask_29 : decode cX7_isTask 29 = .ok (.iconst 0, 1) := by decide +kernel
theorem dX7_isTask_30 : decode cX7_isTask 30 = .ok (.ireturn, 1) := by decide +kernel
theorem dX7_isMinute_0 : decode cX7_isMinute 0 = .ok (.iload_n 0, 1) := by decide +kernel
theorem dX7_isMinute_1 : decode cX7_isMinute 1 = .ok (.ifCond .lt 13, 3) := by decide +kernel
theorem dX7_isMinute_4 : decode cX7_isMinute 4 = .ok (.iload_n 0, 1) := by decide +kernel
theorem dX7_isMinute_5 : decode cX7_isMinute 5 = .ok (.ldc 142, 2) := by decide +kernel
theorem dX7_isMinute_7 : decode cX7_isMinute 7 = .ok (.if_icmp .ge 7, 3) := by decide +kernel
theorem dX7_isMinute_10 : decode cX7_isMinute 10 = .ok (.iconst 1, 1) := by decide +kernel
theorem dX7_isMinute_11 : decode cX7_isMinute 11 = .ok (.goto 4, 3) := by decide +kernel
theorem dX7_isMinute_14 : decode cX7_isMinute 14 = .ok (.iconst 0, 1) := by decide +kernel
theorem dX7_isMinute_15 : decode cX7_isMinute 15 = .ok (.ireturn, 1) := by decide +kernel
theorem dX7_isAnyRunUnderWay_0 : decode cX7_isAnyRunUnderWay 0 = .ok (.iconst 0, 1) := by decide +kernel
theorem dX7_isAnyRunUnderWay_1 : decode cX7_isAnyRunUnderWay 1 = .ok (.istore_n 1, 1) := by decide +kernel
theorem dX7_isAnyRunUnderWay_2 : decode cX7_isAnyRunUnderWay 2 = .ok (.iload_n 1, 1) := by decide +kernel
theorem dX7_isAnyRunUnderWay_3 : decode cX7_isAnyRunUnderWay 3 = .ok (.aload_n 0, 1) := by decide +kernel
theorem dX7_isAnyRunUnderWay_4 : decode cX7_isAnyRunUnderWay 4 = .ok (.getfield 36, 3) := by decide +kernel
theorem dX7_isAnyRunUnderWay_7 : decode cX7_isAnyRunUnderWay 7 = .ok (.if_icmp .ge 23, 3) := by decide +kernel
theorem dX7_isAnyRunUnderWay_10 : decode cX7_isAnyRunUnderWay 10 = .ok (.aload_n 0, 1) := by decide +kernel
theorem dX7_isAnyRunUnderWay_11 : decode cX7_isAnyRunUnderWay 11 = .ok (.getfield 32, 3) := by decide +kernel
theorem dX7_isAnyRunUnderWay_14 : decode cX7_isAnyRunUnderWay 14 = .ok (.iload_n 1, 1) := by decide +kernel
theorem dX7_isAnyRunUnderWay_15 : decode cX7_isAnyRunUnderWay 15 = .ok (.aaload, 1) := by decide +kernel
theorem dX7_isAnyRunUnderWay_16 : decode cX7_isAnyRunUnderWay 16 = .ok (.getfield 96, 3) := by decide +kernel
theorem dX7_isAnyRunUnderWay_19 : decode cX7_isAnyRunUnderWay 19 = .ok (.ifCond .eq 5, 3) := by decide +kernel
theorem dX7_isAnyRunUnderWay_22 : decode cX7_isAnyRunUnderWay 22 = .ok (.iconst 1, 1) := by decide +kernel
theorem dX7_isAnyRunUnderWay_23 : decode cX7_isAnyRunUnderWay 23 = .ok (.ireturn, 1) := by decide +kernel
theorem dX7_isAnyRunUnderWay_24 : decode cX7_isAnyRunUnderWay 24 = .ok (.iinc 1 1, 3) := by decide +kernel
theorem dX7_isAnyRunUnderWay_27 : decode cX7_isAnyRunUnderWay 27 = .ok (.goto (-25), 3) := by decide +kernel
theorem dX7_isAnyRunUnderWay_30 : decode cX7_isAnyRunUnderWay 30 = .ok (.iconst 0, 1) := by decide +kernel
theorem dX7_isAnyRunUnderWay_31 : decode cX7_isAnyRunUnderWay 31 = .ok (.ireturn, 1) := by decide +kernel
theorem dX7_countRunning_0 : decode cX7_countRunning 0 = .ok (.iconst 0, 1) := by decide +kernel
theorem dX7_countRunning_1 : decode cX7_countRunning 1 = .ok (.istore_n 1, 1) := by decide +kernel
theorem dX7_countRunning_2 : decode cX7_countRunning 2 = .ok (.iconst 0, 1) := by decide +kernel
theorem dX7_countRunning_3 : decode cX7_countRunning 3 = .ok (.istore_n 2, 1) := by decide +kernel
theorem dX7_countRunning_4 : decode cX7_countRunning 4 = .ok (.iload_n 2, 1) := by decide +kernel
theorem dX7_countRunning_5 : decode cX7_countRunning 5 = .ok (.aload_n 0, 1) := by decide +kernel
theorem dX7_countRunning_6 : decode cX7_countRunning 6 = .ok (.getfield 36, 3) := by decide +kernel
theorem dX7_countRunning_9 : decode cX7_countRunning 9 = .ok (.if_icmp .ge 21, 3) := by decide +kernel
theorem dX7_countRunning_12 : decode cX7_countRunning 12 = .ok (.iload_n 1, 1) := by decide +kernel
theorem dX7_countRunning_13 : decode cX7_countRunning 13 = .ok (.aload_n 0, 1) := by decide +kernel
theorem dX7_countRunning_14 : decode cX7_countRunning 14 = .ok (.getfield 32, 3) := by decide +kernel
theorem dX7_countRunning_17 : decode cX7_countRunning 17 = .ok (.iload_n 2, 1) := by decide +kernel
theorem dX7_countRunning_18 : decode cX7_countRunning 18 = .ok (.aaload, 1) := by decide +kernel
theorem dX7_countRunning_19 : decode cX7_countRunning 19 = .ok (.invokevirtual 189, 3) := by decide +kernel
theorem dX7_countRunning_22 : decode cX7_countRunning 22 = .ok (.iadd, 1) := by decide +kernel
theorem dX7_countRunning_23 : decode cX7_countRunning 23 = .ok (.istore_n 1, 1) := by decide +kernel
theorem dX7_countRunning_24 : decode cX7_countRunning 24 = .ok (.iinc 2 1, 3) := by decide +kernel
theorem dX7_countRunning_27 : decode cX7_countRunning 27 = .ok (.goto (-23), 3) := by decide +kernel
theorem dX7_countRunning_30 : decode cX7_countRunning 30 = .ok (.iload_n 1, 1) := by decide +kernel
theorem dX7_countRunning_31 : decode cX7_countRunning 31 = .ok (.ireturn, 1) := by decide +kernel
theorem dX7_holdsAt_0 : decode cX7_holdsAt 0 = .ok (.aload_n 1, 1) := by decide +kernel
theorem dX7_holdsAt_1 : decode cX7_holdsAt 1 = .ok (.iload_n 2, 1) := by decide +kernel
theorem dX7_holdsAt_2 : decode cX7_holdsAt 2 = .ok (.sipush 1440, 3) := by decide +kernel
theorem dX7_holdsAt_5 : decode cX7_holdsAt 5 = .ok (.irem, 1) := by decide +kernel
theorem dX7_holdsAt_6 : decode cX7_holdsAt 6 = .ok (.invokevirtual 190, 3) := by decide +kernel
theorem dX7_holdsAt_9 : decode cX7_holdsAt 9 = .ok (.ifCond .ne 5, 3) := by decide +kernel
theorem dX7_holdsAt_12 : decode cX7_holdsAt 12 = .ok (.iconst 0, 1) := by decide +kernel
theorem dX7_holdsAt_13 : decode cX7_holdsAt 13 = .ok (.ireturn, 1) := by decide +kernel
theorem dX7_holdsAt_14 : decode cX7_holdsAt 14 = .ok (.aload_n 0, 1) := by decide +kernel
theorem dX7_holdsAt_15 : decode cX7_holdsAt 15 = .ok (.getfield 19, 3) := by decide +kernel
theorem dX7_holdsAt_18 : decode cX7_holdsAt 18 = .ok (.iload_n 2, 1) := by decide +kernel
theorem dX7_holdsAt_19 : decode cX7_holdsAt 19 = .ok (.sipush 1440, 3) := by decide +kernel
theorem dX7_holdsAt_22 : decode cX7_holdsAt 22 = .ok (.idiv, 1) := by decide +kernel
theorem dX7_holdsAt_23 : decode cX7_holdsAt 23 = .ok (.invokevirtual 126, 3) := by decide +kernel
theorem dX7_holdsAt_26 : decode cX7_holdsAt 26 = .ok (.aload_n 1, 1) := by decide +kernel
theorem dX7_holdsAt_27 : decode cX7_holdsAt 27 = .ok (.aload_n 0, 1) := by decide +kernel
theorem dX7_holdsAt_28 : decode cX7_holdsAt 28 = .ok (.getfield 19, 3) := by decide +kernel
theorem dX7_holdsAt_31 : decode cX7_holdsAt 31 = .ok (.invokevirtual 195, 3) := by decide +kernel
theorem dX7_holdsAt_34 : decode cX7_holdsAt 34 = .ok (.ireturn, 1) := by decide +kernel
theorem dX7_firstBehind_0 : decode cX7_firstBehind 0 = .ok (.iload_n 2, 1) := by decide +kernel
theorem dX7_firstBehind_1 : decode cX7_firstBehind 1 = .ok (.iconst 1, 1) := by decide +kernel
theorem dX7_firstBehind_2 : decode cX7_firstBehind 2 = .ok (.iadd, 1) := by decide +kernel
theorem dX7_firstBehind_3 : decode cX7_firstBehind 3 = .ok (.istore 4, 2) := by decide +kernel
theorem dX7_firstBehind_5 : decode cX7_firstBehind 5 = .ok (.iload 4, 2) := by decide +kernel
theorem dX7_firstBehind_7 : decode cX7_firstBehind 7 = .ok (.sipush 1440, 3) := by decide +kernel
theorem dX7_firstBehind_10 : decode cX7_firstBehind 10 = .ok (.irem, 1) := by decide +kernel
theorem dX7_firstBehind_11 : decode cX7_firstBehind 11 = .ok (.istore 5, 2) := by decide +kernel
theorem dX7_firstBehind_13 : decode cX7_firstBehind 13 = .ok (.iload 4, 2) := by decide +kernel
theorem dX7_firstBehind_15 : decode cX7_firstBehind 15 = .ok (.sipush 1440, 3) := by decide +kernel
theorem dX7_firstBehind_18 : decode cX7_firstBehind 18 = .ok (.idiv, 1) := by decide +kernel
theorem dX7_firstBehind_19 : decode cX7_firstBehind 19 = .ok (.istore 6, 2) := by decide +kernel
theorem dX7_firstBehind_21 : decode cX7_firstBehind 21 = .ok (.iload 6, 2) := by decide +kernel
theorem dX7_firstBehind_23 : decode cX7_firstBehind 23 = .ok (.iload_n 3, 1) := by decide +kernel
theorem dX7_firstBehind_24 : decode cX7_firstBehind 24 = .ok (.sipush 1440, 3) := by decide +kernel
theorem dX7_firstBehind_27 : decode cX7_firstBehind 27 = .ok (.idiv, 1) := by decide +kernel
theorem dX7_firstBehind_28 : decode cX7_firstBehind 28 = .ok (.if_icmp .gt 74, 3) := by decide +kernel
theorem dX7_firstBehind_31 : decode cX7_firstBehind 31 = .ok (.aload_n 0, 1) := by decide +kernel
theorem dX7_firstBehind_32 : decode cX7_firstBehind 32 = .ok (.getfield 19, 3) := by decide +kernel
theorem dX7_firstBehind_35 : decode cX7_firstBehind 35 = .ok (.iload 6, 2) := by decide +kernel
theorem dX7_firstBehind_37 : decode cX7_firstBehind 37 = .ok (.invokevirtual 126, 3) := by decide +kernel
theorem dX7_firstBehind_40 : decode cX7_firstBehind 40 = .ok (.aload_n 1, 1) := by decide +kernel
theorem dX7_firstBehind_41 : decode cX7_firstBehind 41 = .ok (.aload_n 0, 1) := by decide +kernel
theorem dX7_firstBehind_42 : decode cX7_firstBehind 42 = .ok (.getfield 19, 3) := by decide +kernel
theorem dX7_firstBehind_45 : decode cX7_firstBehind 45 = .ok (.invokevirtual 195, 3) := by decide +kernel
theorem dX7_firstBehind_48 : decode cX7_firstBehind 48 = .ok (.ifCond .eq 12, 3) := by decide +kernel
theorem dX7_firstBehind_51 : decode cX7_firstBehind 51 = .ok (.aload_n 1, 1) := by decide +kernel
theorem dX7_firstBehind_52 : decode cX7_firstBehind 52 = .ok (.iload 5, 2) := by decide +kernel
theorem dX7_firstBehind_54 : decode cX7_firstBehind 54 = .ok (.invokevirtual 199, 3) := by decide +kernel
theorem dX7_firstBehind_57 : decode cX7_firstBehind 57 = .ok (.goto 4, 3) := by decide +kernel
theorem dX7_firstBehind_60 : decode cX7_firstBehind 60 = .ok (.iconst (-1), 1) := by decide +kernel
theorem dX7_firstBehind_61 : decode cX7_firstBehind 61 = .ok (.istore 7, 2) := by decide +kernel
theorem dX7_firstBehind_63 : decode cX7_firstBehind 63 = .ok (.iload 7, 2) := by decide +kernel
theorem dX7_firstBehind_65 : decode cX7_firstBehind 65 = .ok (.iconst (-1), 1) := by decide +kernel
theorem dX7_firstBehind_66 : decode cX7_firstBehind 66 = .ok (.if_icmp .eq 27, 3) := by decide +kernel
theorem dX7_firstBehind_69 : decode cX7_firstBehind 69 = .ok (.iload 6, 2) := by decide +kernel
theorem dX7_firstBehind_71 : decode cX7_firstBehind 71 = .ok (.sipush 1440, 3) := by decide +kernel
theorem dX7_firstBehind_74 : decode cX7_firstBehind 74 = .ok (.imul, 1) := by decide +kernel
theorem dX7_firstBehind_75 : decode cX7_firstBehind 75 = .ok (.iload 7, 2) := by decide +kernel
theorem dX7_firstBehind_77 : decode cX7_firstBehind 77 = .ok (.iadd, 1) := by decide +kernel
theorem dX7_firstBehind_78 : decode cX7_firstBehind 78 = .ok (.istore 8, 2) := by decide +kernel
theorem dX7_firstBehind_80 : decode cX7_firstBehind 80 = .ok (.iload 8, 2) := by decide +kernel
theorem dX7_firstBehind_82 : decode cX7_firstBehind 82 = .ok (.iload_n 3, 1) := by decide +kernel
theorem dX7_firstBehind_83 : decode cX7_firstBehind 83 = .ok (.if_icmp .gt 8, 3) := by decide +kernel
theorem dX7_firstBehind_86 : decode cX7_firstBehind 86 = .ok (.iload 8, 2) := by decide +kernel
theorem dX7_firstBehind_88 : decode cX7_firstBehind 88 = .ok (.goto 4, 3) := by decide +kernel
theorem dX7_firstBehind_91 : decode cX7_firstBehind 91 = .ok (.iconst (-1), 1) := by decide +kernel
theorem dX7_firstBehind_92 : decode cX7_firstBehind 92 = .ok (.ireturn, 1) := by decide +kernel
theorem dX7_firstBehind_93 : decode cX7_firstBehind 93 = .ok (.iconst 0, 1) := by decide +kernel
theorem dX7_firstBehind_94 : decode cX7_firstBehind 94 = .ok (.istore 5, 2) := by decide +kernel
theorem dX7_firstBehind_96 : decode cX7_firstBehind 96 = .ok (.iinc 6 1, 3) := by decide +kernel
theorem dX7_firstBehind_99 : decode cX7_firstBehind 99 = .ok (.goto (-78), 3) := by decide +kernel
theorem dX7_firstBehind_102 : decode cX7_firstBehind 102 = .ok (.iconst (-1), 1) := by decide +kernel
theorem dX7_firstBehind_103 : decode cX7_firstBehind 103 = .ok (.ireturn, 1) := by decide +kernel
theorem dX7_makeStep_0 : decode cX7_makeStep 0 = .ok (.aload_n 0, 1) := by decide +kernel
theorem dX7_makeStep_1 : decode cX7_makeStep 1 = .ok (.dup, 1) := by decide +kernel
theorem dX7_makeStep_2 : decode cX7_makeStep 2 = .ok (.getfield 46, 3) := by decide +kernel
theorem dX7_makeStep_5 : decode cX7_makeStep 5 = .ok (.iconst 1, 1) := by decide +kernel
theorem dX7_makeStep_6 : decode cX7_makeStep 6 = .ok (.iadd, 1) := by decide +kernel
theorem dX7_makeStep_7 : decode cX7_makeStep 7 = .ok (.putfield 46, 3) := by decide +kernel
theorem dX7_makeStep_10 : decode cX7_makeStep 10 = .ok (.iconst 0, 1) := by decide +kernel
theorem dX7_makeStep_11 : decode cX7_makeStep 11 = .ok (.istore_n 1, 1) := by decide +kernel
theorem dX7_makeStep_12 : decode cX7_makeStep 12 = .ok (.iload_n 1, 1) := by decide +kernel
theorem dX7_makeStep_13 : decode cX7_makeStep 13 = .ok (.aload_n 0, 1) := by decide +kernel
theorem dX7_makeStep_14 : decode cX7_makeStep 14 = .ok (.getfield 36, 3) := by decide +kernel
theorem dX7_makeStep_17 : decode cX7_makeStep 17 = .ok (.if_icmp .ge 34, 3) := by decide +kernel
theorem dX7_makeStep_20 : decode cX7_makeStep 20 = .ok (.aload_n 0, 1) := by decide +kernel
theorem dX7_makeStep_21 : decode cX7_makeStep 21 = .ok (.aload_n 0, 1) := by decide +kernel
theorem dX7_makeStep_22 : decode cX7_makeStep 22 = .ok (.getfield 32, 3) := by decide +kernel
theorem dX7_makeStep_25 : decode cX7_makeStep 25 = .ok (.iload_n 1, 1) := by decide +kernel
theorem dX7_makeStep_26 : decode cX7_makeStep 26 = .ok (.aaload, 1) := by decide +kernel
theorem dX7_makeStep_27 : decode cX7_makeStep 27 = .ok (.getfield 114, 3) := by decide +kernel
theorem dX7_makeStep_30 : decode cX7_makeStep 30 = .ok (.aload_n 0, 1) := by decide +kernel
theorem dX7_makeStep_31 : decode cX7_makeStep 31 = .ok (.getfield 46, 3) := by decide +kernel
theorem dX7_makeStep_34 : decode cX7_makeStep 34 = .ok (.invokevirtual 117, 3) := by decide +kernel
theorem dX7_makeStep_37 : decode cX7_makeStep 37 = .ok (.ifCond .eq 8, 3) := by decide +kernel
theorem dX7_makeStep_40 : decode cX7_makeStep 40 = .ok (.aload_n 0, 1) := by decide +kernel
theorem dX7_makeStep_41 : decode cX7_makeStep 41 = .ok (.iload_n 1, 1) := by decide +kernel
theorem dX7_makeStep_42 : decode cX7_makeStep 42 = .ok (.invokevirtual 203, 3) := by decide +kernel
theorem dX7_makeStep_45 : decode cX7_makeStep 45 = .ok (.iinc 1 1, 3) := by decide +kernel
theorem dX7_makeStep_48 : decode cX7_makeStep 48 = .ok (.goto (-36), 3) := by decide +kernel
theorem dX7_makeStep_51 : decode cX7_makeStep 51 = .ok (.aload_n 0, 1) := by decide +kernel
theorem dX7_makeStep_52 : decode cX7_makeStep 52 = .ok (.invokevirtual 206, 3) := by decide +kernel
theorem dX7_makeStep_55 : decode cX7_makeStep 55 = .ok (.ireturn, 1) := by decide +kernel
theorem dX7_catchUp_0 : decode cX7_catchUp 0 = .ok (.iconst 0, 1) := by decide +kernel
theorem dX7_catchUp_1 : decode cX7_catchUp 1 = .ok (.istore_n 1, 1) := by decide +kernel
theorem dX7_catchUp_2 : decode cX7_catchUp 2 = .ok (.iload_n 1, 1) := by decide +kernel
theorem dX7_catchUp_3 : decode cX7_catchUp 3 = .ok (.aload_n 0, 1) := by decide +kernel
theorem dX7_catchUp_4 : decode cX7_catchUp 4 = .ok (.getfield 36, 3) := by decide +kernel
theorem dX7_catchUp_7 : decode cX7_catchUp 7 = .ok (.if_icmp .ge 55, 3) := by decide +kernel
theorem dX7_catchUp_10 : decode cX7_catchUp 10 = .ok (.iconst 0, 1) := by decide +kernel
theorem dX7_catchUp_11 : decode cX7_catchUp 11 = .ok (.istore_n 2, 1) := by decide +kernel
theorem dX7_catchUp_12 : decode cX7_catchUp 12 = .ok (.iload_n 2, 1) := by decide +kernel
theorem dX7_catchUp_13 : decode cX7_catchUp 13 = .ok (.aload_n 0, 1) := by decide +kernel
theorem dX7_catchUp_14 : decode cX7_catchUp 14 = .ok (.getfield 32, 3) := by decide +kernel
theorem dX7_catchUp_17 : decode cX7_catchUp 17 = .ok (.iload_n 1, 1) := by decide +kernel
theorem dX7_catchUp_18 : decode cX7_catchUp 18 = .ok (.aaload, 1) := by decide +kernel
theorem dX7_catchUp_19 : decode cX7_catchUp 19 = .ok (.getfield 93, 3) := by decide +kernel
theorem dX7_catchUp_22 : decode cX7_catchUp 22 = .ok (.if_icmp .ge 34, 3) := by decide +kernel
theorem dX7_catchUp_25 : decode cX7_catchUp 25 = .ok (.aload_n 0, 1) := by decide +kernel
theorem dX7_catchUp_26 : decode cX7_catchUp 26 = .ok (.getfield 32, 3) := by decide +kernel
theorem dX7_catchUp_29 : decode cX7_catchUp 29 = .ok (.iload_n 1, 1) := by decide +kernel
theorem dX7_catchUp_30 : decode cX7_catchUp 30 = .ok (.aaload, 1) := by decide +kernel
theorem dX7_catchUp_31 : decode cX7_catchUp 31 = .ok (.getfield 157, 3) := by decide +kernel
theorem dX7_catchUp_34 : decode cX7_catchUp 34 = .ok (.iload_n 2, 1) := by decide +kernel
theorem dX7_catchUp_35 : decode cX7_catchUp 35 = .ok (.aaload, 1) := by decide +kernel
theorem dX7_catchUp_36 : decode cX7_catchUp 36 = .ok (.getfield 161, 3) := by decide +kernel
theorem dX7_catchUp_39 : decode cX7_catchUp 39 = .ok (.iconst 3, 1) := by decide +kernel
theorem dX7_catchUp_40 : decode cX7_catchUp 40 = .ok (.if_icmp .ne 10, 3) := by decide +kernel
theorem dX7_catchUp_43 : decode cX7_catchUp 43 = .ok (.aload_n 0, 1) := by decide +kernel
theorem dX7_catchUp_44 : decode cX7_catchUp 44 = .ok (.iload_n 1, 1) := by decide +kernel
theorem dX7_catchUp_45 : decode cX7_catchUp 45 = .ok (.iload_n 2, 1) := by decide +kernel
theorem dX7_catchUp_46 : decode cX7_catchUp 46 = .ok (.iconst 0, 1) := by decide +kernel
theorem dX7_catchUp_47 : decode cX7_catchUp 47 = .ok (.invokevirtual 164, 3) := by decide +kernel
theorem dX7_catchUp_50 : decode cX7_catchUp 50 = .ok (.iinc 2 1, 3) := by decide +kernel
theorem dX7_catchUp_53 : decode cX7_catchUp 53 = .ok (.goto (-41), 3) := by decide +kernel
theorem dX7_catchUp_56 : decode cX7_catchUp 56 = .ok (.iinc 1 1, 3) := by decide +kernel
theorem dX7_catchUp_59 : decode cX7_catchUp 59 = .ok (.goto (-57), 3) := by decide +kernel
theorem dX7_catchUp_62 : decode cX7_catchUp 62 = .ok (.iconst 0, 1) := by decide +kernel
theorem dX7_catchUp_63 : decode cX7_catchUp 63 = .ok (.istore_n 1, 1) := by decide +kernel
theorem dX7_catchUp_64 : decode cX7_catchUp 64 = .ok (.iload_n 1, 1) := by decide +kernel
theorem dX7_catchUp_65 : decode cX7_catchUp 65 = .ok (.aload_n 0, 1) := by decide +kernel
theorem dX7_catchUp_66 : decode cX7_catchUp 66 = .ok (.getfield 36, 3) := by decide +kernel
theorem dX7_catchUp_69 : decode cX7_catchUp 69 = .ok (.if_icmp .ge 39, 3) := by decide +kernel
theorem dX7_catchUp_72 : decode cX7_catchUp 72 = .ok (.aload_n 0, 1) := by decide +kernel
theorem dX7_catchUp_73 : decode cX7_catchUp 73 = .ok (.aload_n 0, 1) := by decide +kernel
theorem dX7_catchUp_74 : decode cX7_catchUp 74 = .ok (.getfield 32, 3) := by decide +kernel
theorem dX7_catchUp_77 : decode cX7_catchUp 77 = .ok (.iload_n 1, 1) := by decide +kernel
theorem dX7_catchUp_78 : decode cX7_catchUp 78 = .ok (.aaload, 1) := by decide +kernel
theorem dX7_catchUp_79 : decode cX7_catchUp 79 = .ok (.getfield 114, 3) := by decide +kernel
theorem dX7_catchUp_82 : decode cX7_catchUp 82 = .ok (.aload_n 0, 1) := by decide +kernel
theorem dX7_catchUp_83 : decode cX7_catchUp 83 = .ok (.getfield 53, 3) := by decide +kernel
theorem dX7_catchUp_86 : decode cX7_catchUp 86 = .ok (.aload_n 0, 1) := by decide +kernel
theorem dX7_catchUp_87 : decode cX7_catchUp 87 = .ok (.getfield 46, 3) := by decide +kernel
theorem dX7_catchUp_90 : decode cX7_catchUp 90 = .ok (.invokevirtual 122, 3) := by decide +kernel
theorem dX7_catchUp_93 : decode cX7_catchUp 93 = .ok (.iconst (-1), 1) := by decide +kernel
theorem dX7_catchUp_94 : decode cX7_catchUp 94 = .ok (.if_icmp .eq 8, 3) := by decide +kernel
theorem dX7_catchUp_97 : decode cX7_catchUp 97 = .ok (.aload_n 0, 1) := by decide +kernel
theorem dX7_catchUp_98 : decode cX7_catchUp 98 = .ok (.iload_n 1, 1) := by decide +kernel
theorem dX7_catchUp_99 : decode cX7_catchUp 99 = .ok (.invokevirtual 203, 3) := by decide +kernel
theorem dX7_catchUp_102 : decode cX7_catchUp 102 = .ok (.iinc 1 1, 3) := by decide +kernel
theorem dX7_catchUp_105 : decode cX7_catchUp 105 = .ok (.goto (-41), 3) := by decide +kernel
theorem dX7_catchUp_108 : decode cX7_catchUp 108 = .ok (.aload_n 0, 1) := by decide +kernel
theorem dX7_catchUp_109 : decode cX7_catchUp 109 = .ok (.invokevirtual 206, 3) := by decide +kernel
theorem dX7_catchUp_112 : decode cX7_catchUp 112 = .ok (.ireturn, 1) := by decide +kernel
theorem dX7_fire_0 : decode cX7_fire 0 = .ok (.aload_n 0, 1) := by decide +kernel
theorem dX7_fire_1 : decode cX7_fire 1 = .ok (.getfield 32, 3) := by decide +kernel
theorem dX7_fire_4 : decode cX7_fire 4 = .ok (.iload_n 1, 1) := by decide +kernel
theorem dX7_fire_5 : decode cX7_fire 5 = .ok (.aaload, 1) := by decide +kernel
theorem dX7_fire_6 : decode cX7_fire 6 = .ok (.getfield 96, 3) := by decide +kernel
theorem dX7_fire_9 : decode cX7_fire 9 = .ok (.ifCond .eq 33, 3) := by decide +kernel
theorem dX7_fire_12 : decode cX7_fire 12 = .ok (.aload_n 0, 1) := by decide +kernel
theorem dX7_fire_13 : decode cX7_fire 13 = .ok (.getfield 32, 3) := by decide +kernel
theorem dX7_fire_16 : decode cX7_fire 16 = .ok (.iload_n 1, 1) := by decide +kernel
theorem dX7_fire_17 : decode cX7_fire 17 = .ok (.aaload, 1) := by decide +kernel
theorem dX7_fire_18 : decode cX7_fire 18 = .ok (.dup, 1) := by decide +kernel
theorem dX7_fire_19 : decode cX7_fire 19 = .ok (.getfield 177, 3) := by decide +kernel
theorem dX7_fire_22 : decode cX7_fire 22 = .ok (.iconst 1, 1) := by decide +kernel
theorem dX7_fire_23 : decode cX7_fire 23 = .ok (.iadd, 1) := by decide +kernel
theorem dX7_fire_24 : decode cX7_fire 24 = .ok (.putfield 177, 3) := by decide +kernel
theorem dX7_fire_27 : decode cX7_fire 27 = .ok (.aload_n 0, 1) := by decide +kernel
theorem dX7_fire_28 : decode cX7_fire 28 = .ok (.getfield 26, 3) := by decide +kernel
theorem dX7_fire_31 : decode cX7_fire 31 = .ok (.iconst 2, 1) := by decide +kernel
theorem dX7_fire_32 : decode cX7_fire 32 = .ok (.aload_n 0, 1) := by decide +kernel
theorem dX7_fire_33 : decode cX7_fire 33 = .ok (.getfield 46, 3) := by decide +kernel
theorem dX7_fire_36 : decode cX7_fire 36 = .ok (.iload_n 1, 1) := by decide +kernel
theorem dX7_fire_37 : decode cX7_fire 37 = .ok (.iconst (-1), 1) := by decide +kernel
theorem dX7_fire_38 : decode cX7_fire 38 = .ok (.invokevirtual 209, 3) := by decide +kernel
theorem dX7_fire_41 : decode cX7_fire 41 = .ok (.return_, 1) := by decide +kernel
theorem dX7_fire_42 : decode cX7_fire 42 = .ok (.aload_n 0, 1) := by decide +kernel
theorem dX7_fire_43 : decode cX7_fire 43 = .ok (.getfield 32, 3) := by decide +kernel
theorem dX7_fire_46 : decode cX7_fire 46 = .ok (.iload_n 1, 1) := by decide +kernel
theorem dX7_fire_47 : decode cX7_fire 47 = .ok (.aaload, 1) := by decide +kernel
theorem dX7_fire_48 : decode cX7_fire 48 = .ok (.invokevirtual 213, 3) := by decide +kernel
theorem dX7_fire_51 : decode cX7_fire 51 = .ok (.aload_n 0, 1) := by decide +kernel
theorem dX7_fire_52 : decode cX7_fire 52 = .ok (.getfield 26, 3) := by decide +kernel
theorem dX7_fire_55 : decode cX7_fire 55 = .ok (.iconst 1, 1) := by decide +kernel
theorem dX7_fire_56 : decode cX7_fire 56 = .ok (.aload_n 0, 1) := by decide +kernel
theorem dX7_fire_57 : decode cX7_fire 57 = .ok (.getfield 46, 3) := by decide +kernel
theorem dX7_fire_60 : decode cX7_fire 60 = .ok (.iload_n 1, 1) := by decide +kernel
theorem dX7_fire_61 : decode cX7_fire 61 = .ok (.iconst (-1), 1) := by decide +kernel
theorem dX7_fire_62 : decode cX7_fire 62 = .ok (.invokevirtual 209, 3) := by decide +kernel
theorem dX7_fire_65 : decode cX7_fire 65 = .ok (.aload_n 0, 1) := by decide +kernel
theorem dX7_fire_66 : decode cX7_fire 66 = .ok (.iload_n 1, 1) := by decide +kernel
theorem dX7_fire_67 : decode cX7_fire 67 = .ok (.invokevirtual 216, 3) := by decide +kernel
theorem dX7_fire_70 : decode cX7_fire 70 = .ok (.return_, 1) := by decide +kernel
theorem dX7_closeRunIfOver_0 : decode cX7_closeRunIfOver 0 = .ok (.aload_n 0, 1) := by decide +kernel
theorem dX7_closeRunIfOver_1 : decode cX7_closeRunIfOver 1 = .ok (.getfield 32, 3) := by decide +kernel
theorem dX7_closeRunIfOver_4 : decode cX7_closeRunIfOver 4 = .ok (.iload_n 1, 1) := by decide +kernel
theorem dX7_closeRunIfOver_5 : decode cX7_closeRunIfOver 5 = .ok (.aaload, 1) := by decide +kernel
theorem dX7_closeRunIfOver_6 : decode cX7_closeRunIfOver 6 = .ok (.invokevirtual 219, 3) := by decide +kernel
theorem dX7_closeRunIfOver_9 : decode cX7_closeRunIfOver 9 = .ok (.ifCond .eq 28, 3) := by decide +kernel
theorem dX7_closeRunIfOver_12 : decode cX7_closeRunIfOver 12 = .ok (.aload_n 0, 1) := by decide +kernel
theorem dX7_closeRunIfOver_13 : decode cX7_closeRunIfOver 13 = .ok (.getfield 32, 3) := by decide +kernel
theorem dX7_closeRunIfOver_16 : decode cX7_closeRunIfOver 16 = .ok (.iload_n 1, 1) := by decide +kernel
theorem dX7_closeRunIfOver_17 : decode cX7_closeRunIfOver 17 = .ok (.aaload, 1) := by decide +kernel
theorem dX7_closeRunIfOver_18 : decode cX7_closeRunIfOver 18 = .ok (.iconst 0, 1) := by decide +kernel
theorem dX7_closeRunIfOver_19 : decode cX7_closeRunIfOver 19 = .ok (.putfield 96, 3) := by decide +kernel
theorem dX7_closeRunIfOver_22 : decode cX7_closeRunIfOver 22 = .ok (.aload_n 0, 1) := by decide +kernel
theorem dX7_closeRunIfOver_23 : decode cX7_closeRunIfOver 23 = .ok (.getfield 26, 3) := by decide +kernel
theorem dX7_closeRunIfOver_26 : decode cX7_closeRunIfOver 26 = .ok (.bipush 8, 2) := by decide +kernel
theorem dX7_closeRunIfOver_28 : decode cX7_closeRunIfOver 28 = .ok (.aload_n 0, 1) := by decide +kernel
theorem dX7_closeRunIfOver_29 : decode cX7_closeRunIfOver 29 = .ok (.getfield 46, 3) := by decide +kernel
theorem dX7_closeRunIfOver_32 : decode cX7_closeRunIfOver 32 = .ok (.iload_n 1, 1) := by decide +kernel
theorem dX7_closeRunIfOver_33 : decode cX7_closeRunIfOver 33 = .ok (.iconst (-1), 1) := by decide +kernel
theorem dX7_closeRunIfOver_34 : decode cX7_closeRunIfOver 34 = .ok (.invokevirtual 209, 3) := by decide +kernel
theorem dX7_closeRunIfOver_37 : decode cX7_closeRunIfOver 37 = .ok (.return_, 1) := by decide +kernel
theorem dX7_startTasks_0 : decode cX7_startTasks 0 = .ok (.iconst 0, 1) := by decide +kernel
theorem dX7_startTasks_1 : decode cX7_startTasks 1 = .ok (.istore_n 1, 1) := by decide +kernel
theorem dX7_startTasks_2 : decode cX7_startTasks 2 = .ok (.aload_n 0, 1) := by decide +kernel
theorem dX7_startTasks_3 : decode cX7_startTasks 3 = .ok (.getfield 43, 3) := by decide +kernel
theorem dX7_startTasks_6 : decode cX7_startTasks 6 = .ok (.aload_n 0, 1) := by decide +kernel
theorem dX7_startTasks_7 : decode cX7_startTasks 7 = .ok (.invokevirtual 171, 3) := by decide +kernel
theorem dX7_startTasks_10 : decode cX7_startTasks 10 = .ok (.isub, 1) := by decide +kernel
theorem dX7_startTasks_11 : decode cX7_startTasks 11 = .ok (.istore_n 2, 1) := by decide +kernel
theorem dX7_startTasks_12 : decode cX7_startTasks 12 = .ok (.iload_n 2, 1) := by decide +kernel
theorem dX7_startTasks_13 : decode cX7_startTasks 13 = .ok (.ifCond .le 71, 3) := by decide +kernel
theorem dX7_startTasks_16 : decode cX7_startTasks 16 = .ok (.aload_n 0, 1) := by decide +kernel
theorem dX7_startTasks_17 : decode cX7_startTasks 17 = .ok (.invokevirtual 222, 3) := by decide +kernel
theorem dX7_startTasks_20 : decode cX7_startTasks 20 = .ok (.istore_n 3, 1) := by decide +kernel
theorem dX7_startTasks_21 : decode cX7_startTasks 21 = .ok (.iload_n 3, 1) := by decide +kernel
theorem dX7_startTasks_22 : decode cX7_startTasks 22 = .ok (.iconst (-1), 1) := by decide +kernel
theorem dX7_startTasks_23 : decode cX7_startTasks 23 = .ok (.if_icmp .ne 6, 3) := by decide +kernel
theorem dX7_startTasks_26 : decode cX7_startTasks 26 = .ok (.goto 58, 3) := by decide +kernel
theorem dX7_startTasks_29 : decode cX7_startTasks 29 = .ok (.aload_n 0, 1) := by decide +kernel
theorem dX7_startTasks_30 : decode cX7_startTasks 30 = .ok (.getfield 32, 3) := by decide +kernel
theorem dX7_startTasks_33 : decode cX7_startTasks 33 = .ok (.iload_n 3, 1) := by decide +kernel
theorem dX7_startTasks_34 : decode cX7_startTasks 34 = .ok (.aaload, 1) := by decide +kernel
theorem dX7_startTasks_35 : decode cX7_startTasks 35 = .ok (.aload_n 0, 1) := by decide +kernel
theorem dX7_startTasks_36 : decode cX7_startTasks 36 = .ok (.getfield 46, 3) := by decide +kernel
theorem dX7_startTasks_39 : decode cX7_startTasks 39 = .ok (.invokevirtual 225, 3) := by decide +kernel
theorem dX7_startTasks_42 : decode cX7_startTasks 42 = .ok (.istore 4, 2) := by decide +kernel
theorem dX7_startTasks_44 : decode cX7_startTasks 44 = .ok (.aload_n 0, 1) := by decide +kernel
theorem dX7_startTasks_45 : decode cX7_startTasks 45 = .ok (.getfield 32, 3) := by decide +kernel
theorem dX7_startTasks_48 : decode cX7_startTasks 48 = .ok (.iload_n 3, 1) := by decide +kernel
theorem dX7_startTasks_49 : decode cX7_startTasks 49 = .ok (.aaload, 1) := by decide +kernel
theorem dX7_startTasks_50 : decode cX7_startTasks 50 = .ok (.getfield 157, 3) := by decide +kernel
theorem dX7_startTasks_53 : decode cX7_startTasks 53 = .ok (.iload 4, 2) := by decide +kernel
theorem dX7_startTasks_55 : decode cX7_startTasks 55 = .ok (.aaload, 1) := by decide +kernel
theorem dX7_startTasks_56 : decode cX7_startTasks 56 = .ok (.iconst 3, 1) := by decide +kernel
theorem dX7_startTasks_57 : decode cX7_startTasks 57 = .ok (.putfield 161, 3) := by decide +kernel
theorem dX7_startTasks_60 : decode cX7_startTasks 60 = .ok (.aload_n 0, 1) := by decide +kernel
theorem dX7_startTasks_61 : decode cX7_startTasks 61 = .ok (.getfield 26, 3) := by decide +kernel
theorem dX7_startTasks_64 : decode cX7_startTasks 64 = .ok (.iconst 3, 1) := by decide +kernel
theorem dX7_startTasks_65 : decode cX7_startTasks 65 = .ok (.aload_n 0, 1) := by decide +kernel
theorem dX7_startTasks_66 : decode cX7_startTasks 66 = .ok (.getfield 46, 3) := by decide +kernel
theorem dX7_startTasks_69 : decode cX7_startTasks 69 = .ok (.iload_n 3, 1) := by decide +kernel
theorem dX7_startTasks_70 : decode cX7_startTasks 70 = .ok (.iload 4, 2) := by decide +kernel
theorem dX7_startTasks_72 : decode cX7_startTasks 72 = .ok (.invokevirtual 209, 3) := by decide +kernel
theorem dX7_startTasks_75 : decode cX7_startTasks 75 = .ok (.iinc 1 1, 3) := by decide +kernel
theorem dX7_startTasks_78 : decode cX7_startTasks 78 = .ok (.iinc 2 (-1), 3) := by decide +kernel
theorem dX7_startTasks_81 : decode cX7_startTasks 81 = .ok (.goto (-69), 3) := by decide +kernel
theorem dX7_startTasks_84 : decode cX7_startTasks 84 = .ok (.iload_n 1, 1) := by decide +kernel
theorem dX7_startTasks_85 : decode cX7_startTasks 85 = .ok (.ireturn, 1) := by decide +kernel
theorem dX7_firstReadyJob_0 : decode cX7_firstReadyJob 0 = .ok (.iconst (-1), 1) := by decide +kernel
theorem dX7_firstReadyJob_1 : decode cX7_firstReadyJob 1 = .ok (.istore_n 1, 1) := by decide +kernel
theorem dX7_firstReadyJob_2 : decode cX7_firstReadyJob 2 = .ok (.iconst 0, 1) := by decide +kernel
theorem dX7_firstReadyJob_3 : decode cX7_firstReadyJob 3 = .ok (.istore_n 2, 1) := by decide +kernel
theorem dX7_firstReadyJob_4 : decode cX7_firstReadyJob 4 = .ok (.iload_n 2, 1) := by decide +kernel
theorem dX7_firstReadyJob_5 : decode cX7_firstReadyJob 5 = .ok (.aload_n 0, 1) := by decide +kernel
theorem dX7_firstReadyJob_6 : decode cX7_firstReadyJob 6 = .ok (.getfield 36, 3) := by decide +kernel
theorem dX7_firstReadyJob_9 : decode cX7_firstReadyJob 9 = .ok (.if_icmp .ge 64, 3) := by decide +kernel
theorem dX7_firstReadyJob_12 : decode cX7_firstReadyJob 12 = .ok (.iload_n 1, 1) := by decide +kernel
theorem dX7_firstReadyJob_13 : decode cX7_firstReadyJob 13 = .ok (.iconst (-1), 1) := by decide +kernel
theorem dX7_firstReadyJob_14 : decode cX7_firstReadyJob 14 = .ok (.if_icmp .eq 24, 3) := by decide +kernel
theorem dX7_firstReadyJob_17 : decode cX7_firstReadyJob 17 = .ok (.aload_n 0, 1) := by decide +kernel
theorem dX7_firstReadyJob_18 : decode cX7_firstReadyJob 18 = .ok (.getfield 32, 3) := by decide +kernel
theorem dX7_firstReadyJob_21 : decode cX7_firstReadyJob 21 = .ok (.iload_n 2, 1) := by decide +kernel
theorem dX7_firstReadyJob_22 : decode cX7_firstReadyJob 22 = .ok (.aaload, 1) := by decide +kernel
theorem dX7_firstReadyJob_23 : decode cX7_firstReadyJob 23 = .ok (.getfield 228, 3) := by decide +kernel
theorem dX7_firstReadyJob_26 : decode cX7_firstReadyJob 26 = .ok (.aload_n 0, 1) := by decide +kernel
theorem dX7_firstReadyJob_27 : decode cX7_firstReadyJob 27 = .ok (.getfield 32, 3) := by decide +kernel
theorem dX7_firstReadyJob_30 : decode cX7_firstReadyJob 30 = .ok (.iload_n 1, 1) := by decide +kernel
theorem dX7_firstReadyJob_31 : decode cX7_firstReadyJob 31 = .ok (.aaload, 1) := by decide +kernel
theorem dX7_firstReadyJob_32 : decode cX7_firstReadyJob 32 = .ok (.getfield 228, 3) := by decide +kernel
theorem dX7_firstReadyJob_35 : decode cX7_firstReadyJob 35 = .ok (.if_icmp .le 7, 3) := by decide +kernel
theorem dX7_firstReadyJob_38 : decode cX7_firstReadyJob 38 = .ok (.iconst 1, 1) := by decide +kernel
theorem dX7_firstReadyJob_39 : decode cX7_firstReadyJob 39 = .ok (.goto 4, 3) := by decide +kernel
theorem dX7_firstReadyJob_42 : decode cX7_firstReadyJob 42 = .ok (.iconst 0, 1) := by decide +kernel
theorem dX7_firstReadyJob_43 : decode cX7_firstReadyJob 43 = .ok (.istore_n 3, 1) := by decide +kernel
theorem dX7_firstReadyJob_44 : decode cX7_firstReadyJob 44 = .ok (.iload_n 3, 1) := by decide +kernel
theorem dX7_firstReadyJob_45 : decode cX7_firstReadyJob 45 = .ok (.ifCond .eq 22, 3) := by decide +kernel
theorem dX7_firstReadyJob_48 : decode cX7_firstReadyJob 48 = .ok (.aload_n 0, 1) := by decide +kernel
theorem dX7_firstReadyJob_49 : decode cX7_firstReadyJob 49 = .ok (.getfield 32, 3) := by decide +kernel
theorem dX7_firstReadyJob_52 : decode cX7_firstReadyJob 52 = .ok (.iload_n 2, 1) := by decide +kernel
theorem dX7_firstReadyJob_53 : decode cX7_firstReadyJob 53 = .ok (.aaload, 1) := by decide +kernel
theorem dX7_firstReadyJob_54 : decode cX7_firstReadyJob 54 = .ok (.aload_n 0, 1) := by decide +kernel
theorem dX7_firstReadyJob_55 : decode cX7_firstReadyJob 55 = .ok (.getfield 46, 3) := by decide +kernel
theorem dX7_firstReadyJob_58 : decode cX7_firstReadyJob 58 = .ok (.invokevirtual 225, 3) := by decide +kernel
theorem dX7_firstReadyJob_61 : decode cX7_firstReadyJob 61 = .ok (.iconst (-1), 1) := by decide +kernel
theorem dX7_firstReadyJob_62 : decode cX7_firstReadyJob 62 = .ok (.if_icmp .eq 5, 3) := by decide +kernel
theorem dX7_firstReadyJob_65 : decode cX7_firstReadyJob 65 = .ok (.iload_n 2, 1) := by decide +kernel
theorem dX7_firstReadyJob_66 : decode cX7_firstReadyJob 66 = .ok (.istore_n 1, 1) := by decide +kernel
theorem dX7_firstReadyJob_67 : decode cX7_firstReadyJob 67 = .ok (.iinc 2 1, 3) := by decide +kernel
theorem dX7_firstReadyJob_70 : decode cX7_firstReadyJob 70 = .ok (.goto (-66), 3) := by decide +kernel
theorem dX7_firstReadyJob_73 : decode cX7_firstReadyJob 73 = .ok (.iload_n 1, 1) := by decide +kernel
theorem dX7_firstReadyJob_74 : decode cX7_firstReadyJob 74 = .ok (.ireturn, 1) := by decide +kernel
theorem dX7_endTask_0 : decode cX7_endTask 0 = .ok (.aload_n 0, 1) := by decide +kernel
theorem dX7_endTask_1 : decode cX7_endTask 1 = .ok (.getfield 32, 3) := by decide +kernel
theorem dX7_endTask_4 : decode cX7_endTask 4 = .ok (.iload_n 1, 1) := by decide +kernel
theorem dX7_endTask_5 : decode cX7_endTask 5 = .ok (.aaload, 1) := by decide +kernel
theorem dX7_endTask_6 : decode cX7_endTask 6 = .ok (.getfield 157, 3) := by decide +kernel
theorem dX7_endTask_9 : decode cX7_endTask 9 = .ok (.iload_n 2, 1) := by decide +kernel
theorem dX7_endTask_10 : decode cX7_endTask 10 = .ok (.aaload, 1) := by decide +kernel
theorem dX7_endTask_11 : decode cX7_endTask 11 = .ok (.astore 4, 2) := by decide +kernel
theorem dX7_endTask_13 : decode cX7_endTask 13 = .ok (.iload_n 3, 1) := by decide +kernel
theorem dX7_endTask_14 : decode cX7_endTask 14 = .ok (.ifCond .eq 26, 3) := by decide +kernel
theorem dX7_endTask_17 : decode cX7_endTask 17 = .ok (.aload 4, 2) := by decide +kernel
theorem dX7_endTask_19 : decode cX7_endTask 19 = .ok (.iconst 4, 1) := by decide +kernel
theorem dX7_endTask_20 : decode cX7_endTask 20 = .ok (.putfield 161, 3) := by decide +kernel
theorem dX7_endTask_23 : decode cX7_endTask 23 = .ok (.aload_n 0, 1) := by decide +kernel
theorem dX7_endTask_24 : decode cX7_endTask 24 = .ok (.getfield 26, 3) := by decide +kernel
theorem dX7_endTask_27 : decode cX7_endTask 27 = .ok (.iconst 4, 1) := by decide +kernel
theorem dX7_endTask_28 : decode cX7_endTask 28 = .ok (.aload_n 0, 1) := by decide +kernel
theorem dX7_endTask_29 : decode cX7_endTask 29 = .ok (.getfield 46, 3) := by decide +kernel
theorem dX7_endTask_32 : decode cX7_endTask 32 = .ok (.iload_n 1, 1) := by decide +kernel
theorem dX7_endTask_33 : decode cX7_endTask 33 = .ok (.iload_n 2, 1) := by decide +kernel
theorem dX7_endTask_34 : decode cX7_endTask 34 = .ok (.invokevirtual 209, 3) := by decide +kernel
theorem dX7_endTask_37 : decode cX7_endTask 37 = .ok (.goto 59, 3) := by decide +kernel
theorem dX7_endTask_40 : decode cX7_endTask 40 = .ok (.aload 4, 2) := by decide +kernel
theorem dX7_endTask_42 : decode cX7_endTask 42 = .ok (.aload_n 0, 1) := by decide +kernel
theorem dX7_endTask_43 : decode cX7_endTask 43 = .ok (.getfield 46, 3) := by decide +kernel
theorem dX7_endTask_46 : decode cX7_endTask 46 = .ok (.invokevirtual 231, 3) := by decide +kernel
theorem dX7_endTask_49 : decode cX7_endTask 49 = .ok (.ifCond .eq 20, 3) := by decide +kernel
theorem dX7_endTask_52 : decode cX7_endTask 52 = .ok (.aload_n 0, 1) := by decide +kernel
theorem dX7_endTask_53 : decode cX7_endTask 53 = .ok (.getfield 26, 3) := by decide +kernel
theorem dX7_endTask_56 : decode cX7_endTask 56 = .ok (.iconst 5, 1) := by decide +kernel
theorem dX7_endTask_57 : decode cX7_endTask 57 = .ok (.aload_n 0, 1) := by decide +kernel
theorem dX7_endTask_58 : decode cX7_endTask 58 = .ok (.getfield 46, 3) := by decide +kernel
theorem dX7_endTask_61 : decode cX7_endTask 61 = .ok (.iload_n 1, 1) := by decide +kernel
theorem dX7_endTask_62 : decode cX7_endTask 62 = .ok (.iload_n 2, 1) := by decide +kernel
theorem dX7_endTask_63 : decode cX7_endTask 63 = .ok (.invokevirtual 209, 3) := by decide +kernel
theorem dX7_endTask_66 : decode cX7_endTask 66 = .ok (.goto 30, 3) := by decide +kernel
theorem dX7_endTask_69 : decode cX7_endTask 69 = .ok (.aload 4, 2) := by decide +kernel
theorem dX7_endTask_71 : decode cX7_endTask 71 = .ok (.iconst 5, 1) := by decide +kernel
theorem dX7_endTask_72 : decode cX7_endTask 72 = .ok (.putfield 161, 3) := by decide +kernel
theorem dX7_endTask_75 : decode cX7_endTask 75 = .ok (.aload_n 0, 1) := by decide +kernel
theorem dX7_endTask_76 : decode cX7_endTask 76 = .ok (.getfield 26, 3) := by decide +kernel
theorem dX7_endTask_79 : decode cX7_endTask 79 = .ok (.bipush 6, 2) := by decide +kernel
theorem dX7_endTask_81 : decode cX7_endTask 81 = .ok (.aload_n 0, 1) := by decide +kernel
theorem dX7_endTask_82 : decode cX7_endTask 82 = .ok (.getfield 46, 3) := by decide +kernel
theorem dX7_endTask_85 : decode cX7_endTask 85 = .ok (.iload_n 1, 1) := by decide +kernel
theorem dX7_endTask_86 : decode cX7_endTask 86 = .ok (.iload_n 2, 1) := by decide +kernel
theorem dX7_endTask_87 : decode cX7_endTask 87 = .ok (.invokevirtual 209, 3) := by decide +kernel
theorem dX7_endTask_90 : decode cX7_endTask 90 = .ok (.aload_n 0, 1) := by decide +kernel
theorem dX7_endTask_91 : decode cX7_endTask 91 = .ok (.iload_n 1, 1) := by decide +kernel
theorem dX7_endTask_92 : decode cX7_endTask 92 = .ok (.iload_n 2, 1) := by decide +kernel
theorem dX7_endTask_93 : decode cX7_endTask 93 = .ok (.invokevirtual 234, 3) := by decide +kernel
theorem dX7_endTask_96 : decode cX7_endTask 96 = .ok (.aload_n 0, 1) := by decide +kernel
theorem dX7_endTask_97 : decode cX7_endTask 97 = .ok (.iload_n 1, 1) := by decide +kernel
theorem dX7_endTask_98 : decode cX7_endTask 98 = .ok (.invokevirtual 216, 3) := by decide +kernel
theorem dX7_endTask_101 : decode cX7_endTask 101 = .ok (.return_, 1) := by decide +kernel
theorem dX7_leaveOutBehind_0 : decode cX7_leaveOutBehind 0 = .ok (.aload_n 0, 1) := by decide +kernel
theorem dX7_leaveOutBehind_1 : decode cX7_leaveOutBehind 1 = .ok (.getfield 32, 3) := by decide +kernel
theorem dX7_leaveOutBehind_4 : decode cX7_leaveOutBehind 4 = .ok (.iload_n 1, 1) := by decide +kernel
theorem dX7_leaveOutBehind_5 : decode cX7_leaveOutBehind 5 = .ok (.aaload, 1) := by decide +kernel
theorem dX7_leaveOutBehind_6 : decode cX7_leaveOutBehind 6 = .ok (.astore_n 3, 1) := by decide +kernel
theorem dX7_leaveOutBehind_7 : decode cX7_leaveOutBehind 7 = .ok (.iconst 1, 1) := by decide +kernel
theorem dX7_leaveOutBehind_8 : decode cX7_leaveOutBehind 8 = .ok (.iload_n 2, 1) := by decide +kernel
theorem dX7_leaveOutBehind_9 : decode cX7_leaveOutBehind 9 = .ok (.ishl, 1) := by decide +kernel
theorem dX7_leaveOutBehind_10 : decode cX7_leaveOutBehind 10 = .ok (.istore 4, 2) := by decide +kernel
theorem dX7_leaveOutBehind_12 : decode cX7_leaveOutBehind 12 = .ok (.iload_n 2, 1) := by decide +kernel
theorem dX7_leaveOutBehind_13 : decode cX7_leaveOutBehind 13 = .ok (.iconst 1, 1) := by decide +kernel
theorem dX7_leaveOutBehind_14 : decode cX7_leaveOutBehind 14 = .ok (.iadd, 1) := by decide +kernel
theorem dX7_leaveOutBehind_15 : decode cX7_leaveOutBehind 15 = .ok (.istore 5, 2) := by decide +kernel
theorem dX7_leaveOutBehind_17 : decode cX7_leaveOutBehind 17 = .ok (.iload 5, 2) := by decide +kernel
theorem dX7_leaveOutBehind_19 : decode cX7_leaveOutBehind 19 = .ok (.aload_n 3, 1) := by decide +kernel
theorem dX7_leaveOutBehind_20 : decode cX7_leaveOutBehind 20 = .ok (.getfield 93, 3) := by decide +kernel
theorem dX7_leaveOutBehind_23 : decode cX7_leaveOutBehind 23 = .ok (.if_icmp .ge 71, 3) := by decide +kernel
theorem dX7_leaveOutBehind_26 : decode cX7_leaveOutBehind 26 = .ok (.aload_n 3, 1) := by decide +kernel
theorem dX7_leaveOutBehind_27 : decode cX7_leaveOutBehind 27 = .ok (.getfield 157, 3) := by decide +kernel
theorem dX7_leaveOutBehind_30 : decode cX7_leaveOutBehind 30 = .ok (.iload 5, 2) := by decide +kernel
theorem dX7_leaveOutBehind_32 : decode cX7_leaveOutBehind 32 = .ok (.aaload, 1) := by decide +kernel
theorem dX7_leaveOutBehind_33 : decode cX7_leaveOutBehind 33 = .ok (.astore 6, 2) := by decide +kernel
theorem dX7_leaveOutBehind_35 : decode cX7_leaveOutBehind 35 = .ok (.aload 6, 2) := by decide +kernel
theorem dX7_leaveOutBehind_37 : decode cX7_leaveOutBehind 37 = .ok (.getfield 238, 3) := by decide +kernel
theorem dX7_leaveOutBehind_40 : decode cX7_leaveOutBehind 40 = .ok (.iload 4, 2) := by decide +kernel
theorem dX7_leaveOutBehind_42 : decode cX7_leaveOutBehind 42 = .ok (.iand, 1) := by decide +kernel
theorem dX7_leaveOutBehind_43 : decode cX7_leaveOutBehind 43 = .ok (.ifCond .eq 45, 3) := by decide +kernel
theorem dX7_leaveOutBehind_46 : decode cX7_leaveOutBehind 46 = .ok (.iload 4, 2) := by decide +kernel
theorem dX7_leaveOutBehind_48 : decode cX7_leaveOutBehind 48 = .ok (.iconst 1, 1) := by decide +kernel
theorem dX7_leaveOutBehind_49 : decode cX7_leaveOutBehind 49 = .ok (.iload 5, 2) := by decide +kernel
theorem dX7_leaveOutBehind_51 : decode cX7_leaveOutBehind 51 = .ok (.ishl, 1) := by decide +kernel
theorem dX7_leaveOutBehind_52 : decode cX7_leaveOutBehind 52 = .ok (.ior, 1) := by decide +kernel
theorem dX7_leaveOutBehind_53 : decode cX7_leaveOutBehind 53 = .ok (.istore 4, 2) := by decide +kernel
theorem dX7_leaveOutBehind_55 : decode cX7_leaveOutBehind 55 = .ok (.aload 6, 2) := by decide +kernel
theorem dX7_leaveOutBehind_57 : decode cX7_leaveOutBehind 57 = .ok (.getfield 161, 3) := by decide +kernel
theorem dX7_leaveOutBehind_60 : decode cX7_leaveOutBehind 60 = .ok (.bipush 6, 2) := by decide +kernel
theorem dX7_leaveOutBehind_62 : decode cX7_leaveOutBehind 62 = .ok (.if_icmp .eq 26, 3) := by decide +kernel
theorem dX7_leaveOutBehind_65 : decode cX7_leaveOutBehind 65 = .ok (.aload 6, 2) := by decide +kernel
theorem dX7_leaveOutBehind_67 : decode cX7_leaveOutBehind 67 = .ok (.bipush 6, 2) := by decide +kernel
theorem dX7_leaveOutBehind_69 : decode cX7_leaveOutBehind 69 = .ok (.putfield 161, 3) := by decide +kernel
theorem dX7_leaveOutBehind_72 : decode cX7_leaveOutBehind 72 = .ok (.aload_n 0, 1) := by decide +kernel
theorem dX7_leaveOutBehind_73 : decode cX7_leaveOutBehind 73 = .ok (.getfield 26, 3) := by decide +kernel
theorem dX7_leaveOutBehind_76 : decode cX7_leaveOutBehind 76 = .ok (.bipush 7, 2) := by decide +kernel
theorem dX7_leaveOutBehind_78 : decode cX7_leaveOutBehind 78 = .ok (.aload_n 0, 1) := by decide +kernel
theorem dX7_leaveOutBehind_79 : decode cX7_leaveOutBehind 79 = .ok (.getfield 46, 3) := by decide +kernel
theorem dX7_leaveOutBehind_82 : decode cX7_leaveOutBehind 82 = .ok (.iload_n 1, 1) := by decide +kernel
theorem dX7_leaveOutBehind_83 : decode cX7_leaveOutBehind 83 = .ok (.iload 5, 2) := by decide +kernel
theorem dX7_leaveOutBehind_85 : decode cX7_leaveOutBehind 85 = .ok (.invokevirtual 209, 3) := by decide +kernel
theorem dX7_leaveOutBehind_88 : decode cX7_leaveOutBehind 88 = .ok (.iinc 5 1, 3) := by decide +kernel
theorem dX7_leaveOutBehind_91 : decode cX7_leaveOutBehind 91 = .ok (.goto (-74), 3) := by decide +kernel
theorem dX7_leaveOutBehind_94 : decode cX7_leaveOutBehind 94 = .ok (.return_, 1) := by decide +kernel
end
section
theorem dX8_init_0 : decode cX8_init 0 = .ok (.aload_n 0, 1) := by decide +kernel
theorem dX8_init_1 : decode cX8_init 1 = .ok (.invokespecial 1, 3) := by decide +kernel
theorem dX8_init_4 : decode cX8_init 4 = .ok (.aload_n 0, 1) := by decide +kernel
theorem dX8_init_5 : decode cX8_init 5 = .ok (.iconst 2, 1) := by decide +kernel
theorem dX8_init_6 : decode cX8_init 6 = .ok (.putfield 7, 3) := by decide +kernel
theorem dX8_init_9 : decode cX8_init 9 = .ok (.aload_n 0, 1) := by decide +kernel
theorem dX8_init_10 : decode cX8_init 10 = .ok (.bipush 60, 2) := by decide +kernel
theorem dX8_init_12 : decode cX8_init 12 = .ok (.newarray .int, 2) := by decide +kernel
theorem dX8_init_14 : decode cX8_init 14 = .ok (.putfield 13, 3) := by decide +kernel
theorem dX8_init_17 : decode cX8_init 17 = .ok (.aload_n 0, 1) := by decide +kernel
theorem dX8_init_18 : decode cX8_init 18 = .ok (.iconst (-1), 1) := by decide +kernel
theorem dX8_init_19 : decode cX8_init 19 = .ok (.putfield 17, 3) := by decide +kernel
theorem dX8_init_22 : decode cX8_init 22 = .ok (.aload_n 0, 1) := by decide +kernel
theorem dX8_init_23 : decode cX8_init 23 = .ok (.sipush 366, 3) := by decide +kernel
theorem dX8_init_26 : decode cX8_init 26 = .ok (.newarray .int, 2) := by decide +kernel
theorem dX8_init_28 : decode cX8_init 28 = .ok (.putfield 20, 3) := by decide +kernel
theorem dX8_init_31 : decode cX8_init 31 = .ok (.aload_n 0, 1) := by decide +kernel
theorem dX8_init_32 : decode cX8_init 32 = .ok (.bipush 30, 2) := by decide +kernel
theorem dX8_init_34 : decode cX8_init 34 = .ok (.newarray .int, 2) := by decide +kernel
theorem dX8_init_36 : decode cX8_init 36 = .ok (.putfield 23, 3) := by decide +kernel
theorem dX8_init_39 : decode cX8_init 39 = .ok (.aload_n 0, 1) := by decide +kernel
theorem dX8_init_40 : decode cX8_init 40 = .ok (.bipush 6, 2) := by decide +kernel
theorem dX8_init_42 : decode cX8_init 42 = .ok (.newarray .int, 2) := by decide +kernel
theorem dX8_init_44 : decode cX8_init 44 = .ok (.putfield 26, 3) := by decide +kernel
theorem dX8_init_47 : decode cX8_init 47 = .ok (.aload_n 0, 1) := by decide +kernel
theorem dX8_init_48 : decode cX8_init 48 = .ok (.bipush 6, 2) := by decide +kernel
theorem dX8_init_50 : decode cX8_init 50 = .ok (.newarray .int, 2) := by decide +kernel
theorem dX8_init_52 : decode cX8_init 52 = .ok (.putfield 29, 3) := by decide +kernel
theorem dX8_init_55 : decode cX8_init 55 = .ok (.aload_n 0, 1) := by decide +kernel
theorem dX8_init_56 : decode cX8_init 56 = .ok (.bipush 6, 2) := by decide +kernel
theorem dX8_init_58 : decode cX8_init 58 = .ok (.newarray .boolean, 2) := by decide +kernel
theorem dX8_init_60 : decode cX8_init 60 = .ok (.putfield 32, 3) := by decide +kernel
theorem dX8_init_63 : decode cX8_init 63 = .ok (.aload_n 0, 1) := by decide +kernel
theorem dX8_init_64 : decode cX8_init 64 = .ok (.bipush 6, 2) := by decide +kernel
theorem dX8_init_66 : decode cX8_init 66 = .ok (.newarray .int, 2) := by decide +kernel
theorem dX8_init_68 : decode cX8_init 68 = .ok (.putfield 36, 3) := by decide +kernel
theorem dX8_init_71 : decode cX8_init 71 = .ok (.aload_n 0, 1) := by decide +kernel
theorem dX8_init_72 : decode cX8_init 72 = .ok (.bipush 6, 2) := by decide +kernel
theorem dX8_init_74 : decode cX8_init 74 = .ok (.newarray .int, 2) := by decide +kernel
theorem dX8_init_76 : decode cX8_init 76 = .ok (.putfield 39, 3) := by decide +kernel
theorem dX8_init_79 : decode cX8_init 79 = .ok (.aload_n 0, 1) := by decide +kernel
theorem dX8_init_80 : decode cX8_init 80 = .ok (.bipush 6, 2) := by decide +kernel
theorem dX8_init_82 : decode cX8_init 82 = .ok (.newarray .boolean, 2) := by decide +kernel
theorem dX8_init_84 : decode cX8_init 84 = .ok (.putfield 42, 3) := by decide +kernel
theorem dX8_init_87 : decode cX8_init 87 = .ok (.aload_n 0, 1) := by decide +kernel
theorem dX8_init_88 : decode cX8_init 88 = .ok (.bipush 36, 2) := by decide +kernel
theorem dX8_init_90 : decode cX8_init 90 = .ok (.newarray .int, 2) := by decide +kernel
theorem dX8_init_92 : decode cX8_init 92 = .ok (.putfield 45, 3) := by decide +kernel
theorem dX8_init_95 : decode cX8_init 95 = .ok (.aload_n 0, 1) := by decide +kernel
theorem dX8_init_96 : decode cX8_init 96 = .ok (.bipush 36, 2) := by decide +kernel
theorem dX8_init_98 : decode cX8_init 98 = .ok (.newarray .int, 2) := by decide +kernel
theorem dX8_init_100 : decode cX8_init 100 = .ok (.putfield 48, 3) := by decide +kernel
theorem dX8_init_103 : decode cX8_init 103 = .ok (.aload_n 0, 1) := by decide +kernel
theorem dX8_init_104 : decode cX8_init 104 = .ok (.bipush 36, 2) := by decide +kernel
theorem dX8_init_106 : decode cX8_init 106 = .ok (.newarray .int, 2) := by decide +kernel
theorem dX8_init_108 : decode cX8_init 108 = .ok (.putfield 51, 3) := by decide +kernel
theorem dX8_init_111 : decode cX8_init 111 = .ok (.aload_n 0, 1) := by decide +kernel
theorem dX8_init_112 : decode cX8_init 112 = .ok (.bipush 36, 2) := by decide +kernel
theorem dX8_init_114 : decode cX8_init 114 = .ok (.newarray .int, 2) := by decide +kernel
theorem dX8_init_116 : decode cX8_init 116 = .ok (.putfield 54, 3) := by decide +kernel
theorem dX8_init_119 : decode cX8_init 119 = .ok (.aload_n 0, 1) := by decide +kernel
theorem dX8_init_120 : decode cX8_init 120 = .ok (.bipush 36, 2) := by decide +kernel
theorem dX8_init_122 : decode cX8_init 122 = .ok (.newarray .int, 2) := by decide +kernel
theorem dX8_init_124 : decode cX8_init 124 = .ok (.putfield 57, 3) := by decide +kernel
theorem dX8_init_127 : decode cX8_init 127 = .ok (.aload_n 0, 1) := by decide +kernel
theorem dX8_init_128 : decode cX8_init 128 = .ok (.bipush 36, 2) := by decide +kernel
theorem dX8_init_130 : decode cX8_init 130 = .ok (.newarray .int, 2) := by decide +kernel
theorem dX8_init_132 : decode cX8_init 132 = .ok (.putfield 60, 3) := by decide +kernel
theorem dX8_init_135 : decode cX8_init 135 = .ok (.aload_n 0, 1) := by decide +kernel
theorem dX8_init_136 : decode cX8_init 136 = .ok (.sipush 256, 3) := by decide +kernel
theorem dX8_init_139 : decode cX8_init 139 = .ok (.newarray .int, 2) := by decide +kernel
theorem dX8_init_141 : decode cX8_init 141 = .ok (.putfield 63, 3) := by decide +kernel
theorem dX8_init_144 : decode cX8_init 144 = .ok (.return_, 1) := by decide +kernel
theorem dX8_thrown_0 : decode cX8_thrown 0 = .ok (.aload_n 0, 1) := by decide +kernel
theorem dX8_thrown_1 : decode cX8_thrown 1 = .ok (.getfield 66, 3) := by decide +kernel
theorem dX8_thrown_4 : decode cX8_thrown 4 = .ok (.ireturn, 1) := by decide +kernel
theorem dX8_type_0 : decode cX8_type 0 = .ok (.aload_n 0, 1) := by decide +kernel
theorem dX8_type_1 : decode cX8_type 1 = .ok (.iconst 0, 1) := by decide +kernel
theorem dX8_type_2 : decode cX8_type 2 = .ok (.putfield 66, 3) := by decide +kernel
theorem dX8_type_5 : decode cX8_type 5 = .ok (.iconst 0, 1) := by decide +kernel
theorem dX8_type_6 : decode cX8_type 6 = .ok (.istore_n 3, 1) := by decide +kernel
theorem dX8_type_7 : decode cX8_type 7 = .ok (.iconst 1, 1) := by decide +kernel
theorem dX8_type_8 : decode cX8_type 8 = .ok (.istore 4, 2) := by decide +kernel
theorem dX8_type_10 : decode cX8_type 10 = .ok (.iload_n 3, 1) := by decide +kernel
theorem dX8_type_11 : decode cX8_type 11 = .ok (.bipush 8, 2) := by decide +kernel
theorem dX8_type_13 : decode cX8_type 13 = .ok (.if_icmp .ge 64, 3) := by decide +kernel
theorem dX8_type_16 : decode cX8_type 16 = .ok (.lload_n 1, 1) := by decide +kernel
theorem dX8_type_17 : decode cX8_type 17 = .ok (.bipush 8, 2) := by decide +kernel
theorem dX8_type_19 : decode cX8_type 19 = .ok (.iload_n 3, 1) := by decide +kernel
theorem dX8_type_20 : decode cX8_type 20 = .ok (.imul, 1) := by decide +kernel
theorem dX8_type_21 : decode cX8_type 21 = .ok (.lshr, 1) := by decide +kernel
theorem dX8_type_22 : decode cX8_type 22 = .ok (.ldc2_w 69, 3) := by decide +kernel
theorem dX8_type_25 : decode cX8_type 25 = .ok (.land, 1) := by decide +kernel
theorem dX8_type_26 : decode cX8_type 26 = .ok (.lconst 0, 1) := by decide +kernel
theorem dX8_type_27 : decode cX8_type 27 = .ok (.lcmp, 1) := by decide +kernel
theorem dX8_type_28 : decode cX8_type 28 = .ok (.ifCond .eq 49, 3) := by decide +kernel
theorem dX8_type_31 : decode cX8_type 31 = .ok (.lload_n 1, 1) := by decide +kernel
theorem dX8_type_32 : decode cX8_type 32 = .ok (.bipush 8, 2) := by decide +kernel
theorem dX8_type_34 : decode cX8_type 34 = .ok (.iload_n 3, 1) := by decide +kernel
theorem dX8_type_35 : decode cX8_type 35 = .ok (.imul, 1) := by decide +kernel
theorem dX8_type_36 : decode cX8_type 36 = .ok (.lshr, 1) := by decide +kernel
theorem dX8_type_37 : decode cX8_type 37 = .ok (.ldc2_w 69, 3) := by decide +kernel
theorem dX8_type_40 : decode cX8_type 40 = .ok (.land, 1) := by decide +kernel
theorem dX8_type_41 : decode cX8_type 41 = .ok (.l2i, 1) := by decide +kernel
theorem dX8_type_42 : decode cX8_type 42 = .ok (.istore 5, 2) := by decide +kernel
theorem dX8_type_44 : decode cX8_type 44 = .ok (.iload 4, 2) := by decide +kernel
theorem dX8_type_46 : decode cX8_type 46 = .ok (.ifCond .eq 21, 3) := by decide +kernel
theorem dX8_type_49 : decode cX8_type 49 = .ok (.iload 5, 2) := by decide +kernel
theorem dX8_type_51 : decode cX8_type 51 = .ok (.bipush 32, 2) := by decide +kernel
theorem dX8_type_53 : decode cX8_type 53 = .ok (.if_icmp .lt 14, 3) := by decide +kernel
theorem dX8_type_56 : decode cX8_type 56 = .ok (.iload 5, 2) := by decide +kernel
theorem dX8_type_58 : decode cX8_type 58 = .ok (.bipush 126, 2) := by decide +kernel
theorem dX8_type_60 : decode cX8_type 60 = .ok (.if_icmp .gt 7, 3) := by decide +kernel
theorem dX8_type_63 : decode cX8_type 63 = .ok (.iconst 1, 1) := by decide +kernel
theorem dX8_type_64 : decode cX8_type 64 = .ok (.goto 4, 3) := by decide +kernel
theorem dX8_type_67 : decode cX8_type 67 = .ok (.iconst 0, 1) := by decide +kernel
theorem dX8_type_68 : decode cX8_type 68 = .ok (.istore 4, 2) := by decide +kernel
theorem dX8_type_70 : decode cX8_type 70 = .ok (.iload_n 3, 1) := by decide +kernel
theorem dX8_type_71 : decode cX8_type 71 = .ok (.iconst 1, 1) := by decide +kernel
theorem dX8_type_72 : decode cX8_type 72 = .ok (.iadd, 1) := by decide +kernel
theorem dX8_type_73 : decode cX8_type 73 = .ok (.istore_n 3, 1) := by decide +kernel
theorem dX8_type_74 : decode cX8_type 74 = .ok (.goto (-64), 3) := by decide +kernel
theorem dX8_type_77 : decode cX8_type 77 = .ok (.iload 4, 2) := by decide +kernel
theorem dX8_type_79 : decode cX8_type 79 = .ok (.ifCond .eq 14, 3) := by decide +kernel
theorem dX8_type_82 : decode cX8_type 82 = .ok (.aload_n 0, 1) := by decide +kernel
theorem dX8_type_83 : decode cX8_type 83 = .ok (.getfield 71, 3) := by decide +kernel
theorem dX8_type_86 : decode cX8_type 86 = .ok (.iload_n 3, 1) := by decide +kernel
theorem dX8_type_87 : decode cX8_type 87 = .ok (.iadd, 1) := by decide +kernel
theorem dX8_type_88 : decode cX8_type 88 = .ok (.bipush 60, 2) := by decide +kernel
theorem dX8_type_90 : decode cX8_type 90 = .ok (.if_icmp .le 5, 3) := by decide +kernel
theorem dX8_type_93 : decode cX8_type 93 = .ok (.iconst 0, 1) := by decide +kernel
theorem dX8_type_94 : decode cX8_type 94 = .ok (.ireturn, 1) := by decide +kernel
theorem dX8_type_95 : decode cX8_type 95 = .ok (.iconst 0, 1) := by decide +kernel
theorem dX8_type_96 : decode cX8_type 96 = .ok (.istore 5, 2) := by decide +kernel
theorem dX8_type_98 : decode cX8_type 98 = .ok (.iload 5, 2) := by decide +kernel
theorem dX8_type_100 : decode cX8_type 100 = .ok (.iload_n 3, 1) := by decide +kernel
theorem dX8_type_101 : decode cX8_type 101 = .ok (.if_icmp .ge 33, 3) := by decide +kernel
theorem dX8_type_104 : decode cX8_type 104 = .ok (.aload_n 0, 1) := by decide +kernel
theorem dX8_type_105 : decode cX8_type 105 = .ok (.getfield 13, 3) := by decide +kernel
theorem dX8_type_108 : decode cX8_type 108 = .ok (.aload_n 0, 1) := by decide +kernel
theorem dX8_type_109 : decode cX8_type 109 = .ok (.getfield 71, 3) := by decide +kernel
theorem dX8_type_112 : decode cX8_type 112 = .ok (.iload 5, 2) := by decide +kernel
theorem dX8_type_114 : decode cX8_type 114 = .ok (.iadd, 1) := by decide +kernel
theorem dX8_type_115 : decode cX8_type 115 = .ok (.lload_n 1, 1) := by decide +kernel
theorem dX8_type_116 : decode cX8_type 116 = .ok (.bipush 8, 2) := by decide +kernel
theorem dX8_type_118 : decode cX8_type 118 = .ok (.iload 5, 2) := by decide +kernel
theorem dX8_type_120 : decode cX8_type 120 = .ok (.imul, 1) := by decide +kernel
theorem dX8_type_121 : decode cX8_type 121 = .ok (.lshr, 1) := by decide +kernel
theorem dX8_type_122 : decode cX8_type 122 = .ok (.ldc2_w 69, 3) := by decide +kernel
theorem dX8_type_125 : decode cX8_type 125 = .ok (.land, 1) := by decide +kernel
theorem dX8_type_126 : decode cX8_type 126 = .ok (.l2i, 1) := by decide +kernel
theorem dX8_type_127 : decode cX8_type 127 = .ok (.iastore, 1) := by decide +kernel
theorem dX8_type_128 : decode cX8_type 128 = .ok (.iinc 5 1, 3) := by decide +kernel
theorem dX8_type_131 : decode cX8_type 131 = .ok (.goto (-33), 3) := by decide +kernel
theorem dX8_type_134 : decode cX8_type 134 = .ok (.aload_n 0, 1) := by decide +kernel
theorem dX8_type_135 : decode cX8_type 135 = .ok (.aload_n 0, 1) := by decide +kernel
theorem dX8_type_136 : decode cX8_type 136 = .ok (.getfield 71, 3) := by decide +kernel
theorem dX8_type_139 : decode cX8_type 139 = .ok (.iload_n 3, 1) := by decide +kernel
theorem dX8_type_140 : decode cX8_type 140 = .ok (.iadd, 1) := by decide +kernel
theorem dX8_type_141 : decode cX8_type 141 = .ok (.putfield 71, 3) := by decide +kernel
theorem dX8_type_144 : decode cX8_type 144 = .ok (.iconst 1, 1) := by decide +kernel
theorem dX8_type_145 : decode cX8_type 145 = .ok (.ireturn, 1) := by decide +kernel
theorem dX8_erase_0 : decode cX8_erase 0 = .ok (.aload_n 0, 1) := by decide +kernel
theorem dX8_erase_1 : decode cX8_erase 1 = .ok (.iconst 0, 1) := by decide +kernel
theorem dX8_erase_2 : decode cX8_erase 2 = .ok (.putfield 66, 3) := by decide +kernel
theorem dX8_erase_5 : decode cX8_erase 5 = .ok (.aload_n 0, 1) := by decide +kernel
theorem dX8_erase_6 : decode cX8_erase 6 = .ok (.iconst 0, 1) := by decide +kernel
theorem dX8_erase_7 : decode cX8_erase 7 = .ok (.putfield 71, 3) := by decide +kernel
theorem dX8_erase_10 : decode cX8_erase 10 = .ok (.return_, 1) := by decide +kernel
theorem dX8_isDigit_0 : decode cX8_isDigit 0 = .ok (.iload_n 0, 1) := by decide +kernel
theorem dX8_isDigit_1 : decode cX8_isDigit 1 = .ok (.bipush 48, 2) := by decide +kernel
theorem dX8_isDigit_3 : decode cX8_isDigit 3 = .ok (.if_icmp .lt 13, 3) := by decide +kernel
theorem dX8_isDigit_6 : decode cX8_isDigit 6 = .ok (.iload_n 0, 1) := by decide +kernel
theorem dX8_isDigit_7 : decode cX8_isDigit 7 = .ok (.bipush 57, 2) := by decide +kernel
theorem dX8_isDigit_9 : decode cX8_isDigit 9 = .ok (.if_icmp .gt 7, 3) := by decide +kernel
theorem dX8_isDigit_12 : decode cX8_isDigit 12 = .ok (.iconst 1, 1) := by decide +kernel
theorem dX8_isDigit_13 : decode cX8_isDigit 13 = .ok (.goto 4, 3) := by decide +kernel
theorem dX8_isDigit_16 : decode cX8_isDigit 16 = .ok (.iconst 0, 1) := by decide +kernel
theorem dX8_isDigit_17 : decode cX8_isDigit 17 = .ok (.ireturn, 1) := by decide +kernel
theorem dX8_least_0 : decode cX8_least 0 = .ok (.iload_n 0, 1) := by decide +kernel
theorem dX8_least_1 : decode cX8_least 1 = .ok (.iconst 2, 1) := by decide +kernel
theorem dX8_least_2 : decode cX8_least 2 = .ok (.if_icmp .eq 8, 3) := by decide +kernel
theorem dX8_least_5 : decode cX8_least 5 = .ok (.iload_n 0, 1) := by decide +kernel
theorem dX8_least_6 : decode cX8_least 6 = .ok (.iconst 3, 1) := by decide +kernel
theorem dX8_least_7 : decode cX8_least 7 = .ok (.if_icmp .ne 7, 3) := by decide +kernel
theorem dX8_least_10 : decode cX8_least 10 = .ok (.iconst 1, 1) := by decide +kernel
theorem dX8_least_11 : decode cX8_least 11 = .ok (.goto 4, 3) := by decide +kernel
theorem dX8_least_14 : decode cX8_least 14 = .ok (.iconst 0, 1) := by decide +kernel
theorem dX8_least_15 : decode cX8_least 15 = .ok (.ireturn, 1) := by decide +kernel
theorem dX8_most_0 : decode cX8_most 0 = .ok (.iload_n 0, 1) := by decide +kernel
theorem dX8_most_1 : decode cX8_most 1 = .ok (.tableswitch 43 0 3 #[31, 34, 37, 40], 31) := by decide +kernel
theorem dX8_most_32 : decode cX8_most 32 = .ok (.bipush 59, 2) := by decide +kernel
theorem dX8_most_34 : decode cX8_most 34 = .ok (.ireturn, 1) := by decide +kernel
theorem dX8_most_35 : decode cX8_most 35 = .ok (.bipush 23, 2) := by decide +kernel
theorem dX8_most_37 : decode cX8_most 37 = .ok (.ireturn, 1) := by decide +kernel
theorem dX8_most_38 : decode cX8_most 38 = .ok (.bipush 31, 2) := by decide +kernel
theorem dX8_most_40 : decode cX8_most 40 = .ok (.ireturn, 1) := by decide +kernel
theorem dX8_most_41 : decode cX8_most 41 = .ok (.bipush 12, 2) := by decide +kernel
theorem dX8_most_43 : decode cX8_most 43 = .ok (.ireturn, 1) := by decide +kernel
theorem dX8_most_44 : decode cX8_most 44 = .ok (.bipush 7, 2) := by decide +kernel
theorem dX8_most_46 : decode cX8_most 46 = .ok (.ireturn, 1) := by decide +kernel
theorem dX8_typedAt_0 : decode cX8_typedAt 0 = .ok (.iload_n 1, 1) := by decide +kernel
theorem dX8_typedAt_1 : decode cX8_typedAt 1 = .ok (.aload_n 0, 1) := by decide +kernel
theorem dX8_typedAt_2 : decode cX8_typedAt 2 = .ok (.getfield 71, 3) := by decide +kernel
theorem dX8_typedAt_5 : decode cX8_typedAt 5 = .ok (.if_icmp .ge 12, 3) := by decide +kernel
theorem dX8_typedAt_8 : decode cX8_typedAt 8 = .ok (.aload_n 0, 1) := by decide +kernel
theorem dX8_typedAt_9 : decode cX8_typedAt 9 = .ok (.getfield 13, 3) := by decide +kernel
theorem dX8_typedAt_12 : decode cX8_typedAt 12 = .ok (.iload_n 1, 1) := by decide +kernel
theorem dX8_typedAt_13 : decode cX8_typedAt 13 = .ok (.iaload, 1) := by decide +kernel
theorem dX8_typedAt_14 : decode cX8_typedAt 14 = .ok (.goto 4, 3) := by decide +kernel
theorem dX8_typedAt_17 : decode cX8_typedAt 17 = .ok (.iconst 0, 1) := by decide +kernel
theorem dX8_typedAt_18 : decode cX8_typedAt 18 = .ok (.ireturn, 1) := by decide +kernel
theorem dX8_digitsAt_0 : decode cX8_digitsAt 0 = .ok (.aload_n 0, 1) := by decide +kernel
theorem dX8_digitsAt_1 : decode cX8_digitsAt 1 = .ok (.iload_n 1, 1) := by decide +kernel
theorem dX8_digitsAt_2 : decode cX8_digitsAt 2 = .ok (.invokevirtual 74, 3) := by decide +kernel
theorem dX8_digitsAt_5 : decode cX8_digitsAt 5 = .ok (.invokestatic 78, 3) := by decide +kernel
theorem dX8_digitsAt_8 : decode cX8_digitsAt 8 = .ok (.ifCond .ne 7, 3) := by decide +kernel
theorem dX8_digitsAt_11 : decode cX8_digitsAt 11 = .ok (.iconst 0, 1) := by decide +kernel
theorem dX8_digitsAt_12 : decode cX8_digitsAt 12 = .ok (.goto 21, 3) := by decide +kernel
theorem dX8_digitsAt_15 : decode cX8_digitsAt 15 = .ok (.aload_n 0, 1) := by decide +kernel
theorem dX8_digitsAt_16 : decode cX8_digitsAt 16 = .ok (.iload_n 1, 1) := by decide +kernel
theorem dX8_digitsAt_17 : decode cX8_digitsAt 17 = .ok (.iconst 1, 1) := by decide +kernel
theorem dX8_digitsAt_18 : decode cX8_digitsAt 18 = .ok (.iadd, 1) := by decide +kernel
theorem dX8_digitsAt_19 : decode cX8_digitsAt 19 = .ok (.invokevirtual 74, 3) := by decide +kernel
theorem dX8_digitsAt_22 : decode cX8_digitsAt 22 = .ok (.invokestatic 78, 3) := by decide +kernel
theorem dX8_digitsAt_25 : decode cX8_digitsAt 25 = .ok (.ifCond .eq 7, 3) := by decide +kernel
theorem dX8_digitsAt_28 : decode cX8_digitsAt 28 = .ok (.iconst 2, 1) := by decide +kernel
theorem dX8_digitsAt_29 : decode cX8_digitsAt 29 = .ok (.goto 4, 3) := by decide +kernel
theorem dX8_digitsAt_32 : decode cX8_digitsAt 32 = .ok (.iconst 1, 1) := by decide +kernel
theorem dX8_digitsAt_33 : decode cX8_digitsAt 33 = .ok (.ireturn, 1) := by decide +kernel
theorem dX8_valueAt_0 : decode cX8_valueAt 0 = .ok (.aload_n 0, 1) := by decide +kernel
theorem dX8_valueAt_1 : decode cX8_valueAt 1 = .ok (.iload_n 1, 1) := by decide +kernel
theorem dX8_valueAt_2 : decode cX8_valueAt 2 = .ok (.invokevirtual 74, 3) := by decide +kernel
theorem dX8_valueAt_5 : decode cX8_valueAt 5 = .ok (.bipush 48, 2) := by decide +kernel
theorem dX8_valueAt_7 : decode cX8_valueAt 7 = .ok (.isub, 1) := by decide +kernel
theorem dX8_valueAt_8 : decode cX8_valueAt 8 = .ok (.istore_n 2, 1) := by decide +kernel
theorem dX8_valueAt_9 : decode cX8_valueAt 9 = .ok (.aload_n 0, 1) := by decide +kernel
theorem dX8_valueAt_10 : decode cX8_valueAt 10 = .ok (.iload_n 1, 1) := by decide +kernel
theorem dX8_valueAt_11 : decode cX8_valueAt 11 = .ok (.invokevirtual 82, 3) := by decide +kernel
theorem dX8_valueAt_14 : decode cX8_valueAt 14 = .ok (.iconst 2, 1) := by decide +kernel
theorem dX8_valueAt_15 : decode cX8_valueAt 15 = .ok (.if_icmp .ne 21, 3) := by decide +kernel
theorem dX8_valueAt_18 : decode cX8_valueAt 18 = .ok (.bipush 10, 2) := by decide +kernel
theorem dX8_valueAt_20 : decode cX8_valueAt 20 = .ok (.iload_n 2, 1) := by decide +kernel
theorem dX8_valueAt_21 : decode cX8_valueAt 21 = .ok (.imul, 1) := by decide +kernel
theorem dX8_valueAt_22 : decode cX8_valueAt 22 = .ok (.aload_n 0, 1) := by decide +kernel
theorem dX8_valueAt_23 : decode cX8_valueAt 23 = .ok (.iload_n 1, 1) := by decide +kernel
theorem dX8_valueAt_24 : decode cX8_valueAt 24 = .ok (.iconst 1, 1) := by decide +kernel
theorem dX8_valueAt_25 : decode cX8_valueAt 25 = .ok (.iadd, 1) := by decide +kernel
theorem dX8_valueAt_26 : decode cX8_valueAt 26 = .ok (.invokevirtual 74, 3) := by decide +kernel
theorem dX8_valueAt_29 : decode cX8_valueAt 29 = .ok (.iadd, 1) := by decide +kernel
theorem dX8_valueAt_30 : decode cX8_valueAt 30 = .ok (.bipush 48, 2) := by decide +kernel
theorem dX8_valueAt_32 : decode cX8_valueAt 32 = .ok (.isub, 1) := by decide +kernel
theorem dX8_valueAt_33 : decode cX8_valueAt 33 = .ok (.goto 4, 3) := by decide +kernel
theorem dX8_valueAt_36 : decode cX8_valueAt 36 = .ok (.iload_n 2, 1) := by decide +kernel
theorem dX8_valueAt_37 : decode cX8_valueAt 37 = .ok (.ireturn, 1) := by decide +kernel
theorem dX8_isNumber_0 : decode cX8_isNumber 0 = .ok (.aload_n 0, 1) := by decide +kernel
theorem dX8_isNumber_1 : decode cX8_isNumber 1 = .ok (.iload_n 1, 1) := by decide +kernel
theorem dX8_isNumber_2 : decode cX8_isNumber 2 = .ok (.invokevirtual 82, 3) := by decide +kernel
theorem dX8_isNumber_5 : decode cX8_isNumber 5 = .ok (.ifCond .le 28, 3) := by decide +kernel
theorem dX8_isNumber_8 : decode cX8_isNumber 8 = .ok (.aload_n 0, 1) := by decide +kernel
theorem dX8_isNumber_9 : decode cX8_isNumber 9 = .ok (.iload_n 1, 1) := by decide +kernel
theorem dX8_isNumber_10 : decode cX8_isNumber 10 = .ok (.invokevirtual 85, 3) := by decide +kernel
theorem dX8_isNumber_13 : decode cX8_isNumber 13 = .ok (.iload_n 3, 1) := by decide +kernel
theorem dX8_isNumber_14 : decode cX8_isNumber 14 = .ok (.if_icmp .lt 19, 3) := by decide +kernel
theorem dX8_isNumber_17 : decode cX8_isNumber 17 = .ok (.aload_n 0, 1) := by decide +kernel
theorem dX8_isNumber_18 : decode cX8_isNumber 18 = .ok (.iload_n 1, 1) := by decide +kernel
theorem dX8_isNumber_19 : decode cX8_isNumber 19 = .ok (.invokevirtual 85, 3) := by decide +kernel
theorem dX8_isNumber_22 : decode cX8_isNumber 22 = .ok (.iload_n 2, 1) := by decide +kernel
theorem dX8_isNumber_23 : decode cX8_isNumber 23 = .ok (.invokestatic 88, 3) := by decide +kernel
theorem dX8_isNumber_26 : decode cX8_isNumber 26 = .ok (.if_icmp .gt 7, 3) := by decide +kernel
theorem dX8_isNumber_29 : decode cX8_isNumber 29 = .ok (.iconst 1, 1) := by decide +kernel
theorem dX8_isNumber_30 : decode cX8_isNumber 30 = .ok (.goto 4, 3) := by decide +kernel
theorem dX8_isNumber_33 : decode cX8_isNumber 33 = .ok (.iconst 0, 1) := by decide +kernel
theorem dX8_isNumber_34 : decode cX8_isNumber 34 = .ok (.ireturn, 1) := by decide +kernel
theorem dX8_overItem_0 : decode cX8_overItem 0 = .ok (.iload_n 1, 1) := by decide +kernel
theorem dX8_overItem_1 : decode cX8_overItem 1 = .ok (.istore_n 3, 1) := by decide +kernel
theorem dX8_overItem_2 : decode cX8_overItem 2 = .ok (.aload_n 0, 1) := by decide +kernel
theorem dX8_overItem_3 : decode cX8_overItem 3 = .ok (.iload_n 1, 1) := by decide +kernel
theorem dX8_overItem_4 : decode cX8_overItem 4 = .ok (.invokevirtual 74, 3) := by decide +kernel
theorem dX8_overItem_7 : decode cX8_overItem 7 = .ok (.bipush 42, 2) := by decide +kernel
theorem dX8_overItem_9 : decode cX8_overItem 9 = .ok (.if_icmp .ne 7, 3) := by decide +kernel
theorem dX8_overItem_12 : decode cX8_overItem 12 = .ok (.iconst 1, 1) := by decide +kernel
theorem dX8_overItem_13 : decode cX8_overItem 13 = .ok (.goto 4, 3) := by decide +kernel
theorem dX8_overItem_16 : decode cX8_overItem 16 = .ok (.iconst 0, 1) := by decide +kernel
theorem dX8_overItem_17 : decode cX8_overItem 17 = .ok (.istore 4, 2) := by decide +kernel
theorem dX8_overItem_19 : decode cX8_overItem 19 = .ok (.iload 4, 2) := by decide +kernel
theorem dX8_overItem_21 : decode cX8_overItem 21 = .ok (.ifCond .eq 10, 3) := by decide +kernel
theorem dX8_overItem_24 : decode cX8_overItem 24 = .ok (.iload_n 1, 1) := by decide +kernel
theorem dX8_overItem_25 : decode cX8_overItem 25 = .ok (.iconst 1, 1) := by decide +kernel
theorem dX8_overItem_26 : decode cX8_overItem 26 = .ok (.iadd, 1) := by decide +kernel
theorem dX8_overItem_27 : decode cX8_overItem 27 = .ok (.istore_n 3, 1) := by decide +kernel
theorem dX8_overItem_28 : decode cX8_overItem 28 = .ok (.goto 71, 3) := by decide +kernel
theorem dX8_overItem_31 : decode cX8_overItem 31 = .ok (.aload_n 0, 1) := by decide +kernel
theorem dX8_overItem_32 : decode cX8_overItem 32 = .ok (.iload_n 1, 1) := by decide +kernel
theorem dX8_overItem_33 : decode cX8_overItem 33 = .ok (.iload_n 2, 1) := by decide +kernel
theorem dX8_overItem_34 : decode cX8_overItem 34 = .ok (.iload_n 2, 1) := by decide +kernel
theorem dX8_overItem_35 : decode cX8_overItem 35 = .ok (.invokestatic 91, 3) := by decide +kernel
theorem dX8_overItem_38 : decode cX8_overItem 38 = .ok (.invokevirtual 94, 3) := by decide +kernel
theorem dX8_overItem_41 : decode cX8_overItem 41 = .ok (.ifCond .ne 7, 3) := by decide +kernel
theorem dX8_overItem_44 : decode cX8_overItem 44 = .ok (.iconst (-1), 1) := by decide +kernel
theorem dX8_overItem_45 : decode cX8_overItem 45 = .ok (.iload_n 1, 1) := by decide +kernel
theorem dX8_overItem_46 : decode cX8_overItem 46 = .ok (.isub, 1) := by decide +kernel
theorem dX8_overItem_47 : decode cX8_overItem 47 = .ok (.ireturn, 1) := by decide +kernel
theorem dX8_overItem_48 : decode cX8_overItem 48 = .ok (.iload_n 1, 1) := by decide +kernel
theorem dX8_overItem_49 : decode cX8_overItem 49 = .ok (.aload_n 0, 1) := by decide +kernel
theorem dX8_overItem_50 : decode cX8_overItem 50 = .ok (.iload_n 1, 1) := by decide +kernel
theorem dX8_overItem_51 : decode cX8_overItem 51 = .ok (.invokevirtual 82, 3) := by decide +kernel
theorem dX8_overItem_54 : decode cX8_overItem 54 = .ok (.iadd, 1) := by decide +kernel
theorem dX8_overItem_55 : decode cX8_overItem 55 = .ok (.istore_n 3, 1) := by decide +kernel
theorem dX8_overItem_56 : decode cX8_overItem 56 = .ok (.aload_n 0, 1) := by decide +kernel
theorem dX8_overItem_57 : decode cX8_overItem 57 = .ok (.iload_n 3, 1) := by decide +kernel
theorem dX8_overItem_58 : decode cX8_overItem 58 = .ok (.invokevirtual 74, 3) := by decide +kernel
theorem dX8_overItem_61 : decode cX8_overItem 61 = .ok (.bipush 45, 2) := by decide +kernel
theorem dX8_overItem_63 : decode cX8_overItem 63 = .ok (.if_icmp .ne 36, 3) := by decide +kernel
theorem dX8_overItem_66 : decode cX8_overItem 66 = .ok (.iload_n 3, 1) := by decide +kernel
theorem dX8_overItem_67 : decode cX8_overItem 67 = .ok (.iconst 1, 1) := by decide +kernel
theorem dX8_overItem_68 : decode cX8_overItem 68 = .ok (.iadd, 1) := by decide +kernel
theorem dX8_overItem_69 : decode cX8_overItem 69 = .ok (.istore_n 3, 1) := by decide +kernel
theorem dX8_overItem_70 : decode cX8_overItem 70 = .ok (.aload_n 0, 1) := by decide +kernel
theorem dX8_overItem_71 : decode cX8_overItem 71 = .ok (.iload_n 3, 1) := by decide +kernel
theorem dX8_overItem_72 : decode cX8_overItem 72 = .ok (.iload_n 2, 1) := by decide +kernel
theorem dX8_overItem_73 : decode cX8_overItem 73 = .ok (.aload_n 0, 1) := by decide +kernel
theorem dX8_overItem_74 : decode cX8_overItem 74 = .ok (.iload_n 1, 1) := by decide +kernel
theorem dX8_overItem_75 : decode cX8_overItem 75 = .ok (.invokevirtual 85, 3) := by decide +kernel
theorem dX8_overItem_78 : decode cX8_overItem 78 = .ok (.invokevirtual 94, 3) := by decide +kernel
theorem dX8_overItem_81 : decode cX8_overItem 81 = .ok (.ifCond .ne 7, 3) := by decide +kernel
theorem dX8_overItem_84 : decode cX8_overItem 84 = .ok (.iconst (-1), 1) := by decide +kernel
theorem dX8_overItem_85 : decode cX8_overItem 85 = .ok (.iload_n 3, 1) := by decide +kernel
theorem dX8_overItem_86 : decode cX8_overItem 86 = .ok (.isub, 1) := by decide +kernel
theorem dX8_overItem_87 : decode cX8_overItem 87 = .ok (.ireturn, 1) := by decide +kernel
theorem dX8_overItem_88 : decode cX8_overItem 88 = .ok (.iload_n 3, 1) := by decide +kernel
theorem dX8_overItem_89 : decode cX8_overItem 89 = .ok (.aload_n 0, 1) := by decide +kernel
theorem dX8_overItem_90 : decode cX8_overItem 90 = .ok (.iload_n 3, 1) := by decide +kernel
theorem dX8_overItem_91 : decode cX8_overItem 91 = .ok (.invokevirtual 82, 3) := by decide +kernel
theorem dX8_overItem_94 : decode cX8_overItem 94 = .ok (.iadd, 1) := by decide +kernel
theorem dX8_overItem_95 : decode cX8_overItem 95 = .ok (.istore_n 3, 1) := by decide +kernel
theorem dX8_overItem_96 : decode cX8_overItem 96 = .ok (.iconst 1, 1) := by decide +kernel
theorem dX8_overItem_97 : decode cX8_overItem 97 = .ok (.istore 4, 2) := by decide +kernel
theorem dX8_overItem_99 : decode cX8_overItem 99 = .ok (.iload 4, 2) := by decide +kernel
theorem dX8_overItem_101 : decode cX8_overItem 101 = .ok (.ifCond .eq 45, 3) := by decide +kernel
theorem dX8_overItem_104 : decode cX8_overItem 104 = .ok (.aload_n 0, 1) := by decide +kernel
theorem dX8_overItem_105 : decode cX8_overItem 105 = .ok (.iload_n 3, 1) := by decide +kernel
theorem dX8_overItem_106 : decode cX8_overItem 106 = .ok (.invokevirtual 74, 3) := by decide +kernel
theorem dX8_overItem_109 : decode cX8_overItem 109 = .ok (.bipush 47, 2) := by decide +kernel
theorem dX8_overItem_111 : decode cX8_overItem 111 = .ok (.if_icmp .ne 35, 3) := by decide +kernel
theorem dX8_overItem_114 : decode cX8_overItem 114 = .ok (.iload_n 3, 1) := by decide +kernel
theorem dX8_overItem_115 : decode cX8_overItem 115 = .ok (.iconst 1, 1) := by decide +kernel
theorem dX8_overItem_116 : decode cX8_overItem 116 = .ok (.iadd, 1) := by decide +kernel
theorem dX8_overItem_117 : decode cX8_overItem 117 = .ok (.istore_n 3, 1) := by decide +kernel
theorem dX8_overItem_118 : decode cX8_overItem 118 = .ok (.aload_n 0, 1) := by decide +kernel
theorem dX8_overItem_119 : decode cX8_overItem 119 = .ok (.iload_n 3, 1) := by decide +kernel
theorem dX8_overItem_120 : decode cX8_overItem 120 = .ok (.invokevirtual 82, 3) := by decide +kernel
theorem dX8_overItem_123 : decode cX8_overItem 123 = .ok (.ifCond .eq 11, 3) := by decide +kernel
theorem dX8_overItem_126 : decode cX8_overItem 126 = .ok (.aload_n 0, 1) := by decide +kernel
theorem dX8_overItem_127 : decode cX8_overItem 127 = .ok (.iload_n 3, 1) := by decide +kernel
theorem dX8_overItem_128 : decode cX8_overItem 128 = .ok (.invokevirtual 85, 3) := by decide +kernel
theorem dX8_overItem_131 : decode cX8_overItem 131 = .ok (.ifCond .ne 7, 3) := by decide +kernel
theorem dX8_overItem_134 : decode cX8_overItem 134 = .ok (.iconst (-1), 1) := by decide +kernel
theorem dX8_overItem_135 : decode cX8_overItem 135 = .ok (.iload_n 3, 1) := by decide +kernel
theorem dX8_overItem_136 : decode cX8_overItem 136 = .ok (.isub, 1) := by decide +kernel
theorem dX8_overItem_137 : decode cX8_overItem 137 = .ok (.ireturn, 1) := by decide +kernel
theorem dX8_overItem_138 : decode cX8_overItem 138 = .ok (.iload_n 3, 1) := by decide +kernel
theorem dX8_overItem_139 : decode cX8_overItem 139 = .ok (.aload_n 0, 1) := by decide +kernel
theorem dX8_overItem_140 : decode cX8_overItem 140 = .ok (.iload_n 3, 1) := by decide +kernel
theorem dX8_overItem_141 : decode cX8_overItem 141 = .ok (.invokevirtual 82, 3) := by decide +kernel
theorem dX8_overItem_144 : decode cX8_overItem 144 = .ok (.iadd, 1) := by decide +kernel
theorem dX8_overItem_145 : decode cX8_overItem 145 = .ok (.istore_n 3, 1) := by decide +kernel
theorem dX8_overItem_146 : decode cX8_overItem 146 = .ok (.iload_n 3, 1) := by decide +kernel
theorem dX8_overItem_147 : decode cX8_overItem 147 = .ok (.ireturn, 1) := by decide +kernel
theorem dX8_faultOf_0 : decode cX8_faultOf 0 = .ok (.iconst 0, 1) := by decide +kernel
theorem dX8_faultOf_1 : decode cX8_faultOf 1 = .ok (.istore_n 1, 1) := by decide +kernel
theorem dX8_faultOf_2 : decode cX8_faultOf 2 = .ok (.iconst 0, 1) := by decide +kernel
theorem dX8_faultOf_3 : decode cX8_faultOf 3 = .ok (.istore_n 2, 1) := by decide +kernel
theorem dX8_faultOf_4 : decode cX8_faultOf 4 = .ok (.aload_n 0, 1) := by decide +kernel
theorem dX8_faultOf_5 : decode cX8_faultOf 5 = .ok (.getfield 23, 3) := by decide +kernel
theorem dX8_faultOf_8 : decode cX8_faultOf 8 = .ok (.iconst 5, 1) := by decide +kernel
theorem dX8_faultOf_9 : decode cX8_faultOf 9 = .ok (.aload_n 0, 1) := by decide +kernel
theorem dX8_faultOf_10 : decode cX8_faultOf 10 = .ok (.getfield 98, 3) := by decide +kernel
theorem dX8_faultOf_13 : decode cX8_faultOf 13 = .ok (.imul, 1) := by decide +kernel
theorem dX8_faultOf_14 : decode cX8_faultOf 14 = .ok (.iconst 0, 1) := by decide +kernel
theorem dX8_faultOf_15 : decode cX8_faultOf 15 = .ok (.iastore, 1) := by decide +kernel
theorem dX8_faultOf_16 : decode cX8_faultOf 16 = .ok (.aload_n 0, 1) := by decide +kernel
theorem dX8_faultOf_17 : decode cX8_faultOf 17 = .ok (.iload_n 1, 1) := by decide +kernel
theorem dX8_faultOf_18 : decode cX8_faultOf 18 = .ok (.iload_n 2, 1) := by decide +kernel
theorem dX8_faultOf_19 : decode cX8_faultOf 19 = .ok (.invokevirtual 101, 3) := by decide +kernel
theorem dX8_faultOf_22 : decode cX8_faultOf 22 = .ok (.istore_n 1, 1) := by decide +kernel
theorem dX8_faultOf_23 : decode cX8_faultOf 23 = .ok (.iload_n 1, 1) := by decide +kernel
theorem dX8_faultOf_24 : decode cX8_faultOf 24 = .ok (.ifCond .ge 7, 3) := by decide +kernel
theorem dX8_faultOf_27 : decode cX8_faultOf 27 = .ok (.iconst (-1), 1) := by decide +kernel
theorem dX8_faultOf_28 : decode cX8_faultOf 28 = .ok (.iload_n 1, 1) := by decide +kernel
theorem dX8_faultOf_29 : decode cX8_faultOf 29 = .ok (.isub, 1) := by decide +kernel
theorem dX8_faultOf_30 : decode cX8_faultOf 30 = .ok (.ireturn, 1) := by decide +kernel
theorem dX8_faultOf_31 : decode cX8_faultOf 31 = .ok (.iload_n 1, 1) := by decide +kernel
theorem dX8_faultOf_32 : decode cX8_faultOf 32 = .ok (.aload_n 0, 1) := by decide +kernel
theorem dX8_faultOf_33 : decode cX8_faultOf 33 = .ok (.getfield 71, 3) := by decide +kernel
theorem dX8_faultOf_36 : decode cX8_faultOf 36 = .ok (.if_icmp .ne 14, 3) := by decide +kernel
theorem dX8_faultOf_39 : decode cX8_faultOf 39 = .ok (.iload_n 2, 1) := by decide +kernel
theorem dX8_faultOf_40 : decode cX8_faultOf 40 = .ok (.iconst 4, 1) := by decide +kernel
theorem dX8_faultOf_41 : decode cX8_faultOf 41 = .ok (.if_icmp .ne 7, 3) := by decide +kernel
theorem dX8_faultOf_44 : decode cX8_faultOf 44 = .ok (.iconst (-1), 1) := by decide +kernel
theorem dX8_faultOf_45 : decode cX8_faultOf 45 = .ok (.goto 4, 3) := by decide +kernel
theorem dX8_faultOf_48 : decode cX8_faultOf 48 = .ok (.iload_n 1, 1) := by decide +kernel
theorem dX8_faultOf_49 : decode cX8_faultOf 49 = .ok (.ireturn, 1) := by decide +kernel
theorem dX8_faultOf_50 : decode cX8_faultOf 50 = .ok (.aload_n 0, 1) := by decide +kernel
theorem dX8_faultOf_51 : decode cX8_faultOf 51 = .ok (.iload_n 1, 1) := by decide +kernel
theorem dX8_faultOf_52 : decode cX8_faultOf 52 = .ok (.invokevirtual 74, 3) := by decide +kernel
theorem dX8_faultOf_55 : decode cX8_faultOf 55 = .ok (.bipush 44, 2) := by decide +kernel
theorem dX8_faultOf_57 : decode cX8_faultOf 57 = .ok (.if_icmp .eq 18, 3) := by decide +kernel
theorem dX8_faultOf_60 : decode cX8_faultOf 60 = .ok (.aload_n 0, 1) := by decide +kernel
theorem dX8_faultOf_61 : decode cX8_faultOf 61 = .ok (.iload_n 1, 1) := by decide +kernel
theorem dX8_faultOf_62 : decode cX8_faultOf 62 = .ok (.invokevirtual 74, 3) := by decide +kernel
theorem dX8_faultOf_65 : decode cX8_faultOf 65 = .ok (.bipush 32, 2) := by decide +kernel
theorem dX8_faultOf_67 : decode cX8_faultOf 67 = .ok (.if_icmp .ne 12, 3) := by decide +kernel
theorem dX8_faultOf_70 : decode cX8_faultOf 70 = .ok (.iload_n 2, 1) := by decide +kernel
theorem dX8_faultOf_71 : decode cX8_faultOf 71 = .ok (.iconst 4, 1) := by decide +kernel
theorem dX8_faultOf_72 : decode cX8_faultOf 72 = .ok (.if_icmp .ge 7, 3) := by decide +kernel
theorem dX8_faultOf_75 : decode cX8_faultOf 75 = .ok (.iconst 1, 1) := by decide +kernel
theorem dX8_faultOf_76 : decode cX8_faultOf 76 = .ok (.goto 4, 3) := by decide +kernel
theorem dX8_faultOf_79 : decode cX8_faultOf 79 = .ok (.iconst 0, 1) := by decide +kernel
theorem dX8_faultOf_80 : decode cX8_faultOf 80 = .ok (.istore_n 3, 1) := by decide +kernel
theorem dX8_faultOf_81 : decode cX8_faultOf 81 = .ok (.iload_n 3, 1) := by decide +kernel
theorem dX8_faultOf_82 : decode cX8_faultOf 82 = .ok (.ifCond .ne 5, 3) := by decide +kernel
theorem dX8_faultOf_85 : decode cX8_faultOf 85 = .ok (.iload_n 1, 1) := by decide +kernel
theorem dX8_faultOf_86 : decode cX8_faultOf 86 = .ok (.ireturn, 1) := by decide +kernel
theorem dX8_faultOf_87 : decode cX8_faultOf 87 = .ok (.aload_n 0, 1) := by decide +kernel
theorem dX8_faultOf_88 : decode cX8_faultOf 88 = .ok (.iload_n 1, 1) := by decide +kernel
theorem dX8_faultOf_89 : decode cX8_faultOf 89 = .ok (.invokevirtual 74, 3) := by decide +kernel
theorem dX8_faultOf_92 : decode cX8_faultOf 92 = .ok (.bipush 32, 2) := by decide +kernel
theorem dX8_faultOf_94 : decode cX8_faultOf 94 = .ok (.if_icmp .ne 23, 3) := by decide +kernel
theorem dX8_faultOf_97 : decode cX8_faultOf 97 = .ok (.iload_n 2, 1) := by decide +kernel
theorem dX8_faultOf_98 : decode cX8_faultOf 98 = .ok (.iconst 1, 1) := by decide +kernel
theorem dX8_faultOf_99 : decode cX8_faultOf 99 = .ok (.iadd, 1) := by decide +kernel
theorem dX8_faultOf_100 : decode cX8_faultOf 100 = .ok (.istore_n 2, 1) := by decide +kernel
theorem dX8_faultOf_101 : decode cX8_faultOf 101 = .ok (.aload_n 0, 1) := by decide +kernel
theorem dX8_faultOf_102 : decode cX8_faultOf 102 = .ok (.getfield 23, 3) := by decide +kernel
theorem dX8_faultOf_105 : decode cX8_faultOf 105 = .ok (.iconst 5, 1) := by decide +kernel
theorem dX8_faultOf_106 : decode cX8_faultOf 106 = .ok (.aload_n 0, 1) := by decide +kernel
theorem dX8_faultOf_107 : decode cX8_faultOf 107 = .ok (.getfield 98, 3) := by decide +kernel
theorem dX8_faultOf_110 : decode cX8_faultOf 110 = .ok (.imul, 1) := by decide +kernel
theorem dX8_faultOf_111 : decode cX8_faultOf 111 = .ok (.iload_n 2, 1) := by decide +kernel
theorem dX8_faultOf_112 : decode cX8_faultOf 112 = .ok (.iadd, 1) := by decide +kernel
theorem dX8_faultOf_113 : decode cX8_faultOf 113 = .ok (.iload_n 1, 1) := by decide +kernel
theorem dX8_faultOf_114 : decode cX8_faultOf 114 = .ok (.iconst 1, 1) := by decide +kernel
theorem dX8_faultOf_115 : decode cX8_faultOf 115 = .ok (.iadd, 1) := by decide +kernel
theorem dX8_faultOf_116 : decode cX8_faultOf 116 = .ok (.iastore, 1) := by decide +kernel
theorem dX8_faultOf_117 : decode cX8_faultOf 117 = .ok (.iload_n 1, 1) := by decide +kernel
theorem dX8_faultOf_118 : decode cX8_faultOf 118 = .ok (.iconst 1, 1) := by decide +kernel
theorem dX8_faultOf_119 : decode cX8_faultOf 119 = .ok (.iadd, 1) := by decide +kernel
theorem dX8_faultOf_120 : decode cX8_faultOf 120 = .ok (.istore_n 1, 1) := by decide +kernel
theorem dX8_faultOf_121 : decode cX8_faultOf 121 = .ok (.goto (-105), 3) := by decide +kernel
theorem dX8_job_0 : decode cX8_job 0 = .ok (.aload_n 0, 1) := by decide +kernel
theorem dX8_job_1 : decode cX8_job 1 = .ok (.aload_n 0, 1) := by decide +kernel
theorem dX8_job_2 : decode cX8_job 2 = .ok (.getfield 98, 3) := by decide +kernel
theorem dX8_job_5 : decode cX8_job 5 = .ok (.bipush 6, 2) := by decide +kernel
theorem dX8_job_7 : decode cX8_job 7 = .ok (.if_icmp .ne 7, 3) := by decide +kernel
theorem dX8_job_10 : decode cX8_job 10 = .ok (.iconst 1, 1) := by decide +kernel
theorem dX8_job_11 : decode cX8_job 11 = .ok (.goto 4, 3) := by decide +kernel
theorem dX8_job_14 : decode cX8_job 14 = .ok (.iconst 0, 1) := by decide +kernel
theorem dX8_job_15 : decode cX8_job 15 = .ok (.putfield 66, 3) := by decide +kernel
theorem dX8_job_18 : decode cX8_job 18 = .ok (.aload_n 0, 1) := by decide +kernel
theorem dX8_job_19 : decode cX8_job 19 = .ok (.getfield 66, 3) := by decide +kernel
theorem dX8_job_22 : decode cX8_job 22 = .ok (.ifCond .le 5, 3) := by decide +kernel
theorem dX8_job_25 : decode cX8_job 25 = .ok (.iconst 0, 1) := by decide +kernel
theorem dX8_job_26 : decode cX8_job 26 = .ok (.ireturn, 1) := by decide +kernel
theorem dX8_job_27 : decode cX8_job 27 = .ok (.aload_n 0, 1) := by decide +kernel
theorem dX8_job_28 : decode cX8_job 28 = .ok (.aload_n 0, 1) := by decide +kernel
theorem dX8_job_29 : decode cX8_job 29 = .ok (.invokevirtual 105, 3) := by decide +kernel
theorem dX8_job_32 : decode cX8_job 32 = .ok (.putfield 17, 3) := by decide +kernel
theorem dX8_job_35 : decode cX8_job 35 = .ok (.aload_n 0, 1) := by decide +kernel
theorem dX8_job_36 : decode cX8_job 36 = .ok (.aload_n 0, 1) := by decide +kernel
theorem dX8_job_37 : decode cX8_job 37 = .ok (.getfield 17, 3) := by decide +kernel
theorem dX8_job_40 : decode cX8_job 40 = .ok (.ifCond .lt 7, 3) := by decide +kernel
theorem dX8_job_43 : decode cX8_job 43 = .ok (.iconst 2, 1) := by decide +kernel
theorem dX8_job_44 : decode cX8_job 44 = .ok (.goto 4, 3) := by decide +kernel
theorem dX8_job_47 : decode cX8_job 47 = .ok (.iconst 0, 1) := by decide +kernel
theorem dX8_job_48 : decode cX8_job 48 = .ok (.putfield 66, 3) := by decide +kernel
theorem dX8_job_51 : decode cX8_job 51 = .ok (.aload_n 0, 1) := by decide +kernel
theorem dX8_job_52 : decode cX8_job 52 = .ok (.getfield 66, 3) := by decide +kernel
theorem dX8_job_55 : decode cX8_job 55 = .ok (.ifCond .le 5, 3) := by decide +kernel
theorem dX8_job_58 : decode cX8_job 58 = .ok (.iconst 0, 1) := by decide +kernel
theorem dX8_job_59 : decode cX8_job 59 = .ok (.ireturn, 1) := by decide +kernel
theorem dX8_job_60 : decode cX8_job 60 = .ok (.iconst 0, 1) := by decide +kernel
theorem dX8_job_61 : decode cX8_job 61 = .ok (.istore_n 2, 1) := by decide +kernel
theorem dX8_job_62 : decode cX8_job 62 = .ok (.iload_n 2, 1) := by decide +kernel
theorem dX8_job_63 : decode cX8_job 63 = .ok (.bipush 61, 2) := by decide +kernel
theorem dX8_job_65 : decode cX8_job 65 = .ok (.if_icmp .ge 28, 3) := by decide +kernel
theorem dX8_job_68 : decode cX8_job 68 = .ok (.aload_n 0, 1) := by decide +kernel
theorem dX8_job_69 : decode cX8_job 69 = .ok (.getfield 20, 3) := by decide +kernel
theorem dX8_job_72 : decode cX8_job 72 = .ok (.bipush 61, 2) := by decide +kernel
theorem dX8_job_74 : decode cX8_job 74 = .ok (.aload_n 0, 1) := by decide +kernel
theorem dX8_job_75 : decode cX8_job 75 = .ok (.getfield 98, 3) := by decide +kernel
theorem dX8_job_78 : decode cX8_job 78 = .ok (.imul, 1) := by decide +kernel
theorem dX8_job_79 : decode cX8_job 79 = .ok (.iload_n 2, 1) := by decide +kernel
theorem dX8_job_80 : decode cX8_job 80 = .ok (.iadd, 1) := by decide +kernel
theorem dX8_job_81 : decode cX8_job 81 = .ok (.aload_n 0, 1) := by decide +kernel
theorem dX8_job_82 : decode cX8_job 82 = .ok (.iload_n 2, 1) := by decide +kernel
theorem dX8_job_83 : decode cX8_job 83 = .ok (.invokevirtual 74, 3) := by decide +kernel
theorem dX8_job_86 : decode cX8_job 86 = .ok (.iastore, 1) := by decide +kernel
theorem dX8_job_87 : decode cX8_job 87 = .ok (.iinc 2 1, 3) := by decide +kernel
theorem dX8_job_90 : decode cX8_job 90 = .ok (.goto (-28), 3) := by decide +kernel
theorem dX8_job_93 : decode cX8_job 93 = .ok (.aload_n 0, 1) := by decide +kernel
theorem dX8_job_94 : decode cX8_job 94 = .ok (.getfield 26, 3) := by decide +kernel
theorem dX8_job_97 : decode cX8_job 97 = .ok (.aload_n 0, 1) := by decide +kernel
theorem dX8_job_98 : decode cX8_job 98 = .ok (.getfield 98, 3) := by decide +kernel
theorem dX8_job_101 : decode cX8_job 101 = .ok (.iload_n 1, 1) := by decide +kernel
theorem dX8_job_102 : decode cX8_job 102 = .ok (.iastore, 1) := by decide +kernel
theorem dX8_job_103 : decode cX8_job 103 = .ok (.aload_n 0, 1) := by decide +kernel
theorem dX8_job_104 : decode cX8_job 104 = .ok (.iconst 0, 1) := by decide +kernel
theorem dX8_job_105 : decode cX8_job 105 = .ok (.putfield 71, 3) := by decide +kernel
theorem dX8_job_108 : decode cX8_job 108 = .ok (.aload_n 0, 1) := by decide +kernel
theorem dX8_job_109 : decode cX8_job 109 = .ok (.aload_n 0, 1) := by decide +kernel
theorem dX8_job_110 : decode cX8_job 110 = .ok (.getfield 98, 3) := by decide +kernel
theorem dX8_job_113 : decode cX8_job 113 = .ok (.iconst 1, 1) := by decide +kernel
theorem dX8_job_114 : decode cX8_job 114 = .ok (.iadd, 1) := by decide +kernel
theorem dX8_job_115 : decode cX8_job 115 = .ok (.putfield 98, 3) := by decide +kernel
theorem dX8_job_118 : decode cX8_job 118 = .ok (.aload_n 0, 1) := by decide +kernel
theorem dX8_job_119 : decode cX8_job 119 = .ok (.getfield 98, 3) := by decide +kernel
theorem dX8_job_122 : decode cX8_job 122 = .ok (.iconst 1, 1) := by decide +kernel
theorem dX8_job_123 : decode cX8_job 123 = .ok (.isub, 1) := by decide +kernel
theorem dX8_job_124 : decode cX8_job 124 = .ok (.ireturn, 1) := by decide +kernel
theorem dX8_fault_0 : decode cX8_fault 0 = .ok (.aload_n 0, 1) := by decide +kernel
theorem dX8_fault_1 : decode cX8_fault 1 = .ok (.iconst 0, 1) := by decide +kernel
theorem dX8_fault_2 : decode cX8_fault 2 = .ok (.putfield 66, 3) := by decide +kernel
theorem dX8_fault_5 : decode cX8_fault 5 = .ok (.aload_n 0, 1) := by decide +kernel
theorem dX8_fault_6 : decode cX8_fault 6 = .ok (.getfield 17, 3) := by decide +kernel
theorem dX8_fault_9 : decode cX8_fault 9 = .ok (.ireturn, 1) := by decide +kernel
theorem dX8_isLetterDigit_0 : decode cX8_isLetterDigit 0 = .ok (.aload_n 0, 1) := by decide +kernel
theorem dX8_isLetterDigit_1 : decode cX8_isLetterDigit 1 = .ok (.getfield 20, 3) := by decide +kernel
theorem dX8_isLetterDigit_4 : decode cX8_isLetterDigit 4 = .ok (.iload_n 1, 1) := by decide +kernel
theorem dX8_isLetterDigit_5 : decode cX8_isLetterDigit 5 = .ok (.iaload, 1) := by decide +kernel
theorem dX8_isLetterDigit_6 : decode cX8_isLetterDigit 6 = .ok (.invokestatic 78, 3) := by decide +kernel
theorem dX8_isLetterDigit_9 : decode cX8_isLetterDigit 9 = .ok (.ireturn, 1) := by decide +kernel
theorem dX8_numberFrom_0 : decode cX8_numberFrom 0 = .ok (.aload_n 0, 1) := by decide +kernel
theorem dX8_numberFrom_1 : decode cX8_numberFrom 1 = .ok (.getfield 20, 3) := by decide +kernel
theorem dX8_numberFrom_4 : decode cX8_numberFrom 4 = .ok (.iload_n 1, 1) := by decide +kernel
theorem dX8_numberFrom_5 : decode cX8_numberFrom 5 = .ok (.iaload, 1) := by decide +kernel
theorem dX8_numberFrom_6 : decode cX8_numberFrom 6 = .ok (.bipush 48, 2) := by decide +kernel
theorem dX8_numberFrom_8 : decode cX8_numberFrom 8 = .ok (.isub, 1) := by decide +kernel
theorem dX8_numberFrom_9 : decode cX8_numberFrom 9 = .ok (.istore_n 2, 1) := by decide +kernel
theorem dX8_numberFrom_10 : decode cX8_numberFrom 10 = .ok (.aload_n 0, 1) := by decide +kernel
theorem dX8_numberFrom_11 : decode cX8_numberFrom 11 = .ok (.iload_n 1, 1) := by decide +kernel
theorem dX8_numberFrom_12 : decode cX8_numberFrom 12 = .ok (.iconst 1, 1) := by decide +kernel
theorem dX8_numberFrom_13 : decode cX8_numberFrom 13 = .ok (.iadd, 1) := by decide +kernel
theorem dX8_numberFrom_14 : decode cX8_numberFrom 14 = .ok (.invokevirtual 109, 3) := by decide +kernel
theorem dX8_numberFrom_17 : decode cX8_numberFrom 17 = .ok (.ifCond .eq 22, 3) := by decide +kernel
theorem dX8_numberFrom_20 : decode cX8_numberFrom 20 = .ok (.bipush 10, 2) := by decide +kernel
theorem dX8_numberFrom_22 : decode cX8_numberFrom 22 = .ok (.iload_n 2, 1) := by decide +kernel
theorem dX8_numberFrom_23 : decode cX8_numberFrom 23 = .ok (.imul, 1) := by decide +kernel
theorem dX8_numberFrom_24 : decode cX8_numberFrom 24 = .ok (.aload_n 0, 1) := by decide +kernel
theorem dX8_numberFrom_25 : decode cX8_numberFrom 25 = .ok (.getfield 20, 3) := by decide +kernel
theorem dX8_numberFrom_28 : decode cX8_numberFrom 28 = .ok (.iload_n 1, 1) := by decide +kernel
theorem dX8_numberFrom_29 : decode cX8_numberFrom 29 = .ok (.iconst 1, 1) := by decide +kernel
theorem dX8_numberFrom_30 : decode cX8_numberFrom 30 = .ok (.iadd, 1) := by decide +kernel
theorem dX8_numberFrom_31 : decode cX8_numberFrom 31 = .ok (.iaload, 1) := by decide +kernel
theorem dX8_numberFrom_32 : decode cX8_numberFrom 32 = .ok (.iadd, 1) := by decide +kernel
theorem dX8_numberFrom_33 : decode cX8_numberFrom 33 = .ok (.bipush 48, 2) := by decide +kernel
theorem dX8_numberFrom_35 : decode cX8_numberFrom 35 = .ok (.isub, 1) := by decide +kernel
theorem dX8_numberFrom_36 : decode cX8_numberFrom 36 = .ok (.goto 4, 3) := by decide +kernel
theorem dX8_numberFrom_39 : decode cX8_numberFrom 39 = .ok (.iload_n 2, 1) := by decide +kernel
theorem dX8_numberFrom_40 : decode cX8_numberFrom 40 = .ok (.ireturn, 1) := by decide +kernel
theorem dX8_behindNumber_0 : decode cX8_behindNumber 0 = .ok (.aload_n 0, 1) := by decide +kernel
theorem dX8_behindNumber_1 : decode cX8_behindNumber 1 = .ok (.iload_n 1, 1) := by decide +kernel
theorem dX8_behindNumber_2 : decode cX8_behindNumber 2 = .ok (.iconst 1, 1) := by decide +kernel
theorem dX8_behindNumber_3 : decode cX8_behindNumber 3 = .ok (.iadd, 1) := by decide +kernel
theorem dX8_behindNumber_4 : decode cX8_behindNumber 4 = .ok (.invokevirtual 109, 3) := by decide +kernel
theorem dX8_behindNumber_7 : decode cX8_behindNumber 7 = .ok (.ifCond .eq 9, 3) := by decide +kernel
theorem dX8_behindNumber_10 : decode cX8_behindNumber 10 = .ok (.iload_n 1, 1) := by decide +kernel
theorem dX8_behindNumber_11 : decode cX8_behindNumber 11 = .ok (.iconst 2, 1) := by decide +kernel
theorem dX8_behindNumber_12 : decode cX8_behindNumber 12 = .ok (.iadd, 1) := by decide +kernel
theorem dX8_behindNumber_13 : decode cX8_behindNumber 13 = .ok (.goto 6, 3) := by decide +kernel
theorem dX8_behindNumber_16 : decode cX8_behindNumber 16 = .ok (.iload_n 1, 1) := by decide +kernel
theorem dX8_behindNumber_17 : decode cX8_behindNumber 17 = .ok (.iconst 1, 1) := by decide +kernel
theorem dX8_behindNumber_18 : decode cX8_behindNumber 18 = .ok (.iadd, 1) := by decide +kernel
theorem dX8_behindNumber_19 : decode cX8_behindNumber 19 = .ok (.ireturn, 1) := by decide +kernel
theorem dX8_itemHas_0 : decode cX8_itemHas 0 = .ok (.iload_n 2, 1) := by decide +kernel
theorem dX8_itemHas_1 : decode cX8_itemHas 1 = .ok (.invokestatic 91, 3) := by decide +kernel
theorem dX8_itemHas_4 : decode cX8_itemHas 4 = .ok (.istore 4, 2) := by decide +kernel
theorem dX8_itemHas_6 : decode cX8_itemHas 6 = .ok (.iload_n 2, 1) := by decide +kernel
theorem dX8_itemHas_7 : decode cX8_itemHas 7 = .ok (.invokestatic 88, 3) := by decide +kernel
theorem dX8_itemHas_10 : decode cX8_itemHas 10 = .ok (.istore 5, 2) := by decide +kernel
theorem dX8_itemHas_12 : decode cX8_itemHas 12 = .ok (.iload_n 1, 1) := by decide +kernel
theorem dX8_itemHas_13 : decode cX8_itemHas 13 = .ok (.iconst 1, 1) := by decide +kernel
theorem dX8_itemHas_14 : decode cX8_itemHas 14 = .ok (.iadd, 1) := by decide +kernel
theorem dX8_itemHas_15 : decode cX8_itemHas 15 = .ok (.istore 6, 2) := by decide +kernel
theorem dX8_itemHas_17 : decode cX8_itemHas 17 = .ok (.aload_n 0, 1) := by decide +kernel
theorem dX8_itemHas_18 : decode cX8_itemHas 18 = .ok (.getfield 20, 3) := by decide +kernel
theorem dX8_itemHas_21 : decode cX8_itemHas 21 = .ok (.iload_n 1, 1) := by decide +kernel
theorem dX8_itemHas_22 : decode cX8_itemHas 22 = .ok (.iaload, 1) := by decide +kernel
theorem dX8_itemHas_23 : decode cX8_itemHas 23 = .ok (.bipush 42, 2) := by decide +kernel
theorem dX8_itemHas_25 : decode cX8_itemHas 25 = .ok (.if_icmp .eq 53, 3) := by decide +kernel
theorem dX8_itemHas_28 : decode cX8_itemHas 28 = .ok (.aload_n 0, 1) := by decide +kernel
theorem dX8_itemHas_29 : decode cX8_itemHas 29 = .ok (.iload_n 1, 1) := by decide +kernel
theorem dX8_itemHas_30 : decode cX8_itemHas 30 = .ok (.invokevirtual 112, 3) := by decide +kernel
theorem dX8_itemHas_33 : decode cX8_itemHas 33 = .ok (.istore 4, 2) := by decide +kernel
theorem dX8_itemHas_35 : decode cX8_itemHas 35 = .ok (.iload 4, 2) := by decide +kernel
theorem dX8_itemHas_37 : decode cX8_itemHas 37 = .ok (.istore 5, 2) := by decide +kernel
theorem dX8_itemHas_39 : decode cX8_itemHas 39 = .ok (.aload_n 0, 1) := by decide +kernel
theorem dX8_itemHas_40 : decode cX8_itemHas 40 = .ok (.iload_n 1, 1) := by decide +kernel
theorem dX8_itemHas_41 : decode cX8_itemHas 41 = .ok (.invokevirtual 115, 3) := by decide +kernel
theorem dX8_itemHas_44 : decode cX8_itemHas 44 = .ok (.istore 6, 2) := by decide +kernel
theorem dX8_itemHas_46 : decode cX8_itemHas 46 = .ok (.aload_n 0, 1) := by decide +kernel
theorem dX8_itemHas_47 : decode cX8_itemHas 47 = .ok (.getfield 20, 3) := by decide +kernel
theorem dX8_itemHas_50 : decode cX8_itemHas 50 = .ok (.iload 6, 2) := by decide +kernel
theorem dX8_itemHas_52 : decode cX8_itemHas 52 = .ok (.iaload, 1) := by decide +kernel
theorem dX8_itemHas_53 : decode cX8_itemHas 53 = .ok (.bipush 45, 2) := by decide +kernel
theorem dX8_itemHas_55 : decode cX8_itemHas 55 = .ok (.if_icmp .ne 23, 3) := by decide +kernel
theorem dX8_itemHas_58 : decode cX8_itemHas 58 = .ok (.aload_n 0, 1) := by decide +kernel
theorem dX8_itemHas_59 : decode cX8_itemHas 59 = .ok (.iload 6, 2) := by decide +kernel
theorem dX8_itemHas_61 : decode cX8_itemHas 61 = .ok (.iconst 1, 1) := by decide +kernel
theorem dX8_itemHas_62 : decode cX8_itemHas 62 = .ok (.iadd, 1) := by decide +kernel
theorem dX8_itemHas_63 : decode cX8_itemHas 63 = .ok (.invokevirtual 112, 3) := by decide +kernel
theorem dX8_itemHas_66 : decode cX8_itemHas 66 = .ok (.istore 5, 2) := by decide +kernel
theorem dX8_itemHas_68 : decode cX8_itemHas 68 = .ok (.aload_n 0, 1) := by decide +kernel
theorem dX8_itemHas_69 : decode cX8_itemHas 69 = .ok (.iload 6, 2) := by decide +kernel
theorem dX8_itemHas_71 : decode cX8_itemHas 71 = .ok (.iconst 1, 1) := by decide +kernel
theorem dX8_itemHas_72 : decode cX8_itemHas 72 = .ok (.iadd, 1) := by decide +kernel
theorem dX8_itemHas_73 : decode cX8_itemHas 73 = .ok (.invokevirtual 115, 3) := by decide +kernel
theorem dX8_itemHas_76 : decode cX8_itemHas 76 = .ok (.istore 6, 2) := by decide +kernel
theorem dX8_itemHas_78 : decode cX8_itemHas 78 = .ok (.aload_n 0, 1) := by decide +kernel
theorem dX8_itemHas_79 : decode cX8_itemHas 79 = .ok (.getfield 20, 3) := by decide +kernel
theorem dX8_itemHas_82 : decode cX8_itemHas 82 = .ok (.iload 6, 2) := by decide +kernel
theorem dX8_itemHas_84 : decode cX8_itemHas 84 = .ok (.iaload, 1) := by decide +kernel
theorem dX8_itemHas_85 : decode cX8_itemHas 85 = .ok (.bipush 47, 2) := by decide +kernel
theorem dX8_itemHas_87 : decode cX8_itemHas 87 = .ok (.if_icmp .ne 14, 3) := by decide +kernel
theorem dX8_itemHas_90 : decode cX8_itemHas 90 = .ok (.aload_n 0, 1) := by decide +kernel
theorem dX8_itemHas_91 : decode cX8_itemHas 91 = .ok (.iload 6, 2) := by decide +kernel
theorem dX8_itemHas_93 : decode cX8_itemHas 93 = .ok (.iconst 1, 1) := by decide +kernel
theorem dX8_itemHas_94 : decode cX8_itemHas 94 = .ok (.iadd, 1) := by decide +kernel
theorem dX8_itemHas_95 : decode cX8_itemHas 95 = .ok (.invokevirtual 112, 3) := by decide +kernel
theorem dX8_itemHas_98 : decode cX8_itemHas 98 = .ok (.goto 4, 3) := by decide +kernel
theorem dX8_itemHas_101 : decode cX8_itemHas 101 = .ok (.iconst 1, 1) := by decide +kernel
theorem dX8_itemHas_102 : decode cX8_itemHas 102 = .ok (.istore 7, 2) := by decide +kernel
theorem dX8_itemHas_104 : decode cX8_itemHas 104 = .ok (.iload_n 3, 1) := by decide +kernel
theorem dX8_itemHas_105 : decode cX8_itemHas 105 = .ok (.iload 4, 2) := by decide +kernel
theorem dX8_itemHas_107 : decode cX8_itemHas 107 = .ok (.if_icmp .lt 23, 3) := by decide +kernel
theorem dX8_itemHas_110 : decode cX8_itemHas 110 = .ok (.iload_n 3, 1) := by decide +kernel
theorem dX8_itemHas_111 : decode cX8_itemHas 111 = .ok (.iload 5, 2) := by decide +kernel
theorem dX8_itemHas_113 : decode cX8_itemHas 113 = .ok (.if_icmp .gt 17, 3) := by decide +kernel
theorem dX8_itemHas_116 : decode cX8_itemHas 116 = .ok (.iload_n 3, 1) := by decide +kernel
theorem dX8_itemHas_117 : decode cX8_itemHas 117 = .ok (.iload 4, 2) := by decide +kernel
theorem dX8_itemHas_119 : decode cX8_itemHas 119 = .ok (.isub, 1) := by decide +kernel
theorem dX8_itemHas_120 : decode cX8_itemHas 120 = .ok (.iload 7, 2) := by decide +kernel
theorem dX8_itemHas_122 : decode cX8_itemHas 122 = .ok (.irem, 1) := by decide +kernel
theorem dX8_itemHas_123 : decode cX8_itemHas 123 = .ok (.ifCond .ne 7, 3) := by decide +kernel
theorem dX8_itemHas_126 : decode cX8_itemHas 126 = .ok (.iconst 1, 1) := by decide +kernel
theorem dX8_itemHas_127 : decode cX8_itemHas 127 = .ok (.goto 4, 3) := by decide +kernel
theorem dX8_itemHas_130 : decode cX8_itemHas 130 = .ok (.iconst 0, 1) := by decide +kernel
theorem dX8_itemHas_131 : decode cX8_itemHas 131 = .ok (.ireturn, 1) := by decide +kernel
theorem dX8_has_0 : decode cX8_has 0 = .ok (.bipush 61, 2) := by decide +kernel
theorem dX8_has_2 : decode cX8_has 2 = .ok (.iload_n 1, 1) := by decide +kernel
theorem dX8_has_3 : decode cX8_has 3 = .ok (.imul, 1) := by decide +kernel
theorem dX8_has_4 : decode cX8_has 4 = .ok (.aload_n 0, 1) := by decide +kernel
theorem dX8_has_5 : decode cX8_has 5 = .ok (.getfield 23, 3) := by decide +kernel
theorem dX8_has_8 : decode cX8_has 8 = .ok (.iconst 5, 1) := by decide +kernel
theorem dX8_has_9 : decode cX8_has 9 = .ok (.iload_n 1, 1) := by decide +kernel
theorem dX8_has_10 : decode cX8_has 10 = .ok (.imul, 1) := by decide +kernel
theorem dX8_has_11 : decode cX8_has 11 = .ok (.iload_n 2, 1) := by decide +kernel
theorem dX8_has_12 : decode cX8_has 12 = .ok (.iadd, 1) := by decide +kernel
theorem dX8_has_13 : decode cX8_has 13 = .ok (.iaload, 1) := by decide +kernel
theorem dX8_has_14 : decode cX8_has 14 = .ok (.iadd, 1) := by decide +kernel
theorem dX8_has_15 : decode cX8_has 15 = .ok (.istore 4, 2) := by decide +kernel
theorem dX8_has_17 : decode cX8_has 17 = .ok (.aload_n 0, 1) := by decide +kernel
theorem dX8_has_18 : decode cX8_has 18 = .ok (.iload 4, 2) := by decide +kernel
theorem dX8_has_20 : decode cX8_has 20 = .ok (.iload_n 2, 1) := by decide +kernel
theorem dX8_has_21 : decode cX8_has 21 = .ok (.iload_n 3, 1) := by decide +kernel
theorem dX8_has_22 : decode cX8_has 22 = .ok (.invokevirtual 118, 3) := by decide +kernel
theorem dX8_has_25 : decode cX8_has 25 = .ok (.istore 5, 2) := by decide +kernel
theorem dX8_has_27 : decode cX8_has 27 = .ok (.aload_n 0, 1) := by decide +kernel
theorem dX8_has_28 : decode cX8_has 28 = .ok (.getfield 20, 3) := by decide +kernel
theorem dX8_has_31 : decode cX8_has 31 = .ok (.iload 4, 2) := by decide +kernel
theorem dX8_has_33 : decode cX8_has 33 = .ok (.iaload, 1) := by decide +kernel
theorem dX8_has_34 : decode cX8_has 34 = .ok (.bipush 32, 2) := by decide +kernel
theorem dX8_has_36 : decode cX8_has 36 = .ok (.if_icmp .eq 59, 3) := by decide +kernel
theorem dX8_has_39 : decode cX8_has 39 = .ok (.aload_n 0, 1) := by decide +kernel
theorem dX8_has_40 : decode cX8_has 40 = .ok (.getfield 20, 3) := by decide +kernel
theorem dX8_has_43 : decode cX8_has 43 = .ok (.iload 4, 2) := by decide +kernel
theorem dX8_has_45 : decode cX8_has 45 = .ok (.iaload, 1) := by decide +kernel
theorem dX8_has_46 : decode cX8_has 46 = .ok (.ifCond .eq 49, 3) := by decide +kernel
theorem dX8_has_49 : decode cX8_has 49 = .ok (.aload_n 0, 1) := by decide +kernel
theorem dX8_has_50 : decode cX8_has 50 = .ok (.getfield 20, 3) := by decide +kernel
theorem dX8_has_53 : decode cX8_has 53 = .ok (.iload 4, 2) := by decide +kernel
theorem dX8_has_55 : decode cX8_has 55 = .ok (.iaload, 1) := by decide +kernel
theorem dX8_has_56 : decode cX8_has 56 = .ok (.bipush 44, 2) := by decide +kernel
theorem dX8_has_58 : decode cX8_has 58 = .ok (.if_icmp .ne 28, 3) := by decide +kernel
theorem dX8_has_61 : decode cX8_has 61 = .ok (.iload 5, 2) := by decide +kernel
theorem dX8_has_63 : decode cX8_has 63 = .ok (.ifCond .ne 16, 3) := by decide +kernel
theorem dX8_has_66 : decode cX8_has 66 = .ok (.aload_n 0, 1) := by decide +kernel
theorem dX8_has_67 : decode cX8_has 67 = .ok (.iload 4, 2) := by decide +kernel
theorem dX8_has_69 : decode cX8_has 69 = .ok (.iconst 1, 1) := by decide +kernel
theorem dX8_has_70 : decode cX8_has 70 = .ok (.iadd, 1) := by decide +kernel
theorem dX8_has_71 : decode cX8_has 71 = .ok (.iload_n 2, 1) := by decide +kernel
theorem dX8_has_72 : decode cX8_has 72 = .ok (.iload_n 3, 1) := by decide +kernel
theorem dX8_has_73 : decode cX8_has 73 = .ok (.invokevirtual 118, 3) := by decide +kernel
theorem dX8_has_76 : decode cX8_has 76 = .ok (.ifCond .eq 7, 3) := by decide +kernel
theorem dX8_has_79 : decode cX8_has 79 = .ok (.iconst 1, 1) := by decide +kernel
theorem dX8_has_80 : decode cX8_has 80 = .ok (.goto 4, 3) := by decide +kernel
theorem dX8_has_83 : decode cX8_has 83 = .ok (.iconst 0, 1) := by decide +kernel
theorem dX8_has_84 : decode cX8_has 84 = .ok (.istore 5, 2) := by decide +kernel
theorem dX8_has_86 : decode cX8_has 86 = .ok (.iload 4, 2) := by decide +kernel
theorem dX8_has_88 : decode cX8_has 88 = .ok (.iconst 1, 1) := by decide +kernel
theorem dX8_has_89 : decode cX8_has 89 = .ok (.iadd, 1) := by decide +kernel
theorem dX8_has_90 : decode cX8_has 90 = .ok (.istore 4, 2) := by decide +kernel
theorem dX8_has_92 : decode cX8_has 92 = .ok (.goto (-65), 3) := by decide +kernel
theorem dX8_has_95 : decode cX8_has 95 = .ok (.iload 5, 2) := by decide +kernel
theorem dX8_has_97 : decode cX8_has 97 = .ok (.ireturn, 1) := by decide +kernel
theorem dX8_isFree_0 : decode cX8_isFree 0 = .ok (.aload_n 0, 1) := by decide +kernel
theorem dX8_isFree_1 : decode cX8_isFree 1 = .ok (.getfield 20, 3) := by decide +kernel
theorem dX8_isFree_4 : decode cX8_isFree 4 = .ok (.bipush 61, 2) := by decide +kernel
theorem dX8_isFree_6 : decode cX8_isFree 6 = .ok (.iload_n 1, 1) := by decide +kernel
theorem dX8_isFree_7 : decode cX8_isFree 7 = .ok (.imul, 1) := by decide +kernel
theorem dX8_isFree_8 : decode cX8_isFree 8 = .ok (.aload_n 0, 1) := by decide +kernel
theorem dX8_isFree_9 : decode cX8_isFree 9 = .ok (.getfield 23, 3) := by decide +kernel
theorem dX8_isFree_12 : decode cX8_isFree 12 = .ok (.iconst 5, 1) := by decide +kernel
theorem dX8_isFree_13 : decode cX8_isFree 13 = .ok (.iload_n 1, 1) := by decide +kernel
theorem dX8_isFree_14 : decode cX8_isFree 14 = .ok (.imul, 1) := by decide +kernel
theorem dX8_isFree_15 : decode cX8_isFree 15 = .ok (.iload_n 2, 1) := by decide +kernel
theorem dX8_isFree_16 : decode cX8_isFree 16 = .ok (.iadd, 1) := by decide +kernel
theorem dX8_isFree_17 : decode cX8_isFree 17 = .ok (.iaload, 1) := by decide +kernel
theorem dX8_isFree_18 : decode cX8_isFree 18 = .ok (.iadd, 1) := by decide +kernel
theorem dX8_isFree_19 : decode cX8_isFree 19 = .ok (.iaload, 1) := by decide +kernel
theorem dX8_isFree_20 : decode cX8_isFree 20 = .ok (.bipush 42, 2) := by decide +kernel
theorem dX8_isFree_22 : decode cX8_isFree 22 = .ok (.if_icmp .ne 7, 3) := by decide +kernel
theorem dX8_isFree_25 : decode cX8_isFree 25 = .ok (.iconst 1, 1) := by decide +kernel
theorem dX8_isFree_26 : decode cX8_isFree 26 = .ok (.goto 4, 3) := by decide +kernel
theorem dX8_isFree_29 : decode cX8_isFree 29 = .ok (.iconst 0, 1) := by decide +kernel
theorem dX8_isFree_30 : decode cX8_isFree 30 = .ok (.ireturn, 1) := by decide +kernel
theorem dX8_isLeap_0 : decode cX8_isLeap 0 = .ok (.iload_n 0, 1) := by decide +kernel
theorem dX8_isLeap_1 : decode cX8_isLeap 1 = .ok (.sipush 400, 3) := by decide +kernel
theorem dX8_isLeap_4 : decode cX8_isLeap 4 = .ok (.irem, 1) := by decide +kernel
theorem dX8_isLeap_5 : decode cX8_isLeap 5 = .ok (.ifCond .eq 16, 3) := by decide +kernel
theorem dX8_isLeap_8 : decode cX8_isLeap 8 = .ok (.iload_n 0, 1) := by decide +kernel
theorem dX8_isLeap_9 : decode cX8_isLeap 9 = .ok (.iconst 4, 1) := by decide +kernel
theorem dX8_isLeap_10 : decode cX8_isLeap 10 = .ok (.irem, 1) := by decide +kernel
theorem dX8_isLeap_11 : decode cX8_isLeap 11 = .ok (.ifCond .ne 14, 3) := by decide +kernel
theorem dX8_isLeap_14 : decode cX8_isLeap 14 = .ok (.iload_n 0, 1) := by decide +kernel
theorem dX8_isLeap_15 : decode cX8_isLeap 15 = .ok (.bipush 100, 2) := by decide +kernel
theorem dX8_isLeap_17 : decode cX8_isLeap 17 = .ok (.irem, 1) := by decide +kernel
theorem dX8_isLeap_18 : decode cX8_isLeap 18 = .ok (.ifCond .eq 7, 3) := by decide +kernel
theorem dX8_isLeap_21 : decode cX8_isLeap 21 = .ok (.iconst 1, 1) := by decide +kernel
theorem dX8_isLeap_22 : decode cX8_isLeap 22 = .ok (.goto 4, 3) := by decide +kernel
theorem dX8_isLeap_25 : decode cX8_isLeap 25 = .ok (.iconst 0, 1) := by decide +kernel
theorem dX8_isLeap_26 : decode cX8_isLeap 26 = .ok (.ireturn, 1) := by decide +kernel
theorem dX8_monthLength_0 : decode cX8_monthLength 0 = .ok (.iload_n 1, 1) := by decide +kernel
theorem dX8_monthLength_1 : decode cX8_monthLength 1 = .ok (.iconst 2, 1) := by decide +kernel
theorem dX8_monthLength_2 : decode cX8_monthLength 2 = .ok (.if_icmp .ne 18, 3) := by decide +kernel
theorem dX8_monthLength_5 : decode cX8_monthLength 5 = .ok (.iload_n 0, 1) := by decide +kernel
theorem dX8_monthLength_6 : decode cX8_monthLength 6 = .ok (.invokestatic 121, 3) := by decide +kernel
theorem dX8_monthLength_9 : decode cX8_monthLength 9 = .ok (.ifCond .eq 8, 3) := by decide +kernel
theorem dX8_monthLength_12 : decode cX8_monthLength 12 = .ok (.bipush 29, 2) := by decide +kernel
theorem dX8_monthLength_14 : decode cX8_monthLength 14 = .ok (.goto 5, 3) := by decide +kernel
theorem dX8_monthLength_17 : decode cX8_monthLength 17 = .ok (.bipush 28, 2) := by decide +kernel
theorem dX8_monthLength_19 : decode cX8_monthLength 19 = .ok (.ireturn, 1) := by decide +kernel
theorem dX8_monthLength_20 : decode cX8_monthLength 20 = .ok (.iload_n 1, 1) := by decide +kernel
theorem dX8_monthLength_21 : decode cX8_monthLength 21 = .ok (.iconst 4, 1) := by decide +kernel
theorem dX8_monthLength_22 : decode cX8_monthLength 22 = .ok (.if_icmp .eq 21, 3) := by decide +kernel
theorem dX8_monthLength_25 : decode cX8_monthLength 25 = .ok (.iload_n 1, 1) := by decide +kernel
theorem dX8_monthLength_26 : decode cX8_monthLength 26 = .ok (.bipush 6, 2) := by decide +kernel
theorem dX8_monthLength_28 : decode cX8_monthLength 28 = .ok (.if_icmp .eq 15, 3) := by decide +kernel
theorem dX8_monthLength_31 : decode cX8_monthLength 31 = .ok (.iload_n 1, 1) := by decide +kernel
theorem dX8_monthLength_32 : decode cX8_monthLength 32 = .ok (.bipush 9, 2) := by decide +kernel
theorem dX8_monthLength_34 : decode cX8_monthLength 34 = .ok (.if_icmp .eq 9, 3) := by decide +kernel
theorem dX8_monthLength_37 : decode cX8_monthLength 37 = .ok (.iload_n 1, 1) := by decide +kernel
theorem dX8_monthLength_38 : decode cX8_monthLength 38 = .ok (.bipush 11, 2) := by decide +kernel
theorem dX8_monthLength_40 : decode cX8_monthLength 40 = .ok (.if_icmp .ne 8, 3) := by decide +kernel
theorem dX8_monthLength_43 : decode cX8_monthLength 43 = .ok (.bipush 30, 2) := by decide +kernel
theorem dX8_monthLength_45 : decode cX8_monthLength 45 = .ok (.goto 5, 3) := by decide +kernel
theorem dX8_monthLength_48 : decode cX8_monthLength 48 = .ok (.bipush 31, 2) := by decide +kernel
theorem dX8_monthLength_50 : decode cX8_monthLength 50 = .ok (.ireturn, 1) := by decide +kernel
theorem dX8_date_0 : decode cX8_date 0 = .ok (.iload_n 1, 1) := by decide +kernel
theorem dX8_date_1 : decode cX8_date 1 = .ok (.istore_n 2, 1) := by decide +kernel
theorem dX8_date_2 : decode cX8_date 2 = .ok (.aload_n 0, 1) := by decide +kernel
theorem dX8_date_3 : decode cX8_date 3 = .ok (.sipush 2000, 3) := by decide +kernel
theorem dX8_date_6 : decode cX8_date 6 = .ok (.putfield 124, 3) := by decide +kernel
theorem dX8_date_9 : decode cX8_date 9 = .ok (.iload_n 2, 1) := by decide +kernel
theorem dX8_date_10 : decode cX8_date 10 = .ok (.aload_n 0, 1) := by decide +kernel
theorem dX8_date_11 : decode cX8_date 11 = .ok (.getfield 124, 3) := by decide +kernel
theorem dX8_date_14 : decode cX8_date 14 = .ok (.invokestatic 121, 3) := by decide +kernel
theorem dX8_date_17 : decode cX8_date 17 = .ok (.ifCond .eq 9, 3) := by decide +kernel
theorem dX8_date_20 : decode cX8_date 20 = .ok (.sipush 366, 3) := by decide +kernel
theorem dX8_date_23 : decode cX8_date 23 = .ok (.goto 6, 3) := by decide +kernel
theorem dX8_date_26 : decode cX8_date 26 = .ok (.sipush 365, 3) := by decide +kernel
theorem dX8_date_29 : decode cX8_date 29 = .ok (.if_icmp .lt 38, 3) := by decide +kernel
theorem dX8_date_32 : decode cX8_date 32 = .ok (.iload_n 2, 1) := by decide +kernel
theorem dX8_date_33 : decode cX8_date 33 = .ok (.aload_n 0, 1) := by decide +kernel
theorem dX8_date_34 : decode cX8_date 34 = .ok (.getfield 124, 3) := by decide +kernel
theorem dX8_date_37 : decode cX8_date 37 = .ok (.invokestatic 121, 3) := by decide +kernel
theorem dX8_date_40 : decode cX8_date 40 = .ok (.ifCond .eq 9, 3) := by decide +kernel
theorem dX8_date_43 : decode cX8_date 43 = .ok (.sipush 366, 3) := by decide +kernel
theorem dX8_date_46 : decode cX8_date 46 = .ok (.goto 6, 3) := by decide +kernel
theorem dX8_date_49 : decode cX8_date 49 = .ok (.sipush 365, 3) := by decide +kernel
theorem dX8_date_52 : decode cX8_date 52 = .ok (.isub, 1) := by decide +kernel
theorem dX8_date_53 : decode cX8_date 53 = .ok (.istore_n 2, 1) := by decide +kernel
theorem dX8_date_54 : decode cX8_date 54 = .ok (.aload_n 0, 1) := by decide +kernel
theorem dX8_date_55 : decode cX8_date 55 = .ok (.aload_n 0, 1) := by decide +kernel
theorem dX8_date_56 : decode cX8_date 56 = .ok (.getfield 124, 3) := by decide +kernel
theorem dX8_date_59 : decode cX8_date 59 = .ok (.iconst 1, 1) := by decide +kernel
theorem dX8_date_60 : decode cX8_date 60 = .ok (.iadd, 1) := by decide +kernel
theorem dX8_date_61 : decode cX8_date 61 = .ok (.putfield 124, 3) := by decide +kernel
theorem dX8_date_64 : decode cX8_date 64 = .ok (.goto (-55), 3) := by decide +kernel
theorem dX8_date_67 : decode cX8_date 67 = .ok (.aload_n 0, 1) := by decide +kernel
theorem dX8_date_68 : decode cX8_date 68 = .ok (.iconst 1, 1) := by decide +kernel
theorem dX8_date_69 : decode cX8_date 69 = .ok (.putfield 127, 3) := by decide +kernel
theorem dX8_date_72 : decode cX8_date 72 = .ok (.iload_n 2, 1) := by decide +kernel
theorem dX8_date_73 : decode cX8_date 73 = .ok (.aload_n 0, 1) := by decide +kernel
theorem dX8_date_74 : decode cX8_date 74 = .ok (.getfield 124, 3) := by decide +kernel
theorem dX8_date_77 : decode cX8_date 77 = .ok (.aload_n 0, 1) := by decide +kernel
theorem dX8_date_78 : decode cX8_date 78 = .ok (.getfield 127, 3) := by decide +kernel
theorem dX8_date_81 : decode cX8_date 81 = .ok (.invokestatic 130, 3) := by decide +kernel
theorem dX8_date_84 : decode cX8_date 84 = .ok (.if_icmp .lt 30, 3) := by decide +kernel
theorem dX8_date_87 : decode cX8_date 87 = .ok (.iload_n 2, 1) := by decide +kernel
theorem dX8_date_88 : decode cX8_date 88 = .ok (.aload_n 0, 1) := by decide +kernel
theorem dX8_date_89 : decode cX8_date 89 = .ok (.getfield 124, 3) := by decide +kernel
theorem dX8_date_92 : decode cX8_date 92 = .ok (.aload_n 0, 1) := by decide +kernel
theorem dX8_date_93 : decode cX8_date 93 = .ok (.getfield 127, 3) := by decide +kernel
theorem dX8_date_96 : decode cX8_date 96 = .ok (.invokestatic 130, 3) := by decide +kernel
theorem dX8_date_99 : decode cX8_date 99 = .ok (.isub, 1) := by decide +kernel
theorem dX8_date_100 : decode cX8_date 100 = .ok (.istore_n 2, 1) := by decide +kernel
theorem dX8_date_101 : decode cX8_date 101 = .ok (.aload_n 0, 1) := by decide +kernel
theorem dX8_date_102 : decode cX8_date 102 = .ok (.aload_n 0, 1) := by decide +kernel
theorem dX8_date_103 : decode cX8_date 103 = .ok (.getfield 127, 3) := by decide +kernel
theorem dX8_date_106 : decode cX8_date 106 = .ok (.iconst 1, 1) := by decide +kernel
theorem dX8_date_107 : decode cX8_date 107 = .ok (.iadd, 1) := by decide +kernel
theorem dX8_date_108 : decode cX8_date 108 = .ok (.putfield 127, 3) := by decide +kernel
theorem dX8_date_111 : decode cX8_date 111 = .ok (.goto (-39), 3) := by decide +kernel
theorem dX8_date_114 : decode cX8_date 114 = .ok (.aload_n 0, 1) := by decide +kernel
theorem dX8_date_115 : decode cX8_date 115 = .ok (.iload_n 2, 1) := by decide +kernel
theorem dX8_date_116 : decode cX8_date 116 = .ok (.iconst 1, 1) := by decide +kernel
theorem dX8_date_117 : decode cX8_date 117 = .ok (.iadd, 1) := by decide +kernel
theorem dX8_date_118 : decode cX8_date 118 = .ok (.putfield 133, 3) := by decide +kernel
theorem dX8_date_121 : decode cX8_date 121 = .ok (.return_, 1) := by decide +kernel
theorem dX8_weekdayOf_0 : decode cX8_weekdayOf 0 = .ok (.iload_n 0, 1) := by decide +kernel
theorem dX8_weekdayOf_1 : decode cX8_weekdayOf 1 = .ok (.bipush 6, 2) := by decide +kernel
theorem dX8_weekdayOf_3 : decode cX8_weekdayOf 3 = .ok (.iadd, 1) := by decide +kernel
theorem dX8_weekdayOf_4 : decode cX8_weekdayOf 4 = .ok (.bipush 7, 2) := by decide +kernel
theorem dX8_weekdayOf_6 : decode cX8_weekdayOf 6 = .ok (.irem, 1) := by decide +kernel
theorem dX8_weekdayOf_7 : decode cX8_weekdayOf 7 = .ok (.ireturn, 1) := by decide +kernel
theorem dX8_holdsOn_0 : decode cX8_holdsOn 0 = .ok (.aload_n 0, 1) := by decide +kernel
theorem dX8_holdsOn_1 : decode cX8_holdsOn 1 = .ok (.iload_n 2, 1) := by decide +kernel
theorem dX8_holdsOn_2 : decode cX8_holdsOn 2 = .ok (.invokevirtual 136, 3) := by decide +kernel
theorem dX8_holdsOn_5 : decode cX8_holdsOn 5 = .ok (.iload_n 2, 1) := by decide +kernel
theorem dX8_holdsOn_6 : decode cX8_holdsOn 6 = .ok (.invokestatic 140, 3) := by decide +kernel
theorem dX8_holdsOn_9 : decode cX8_holdsOn 9 = .ok (.istore_n 3, 1) := by decide +kernel
theorem dX8_holdsOn_10 : decode cX8_holdsOn 10 = .ok (.aload_n 0, 1) := by decide +kernel
theorem dX8_holdsOn_11 : decode cX8_holdsOn 11 = .ok (.iload_n 1, 1) := by decide +kernel
theorem dX8_holdsOn_12 : decode cX8_holdsOn 12 = .ok (.iconst 2, 1) := by decide +kernel
theorem dX8_holdsOn_13 : decode cX8_holdsOn 13 = .ok (.aload_n 0, 1) := by decide +kernel
theorem dX8_holdsOn_14 : decode cX8_holdsOn 14 = .ok (.getfield 133, 3) := by decide +kernel
theorem dX8_holdsOn_17 : decode cX8_holdsOn 17 = .ok (.invokevirtual 143, 3) := by decide +kernel
theorem dX8_holdsOn_20 : decode cX8_holdsOn 20 = .ok (.istore 4, 2) := by decide +kernel
theorem dX8_holdsOn_22 : decode cX8_holdsOn 22 = .ok (.aload_n 0, 1) := by decide +kernel
theorem dX8_holdsOn_23 : decode cX8_holdsOn 23 = .ok (.iload_n 1, 1) := by decide +kernel
theorem dX8_holdsOn_24 : decode cX8_holdsOn 24 = .ok (.iconst 4, 1) := by decide +kernel
theorem dX8_holdsOn_25 : decode cX8_holdsOn 25 = .ok (.iload_n 3, 1) := by decide +kernel
theorem dX8_holdsOn_26 : decode cX8_holdsOn 26 = .ok (.invokevirtual 143, 3) := by decide +kernel
theorem dX8_holdsOn_29 : decode cX8_holdsOn 29 = .ok (.ifCond .ne 18, 3) := by decide +kernel
theorem dX8_holdsOn_32 : decode cX8_holdsOn 32 = .ok (.iload_n 3, 1) := by decide +kernel
theorem dX8_holdsOn_33 : decode cX8_holdsOn 33 = .ok (.ifCond .ne 18, 3) := by decide +kernel
theorem dX8_holdsOn_36 : decode cX8_holdsOn 36 = .ok (.aload_n 0, 1) := by decide +kernel
theorem dX8_holdsOn_37 : decode cX8_holdsOn 37 = .ok (.iload_n 1, 1) := by decide +kernel
theorem dX8_holdsOn_38 : decode cX8_holdsOn 38 = .ok (.iconst 4, 1) := by decide +kernel
theorem dX8_holdsOn_39 : decode cX8_holdsOn 39 = .ok (.bipush 7, 2) := by decide +kernel
theorem dX8_holdsOn_41 : decode cX8_holdsOn 41 = .ok (.invokevirtual 143, 3) := by decide +kernel
theorem dX8_holdsOn_44 : decode cX8_holdsOn 44 = .ok (.ifCond .eq 7, 3) := by decide +kernel
theorem dX8_holdsOn_47 : decode cX8_holdsOn 47 = .ok (.iconst 1, 1) := by decide +kernel
theorem dX8_holdsOn_48 : decode cX8_holdsOn 48 = .ok (.goto 4, 3) := by decide +kernel
theorem dX8_holdsOn_51 : decode cX8_holdsOn 51 = .ok (.iconst 0, 1) := by decide +kernel
theorem dX8_holdsOn_52 : decode cX8_holdsOn 52 = .ok (.istore 5, 2) := by decide +kernel
theorem dX8_holdsOn_54 : decode cX8_holdsOn 54 = .ok (.aload_n 0, 1) := by decide +kernel
theorem dX8_holdsOn_55 : decode cX8_holdsOn 55 = .ok (.iload_n 1, 1) := by decide +kernel
theorem dX8_holdsOn_56 : decode cX8_holdsOn 56 = .ok (.iconst 2, 1) := by decide +kernel
theorem dX8_holdsOn_57 : decode cX8_holdsOn 57 = .ok (.invokevirtual 146, 3) := by decide +kernel
theorem dX8_holdsOn_60 : decode cX8_holdsOn 60 = .ok (.ifCond .ne 12, 3) := by decide +kernel
theorem dX8_holdsOn_63 : decode cX8_holdsOn 63 = .ok (.aload_n 0, 1) := by decide +kernel
theorem dX8_holdsOn_64 : decode cX8_holdsOn 64 = .ok (.iload_n 1, 1) := by decide +kernel
theorem dX8_holdsOn_65 : decode cX8_holdsOn 65 = .ok (.iconst 4, 1) := by decide +kernel
theorem dX8_holdsOn_66 : decode cX8_holdsOn 66 = .ok (.invokevirtual 146, 3) := by decide +kernel
theorem dX8_holdsOn_69 : decode cX8_holdsOn 69 = .ok (.ifCond .eq 7, 3) := by decide +kernel
theorem dX8_holdsOn_72 : decode cX8_holdsOn 72 = .ok (.iconst 1, 1) := by decide +kernel
theorem dX8_holdsOn_73 : decode cX8_holdsOn 73 = .ok (.goto 4, 3) := by decide +kernel
theorem dX8_holdsOn_76 : decode cX8_holdsOn 76 = .ok (.iconst 0, 1) := by decide +kernel
theorem dX8_holdsOn_77 : decode cX8_holdsOn 77 = .ok (.istore 6, 2) := by decide +kernel
theorem dX8_holdsOn_79 : decode cX8_holdsOn 79 = .ok (.aload_n 0, 1) := by decide +kernel
theorem dX8_holdsOn_80 : decode cX8_holdsOn 80 = .ok (.iload_n 1, 1) := by decide +kernel
theorem dX8_holdsOn_81 : decode cX8_holdsOn 81 = .ok (.iconst 3, 1) := by decide +kernel
theorem dX8_holdsOn_82 : decode cX8_holdsOn 82 = .ok (.aload_n 0, 1) := by decide +kernel
theorem dX8_holdsOn_83 : decode cX8_holdsOn 83 = .ok (.getfield 127, 3) := by decide +kernel
theorem dX8_holdsOn_86 : decode cX8_holdsOn 86 = .ok (.invokevirtual 143, 3) := by decide +kernel
theorem dX8_holdsOn_89 : decode cX8_holdsOn 89 = .ok (.ifCond .eq 35, 3) := by decide +kernel
theorem dX8_holdsOn_92 : decode cX8_holdsOn 92 = .ok (.iload 6, 2) := by decide +kernel
theorem dX8_holdsOn_94 : decode cX8_holdsOn 94 = .ok (.ifCond .eq 16, 3) := by decide +kernel
theorem dX8_holdsOn_97 : decode cX8_holdsOn 97 = .ok (.iload 4, 2) := by decide +kernel
theorem dX8_holdsOn_99 : decode cX8_holdsOn 99 = .ok (.ifCond .eq 25, 3) := by decide +kernel
theorem dX8_holdsOn_102 : decode cX8_holdsOn 102 = .ok (.iload 5, 2) := by decide +kernel
theorem dX8_holdsOn_104 : decode cX8_holdsOn 104 = .ok (.ifCond .eq 20, 3) := by decide +kernel
theorem dX8_holdsOn_107 : decode cX8_holdsOn 107 = .ok (.goto 13, 3) := by decide +kernel
theorem dX8_holdsOn_110 : decode cX8_holdsOn 110 = .ok (.iload 4, 2) := by decide +kernel
theorem dX8_holdsOn_112 : decode cX8_holdsOn 112 = .ok (.ifCond .ne 8, 3) := by decide +kernel
theorem dX8_holdsOn_115 : decode cX8_holdsOn 115 = .ok (.iload 5, 2) := by decide +kernel
theorem dX8_holdsOn_117 : decode cX8_holdsOn 117 = .ok (.ifCond .eq 7, 3) := by decide +kernel
theorem dX8_holdsOn_120 : decode cX8_holdsOn 120 = .ok (.iconst 1, 1) := by decide +kernel
theorem dX8_holdsOn_121 : decode cX8_holdsOn 121 = .ok (.goto 4, 3) := by decide +kernel
theorem dX8_holdsOn_124 : decode cX8_holdsOn 124 = .ok (.iconst 0, 1) := by decide +kernel
theorem dX8_holdsOn_125 : decode cX8_holdsOn 125 = .ok (.ireturn, 1) := by decide +kernel
theorem dX8_holdsIn_0 : decode cX8_holdsIn 0 = .ok (.aload_n 0, 1) := by decide +kernel
theorem dX8_holdsIn_1 : decode cX8_holdsIn 1 = .ok (.iload_n 1, 1) := by decide +kernel
theorem dX8_holdsIn_2 : decode cX8_holdsIn 2 = .ok (.iconst 0, 1) := by decide +kernel
theorem dX8_holdsIn_3 : decode cX8_holdsIn 3 = .ok (.iload_n 2, 1) := by decide +kernel
theorem dX8_holdsIn_4 : decode cX8_holdsIn 4 = .ok (.bipush 60, 2) := by decide +kernel
theorem dX8_holdsIn_6 : decode cX8_holdsIn 6 = .ok (.irem, 1) := by decide +kernel
theorem dX8_holdsIn_7 : decode cX8_holdsIn 7 = .ok (.invokevirtual 143, 3) := by decide +kernel
theorem dX8_holdsIn_10 : decode cX8_holdsIn 10 = .ok (.ifCond .eq 20, 3) := by decide +kernel
theorem dX8_holdsIn_13 : decode cX8_holdsIn 13 = .ok (.aload_n 0, 1) := by decide +kernel
theorem dX8_holdsIn_14 : decode cX8_holdsIn 14 = .ok (.iload_n 1, 1) := by decide +kernel
theorem dX8_holdsIn_15 : decode cX8_holdsIn 15 = .ok (.iconst 1, 1) := by decide +kernel
theorem dX8_holdsIn_16 : decode cX8_holdsIn 16 = .ok (.iload_n 2, 1) := by decide +kernel
theorem dX8_holdsIn_17 : decode cX8_holdsIn 17 = .ok (.bipush 60, 2) := by decide +kernel
theorem dX8_holdsIn_19 : decode cX8_holdsIn 19 = .ok (.idiv, 1) := by decide +kernel
theorem dX8_holdsIn_20 : decode cX8_holdsIn 20 = .ok (.invokevirtual 143, 3) := by decide +kernel
theorem dX8_holdsIn_23 : decode cX8_holdsIn 23 = .ok (.ifCond .eq 7, 3) := by decide +kernel
theorem dX8_holdsIn_26 : decode cX8_holdsIn 26 = .ok (.iconst 1, 1) := by decide +kernel
theorem dX8_holdsIn_27 : decode cX8_holdsIn 27 = .ok (.goto 4, 3) := by decide +kernel
theorem dX8_holdsIn_30 : decode cX8_holdsIn 30 = .ok (.iconst 0, 1) := by decide +kernel
theorem dX8_holdsIn_31 : decode cX8_holdsIn 31 = .ok (.ireturn, 1) := by decide +kernel
theorem dX8_holdsAt_0 : decode cX8_holdsAt 0 = .ok (.aload_n 0, 1) := by decide +kernel
theorem dX8_holdsAt_1 : decode cX8_holdsAt 1 = .ok (.iload_n 1, 1) := by decide +kernel
theorem dX8_holdsAt_2 : decode cX8_holdsAt 2 = .ok (.iload_n 2, 1) := by decide +kernel
theorem dX8_holdsAt_3 : decode cX8_holdsAt 3 = .ok (.sipush 1440, 3) := by decide +kernel
theorem dX8_holdsAt_6 : decode cX8_holdsAt 6 = .ok (.irem, 1) := by decide +kernel
theorem dX8_holdsAt_7 : decode cX8_holdsAt 7 = .ok (.invokevirtual 150, 3) := by decide +kernel
theorem dX8_holdsAt_10 : decode cX8_holdsAt 10 = .ok (.ifCond .eq 20, 3) := by decide +kernel
theorem dX8_holdsAt_13 : decode cX8_holdsAt 13 = .ok (.aload_n 0, 1) := by decide +kernel
theorem dX8_holdsAt_14 : decode cX8_holdsAt 14 = .ok (.iload_n 1, 1) := by decide +kernel
theorem dX8_holdsAt_15 : decode cX8_holdsAt 15 = .ok (.iload_n 2, 1) := by decide +kernel
theorem dX8_holdsAt_16 : decode cX8_holdsAt 16 = .ok (.sipush 1440, 3) := by decide +kernel
theorem dX8_holdsAt_19 : decode cX8_holdsAt 19 = .ok (.idiv, 1) := by decide +kernel
theorem dX8_holdsAt_20 : decode cX8_holdsAt 20 = .ok (.invokevirtual 153, 3) := by decide +kernel
theorem dX8_holdsAt_23 : decode cX8_holdsAt 23 = .ok (.ifCond .eq 7, 3) := by decide +kernel
theorem dX8_holdsAt_26 : decode cX8_holdsAt 26 = .ok (.iconst 1, 1) := by decide +kernel
theorem dX8_holdsAt_27 : decode cX8_holdsAt 27 = .ok (.goto 4, 3) := by decide +kernel
theorem dX8_holdsAt_30 : decode cX8_holdsAt 30 = .ok (.iconst 0, 1) := by decide +kernel
theorem dX8_holdsAt_31 : decode cX8_holdsAt 31 = .ok (.ireturn, 1) := by decide +kernel
theorem dX8_isJob_0 : decode cX8_isJob 0 = .ok (.iload_n 1, 1) := by decide +kernel
theorem dX8_isJob_1 : decode cX8_isJob 1 = .ok (.ifCond .lt 15, 3) := by decide +kernel
theorem dX8_isJob_4 : decode cX8_isJob 4 = .ok (.iload_n 1, 1) := by decide +kernel
theorem dX8_isJob_5 : decode cX8_isJob 5 = .ok (.aload_n 0, 1) := by decide +kernel
theorem dX8_isJob_6 : decode cX8_isJob 6 = .ok (.getfield 98, 3) := by decide +kernel
theorem dX8_isJob_9 : decode cX8_isJob 9 = .ok (.if_icmp .ge 7, 3) := by decide +kernel
theorem dX8_isJob_12 : decode cX8_isJob 12 = .ok (.iconst 1, 1) := by decide +kernel
theorem dX8_isJob_13 : decode cX8_isJob 13 = .ok (.goto 4, 3) := by decide +kernel
theorem dX8_isJob_16 : decode cX8_isJob 16 = .ok (.iconst 0, 1) := by decide +kernel
theorem dX8_isJob_17 : decode cX8_isJob 17 = .ok (.ireturn, 1) := by decide +kernel
theorem dX8_isMinute_0 : decode cX8_isMinute 0 = .ok (.iload_n 0, 1) := by decide +kernel
theorem dX8_isMinute_1 : decode cX8_isMinute 1 = .ok (.ifCond .lt 13, 3) := by decide +kernel
theorem dX8_isMinute_4 : decode cX8_isMinute 4 = .ok (.iload_n 0, 1) := by decide +kernel
theorem dX8_isMinute_5 : decode cX8_isMinute 5 = .ok (.ldc 156, 2) := by decide +kernel
theorem dX8_isMinute_7 : decode cX8_isMinute 7 = .ok (.if_icmp .ge 7, 3) := by decide +kernel
theorem dX8_isMinute_10 : decode cX8_isMinute 10 = .ok (.iconst 1, 1) := by decide +kernel
theorem dX8_isMinute_11 : decode cX8_isMinute 11 = .ok (.goto 4, 3) := by decide +kernel
theorem dX8_isMinute_14 : decode cX8_isMinute 14 = .ok (.iconst 0, 1) := by decide +kernel
theorem dX8_isMinute_15 : decode cX8_isMinute 15 = .ok (.ireturn, 1) := by decide +kernel
theorem dX8_holds_0 : decode cX8_holds 0 = .ok (.aload_n 0, 1) := by decide +kernel
theorem dX8_holds_1 : decode cX8_holds 1 = .ok (.aload_n 0, 1) := by decide +kernel
theorem dX8_holds_2 : decode cX8_holds 2 = .ok (.iload_n 1, 1) := by decide +kernel
theorem dX8_holds_3 : decode cX8_holds 3 = .ok (.invokevirtual 157, 3) := by decide +kernel
theorem dX8_holds_6 : decode cX8_holds 6 = .ok (.ifCond .ne 7, 3) := by decide +kernel
theorem dX8_holds_9 : decode cX8_holds 9 = .ok (.iconst 1, 1) := by decide +kernel
theorem dX8_holds_10 : decode cX8_holds 10 = .ok (.goto 15, 3) := by decide +kernel
theorem dX8_holds_13 : decode cX8_holds 13 = .ok (.iload_n 2, 1) := by decide +kernel
theorem dX8_holds_14 : decode cX8_holds 14 = .ok (.invokestatic 160, 3) := by decide +kernel
theorem dX8_holds_17 : decode cX8_holds 17 = .ok (.ifCond .ne 7, 3) := by decide +kernel
theorem dX8_holds_20 : decode cX8_holds 20 = .ok (.iconst 2, 1) := by decide +kernel
theorem dX8_holds_21 : decode cX8_holds 21 = .ok (.goto 4, 3) := by decide +kernel
theorem dX8_holds_24 : decode cX8_holds 24 = .ok (.iconst 0, 1) := by decide +kernel
theorem dX8_holds_25 : decode cX8_holds 25 = .ok (.putfield 66, 3) := by decide +kernel
theorem dX8_holds_28 : decode cX8_holds 28 = .ok (.aload_n 0, 1) := by decide +kernel
theorem dX8_holds_29 : decode cX8_holds 29 = .ok (.getfield 66, 3) := by decide +kernel
theorem dX8_holds_32 : decode cX8_holds 32 = .ok (.ifCond .ne 16, 3) := by decide +kernel
theorem dX8_holds_35 : decode cX8_holds 35 = .ok (.aload_n 0, 1) := by decide +kernel
theorem dX8_holds_36 : decode cX8_holds 36 = .ok (.iload_n 1, 1) := by decide +kernel
theorem dX8_holds_37 : decode cX8_holds 37 = .ok (.iload_n 2, 1) := by decide +kernel
theorem dX8_holds_38 : decode cX8_holds 38 = .ok (.invokevirtual 163, 3) := by decide +kernel
theorem dX8_holds_41 : decode cX8_holds 41 = .ok (.ifCond .eq 7, 3) := by decide +kernel
theorem dX8_holds_44 : decode cX8_holds 44 = .ok (.iconst 1, 1) := by decide +kernel
theorem dX8_holds_45 : decode cX8_holds 45 = .ok (.goto 4, 3) := by decide +kernel
theorem dX8_holds_48 : decode cX8_holds 48 = .ok (.iconst 0, 1) := by decide +kernel
theorem dX8_holds_49 : decode cX8_holds 49 = .ok (.ireturn, 1) := by decide +kernel
theorem dX8_firstFrom_0 : decode cX8_firstFrom 0 = .ok (.iload_n 2, 1) := by decide +kernel
theorem dX8_firstFrom_1 : decode cX8_firstFrom 1 = .ok (.istore 4, 2) := by decide +kernel
theorem dX8_firstFrom_3 : decode cX8_firstFrom 3 = .ok (.iload 4, 2) := by decide +kernel
theorem dX8_firstFrom_5 : decode cX8_firstFrom 5 = .ok (.iload_n 3, 1) := by decide +kernel
theorem dX8_firstFrom_6 : decode cX8_firstFrom 6 = .ok (.if_icmp .ge 92, 3) := by decide +kernel
theorem dX8_firstFrom_9 : decode cX8_firstFrom 9 = .ok (.aload_n 0, 1) := by decide +kernel
theorem dX8_firstFrom_10 : decode cX8_firstFrom 10 = .ok (.iload_n 1, 1) := by decide +kernel
theorem dX8_firstFrom_11 : decode cX8_firstFrom 11 = .ok (.iload 4, 2) := by decide +kernel
theorem dX8_firstFrom_13 : decode cX8_firstFrom 13 = .ok (.sipush 1440, 3) := by decide +kernel
theorem dX8_firstFrom_16 : decode cX8_firstFrom 16 = .ok (.idiv, 1) := by decide +kernel
theorem dX8_firstFrom_17 : decode cX8_firstFrom 17 = .ok (.invokevirtual 153, 3) := by decide +kernel
theorem dX8_firstFrom_20 : decode cX8_firstFrom 20 = .ok (.ifCond .eq 60, 3) := by decide +kernel
theorem dX8_firstFrom_23 : decode cX8_firstFrom 23 = .ok (.iload 4, 2) := by decide +kernel
theorem dX8_firstFrom_25 : decode cX8_firstFrom 25 = .ok (.iload 4, 2) := by decide +kernel
theorem dX8_firstFrom_27 : decode cX8_firstFrom 27 = .ok (.sipush 1440, 3) := by decide +kernel
theorem dX8_firstFrom_30 : decode cX8_firstFrom 30 = .ok (.irem, 1) := by decide +kernel
theorem dX8_firstFrom_31 : decode cX8_firstFrom 31 = .ok (.isub, 1) := by decide +kernel
theorem dX8_firstFrom_32 : decode cX8_firstFrom 32 = .ok (.sipush 1440, 3) := by decide +kernel
theorem dX8_firstFrom_35 : decode cX8_firstFrom 35 = .ok (.iadd, 1) := by decide +kernel
theorem dX8_firstFrom_36 : decode cX8_firstFrom 36 = .ok (.istore 5, 2) := by decide +kernel
theorem dX8_firstFrom_38 : decode cX8_firstFrom 38 = .ok (.iload 4, 2) := by decide +kernel
theorem dX8_firstFrom_40 : decode cX8_firstFrom 40 = .ok (.iload 5, 2) := by decide +kernel
theorem dX8_firstFrom_42 : decode cX8_firstFrom 42 = .ok (.if_icmp .ge 35, 3) := by decide +kernel
theorem dX8_firstFrom_45 : decode cX8_firstFrom 45 = .ok (.iload 4, 2) := by decide +kernel
theorem dX8_firstFrom_47 : decode cX8_firstFrom 47 = .ok (.iload_n 3, 1) := by decide +kernel
theorem dX8_firstFrom_48 : decode cX8_firstFrom 48 = .ok (.if_icmp .ge 29, 3) := by decide +kernel
theorem dX8_firstFrom_51 : decode cX8_firstFrom 51 = .ok (.aload_n 0, 1) := by decide +kernel
theorem dX8_firstFrom_52 : decode cX8_firstFrom 52 = .ok (.iload_n 1, 1) := by decide +kernel
theorem dX8_firstFrom_53 : decode cX8_firstFrom 53 = .ok (.iload 4, 2) := by decide +kernel
theorem dX8_firstFrom_55 : decode cX8_firstFrom 55 = .ok (.sipush 1440, 3) := by decide +kernel
theorem dX8_firstFrom_58 : decode cX8_firstFrom 58 = .ok (.irem, 1) := by decide +kernel
theorem dX8_firstFrom_59 : decode cX8_firstFrom 59 = .ok (.invokevirtual 150, 3) := by decide +kernel
theorem dX8_firstFrom_62 : decode cX8_firstFrom 62 = .ok (.ifCond .eq 6, 3) := by decide +kernel
theorem dX8_firstFrom_65 : decode cX8_firstFrom 65 = .ok (.iload 4, 2) := by decide +kernel
theorem dX8_firstFrom_67 : decode cX8_firstFrom 67 = .ok (.ireturn, 1) := by decide +kernel
theorem dX8_firstFrom_68 : decode cX8_firstFrom 68 = .ok (.iload 4, 2) := by decide +kernel
theorem dX8_firstFrom_70 : decode cX8_firstFrom 70 = .ok (.iconst 1, 1) := by decide +kernel
theorem dX8_firstFrom_71 : decode cX8_firstFrom 71 = .ok (.iadd, 1) := by decide +kernel
theorem dX8_firstFrom_72 : decode cX8_firstFrom 72 = .ok (.istore 4, 2) := by decide +kernel
theorem dX8_firstFrom_74 : decode cX8_firstFrom 74 = .ok (.goto (-36), 3) := by decide +kernel
theorem dX8_firstFrom_77 : decode cX8_firstFrom 77 = .ok (.goto (-74), 3) := by decide +kernel
theorem dX8_firstFrom_80 : decode cX8_firstFrom 80 = .ok (.iload 4, 2) := by decide +kernel
theorem dX8_firstFrom_82 : decode cX8_firstFrom 82 = .ok (.iload 4, 2) := by decide +kernel
theorem dX8_firstFrom_84 : decode cX8_firstFrom 84 = .ok (.sipush 1440, 3) := by decide +kernel
theorem dX8_firstFrom_87 : decode cX8_firstFrom 87 = .ok (.irem, 1) := by decide +kernel
theorem dX8_firstFrom_88 : decode cX8_firstFrom 88 = .ok (.isub, 1) := by decide +kernel
theorem dX8_firstFrom_89 : decode cX8_firstFrom 89 = .ok (.sipush 1440, 3) := by decide +kernel
theorem dX8_firstFrom_92 : decode cX8_firstFrom 92 = .ok (.iadd, 1) := by decide +kernel
theorem dX8_firstFrom_93 : decode cX8_firstFrom 93 = .ok (.istore 4, 2) := by decide +kernel
theorem dX8_firstFrom_95 : decode cX8_firstFrom 95 = .ok (.goto (-92), 3) := by decide +kernel
theorem dX8_firstFrom_98 : decode cX8_firstFrom 98 = .ok (.iconst (-1), 1) := by decide +kernel
theorem dX8_firstFrom_99 : decode cX8_firstFrom 99 = .ok (.ireturn, 1) := by decide +kernel
theorem dX8_next_0 : decode cX8_next 0 = .ok (.aload_n 0, 1) := by decide +kernel
theorem dX8_next_1 : decode cX8_next 1 = .ok (.aload_n 0, 1) := by decide +kernel
theorem dX8_next_2 : decode cX8_next 2 = .ok (.iload_n 1, 1) := by decide +kernel
theorem dX8_next_3 : decode cX8_next 3 = .ok (.invokevirtual 157, 3) := by decide +kernel
theorem dX8_next_6 : decode cX8_next 6 = .ok (.ifCond .ne 7, 3) := by decide +kernel
theorem dX8_next_9 : decode cX8_next 9 = .ok (.iconst 1, 1) := by decide +kernel
theorem dX8_next_10 : decode cX8_next 10 = .ok (.goto 15, 3) := by decide +kernel
theorem dX8_next_13 : decode cX8_next 13 = .ok (.iload_n 2, 1) := by decide +kernel
theorem dX8_next_14 : decode cX8_next 14 = .ok (.invokestatic 160, 3) := by decide +kernel
theorem dX8_next_17 : decode cX8_next 17 = .ok (.ifCond .ne 7, 3) := by decide +kernel
theorem dX8_next_20 : decode cX8_next 20 = .ok (.iconst 2, 1) := by decide +kernel
theorem dX8_next_21 : decode cX8_next 21 = .ok (.goto 4, 3) := by decide +kernel
theorem dX8_next_24 : decode cX8_next 24 = .ok (.iconst 0, 1) := by decide +kernel
theorem dX8_next_25 : decode cX8_next 25 = .ok (.putfield 66, 3) := by decide +kernel
theorem dX8_next_28 : decode cX8_next 28 = .ok (.aload_n 0, 1) := by decide +kernel
theorem dX8_next_29 : decode cX8_next 29 = .ok (.getfield 66, 3) := by decide +kernel
theorem dX8_next_32 : decode cX8_next 32 = .ok (.ifCond .le 7, 3) := by decide +kernel
theorem dX8_next_35 : decode cX8_next 35 = .ok (.iconst 0, 1) := by decide +kernel
theorem dX8_next_36 : decode cX8_next 36 = .ok (.goto 13, 3) := by decide +kernel
theorem dX8_next_39 : decode cX8_next 39 = .ok (.aload_n 0, 1) := by decide +kernel
theorem dX8_next_40 : decode cX8_next 40 = .ok (.iload_n 1, 1) := by decide +kernel
theorem dX8_next_41 : decode cX8_next 41 = .ok (.iload_n 2, 1) := by decide +kernel
theorem dX8_next_42 : decode cX8_next 42 = .ok (.iconst 1, 1) := by decide +kernel
theorem dX8_next_43 : decode cX8_next 43 = .ok (.iadd, 1) := by decide +kernel
theorem dX8_next_44 : decode cX8_next 44 = .ok (.ldc 156, 2) := by decide +kernel
theorem dX8_next_46 : decode cX8_next 46 = .ok (.invokevirtual 166, 3) := by decide +kernel
theorem dX8_next_49 : decode cX8_next 49 = .ok (.ireturn, 1) := by decide +kernel
theorem dX8_part_0 : decode cX8_part 0 = .ok (.aload_n 0, 1) := by decide +kernel
theorem dX8_part_1 : decode cX8_part 1 = .ok (.iload_n 1, 1) := by decide +kernel
theorem dX8_part_2 : decode cX8_part 2 = .ok (.invokestatic 160, 3) := by decide +kernel
theorem dX8_part_5 : decode cX8_part 5 = .ok (.ifCond .eq 12, 3) := by decide +kernel
theorem dX8_part_8 : decode cX8_part 8 = .ok (.iload_n 2, 1) := by decide +kernel
theorem dX8_part_9 : decode cX8_part 9 = .ok (.ifCond .lt 8, 3) := by decide +kernel
theorem dX8_part_12 : decode cX8_part 12 = .ok (.iload_n 2, 1) := by decide +kernel
theorem dX8_part_13 : decode cX8_part 13 = .ok (.iconst 5, 1) := by decide +kernel
theorem dX8_part_14 : decode cX8_part 14 = .ok (.if_icmp .le 7, 3) := by decide +kernel
theorem dX8_part_17 : decode cX8_part 17 = .ok (.iconst 1, 1) := by decide +kernel
theorem dX8_part_18 : decode cX8_part 18 = .ok (.goto 4, 3) := by decide +kernel
theorem dX8_part_21 : decode cX8_part 21 = .ok (.iconst 0, 1) := by decide +kernel
theorem dX8_part_22 : decode cX8_part 22 = .ok (.putfield 66, 3) := by decide +kernel
theorem dX8_part_25 : decode cX8_part 25 = .ok (.aload_n 0, 1) := by decide +kernel
theorem dX8_part_26 : decode cX8_part 26 = .ok (.getfield 66, 3) := by decide +kernel
theorem dX8_part_29 : decode cX8_part 29 = .ok (.ifCond .le 5, 3) := by decide +kernel
theorem dX8_part_32 : decode cX8_part 32 = .ok (.iconst 0, 1) := by decide +kernel
theorem dX8_part_33 : decode cX8_part 33 = .ok (.ireturn, 1) := by decide +kernel
theorem dX8_part_34 : decode cX8_part 34 = .ok (.aload_n 0, 1) := by decide +kernel
theorem dX8_part_35 : decode cX8_part 35 = .ok (.iload_n 1, 1) := by decide +kernel
theorem dX8_part_36 : decode cX8_part 36 = .ok (.sipush 1440, 3) := by decide +kernel
theorem dX8_part_39 : decode cX8_part 39 = .ok (.idiv, 1) := by decide +kernel
theorem dX8_part_40 : decode cX8_part 40 = .ok (.invokevirtual 136, 3) := by decide +kernel
theorem dX8_part_43 : decode cX8_part 43 = .ok (.iload_n 2, 1) := by decide +kernel
theorem dX8_part_44 : decode cX8_part 44 = .ok (.tableswitch 64 0 4 #[36, 41, 46, 51, 59], 36) := by decide +kernel
theorem dX8_part_80 : decode cX8_part 80 = .ok (.aload_n 0, 1) := by decide +kernel
theorem dX8_part_81 : decode cX8_part 81 = .ok (.getfield 124, 3) := by decide +kernel
theorem dX8_part_84 : decode cX8_part 84 = .ok (.ireturn, 1) := by decide +kernel
theorem dX8_part_85 : decode cX8_part 85 = .ok (.aload_n 0, 1) := by decide +kernel
theorem dX8_part_86 : decode cX8_part 86 = .ok (.getfield 127, 3) := by decide +kernel
theorem dX8_part_89 : decode cX8_part 89 = .ok (.ireturn, 1) := by decide +kernel
theorem dX8_part_90 : decode cX8_part 90 = .ok (.aload_n 0, 1) := by decide +kernel
theorem dX8_part_91 : decode cX8_part 91 = .ok (.getfield 133, 3) := by decide +kernel
theorem dX8_part_94 : decode cX8_part 94 = .ok (.ireturn, 1) := by decide +kernel
theorem dX8_part_95 : decode cX8_part 95 = .ok (.iload_n 1, 1) := by decide +kernel
theorem dX8_part_96 : decode cX8_part 96 = .ok (.bipush 60, 2) := by decide +kernel
theorem dX8_part_98 : decode cX8_part 98 = .ok (.idiv, 1) := by decide +kernel
theorem dX8_part_99 : decode cX8_part 99 = .ok (.bipush 24, 2) := by decide +kernel
theorem dX8_part_101 : decode cX8_part 101 = .ok (.irem, 1) := by decide +kernel
theorem dX8_part_102 : decode cX8_part 102 = .ok (.ireturn, 1) := by decide +kernel
theorem dX8_part_103 : decode cX8_part 103 = .ok (.iload_n 1, 1) := by decide +kernel
theorem dX8_part_104 : decode cX8_part 104 = .ok (.bipush 60, 2) := by decide +kernel
theorem dX8_part_106 : decode cX8_part 106 = .ok (.irem, 1) := by decide +kernel
theorem dX8_part_107 : decode cX8_part 107 = .ok (.ireturn, 1) := by decide +kernel
theorem dX8_part_108 : decode cX8_part 108 = .ok (.iload_n 1, 1) := by decide +kernel
theorem dX8_part_109 : decode cX8_part 109 = .ok (.sipush 1440, 3) := by decide +kernel
theorem dX8_part_112 : decode cX8_part 112 = .ok (.idiv, 1) := by decide +kernel
theorem dX8_part_113 : decode cX8_part 113 = .ok (.invokestatic 140, 3) := by decide +kernel
theorem dX8_part_116 : decode cX8_part 116 = .ok (.ireturn, 1) := by decide +kernel
theorem dX8_note_0 : decode cX8_note 0 = .ok (.iconst 4, 1) := by decide +kernel
theorem dX8_note_1 : decode cX8_note 1 = .ok (.aload_n 0, 1) := by decide +kernel
theorem dX8_note_2 : decode cX8_note 2 = .ok (.getfield 170, 3) := by decide +kernel
theorem dX8_note_5 : decode cX8_note 5 = .ok (.bipush 64, 2) := by decide +kernel
theorem dX8_note_7 : decode cX8_note 7 = .ok (.irem, 1) := by decide +kernel
theorem dX8_note_8 : decode cX8_note 8 = .ok (.imul, 1) := by decide +kernel
theorem dX8_note_9 : decode cX8_note 9 = .ok (.istore 4, 2) := by decide +kernel
theorem dX8_note_11 : decode cX8_note 11 = .ok (.aload_n 0, 1) := by decide +kernel
theorem dX8_note_12 : decode cX8_note 12 = .ok (.getfield 63, 3) := by decide +kernel
theorem dX8_note_15 : decode cX8_note 15 = .ok (.iload 4, 2) := by decide +kernel
theorem dX8_note_17 : decode cX8_note 17 = .ok (.iload_n 1, 1) := by decide +kernel
theorem dX8_note_18 : decode cX8_note 18 = .ok (.iastore, 1) := by decide +kernel
theorem dX8_note_19 : decode cX8_note 19 = .ok (.aload_n 0, 1) := by decide +kernel
theorem dX8_note_20 : decode cX8_note 20 = .ok (.getfield 63, 3) := by decide +kernel
theorem dX8_note_23 : decode cX8_note 23 = .ok (.iload 4, 2) := by decide +kernel
theorem dX8_note_25 : decode cX8_note 25 = .ok (.iconst 1, 1) := by decide +kernel
theorem dX8_note_26 : decode cX8_note 26 = .ok (.iadd, 1) := by decide +kernel
theorem dX8_note_27 : decode cX8_note 27 = .ok (.aload_n 0, 1) := by decide +kernel
theorem dX8_note_28 : decode cX8_note 28 = .ok (.getfield 173, 3) := by decide +kernel
theorem dX8_note_31 : decode cX8_note 31 = .ok (.iastore, 1) := by decide +kernel
theorem dX8_note_32 : decode cX8_note 32 = .ok (.aload_n 0, 1) := by decide +kernel
theorem dX8_note_33 : decode cX8_note 33 = .ok (.getfield 63, 3) := by decide +kernel
theorem dX8_note_36 : decode cX8_note 36 = .ok (.iload 4, 2) := by decide +kernel
theorem dX8_note_38 : decode cX8_note 38 = .ok (.iconst 2, 1) := by decide +kernel
theorem dX8_note_39 : decode cX8_note 39 = .ok (.iadd, 1) := by decide +kernel
theorem dX8_note_40 : decode cX8_note 40 = .ok (.iload_n 2, 1) := by decide +kernel
theorem dX8_note_41 : decode cX8_note 41 = .ok (.iastore, 1) := by decide +kernel
theorem dX8_note_42 : decode cX8_note 42 = .ok (.aload_n 0, 1) := by decide +kernel
theorem dX8_note_43 : decode cX8_note 43 = .ok (.getfield 63, 3) := by decide +kernel
theorem dX8_note_46 : decode cX8_note 46 = .ok (.iload 4, 2) := by decide +kernel
theorem dX8_note_48 : decode cX8_note 48 = .ok (.iconst 3, 1) := by decide +kernel
theorem dX8_note_49 : decode cX8_note 49 = .ok (.iadd, 1) := by decide +kernel
theorem dX8_note_50 : decode cX8_note 50 = .ok (.iload_n 3, 1) := by decide +kernel
theorem dX8_note_51 : decode cX8_note 51 = .ok (.iastore, 1) := by decide +kernel
theorem dX8_note_52 : decode cX8_note 52 = .ok (.aload_n 0, 1) := by decide +kernel
theorem dX8_note_53 : decode cX8_note 53 = .ok (.aload_n 0, 1) := by decide +kernel
theorem dX8_note_54 : decode cX8_note 54 = .ok (.getfield 170, 3) := by decide +kernel
theorem dX8_note_57 : decode cX8_note 57 = .ok (.iconst 1, 1) := by decide +kernel
theorem dX8_note_58 : decode cX8_note 58 = .ok (.iadd, 1) := by decide +kernel
theorem dX8_note_59 : decode cX8_note 59 = .ok (.putfield 170, 3) := by decide +kernel
theorem dX8_note_62 : decode cX8_note 62 = .ok (.return_, 1) := by decide +kernel
theorem dX8_fire_0 : decode cX8_fire 0 = .ok (.aload_n 0, 1) := by decide +kernel
theorem dX8_fire_1 : decode cX8_fire 1 = .ok (.getfield 32, 3) := by decide +kernel
theorem dX8_fire_4 : decode cX8_fire 4 = .ok (.iload_n 1, 1) := by decide +kernel
theorem dX8_fire_5 : decode cX8_fire 5 = .ok (.baload, 1) := by decide +kernel
theorem dX8_fire_6 : decode cX8_fire 6 = .ok (.ifCond .eq 25, 3) := by decide +kernel
theorem dX8_fire_9 : decode cX8_fire 9 = .ok (.aload_n 0, 1) := by decide +kernel
theorem dX8_fire_10 : decode cX8_fire 10 = .ok (.getfield 39, 3) := by decide +kernel
theorem dX8_fire_13 : decode cX8_fire 13 = .ok (.iload_n 1, 1) := by decide +kernel
theorem dX8_fire_14 : decode cX8_fire 14 = .ok (.aload_n 0, 1) := by decide +kernel
theorem dX8_fire_15 : decode cX8_fire 15 = .ok (.getfield 39, 3) := by decide +kernel
theorem dX8_fire_18 : decode cX8_fire 18 = .ok (.iload_n 1, 1) := by decide +kernel
theorem dX8_fire_19 : decode cX8_fire 19 = .ok (.iaload, 1) := by decide +kernel
theorem dX8_fire_20 : decode cX8_fire 20 = .ok (.iconst 1, 1) := by decide +kernel
theorem dX8_fire_21 : decode cX8_fire 21 = .ok (.iadd, 1) := by decide +kernel
theorem dX8_fire_22 : decode cX8_fire 22 = .ok (.iastore, 1) := by decide +kernel
theorem dX8_fire_23 : decode cX8_fire 23 = .ok (.aload_n 0, 1) := by decide +kernel
theorem dX8_fire_24 : decode cX8_fire 24 = .ok (.iconst 2, 1) := by decide +kernel
theorem dX8_fire_25 : decode cX8_fire 25 = .ok (.iload_n 1, 1) := by decide +kernel
theorem dX8_fire_26 : decode cX8_fire 26 = .ok (.iconst (-1), 1) := by decide +kernel
theorem dX8_fire_27 : decode cX8_fire 27 = .ok (.invokevirtual 176, 3) := by decide +kernel
theorem dX8_fire_30 : decode cX8_fire 30 = .ok (.return_, 1) := by decide +kernel
theorem dX8_fire_31 : decode cX8_fire 31 = .ok (.aload_n 0, 1) := by decide +kernel
theorem dX8_fire_32 : decode cX8_fire 32 = .ok (.getfield 36, 3) := by decide +kernel
theorem dX8_fire_35 : decode cX8_fire 35 = .ok (.iload_n 1, 1) := by decide +kernel
theorem dX8_fire_36 : decode cX8_fire 36 = .ok (.aload_n 0, 1) := by decide +kernel
theorem dX8_fire_37 : decode cX8_fire 37 = .ok (.getfield 36, 3) := by decide +kernel
theorem dX8_fire_40 : decode cX8_fire 40 = .ok (.iload_n 1, 1) := by decide +kernel
theorem dX8_fire_41 : decode cX8_fire 41 = .ok (.iaload, 1) := by decide +kernel
theorem dX8_fire_42 : decode cX8_fire 42 = .ok (.iconst 1, 1) := by decide +kernel
theorem dX8_fire_43 : decode cX8_fire 43 = .ok (.iadd, 1) := by decide +kernel
theorem dX8_fire_44 : decode cX8_fire 44 = .ok (.iastore, 1) := by decide +kernel
theorem dX8_fire_45 : decode cX8_fire 45 = .ok (.aload_n 0, 1) := by decide +kernel
theorem dX8_fire_46 : decode cX8_fire 46 = .ok (.iconst 1, 1) := by decide +kernel
theorem dX8_fire_47 : decode cX8_fire 47 = .ok (.iload_n 1, 1) := by decide +kernel
theorem dX8_fire_48 : decode cX8_fire 48 = .ok (.iconst (-1), 1) := by decide +kernel
theorem dX8_fire_49 : decode cX8_fire 49 = .ok (.invokevirtual 176, 3) := by decide +kernel
theorem dX8_fire_52 : decode cX8_fire 52 = .ok (.bipush 6, 2) := by decide +kernel
theorem dX8_fire_54 : decode cX8_fire 54 = .ok (.iload_n 1, 1) := by decide +kernel
theorem dX8_fire_55 : decode cX8_fire 55 = .ok (.imul, 1) := by decide +kernel
theorem dX8_fire_56 : decode cX8_fire 56 = .ok (.istore_n 2, 1) := by decide +kernel
theorem dX8_fire_57 : decode cX8_fire 57 = .ok (.iload_n 2, 1) := by decide +kernel
theorem dX8_fire_58 : decode cX8_fire 58 = .ok (.bipush 6, 2) := by decide +kernel
theorem dX8_fire_60 : decode cX8_fire 60 = .ok (.iload_n 1, 1) := by decide +kernel
theorem dX8_fire_61 : decode cX8_fire 61 = .ok (.imul, 1) := by decide +kernel
theorem dX8_fire_62 : decode cX8_fire 62 = .ok (.aload_n 0, 1) := by decide +kernel
theorem dX8_fire_63 : decode cX8_fire 63 = .ok (.getfield 29, 3) := by decide +kernel
theorem dX8_fire_66 : decode cX8_fire 66 = .ok (.iload_n 1, 1) := by decide +kernel
theorem dX8_fire_67 : decode cX8_fire 67 = .ok (.iaload, 1) := by decide +kernel
theorem dX8_fire_68 : decode cX8_fire 68 = .ok (.iadd, 1) := by decide +kernel
theorem dX8_fire_69 : decode cX8_fire 69 = .ok (.if_icmp .ge 23, 3) := by decide +kernel
theorem dX8_fire_72 : decode cX8_fire 72 = .ok (.aload_n 0, 1) := by decide +kernel
theorem dX8_fire_73 : decode cX8_fire 73 = .ok (.getfield 54, 3) := by decide +kernel
theorem dX8_fire_76 : decode cX8_fire 76 = .ok (.iload_n 2, 1) := by decide +kernel
theorem dX8_fire_77 : decode cX8_fire 77 = .ok (.iconst 1, 1) := by decide +kernel
theorem dX8_fire_78 : decode cX8_fire 78 = .ok (.iastore, 1) := by decide +kernel
theorem dX8_fire_79 : decode cX8_fire 79 = .ok (.aload_n 0, 1) := by decide +kernel
theorem dX8_fire_80 : decode cX8_fire 80 = .ok (.getfield 57, 3) := by decide +kernel
theorem dX8_fire_83 : decode cX8_fire 83 = .ok (.iload_n 2, 1) := by decide +kernel
theorem dX8_fire_84 : decode cX8_fire 84 = .ok (.iconst 0, 1) := by decide +kernel
theorem dX8_fire_85 : decode cX8_fire 85 = .ok (.iastore, 1) := by decide +kernel
theorem dX8_fire_86 : decode cX8_fire 86 = .ok (.iinc 2 1, 3) := by decide +kernel
theorem dX8_fire_89 : decode cX8_fire 89 = .ok (.goto (-32), 3) := by decide +kernel
theorem dX8_fire_92 : decode cX8_fire 92 = .ok (.aload_n 0, 1) := by decide +kernel
theorem dX8_fire_93 : decode cX8_fire 93 = .ok (.getfield 32, 3) := by decide +kernel
theorem dX8_fire_96 : decode cX8_fire 96 = .ok (.iload_n 1, 1) := by decide +kernel
theorem dX8_fire_97 : decode cX8_fire 97 = .ok (.aload_n 0, 1) := by decide +kernel
theorem dX8_fire_98 : decode cX8_fire 98 = .ok (.getfield 29, 3) := by decide +kernel
theorem dX8_fire_101 : decode cX8_fire 101 = .ok (.iload_n 1, 1) := by decide +kernel
theorem dX8_fire_102 : decode cX8_fire 102 = .ok (.iaload, 1) := by decide +kernel
theorem dX8_fire_103 : decode cX8_fire 103 = .ok (.ifCond .le 7, 3) := by decide +kernel
theorem dX8_fire_106 : decode cX8_fire 106 = .ok (.iconst 1, 1) := by decide +kernel
theorem dX8_fire_107 : decode cX8_fire 107 = .ok (.goto 4, 3) := by decide +kernel
theorem dX8_fire_110 : decode cX8_fire 110 = .ok (.iconst 0, 1) := by decide +kernel
theorem dX8_fire_111 : decode cX8_fire 111 = .ok (.bastore, 1) := by decide +kernel
theorem dX8_fire_112 : decode cX8_fire 112 = .ok (.aload_n 0, 1) := by decide +kernel
theorem dX8_fire_113 : decode cX8_fire 113 = .ok (.getfield 32, 3) := by decide +kernel
theorem dX8_fire_116 : decode cX8_fire 116 = .ok (.iload_n 1, 1) := by decide +kernel
theorem dX8_fire_117 : decode cX8_fire 117 = .ok (.baload, 1) := by decide +kernel
theorem dX8_fire_118 : decode cX8_fire 118 = .ok (.ifCond .ne 11, 3) := by decide +kernel
theorem dX8_fire_121 : decode cX8_fire 121 = .ok (.aload_n 0, 1) := by decide +kernel
theorem dX8_fire_122 : decode cX8_fire 122 = .ok (.bipush 8, 2) := by decide +kernel
theorem dX8_fire_124 : decode cX8_fire 124 = .ok (.iload_n 1, 1) := by decide +kernel
theorem dX8_fire_125 : decode cX8_fire 125 = .ok (.iconst (-1), 1) := by decide +kernel
theorem dX8_fire_126 : decode cX8_fire 126 = .ok (.invokevirtual 176, 3) := by decide +kernel
theorem dX8_fire_129 : decode cX8_fire 129 = .ok (.return_, 1) := by decide +kernel
theorem dX8_runningTasks_0 : decode cX8_runningTasks 0 = .ok (.iconst 0, 1) := by decide +kernel
theorem dX8_runningTasks_1 : decode cX8_runningTasks 1 = .ok (.istore_n 1, 1) := by decide +kernel
theorem dX8_runningTasks_2 : decode cX8_runningTasks 2 = .ok (.iconst 0, 1) := by decide +kernel
theorem dX8_runningTasks_3 : decode cX8_runningTasks 3 = .ok (.istore_n 2, 1) := by decide +kernel
theorem dX8_runningTasks_4 : decode cX8_runningTasks 4 = .ok (.iload_n 2, 1) := by decide +kernel
theorem dX8_runningTasks_5 : decode cX8_runningTasks 5 = .ok (.bipush 36, 2) := by decide +kernel
theorem dX8_runningTasks_7 : decode cX8_runningTasks 7 = .ok (.if_icmp .ge 27, 3) := by decide +kernel
theorem dX8_runningTasks_10 : decode cX8_runningTasks 10 = .ok (.aload_n 0, 1) := by decide +kernel
theorem dX8_runningTasks_11 : decode cX8_runningTasks 11 = .ok (.getfield 54, 3) := by decide +kernel
theorem dX8_runningTasks_14 : decode cX8_runningTasks 14 = .ok (.iload_n 2, 1) := by decide +kernel
theorem dX8_runningTasks_15 : decode cX8_runningTasks 15 = .ok (.iaload, 1) := by decide +kernel
theorem dX8_runningTasks_16 : decode cX8_runningTasks 16 = .ok (.iconst 3, 1) := by decide +kernel
theorem dX8_runningTasks_17 : decode cX8_runningTasks 17 = .ok (.if_icmp .ne 9, 3) := by decide +kernel
theorem dX8_runningTasks_20 : decode cX8_runningTasks 20 = .ok (.iload_n 1, 1) := by decide +kernel
theorem dX8_runningTasks_21 : decode cX8_runningTasks 21 = .ok (.iconst 1, 1) := by decide +kernel
theorem dX8_runningTasks_22 : decode cX8_runningTasks 22 = .ok (.iadd, 1) := by decide +kernel
theorem dX8_runningTasks_23 : decode cX8_runningTasks 23 = .ok (.goto 4, 3) := by decide +kernel
theorem dX8_runningTasks_26 : decode cX8_runningTasks 26 = .ok (.iload_n 1, 1) := by decide +kernel
theorem dX8_runningTasks_27 : decode cX8_runningTasks 27 = .ok (.istore_n 1, 1) := by decide +kernel
theorem dX8_runningTasks_28 : decode cX8_runningTasks 28 = .ok (.iinc 2 1, 3) := by decide +kernel
theorem dX8_runningTasks_31 : decode cX8_runningTasks 31 = .ok (.goto (-27), 3) := by decide +kernel
theorem dX8_runningTasks_34 : decode cX8_runningTasks 34 = .ok (.iload_n 1, 1) := by decide +kernel
theorem dX8_runningTasks_35 : decode cX8_runningTasks 35 = .ok (.ireturn, 1) := by decide +kernel
theorem dX8_isReady_0 : decode cX8_isReady 0 = .ok (.bipush 6, 2) := by decide +kernel
theorem dX8_isReady_2 : decode cX8_isReady 2 = .ok (.iload_n 1, 1) := by decide +kernel
theorem dX8_isReady_3 : decode cX8_isReady 3 = .ok (.imul, 1) := by decide +kernel
theorem dX8_isReady_4 : decode cX8_isReady 4 = .ok (.iload_n 2, 1) := by decide +kernel
theorem dX8_isReady_5 : decode cX8_isReady 5 = .ok (.iadd, 1) := by decide +kernel
theorem dX8_isReady_6 : decode cX8_isReady 6 = .ok (.istore_n 3, 1) := by decide +kernel
theorem dX8_isReady_7 : decode cX8_isReady 7 = .ok (.aload_n 0, 1) := by decide +kernel
theorem dX8_isReady_8 : decode cX8_isReady 8 = .ok (.getfield 54, 3) := by decide +kernel
theorem dX8_isReady_11 : decode cX8_isReady 11 = .ok (.iload_n 3, 1) := by decide +kernel
theorem dX8_isReady_12 : decode cX8_isReady 12 = .ok (.iaload, 1) := by decide +kernel
theorem dX8_isReady_13 : decode cX8_isReady 13 = .ok (.iconst 1, 1) := by decide +kernel
theorem dX8_isReady_14 : decode cX8_isReady 14 = .ok (.if_icmp .eq 26, 3) := by decide +kernel
theorem dX8_isReady_17 : decode cX8_isReady 17 = .ok (.aload_n 0, 1) := by decide +kernel
theorem dX8_isReady_18 : decode cX8_isReady 18 = .ok (.getfield 54, 3) := by decide +kernel
theorem dX8_isReady_21 : decode cX8_isReady 21 = .ok (.iload_n 3, 1) := by decide +kernel
theorem dX8_isReady_22 : decode cX8_isReady 22 = .ok (.iaload, 1) := by decide +kernel
theorem dX8_isReady_23 : decode cX8_isReady 23 = .ok (.iconst 2, 1) := by decide +kernel
theorem dX8_isReady_24 : decode cX8_isReady 24 = .ok (.if_icmp .ne 20, 3) := by decide +kernel
theorem dX8_isReady_27 : decode cX8_isReady 27 = .ok (.aload_n 0, 1) := by decide +kernel
theorem dX8_isReady_28 : decode cX8_isReady 28 = .ok (.getfield 60, 3) := by decide +kernel
theorem dX8_isReady_31 : decode cX8_isReady 31 = .ok (.iload_n 3, 1) := by decide +kernel
theorem dX8_isReady_32 : decode cX8_isReady 32 = .ok (.iaload, 1) := by decide +kernel
theorem dX8_isReady_33 : decode cX8_isReady 33 = .ok (.aload_n 0, 1) := by decide +kernel
theorem dX8_isReady_34 : decode cX8_isReady 34 = .ok (.getfield 173, 3) := by decide +kernel
theorem dX8_isReady_37 : decode cX8_isReady 37 = .ok (.if_icmp .gt 7, 3) := by decide +kernel
theorem dX8_isReady_40 : decode cX8_isReady 40 = .ok (.iconst 1, 1) := by decide +kernel
theorem dX8_isReady_41 : decode cX8_isReady 41 = .ok (.goto 4, 3) := by decide +kernel
theorem dX8_isReady_44 : decode cX8_isReady 44 = .ok (.iconst 0, 1) := by decide +kernel
theorem dX8_isReady_45 : decode cX8_isReady 45 = .ok (.istore 4, 2) := by decide +kernel
theorem dX8_isReady_47 : decode cX8_isReady 47 = .ok (.iconst 0, 1) := by decide +kernel
theorem dX8_isReady_48 : decode cX8_isReady 48 = .ok (.istore 5, 2) := by decide +kernel
theorem dX8_isReady_50 : decode cX8_isReady 50 = .ok (.iload 5, 2) := by decide +kernel
theorem dX8_isReady_52 : decode cX8_isReady 52 = .ok (.iload_n 2, 1) := by decide +kernel
theorem dX8_isReady_53 : decode cX8_isReady 53 = .ok (.if_icmp .ge 51, 3) := by decide +kernel
theorem dX8_isReady_56 : decode cX8_isReady 56 = .ok (.iload 4, 2) := by decide +kernel
theorem dX8_isReady_58 : decode cX8_isReady 58 = .ok (.ifCond .eq 37, 3) := by decide +kernel
theorem dX8_isReady_61 : decode cX8_isReady 61 = .ok (.aload_n 0, 1) := by decide +kernel
theorem dX8_isReady_62 : decode cX8_isReady 62 = .ok (.getfield 45, 3) := by decide +kernel
theorem dX8_isReady_65 : decode cX8_isReady 65 = .ok (.iload_n 3, 1) := by decide +kernel
theorem dX8_isReady_66 : decode cX8_isReady 66 = .ok (.iaload, 1) := by decide +kernel
theorem dX8_isReady_67 : decode cX8_isReady 67 = .ok (.iload 5, 2) := by decide +kernel
theorem dX8_isReady_69 : decode cX8_isReady 69 = .ok (.ishr, 1) := by decide +kernel
theorem dX8_isReady_70 : decode cX8_isReady 70 = .ok (.iconst 1, 1) := by decide +kernel
theorem dX8_isReady_71 : decode cX8_isReady 71 = .ok (.iand, 1) := by decide +kernel
theorem dX8_isReady_72 : decode cX8_isReady 72 = .ok (.ifCond .eq 19, 3) := by decide +kernel
theorem dX8_isReady_75 : decode cX8_isReady 75 = .ok (.aload_n 0, 1) := by decide +kernel
theorem dX8_isReady_76 : decode cX8_isReady 76 = .ok (.getfield 54, 3) := by decide +kernel
theorem dX8_isReady_79 : decode cX8_isReady 79 = .ok (.bipush 6, 2) := by decide +kernel
theorem dX8_isReady_81 : decode cX8_isReady 81 = .ok (.iload_n 1, 1) := by decide +kernel
theorem dX8_isReady_82 : decode cX8_isReady 82 = .ok (.imul, 1) := by decide +kernel
theorem dX8_isReady_83 : decode cX8_isReady 83 = .ok (.iload 5, 2) := by decide +kernel
theorem dX8_isReady_85 : decode cX8_isReady 85 = .ok (.iadd, 1) := by decide +kernel
theorem dX8_isReady_86 : decode cX8_isReady 86 = .ok (.iaload, 1) := by decide +kernel
theorem dX8_isReady_87 : decode cX8_isReady 87 = .ok (.iconst 4, 1) := by decide +kernel
theorem dX8_isReady_88 : decode cX8_isReady 88 = .ok (.if_icmp .ne 7, 3) := by decide +kernel
theorem dX8_isReady_91 : decode cX8_isReady 91 = .ok (.iconst 1, 1) := by decide +kernel
theorem dX8_isReady_92 : decode cX8_isReady 92 = .ok (.goto 4, 3) := by decide +kernel
theorem dX8_isReady_95 : decode cX8_isReady 95 = .ok (.iconst 0, 1) := by decide +kernel
theorem dX8_isReady_96 : decode cX8_isReady 96 = .ok (.istore 4, 2) := by decide +kernel
theorem dX8_isReady_98 : decode cX8_isReady 98 = .ok (.iinc 5 1, 3) := by decide +kernel
theorem dX8_isReady_101 : decode cX8_isReady 101 = .ok (.goto (-51), 3) := by decide +kernel
theorem dX8_isReady_104 : decode cX8_isReady 104 = .ok (.iload 4, 2) := by decide +kernel
theorem dX8_isReady_106 : decode cX8_isReady 106 = .ok (.ireturn, 1) := by decide +kernel
theorem dX8_best_0 : decode cX8_best 0 = .ok (.iconst (-1), 1) := by decide +kernel
theorem dX8_best_1 : decode cX8_best 1 = .ok (.istore_n 1, 1) := by decide +kernel
theorem dX8_best_2 : decode cX8_best 2 = .ok (.iconst 0, 1) := by decide +kernel
theorem dX8_best_3 : decode cX8_best 3 = .ok (.istore_n 2, 1) := by decide +kernel
theorem dX8_best_4 : decode cX8_best 4 = .ok (.iload_n 2, 1) := by decide +kernel
theorem dX8_best_5 : decode cX8_best 5 = .ok (.aload_n 0, 1) := by decide +kernel
theorem dX8_best_6 : decode cX8_best 6 = .ok (.getfield 98, 3) := by decide +kernel
theorem dX8_best_9 : decode cX8_best 9 = .ok (.if_icmp .ge 81, 3) := by decide +kernel
theorem dX8_best_12 : decode cX8_best 12 = .ok (.iconst 0, 1) := by decide +kernel
theorem dX8_best_13 : decode cX8_best 13 = .ok (.istore_n 3, 1) := by decide +kernel
theorem dX8_best_14 : decode cX8_best 14 = .ok (.iload_n 3, 1) := by decide +kernel
theorem dX8_best_15 : decode cX8_best 15 = .ok (.aload_n 0, 1) := by decide +kernel
theorem dX8_best_16 : decode cX8_best 16 = .ok (.getfield 29, 3) := by decide +kernel
theorem dX8_best_19 : decode cX8_best 19 = .ok (.iload_n 2, 1) := by decide +kernel
theorem dX8_best_20 : decode cX8_best 20 = .ok (.iaload, 1) := by decide +kernel
theorem dX8_best_21 : decode cX8_best 21 = .ok (.if_icmp .ge 63, 3) := by decide +kernel
theorem dX8_best_24 : decode cX8_best 24 = .ok (.iload_n 1, 1) := by decide +kernel
theorem dX8_best_25 : decode cX8_best 25 = .ok (.ifCond .lt 21, 3) := by decide +kernel
theorem dX8_best_28 : decode cX8_best 28 = .ok (.aload_n 0, 1) := by decide +kernel
theorem dX8_best_29 : decode cX8_best 29 = .ok (.getfield 26, 3) := by decide +kernel
theorem dX8_best_32 : decode cX8_best 32 = .ok (.iload_n 2, 1) := by decide +kernel
theorem dX8_best_33 : decode cX8_best 33 = .ok (.iaload, 1) := by decide +kernel
theorem dX8_best_34 : decode cX8_best 34 = .ok (.aload_n 0, 1) := by decide +kernel
theorem dX8_best_35 : decode cX8_best 35 = .ok (.getfield 26, 3) := by decide +kernel
theorem dX8_best_38 : decode cX8_best 38 = .ok (.iload_n 1, 1) := by decide +kernel
theorem dX8_best_39 : decode cX8_best 39 = .ok (.bipush 6, 2) := by decide +kernel
theorem dX8_best_41 : decode cX8_best 41 = .ok (.idiv, 1) := by decide +kernel
theorem dX8_best_42 : decode cX8_best 42 = .ok (.iaload, 1) := by decide +kernel
theorem dX8_best_43 : decode cX8_best 43 = .ok (.if_icmp .le 7, 3) := by decide +kernel
theorem dX8_best_46 : decode cX8_best 46 = .ok (.iconst 1, 1) := by decide +kernel
theorem dX8_best_47 : decode cX8_best 47 = .ok (.goto 4, 3) := by decide +kernel
theorem dX8_best_50 : decode cX8_best 50 = .ok (.iconst 0, 1) := by decide +kernel
theorem dX8_best_51 : decode cX8_best 51 = .ok (.istore 4, 2) := by decide +kernel
theorem dX8_best_53 : decode cX8_best 53 = .ok (.iload 4, 2) := by decide +kernel
theorem dX8_best_55 : decode cX8_best 55 = .ok (.ifCond .eq 21, 3) := by decide +kernel
theorem dX8_best_58 : decode cX8_best 58 = .ok (.aload_n 0, 1) := by decide +kernel
theorem dX8_best_59 : decode cX8_best 59 = .ok (.iload_n 2, 1) := by decide +kernel
theorem dX8_best_60 : decode cX8_best 60 = .ok (.iload_n 3, 1) := by decide +kernel
theorem dX8_best_61 : decode cX8_best 61 = .ok (.invokevirtual 180, 3) := by decide +kernel
theorem dX8_best_64 : decode cX8_best 64 = .ok (.ifCond .eq 12, 3) := by decide +kernel
theorem dX8_best_67 : decode cX8_best 67 = .ok (.bipush 6, 2) := by decide +kernel
theorem dX8_best_69 : decode cX8_best 69 = .ok (.iload_n 2, 1) := by decide +kernel
theorem dX8_best_70 : decode cX8_best 70 = .ok (.imul, 1) := by decide +kernel
theorem dX8_best_71 : decode cX8_best 71 = .ok (.iload_n 3, 1) := by decide +kernel
theorem dX8_best_72 : decode cX8_best 72 = .ok (.iadd, 1) := by decide +kernel
theorem dX8_best_73 : decode cX8_best 73 = .ok (.goto 4, 3) := by decide +kernel
theorem dX8_best_76 : decode cX8_best 76 = .ok (.iload_n 1, 1) := by decide +kernel
theorem dX8_best_77 : decode cX8_best 77 = .ok (.istore_n 1, 1) := by decide +kernel
theorem dX8_best_78 : decode cX8_best 78 = .ok (.iinc 3 1, 3) := by decide +kernel
theorem dX8_best_81 : decode cX8_best 81 = .ok (.goto (-67), 3) := by decide +kernel
theorem dX8_best_84 : decode cX8_best 84 = .ok (.iinc 2 1, 3) := by decide +kernel
theorem dX8_best_87 : decode cX8_best 87 = .ok (.goto (-83), 3) := by decide +kernel
theorem dX8_best_90 : decode cX8_best 90 = .ok (.iload_n 1, 1) := by decide +kernel
theorem dX8_best_91 : decode cX8_best 91 = .ok (.ireturn, 1) := by decide +kernel
theorem dX8_start_0 : decode cX8_start 0 = .ok (.iconst 0, 1) := by decide +kernel
theorem dX8_start_1 : decode cX8_start 1 = .ok (.istore_n 1, 1) := by decide +kernel
theorem dX8_start_2 : decode cX8_start 2 = .ok (.aload_n 0, 1) := by decide +kernel
theorem dX8_start_3 : decode cX8_start 3 = .ok (.invokevirtual 183, 3) := by decide +kernel
theorem dX8_start_6 : decode cX8_start 6 = .ok (.istore_n 2, 1) := by decide +kernel
theorem dX8_start_7 : decode cX8_start 7 = .ok (.iload_n 2, 1) := by decide +kernel
theorem dX8_start_8 : decode cX8_start 8 = .ok (.ifCond .lt 46, 3) := by decide +kernel
theorem dX8_start_11 : decode cX8_start 11 = .ok (.aload_n 0, 1) := by decide +kernel
theorem dX8_start_12 : decode cX8_start 12 = .ok (.invokevirtual 186, 3) := by decide +kernel
theorem dX8_start_15 : decode cX8_start 15 = .ok (.aload_n 0, 1) := by decide +kernel
theorem dX8_start_16 : decode cX8_start 16 = .ok (.getfield 7, 3) := by decide +kernel
theorem dX8_start_19 : decode cX8_start 19 = .ok (.if_icmp .ge 35, 3) := by decide +kernel
theorem dX8_start_22 : decode cX8_start 22 = .ok (.aload_n 0, 1) := by decide +kernel
theorem dX8_start_23 : decode cX8_start 23 = .ok (.getfield 54, 3) := by decide +kernel
theorem dX8_start_26 : decode cX8_start 26 = .ok (.iload_n 2, 1) := by decide +kernel
theorem dX8_start_27 : decode cX8_start 27 = .ok (.iconst 3, 1) := by decide +kernel
theorem dX8_start_28 : decode cX8_start 28 = .ok (.iastore, 1) := by decide +kernel
theorem dX8_start_29 : decode cX8_start 29 = .ok (.aload_n 0, 1) := by decide +kernel
theorem dX8_start_30 : decode cX8_start 30 = .ok (.iconst 3, 1) := by decide +kernel
theorem dX8_start_31 : decode cX8_start 31 = .ok (.iload_n 2, 1) := by decide +kernel
theorem dX8_start_32 : decode cX8_start 32 = .ok (.bipush 6, 2) := by decide +kernel
theorem dX8_start_34 : decode cX8_start 34 = .ok (.idiv, 1) := by decide +kernel
theorem dX8_start_35 : decode cX8_start 35 = .ok (.iload_n 2, 1) := by decide +kernel
theorem dX8_start_36 : decode cX8_start 36 = .ok (.bipush 6, 2) := by decide +kernel
theorem dX8_start_38 : decode cX8_start 38 = .ok (.irem, 1) := by decide +kernel
theorem dX8_start_39 : decode cX8_start 39 = .ok (.invokevirtual 176, 3) := by decide +kernel
theorem dX8_start_42 : decode cX8_start 42 = .ok (.iload_n 1, 1) := by decide +kernel
theorem dX8_start_43 : decode cX8_start 43 = .ok (.iconst 1, 1) := by decide +kernel
theorem dX8_start_44 : decode cX8_start 44 = .ok (.iadd, 1) := by decide +kernel
theorem dX8_start_45 : decode cX8_start 45 = .ok (.istore_n 1, 1) := by decide +kernel
theorem dX8_start_46 : decode cX8_start 46 = .ok (.aload_n 0, 1) := by decide +kernel
theorem dX8_start_47 : decode cX8_start 47 = .ok (.invokevirtual 183, 3) := by decide +kernel
theorem dX8_start_50 : decode cX8_start 50 = .ok (.istore_n 2, 1) := by decide +kernel
theorem dX8_start_51 : decode cX8_start 51 = .ok (.goto (-44), 3) := by decide +kernel
theorem dX8_start_54 : decode cX8_start 54 = .ok (.iload_n 1, 1) := by decide +kernel
theorem dX8_start_55 : decode cX8_start 55 = .ok (.ireturn, 1) := by decide +kernel
theorem dX8_leaveOut_0 : decode cX8_leaveOut 0 = .ok (.iconst 1, 1) := by decide +kernel
theorem dX8_leaveOut_1 : decode cX8_leaveOut 1 = .ok (.iload_n 2, 1) := by decide +kernel
theorem dX8_leaveOut_2 : decode cX8_leaveOut 2 = .ok (.ishl, 1) := by decide +kernel
theorem dX8_leaveOut_3 : decode cX8_leaveOut 3 = .ok (.istore_n 3, 1) := by decide +kernel
theorem dX8_leaveOut_4 : decode cX8_leaveOut 4 = .ok (.iload_n 2, 1) := by decide +kernel
theorem dX8_leaveOut_5 : decode cX8_leaveOut 5 = .ok (.iconst 1, 1) := by decide +kernel
theorem dX8_leaveOut_6 : decode cX8_leaveOut 6 = .ok (.iadd, 1) := by decide +kernel
theorem dX8_leaveOut_7 : decode cX8_leaveOut 7 = .ok (.istore 4, 2) := by decide +kernel
theorem dX8_leaveOut_9 : decode cX8_leaveOut 9 = .ok (.iload 4, 2) := by decide +kernel
theorem dX8_leaveOut_11 : decode cX8_leaveOut 11 = .ok (.aload_n 0, 1) := by decide +kernel
theorem dX8_leaveOut_12 : decode cX8_leaveOut 12 = .ok (.getfield 29, 3) := by decide +kernel
theorem dX8_leaveOut_15 : decode cX8_leaveOut 15 = .ok (.iload_n 1, 1) := by decide +kernel
theorem dX8_leaveOut_16 : decode cX8_leaveOut 16 = .ok (.iaload, 1) := by decide +kernel
theorem dX8_leaveOut_17 : decode cX8_leaveOut 17 = .ok (.if_icmp .ge 73, 3) := by decide +kernel
theorem dX8_leaveOut_20 : decode cX8_leaveOut 20 = .ok (.aload_n 0, 1) := by decide +kernel
theorem dX8_leaveOut_21 : decode cX8_leaveOut 21 = .ok (.getfield 45, 3) := by decide +kernel
theorem dX8_leaveOut_24 : decode cX8_leaveOut 24 = .ok (.bipush 6, 2) := by decide +kernel
theorem dX8_leaveOut_26 : decode cX8_leaveOut 26 = .ok (.iload_n 1, 1) := by decide +kernel
theorem dX8_leaveOut_27 : decode cX8_leaveOut 27 = .ok (.imul, 1) := by decide +kernel
theorem dX8_leaveOut_28 : decode cX8_leaveOut 28 = .ok (.iload 4, 2) := by decide +kernel
theorem dX8_leaveOut_30 : decode cX8_leaveOut 30 = .ok (.iadd, 1) := by decide +kernel
theorem dX8_leaveOut_31 : decode cX8_leaveOut 31 = .ok (.iaload, 1) := by decide +kernel
theorem dX8_leaveOut_32 : decode cX8_leaveOut 32 = .ok (.iload_n 3, 1) := by decide +kernel
theorem dX8_leaveOut_33 : decode cX8_leaveOut 33 = .ok (.iand, 1) := by decide +kernel
theorem dX8_leaveOut_34 : decode cX8_leaveOut 34 = .ok (.ifCond .eq 50, 3) := by decide +kernel
theorem dX8_leaveOut_37 : decode cX8_leaveOut 37 = .ok (.iload_n 3, 1) := by decide +kernel
theorem dX8_leaveOut_38 : decode cX8_leaveOut 38 = .ok (.iconst 1, 1) := by decide +kernel
theorem dX8_leaveOut_39 : decode cX8_leaveOut 39 = .ok (.iload 4, 2) := by decide +kernel
theorem dX8_leaveOut_41 : decode cX8_leaveOut 41 = .ok (.ishl, 1) := by decide +kernel
theorem dX8_leaveOut_42 : decode cX8_leaveOut 42 = .ok (.ior, 1) := by decide +kernel
theorem dX8_leaveOut_43 : decode cX8_leaveOut 43 = .ok (.istore_n 3, 1) := by decide +kernel
theorem dX8_leaveOut_44 : decode cX8_leaveOut 44 = .ok (.aload_n 0, 1) := by decide +kernel
theorem dX8_leaveOut_45 : decode cX8_leaveOut 45 = .ok (.getfield 54, 3) := by decide +kernel
theorem dX8_leaveOut_48 : decode cX8_leaveOut 48 = .ok (.bipush 6, 2) := by decide +kernel
theorem dX8_leaveOut_50 : decode cX8_leaveOut 50 = .ok (.iload_n 1, 1) := by decide +kernel
theorem dX8_leaveOut_51 : decode cX8_leaveOut 51 = .ok (.imul, 1) := by decide +kernel
theorem dX8_leaveOut_52 : decode cX8_leaveOut 52 = .ok (.iload 4, 2) := by decide +kernel
theorem dX8_leaveOut_54 : decode cX8_leaveOut 54 = .ok (.iadd, 1) := by decide +kernel
theorem dX8_leaveOut_55 : decode cX8_leaveOut 55 = .ok (.iaload, 1) := by decide +kernel
theorem dX8_leaveOut_56 : decode cX8_leaveOut 56 = .ok (.bipush 6, 2) := by decide +kernel
theorem dX8_leaveOut_58 : decode cX8_leaveOut 58 = .ok (.if_icmp .eq 26, 3) := by decide +kernel
theorem dX8_leaveOut_61 : decode cX8_leaveOut 61 = .ok (.aload_n 0, 1) := by decide +kernel
theorem dX8_leaveOut_62 : decode cX8_leaveOut 62 = .ok (.getfield 54, 3) := by decide +kernel
theorem dX8_leaveOut_65 : decode cX8_leaveOut 65 = .ok (.bipush 6, 2) := by decide +kernel
theorem dX8_leaveOut_67 : decode cX8_leaveOut 67 = .ok (.iload_n 1, 1) := by decide +kernel
theorem dX8_leaveOut_68 : decode cX8_leaveOut 68 = .ok (.imul, 1) := by decide +kernel
theorem dX8_leaveOut_69 : decode cX8_leaveOut 69 = .ok (.iload 4, 2) := by decide +kernel
theorem dX8_leaveOut_71 : decode cX8_leaveOut 71 = .ok (.iadd, 1) := by decide +kernel
theorem dX8_leaveOut_72 : decode cX8_leaveOut 72 = .ok (.bipush 6, 2) := by decide +kernel
theorem dX8_leaveOut_74 : decode cX8_leaveOut 74 = .ok (.iastore, 1) := by decide +kernel
theorem dX8_leaveOut_75 : decode cX8_leaveOut 75 = .ok (.aload_n 0, 1) := by decide +kernel
theorem dX8_leaveOut_76 : decode cX8_leaveOut 76 = .ok (.bipush 7, 2) := by decide +kernel
theorem dX8_leaveOut_78 : decode cX8_leaveOut 78 = .ok (.iload_n 1, 1) := by decide +kernel
theorem dX8_leaveOut_79 : decode cX8_leaveOut 79 = .ok (.iload 4, 2) := by decide +kernel
theorem dX8_leaveOut_81 : decode cX8_leaveOut 81 = .ok (.invokevirtual 176, 3) := by decide +kernel
theorem dX8_leaveOut_84 : decode cX8_leaveOut 84 = .ok (.iinc 4 1, 3) := by decide +kernel
theorem dX8_leaveOut_87 : decode cX8_leaveOut 87 = .ok (.goto (-78), 3) := by decide +kernel
theorem dX8_leaveOut_90 : decode cX8_leaveOut 90 = .ok (.return_, 1) := by decide +kernel
theorem dX8_endTask_0 : decode cX8_endTask 0 = .ok (.bipush 6, 2) := by decide +kernel
theorem dX8_endTask_2 : decode cX8_endTask 2 = .ok (.iload_n 1, 1) := by decide +kernel
theorem dX8_endTask_3 : decode cX8_endTask 3 = .ok (.imul, 1) := by decide +kernel
theorem dX8_endTask_4 : decode cX8_endTask 4 = .ok (.iload_n 2, 1) := by decide +kernel
theorem dX8_endTask_5 : decode cX8_endTask 5 = .ok (.iadd, 1) := by decide +kernel
theorem dX8_endTask_6 : decode cX8_endTask 6 = .ok (.istore 4, 2) := by decide +kernel
theorem dX8_endTask_8 : decode cX8_endTask 8 = .ok (.iload_n 3, 1) := by decide +kernel
theorem dX8_endTask_9 : decode cX8_endTask 9 = .ok (.ifCond .eq 21, 3) := by decide +kernel
theorem dX8_endTask_12 : decode cX8_endTask 12 = .ok (.aload_n 0, 1) := by decide +kernel
theorem dX8_endTask_13 : decode cX8_endTask 13 = .ok (.getfield 54, 3) := by decide +kernel
theorem dX8_endTask_16 : decode cX8_endTask 16 = .ok (.iload 4, 2) := by decide +kernel
theorem dX8_endTask_18 : decode cX8_endTask 18 = .ok (.iconst 4, 1) := by decide +kernel
theorem dX8_endTask_19 : decode cX8_endTask 19 = .ok (.iastore, 1) := by decide +kernel
theorem dX8_endTask_20 : decode cX8_endTask 20 = .ok (.aload_n 0, 1) := by decide +kernel
theorem dX8_endTask_21 : decode cX8_endTask 21 = .ok (.iconst 4, 1) := by decide +kernel
theorem dX8_endTask_22 : decode cX8_endTask 22 = .ok (.iload_n 1, 1) := by decide +kernel
theorem dX8_endTask_23 : decode cX8_endTask 23 = .ok (.iload_n 2, 1) := by decide +kernel
theorem dX8_endTask_24 : decode cX8_endTask 24 = .ok (.invokevirtual 176, 3) := by decide +kernel
theorem dX8_endTask_27 : decode cX8_endTask 27 = .ok (.goto 117, 3) := by decide +kernel
theorem dX8_endTask_30 : decode cX8_endTask 30 = .ok (.aload_n 0, 1) := by decide +kernel
theorem dX8_endTask_31 : decode cX8_endTask 31 = .ok (.getfield 57, 3) := by decide +kernel
theorem dX8_endTask_34 : decode cX8_endTask 34 = .ok (.iload 4, 2) := by decide +kernel
theorem dX8_endTask_36 : decode cX8_endTask 36 = .ok (.aload_n 0, 1) := by decide +kernel
theorem dX8_endTask_37 : decode cX8_endTask 37 = .ok (.getfield 57, 3) := by decide +kernel
theorem dX8_endTask_40 : decode cX8_endTask 40 = .ok (.iload 4, 2) := by decide +kernel
theorem dX8_endTask_42 : decode cX8_endTask 42 = .ok (.iaload, 1) := by decide +kernel
theorem dX8_endTask_43 : decode cX8_endTask 43 = .ok (.iconst 1, 1) := by decide +kernel
theorem dX8_endTask_44 : decode cX8_endTask 44 = .ok (.iadd, 1) := by decide +kernel
theorem dX8_endTask_45 : decode cX8_endTask 45 = .ok (.iastore, 1) := by decide +kernel
theorem dX8_endTask_46 : decode cX8_endTask 46 = .ok (.aload_n 0, 1) := by decide +kernel
theorem dX8_endTask_47 : decode cX8_endTask 47 = .ok (.getfield 57, 3) := by decide +kernel
theorem dX8_endTask_50 : decode cX8_endTask 50 = .ok (.iload 4, 2) := by decide +kernel
theorem dX8_endTask_52 : decode cX8_endTask 52 = .ok (.iaload, 1) := by decide +kernel
theorem dX8_endTask_53 : decode cX8_endTask 53 = .ok (.aload_n 0, 1) := by decide +kernel
theorem dX8_endTask_54 : decode cX8_endTask 54 = .ok (.getfield 48, 3) := by decide +kernel
theorem dX8_endTask_57 : decode cX8_endTask 57 = .ok (.iload 4, 2) := by decide +kernel
theorem dX8_endTask_59 : decode cX8_endTask 59 = .ok (.iaload, 1) := by decide +kernel
theorem dX8_endTask_60 : decode cX8_endTask 60 = .ok (.if_icmp .ge 7, 3) := by decide +kernel
theorem dX8_endTask_63 : decode cX8_endTask 63 = .ok (.iconst 1, 1) := by decide +kernel
theorem dX8_endTask_64 : decode cX8_endTask 64 = .ok (.goto 4, 3) := by decide +kernel
theorem dX8_endTask_67 : decode cX8_endTask 67 = .ok (.iconst 0, 1) := by decide +kernel
theorem dX8_endTask_68 : decode cX8_endTask 68 = .ok (.istore 5, 2) := by decide +kernel
theorem dX8_endTask_70 : decode cX8_endTask 70 = .ok (.aload_n 0, 1) := by decide +kernel
theorem dX8_endTask_71 : decode cX8_endTask 71 = .ok (.getfield 54, 3) := by decide +kernel
theorem dX8_endTask_74 : decode cX8_endTask 74 = .ok (.iload 4, 2) := by decide +kernel
theorem dX8_endTask_76 : decode cX8_endTask 76 = .ok (.iload 5, 2) := by decide +kernel
theorem dX8_endTask_78 : decode cX8_endTask 78 = .ok (.ifCond .eq 7, 3) := by decide +kernel
theorem dX8_endTask_81 : decode cX8_endTask 81 = .ok (.iconst 2, 1) := by decide +kernel
theorem dX8_endTask_82 : decode cX8_endTask 82 = .ok (.goto 4, 3) := by decide +kernel
theorem dX8_endTask_85 : decode cX8_endTask 85 = .ok (.iconst 5, 1) := by decide +kernel
theorem dX8_endTask_86 : decode cX8_endTask 86 = .ok (.iastore, 1) := by decide +kernel
theorem dX8_endTask_87 : decode cX8_endTask 87 = .ok (.aload_n 0, 1) := by decide +kernel
theorem dX8_endTask_88 : decode cX8_endTask 88 = .ok (.getfield 60, 3) := by decide +kernel
theorem dX8_endTask_91 : decode cX8_endTask 91 = .ok (.iload 4, 2) := by decide +kernel
theorem dX8_endTask_93 : decode cX8_endTask 93 = .ok (.aload_n 0, 1) := by decide +kernel
theorem dX8_endTask_94 : decode cX8_endTask 94 = .ok (.getfield 173, 3) := by decide +kernel
theorem dX8_endTask_97 : decode cX8_endTask 97 = .ok (.aload_n 0, 1) := by decide +kernel
theorem dX8_endTask_98 : decode cX8_endTask 98 = .ok (.getfield 51, 3) := by decide +kernel
theorem dX8_endTask_101 : decode cX8_endTask 101 = .ok (.iload 4, 2) := by decide +kernel
theorem dX8_endTask_103 : decode cX8_endTask 103 = .ok (.iaload, 1) := by decide +kernel
theorem dX8_endTask_104 : decode cX8_endTask 104 = .ok (.aload_n 0, 1) := by decide +kernel
theorem dX8_endTask_105 : decode cX8_endTask 105 = .ok (.getfield 57, 3) := by decide +kernel
theorem dX8_endTask_108 : decode cX8_endTask 108 = .ok (.iload 4, 2) := by decide +kernel
theorem dX8_endTask_110 : decode cX8_endTask 110 = .ok (.iaload, 1) := by decide +kernel
theorem dX8_endTask_111 : decode cX8_endTask 111 = .ok (.iconst 1, 1) := by decide +kernel
theorem dX8_endTask_112 : decode cX8_endTask 112 = .ok (.isub, 1) := by decide +kernel
theorem dX8_endTask_113 : decode cX8_endTask 113 = .ok (.ishl, 1) := by decide +kernel
theorem dX8_endTask_114 : decode cX8_endTask 114 = .ok (.iadd, 1) := by decide +kernel
theorem dX8_endTask_115 : decode cX8_endTask 115 = .ok (.iastore, 1) := by decide +kernel
theorem dX8_endTask_116 : decode cX8_endTask 116 = .ok (.aload_n 0, 1) := by decide +kernel
theorem dX8_endTask_117 : decode cX8_endTask 117 = .ok (.iload 5, 2) := by decide +kernel
theorem dX8_endTask_119 : decode cX8_endTask 119 = .ok (.ifCond .eq 7, 3) := by decide +kernel
theorem dX8_endTask_122 : decode cX8_endTask 122 = .ok (.iconst 5, 1) := by decide +kernel
theorem dX8_endTask_123 : decode cX8_endTask 123 = .ok (.goto 5, 3) := by decide +kernel
theorem dX8_endTask_126 : decode cX8_endTask 126 = .ok (.bipush 6, 2) := by decide +kernel
theorem dX8_endTask_128 : decode cX8_endTask 128 = .ok (.iload_n 1, 1) := by decide +kernel
theorem dX8_endTask_129 : decode cX8_endTask 129 = .ok (.iload_n 2, 1) := by decide +kernel
theorem dX8_endTask_130 : decode cX8_endTask 130 = .ok (.invokevirtual 176, 3) := by decide +kernel
theorem dX8_endTask_133 : decode cX8_endTask 133 = .ok (.iload 5, 2) := by decide +kernel
theorem dX8_endTask_135 : decode cX8_endTask 135 = .ok (.ifCond .ne 9, 3) := by decide +kernel
theorem dX8_endTask_138 : decode cX8_endTask 138 = .ok (.aload_n 0, 1) := by decide +kernel
theorem dX8_endTask_139 : decode cX8_endTask 139 = .ok (.iload_n 1, 1) := by decide +kernel
theorem dX8_endTask_140 : decode cX8_endTask 140 = .ok (.iload_n 2, 1) := by decide +kernel
theorem dX8_endTask_141 : decode cX8_endTask 141 = .ok (.invokevirtual 189, 3) := by decide +kernel
theorem dX8_endTask_144 : decode cX8_endTask 144 = .ok (.iconst 1, 1) := by decide +kernel
theorem dX8_endTask_145 : decode cX8_endTask 145 = .ok (.istore 5, 2) := by decide +kernel
theorem dX8_endTask_147 : decode cX8_endTask 147 = .ok (.bipush 6, 2) := by decide +kernel
theorem dX8_endTask_149 : decode cX8_endTask 149 = .ok (.iload_n 1, 1) := by decide +kernel
theorem dX8_endTask_150 : decode cX8_endTask 150 = .ok (.imul, 1) := by decide +kernel
theorem dX8_endTask_151 : decode cX8_endTask 151 = .ok (.istore 6, 2) := by decide +kernel
theorem dX8_endTask_153 : decode cX8_endTask 153 = .ok (.iload 6, 2) := by decide +kernel
theorem dX8_endTask_155 : decode cX8_endTask 155 = .ok (.bipush 6, 2) := by decide +kernel
theorem dX8_endTask_157 : decode cX8_endTask 157 = .ok (.iload_n 1, 1) := by decide +kernel
theorem dX8_endTask_158 : decode cX8_endTask 158 = .ok (.imul, 1) := by decide +kernel
theorem dX8_endTask_159 : decode cX8_endTask 159 = .ok (.aload_n 0, 1) := by decide +kernel
theorem dX8_endTask_160 : decode cX8_endTask 160 = .ok (.getfield 29, 3) := by decide +kernel
theorem dX8_endTask_163 : decode cX8_endTask 163 = .ok (.iload_n 1, 1) := by decide +kernel
theorem dX8_endTask_164 : decode cX8_endTask 164 = .ok (.iaload, 1) := by decide +kernel
theorem dX8_endTask_165 : decode cX8_endTask 165 = .ok (.iadd, 1) := by decide +kernel
theorem dX8_endTask_166 : decode cX8_endTask 166 = .ok (.if_icmp .ge 32, 3) := by decide +kernel
theorem dX8_endTask_169 : decode cX8_endTask 169 = .ok (.iload 5, 2) := by decide +kernel
theorem dX8_endTask_171 : decode cX8_endTask 171 = .ok (.ifCond .eq 18, 3) := by decide +kernel
theorem dX8_endTask_174 : decode cX8_endTask 174 = .ok (.aload_n 0, 1) := by decide +kernel
theorem dX8_endTask_175 : decode cX8_endTask 175 = .ok (.getfield 54, 3) := by decide +kernel
theorem dX8_endTask_178 : decode cX8_endTask 178 = .ok (.iload 6, 2) := by decide +kernel
theorem dX8_endTask_180 : decode cX8_endTask 180 = .ok (.iaload, 1) := by decide +kernel
theorem dX8_endTask_181 : decode cX8_endTask 181 = .ok (.iconst 4, 1) := by decide +kernel
theorem dX8_endTask_182 : decode cX8_endTask 182 = .ok (.if_icmp .lt 7, 3) := by decide +kernel
theorem dX8_endTask_185 : decode cX8_endTask 185 = .ok (.iconst 1, 1) := by decide +kernel
theorem dX8_endTask_186 : decode cX8_endTask 186 = .ok (.goto 4, 3) := by decide +kernel
theorem dX8_endTask_189 : decode cX8_endTask 189 = .ok (.iconst 0, 1) := by decide +kernel
theorem dX8_endTask_190 : decode cX8_endTask 190 = .ok (.istore 5, 2) := by decide +kernel
theorem dX8_endTask_192 : decode cX8_endTask 192 = .ok (.iinc 6 1, 3) := by decide +kernel
theorem dX8_endTask_195 : decode cX8_endTask 195 = .ok (.goto (-42), 3) := by decide +kernel
theorem dX8_endTask_198 : decode cX8_endTask 198 = .ok (.iload 5, 2) := by decide +kernel
theorem dX8_endTask_200 : decode cX8_endTask 200 = .ok (.ifCond .eq 18, 3) := by decide +kernel
theorem dX8_endTask_203 : decode cX8_endTask 203 = .ok (.aload_n 0, 1) := by decide +kernel
theorem dX8_endTask_204 : decode cX8_endTask 204 = .ok (.getfield 32, 3) := by decide +kernel
theorem dX8_endTask_207 : decode cX8_endTask 207 = .ok (.iload_n 1, 1) := by decide +kernel
theorem dX8_endTask_208 : decode cX8_endTask 208 = .ok (.iconst 0, 1) := by decide +kernel
theorem dX8_endTask_209 : decode cX8_endTask 209 = .ok (.bastore, 1) := by decide +kernel
theorem dX8_endTask_210 : decode cX8_endTask 210 = .ok (.aload_n 0, 1) := by decide +kernel
theorem dX8_endTask_211 : decode cX8_endTask 211 = .ok (.bipush 8, 2) := by decide +kernel
theorem dX8_endTask_213 : decode cX8_endTask 213 = .ok (.iload_n 1, 1) := by decide +kernel
theorem dX8_endTask_214 : decode cX8_endTask 214 = .ok (.iconst (-1), 1) := by decide +kernel
theorem dX8_endTask_215 : decode cX8_endTask 215 = .ok (.invokevirtual 176, 3) := by decide +kernel
theorem dX8_endTask_218 : decode cX8_endTask 218 = .ok (.return_, 1) := by decide +kernel
theorem dX8_task_0 : decode cX8_task 0 = .ok (.aload_n 0, 1) := by decide +kernel
theorem dX8_task_1 : decode cX8_task 1 = .ok (.aload_n 0, 1) := by decide +kernel
theorem dX8_task_2 : decode cX8_task 2 = .ok (.iload_n 1, 1) := by decide +kernel
theorem dX8_task_3 : decode cX8_task 3 = .ok (.invokevirtual 157, 3) := by decide +kernel
theorem dX8_task_6 : decode cX8_task 6 = .ok (.ifCond .ne 7, 3) := by decide +kernel
theorem dX8_task_9 : decode cX8_task 9 = .ok (.iconst 1, 1) := by decide +kernel
theorem dX8_task_10 : decode cX8_task 10 = .ok (.goto 4, 3) := by decide +kernel
theorem dX8_task_13 : decode cX8_task 13 = .ok (.iconst 0, 1) := by decide +kernel
theorem dX8_task_14 : decode cX8_task 14 = .ok (.putfield 66, 3) := by decide +kernel
theorem dX8_task_17 : decode cX8_task 17 = .ok (.aload_n 0, 1) := by decide +kernel
theorem dX8_task_18 : decode cX8_task 18 = .ok (.getfield 66, 3) := by decide +kernel
theorem dX8_task_21 : decode cX8_task 21 = .ok (.ifCond .le 5, 3) := by decide +kernel
theorem dX8_task_24 : decode cX8_task 24 = .ok (.iconst 0, 1) := by decide +kernel
theorem dX8_task_25 : decode cX8_task 25 = .ok (.ireturn, 1) := by decide +kernel
theorem dX8_task_26 : decode cX8_task 26 = .ok (.iload_n 2, 1) := by decide +kernel
theorem dX8_task_27 : decode cX8_task 27 = .ok (.ifCond .lt 38, 3) := by decide +kernel
theorem dX8_task_30 : decode cX8_task 30 = .ok (.iload_n 2, 1) := by decide +kernel
theorem dX8_task_31 : decode cX8_task 31 = .ok (.iconst 1, 1) := by decide +kernel
theorem dX8_task_32 : decode cX8_task 32 = .ok (.aload_n 0, 1) := by decide +kernel
theorem dX8_task_33 : decode cX8_task 33 = .ok (.getfield 29, 3) := by decide +kernel
theorem dX8_task_36 : decode cX8_task 36 = .ok (.iload_n 1, 1) := by decide +kernel
theorem dX8_task_37 : decode cX8_task 37 = .ok (.iaload, 1) := by decide +kernel
theorem dX8_task_38 : decode cX8_task 38 = .ok (.ishl, 1) := by decide +kernel
theorem dX8_task_39 : decode cX8_task 39 = .ok (.if_icmp .ge 26, 3) := by decide +kernel
theorem dX8_task_42 : decode cX8_task 42 = .ok (.iload_n 3, 1) := by decide +kernel
theorem dX8_task_43 : decode cX8_task 43 = .ok (.iconst 1, 1) := by decide +kernel
theorem dX8_task_44 : decode cX8_task 44 = .ok (.if_icmp .lt 21, 3) := by decide +kernel
theorem dX8_task_47 : decode cX8_task 47 = .ok (.iload_n 3, 1) := by decide +kernel
theorem dX8_task_48 : decode cX8_task 48 = .ok (.iconst 4, 1) := by decide +kernel
theorem dX8_task_49 : decode cX8_task 49 = .ok (.if_icmp .gt 16, 3) := by decide +kernel
theorem dX8_task_52 : decode cX8_task 52 = .ok (.iload 4, 2) := by decide +kernel
theorem dX8_task_54 : decode cX8_task 54 = .ok (.ifCond .lt 11, 3) := by decide +kernel
theorem dX8_task_57 : decode cX8_task 57 = .ok (.iload 4, 2) := by decide +kernel
theorem dX8_task_59 : decode cX8_task 59 = .ok (.sipush 1000, 3) := by decide +kernel
theorem dX8_task_62 : decode cX8_task 62 = .ok (.if_icmp .le 7, 3) := by decide +kernel
theorem dX8_task_65 : decode cX8_task 65 = .ok (.iconst 1, 1) := by decide +kernel
theorem dX8_task_66 : decode cX8_task 66 = .ok (.goto 4, 3) := by decide +kernel
theorem dX8_task_69 : decode cX8_task 69 = .ok (.iconst 0, 1) := by decide +kernel
theorem dX8_task_70 : decode cX8_task 70 = .ok (.istore 5, 2) := by decide +kernel
theorem dX8_task_72 : decode cX8_task 72 = .ok (.aload_n 0, 1) := by decide +kernel
theorem dX8_task_73 : decode cX8_task 73 = .ok (.aload_n 0, 1) := by decide +kernel
theorem dX8_task_74 : decode cX8_task 74 = .ok (.getfield 29, 3) := by decide +kernel
theorem dX8_task_77 : decode cX8_task 77 = .ok (.iload_n 1, 1) := by decide +kernel
theorem dX8_task_78 : decode cX8_task 78 = .ok (.iaload, 1) := by decide +kernel
theorem dX8_task_79 : decode cX8_task 79 = .ok (.bipush 6, 2) := by decide +kernel
theorem dX8_task_81 : decode cX8_task 81 = .ok (.if_icmp .eq 12, 3) := by decide +kernel
theorem dX8_task_84 : decode cX8_task 84 = .ok (.aload_n 0, 1) := by decide +kernel
theorem dX8_task_85 : decode cX8_task 85 = .ok (.getfield 32, 3) := by decide +kernel
theorem dX8_task_88 : decode cX8_task 88 = .ok (.iload_n 1, 1) := by decide +kernel
theorem dX8_task_89 : decode cX8_task 89 = .ok (.baload, 1) := by decide +kernel
theorem dX8_task_90 : decode cX8_task 90 = .ok (.ifCond .eq 7, 3) := by decide +kernel
theorem dX8_task_93 : decode cX8_task 93 = .ok (.iconst 2, 1) := by decide +kernel
theorem dX8_task_94 : decode cX8_task 94 = .ok (.goto 13, 3) := by decide +kernel
theorem dX8_task_97 : decode cX8_task 97 = .ok (.iload 5, 2) := by decide +kernel
theorem dX8_task_99 : decode cX8_task 99 = .ok (.ifCond .eq 7, 3) := by decide +kernel
theorem dX8_task_102 : decode cX8_task 102 = .ok (.iconst 3, 1) := by decide +kernel
theorem dX8_task_103 : decode cX8_task 103 = .ok (.goto 4, 3) := by decide +kernel
theorem dX8_task_106 : decode cX8_task 106 = .ok (.iconst 0, 1) := by decide +kernel
theorem dX8_task_107 : decode cX8_task 107 = .ok (.putfield 66, 3) := by decide +kernel
theorem dX8_task_110 : decode cX8_task 110 = .ok (.aload_n 0, 1) := by decide +kernel
theorem dX8_task_111 : decode cX8_task 111 = .ok (.getfield 66, 3) := by decide +kernel
theorem dX8_task_114 : decode cX8_task 114 = .ok (.ifCond .le 5, 3) := by decide +kernel
theorem dX8_task_117 : decode cX8_task 117 = .ok (.iconst 0, 1) := by decide +kernel
theorem dX8_task_118 : decode cX8_task 118 = .ok (.ireturn, 1) := by decide +kernel
theorem dX8_task_119 : decode cX8_task 119 = .ok (.bipush 6, 2) := by decide +kernel
theorem dX8_task_121 : decode cX8_task 121 = .ok (.iload_n 1, 1) := by decide +kernel
theorem dX8_task_122 : decode cX8_task 122 = .ok (.imul, 1) := by decide +kernel
theorem dX8_task_123 : decode cX8_task 123 = .ok (.aload_n 0, 1) := by decide +kernel
theorem dX8_task_124 : decode cX8_task 124 = .ok (.getfield 29, 3) := by decide +kernel
theorem dX8_task_127 : decode cX8_task 127 = .ok (.iload_n 1, 1) := by decide +kernel
theorem dX8_task_128 : decode cX8_task 128 = .ok (.iaload, 1) := by decide +kernel
theorem dX8_task_129 : decode cX8_task 129 = .ok (.iadd, 1) := by decide +kernel
theorem dX8_task_130 : decode cX8_task 130 = .ok (.istore 6, 2) := by decide +kernel
theorem dX8_task_132 : decode cX8_task 132 = .ok (.aload_n 0, 1) := by decide +kernel
theorem dX8_task_133 : decode cX8_task 133 = .ok (.getfield 45, 3) := by decide +kernel
theorem dX8_task_136 : decode cX8_task 136 = .ok (.iload 6, 2) := by decide +kernel
theorem dX8_task_138 : decode cX8_task 138 = .ok (.iload_n 2, 1) := by decide +kernel
theorem dX8_task_139 : decode cX8_task 139 = .ok (.iastore, 1) := by decide +kernel
theorem dX8_task_140 : decode cX8_task 140 = .ok (.aload_n 0, 1) := by decide +kernel
theorem dX8_task_141 : decode cX8_task 141 = .ok (.getfield 48, 3) := by decide +kernel
theorem dX8_task_144 : decode cX8_task 144 = .ok (.iload 6, 2) := by decide +kernel
theorem dX8_task_146 : decode cX8_task 146 = .ok (.iload_n 3, 1) := by decide +kernel
theorem dX8_task_147 : decode cX8_task 147 = .ok (.iastore, 1) := by decide +kernel
theorem dX8_task_148 : decode cX8_task 148 = .ok (.aload_n 0, 1) := by decide +kernel
theorem dX8_task_149 : decode cX8_task 149 = .ok (.getfield 51, 3) := by decide +kernel
theorem dX8_task_152 : decode cX8_task 152 = .ok (.iload 6, 2) := by decide +kernel
theorem dX8_task_154 : decode cX8_task 154 = .ok (.iload 4, 2) := by decide +kernel
theorem dX8_task_156 : decode cX8_task 156 = .ok (.iastore, 1) := by decide +kernel
theorem dX8_task_157 : decode cX8_task 157 = .ok (.aload_n 0, 1) := by decide +kernel
theorem dX8_task_158 : decode cX8_task 158 = .ok (.getfield 54, 3) := by decide +kernel
theorem dX8_task_161 : decode cX8_task 161 = .ok (.iload 6, 2) := by decide +kernel
theorem dX8_task_163 : decode cX8_task 163 = .ok (.iconst 0, 1) := by decide +kernel
theorem dX8_task_164 : decode cX8_task 164 = .ok (.iastore, 1) := by decide +kernel
theorem dX8_task_165 : decode cX8_task 165 = .ok (.aload_n 0, 1) := by decide +kernel
theorem dX8_task_166 : decode cX8_task 166 = .ok (.getfield 29, 3) := by decide +kernel
theorem dX8_task_169 : decode cX8_task 169 = .ok (.iload_n 1, 1) := by decide +kernel
theorem dX8_task_170 : decode cX8_task 170 = .ok (.aload_n 0, 1) := by decide +kernel
theorem dX8_task_171 : decode cX8_task 171 = .ok (.getfield 29, 3) := by decide +kernel
theorem dX8_task_174 : decode cX8_task 174 = .ok (.iload_n 1, 1) := by decide +kernel
theorem dX8_task_175 : decode cX8_task 175 = .ok (.iaload, 1) := by decide +kernel
theorem dX8_task_176 : decode cX8_task 176 = .ok (.iconst 1, 1) := by decide +kernel
theorem dX8_task_177 : decode cX8_task 177 = .ok (.iadd, 1) := by decide +kernel
theorem dX8_task_178 : decode cX8_task 178 = .ok (.iastore, 1) := by decide +kernel
theorem dX8_task_179 : decode cX8_task 179 = .ok (.aload_n 0, 1) := by decide +kernel
theorem dX8_task_180 : decode cX8_task 180 = .ok (.getfield 29, 3) := by decide +kernel
theorem dX8_task_183 : decode cX8_task 183 = .ok (.iload_n 1, 1) := by decide +kernel
theorem dX8_task_184 : decode cX8_task 184 = .ok (.iaload, 1) := by decide +kernel
theorem dX8_task_185 : decode cX8_task 185 = .ok (.iconst 1, 1) := by decide +kernel
theorem dX8_task_186 : decode cX8_task 186 = .ok (.isub, 1) := by decide +kernel
theorem dX8_task_187 : decode cX8_task 187 = .ok (.ireturn, 1) := by decide +kernel
theorem dX8_slots_0 : decode cX8_slots 0 = .ok (.aload_n 0, 1) := by decide +kernel
theorem dX8_slots_1 : decode cX8_slots 1 = .ok (.iconst 0, 1) := by decide +kernel
theorem dX8_slots_2 : decode cX8_slots 2 = .ok (.putfield 66, 3) := by decide +kernel
theorem dX8_slots_5 : decode cX8_slots 5 = .ok (.iload_n 1, 1) := by decide +kernel
theorem dX8_slots_6 : decode cX8_slots 6 = .ok (.iconst 1, 1) := by decide +kernel
theorem dX8_slots_7 : decode cX8_slots 7 = .ok (.if_icmp .lt 9, 3) := by decide +kernel
theorem dX8_slots_10 : decode cX8_slots 10 = .ok (.iload_n 1, 1) := by decide +kernel
theorem dX8_slots_11 : decode cX8_slots 11 = .ok (.bipush 6, 2) := by decide +kernel
theorem dX8_slots_13 : decode cX8_slots 13 = .ok (.if_icmp .le 5, 3) := by decide +kernel
theorem dX8_slots_16 : decode cX8_slots 16 = .ok (.iconst 0, 1) := by decide +kernel
theorem dX8_slots_17 : decode cX8_slots 17 = .ok (.ireturn, 1) := by decide +kernel
theorem dX8_slots_18 : decode cX8_slots 18 = .ok (.aload_n 0, 1) := by decide +kernel
theorem dX8_slots_19 : decode cX8_slots 19 = .ok (.iload_n 1, 1) := by decide +kernel
theorem dX8_slots_20 : decode cX8_slots 20 = .ok (.putfield 7, 3) := by decide +kernel
theorem dX8_slots_23 : decode cX8_slots 23 = .ok (.iconst 1, 1) := by decide +kernel
theorem dX8_slots_24 : decode cX8_slots 24 = .ok (.ireturn, 1) := by decide +kernel
theorem dX8_pass_0 : decode cX8_pass 0 = .ok (.aload_n 0, 1) := by decide +kernel
theorem dX8_pass_1 : decode cX8_pass 1 = .ok (.iload_n 1, 1) := by decide +kernel
theorem dX8_pass_2 : decode cX8_pass 2 = .ok (.iconst 1, 1) := by decide +kernel
theorem dX8_pass_3 : decode cX8_pass 3 = .ok (.if_icmp .lt 10, 3) := by decide +kernel
theorem dX8_pass_6 : decode cX8_pass 6 = .ok (.iload_n 1, 1) := by decide +kernel
theorem dX8_pass_7 : decode cX8_pass 7 = .ok (.sipush 5000, 3) := by decide +kernel
theorem dX8_pass_10 : decode cX8_pass 10 = .ok (.if_icmp .le 7, 3) := by decide +kernel
theorem dX8_pass_13 : decode cX8_pass 13 = .ok (.iconst 1, 1) := by decide +kernel
theorem dX8_pass_14 : decode cX8_pass 14 = .ok (.goto 19, 3) := by decide +kernel
theorem dX8_pass_17 : decode cX8_pass 17 = .ok (.aload_n 0, 1) := by decide +kernel
theorem dX8_pass_18 : decode cX8_pass 18 = .ok (.getfield 173, 3) := by decide +kernel
theorem dX8_pass_21 : decode cX8_pass 21 = .ok (.iload_n 1, 1) := by decide +kernel
theorem dX8_pass_22 : decode cX8_pass 22 = .ok (.iadd, 1) := by decide +kernel
theorem dX8_pass_23 : decode cX8_pass 23 = .ok (.ldc 156, 2) := by decide +kernel
theorem dX8_pass_25 : decode cX8_pass 25 = .ok (.if_icmp .lt 7, 3) := by decide +kernel
theorem dX8_pass_28 : decode cX8_pass 28 = .ok (.iconst 2, 1) := by decide +kernel
theorem dX8_pass_29 : decode cX8_pass 29 = .ok (.goto 4, 3) := by decide +kernel
theorem dX8_pass_32 : decode cX8_pass 32 = .ok (.iconst 0, 1) := by decide +kernel
theorem dX8_pass_33 : decode cX8_pass 33 = .ok (.putfield 66, 3) := by decide +kernel
theorem dX8_pass_36 : decode cX8_pass 36 = .ok (.aload_n 0, 1) := by decide +kernel
theorem dX8_pass_37 : decode cX8_pass 37 = .ok (.getfield 66, 3) := by decide +kernel
theorem dX8_pass_40 : decode cX8_pass 40 = .ok (.ifCond .le 5, 3) := by decide +kernel
theorem dX8_pass_43 : decode cX8_pass 43 = .ok (.iconst 0, 1) := by decide +kernel
theorem dX8_pass_44 : decode cX8_pass 44 = .ok (.ireturn, 1) := by decide +kernel
theorem dX8_pass_45 : decode cX8_pass 45 = .ok (.aload_n 0, 1) := by decide +kernel
theorem dX8_pass_46 : decode cX8_pass 46 = .ok (.getfield 193, 3) := by decide +kernel
theorem dX8_pass_49 : decode cX8_pass 49 = .ok (.ifCond .eq 15, 3) := by decide +kernel
theorem dX8_pass_52 : decode cX8_pass 52 = .ok (.aload_n 0, 1) := by decide +kernel
theorem dX8_pass_53 : decode cX8_pass 53 = .ok (.aload_n 0, 1) := by decide +kernel
theorem dX8_pass_54 : decode cX8_pass 54 = .ok (.getfield 173, 3) := by decide +kernel
theorem dX8_pass_57 : decode cX8_pass 57 = .ok (.iload_n 1, 1) := by decide +kernel
theorem dX8_pass_58 : decode cX8_pass 58 = .ok (.iadd, 1) := by decide +kernel
theorem dX8_pass_59 : decode cX8_pass 59 = .ok (.putfield 173, 3) := by decide +kernel
theorem dX8_pass_62 : decode cX8_pass 62 = .ok (.iconst 0, 1) := by decide +kernel
theorem dX8_pass_63 : decode cX8_pass 63 = .ok (.ireturn, 1) := by decide +kernel
theorem dX8_pass_64 : decode cX8_pass 64 = .ok (.iconst 0, 1) := by decide +kernel
theorem dX8_pass_65 : decode cX8_pass 65 = .ok (.istore_n 2, 1) := by decide +kernel
theorem dX8_pass_66 : decode cX8_pass 66 = .ok (.iconst 0, 1) := by decide +kernel
theorem dX8_pass_67 : decode cX8_pass 67 = .ok (.istore_n 3, 1) := by decide +kernel
theorem dX8_pass_68 : decode cX8_pass 68 = .ok (.iload_n 3, 1) := by decide +kernel
theorem dX8_pass_69 : decode cX8_pass 69 = .ok (.iload_n 1, 1) := by decide +kernel
theorem dX8_pass_70 : decode cX8_pass 70 = .ok (.if_icmp .ge 63, 3) := by decide +kernel
theorem dX8_pass_73 : decode cX8_pass 73 = .ok (.aload_n 0, 1) := by decide +kernel
theorem dX8_pass_74 : decode cX8_pass 74 = .ok (.aload_n 0, 1) := by decide +kernel
theorem dX8_pass_75 : decode cX8_pass 75 = .ok (.getfield 173, 3) := by decide +kernel
theorem dX8_pass_78 : decode cX8_pass 78 = .ok (.iconst 1, 1) := by decide +kernel
theorem dX8_pass_79 : decode cX8_pass 79 = .ok (.iadd, 1) := by decide +kernel
theorem dX8_pass_80 : decode cX8_pass 80 = .ok (.putfield 173, 3) := by decide +kernel
theorem dX8_pass_83 : decode cX8_pass 83 = .ok (.iconst 0, 1) := by decide +kernel
theorem dX8_pass_84 : decode cX8_pass 84 = .ok (.istore 4, 2) := by decide +kernel
theorem dX8_pass_86 : decode cX8_pass 86 = .ok (.iload 4, 2) := by decide +kernel
theorem dX8_pass_88 : decode cX8_pass 88 = .ok (.aload_n 0, 1) := by decide +kernel
theorem dX8_pass_89 : decode cX8_pass 89 = .ok (.getfield 98, 3) := by decide +kernel
theorem dX8_pass_92 : decode cX8_pass 92 = .ok (.if_icmp .ge 28, 3) := by decide +kernel
theorem dX8_pass_95 : decode cX8_pass 95 = .ok (.aload_n 0, 1) := by decide +kernel
theorem dX8_pass_96 : decode cX8_pass 96 = .ok (.iload 4, 2) := by decide +kernel
theorem dX8_pass_98 : decode cX8_pass 98 = .ok (.aload_n 0, 1) := by decide +kernel
theorem dX8_pass_99 : decode cX8_pass 99 = .ok (.getfield 173, 3) := by decide +kernel
theorem dX8_pass_102 : decode cX8_pass 102 = .ok (.invokevirtual 163, 3) := by decide +kernel
theorem dX8_pass_105 : decode cX8_pass 105 = .ok (.ifCond .eq 9, 3) := by decide +kernel
theorem dX8_pass_108 : decode cX8_pass 108 = .ok (.aload_n 0, 1) := by decide +kernel
theorem dX8_pass_109 : decode cX8_pass 109 = .ok (.iload 4, 2) := by decide +kernel
theorem dX8_pass_111 : decode cX8_pass 111 = .ok (.invokevirtual 197, 3) := by decide +kernel
theorem dX8_pass_114 : decode cX8_pass 114 = .ok (.iinc 4 1, 3) := by decide +kernel
theorem dX8_pass_117 : decode cX8_pass 117 = .ok (.goto (-31), 3) := by decide +kernel
theorem dX8_pass_120 : decode cX8_pass 120 = .ok (.iload_n 2, 1) := by decide +kernel
theorem dX8_pass_121 : decode cX8_pass 121 = .ok (.aload_n 0, 1) := by decide +kernel
theorem dX8_pass_122 : decode cX8_pass 122 = .ok (.invokevirtual 200, 3) := by decide +kernel
theorem dX8_pass_125 : decode cX8_pass 125 = .ok (.iadd, 1) := by decide +kernel
theorem dX8_pass_126 : decode cX8_pass 126 = .ok (.istore_n 2, 1) := by decide +kernel
theorem dX8_pass_127 : decode cX8_pass 127 = .ok (.iinc 3 1, 3) := by decide +kernel
theorem dX8_pass_130 : decode cX8_pass 130 = .ok (.goto (-62), 3) := by decide +kernel
theorem dX8_pass_133 : decode cX8_pass 133 = .ok (.iload_n 2, 1) := by decide +kernel
theorem dX8_pass_134 : decode cX8_pass 134 = .ok (.ireturn, 1) := by decide +kernel
theorem dX8_isBusy_0 : decode cX8_isBusy 0 = .ok (.iconst 0, 1) := by decide +kernel
theorem dX8_isBusy_1 : decode cX8_isBusy 1 = .ok (.istore_n 1, 1) := by decide +kernel
theorem dX8_isBusy_2 : decode cX8_isBusy 2 = .ok (.iconst 0, 1) := by decide +kernel
theorem dX8_isBusy_3 : decode cX8_isBusy 3 = .ok (.istore_n 2, 1) := by decide +kernel
theorem dX8_isBusy_4 : decode cX8_isBusy 4 = .ok (.iload_n 2, 1) := by decide +kernel
theorem dX8_isBusy_5 : decode cX8_isBusy 5 = .ok (.aload_n 0, 1) := by decide +kernel
theorem dX8_isBusy_6 : decode cX8_isBusy 6 = .ok (.getfield 98, 3) := by decide +kernel
theorem dX8_isBusy_9 : decode cX8_isBusy 9 = .ok (.if_icmp .ge 28, 3) := by decide +kernel
theorem dX8_isBusy_12 : decode cX8_isBusy 12 = .ok (.iload_n 1, 1) := by decide +kernel
theorem dX8_isBusy_13 : decode cX8_isBusy 13 = .ok (.ifCond .ne 12, 3) := by decide +kernel
theorem dX8_isBusy_16 : decode cX8_isBusy 16 = .ok (.aload_n 0, 1) := by decide +kernel
theorem dX8_isBusy_17 : decode cX8_isBusy 17 = .ok (.getfield 32, 3) := by decide +kernel
theorem dX8_isBusy_20 : decode cX8_isBusy 20 = .ok (.iload_n 2, 1) := by decide +kernel
theorem dX8_isBusy_21 : decode cX8_isBusy 21 = .ok (.baload, 1) := by decide +kernel
theorem dX8_isBusy_22 : decode cX8_isBusy 22 = .ok (.ifCond .eq 7, 3) := by decide +kernel
theorem dX8_isBusy_25 : decode cX8_isBusy 25 = .ok (.iconst 1, 1) := by decide +kernel
theorem dX8_isBusy_26 : decode cX8_isBusy 26 = .ok (.goto 4, 3) := by decide +kernel
theorem dX8_isBusy_29 : decode cX8_isBusy 29 = .ok (.iconst 0, 1) := by decide +kernel
theorem dX8_isBusy_30 : decode cX8_isBusy 30 = .ok (.istore_n 1, 1) := by decide +kernel
theorem dX8_isBusy_31 : decode cX8_isBusy 31 = .ok (.iinc 2 1, 3) := by decide +kernel
theorem dX8_isBusy_34 : decode cX8_isBusy 34 = .ok (.goto (-30), 3) := by decide +kernel
theorem dX8_isBusy_37 : decode cX8_isBusy 37 = .ok (.iload_n 1, 1) := by decide +kernel
theorem dX8_isBusy_38 : decode cX8_isBusy 38 = .ok (.ireturn, 1) := by decide +kernel
theorem dX8_set_0 : decode cX8_set 0 = .ok (.aload_n 0, 1) := by decide +kernel
theorem dX8_set_1 : decode cX8_set 1 = .ok (.aload_n 0, 1) := by decide +kernel
theorem dX8_set_2 : decode cX8_set 2 = .ok (.invokevirtual 203, 3) := by decide +kernel
theorem dX8_set_5 : decode cX8_set 5 = .ok (.ifCond .ne 10, 3) := by decide +kernel
theorem dX8_set_8 : decode cX8_set 8 = .ok (.aload_n 0, 1) := by decide +kernel
theorem dX8_set_9 : decode cX8_set 9 = .ok (.getfield 193, 3) := by decide +kernel
theorem dX8_set_12 : decode cX8_set 12 = .ok (.ifCond .eq 7, 3) := by decide +kernel
theorem dX8_set_15 : decode cX8_set 15 = .ok (.iconst 1, 1) := by decide +kernel
theorem dX8_set_16 : decode cX8_set 16 = .ok (.goto 22, 3) := by decide +kernel
theorem dX8_set_19 : decode cX8_set 19 = .ok (.iload_n 1, 1) := by decide +kernel
theorem dX8_set_20 : decode cX8_set 20 = .ok (.aload_n 0, 1) := by decide +kernel
theorem dX8_set_21 : decode cX8_set 21 = .ok (.getfield 173, 3) := by decide +kernel
theorem dX8_set_24 : decode cX8_set 24 = .ok (.if_icmp .lt 9, 3) := by decide +kernel
theorem dX8_set_27 : decode cX8_set 27 = .ok (.iload_n 1, 1) := by decide +kernel
theorem dX8_set_28 : decode cX8_set 28 = .ok (.ldc 156, 2) := by decide +kernel
theorem dX8_set_30 : decode cX8_set 30 = .ok (.if_icmp .lt 7, 3) := by decide +kernel
theorem dX8_set_33 : decode cX8_set 33 = .ok (.iconst 2, 1) := by decide +kernel
theorem dX8_set_34 : decode cX8_set 34 = .ok (.goto 4, 3) := by decide +kernel
theorem dX8_set_37 : decode cX8_set 37 = .ok (.iconst 0, 1) := by decide +kernel
theorem dX8_set_38 : decode cX8_set 38 = .ok (.putfield 66, 3) := by decide +kernel
theorem dX8_set_41 : decode cX8_set 41 = .ok (.aload_n 0, 1) := by decide +kernel
theorem dX8_set_42 : decode cX8_set 42 = .ok (.aload_n 0, 1) := by decide +kernel
theorem dX8_set_43 : decode cX8_set 43 = .ok (.getfield 66, 3) := by decide +kernel
theorem dX8_set_46 : decode cX8_set 46 = .ok (.ifCond .ne 7, 3) := by decide +kernel
theorem dX8_set_49 : decode cX8_set 49 = .ok (.iload_n 1, 1) := by decide +kernel
theorem dX8_set_50 : decode cX8_set 50 = .ok (.goto 7, 3) := by decide +kernel
theorem dX8_set_53 : decode cX8_set 53 = .ok (.aload_n 0, 1) := by decide +kernel
theorem dX8_set_54 : decode cX8_set 54 = .ok (.getfield 173, 3) := by decide +kernel
theorem dX8_set_57 : decode cX8_set 57 = .ok (.putfield 173, 3) := by decide +kernel
theorem dX8_set_60 : decode cX8_set 60 = .ok (.return_, 1) := by decide +kernel
theorem dX8_isTask_0 : decode cX8_isTask 0 = .ok (.aload_n 0, 1) := by decide +kernel
theorem dX8_isTask_1 : decode cX8_isTask 1 = .ok (.iload_n 1, 1) := by decide +kernel
theorem dX8_isTask_2 : decode cX8_isTask 2 = .ok (.invokevirtual 157, 3) := by decide +kernel
theorem dX8_isTask_5 : decode cX8_isTask 5 = .ok (.ifCond .eq 21, 3) := by decide +kernel
theorem dX8_isTask_8 : decode cX8_isTask 8 = .ok (.iload_n 2, 1) := by decide +kernel
theorem dX8_isTask_9 : decode cX8_isTask 9 = .ok (.ifCond .lt 17, 3) := by decide +kernel
theorem dX8_isTask_12 : decode cX8_isTask 12 = .ok (.iload_n 2, 1) := by decide +kernel
theorem dX8_isTask_13 : decode cX8_isTask 13 = .ok (.aload_n 0, 1) := by decide +kernel
theorem dX8_isTask_14 : decode cX8_isTask 14 = .ok (.getfield 29, 3) := by decide +kernel
theorem dX8_isTask_17 : decode cX8_isTask 17 = .ok (.iload_n 1, 1) := by decide +kernel
theorem dX8_isTask_18 : decode cX8_isTask 18 = .ok (.iaload, 1) := by decide +kernel
theorem dX8_isTask_19 : decode cX8_isTask 19 = .ok (.if_icmp .ge 7, 3) := by decide +kernel
theorem dX8_isTask_22 : decode cX8_isTask 22 = .ok (.iconst 1, 1) := by decide +kernel
theorem dX8_isTask_23 : decode cX8_isTask 23 = .ok (.goto 4, 3) := by decide +kernel
theorem dX8_isTask_26 : decode cX8_isTask 26 = .ok (.iconst 0, 1) := by decide +kernel
theorem dX8_isTask_27 : decode cX8_isTask 27 = .ok (.ireturn, 1) := by decide +kernel
theorem dX8_end_0 : decode cX8_end 0 = .ok (.aload_n 0, 1) := by decide +kernel
theorem dX8_end_1 : decode cX8_end 1 = .ok (.aload_n 0, 1) := by decide +kernel
theorem dX8_end_2 : decode cX8_end 2 = .ok (.iload_n 1, 1) := by decide +kernel
theorem dX8_end_3 : decode cX8_end 3 = .ok (.iload_n 2, 1) := by decide +kernel
theorem dX8_end_4 : decode cX8_end 4 = .ok (.invokevirtual 207, 3) := by decide +kernel
theorem dX8_end_7 : decode cX8_end 7 = .ok (.ifCond .ne 7, 3) := by decide +kernel
theorem dX8_end_10 : decode cX8_end 10 = .ok (.iconst 1, 1) := by decide +kernel
theorem dX8_end_11 : decode cX8_end 11 = .ok (.goto 30, 3) := by decide +kernel
theorem dX8_end_14 : decode cX8_end 14 = .ok (.aload_n 0, 1) := by decide +kernel
theorem dX8_end_15 : decode cX8_end 15 = .ok (.getfield 54, 3) := by decide +kernel
theorem dX8_end_18 : decode cX8_end 18 = .ok (.bipush 6, 2) := by decide +kernel
theorem dX8_end_20 : decode cX8_end 20 = .ok (.iload_n 1, 1) := by decide +kernel
theorem dX8_end_21 : decode cX8_end 21 = .ok (.imul, 1) := by decide +kernel
theorem dX8_end_22 : decode cX8_end 22 = .ok (.iload_n 2, 1) := by decide +kernel
theorem dX8_end_23 : decode cX8_end 23 = .ok (.iadd, 1) := by decide +kernel
theorem dX8_end_24 : decode cX8_end 24 = .ok (.iaload, 1) := by decide +kernel
theorem dX8_end_25 : decode cX8_end 25 = .ok (.iconst 3, 1) := by decide +kernel
theorem dX8_end_26 : decode cX8_end 26 = .ok (.if_icmp .ne 10, 3) := by decide +kernel
theorem dX8_end_29 : decode cX8_end 29 = .ok (.aload_n 0, 1) := by decide +kernel
theorem dX8_end_30 : decode cX8_end 30 = .ok (.getfield 193, 3) := by decide +kernel
theorem dX8_end_33 : decode cX8_end 33 = .ok (.ifCond .eq 7, 3) := by decide +kernel
theorem dX8_end_36 : decode cX8_end 36 = .ok (.iconst 2, 1) := by decide +kernel
theorem dX8_end_37 : decode cX8_end 37 = .ok (.goto 4, 3) := by decide +kernel
theorem dX8_end_40 : decode cX8_end 40 = .ok (.iconst 0, 1) := by decide +kernel
theorem dX8_end_41 : decode cX8_end 41 = .ok (.putfield 66, 3) := by decide +kernel
theorem dX8_end_44 : decode cX8_end 44 = .ok (.aload_n 0, 1) := by decide +kernel
theorem dX8_end_45 : decode cX8_end 45 = .ok (.getfield 66, 3) := by decide +kernel
theorem dX8_end_48 : decode cX8_end 48 = .ok (.ifCond .le 5, 3) := by decide +kernel
theorem dX8_end_51 : decode cX8_end 51 = .ok (.iconst 0, 1) := by decide +kernel
theorem dX8_end_52 : decode cX8_end 52 = .ok (.ireturn, 1) := by decide +kernel
theorem dX8_end_53 : decode cX8_end 53 = .ok (.aload_n 0, 1) := by decide +kernel
theorem dX8_end_54 : decode cX8_end 54 = .ok (.iload_n 1, 1) := by decide +kernel
theorem dX8_end_55 : decode cX8_end 55 = .ok (.iload_n 2, 1) := by decide +kernel
theorem dX8_end_56 : decode cX8_end 56 = .ok (.iload_n 3, 1) := by decide +kernel
theorem dX8_end_57 : decode cX8_end 57 = .ok (.invokevirtual 210, 3) := by decide +kernel
theorem dX8_end_60 : decode cX8_end 60 = .ok (.aload_n 0, 1) := by decide +kernel
theorem dX8_end_61 : decode cX8_end 61 = .ok (.getfield 54, 3) := by decide +kernel
theorem dX8_end_64 : decode cX8_end 64 = .ok (.bipush 6, 2) := by decide +kernel
theorem dX8_end_66 : decode cX8_end 66 = .ok (.iload_n 1, 1) := by decide +kernel
theorem dX8_end_67 : decode cX8_end 67 = .ok (.imul, 1) := by decide +kernel
theorem dX8_end_68 : decode cX8_end 68 = .ok (.iload_n 2, 1) := by decide +kernel
theorem dX8_end_69 : decode cX8_end 69 = .ok (.iadd, 1) := by decide +kernel
theorem dX8_end_70 : decode cX8_end 70 = .ok (.iaload, 1) := by decide +kernel
theorem dX8_end_71 : decode cX8_end 71 = .ok (.ireturn, 1) := by decide +kernel
theorem dX8_comeUp_0 : decode cX8_comeUp 0 = .ok (.iconst 0, 1) := by decide +kernel
theorem dX8_comeUp_1 : decode cX8_comeUp 1 = .ok (.istore_n 1, 1) := by decide +kernel
theorem dX8_comeUp_2 : decode cX8_comeUp 2 = .ok (.iload_n 1, 1) := by decide +kernel
theorem dX8_comeUp_3 : decode cX8_comeUp 3 = .ok (.bipush 36, 2) := by decide +kernel
theorem dX8_comeUp_5 : decode cX8_comeUp 5 = .ok (.if_icmp .ge 32, 3) := by decide +kernel
theorem dX8_comeUp_8 : decode cX8_comeUp 8 = .ok (.aload_n 0, 1) := by decide +kernel
theorem dX8_comeUp_9 : decode cX8_comeUp 9 = .ok (.getfield 54, 3) := by decide +kernel
theorem dX8_comeUp_12 : decode cX8_comeUp 12 = .ok (.iload_n 1, 1) := by decide +kernel
theorem dX8_comeUp_13 : decode cX8_comeUp 13 = .ok (.iaload, 1) := by decide +kernel
theorem dX8_comeUp_14 : decode cX8_comeUp 14 = .ok (.iconst 3, 1) := by decide +kernel
theorem dX8_comeUp_15 : decode cX8_comeUp 15 = .ok (.if_icmp .ne 16, 3) := by decide +kernel
theorem dX8_comeUp_18 : decode cX8_comeUp 18 = .ok (.aload_n 0, 1) := by decide +kernel
theorem dX8_comeUp_19 : decode cX8_comeUp 19 = .ok (.iload_n 1, 1) := by decide +kernel
theorem dX8_comeUp_20 : decode cX8_comeUp 20 = .ok (.bipush 6, 2) := by decide +kernel
theorem dX8_comeUp_22 : decode cX8_comeUp 22 = .ok (.idiv, 1) := by decide +kernel
theorem dX8_comeUp_23 : decode cX8_comeUp 23 = .ok (.iload_n 1, 1) := by decide +kernel
theorem dX8_comeUp_24 : decode cX8_comeUp 24 = .ok (.bipush 6, 2) := by decide +kernel
theorem dX8_comeUp_26 : decode cX8_comeUp 26 = .ok (.irem, 1) := by decide +kernel
theorem dX8_comeUp_27 : decode cX8_comeUp 27 = .ok (.iconst 0, 1) := by decide +kernel
theorem dX8_comeUp_28 : decode cX8_comeUp 28 = .ok (.invokevirtual 210, 3) := by decide +kernel
theorem dX8_comeUp_31 : decode cX8_comeUp 31 = .ok (.iinc 1 1, 3) := by decide +kernel
theorem dX8_comeUp_34 : decode cX8_comeUp 34 = .ok (.goto (-32), 3) := by decide +kernel
theorem dX8_comeUp_37 : decode cX8_comeUp 37 = .ok (.iconst 0, 1) := by decide +kernel
theorem dX8_comeUp_38 : decode cX8_comeUp 38 = .ok (.istore_n 1, 1) := by decide +kernel
theorem dX8_comeUp_39 : decode cX8_comeUp 39 = .ok (.iload_n 1, 1) := by decide +kernel
theorem dX8_comeUp_40 : decode cX8_comeUp 40 = .ok (.aload_n 0, 1) := by decide +kernel
theorem dX8_comeUp_41 : decode cX8_comeUp 41 = .ok (.getfield 98, 3) := by decide +kernel
theorem dX8_comeUp_44 : decode cX8_comeUp 44 = .ok (.if_icmp .ge 40, 3) := by decide +kernel
theorem dX8_comeUp_47 : decode cX8_comeUp 47 = .ok (.aload_n 0, 1) := by decide +kernel
theorem dX8_comeUp_48 : decode cX8_comeUp 48 = .ok (.getfield 42, 3) := by decide +kernel
theorem dX8_comeUp_51 : decode cX8_comeUp 51 = .ok (.iload_n 1, 1) := by decide +kernel
theorem dX8_comeUp_52 : decode cX8_comeUp 52 = .ok (.aload_n 0, 1) := by decide +kernel
theorem dX8_comeUp_53 : decode cX8_comeUp 53 = .ok (.iload_n 1, 1) := by decide +kernel
theorem dX8_comeUp_54 : decode cX8_comeUp 54 = .ok (.aload_n 0, 1) := by decide +kernel
theorem dX8_comeUp_55 : decode cX8_comeUp 55 = .ok (.getfield 214, 3) := by decide +kernel
theorem dX8_comeUp_58 : decode cX8_comeUp 58 = .ok (.iconst 1, 1) := by decide +kernel
theorem dX8_comeUp_59 : decode cX8_comeUp 59 = .ok (.iadd, 1) := by decide +kernel
theorem dX8_comeUp_60 : decode cX8_comeUp 60 = .ok (.aload_n 0, 1) := by decide +kernel
theorem dX8_comeUp_61 : decode cX8_comeUp 61 = .ok (.getfield 173, 3) := by decide +kernel
theorem dX8_comeUp_64 : decode cX8_comeUp 64 = .ok (.iconst 1, 1) := by decide +kernel
theorem dX8_comeUp_65 : decode cX8_comeUp 65 = .ok (.iadd, 1) := by decide +kernel
theorem dX8_comeUp_66 : decode cX8_comeUp 66 = .ok (.invokevirtual 166, 3) := by decide +kernel
theorem dX8_comeUp_69 : decode cX8_comeUp 69 = .ok (.ifCond .lt 7, 3) := by decide +kernel
theorem dX8_comeUp_72 : decode cX8_comeUp 72 = .ok (.iconst 1, 1) := by decide +kernel
theorem dX8_comeUp_73 : decode cX8_comeUp 73 = .ok (.goto 4, 3) := by decide +kernel
theorem dX8_comeUp_76 : decode cX8_comeUp 76 = .ok (.iconst 0, 1) := by decide +kernel
theorem dX8_comeUp_77 : decode cX8_comeUp 77 = .ok (.bastore, 1) := by decide +kernel
theorem dX8_comeUp_78 : decode cX8_comeUp 78 = .ok (.iinc 1 1, 3) := by decide +kernel
theorem dX8_comeUp_81 : decode cX8_comeUp 81 = .ok (.goto (-42), 3) := by decide +kernel
theorem dX8_comeUp_84 : decode cX8_comeUp 84 = .ok (.iconst 0, 1) := by decide +kernel
theorem dX8_comeUp_85 : decode cX8_comeUp 85 = .ok (.istore_n 1, 1) := by decide +kernel
theorem dX8_comeUp_86 : decode cX8_comeUp 86 = .ok (.iload_n 1, 1) := by decide +kernel
theorem dX8_comeUp_87 : decode cX8_comeUp 87 = .ok (.aload_n 0, 1) := by decide +kernel
theorem dX8_comeUp_88 : decode cX8_comeUp 88 = .ok (.getfield 98, 3) := by decide +kernel
theorem dX8_comeUp_91 : decode cX8_comeUp 91 = .ok (.if_icmp .ge 23, 3) := by decide +kernel
theorem dX8_comeUp_94 : decode cX8_comeUp 94 = .ok (.aload_n 0, 1) := by decide +kernel
theorem dX8_comeUp_95 : decode cX8_comeUp 95 = .ok (.getfield 42, 3) := by decide +kernel
theorem dX8_comeUp_98 : decode cX8_comeUp 98 = .ok (.iload_n 1, 1) := by decide +kernel
theorem dX8_comeUp_99 : decode cX8_comeUp 99 = .ok (.baload, 1) := by decide +kernel
theorem dX8_comeUp_100 : decode cX8_comeUp 100 = .ok (.ifCond .eq 8, 3) := by decide +kernel
theorem dX8_comeUp_103 : decode cX8_comeUp 103 = .ok (.aload_n 0, 1) := by decide +kernel
theorem dX8_comeUp_104 : decode cX8_comeUp 104 = .ok (.iload_n 1, 1) := by decide +kernel
theorem dX8_comeUp_105 : decode cX8_comeUp 105 = .ok (.invokevirtual 197, 3) := by decide +kernel
theorem dX8_comeUp_108 : decode cX8_comeUp 108 = .ok (.iinc 1 1, 3) := by decide +kernel
theorem dX8_comeUp_111 : decode cX8_comeUp 111 = .ok (.goto (-25), 3) := by decide +kernel
theorem dX8_comeUp_114 : decode cX8_comeUp 114 = .ok (.aload_n 0, 1) := by decide +kernel
theorem dX8_comeUp_115 : decode cX8_comeUp 115 = .ok (.invokevirtual 200, 3) := by decide +kernel
theorem dX8_comeUp_118 : decode cX8_comeUp 118 = .ok (.ireturn, 1) := by decide +kernel
theorem dX8_down_0 : decode cX8_down 0 = .ok (.aload_n 0, 1) := by decide +kernel
theorem dX8_down_1 : decode cX8_down 1 = .ok (.iload_n 1, 1) := by decide +kernel
theorem dX8_down_2 : decode cX8_down 2 = .ok (.aload_n 0, 1) := by decide +kernel
theorem dX8_down_3 : decode cX8_down 3 = .ok (.getfield 193, 3) := by decide +kernel
theorem dX8_down_6 : decode cX8_down 6 = .ok (.if_icmp .ne 7, 3) := by decide +kernel
theorem dX8_down_9 : decode cX8_down 9 = .ok (.iconst 1, 1) := by decide +kernel
theorem dX8_down_10 : decode cX8_down 10 = .ok (.goto 4, 3) := by decide +kernel
theorem dX8_down_13 : decode cX8_down 13 = .ok (.iconst 0, 1) := by decide +kernel
theorem dX8_down_14 : decode cX8_down 14 = .ok (.putfield 66, 3) := by decide +kernel
theorem dX8_down_17 : decode cX8_down 17 = .ok (.aload_n 0, 1) := by decide +kernel
theorem dX8_down_18 : decode cX8_down 18 = .ok (.getfield 66, 3) := by decide +kernel
theorem dX8_down_21 : decode cX8_down 21 = .ok (.ifCond .le 5, 3) := by decide +kernel
theorem dX8_down_24 : decode cX8_down 24 = .ok (.iconst 0, 1) := by decide +kernel
theorem dX8_down_25 : decode cX8_down 25 = .ok (.ireturn, 1) := by decide +kernel
theorem dX8_down_26 : decode cX8_down 26 = .ok (.aload_n 0, 1) := by decide +kernel
theorem dX8_down_27 : decode cX8_down 27 = .ok (.iload_n 1, 1) := by decide +kernel
theorem dX8_down_28 : decode cX8_down 28 = .ok (.putfield 193, 3) := by decide +kernel
theorem dX8_down_31 : decode cX8_down 31 = .ok (.aload_n 0, 1) := by decide +kernel
theorem dX8_down_32 : decode cX8_down 32 = .ok (.iload_n 1, 1) := by decide +kernel
theorem dX8_down_33 : decode cX8_down 33 = .ok (.ifCond .eq 10, 3) := by decide +kernel
theorem dX8_down_36 : decode cX8_down 36 = .ok (.aload_n 0, 1) := by decide +kernel
theorem dX8_down_37 : decode cX8_down 37 = .ok (.getfield 173, 3) := by decide +kernel
theorem dX8_down_40 : decode cX8_down 40 = .ok (.goto 7, 3) := by decide +kernel
theorem dX8_down_43 : decode cX8_down 43 = .ok (.aload_n 0, 1) := by decide +kernel
theorem dX8_down_44 : decode cX8_down 44 = .ok (.getfield 214, 3) := by decide +kernel
theorem dX8_down_47 : decode cX8_down 47 = .ok (.putfield 214, 3) := by decide +kernel
theorem dX8_down_50 : decode cX8_down 50 = .ok (.iload_n 1, 1) := by decide +kernel
theorem dX8_down_51 : decode cX8_down 51 = .ok (.ifCond .eq 7, 3) := by decide +kernel
theorem dX8_down_54 : decode cX8_down 54 = .ok (.iconst 0, 1) := by decide +kernel
theorem dX8_down_55 : decode cX8_down 55 = .ok (.goto 7, 3) := by decide +kernel
theorem dX8_down_58 : decode cX8_down 58 = .ok (.aload_n 0, 1) := by decide +kernel
theorem dX8_down_59 : decode cX8_down 59 = .ok (.invokevirtual 217, 3) := by decide +kernel
theorem dX8_down_62 : decode cX8_down 62 = .ok (.ireturn, 1) := by decide +kernel
theorem dX8_now_0 : decode cX8_now 0 = .ok (.aload_n 0, 1) := by decide +kernel
theorem dX8_now_1 : decode cX8_now 1 = .ok (.iconst 0, 1) := by decide +kernel
theorem dX8_now_2 : decode cX8_now 2 = .ok (.putfield 66, 3) := by decide +kernel
theorem dX8_now_5 : decode cX8_now 5 = .ok (.aload_n 0, 1) := by decide +kernel
theorem dX8_now_6 : decode cX8_now 6 = .ok (.getfield 173, 3) := by decide +kernel
theorem dX8_now_9 : decode cX8_now 9 = .ok (.ireturn, 1) := by decide +kernel
theorem dX8_state_0 : decode cX8_state 0 = .ok (.aload_n 0, 1) := by decide +kernel
theorem dX8_state_1 : decode cX8_state 1 = .ok (.iconst 0, 1) := by decide +kernel
theorem dX8_state_2 : decode cX8_state 2 = .ok (.putfield 66, 3) := by decide +kernel
theorem dX8_state_5 : decode cX8_state 5 = .ok (.aload_n 0, 1) := by decide +kernel
theorem dX8_state_6 : decode cX8_state 6 = .ok (.iload_n 1, 1) := by decide +kernel
theorem dX8_state_7 : decode cX8_state 7 = .ok (.iload_n 2, 1) := by decide +kernel
theorem dX8_state_8 : decode cX8_state 8 = .ok (.invokevirtual 207, 3) := by decide +kernel
theorem dX8_state_11 : decode cX8_state 11 = .ok (.ifCond .eq 17, 3) := by decide +kernel
theorem dX8_state_14 : decode cX8_state 14 = .ok (.aload_n 0, 1) := by decide +kernel
theorem dX8_state_15 : decode cX8_state 15 = .ok (.getfield 54, 3) := by decide +kernel
theorem dX8_state_18 : decode cX8_state 18 = .ok (.bipush 6, 2) := by decide +kernel
theorem dX8_state_20 : decode cX8_state 20 = .ok (.iload_n 1, 1) := by decide +kernel
theorem dX8_state_21 : decode cX8_state 21 = .ok (.imul, 1) := by decide +kernel
theorem dX8_state_22 : decode cX8_state 22 = .ok (.iload_n 2, 1) := by decide +kernel
theorem dX8_state_23 : decode cX8_state 23 = .ok (.iadd, 1) := by decide +kernel
theorem dX8_state_24 : decode cX8_state 24 = .ok (.iaload, 1) := by decide +kernel
theorem dX8_state_25 : decode cX8_state 25 = .ok (.goto 4, 3) := by decide +kernel
theorem dX8_state_28 : decode cX8_state 28 = .ok (.iconst (-1), 1) := by decide +kernel
theorem dX8_state_29 : decode cX8_state 29 = .ok (.ireturn, 1) := by decide +kernel
theorem dX8_count_0 : decode cX8_count 0 = .ok (.aload_n 0, 1) := by decide +kernel
theorem dX8_count_1 : decode cX8_count 1 = .ok (.iconst 0, 1) := by decide +kernel
theorem dX8_count_2 : decode cX8_count 2 = .ok (.putfield 66, 3) := by decide +kernel
theorem dX8_count_5 : decode cX8_count 5 = .ok (.iload_n 2, 1) := by decide +kernel
theorem dX8_count_6 : decode cX8_count 6 = .ok (.iconst 4, 1) := by decide +kernel
theorem dX8_count_7 : decode cX8_count 7 = .ok (.if_icmp .ne 8, 3) := by decide +kernel
theorem dX8_count_10 : decode cX8_count 10 = .ok (.aload_n 0, 1) := by decide +kernel
theorem dX8_count_11 : decode cX8_count 11 = .ok (.invokevirtual 186, 3) := by decide +kernel
theorem dX8_count_14 : decode cX8_count 14 = .ok (.ireturn, 1) := by decide +kernel
theorem dX8_count_15 : decode cX8_count 15 = .ok (.aload_n 0, 1) := by decide +kernel
theorem dX8_count_16 : decode cX8_count 16 = .ok (.iload_n 1, 1) := by decide +kernel
theorem dX8_count_17 : decode cX8_count 17 = .ok (.invokevirtual 157, 3) := by decide +kernel
theorem dX8_count_20 : decode cX8_count 20 = .ok (.ifCond .eq 12, 3) := by decide +kernel
theorem dX8_count_23 : decode cX8_count 23 = .ok (.iload_n 2, 1) := by decide +kernel
theorem dX8_count_24 : decode cX8_count 24 = .ok (.ifCond .lt 8, 3) := by decide +kernel
theorem dX8_count_27 : decode cX8_count 27 = .ok (.iload_n 2, 1) := by decide +kernel
theorem dX8_count_28 : decode cX8_count 28 = .ok (.iconst 3, 1) := by decide +kernel
theorem dX8_count_29 : decode cX8_count 29 = .ok (.if_icmp .le 5, 3) := by decide +kernel
theorem dX8_count_32 : decode cX8_count 32 = .ok (.iconst (-1), 1) := by decide +kernel
theorem dX8_count_33 : decode cX8_count 33 = .ok (.ireturn, 1) := by decide +kernel
theorem dX8_count_34 : decode cX8_count 34 = .ok (.iload_n 2, 1) := by decide +kernel
theorem dX8_count_35 : decode cX8_count 35 = .ok (.ifCond .ne 12, 3) := by decide +kernel
theorem dX8_count_38 : decode cX8_count 38 = .ok (.aload_n 0, 1) := by decide +kernel
theorem dX8_count_39 : decode cX8_count 39 = .ok (.getfield 36, 3) := by decide +kernel
theorem dX8_count_42 : decode cX8_count 42 = .ok (.iload_n 1, 1) := by decide +kernel
theorem dX8_count_43 : decode cX8_count 43 = .ok (.iaload, 1) := by decide +kernel
theorem dX8_count_44 : decode cX8_count 44 = .ok (.goto 45, 3) := by decide +kernel
theorem dX8_count_47 : decode cX8_count 47 = .ok (.iload_n 2, 1) := by decide +kernel
theorem dX8_count_48 : decode cX8_count 48 = .ok (.iconst 1, 1) := by decide +kernel
theorem dX8_count_49 : decode cX8_count 49 = .ok (.if_icmp .ne 12, 3) := by decide +kernel
theorem dX8_count_52 : decode cX8_count 52 = .ok (.aload_n 0, 1) := by decide +kernel
theorem dX8_count_53 : decode cX8_count 53 = .ok (.getfield 39, 3) := by decide +kernel
theorem dX8_count_56 : decode cX8_count 56 = .ok (.iload_n 1, 1) := by decide +kernel
theorem dX8_count_57 : decode cX8_count 57 = .ok (.iaload, 1) := by decide +kernel
theorem dX8_count_58 : decode cX8_count 58 = .ok (.goto 31, 3) := by decide +kernel
theorem dX8_count_61 : decode cX8_count 61 = .ok (.iload_n 2, 1) := by decide +kernel
theorem dX8_count_62 : decode cX8_count 62 = .ok (.iconst 2, 1) := by decide +kernel
theorem dX8_count_63 : decode cX8_count 63 = .ok (.if_icmp .ne 20, 3) := by decide +kernel
theorem dX8_count_66 : decode cX8_count 66 = .ok (.aload_n 0, 1) := by decide +kernel
theorem dX8_count_67 : decode cX8_count 67 = .ok (.getfield 32, 3) := by decide +kernel
theorem dX8_count_70 : decode cX8_count 70 = .ok (.iload_n 1, 1) := by decide +kernel
theorem dX8_count_71 : decode cX8_count 71 = .ok (.baload, 1) := by decide +kernel
theorem dX8_count_72 : decode cX8_count 72 = .ok (.ifCond .eq 7, 3) := by decide +kernel
theorem dX8_count_75 : decode cX8_count 75 = .ok (.iconst 1, 1) := by decide +kernel
theorem dX8_count_76 : decode cX8_count 76 = .ok (.goto 13, 3) := by decide +kernel
theorem dX8_count_79 : decode cX8_count 79 = .ok (.iconst 0, 1) := by decide +kernel
theorem dX8_count_80 : decode cX8_count 80 = .ok (.goto 9, 3) := by decide +kernel
theorem dX8_count_83 : decode cX8_count 83 = .ok (.aload_n 0, 1) := by decide +kernel
theorem dX8_count_84 : decode cX8_count 84 = .ok (.getfield 29, 3) := by decide +kernel
theorem dX8_count_87 : decode cX8_count 87 = .ok (.iload_n 1, 1) := by decide +kernel
theorem dX8_count_88 : decode cX8_count 88 = .ok (.iaload, 1) := by decide +kernel
theorem dX8_count_89 : decode cX8_count 89 = .ok (.ireturn, 1) := by decide +kernel
theorem dX8_entries_0 : decode cX8_entries 0 = .ok (.aload_n 0, 1) := by decide +kernel
theorem dX8_entries_1 : decode cX8_entries 1 = .ok (.iconst 0, 1) := by decide +kernel
theorem dX8_entries_2 : decode cX8_entries 2 = .ok (.putfield 66, 3) := by decide +kernel
theorem dX8_entries_5 : decode cX8_entries 5 = .ok (.aload_n 0, 1) := by decide +kernel
theorem dX8_entries_6 : decode cX8_entries 6 = .ok (.getfield 170, 3) := by decide +kernel
theorem dX8_entries_9 : decode cX8_entries 9 = .ok (.ireturn, 1) := by decide +kernel
theorem dX8_entry_0 : decode cX8_entry 0 = .ok (.aload_n 0, 1) := by decide +kernel
theorem dX8_entry_1 : decode cX8_entry 1 = .ok (.iload_n 1, 1) := by decide +kernel
theorem dX8_entry_2 : decode cX8_entry 2 = .ok (.ifCond .lt 26, 3) := by decide +kernel
theorem dX8_entry_5 : decode cX8_entry 5 = .ok (.iload_n 1, 1) := by decide +kernel
theorem dX8_entry_6 : decode cX8_entry 6 = .ok (.bipush 63, 2) := by decide +kernel
theorem dX8_entry_8 : decode cX8_entry 8 = .ok (.if_icmp .gt 20, 3) := by decide +kernel
theorem dX8_entry_11 : decode cX8_entry 11 = .ok (.iload_n 1, 1) := by decide +kernel
theorem dX8_entry_12 : decode cX8_entry 12 = .ok (.aload_n 0, 1) := by decide +kernel
theorem dX8_entry_13 : decode cX8_entry 13 = .ok (.getfield 170, 3) := by decide +kernel
theorem dX8_entry_16 : decode cX8_entry 16 = .ok (.if_icmp .ge 12, 3) := by decide +kernel
theorem dX8_entry_19 : decode cX8_entry 19 = .ok (.iload_n 2, 1) := by decide +kernel
theorem dX8_entry_20 : decode cX8_entry 20 = .ok (.ifCond .lt 8, 3) := by decide +kernel
theorem dX8_entry_23 : decode cX8_entry 23 = .ok (.iload_n 2, 1) := by decide +kernel
theorem dX8_entry_24 : decode cX8_entry 24 = .ok (.iconst 3, 1) := by decide +kernel
theorem dX8_entry_25 : decode cX8_entry 25 = .ok (.if_icmp .le 7, 3) := by decide +kernel
theorem dX8_entry_28 : decode cX8_entry 28 = .ok (.iconst 1, 1) := by decide +kernel
theorem dX8_entry_29 : decode cX8_entry 29 = .ok (.goto 4, 3) := by decide +kernel
theorem dX8_entry_32 : decode cX8_entry 32 = .ok (.iconst 0, 1) := by decide +kernel
theorem dX8_entry_33 : decode cX8_entry 33 = .ok (.putfield 66, 3) := by decide +kernel
theorem dX8_entry_36 : decode cX8_entry 36 = .ok (.aload_n 0, 1) := by decide +kernel
theorem dX8_entry_37 : decode cX8_entry 37 = .ok (.getfield 66, 3) := by decide +kernel
theorem dX8_entry_40 : decode cX8_entry 40 = .ok (.ifCond .le 7, 3) := by decide +kernel
theorem dX8_entry_43 : decode cX8_entry 43 = .ok (.iconst 0, 1) := by decide +kernel
theorem dX8_entry_44 : decode cX8_entry 44 = .ok (.goto 23, 3) := by decide +kernel
theorem dX8_entry_47 : decode cX8_entry 47 = .ok (.aload_n 0, 1) := by decide +kernel
theorem dX8_entry_48 : decode cX8_entry 48 = .ok (.getfield 63, 3) := by decide +kernel
theorem dX8_entry_51 : decode cX8_entry 51 = .ok (.iconst 4, 1) := by decide +kernel
theorem dX8_entry_52 : decode cX8_entry 52 = .ok (.aload_n 0, 1) := by decide +kernel
theorem dX8_entry_53 : decode cX8_entry 53 = .ok (.getfield 170, 3) := by decide +kernel
theorem dX8_entry_56 : decode cX8_entry 56 = .ok (.iconst 1, 1) := by decide +kernel
theorem dX8_entry_57 : decode cX8_entry 57 = .ok (.isub, 1) := by decide +kernel
theorem dX8_entry_58 : decode cX8_entry 58 = .ok (.iload_n 1, 1) := by decide +kernel
theorem dX8_entry_59 : decode cX8_entry 59 = .ok (.isub, 1) := by decide +kernel
theorem dX8_entry_60 : decode cX8_entry 60 = .ok (.bipush 64, 2) := by decide +kernel
theorem dX8_entry_62 : decode cX8_entry 62 = .ok (.irem, 1) := by decide +kernel
theorem dX8_entry_63 : decode cX8_entry 63 = .ok (.imul, 1) := by decide +kernel
theorem dX8_entry_64 : decode cX8_entry 64 = .ok (.iload_n 2, 1) := by decide +kernel
theorem dX8_entry_65 : decode cX8_entry 65 = .ok (.iadd, 1) := by decide +kernel
theorem dX8_entry_66 : decode cX8_entry 66 = .ok (.iaload, 1) := by decide +kernel
theorem dX8_entry_67 : decode cX8_entry 67 = .ok (.ireturn, 1) := by decide +kernel
end
section
theorem dL_job_0 : decode cL_job 0 = .ok (.aload_n 2, 1) := by decide +kernel
theorem dL_job_1 : decode cL_job 1 = .ok (.iconst 0, 1) := by decide +kernel
theorem dL_job_2 : decode cL_job 2 = .ok (.aload_n 0, 1) := by decide +kernel
theorem dL_job_3 : decode cL_job 3 = .ok (.iload_n 1, 1) := by decide +kernel
theorem dL_job_4 : decode cL_job 4 = .ok (.invokevirtual 7, 3) := by decide +kernel
theorem dL_job_7 : decode cL_job 7 = .ok (.i2l, 1) := by decide +kernel
theorem dL_job_8 : decode cL_job 8 = .ok (.lastore, 1) := by decide +kernel
theorem dL_job_9 : decode cL_job 9 = .ok (.goto 9, 3) := by decide +kernel
theorem dL_job_12 : decode cL_job 12 = .ok (.astore_n 3, 1) := by decide +kernel
theorem dL_job_13 : decode cL_job 13 = .ok (.iconst 1, 1) := by decide +kernel
theorem dL_job_14 : decode cL_job 14 = .ok (.ireturn, 1) := by decide +kernel
theorem dL_job_15 : decode cL_job 15 = .ok (.astore_n 3, 1) := by decide +kernel
theorem dL_job_16 : decode cL_job 16 = .ok (.iconst 2, 1) := by decide +kernel
theorem dL_job_17 : decode cL_job 17 = .ok (.ireturn, 1) := by decide +kernel
theorem dL_job_18 : decode cL_job 18 = .ok (.iconst 0, 1) := by decide +kernel
theorem dL_job_19 : decode cL_job 19 = .ok (.ireturn, 1) := by decide +kernel
theorem dL_task_0 : decode cL_task 0 = .ok (.aload 5, 2) := by decide +kernel
theorem dL_task_2 : decode cL_task 2 = .ok (.iconst 0, 1) := by decide +kernel
theorem dL_task_3 : decode cL_task 3 = .ok (.aload_n 0, 1) := by decide +kernel
theorem dL_task_4 : decode cL_task 4 = .ok (.iload_n 1, 1) := by decide +kernel
theorem dL_task_5 : decode cL_task 5 = .ok (.iload_n 2, 1) := by decide +kernel
theorem dL_task_6 : decode cL_task 6 = .ok (.iload_n 3, 1) := by decide +kernel
theorem dL_task_7 : decode cL_task 7 = .ok (.iload 4, 2) := by decide +kernel
theorem dL_task_9 : decode cL_task 9 = .ok (.invokevirtual 17, 3) := by decide +kernel
theorem dL_task_12 : decode cL_task 12 = .ok (.i2l, 1) := by decide +kernel
theorem dL_task_13 : decode cL_task 13 = .ok (.lastore, 1) := by decide +kernel
theorem dL_task_14 : decode cL_task 14 = .ok (.goto 15, 3) := by decide +kernel
theorem dL_task_17 : decode cL_task 17 = .ok (.astore 6, 2) := by decide +kernel
theorem dL_task_19 : decode cL_task 19 = .ok (.iconst 1, 1) := by decide +kernel
theorem dL_task_20 : decode cL_task 20 = .ok (.ireturn, 1) := by decide +kernel
theorem dL_task_21 : decode cL_task 21 = .ok (.astore 6, 2) := by decide +kernel
theorem dL_task_23 : decode cL_task 23 = .ok (.iconst 2, 1) := by decide +kernel
theorem dL_task_24 : decode cL_task 24 = .ok (.ireturn, 1) := by decide +kernel
theorem dL_task_25 : decode cL_task 25 = .ok (.astore 6, 2) := by decide +kernel
theorem dL_task_27 : decode cL_task 27 = .ok (.iconst 3, 1) := by decide +kernel
theorem dL_task_28 : decode cL_task 28 = .ok (.ireturn, 1) := by decide +kernel
theorem dL_task_29 : decode cL_task 29 = .ok (.iconst 0, 1) := by decide +kernel
theorem dL_task_30 : decode cL_task 30 = .ok (.ireturn, 1) := by decide +kernel
theorem dL_holds_0 : decode cL_holds 0 = .ok (.aload_n 3, 1) := by decide +kernel
theorem dL_holds_1 : decode cL_holds 1 = .ok (.iconst 0, 1) := by decide +kernel
theorem dL_holds_2 : decode cL_holds 2 = .ok (.aload_n 0, 1) := by decide +kernel
theorem dL_holds_3 : decode cL_holds 3 = .ok (.iload_n 1, 1) := by decide +kernel
theorem dL_holds_4 : decode cL_holds 4 = .ok (.iload_n 2, 1) := by decide +kernel
theorem dL_holds_5 : decode cL_holds 5 = .ok (.invokevirtual 23, 3) := by decide +kernel
theorem dL_holds_8 : decode cL_holds 8 = .ok (.ifCond .eq 7, 3) := by decide +kernel
theorem dL_holds_11 : decode cL_holds 11 = .ok (.lconst 1, 1) := by decide +kernel
theorem dL_holds_12 : decode cL_holds 12 = .ok (.goto 4, 3) := by decide +kernel
theorem dL_holds_15 : decode cL_holds 15 = .ok (.lconst 0, 1) := by decide +kernel
theorem dL_holds_16 : decode cL_holds 16 = .ok (.lastore, 1) := by decide +kernel
theorem dL_holds_17 : decode cL_holds 17 = .ok (.goto 11, 3) := by decide +kernel
theorem dL_holds_20 : decode cL_holds 20 = .ok (.astore 4, 2) := by decide +kernel
theorem dL_holds_22 : decode cL_holds 22 = .ok (.iconst 1, 1) := by decide +kernel
theorem dL_holds_23 : decode cL_holds 23 = .ok (.ireturn, 1) := by decide +kernel
theorem dL_holds_24 : decode cL_holds 24 = .ok (.astore 4, 2) := by decide +kernel
theorem dL_holds_26 : decode cL_holds 26 = .ok (.iconst 2, 1) := by decide +kernel
theorem dL_holds_27 : decode cL_holds 27 = .ok (.ireturn, 1) := by decide +kernel
theorem dL_holds_28 : decode cL_holds 28 = .ok (.iconst 0, 1) := by decide +kernel
theorem dL_holds_29 : decode cL_holds 29 = .ok (.ireturn, 1) := by decide +kernel
theorem dL_next_0 : decode cL_next 0 = .ok (.aload_n 3, 1) := by decide +kernel
theorem dL_next_1 : decode cL_next 1 = .ok (.iconst 0, 1) := by decide +kernel
theorem dL_next_2 : decode cL_next 2 = .ok (.aload_n 0, 1) := by decide +kernel
theorem dL_next_3 : decode cL_next 3 = .ok (.iload_n 1, 1) := by decide +kernel
theorem dL_next_4 : decode cL_next 4 = .ok (.iload_n 2, 1) := by decide +kernel
theorem dL_next_5 : decode cL_next 5 = .ok (.invokevirtual 27, 3) := by decide +kernel
theorem dL_next_8 : decode cL_next 8 = .ok (.i2l, 1) := by decide +kernel
theorem dL_next_9 : decode cL_next 9 = .ok (.lastore, 1) := by decide +kernel
theorem dL_next_10 : decode cL_next 10 = .ok (.goto 11, 3) := by decide +kernel
theorem dL_next_13 : decode cL_next 13 = .ok (.astore 4, 2) := by decide +kernel
theorem dL_next_15 : decode cL_next 15 = .ok (.iconst 1, 1) := by decide +kernel
theorem dL_next_16 : decode cL_next 16 = .ok (.ireturn, 1) := by decide +kernel
theorem dL_next_17 : decode cL_next 17 = .ok (.astore 4, 2) := by decide +kernel
theorem dL_next_19 : decode cL_next 19 = .ok (.iconst 2, 1) := by decide +kernel
theorem dL_next_20 : decode cL_next 20 = .ok (.ireturn, 1) := by decide +kernel
theorem dL_next_21 : decode cL_next 21 = .ok (.iconst 0, 1) := by decide +kernel
theorem dL_next_22 : decode cL_next 22 = .ok (.ireturn, 1) := by decide +kernel
theorem dL_part_0 : decode cL_part 0 = .ok (.aload_n 3, 1) := by decide +kernel
theorem dL_part_1 : decode cL_part 1 = .ok (.iconst 0, 1) := by decide +kernel
theorem dL_part_2 : decode cL_part 2 = .ok (.aload_n 0, 1) := by decide +kernel
theorem dL_part_3 : decode cL_part 3 = .ok (.iload_n 1, 1) := by decide +kernel
theorem dL_part_4 : decode cL_part 4 = .ok (.iload_n 2, 1) := by decide +kernel
theorem dL_part_5 : decode cL_part 5 = .ok (.invokevirtual 31, 3) := by decide +kernel
theorem dL_part_8 : decode cL_part 8 = .ok (.i2l, 1) := by decide +kernel
theorem dL_part_9 : decode cL_part 9 = .ok (.lastore, 1) := by decide +kernel
theorem dL_part_10 : decode cL_part 10 = .ok (.goto 7, 3) := by decide +kernel
theorem dL_part_13 : decode cL_part 13 = .ok (.astore 4, 2) := by decide +kernel
theorem dL_part_15 : decode cL_part 15 = .ok (.iconst 1, 1) := by decide +kernel
theorem dL_part_16 : decode cL_part 16 = .ok (.ireturn, 1) := by decide +kernel
theorem dL_part_17 : decode cL_part 17 = .ok (.iconst 0, 1) := by decide +kernel
theorem dL_part_18 : decode cL_part 18 = .ok (.ireturn, 1) := by decide +kernel
theorem dL_pass_0 : decode cL_pass 0 = .ok (.aload_n 2, 1) := by decide +kernel
theorem dL_pass_1 : decode cL_pass 1 = .ok (.iconst 0, 1) := by decide +kernel
theorem dL_pass_2 : decode cL_pass 2 = .ok (.aload_n 0, 1) := by decide +kernel
theorem dL_pass_3 : decode cL_pass 3 = .ok (.iload_n 1, 1) := by decide +kernel
theorem dL_pass_4 : decode cL_pass 4 = .ok (.invokevirtual 34, 3) := by decide +kernel
theorem dL_pass_7 : decode cL_pass 7 = .ok (.i2l, 1) := by decide +kernel
theorem dL_pass_8 : decode cL_pass 8 = .ok (.lastore, 1) := by decide +kernel
theorem dL_pass_9 : decode cL_pass 9 = .ok (.goto 9, 3) := by decide +kernel
theorem dL_pass_12 : decode cL_pass 12 = .ok (.astore_n 3, 1) := by decide +kernel
theorem dL_pass_13 : decode cL_pass 13 = .ok (.iconst 1, 1) := by decide +kernel
theorem dL_pass_14 : decode cL_pass 14 = .ok (.ireturn, 1) := by decide +kernel
theorem dL_pass_15 : decode cL_pass 15 = .ok (.astore_n 3, 1) := by decide +kernel
theorem dL_pass_16 : decode cL_pass 16 = .ok (.iconst 2, 1) := by decide +kernel
theorem dL_pass_17 : decode cL_pass 17 = .ok (.ireturn, 1) := by decide +kernel
theorem dL_pass_18 : decode cL_pass 18 = .ok (.iconst 0, 1) := by decide +kernel
theorem dL_pass_19 : decode cL_pass 19 = .ok (.ireturn, 1) := by decide +kernel
theorem dL_set_0 : decode cL_set 0 = .ok (.aload_n 0, 1) := by decide +kernel
theorem dL_set_1 : decode cL_set 1 = .ok (.iload_n 1, 1) := by decide +kernel
theorem dL_set_2 : decode cL_set 2 = .ok (.invokevirtual 39, 3) := by decide +kernel
theorem dL_set_5 : decode cL_set 5 = .ok (.goto 9, 3) := by decide +kernel
theorem dL_set_8 : decode cL_set 8 = .ok (.astore_n 2, 1) := by decide +kernel
theorem dL_set_9 : decode cL_set 9 = .ok (.iconst 1, 1) := by decide +kernel
theorem dL_set_10 : decode cL_set 10 = .ok (.ireturn, 1) := by decide +kernel
theorem dL_set_11 : decode cL_set 11 = .ok (.astore_n 2, 1) := by decide +kernel
theorem dL_set_12 : decode cL_set 12 = .ok (.iconst 2, 1) := by decide +kernel
theorem dL_set_13 : decode cL_set 13 = .ok (.ireturn, 1) := by decide +kernel
theorem dL_set_14 : decode cL_set 14 = .ok (.iconst 0, 1) := by decide +kernel
theorem dL_set_15 : decode cL_set 15 = .ok (.ireturn, 1) := by decide +kernel
theorem dL_end_0 : decode cL_end 0 = .ok (.aload 4, 2) := by decide +kernel
theorem dL_end_2 : decode cL_end 2 = .ok (.iconst 0, 1) := by decide +kernel
theorem dL_end_3 : decode cL_end 3 = .ok (.aload_n 0, 1) := by decide +kernel
theorem dL_end_4 : decode cL_end 4 = .ok (.iload_n 1, 1) := by decide +kernel
theorem dL_end_5 : decode cL_end 5 = .ok (.iload_n 2, 1) := by decide +kernel
theorem dL_end_6 : decode cL_end 6 = .ok (.iload_n 3, 1) := by decide +kernel
theorem dL_end_7 : decode cL_end 7 = .ok (.invokevirtual 43, 3) := by decide +kernel
theorem dL_end_10 : decode cL_end 10 = .ok (.i2l, 1) := by decide +kernel
theorem dL_end_11 : decode cL_end 11 = .ok (.lastore, 1) := by decide +kernel
theorem dL_end_12 : decode cL_end 12 = .ok (.goto 11, 3) := by decide +kernel
theorem dL_end_15 : decode cL_end 15 = .ok (.astore 5, 2) := by decide +kernel
theorem dL_end_17 : decode cL_end 17 = .ok (.iconst 1, 1) := by decide +kernel
theorem dL_end_18 : decode cL_end 18 = .ok (.ireturn, 1) := by decide +kernel
theorem dL_end_19 : decode cL_end 19 = .ok (.astore 5, 2) := by decide +kernel
theorem dL_end_21 : decode cL_end 21 = .ok (.iconst 2, 1) := by decide +kernel
theorem dL_end_22 : decode cL_end 22 = .ok (.ireturn, 1) := by decide +kernel
theorem dL_end_23 : decode cL_end 23 = .ok (.iconst 0, 1) := by decide +kernel
theorem dL_end_24 : decode cL_end 24 = .ok (.ireturn, 1) := by decide +kernel
theorem dL_down_0 : decode cL_down 0 = .ok (.aload_n 2, 1) := by decide +kernel
theorem dL_down_1 : decode cL_down 1 = .ok (.iconst 0, 1) := by decide +kernel
theorem dL_down_2 : decode cL_down 2 = .ok (.aload_n 0, 1) := by decide +kernel
theorem dL_down_3 : decode cL_down 3 = .ok (.iload_n 1, 1) := by decide +kernel
theorem dL_down_4 : decode cL_down 4 = .ok (.invokevirtual 47, 3) := by decide +kernel
theorem dL_down_7 : decode cL_down 7 = .ok (.i2l, 1) := by decide +kernel
theorem dL_down_8 : decode cL_down 8 = .ok (.lastore, 1) := by decide +kernel
theorem dL_down_9 : decode cL_down 9 = .ok (.goto 6, 3) := by decide +kernel
theorem dL_down_12 : decode cL_down 12 = .ok (.astore_n 3, 1) := by decide +kernel
theorem dL_down_13 : decode cL_down 13 = .ok (.iconst 1, 1) := by decide +kernel
theorem dL_down_14 : decode cL_down 14 = .ok (.ireturn, 1) := by decide +kernel
theorem dL_down_15 : decode cL_down 15 = .ok (.iconst 0, 1) := by decide +kernel
theorem dL_down_16 : decode cL_down 16 = .ok (.ireturn, 1) := by decide +kernel
theorem dL_entry_0 : decode cL_entry 0 = .ok (.aload_n 3, 1) := by decide +kernel
theorem dL_entry_1 : decode cL_entry 1 = .ok (.iconst 0, 1) := by decide +kernel
theorem dL_entry_2 : decode cL_entry 2 = .ok (.aload_n 0, 1) := by decide +kernel
theorem dL_entry_3 : decode cL_entry 3 = .ok (.iload_n 1, 1) := by decide +kernel
theorem dL_entry_4 : decode cL_entry 4 = .ok (.iload_n 2, 1) := by decide +kernel
theorem dL_entry_5 : decode cL_entry 5 = .ok (.invokevirtual 51, 3) := by decide +kernel
theorem dL_entry_8 : decode cL_entry 8 = .ok (.i2l, 1) := by decide +kernel
theorem dL_entry_9 : decode cL_entry 9 = .ok (.lastore, 1) := by decide +kernel
theorem dL_entry_10 : decode cL_entry 10 = .ok (.goto 7, 3) := by decide +kernel
theorem dL_entry_13 : decode cL_entry 13 = .ok (.astore 4, 2) := by decide +kernel
theorem dL_entry_15 : decode cL_entry 15 = .ok (.iconst 1, 1) := by decide +kernel
theorem dL_entry_16 : decode cL_entry 16 = .ok (.ireturn, 1) := by decide +kernel
theorem dL_entry_17 : decode cL_entry 17 = .ok (.iconst 0, 1) := by decide +kernel
theorem dL_entry_18 : decode cL_entry 18 = .ok (.ireturn, 1) := by decide +kernel
theorem dL_law_0 : decode cL_law 0 = .ok (.new 8, 3) := by decide +kernel
theorem dL_law_3 : decode cL_law 3 = .ok (.dup, 1) := by decide +kernel
theorem dL_law_4 : decode cL_law 4 = .ok (.invokespecial 54, 3) := by decide +kernel
theorem dL_law_7 : decode cL_law 7 = .ok (.astore_n 1, 1) := by decide +kernel
theorem dL_law_8 : decode cL_law 8 = .ok (.new 55, 3) := by decide +kernel
theorem dL_law_11 : decode cL_law 11 = .ok (.dup, 1) := by decide +kernel
theorem dL_law_12 : decode cL_law 12 = .ok (.invokespecial 57, 3) := by decide +kernel
theorem dL_law_15 : decode cL_law 15 = .ok (.astore_n 2, 1) := by decide +kernel
theorem dL_law_16 : decode cL_law 16 = .ok (.iconst 1, 1) := by decide +kernel
theorem dL_law_17 : decode cL_law 17 = .ok (.newarray .long, 2) := by decide +kernel
theorem dL_law_19 : decode cL_law 19 = .ok (.astore_n 3, 1) := by decide +kernel
theorem dL_law_20 : decode cL_law 20 = .ok (.iconst 0, 1) := by decide +kernel
theorem dL_law_21 : decode cL_law 21 = .ok (.istore 4, 2) := by decide +kernel
theorem dL_law_23 : decode cL_law 23 = .ok (.iload 4, 2) := by decide +kernel
theorem dL_law_25 : decode cL_law 25 = .ok (.aload_n 0, 1) := by decide +kernel
theorem dL_law_26 : decode cL_law 26 = .ok (.arraylength, 1) := by decide +kernel
theorem dL_law_27 : decode cL_law 27 = .ok (.iconst 5, 1) := by decide +kernel
theorem dL_law_28 : decode cL_law 28 = .ok (.isub, 1) := by decide +kernel
theorem dL_law_29 : decode cL_law 29 = .ok (.if_icmp .gt 994, 3) := by decide +kernel
theorem dL_law_32 : decode cL_law 32 = .ok (.aload_n 0, 1) := by decide +kernel
theorem dL_law_33 : decode cL_law 33 = .ok (.iload 4, 2) := by decide +kernel
theorem dL_law_35 : decode cL_law 35 = .ok (.iaload, 1) := by decide +kernel
theorem dL_law_36 : decode cL_law 36 = .ok (.bipush 31, 2) := by decide +kernel
theorem dL_law_38 : decode cL_law 38 = .ok (.iand, 1) := by decide +kernel
theorem dL_law_39 : decode cL_law 39 = .ok (.tableswitch 978 0 17 #[85, 142, 198, 211, 222, 314, 339, 414, 482, 550, 606, 642, 738, 810, 823, 860, 897, 910], 85) := by decide +kernel
theorem dL_law_124 : decode cL_law 124 = .ok (.aload_n 1, 1) := by decide +kernel
theorem dL_law_125 : decode cL_law 125 = .ok (.aload_n 0, 1) := by decide +kernel
theorem dL_law_126 : decode cL_law 126 = .ok (.iload 4, 2) := by decide +kernel
theorem dL_law_128 : decode cL_law 128 = .ok (.iconst 1, 1) := by decide +kernel
theorem dL_law_129 : decode cL_law 129 = .ok (.iadd, 1) := by decide +kernel
theorem dL_law_130 : decode cL_law 130 = .ok (.iaload, 1) := by decide +kernel
theorem dL_law_131 : decode cL_law 131 = .ok (.i2l, 1) := by decide +kernel
theorem dL_law_132 : decode cL_law 132 = .ok (.bipush 32, 2) := by decide +kernel
theorem dL_law_134 : decode cL_law 134 = .ok (.lshl, 1) := by decide +kernel
theorem dL_law_135 : decode cL_law 135 = .ok (.aload_n 0, 1) := by decide +kernel
theorem dL_law_136 : decode cL_law 136 = .ok (.iload 4, 2) := by decide +kernel
theorem dL_law_138 : decode cL_law 138 = .ok (.iconst 2, 1) := by decide +kernel
theorem dL_law_139 : decode cL_law 139 = .ok (.iadd, 1) := by decide +kernel
theorem dL_law_140 : decode cL_law 140 = .ok (.iaload, 1) := by decide +kernel
theorem dL_law_141 : decode cL_law 141 = .ok (.i2l, 1) := by decide +kernel
theorem dL_law_142 : decode cL_law 142 = .ok (.ldc2_w 58, 3) := by decide +kernel
theorem dL_law_145 : decode cL_law 145 = .ok (.land, 1) := by decide +kernel
theorem dL_law_146 : decode cL_law 146 = .ok (.lor, 1) := by decide +kernel
theorem dL_law_147 : decode cL_law 147 = .ok (.invokevirtual 60, 3) := by decide +kernel
theorem dL_law_150 : decode cL_law 150 = .ok (.aload_n 2, 1) := by decide +kernel
theorem dL_law_151 : decode cL_law 151 = .ok (.aload_n 0, 1) := by decide +kernel
theorem dL_law_152 : decode cL_law 152 = .ok (.iload 4, 2) := by decide +kernel
theorem dL_law_154 : decode cL_law 154 = .ok (.iconst 1, 1) := by decide +kernel
theorem dL_law_155 : decode cL_law 155 = .ok (.iadd, 1) := by decide +kernel
theorem dL_law_156 : decode cL_law 156 = .ok (.iaload, 1) := by decide +kernel
theorem dL_law_157 : decode cL_law 157 = .ok (.i2l, 1) := by decide +kernel
theorem dL_law_158 : decode cL_law 158 = .ok (.bipush 32, 2) := by decide +kernel
theorem dL_law_160 : decode cL_law 160 = .ok (.lshl, 1) := by decide +kernel
theorem dL_law_161 : decode cL_law 161 = .ok (.aload_n 0, 1) := by decide +kernel
theorem dL_law_162 : decode cL_law 162 = .ok (.iload 4, 2) := by decide +kernel
theorem dL_law_164 : decode cL_law 164 = .ok (.iconst 2, 1) := by decide +kernel
theorem dL_law_165 : decode cL_law 165 = .ok (.iadd, 1) := by decide +kernel
theorem dL_law_166 : decode cL_law 166 = .ok (.iaload, 1) := by decide +kernel
theorem dL_law_167 : decode cL_law 167 = .ok (.i2l, 1) := by decide +kernel
theorem dL_law_168 : decode cL_law 168 = .ok (.ldc2_w 58, 3) := by decide +kernel
theorem dL_law_171 : decode cL_law 171 = .ok (.land, 1) := by decide +kernel
theorem dL_law_172 : decode cL_law 172 = .ok (.lor, 1) := by decide +kernel
theorem dL_law_173 : decode cL_law 173 = .ok (.invokevirtual 64, 3) := by decide +kernel
theorem dL_law_176 : decode cL_law 176 = .ok (.if_icmp .eq 841, 3) := by decide +kernel
theorem dL_law_179 : decode cL_law 179 = .ok (.iconst 0, 1) := by decide +kernel
theorem dL_law_180 : decode cL_law 180 = .ok (.ireturn, 1) := by decide +kernel
theorem dL_law_181 : decode cL_law 181 = .ok (.aload_n 1, 1) := by decide +kernel
theorem dL_law_182 : decode cL_law 182 = .ok (.aload_n 0, 1) := by decide +kernel
theorem dL_law_183 : decode cL_law 183 = .ok (.iload 4, 2) := by decide +kernel
theorem dL_law_185 : decode cL_law 185 = .ok (.iconst 1, 1) := by decide +kernel
theorem dL_law_186 : decode cL_law 186 = .ok (.iadd, 1) := by decide +kernel
theorem dL_law_187 : decode cL_law 187 = .ok (.iaload, 1) := by decide +kernel
theorem dL_law_188 : decode cL_law 188 = .ok (.aload_n 3, 1) := by decide +kernel
theorem dL_law_189 : decode cL_law 189 = .ok (.invokestatic 65, 3) := by decide +kernel
theorem dL_law_192 : decode cL_law 192 = .ok (.istore 5, 2) := by decide +kernel
theorem dL_law_194 : decode cL_law 194 = .ok (.aload_n 2, 1) := by decide +kernel
theorem dL_law_195 : decode cL_law 195 = .ok (.aload_n 0, 1) := by decide +kernel
theorem dL_law_196 : decode cL_law 196 = .ok (.iload 4, 2) := by decide +kernel
theorem dL_law_198 : decode cL_law 198 = .ok (.iconst 1, 1) := by decide +kernel
theorem dL_law_199 : decode cL_law 199 = .ok (.iadd, 1) := by decide +kernel
theorem dL_law_200 : decode cL_law 200 = .ok (.iaload, 1) := by decide +kernel
theorem dL_law_201 : decode cL_law 201 = .ok (.invokevirtual 70, 3) := by decide +kernel
theorem dL_law_204 : decode cL_law 204 = .ok (.istore 6, 2) := by decide +kernel
theorem dL_law_206 : decode cL_law 206 = .ok (.aload_n 2, 1) := by decide +kernel
theorem dL_law_207 : decode cL_law 207 = .ok (.invokevirtual 71, 3) := by decide +kernel
theorem dL_law_210 : decode cL_law 210 = .ok (.iload 5, 2) := by decide +kernel
theorem dL_law_212 : decode cL_law 212 = .ok (.if_icmp .eq 5, 3) := by decide +kernel
theorem dL_law_215 : decode cL_law 215 = .ok (.iconst 0, 1) := by decide +kernel
theorem dL_law_216 : decode cL_law 216 = .ok (.ireturn, 1) := by decide +kernel
theorem dL_law_217 : decode cL_law 217 = .ok (.iload 5, 2) := by decide +kernel
theorem dL_law_219 : decode cL_law 219 = .ok (.ifCond .ne 15, 3) := by decide +kernel
theorem dL_law_222 : decode cL_law 222 = .ok (.aload_n 3, 1) := by decide +kernel
theorem dL_law_223 : decode cL_law 223 = .ok (.iconst 0, 1) := by decide +kernel
theorem dL_law_224 : decode cL_law 224 = .ok (.laload, 1) := by decide +kernel
theorem dL_law_225 : decode cL_law 225 = .ok (.iload 6, 2) := by decide +kernel
theorem dL_law_227 : decode cL_law 227 = .ok (.i2l, 1) := by decide +kernel
theorem dL_law_228 : decode cL_law 228 = .ok (.lcmp, 1) := by decide +kernel
theorem dL_law_229 : decode cL_law 229 = .ok (.ifCond .eq 5, 3) := by decide +kernel
theorem dL_law_232 : decode cL_law 232 = .ok (.iconst 0, 1) := by decide +kernel
theorem dL_law_233 : decode cL_law 233 = .ok (.ireturn, 1) := by decide +kernel
theorem dL_law_234 : decode cL_law 234 = .ok (.goto 783, 3) := by decide +kernel
theorem dL_law_237 : decode cL_law 237 = .ok (.aload_n 1, 1) := by decide +kernel
theorem dL_law_238 : decode cL_law 238 = .ok (.invokevirtual 75, 3) := by decide +kernel
theorem dL_law_241 : decode cL_law 241 = .ok (.aload_n 2, 1) := by decide +kernel
theorem dL_law_242 : decode cL_law 242 = .ok (.invokevirtual 78, 3) := by decide +kernel
theorem dL_law_245 : decode cL_law 245 = .ok (.if_icmp .eq 772, 3) := by decide +kernel
theorem dL_law_248 : decode cL_law 248 = .ok (.iconst 0, 1) := by decide +kernel
theorem dL_law_249 : decode cL_law 249 = .ok (.ireturn, 1) := by decide +kernel
theorem dL_law_250 : decode cL_law 250 = .ok (.aload_n 1, 1) := by decide +kernel
theorem dL_law_251 : decode cL_law 251 = .ok (.invokevirtual 79, 3) := by decide +kernel
theorem dL_law_254 : decode cL_law 254 = .ok (.aload_n 2, 1) := by decide +kernel
theorem dL_law_255 : decode cL_law 255 = .ok (.invokevirtual 82, 3) := by decide +kernel
theorem dL_law_258 : decode cL_law 258 = .ok (.goto 759, 3) := by decide +kernel
theorem dL_law_261 : decode cL_law 261 = .ok (.aload_n 1, 1) := by decide +kernel
theorem dL_law_262 : decode cL_law 262 = .ok (.aload_n 0, 1) := by decide +kernel
theorem dL_law_263 : decode cL_law 263 = .ok (.iload 4, 2) := by decide +kernel
theorem dL_law_265 : decode cL_law 265 = .ok (.iconst 1, 1) := by decide +kernel
theorem dL_law_266 : decode cL_law 266 = .ok (.iadd, 1) := by decide +kernel
theorem dL_law_267 : decode cL_law 267 = .ok (.iaload, 1) := by decide +kernel
theorem dL_law_268 : decode cL_law 268 = .ok (.aload_n 0, 1) := by decide +kernel
theorem dL_law_269 : decode cL_law 269 = .ok (.iload 4, 2) := by decide +kernel
theorem dL_law_271 : decode cL_law 271 = .ok (.iconst 2, 1) := by decide +kernel
theorem dL_law_272 : decode cL_law 272 = .ok (.iadd, 1) := by decide +kernel
theorem dL_law_273 : decode cL_law 273 = .ok (.iaload, 1) := by decide +kernel
theorem dL_law_274 : decode cL_law 274 = .ok (.aload_n 0, 1) := by decide +kernel
theorem dL_law_275 : decode cL_law 275 = .ok (.iload 4, 2) := by decide +kernel
theorem dL_law_277 : decode cL_law 277 = .ok (.iconst 3, 1) := by decide +kernel
theorem dL_law_278 : decode cL_law 278 = .ok (.iadd, 1) := by decide +kernel
theorem dL_law_279 : decode cL_law 279 = .ok (.iaload, 1) := by decide +kernel
theorem dL_law_280 : decode cL_law 280 = .ok (.aload_n 0, 1) := by decide +kernel
theorem dL_law_281 : decode cL_law 281 = .ok (.iload 4, 2) := by decide +kernel
theorem dL_law_283 : decode cL_law 283 = .ok (.iconst 4, 1) := by decide +kernel
theorem dL_law_284 : decode cL_law 284 = .ok (.iadd, 1) := by decide +kernel
theorem dL_law_285 : decode cL_law 285 = .ok (.iaload, 1) := by decide +kernel
theorem dL_law_286 : decode cL_law 286 = .ok (.aload_n 3, 1) := by decide +kernel
theorem dL_law_287 : decode cL_law 287 = .ok (.invokestatic 83, 3) := by decide +kernel
theorem dL_law_290 : decode cL_law 290 = .ok (.istore 5, 2) := by decide +kernel
theorem dL_law_292 : decode cL_law 292 = .ok (.aload_n 2, 1) := by decide +kernel
theorem dL_law_293 : decode cL_law 293 = .ok (.aload_n 0, 1) := by decide +kernel
theorem dL_law_294 : decode cL_law 294 = .ok (.iload 4, 2) := by decide +kernel
theorem dL_law_296 : decode cL_law 296 = .ok (.iconst 1, 1) := by decide +kernel
theorem dL_law_297 : decode cL_law 297 = .ok (.iadd, 1) := by decide +kernel
theorem dL_law_298 : decode cL_law 298 = .ok (.iaload, 1) := by decide +kernel
theorem dL_law_299 : decode cL_law 299 = .ok (.aload_n 0, 1) := by decide +kernel
theorem dL_law_300 : decode cL_law 300 = .ok (.iload 4, 2) := by decide +kernel
theorem dL_law_302 : decode cL_law 302 = .ok (.iconst 2, 1) := by decide +kernel
theorem dL_law_303 : decode cL_law 303 = .ok (.iadd, 1) := by decide +kernel
theorem dL_law_304 : decode cL_law 304 = .ok (.iaload, 1) := by decide +kernel
theorem dL_law_305 : decode cL_law 305 = .ok (.aload_n 0, 1) := by decide +kernel
theorem dL_law_306 : decode cL_law 306 = .ok (.iload 4, 2) := by decide +kernel
theorem dL_law_308 : decode cL_law 308 = .ok (.iconst 3, 1) := by decide +kernel
theorem dL_law_309 : decode cL_law 309 = .ok (.iadd, 1) := by decide +kernel
theorem dL_law_310 : decode cL_law 310 = .ok (.iaload, 1) := by decide +kernel
theorem dL_law_311 : decode cL_law 311 = .ok (.aload_n 0, 1) := by decide +kernel
theorem dL_law_312 : decode cL_law 312 = .ok (.iload 4, 2) := by decide +kernel
theorem dL_law_314 : decode cL_law 314 = .ok (.iconst 4, 1) := by decide +kernel
theorem dL_law_315 : decode cL_law 315 = .ok (.iadd, 1) := by decide +kernel
theorem dL_law_316 : decode cL_law 316 = .ok (.iaload, 1) := by decide +kernel
theorem dL_law_317 : decode cL_law 317 = .ok (.invokevirtual 86, 3) := by decide +kernel
theorem dL_law_320 : decode cL_law 320 = .ok (.istore 6, 2) := by decide +kernel
theorem dL_law_322 : decode cL_law 322 = .ok (.aload_n 2, 1) := by decide +kernel
theorem dL_law_323 : decode cL_law 323 = .ok (.invokevirtual 71, 3) := by decide +kernel
theorem dL_law_326 : decode cL_law 326 = .ok (.iload 5, 2) := by decide +kernel
theorem dL_law_328 : decode cL_law 328 = .ok (.if_icmp .eq 5, 3) := by decide +kernel
theorem dL_law_331 : decode cL_law 331 = .ok (.iconst 0, 1) := by decide +kernel
theorem dL_law_332 : decode cL_law 332 = .ok (.ireturn, 1) := by decide +kernel
theorem dL_law_333 : decode cL_law 333 = .ok (.iload 5, 2) := by decide +kernel
theorem dL_law_335 : decode cL_law 335 = .ok (.ifCond .ne 15, 3) := by decide +kernel
theorem dL_law_338 : decode cL_law 338 = .ok (.aload_n 3, 1) := by decide +kernel
theorem dL_law_339 : decode cL_law 339 = .ok (.iconst 0, 1) := by decide +kernel
theorem dL_law_340 : decode cL_law 340 = .ok (.laload, 1) := by decide +kernel
theorem dL_law_341 : decode cL_law 341 = .ok (.iload 6, 2) := by decide +kernel
theorem dL_law_343 : decode cL_law 343 = .ok (.i2l, 1) := by decide +kernel
theorem dL_law_344 : decode cL_law 344 = .ok (.lcmp, 1) := by decide +kernel
theorem dL_law_345 : decode cL_law 345 = .ok (.ifCond .eq 5, 3) := by decide +kernel
theorem dL_law_348 : decode cL_law 348 = .ok (.iconst 0, 1) := by decide +kernel
theorem dL_law_349 : decode cL_law 349 = .ok (.ireturn, 1) := by decide +kernel
theorem dL_law_350 : decode cL_law 350 = .ok (.goto 667, 3) := by decide +kernel
theorem dL_law_353 : decode cL_law 353 = .ok (.aload_n 1, 1) := by decide +kernel
theorem dL_law_354 : decode cL_law 354 = .ok (.aload_n 0, 1) := by decide +kernel
theorem dL_law_355 : decode cL_law 355 = .ok (.iload 4, 2) := by decide +kernel
theorem dL_law_357 : decode cL_law 357 = .ok (.iconst 1, 1) := by decide +kernel
theorem dL_law_358 : decode cL_law 358 = .ok (.iadd, 1) := by decide +kernel
theorem dL_law_359 : decode cL_law 359 = .ok (.iaload, 1) := by decide +kernel
theorem dL_law_360 : decode cL_law 360 = .ok (.invokevirtual 87, 3) := by decide +kernel
theorem dL_law_363 : decode cL_law 363 = .ok (.aload_n 2, 1) := by decide +kernel
theorem dL_law_364 : decode cL_law 364 = .ok (.aload_n 0, 1) := by decide +kernel
theorem dL_law_365 : decode cL_law 365 = .ok (.iload 4, 2) := by decide +kernel
theorem dL_law_367 : decode cL_law 367 = .ok (.iconst 1, 1) := by decide +kernel
theorem dL_law_368 : decode cL_law 368 = .ok (.iadd, 1) := by decide +kernel
theorem dL_law_369 : decode cL_law 369 = .ok (.iaload, 1) := by decide +kernel
theorem dL_law_370 : decode cL_law 370 = .ok (.invokevirtual 91, 3) := by decide +kernel
theorem dL_law_373 : decode cL_law 373 = .ok (.if_icmp .eq 644, 3) := by decide +kernel
theorem dL_law_376 : decode cL_law 376 = .ok (.iconst 0, 1) := by decide +kernel
theorem dL_law_377 : decode cL_law 377 = .ok (.ireturn, 1) := by decide +kernel
theorem dL_law_378 : decode cL_law 378 = .ok (.aload_n 1, 1) := by decide +kernel
theorem dL_law_379 : decode cL_law 379 = .ok (.aload_n 0, 1) := by decide +kernel
theorem dL_law_380 : decode cL_law 380 = .ok (.iload 4, 2) := by decide +kernel
theorem dL_law_382 : decode cL_law 382 = .ok (.iconst 1, 1) := by decide +kernel
theorem dL_law_383 : decode cL_law 383 = .ok (.iadd, 1) := by decide +kernel
theorem dL_law_384 : decode cL_law 384 = .ok (.iaload, 1) := by decide +kernel
theorem dL_law_385 : decode cL_law 385 = .ok (.aload_n 0, 1) := by decide +kernel
theorem dL_law_386 : decode cL_law 386 = .ok (.iload 4, 2) := by decide +kernel
theorem dL_law_388 : decode cL_law 388 = .ok (.iconst 2, 1) := by decide +kernel
theorem dL_law_389 : decode cL_law 389 = .ok (.iadd, 1) := by decide +kernel
theorem dL_law_390 : decode cL_law 390 = .ok (.iaload, 1) := by decide +kernel
theorem dL_law_391 : decode cL_law 391 = .ok (.aload_n 3, 1) := by decide +kernel
theorem dL_law_392 : decode cL_law 392 = .ok (.invokestatic 92, 3) := by decide +kernel
theorem dL_law_395 : decode cL_law 395 = .ok (.istore 5, 2) := by decide +kernel
theorem dL_law_397 : decode cL_law 397 = .ok (.aload_n 2, 1) := by decide +kernel
theorem dL_law_398 : decode cL_law 398 = .ok (.aload_n 0, 1) := by decide +kernel
theorem dL_law_399 : decode cL_law 399 = .ok (.iload 4, 2) := by decide +kernel
theorem dL_law_401 : decode cL_law 401 = .ok (.iconst 1, 1) := by decide +kernel
theorem dL_law_402 : decode cL_law 402 = .ok (.iadd, 1) := by decide +kernel
theorem dL_law_403 : decode cL_law 403 = .ok (.iaload, 1) := by decide +kernel
theorem dL_law_404 : decode cL_law 404 = .ok (.aload_n 0, 1) := by decide +kernel
theorem dL_law_405 : decode cL_law 405 = .ok (.iload 4, 2) := by decide +kernel
theorem dL_law_407 : decode cL_law 407 = .ok (.iconst 2, 1) := by decide +kernel
theorem dL_law_408 : decode cL_law 408 = .ok (.iadd, 1) := by decide +kernel
theorem dL_law_409 : decode cL_law 409 = .ok (.iaload, 1) := by decide +kernel
theorem dL_law_410 : decode cL_law 410 = .ok (.invokevirtual 95, 3) := by decide +kernel
theorem dL_law_413 : decode cL_law 413 = .ok (.istore 6, 2) := by decide +kernel
theorem dL_law_415 : decode cL_law 415 = .ok (.aload_n 2, 1) := by decide +kernel
theorem dL_law_416 : decode cL_law 416 = .ok (.invokevirtual 71, 3) := by decide +kernel
theorem dL_law_419 : decode cL_law 419 = .ok (.iload 5, 2) := by decide +kernel
theorem dL_law_421 : decode cL_law 421 = .ok (.if_icmp .eq 5, 3) := by decide +kernel
theorem dL_law_424 : decode cL_law 424 = .ok (.iconst 0, 1) := by decide +kernel
theorem dL_law_425 : decode cL_law 425 = .ok (.ireturn, 1) := by decide +kernel
theorem dL_law_426 : decode cL_law 426 = .ok (.iload 5, 2) := by decide +kernel
theorem dL_law_428 : decode cL_law 428 = .ok (.ifCond .ne 22, 3) := by decide +kernel
theorem dL_law_431 : decode cL_law 431 = .ok (.aload_n 3, 1) := by decide +kernel
theorem dL_law_432 : decode cL_law 432 = .ok (.iconst 0, 1) := by decide +kernel
theorem dL_law_433 : decode cL_law 433 = .ok (.laload, 1) := by decide +kernel
theorem dL_law_434 : decode cL_law 434 = .ok (.iload 6, 2) := by decide +kernel
theorem dL_law_436 : decode cL_law 436 = .ok (.ifCond .eq 7, 3) := by decide +kernel
theorem dL_law_439 : decode cL_law 439 = .ok (.lconst 1, 1) := by decide +kernel
theorem dL_law_440 : decode cL_law 440 = .ok (.goto 4, 3) := by decide +kernel
theorem dL_law_443 : decode cL_law 443 = .ok (.lconst 0, 1) := by decide +kernel
theorem dL_law_444 : decode cL_law 444 = .ok (.lcmp, 1) := by decide +kernel
theorem dL_law_445 : decode cL_law 445 = .ok (.ifCond .eq 5, 3) := by decide +kernel
theorem dL_law_448 : decode cL_law 448 = .ok (.iconst 0, 1) := by decide +kernel
theorem dL_law_449 : decode cL_law 449 = .ok (.ireturn, 1) := by decide +kernel
theorem dL_law_450 : decode cL_law 450 = .ok (.goto 567, 3) := by decide +kernel
theorem dL_law_453 : decode cL_law 453 = .ok (.aload_n 1, 1) := by decide +kernel
theorem dL_law_454 : decode cL_law 454 = .ok (.aload_n 0, 1) := by decide +kernel
theorem dL_law_455 : decode cL_law 455 = .ok (.iload 4, 2) := by decide +kernel
theorem dL_law_457 : decode cL_law 457 = .ok (.iconst 1, 1) := by decide +kernel
theorem dL_law_458 : decode cL_law 458 = .ok (.iadd, 1) := by decide +kernel
theorem dL_law_459 : decode cL_law 459 = .ok (.iaload, 1) := by decide +kernel
theorem dL_law_460 : decode cL_law 460 = .ok (.aload_n 0, 1) := by decide +kernel
theorem dL_law_461 : decode cL_law 461 = .ok (.iload 4, 2) := by decide +kernel
theorem dL_law_463 : decode cL_law 463 = .ok (.iconst 2, 1) := by decide +kernel
theorem dL_law_464 : decode cL_law 464 = .ok (.iadd, 1) := by decide +kernel
theorem dL_law_465 : decode cL_law 465 = .ok (.iaload, 1) := by decide +kernel
theorem dL_law_466 : decode cL_law 466 = .ok (.aload_n 3, 1) := by decide +kernel
theorem dL_law_467 : decode cL_law 467 = .ok (.invokestatic 96, 3) := by decide +kernel
theorem dL_law_470 : decode cL_law 470 = .ok (.istore 5, 2) := by decide +kernel
theorem dL_law_472 : decode cL_law 472 = .ok (.aload_n 2, 1) := by decide +kernel
theorem dL_law_473 : decode cL_law 473 = .ok (.aload_n 0, 1) := by decide +kernel
theorem dL_law_474 : decode cL_law 474 = .ok (.iload 4, 2) := by decide +kernel
theorem dL_law_476 : decode cL_law 476 = .ok (.iconst 1, 1) := by decide +kernel
theorem dL_law_477 : decode cL_law 477 = .ok (.iadd, 1) := by decide +kernel
theorem dL_law_478 : decode cL_law 478 = .ok (.iaload, 1) := by decide +kernel
theorem dL_law_479 : decode cL_law 479 = .ok (.aload_n 0, 1) := by decide +kernel
theorem dL_law_480 : decode cL_law 480 = .ok (.iload 4, 2) := by decide +kernel
theorem dL_law_482 : decode cL_law 482 = .ok (.iconst 2, 1) := by decide +kernel
theorem dL_law_483 : decode cL_law 483 = .ok (.iadd, 1) := by decide +kernel
theorem dL_law_484 : decode cL_law 484 = .ok (.iaload, 1) := by decide +kernel
theorem dL_law_485 : decode cL_law 485 = .ok (.invokevirtual 98, 3) := by decide +kernel
theorem dL_law_488 : decode cL_law 488 = .ok (.istore 6, 2) := by decide +kernel
theorem dL_law_490 : decode cL_law 490 = .ok (.aload_n 2, 1) := by decide +kernel
theorem dL_law_491 : decode cL_law 491 = .ok (.invokevirtual 71, 3) := by decide +kernel
theorem dL_law_494 : decode cL_law 494 = .ok (.iload 5, 2) := by decide +kernel
theorem dL_law_496 : decode cL_law 496 = .ok (.if_icmp .eq 5, 3) := by decide +kernel
theorem dL_law_499 : decode cL_law 499 = .ok (.iconst 0, 1) := by decide +kernel
theorem dL_law_500 : decode cL_law 500 = .ok (.ireturn, 1) := by decide +kernel
theorem dL_law_501 : decode cL_law 501 = .ok (.iload 5, 2) := by decide +kernel
theorem dL_law_503 : decode cL_law 503 = .ok (.ifCond .ne 15, 3) := by decide +kernel
theorem dL_law_506 : decode cL_law 506 = .ok (.aload_n 3, 1) := by decide +kernel
theorem dL_law_507 : decode cL_law 507 = .ok (.iconst 0, 1) := by decide +kernel
theorem dL_law_508 : decode cL_law 508 = .ok (.laload, 1) := by decide +kernel
theorem dL_law_509 : decode cL_law 509 = .ok (.iload 6, 2) := by decide +kernel
theorem dL_law_511 : decode cL_law 511 = .ok (.i2l, 1) := by decide +kernel
theorem dL_law_512 : decode cL_law 512 = .ok (.lcmp, 1) := by decide +kernel
theorem dL_law_513 : decode cL_law 513 = .ok (.ifCond .eq 5, 3) := by decide +kernel
theorem dL_law_516 : decode cL_law 516 = .ok (.iconst 0, 1) := by decide +kernel
theorem dL_law_517 : decode cL_law 517 = .ok (.ireturn, 1) := by decide +kernel
theorem dL_law_518 : decode cL_law 518 = .ok (.goto 499, 3) := by decide +kernel
theorem dL_law_521 : decode cL_law 521 = .ok (.aload_n 1, 1) := by decide +kernel
theorem dL_law_522 : decode cL_law 522 = .ok (.aload_n 0, 1) := by decide +kernel
theorem dL_law_523 : decode cL_law 523 = .ok (.iload 4, 2) := by decide +kernel
theorem dL_law_525 : decode cL_law 525 = .ok (.iconst 1, 1) := by decide +kernel
theorem dL_law_526 : decode cL_law 526 = .ok (.iadd, 1) := by decide +kernel
theorem dL_law_527 : decode cL_law 527 = .ok (.iaload, 1) := by decide +kernel
theorem dL_law_528 : decode cL_law 528 = .ok (.aload_n 0, 1) := by decide +kernel
theorem dL_law_529 : decode cL_law 529 = .ok (.iload 4, 2) := by decide +kernel
theorem dL_law_531 : decode cL_law 531 = .ok (.iconst 2, 1) := by decide +kernel
theorem dL_law_532 : decode cL_law 532 = .ok (.iadd, 1) := by decide +kernel
theorem dL_law_533 : decode cL_law 533 = .ok (.iaload, 1) := by decide +kernel
theorem dL_law_534 : decode cL_law 534 = .ok (.aload_n 3, 1) := by decide +kernel
theorem dL_law_535 : decode cL_law 535 = .ok (.invokestatic 99, 3) := by decide +kernel
theorem dL_law_538 : decode cL_law 538 = .ok (.istore 5, 2) := by decide +kernel
theorem dL_law_540 : decode cL_law 540 = .ok (.aload_n 2, 1) := by decide +kernel
theorem dL_law_541 : decode cL_law 541 = .ok (.aload_n 0, 1) := by decide +kernel
theorem dL_law_542 : decode cL_law 542 = .ok (.iload 4, 2) := by decide +kernel
theorem dL_law_544 : decode cL_law 544 = .ok (.iconst 1, 1) := by decide +kernel
theorem dL_law_545 : decode cL_law 545 = .ok (.iadd, 1) := by decide +kernel
theorem dL_law_546 : decode cL_law 546 = .ok (.iaload, 1) := by decide +kernel
theorem dL_law_547 : decode cL_law 547 = .ok (.aload_n 0, 1) := by decide +kernel
theorem dL_law_548 : decode cL_law 548 = .ok (.iload 4, 2) := by decide +kernel
theorem dL_law_550 : decode cL_law 550 = .ok (.iconst 2, 1) := by decide +kernel
theorem dL_law_551 : decode cL_law 551 = .ok (.iadd, 1) := by decide +kernel
theorem dL_law_552 : decode cL_law 552 = .ok (.iaload, 1) := by decide +kernel
theorem dL_law_553 : decode cL_law 553 = .ok (.invokevirtual 101, 3) := by decide +kernel
theorem dL_law_556 : decode cL_law 556 = .ok (.istore 6, 2) := by decide +kernel
theorem dL_law_558 : decode cL_law 558 = .ok (.aload_n 2, 1) := by decide +kernel
theorem dL_law_559 : decode cL_law 559 = .ok (.invokevirtual 71, 3) := by decide +kernel
theorem dL_law_562 : decode cL_law 562 = .ok (.iload 5, 2) := by decide +kernel
theorem dL_law_564 : decode cL_law 564 = .ok (.if_icmp .eq 5, 3) := by decide +kernel
theorem dL_law_567 : decode cL_law 567 = .ok (.iconst 0, 1) := by decide +kernel
theorem dL_law_568 : decode cL_law 568 = .ok (.ireturn, 1) := by decide +kernel
theorem dL_law_569 : decode cL_law 569 = .ok (.iload 5, 2) := by decide +kernel
theorem dL_law_571 : decode cL_law 571 = .ok (.ifCond .ne 15, 3) := by decide +kernel
theorem dL_law_574 : decode cL_law 574 = .ok (.aload_n 3, 1) := by decide +kernel
theorem dL_law_575 : decode cL_law 575 = .ok (.iconst 0, 1) := by decide +kernel
theorem dL_law_576 : decode cL_law 576 = .ok (.laload, 1) := by decide +kernel
theorem dL_law_577 : decode cL_law 577 = .ok (.iload 6, 2) := by decide +kernel
theorem dL_law_579 : decode cL_law 579 = .ok (.i2l, 1) := by decide +kernel
theorem dL_law_580 : decode cL_law 580 = .ok (.lcmp, 1) := by decide +kernel
theorem dL_law_581 : decode cL_law 581 = .ok (.ifCond .eq 5, 3) := by decide +kernel
theorem dL_law_584 : decode cL_law 584 = .ok (.iconst 0, 1) := by decide +kernel
theorem dL_law_585 : decode cL_law 585 = .ok (.ireturn, 1) := by decide +kernel
theorem dL_law_586 : decode cL_law 586 = .ok (.goto 431, 3) := by decide +kernel
theorem dL_law_589 : decode cL_law 589 = .ok (.aload_n 1, 1) := by decide +kernel
theorem dL_law_590 : decode cL_law 590 = .ok (.aload_n 0, 1) := by decide +kernel
theorem dL_law_591 : decode cL_law 591 = .ok (.iload 4, 2) := by decide +kernel
theorem dL_law_593 : decode cL_law 593 = .ok (.iconst 1, 1) := by decide +kernel
theorem dL_law_594 : decode cL_law 594 = .ok (.iadd, 1) := by decide +kernel
theorem dL_law_595 : decode cL_law 595 = .ok (.iaload, 1) := by decide +kernel
theorem dL_law_596 : decode cL_law 596 = .ok (.aload_n 3, 1) := by decide +kernel
theorem dL_law_597 : decode cL_law 597 = .ok (.invokestatic 102, 3) := by decide +kernel
theorem dL_law_600 : decode cL_law 600 = .ok (.istore 5, 2) := by decide +kernel
theorem dL_law_602 : decode cL_law 602 = .ok (.aload_n 2, 1) := by decide +kernel
theorem dL_law_603 : decode cL_law 603 = .ok (.aload_n 0, 1) := by decide +kernel
theorem dL_law_604 : decode cL_law 604 = .ok (.iload 4, 2) := by decide +kernel
theorem dL_law_606 : decode cL_law 606 = .ok (.iconst 1, 1) := by decide +kernel
theorem dL_law_607 : decode cL_law 607 = .ok (.iadd, 1) := by decide +kernel
theorem dL_law_608 : decode cL_law 608 = .ok (.iaload, 1) := by decide +kernel
theorem dL_law_609 : decode cL_law 609 = .ok (.invokevirtual 104, 3) := by decide +kernel
theorem dL_law_612 : decode cL_law 612 = .ok (.istore 6, 2) := by decide +kernel
theorem dL_law_614 : decode cL_law 614 = .ok (.aload_n 2, 1) := by decide +kernel
theorem dL_law_615 : decode cL_law 615 = .ok (.invokevirtual 71, 3) := by decide +kernel
theorem dL_law_618 : decode cL_law 618 = .ok (.iload 5, 2) := by decide +kernel
theorem dL_law_620 : decode cL_law 620 = .ok (.if_icmp .eq 5, 3) := by decide +kernel
theorem dL_law_623 : decode cL_law 623 = .ok (.iconst 0, 1) := by decide +kernel
theorem dL_law_624 : decode cL_law 624 = .ok (.ireturn, 1) := by decide +kernel
theorem dL_law_625 : decode cL_law 625 = .ok (.iload 5, 2) := by decide +kernel
theorem dL_law_627 : decode cL_law 627 = .ok (.ifCond .ne 15, 3) := by decide +kernel
theorem dL_law_630 : decode cL_law 630 = .ok (.aload_n 3, 1) := by decide +kernel
theorem dL_law_631 : decode cL_law 631 = .ok (.iconst 0, 1) := by decide +kernel
theorem dL_law_632 : decode cL_law 632 = .ok (.laload, 1) := by decide +kernel
theorem dL_law_633 : decode cL_law 633 = .ok (.iload 6, 2) := by decide +kernel
theorem dL_law_635 : decode cL_law 635 = .ok (.i2l, 1) := by decide +kernel
theorem dL_law_636 : decode cL_law 636 = .ok (.lcmp, 1) := by decide +kernel
theorem dL_law_637 : decode cL_law 637 = .ok (.ifCond .eq 5, 3) := by decide +kernel
theorem dL_law_640 : decode cL_law 640 = .ok (.iconst 0, 1) := by decide +kernel
theorem dL_law_641 : decode cL_law 641 = .ok (.ireturn, 1) := by decide +kernel
theorem dL_law_642 : decode cL_law 642 = .ok (.goto 375, 3) := by decide +kernel
theorem dL_law_645 : decode cL_law 645 = .ok (.aload_n 1, 1) := by decide +kernel
theorem dL_law_646 : decode cL_law 646 = .ok (.aload_n 0, 1) := by decide +kernel
theorem dL_law_647 : decode cL_law 647 = .ok (.iload 4, 2) := by decide +kernel
theorem dL_law_649 : decode cL_law 649 = .ok (.iconst 1, 1) := by decide +kernel
theorem dL_law_650 : decode cL_law 650 = .ok (.iadd, 1) := by decide +kernel
theorem dL_law_651 : decode cL_law 651 = .ok (.iaload, 1) := by decide +kernel
theorem dL_law_652 : decode cL_law 652 = .ok (.invokestatic 105, 3) := by decide +kernel
theorem dL_law_655 : decode cL_law 655 = .ok (.istore 5, 2) := by decide +kernel
theorem dL_law_657 : decode cL_law 657 = .ok (.aload_n 2, 1) := by decide +kernel
theorem dL_law_658 : decode cL_law 658 = .ok (.aload_n 0, 1) := by decide +kernel
theorem dL_law_659 : decode cL_law 659 = .ok (.iload 4, 2) := by decide +kernel
theorem dL_law_661 : decode cL_law 661 = .ok (.iconst 1, 1) := by decide +kernel
theorem dL_law_662 : decode cL_law 662 = .ok (.iadd, 1) := by decide +kernel
theorem dL_law_663 : decode cL_law 663 = .ok (.iaload, 1) := by decide +kernel
theorem dL_law_664 : decode cL_law 664 = .ok (.invokevirtual 108, 3) := by decide +kernel
theorem dL_law_667 : decode cL_law 667 = .ok (.aload_n 2, 1) := by decide +kernel
theorem dL_law_668 : decode cL_law 668 = .ok (.invokevirtual 71, 3) := by decide +kernel
theorem dL_law_671 : decode cL_law 671 = .ok (.iload 5, 2) := by decide +kernel
theorem dL_law_673 : decode cL_law 673 = .ok (.if_icmp .eq 5, 3) := by decide +kernel
theorem dL_law_676 : decode cL_law 676 = .ok (.iconst 0, 1) := by decide +kernel
theorem dL_law_677 : decode cL_law 677 = .ok (.ireturn, 1) := by decide +kernel
theorem dL_law_678 : decode cL_law 678 = .ok (.goto 339, 3) := by decide +kernel
theorem dL_law_681 : decode cL_law 681 = .ok (.aload_n 1, 1) := by decide +kernel
theorem dL_law_682 : decode cL_law 682 = .ok (.aload_n 0, 1) := by decide +kernel
theorem dL_law_683 : decode cL_law 683 = .ok (.iload 4, 2) := by decide +kernel
theorem dL_law_685 : decode cL_law 685 = .ok (.iconst 1, 1) := by decide +kernel
theorem dL_law_686 : decode cL_law 686 = .ok (.iadd, 1) := by decide +kernel
theorem dL_law_687 : decode cL_law 687 = .ok (.iaload, 1) := by decide +kernel
theorem dL_law_688 : decode cL_law 688 = .ok (.aload_n 0, 1) := by decide +kernel
theorem dL_law_689 : decode cL_law 689 = .ok (.iload 4, 2) := by decide +kernel
theorem dL_law_691 : decode cL_law 691 = .ok (.iconst 2, 1) := by decide +kernel
theorem dL_law_692 : decode cL_law 692 = .ok (.iadd, 1) := by decide +kernel
theorem dL_law_693 : decode cL_law 693 = .ok (.iaload, 1) := by decide +kernel
theorem dL_law_694 : decode cL_law 694 = .ok (.aload_n 0, 1) := by decide +kernel
theorem dL_law_695 : decode cL_law 695 = .ok (.iload 4, 2) := by decide +kernel
theorem dL_law_697 : decode cL_law 697 = .ok (.iconst 3, 1) := by decide +kernel
theorem dL_law_698 : decode cL_law 698 = .ok (.iadd, 1) := by decide +kernel
theorem dL_law_699 : decode cL_law 699 = .ok (.iaload, 1) := by decide +kernel
theorem dL_law_700 : decode cL_law 700 = .ok (.ifCond .eq 7, 3) := by decide +kernel
theorem dL_law_703 : decode cL_law 703 = .ok (.iconst 1, 1) := by decide +kernel
theorem dL_law_704 : decode cL_law 704 = .ok (.goto 4, 3) := by decide +kernel
theorem dL_law_707 : decode cL_law 707 = .ok (.iconst 0, 1) := by decide +kernel
theorem dL_law_708 : decode cL_law 708 = .ok (.aload_n 3, 1) := by decide +kernel
theorem dL_law_709 : decode cL_law 709 = .ok (.invokestatic 109, 3) := by decide +kernel
theorem dL_law_712 : decode cL_law 712 = .ok (.istore 5, 2) := by decide +kernel
theorem dL_law_714 : decode cL_law 714 = .ok (.aload_n 2, 1) := by decide +kernel
theorem dL_law_715 : decode cL_law 715 = .ok (.aload_n 0, 1) := by decide +kernel
theorem dL_law_716 : decode cL_law 716 = .ok (.iload 4, 2) := by decide +kernel
theorem dL_law_718 : decode cL_law 718 = .ok (.iconst 1, 1) := by decide +kernel
theorem dL_law_719 : decode cL_law 719 = .ok (.iadd, 1) := by decide +kernel
theorem dL_law_720 : decode cL_law 720 = .ok (.iaload, 1) := by decide +kernel
theorem dL_law_721 : decode cL_law 721 = .ok (.aload_n 0, 1) := by decide +kernel
theorem dL_law_722 : decode cL_law 722 = .ok (.iload 4, 2) := by decide +kernel
theorem dL_law_724 : decode cL_law 724 = .ok (.iconst 2, 1) := by decide +kernel
theorem dL_law_725 : decode cL_law 725 = .ok (.iadd, 1) := by decide +kernel
theorem dL_law_726 : decode cL_law 726 = .ok (.iaload, 1) := by decide +kernel
theorem dL_law_727 : decode cL_law 727 = .ok (.aload_n 0, 1) := by decide +kernel
theorem dL_law_728 : decode cL_law 728 = .ok (.iload 4, 2) := by decide +kernel
theorem dL_law_730 : decode cL_law 730 = .ok (.iconst 3, 1) := by decide +kernel
theorem dL_law_731 : decode cL_law 731 = .ok (.iadd, 1) := by decide +kernel
theorem dL_law_732 : decode cL_law 732 = .ok (.iaload, 1) := by decide +kernel
theorem dL_law_733 : decode cL_law 733 = .ok (.ifCond .eq 7, 3) := by decide +kernel
theorem dL_law_736 : decode cL_law 736 = .ok (.iconst 1, 1) := by decide +kernel
theorem dL_law_737 : decode cL_law 737 = .ok (.goto 4, 3) := by decide +kernel
theorem dL_law_740 : decode cL_law 740 = .ok (.iconst 0, 1) := by decide +kernel
theorem dL_law_741 : decode cL_law 741 = .ok (.invokevirtual 112, 3) := by decide +kernel
theorem dL_law_744 : decode cL_law 744 = .ok (.istore 6, 2) := by decide +kernel
theorem dL_law_746 : decode cL_law 746 = .ok (.aload_n 2, 1) := by decide +kernel
theorem dL_law_747 : decode cL_law 747 = .ok (.invokevirtual 71, 3) := by decide +kernel
theorem dL_law_750 : decode cL_law 750 = .ok (.iload 5, 2) := by decide +kernel
theorem dL_law_752 : decode cL_law 752 = .ok (.if_icmp .eq 5, 3) := by decide +kernel
theorem dL_law_755 : decode cL_law 755 = .ok (.iconst 0, 1) := by decide +kernel
theorem dL_law_756 : decode cL_law 756 = .ok (.ireturn, 1) := by decide +kernel
theorem dL_law_757 : decode cL_law 757 = .ok (.iload 5, 2) := by decide +kernel
theorem dL_law_759 : decode cL_law 759 = .ok (.ifCond .ne 15, 3) := by decide +kernel
theorem dL_law_762 : decode cL_law 762 = .ok (.aload_n 3, 1) := by decide +kernel
theorem dL_law_763 : decode cL_law 763 = .ok (.iconst 0, 1) := by decide +kernel
theorem dL_law_764 : decode cL_law 764 = .ok (.laload, 1) := by decide +kernel
theorem dL_law_765 : decode cL_law 765 = .ok (.iload 6, 2) := by decide +kernel
theorem dL_law_767 : decode cL_law 767 = .ok (.i2l, 1) := by decide +kernel
theorem dL_law_768 : decode cL_law 768 = .ok (.lcmp, 1) := by decide +kernel
theorem dL_law_769 : decode cL_law 769 = .ok (.ifCond .eq 5, 3) := by decide +kernel
theorem dL_law_772 : decode cL_law 772 = .ok (.iconst 0, 1) := by decide +kernel
theorem dL_law_773 : decode cL_law 773 = .ok (.ireturn, 1) := by decide +kernel
theorem dL_law_774 : decode cL_law 774 = .ok (.goto 243, 3) := by decide +kernel
theorem dL_law_777 : decode cL_law 777 = .ok (.aload_n 1, 1) := by decide +kernel
theorem dL_law_778 : decode cL_law 778 = .ok (.aload_n 0, 1) := by decide +kernel
theorem dL_law_779 : decode cL_law 779 = .ok (.iload 4, 2) := by decide +kernel
theorem dL_law_781 : decode cL_law 781 = .ok (.iconst 1, 1) := by decide +kernel
theorem dL_law_782 : decode cL_law 782 = .ok (.iadd, 1) := by decide +kernel
theorem dL_law_783 : decode cL_law 783 = .ok (.iaload, 1) := by decide +kernel
theorem dL_law_784 : decode cL_law 784 = .ok (.ifCond .eq 7, 3) := by decide +kernel
theorem dL_law_787 : decode cL_law 787 = .ok (.iconst 1, 1) := by decide +kernel
theorem dL_law_788 : decode cL_law 788 = .ok (.goto 4, 3) := by decide +kernel
theorem dL_law_791 : decode cL_law 791 = .ok (.iconst 0, 1) := by decide +kernel
theorem dL_law_792 : decode cL_law 792 = .ok (.aload_n 3, 1) := by decide +kernel
theorem dL_law_793 : decode cL_law 793 = .ok (.invokestatic 113, 3) := by decide +kernel
theorem dL_law_796 : decode cL_law 796 = .ok (.istore 5, 2) := by decide +kernel
theorem dL_law_798 : decode cL_law 798 = .ok (.aload_n 2, 1) := by decide +kernel
theorem dL_law_799 : decode cL_law 799 = .ok (.aload_n 0, 1) := by decide +kernel
theorem dL_law_800 : decode cL_law 800 = .ok (.iload 4, 2) := by decide +kernel
theorem dL_law_802 : decode cL_law 802 = .ok (.iconst 1, 1) := by decide +kernel
theorem dL_law_803 : decode cL_law 803 = .ok (.iadd, 1) := by decide +kernel
theorem dL_law_804 : decode cL_law 804 = .ok (.iaload, 1) := by decide +kernel
theorem dL_law_805 : decode cL_law 805 = .ok (.ifCond .eq 7, 3) := by decide +kernel
theorem dL_law_808 : decode cL_law 808 = .ok (.iconst 1, 1) := by decide +kernel
theorem dL_law_809 : decode cL_law 809 = .ok (.goto 4, 3) := by decide +kernel
theorem dL_law_812 : decode cL_law 812 = .ok (.iconst 0, 1) := by decide +kernel
theorem dL_law_813 : decode cL_law 813 = .ok (.invokevirtual 116, 3) := by decide +kernel
theorem dL_law_816 : decode cL_law 816 = .ok (.istore 6, 2) := by decide +kernel
theorem dL_law_818 : decode cL_law 818 = .ok (.aload_n 2, 1) := by decide +kernel
theorem dL_law_819 : decode cL_law 819 = .ok (.invokevirtual 71, 3) := by decide +kernel
theorem dL_law_822 : decode cL_law 822 = .ok (.iload 5, 2) := by decide +kernel
theorem dL_law_824 : decode cL_law 824 = .ok (.if_icmp .eq 5, 3) := by decide +kernel
theorem dL_law_827 : decode cL_law 827 = .ok (.iconst 0, 1) := by decide +kernel
theorem dL_law_828 : decode cL_law 828 = .ok (.ireturn, 1) := by decide +kernel
theorem dL_law_829 : decode cL_law 829 = .ok (.iload 5, 2) := by decide +kernel
theorem dL_law_831 : decode cL_law 831 = .ok (.ifCond .ne 15, 3) := by decide +kernel
theorem dL_law_834 : decode cL_law 834 = .ok (.aload_n 3, 1) := by decide +kernel
theorem dL_law_835 : decode cL_law 835 = .ok (.iconst 0, 1) := by decide +kernel
theorem dL_law_836 : decode cL_law 836 = .ok (.laload, 1) := by decide +kernel
theorem dL_law_837 : decode cL_law 837 = .ok (.iload 6, 2) := by decide +kernel
theorem dL_law_839 : decode cL_law 839 = .ok (.i2l, 1) := by decide +kernel
theorem dL_law_840 : decode cL_law 840 = .ok (.lcmp, 1) := by decide +kernel
theorem dL_law_841 : decode cL_law 841 = .ok (.ifCond .eq 5, 3) := by decide +kernel
theorem dL_law_844 : decode cL_law 844 = .ok (.iconst 0, 1) := by decide +kernel
theorem dL_law_845 : decode cL_law 845 = .ok (.ireturn, 1) := by decide +kernel
theorem dL_law_846 : decode cL_law 846 = .ok (.goto 171, 3) := by decide +kernel
theorem dL_law_849 : decode cL_law 849 = .ok (.aload_n 1, 1) := by decide +kernel
theorem dL_law_850 : decode cL_law 850 = .ok (.invokevirtual 117, 3) := by decide +kernel
theorem dL_law_853 : decode cL_law 853 = .ok (.aload_n 2, 1) := by decide +kernel
theorem dL_law_854 : decode cL_law 854 = .ok (.invokevirtual 120, 3) := by decide +kernel
theorem dL_law_857 : decode cL_law 857 = .ok (.if_icmp .eq 160, 3) := by decide +kernel
theorem dL_law_860 : decode cL_law 860 = .ok (.iconst 0, 1) := by decide +kernel
theorem dL_law_861 : decode cL_law 861 = .ok (.ireturn, 1) := by decide +kernel
theorem dL_law_862 : decode cL_law 862 = .ok (.aload_n 1, 1) := by decide +kernel
theorem dL_law_863 : decode cL_law 863 = .ok (.aload_n 0, 1) := by decide +kernel
theorem dL_law_864 : decode cL_law 864 = .ok (.iload 4, 2) := by decide +kernel
theorem dL_law_866 : decode cL_law 866 = .ok (.iconst 1, 1) := by decide +kernel
theorem dL_law_867 : decode cL_law 867 = .ok (.iadd, 1) := by decide +kernel
theorem dL_law_868 : decode cL_law 868 = .ok (.iaload, 1) := by decide +kernel
theorem dL_law_869 : decode cL_law 869 = .ok (.aload_n 0, 1) := by decide +kernel
theorem dL_law_870 : decode cL_law 870 = .ok (.iload 4, 2) := by decide +kernel
theorem dL_law_872 : decode cL_law 872 = .ok (.iconst 2, 1) := by decide +kernel
theorem dL_law_873 : decode cL_law 873 = .ok (.iadd, 1) := by decide +kernel
theorem dL_law_874 : decode cL_law 874 = .ok (.iaload, 1) := by decide +kernel
theorem dL_law_875 : decode cL_law 875 = .ok (.invokevirtual 121, 3) := by decide +kernel
theorem dL_law_878 : decode cL_law 878 = .ok (.aload_n 2, 1) := by decide +kernel
theorem dL_law_879 : decode cL_law 879 = .ok (.aload_n 0, 1) := by decide +kernel
theorem dL_law_880 : decode cL_law 880 = .ok (.iload 4, 2) := by decide +kernel
theorem dL_law_882 : decode cL_law 882 = .ok (.iconst 1, 1) := by decide +kernel
theorem dL_law_883 : decode cL_law 883 = .ok (.iadd, 1) := by decide +kernel
theorem dL_law_884 : decode cL_law 884 = .ok (.iaload, 1) := by decide +kernel
theorem dL_law_885 : decode cL_law 885 = .ok (.aload_n 0, 1) := by decide +kernel
theorem dL_law_886 : decode cL_law 886 = .ok (.iload 4, 2) := by decide +kernel
theorem dL_law_888 : decode cL_law 888 = .ok (.iconst 2, 1) := by decide +kernel
theorem dL_law_889 : decode cL_law 889 = .ok (.iadd, 1) := by decide +kernel
theorem dL_law_890 : decode cL_law 890 = .ok (.iaload, 1) := by decide +kernel
theorem dL_law_891 : decode cL_law 891 = .ok (.invokevirtual 124, 3) := by decide +kernel
theorem dL_law_894 : decode cL_law 894 = .ok (.if_icmp .eq 123, 3) := by decide +kernel
theorem dL_law_897 : decode cL_law 897 = .ok (.iconst 0, 1) := by decide +kernel
theorem dL_law_898 : decode cL_law 898 = .ok (.ireturn, 1) := by decide +kernel
theorem dL_law_899 : decode cL_law 899 = .ok (.aload_n 1, 1) := by decide +kernel
theorem dL_law_900 : decode cL_law 900 = .ok (.aload_n 0, 1) := by decide +kernel
theorem dL_law_901 : decode cL_law 901 = .ok (.iload 4, 2) := by decide +kernel
theorem dL_law_903 : decode cL_law 903 = .ok (.iconst 1, 1) := by decide +kernel
theorem dL_law_904 : decode cL_law 904 = .ok (.iadd, 1) := by decide +kernel
theorem dL_law_905 : decode cL_law 905 = .ok (.iaload, 1) := by decide +kernel
theorem dL_law_906 : decode cL_law 906 = .ok (.aload_n 0, 1) := by decide +kernel
theorem dL_law_907 : decode cL_law 907 = .ok (.iload 4, 2) := by decide +kernel
theorem dL_law_909 : decode cL_law 909 = .ok (.iconst 2, 1) := by decide +kernel
theorem dL_law_910 : decode cL_law 910 = .ok (.iadd, 1) := by decide +kernel
theorem dL_law_911 : decode cL_law 911 = .ok (.iaload, 1) := by decide +kernel
theorem dL_law_912 : decode cL_law 912 = .ok (.invokevirtual 125, 3) := by decide +kernel
theorem dL_law_915 : decode cL_law 915 = .ok (.aload_n 2, 1) := by decide +kernel
theorem dL_law_916 : decode cL_law 916 = .ok (.aload_n 0, 1) := by decide +kernel
theorem dL_law_917 : decode cL_law 917 = .ok (.iload 4, 2) := by decide +kernel
theorem dL_law_919 : decode cL_law 919 = .ok (.iconst 1, 1) := by decide +kernel
theorem dL_law_920 : decode cL_law 920 = .ok (.iadd, 1) := by decide +kernel
theorem dL_law_921 : decode cL_law 921 = .ok (.iaload, 1) := by decide +kernel
theorem dL_law_922 : decode cL_law 922 = .ok (.aload_n 0, 1) := by decide +kernel
theorem dL_law_923 : decode cL_law 923 = .ok (.iload 4, 2) := by decide +kernel
theorem dL_law_925 : decode cL_law 925 = .ok (.iconst 2, 1) := by decide +kernel
theorem dL_law_926 : decode cL_law 926 = .ok (.iadd, 1) := by decide +kernel
theorem dL_law_927 : decode cL_law 927 = .ok (.iaload, 1) := by decide +kernel
theorem dL_law_928 : decode cL_law 928 = .ok (.invokevirtual 128, 3) := by decide +kernel
theorem dL_law_931 : decode cL_law 931 = .ok (.if_icmp .eq 86, 3) := by decide +kernel
theorem dL_law_934 : decode cL_law 934 = .ok (.iconst 0, 1) := by decide +kernel
theorem dL_law_935 : decode cL_law 935 = .ok (.ireturn, 1) := by decide +kernel
theorem dL_law_936 : decode cL_law 936 = .ok (.aload_n 1, 1) := by decide +kernel
theorem dL_law_937 : decode cL_law 937 = .ok (.invokevirtual 129, 3) := by decide +kernel
theorem dL_law_940 : decode cL_law 940 = .ok (.aload_n 2, 1) := by decide +kernel
theorem dL_law_941 : decode cL_law 941 = .ok (.invokevirtual 132, 3) := by decide +kernel
theorem dL_law_944 : decode cL_law 944 = .ok (.if_icmp .eq 73, 3) := by decide +kernel
theorem dL_law_947 : decode cL_law 947 = .ok (.iconst 0, 1) := by decide +kernel
theorem dL_law_948 : decode cL_law 948 = .ok (.ireturn, 1) := by decide +kernel
theorem dL_law_949 : decode cL_law 949 = .ok (.aload_n 1, 1) := by decide +kernel
theorem dL_law_950 : decode cL_law 950 = .ok (.aload_n 0, 1) := by decide +kernel
theorem dL_law_951 : decode cL_law 951 = .ok (.iload 4, 2) := by decide +kernel
theorem dL_law_953 : decode cL_law 953 = .ok (.iconst 1, 1) := by decide +kernel
theorem dL_law_954 : decode cL_law 954 = .ok (.iadd, 1) := by decide +kernel
theorem dL_law_955 : decode cL_law 955 = .ok (.iaload, 1) := by decide +kernel
theorem dL_law_956 : decode cL_law 956 = .ok (.aload_n 0, 1) := by decide +kernel
theorem dL_law_957 : decode cL_law 957 = .ok (.iload 4, 2) := by decide +kernel
theorem dL_law_959 : decode cL_law 959 = .ok (.iconst 2, 1) := by decide +kernel
theorem dL_law_960 : decode cL_law 960 = .ok (.iadd, 1) := by decide +kernel
theorem dL_law_961 : decode cL_law 961 = .ok (.iaload, 1) := by decide +kernel
theorem dL_law_962 : decode cL_law 962 = .ok (.aload_n 3, 1) := by decide +kernel
theorem dL_law_963 : decode cL_law 963 = .ok (.invokestatic 133, 3) := by decide +kernel
theorem dL_law_966 : decode cL_law 966 = .ok (.istore 5, 2) := by decide +kernel
theorem dL_law_968 : decode cL_law 968 = .ok (.aload_n 2, 1) := by decide +kernel
theorem dL_law_969 : decode cL_law 969 = .ok (.aload_n 0, 1) := by decide +kernel
theorem dL_law_970 : decode cL_law 970 = .ok (.iload 4, 2) := by decide +kernel
theorem dL_law_972 : decode cL_law 972 = .ok (.iconst 1, 1) := by decide +kernel
theorem dL_law_973 : decode cL_law 973 = .ok (.iadd, 1) := by decide +kernel
theorem dL_law_974 : decode cL_law 974 = .ok (.iaload, 1) := by decide +kernel
theorem dL_law_975 : decode cL_law 975 = .ok (.aload_n 0, 1) := by decide +kernel
theorem dL_law_976 : decode cL_law 976 = .ok (.iload 4, 2) := by decide +kernel
theorem dL_law_978 : decode cL_law 978 = .ok (.iconst 2, 1) := by decide +kernel
theorem dL_law_979 : decode cL_law 979 = .ok (.iadd, 1) := by decide +kernel
theorem dL_law_980 : decode cL_law 980 = .ok (.iaload, 1) := by decide +kernel
theorem dL_law_981 : decode cL_law 981 = .ok (.invokevirtual 135, 3) := by decide +kernel
theorem dL_law_984 : decode cL_law 984 = .ok (.istore 6, 2) := by decide +kernel
theorem dL_law_986 : decode cL_law 986 = .ok (.aload_n 2, 1) := by decide +kernel
theorem dL_law_987 : decode cL_law 987 = .ok (.invokevirtual 71, 3) := by decide +kernel
theorem dL_law_990 : decode cL_law 990 = .ok (.iload 5, 2) := by decide +kernel
theorem dL_law_992 : decode cL_law 992 = .ok (.if_icmp .eq 5, 3) := by decide +kernel
theorem dL_law_995 : decode cL_law 995 = .ok (.iconst 0, 1) := by decide +kernel
theorem dL_law_996 : decode cL_law 996 = .ok (.ireturn, 1) := by decide +kernel
theorem dL_law_997 : decode cL_law 997 = .ok (.iload 5, 2) := by decide +kernel
theorem dL_law_999 : decode cL_law 999 = .ok (.ifCond .ne 15, 3) := by decide +kernel
theorem dL_law_1002 : decode cL_law 1002 = .ok (.aload_n 3, 1) := by decide +kernel
theorem dL_law_1003 : decode cL_law 1003 = .ok (.iconst 0, 1) := by decide +kernel
theorem dL_law_1004 : decode cL_law 1004 = .ok (.laload, 1) := by decide +kernel
theorem dL_law_1005 : decode cL_law 1005 = .ok (.iload 6, 2) := by decide +kernel
theorem dL_law_1007 : decode cL_law 1007 = .ok (.i2l, 1) := by decide +kernel
theorem dL_law_1008 : decode cL_law 1008 = .ok (.lcmp, 1) := by decide +kernel
theorem dL_law_1009 : decode cL_law 1009 = .ok (.ifCond .eq 5, 3) := by decide +kernel
theorem dL_law_1012 : decode cL_law 1012 = .ok (.iconst 0, 1) := by decide +kernel
theorem dL_law_1013 : decode cL_law 1013 = .ok (.ireturn, 1) := by decide +kernel
theorem dL_law_1014 : decode cL_law 1014 = .ok (.goto 3, 3) := by decide +kernel
theorem dL_law_1017 : decode cL_law 1017 = .ok (.iinc 4 5, 3) := by decide +kernel
theorem dL_law_1020 : decode cL_law 1020 = .ok (.goto (-997), 3) := by decide +kernel
theorem dL_law_1023 : decode cL_law 1023 = .ok (.iconst 1, 1) := by decide +kernel
theorem dL_law_1024 : decode cL_law 1024 = .ok (.ireturn, 1) := by decide +kernel
end
section
/-! OUR OWN FRAME (1): abstract values, abstract states, the picture of a heap, the judgement gG, rows for stack, locals, numbers, branches, ends.
An object has an id (kind, j, t); a state keeps what each id holds; ad gives the addresses. -/
abbrev gId : Type := Nat × Nat × Nat
abbrev gV : Type := Value ⊕ gId
abbrev gAd : Type := Nat → Nat → Nat → Nat
def gre (ad : gAd) (v : gV) : Value := match v with
  | .inl w => w
  | .inr q => .ref (ad q.1 q.2.1 q.2.2)
def gro (ad : gAd) (r : Option gId) : Option Nat := r.map (fun q => ad q.1 q.2.1 q.2.2)
def gcat (v : gV) : Nat := match v with
  | .inl w => w.category
  | .inr _ => 1
theorem gre_cat (ad : gAd) (v : gV) : (gre ad v).category = gcat v := by
  rcases v with w | q <;> rfl
abbrev vI (x : Int32) : gV := .inl (.int x)
abbrev vL (x : Int64) : gV := .inl (.long x)
abbrev vR (k j t : Nat) : gV := .inr (k, j, t)
abbrev vN : gV := .inl .null
/-- fields of numbers (field, j, t); fields of references; rows of ints (kind, j, place), of longs, of references; the ids that live -/
abbrev gS : Type := (Nat → Nat → Nat → Int32) × (Nat → Nat → Nat → Option gId) × (Nat → Nat → Nat → Int32) × (Nat → Nat → Nat → Int64) × (Nat → Nat → Nat → Option gId) × List gId
def fI (S : gS) : Nat → Nat → Nat → Int32 := S.1
def fR (S : gS) : Nat → Nat → Nat → Option gId := S.2.1
def aI (S : gS) : Nat → Nat → Nat → Int32 := S.2.2.1
def aL (S : gS) : Nat → Nat → Nat → Int64 := S.2.2.2.1
def aR (S : gS) : Nat → Nat → Nat → Option gId := S.2.2.2.2.1
def gL (S : gS) : List gId := S.2.2.2.2.2
def lv (S : gS) (k j t : Nat) : Prop := (k, j, t) ∈ gL S
def up3 {α : Type} (f : Nat → Nat → Nat → α) (k j t : Nat) (v : α) : Nat → Nat → Nat → α := fun k' j' t' => if k' = k ∧ j' = j ∧ t' = t then v else f k' j' t'
def sfI (S : gS) (g j t : Nat) (v : Int32) : gS := (up3 (fI S) g j t v, S.2)
def sfR (S : gS) (g j t : Nat) (v : Option gId) : gS := (S.1, up3 (fR S) g j t v, S.2.2)
def saI (S : gS) (k j i : Nat) (v : Int32) : gS := (S.1, S.2.1, up3 (aI S) k j i v, S.2.2.2)
def saL (S : gS) (k j i : Nat) (v : Int64) : gS := (S.1, S.2.1, S.2.2.1, up3 (aL S) k j i v, S.2.2.2.2)
def saR (S : gS) (k j i : Nat) (v : Option gId) : gS := (S.1, S.2.1, S.2.2.1, S.2.2.2.1, up3 (aR S) k j i v, S.2.2.2.2.2)
/-- a new id: its fields and rows hold zero and null -/
def snew (S : gS) (k j t : Nat) : gS := (fun g' j' t' => if g' / 32 = k ∧ j' = j ∧ t' = t then 0 else fI S g' j' t', fun g' j' t' => if g' / 32 = k ∧ j' = j ∧ t' = t then none else fR S g' j' t', fun k' j' i' => if k' = k ∧ j' = j then 0 else aI S k' j' i', fun k' j' i' => if k' = k ∧ j' = j then 0 else aL S k' j' i', fun k' j' i' => if k' = k ∧ j' = j then none else aR S k' j' i', gL S ++ [(k, j, t)])
/-- how many fields an object of a kind has -/
def gnF (k : Nat) : Nat := [4, 2, 7, 2, 6, 6, 2, 10, 28].getD k 0
/-- which fields hold references: number 32 * kind + place -/
def gisR (g : Nat) : Bool := [32, 65, 66, 96, 128, 129, 192, 224, 225, 226, 227, 262, 265, 266, 267, 268, 269, 270, 271, 272, 273, 274, 275, 276, 277, 278, 280].contains g
/-- the element type of the rows of a kind: 1 int, 2 char, 3 boolean, 4 long, 5 Job, 6 Task -/
def gaT (k : Nat) : Nat := [0, 0, 0, 0, 0, 0, 0, 0, 0, 0, 2, 4, 4, 1, 5, 6, 4, 0, 0, 0, 1, 1, 1, 1, 1, 3, 1, 1, 3, 1, 1, 1, 1, 1, 1, 1].getD k 0
def gaN (k : Nat) : Nat := [0, 0, 0, 0, 0, 0, 0, 0, 0, 0, 60, 5, 5, 256, 6, 6, 1, 0, 0, 0, 60, 366, 30, 6, 6, 6, 6, 6, 6, 36, 36, 36, 36, 36, 36, 256].getD k 0
def gfv (S : gS) (ad : gAd) (g j t : Nat) : Value := if gisR g = true then va_rf (gro ad (fR S g j t)) else .int (fI S g j t)
def gcO (S : gS) (ad : gAd) (k j t : Nat) : List Value := (List.range (gnF k)).map (fun i => gfv S ad (32 * k + i) j t)
def gcA (cy : Nat → ClassId) (S : gS) (ad : gAd) (k j : Nat) : va_E :=
  if gaT k = 4 then .inl (cy 4, gaN k, .inr (.inl (aL S k j)))
  else if 5 ≤ gaT k then .inl (cy (gaT k), gaN k, .inr (.inr (.inr (.inr (fun i => gro ad (aR S k j i))))))
  else .inl (cy (gaT k), gaN k, .inl (aI S k j))
def gcell (cy : Nat → ClassId) (S : gS) (ad : gAd) (q : gId) : va_E := if q.1 < 9 then .inr (q.1, gcO S ad q.1 q.2.1 q.2.2) else gcA cy S ad q.1 q.2.1
def gad (ad : gAd) (q : gId) : Nat := ad q.1 q.2.1 q.2.2
def gws (cy : Nat → ClassId) (S : gS) (ad : gAd) : va_W := (gL S).map (fun q => (gad ad q, gcell cy S ad q))
/-- the launch, the classes' numbers, their fields' places, the array classes, the static arrays' addresses, the first address that is ours -/
abbrev gE : Type := Launch × (Nat → ClassId) × (Nat → Nat → Nat) × (Nat → ClassId) × (Nat → Nat) × Nat
def eD (E : gE) : va_G := (E.2.1, E.2.2.1)
def eC (E : gE) : Nat → ClassId := E.2.2.2.1
def eA (E : gE) : Nat → Nat := E.2.2.2.2.1
def eF (E : gE) : Nat → Prop := fun q => E.2.2.2.2.2 ≤ q
def eT (E : gE) : List (ClassId × FieldType) := [(eC E 1, .int), (eC E 2, .char), (eC E 3, .boolean), (eC E 4, .long), (eC E 5, .object RX2), (eC E 6, .object RX5)]
/-- an id of the kinds of arrays has a third number 0 (so that a row has one id); references of living things live -/
def gOk (S : gS) : Prop := (∀ q ∈ gL S, 9 ≤ q.1 → q.2.2 = 0) ∧ (∀ q ∈ gL S, ∀ (i : Nat) (r : gId), i < 32 → fR S (32 * q.1 + i) q.2.1 q.2.2 = some r → r ∈ gL S) ∧ ∀ q ∈ gL S, ∀ (i : Nat) (r : gId), aR S q.1 q.2.1 i = some r → r ∈ gL S
def gRep (E : gE) (S : gS) (ad : gAd) (H : Heap) : Prop := va_P (eD E) vwCl (gws (eC E) S ad) H ∧ va_D (eF E) (gws (eC E) S ad) ∧ gOk S
theorem gws_at {cy : Nat → ClassId} {S : gS} {ad : gAd} {q : gId} (h : q ∈ gL S) : ∃ i : Nat, (gL S)[i]? = some q ∧ (gws cy S ad)[i]? = some (gad ad q, gcell cy S ad q) := by
  obtain ⟨i, hi⟩ := List.getElem?_of_mem h
  exact ⟨i, hi, by rw [gws, List.getElem?_map, hi]; rfl⟩
theorem gws_inj {cy : Nat → ClassId} {S : gS} {ad : gAd} {A : Nat → Prop} (hD : va_D A (gws cy S ad)) {q r : gId} (hq : q ∈ gL S) (hr : r ∈ gL S) (e : gad ad q = gad ad r) : q = r := by
  obtain ⟨i, h1, h2⟩ := gws_at (cy := cy) (ad := ad) hq
  obtain ⟨j, h3, h4⟩ := gws_at (cy := cy) (ad := ad) hr
  have := hD.1 i j _ _ h2 h4 e
  subst this
  exact Option.some.inj (h1.symm.trans h3)
/-- one id's cell changed -/
theorem gws_set {cy : Nat → ClassId} {S S' : gS} {ad : gAd} {A : Nat → Prop} (hD : va_D A (gws cy S ad)) {q : gId} {i : Nat} (hi : (gL S)[i]? = some q) {e : va_E} (hL : gL S' = gL S) (he : gcell cy S' ad q = e) (ho : ∀ r ∈ gL S, r ≠ q → gcell cy S' ad r = gcell cy S ad r) : (gws cy S ad).set i (gad ad q, e) = gws cy S' ad := by
  apply List.ext_getElem?
  intro k
  have hlen : i < (gws cy S ad).length := by rw [gws, List.length_map]; exact (List.getElem?_eq_some_iff.mp hi).1
  by_cases hk : k = i
  · subst hk
    rw [List.getElem?_set_self hlen, gws, List.getElem?_map, hL, hi]
    simp [he]
  · rw [List.getElem?_set_ne (Ne.symm hk)]
    simp only [gws, List.getElem?_map, hL]
    cases hr : (gL S)[k]? with
    | none => rfl
    | some r =>
      have hne : r ≠ q := by
        intro z
        subst z
        have h1 : (gws cy S ad)[k]? = some (gad ad r, gcell cy S ad r) := by rw [gws, List.getElem?_map, hr]; rfl
        have h2 : (gws cy S ad)[i]? = some (gad ad r, gcell cy S ad r) := by rw [gws, List.getElem?_map, hi]; rfl
        exact hk (hD.1 k i _ _ h1 h2 rfl)
      simp [ho r (List.mem_of_getElem? hr) hne]
/-! locals -/
def glo (ad : gAd) : Nat → List (Option gV) → List (Nat × Value)
  | _, [] => []
  | i, none :: r => glo ad (i + 1) r
  | i, some v :: r => (i, gre ad v) :: glo ad (i + 1) r
theorem glo_mem {ad : gAd} : ∀ (ls : List (Option gV)) (i : Nat) (q : Nat × Value), q ∈ glo ad i ls ↔ ∃ (k : Nat) (v : gV), ls[k]? = some (some v) ∧ q = (i + k, gre ad v)
  | [], i, q => by simp [glo]
  | none :: r, i, q => by
    rw [glo, glo_mem r (i + 1) q]
    constructor
    · rintro ⟨k, v, h1, h2⟩
      exact ⟨k + 1, v, by simpa using h1, by rw [h2]; congr 1; omega⟩
    · rintro ⟨k, v, h1, h2⟩
      cases k with
      | zero => simp at h1
      | succ k => exact ⟨k, v, by simpa using h1, by rw [h2]; congr 1; omega⟩
  | some v :: r, i, q => by
    rw [glo, List.mem_cons, glo_mem r (i + 1) q]
    constructor
    · rintro (h | ⟨k, w, h1, h2⟩)
      · exact ⟨0, v, rfl, h⟩
      · exact ⟨k + 1, w, by simpa using h1, by rw [h2]; congr 1; omega⟩
    · rintro ⟨k, w, h1, h2⟩
      cases k with
      | zero =>
        simp at h1
        subst h1
        exact Or.inl h2
      | succ k => exact Or.inr ⟨k, w, by simpa using h1, by rw [h2]; congr 1; omega⟩
theorem glo_ld {ad : gAd} {lsr : Array Slot} {n : Nat} {ls : List (Option gV)} (h : lv_has lsr n (glo ad 0 ls)) {k : Nat} {v : gV} (hk : ls[k]? = some (some v)) : lsr[k]? = some (.val (gre ad v)) :=
  h.2.2 (k, gre ad v) ((glo_mem ls 0 _).mpr ⟨k, v, hk, by rw [Nat.zero_add]⟩)
/-- a store at k doesn't cut a long in two -/
def gsok (ls : List (Option gV)) : Nat → Bool
  | 0 => true
  | k + 1 => match ls[k]? with
    | some (some v) => gcat v != 2
    | _ => true
theorem glo_st {ad : gAd} {lsr : Array Slot} {n : Nat} {ls : List (Option gV)} {k : Nat} {v : gV} (hk : gsok ls k = true) (h : lv_has lsr n ((k, gre ad v) :: (glo ad 0 ls).filter (fun q => !(q.1 == k) && !(q.1 + 1 == k && q.2.category == 2)))) : lv_has lsr n (glo ad 0 (ls.set k (some v))) := by
  refine ⟨h.1, h.2.1, fun q hq => ?_⟩
  obtain ⟨i, w, h1, h2⟩ := (glo_mem _ 0 q).mp hq
  rw [Nat.zero_add] at h2
  subst h2
  refine h.2.2 _ ?_
  by_cases hi : i = k
  · subst hi
    have hl : i < (ls.set i (some v)).length := (List.getElem?_eq_some_iff.mp h1).1
    rw [List.length_set] at hl
    rw [List.getElem?_set_self hl] at h1
    cases h1
    exact List.mem_cons_self
  · rw [List.getElem?_set_ne (Ne.symm hi)] at h1
    refine List.mem_cons_of_mem _ (List.mem_filter.mpr ⟨(glo_mem ls 0 _).mpr ⟨i, w, h1, by rw [Nat.zero_add]⟩, ?_⟩)
    simp only [Bool.and_eq_true, Bool.not_eq_true', beq_eq_false_iff_ne, ne_eq, Bool.and_eq_false_iff]
    refine ⟨hi, ?_⟩
    by_cases hj : i + 1 = k
    · subst hj
      right
      simp only [gsok, h1] at hk
      rw [gre_cat]
      simpa using hk
    · exact Or.inl hj
/-- what a method's locals are at its entry -/
def gargs : List gV → List (Option gV)
  | [] => []
  | v :: r => if gcat v = 2 then some v :: none :: gargs r else some v :: gargs r
theorem glo_args {ad : gAd} : ∀ (vs : List gV) (i : Nat), lv_args i (vs.map (gre ad)) = glo ad i (gargs vs)
  | [], i => rfl
  | v :: r, i => by
    rw [List.map_cons, lv_args, glo_args r, gargs, gre_cat]
    by_cases h : gcat v = 2
    · rw [if_pos h, if_pos h]; rfl
    · rw [if_neg h, if_neg h]; rfl
theorem glo_pad {ad : gAd} : ∀ (ls : List (Option gV)) (i n : Nat), glo ad i (ls ++ List.replicate n none) = glo ad i ls
  | [], i, 0 => rfl
  | [], i, n + 1 => by
    have := glo_pad (ad := ad) [] (i + 1) n
    simpa [List.replicate_succ, glo] using this
  | none :: r, i, n => by simpa [glo] using glo_pad (ad := ad) r (i + 1) n
  | some v :: r, i, n => by simpa [glo] using glo_pad (ad := ad) r (i + 1) n
theorem gargs_len : ∀ (vs : List gV) (ad : gAd), (lg_sl (vs.map (gre ad))).length = (gargs vs).length
  | [], _ => rfl
  | v :: r, ad => by
    have h := gargs_len r ad
    simp only [lg_sl, List.map_cons, List.flatMap_cons, List.length_append] at h ⊢
    rw [gre_cat, gargs]
    by_cases hc : gcat v = 2
    · rw [if_pos hc, if_pos hc]; simp [h]; omega
    · rw [if_neg hc, if_neg hc]; simp [h]; omega
/-! what the tables give -/
def lwG : List Cond := lw_tbl.filter goodWord
def gnw (w : Cond) : Bool := match w with
  | .fieldLinkNest .. => true
  | .methodLinkNest .. => true
  | .castable .. => true
  | .declares _ => true
  | _ => false
def lwN : List Cond := lw_tbl.filter gnw
theorem lwN_warm {s U : State} (hW : s.WarmedH U.vm) {w : Cond} (hg : gnw w = true) (h : va_Nw w s) : va_Nw w U := by
  cases w <;> first | exact va_Nw.warmF hW h | exact va_Nw.warmM hW h | exact va_Nw.warmC hW h | exact va_Nw.warmD hW h | (simp [gnw] at hg)
theorem lwN_tab {w : Cond} (hg : gnw w = true) : w.onTables = true := by
  cases w <;> first | rfl | (simp [gnw] at hg)
def gtab (i : Nat) : List Int32 := [[0, 0, 1, 1, 0], [59, 23, 31, 12, 7], [31, 28, 31, 30, 31, 30, 31, 31, 30, 31, 30, 31]].getD i []
def gZT (E : gE) (i : Nat) (C n : String) (U : State) (H : Heap) : Prop := va_Z C n "[I" (.ref (eA E i)) (eF E) U H ∧ va_T .int (eA E i) (gtab i).length (fun j => .int ((gtab i).getD j 0)) (eF E) U H
/-- what stands at every state -/
def gKS (E : gE) (U : State) (H : Heap) : Prop := va_K (eD E) vwCl (eT E) U ∧ (gZT E 0 RX7 "FIELD_LOWEST" U H ∧ gZT E 1 RX7 "FIELD_HIGHEST" U H ∧ gZT E 2 RX0 "MONTH_DAYS" U H) ∧ (vx_Zq Bundle.tN "UNASSIGNED_STACK" Bundle.steD (eF E) U H ∧ vx_Zq Bundle.tN "SUPPRESSED_SENTINEL" Bundle.listD (eF E) U H) ∧ (va_AO RX2 U ∧ va_AO RX5 U) ∧ (∀ w ∈ lwN, va_Nw w U) ∧ E.1.stackTraces = false ∧ E.2.2.2.2.2 ≤ H.size
theorem gZT.go {E : gE} {i : Nat} {C n : String} {s U : State} {H H1 : Heap} (h : gZT E i C n s H) (hW : s.vm.Alike U.vm) (hk : ∀ a : Nat, a < H.size → ¬ eF E a → H1[a]? = H[a]?) : gZT E i C n U H1 := ⟨(h.1.kept hk).moved hW, (h.2.kept hk).moved hW⟩
theorem gKS.go {E : gE} {s U : State} {H H1 : Heap} (h : gKS E s H) (hW : s.WarmedH U.vm) (hz : H.size ≤ H1.size) (hk : ∀ a : Nat, a < H.size → ¬ eF E a → H1[a]? = H[a]?) : gKS E U H1 := by
  obtain ⟨h1, ⟨h2, h3, h4⟩, ⟨h5, h6⟩, ⟨h7, h8⟩, h9, h10, h11⟩ := h
  exact ⟨h1.moved hW.alike, ⟨h2.go hW.alike hk, h3.go hW.alike hk, h4.go hW.alike hk⟩, ⟨(h5.kept hk).moved hW.alike, (h6.kept hk).moved hW.alike⟩, ⟨h7.moved hW.alike, h8.moved hW.alike⟩, fun w hw => lwN_warm hW (List.mem_filter.mp hw).2 (h9 w hw), h10, Nat.le_trans h11 hz⟩
theorem gKS.calling {E : gE} {U : State} {H : Heap} (h : gKS E U H) (g : JFrame) (mk : MethodId) (a : Array Value) : gKS E (U.calling g mk a) H := by
  obtain ⟨h1, ⟨h2, h3, h4⟩, ⟨h5, h6⟩, ⟨h7, h8⟩, h9, h10, h11⟩ := h
  have hA : U.vm.Alike (U.calling g mk a).vm := Vm.Alike.refl U.vm
  have hk : ∀ q : Nat, q < H.size → ¬ eF E q → H[q]? = H[q]? := fun _ _ _ => rfl
  exact ⟨h1.moved hA, ⟨h2.go hA hk, h3.go hA hk, h4.go hA hk⟩, ⟨h5.moved hA, h6.moved hA⟩, ⟨h7.moved hA, h8.moved hA⟩, fun w hw => va_Nw.same (u := U) (U := U.calling g mk a) (lwN_tab (List.mem_filter.mp hw).2) rfl (h9 w hw), h10, h11⟩
end
section
/-! OUR OWN FRAME (2): methods, contracts, the judgement gG -/
/-- a method: name, bytes, locals, answer -/
abbrev gM : Type := MethodName × ByteArray × Nat × Option FieldType
def gMws (M : gM) : List Cond := .code M.1 M.2.1 M.2.2.1 M.2.2.2 :: lwG
def gRm (d mc ms : Nat) : Room := { frames := d, cells := mc, slots := ms, locals := 28 * d }
/-- ids that a call may make: Nw; off them the addresses stay -/
def gAg (ad ad' : gAd) (Nw : List gId) : Prop := ∀ q : gId, q ∉ Nw → gad ad' q = gad ad q
theorem gAg.rf {ad : gAd} {Nw : List gId} : gAg ad ad Nw := fun _ _ => rfl
theorem gAg.tr {ad ad' ad2 : gAd} {Nw : List gId} (h : gAg ad ad' Nw) (h2 : gAg ad' ad2 Nw) : gAg ad ad2 Nw := fun q hq => (h2 q hq).trans (h q hq)
theorem gAg.mono {ad ad' : gAd} {N1 N2 : List gId} (h : gAg ad ad' N1) (hs : ∀ q ∈ N1, q ∈ N2) : gAg ad ad' N2 := fun q hq => h q (fun z => hq (hs q z))
/-- values that no new id stands in -/
def gNo (Nw : List gId) (v : gV) : Prop := match v with
  | .inl _ => True
  | .inr q => q ∉ Nw
theorem gAg.re {ad ad' : gAd} {Nw : List gId} (h : gAg ad ad' Nw) {v : gV} (hv : gNo Nw v) : gre ad' v = gre ad v := by
  rcases v with w | q
  · rfl
  · exact congrArg Value.ref (h q hv)
theorem gAg.st {ad ad' : gAd} {Nw : List gId} (h : gAg ad ad' Nw) {st : List gV} (hv : ∀ v ∈ st, gNo Nw v) : st.map (gre ad') = st.map (gre ad) := List.map_congr_left fun v hm => h.re (hv v hm)
theorem gAg.ls {ad ad' : gAd} {Nw : List gId} (h : gAg ad ad' Nw) : ∀ {ls : List (Option gV)} (i : Nat), (∀ v, some v ∈ ls → gNo Nw v) → glo ad' i ls = glo ad i ls
  | [], _, _ => rfl
  | none :: r, i, hv => by rw [glo, glo, h.ls (ls := r) (i + 1) (fun v hm => hv v (List.mem_cons_of_mem _ hm))]
  | some v :: r, i, hv => by rw [glo, glo, h.re (hv v List.mem_cons_self), h.ls (ls := r) (i + 1) (fun v hm => hv v (List.mem_cons_of_mem _ hm))]
def gPc (E : gE) (as : List gV) (S : gS) (ad : gAd) : Array Value → State → Prop := fun a U => a = (as.map (gre ad)).toArray ∧ gRep E S ad U.heap ∧ gKS E U U.heap
def gQc (E : gE) (ad : gAd) (Nw : List gId) (Q : Option gV → gS → Prop) : Array Value → State → Outcome → State → Prop := fun _ st o t =>
  (∃ (r : Option gV) (S' : gS) (ad' : gAd), o = .returned (r.map (gre ad')) ∧ Q r S' ∧ gRep E S' ad' t.heap ∧ gAg ad ad' Nw) ∧ va_F (eF E) st t
theorem gPc_blind (E : gE) (as : List gV) (S : gS) (ad : gAd) : FrameBlind (gPc E as S ad) := fun a U g mk h => ⟨h.1, h.2.1, h.2.2.calling g mk a⟩
/-- CONTRACT: the method, called with as at S, returns with Q of its answer and its state; depth d, at most mc cells of ms slots are new, of the ids Nw -/
def gRun (E : gE) (M : gM) (d mc ms : Nat) (as : List gV) (S : gS) (Nw : List gId) (Q : Option gV → gS → Prop) : Prop :=
  ∀ ad : gAd, Met E.1 M.1 (gMws M) (gRm d mc ms) (gPc E as S ad) (gQc E ad Nw Q) mc ms (eF E)
/-- what a throwing method says of its throws: the class, the state -/
def gXc (E : gE) (ad : gAd) (Nw : List gId) (X : String → gS → Prop) : String → State → State → Prop := fun En st t =>
  (∃ (S' : gS) (ad' : gAd), X En S' ∧ gRep E S' ad' t.heap ∧ gAg ad ad' Nw) ∧ va_F (eF E) st t
def gRunX (E : gE) (M : gM) (d mc ms : Nat) (as : List gV) (S : gS) (Nw : List gId) (Q : Option gV → gS → Prop) (X : String → gS → Prop) : Prop :=
  ∀ ad : gAd, vx_Met E.1 M.1 (gMws M) (gRm d mc ms) (gPc E as S ad) (gQc E ad Nw Q) (gXc E ad Nw X) mc ms (eF E)
/-- a body's frame: its room, its cells and slots, the addresses at its entry, its new ids, what it owes -/
abbrev gB : Type := Room × Nat × Nat × gAd × List gId × (Option gV → gS → Prop)
def bR (B : gB) : Room := B.1
def bC (B : gB) : Nat := B.2.1
def bS (B : gB) : Nat := B.2.2.1
def bA (B : gB) : gAd := B.2.2.2.1
def bN (B : gB) : List gId := B.2.2.2.2.1
def bQ (B : gB) : Option gV → gS → Prop := B.2.2.2.2.2
/-- the method's frame: the machine, the bytes, the tables -/
def gCx (E : gE) (M : gM) (B : gB) (p : Program) (s : State) (m : MethodId) (args : Array Value) (meth : Method) (c : Code) : Prop :=
  p.tables.exec = Jvm.exec ∧ c.code = M.2.1 ∧ meth.sig.returnType = M.2.2.2 ∧ c.maxLocals = M.2.2.1 ∧ s.vm.findClass M.1.cls = some m.cls ∧ meth.locks = false ∧ (M.1.name = "<init>" → meth.name = "<init>") ∧ (∀ w ∈ lwG, w.before args s = true) ∧ gKS E s s.heap ∧ bC B ≤ (bR B).cells ∧ bS B ≤ (bR B).slots
/-- what the end of the body gives -/
def gEnd (E : gE) (M : gM) (B : gB) (p : Program) (e : Env) (s : State) (m : MethodId) (args : Array Value) (below : List Frame) (meth : Method) (c : Code) (QS : State → Prop) : Prop :=
  ∀ (pc : Nat) (ls : Array Slot) (H : Heap) (locs : List Loc) (ad : gAd) (S : gS) (cs sl : Nat), cs ≤ bC B → sl ≤ bS B → va_S (eF E) s.heap H locs → gRep E S ad H → gAg (bA B) ad (bN B) →
  (∀ x : Int32, decode M.2.1 pc = .ok (.ireturn, 1) → (∃ ty, M.2.2.2 = some ty ∧ narrow ty (.int x) = .int x) → bQ B (some (vI x)) S → W p E.1 e (bR B) s m args below meth c H locs cs sl QS (F0 m pc ls [.int x])) ∧
  (decode M.2.1 pc = .ok (.return_, 1) → M.2.2.2 = none → bQ B none S → W p E.1 e (bR B) s m args below meth c H locs cs sl QS (F0 m pc ls [])) ∧
  (∀ q : gId, decode M.2.1 pc = .ok (.areturn, 1) → (∃ n, M.2.2.2 = some (.object n)) → bQ B (some (.inr q)) S → W p E.1 e (bR B) s m args below meth c H locs cs sl QS (F0 m pc ls [.ref (gad ad q)]))
/-- THE JUDGEMENT: from pc, with these locals, this stack, this state, the body comes to its end -/
def gG (E : gE) (M : gM) (B : gB) (pc : Nat) (ls : List (Option gV)) (st : List gV) (S : gS) (cs sl : Nat) : Prop :=
  ∀ (p : Program) (e : Env) (s : State) (m : MethodId) (args : Array Value) (below : List Frame) (meth : Method) (c : Code) (QS : State → Prop), gCx E M B p s m args meth c → gEnd E M B p e s m args below meth c QS →
  ∀ (H : Heap) (locs : List Loc) (ad : gAd) (lsr : Array Slot), lv_has lsr M.2.2.1 (glo ad 0 ls) → va_S (eF E) s.heap H locs → gRep E S ad H → gAg (bA B) ad (bN B) → W p E.1 e (bR B) s m args below meth c H locs cs sl QS (F0 m pc lsr (st.map (gre ad)))
def gBof (d mc ms : Nat) (ad : gAd) (Nw : List gId) (Q : Option gV → gS → Prop) : gB := (gRm d mc ms, mc, ms, ad, Nw, Q)
theorem gEnd_of {E : gE} {M : gM} {B : gB} {p : Program} {e : Env} {s : State} {m : MethodId} {args : Array Value} {below : List Frame} {meth : Method} {c : Code} (hC : gCx E M B p s m args meth c) : gEnd E M B p e s m args below meth c (MQ below (gQc E (bA B) (bN B) (bQ B)) args s (bC B) (bS B) (eF E)) := by
  obtain ⟨hx, hb, hr, hml, hown, hlocks, hin, hts, hK, hcc, hss⟩ := hC
  intro pc ls H locs ad S cs sl h1 h2 hS hR hA
  refine ⟨fun x hd hn hq => ?_, fun hd hn hq => ?_, fun q hd hn hq => ?_⟩
  · obtain ⟨ty, e1, e2⟩ := hn
    refine W.widen (k := bC B) (n := bS B) h1 h2 ?_
    exact W.zret (ty := ty) hx hb (hr.trans e1) e2 (fun t ht hW => ⟨⟨some (vI x), S, ad, rfl, hq, by rw [ht]; exact hR, hA⟩, hS.F ht⟩) hS.2.2 hd hlocks
  · refine W.widen (k := bC B) (n := bS B) h1 h2 ?_
    exact W.vret hx hb (hr.trans hn) (fun t ht hW => ⟨⟨none, S, ad, rfl, hq, by rw [ht]; exact hR, hA⟩, hS.F ht⟩) hS.2.2 hd hlocks
  · obtain ⟨n, e1⟩ := hn
    refine W.widen (k := bC B) (n := bS B) h1 h2 ?_
    exact W.aret (rt := .object n) hx hb (hr.trans e1) (Or.inl ⟨n, rfl⟩) (Or.inr ⟨_, rfl⟩) (fun t ht hW => ⟨⟨some (.inr q), S, ad, rfl, hq, by rw [ht]; exact hR, hA⟩, hS.F ht⟩) hS.2.2 hd hlocks
/-- a contract out of the body's judgement -/
theorem gRun_of {E : gE} {M : gM} {d mc ms : Nat} {as : List gV} {S : gS} {Nw : List gId} {Q : Option gV → gS → Prop} {ls : List (Option gV)} (hy : plainName M.1.cls = true) (hn : (gargs as).length ≤ M.2.2.1) (hls : gargs as ++ List.replicate (M.2.2.1 - (gargs as).length) none = ls)
    (h : ∀ ad : gAd, gG E M (gBof d mc ms ad Nw Q) 0 ls [] S 0 0) : gRun E M d mc ms as S Nw Q := by
  intro ad
  refine Met.ofW (cc := M.2.1) (maxL := M.2.2.1) (ret := M.2.2.2) hy rfl ?_
  intro p e s m args below meth c s₁ B hml hv
  obtain ⟨rfl, hR, hK⟩ := hv
  have hts := atoms_spec (ws := gMws M) B.pre
  have hCx : gCx E M (gBof d mc ms ad Nw Q) p s m (as.map (gre ad)).toArray meth c := ⟨B.exec, B.bytes, B.returns, hml, findClass_of_methodNamed B.named, B.notSynchronized, fun z => (name_of_methodNamed B.named B.method).1.trans z, fun w hw => hts w (List.mem_cons_of_mem _ hw), hK, Nat.le_refl _, Nat.le_refl _⟩
  have hl := lv_entry (as.map (gre ad)) (n := M.2.2.1) (by rw [gargs_len as ad]; exact hn)
  rw [lg_entry_eq]
  refine h ad p e s m _ below meth c _ hCx (gEnd_of hCx) s.heap [] ad _ ?_ va_S.rf hR gAg.rf
  rw [← hls, glo_pad, ← glo_args]
  exact hl
theorem gRun.mono {E : gE} {M : gM} {d mc ms : Nat} {as : List gV} {S : gS} {Nw : List gId} {Q Q' : Option gV → gS → Prop} (h : gRun E M d mc ms as S Nw Q) (hq : ∀ r S', Q r S' → Q' r S') : gRun E M d mc ms as S Nw Q' := by
  intro ad p e ha hc hk s m args below hf happ hpc ht
  obtain ⟨t, o, h1, h2, h3, h4, h5⟩ := h ad p e ha hc hk s m args below hf happ hpc ht
  obtain ⟨⟨r, S', ad', e1, e2, e3, e4⟩, e5⟩ := h4
  exact ⟨t, o, h1, h2, h3, ⟨⟨r, S', ad', e1, hq r S' e2, e3, e4⟩, e5⟩, h5⟩
section GR
variable {E : gE} {M : gM} {B : gB} {pc pc' : Nat} {ls : List (Option gV)} {st : List gV} {S : gS} {cs sl : Nat}
theorem gG.eqS {S' : gS} (e : S = S') (h : gG E M B pc ls st S' cs sl) : gG E M B pc ls st S cs sl := e ▸ h
theorem g_iconst {n : Int} {v : Int32} (d : decode M.2.1 pc = .ok (.iconst n, 1)) (e : pc + 1 = pc') (hv : Int32.ofInt n = v) (h : gG E M B pc' ls (vI v :: st) S cs sl) : gG E M B pc ls st S cs sl := by
  subst e
  intro p e s m args below meth c QS hC hE H locs ad lsr hl hS hR hA
  exact lv_iconst hC.1 hC.2.1 d hv (h p e s m args below meth c QS hC hE H locs ad lsr hl hS hR hA)
theorem g_bipush {n : Int} {v : Int32} (d : decode M.2.1 pc = .ok (.bipush n, 2)) (e : pc + 2 = pc') (hv : (Int8.ofInt n).toInt32 = v) (h : gG E M B pc' ls (vI v :: st) S cs sl) : gG E M B pc ls st S cs sl := by
  subst e
  intro p e s m args below meth c QS hC hE H locs ad lsr hl hS hR hA
  exact lv_bipush hC.1 hC.2.1 d hv (h p e s m args below meth c QS hC hE H locs ad lsr hl hS hR hA)
theorem g_sipush {n : Int} {v : Int32} (d : decode M.2.1 pc = .ok (.sipush n, 3)) (e : pc + 3 = pc') (hv : (Int16.ofInt n).toInt32 = v) (h : gG E M B pc' ls (vI v :: st) S cs sl) : gG E M B pc ls st S cs sl := by
  subst e
  intro p e s m args below meth c QS hC hE H locs ad lsr hl hS hR hA
  exact lv_sipush hC.1 hC.2.1 d hv (h p e s m args below meth c QS hC hE H locs ad lsr hl hS hR hA)
theorem g_lconst {n : Fin 2} {v : Int64} (d : decode M.2.1 pc = .ok (.lconst n, 1)) (e : pc + 1 = pc') (hv : Int64.ofNat (n : Nat) = v) (h : gG E M B pc' ls (vL v :: st) S cs sl) : gG E M B pc ls st S cs sl := by
  subst e
  intro p e s m args below meth c QS hC hE H locs ad lsr hl hS hR hA
  exact lv_lconst hC.1 hC.2.1 d hv (h p e s m args below meth c QS hC hE H locs ad lsr hl hS hR hA)
theorem g_ldc {i : Nat} {v : Int32} (d : decode M.2.1 pc = .ok (.ldc i, 2)) (e : pc + 2 = pc') (hw : Cond.constant M.1.cls i v ∈ lwG) (h : gG E M B pc' ls (vI v :: st) S cs sl) : gG E M B pc ls st S cs sl := by
  subst e
  intro p e s m args below meth c QS hC hE H locs ad lsr hl hS hR hA
  exact lv_ldc hC.1 hC.2.1 hC.2.2.2.2.1 (hC.2.2.2.2.2.2.2.1 _ hw) d (h p e s m args below meth c QS hC hE H locs ad lsr hl hS hR hA)
theorem g_ldc2 {i : Nat} {v : Int64} (d : decode M.2.1 pc = .ok (.ldc2_w i, 3)) (e : pc + 3 = pc') (hw : Cond.constantLong M.1.cls i v ∈ lwG) (h : gG E M B pc' ls (vL v :: st) S cs sl) : gG E M B pc ls st S cs sl := by
  subst e
  intro p e s m args below meth c QS hC hE H locs ad lsr hl hS hR hA
  exact lv_ldc2 hC.1 hC.2.1 hC.2.2.2.2.1 (hC.2.2.2.2.2.2.2.1 _ hw) d (h p e s m args below meth c QS hC hE H locs ad lsr hl hS hR hA)
theorem g_iadd {x y : Int32} (d : decode M.2.1 pc = .ok (.iadd, 1)) (e : pc + 1 = pc') (h : gG E M B pc' ls (vI (x + y) :: st) S cs sl) : gG E M B pc ls (vI y :: vI x :: st) S cs sl := by
  subst e
  intro p e s m args below meth c QS hC hE H locs ad lsr hl hS hR hA
  exact lv_iadd hC.1 hC.2.1 d (h p e s m args below meth c QS hC hE H locs ad lsr hl hS hR hA)
theorem g_isub {x y : Int32} (d : decode M.2.1 pc = .ok (.isub, 1)) (e : pc + 1 = pc') (h : gG E M B pc' ls (vI (x - y) :: st) S cs sl) : gG E M B pc ls (vI y :: vI x :: st) S cs sl := by
  subst e
  intro p e s m args below meth c QS hC hE H locs ad lsr hl hS hR hA
  exact lv_isub hC.1 hC.2.1 d (h p e s m args below meth c QS hC hE H locs ad lsr hl hS hR hA)
theorem g_imul {x y : Int32} (d : decode M.2.1 pc = .ok (.imul, 1)) (e : pc + 1 = pc') (h : gG E M B pc' ls (vI (x * y) :: st) S cs sl) : gG E M B pc ls (vI y :: vI x :: st) S cs sl := by
  subst e
  intro p e s m args below meth c QS hC hE H locs ad lsr hl hS hR hA
  exact lv_imul hC.1 hC.2.1 d (h p e s m args below meth c QS hC hE H locs ad lsr hl hS hR hA)
theorem g_iand {x y : Int32} (d : decode M.2.1 pc = .ok (.iand, 1)) (e : pc + 1 = pc') (h : gG E M B pc' ls (vI (x &&& y) :: st) S cs sl) : gG E M B pc ls (vI y :: vI x :: st) S cs sl := by
  subst e
  intro p e s m args below meth c QS hC hE H locs ad lsr hl hS hR hA
  exact lv_iand hC.1 hC.2.1 d (h p e s m args below meth c QS hC hE H locs ad lsr hl hS hR hA)
theorem g_ior {x y : Int32} (d : decode M.2.1 pc = .ok (.ior, 1)) (e : pc + 1 = pc') (h : gG E M B pc' ls (vI (x ||| y) :: st) S cs sl) : gG E M B pc ls (vI y :: vI x :: st) S cs sl := by
  subst e
  intro p e s m args below meth c QS hC hE H locs ad lsr hl hS hR hA
  exact lv_ior hC.1 hC.2.1 d (h p e s m args below meth c QS hC hE H locs ad lsr hl hS hR hA)
theorem g_ixor {x y : Int32} (d : decode M.2.1 pc = .ok (.ixor, 1)) (e : pc + 1 = pc') (h : gG E M B pc' ls (vI (x ^^^ y) :: st) S cs sl) : gG E M B pc ls (vI y :: vI x :: st) S cs sl := by
  subst e
  intro p e s m args below meth c QS hC hE H locs ad lsr hl hS hR hA
  exact lv_ixor hC.1 hC.2.1 d (h p e s m args below meth c QS hC hE H locs ad lsr hl hS hR hA)
theorem g_ishl {x y : Int32} (d : decode M.2.1 pc = .ok (.ishl, 1)) (e : pc + 1 = pc') (h : gG E M B pc' ls (vI (x <<< (y &&& 31)) :: st) S cs sl) : gG E M B pc ls (vI y :: vI x :: st) S cs sl := by
  subst e
  intro p e s m args below meth c QS hC hE H locs ad lsr hl hS hR hA
  exact lv_ishl hC.1 hC.2.1 d (h p e s m args below meth c QS hC hE H locs ad lsr hl hS hR hA)
theorem g_ishr {x y : Int32} (d : decode M.2.1 pc = .ok (.ishr, 1)) (e : pc + 1 = pc') (h : gG E M B pc' ls (vI (x >>> (y &&& 31)) :: st) S cs sl) : gG E M B pc ls (vI y :: vI x :: st) S cs sl := by
  subst e
  intro p e s m args below meth c QS hC hE H locs ad lsr hl hS hR hA
  exact lv_ishr hC.1 hC.2.1 d (h p e s m args below meth c QS hC hE H locs ad lsr hl hS hR hA)
theorem g_idiv {x y : Int32} (d : decode M.2.1 pc = .ok (.idiv, 1)) (e : pc + 1 = pc') (hy : ¬ y = 0) (h : gG E M B pc' ls (vI (x / y) :: st) S cs sl) : gG E M B pc ls (vI y :: vI x :: st) S cs sl := by
  subst e
  intro p e s m args below meth c QS hC hE H locs ad lsr hl hS hR hA
  exact lv_idiv hC.1 hC.2.1 d hy (h p e s m args below meth c QS hC hE H locs ad lsr hl hS hR hA)
theorem g_irem {x y : Int32} (d : decode M.2.1 pc = .ok (.irem, 1)) (e : pc + 1 = pc') (hy : ¬ y = 0) (h : gG E M B pc' ls (vI (x % y) :: st) S cs sl) : gG E M B pc ls (vI y :: vI x :: st) S cs sl := by
  subst e
  intro p e s m args below meth c QS hC hE H locs ad lsr hl hS hR hA
  refine lv_irem hC.1 hC.2.1 d hy ?_
  rw [irem_eq_mod]
  exact h p e s m args below meth c QS hC hE H locs ad lsr hl hS hR hA
theorem g_land {x y : Int64} (d : decode M.2.1 pc = .ok (.land, 1)) (e : pc + 1 = pc') (h : gG E M B pc' ls (vL (x &&& y) :: st) S cs sl) : gG E M B pc ls (vL y :: vL x :: st) S cs sl := by
  subst e
  intro p e s m args below meth c QS hC hE H locs ad lsr hl hS hR hA
  exact lv_land hC.1 hC.2.1 d (h p e s m args below meth c QS hC hE H locs ad lsr hl hS hR hA)
theorem g_lor {x y : Int64} (d : decode M.2.1 pc = .ok (.lor, 1)) (e : pc + 1 = pc') (h : gG E M B pc' ls (vL (x ||| y) :: st) S cs sl) : gG E M B pc ls (vL y :: vL x :: st) S cs sl := by
  subst e
  intro p e s m args below meth c QS hC hE H locs ad lsr hl hS hR hA
  exact lv_lor hC.1 hC.2.1 d (h p e s m args below meth c QS hC hE H locs ad lsr hl hS hR hA)
theorem g_lcmp {x y : Int64} (d : decode M.2.1 pc = .ok (.lcmp, 1)) (e : pc + 1 = pc') (h : gG E M B pc' ls (vI (lg_cmp x y) :: st) S cs sl) : gG E M B pc ls (vL y :: vL x :: st) S cs sl := by
  subst e
  intro p e s m args below meth c QS hC hE H locs ad lsr hl hS hR hA
  exact W.lcmp hC.1 hC.2.1 d (h p e s m args below meth c QS hC hE H locs ad lsr hl hS hR hA)
theorem g_i2l {x : Int32} (d : decode M.2.1 pc = .ok (.i2l, 1)) (e : pc + 1 = pc') (h : gG E M B pc' ls (vL (x.toInt64) :: st) S cs sl) : gG E M B pc ls (vI x :: st) S cs sl := by
  subst e
  intro p e s m args below meth c QS hC hE H locs ad lsr hl hS hR hA
  exact lv_i2l hC.1 hC.2.1 d rfl (h p e s m args below meth c QS hC hE H locs ad lsr hl hS hR hA)
theorem g_l2i {x : Int64} (d : decode M.2.1 pc = .ok (.l2i, 1)) (e : pc + 1 = pc') (h : gG E M B pc' ls (vI (x.toInt32) :: st) S cs sl) : gG E M B pc ls (vL x :: st) S cs sl := by
  subst e
  intro p e s m args below meth c QS hC hE H locs ad lsr hl hS hR hA
  exact lv_l2i hC.1 hC.2.1 d rfl (h p e s m args below meth c QS hC hE H locs ad lsr hl hS hR hA)
theorem g_i2c {x : Int32} (d : decode M.2.1 pc = .ok (.i2c, 1)) (e : pc + 1 = pc') (h : gG E M B pc' ls (vI ((x.toUInt32 % 65536).toInt32) :: st) S cs sl) : gG E M B pc ls (vI x :: st) S cs sl := by
  subst e
  intro p e s m args below meth c QS hC hE H locs ad lsr hl hS hR hA
  exact lv_i2c hC.1 hC.2.1 d rfl (h p e s m args below meth c QS hC hE H locs ad lsr hl hS hR hA)
theorem g_lshl {x : Int64} {y : Int32} (d : decode M.2.1 pc = .ok (.lshl, 1)) (e : pc + 1 = pc') (h : gG E M B pc' ls (vL (x <<< (y.toInt64 &&& 63)) :: st) S cs sl) : gG E M B pc ls (vI y :: vL x :: st) S cs sl := by
  subst e
  intro p e s m args below meth c QS hC hE H locs ad lsr hl hS hR hA
  exact lv_lshl hC.1 hC.2.1 d rfl (h p e s m args below meth c QS hC hE H locs ad lsr hl hS hR hA)
theorem g_lshr {x : Int64} {y : Int32} (d : decode M.2.1 pc = .ok (.lshr, 1)) (e : pc + 1 = pc') (h : gG E M B pc' ls (vL (x >>> (y.toInt64 &&& 63)) :: st) S cs sl) : gG E M B pc ls (vI y :: vL x :: st) S cs sl := by
  subst e
  intro p e s m args below meth c QS hC hE H locs ad lsr hl hS hR hA
  exact lv_lshr hC.1 hC.2.1 d rfl (h p e s m args below meth c QS hC hE H locs ad lsr hl hS hR hA)
theorem g_lushr {x : Int64} {y : Int32} (d : decode M.2.1 pc = .ok (.lushr, 1)) (e : pc + 1 = pc') (h : gG E M B pc' ls (vL ((x.toUInt64 >>> (y.toInt64.toUInt64 &&& Int64.toUInt64 63)).toInt64) :: st) S cs sl) : gG E M B pc ls (vI y :: vL x :: st) S cs sl := by
  subst e
  intro p e s m args below meth c QS hC hE H locs ad lsr hl hS hR hA
  exact lv_lushr hC.1 hC.2.1 d rfl (h p e s m args below meth c QS hC hE H locs ad lsr hl hS hR hA)
theorem g_iload_n {k : Fin 4} {x : Int32} (d : decode M.2.1 pc = .ok (.iload_n k, 1)) (e : pc + 1 = pc') (hx : ls[(k : Nat)]? = some (some (vI x))) (h : gG E M B pc' ls (vI x :: st) S cs sl) : gG E M B pc ls st S cs sl := by
  subst e
  intro p e s m args below meth c QS hC hE H locs ad lsr hl hS hR hA
  exact lv_iload_n hC.1 hC.2.1 d rfl (glo_ld hl hx) (h p e s m args below meth c QS hC hE H locs ad lsr hl hS hR hA)
theorem g_iload {k : Nat} {x : Int32} (d : decode M.2.1 pc = .ok (.iload k, 2)) (e : pc + 2 = pc') (hx : ls[k]? = some (some (vI x))) (h : gG E M B pc' ls (vI x :: st) S cs sl) : gG E M B pc ls st S cs sl := by
  subst e
  intro p e s m args below meth c QS hC hE H locs ad lsr hl hS hR hA
  exact lv_iload hC.1 hC.2.1 d (glo_ld hl hx) (h p e s m args below meth c QS hC hE H locs ad lsr hl hS hR hA)
theorem g_lload_n {k : Fin 4} {x : Int64} (d : decode M.2.1 pc = .ok (.lload_n k, 1)) (e : pc + 1 = pc') (hx : ls[(k : Nat)]? = some (some (vL x))) (h : gG E M B pc' ls (vL x :: st) S cs sl) : gG E M B pc ls st S cs sl := by
  subst e
  intro p e s m args below meth c QS hC hE H locs ad lsr hl hS hR hA
  exact lv_lload_n hC.1 hC.2.1 d rfl (glo_ld hl hx) (h p e s m args below meth c QS hC hE H locs ad lsr hl hS hR hA)
theorem g_aload_n {k : Fin 4} {q : gId} (d : decode M.2.1 pc = .ok (.aload_n k, 1)) (e : pc + 1 = pc') (hx : ls[(k : Nat)]? = some (some (.inr q))) (h : gG E M B pc' ls (.inr q :: st) S cs sl) : gG E M B pc ls st S cs sl := by
  subst e
  intro p e s m args below meth c QS hC hE H locs ad lsr hl hS hR hA
  exact lv_aload_n hC.1 hC.2.1 d rfl (glo_ld hl hx) (h p e s m args below meth c QS hC hE H locs ad lsr hl hS hR hA)
theorem g_aload {k : Nat} {q : gId} (d : decode M.2.1 pc = .ok (.aload k, 2)) (e : pc + 2 = pc') (hx : ls[k]? = some (some (.inr q))) (h : gG E M B pc' ls (.inr q :: st) S cs sl) : gG E M B pc ls st S cs sl := by
  subst e
  intro p e s m args below meth c QS hC hE H locs ad lsr hl hS hR hA
  exact lv_aload hC.1 hC.2.1 d (glo_ld hl hx) (h p e s m args below meth c QS hC hE H locs ad lsr hl hS hR hA)
theorem g_aload_raw {k : Fin 4} {x : Nat} (d : decode M.2.1 pc = .ok (.aload_n k, 1)) (e : pc + 1 = pc') (hx : ls[(k : Nat)]? = some (some (.inl (.ref x)))) (h : gG E M B pc' ls (.inl (.ref x) :: st) S cs sl) : gG E M B pc ls st S cs sl := by
  subst e
  intro p e s m args below meth c QS hC hE H locs ad lsr hl hS hR hA
  exact lv_aload_n hC.1 hC.2.1 d rfl (glo_ld hl hx) (h p e s m args below meth c QS hC hE H locs ad lsr hl hS hR hA)
theorem g_istore_n {k : Fin 4} {x : Int32} (d : decode M.2.1 pc = .ok (.istore_n k, 1)) (e : pc + 1 = pc') (hn : (k : Nat) < M.2.2.1) (hk : gsok ls (k : Nat) = true) (h : gG E M B pc' (ls.set (k : Nat) (some (vI x))) st S cs sl) : gG E M B pc ls (vI x :: st) S cs sl := by
  subst e
  intro p e s m args below meth c QS hC hE H locs ad lsr hl hS hR hA
  exact lv_istore_n hC.1 hC.2.1 d rfl hl hn rfl (fun ls' hl' => h p e s m args below meth c QS hC hE H locs ad ls' (glo_st hk hl') hS hR hA)
theorem g_istore {k : Nat} {x : Int32} (d : decode M.2.1 pc = .ok (.istore k, 2)) (e : pc + 2 = pc') (hn : k < M.2.2.1) (hk : gsok ls k = true) (h : gG E M B pc' (ls.set k (some (vI x))) st S cs sl) : gG E M B pc ls (vI x :: st) S cs sl := by
  subst e
  intro p e s m args below meth c QS hC hE H locs ad lsr hl hS hR hA
  exact lv_istore hC.1 hC.2.1 d hl hn rfl (fun ls' hl' => h p e s m args below meth c QS hC hE H locs ad ls' (glo_st hk hl') hS hR hA)
theorem g_astore_n {k : Fin 4} {q : gId} (d : decode M.2.1 pc = .ok (.astore_n k, 1)) (e : pc + 1 = pc') (hn : (k : Nat) < M.2.2.1) (hk : gsok ls (k : Nat) = true) (h : gG E M B pc' (ls.set (k : Nat) (some (.inr q))) st S cs sl) : gG E M B pc ls (.inr q :: st) S cs sl := by
  subst e
  intro p e s m args below meth c QS hC hE H locs ad lsr hl hS hR hA
  exact lv_astore_n hC.1 hC.2.1 d rfl hl hn rfl (fun ls' hl' => h p e s m args below meth c QS hC hE H locs ad ls' (glo_st (v := .inr q) hk hl') hS hR hA)
theorem g_astore {k : Nat} {q : gId} (d : decode M.2.1 pc = .ok (.astore k, 2)) (e : pc + 2 = pc') (hn : k < M.2.2.1) (hk : gsok ls k = true) (h : gG E M B pc' (ls.set k (some (.inr q))) st S cs sl) : gG E M B pc ls (.inr q :: st) S cs sl := by
  subst e
  intro p e s m args below meth c QS hC hE H locs ad lsr hl hS hR hA
  exact lv_astore hC.1 hC.2.1 d hl hn rfl (fun ls' hl' => h p e s m args below meth c QS hC hE H locs ad ls' (glo_st (v := .inr q) hk hl') hS hR hA)
theorem g_iinc {k : Nat} {n : Int} {x v : Int32} (d : decode M.2.1 pc = .ok (.iinc k n, 3)) (e : pc + 3 = pc') (hx : ls[k]? = some (some (vI x))) (hv : x + Int32.ofInt n = v) (hn : k < M.2.2.1) (hk : gsok ls k = true) (h : gG E M B pc' (ls.set k (some (vI v))) st S cs sl) : gG E M B pc ls st S cs sl := by
  subst e
  intro p e s m args below meth c QS hC hE H locs ad lsr hl hS hR hA
  obtain ⟨i, hi⟩ := List.getElem?_of_mem ((glo_mem (ad := ad) ls 0 (k, .int x)).mpr ⟨k, vI x, hx, by rw [Nat.zero_add]; rfl⟩)
  exact lv_iinc hC.1 hC.2.1 d hl hi hv hn rfl (fun ls' hl' => h p e s m args below meth c QS hC hE H locs ad ls' (glo_st hk hl') hS hR hA)
theorem g_dup {v : gV} (d : decode M.2.1 pc = .ok (.dup, 1)) (e : pc + 1 = pc') (hv : gcat v = 1) (h : gG E M B pc' ls (v :: v :: st) S cs sl) : gG E M B pc ls (v :: st) S cs sl := by
  subst e
  intro p e s m args below meth c QS hC hE H locs ad lsr hl hS hR hA
  exact lv_dup hC.1 hC.2.1 d ((gre_cat ad v).trans hv) (h p e s m args below meth c QS hC hE H locs ad lsr hl hS hR hA)
theorem g_dup_x1 {v w : gV} (d : decode M.2.1 pc = .ok (.dup_x1, 1)) (e : pc + 1 = pc') (hv : gcat v = 1) (hw : gcat w = 1) (h : gG E M B pc' ls (v :: w :: v :: st) S cs sl) : gG E M B pc ls (v :: w :: st) S cs sl := by
  subst e
  intro p e s m args below meth c QS hC hE H locs ad lsr hl hS hR hA
  exact lv_dup_x1 hC.1 hC.2.1 d ((gre_cat ad v).trans hv) ((gre_cat ad w).trans hw) (h p e s m args below meth c QS hC hE H locs ad lsr hl hS hR hA)
theorem g_dup2 {v w : gV} (d : decode M.2.1 pc = .ok (.dup2, 1)) (e : pc + 1 = pc') (hv : gcat v = 1) (hw : gcat w = 1) (h : gG E M B pc' ls (v :: w :: v :: w :: st) S cs sl) : gG E M B pc ls (v :: w :: st) S cs sl := by
  subst e
  intro p e s m args below meth c QS hC hE H locs ad lsr hl hS hR hA
  exact lv_dup2_11 hC.1 hC.2.1 d ((gre_cat ad v).trans hv) ((gre_cat ad w).trans hw) (h p e s m args below meth c QS hC hE H locs ad lsr hl hS hR hA)
theorem g_goto {off : Int} (d : decode M.2.1 pc = .ok (.goto off, 3)) (e : (pc : Int) + off = (pc' : Int)) (h : gG E M B pc' ls st S cs sl) : gG E M B pc ls st S cs sl := by
  intro p e' s m args below meth c QS hC hE H locs ad lsr hl hS hR hA
  exact lv_goto hC.1 hC.2.1 d e (h p e' s m args below meth c QS hC hE H locs ad lsr hl hS hR hA)
theorem g_if_eq {x : Int32} {off : Int} {tg : Nat} (d : decode M.2.1 pc = .ok (.ifCond .eq off, 3)) (e : (pc : Int) + off = (tg : Int)) (e2 : pc + 3 = pc') (ht : x = 0 → gG E M B tg ls st S cs sl) (hf : ¬ (x = 0) → gG E M B pc' ls st S cs sl) : gG E M B pc ls (vI x :: st) S cs sl := by
  subst e2
  intro p e' s m args below meth c QS hC hE H locs ad lsr hl hS hR hA
  exact lv_if_eq hC.1 hC.2.1 d e (fun z => ht z p e' s m args below meth c QS hC hE H locs ad lsr hl hS hR hA) (fun z => hf z p e' s m args below meth c QS hC hE H locs ad lsr hl hS hR hA)
theorem g_icmp_eq {x y : Int32} {off : Int} {tg : Nat} (d : decode M.2.1 pc = .ok (.if_icmp .eq off, 3)) (e : (pc : Int) + off = (tg : Int)) (e2 : pc + 3 = pc') (ht : x = y → gG E M B tg ls st S cs sl) (hf : ¬ (x = y) → gG E M B pc' ls st S cs sl) : gG E M B pc ls (vI y :: vI x :: st) S cs sl := by
  subst e2
  intro p e' s m args below meth c QS hC hE H locs ad lsr hl hS hR hA
  exact lv_icmp_eq hC.1 hC.2.1 d e (fun z => ht z p e' s m args below meth c QS hC hE H locs ad lsr hl hS hR hA) (fun z => hf z p e' s m args below meth c QS hC hE H locs ad lsr hl hS hR hA)
theorem g_if_ne {x : Int32} {off : Int} {tg : Nat} (d : decode M.2.1 pc = .ok (.ifCond .ne off, 3)) (e : (pc : Int) + off = (tg : Int)) (e2 : pc + 3 = pc') (ht : ¬ x = 0 → gG E M B tg ls st S cs sl) (hf : x = 0 → gG E M B pc' ls st S cs sl) : gG E M B pc ls (vI x :: st) S cs sl := by
  subst e2
  intro p e' s m args below meth c QS hC hE H locs ad lsr hl hS hR hA
  exact lv_if_ne hC.1 hC.2.1 d e (fun z => ht z p e' s m args below meth c QS hC hE H locs ad lsr hl hS hR hA) (fun z => hf z p e' s m args below meth c QS hC hE H locs ad lsr hl hS hR hA)
theorem g_icmp_ne {x y : Int32} {off : Int} {tg : Nat} (d : decode M.2.1 pc = .ok (.if_icmp .ne off, 3)) (e : (pc : Int) + off = (tg : Int)) (e2 : pc + 3 = pc') (ht : ¬ x = y → gG E M B tg ls st S cs sl) (hf : x = y → gG E M B pc' ls st S cs sl) : gG E M B pc ls (vI y :: vI x :: st) S cs sl := by
  subst e2
  intro p e' s m args below meth c QS hC hE H locs ad lsr hl hS hR hA
  exact lv_icmp_ne hC.1 hC.2.1 d e (fun z => ht z p e' s m args below meth c QS hC hE H locs ad lsr hl hS hR hA) (fun z => hf z p e' s m args below meth c QS hC hE H locs ad lsr hl hS hR hA)
theorem g_if_lt {x : Int32} {off : Int} {tg : Nat} (d : decode M.2.1 pc = .ok (.ifCond .lt off, 3)) (e : (pc : Int) + off = (tg : Int)) (e2 : pc + 3 = pc') (ht : x < 0 → gG E M B tg ls st S cs sl) (hf : ¬ (x < 0) → gG E M B pc' ls st S cs sl) : gG E M B pc ls (vI x :: st) S cs sl := by
  subst e2
  intro p e' s m args below meth c QS hC hE H locs ad lsr hl hS hR hA
  exact lv_if_lt hC.1 hC.2.1 d e (fun z => ht z p e' s m args below meth c QS hC hE H locs ad lsr hl hS hR hA) (fun z => hf z p e' s m args below meth c QS hC hE H locs ad lsr hl hS hR hA)
theorem g_icmp_lt {x y : Int32} {off : Int} {tg : Nat} (d : decode M.2.1 pc = .ok (.if_icmp .lt off, 3)) (e : (pc : Int) + off = (tg : Int)) (e2 : pc + 3 = pc') (ht : x < y → gG E M B tg ls st S cs sl) (hf : ¬ (x < y) → gG E M B pc' ls st S cs sl) : gG E M B pc ls (vI y :: vI x :: st) S cs sl := by
  subst e2
  intro p e' s m args below meth c QS hC hE H locs ad lsr hl hS hR hA
  exact lv_icmp_lt hC.1 hC.2.1 d e (fun z => ht z p e' s m args below meth c QS hC hE H locs ad lsr hl hS hR hA) (fun z => hf z p e' s m args below meth c QS hC hE H locs ad lsr hl hS hR hA)
theorem g_if_ge {x : Int32} {off : Int} {tg : Nat} (d : decode M.2.1 pc = .ok (.ifCond .ge off, 3)) (e : (pc : Int) + off = (tg : Int)) (e2 : pc + 3 = pc') (ht : 0 ≤ x → gG E M B tg ls st S cs sl) (hf : ¬ (0 ≤ x) → gG E M B pc' ls st S cs sl) : gG E M B pc ls (vI x :: st) S cs sl := by
  subst e2
  intro p e' s m args below meth c QS hC hE H locs ad lsr hl hS hR hA
  exact lv_if_ge hC.1 hC.2.1 d e (fun z => ht z p e' s m args below meth c QS hC hE H locs ad lsr hl hS hR hA) (fun z => hf z p e' s m args below meth c QS hC hE H locs ad lsr hl hS hR hA)
theorem g_icmp_ge {x y : Int32} {off : Int} {tg : Nat} (d : decode M.2.1 pc = .ok (.if_icmp .ge off, 3)) (e : (pc : Int) + off = (tg : Int)) (e2 : pc + 3 = pc') (ht : y ≤ x → gG E M B tg ls st S cs sl) (hf : ¬ (y ≤ x) → gG E M B pc' ls st S cs sl) : gG E M B pc ls (vI y :: vI x :: st) S cs sl := by
  subst e2
  intro p e' s m args below meth c QS hC hE H locs ad lsr hl hS hR hA
  exact lv_icmp_ge hC.1 hC.2.1 d e (fun z => ht z p e' s m args below meth c QS hC hE H locs ad lsr hl hS hR hA) (fun z => hf z p e' s m args below meth c QS hC hE H locs ad lsr hl hS hR hA)
theorem g_if_gt {x : Int32} {off : Int} {tg : Nat} (d : decode M.2.1 pc = .ok (.ifCond .gt off, 3)) (e : (pc : Int) + off = (tg : Int)) (e2 : pc + 3 = pc') (ht : 0 < x → gG E M B tg ls st S cs sl) (hf : ¬ (0 < x) → gG E M B pc' ls st S cs sl) : gG E M B pc ls (vI x :: st) S cs sl := by
  subst e2
  intro p e' s m args below meth c QS hC hE H locs ad lsr hl hS hR hA
  exact lv_if_gt hC.1 hC.2.1 d e (fun z => ht z p e' s m args below meth c QS hC hE H locs ad lsr hl hS hR hA) (fun z => hf z p e' s m args below meth c QS hC hE H locs ad lsr hl hS hR hA)
theorem g_icmp_gt {x y : Int32} {off : Int} {tg : Nat} (d : decode M.2.1 pc = .ok (.if_icmp .gt off, 3)) (e : (pc : Int) + off = (tg : Int)) (e2 : pc + 3 = pc') (ht : y < x → gG E M B tg ls st S cs sl) (hf : ¬ (y < x) → gG E M B pc' ls st S cs sl) : gG E M B pc ls (vI y :: vI x :: st) S cs sl := by
  subst e2
  intro p e' s m args below meth c QS hC hE H locs ad lsr hl hS hR hA
  exact lv_icmp_gt hC.1 hC.2.1 d e (fun z => ht z p e' s m args below meth c QS hC hE H locs ad lsr hl hS hR hA) (fun z => hf z p e' s m args below meth c QS hC hE H locs ad lsr hl hS hR hA)
theorem g_if_le {x : Int32} {off : Int} {tg : Nat} (d : decode M.2.1 pc = .ok (.ifCond .le off, 3)) (e : (pc : Int) + off = (tg : Int)) (e2 : pc + 3 = pc') (ht : x ≤ 0 → gG E M B tg ls st S cs sl) (hf : ¬ (x ≤ 0) → gG E M B pc' ls st S cs sl) : gG E M B pc ls (vI x :: st) S cs sl := by
  subst e2
  intro p e' s m args below meth c QS hC hE H locs ad lsr hl hS hR hA
  exact lv_if_le hC.1 hC.2.1 d e (fun z => ht z p e' s m args below meth c QS hC hE H locs ad lsr hl hS hR hA) (fun z => hf z p e' s m args below meth c QS hC hE H locs ad lsr hl hS hR hA)
theorem g_icmp_le {x y : Int32} {off : Int} {tg : Nat} (d : decode M.2.1 pc = .ok (.if_icmp .le off, 3)) (e : (pc : Int) + off = (tg : Int)) (e2 : pc + 3 = pc') (ht : x ≤ y → gG E M B tg ls st S cs sl) (hf : ¬ (x ≤ y) → gG E M B pc' ls st S cs sl) : gG E M B pc ls (vI y :: vI x :: st) S cs sl := by
  subst e2
  intro p e' s m args below meth c QS hC hE H locs ad lsr hl hS hR hA
  exact lv_icmp_le hC.1 hC.2.1 d e (fun z => ht z p e' s m args below meth c QS hC hE H locs ad lsr hl hS hR hA) (fun z => hf z p e' s m args below meth c QS hC hE H locs ad lsr hl hS hR hA)
theorem g_iret {x : Int32} {ty : FieldType} (d : decode M.2.1 pc = .ok (.ireturn, 1)) (hr : M.2.2.2 = some ty) (hn : narrow ty (.int x) = .int x) (h1 : cs ≤ bC B) (h2 : sl ≤ bS B) (h : bQ B (some (vI x)) S) : gG E M B pc ls [vI x] S cs sl := by
  intro p e s m args below meth c QS hC hE H locs ad lsr hl hS hR hA
  exact (hE pc lsr H locs ad S cs sl h1 h2 hS hR hA).1 x d ⟨ty, hr, hn⟩ h
theorem g_vret (d : decode M.2.1 pc = .ok (.return_, 1)) (hr : M.2.2.2 = none) (h1 : cs ≤ bC B) (h2 : sl ≤ bS B) (h : bQ B none S) : gG E M B pc ls [] S cs sl := by
  intro p e s m args below meth c QS hC hE H locs ad lsr hl hS hR hA
  exact (hE pc lsr H locs ad S cs sl h1 h2 hS hR hA).2.1 d hr h
theorem g_aret {q : gId} {n : String} (d : decode M.2.1 pc = .ok (.areturn, 1)) (hr : M.2.2.2 = some (.object n)) (h1 : cs ≤ bC B) (h2 : sl ≤ bS B) (h : bQ B (some (.inr q)) S) : gG E M B pc ls [.inr q] S cs sl := by
  intro p e s m args below meth c QS hC hE H locs ad lsr hl hS hR hA
  exact (hE pc lsr H locs ad S cs sl h1 h2 hS hR hA).2.2 q d ⟨n, hr⟩ h
end GR
end
section
/-! OUR OWN FRAME (3): fields, rows, new things -/
theorem gaN_lt (k : Nat) : gaN k < 2 ^ 31 := by
  unfold gaN
  rcases Nat.lt_or_ge k 36 with h | h
  · exact (by decide : ∀ k, k < 36 → ([0, 0, 0, 0, 0, 0, 0, 0, 0, 0, 60, 5, 5, 256, 6, 6, 1, 0, 0, 0, 60, 366, 30, 6, 6, 6, 6, 6, 6, 36, 36, 36, 36, 36, 36, 256] : List Nat).getD k 0 < 2 ^ 31) k h
  · rw [List.getD_eq_getElem?_getD, List.getElem?_eq_none (by simpa using h)]
    exact (by decide : (none : Option Nat).getD 0 < 2 ^ 31)
theorem gnF_le (k : Nat) : gnF k ≤ 28 := by
  unfold gnF
  rcases Nat.lt_or_ge k 9 with h | h
  · exact (by decide : ∀ k, k < 9 → ([4, 2, 7, 2, 6, 6, 2, 10, 28] : List Nat).getD k 0 ≤ 28) k h
  · rw [List.getD_eq_getElem?_getD, List.getElem?_eq_none (by simpa using h)]
    exact (by decide : (none : Option Nat).getD 0 ≤ 28)
/-- what the tables say of a class of ours: its kind, name, fields -/
def gCF (k : Nat) (C : String) (T : u_T) (N : Nat) (ty : Nat → FieldType) : Prop := k < 9 ∧ vwCl[k]? = some (C, T, N) ∧ (∀ w ∈ u_ws C T N, w ∈ lwG) ∧ (∀ x, x < N → parseFieldDescriptor (T x).2.2.1 = some (ty x)) ∧ (∀ a, a < N → ∀ b, b < N → a ≠ b → (T a).2.1 ≠ (T b).2.1) ∧ gnF k = N ∧ (∀ x, x < N → defaultValue (ty x) = if gisR (32 * k + x) = true then .null else .int 0) ∧ (∀ x, x < N → (T x).1 = C)
theorem gcO_at {S : gS} {ad : gAd} {k j t i : Nat} (hi : i < gnF k) : (gcO S ad k j t)[i]? = some (gfv S ad (32 * k + i) j t) := by
  simp [gcO, hi]
theorem gcO_len {S : gS} {ad : gAd} {k j t : Nat} : (gcO S ad k j t).length = gnF k := by simp [gcO]
theorem gcell_O {cy : Nat → ClassId} {S : gS} {ad : gAd} {k j t : Nat} (h : k < 9) : gcell cy S ad (k, j, t) = .inr (k, gcO S ad k j t) := by
  show (if k < 9 then _ else _) = _
  rw [if_pos h]
theorem gcell_A {cy : Nat → ClassId} {S : gS} {ad : gAd} {k j t : Nat} (h : ¬ k < 9) : gcell cy S ad (k, j, t) = gcA cy S ad k j := by
  show (if k < 9 then _ else _) = _
  rw [if_neg h]
theorem gcell_I {cy : Nat → ClassId} {S : gS} {ad : gAd} {k j t : Nat} (h : ¬ k < 9) (ht : gaT k ≠ 4) (h5 : ¬ 5 ≤ gaT k) : gcell cy S ad (k, j, t) = .inl (cy (gaT k), gaN k, .inl (aI S k j)) := by
  rw [gcell_A h, gcA, if_neg ht, if_neg h5]
theorem gcell_L {cy : Nat → ClassId} {S : gS} {ad : gAd} {k j t : Nat} (h : ¬ k < 9) (ht : gaT k = 4) : gcell cy S ad (k, j, t) = .inl (cy 4, gaN k, .inr (.inl (aL S k j))) := by
  rw [gcell_A h, gcA, if_pos ht]
theorem gcell_Q {cy : Nat → ClassId} {S : gS} {ad : gAd} {k j t : Nat} (h : ¬ k < 9) (h5 : 5 ≤ gaT k) : gcell cy S ad (k, j, t) = .inl (cy (gaT k), gaN k, .inr (.inr (.inr (.inr (fun i => gro ad (aR S k j i)))))) := by
  rw [gcell_A h, gcA, if_neg (by omega), if_pos h5]
/-- a changed field -/
theorem gcO_set {S S' : gS} {ad : gAd} {k j t i : Nat} {v : Value} (h1 : gfv S' ad (32 * k + i) j t = v) (h2 : ∀ x, x < gnF k → x ≠ i → gfv S' ad (32 * k + x) j t = gfv S ad (32 * k + x) j t) : gcO S' ad k j t = (gcO S ad k j t).set i v := by
  apply List.ext_getElem?
  intro x
  rcases Nat.lt_or_ge x (gnF k) with hx | hx
  · by_cases hxi : x = i
    · subst hxi
      rw [List.getElem?_set_self (by rw [gcO_len]; exact hx), gcO_at hx, h1]
    · rw [List.getElem?_set_ne (Ne.symm hxi), gcO_at hx, gcO_at hx, h2 x hx hxi]
  · rw [List.getElem?_eq_none (by rw [gcO_len]; exact hx), List.getElem?_eq_none (by rw [List.length_set, gcO_len]; exact hx)]
theorem gfv_sfI {S : gS} {ad : gAd} {g j t g' j' t' : Nat} {x : Int32} (h : ¬ (g' = g ∧ j' = j ∧ t' = t)) : gfv (sfI S g j t x) ad g' j' t' = gfv S ad g' j' t' := by
  unfold gfv
  by_cases hr : gisR g' = true
  · rw [if_pos hr, if_pos hr]; rfl
  · rw [if_neg hr, if_neg hr]
    show Value.int (up3 (fI S) g j t x g' j' t') = _
    rw [up3, if_neg h]
theorem gfv_sfI_eq {S : gS} {ad : gAd} {g j t : Nat} {x : Int32} (hr : gisR g = false) : gfv (sfI S g j t x) ad g j t = .int x := by
  unfold gfv
  rw [if_neg (by rw [hr]; decide)]
  show Value.int (up3 (fI S) g j t x g j t) = _
  rw [up3, if_pos ⟨rfl, rfl, rfl⟩]
theorem gfv_sfR {S : gS} {ad : gAd} {g j t g' j' t' : Nat} {x : Option gId} (h : ¬ (g' = g ∧ j' = j ∧ t' = t)) : gfv (sfR S g j t x) ad g' j' t' = gfv S ad g' j' t' := by
  unfold gfv
  by_cases hr : gisR g' = true
  · rw [if_pos hr, if_pos hr]
    show va_rf (gro ad (up3 (fR S) g j t x g' j' t')) = _
    rw [up3, if_neg h]
  · rw [if_neg hr, if_neg hr]; rfl
theorem gfv_sfR_eq {S : gS} {ad : gAd} {g j t : Nat} {x : Option gId} (hr : gisR g = true) : gfv (sfR S g j t x) ad g j t = va_rf (gro ad x) := by
  unfold gfv
  rw [if_pos hr]
  show va_rf (gro ad (up3 (fR S) g j t x g j t)) = _
  rw [up3, if_pos ⟨rfl, rfl, rfl⟩]
theorem gcA_eq {cy : Nat → ClassId} {S S' : gS} {ad : gAd} {k j : Nat} (h1 : aI S' k j = aI S k j) (h2 : aL S' k j = aL S k j) (h3 : aR S' k j = aR S k j) : gcA cy S' ad k j = gcA cy S ad k j := by
  unfold gcA
  rw [h1, h2, h3]
theorem gcell_f {cy : Nat → ClassId} {S S' : gS} {ad : gAd} {k i j t : Nat} {q : gId} (hq : q ≠ (k, j, t)) (hi : i < 32) (h : ∀ g' j' t', ¬ (g' = 32 * k + i ∧ j' = j ∧ t' = t) → gfv S' ad g' j' t' = gfv S ad g' j' t') (h1 : aI S' = aI S) (h2 : aL S' = aL S) (h3 : aR S' = aR S) : gcell cy S' ad q = gcell cy S ad q := by
  obtain ⟨k', j', t'⟩ := q
  by_cases h9 : k' < 9
  · rw [gcell_O h9, gcell_O h9]
    congr 2
    refine List.map_congr_left fun x hx => h _ _ _ ?_
    rintro ⟨e1, e2, e3⟩
    have hx2 : x < gnF k' := List.mem_range.mp hx
    have hx3 := gnF_le k'
    have : k' = k := by omega
    exact hq (by rw [this, e2, e3])
  · rw [gcell_A h9, gcell_A h9]
    exact gcA_eq (by rw [h1]) (by rw [h2]) (by rw [h3])
theorem gcell_a {cy : Nat → ClassId} {S S' : gS} {ad : gAd} {k j : Nat} {q : gId} (hq : 9 ≤ q.1 → ¬ (q.1 = k ∧ q.2.1 = j)) (h0 : ∀ g' j' t', gfv S' ad g' j' t' = gfv S ad g' j' t') (h1 : ∀ k' j', ¬ (k' = k ∧ j' = j) → aI S' k' j' = aI S k' j' ∧ aL S' k' j' = aL S k' j' ∧ aR S' k' j' = aR S k' j') : gcell cy S' ad q = gcell cy S ad q := by
  obtain ⟨k', j', t'⟩ := q
  by_cases h9 : k' < 9
  · rw [gcell_O h9, gcell_O h9]
    congr 2
    exact List.map_congr_left fun x hx => h0 _ _ _
  · obtain ⟨e1, e2, e3⟩ := h1 k' j' (hq (Nat.not_lt.mp h9))
    rw [gcell_A h9, gcell_A h9]
    exact gcA_eq e1 e2 e3
theorem up3_row {α : Type} {f : Nat → Nat → Nat → α} {k j i k' j' : Nat} {v : α} (h : ¬ (k' = k ∧ j' = j)) : up3 f k j i v k' j' = f k' j' := by
  funext x
  rw [up3, if_neg (fun z => h ⟨z.1, z.2.1⟩)]
theorem up3_upd {f : Nat → Nat → Nat → Int32} {k j n : Nat} {x i : Int32} (hn : n < 2 ^ 31) (hi : i = nI n) : upd (f k j) i.toNatClampNeg x = up3 f k j n x k j := by
  funext z
  rw [hi, nI_clamp hn]
  simp [upd, up3]
theorem up3_updL {f : Nat → Nat → Nat → Int64} {k j n : Nat} {x : Int64} {i : Int32} (hn : n < 2 ^ 31) (hi : i = nI n) : vp_updL (f k j) i.toNatClampNeg x = up3 f k j n x k j := by
  funext z
  rw [hi, nI_clamp hn]
  simp [vp_updL, up3]
section GH
variable {E : gE} {M : gM} {B : gB} {pc pc' : Nat} {ls : List (Option gV)} {st : List gV} {S : gS} {cs sl : Nat}
theorem g_getI {k j t i idx : Nat} {C : String} {T : u_T} {N : Nat} {ty : Nat → FieldType} (cf : gCF k C T N ty) (hi : i < N) (hw : Cond.fieldLink M.1.cls idx C (T i).2.1 (T i).2.2.1 ∈ lwG) (hr : gisR (32 * k + i) = false) (d : decode M.2.1 pc = .ok (.getfield idx, 3)) (e : pc + 3 = pc') (hlv : lv S k j t) (h : gG E M B pc' ls (vI (fI S (32 * k + i) j t) :: st) S cs sl) : gG E M B pc ls (vR k j t :: st) S cs sl := by
  subst e
  intro p e s m args below meth c QS hC hE H locs ad lsr hl hS hR hA
  obtain ⟨c0, c1, c2, c3, c4, c5, c6, c7⟩ := cf
  obtain ⟨i0, h1, h2⟩ := gws_at (cy := eC E) (ad := ad) hlv
  rw [gcell_O c0] at h2
  exact va_get (D := eD E) (ci := k) (v := .int (fI S (32 * k + i) j t)) hC.1 hC.2.1 hC.2.2.2.2.2.2.2.1 c2 hC.2.2.2.2.1 hC.2.2.2.2.2.2.2.2.1.1 hR.1 i0 h2 c1 i hi (hC.2.2.2.2.2.2.2.1 _ hw) (fun x hx => by rw [c7 i hi] at hx; exact hx) (by rw [gcO_at (by rw [c5]; exact hi), gfv, if_neg (by rw [hr]; decide)]) d (h p e s m args below meth c QS hC hE H locs ad lsr hl hS hR hA)
theorem g_getR {k j t i idx : Nat} {q : gId} {C : String} {T : u_T} {N : Nat} {ty : Nat → FieldType} (cf : gCF k C T N ty) (hi : i < N) (hw : Cond.fieldLink M.1.cls idx C (T i).2.1 (T i).2.2.1 ∈ lwG) (hr : gisR (32 * k + i) = true) (d : decode M.2.1 pc = .ok (.getfield idx, 3)) (e : pc + 3 = pc') (hlv : lv S k j t) (hq : fR S (32 * k + i) j t = some q) (h : gG E M B pc' ls (.inr q :: st) S cs sl) : gG E M B pc ls (vR k j t :: st) S cs sl := by
  subst e
  intro p e s m args below meth c QS hC hE H locs ad lsr hl hS hR hA
  obtain ⟨c0, c1, c2, c3, c4, c5, c6, c7⟩ := cf
  obtain ⟨i0, h1, h2⟩ := gws_at (cy := eC E) (ad := ad) hlv
  rw [gcell_O c0] at h2
  exact va_get (D := eD E) (ci := k) (v := .ref (gad ad q)) hC.1 hC.2.1 hC.2.2.2.2.2.2.2.1 c2 hC.2.2.2.2.1 hC.2.2.2.2.2.2.2.2.1.1 hR.1 i0 h2 c1 i hi (hC.2.2.2.2.2.2.2.1 _ hw) (fun x hx => by rw [c7 i hi] at hx; exact hx) (by rw [gcO_at (by rw [c5]; exact hi), gfv, if_pos hr, hq]; rfl) d (h p e s m args below meth c QS hC hE H locs ad lsr hl hS hR hA)
theorem g_getIN {k j t i idx : Nat} {C host : String} {T : u_T} {N : Nat} {ty : Nat → FieldType} (cf : gCF k C T N ty) (hi : i < N) (hw : Cond.fieldLinkNest M.1.cls idx C (T i).2.1 (T i).2.2.1 host ∈ lwN) (hr : gisR (32 * k + i) = false) (d : decode M.2.1 pc = .ok (.getfield idx, 3)) (e : pc + 3 = pc') (hlv : lv S k j t) (h : gG E M B pc' ls (vI (fI S (32 * k + i) j t) :: st) S cs sl) : gG E M B pc ls (vR k j t :: st) S cs sl := by
  subst e
  intro p e s m args below meth c QS hC hE H locs ad lsr hl hS hR hA
  obtain ⟨c0, c1, c2, c3, c4, c5, c6, c7⟩ := cf
  obtain ⟨i0, h1, h2⟩ := gws_at (cy := eC E) (ad := ad) hlv
  rw [gcell_O c0] at h2
  exact va_getN (D := eD E) (ci := k) (v := .int (fI S (32 * k + i) j t)) hC.1 hC.2.1 hC.2.2.2.2.2.2.2.1 c2 hC.2.2.2.2.1 hC.2.2.2.2.2.2.2.2.1.1 hR.1 i0 h2 c1 i hi (va_Nw.use rfl (hC.2.2.2.2.2.2.2.2.1.2.2.2.2.1 _ hw)) (fun x hx => by rw [c7 i hi] at hx; exact hx) (by rw [gcO_at (by rw [c5]; exact hi), gfv, if_neg (by rw [hr]; decide)]) d (h p e s m args below meth c QS hC hE H locs ad lsr hl hS hR hA)
theorem g_getRN {k j t i idx : Nat} {q : gId} {C host : String} {T : u_T} {N : Nat} {ty : Nat → FieldType} (cf : gCF k C T N ty) (hi : i < N) (hw : Cond.fieldLinkNest M.1.cls idx C (T i).2.1 (T i).2.2.1 host ∈ lwN) (hr : gisR (32 * k + i) = true) (d : decode M.2.1 pc = .ok (.getfield idx, 3)) (e : pc + 3 = pc') (hlv : lv S k j t) (hq : fR S (32 * k + i) j t = some q) (h : gG E M B pc' ls (.inr q :: st) S cs sl) : gG E M B pc ls (vR k j t :: st) S cs sl := by
  subst e
  intro p e s m args below meth c QS hC hE H locs ad lsr hl hS hR hA
  obtain ⟨c0, c1, c2, c3, c4, c5, c6, c7⟩ := cf
  obtain ⟨i0, h1, h2⟩ := gws_at (cy := eC E) (ad := ad) hlv
  rw [gcell_O c0] at h2
  exact va_getN (D := eD E) (ci := k) (v := .ref (gad ad q)) hC.1 hC.2.1 hC.2.2.2.2.2.2.2.1 c2 hC.2.2.2.2.1 hC.2.2.2.2.2.2.2.2.1.1 hR.1 i0 h2 c1 i hi (va_Nw.use rfl (hC.2.2.2.2.2.2.2.2.1.2.2.2.2.1 _ hw)) (fun x hx => by rw [c7 i hi] at hx; exact hx) (by rw [gcO_at (by rw [c5]; exact hi), gfv, if_pos hr, hq]; rfl) d (h p e s m args below meth c QS hC hE H locs ad lsr hl hS hR hA)
theorem gRep_set {ad : gAd} {S' : gS} {H1 : Heap} {q : gId} {i0 : Nat} {e9 : va_E} (hD0 : va_D (eF E) (gws (eC E) S ad)) (hi : (gL S)[i0]? = some q) (hL : gL S' = gL S) (he : gcell (eC E) S' ad q = e9) (ho : ∀ r ∈ gL S, r ≠ q → gcell (eC E) S' ad r = gcell (eC E) S ad r) (hok : gOk S') (hP : va_P (eD E) vwCl ((gws (eC E) S ad).set i0 (gad ad q, e9)) H1) (hD : va_D (eF E) ((gws (eC E) S ad).set i0 (gad ad q, e9))) : gRep E S' ad H1 := by
  have z := gws_set hD0 hi hL he ho
  rw [z] at hP hD
  exact ⟨hP, hD, hok⟩
theorem g_putI {k j t i idx : Nat} {x : Int32} {fty : FieldType} {C : String} {T : u_T} {N : Nat} {ty : Nat → FieldType} (cf : gCF k C T N ty) (hi : i < N) (hw : Cond.fieldLink M.1.cls idx C (T i).2.1 (T i).2.2.1 ∈ lwG) (hr : gisR (32 * k + i) = false) (hfin : (T i).2.2.2 = false ∨ ((T i).2.2.2 = true ∧ M.1.name = "<init>" ∧ C = M.1.cls)) (hd : parseFieldDescriptor (T i).2.2.1 = some fty) (hn : narrow fty (.int x) = .int x) (hf : fits fty (.int x) = true) (d : decode M.2.1 pc = .ok (.putfield idx, 3)) (e : pc + 3 = pc') (hlv : lv S k j t) (h : gG E M B pc' ls st (sfI S (32 * k + i) j t x) cs sl) : gG E M B pc ls (vI x :: vR k j t :: st) S cs sl := by
  subst e
  intro p e s m args below meth c QS hC hE H locs ad lsr hl hS hR hA
  obtain ⟨c0, c1, c2, c3, c4, c5, c6, c7⟩ := cf
  obtain ⟨i0, h1, h2⟩ := gws_at (cy := eC E) (ad := ad) hlv
  rw [gcell_O c0] at h2
  have hi2 : i < gnF k := by rw [c5]; exact hi
  have hi3 : i < 32 := by have := gnF_le k; omega
  have key : ∀ H1 : Heap, va_P (eD E) vwCl ((gws (eC E) S ad).set i0 (gad ad (k, j, t), .inr (k, (gcO S ad k j t).set i (.int x)))) H1 → va_D (eF E) ((gws (eC E) S ad).set i0 (gad ad (k, j, t), .inr (k, (gcO S ad k j t).set i (.int x)))) → gRep E (sfI S (32 * k + i) j t x) ad H1 := fun H1 q1 q2 =>
    gRep_set hR.2.1 h1 rfl (by rw [gcell_O c0]; congr 2; exact gcO_set (gfv_sfI_eq hr) (fun y hy hne => gfv_sfI (fun z => hne (by omega)))) (fun r _ hne => gcell_f hne hi3 (fun g' j' t' z => gfv_sfI z) rfl rfl rfl) hR.2.2 q1 q2
  rcases hfin with hfin | ⟨hfin, hin, hcl⟩
  · exact va_put (D := eD E) (ci := k) (v := .int x) (ty := fty) hC.1 hC.2.1 hC.2.2.2.2.2.2.2.1 c2 ty c3 c4 hC.2.2.2.2.1 hC.2.2.2.2.2.2.2.2.1.1 hR.1 hR.2.1 hS i0 h2 c1 i hi (hC.2.2.2.2.2.2.2.1 _ hw) (fun x hx => by rw [c7 i hi] at hx; exact hx) hfin hd hn hf (by rw [gcO_len]; exact hi2) d (fun H1 locs1 q1 q2 q3 => h p e s m args below meth c QS hC hE H1 locs1 ad lsr hl q3 (key H1 q1 q2) hA)
  · exact va_putF (D := eD E) (ci := k) (v := .int x) (ty := fty) hC.1 hC.2.1 hC.2.2.2.2.2.2.2.1 c2 ty c3 c4 hC.2.2.2.2.1 hC.2.2.2.2.2.2.2.2.1.1 hR.1 hR.2.1 hS i0 h2 c1 i hi (hC.2.2.2.2.2.2.2.1 _ hw) (fun x hx => by rw [c7 i hi] at hx; exact hx) hfin (hC.2.2.2.2.2.2.1 hin) ((c7 i hi).trans hcl) hd hn hf (by rw [gcO_len]; exact hi2) d (fun H1 locs1 q1 q2 q3 => h p e s m args below meth c QS hC hE H1 locs1 ad lsr hl q3 (key H1 q1 q2) hA)
theorem g_putIN {k j t i idx : Nat} {x : Int32} {fty : FieldType} {C host : String} {T : u_T} {N : Nat} {ty : Nat → FieldType} (cf : gCF k C T N ty) (hi : i < N) (hw : Cond.fieldLinkNest M.1.cls idx C (T i).2.1 (T i).2.2.1 host ∈ lwN) (hr : gisR (32 * k + i) = false) (hfin : (T i).2.2.2 = false) (hd : parseFieldDescriptor (T i).2.2.1 = some fty) (hn : narrow fty (.int x) = .int x) (hf : fits fty (.int x) = true) (d : decode M.2.1 pc = .ok (.putfield idx, 3)) (e : pc + 3 = pc') (hlv : lv S k j t) (h : gG E M B pc' ls st (sfI S (32 * k + i) j t x) cs sl) : gG E M B pc ls (vI x :: vR k j t :: st) S cs sl := by
  subst e
  intro p e s m args below meth c QS hC hE H locs ad lsr hl hS hR hA
  obtain ⟨c0, c1, c2, c3, c4, c5, c6, c7⟩ := cf
  obtain ⟨i0, h1, h2⟩ := gws_at (cy := eC E) (ad := ad) hlv
  rw [gcell_O c0] at h2
  have hi2 : i < gnF k := by rw [c5]; exact hi
  have hi3 : i < 32 := by have := gnF_le k; omega
  have key : ∀ H1 : Heap, va_P (eD E) vwCl ((gws (eC E) S ad).set i0 (gad ad (k, j, t), .inr (k, (gcO S ad k j t).set i (.int x)))) H1 → va_D (eF E) ((gws (eC E) S ad).set i0 (gad ad (k, j, t), .inr (k, (gcO S ad k j t).set i (.int x)))) → gRep E (sfI S (32 * k + i) j t x) ad H1 := fun H1 q1 q2 =>
    gRep_set hR.2.1 h1 rfl (by rw [gcell_O c0]; congr 2; exact gcO_set (gfv_sfI_eq hr) (fun y hy hne => gfv_sfI (fun z => hne (by omega)))) (fun r _ hne => gcell_f hne hi3 (fun g' j' t' z => gfv_sfI z) rfl rfl rfl) hR.2.2 q1 q2
  exact va_putN (D := eD E) (ci := k) (v := .int x) (ty := fty) hC.1 hC.2.1 hC.2.2.2.2.2.2.2.1 c2 ty c3 c4 hC.2.2.2.2.1 hC.2.2.2.2.2.2.2.2.1.1 hR.1 hR.2.1 hS i0 h2 c1 i hi (va_Nw.use rfl (hC.2.2.2.2.2.2.2.2.1.2.2.2.2.1 _ hw)) (fun x hx => by rw [c7 i hi] at hx; exact hx) hfin hd hn hf (by rw [gcO_len]; exact hi2) d (fun H1 locs1 q1 q2 q3 => h p e s m args below meth c QS hC hE H1 locs1 ad lsr hl q3 (key H1 q1 q2) hA)
theorem gOk_sfR {S : gS} {k j t i : Nat} {q : gId} (h : gOk S) (hi : i < 32) (hq : q ∈ gL S) : gOk (sfR S (32 * k + i) j t (some q)) := by
  refine ⟨h.1, fun r hr i' r' hi' e => ?_, h.2.2⟩
  have e : up3 (fR S) (32 * k + i) j t (some q) (32 * r.1 + i') r.2.1 r.2.2 = some r' := e
  rw [up3] at e
  split at e
  · cases e; exact hq
  · exact h.2.1 r hr i' r' hi' e
theorem g_putR {k j t i idx : Nat} {q : gId} {fty : FieldType} {C : String} {T : u_T} {N : Nat} {ty : Nat → FieldType} (cf : gCF k C T N ty) (hi : i < N) (hw : Cond.fieldLink M.1.cls idx C (T i).2.1 (T i).2.2.1 ∈ lwG) (hr : gisR (32 * k + i) = true) (hfin : (T i).2.2.2 = true) (hin : M.1.name = "<init>") (hcl : C = M.1.cls) (hd : parseFieldDescriptor (T i).2.2.1 = some fty) (hn : ∀ a : Nat, narrow fty (.ref a) = .ref a ∧ fits fty (.ref a) = true) (d : decode M.2.1 pc = .ok (.putfield idx, 3)) (e : pc + 3 = pc') (hlv : lv S k j t) (hq : q ∈ gL S) (h : gG E M B pc' ls st (sfR S (32 * k + i) j t (some q)) cs sl) : gG E M B pc ls (.inr q :: vR k j t :: st) S cs sl := by
  subst e
  intro p e s m args below meth c QS hC hE H locs ad lsr hl hS hR hA
  obtain ⟨c0, c1, c2, c3, c4, c5, c6, c7⟩ := cf
  obtain ⟨i0, h1, h2⟩ := gws_at (cy := eC E) (ad := ad) hlv
  rw [gcell_O c0] at h2
  have hi2 : i < gnF k := by rw [c5]; exact hi
  have hi3 : i < 32 := by have := gnF_le k; omega
  have key : ∀ H1 : Heap, va_P (eD E) vwCl ((gws (eC E) S ad).set i0 (gad ad (k, j, t), .inr (k, (gcO S ad k j t).set i (.ref (gad ad q))))) H1 → va_D (eF E) ((gws (eC E) S ad).set i0 (gad ad (k, j, t), .inr (k, (gcO S ad k j t).set i (.ref (gad ad q))))) → gRep E (sfR S (32 * k + i) j t (some q)) ad H1 := fun H1 q1 q2 =>
    gRep_set hR.2.1 h1 rfl (by rw [gcell_O c0]; congr 2; exact gcO_set ((gfv_sfR_eq hr).trans rfl) (fun y hy hne => gfv_sfR (fun z => hne (by omega)))) (fun r _ hne => gcell_f hne hi3 (fun g' j' t' z => gfv_sfR z) rfl rfl rfl) (gOk_sfR hR.2.2 hi3 hq) q1 q2
  exact va_putF (D := eD E) (ci := k) (v := .ref (gad ad q)) (ty := fty) hC.1 hC.2.1 hC.2.2.2.2.2.2.2.1 c2 ty c3 c4 hC.2.2.2.2.1 hC.2.2.2.2.2.2.2.2.1.1 hR.1 hR.2.1 hS i0 h2 c1 i hi (hC.2.2.2.2.2.2.2.1 _ hw) (fun x hx => by rw [c7 i hi] at hx; exact hx) hfin (hC.2.2.2.2.2.2.1 hin) ((c7 i hi).trans hcl) hd (hn _).1 (hn _).2 (by rw [gcO_len]; exact hi2) d (fun H1 locs1 q1 q2 q3 => h p e s m args below meth c QS hC hE H1 locs1 ad lsr hl q3 (key H1 q1 q2) hA)
theorem g_iald {k j n : Nat} {x : Int32} (d : decode M.2.1 pc = .ok (.iaload, 1)) (e : pc + 1 = pc') (hk : ¬ k < 9) (hT : gaT k = 1) (hx : x = nI n) (hn : n < gaN k) (hlv : lv S k j 0) (h : gG E M B pc' ls (vI (aI S k j n) :: st) S cs sl) : gG E M B pc ls (vI x :: vR k j 0 :: st) S cs sl := by
  subst e
  intro p e s m args below meth c QS hC hE H locs ad lsr hl hS hR hA
  obtain ⟨i0, h1, h2⟩ := gws_at (cy := eC E) (ad := ad) hlv
  rw [gcell_I hk (by rw [hT]; decide) (by rw [hT]; decide), hT] at h2
  have h31 := gaN_lt k
  subst hx
  refine va_iald (D := eD E) hC.1 hC.2.1 hC.2.2.2.2.2.2.2.2.1.1 hR.1 i0 0 h2 rfl (vp_in_nI hn h31) d ?_
  rw [nI_clamp (by omega)]
  exact h p e s m args below meth c QS hC hE H locs ad lsr hl hS hR hA
theorem g_cald {k j n : Nat} {x : Int32} (d : decode M.2.1 pc = .ok (.caload, 1)) (e : pc + 1 = pc') (hk : ¬ k < 9) (hT : gaT k = 2) (hx : x = nI n) (hn : n < gaN k) (hlv : lv S k j 0) (h : gG E M B pc' ls (vI (aI S k j n) :: st) S cs sl) : gG E M B pc ls (vI x :: vR k j 0 :: st) S cs sl := by
  subst e
  intro p e s m args below meth c QS hC hE H locs ad lsr hl hS hR hA
  obtain ⟨i0, h1, h2⟩ := gws_at (cy := eC E) (ad := ad) hlv
  rw [gcell_I hk (by rw [hT]; decide) (by rw [hT]; decide), hT] at h2
  have h31 := gaN_lt k
  subst hx
  refine va_cald (D := eD E) hC.1 hC.2.1 hC.2.2.2.2.2.2.2.2.1.1 hR.1 i0 1 h2 rfl (vp_in_nI hn h31) d ?_
  rw [nI_clamp (by omega)]
  exact h p e s m args below meth c QS hC hE H locs ad lsr hl hS hR hA
theorem g_zald {k j n : Nat} {x : Int32} (d : decode M.2.1 pc = .ok (.baload, 1)) (e : pc + 1 = pc') (hk : ¬ k < 9) (hT : gaT k = 3) (hx : x = nI n) (hn : n < gaN k) (hlv : lv S k j 0) (h : gG E M B pc' ls (vI (aI S k j n) :: st) S cs sl) : gG E M B pc ls (vI x :: vR k j 0 :: st) S cs sl := by
  subst e
  intro p e s m args below meth c QS hC hE H locs ad lsr hl hS hR hA
  obtain ⟨i0, h1, h2⟩ := gws_at (cy := eC E) (ad := ad) hlv
  rw [gcell_I hk (by rw [hT]; decide) (by rw [hT]; decide), hT] at h2
  have h31 := gaN_lt k
  subst hx
  refine va_zald (D := eD E) hC.1 hC.2.1 hC.2.2.2.2.2.2.2.2.1.1 hR.1 i0 2 h2 rfl (vp_in_nI hn h31) d ?_
  rw [nI_clamp (by omega)]
  exact h p e s m args below meth c QS hC hE H locs ad lsr hl hS hR hA
theorem g_lald {k j n : Nat} {x : Int32} (d : decode M.2.1 pc = .ok (.laload, 1)) (e : pc + 1 = pc') (hk : ¬ k < 9) (hT : gaT k = 4) (hx : x = nI n) (hn : n < gaN k) (hlv : lv S k j 0) (h : gG E M B pc' ls (vL (aL S k j n) :: st) S cs sl) : gG E M B pc ls (vI x :: vR k j 0 :: st) S cs sl := by
  subst e
  intro p e s m args below meth c QS hC hE H locs ad lsr hl hS hR hA
  obtain ⟨i0, h1, h2⟩ := gws_at (cy := eC E) (ad := ad) hlv
  rw [gcell_L hk hT] at h2
  have h31 := gaN_lt k
  subst hx
  refine va_lald (D := eD E) hC.1 hC.2.1 hC.2.2.2.2.2.2.2.2.1.1 hR.1 i0 3 h2 rfl (vp_in_nI hn h31) d ?_
  rw [nI_clamp (by omega)]
  exact h p e s m args below meth c QS hC hE H locs ad lsr hl hS hR hA
theorem g_aaldJ {k j n : Nat} {x : Int32} {q : gId} (d : decode M.2.1 pc = .ok (.aaload, 1)) (e : pc + 1 = pc') (hk : ¬ k < 9) (hT : gaT k = 5) (hx : x = nI n) (hn : n < gaN k) (hlv : lv S k j 0) (hq : aR S k j n = some q) (h : gG E M B pc' ls (.inr q :: st) S cs sl) : gG E M B pc ls (vI x :: vR k j 0 :: st) S cs sl := by
  subst e
  intro p e s m args below meth c QS hC hE H locs ad lsr hl hS hR hA
  obtain ⟨i0, h1, h2⟩ := gws_at (cy := eC E) (ad := ad) hlv
  rw [gcell_Q hk (by rw [hT]; decide), hT] at h2
  have h31 := gaN_lt k
  subst hx
  refine va_aldq (D := eD E) hC.1 hC.2.1 hC.2.2.2.2.2.2.2.2.1.1 hR.1 i0 4 h2 rfl (vp_in_nI hn h31) d ?_
  rw [nI_clamp (by omega), hq]
  exact h p e s m args below meth c QS hC hE H locs ad lsr hl hS hR hA
theorem g_aaldT {k j n : Nat} {x : Int32} {q : gId} (d : decode M.2.1 pc = .ok (.aaload, 1)) (e : pc + 1 = pc') (hk : ¬ k < 9) (hT : gaT k = 6) (hx : x = nI n) (hn : n < gaN k) (hlv : lv S k j 0) (hq : aR S k j n = some q) (h : gG E M B pc' ls (.inr q :: st) S cs sl) : gG E M B pc ls (vI x :: vR k j 0 :: st) S cs sl := by
  subst e
  intro p e s m args below meth c QS hC hE H locs ad lsr hl hS hR hA
  obtain ⟨i0, h1, h2⟩ := gws_at (cy := eC E) (ad := ad) hlv
  rw [gcell_Q hk (by rw [hT]; decide), hT] at h2
  have h31 := gaN_lt k
  subst hx
  refine va_aldq (D := eD E) hC.1 hC.2.1 hC.2.2.2.2.2.2.2.2.1.1 hR.1 i0 5 h2 rfl (vp_in_nI hn h31) d ?_
  rw [nI_clamp (by omega), hq]
  exact h p e s m args below meth c QS hC hE H locs ad lsr hl hS hR hA
theorem g_iast {k j n : Nat} {x v : Int32} (d : decode M.2.1 pc = .ok (.iastore, 1)) (e : pc + 1 = pc') (hk : ¬ k < 9) (hT : gaT k = 1) (hx : x = nI n) (hn : n < gaN k) (hlv : lv S k j 0) (h : gG E M B pc' ls st (saI S k j n v) cs sl) : gG E M B pc ls (vI v :: vI x :: vR k j 0 :: st) S cs sl := by
  subst e
  intro p e s m args below meth c QS hC hE H locs ad lsr hl hS hR hA
  obtain ⟨i0, h1, h2⟩ := gws_at (cy := eC E) (ad := ad) hlv
  rw [gcell_I hk (by rw [hT]; decide) (by rw [hT]; decide), hT] at h2
  have h31 := gaN_lt k
  refine va_iast (D := eD E) hC.1 hC.2.1 hC.2.2.2.2.2.2.2.2.1.1 hR.1 hR.2.1 hS i0 0 h2 rfl (by rw [hx]; exact vp_in_nI hn h31) d (fun H1 locs1 q1 q2 q3 => h p e s m args below meth c QS hC hE H1 locs1 ad lsr hl q3 ?_ hA)
  exact gRep_set hR.2.1 h1 rfl (by rw [gcell_I hk (by rw [hT]; decide) (by rw [hT]; decide), hT, up3_upd (f := aI S) (Nat.lt_trans hn h31) hx]; rfl) (fun r hr hne => gcell_a (fun h9 z => hne (by have := hR.2.2.1 r hr h9; obtain ⟨a1, a2, a3⟩ := r; obtain ⟨z1, z2⟩ := z; simp only at z1 z2 this; rw [z1, z2, this])) (fun _ _ _ => rfl) (fun k' j' z => ⟨up3_row z, rfl, rfl⟩)) hR.2.2 q1 q2
theorem g_cast {k j n : Nat} {x v : Int32} (d : decode M.2.1 pc = .ok (.castore, 1)) (e : pc + 1 = pc') (hk : ¬ k < 9) (hT : gaT k = 2) (hx : x = nI n) (hn : n < gaN k) (hlv : lv S k j 0) (hv : vp_nar .char v = v) (h : gG E M B pc' ls st (saI S k j n v) cs sl) : gG E M B pc ls (vI v :: vI x :: vR k j 0 :: st) S cs sl := by
  subst e
  intro p e s m args below meth c QS hC hE H locs ad lsr hl hS hR hA
  obtain ⟨i0, h1, h2⟩ := gws_at (cy := eC E) (ad := ad) hlv
  rw [gcell_I hk (by rw [hT]; decide) (by rw [hT]; decide), hT] at h2
  have h31 := gaN_lt k
  refine va_cast (D := eD E) hC.1 hC.2.1 hC.2.2.2.2.2.2.2.2.1.1 hR.1 hR.2.1 hS i0 1 h2 rfl (by rw [hx]; exact vp_in_nI hn h31) d (fun H1 locs1 q1 q2 q3 => h p e s m args below meth c QS hC hE H1 locs1 ad lsr hl q3 ?_ hA)
  rw [hv] at q1 q2
  exact gRep_set hR.2.1 h1 rfl (by rw [gcell_I hk (by rw [hT]; decide) (by rw [hT]; decide), hT, up3_upd (f := aI S) (Nat.lt_trans hn h31) hx]; rfl) (fun r hr hne => gcell_a (fun h9 z => hne (by have := hR.2.2.1 r hr h9; obtain ⟨a1, a2, a3⟩ := r; obtain ⟨z1, z2⟩ := z; simp only at z1 z2 this; rw [z1, z2, this])) (fun _ _ _ => rfl) (fun k' j' z => ⟨up3_row z, rfl, rfl⟩)) hR.2.2 q1 q2
theorem g_zast {k j n : Nat} {x v : Int32} (d : decode M.2.1 pc = .ok (.bastore, 1)) (e : pc + 1 = pc') (hk : ¬ k < 9) (hT : gaT k = 3) (hx : x = nI n) (hn : n < gaN k) (hlv : lv S k j 0) (hv : vp_nar .boolean v = v) (h : gG E M B pc' ls st (saI S k j n v) cs sl) : gG E M B pc ls (vI v :: vI x :: vR k j 0 :: st) S cs sl := by
  subst e
  intro p e s m args below meth c QS hC hE H locs ad lsr hl hS hR hA
  obtain ⟨i0, h1, h2⟩ := gws_at (cy := eC E) (ad := ad) hlv
  rw [gcell_I hk (by rw [hT]; decide) (by rw [hT]; decide), hT] at h2
  have h31 := gaN_lt k
  refine va_zast (D := eD E) hC.1 hC.2.1 hC.2.2.2.2.2.2.2.2.1.1 hR.1 hR.2.1 hS i0 2 h2 rfl (by rw [hx]; exact vp_in_nI hn h31) d (fun H1 locs1 q1 q2 q3 => h p e s m args below meth c QS hC hE H1 locs1 ad lsr hl q3 ?_ hA)
  rw [hv] at q1 q2
  exact gRep_set hR.2.1 h1 rfl (by rw [gcell_I hk (by rw [hT]; decide) (by rw [hT]; decide), hT, up3_upd (f := aI S) (Nat.lt_trans hn h31) hx]; rfl) (fun r hr hne => gcell_a (fun h9 z => hne (by have := hR.2.2.1 r hr h9; obtain ⟨a1, a2, a3⟩ := r; obtain ⟨z1, z2⟩ := z; simp only at z1 z2 this; rw [z1, z2, this])) (fun _ _ _ => rfl) (fun k' j' z => ⟨up3_row z, rfl, rfl⟩)) hR.2.2 q1 q2
theorem g_last {k j n : Nat} {x : Int32} {v : Int64} (d : decode M.2.1 pc = .ok (.lastore, 1)) (e : pc + 1 = pc') (hk : ¬ k < 9) (hT : gaT k = 4) (hx : x = nI n) (hn : n < gaN k) (hlv : lv S k j 0) (h : gG E M B pc' ls st (saL S k j n v) cs sl) : gG E M B pc ls (vL v :: vI x :: vR k j 0 :: st) S cs sl := by
  subst e
  intro p e s m args below meth c QS hC hE H locs ad lsr hl hS hR hA
  obtain ⟨i0, h1, h2⟩ := gws_at (cy := eC E) (ad := ad) hlv
  rw [gcell_L hk hT] at h2
  have h31 := gaN_lt k
  refine va_last (D := eD E) hC.1 hC.2.1 hC.2.2.2.2.2.2.2.2.1.1 hR.1 hR.2.1 hS i0 3 h2 rfl (by rw [hx]; exact vp_in_nI hn h31) d (fun H1 locs1 q1 q2 q3 => h p e s m args below meth c QS hC hE H1 locs1 ad lsr hl q3 ?_ hA)
  exact gRep_set hR.2.1 h1 rfl (by rw [gcell_L hk hT, up3_updL (f := aL S) (Nat.lt_trans hn h31) hx]; rfl) (fun r hr hne => gcell_a (fun h9 z => hne (by have := hR.2.2.1 r hr h9; obtain ⟨a1, a2, a3⟩ := r; obtain ⟨z1, z2⟩ := z; simp only at z1 z2 this; rw [z1, z2, this])) (fun _ _ _ => rfl) (fun k' j' z => ⟨rfl, up3_row z, rfl⟩)) hR.2.2 q1 q2
theorem gOk_saR {S : gS} {k j n : Nat} {q : gId} (h : gOk S) (hq : q ∈ gL S) : gOk (saR S k j n (some q)) := by
  refine ⟨h.1, h.2.1, fun r hr i' r' e => ?_⟩
  have e : up3 (aR S) k j n (some q) r.1 r.2.1 i' = some r' := e
  rw [up3] at e
  split at e
  · cases e; exact hq
  · exact h.2.2 r hr i' r' e
theorem up3_updq {S : gS} {ad : gAd} {k j n : Nat} {q : gId} {i : Int32} (hn : n < 2 ^ 31) (hi : i = nI n) : va_up (fun z => gro ad (aR S k j z)) i.toNatClampNeg (some (gad ad q)) = fun z => gro ad (aR (saR S k j n (some q)) k j z) := by
  funext z
  rw [hi, nI_clamp hn]
  show _ = gro ad (up3 (aR S) k j n (some q) k j z)
  by_cases hz : z = n
  · subst hz; simp [va_up, up3, gro, gad]
  · simp [va_up, up3, hz]
theorem g_aastJ {k j n jv tv : Nat} {x : Int32} (d : decode M.2.1 pc = .ok (.aastore, 1)) (e : pc + 1 = pc') (hk : ¬ k < 9) (hT : gaT k = 5) (hx : x = nI n) (hn : n < gaN k) (hlv : lv S k j 0) (hv : lv S 2 jv tv) (h : gG E M B pc' ls st (saR S k j n (some (2, jv, tv))) cs sl) : gG E M B pc ls (vR 2 jv tv :: vI x :: vR k j 0 :: st) S cs sl := by
  subst e
  intro p e s m args below meth c QS hC hE H locs ad lsr hl hS hR hA
  obtain ⟨i0, h1, h2⟩ := gws_at (cy := eC E) (ad := ad) hlv
  obtain ⟨i1, h3, h4⟩ := gws_at (cy := eC E) (ad := ad) hv
  rw [gcell_Q hk (by rw [hT]; decide), hT] at h2
  rw [gcell_O (by decide)] at h4
  have h31 := gaN_lt k
  refine va_astq (D := eD E) (r := (RX2, TX2, 7)) hC.1 hC.2.1 hC.2.2.2.2.2.2.2.2.1.1 hR.1 hR.2.1 hS i0 4 i1 2 h2 rfl h4 rfl (by rw [hx]; exact vp_in_nI hn h31) d (fun H1 locs1 q1 q2 q3 => h p e s m args below meth c QS hC hE H1 locs1 ad lsr hl q3 ?_ hA)
  exact gRep_set hR.2.1 h1 rfl (by rw [gcell_Q hk (by rw [hT]; decide), hT]; exact congrArg (fun z => Sum.inl (_, _, Sum.inr (Sum.inr (Sum.inr (Sum.inr z))))) (up3_updq (Nat.lt_trans hn h31) hx).symm) (fun r hr hne => gcell_a (fun h9 z => hne (by have := hR.2.2.1 r hr h9; obtain ⟨a1, a2, a3⟩ := r; obtain ⟨z1, z2⟩ := z; simp only at z1 z2 this; rw [z1, z2, this])) (fun _ _ _ => rfl) (fun k' j' z => ⟨rfl, rfl, up3_row z⟩)) (gOk_saR hR.2.2 hv) q1 q2
theorem g_aastT {k j n jv tv : Nat} {x : Int32} (d : decode M.2.1 pc = .ok (.aastore, 1)) (e : pc + 1 = pc') (hk : ¬ k < 9) (hT : gaT k = 6) (hx : x = nI n) (hn : n < gaN k) (hlv : lv S k j 0) (hv : lv S 5 jv tv) (h : gG E M B pc' ls st (saR S k j n (some (5, jv, tv))) cs sl) : gG E M B pc ls (vR 5 jv tv :: vI x :: vR k j 0 :: st) S cs sl := by
  subst e
  intro p e s m args below meth c QS hC hE H locs ad lsr hl hS hR hA
  obtain ⟨i0, h1, h2⟩ := gws_at (cy := eC E) (ad := ad) hlv
  obtain ⟨i1, h3, h4⟩ := gws_at (cy := eC E) (ad := ad) hv
  rw [gcell_Q hk (by rw [hT]; decide), hT] at h2
  rw [gcell_O (by decide)] at h4
  have h31 := gaN_lt k
  refine va_astq (D := eD E) (r := (RX5, TX5, 6)) hC.1 hC.2.1 hC.2.2.2.2.2.2.2.2.1.1 hR.1 hR.2.1 hS i0 5 i1 5 h2 rfl h4 rfl (by rw [hx]; exact vp_in_nI hn h31) d (fun H1 locs1 q1 q2 q3 => h p e s m args below meth c QS hC hE H1 locs1 ad lsr hl q3 ?_ hA)
  exact gRep_set hR.2.1 h1 rfl (by rw [gcell_Q hk (by rw [hT]; decide), hT]; exact congrArg (fun z => Sum.inl (_, _, Sum.inr (Sum.inr (Sum.inr (Sum.inr z))))) (up3_updq (Nat.lt_trans hn h31) hx).symm) (fun r hr hne => gcell_a (fun h9 z => hne (by have := hR.2.2.1 r hr h9; obtain ⟨a1, a2, a3⟩ := r; obtain ⟨z1, z2⟩ := z; simp only at z1 z2 this; rw [z1, z2, this])) (fun _ _ _ => rfl) (fun k' j' z => ⟨rfl, rfl, up3_row z⟩)) (gOk_saR hR.2.2 hv) q1 q2
end GH
end
section
/-! OUR OWN FRAME (4): new things, statics, calls -/
theorem gOk_new {S : gS} {k j t : Nat} (h : gOk S) (h9 : 9 ≤ k → t = 0) : gOk (snew S k j t) := by
  refine ⟨fun q hq hk => ?_, fun q hq i r hi e => ?_, fun q hq i r e => ?_⟩
  · rcases List.mem_append.mp hq with hq | hq
    · exact h.1 q hq hk
    · cases List.mem_singleton.mp hq
      exact h9 hk
  · have e : (if (32 * q.1 + i) / 32 = k ∧ q.2.1 = j ∧ q.2.2 = t then none else fR S (32 * q.1 + i) q.2.1 q.2.2) = some r := e
    split at e
    · cases e
    · rename_i hne
      rcases List.mem_append.mp hq with hq | hq
      · exact List.mem_append_left _ (h.2.1 q hq i r hi e)
      · cases List.mem_singleton.mp hq
        exact absurd ⟨by show (32 * k + i) / 32 = k; omega, rfl, rfl⟩ hne
  · have e : (if q.1 = k ∧ q.2.1 = j then none else aR S q.1 q.2.1 i) = some r := e
    split at e
    · cases e
    · rename_i hne
      rcases List.mem_append.mp hq with hq | hq
      · exact List.mem_append_left _ (h.2.2 q hq i r e)
      · cases List.mem_singleton.mp hq
        exact absurd ⟨rfl, rfl⟩ hne
def gup (ad : gAd) (q : gId) (a : Nat) : gAd := fun k j t => if (k, j, t) = q then a else ad k j t
theorem gup_at (ad : gAd) (q : gId) (a : Nat) : gad (gup ad q a) q = a := by
  show (if (q.1, q.2.1, q.2.2) = q then a else _) = a
  rw [if_pos rfl]
theorem gup_ne (ad : gAd) {q r : gId} (a : Nat) (h : r ≠ q) : gad (gup ad q a) r = gad ad r := by
  show (if (r.1, r.2.1, r.2.2) = q then a else _) = _
  rw [if_neg h]
  rfl
theorem gup_ag (ad : gAd) (q : gId) (a : Nat) : gAg ad (gup ad q a) [q] := fun r hr => gup_ne ad a (fun z => hr (by rw [z]; exact List.mem_singleton.mpr rfl))
theorem gro_up {ad : gAd} {q : gId} {a : Nat} {r : Option gId} (h : ∀ x, r = some x → x ≠ q) : gro (gup ad q a) r = gro ad r := by
  cases r with
  | none => rfl
  | some x => exact congrArg some (gup_ne ad a (h x rfl))
theorem gcell_ad {cy : Nat → ClassId} {S : gS} {ad : gAd} {q r : gId} {a : Nat} (hok : gOk S) (hr : r ∈ gL S) (hq : q ∉ gL S) : gcell cy S (gup ad q a) r = gcell cy S ad r := by
  have ne : ∀ x, x ∈ gL S → x ≠ q := fun x hx z => hq (z ▸ hx)
  obtain ⟨k, j, t⟩ := r
  by_cases h9 : k < 9
  · rw [gcell_O h9, gcell_O h9]
    congr 2
    refine List.map_congr_left fun x hx => ?_
    have hx2 : x < 32 := by have h1 := List.mem_range.mp hx; have h2 := gnF_le k; omega
    unfold gfv
    by_cases hr2 : gisR (32 * k + x) = true
    · rw [if_pos hr2, if_pos hr2, gro_up (fun y hy => ne y (hok.2.1 _ hr x y hx2 hy))]
    · rw [if_neg hr2, if_neg hr2]
  · rw [gcell_A h9, gcell_A h9]
    unfold gcA
    by_cases h4 : gaT k = 4
    · rw [if_pos h4, if_pos h4]
    · rw [if_neg h4, if_neg h4]
      by_cases h5 : 5 ≤ gaT k
      · rw [if_pos h5, if_pos h5]
        have : (fun i => gro (gup ad q a) (aR S k j i)) = fun i => gro ad (aR S k j i) := funext fun i => gro_up (fun y hy => ne y (hok.2.2 _ hr i y hy))
        rw [this]
      · rw [if_neg h5, if_neg h5]
theorem gRep_new {E : gE} {S S' : gS} {ad : gAd} {H H1 : Heap} {q : gId} {a : Nat} {e9 : va_E} (hR : gRep E S ad H) (hq : q ∉ gL S) (hL : gL S' = gL S ++ [q]) (ho : ∀ r ∈ gL S, r ≠ q → gcell (eC E) S' (gup ad q a) r = gcell (eC E) S (gup ad q a) r) (he : gcell (eC E) S' (gup ad q a) q = e9) (hok : gOk S') (hP : va_P (eD E) vwCl (gws (eC E) S ad ++ [(a, e9)]) H1) (hD : va_D (eF E) (gws (eC E) S ad ++ [(a, e9)])) : gRep E S' (gup ad q a) H1 := by
  have z : gws (eC E) S' (gup ad q a) = gws (eC E) S ad ++ [(a, e9)] := by
    rw [gws, hL, List.map_append, List.map_singleton, gup_at, he]
    congr 1
    exact List.map_congr_left fun r hr => by
      have hne : r ≠ q := fun z => hq (z ▸ hr)
      rw [gup_ne ad a hne, ho r hr hne, gcell_ad hR.2.2 hr hq]
  exact ⟨by rw [z]; exact hP, by rw [z]; exact hD, hok⟩
theorem gcell_new {cy : Nat → ClassId} {S : gS} {ad : gAd} {k j t : Nat} (hok : gOk S) (h9 : 9 ≤ k → t = 0) {r : gId} (hr : r ∈ gL S) (hne : r ≠ (k, j, t)) : gcell cy (snew S k j t) ad r = gcell cy S ad r := by
  obtain ⟨k', j', t'⟩ := r
  by_cases hk : k' < 9
  · rw [gcell_O hk, gcell_O hk]
    congr 2
    refine List.map_congr_left fun x hx => ?_
    have hx2 : x < 32 := by have h1 := List.mem_range.mp hx; have h2 := gnF_le k'; omega
    have hc : ¬ ((32 * k' + x) / 32 = k ∧ j' = j ∧ t' = t) := by
      rintro ⟨e1, e2, e3⟩
      have : k' = k := by omega
      exact hne (by rw [this, e2, e3])
    unfold gfv
    by_cases hr2 : gisR (32 * k' + x) = true
    · rw [if_pos hr2, if_pos hr2]
      show va_rf (gro ad (if _ then _ else _)) = _
      rw [if_neg hc]
    · rw [if_neg hr2, if_neg hr2]
      show Value.int (if _ then _ else _) = _
      rw [if_neg hc]
  · have hc : ¬ (k' = k ∧ j' = j) := by
      rintro ⟨e1, e2⟩
      have h1 := hok.1 _ hr (Nat.not_lt.mp hk)
      have h2 := h9 (by omega)
      exact hne (by rw [e1, e2]; exact congrArg (fun z => (k, j, z)) (by simp only at h1; omega))
    rw [gcell_A hk, gcell_A hk]
    refine gcA_eq ?_ ?_ ?_ <;> (funext i; exact if_neg hc)
section GN
variable {E : gE} {M : gM} {B : gB} {pc pc' : Nat} {ls : List (Option gV)} {st : List gV} {S : gS} {cs sl : Nat}
theorem g_new {k j t idx : Nat} {C : String} {T : u_T} {N : Nat} {ty : Nat → FieldType} (cf : gCF k C T N ty) (hw1 : Cond.classLink M.1.cls idx C ∈ lwG) (hw2 : Cond.instantiable C N ∈ lwG) (hw3 : Cond.initialized C ∈ lwG) (d : decode M.2.1 pc = .ok (.new idx, 3)) (e : pc + 3 = pc') (hf : (k, j, t) ∉ gL S) (hN : (k, j, t) ∈ bN B) (hls : ∀ v, some v ∈ ls → gNo [(k, j, t)] v) (hst : ∀ v ∈ st, gNo [(k, j, t)] v) (hc : cs + 1 ≤ bC B) (hs : sl + N ≤ bS B) (h : gG E M B pc' ls (vR k j t :: st) (snew S k j t) (cs + 1) (sl + N)) : gG E M B pc ls st S cs sl := by
  subst e
  intro p e s m args below meth c QS hC hE H locs ad lsr hl hS hR hA
  obtain ⟨c0, c1, c2, c3, c4, c5, c6, c7⟩ := cf
  have hts := hC.2.2.2.2.2.2.2.1
  have hK := hC.2.2.2.2.2.2.2.2.1
  refine va_new (D := eD E) (ci := k) (fs := (List.range N).map (fun i => if gisR (32 * k + i) = true then Value.null else .int 0)) hC.1 hC.2.1 hts c2 ty c3 hC.2.2.2.2.1 (hts _ hw1) (hts _ hw2) (hts _ hw3) hK.1 hR.1 hR.2.1 hS (fun q hq => Nat.le_trans hK.2.2.2.2.2.2 hq) c1 (fun i hi => by rw [c6 i hi]; simp [vp_V, hi]) (Nat.le_trans hc hC.2.2.2.2.2.2.2.2.2.1) (Nat.le_trans hs hC.2.2.2.2.2.2.2.2.2.2) d (fun q H1 q1 q2 q3 => ?_)
  have hag := gup_ag ad (k, j, t) q
  have z := h p e s m args below meth c QS hC hE H1 locs (gup ad (k, j, t) q) lsr (by rw [hag.ls 0 hls]; exact hl) q3 (gRep_new hR hf rfl (fun r hr hne => gcell_new hR.2.2 (fun h9 => absurd c0 (Nat.not_lt.mpr h9)) hr hne) (by
    rw [gcell_O c0, gcO, c5]
    congr 2
    refine List.map_congr_left fun x hx => ?_
    have hx2 : x < 32 := by have h1 := List.mem_range.mp hx; have h2 := gnF_le k; omega
    have hd : (32 * k + x) / 32 = k := by omega
    unfold gfv
    by_cases hr2 : gisR (32 * k + x) = true
    · rw [if_pos hr2, if_pos hr2]
      show va_rf (gro _ (if _ then _ else _)) = _
      rw [if_pos ⟨hd, rfl, rfl⟩]
      rfl
    · rw [if_neg hr2, if_neg hr2]
      show Value.int (if _ then _ else _) = _
      rw [if_pos ⟨hd, rfl, rfl⟩]) (gOk_new hR.2.2 (fun h9 => absurd c0 (Nat.not_lt.mpr h9))) q1 q2) (hA.tr (hag.mono (fun r hr => by rw [List.mem_singleton.mp hr]; exact hN)))
  rw [List.map_cons, hag.st hst] at z
  have e0 : gre (gup ad (k, j, t) q) (vR k j t) = .ref q := congrArg Value.ref (gup_at ad (k, j, t) q)
  rw [e0] at z
  exact z
theorem g_newaI {k j : Nat} {x : Int32} (hw : Cond.arrayClass (newarray.typeOf .int) ∈ lwG) (d : decode M.2.1 pc = .ok (.newarray .int, 2)) (e : pc + 2 = pc') (hk : ¬ k < 9) (hT : gaT k = 1) (hx0 : ¬ x < 0) (hx : x.toNatClampNeg = gaN k) (hby : gaN k * componentBytes .int ≤ 536870912) (hf : (k, j, 0) ∉ gL S) (hN : (k, j, 0) ∈ bN B) (hls : ∀ v, some v ∈ ls → gNo [(k, j, 0)] v) (hst : ∀ v ∈ st, gNo [(k, j, 0)] v) (hc : cs + 1 ≤ bC B) (hs : sl + gaN k ≤ bS B) (h : gG E M B pc' ls (vR k j 0 :: st) (snew S k j 0) (cs + 1) (sl + gaN k)) : gG E M B pc ls (vI x :: st) S cs sl := by
  subst e
  intro p e s m args below meth c QS hC hE H locs ad lsr hl hS hR hA
  have hts := hC.2.2.2.2.2.2.2.1
  have hK := hC.2.2.2.2.2.2.2.2.1
  refine va_newa (D := eD E) (atype := .int) (ty := .int) (a0 := (gaN k, .inl (fun _ => 0))) hC.1 hC.2.1 (hts _ hw) rfl hK.1 hR.1 hR.2.1 hS (fun q hq => Nat.le_trans hK.2.2.2.2.2.2 hq) (fun _ => rfl) hx0 hx hby (Nat.le_trans hc hC.2.2.2.2.2.2.2.2.2.1) (Nat.le_trans hs hC.2.2.2.2.2.2.2.2.2.2) d (fun q cA H1 q0 q1 q2 q3 => ?_)
  have hcA : cA = eC E 1 := by
    have z1 := (q0.2 6 (cA, .int) rfl).2
    have z2 := (hK.1.2 0 _ rfl).2
    exact Option.some.inj (z1.symm.trans z2)
  subst hcA
  have hag := gup_ag ad (k, j, 0) q
  have hrow : aI (snew S k j 0) k j = fun _ => 0 := by funext i; exact if_pos ⟨rfl, rfl⟩
  have z := h p e s m args below meth c QS hC hE H1 locs (gup ad (k, j, 0) q) lsr (by rw [hag.ls 0 hls]; exact hl) q3 (gRep_new hR hf rfl (fun r hr hne => gcell_new hR.2.2 (fun _ => rfl) hr hne) (by rw [gcell_I hk (by rw [hT]; decide) (by rw [hT]; decide), hT, hrow]) (gOk_new hR.2.2 (fun _ => rfl)) q1 q2) (hA.tr (hag.mono (fun r hr => by rw [List.mem_singleton.mp hr]; exact hN)))
  rw [List.map_cons, hag.st hst] at z
  have e0 : gre (gup ad (k, j, 0) q) (vR k j 0) = .ref q := congrArg Value.ref (gup_at ad (k, j, 0) q)
  rw [e0] at z
  exact z
theorem g_newaC {k j : Nat} {x : Int32} (hw : Cond.arrayClass (newarray.typeOf .char) ∈ lwG) (d : decode M.2.1 pc = .ok (.newarray .char, 2)) (e : pc + 2 = pc') (hk : ¬ k < 9) (hT : gaT k = 2) (hx0 : ¬ x < 0) (hx : x.toNatClampNeg = gaN k) (hby : gaN k * componentBytes .char ≤ 536870912) (hf : (k, j, 0) ∉ gL S) (hN : (k, j, 0) ∈ bN B) (hls : ∀ v, some v ∈ ls → gNo [(k, j, 0)] v) (hst : ∀ v ∈ st, gNo [(k, j, 0)] v) (hc : cs + 1 ≤ bC B) (hs : sl + gaN k ≤ bS B) (h : gG E M B pc' ls (vR k j 0 :: st) (snew S k j 0) (cs + 1) (sl + gaN k)) : gG E M B pc ls (vI x :: st) S cs sl := by
  subst e
  intro p e s m args below meth c QS hC hE H locs ad lsr hl hS hR hA
  have hts := hC.2.2.2.2.2.2.2.1
  have hK := hC.2.2.2.2.2.2.2.2.1
  refine va_newa (D := eD E) (atype := .char) (ty := .char) (a0 := (gaN k, .inl (fun _ => 0))) hC.1 hC.2.1 (hts _ hw) rfl hK.1 hR.1 hR.2.1 hS (fun q hq => Nat.le_trans hK.2.2.2.2.2.2 hq) (fun _ => rfl) hx0 hx hby (Nat.le_trans hc hC.2.2.2.2.2.2.2.2.2.1) (Nat.le_trans hs hC.2.2.2.2.2.2.2.2.2.2) d (fun q cA H1 q0 q1 q2 q3 => ?_)
  have hcA : cA = eC E 2 := by
    have z1 := (q0.2 6 (cA, .char) rfl).2
    have z2 := (hK.1.2 1 _ rfl).2
    exact Option.some.inj (z1.symm.trans z2)
  subst hcA
  have hag := gup_ag ad (k, j, 0) q
  have hrow : aI (snew S k j 0) k j = fun _ => 0 := by funext i; exact if_pos ⟨rfl, rfl⟩
  have z := h p e s m args below meth c QS hC hE H1 locs (gup ad (k, j, 0) q) lsr (by rw [hag.ls 0 hls]; exact hl) q3 (gRep_new hR hf rfl (fun r hr hne => gcell_new hR.2.2 (fun _ => rfl) hr hne) (by rw [gcell_I hk (by rw [hT]; decide) (by rw [hT]; decide), hT, hrow]) (gOk_new hR.2.2 (fun _ => rfl)) q1 q2) (hA.tr (hag.mono (fun r hr => by rw [List.mem_singleton.mp hr]; exact hN)))
  rw [List.map_cons, hag.st hst] at z
  have e0 : gre (gup ad (k, j, 0) q) (vR k j 0) = .ref q := congrArg Value.ref (gup_at ad (k, j, 0) q)
  rw [e0] at z
  exact z
theorem g_newaZ {k j : Nat} {x : Int32} (hw : Cond.arrayClass (newarray.typeOf .boolean) ∈ lwG) (d : decode M.2.1 pc = .ok (.newarray .boolean, 2)) (e : pc + 2 = pc') (hk : ¬ k < 9) (hT : gaT k = 3) (hx0 : ¬ x < 0) (hx : x.toNatClampNeg = gaN k) (hby : gaN k * componentBytes .boolean ≤ 536870912) (hf : (k, j, 0) ∉ gL S) (hN : (k, j, 0) ∈ bN B) (hls : ∀ v, some v ∈ ls → gNo [(k, j, 0)] v) (hst : ∀ v ∈ st, gNo [(k, j, 0)] v) (hc : cs + 1 ≤ bC B) (hs : sl + gaN k ≤ bS B) (h : gG E M B pc' ls (vR k j 0 :: st) (snew S k j 0) (cs + 1) (sl + gaN k)) : gG E M B pc ls (vI x :: st) S cs sl := by
  subst e
  intro p e s m args below meth c QS hC hE H locs ad lsr hl hS hR hA
  have hts := hC.2.2.2.2.2.2.2.1
  have hK := hC.2.2.2.2.2.2.2.2.1
  refine va_newa (D := eD E) (atype := .boolean) (ty := .boolean) (a0 := (gaN k, .inl (fun _ => 0))) hC.1 hC.2.1 (hts _ hw) rfl hK.1 hR.1 hR.2.1 hS (fun q hq => Nat.le_trans hK.2.2.2.2.2.2 hq) (fun _ => rfl) hx0 hx hby (Nat.le_trans hc hC.2.2.2.2.2.2.2.2.2.1) (Nat.le_trans hs hC.2.2.2.2.2.2.2.2.2.2) d (fun q cA H1 q0 q1 q2 q3 => ?_)
  have hcA : cA = eC E 3 := by
    have z1 := (q0.2 6 (cA, .boolean) rfl).2
    have z2 := (hK.1.2 2 _ rfl).2
    exact Option.some.inj (z1.symm.trans z2)
  subst hcA
  have hag := gup_ag ad (k, j, 0) q
  have hrow : aI (snew S k j 0) k j = fun _ => 0 := by funext i; exact if_pos ⟨rfl, rfl⟩
  have z := h p e s m args below meth c QS hC hE H1 locs (gup ad (k, j, 0) q) lsr (by rw [hag.ls 0 hls]; exact hl) q3 (gRep_new hR hf rfl (fun r hr hne => gcell_new hR.2.2 (fun _ => rfl) hr hne) (by rw [gcell_I hk (by rw [hT]; decide) (by rw [hT]; decide), hT, hrow]) (gOk_new hR.2.2 (fun _ => rfl)) q1 q2) (hA.tr (hag.mono (fun r hr => by rw [List.mem_singleton.mp hr]; exact hN)))
  rw [List.map_cons, hag.st hst] at z
  have e0 : gre (gup ad (k, j, 0) q) (vR k j 0) = .ref q := congrArg Value.ref (gup_at ad (k, j, 0) q)
  rw [e0] at z
  exact z
theorem g_newaJ {k j : Nat} {x : Int32} (hw : Cond.arrayClass (newarray.typeOf .long) ∈ lwG) (d : decode M.2.1 pc = .ok (.newarray .long, 2)) (e : pc + 2 = pc') (hk : ¬ k < 9) (hT : gaT k = 4) (hx0 : ¬ x < 0) (hx : x.toNatClampNeg = gaN k) (hby : gaN k * componentBytes .long ≤ 536870912) (hf : (k, j, 0) ∉ gL S) (hN : (k, j, 0) ∈ bN B) (hls : ∀ v, some v ∈ ls → gNo [(k, j, 0)] v) (hst : ∀ v ∈ st, gNo [(k, j, 0)] v) (hc : cs + 1 ≤ bC B) (hs : sl + gaN k ≤ bS B) (h : gG E M B pc' ls (vR k j 0 :: st) (snew S k j 0) (cs + 1) (sl + gaN k)) : gG E M B pc ls (vI x :: st) S cs sl := by
  subst e
  intro p e s m args below meth c QS hC hE H locs ad lsr hl hS hR hA
  have hts := hC.2.2.2.2.2.2.2.1
  have hK := hC.2.2.2.2.2.2.2.2.1
  refine va_newa (D := eD E) (atype := .long) (ty := .long) (a0 := (gaN k, .inr (.inl (fun _ => 0)))) hC.1 hC.2.1 (hts _ hw) rfl hK.1 hR.1 hR.2.1 hS (fun q hq => Nat.le_trans hK.2.2.2.2.2.2 hq) (fun _ => rfl) hx0 hx hby (Nat.le_trans hc hC.2.2.2.2.2.2.2.2.2.1) (Nat.le_trans hs hC.2.2.2.2.2.2.2.2.2.2) d (fun q cA H1 q0 q1 q2 q3 => ?_)
  have hcA : cA = eC E 4 := by
    have z1 := (q0.2 6 (cA, .long) rfl).2
    have z2 := (hK.1.2 3 _ rfl).2
    exact Option.some.inj (z1.symm.trans z2)
  subst hcA
  have hag := gup_ag ad (k, j, 0) q
  have hrow : aL (snew S k j 0) k j = fun _ => 0 := by funext i; exact if_pos ⟨rfl, rfl⟩
  have z := h p e s m args below meth c QS hC hE H1 locs (gup ad (k, j, 0) q) lsr (by rw [hag.ls 0 hls]; exact hl) q3 (gRep_new hR hf rfl (fun r hr hne => gcell_new hR.2.2 (fun _ => rfl) hr hne) (by rw [gcell_L hk hT, hrow]) (gOk_new hR.2.2 (fun _ => rfl)) q1 q2) (hA.tr (hag.mono (fun r hr => by rw [List.mem_singleton.mp hr]; exact hN)))
  rw [List.map_cons, hag.st hst] at z
  have e0 : gre (gup ad (k, j, 0) q) (vR k j 0) = .ref q := congrArg Value.ref (gup_at ad (k, j, 0) q)
  rw [e0] at z
  exact z
theorem g_anewJob {k j idx : Nat} {x : Int32} (hw : Cond.classLink M.1.cls idx RX2 ∈ lwG) (d : decode M.2.1 pc = .ok (.anewarray idx, 3)) (e : pc + 3 = pc') (hk : ¬ k < 9) (hT : gaT k = 5) (hx0 : ¬ x < 0) (hx : x.toNatClampNeg = gaN k) (hby : gaN k * 4 ≤ 536870912) (hf : (k, j, 0) ∉ gL S) (hN : (k, j, 0) ∈ bN B) (hls : ∀ v, some v ∈ ls → gNo [(k, j, 0)] v) (hst : ∀ v ∈ st, gNo [(k, j, 0)] v) (hc : cs + 1 ≤ bC B) (hs : sl + gaN k ≤ bS B) (h : gG E M B pc' ls (vR k j 0 :: st) (snew S k j 0) (cs + 1) (sl + gaN k)) : gG E M B pc ls (vI x :: st) S cs sl := by
  subst e
  intro p e s m args below meth c QS hC hE H locs ad lsr hl hS hR hA
  have hts := hC.2.2.2.2.2.2.2.1
  have hK := hC.2.2.2.2.2.2.2.2.1
  refine va_newq (D := eD E) hC.1 hC.2.1 hC.2.2.2.2.1 (hts _ hw) hK.2.2.2.1.1 hK.1 hR.1 hR.2.1 hS (fun q hq => Nat.le_trans hK.2.2.2.2.2.2 hq) hx0 hx hby (Nat.le_trans hc hC.2.2.2.2.2.2.2.2.2.1) (Nat.le_trans hs hC.2.2.2.2.2.2.2.2.2.2) d (fun q cA H1 q0 q1 q2 q3 => ?_)
  have hcA : cA = eC E 5 := by
    obtain ⟨_, _, _, _, _, z1⟩ := (q0.2 6 (cA, .object RX2) rfl).2
    obtain ⟨_, _, _, _, _, z2⟩ := (hK.1.2 4 _ rfl).2
    exact Option.some.inj (z1.symm.trans z2)
  subst hcA
  have hag := gup_ag ad (k, j, 0) q
  have hrow : (fun i => gro (gup ad (k, j, 0) q) (aR (snew S k j 0) k j i)) = fun _ => none := by
    funext i
    show gro _ (if _ then _ else _) = _
    rw [if_pos ⟨rfl, rfl⟩]
    rfl
  have z := h p e s m args below meth c QS hC hE H1 locs (gup ad (k, j, 0) q) lsr (by rw [hag.ls 0 hls]; exact hl) q3 (gRep_new hR hf rfl (fun r hr hne => gcell_new hR.2.2 (fun _ => rfl) hr hne) (by rw [gcell_Q hk (by rw [hT]; decide), hT, hrow]) (gOk_new hR.2.2 (fun _ => rfl)) q1 q2) (hA.tr (hag.mono (fun r hr => by rw [List.mem_singleton.mp hr]; exact hN)))
  rw [List.map_cons, hag.st hst] at z
  have e0 : gre (gup ad (k, j, 0) q) (vR k j 0) = .ref q := congrArg Value.ref (gup_at ad (k, j, 0) q)
  rw [e0] at z
  exact z
theorem g_anewTask {k j idx : Nat} {x : Int32} (hw : Cond.classLink M.1.cls idx RX5 ∈ lwG) (d : decode M.2.1 pc = .ok (.anewarray idx, 3)) (e : pc + 3 = pc') (hk : ¬ k < 9) (hT : gaT k = 6) (hx0 : ¬ x < 0) (hx : x.toNatClampNeg = gaN k) (hby : gaN k * 4 ≤ 536870912) (hf : (k, j, 0) ∉ gL S) (hN : (k, j, 0) ∈ bN B) (hls : ∀ v, some v ∈ ls → gNo [(k, j, 0)] v) (hst : ∀ v ∈ st, gNo [(k, j, 0)] v) (hc : cs + 1 ≤ bC B) (hs : sl + gaN k ≤ bS B) (h : gG E M B pc' ls (vR k j 0 :: st) (snew S k j 0) (cs + 1) (sl + gaN k)) : gG E M B pc ls (vI x :: st) S cs sl := by
  subst e
  intro p e s m args below meth c QS hC hE H locs ad lsr hl hS hR hA
  have hts := hC.2.2.2.2.2.2.2.1
  have hK := hC.2.2.2.2.2.2.2.2.1
  refine va_newq (D := eD E) hC.1 hC.2.1 hC.2.2.2.2.1 (hts _ hw) hK.2.2.2.1.2 hK.1 hR.1 hR.2.1 hS (fun q hq => Nat.le_trans hK.2.2.2.2.2.2 hq) hx0 hx hby (Nat.le_trans hc hC.2.2.2.2.2.2.2.2.2.1) (Nat.le_trans hs hC.2.2.2.2.2.2.2.2.2.2) d (fun q cA H1 q0 q1 q2 q3 => ?_)
  have hcA : cA = eC E 6 := by
    obtain ⟨_, _, _, _, _, z1⟩ := (q0.2 6 (cA, .object RX5) rfl).2
    obtain ⟨_, _, _, _, _, z2⟩ := (hK.1.2 5 _ rfl).2
    exact Option.some.inj (z1.symm.trans z2)
  subst hcA
  have hag := gup_ag ad (k, j, 0) q
  have hrow : (fun i => gro (gup ad (k, j, 0) q) (aR (snew S k j 0) k j i)) = fun _ => none := by
    funext i
    show gro _ (if _ then _ else _) = _
    rw [if_pos ⟨rfl, rfl⟩]
    rfl
  have z := h p e s m args below meth c QS hC hE H1 locs (gup ad (k, j, 0) q) lsr (by rw [hag.ls 0 hls]; exact hl) q3 (gRep_new hR hf rfl (fun r hr hne => gcell_new hR.2.2 (fun _ => rfl) hr hne) (by rw [gcell_Q hk (by rw [hT]; decide), hT, hrow]) (gOk_new hR.2.2 (fun _ => rfl)) q1 q2) (hA.tr (hag.mono (fun r hr => by rw [List.mem_singleton.mp hr]; exact hN)))
  rw [List.map_cons, hag.st hst] at z
  have e0 : gre (gup ad (k, j, 0) q) (vR k j 0) = .ref q := congrArg Value.ref (gup_at ad (k, j, 0) q)
  rw [e0] at z
  exact z
theorem g_gets {i idx : Nat} {C n : String} (hi : ∀ s H, gKS E s H → gZT E i C n s H) (hw : Cond.fieldLink M.1.cls idx C n "[I" ∈ lwG) (d : decode M.2.1 pc = .ok (.getstatic idx, 3)) (e : pc + 3 = pc') (h : gG E M B pc' ls (.inl (.ref (eA E i)) :: st) S cs sl) : gG E M B pc ls st S cs sl := by
  subst e
  intro p e s m args below meth c QS hC hE H locs ad lsr hl hS hR hA
  exact va_gets hC.1 hC.2.1 (hi _ _ hC.2.2.2.2.2.2.2.2.1).1 hS hC.2.2.2.2.1 (hC.2.2.2.2.2.2.2.1 _ hw) (fun _ h9 => h9) d (h p e s m args below meth c QS hC hE H locs ad lsr hl hS hR hA)
theorem g_tab {i n : Nat} {C nm : String} {x : Int32} (hi : ∀ s H, gKS E s H → gZT E i C nm s H) (d : decode M.2.1 pc = .ok (.iaload, 1)) (e : pc + 1 = pc') (hx : x = nI n) (hn : n < (gtab i).length) (hlt : (gtab i).length < 2 ^ 31) (h : gG E M B pc' ls (vI ((gtab i).getD n 0) :: st) S cs sl) : gG E M B pc ls (vI x :: .inl (.ref (eA E i)) :: st) S cs sl := by
  subst e
  intro p e s m args below meth c QS hC hE H locs ad lsr hl hS hR hA
  subst hx
  exact va_ti hC.1 hC.2.1 (hi _ _ hC.2.2.2.2.2.2.2.2.1).2 hS (vp_in_nI hn hlt) (by rw [nI_clamp (Nat.lt_trans hn hlt)]; rfl) d (h p e s m args below meth c QS hC hE H locs ad lsr hl hS hR hA)
theorem g_objInit {q : gId} {idx : Nat} (hw1 : Cond.methodLink M.1.cls idx objectInit ∈ lwG) (hw2 : Cond.instanceMethod objectInit ∈ lwG) (hw3 : Cond.code objectInit ⟨#[0xb1]⟩ 1 none ∈ lwG) (d : decode M.2.1 pc = .ok (.invokespecial idx, 3)) (e : pc + 3 = pc') (hf : 1 ≤ (bR B).frames) (hlo : (st.map gcat).sum + 12 ≤ (bR B).locals) (h : gG E M B pc' ls st S cs sl) : gG E M B pc ls (.inr q :: st) S cs sl := by
  subst e
  intro p e s m args below meth c QS hC hE H locs ad lsr hl hS hR hA
  have hts := hC.2.2.2.2.2.2.2.1
  have hsum : ((st.map (gre ad)).map fun v => v.category).sum = (st.map gcat).sum := by
    rw [List.map_map]; congr 1; exact List.map_congr_left fun v _ => gre_cat ad v
  refine W.objInit (a := gad ad q) hC.1 hC.2.1 hC.2.2.2.2.1 (hts _ hw1) (hts _ hw2) (hts _ hw3) rfl (by rw [hC.2.2.2.1]; exact hl.1) rfl d hf (by show 2 * 0 + _ + 12 ≤ _; rw [hsum]; omega) ?_
  exact h p e s m args below meth c QS hC hE H locs ad lsr hl hS hR hA
theorem g_castA {k j idx : Nat} (hk : ¬ k < 9) (hT : gaT k = 4) (hw : Cond.classLink M.1.cls idx "[J" ∈ lwG) (d : decode M.2.1 pc = .ok (.checkcast idx, 3)) (e : pc + 3 = pc') (hlv : lv S k j 0) (h : gG E M B pc' ls (vR k j 0 :: st) S cs sl) : gG E M B pc ls (vR k j 0 :: st) S cs sl := by
  subst e
  intro p e s m args below meth c QS hC hE H locs ad lsr hl hS hR hA
  obtain ⟨i0, h1, h2⟩ := gws_at (cy := eC E) (ad := ad) hlv
  rw [gcell_L hk hT] at h2
  have hnm : s.vm.findClass "[J" = some (eC E 4) := (hC.2.2.2.2.2.2.2.2.1.1.2 3 _ rfl).2
  exact va_castA (D := eD E) hC.1 hC.2.1 hC.2.2.2.2.1 (hC.2.2.2.2.2.2.2.1 _ hw) hR.1 i0 h2 hnm d (h p e s m args below meth c QS hC hE H locs ad lsr hl hS hR hA)
end GN
/-! calls -/
theorem gGood {ws : List Cond} (h : ∀ w ∈ ws, w ∈ lwG) : GoodIn lwG ws := fun w hw => ⟨h w hw, good_of_word (List.mem_filter.mp (h w hw)).2⟩
abbrev gpush (r : Option gV) (rest : List gV) : List gV := match r with
  | none => rest
  | some v => v :: rest
def gCV (own : String) (idx : Nat) (My : gM) (n : Nat) : Prop := Cond.methodLink own idx My.1 ∈ lwG ∧ Cond.instanceMethod My.1 ∈ lwG ∧ Cond.selects My.1.cls My.1 My.1 ∈ lwG ∧ Cond.initialized My.1.cls ∈ lwG ∧ Cond.code My.1 My.2.1 My.2.2.1 My.2.2.2 ∈ lwG ∧ My.1.cls ≠ "java/lang/invoke/MethodHandle" ∧ My.1.cls ≠ "java/lang/invoke/VarHandle" ∧ (parseMethodDescriptor My.1.desc).map (fun d => d.parameters.length) = some n
def gCS (own : String) (idx : Nat) (My : gM) (n : Nat) : Prop := Cond.methodLink own idx My.1 ∈ lwG ∧ Cond.static My.1 ∈ lwG ∧ Cond.initialized My.1.cls ∈ lwG ∧ Cond.code My.1 My.2.1 My.2.2.1 My.2.2.2 ∈ lwG ∧ My.1.cls ≠ "java/lang/invoke/MethodHandle" ∧ My.1.cls ≠ "java/lang/invoke/VarHandle" ∧ (parseMethodDescriptor My.1.desc).map (fun d => d.parameters.length) = some n
def gCI (own : String) (idx : Nat) (My : gM) (n : Nat) : Prop := (Cond.methodLink own idx My.1 ∈ lwG ∨ ∃ host, Cond.methodLinkNest own idx My.1 host ∈ lwN) ∧ Cond.instanceMethod My.1 ∈ lwG ∧ My.1.name = "<init>" ∧ My.2.2.2 = none ∧ Cond.initialized My.1.cls ∈ lwG ∧ Cond.code My.1 My.2.1 My.2.2.1 My.2.2.2 ∈ lwG ∧ My.1.cls ≠ "java/lang/invoke/MethodHandle" ∧ My.1.cls ≠ "java/lang/invoke/VarHandle" ∧ (parseMethodDescriptor My.1.desc).map (fun d => d.parameters.length) = some n
section GCALL
variable {E : gE} {M : gM} {B : gB} {pc pc' : Nat} {ls : List (Option gV)} {rest : List gV} {S : gS} {cs sl : Nat}
/-- behind a call -/
theorem g_back {My : gM} {d mc ms : Nat} {as : List gV} {Nw : List gId} {st : List gV} (e : pc + 3 = pc') (hls : ∀ v, some v ∈ ls → gNo Nw v) (hst : ∀ v ∈ rest, gNo Nw v) (hNw : ∀ q ∈ Nw, q ∈ bN B)
    (hr : ∀ (p : Program) (e : Env) (s : State) (m : MethodId) (args : Array Value) (below : List Frame) (meth : Method) (c : Code), gCx E M B p s m args meth c → ∀ (H : Heap) (locs : List Loc) (ad : gAd) (lsr : Array Slot), lv_has lsr M.2.2.1 (glo ad 0 ls) → va_S (eF E) s.heap H locs → gRep E S ad H →
      va_Run p E.1 e (bR B) s m args below meth c H locs cs sl mc ms (F0 m pc lsr (st.map (gre ad))) (rest.map (gre ad)) (gQc E ad Nw (fun r S' => gG E M B pc' ls (gpush r rest) S' (cs + mc) (sl + ms)) (as.map (gre ad)).toArray) (eF E)) : gG E M B pc ls st S cs sl := by
  subst e
  intro p e s m args below meth c QS hC hE H locs ad lsr hl hS hR hA T hT X
  obtain ⟨v, st₀, t, T', L, h0, X', hL, e1, e2, ⟨⟨r, S', ad', hv, hq, hrep, hag⟩, hz, hk⟩, stp⟩ := hr p e s m args below meth c hC H locs ad lsr hl hS hR T hT X
  have hv : v = r.map (gre ad') := Outcome.returned.inj hv
  subst hv
  rw [h0] at hz hk
  have hS' : va_S (eF E) s.heap T'.heap (locs ++ L) := ⟨Nat.le_trans hS.1 (by rw [e1]; exact hz), fun q h1 h2 => by rw [e1, hk q (Nat.lt_of_lt_of_le h1 hS.1) h2]; exact hS.2.1 q h1 h2, fun q hq => by
    rcases List.mem_append.mp hq with h | h
    · exact hS.2.2 q h
    · exact hL q h⟩
  obtain ⟨t2, a1, b1⟩ := hq p e s m args below meth c QS hC hE T'.heap (locs ++ L) ad' lsr (by rw [hag.ls 0 hls]; exact hl) hS' (by rw [e1]; exact hrep) (hA.tr (hag.mono hNw)) T' rfl X'
  refine ⟨t2, stp t2 ?_, b1⟩
  have z : (gpush r rest).map (gre ad') = (r.map (gre ad')).toList ++ rest.map (gre ad) := by
    rw [← hag.st hst]
    cases r <;> rfl
  rw [z] at a1
  exact a1
theorem gPre {s : State} {m : MethodId} {args : Array Value} {meth : Method} {c : Code} {p : Program} (hC : gCx E M B p s m args meth c) {H : Heap} {locs : List Loc} {ad : gAd} (hS : va_S (eF E) s.heap H locs) (hR : gRep E S ad H) {as : List gV} : ∀ U : State, U.heap = H → s.WarmedH U.vm → gPc E as S ad (as.map (gre ad)).toArray U := by
  intro U hU hW
  refine ⟨rfl, by rw [hU]; exact hR, ?_⟩
  rw [hU]
  exact hC.2.2.2.2.2.2.2.2.1.go hW hS.1 (fun a h1 h2 => hS.2.1 a h1 h2)
theorem gsum {ad : gAd} {st : List gV} : ((st.map (gre ad)).map fun v => v.category).sum = (st.map gcat).sum := by
  rw [List.map_map]; congr 1; exact List.map_congr_left fun v _ => gre_cat ad v
theorem g_callV {My : gM} {d mc ms n idx : Nat} {as : List gV} {q : gId} {Nw : List gId} {st : List gV} {T : u_T} {N : Nat} {ty : Nat → FieldType} (cw : gCV M.1.cls idx My n) (cf : gCF q.1 My.1.cls T N ty) (hd : decode M.2.1 pc = .ok (.invokevirtual idx, 3)) (e : pc + 3 = pc') (hst0 : st = as.reverse ++ .inr q :: rest) (hn : as.length = n) (hlv : q ∈ gL S) (hR : d + 1 ≤ (bR B).frames) (hR2 : 8 + (My.2.2.1 + 11) + 28 * d ≤ (bR B).locals) (hrest : (rest.map gcat).sum ≤ 8) (hls : ∀ v, some v ∈ ls → gNo Nw v) (hst : ∀ v ∈ rest, gNo Nw v) (hNw : ∀ q ∈ Nw, q ∈ bN B) (hc : cs + mc ≤ bC B) (hs : sl + ms ≤ bS B)
    (hrun : gRun E My d mc ms (.inr q :: as) S Nw (fun r S' => gG E M B pc' ls (gpush r rest) S' (cs + mc) (sl + ms))) : gG E M B pc ls st S cs sl := by
  subst hst0
  refine g_back (My := My) (d := d) (mc := mc) (ms := ms) (as := .inr q :: as) e hls hst hNw (fun p e s m args below meth c hC H locs ad lsr hl hS hR0 => ?_)
  obtain ⟨w1, w2, w3, w4, w5, w6, w7, w8⟩ := cw
  obtain ⟨i0, h1, h2⟩ := gws_at (cy := eC E) (ad := ad) hlv
  obtain ⟨c0, c1, -⟩ := cf
  have h2 : (gws (eC E) S ad)[i0]? = some (gad ad q, .inr (q.1, gcO S ad q.1 q.2.1 q.2.2)) := by rw [h2]; exact congrArg (fun z => some (gad ad q, z)) (gcell_O c0)
  exact va_runV (As := as.map (gre ad)) (b := gad ad q) (C := My.1.cls) (index := idx) (bytes := My.2.1) (maxL := My.2.2.1) (ret := My.2.2.2) (n := n) ⟨hC.1, hC.2.1, hC.2.2.2.1, hC.2.2.2.2.1, hC.2.2.2.2.2.2.2.1⟩ (hrun ad)
    (cwV n hC.2.2.2.2.2.2.2.1 (gGood (fun w hw => by
      rcases List.mem_append.mp hw with hw | hw
      · simp only [List.mem_cons, List.not_mem_nil, or_false] at hw
        rcases hw with rfl | rfl | rfl | rfl
        · exact w1
        · exact w2
        · exact w3
        · exact w4
      · rcases List.mem_cons.mp hw with rfl | hw
        · exact w5
        · exact hw)) rfl rfl rfl ⟨rfl, w6, w7, w8⟩ ⟨hR, hR2⟩)
    ⟨gPc_blind _ _ _ _, va_recv (D := eD E) hC.2.2.2.2.2.2.2.2.1.1 hR0.1 c1 h2, gPre hC hS hR0⟩ rfl (by rw [List.length_map]; exact hn) hl.1 (by show (as.reverse ++ .inr q :: rest).map (gre ad) = _; rw [List.map_append, List.map_reverse]; rfl) (by show 2 * 0 + _ ≤ 8; rw [gsum]; omega) hd ⟨Nat.le_trans hc hC.2.2.2.2.2.2.2.2.2.1, Nat.le_trans hs hC.2.2.2.2.2.2.2.2.2.2⟩
theorem g_callS {My : gM} {d mc ms n idx : Nat} {as : List gV} {Nw : List gId} {st : List gV} (cw : gCS M.1.cls idx My n) (hd : decode M.2.1 pc = .ok (.invokestatic idx, 3)) (e : pc + 3 = pc') (hst0 : st = as.reverse ++ rest) (hn : as.length = n) (hR : d + 1 ≤ (bR B).frames) (hR2 : 8 + (My.2.2.1 + 11) + 28 * d ≤ (bR B).locals) (hrest : (rest.map gcat).sum ≤ 8) (hls : ∀ v, some v ∈ ls → gNo Nw v) (hst : ∀ v ∈ rest, gNo Nw v) (hNw : ∀ q ∈ Nw, q ∈ bN B) (hc : cs + mc ≤ bC B) (hs : sl + ms ≤ bS B)
    (hrun : gRun E My d mc ms as S Nw (fun r S' => gG E M B pc' ls (gpush r rest) S' (cs + mc) (sl + ms))) : gG E M B pc ls st S cs sl := by
  subst hst0
  refine g_back (My := My) (d := d) (mc := mc) (ms := ms) (as := as) e hls hst hNw (fun p e s m args below meth c hC H locs ad lsr hl hS hR0 => ?_)
  obtain ⟨w1, w2, w4, w5, w6, w7, w8⟩ := cw
  exact va_runS (As := as.map (gre ad)) (index := idx) (bytes := My.2.1) (maxL := My.2.2.1) (ret := My.2.2.2) (n := n) ⟨hC.1, hC.2.1, hC.2.2.2.1, hC.2.2.2.2.1, hC.2.2.2.2.2.2.2.1⟩ (hrun ad)
    (va_cwS n hC.2.2.2.2.2.2.2.1 (gGood (fun w hw => by
      rcases List.mem_append.mp hw with hw | hw
      · simp only [List.mem_cons, List.not_mem_nil, or_false] at hw
        rcases hw with rfl | rfl | rfl
        · exact w1
        · exact w2
        · exact w4
      · rcases List.mem_cons.mp hw with rfl | hw
        · exact w5
        · exact hw)) rfl rfl rfl ⟨w6, w7, w8⟩ ⟨hR, hR2⟩)
    ⟨gPc_blind _ _ _ _, gPre hC hS hR0⟩ rfl (by rw [List.length_map]; exact hn) hl.1 (by show (as.reverse ++ rest).map (gre ad) = _; rw [List.map_append, List.map_reverse]) (by show 2 * 0 + _ ≤ 8; rw [gsum]; omega) hd ⟨Nat.le_trans hc hC.2.2.2.2.2.2.2.2.2.1, Nat.le_trans hs hC.2.2.2.2.2.2.2.2.2.2⟩
theorem g_callI {My : gM} {d mc ms n idx : Nat} {as : List gV} {q : gId} {Nw : List gId} {st : List gV} (cw : gCI M.1.cls idx My n) (hd : decode M.2.1 pc = .ok (.invokespecial idx, 3)) (e : pc + 3 = pc') (hst0 : st = as.reverse ++ .inr q :: rest) (hn : as.length = n) (hR : d + 1 ≤ (bR B).frames) (hR2 : 8 + (My.2.2.1 + 11) + 28 * d ≤ (bR B).locals) (hrest : (rest.map gcat).sum ≤ 8) (hls : ∀ v, some v ∈ ls → gNo Nw v) (hst : ∀ v ∈ rest, gNo Nw v) (hNw : ∀ q ∈ Nw, q ∈ bN B) (hc : cs + mc ≤ bC B) (hs : sl + ms ≤ bS B)
    (hrun : gRun E My d mc ms (.inr q :: as) S Nw (fun r S' => gG E M B pc' ls (gpush r rest) S' (cs + mc) (sl + ms))) : gG E M B pc ls st S cs sl := by
  subst hst0
  refine g_back (My := My) (d := d) (mc := mc) (ms := ms) (as := .inr q :: as) e hls hst hNw (fun p e s m args below meth c hC H locs ad lsr hl hS hR0 => ?_)
  obtain ⟨w1, w2, w3, w9, w4, w5, w6, w7, w8⟩ := cw
  have hg : GoodIn lwG (gMws My) := gGood (fun w hw => by
    rcases List.mem_cons.mp hw with rfl | hw
    · exact w5
    · exact hw)
  have hts := hC.2.2.2.2.2.2.2.1
  rcases w1 with w1 | ⟨host, w1⟩
  · exact va_runI (As := as.map (gre ad)) (b := gad ad q) (index := idx) (bytes := My.2.1) (maxL := My.2.2.1) (n := n) ⟨hC.1, hC.2.1, hC.2.2.2.1, hC.2.2.2.2.1, hts⟩ (hrun ad)
      (cwI n hts hg (by rw [← w9]; rfl) rfl rfl (hts _ w4) (hts _ w1) (hts _ w2) w3 ⟨w6, w7, w8⟩ ⟨hR, hR2⟩)
      ⟨gPc_blind _ _ _ _, gPre hC hS hR0⟩ rfl (by rw [List.length_map]; exact hn) hl.1 (by show (as.reverse ++ .inr q :: rest).map (gre ad) = _; rw [List.map_append, List.map_reverse]; rfl) (by show 2 * 0 + _ ≤ 8; rw [gsum]; omega) hd ⟨Nat.le_trans hc hC.2.2.2.2.2.2.2.2.2.1, Nat.le_trans hs hC.2.2.2.2.2.2.2.2.2.2⟩
  · exact va_runIN (As := as.map (gre ad)) (b := gad ad q) (index := idx) (bytes := My.2.1) (maxL := My.2.2.1) (n := n) ⟨hC.1, hC.2.1, hC.2.2.2.1, hC.2.2.2.2.1, hts⟩ (hrun ad)
      ⟨va_cnB n hts hg (by rw [← w9]; rfl) rfl rfl (hC.2.2.2.2.2.2.2.2.1.2.2.2.2.1 _ w1) (hts _ w4) ⟨w6, w7, w8⟩ ⟨hR, hR2⟩, w3, hts _ w2⟩
      ⟨gPc_blind _ _ _ _, gPre hC hS hR0⟩ rfl (by rw [List.length_map]; exact hn) hl.1 (by show (as.reverse ++ .inr q :: rest).map (gre ad) = _; rw [List.map_append, List.map_reverse]; rfl) (by show 2 * 0 + _ ≤ 8; rw [gsum]; omega) hd ⟨Nat.le_trans hc hC.2.2.2.2.2.2.2.2.2.1, Nat.le_trans hs hC.2.2.2.2.2.2.2.2.2.2⟩
end GCALL
end
section
/-! OUR OWN FRAME (5), laid by program (wip/whole/mkwords.py): classes, methods, the tables' words, rows of fields -/
theorem mG {w : Cond} (i : Nat) (h : lw_tbl[i]? = some w) (hg : goodWord w = true) : w ∈ lwG := List.mem_filter.mpr ⟨List.mem_of_getElem? h, hg⟩
theorem g_getsN {E : gE} {M : gM} {B : gB} {pc pc' : Nat} {ls : List (Option gV)} {st : List gV} {S : gS} {cs sl i idx : Nat} {C n host : String} (hi : ∀ s H, gKS E s H → gZT E i C n s H) (hw : Cond.fieldLinkNest M.1.cls idx C n "[I" host ∈ lwN) (d : decode M.2.1 pc = .ok (.getstatic idx, 3)) (e : pc + 3 = pc') (h : gG E M B pc' ls (.inl (.ref (eA E i)) :: st) S cs sl) : gG E M B pc ls st S cs sl := by
  subst e
  intro p e s m args below meth c QS hC hE H locs ad lsr hl hS hR hA
  exact va_getsN hC.1 hC.2.1 (hi _ _ hC.2.2.2.2.2.2.2.2.1).1 hS hC.2.2.2.2.1 (va_Nw.use rfl (hC.2.2.2.2.2.2.2.2.1.2.2.2.2.1 _ hw)) (fun _ h9 => h9) d (h p e s m args below meth c QS hC hE H locs ad lsr hl hS hR hA)
theorem mN {w : Cond} (i : Nat) (h : lw_tbl[i]? = some w) (hg : gnw w = true) : w ∈ lwN := List.mem_filter.mpr ⟨List.mem_of_getElem? h, hg⟩
theorem gz_n {x : Int32} (h : x = 0 ∨ x = 1) : narrow .boolean (.int x) = .int x := by rcases h with rfl | rfl <;> rfl
theorem gz_f {x : Int32} (h : x = 0 ∨ x = 1) : fits .boolean (.int x) = true := by rcases h with rfl | rfl <;> rfl
theorem lay0 : ∀ w ∈ u_ws RX0 TX0 4, w ∈ lwG := by
  intro w hw
  obtain ⟨i, hi, rfl⟩ := List.mem_map.mp hw
  have hi := List.mem_range.mp hi
  match i, hi with
  | 0, _ => exact mG 136 (by decide +kernel) (by decide +kernel)
  | 1, _ => exact mG 138 (by decide +kernel) (by decide +kernel)
  | 2, _ => exact mG 140 (by decide +kernel) (by decide +kernel)
  | 3, _ => exact mG 142 (by decide +kernel) (by decide +kernel)
  | n + 4, h => exact absurd h (by omega)
theorem cf0 : gCF 0 RX0 TX0 4 tyX0 := ⟨by decide, rfl, lay0, tyX0_ok, nmX0, rfl, by decide +kernel, by decide +kernel⟩
theorem lay1 : ∀ w ∈ u_ws RX1 TX1 2, w ∈ lwG := by
  intro w hw
  obtain ⟨i, hi, rfl⟩ := List.mem_map.mp hw
  have hi := List.mem_range.mp hi
  match i, hi with
  | 0, _ => exact mG 396 (by decide +kernel) (by decide +kernel)
  | 1, _ => exact mG 398 (by decide +kernel) (by decide +kernel)
  | n + 2, h => exact absurd h (by omega)
theorem cf1 : gCF 1 RX1 TX1 2 tyX1 := ⟨by decide, rfl, lay1, tyX1_ok, nmX1, rfl, by decide +kernel, by decide +kernel⟩
theorem lay2 : ∀ w ∈ u_ws RX2 TX2 7, w ∈ lwG := by
  intro w hw
  obtain ⟨i, hi, rfl⟩ := List.mem_map.mp hw
  have hi := List.mem_range.mp hi
  match i, hi with
  | 0, _ => exact mG 421 (by decide +kernel) (by decide +kernel)
  | 1, _ => exact mG 423 (by decide +kernel) (by decide +kernel)
  | 2, _ => exact mG 425 (by decide +kernel) (by decide +kernel)
  | 3, _ => exact mG 427 (by decide +kernel) (by decide +kernel)
  | 4, _ => exact mG 429 (by decide +kernel) (by decide +kernel)
  | 5, _ => exact mG 431 (by decide +kernel) (by decide +kernel)
  | 6, _ => exact mG 433 (by decide +kernel) (by decide +kernel)
  | n + 7, h => exact absurd h (by omega)
theorem cf2 : gCF 2 RX2 TX2 7 tyX2 := ⟨by decide, rfl, lay2, tyX2_ok, nmX2, rfl, by decide +kernel, by decide +kernel⟩
theorem lay3 : ∀ w ∈ u_ws RX3 TX3 2, w ∈ lwG := by
  intro w hw
  obtain ⟨i, hi, rfl⟩ := List.mem_map.mp hw
  have hi := List.mem_range.mp hi
  match i, hi with
  | 0, _ => exact mG 154 (by decide +kernel) (by decide +kernel)
  | 1, _ => exact mG 156 (by decide +kernel) (by decide +kernel)
  | n + 2, h => exact absurd h (by omega)
theorem cf3 : gCF 3 RX3 TX3 2 tyX3 := ⟨by decide, rfl, lay3, tyX3_ok, nmX3, rfl, by decide +kernel, by decide +kernel⟩
theorem lay4 : ∀ w ∈ u_ws RX4 TX4 6, w ∈ lwG := by
  intro w hw
  obtain ⟨i, hi, rfl⟩ := List.mem_map.mp hw
  have hi := List.mem_range.mp hi
  match i, hi with
  | 0, _ => exact mG 107 (by decide +kernel) (by decide +kernel)
  | 1, _ => exact mG 109 (by decide +kernel) (by decide +kernel)
  | 2, _ => exact mG 111 (by decide +kernel) (by decide +kernel)
  | 3, _ => exact mG 113 (by decide +kernel) (by decide +kernel)
  | 4, _ => exact mG 115 (by decide +kernel) (by decide +kernel)
  | 5, _ => exact mG 117 (by decide +kernel) (by decide +kernel)
  | n + 6, h => exact absurd h (by omega)
theorem cf4 : gCF 4 RX4 TX4 6 tyX4 := ⟨by decide, rfl, lay4, tyX4_ok, nmX4, rfl, by decide +kernel, by decide +kernel⟩
theorem lay5 : ∀ w ∈ u_ws RX5 TX5 6, w ∈ lwG := by
  intro w hw
  obtain ⟨i, hi, rfl⟩ := List.mem_map.mp hw
  have hi := List.mem_range.mp hi
  match i, hi with
  | 0, _ => exact mG 478 (by decide +kernel) (by decide +kernel)
  | 1, _ => exact mG 480 (by decide +kernel) (by decide +kernel)
  | 2, _ => exact mG 482 (by decide +kernel) (by decide +kernel)
  | 3, _ => exact mG 484 (by decide +kernel) (by decide +kernel)
  | 4, _ => exact mG 486 (by decide +kernel) (by decide +kernel)
  | 5, _ => exact mG 488 (by decide +kernel) (by decide +kernel)
  | n + 6, h => exact absurd h (by omega)
theorem cf5 : gCF 5 RX5 TX5 6 tyX5 := ⟨by decide, rfl, lay5, tyX5_ok, nmX5, rfl, by decide +kernel, by decide +kernel⟩
theorem lay6 : ∀ w ∈ u_ws RX6 TX6 2, w ∈ lwG := by
  intro w hw
  obtain ⟨i, hi, rfl⟩ := List.mem_map.mp hw
  have hi := List.mem_range.mp hi
  match i, hi with
  | 0, _ => exact mG 94 (by decide +kernel) (by decide +kernel)
  | 1, _ => exact mG 96 (by decide +kernel) (by decide +kernel)
  | n + 2, h => exact absurd h (by omega)
theorem cf6 : gCF 6 RX6 TX6 2 tyX6 := ⟨by decide, rfl, lay6, tyX6_ok, nmX6, rfl, by decide +kernel, by decide +kernel⟩
theorem lay7 : ∀ w ∈ u_ws RX7 TX7 10, w ∈ lwG := by
  intro w hw
  obtain ⟨i, hi, rfl⟩ := List.mem_map.mp hw
  have hi := List.mem_range.mp hi
  match i, hi with
  | 0, _ => exact mG 172 (by decide +kernel) (by decide +kernel)
  | 1, _ => exact mG 174 (by decide +kernel) (by decide +kernel)
  | 2, _ => exact mG 176 (by decide +kernel) (by decide +kernel)
  | 3, _ => exact mG 178 (by decide +kernel) (by decide +kernel)
  | 4, _ => exact mG 180 (by decide +kernel) (by decide +kernel)
  | 5, _ => exact mG 182 (by decide +kernel) (by decide +kernel)
  | 6, _ => exact mG 184 (by decide +kernel) (by decide +kernel)
  | 7, _ => exact mG 186 (by decide +kernel) (by decide +kernel)
  | 8, _ => exact mG 188 (by decide +kernel) (by decide +kernel)
  | 9, _ => exact mG 190 (by decide +kernel) (by decide +kernel)
  | n + 10, h => exact absurd h (by omega)
theorem cf7 : gCF 7 RX7 TX7 10 tyX7 := ⟨by decide, rfl, lay7, tyX7_ok, nmX7, rfl, by decide +kernel, by decide +kernel⟩
theorem lay8 : ∀ w ∈ u_ws RX8 TX8 28, w ∈ lwG := by
  intro w hw
  obtain ⟨i, hi, rfl⟩ := List.mem_map.mp hw
  have hi := List.mem_range.mp hi
  match i, hi with
  | 0, _ => exact mG 738 (by decide +kernel) (by decide +kernel)
  | 1, _ => exact mG 740 (by decide +kernel) (by decide +kernel)
  | 2, _ => exact mG 742 (by decide +kernel) (by decide +kernel)
  | 3, _ => exact mG 744 (by decide +kernel) (by decide +kernel)
  | 4, _ => exact mG 746 (by decide +kernel) (by decide +kernel)
  | 5, _ => exact mG 748 (by decide +kernel) (by decide +kernel)
  | 6, _ => exact mG 750 (by decide +kernel) (by decide +kernel)
  | 7, _ => exact mG 752 (by decide +kernel) (by decide +kernel)
  | 8, _ => exact mG 754 (by decide +kernel) (by decide +kernel)
  | 9, _ => exact mG 756 (by decide +kernel) (by decide +kernel)
  | 10, _ => exact mG 758 (by decide +kernel) (by decide +kernel)
  | 11, _ => exact mG 760 (by decide +kernel) (by decide +kernel)
  | 12, _ => exact mG 762 (by decide +kernel) (by decide +kernel)
  | 13, _ => exact mG 764 (by decide +kernel) (by decide +kernel)
  | 14, _ => exact mG 766 (by decide +kernel) (by decide +kernel)
  | 15, _ => exact mG 768 (by decide +kernel) (by decide +kernel)
  | 16, _ => exact mG 770 (by decide +kernel) (by decide +kernel)
  | 17, _ => exact mG 772 (by decide +kernel) (by decide +kernel)
  | 18, _ => exact mG 774 (by decide +kernel) (by decide +kernel)
  | 19, _ => exact mG 776 (by decide +kernel) (by decide +kernel)
  | 20, _ => exact mG 778 (by decide +kernel) (by decide +kernel)
  | 21, _ => exact mG 780 (by decide +kernel) (by decide +kernel)
  | 22, _ => exact mG 782 (by decide +kernel) (by decide +kernel)
  | 23, _ => exact mG 784 (by decide +kernel) (by decide +kernel)
  | 24, _ => exact mG 786 (by decide +kernel) (by decide +kernel)
  | 25, _ => exact mG 788 (by decide +kernel) (by decide +kernel)
  | 26, _ => exact mG 790 (by decide +kernel) (by decide +kernel)
  | 27, _ => exact mG 792 (by decide +kernel) (by decide +kernel)
  | n + 28, h => exact absurd h (by omega)
theorem cf8 : gCF 8 RX8 TX8 28 tyX8 := ⟨by decide, rfl, lay8, tyX8_ok, nmX8, rfl, by decide +kernel, by decide +kernel⟩
abbrev mX7_init : gM := (yX7_init, cX7_init, 1, none)
theorem cdX7_init : Cond.code mX7_init.1 mX7_init.2.1 mX7_init.2.2.1 mX7_init.2.2.2 ∈ lwG := mG 76 (by decide +kernel) (by decide +kernel)
abbrev mX4_init : gM := (yX4_init, cX4_init, 1, none)
theorem cdX4_init : Cond.code mX4_init.1 mX4_init.2.1 mX4_init.2.2.1 mX4_init.2.2.2 ∈ lwG := mG 84 (by decide +kernel) (by decide +kernel)
abbrev mX6_init : gM := (yX6_init, cX6_init, 1, none)
theorem cdX6_init : Cond.code mX6_init.1 mX6_init.2.1 mX6_init.2.2.1 mX6_init.2.2.2 ∈ lwG := mG 90 (by decide +kernel) (by decide +kernel)
abbrev mX0_init : gM := (yX0_init, cX0_init, 1, none)
theorem cdX0_init : Cond.code mX0_init.1 mX0_init.2.1 mX0_init.2.2.1 mX0_init.2.2.2 ∈ lwG := mG 125 (by decide +kernel) (by decide +kernel)
abbrev mX3_init : gM := (yX3_init, cX3_init, 1, none)
theorem cdX3_init : Cond.code mX3_init.1 mX3_init.2.1 mX3_init.2.2.1 mX3_init.2.2.2 ∈ lwG := mG 149 (by decide +kernel) (by decide +kernel)
abbrev mX7_type : gM := (yX7_type, cX7_type, 3, (some .boolean))
theorem cdX7_type : Cond.code mX7_type.1 mX7_type.2.1 mX7_type.2.2.1 mX7_type.2.2.2 ∈ lwG := mG 196 (by decide +kernel) (by decide +kernel)
abbrev mX6_append : gM := (yX6_append, cX6_append, 5, (some .boolean))
theorem cdX6_append : Cond.code mX6_append.1 mX6_append.2.1 mX6_append.2.2.1 mX6_append.2.2.2 ∈ lwG := mG 200 (by decide +kernel) (by decide +kernel)
abbrev mX6_signOf : gM := (yX6_signOf, cX6_signOf, 3, (some .char))
theorem cdX6_signOf : Cond.code mX6_signOf.1 mX6_signOf.2.1 mX6_signOf.2.2.1 mX6_signOf.2.2.2 ∈ lwG := mG 203 (by decide +kernel) (by decide +kernel)
abbrev mX7_fault : gM := (yX7_fault, cX7_fault, 1, (some .int))
theorem cdX7_fault : Cond.code mX7_fault.1 mX7_fault.2.1 mX7_fault.2.2.1 mX7_fault.2.2.2 ∈ lwG := mG 208 (by decide +kernel) (by decide +kernel)
abbrev mX7_erase : gM := (yX7_erase, cX7_erase, 1, none)
theorem cdX7_erase : Cond.code mX7_erase.1 mX7_erase.2.1 mX7_erase.2.2.1 mX7_erase.2.2.2 ∈ lwG := mG 212 (by decide +kernel) (by decide +kernel)
abbrev mX6_clear : gM := (yX6_clear, cX6_clear, 1, none)
theorem cdX6_clear : Cond.code mX6_clear.1 mX6_clear.2.1 mX6_clear.2.2.1 mX6_clear.2.2.2 ∈ lwG := mG 216 (by decide +kernel) (by decide +kernel)
abbrev mX7_slots : gM := (yX7_slots, cX7_slots, 2, (some .boolean))
theorem cdX7_slots : Cond.code mX7_slots.1 mX7_slots.2.1 mX7_slots.2.2.1 mX7_slots.2.2.2 ∈ lwG := mG 220 (by decide +kernel) (by decide +kernel)
abbrev mX7_now : gM := (yX7_now, cX7_now, 1, (some .int))
theorem cdX7_now : Cond.code mX7_now.1 mX7_now.2.1 mX7_now.2.2.1 mX7_now.2.2.2 ∈ lwG := mG 224 (by decide +kernel) (by decide +kernel)
abbrev mX7_state : gM := (yX7_state, cX7_state, 3, (some .int))
theorem cdX7_state : Cond.code mX7_state.1 mX7_state.2.1 mX7_state.2.2.1 mX7_state.2.2.2 ∈ lwG := mG 228 (by decide +kernel) (by decide +kernel)
abbrev mX7_isTask : gM := (yX7_isTask, cX7_isTask, 3, (some .boolean))
theorem cdX7_isTask : Cond.code mX7_isTask.1 mX7_isTask.2.1 mX7_isTask.2.2.1 mX7_isTask.2.2.2 ∈ lwG := mG 232 (by decide +kernel) (by decide +kernel)
abbrev mX7_isJob : gM := (yX7_isJob, cX7_isJob, 2, (some .boolean))
theorem cdX7_isJob : Cond.code mX7_isJob.1 mX7_isJob.2.1 mX7_isJob.2.2.1 mX7_isJob.2.2.2 ∈ lwG := mG 236 (by decide +kernel) (by decide +kernel)
abbrev mX7_count : gM := (yX7_count, cX7_count, 3, (some .int))
theorem cdX7_count : Cond.code mX7_count.1 mX7_count.2.1 mX7_count.2.2.1 mX7_count.2.2.2 ∈ lwG := mG 240 (by decide +kernel) (by decide +kernel)
abbrev mX7_countRunning : gM := (yX7_countRunning, cX7_countRunning, 3, (some .int))
theorem cdX7_countRunning : Cond.code mX7_countRunning.1 mX7_countRunning.2.1 mX7_countRunning.2.2.1 mX7_countRunning.2.2.2 ∈ lwG := mG 244 (by decide +kernel) (by decide +kernel)
abbrev mX2_countRunning : gM := (yX2_countRunning, cX2_countRunning, 3, (some .int))
theorem cdX2_countRunning : Cond.code mX2_countRunning.1 mX2_countRunning.2.1 mX2_countRunning.2.2.1 mX2_countRunning.2.2.2 ∈ lwG := mG 248 (by decide +kernel) (by decide +kernel)
abbrev mX7_entries : gM := (yX7_entries, cX7_entries, 1, (some .int))
theorem cdX7_entries : Cond.code mX7_entries.1 mX7_entries.2.1 mX7_entries.2.2.1 mX7_entries.2.2.2 ∈ lwG := mG 252 (by decide +kernel) (by decide +kernel)
abbrev mX7_job : gM := (yX7_job, cX7_job, 2, (some .int))
theorem cdX7_job : Cond.code mX7_job.1 mX7_job.2.1 mX7_job.2.2.1 mX7_job.2.2.2 ∈ lwG := mG 261 (by decide +kernel) (by decide +kernel)
abbrev mX4_read : gM := (yX4_read, cX4_read, 2, (some .int))
theorem cdX4_read : Cond.code mX4_read.1 mX4_read.2.1 mX4_read.2.2.1 mX4_read.2.2.2 ∈ lwG := mG 329 (by decide +kernel) (by decide +kernel)
abbrev mX4_readField : gM := (yX4_readField, cX4_readField, 3, none)
theorem cdX4_readField : Cond.code mX4_readField.1 mX4_readField.2.1 mX4_readField.2.2.1 mX4_readField.2.2.2 ∈ lwG := mG 333 (by decide +kernel) (by decide +kernel)
abbrev mX6_signAt : gM := (yX6_signAt, cX6_signAt, 2, (some .char))
theorem cdX6_signAt : Cond.code mX6_signAt.1 mX6_signAt.2.1 mX6_signAt.2.2.1 mX6_signAt.2.2.2 ∈ lwG := mG 337 (by decide +kernel) (by decide +kernel)
abbrev mX4_readItem : gM := (yX4_readItem, cX4_readItem, 6, none)
theorem cdX4_readItem : Cond.code mX4_readItem.1 mX4_readItem.2.1 mX4_readItem.2.2.1 mX4_readItem.2.2.2 ∈ lwG := mG 341 (by decide +kernel) (by decide +kernel)
abbrev mX4_readNumber : gM := (yX4_readNumber, cX4_readNumber, 5, (some .int))
theorem cdX4_readNumber : Cond.code mX4_readNumber.1 mX4_readNumber.2.1 mX4_readNumber.2.2.1 mX4_readNumber.2.2.2 ∈ lwG := mG 349 (by decide +kernel) (by decide +kernel)
abbrev mX4_isDigit : gM := (yX4_isDigit, cX4_isDigit, 1, (some .boolean))
theorem cdX4_isDigit : Cond.code mX4_isDigit.1 mX4_isDigit.2.1 mX4_isDigit.2.2.1 mX4_isDigit.2.2.2 ∈ lwG := mG 352 (by decide +kernel) (by decide +kernel)
abbrev mX4_addNumbers : gM := (yX4_addNumbers, cX4_addNumbers, 7, none)
theorem cdX4_addNumbers : Cond.code mX4_addNumbers.1 mX4_addNumbers.2.1 mX4_addNumbers.2.2.1 mX4_addNumbers.2.2.2 ∈ lwG := mG 356 (by decide +kernel) (by decide +kernel)
abbrev mX4_readEndOfField : gM := (yX4_readEndOfField, cX4_readEndOfField, 3, none)
theorem cdX4_readEndOfField : Cond.code mX4_readEndOfField.1 mX4_readEndOfField.2.1 mX4_readEndOfField.2.2.1 mX4_readEndOfField.2.2.2 ∈ lwG := mG 360 (by decide +kernel) (by decide +kernel)
abbrev mX4_expression : gM := (yX4_expression, cX4_expression, 1, (some (.object "TimedRuns$Expression")))
theorem cdX4_expression : Cond.code mX4_expression.1 mX4_expression.2.1 mX4_expression.2.2.1 mX4_expression.2.2.2 ∈ lwG := mG 380 (by decide +kernel) (by decide +kernel)
abbrev mX1_init : gM := (yX1_init, cX1_init, 3, none)
theorem cdX1_init : Cond.code mX1_init.1 mX1_init.2.1 mX1_init.2.2.1 mX1_init.2.2.2 ∈ lwG := mG 385 (by decide +kernel) (by decide +kernel)
abbrev mX2_init : gM := (yX2_init, cX2_init, 3, none)
theorem cdX2_init : Cond.code mX2_init.1 mX2_init.2.1 mX2_init.2.2.1 mX2_init.2.2.2 ∈ lwG := mG 403 (by decide +kernel) (by decide +kernel)
abbrev mX7_task : gM := (yX7_task, cX7_task, 7, (some .int))
theorem cdX7_task : Cond.code mX7_task.1 mX7_task.2.1 mX7_task.2.2.1 mX7_task.2.2.2 ∈ lwG := mG 443 (by decide +kernel) (by decide +kernel)
abbrev mX2_allTasks : gM := (yX2_allTasks, cX2_allTasks, 1, (some .int))
theorem cdX2_allTasks : Cond.code mX2_allTasks.1 mX2_allTasks.2.1 mX2_allTasks.2.2.1 mX2_allTasks.2.2.2 ∈ lwG := mG 462 (by decide +kernel) (by decide +kernel)
abbrev mX5_init : gM := (yX5_init, cX5_init, 4, none)
theorem cdX5_init : Cond.code mX5_init.1 mX5_init.2.1 mX5_init.2.2.1 mX5_init.2.2.2 ∈ lwG := mG 467 (by decide +kernel) (by decide +kernel)
abbrev mX2_addTask : gM := (yX2_addTask, cX2_addTask, 2, (some .int))
theorem cdX2_addTask : Cond.code mX2_addTask.1 mX2_addTask.2.1 mX2_addTask.2.2.1 mX2_addTask.2.2.2 ∈ lwG := mG 494 (by decide +kernel) (by decide +kernel)
abbrev mX7_holds : gM := (yX7_holds, cX7_holds, 3, (some .boolean))
theorem cdX7_holds : Cond.code mX7_holds.1 mX7_holds.2.1 mX7_holds.2.2.1 mX7_holds.2.2.2 ∈ lwG := mG 501 (by decide +kernel) (by decide +kernel)
abbrev mX7_isMinute : gM := (yX7_isMinute, cX7_isMinute, 1, (some .boolean))
theorem cdX7_isMinute : Cond.code mX7_isMinute.1 mX7_isMinute.2.1 mX7_isMinute.2.2.1 mX7_isMinute.2.2.2 ∈ lwG := mG 504 (by decide +kernel) (by decide +kernel)
abbrev mX7_holdsAt : gM := (yX7_holdsAt, cX7_holdsAt, 3, (some .boolean))
theorem cdX7_holdsAt : Cond.code mX7_holdsAt.1 mX7_holdsAt.2.1 mX7_holdsAt.2.2.1 mX7_holdsAt.2.2.2 ∈ lwG := mG 509 (by decide +kernel) (by decide +kernel)
abbrev mX1_hasTime : gM := (yX1_hasTime, cX1_hasTime, 2, (some .boolean))
theorem cdX1_hasTime : Cond.code mX1_hasTime.1 mX1_hasTime.2.1 mX1_hasTime.2.2.1 mX1_hasTime.2.2.2 ∈ lwG := mG 513 (by decide +kernel) (by decide +kernel)
abbrev mX1_has : gM := (yX1_has, cX1_has, 3, (some .boolean))
theorem cdX1_has : Cond.code mX1_has.1 mX1_has.2.1 mX1_has.2.2.1 mX1_has.2.2.2 ∈ lwG := mG 517 (by decide +kernel) (by decide +kernel)
abbrev mX0_turnTo : gM := (yX0_turnTo, cX0_turnTo, 2, none)
theorem cdX0_turnTo : Cond.code mX0_turnTo.1 mX0_turnTo.2.1 mX0_turnTo.2.2.1 mX0_turnTo.2.2.2 ∈ lwG := mG 521 (by decide +kernel) (by decide +kernel)
abbrev mX0_turnOne : gM := (yX0_turnOne, cX0_turnOne, 1, none)
theorem cdX0_turnOne : Cond.code mX0_turnOne.1 mX0_turnOne.2.1 mX0_turnOne.2.2.1 mX0_turnOne.2.2.2 ∈ lwG := mG 525 (by decide +kernel) (by decide +kernel)
abbrev mX0_daysOfMonth : gM := (yX0_daysOfMonth, cX0_daysOfMonth, 1, (some .int))
theorem cdX0_daysOfMonth : Cond.code mX0_daysOfMonth.1 mX0_daysOfMonth.2.1 mX0_daysOfMonth.2.2.1 mX0_daysOfMonth.2.2.2 ∈ lwG := mG 529 (by decide +kernel) (by decide +kernel)
abbrev mX0_isLeapYear : gM := (yX0_isLeapYear, cX0_isLeapYear, 1, (some .boolean))
theorem cdX0_isLeapYear : Cond.code mX0_isLeapYear.1 mX0_isLeapYear.2.1 mX0_isLeapYear.2.2.1 mX0_isLeapYear.2.2.2 ∈ lwG := mG 533 (by decide +kernel) (by decide +kernel)
abbrev mX0_find : gM := (yX0_find, cX0_find, 3, none)
theorem cdX0_find : Cond.code mX0_find.1 mX0_find.2.1 mX0_find.2.2.1 mX0_find.2.2.2 ∈ lwG := mG 539 (by decide +kernel) (by decide +kernel)
abbrev mX0_daysOfYear : gM := (yX0_daysOfYear, cX0_daysOfYear, 1, (some .int))
theorem cdX0_daysOfYear : Cond.code mX0_daysOfYear.1 mX0_daysOfYear.2.1 mX0_daysOfYear.2.2.1 mX0_daysOfYear.2.2.2 ∈ lwG := mG 543 (by decide +kernel) (by decide +kernel)
abbrev mX1_hasDay : gM := (yX1_hasDay, cX1_hasDay, 4, (some .boolean))
theorem cdX1_hasDay : Cond.code mX1_hasDay.1 mX1_hasDay.2.1 mX1_hasDay.2.2.1 mX1_hasDay.2.2.2 ∈ lwG := mG 547 (by decide +kernel) (by decide +kernel)
abbrev mX0_weekday : gM := (yX0_weekday, cX0_weekday, 1, (some .int))
theorem cdX0_weekday : Cond.code mX0_weekday.1 mX0_weekday.2.1 mX0_weekday.2.2.1 mX0_weekday.2.2.2 ∈ lwG := mG 551 (by decide +kernel) (by decide +kernel)
abbrev mX7_next : gM := (yX7_next, cX7_next, 3, (some .int))
theorem cdX7_next : Cond.code mX7_next.1 mX7_next.2.1 mX7_next.2.2.1 mX7_next.2.2.2 ∈ lwG := mG 558 (by decide +kernel) (by decide +kernel)
abbrev mX7_firstBehind : gM := (yX7_firstBehind, cX7_firstBehind, 9, (some .int))
theorem cdX7_firstBehind : Cond.code mX7_firstBehind.1 mX7_firstBehind.2.1 mX7_firstBehind.2.2.1 mX7_firstBehind.2.2.2 ∈ lwG := mG 563 (by decide +kernel) (by decide +kernel)
abbrev mX1_firstTime : gM := (yX1_firstTime, cX1_firstTime, 3, (some .int))
theorem cdX1_firstTime : Cond.code mX1_firstTime.1 mX1_firstTime.2.1 mX1_firstTime.2.2.1 mX1_firstTime.2.2.2 ∈ lwG := mG 567 (by decide +kernel) (by decide +kernel)
abbrev mX7_part : gM := (yX7_part, cX7_part, 3, (some .int))
theorem cdX7_part : Cond.code mX7_part.1 mX7_part.2.1 mX7_part.2.2.1 mX7_part.2.2.2 ∈ lwG := mG 575 (by decide +kernel) (by decide +kernel)
abbrev mX7_pass : gM := (yX7_pass, cX7_pass, 4, (some .int))
theorem cdX7_pass : Cond.code mX7_pass.1 mX7_pass.2.1 mX7_pass.2.2.1 mX7_pass.2.2.2 ∈ lwG := mG 584 (by decide +kernel) (by decide +kernel)
abbrev mX7_makeStep : gM := (yX7_makeStep, cX7_makeStep, 2, (some .int))
theorem cdX7_makeStep : Cond.code mX7_makeStep.1 mX7_makeStep.2.1 mX7_makeStep.2.2.1 mX7_makeStep.2.2.2 ∈ lwG := mG 603 (by decide +kernel) (by decide +kernel)
abbrev mX7_fire : gM := (yX7_fire, cX7_fire, 2, none)
theorem cdX7_fire : Cond.code mX7_fire.1 mX7_fire.2.1 mX7_fire.2.2.1 mX7_fire.2.2.2 ∈ lwG := mG 607 (by decide +kernel) (by decide +kernel)
abbrev mX3_add : gM := (yX3_add, cX3_add, 6, none)
theorem cdX3_add : Cond.code mX3_add.1 mX3_add.2.1 mX3_add.2.2.1 mX3_add.2.2.2 ∈ lwG := mG 611 (by decide +kernel) (by decide +kernel)
abbrev mX2_begin : gM := (yX2_begin, cX2_begin, 2, none)
theorem cdX2_begin : Cond.code mX2_begin.1 mX2_begin.2.1 mX2_begin.2.2.1 mX2_begin.2.2.2 ∈ lwG := mG 615 (by decide +kernel) (by decide +kernel)
abbrev mX5_begin : gM := (yX5_begin, cX5_begin, 1, none)
theorem cdX5_begin : Cond.code mX5_begin.1 mX5_begin.2.1 mX5_begin.2.2.1 mX5_begin.2.2.2 ∈ lwG := mG 619 (by decide +kernel) (by decide +kernel)
abbrev mX7_closeRunIfOver : gM := (yX7_closeRunIfOver, cX7_closeRunIfOver, 2, none)
theorem cdX7_closeRunIfOver : Cond.code mX7_closeRunIfOver.1 mX7_closeRunIfOver.2.1 mX7_closeRunIfOver.2.2.1 mX7_closeRunIfOver.2.2.2 ∈ lwG := mG 623 (by decide +kernel) (by decide +kernel)
abbrev mX2_isAllOver : gM := (yX2_isAllOver, cX2_isAllOver, 2, (some .boolean))
theorem cdX2_isAllOver : Cond.code mX2_isAllOver.1 mX2_isAllOver.2.1 mX2_isAllOver.2.2.1 mX2_isAllOver.2.2.2 ∈ lwG := mG 627 (by decide +kernel) (by decide +kernel)
abbrev mX5_isOver : gM := (yX5_isOver, cX5_isOver, 1, (some .boolean))
theorem cdX5_isOver : Cond.code mX5_isOver.1 mX5_isOver.2.1 mX5_isOver.2.2.1 mX5_isOver.2.2.2 ∈ lwG := mG 631 (by decide +kernel) (by decide +kernel)
abbrev mX7_startTasks : gM := (yX7_startTasks, cX7_startTasks, 5, (some .int))
theorem cdX7_startTasks : Cond.code mX7_startTasks.1 mX7_startTasks.2.1 mX7_startTasks.2.2.1 mX7_startTasks.2.2.2 ∈ lwG := mG 635 (by decide +kernel) (by decide +kernel)
abbrev mX7_firstReadyJob : gM := (yX7_firstReadyJob, cX7_firstReadyJob, 4, (some .int))
theorem cdX7_firstReadyJob : Cond.code mX7_firstReadyJob.1 mX7_firstReadyJob.2.1 mX7_firstReadyJob.2.2.1 mX7_firstReadyJob.2.2.2 ∈ lwG := mG 639 (by decide +kernel) (by decide +kernel)
abbrev mX2_firstReady : gM := (yX2_firstReady, cX2_firstReady, 4, (some .int))
theorem cdX2_firstReady : Cond.code mX2_firstReady.1 mX2_firstReady.2.1 mX2_firstReady.2.2.1 mX2_firstReady.2.2.2 ∈ lwG := mG 643 (by decide +kernel) (by decide +kernel)
abbrev mX5_isReady : gM := (yX5_isReady, cX5_isReady, 4, (some .boolean))
theorem cdX5_isReady : Cond.code mX5_isReady.1 mX5_isReady.2.1 mX5_isReady.2.2.1 mX5_isReady.2.2.2 ∈ lwG := mG 647 (by decide +kernel) (by decide +kernel)
abbrev mX7_set : gM := (yX7_set, cX7_set, 2, none)
theorem cdX7_set : Cond.code mX7_set.1 mX7_set.2.1 mX7_set.2.2.1 mX7_set.2.2.2 ∈ lwG := mG 654 (by decide +kernel) (by decide +kernel)
abbrev mX7_isAnyRunUnderWay : gM := (yX7_isAnyRunUnderWay, cX7_isAnyRunUnderWay, 2, (some .boolean))
theorem cdX7_isAnyRunUnderWay : Cond.code mX7_isAnyRunUnderWay.1 mX7_isAnyRunUnderWay.2.1 mX7_isAnyRunUnderWay.2.2.1 mX7_isAnyRunUnderWay.2.2.2 ∈ lwG := mG 658 (by decide +kernel) (by decide +kernel)
abbrev mX7_end : gM := (yX7_end, cX7_end, 4, (some .int))
theorem cdX7_end : Cond.code mX7_end.1 mX7_end.2.1 mX7_end.2.2.1 mX7_end.2.2.2 ∈ lwG := mG 665 (by decide +kernel) (by decide +kernel)
abbrev mX7_endTask : gM := (yX7_endTask, cX7_endTask, 5, none)
theorem cdX7_endTask : Cond.code mX7_endTask.1 mX7_endTask.2.1 mX7_endTask.2.2.1 mX7_endTask.2.2.2 ∈ lwG := mG 669 (by decide +kernel) (by decide +kernel)
abbrev mX5_tryAgain : gM := (yX5_tryAgain, cX5_tryAgain, 3, (some .boolean))
theorem cdX5_tryAgain : Cond.code mX5_tryAgain.1 mX5_tryAgain.2.1 mX5_tryAgain.2.2.1 mX5_tryAgain.2.2.2 ∈ lwG := mG 673 (by decide +kernel) (by decide +kernel)
abbrev mX7_leaveOutBehind : gM := (yX7_leaveOutBehind, cX7_leaveOutBehind, 7, none)
theorem cdX7_leaveOutBehind : Cond.code mX7_leaveOutBehind.1 mX7_leaveOutBehind.2.1 mX7_leaveOutBehind.2.2.1 mX7_leaveOutBehind.2.2.2 ∈ lwG := mG 677 (by decide +kernel) (by decide +kernel)
abbrev mX7_down : gM := (yX7_down, cX7_down, 2, (some .int))
theorem cdX7_down : Cond.code mX7_down.1 mX7_down.2.1 mX7_down.2.2.1 mX7_down.2.2.2 ∈ lwG := mG 684 (by decide +kernel) (by decide +kernel)
abbrev mX7_catchUp : gM := (yX7_catchUp, cX7_catchUp, 3, (some .int))
theorem cdX7_catchUp : Cond.code mX7_catchUp.1 mX7_catchUp.2.1 mX7_catchUp.2.2.1 mX7_catchUp.2.2.2 ∈ lwG := mG 688 (by decide +kernel) (by decide +kernel)
abbrev mX7_entry : gM := (yX7_entry, cX7_entry, 3, (some .int))
theorem cdX7_entry : Cond.code mX7_entry.1 mX7_entry.2.1 mX7_entry.2.2.1 mX7_entry.2.2.2 ∈ lwG := mG 695 (by decide +kernel) (by decide +kernel)
abbrev mX3_keeps : gM := (yX3_keeps, cX3_keeps, 2, (some .boolean))
theorem cdX3_keeps : Cond.code mX3_keeps.1 mX3_keeps.2.1 mX3_keeps.2.2.1 mX3_keeps.2.2.2 ∈ lwG := mG 699 (by decide +kernel) (by decide +kernel)
abbrev mX3_read : gM := (yX3_read, cX3_read, 3, (some .int))
theorem cdX3_read : Cond.code mX3_read.1 mX3_read.2.1 mX3_read.2.2.1 mX3_read.2.2.2 ∈ lwG := mG 703 (by decide +kernel) (by decide +kernel)
abbrev mX8_init : gM := (yX8_init, cX8_init, 1, none)
theorem cdX8_init : Cond.code mX8_init.1 mX8_init.2.1 mX8_init.2.2.1 mX8_init.2.2.2 ∈ lwG := mG 708 (by decide +kernel) (by decide +kernel)
abbrev mX8_thrown : gM := (yX8_thrown, cX8_thrown, 1, (some .int))
theorem cdX8_thrown : Cond.code mX8_thrown.1 mX8_thrown.2.1 mX8_thrown.2.2.1 mX8_thrown.2.2.2 ∈ lwG := mG 799 (by decide +kernel) (by decide +kernel)
abbrev mX8_type : gM := (yX8_type, cX8_type, 6, (some .boolean))
theorem cdX8_type : Cond.code mX8_type.1 mX8_type.2.1 mX8_type.2.2.1 mX8_type.2.2.2 ∈ lwG := mG 803 (by decide +kernel) (by decide +kernel)
abbrev mX8_erase : gM := (yX8_erase, cX8_erase, 1, none)
theorem cdX8_erase : Cond.code mX8_erase.1 mX8_erase.2.1 mX8_erase.2.2.1 mX8_erase.2.2.2 ∈ lwG := mG 808 (by decide +kernel) (by decide +kernel)
abbrev mX8_job : gM := (yX8_job, cX8_job, 3, (some .int))
theorem cdX8_job : Cond.code mX8_job.1 mX8_job.2.1 mX8_job.2.2.1 mX8_job.2.2.2 ∈ lwG := mG 812 (by decide +kernel) (by decide +kernel)
abbrev mX8_faultOf : gM := (yX8_faultOf, cX8_faultOf, 4, (some .int))
theorem cdX8_faultOf : Cond.code mX8_faultOf.1 mX8_faultOf.2.1 mX8_faultOf.2.2.1 mX8_faultOf.2.2.2 ∈ lwG := mG 816 (by decide +kernel) (by decide +kernel)
abbrev mX8_overItem : gM := (yX8_overItem, cX8_overItem, 5, (some .int))
theorem cdX8_overItem : Cond.code mX8_overItem.1 mX8_overItem.2.1 mX8_overItem.2.2.1 mX8_overItem.2.2.2 ∈ lwG := mG 820 (by decide +kernel) (by decide +kernel)
abbrev mX8_typedAt : gM := (yX8_typedAt, cX8_typedAt, 2, (some .int))
theorem cdX8_typedAt : Cond.code mX8_typedAt.1 mX8_typedAt.2.1 mX8_typedAt.2.2.1 mX8_typedAt.2.2.2 ∈ lwG := mG 824 (by decide +kernel) (by decide +kernel)
abbrev mX8_least : gM := (yX8_least, cX8_least, 1, (some .int))
theorem cdX8_least : Cond.code mX8_least.1 mX8_least.2.1 mX8_least.2.2.1 mX8_least.2.2.2 ∈ lwG := mG 827 (by decide +kernel) (by decide +kernel)
abbrev mX8_isNumber : gM := (yX8_isNumber, cX8_isNumber, 4, (some .boolean))
theorem cdX8_isNumber : Cond.code mX8_isNumber.1 mX8_isNumber.2.1 mX8_isNumber.2.2.1 mX8_isNumber.2.2.2 ∈ lwG := mG 831 (by decide +kernel) (by decide +kernel)
abbrev mX8_digitsAt : gM := (yX8_digitsAt, cX8_digitsAt, 2, (some .int))
theorem cdX8_digitsAt : Cond.code mX8_digitsAt.1 mX8_digitsAt.2.1 mX8_digitsAt.2.2.1 mX8_digitsAt.2.2.2 ∈ lwG := mG 835 (by decide +kernel) (by decide +kernel)
abbrev mX8_isDigit : gM := (yX8_isDigit, cX8_isDigit, 1, (some .boolean))
theorem cdX8_isDigit : Cond.code mX8_isDigit.1 mX8_isDigit.2.1 mX8_isDigit.2.2.1 mX8_isDigit.2.2.2 ∈ lwG := mG 838 (by decide +kernel) (by decide +kernel)
abbrev mX8_valueAt : gM := (yX8_valueAt, cX8_valueAt, 3, (some .int))
theorem cdX8_valueAt : Cond.code mX8_valueAt.1 mX8_valueAt.2.1 mX8_valueAt.2.2.1 mX8_valueAt.2.2.2 ∈ lwG := mG 842 (by decide +kernel) (by decide +kernel)
abbrev mX8_most : gM := (yX8_most, cX8_most, 1, (some .int))
theorem cdX8_most : Cond.code mX8_most.1 mX8_most.2.1 mX8_most.2.2.1 mX8_most.2.2.2 ∈ lwG := mG 845 (by decide +kernel) (by decide +kernel)
abbrev mX8_fault : gM := (yX8_fault, cX8_fault, 1, (some .int))
theorem cdX8_fault : Cond.code mX8_fault.1 mX8_fault.2.1 mX8_fault.2.2.1 mX8_fault.2.2.2 ∈ lwG := mG 849 (by decide +kernel) (by decide +kernel)
abbrev mX8_holds : gM := (yX8_holds, cX8_holds, 3, (some .boolean))
theorem cdX8_holds : Cond.code mX8_holds.1 mX8_holds.2.1 mX8_holds.2.2.1 mX8_holds.2.2.2 ∈ lwG := mG 853 (by decide +kernel) (by decide +kernel)
abbrev mX8_isJob : gM := (yX8_isJob, cX8_isJob, 2, (some .boolean))
theorem cdX8_isJob : Cond.code mX8_isJob.1 mX8_isJob.2.1 mX8_isJob.2.2.1 mX8_isJob.2.2.2 ∈ lwG := mG 857 (by decide +kernel) (by decide +kernel)
abbrev mX8_isMinute : gM := (yX8_isMinute, cX8_isMinute, 1, (some .boolean))
theorem cdX8_isMinute : Cond.code mX8_isMinute.1 mX8_isMinute.2.1 mX8_isMinute.2.2.1 mX8_isMinute.2.2.2 ∈ lwG := mG 860 (by decide +kernel) (by decide +kernel)
abbrev mX8_holdsAt : gM := (yX8_holdsAt, cX8_holdsAt, 3, (some .boolean))
theorem cdX8_holdsAt : Cond.code mX8_holdsAt.1 mX8_holdsAt.2.1 mX8_holdsAt.2.2.1 mX8_holdsAt.2.2.2 ∈ lwG := mG 865 (by decide +kernel) (by decide +kernel)
abbrev mX8_holdsIn : gM := (yX8_holdsIn, cX8_holdsIn, 3, (some .boolean))
theorem cdX8_holdsIn : Cond.code mX8_holdsIn.1 mX8_holdsIn.2.1 mX8_holdsIn.2.2.1 mX8_holdsIn.2.2.2 ∈ lwG := mG 869 (by decide +kernel) (by decide +kernel)
abbrev mX8_has : gM := (yX8_has, cX8_has, 6, (some .boolean))
theorem cdX8_has : Cond.code mX8_has.1 mX8_has.2.1 mX8_has.2.2.1 mX8_has.2.2.2 ∈ lwG := mG 873 (by decide +kernel) (by decide +kernel)
abbrev mX8_itemHas : gM := (yX8_itemHas, cX8_itemHas, 8, (some .boolean))
theorem cdX8_itemHas : Cond.code mX8_itemHas.1 mX8_itemHas.2.1 mX8_itemHas.2.2.1 mX8_itemHas.2.2.2 ∈ lwG := mG 877 (by decide +kernel) (by decide +kernel)
abbrev mX8_numberFrom : gM := (yX8_numberFrom, cX8_numberFrom, 3, (some .int))
theorem cdX8_numberFrom : Cond.code mX8_numberFrom.1 mX8_numberFrom.2.1 mX8_numberFrom.2.2.1 mX8_numberFrom.2.2.2 ∈ lwG := mG 881 (by decide +kernel) (by decide +kernel)
abbrev mX8_isLetterDigit : gM := (yX8_isLetterDigit, cX8_isLetterDigit, 2, (some .boolean))
theorem cdX8_isLetterDigit : Cond.code mX8_isLetterDigit.1 mX8_isLetterDigit.2.1 mX8_isLetterDigit.2.2.1 mX8_isLetterDigit.2.2.2 ∈ lwG := mG 885 (by decide +kernel) (by decide +kernel)
abbrev mX8_behindNumber : gM := (yX8_behindNumber, cX8_behindNumber, 2, (some .int))
theorem cdX8_behindNumber : Cond.code mX8_behindNumber.1 mX8_behindNumber.2.1 mX8_behindNumber.2.2.1 mX8_behindNumber.2.2.2 ∈ lwG := mG 889 (by decide +kernel) (by decide +kernel)
abbrev mX8_holdsOn : gM := (yX8_holdsOn, cX8_holdsOn, 7, (some .boolean))
theorem cdX8_holdsOn : Cond.code mX8_holdsOn.1 mX8_holdsOn.2.1 mX8_holdsOn.2.2.1 mX8_holdsOn.2.2.2 ∈ lwG := mG 893 (by decide +kernel) (by decide +kernel)
abbrev mX8_date : gM := (yX8_date, cX8_date, 3, none)
theorem cdX8_date : Cond.code mX8_date.1 mX8_date.2.1 mX8_date.2.2.1 mX8_date.2.2.2 ∈ lwG := mG 897 (by decide +kernel) (by decide +kernel)
abbrev mX8_isLeap : gM := (yX8_isLeap, cX8_isLeap, 1, (some .boolean))
theorem cdX8_isLeap : Cond.code mX8_isLeap.1 mX8_isLeap.2.1 mX8_isLeap.2.2.1 mX8_isLeap.2.2.2 ∈ lwG := mG 900 (by decide +kernel) (by decide +kernel)
abbrev mX8_monthLength : gM := (yX8_monthLength, cX8_monthLength, 2, (some .int))
theorem cdX8_monthLength : Cond.code mX8_monthLength.1 mX8_monthLength.2.1 mX8_monthLength.2.2.1 mX8_monthLength.2.2.2 ∈ lwG := mG 903 (by decide +kernel) (by decide +kernel)
abbrev mX8_weekdayOf : gM := (yX8_weekdayOf, cX8_weekdayOf, 1, (some .int))
theorem cdX8_weekdayOf : Cond.code mX8_weekdayOf.1 mX8_weekdayOf.2.1 mX8_weekdayOf.2.2.1 mX8_weekdayOf.2.2.2 ∈ lwG := mG 906 (by decide +kernel) (by decide +kernel)
abbrev mX8_isFree : gM := (yX8_isFree, cX8_isFree, 3, (some .boolean))
theorem cdX8_isFree : Cond.code mX8_isFree.1 mX8_isFree.2.1 mX8_isFree.2.2.1 mX8_isFree.2.2.2 ∈ lwG := mG 910 (by decide +kernel) (by decide +kernel)
abbrev mX8_next : gM := (yX8_next, cX8_next, 3, (some .int))
theorem cdX8_next : Cond.code mX8_next.1 mX8_next.2.1 mX8_next.2.2.1 mX8_next.2.2.2 ∈ lwG := mG 914 (by decide +kernel) (by decide +kernel)
abbrev mX8_firstFrom : gM := (yX8_firstFrom, cX8_firstFrom, 6, (some .int))
theorem cdX8_firstFrom : Cond.code mX8_firstFrom.1 mX8_firstFrom.2.1 mX8_firstFrom.2.2.1 mX8_firstFrom.2.2.2 ∈ lwG := mG 918 (by decide +kernel) (by decide +kernel)
abbrev mX8_part : gM := (yX8_part, cX8_part, 3, (some .int))
theorem cdX8_part : Cond.code mX8_part.1 mX8_part.2.1 mX8_part.2.2.1 mX8_part.2.2.2 ∈ lwG := mG 922 (by decide +kernel) (by decide +kernel)
abbrev mX8_task : gM := (yX8_task, cX8_task, 7, (some .int))
theorem cdX8_task : Cond.code mX8_task.1 mX8_task.2.1 mX8_task.2.2.1 mX8_task.2.2.2 ∈ lwG := mG 926 (by decide +kernel) (by decide +kernel)
abbrev mX8_slots : gM := (yX8_slots, cX8_slots, 2, (some .boolean))
theorem cdX8_slots : Cond.code mX8_slots.1 mX8_slots.2.1 mX8_slots.2.2.1 mX8_slots.2.2.2 ∈ lwG := mG 930 (by decide +kernel) (by decide +kernel)
abbrev mX8_pass : gM := (yX8_pass, cX8_pass, 5, (some .int))
theorem cdX8_pass : Cond.code mX8_pass.1 mX8_pass.2.1 mX8_pass.2.2.1 mX8_pass.2.2.2 ∈ lwG := mG 934 (by decide +kernel) (by decide +kernel)
abbrev mX8_fire : gM := (yX8_fire, cX8_fire, 3, none)
theorem cdX8_fire : Cond.code mX8_fire.1 mX8_fire.2.1 mX8_fire.2.2.1 mX8_fire.2.2.2 ∈ lwG := mG 938 (by decide +kernel) (by decide +kernel)
abbrev mX8_note : gM := (yX8_note, cX8_note, 5, none)
theorem cdX8_note : Cond.code mX8_note.1 mX8_note.2.1 mX8_note.2.2.1 mX8_note.2.2.2 ∈ lwG := mG 942 (by decide +kernel) (by decide +kernel)
abbrev mX8_start : gM := (yX8_start, cX8_start, 3, (some .int))
theorem cdX8_start : Cond.code mX8_start.1 mX8_start.2.1 mX8_start.2.2.1 mX8_start.2.2.2 ∈ lwG := mG 946 (by decide +kernel) (by decide +kernel)
abbrev mX8_best : gM := (yX8_best, cX8_best, 5, (some .int))
theorem cdX8_best : Cond.code mX8_best.1 mX8_best.2.1 mX8_best.2.2.1 mX8_best.2.2.2 ∈ lwG := mG 950 (by decide +kernel) (by decide +kernel)
abbrev mX8_isReady : gM := (yX8_isReady, cX8_isReady, 6, (some .boolean))
theorem cdX8_isReady : Cond.code mX8_isReady.1 mX8_isReady.2.1 mX8_isReady.2.2.1 mX8_isReady.2.2.2 ∈ lwG := mG 954 (by decide +kernel) (by decide +kernel)
abbrev mX8_runningTasks : gM := (yX8_runningTasks, cX8_runningTasks, 3, (some .int))
theorem cdX8_runningTasks : Cond.code mX8_runningTasks.1 mX8_runningTasks.2.1 mX8_runningTasks.2.2.1 mX8_runningTasks.2.2.2 ∈ lwG := mG 958 (by decide +kernel) (by decide +kernel)
abbrev mX8_set : gM := (yX8_set, cX8_set, 2, none)
theorem cdX8_set : Cond.code mX8_set.1 mX8_set.2.1 mX8_set.2.2.1 mX8_set.2.2.2 ∈ lwG := mG 962 (by decide +kernel) (by decide +kernel)
abbrev mX8_isBusy : gM := (yX8_isBusy, cX8_isBusy, 3, (some .boolean))
theorem cdX8_isBusy : Cond.code mX8_isBusy.1 mX8_isBusy.2.1 mX8_isBusy.2.2.1 mX8_isBusy.2.2.2 ∈ lwG := mG 966 (by decide +kernel) (by decide +kernel)
abbrev mX8_end : gM := (yX8_end, cX8_end, 4, (some .int))
theorem cdX8_end : Cond.code mX8_end.1 mX8_end.2.1 mX8_end.2.2.1 mX8_end.2.2.2 ∈ lwG := mG 970 (by decide +kernel) (by decide +kernel)
abbrev mX8_isTask : gM := (yX8_isTask, cX8_isTask, 3, (some .boolean))
theorem cdX8_isTask : Cond.code mX8_isTask.1 mX8_isTask.2.1 mX8_isTask.2.2.1 mX8_isTask.2.2.2 ∈ lwG := mG 974 (by decide +kernel) (by decide +kernel)
abbrev mX8_endTask : gM := (yX8_endTask, cX8_endTask, 7, none)
theorem cdX8_endTask : Cond.code mX8_endTask.1 mX8_endTask.2.1 mX8_endTask.2.2.1 mX8_endTask.2.2.2 ∈ lwG := mG 978 (by decide +kernel) (by decide +kernel)
abbrev mX8_leaveOut : gM := (yX8_leaveOut, cX8_leaveOut, 5, none)
theorem cdX8_leaveOut : Cond.code mX8_leaveOut.1 mX8_leaveOut.2.1 mX8_leaveOut.2.2.1 mX8_leaveOut.2.2.2 ∈ lwG := mG 982 (by decide +kernel) (by decide +kernel)
abbrev mX8_down : gM := (yX8_down, cX8_down, 2, (some .int))
theorem cdX8_down : Cond.code mX8_down.1 mX8_down.2.1 mX8_down.2.2.1 mX8_down.2.2.2 ∈ lwG := mG 986 (by decide +kernel) (by decide +kernel)
abbrev mX8_comeUp : gM := (yX8_comeUp, cX8_comeUp, 2, (some .int))
theorem cdX8_comeUp : Cond.code mX8_comeUp.1 mX8_comeUp.2.1 mX8_comeUp.2.2.1 mX8_comeUp.2.2.2 ∈ lwG := mG 990 (by decide +kernel) (by decide +kernel)
abbrev mX8_now : gM := (yX8_now, cX8_now, 1, (some .int))
theorem cdX8_now : Cond.code mX8_now.1 mX8_now.2.1 mX8_now.2.2.1 mX8_now.2.2.2 ∈ lwG := mG 994 (by decide +kernel) (by decide +kernel)
abbrev mX8_state : gM := (yX8_state, cX8_state, 3, (some .int))
theorem cdX8_state : Cond.code mX8_state.1 mX8_state.2.1 mX8_state.2.2.1 mX8_state.2.2.2 ∈ lwG := mG 998 (by decide +kernel) (by decide +kernel)
abbrev mX8_count : gM := (yX8_count, cX8_count, 3, (some .int))
theorem cdX8_count : Cond.code mX8_count.1 mX8_count.2.1 mX8_count.2.2.1 mX8_count.2.2.2 ∈ lwG := mG 1002 (by decide +kernel) (by decide +kernel)
abbrev mX8_entries : gM := (yX8_entries, cX8_entries, 1, (some .int))
theorem cdX8_entries : Cond.code mX8_entries.1 mX8_entries.2.1 mX8_entries.2.2.1 mX8_entries.2.2.2 ∈ lwG := mG 1006 (by decide +kernel) (by decide +kernel)
abbrev mX8_entry : gM := (yX8_entry, cX8_entry, 3, (some .int))
theorem cdX8_entry : Cond.code mX8_entry.1 mX8_entry.2.1 mX8_entry.2.2.1 mX8_entry.2.2.2 ∈ lwG := mG 1010 (by decide +kernel) (by decide +kernel)
abbrev mL_law : gM := (x, code, maxLocals, ret)
theorem inX0 : Cond.initialized RX0 ∈ lwG := mG 59 (by decide +kernel) (by decide +kernel)
theorem inX1 : Cond.initialized RX1 ∈ lwG := mG 68 (by decide +kernel) (by decide +kernel)
theorem inX2 : Cond.initialized RX2 ∈ lwG := mG 67 (by decide +kernel) (by decide +kernel)
theorem inX3 : Cond.initialized RX3 ∈ lwG := mG 60 (by decide +kernel) (by decide +kernel)
theorem inX4 : Cond.initialized RX4 ∈ lwG := mG 57 (by decide +kernel) (by decide +kernel)
theorem inX5 : Cond.initialized RX5 ∈ lwG := mG 70 (by decide +kernel) (by decide +kernel)
theorem inX6 : Cond.initialized RX6 ∈ lwG := mG 58 (by decide +kernel) (by decide +kernel)
theorem inX7 : Cond.initialized RX7 ∈ lwG := mG 56 (by decide +kernel) (by decide +kernel)
theorem inX8 : Cond.initialized RX8 ∈ lwG := mG 61 (by decide +kernel) (by decide +kernel)
theorem inL : Cond.initialized RL ∈ lwG := mG 55 (by decide +kernel) (by decide +kernel)
theorem ia0 : Cond.instantiable RX0 4 ∈ lwG := mG 122 (by decide +kernel) (by decide +kernel)
theorem ia1 : Cond.instantiable RX1 2 ∈ lwG := mG 382 (by decide +kernel) (by decide +kernel)
theorem ia2 : Cond.instantiable RX2 7 ∈ lwG := mG 376 (by decide +kernel) (by decide +kernel)
theorem ia3 : Cond.instantiable RX3 2 ∈ lwG := mG 146 (by decide +kernel) (by decide +kernel)
theorem ia4 : Cond.instantiable RX4 6 ∈ lwG := mG 81 (by decide +kernel) (by decide +kernel)
theorem ia5 : Cond.instantiable RX5 6 ∈ lwG := mG 464 (by decide +kernel) (by decide +kernel)
theorem ia6 : Cond.instantiable RX6 2 ∈ lwG := mG 87 (by decide +kernel) (by decide +kernel)
theorem ia7 : Cond.instantiable RX7 10 ∈ lwG := mG 73 (by decide +kernel) (by decide +kernel)
theorem ia8 : Cond.instantiable RX8 28 ∈ lwG := mG 705 (by decide +kernel) (by decide +kernel)
theorem clL_8 : Cond.classLink RL 8 RX7 ∈ lwG := mG 72 (by decide +kernel) (by decide +kernel)
theorem clX7_7 : Cond.classLink RX7 7 RX4 ∈ lwG := mG 80 (by decide +kernel) (by decide +kernel)
theorem clX4_9 : Cond.classLink RX4 9 RX6 ∈ lwG := mG 86 (by decide +kernel) (by decide +kernel)
theorem ac_char : Cond.arrayClass (newarray.typeOf .char) ∈ lwG := mG 99 (by decide +kernel) (by decide +kernel)
theorem ac_long : Cond.arrayClass (newarray.typeOf .long) ∈ lwG := mG 120 (by decide +kernel) (by decide +kernel)
theorem clX7_16 : Cond.classLink RX7 16 RX0 ∈ lwG := mG 121 (by decide +kernel) (by decide +kernel)
theorem clX7_23 : Cond.classLink RX7 23 RX3 ∈ lwG := mG 145 (by decide +kernel) (by decide +kernel)
theorem ac_int : Cond.arrayClass (newarray.typeOf .int) ∈ lwG := mG 159 (by decide +kernel) (by decide +kernel)
theorem clX7_30 : Cond.classLink RX7 30 RX2 ∈ lwG := mG 160 (by decide +kernel) (by decide +kernel)
theorem ckX6_21 : Cond.constantLong RX6 21 255 ∈ lwG := mG 204 (by decide +kernel) (by decide +kernel)
theorem clL_13 : Cond.classLink RL 13 "java/lang/UnsupportedOperationException" ∈ lwG := mG 256 (by decide +kernel) (by decide +kernel)
theorem clL_15 : Cond.classLink RL 15 "java/lang/IllegalArgumentException" ∈ lwG := mG 257 (by decide +kernel) (by decide +kernel)
theorem clX7_66 : Cond.classLink RX7 66 "java/lang/UnsupportedOperationException" ∈ lwG := mG 262 (by decide +kernel) (by decide +kernel)
theorem clX7_73 : Cond.classLink RX7 73 "java/lang/IllegalArgumentException" ∈ lwG := mG 361 (by decide +kernel) (by decide +kernel)
theorem clX4_40 : Cond.classLink RX4 40 RX1 ∈ lwG := mG 381 (by decide +kernel) (by decide +kernel)
theorem clX1_10 : Cond.classLink RX1 10 "[J" ∈ lwG := mG 393 (by decide +kernel) (by decide +kernel)
theorem clX2_9 : Cond.classLink RX2 9 RX5 ∈ lwG := mG 405 (by decide +kernel) (by decide +kernel)
theorem clL_21 : Cond.classLink RL 21 "java/lang/IndexOutOfBoundsException" ∈ lwG := mG 439 (by decide +kernel) (by decide +kernel)
theorem clX7_90 : Cond.classLink RX7 90 "java/lang/IndexOutOfBoundsException" ∈ lwG := mG 444 (by decide +kernel) (by decide +kernel)
theorem clX7_102 : Cond.classLink RX7 102 RX5 ∈ lwG := mG 463 (by decide +kernel) (by decide +kernel)
theorem ckX7_142 : Cond.constant RX7 142 20000000 ∈ lwG := mG 505 (by decide +kernel) (by decide +kernel)
theorem ckX7_121 : Cond.constant RX7 121 19999999 ∈ lwG := mG 559 (by decide +kernel) (by decide +kernel)
theorem clL_37 : Cond.classLink RL 37 "java/lang/IllegalStateException" ∈ lwG := mG 580 (by decide +kernel) (by decide +kernel)
theorem clX7_143 : Cond.classLink RX7 143 "java/lang/IllegalStateException" ∈ lwG := mG 585 (by decide +kernel) (by decide +kernel)
theorem clL_55 : Cond.classLink RL 55 RX8 ∈ lwG := mG 704 (by decide +kernel) (by decide +kernel)
theorem ac_boolean : Cond.arrayClass (newarray.typeOf .boolean) ∈ lwG := mG 795 (by decide +kernel) (by decide +kernel)
theorem ckX8_69 : Cond.constantLong RX8 69 255 ∈ lwG := mG 804 (by decide +kernel) (by decide +kernel)
theorem ckX8_156 : Cond.constant RX8 156 20000000 ∈ lwG := mG 861 (by decide +kernel) (by decide +kernel)
theorem ckL_58 : Cond.constantLong RL 58 4294967295 ∈ lwG := mG 1011 (by decide +kernel) (by decide +kernel)
theorem oi1 : Cond.instanceMethod objectInit ∈ lwG := mG 78 (by decide +kernel) (by decide +kernel)
theorem oi2 : Cond.code objectInit ⟨#[0xb1]⟩ 1 none ∈ lwG := mG 79 (by decide +kernel) (by decide +kernel)
theorem oiX7 : Cond.methodLink RX7 1 objectInit ∈ lwG := mG 77 (by decide +kernel) (by decide +kernel)
theorem cwX7_9 : gCI RX7 9 mX4_init 0 := ⟨Or.inr ⟨RX7, mN 82 (by decide +kernel) (by decide +kernel)⟩, mG 83 (by decide +kernel) (by decide +kernel), rfl, rfl, inX4, cdX4_init, by decide +kernel, by decide +kernel, by decide +kernel⟩
theorem cwX7_18 : gCI RX7 18 mX0_init 0 := ⟨Or.inr ⟨RX7, mN 123 (by decide +kernel) (by decide +kernel)⟩, mG 124 (by decide +kernel) (by decide +kernel), rfl, rfl, inX0, cdX0_init, by decide +kernel, by decide +kernel, by decide +kernel⟩
theorem cwX7_25 : gCI RX7 25 mX3_init 0 := ⟨Or.inr ⟨RX7, mN 147 (by decide +kernel) (by decide +kernel)⟩, mG 148 (by decide +kernel) (by decide +kernel), rfl, rfl, inX3, cdX3_init, by decide +kernel, by decide +kernel, by decide +kernel⟩
theorem cwX7_60 : gCV RX7 60 mX6_append 1 := ⟨mG 197 (by decide +kernel) (by decide +kernel), mG 198 (by decide +kernel) (by decide +kernel), mG 199 (by decide +kernel) (by decide +kernel), inX6, cdX6_append, by decide +kernel, by decide +kernel, by decide +kernel⟩
theorem cwX7_69 : gCV RX7 69 mX4_read 0 := ⟨mG 326 (by decide +kernel) (by decide +kernel), mG 327 (by decide +kernel) (by decide +kernel), mG 328 (by decide +kernel) (by decide +kernel), inX4, cdX4_read, by decide +kernel, by decide +kernel, by decide +kernel⟩
theorem cwX7_76 : gCV RX7 76 mX4_expression 0 := ⟨mG 377 (by decide +kernel) (by decide +kernel), mG 378 (by decide +kernel) (by decide +kernel), mG 379 (by decide +kernel) (by decide +kernel), inX4, cdX4_expression, by decide +kernel, by decide +kernel, by decide +kernel⟩
theorem cwX7_80 : gCI RX7 80 mX2_init 2 := ⟨Or.inl (mG 401 (by decide +kernel) (by decide +kernel)), mG 402 (by decide +kernel) (by decide +kernel), rfl, rfl, inX2, cdX2_init, by decide +kernel, by decide +kernel, by decide +kernel⟩
theorem cwX7_83 : gCV RX7 83 mX6_clear 0 := ⟨mG 213 (by decide +kernel) (by decide +kernel), mG 214 (by decide +kernel) (by decide +kernel), mG 215 (by decide +kernel) (by decide +kernel), inX6, cdX6_clear, by decide +kernel, by decide +kernel, by decide +kernel⟩
theorem cwX7_86 : gCV RX7 86 mX7_isJob 1 := ⟨mG 233 (by decide +kernel) (by decide +kernel), mG 235 (by decide +kernel) (by decide +kernel), mG 1 (by decide +kernel) (by decide +kernel), inX7, cdX7_isJob, by decide +kernel, by decide +kernel, by decide +kernel⟩
theorem cwX7_99 : gCV RX7 99 mX2_allTasks 0 := ⟨mG 459 (by decide +kernel) (by decide +kernel), mG 460 (by decide +kernel) (by decide +kernel), mG 461 (by decide +kernel) (by decide +kernel), inX2, cdX2_allTasks, by decide +kernel, by decide +kernel, by decide +kernel⟩
theorem cwX7_104 : gCI RX7 104 mX5_init 3 := ⟨Or.inl (mG 465 (by decide +kernel) (by decide +kernel)), mG 466 (by decide +kernel) (by decide +kernel), rfl, rfl, inX5, cdX5_init, by decide +kernel, by decide +kernel, by decide +kernel⟩
theorem cwX7_107 : gCV RX7 107 mX2_addTask 1 := ⟨mG 491 (by decide +kernel) (by decide +kernel), mG 492 (by decide +kernel) (by decide +kernel), mG 493 (by decide +kernel) (by decide +kernel), inX2, cdX2_addTask, by decide +kernel, by decide +kernel, by decide +kernel⟩
theorem cwX7_111 : gCS RX7 111 mX7_isMinute 1 := ⟨mG 502 (by decide +kernel) (by decide +kernel), mG 503 (by decide +kernel) (by decide +kernel), inX7, cdX7_isMinute, by decide +kernel, by decide +kernel, by decide +kernel⟩
theorem cwX7_117 : gCV RX7 117 mX7_holdsAt 2 := ⟨mG 506 (by decide +kernel) (by decide +kernel), mG 508 (by decide +kernel) (by decide +kernel), mG 9 (by decide +kernel) (by decide +kernel), inX7, cdX7_holdsAt, by decide +kernel, by decide +kernel, by decide +kernel⟩
theorem cwX7_122 : gCV RX7 122 mX7_firstBehind 3 := ⟨mG 560 (by decide +kernel) (by decide +kernel), mG 562 (by decide +kernel) (by decide +kernel), mG 16 (by decide +kernel) (by decide +kernel), inX7, cdX7_firstBehind, by decide +kernel, by decide +kernel, by decide +kernel⟩
theorem cwX7_126 : gCV RX7 126 mX0_turnTo 1 := ⟨mG 518 (by decide +kernel) (by decide +kernel), mG 519 (by decide +kernel) (by decide +kernel), mG 520 (by decide +kernel) (by decide +kernel), inX0, cdX0_turnTo, by decide +kernel, by decide +kernel, by decide +kernel⟩
theorem cwX7_139 : gCV RX7 139 mX0_weekday 0 := ⟨mG 576 (by decide +kernel) (by decide +kernel), mG 549 (by decide +kernel) (by decide +kernel), mG 550 (by decide +kernel) (by decide +kernel), inX0, cdX0_weekday, by decide +kernel, by decide +kernel, by decide +kernel⟩
theorem cwX7_146 : gCV RX7 146 mX7_makeStep 0 := ⟨mG 600 (by decide +kernel) (by decide +kernel), mG 602 (by decide +kernel) (by decide +kernel), mG 17 (by decide +kernel) (by decide +kernel), inX7, cdX7_makeStep, by decide +kernel, by decide +kernel, by decide +kernel⟩
theorem cwX7_149 : gCV RX7 149 mX7_isAnyRunUnderWay 0 := ⟨mG 655 (by decide +kernel) (by decide +kernel), mG 657 (by decide +kernel) (by decide +kernel), mG 22 (by decide +kernel) (by decide +kernel), inX7, cdX7_isAnyRunUnderWay, by decide +kernel, by decide +kernel, by decide +kernel⟩
theorem cwX7_153 : gCV RX7 153 mX7_isTask 2 := ⟨mG 229 (by decide +kernel) (by decide +kernel), mG 231 (by decide +kernel) (by decide +kernel), mG 0 (by decide +kernel) (by decide +kernel), inX7, cdX7_isTask, by decide +kernel, by decide +kernel, by decide +kernel⟩
theorem cwX7_164 : gCV RX7 164 mX7_endTask 3 := ⟨mG 666 (by decide +kernel) (by decide +kernel), mG 668 (by decide +kernel) (by decide +kernel), mG 23 (by decide +kernel) (by decide +kernel), inX7, cdX7_endTask, by decide +kernel, by decide +kernel, by decide +kernel⟩
theorem cwX7_168 : gCV RX7 168 mX7_catchUp 0 := ⟨mG 685 (by decide +kernel) (by decide +kernel), mG 687 (by decide +kernel) (by decide +kernel), mG 25 (by decide +kernel) (by decide +kernel), inX7, cdX7_catchUp, by decide +kernel, by decide +kernel, by decide +kernel⟩
theorem cwX7_171 : gCV RX7 171 mX7_countRunning 0 := ⟨mG 241 (by decide +kernel) (by decide +kernel), mG 243 (by decide +kernel) (by decide +kernel), mG 2 (by decide +kernel) (by decide +kernel), inX7, cdX7_countRunning, by decide +kernel, by decide +kernel, by decide +kernel⟩
theorem cwX7_183 : gCV RX7 183 mX3_keeps 1 := ⟨mG 696 (by decide +kernel) (by decide +kernel), mG 697 (by decide +kernel) (by decide +kernel), mG 698 (by decide +kernel) (by decide +kernel), inX3, cdX3_keeps, by decide +kernel, by decide +kernel, by decide +kernel⟩
theorem cwX7_186 : gCV RX7 186 mX3_read 2 := ⟨mG 700 (by decide +kernel) (by decide +kernel), mG 701 (by decide +kernel) (by decide +kernel), mG 702 (by decide +kernel) (by decide +kernel), inX3, cdX3_read, by decide +kernel, by decide +kernel, by decide +kernel⟩
theorem cwX7_189 : gCV RX7 189 mX2_countRunning 0 := ⟨mG 245 (by decide +kernel) (by decide +kernel), mG 246 (by decide +kernel) (by decide +kernel), mG 247 (by decide +kernel) (by decide +kernel), inX2, cdX2_countRunning, by decide +kernel, by decide +kernel, by decide +kernel⟩
theorem cwX7_190 : gCV RX7 190 mX1_hasTime 1 := ⟨mG 510 (by decide +kernel) (by decide +kernel), mG 511 (by decide +kernel) (by decide +kernel), mG 512 (by decide +kernel) (by decide +kernel), inX1, cdX1_hasTime, by decide +kernel, by decide +kernel, by decide +kernel⟩
theorem cwX7_195 : gCV RX7 195 mX1_hasDay 1 := ⟨mG 544 (by decide +kernel) (by decide +kernel), mG 545 (by decide +kernel) (by decide +kernel), mG 546 (by decide +kernel) (by decide +kernel), inX1, cdX1_hasDay, by decide +kernel, by decide +kernel, by decide +kernel⟩
theorem cwX7_199 : gCV RX7 199 mX1_firstTime 1 := ⟨mG 564 (by decide +kernel) (by decide +kernel), mG 565 (by decide +kernel) (by decide +kernel), mG 566 (by decide +kernel) (by decide +kernel), inX1, cdX1_firstTime, by decide +kernel, by decide +kernel, by decide +kernel⟩
theorem cwX7_203 : gCV RX7 203 mX7_fire 1 := ⟨mG 604 (by decide +kernel) (by decide +kernel), mG 606 (by decide +kernel) (by decide +kernel), mG 18 (by decide +kernel) (by decide +kernel), inX7, cdX7_fire, by decide +kernel, by decide +kernel, by decide +kernel⟩
theorem cwX7_206 : gCV RX7 206 mX7_startTasks 0 := ⟨mG 632 (by decide +kernel) (by decide +kernel), mG 634 (by decide +kernel) (by decide +kernel), mG 20 (by decide +kernel) (by decide +kernel), inX7, cdX7_startTasks, by decide +kernel, by decide +kernel, by decide +kernel⟩
theorem cwX7_209 : gCV RX7 209 mX3_add 4 := ⟨mG 608 (by decide +kernel) (by decide +kernel), mG 609 (by decide +kernel) (by decide +kernel), mG 610 (by decide +kernel) (by decide +kernel), inX3, cdX3_add, by decide +kernel, by decide +kernel, by decide +kernel⟩
theorem cwX7_213 : gCV RX7 213 mX2_begin 0 := ⟨mG 612 (by decide +kernel) (by decide +kernel), mG 613 (by decide +kernel) (by decide +kernel), mG 614 (by decide +kernel) (by decide +kernel), inX2, cdX2_begin, by decide +kernel, by decide +kernel, by decide +kernel⟩
theorem cwX7_216 : gCV RX7 216 mX7_closeRunIfOver 1 := ⟨mG 620 (by decide +kernel) (by decide +kernel), mG 622 (by decide +kernel) (by decide +kernel), mG 19 (by decide +kernel) (by decide +kernel), inX7, cdX7_closeRunIfOver, by decide +kernel, by decide +kernel, by decide +kernel⟩
theorem cwX7_219 : gCV RX7 219 mX2_isAllOver 0 := ⟨mG 624 (by decide +kernel) (by decide +kernel), mG 625 (by decide +kernel) (by decide +kernel), mG 626 (by decide +kernel) (by decide +kernel), inX2, cdX2_isAllOver, by decide +kernel, by decide +kernel, by decide +kernel⟩
theorem cwX7_222 : gCV RX7 222 mX7_firstReadyJob 0 := ⟨mG 636 (by decide +kernel) (by decide +kernel), mG 638 (by decide +kernel) (by decide +kernel), mG 21 (by decide +kernel) (by decide +kernel), inX7, cdX7_firstReadyJob, by decide +kernel, by decide +kernel, by decide +kernel⟩
theorem cwX7_225 : gCV RX7 225 mX2_firstReady 1 := ⟨mG 640 (by decide +kernel) (by decide +kernel), mG 641 (by decide +kernel) (by decide +kernel), mG 642 (by decide +kernel) (by decide +kernel), inX2, cdX2_firstReady, by decide +kernel, by decide +kernel, by decide +kernel⟩
theorem cwX7_231 : gCV RX7 231 mX5_tryAgain 1 := ⟨mG 670 (by decide +kernel) (by decide +kernel), mG 671 (by decide +kernel) (by decide +kernel), mG 672 (by decide +kernel) (by decide +kernel), inX5, cdX5_tryAgain, by decide +kernel, by decide +kernel, by decide +kernel⟩
theorem cwX7_234 : gCV RX7 234 mX7_leaveOutBehind 2 := ⟨mG 674 (by decide +kernel) (by decide +kernel), mG 676 (by decide +kernel) (by decide +kernel), mG 24 (by decide +kernel) (by decide +kernel), inX7, cdX7_leaveOutBehind, by decide +kernel, by decide +kernel, by decide +kernel⟩
theorem oiX0 : Cond.methodLink RX0 1 objectInit ∈ lwG := mG 126 (by decide +kernel) (by decide +kernel)
theorem cwX0_22 : gCV RX0 22 mX0_turnOne 0 := ⟨mG 522 (by decide +kernel) (by decide +kernel), mG 524 (by decide +kernel) (by decide +kernel), mG 11 (by decide +kernel) (by decide +kernel), inX0, cdX0_turnOne, by decide +kernel, by decide +kernel, by decide +kernel⟩
theorem cwX0_25 : gCV RX0 25 mX0_find 1 := ⟨mG 536 (by decide +kernel) (by decide +kernel), mG 538 (by decide +kernel) (by decide +kernel), mG 14 (by decide +kernel) (by decide +kernel), inX0, cdX0_find, by decide +kernel, by decide +kernel, by decide +kernel⟩
theorem cwX0_29 : gCV RX0 29 mX0_daysOfMonth 0 := ⟨mG 526 (by decide +kernel) (by decide +kernel), mG 528 (by decide +kernel) (by decide +kernel), mG 12 (by decide +kernel) (by decide +kernel), inX0, cdX0_daysOfMonth, by decide +kernel, by decide +kernel, by decide +kernel⟩
theorem cwX0_33 : gCV RX0 33 mX0_daysOfYear 0 := ⟨mG 540 (by decide +kernel) (by decide +kernel), mG 542 (by decide +kernel) (by decide +kernel), mG 15 (by decide +kernel) (by decide +kernel), inX0, cdX0_daysOfYear, by decide +kernel, by decide +kernel, by decide +kernel⟩
theorem cwX0_36 : gCV RX0 36 mX0_isLeapYear 0 := ⟨mG 530 (by decide +kernel) (by decide +kernel), mG 532 (by decide +kernel) (by decide +kernel), mG 13 (by decide +kernel) (by decide +kernel), inX0, cdX0_isLeapYear, by decide +kernel, by decide +kernel, by decide +kernel⟩
theorem oiX1 : Cond.methodLink RX1 3 objectInit ∈ lwG := mG 386 (by decide +kernel) (by decide +kernel)
theorem cwX1_24 : gCV RX1 24 mX1_has 2 := ⟨mG 514 (by decide +kernel) (by decide +kernel), mG 516 (by decide +kernel) (by decide +kernel), mG 10 (by decide +kernel) (by decide +kernel), inX1, cdX1_has, by decide +kernel, by decide +kernel, by decide +kernel⟩
theorem cwX1_37 : gCV RX1 37 mX0_weekday 0 := ⟨mG 548 (by decide +kernel) (by decide +kernel), mG 549 (by decide +kernel) (by decide +kernel), mG 550 (by decide +kernel) (by decide +kernel), inX0, cdX0_weekday, by decide +kernel, by decide +kernel, by decide +kernel⟩
theorem cwX1_41 : gCV RX1 41 mX1_hasTime 1 := ⟨mG 568 (by decide +kernel) (by decide +kernel), mG 511 (by decide +kernel) (by decide +kernel), mG 512 (by decide +kernel) (by decide +kernel), inX1, cdX1_hasTime, by decide +kernel, by decide +kernel, by decide +kernel⟩
theorem oiX2 : Cond.methodLink RX2 3 objectInit ∈ lwG := mG 404 (by decide +kernel) (by decide +kernel)
theorem cwX2_38 : gCV RX2 38 mX5_begin 0 := ⟨mG 616 (by decide +kernel) (by decide +kernel), mG 617 (by decide +kernel) (by decide +kernel), mG 618 (by decide +kernel) (by decide +kernel), inX5, cdX5_begin, by decide +kernel, by decide +kernel, by decide +kernel⟩
theorem cwX2_41 : gCV RX2 41 mX5_isOver 0 := ⟨mG 628 (by decide +kernel) (by decide +kernel), mG 629 (by decide +kernel) (by decide +kernel), mG 630 (by decide +kernel) (by decide +kernel), inX5, cdX5_isOver, by decide +kernel, by decide +kernel, by decide +kernel⟩
theorem cwX2_48 : gCV RX2 48 mX5_isReady 2 := ⟨mG 644 (by decide +kernel) (by decide +kernel), mG 645 (by decide +kernel) (by decide +kernel), mG 646 (by decide +kernel) (by decide +kernel), inX5, cdX5_isReady, by decide +kernel, by decide +kernel, by decide +kernel⟩
theorem oiX3 : Cond.methodLink RX3 1 objectInit ∈ lwG := mG 150 (by decide +kernel) (by decide +kernel)
theorem oiX4 : Cond.methodLink RX4 3 objectInit ∈ lwG := mG 85 (by decide +kernel) (by decide +kernel)
theorem cwX4_11 : gCI RX4 11 mX6_init 0 := ⟨Or.inr ⟨RX7, mN 88 (by decide +kernel) (by decide +kernel)⟩, mG 89 (by decide +kernel) (by decide +kernel), rfl, rfl, inX6, cdX6_init, by decide +kernel, by decide +kernel, by decide +kernel⟩
theorem cwX4_36 : gCV RX4 36 mX4_readField 1 := ⟨mG 330 (by decide +kernel) (by decide +kernel), mG 332 (by decide +kernel) (by decide +kernel), mG 4 (by decide +kernel) (by decide +kernel), inX4, cdX4_readField, by decide +kernel, by decide +kernel, by decide +kernel⟩
theorem cwX4_42 : gCI RX4 42 mX1_init 2 := ⟨Or.inl (mG 383 (by decide +kernel) (by decide +kernel)), mG 384 (by decide +kernel) (by decide +kernel), rfl, rfl, inX1, cdX1_init, by decide +kernel, by decide +kernel, by decide +kernel⟩
theorem cwX4_45 : gCV RX4 45 mX6_signAt 1 := ⟨mG 334 (by decide +kernel) (by decide +kernel), mG 335 (by decide +kernel) (by decide +kernel), mG 336 (by decide +kernel) (by decide +kernel), inX6, cdX6_signAt, by decide +kernel, by decide +kernel, by decide +kernel⟩
theorem cwX4_49 : gCV RX4 49 mX4_readItem 1 := ⟨mG 338 (by decide +kernel) (by decide +kernel), mG 340 (by decide +kernel) (by decide +kernel), mG 5 (by decide +kernel) (by decide +kernel), inX4, cdX4_readItem, by decide +kernel, by decide +kernel, by decide +kernel⟩
theorem cwX4_52 : gCV RX4 52 mX4_readEndOfField 1 := ⟨mG 357 (by decide +kernel) (by decide +kernel), mG 359 (by decide +kernel) (by decide +kernel), mG 8 (by decide +kernel) (by decide +kernel), inX4, cdX4_readEndOfField, by decide +kernel, by decide +kernel, by decide +kernel⟩
theorem cwX4_62 : gCV RX4 62 mX4_readNumber 2 := ⟨mG 346 (by decide +kernel) (by decide +kernel), mG 348 (by decide +kernel) (by decide +kernel), mG 6 (by decide +kernel) (by decide +kernel), inX4, cdX4_readNumber, by decide +kernel, by decide +kernel, by decide +kernel⟩
theorem cwX4_66 : gCV RX4 66 mX4_addNumbers 4 := ⟨mG 353 (by decide +kernel) (by decide +kernel), mG 355 (by decide +kernel) (by decide +kernel), mG 7 (by decide +kernel) (by decide +kernel), inX4, cdX4_addNumbers, by decide +kernel, by decide +kernel, by decide +kernel⟩
theorem cwX4_70 : gCS RX4 70 mX4_isDigit 1 := ⟨mG 350 (by decide +kernel) (by decide +kernel), mG 351 (by decide +kernel) (by decide +kernel), inX4, cdX4_isDigit, by decide +kernel, by decide +kernel, by decide +kernel⟩
theorem oiX5 : Cond.methodLink RX5 3 objectInit ∈ lwG := mG 468 (by decide +kernel) (by decide +kernel)
theorem oiX6 : Cond.methodLink RX6 1 objectInit ∈ lwG := mG 91 (by decide +kernel) (by decide +kernel)
theorem cwX6_17 : gCS RX6 17 mX6_signOf 2 := ⟨mG 201 (by decide +kernel) (by decide +kernel), mG 202 (by decide +kernel) (by decide +kernel), inX6, cdX6_signOf, by decide +kernel, by decide +kernel, by decide +kernel⟩
theorem cwL_7 : gCV RL 7 mX7_job 1 := ⟨mG 258 (by decide +kernel) (by decide +kernel), mG 259 (by decide +kernel) (by decide +kernel), mG 260 (by decide +kernel) (by decide +kernel), inX7, cdX7_job, by decide +kernel, by decide +kernel, by decide +kernel⟩
theorem cwL_17 : gCV RL 17 mX7_task 4 := ⟨mG 440 (by decide +kernel) (by decide +kernel), mG 441 (by decide +kernel) (by decide +kernel), mG 442 (by decide +kernel) (by decide +kernel), inX7, cdX7_task, by decide +kernel, by decide +kernel, by decide +kernel⟩
theorem cwL_23 : gCV RL 23 mX7_holds 2 := ⟨mG 498 (by decide +kernel) (by decide +kernel), mG 499 (by decide +kernel) (by decide +kernel), mG 500 (by decide +kernel) (by decide +kernel), inX7, cdX7_holds, by decide +kernel, by decide +kernel, by decide +kernel⟩
theorem cwL_27 : gCV RL 27 mX7_next 2 := ⟨mG 555 (by decide +kernel) (by decide +kernel), mG 556 (by decide +kernel) (by decide +kernel), mG 557 (by decide +kernel) (by decide +kernel), inX7, cdX7_next, by decide +kernel, by decide +kernel, by decide +kernel⟩
theorem cwL_31 : gCV RL 31 mX7_part 2 := ⟨mG 572 (by decide +kernel) (by decide +kernel), mG 573 (by decide +kernel) (by decide +kernel), mG 574 (by decide +kernel) (by decide +kernel), inX7, cdX7_part, by decide +kernel, by decide +kernel, by decide +kernel⟩
theorem cwL_34 : gCV RL 34 mX7_pass 1 := ⟨mG 581 (by decide +kernel) (by decide +kernel), mG 582 (by decide +kernel) (by decide +kernel), mG 583 (by decide +kernel) (by decide +kernel), inX7, cdX7_pass, by decide +kernel, by decide +kernel, by decide +kernel⟩
theorem cwL_39 : gCV RL 39 mX7_set 1 := ⟨mG 651 (by decide +kernel) (by decide +kernel), mG 652 (by decide +kernel) (by decide +kernel), mG 653 (by decide +kernel) (by decide +kernel), inX7, cdX7_set, by decide +kernel, by decide +kernel, by decide +kernel⟩
theorem cwL_43 : gCV RL 43 mX7_end 3 := ⟨mG 662 (by decide +kernel) (by decide +kernel), mG 663 (by decide +kernel) (by decide +kernel), mG 664 (by decide +kernel) (by decide +kernel), inX7, cdX7_end, by decide +kernel, by decide +kernel, by decide +kernel⟩
theorem cwL_47 : gCV RL 47 mX7_down 1 := ⟨mG 681 (by decide +kernel) (by decide +kernel), mG 682 (by decide +kernel) (by decide +kernel), mG 683 (by decide +kernel) (by decide +kernel), inX7, cdX7_down, by decide +kernel, by decide +kernel, by decide +kernel⟩
theorem cwL_51 : gCV RL 51 mX7_entry 2 := ⟨mG 692 (by decide +kernel) (by decide +kernel), mG 693 (by decide +kernel) (by decide +kernel), mG 694 (by decide +kernel) (by decide +kernel), inX7, cdX7_entry, by decide +kernel, by decide +kernel, by decide +kernel⟩
theorem cwL_54 : gCI RL 54 mX7_init 0 := ⟨Or.inl (mG 74 (by decide +kernel) (by decide +kernel)), mG 75 (by decide +kernel) (by decide +kernel), rfl, rfl, inX7, cdX7_init, by decide +kernel, by decide +kernel, by decide +kernel⟩
theorem cwL_57 : gCI RL 57 mX8_init 0 := ⟨Or.inl (mG 706 (by decide +kernel) (by decide +kernel)), mG 707 (by decide +kernel) (by decide +kernel), rfl, rfl, inX8, cdX8_init, by decide +kernel, by decide +kernel, by decide +kernel⟩
theorem cwL_60 : gCV RL 60 mX7_type 1 := ⟨mG 193 (by decide +kernel) (by decide +kernel), mG 194 (by decide +kernel) (by decide +kernel), mG 195 (by decide +kernel) (by decide +kernel), inX7, cdX7_type, by decide +kernel, by decide +kernel, by decide +kernel⟩
theorem cwL_64 : gCV RL 64 mX8_type 1 := ⟨mG 800 (by decide +kernel) (by decide +kernel), mG 801 (by decide +kernel) (by decide +kernel), mG 802 (by decide +kernel) (by decide +kernel), inX8, cdX8_type, by decide +kernel, by decide +kernel, by decide +kernel⟩
theorem cwL_70 : gCV RL 70 mX8_job 1 := ⟨mG 809 (by decide +kernel) (by decide +kernel), mG 810 (by decide +kernel) (by decide +kernel), mG 811 (by decide +kernel) (by decide +kernel), inX8, cdX8_job, by decide +kernel, by decide +kernel, by decide +kernel⟩
theorem cwL_71 : gCV RL 71 mX8_thrown 0 := ⟨mG 796 (by decide +kernel) (by decide +kernel), mG 797 (by decide +kernel) (by decide +kernel), mG 798 (by decide +kernel) (by decide +kernel), inX8, cdX8_thrown, by decide +kernel, by decide +kernel, by decide +kernel⟩
theorem cwL_75 : gCV RL 75 mX7_fault 0 := ⟨mG 205 (by decide +kernel) (by decide +kernel), mG 206 (by decide +kernel) (by decide +kernel), mG 207 (by decide +kernel) (by decide +kernel), inX7, cdX7_fault, by decide +kernel, by decide +kernel, by decide +kernel⟩
theorem cwL_78 : gCV RL 78 mX8_fault 0 := ⟨mG 846 (by decide +kernel) (by decide +kernel), mG 847 (by decide +kernel) (by decide +kernel), mG 848 (by decide +kernel) (by decide +kernel), inX8, cdX8_fault, by decide +kernel, by decide +kernel, by decide +kernel⟩
theorem cwL_79 : gCV RL 79 mX7_erase 0 := ⟨mG 209 (by decide +kernel) (by decide +kernel), mG 210 (by decide +kernel) (by decide +kernel), mG 211 (by decide +kernel) (by decide +kernel), inX7, cdX7_erase, by decide +kernel, by decide +kernel, by decide +kernel⟩
theorem cwL_82 : gCV RL 82 mX8_erase 0 := ⟨mG 805 (by decide +kernel) (by decide +kernel), mG 806 (by decide +kernel) (by decide +kernel), mG 807 (by decide +kernel) (by decide +kernel), inX8, cdX8_erase, by decide +kernel, by decide +kernel, by decide +kernel⟩
theorem cwL_86 : gCV RL 86 mX8_task 4 := ⟨mG 923 (by decide +kernel) (by decide +kernel), mG 924 (by decide +kernel) (by decide +kernel), mG 925 (by decide +kernel) (by decide +kernel), inX8, cdX8_task, by decide +kernel, by decide +kernel, by decide +kernel⟩
theorem cwL_87 : gCV RL 87 mX7_slots 1 := ⟨mG 217 (by decide +kernel) (by decide +kernel), mG 218 (by decide +kernel) (by decide +kernel), mG 219 (by decide +kernel) (by decide +kernel), inX7, cdX7_slots, by decide +kernel, by decide +kernel, by decide +kernel⟩
theorem cwL_91 : gCV RL 91 mX8_slots 1 := ⟨mG 927 (by decide +kernel) (by decide +kernel), mG 928 (by decide +kernel) (by decide +kernel), mG 929 (by decide +kernel) (by decide +kernel), inX8, cdX8_slots, by decide +kernel, by decide +kernel, by decide +kernel⟩
theorem cwL_95 : gCV RL 95 mX8_holds 2 := ⟨mG 850 (by decide +kernel) (by decide +kernel), mG 851 (by decide +kernel) (by decide +kernel), mG 852 (by decide +kernel) (by decide +kernel), inX8, cdX8_holds, by decide +kernel, by decide +kernel, by decide +kernel⟩
theorem cwL_98 : gCV RL 98 mX8_next 2 := ⟨mG 911 (by decide +kernel) (by decide +kernel), mG 912 (by decide +kernel) (by decide +kernel), mG 913 (by decide +kernel) (by decide +kernel), inX8, cdX8_next, by decide +kernel, by decide +kernel, by decide +kernel⟩
theorem cwL_101 : gCV RL 101 mX8_part 2 := ⟨mG 919 (by decide +kernel) (by decide +kernel), mG 920 (by decide +kernel) (by decide +kernel), mG 921 (by decide +kernel) (by decide +kernel), inX8, cdX8_part, by decide +kernel, by decide +kernel, by decide +kernel⟩
theorem cwL_104 : gCV RL 104 mX8_pass 1 := ⟨mG 931 (by decide +kernel) (by decide +kernel), mG 932 (by decide +kernel) (by decide +kernel), mG 933 (by decide +kernel) (by decide +kernel), inX8, cdX8_pass, by decide +kernel, by decide +kernel, by decide +kernel⟩
theorem cwL_108 : gCV RL 108 mX8_set 1 := ⟨mG 959 (by decide +kernel) (by decide +kernel), mG 960 (by decide +kernel) (by decide +kernel), mG 961 (by decide +kernel) (by decide +kernel), inX8, cdX8_set, by decide +kernel, by decide +kernel, by decide +kernel⟩
theorem cwL_112 : gCV RL 112 mX8_end 3 := ⟨mG 967 (by decide +kernel) (by decide +kernel), mG 968 (by decide +kernel) (by decide +kernel), mG 969 (by decide +kernel) (by decide +kernel), inX8, cdX8_end, by decide +kernel, by decide +kernel, by decide +kernel⟩
theorem cwL_116 : gCV RL 116 mX8_down 1 := ⟨mG 983 (by decide +kernel) (by decide +kernel), mG 984 (by decide +kernel) (by decide +kernel), mG 985 (by decide +kernel) (by decide +kernel), inX8, cdX8_down, by decide +kernel, by decide +kernel, by decide +kernel⟩
theorem cwL_117 : gCV RL 117 mX7_now 0 := ⟨mG 221 (by decide +kernel) (by decide +kernel), mG 222 (by decide +kernel) (by decide +kernel), mG 223 (by decide +kernel) (by decide +kernel), inX7, cdX7_now, by decide +kernel, by decide +kernel, by decide +kernel⟩
theorem cwL_120 : gCV RL 120 mX8_now 0 := ⟨mG 991 (by decide +kernel) (by decide +kernel), mG 992 (by decide +kernel) (by decide +kernel), mG 993 (by decide +kernel) (by decide +kernel), inX8, cdX8_now, by decide +kernel, by decide +kernel, by decide +kernel⟩
theorem cwL_121 : gCV RL 121 mX7_state 2 := ⟨mG 225 (by decide +kernel) (by decide +kernel), mG 226 (by decide +kernel) (by decide +kernel), mG 227 (by decide +kernel) (by decide +kernel), inX7, cdX7_state, by decide +kernel, by decide +kernel, by decide +kernel⟩
theorem cwL_124 : gCV RL 124 mX8_state 2 := ⟨mG 995 (by decide +kernel) (by decide +kernel), mG 996 (by decide +kernel) (by decide +kernel), mG 997 (by decide +kernel) (by decide +kernel), inX8, cdX8_state, by decide +kernel, by decide +kernel, by decide +kernel⟩
theorem cwL_125 : gCV RL 125 mX7_count 2 := ⟨mG 237 (by decide +kernel) (by decide +kernel), mG 238 (by decide +kernel) (by decide +kernel), mG 239 (by decide +kernel) (by decide +kernel), inX7, cdX7_count, by decide +kernel, by decide +kernel, by decide +kernel⟩
theorem cwL_128 : gCV RL 128 mX8_count 2 := ⟨mG 999 (by decide +kernel) (by decide +kernel), mG 1000 (by decide +kernel) (by decide +kernel), mG 1001 (by decide +kernel) (by decide +kernel), inX8, cdX8_count, by decide +kernel, by decide +kernel, by decide +kernel⟩
theorem cwL_129 : gCV RL 129 mX7_entries 0 := ⟨mG 249 (by decide +kernel) (by decide +kernel), mG 250 (by decide +kernel) (by decide +kernel), mG 251 (by decide +kernel) (by decide +kernel), inX7, cdX7_entries, by decide +kernel, by decide +kernel, by decide +kernel⟩
theorem cwL_132 : gCV RL 132 mX8_entries 0 := ⟨mG 1003 (by decide +kernel) (by decide +kernel), mG 1004 (by decide +kernel) (by decide +kernel), mG 1005 (by decide +kernel) (by decide +kernel), inX8, cdX8_entries, by decide +kernel, by decide +kernel, by decide +kernel⟩
theorem cwL_135 : gCV RL 135 mX8_entry 2 := ⟨mG 1007 (by decide +kernel) (by decide +kernel), mG 1008 (by decide +kernel) (by decide +kernel), mG 1009 (by decide +kernel) (by decide +kernel), inX8, cdX8_entry, by decide +kernel, by decide +kernel, by decide +kernel⟩
theorem oiX8 : Cond.methodLink RX8 1 objectInit ∈ lwG := mG 709 (by decide +kernel) (by decide +kernel)
theorem cwX8_74 : gCV RX8 74 mX8_typedAt 1 := ⟨mG 821 (by decide +kernel) (by decide +kernel), mG 823 (by decide +kernel) (by decide +kernel), mG 28 (by decide +kernel) (by decide +kernel), inX8, cdX8_typedAt, by decide +kernel, by decide +kernel, by decide +kernel⟩
theorem cwX8_78 : gCS RX8 78 mX8_isDigit 1 := ⟨mG 836 (by decide +kernel) (by decide +kernel), mG 837 (by decide +kernel) (by decide +kernel), inX8, cdX8_isDigit, by decide +kernel, by decide +kernel, by decide +kernel⟩
theorem cwX8_82 : gCV RX8 82 mX8_digitsAt 1 := ⟨mG 832 (by decide +kernel) (by decide +kernel), mG 834 (by decide +kernel) (by decide +kernel), mG 30 (by decide +kernel) (by decide +kernel), inX8, cdX8_digitsAt, by decide +kernel, by decide +kernel, by decide +kernel⟩
theorem cwX8_85 : gCV RX8 85 mX8_valueAt 1 := ⟨mG 839 (by decide +kernel) (by decide +kernel), mG 841 (by decide +kernel) (by decide +kernel), mG 31 (by decide +kernel) (by decide +kernel), inX8, cdX8_valueAt, by decide +kernel, by decide +kernel, by decide +kernel⟩
theorem cwX8_88 : gCS RX8 88 mX8_most 1 := ⟨mG 843 (by decide +kernel) (by decide +kernel), mG 844 (by decide +kernel) (by decide +kernel), inX8, cdX8_most, by decide +kernel, by decide +kernel, by decide +kernel⟩
theorem cwX8_91 : gCS RX8 91 mX8_least 1 := ⟨mG 825 (by decide +kernel) (by decide +kernel), mG 826 (by decide +kernel) (by decide +kernel), inX8, cdX8_least, by decide +kernel, by decide +kernel, by decide +kernel⟩
theorem cwX8_94 : gCV RX8 94 mX8_isNumber 3 := ⟨mG 828 (by decide +kernel) (by decide +kernel), mG 830 (by decide +kernel) (by decide +kernel), mG 29 (by decide +kernel) (by decide +kernel), inX8, cdX8_isNumber, by decide +kernel, by decide +kernel, by decide +kernel⟩
theorem cwX8_101 : gCV RX8 101 mX8_overItem 2 := ⟨mG 817 (by decide +kernel) (by decide +kernel), mG 819 (by decide +kernel) (by decide +kernel), mG 27 (by decide +kernel) (by decide +kernel), inX8, cdX8_overItem, by decide +kernel, by decide +kernel, by decide +kernel⟩
theorem cwX8_105 : gCV RX8 105 mX8_faultOf 0 := ⟨mG 813 (by decide +kernel) (by decide +kernel), mG 815 (by decide +kernel) (by decide +kernel), mG 26 (by decide +kernel) (by decide +kernel), inX8, cdX8_faultOf, by decide +kernel, by decide +kernel, by decide +kernel⟩
theorem cwX8_109 : gCV RX8 109 mX8_isLetterDigit 1 := ⟨mG 882 (by decide +kernel) (by decide +kernel), mG 884 (by decide +kernel) (by decide +kernel), mG 38 (by decide +kernel) (by decide +kernel), inX8, cdX8_isLetterDigit, by decide +kernel, by decide +kernel, by decide +kernel⟩
theorem cwX8_112 : gCV RX8 112 mX8_numberFrom 1 := ⟨mG 878 (by decide +kernel) (by decide +kernel), mG 880 (by decide +kernel) (by decide +kernel), mG 37 (by decide +kernel) (by decide +kernel), inX8, cdX8_numberFrom, by decide +kernel, by decide +kernel, by decide +kernel⟩
theorem cwX8_115 : gCV RX8 115 mX8_behindNumber 1 := ⟨mG 886 (by decide +kernel) (by decide +kernel), mG 888 (by decide +kernel) (by decide +kernel), mG 39 (by decide +kernel) (by decide +kernel), inX8, cdX8_behindNumber, by decide +kernel, by decide +kernel, by decide +kernel⟩
theorem cwX8_118 : gCV RX8 118 mX8_itemHas 3 := ⟨mG 874 (by decide +kernel) (by decide +kernel), mG 876 (by decide +kernel) (by decide +kernel), mG 36 (by decide +kernel) (by decide +kernel), inX8, cdX8_itemHas, by decide +kernel, by decide +kernel, by decide +kernel⟩
theorem cwX8_121 : gCS RX8 121 mX8_isLeap 1 := ⟨mG 898 (by decide +kernel) (by decide +kernel), mG 899 (by decide +kernel) (by decide +kernel), inX8, cdX8_isLeap, by decide +kernel, by decide +kernel, by decide +kernel⟩
theorem cwX8_130 : gCS RX8 130 mX8_monthLength 2 := ⟨mG 901 (by decide +kernel) (by decide +kernel), mG 902 (by decide +kernel) (by decide +kernel), inX8, cdX8_monthLength, by decide +kernel, by decide +kernel, by decide +kernel⟩
theorem cwX8_136 : gCV RX8 136 mX8_date 1 := ⟨mG 894 (by decide +kernel) (by decide +kernel), mG 896 (by decide +kernel) (by decide +kernel), mG 41 (by decide +kernel) (by decide +kernel), inX8, cdX8_date, by decide +kernel, by decide +kernel, by decide +kernel⟩
theorem cwX8_140 : gCS RX8 140 mX8_weekdayOf 1 := ⟨mG 904 (by decide +kernel) (by decide +kernel), mG 905 (by decide +kernel) (by decide +kernel), inX8, cdX8_weekdayOf, by decide +kernel, by decide +kernel, by decide +kernel⟩
theorem cwX8_143 : gCV RX8 143 mX8_has 3 := ⟨mG 870 (by decide +kernel) (by decide +kernel), mG 872 (by decide +kernel) (by decide +kernel), mG 35 (by decide +kernel) (by decide +kernel), inX8, cdX8_has, by decide +kernel, by decide +kernel, by decide +kernel⟩
theorem cwX8_146 : gCV RX8 146 mX8_isFree 2 := ⟨mG 907 (by decide +kernel) (by decide +kernel), mG 909 (by decide +kernel) (by decide +kernel), mG 42 (by decide +kernel) (by decide +kernel), inX8, cdX8_isFree, by decide +kernel, by decide +kernel, by decide +kernel⟩
theorem cwX8_150 : gCV RX8 150 mX8_holdsIn 2 := ⟨mG 866 (by decide +kernel) (by decide +kernel), mG 868 (by decide +kernel) (by decide +kernel), mG 34 (by decide +kernel) (by decide +kernel), inX8, cdX8_holdsIn, by decide +kernel, by decide +kernel, by decide +kernel⟩
theorem cwX8_153 : gCV RX8 153 mX8_holdsOn 2 := ⟨mG 890 (by decide +kernel) (by decide +kernel), mG 892 (by decide +kernel) (by decide +kernel), mG 40 (by decide +kernel) (by decide +kernel), inX8, cdX8_holdsOn, by decide +kernel, by decide +kernel, by decide +kernel⟩
theorem cwX8_157 : gCV RX8 157 mX8_isJob 1 := ⟨mG 854 (by decide +kernel) (by decide +kernel), mG 856 (by decide +kernel) (by decide +kernel), mG 32 (by decide +kernel) (by decide +kernel), inX8, cdX8_isJob, by decide +kernel, by decide +kernel, by decide +kernel⟩
theorem cwX8_160 : gCS RX8 160 mX8_isMinute 1 := ⟨mG 858 (by decide +kernel) (by decide +kernel), mG 859 (by decide +kernel) (by decide +kernel), inX8, cdX8_isMinute, by decide +kernel, by decide +kernel, by decide +kernel⟩
theorem cwX8_163 : gCV RX8 163 mX8_holdsAt 2 := ⟨mG 862 (by decide +kernel) (by decide +kernel), mG 864 (by decide +kernel) (by decide +kernel), mG 33 (by decide +kernel) (by decide +kernel), inX8, cdX8_holdsAt, by decide +kernel, by decide +kernel, by decide +kernel⟩
theorem cwX8_166 : gCV RX8 166 mX8_firstFrom 3 := ⟨mG 915 (by decide +kernel) (by decide +kernel), mG 917 (by decide +kernel) (by decide +kernel), mG 43 (by decide +kernel) (by decide +kernel), inX8, cdX8_firstFrom, by decide +kernel, by decide +kernel, by decide +kernel⟩
theorem cwX8_176 : gCV RX8 176 mX8_note 3 := ⟨mG 939 (by decide +kernel) (by decide +kernel), mG 941 (by decide +kernel) (by decide +kernel), mG 45 (by decide +kernel) (by decide +kernel), inX8, cdX8_note, by decide +kernel, by decide +kernel, by decide +kernel⟩
theorem cwX8_180 : gCV RX8 180 mX8_isReady 2 := ⟨mG 951 (by decide +kernel) (by decide +kernel), mG 953 (by decide +kernel) (by decide +kernel), mG 48 (by decide +kernel) (by decide +kernel), inX8, cdX8_isReady, by decide +kernel, by decide +kernel, by decide +kernel⟩
theorem cwX8_183 : gCV RX8 183 mX8_best 0 := ⟨mG 947 (by decide +kernel) (by decide +kernel), mG 949 (by decide +kernel) (by decide +kernel), mG 47 (by decide +kernel) (by decide +kernel), inX8, cdX8_best, by decide +kernel, by decide +kernel, by decide +kernel⟩
theorem cwX8_186 : gCV RX8 186 mX8_runningTasks 0 := ⟨mG 955 (by decide +kernel) (by decide +kernel), mG 957 (by decide +kernel) (by decide +kernel), mG 49 (by decide +kernel) (by decide +kernel), inX8, cdX8_runningTasks, by decide +kernel, by decide +kernel, by decide +kernel⟩
theorem cwX8_189 : gCV RX8 189 mX8_leaveOut 2 := ⟨mG 979 (by decide +kernel) (by decide +kernel), mG 981 (by decide +kernel) (by decide +kernel), mG 53 (by decide +kernel) (by decide +kernel), inX8, cdX8_leaveOut, by decide +kernel, by decide +kernel, by decide +kernel⟩
theorem cwX8_197 : gCV RX8 197 mX8_fire 1 := ⟨mG 935 (by decide +kernel) (by decide +kernel), mG 937 (by decide +kernel) (by decide +kernel), mG 44 (by decide +kernel) (by decide +kernel), inX8, cdX8_fire, by decide +kernel, by decide +kernel, by decide +kernel⟩
theorem cwX8_200 : gCV RX8 200 mX8_start 0 := ⟨mG 943 (by decide +kernel) (by decide +kernel), mG 945 (by decide +kernel) (by decide +kernel), mG 46 (by decide +kernel) (by decide +kernel), inX8, cdX8_start, by decide +kernel, by decide +kernel, by decide +kernel⟩
theorem cwX8_203 : gCV RX8 203 mX8_isBusy 0 := ⟨mG 963 (by decide +kernel) (by decide +kernel), mG 965 (by decide +kernel) (by decide +kernel), mG 50 (by decide +kernel) (by decide +kernel), inX8, cdX8_isBusy, by decide +kernel, by decide +kernel, by decide +kernel⟩
theorem cwX8_207 : gCV RX8 207 mX8_isTask 2 := ⟨mG 971 (by decide +kernel) (by decide +kernel), mG 973 (by decide +kernel) (by decide +kernel), mG 51 (by decide +kernel) (by decide +kernel), inX8, cdX8_isTask, by decide +kernel, by decide +kernel, by decide +kernel⟩
theorem cwX8_210 : gCV RX8 210 mX8_endTask 3 := ⟨mG 975 (by decide +kernel) (by decide +kernel), mG 977 (by decide +kernel) (by decide +kernel), mG 52 (by decide +kernel) (by decide +kernel), inX8, cdX8_endTask, by decide +kernel, by decide +kernel, by decide +kernel⟩
theorem cwX8_217 : gCV RX8 217 mX8_comeUp 0 := ⟨mG 987 (by decide +kernel) (by decide +kernel), mG 989 (by decide +kernel) (by decide +kernel), mG 54 (by decide +kernel) (by decide +kernel), inX8, cdX8_comeUp, by decide +kernel, by decide +kernel, by decide +kernel⟩
section GFLD
variable {E : gE} {M : gM} {B : gB} {pc pc' : Nat} {ls : List (Option gV)} {st : List gV} {S : gS} {cs sl : Nat}
theorem ggX7_10 {j t : Nat} {q : gId} (hM : M.1.cls = RX7) (d : decode M.2.1 pc = .ok (.getfield 10, 3)) (e : pc + 3 = pc') (hlv : lv S 7 j t) (hq : fR S 224 j t = some q) (h : gG E M B pc' ls (.inr q :: st) S cs sl) : gG E M B pc ls (vR 7 j t :: st) S cs sl := g_getR (k := 7) (i := 0) cf7 (by decide) (by rw [hM]; exact mG 162 (by decide +kernel) (by decide +kernel)) (by decide) d e hlv hq h
theorem gpX7_10 {j t : Nat} {q : gId} (hM : M.1.cls = RX7) (hin : M.1.name = "<init>") (d : decode M.2.1 pc = .ok (.putfield 10, 3)) (e : pc + 3 = pc') (hlv : lv S 7 j t) (hq : q ∈ gL S) (h : gG E M B pc' ls st (sfR S 224 j t (some q)) cs sl) : gG E M B pc ls (.inr q :: vR 7 j t :: st) S cs sl := g_putR (k := 7) (i := 0) (fty := (.object "TimedRuns$Reader")) cf7 (by decide) (by rw [hM]; exact mG 162 (by decide +kernel) (by decide +kernel)) (by decide) rfl hin (by rw [hM]) (by decide +kernel) (fun _ => ⟨rfl, rfl⟩) d e hlv hq h
theorem ggX7_19 {j t : Nat} {q : gId} (hM : M.1.cls = RX7) (d : decode M.2.1 pc = .ok (.getfield 19, 3)) (e : pc + 3 = pc') (hlv : lv S 7 j t) (hq : fR S 225 j t = some q) (h : gG E M B pc' ls (.inr q :: st) S cs sl) : gG E M B pc ls (vR 7 j t :: st) S cs sl := g_getR (k := 7) (i := 1) cf7 (by decide) (by rw [hM]; exact mG 163 (by decide +kernel) (by decide +kernel)) (by decide) d e hlv hq h
theorem gpX7_19 {j t : Nat} {q : gId} (hM : M.1.cls = RX7) (hin : M.1.name = "<init>") (d : decode M.2.1 pc = .ok (.putfield 19, 3)) (e : pc + 3 = pc') (hlv : lv S 7 j t) (hq : q ∈ gL S) (h : gG E M B pc' ls st (sfR S 225 j t (some q)) cs sl) : gG E M B pc ls (.inr q :: vR 7 j t :: st) S cs sl := g_putR (k := 7) (i := 1) (fty := (.object "TimedRuns$Day")) cf7 (by decide) (by rw [hM]; exact mG 163 (by decide +kernel) (by decide +kernel)) (by decide) rfl hin (by rw [hM]) (by decide +kernel) (fun _ => ⟨rfl, rfl⟩) d e hlv hq h
theorem ggX7_26 {j t : Nat} {q : gId} (hM : M.1.cls = RX7) (d : decode M.2.1 pc = .ok (.getfield 26, 3)) (e : pc + 3 = pc') (hlv : lv S 7 j t) (hq : fR S 226 j t = some q) (h : gG E M B pc' ls (.inr q :: st) S cs sl) : gG E M B pc ls (vR 7 j t :: st) S cs sl := g_getR (k := 7) (i := 2) cf7 (by decide) (by rw [hM]; exact mG 164 (by decide +kernel) (by decide +kernel)) (by decide) d e hlv hq h
theorem gpX7_26 {j t : Nat} {q : gId} (hM : M.1.cls = RX7) (hin : M.1.name = "<init>") (d : decode M.2.1 pc = .ok (.putfield 26, 3)) (e : pc + 3 = pc') (hlv : lv S 7 j t) (hq : q ∈ gL S) (h : gG E M B pc' ls st (sfR S 226 j t (some q)) cs sl) : gG E M B pc ls (.inr q :: vR 7 j t :: st) S cs sl := g_putR (k := 7) (i := 2) (fty := (.object "TimedRuns$Log")) cf7 (by decide) (by rw [hM]; exact mG 164 (by decide +kernel) (by decide +kernel)) (by decide) rfl hin (by rw [hM]) (by decide +kernel) (fun _ => ⟨rfl, rfl⟩) d e hlv hq h
theorem ggX7_32 {j t : Nat} {q : gId} (hM : M.1.cls = RX7) (d : decode M.2.1 pc = .ok (.getfield 32, 3)) (e : pc + 3 = pc') (hlv : lv S 7 j t) (hq : fR S 227 j t = some q) (h : gG E M B pc' ls (.inr q :: st) S cs sl) : gG E M B pc ls (vR 7 j t :: st) S cs sl := g_getR (k := 7) (i := 3) cf7 (by decide) (by rw [hM]; exact mG 165 (by decide +kernel) (by decide +kernel)) (by decide) d e hlv hq h
theorem gpX7_32 {j t : Nat} {q : gId} (hM : M.1.cls = RX7) (hin : M.1.name = "<init>") (d : decode M.2.1 pc = .ok (.putfield 32, 3)) (e : pc + 3 = pc') (hlv : lv S 7 j t) (hq : q ∈ gL S) (h : gG E M B pc' ls st (sfR S 227 j t (some q)) cs sl) : gG E M B pc ls (.inr q :: vR 7 j t :: st) S cs sl := g_putR (k := 7) (i := 3) (fty := (.array (.object "TimedRuns$Job"))) cf7 (by decide) (by rw [hM]; exact mG 165 (by decide +kernel) (by decide +kernel)) (by decide) rfl hin (by rw [hM]) (by decide +kernel) (fun _ => ⟨rfl, rfl⟩) d e hlv hq h
theorem ggX7_36 {j t : Nat} (hM : M.1.cls = RX7) (d : decode M.2.1 pc = .ok (.getfield 36, 3)) (e : pc + 3 = pc') (hlv : lv S 7 j t) (h : gG E M B pc' ls (vI (fI S 228 j t) :: st) S cs sl) : gG E M B pc ls (vR 7 j t :: st) S cs sl := g_getI (k := 7) (i := 4) cf7 (by decide) (by rw [hM]; exact mG 166 (by decide +kernel) (by decide +kernel)) (by decide) d e hlv h
theorem gpX7_36 {j t : Nat} {x : Int32} (hM : M.1.cls = RX7) (d : decode M.2.1 pc = .ok (.putfield 36, 3)) (e : pc + 3 = pc') (hlv : lv S 7 j t) (h : gG E M B pc' ls st (sfI S 228 j t x) cs sl) : gG E M B pc ls (vI x :: vR 7 j t :: st) S cs sl := g_putI (k := 7) (i := 4) (fty := .int) cf7 (by decide) (by rw [hM]; exact mG 166 (by decide +kernel) (by decide +kernel)) (by decide) (Or.inl rfl) (by decide +kernel) rfl rfl d e hlv h
theorem ggX7_40 {j t : Nat} (hM : M.1.cls = RX7) (d : decode M.2.1 pc = .ok (.getfield 40, 3)) (e : pc + 3 = pc') (hlv : lv S 7 j t) (h : gG E M B pc' ls (vI (fI S 229 j t) :: st) S cs sl) : gG E M B pc ls (vR 7 j t :: st) S cs sl := g_getI (k := 7) (i := 5) cf7 (by decide) (by rw [hM]; exact mG 167 (by decide +kernel) (by decide +kernel)) (by decide) d e hlv h
theorem gpX7_40 {j t : Nat} {x : Int32} (hM : M.1.cls = RX7) (d : decode M.2.1 pc = .ok (.putfield 40, 3)) (e : pc + 3 = pc') (hlv : lv S 7 j t) (h : gG E M B pc' ls st (sfI S 229 j t x) cs sl) : gG E M B pc ls (vI x :: vR 7 j t :: st) S cs sl := g_putI (k := 7) (i := 5) (fty := .int) cf7 (by decide) (by rw [hM]; exact mG 167 (by decide +kernel) (by decide +kernel)) (by decide) (Or.inl rfl) (by decide +kernel) rfl rfl d e hlv h
theorem ggX7_43 {j t : Nat} (hM : M.1.cls = RX7) (d : decode M.2.1 pc = .ok (.getfield 43, 3)) (e : pc + 3 = pc') (hlv : lv S 7 j t) (h : gG E M B pc' ls (vI (fI S 230 j t) :: st) S cs sl) : gG E M B pc ls (vR 7 j t :: st) S cs sl := g_getI (k := 7) (i := 6) cf7 (by decide) (by rw [hM]; exact mG 168 (by decide +kernel) (by decide +kernel)) (by decide) d e hlv h
theorem gpX7_43 {j t : Nat} {x : Int32} (hM : M.1.cls = RX7) (d : decode M.2.1 pc = .ok (.putfield 43, 3)) (e : pc + 3 = pc') (hlv : lv S 7 j t) (h : gG E M B pc' ls st (sfI S 230 j t x) cs sl) : gG E M B pc ls (vI x :: vR 7 j t :: st) S cs sl := g_putI (k := 7) (i := 6) (fty := .int) cf7 (by decide) (by rw [hM]; exact mG 168 (by decide +kernel) (by decide +kernel)) (by decide) (Or.inl rfl) (by decide +kernel) rfl rfl d e hlv h
theorem ggX7_46 {j t : Nat} (hM : M.1.cls = RX7) (d : decode M.2.1 pc = .ok (.getfield 46, 3)) (e : pc + 3 = pc') (hlv : lv S 7 j t) (h : gG E M B pc' ls (vI (fI S 231 j t) :: st) S cs sl) : gG E M B pc ls (vR 7 j t :: st) S cs sl := g_getI (k := 7) (i := 7) cf7 (by decide) (by rw [hM]; exact mG 169 (by decide +kernel) (by decide +kernel)) (by decide) d e hlv h
theorem gpX7_46 {j t : Nat} {x : Int32} (hM : M.1.cls = RX7) (d : decode M.2.1 pc = .ok (.putfield 46, 3)) (e : pc + 3 = pc') (hlv : lv S 7 j t) (h : gG E M B pc' ls st (sfI S 231 j t x) cs sl) : gG E M B pc ls (vI x :: vR 7 j t :: st) S cs sl := g_putI (k := 7) (i := 7) (fty := .int) cf7 (by decide) (by rw [hM]; exact mG 169 (by decide +kernel) (by decide +kernel)) (by decide) (Or.inl rfl) (by decide +kernel) rfl rfl d e hlv h
theorem ggX7_49 {j t : Nat} (hM : M.1.cls = RX7) (d : decode M.2.1 pc = .ok (.getfield 49, 3)) (e : pc + 3 = pc') (hlv : lv S 7 j t) (h : gG E M B pc' ls (vI (fI S 232 j t) :: st) S cs sl) : gG E M B pc ls (vR 7 j t :: st) S cs sl := g_getI (k := 7) (i := 8) cf7 (by decide) (by rw [hM]; exact mG 170 (by decide +kernel) (by decide +kernel)) (by decide) d e hlv h
theorem gpX7_49 {j t : Nat} {x : Int32} (hM : M.1.cls = RX7) (d : decode M.2.1 pc = .ok (.putfield 49, 3)) (e : pc + 3 = pc') (hlv : lv S 7 j t) (hz : x = 0 ∨ x = 1) (h : gG E M B pc' ls st (sfI S 232 j t x) cs sl) : gG E M B pc ls (vI x :: vR 7 j t :: st) S cs sl := g_putI (k := 7) (i := 8) (fty := .boolean) cf7 (by decide) (by rw [hM]; exact mG 170 (by decide +kernel) (by decide +kernel)) (by decide) (Or.inl rfl) (by decide +kernel) (gz_n hz) (gz_f hz) d e hlv h
theorem ggX7_53 {j t : Nat} (hM : M.1.cls = RX7) (d : decode M.2.1 pc = .ok (.getfield 53, 3)) (e : pc + 3 = pc') (hlv : lv S 7 j t) (h : gG E M B pc' ls (vI (fI S 233 j t) :: st) S cs sl) : gG E M B pc ls (vR 7 j t :: st) S cs sl := g_getI (k := 7) (i := 9) cf7 (by decide) (by rw [hM]; exact mG 171 (by decide +kernel) (by decide +kernel)) (by decide) d e hlv h
theorem gpX7_53 {j t : Nat} {x : Int32} (hM : M.1.cls = RX7) (d : decode M.2.1 pc = .ok (.putfield 53, 3)) (e : pc + 3 = pc') (hlv : lv S 7 j t) (h : gG E M B pc' ls st (sfI S 233 j t x) cs sl) : gG E M B pc ls (vI x :: vR 7 j t :: st) S cs sl := g_putI (k := 7) (i := 9) (fty := .int) cf7 (by decide) (by rw [hM]; exact mG 171 (by decide +kernel) (by decide +kernel)) (by decide) (Or.inl rfl) (by decide +kernel) rfl rfl d e hlv h
theorem ggX7_56 {j t : Nat} {q : gId} (hM : M.1.cls = RX7) (d : decode M.2.1 pc = .ok (.getfield 56, 3)) (e : pc + 3 = pc') (hlv : lv S 4 j t) (hq : fR S 128 j t = some q) (h : gG E M B pc' ls (.inr q :: st) S cs sl) : gG E M B pc ls (vR 4 j t :: st) S cs sl := g_getRN (k := 4) (i := 0) (host := "TimedRuns") cf4 (by decide) (by rw [hM]; exact mN 101 (by decide +kernel) (by decide +kernel)) (by decide) d e hlv hq h
theorem ggX7_93 {j t : Nat} (hM : M.1.cls = RX7) (d : decode M.2.1 pc = .ok (.getfield 93, 3)) (e : pc + 3 = pc') (hlv : lv S 2 j t) (h : gG E M B pc' ls (vI (fI S 67 j t) :: st) S cs sl) : gG E M B pc ls (vR 2 j t :: st) S cs sl := g_getIN (k := 2) (i := 3) (host := "TimedRuns") cf2 (by decide) (by rw [hM]; exact mN 414 (by decide +kernel) (by decide +kernel)) (by decide) d e hlv h
theorem gpX7_93 {j t : Nat} {x : Int32} (hM : M.1.cls = RX7) (d : decode M.2.1 pc = .ok (.putfield 93, 3)) (e : pc + 3 = pc') (hlv : lv S 2 j t) (h : gG E M B pc' ls st (sfI S 67 j t x) cs sl) : gG E M B pc ls (vI x :: vR 2 j t :: st) S cs sl := g_putIN (k := 2) (i := 3) (host := "TimedRuns") (fty := .int) cf2 (by decide) (by rw [hM]; exact mN 414 (by decide +kernel) (by decide +kernel)) (by decide) rfl (by decide +kernel) rfl rfl d e hlv h
theorem ggX7_96 {j t : Nat} (hM : M.1.cls = RX7) (d : decode M.2.1 pc = .ok (.getfield 96, 3)) (e : pc + 3 = pc') (hlv : lv S 2 j t) (h : gG E M B pc' ls (vI (fI S 68 j t) :: st) S cs sl) : gG E M B pc ls (vR 2 j t :: st) S cs sl := g_getIN (k := 2) (i := 4) (host := "TimedRuns") cf2 (by decide) (by rw [hM]; exact mN 416 (by decide +kernel) (by decide +kernel)) (by decide) d e hlv h
theorem gpX7_96 {j t : Nat} {x : Int32} (hM : M.1.cls = RX7) (d : decode M.2.1 pc = .ok (.putfield 96, 3)) (e : pc + 3 = pc') (hlv : lv S 2 j t) (hz : x = 0 ∨ x = 1) (h : gG E M B pc' ls st (sfI S 68 j t x) cs sl) : gG E M B pc ls (vI x :: vR 2 j t :: st) S cs sl := g_putIN (k := 2) (i := 4) (host := "TimedRuns") (fty := .boolean) cf2 (by decide) (by rw [hM]; exact mN 416 (by decide +kernel) (by decide +kernel)) (by decide) rfl (by decide +kernel) (gz_n hz) (gz_f hz) d e hlv h
theorem ggX7_114 {j t : Nat} {q : gId} (hM : M.1.cls = RX7) (d : decode M.2.1 pc = .ok (.getfield 114, 3)) (e : pc + 3 = pc') (hlv : lv S 2 j t) (hq : fR S 65 j t = some q) (h : gG E M B pc' ls (.inr q :: st) S cs sl) : gG E M B pc ls (vR 2 j t :: st) S cs sl := g_getRN (k := 2) (i := 1) (host := "TimedRuns") cf2 (by decide) (by rw [hM]; exact mN 410 (by decide +kernel) (by decide +kernel)) (by decide) d e hlv hq h
theorem ggX7_130 {j t : Nat} (hM : M.1.cls = RX7) (d : decode M.2.1 pc = .ok (.getfield 130, 3)) (e : pc + 3 = pc') (hlv : lv S 0 j t) (h : gG E M B pc' ls (vI (fI S 1 j t) :: st) S cs sl) : gG E M B pc ls (vR 0 j t :: st) S cs sl := g_getIN (k := 0) (i := 1) (host := "TimedRuns") cf0 (by decide) (by rw [hM]; exact mN 129 (by decide +kernel) (by decide +kernel)) (by decide) d e hlv h
theorem gpX7_130 {j t : Nat} {x : Int32} (hM : M.1.cls = RX7) (d : decode M.2.1 pc = .ok (.putfield 130, 3)) (e : pc + 3 = pc') (hlv : lv S 0 j t) (h : gG E M B pc' ls st (sfI S 1 j t x) cs sl) : gG E M B pc ls (vI x :: vR 0 j t :: st) S cs sl := g_putIN (k := 0) (i := 1) (host := "TimedRuns") (fty := .int) cf0 (by decide) (by rw [hM]; exact mN 129 (by decide +kernel) (by decide +kernel)) (by decide) rfl (by decide +kernel) rfl rfl d e hlv h
theorem ggX7_133 {j t : Nat} (hM : M.1.cls = RX7) (d : decode M.2.1 pc = .ok (.getfield 133, 3)) (e : pc + 3 = pc') (hlv : lv S 0 j t) (h : gG E M B pc' ls (vI (fI S 2 j t) :: st) S cs sl) : gG E M B pc ls (vR 0 j t :: st) S cs sl := g_getIN (k := 0) (i := 2) (host := "TimedRuns") cf0 (by decide) (by rw [hM]; exact mN 132 (by decide +kernel) (by decide +kernel)) (by decide) d e hlv h
theorem gpX7_133 {j t : Nat} {x : Int32} (hM : M.1.cls = RX7) (d : decode M.2.1 pc = .ok (.putfield 133, 3)) (e : pc + 3 = pc') (hlv : lv S 0 j t) (h : gG E M B pc' ls st (sfI S 2 j t x) cs sl) : gG E M B pc ls (vI x :: vR 0 j t :: st) S cs sl := g_putIN (k := 0) (i := 2) (host := "TimedRuns") (fty := .int) cf0 (by decide) (by rw [hM]; exact mN 132 (by decide +kernel) (by decide +kernel)) (by decide) rfl (by decide +kernel) rfl rfl d e hlv h
theorem ggX7_136 {j t : Nat} (hM : M.1.cls = RX7) (d : decode M.2.1 pc = .ok (.getfield 136, 3)) (e : pc + 3 = pc') (hlv : lv S 0 j t) (h : gG E M B pc' ls (vI (fI S 3 j t) :: st) S cs sl) : gG E M B pc ls (vR 0 j t :: st) S cs sl := g_getIN (k := 0) (i := 3) (host := "TimedRuns") cf0 (by decide) (by rw [hM]; exact mN 135 (by decide +kernel) (by decide +kernel)) (by decide) d e hlv h
theorem gpX7_136 {j t : Nat} {x : Int32} (hM : M.1.cls = RX7) (d : decode M.2.1 pc = .ok (.putfield 136, 3)) (e : pc + 3 = pc') (hlv : lv S 0 j t) (h : gG E M B pc' ls st (sfI S 3 j t x) cs sl) : gG E M B pc ls (vI x :: vR 0 j t :: st) S cs sl := g_putIN (k := 0) (i := 3) (host := "TimedRuns") (fty := .int) cf0 (by decide) (by rw [hM]; exact mN 135 (by decide +kernel) (by decide +kernel)) (by decide) rfl (by decide +kernel) rfl rfl d e hlv h
theorem ggX7_157 {j t : Nat} {q : gId} (hM : M.1.cls = RX7) (d : decode M.2.1 pc = .ok (.getfield 157, 3)) (e : pc + 3 = pc') (hlv : lv S 2 j t) (hq : fR S 66 j t = some q) (h : gG E M B pc' ls (.inr q :: st) S cs sl) : gG E M B pc ls (vR 2 j t :: st) S cs sl := g_getRN (k := 2) (i := 2) (host := "TimedRuns") cf2 (by decide) (by rw [hM]; exact mN 412 (by decide +kernel) (by decide +kernel)) (by decide) d e hlv hq h
theorem ggX7_161 {j t : Nat} (hM : M.1.cls = RX7) (d : decode M.2.1 pc = .ok (.getfield 161, 3)) (e : pc + 3 = pc') (hlv : lv S 5 j t) (h : gG E M B pc' ls (vI (fI S 163 j t) :: st) S cs sl) : gG E M B pc ls (vR 5 j t :: st) S cs sl := g_getIN (k := 5) (i := 3) (host := "TimedRuns") cf5 (by decide) (by rw [hM]; exact mN 475 (by decide +kernel) (by decide +kernel)) (by decide) d e hlv h
theorem gpX7_161 {j t : Nat} {x : Int32} (hM : M.1.cls = RX7) (d : decode M.2.1 pc = .ok (.putfield 161, 3)) (e : pc + 3 = pc') (hlv : lv S 5 j t) (h : gG E M B pc' ls st (sfI S 163 j t x) cs sl) : gG E M B pc ls (vI x :: vR 5 j t :: st) S cs sl := g_putIN (k := 5) (i := 3) (host := "TimedRuns") (fty := .int) cf5 (by decide) (by rw [hM]; exact mN 475 (by decide +kernel) (by decide +kernel)) (by decide) rfl (by decide +kernel) rfl rfl d e hlv h
theorem ggX7_174 {j t : Nat} (hM : M.1.cls = RX7) (d : decode M.2.1 pc = .ok (.getfield 174, 3)) (e : pc + 3 = pc') (hlv : lv S 2 j t) (h : gG E M B pc' ls (vI (fI S 69 j t) :: st) S cs sl) : gG E M B pc ls (vR 2 j t :: st) S cs sl := g_getIN (k := 2) (i := 5) (host := "TimedRuns") cf2 (by decide) (by rw [hM]; exact mN 418 (by decide +kernel) (by decide +kernel)) (by decide) d e hlv h
theorem gpX7_174 {j t : Nat} {x : Int32} (hM : M.1.cls = RX7) (d : decode M.2.1 pc = .ok (.putfield 174, 3)) (e : pc + 3 = pc') (hlv : lv S 2 j t) (h : gG E M B pc' ls st (sfI S 69 j t x) cs sl) : gG E M B pc ls (vI x :: vR 2 j t :: st) S cs sl := g_putIN (k := 2) (i := 5) (host := "TimedRuns") (fty := .int) cf2 (by decide) (by rw [hM]; exact mN 418 (by decide +kernel) (by decide +kernel)) (by decide) rfl (by decide +kernel) rfl rfl d e hlv h
theorem ggX7_177 {j t : Nat} (hM : M.1.cls = RX7) (d : decode M.2.1 pc = .ok (.getfield 177, 3)) (e : pc + 3 = pc') (hlv : lv S 2 j t) (h : gG E M B pc' ls (vI (fI S 70 j t) :: st) S cs sl) : gG E M B pc ls (vR 2 j t :: st) S cs sl := g_getIN (k := 2) (i := 6) (host := "TimedRuns") cf2 (by decide) (by rw [hM]; exact mN 420 (by decide +kernel) (by decide +kernel)) (by decide) d e hlv h
theorem gpX7_177 {j t : Nat} {x : Int32} (hM : M.1.cls = RX7) (d : decode M.2.1 pc = .ok (.putfield 177, 3)) (e : pc + 3 = pc') (hlv : lv S 2 j t) (h : gG E M B pc' ls st (sfI S 70 j t x) cs sl) : gG E M B pc ls (vI x :: vR 2 j t :: st) S cs sl := g_putIN (k := 2) (i := 6) (host := "TimedRuns") (fty := .int) cf2 (by decide) (by rw [hM]; exact mN 420 (by decide +kernel) (by decide +kernel)) (by decide) rfl (by decide +kernel) rfl rfl d e hlv h
theorem ggX7_180 {j t : Nat} (hM : M.1.cls = RX7) (d : decode M.2.1 pc = .ok (.getfield 180, 3)) (e : pc + 3 = pc') (hlv : lv S 3 j t) (h : gG E M B pc' ls (vI (fI S 97 j t) :: st) S cs sl) : gG E M B pc ls (vR 3 j t :: st) S cs sl := g_getIN (k := 3) (i := 1) (host := "TimedRuns") cf3 (by decide) (by rw [hM]; exact mN 153 (by decide +kernel) (by decide +kernel)) (by decide) d e hlv h
theorem gpX7_180 {j t : Nat} {x : Int32} (hM : M.1.cls = RX7) (d : decode M.2.1 pc = .ok (.putfield 180, 3)) (e : pc + 3 = pc') (hlv : lv S 3 j t) (h : gG E M B pc' ls st (sfI S 97 j t x) cs sl) : gG E M B pc ls (vI x :: vR 3 j t :: st) S cs sl := g_putIN (k := 3) (i := 1) (host := "TimedRuns") (fty := .int) cf3 (by decide) (by rw [hM]; exact mN 153 (by decide +kernel) (by decide +kernel)) (by decide) rfl (by decide +kernel) rfl rfl d e hlv h
theorem ggX7_228 {j t : Nat} (hM : M.1.cls = RX7) (d : decode M.2.1 pc = .ok (.getfield 228, 3)) (e : pc + 3 = pc') (hlv : lv S 2 j t) (h : gG E M B pc' ls (vI (fI S 64 j t) :: st) S cs sl) : gG E M B pc ls (vR 2 j t :: st) S cs sl := g_getIN (k := 2) (i := 0) (host := "TimedRuns") cf2 (by decide) (by rw [hM]; exact mN 408 (by decide +kernel) (by decide +kernel)) (by decide) d e hlv h
theorem ggX7_238 {j t : Nat} (hM : M.1.cls = RX7) (d : decode M.2.1 pc = .ok (.getfield 238, 3)) (e : pc + 3 = pc') (hlv : lv S 5 j t) (h : gG E M B pc' ls (vI (fI S 160 j t) :: st) S cs sl) : gG E M B pc ls (vR 5 j t :: st) S cs sl := g_getIN (k := 5) (i := 0) (host := "TimedRuns") cf5 (by decide) (by rw [hM]; exact mN 470 (by decide +kernel) (by decide +kernel)) (by decide) d e hlv h
theorem ggX0_7 {j t : Nat} (hM : M.1.cls = RX0) (d : decode M.2.1 pc = .ok (.getfield 7, 3)) (e : pc + 3 = pc') (hlv : lv S 0 j t) (h : gG E M B pc' ls (vI (fI S 0 j t) :: st) S cs sl) : gG E M B pc ls (vR 0 j t :: st) S cs sl := g_getI (k := 0) (i := 0) cf0 (by decide) (by rw [hM]; exact mG 127 (by decide +kernel) (by decide +kernel)) (by decide) d e hlv h
theorem gpX0_7 {j t : Nat} {x : Int32} (hM : M.1.cls = RX0) (d : decode M.2.1 pc = .ok (.putfield 7, 3)) (e : pc + 3 = pc') (hlv : lv S 0 j t) (h : gG E M B pc' ls st (sfI S 0 j t x) cs sl) : gG E M B pc ls (vI x :: vR 0 j t :: st) S cs sl := g_putI (k := 0) (i := 0) (fty := .int) cf0 (by decide) (by rw [hM]; exact mG 127 (by decide +kernel) (by decide +kernel)) (by decide) (Or.inl rfl) (by decide +kernel) rfl rfl d e hlv h
theorem ggX0_13 {j t : Nat} (hM : M.1.cls = RX0) (d : decode M.2.1 pc = .ok (.getfield 13, 3)) (e : pc + 3 = pc') (hlv : lv S 0 j t) (h : gG E M B pc' ls (vI (fI S 1 j t) :: st) S cs sl) : gG E M B pc ls (vR 0 j t :: st) S cs sl := g_getI (k := 0) (i := 1) cf0 (by decide) (by rw [hM]; exact mG 128 (by decide +kernel) (by decide +kernel)) (by decide) d e hlv h
theorem gpX0_13 {j t : Nat} {x : Int32} (hM : M.1.cls = RX0) (d : decode M.2.1 pc = .ok (.putfield 13, 3)) (e : pc + 3 = pc') (hlv : lv S 0 j t) (h : gG E M B pc' ls st (sfI S 1 j t x) cs sl) : gG E M B pc ls (vI x :: vR 0 j t :: st) S cs sl := g_putI (k := 0) (i := 1) (fty := .int) cf0 (by decide) (by rw [hM]; exact mG 128 (by decide +kernel) (by decide +kernel)) (by decide) (Or.inl rfl) (by decide +kernel) rfl rfl d e hlv h
theorem ggX0_16 {j t : Nat} (hM : M.1.cls = RX0) (d : decode M.2.1 pc = .ok (.getfield 16, 3)) (e : pc + 3 = pc') (hlv : lv S 0 j t) (h : gG E M B pc' ls (vI (fI S 2 j t) :: st) S cs sl) : gG E M B pc ls (vR 0 j t :: st) S cs sl := g_getI (k := 0) (i := 2) cf0 (by decide) (by rw [hM]; exact mG 130 (by decide +kernel) (by decide +kernel)) (by decide) d e hlv h
theorem gpX0_16 {j t : Nat} {x : Int32} (hM : M.1.cls = RX0) (d : decode M.2.1 pc = .ok (.putfield 16, 3)) (e : pc + 3 = pc') (hlv : lv S 0 j t) (h : gG E M B pc' ls st (sfI S 2 j t x) cs sl) : gG E M B pc ls (vI x :: vR 0 j t :: st) S cs sl := g_putI (k := 0) (i := 2) (fty := .int) cf0 (by decide) (by rw [hM]; exact mG 130 (by decide +kernel) (by decide +kernel)) (by decide) (Or.inl rfl) (by decide +kernel) rfl rfl d e hlv h
theorem ggX0_19 {j t : Nat} (hM : M.1.cls = RX0) (d : decode M.2.1 pc = .ok (.getfield 19, 3)) (e : pc + 3 = pc') (hlv : lv S 0 j t) (h : gG E M B pc' ls (vI (fI S 3 j t) :: st) S cs sl) : gG E M B pc ls (vR 0 j t :: st) S cs sl := g_getI (k := 0) (i := 3) cf0 (by decide) (by rw [hM]; exact mG 133 (by decide +kernel) (by decide +kernel)) (by decide) d e hlv h
theorem gpX0_19 {j t : Nat} {x : Int32} (hM : M.1.cls = RX0) (d : decode M.2.1 pc = .ok (.putfield 19, 3)) (e : pc + 3 = pc') (hlv : lv S 0 j t) (h : gG E M B pc' ls st (sfI S 3 j t x) cs sl) : gG E M B pc ls (vI x :: vR 0 j t :: st) S cs sl := g_putI (k := 0) (i := 3) (fty := .int) cf0 (by decide) (by rw [hM]; exact mG 133 (by decide +kernel) (by decide +kernel)) (by decide) (Or.inl rfl) (by decide +kernel) rfl rfl d e hlv h
theorem gsX0_40 (hM : M.1.cls = RX0) (d : decode M.2.1 pc = .ok (.getstatic 40, 3)) (e : pc + 3 = pc') (h : gG E M B pc' ls (.inl (.ref (eA E 2)) :: st) S cs sl) : gG E M B pc ls st S cs sl := g_gets (C := RX0) (n := "MONTH_DAYS") (fun _ _ q => q.2.1.2.2) (by rw [hM]; exact mG 534 (by decide +kernel) (by decide +kernel)) d e h
theorem gt_2 {n : Nat} {x : Int32} (d : decode M.2.1 pc = .ok (.iaload, 1)) (e : pc + 1 = pc') (hx : x = nI n) (hn : n < 12) (h : gG E M B pc' ls (vI ((gtab 2).getD n 0) :: st) S cs sl) : gG E M B pc ls (vI x :: .inl (.ref (eA E 2)) :: st) S cs sl := g_tab (i := 2) (fun _ _ q => q.2.1.2.2) d e hx hn (by decide) h
theorem ggX1_15 {j t : Nat} {q : gId} (hM : M.1.cls = RX1) (d : decode M.2.1 pc = .ok (.getfield 15, 3)) (e : pc + 3 = pc') (hlv : lv S 1 j t) (hq : fR S 32 j t = some q) (h : gG E M B pc' ls (.inr q :: st) S cs sl) : gG E M B pc ls (vR 1 j t :: st) S cs sl := g_getR (k := 1) (i := 0) cf1 (by decide) (by rw [hM]; exact mG 394 (by decide +kernel) (by decide +kernel)) (by decide) d e hlv hq h
theorem gpX1_15 {j t : Nat} {q : gId} (hM : M.1.cls = RX1) (hin : M.1.name = "<init>") (d : decode M.2.1 pc = .ok (.putfield 15, 3)) (e : pc + 3 = pc') (hlv : lv S 1 j t) (hq : q ∈ gL S) (h : gG E M B pc' ls st (sfR S 32 j t (some q)) cs sl) : gG E M B pc ls (.inr q :: vR 1 j t :: st) S cs sl := g_putR (k := 1) (i := 0) (fty := (.array .long)) cf1 (by decide) (by rw [hM]; exact mG 394 (by decide +kernel) (by decide +kernel)) (by decide) rfl hin (by rw [hM]) (by decide +kernel) (fun _ => ⟨rfl, rfl⟩) d e hlv hq h
theorem ggX1_20 {j t : Nat} (hM : M.1.cls = RX1) (d : decode M.2.1 pc = .ok (.getfield 20, 3)) (e : pc + 3 = pc') (hlv : lv S 1 j t) (h : gG E M B pc' ls (vI (fI S 33 j t) :: st) S cs sl) : gG E M B pc ls (vR 1 j t :: st) S cs sl := g_getI (k := 1) (i := 1) cf1 (by decide) (by rw [hM]; exact mG 395 (by decide +kernel) (by decide +kernel)) (by decide) d e hlv h
theorem gpX1_20 {j t : Nat} {x : Int32} (hM : M.1.cls = RX1) (hin : M.1.name = "<init>") (d : decode M.2.1 pc = .ok (.putfield 20, 3)) (e : pc + 3 = pc') (hlv : lv S 1 j t) (hz : x = 0 ∨ x = 1) (h : gG E M B pc' ls st (sfI S 33 j t x) cs sl) : gG E M B pc ls (vI x :: vR 1 j t :: st) S cs sl := g_putI (k := 1) (i := 1) (fty := .boolean) cf1 (by decide) (by rw [hM]; exact mG 395 (by decide +kernel) (by decide +kernel)) (by decide) (Or.inr ⟨rfl, hin, by rw [hM]⟩) (by decide +kernel) (gz_n hz) (gz_f hz) d e hlv h
theorem ggX1_28 {j t : Nat} (hM : M.1.cls = RX1) (d : decode M.2.1 pc = .ok (.getfield 28, 3)) (e : pc + 3 = pc') (hlv : lv S 0 j t) (h : gG E M B pc' ls (vI (fI S 2 j t) :: st) S cs sl) : gG E M B pc ls (vR 0 j t :: st) S cs sl := g_getIN (k := 0) (i := 2) (host := "TimedRuns") cf0 (by decide) (by rw [hM]; exact mN 131 (by decide +kernel) (by decide +kernel)) (by decide) d e hlv h
theorem gpX1_28 {j t : Nat} {x : Int32} (hM : M.1.cls = RX1) (d : decode M.2.1 pc = .ok (.putfield 28, 3)) (e : pc + 3 = pc') (hlv : lv S 0 j t) (h : gG E M B pc' ls st (sfI S 2 j t x) cs sl) : gG E M B pc ls (vI x :: vR 0 j t :: st) S cs sl := g_putIN (k := 0) (i := 2) (host := "TimedRuns") (fty := .int) cf0 (by decide) (by rw [hM]; exact mN 131 (by decide +kernel) (by decide +kernel)) (by decide) rfl (by decide +kernel) rfl rfl d e hlv h
theorem ggX1_34 {j t : Nat} (hM : M.1.cls = RX1) (d : decode M.2.1 pc = .ok (.getfield 34, 3)) (e : pc + 3 = pc') (hlv : lv S 0 j t) (h : gG E M B pc' ls (vI (fI S 3 j t) :: st) S cs sl) : gG E M B pc ls (vR 0 j t :: st) S cs sl := g_getIN (k := 0) (i := 3) (host := "TimedRuns") cf0 (by decide) (by rw [hM]; exact mN 134 (by decide +kernel) (by decide +kernel)) (by decide) d e hlv h
theorem gpX1_34 {j t : Nat} {x : Int32} (hM : M.1.cls = RX1) (d : decode M.2.1 pc = .ok (.putfield 34, 3)) (e : pc + 3 = pc') (hlv : lv S 0 j t) (h : gG E M B pc' ls st (sfI S 3 j t x) cs sl) : gG E M B pc ls (vI x :: vR 0 j t :: st) S cs sl := g_putIN (k := 0) (i := 3) (host := "TimedRuns") (fty := .int) cf0 (by decide) (by rw [hM]; exact mN 134 (by decide +kernel) (by decide +kernel)) (by decide) rfl (by decide +kernel) rfl rfl d e hlv h
theorem ggX2_11 {j t : Nat} {q : gId} (hM : M.1.cls = RX2) (d : decode M.2.1 pc = .ok (.getfield 11, 3)) (e : pc + 3 = pc') (hlv : lv S 2 j t) (hq : fR S 66 j t = some q) (h : gG E M B pc' ls (.inr q :: st) S cs sl) : gG E M B pc ls (vR 2 j t :: st) S cs sl := g_getR (k := 2) (i := 2) cf2 (by decide) (by rw [hM]; exact mG 411 (by decide +kernel) (by decide +kernel)) (by decide) d e hlv hq h
theorem gpX2_11 {j t : Nat} {q : gId} (hM : M.1.cls = RX2) (hin : M.1.name = "<init>") (d : decode M.2.1 pc = .ok (.putfield 11, 3)) (e : pc + 3 = pc') (hlv : lv S 2 j t) (hq : q ∈ gL S) (h : gG E M B pc' ls st (sfR S 66 j t (some q)) cs sl) : gG E M B pc ls (.inr q :: vR 2 j t :: st) S cs sl := g_putR (k := 2) (i := 2) (fty := (.array (.object "TimedRuns$Task"))) cf2 (by decide) (by rw [hM]; exact mG 411 (by decide +kernel) (by decide +kernel)) (by decide) rfl hin (by rw [hM]) (by decide +kernel) (fun _ => ⟨rfl, rfl⟩) d e hlv hq h
theorem ggX2_17 {j t : Nat} (hM : M.1.cls = RX2) (d : decode M.2.1 pc = .ok (.getfield 17, 3)) (e : pc + 3 = pc') (hlv : lv S 2 j t) (h : gG E M B pc' ls (vI (fI S 67 j t) :: st) S cs sl) : gG E M B pc ls (vR 2 j t :: st) S cs sl := g_getI (k := 2) (i := 3) cf2 (by decide) (by rw [hM]; exact mG 413 (by decide +kernel) (by decide +kernel)) (by decide) d e hlv h
theorem gpX2_17 {j t : Nat} {x : Int32} (hM : M.1.cls = RX2) (d : decode M.2.1 pc = .ok (.putfield 17, 3)) (e : pc + 3 = pc') (hlv : lv S 2 j t) (h : gG E M B pc' ls st (sfI S 67 j t x) cs sl) : gG E M B pc ls (vI x :: vR 2 j t :: st) S cs sl := g_putI (k := 2) (i := 3) (fty := .int) cf2 (by decide) (by rw [hM]; exact mG 413 (by decide +kernel) (by decide +kernel)) (by decide) (Or.inl rfl) (by decide +kernel) rfl rfl d e hlv h
theorem ggX2_21 {j t : Nat} (hM : M.1.cls = RX2) (d : decode M.2.1 pc = .ok (.getfield 21, 3)) (e : pc + 3 = pc') (hlv : lv S 2 j t) (h : gG E M B pc' ls (vI (fI S 68 j t) :: st) S cs sl) : gG E M B pc ls (vR 2 j t :: st) S cs sl := g_getI (k := 2) (i := 4) cf2 (by decide) (by rw [hM]; exact mG 415 (by decide +kernel) (by decide +kernel)) (by decide) d e hlv h
theorem gpX2_21 {j t : Nat} {x : Int32} (hM : M.1.cls = RX2) (d : decode M.2.1 pc = .ok (.putfield 21, 3)) (e : pc + 3 = pc') (hlv : lv S 2 j t) (hz : x = 0 ∨ x = 1) (h : gG E M B pc' ls st (sfI S 68 j t x) cs sl) : gG E M B pc ls (vI x :: vR 2 j t :: st) S cs sl := g_putI (k := 2) (i := 4) (fty := .boolean) cf2 (by decide) (by rw [hM]; exact mG 415 (by decide +kernel) (by decide +kernel)) (by decide) (Or.inl rfl) (by decide +kernel) (gz_n hz) (gz_f hz) d e hlv h
theorem ggX2_25 {j t : Nat} (hM : M.1.cls = RX2) (d : decode M.2.1 pc = .ok (.getfield 25, 3)) (e : pc + 3 = pc') (hlv : lv S 2 j t) (h : gG E M B pc' ls (vI (fI S 69 j t) :: st) S cs sl) : gG E M B pc ls (vR 2 j t :: st) S cs sl := g_getI (k := 2) (i := 5) cf2 (by decide) (by rw [hM]; exact mG 417 (by decide +kernel) (by decide +kernel)) (by decide) d e hlv h
theorem gpX2_25 {j t : Nat} {x : Int32} (hM : M.1.cls = RX2) (d : decode M.2.1 pc = .ok (.putfield 25, 3)) (e : pc + 3 = pc') (hlv : lv S 2 j t) (h : gG E M B pc' ls st (sfI S 69 j t x) cs sl) : gG E M B pc ls (vI x :: vR 2 j t :: st) S cs sl := g_putI (k := 2) (i := 5) (fty := .int) cf2 (by decide) (by rw [hM]; exact mG 417 (by decide +kernel) (by decide +kernel)) (by decide) (Or.inl rfl) (by decide +kernel) rfl rfl d e hlv h
theorem ggX2_28 {j t : Nat} (hM : M.1.cls = RX2) (d : decode M.2.1 pc = .ok (.getfield 28, 3)) (e : pc + 3 = pc') (hlv : lv S 2 j t) (h : gG E M B pc' ls (vI (fI S 70 j t) :: st) S cs sl) : gG E M B pc ls (vR 2 j t :: st) S cs sl := g_getI (k := 2) (i := 6) cf2 (by decide) (by rw [hM]; exact mG 419 (by decide +kernel) (by decide +kernel)) (by decide) d e hlv h
theorem gpX2_28 {j t : Nat} {x : Int32} (hM : M.1.cls = RX2) (d : decode M.2.1 pc = .ok (.putfield 28, 3)) (e : pc + 3 = pc') (hlv : lv S 2 j t) (h : gG E M B pc' ls st (sfI S 70 j t x) cs sl) : gG E M B pc ls (vI x :: vR 2 j t :: st) S cs sl := g_putI (k := 2) (i := 6) (fty := .int) cf2 (by decide) (by rw [hM]; exact mG 419 (by decide +kernel) (by decide +kernel)) (by decide) (Or.inl rfl) (by decide +kernel) rfl rfl d e hlv h
theorem ggX2_31 {j t : Nat} (hM : M.1.cls = RX2) (d : decode M.2.1 pc = .ok (.getfield 31, 3)) (e : pc + 3 = pc') (hlv : lv S 2 j t) (h : gG E M B pc' ls (vI (fI S 64 j t) :: st) S cs sl) : gG E M B pc ls (vR 2 j t :: st) S cs sl := g_getI (k := 2) (i := 0) cf2 (by decide) (by rw [hM]; exact mG 407 (by decide +kernel) (by decide +kernel)) (by decide) d e hlv h
theorem gpX2_31 {j t : Nat} {x : Int32} (hM : M.1.cls = RX2) (hin : M.1.name = "<init>") (d : decode M.2.1 pc = .ok (.putfield 31, 3)) (e : pc + 3 = pc') (hlv : lv S 2 j t) (h : gG E M B pc' ls st (sfI S 64 j t x) cs sl) : gG E M B pc ls (vI x :: vR 2 j t :: st) S cs sl := g_putI (k := 2) (i := 0) (fty := .int) cf2 (by decide) (by rw [hM]; exact mG 407 (by decide +kernel) (by decide +kernel)) (by decide) (Or.inr ⟨rfl, hin, by rw [hM]⟩) (by decide +kernel) rfl rfl d e hlv h
theorem ggX2_34 {j t : Nat} {q : gId} (hM : M.1.cls = RX2) (d : decode M.2.1 pc = .ok (.getfield 34, 3)) (e : pc + 3 = pc') (hlv : lv S 2 j t) (hq : fR S 65 j t = some q) (h : gG E M B pc' ls (.inr q :: st) S cs sl) : gG E M B pc ls (vR 2 j t :: st) S cs sl := g_getR (k := 2) (i := 1) cf2 (by decide) (by rw [hM]; exact mG 409 (by decide +kernel) (by decide +kernel)) (by decide) d e hlv hq h
theorem gpX2_34 {j t : Nat} {q : gId} (hM : M.1.cls = RX2) (hin : M.1.name = "<init>") (d : decode M.2.1 pc = .ok (.putfield 34, 3)) (e : pc + 3 = pc') (hlv : lv S 2 j t) (hq : q ∈ gL S) (h : gG E M B pc' ls st (sfR S 65 j t (some q)) cs sl) : gG E M B pc ls (.inr q :: vR 2 j t :: st) S cs sl := g_putR (k := 2) (i := 1) (fty := (.object "TimedRuns$Expression")) cf2 (by decide) (by rw [hM]; exact mG 409 (by decide +kernel) (by decide +kernel)) (by decide) rfl hin (by rw [hM]) (by decide +kernel) (fun _ => ⟨rfl, rfl⟩) d e hlv hq h
theorem ggX2_45 {j t : Nat} (hM : M.1.cls = RX2) (d : decode M.2.1 pc = .ok (.getfield 45, 3)) (e : pc + 3 = pc') (hlv : lv S 5 j t) (h : gG E M B pc' ls (vI (fI S 163 j t) :: st) S cs sl) : gG E M B pc ls (vR 5 j t :: st) S cs sl := g_getIN (k := 5) (i := 3) (host := "TimedRuns") cf5 (by decide) (by rw [hM]; exact mN 474 (by decide +kernel) (by decide +kernel)) (by decide) d e hlv h
theorem gpX2_45 {j t : Nat} {x : Int32} (hM : M.1.cls = RX2) (d : decode M.2.1 pc = .ok (.putfield 45, 3)) (e : pc + 3 = pc') (hlv : lv S 5 j t) (h : gG E M B pc' ls st (sfI S 163 j t x) cs sl) : gG E M B pc ls (vI x :: vR 5 j t :: st) S cs sl := g_putIN (k := 5) (i := 3) (host := "TimedRuns") (fty := .int) cf5 (by decide) (by rw [hM]; exact mN 474 (by decide +kernel) (by decide +kernel)) (by decide) rfl (by decide +kernel) rfl rfl d e hlv h
theorem ggX3_9 {j t : Nat} {q : gId} (hM : M.1.cls = RX3) (d : decode M.2.1 pc = .ok (.getfield 9, 3)) (e : pc + 3 = pc') (hlv : lv S 3 j t) (hq : fR S 96 j t = some q) (h : gG E M B pc' ls (.inr q :: st) S cs sl) : gG E M B pc ls (vR 3 j t :: st) S cs sl := g_getR (k := 3) (i := 0) cf3 (by decide) (by rw [hM]; exact mG 151 (by decide +kernel) (by decide +kernel)) (by decide) d e hlv hq h
theorem gpX3_9 {j t : Nat} {q : gId} (hM : M.1.cls = RX3) (hin : M.1.name = "<init>") (d : decode M.2.1 pc = .ok (.putfield 9, 3)) (e : pc + 3 = pc') (hlv : lv S 3 j t) (hq : q ∈ gL S) (h : gG E M B pc' ls st (sfR S 96 j t (some q)) cs sl) : gG E M B pc ls (.inr q :: vR 3 j t :: st) S cs sl := g_putR (k := 3) (i := 0) (fty := (.array .int)) cf3 (by decide) (by rw [hM]; exact mG 151 (by decide +kernel) (by decide +kernel)) (by decide) rfl hin (by rw [hM]) (by decide +kernel) (fun _ => ⟨rfl, rfl⟩) d e hlv hq h
theorem ggX3_13 {j t : Nat} (hM : M.1.cls = RX3) (d : decode M.2.1 pc = .ok (.getfield 13, 3)) (e : pc + 3 = pc') (hlv : lv S 3 j t) (h : gG E M B pc' ls (vI (fI S 97 j t) :: st) S cs sl) : gG E M B pc ls (vR 3 j t :: st) S cs sl := g_getI (k := 3) (i := 1) cf3 (by decide) (by rw [hM]; exact mG 152 (by decide +kernel) (by decide +kernel)) (by decide) d e hlv h
theorem gpX3_13 {j t : Nat} {x : Int32} (hM : M.1.cls = RX3) (d : decode M.2.1 pc = .ok (.putfield 13, 3)) (e : pc + 3 = pc') (hlv : lv S 3 j t) (h : gG E M B pc' ls st (sfI S 97 j t x) cs sl) : gG E M B pc ls (vI x :: vR 3 j t :: st) S cs sl := g_putI (k := 3) (i := 1) (fty := .int) cf3 (by decide) (by rw [hM]; exact mG 152 (by decide +kernel) (by decide +kernel)) (by decide) (Or.inl rfl) (by decide +kernel) rfl rfl d e hlv h
theorem ggX4_12 {j t : Nat} {q : gId} (hM : M.1.cls = RX4) (d : decode M.2.1 pc = .ok (.getfield 12, 3)) (e : pc + 3 = pc') (hlv : lv S 4 j t) (hq : fR S 128 j t = some q) (h : gG E M B pc' ls (.inr q :: st) S cs sl) : gG E M B pc ls (vR 4 j t :: st) S cs sl := g_getR (k := 4) (i := 0) cf4 (by decide) (by rw [hM]; exact mG 100 (by decide +kernel) (by decide +kernel)) (by decide) d e hlv hq h
theorem gpX4_12 {j t : Nat} {q : gId} (hM : M.1.cls = RX4) (hin : M.1.name = "<init>") (d : decode M.2.1 pc = .ok (.putfield 12, 3)) (e : pc + 3 = pc') (hlv : lv S 4 j t) (hq : q ∈ gL S) (h : gG E M B pc' ls st (sfR S 128 j t (some q)) cs sl) : gG E M B pc ls (.inr q :: vR 4 j t :: st) S cs sl := g_putR (k := 4) (i := 0) (fty := (.object "TimedRuns$Text")) cf4 (by decide) (by rw [hM]; exact mG 100 (by decide +kernel) (by decide +kernel)) (by decide) rfl hin (by rw [hM]) (by decide +kernel) (fun _ => ⟨rfl, rfl⟩) d e hlv hq h
theorem ggX4_18 {j t : Nat} {q : gId} (hM : M.1.cls = RX4) (d : decode M.2.1 pc = .ok (.getfield 18, 3)) (e : pc + 3 = pc') (hlv : lv S 4 j t) (hq : fR S 129 j t = some q) (h : gG E M B pc' ls (.inr q :: st) S cs sl) : gG E M B pc ls (vR 4 j t :: st) S cs sl := g_getR (k := 4) (i := 1) cf4 (by decide) (by rw [hM]; exact mG 102 (by decide +kernel) (by decide +kernel)) (by decide) d e hlv hq h
theorem gpX4_18 {j t : Nat} {q : gId} (hM : M.1.cls = RX4) (hin : M.1.name = "<init>") (d : decode M.2.1 pc = .ok (.putfield 18, 3)) (e : pc + 3 = pc') (hlv : lv S 4 j t) (hq : q ∈ gL S) (h : gG E M B pc' ls st (sfR S 129 j t (some q)) cs sl) : gG E M B pc ls (.inr q :: vR 4 j t :: st) S cs sl := g_putR (k := 4) (i := 1) (fty := (.array .long)) cf4 (by decide) (by rw [hM]; exact mG 102 (by decide +kernel) (by decide +kernel)) (by decide) rfl hin (by rw [hM]) (by decide +kernel) (fun _ => ⟨rfl, rfl⟩) d e hlv hq h
theorem ggX4_22 {j t : Nat} (hM : M.1.cls = RX4) (d : decode M.2.1 pc = .ok (.getfield 22, 3)) (e : pc + 3 = pc') (hlv : lv S 4 j t) (h : gG E M B pc' ls (vI (fI S 130 j t) :: st) S cs sl) : gG E M B pc ls (vR 4 j t :: st) S cs sl := g_getI (k := 4) (i := 2) cf4 (by decide) (by rw [hM]; exact mG 103 (by decide +kernel) (by decide +kernel)) (by decide) d e hlv h
theorem gpX4_22 {j t : Nat} {x : Int32} (hM : M.1.cls = RX4) (d : decode M.2.1 pc = .ok (.putfield 22, 3)) (e : pc + 3 = pc') (hlv : lv S 4 j t) (hz : x = 0 ∨ x = 1) (h : gG E M B pc' ls st (sfI S 130 j t x) cs sl) : gG E M B pc ls (vI x :: vR 4 j t :: st) S cs sl := g_putI (k := 4) (i := 2) (fty := .boolean) cf4 (by decide) (by rw [hM]; exact mG 103 (by decide +kernel) (by decide +kernel)) (by decide) (Or.inl rfl) (by decide +kernel) (gz_n hz) (gz_f hz) d e hlv h
theorem ggX4_26 {j t : Nat} (hM : M.1.cls = RX4) (d : decode M.2.1 pc = .ok (.getfield 26, 3)) (e : pc + 3 = pc') (hlv : lv S 4 j t) (h : gG E M B pc' ls (vI (fI S 131 j t) :: st) S cs sl) : gG E M B pc ls (vR 4 j t :: st) S cs sl := g_getI (k := 4) (i := 3) cf4 (by decide) (by rw [hM]; exact mG 104 (by decide +kernel) (by decide +kernel)) (by decide) d e hlv h
theorem gpX4_26 {j t : Nat} {x : Int32} (hM : M.1.cls = RX4) (d : decode M.2.1 pc = .ok (.putfield 26, 3)) (e : pc + 3 = pc') (hlv : lv S 4 j t) (hz : x = 0 ∨ x = 1) (h : gG E M B pc' ls st (sfI S 131 j t x) cs sl) : gG E M B pc ls (vI x :: vR 4 j t :: st) S cs sl := g_putI (k := 4) (i := 3) (fty := .boolean) cf4 (by decide) (by rw [hM]; exact mG 104 (by decide +kernel) (by decide +kernel)) (by decide) (Or.inl rfl) (by decide +kernel) (gz_n hz) (gz_f hz) d e hlv h
theorem ggX4_29 {j t : Nat} (hM : M.1.cls = RX4) (d : decode M.2.1 pc = .ok (.getfield 29, 3)) (e : pc + 3 = pc') (hlv : lv S 4 j t) (h : gG E M B pc' ls (vI (fI S 132 j t) :: st) S cs sl) : gG E M B pc ls (vR 4 j t :: st) S cs sl := g_getI (k := 4) (i := 4) cf4 (by decide) (by rw [hM]; exact mG 105 (by decide +kernel) (by decide +kernel)) (by decide) d e hlv h
theorem gpX4_29 {j t : Nat} {x : Int32} (hM : M.1.cls = RX4) (d : decode M.2.1 pc = .ok (.putfield 29, 3)) (e : pc + 3 = pc') (hlv : lv S 4 j t) (h : gG E M B pc' ls st (sfI S 132 j t x) cs sl) : gG E M B pc ls (vI x :: vR 4 j t :: st) S cs sl := g_putI (k := 4) (i := 4) (fty := .int) cf4 (by decide) (by rw [hM]; exact mG 105 (by decide +kernel) (by decide +kernel)) (by decide) (Or.inl rfl) (by decide +kernel) rfl rfl d e hlv h
theorem ggX4_33 {j t : Nat} (hM : M.1.cls = RX4) (d : decode M.2.1 pc = .ok (.getfield 33, 3)) (e : pc + 3 = pc') (hlv : lv S 4 j t) (h : gG E M B pc' ls (vI (fI S 133 j t) :: st) S cs sl) : gG E M B pc ls (vR 4 j t :: st) S cs sl := g_getI (k := 4) (i := 5) cf4 (by decide) (by rw [hM]; exact mG 106 (by decide +kernel) (by decide +kernel)) (by decide) d e hlv h
theorem gpX4_33 {j t : Nat} {x : Int32} (hM : M.1.cls = RX4) (d : decode M.2.1 pc = .ok (.putfield 33, 3)) (e : pc + 3 = pc') (hlv : lv S 4 j t) (h : gG E M B pc' ls st (sfI S 133 j t x) cs sl) : gG E M B pc ls (vI x :: vR 4 j t :: st) S cs sl := g_putI (k := 4) (i := 5) (fty := .int) cf4 (by decide) (by rw [hM]; exact mG 106 (by decide +kernel) (by decide +kernel)) (by decide) (Or.inl rfl) (by decide +kernel) rfl rfl d e hlv h
theorem gsX4_55 (hM : M.1.cls = RX4) (d : decode M.2.1 pc = .ok (.getstatic 55, 3)) (e : pc + 3 = pc') (h : gG E M B pc' ls (.inl (.ref (eA E 0)) :: st) S cs sl) : gG E M B pc ls st S cs sl := g_getsN (host := RX7) (C := RX7) (n := "FIELD_LOWEST") (fun _ _ q => q.2.1.1) (by rw [hM]; exact mN 342 (by decide +kernel) (by decide +kernel)) d e h
theorem gt_0 {n : Nat} {x : Int32} (d : decode M.2.1 pc = .ok (.iaload, 1)) (e : pc + 1 = pc') (hx : x = nI n) (hn : n < 5) (h : gG E M B pc' ls (vI ((gtab 0).getD n 0) :: st) S cs sl) : gG E M B pc ls (vI x :: .inl (.ref (eA E 0)) :: st) S cs sl := g_tab (i := 0) (fun _ _ q => q.2.1.1) d e hx hn (by decide) h
theorem gsX4_59 (hM : M.1.cls = RX4) (d : decode M.2.1 pc = .ok (.getstatic 59, 3)) (e : pc + 3 = pc') (h : gG E M B pc' ls (.inl (.ref (eA E 1)) :: st) S cs sl) : gG E M B pc ls st S cs sl := g_getsN (host := RX7) (C := RX7) (n := "FIELD_HIGHEST") (fun _ _ q => q.2.1.2.1) (by rw [hM]; exact mN 344 (by decide +kernel) (by decide +kernel)) d e h
theorem gt_1 {n : Nat} {x : Int32} (d : decode M.2.1 pc = .ok (.iaload, 1)) (e : pc + 1 = pc') (hx : x = nI n) (hn : n < 5) (h : gG E M B pc' ls (vI ((gtab 1).getD n 0) :: st) S cs sl) : gG E M B pc ls (vI x :: .inl (.ref (eA E 1)) :: st) S cs sl := g_tab (i := 1) (fun _ _ q => q.2.1.2.1) d e hx hn (by decide) h
theorem ggX5_9 {j t : Nat} (hM : M.1.cls = RX5) (d : decode M.2.1 pc = .ok (.getfield 9, 3)) (e : pc + 3 = pc') (hlv : lv S 5 j t) (h : gG E M B pc' ls (vI (fI S 163 j t) :: st) S cs sl) : gG E M B pc ls (vR 5 j t :: st) S cs sl := g_getI (k := 5) (i := 3) cf5 (by decide) (by rw [hM]; exact mG 473 (by decide +kernel) (by decide +kernel)) (by decide) d e hlv h
theorem gpX5_9 {j t : Nat} {x : Int32} (hM : M.1.cls = RX5) (d : decode M.2.1 pc = .ok (.putfield 9, 3)) (e : pc + 3 = pc') (hlv : lv S 5 j t) (h : gG E M B pc' ls st (sfI S 163 j t x) cs sl) : gG E M B pc ls (vI x :: vR 5 j t :: st) S cs sl := g_putI (k := 5) (i := 3) (fty := .int) cf5 (by decide) (by rw [hM]; exact mG 473 (by decide +kernel) (by decide +kernel)) (by decide) (Or.inl rfl) (by decide +kernel) rfl rfl d e hlv h
theorem ggX5_15 {j t : Nat} (hM : M.1.cls = RX5) (d : decode M.2.1 pc = .ok (.getfield 15, 3)) (e : pc + 3 = pc') (hlv : lv S 5 j t) (h : gG E M B pc' ls (vI (fI S 164 j t) :: st) S cs sl) : gG E M B pc ls (vR 5 j t :: st) S cs sl := g_getI (k := 5) (i := 4) cf5 (by decide) (by rw [hM]; exact mG 476 (by decide +kernel) (by decide +kernel)) (by decide) d e hlv h
theorem gpX5_15 {j t : Nat} {x : Int32} (hM : M.1.cls = RX5) (d : decode M.2.1 pc = .ok (.putfield 15, 3)) (e : pc + 3 = pc') (hlv : lv S 5 j t) (h : gG E M B pc' ls st (sfI S 164 j t x) cs sl) : gG E M B pc ls (vI x :: vR 5 j t :: st) S cs sl := g_putI (k := 5) (i := 4) (fty := .int) cf5 (by decide) (by rw [hM]; exact mG 476 (by decide +kernel) (by decide +kernel)) (by decide) (Or.inl rfl) (by decide +kernel) rfl rfl d e hlv h
theorem ggX5_18 {j t : Nat} (hM : M.1.cls = RX5) (d : decode M.2.1 pc = .ok (.getfield 18, 3)) (e : pc + 3 = pc') (hlv : lv S 5 j t) (h : gG E M B pc' ls (vI (fI S 165 j t) :: st) S cs sl) : gG E M B pc ls (vR 5 j t :: st) S cs sl := g_getI (k := 5) (i := 5) cf5 (by decide) (by rw [hM]; exact mG 477 (by decide +kernel) (by decide +kernel)) (by decide) d e hlv h
theorem gpX5_18 {j t : Nat} {x : Int32} (hM : M.1.cls = RX5) (d : decode M.2.1 pc = .ok (.putfield 18, 3)) (e : pc + 3 = pc') (hlv : lv S 5 j t) (h : gG E M B pc' ls st (sfI S 165 j t x) cs sl) : gG E M B pc ls (vI x :: vR 5 j t :: st) S cs sl := g_putI (k := 5) (i := 5) (fty := .int) cf5 (by decide) (by rw [hM]; exact mG 477 (by decide +kernel) (by decide +kernel)) (by decide) (Or.inl rfl) (by decide +kernel) rfl rfl d e hlv h
theorem ggX5_21 {j t : Nat} (hM : M.1.cls = RX5) (d : decode M.2.1 pc = .ok (.getfield 21, 3)) (e : pc + 3 = pc') (hlv : lv S 5 j t) (h : gG E M B pc' ls (vI (fI S 160 j t) :: st) S cs sl) : gG E M B pc ls (vR 5 j t :: st) S cs sl := g_getI (k := 5) (i := 0) cf5 (by decide) (by rw [hM]; exact mG 469 (by decide +kernel) (by decide +kernel)) (by decide) d e hlv h
theorem gpX5_21 {j t : Nat} {x : Int32} (hM : M.1.cls = RX5) (hin : M.1.name = "<init>") (d : decode M.2.1 pc = .ok (.putfield 21, 3)) (e : pc + 3 = pc') (hlv : lv S 5 j t) (h : gG E M B pc' ls st (sfI S 160 j t x) cs sl) : gG E M B pc ls (vI x :: vR 5 j t :: st) S cs sl := g_putI (k := 5) (i := 0) (fty := .int) cf5 (by decide) (by rw [hM]; exact mG 469 (by decide +kernel) (by decide +kernel)) (by decide) (Or.inr ⟨rfl, hin, by rw [hM]⟩) (by decide +kernel) rfl rfl d e hlv h
theorem ggX5_24 {j t : Nat} (hM : M.1.cls = RX5) (d : decode M.2.1 pc = .ok (.getfield 24, 3)) (e : pc + 3 = pc') (hlv : lv S 5 j t) (h : gG E M B pc' ls (vI (fI S 161 j t) :: st) S cs sl) : gG E M B pc ls (vR 5 j t :: st) S cs sl := g_getI (k := 5) (i := 1) cf5 (by decide) (by rw [hM]; exact mG 471 (by decide +kernel) (by decide +kernel)) (by decide) d e hlv h
theorem gpX5_24 {j t : Nat} {x : Int32} (hM : M.1.cls = RX5) (hin : M.1.name = "<init>") (d : decode M.2.1 pc = .ok (.putfield 24, 3)) (e : pc + 3 = pc') (hlv : lv S 5 j t) (h : gG E M B pc' ls st (sfI S 161 j t x) cs sl) : gG E M B pc ls (vI x :: vR 5 j t :: st) S cs sl := g_putI (k := 5) (i := 1) (fty := .int) cf5 (by decide) (by rw [hM]; exact mG 471 (by decide +kernel) (by decide +kernel)) (by decide) (Or.inr ⟨rfl, hin, by rw [hM]⟩) (by decide +kernel) rfl rfl d e hlv h
theorem ggX5_27 {j t : Nat} (hM : M.1.cls = RX5) (d : decode M.2.1 pc = .ok (.getfield 27, 3)) (e : pc + 3 = pc') (hlv : lv S 5 j t) (h : gG E M B pc' ls (vI (fI S 162 j t) :: st) S cs sl) : gG E M B pc ls (vR 5 j t :: st) S cs sl := g_getI (k := 5) (i := 2) cf5 (by decide) (by rw [hM]; exact mG 472 (by decide +kernel) (by decide +kernel)) (by decide) d e hlv h
theorem gpX5_27 {j t : Nat} {x : Int32} (hM : M.1.cls = RX5) (hin : M.1.name = "<init>") (d : decode M.2.1 pc = .ok (.putfield 27, 3)) (e : pc + 3 = pc') (hlv : lv S 5 j t) (h : gG E M B pc' ls st (sfI S 162 j t x) cs sl) : gG E M B pc ls (vI x :: vR 5 j t :: st) S cs sl := g_putI (k := 5) (i := 2) (fty := .int) cf5 (by decide) (by rw [hM]; exact mG 472 (by decide +kernel) (by decide +kernel)) (by decide) (Or.inr ⟨rfl, hin, by rw [hM]⟩) (by decide +kernel) rfl rfl d e hlv h
theorem ggX6_9 {j t : Nat} {q : gId} (hM : M.1.cls = RX6) (d : decode M.2.1 pc = .ok (.getfield 9, 3)) (e : pc + 3 = pc') (hlv : lv S 6 j t) (hq : fR S 192 j t = some q) (h : gG E M B pc' ls (.inr q :: st) S cs sl) : gG E M B pc ls (vR 6 j t :: st) S cs sl := g_getR (k := 6) (i := 0) cf6 (by decide) (by rw [hM]; exact mG 92 (by decide +kernel) (by decide +kernel)) (by decide) d e hlv hq h
theorem gpX6_9 {j t : Nat} {q : gId} (hM : M.1.cls = RX6) (hin : M.1.name = "<init>") (d : decode M.2.1 pc = .ok (.putfield 9, 3)) (e : pc + 3 = pc') (hlv : lv S 6 j t) (hq : q ∈ gL S) (h : gG E M B pc' ls st (sfR S 192 j t (some q)) cs sl) : gG E M B pc ls (.inr q :: vR 6 j t :: st) S cs sl := g_putR (k := 6) (i := 0) (fty := (.array .char)) cf6 (by decide) (by rw [hM]; exact mG 92 (by decide +kernel) (by decide +kernel)) (by decide) rfl hin (by rw [hM]) (by decide +kernel) (fun _ => ⟨rfl, rfl⟩) d e hlv hq h
theorem ggX6_13 {j t : Nat} (hM : M.1.cls = RX6) (d : decode M.2.1 pc = .ok (.getfield 13, 3)) (e : pc + 3 = pc') (hlv : lv S 6 j t) (h : gG E M B pc' ls (vI (fI S 193 j t) :: st) S cs sl) : gG E M B pc ls (vR 6 j t :: st) S cs sl := g_getI (k := 6) (i := 1) cf6 (by decide) (by rw [hM]; exact mG 93 (by decide +kernel) (by decide +kernel)) (by decide) d e hlv h
theorem gpX6_13 {j t : Nat} {x : Int32} (hM : M.1.cls = RX6) (d : decode M.2.1 pc = .ok (.putfield 13, 3)) (e : pc + 3 = pc') (hlv : lv S 6 j t) (h : gG E M B pc' ls st (sfI S 193 j t x) cs sl) : gG E M B pc ls (vI x :: vR 6 j t :: st) S cs sl := g_putI (k := 6) (i := 1) (fty := .int) cf6 (by decide) (by rw [hM]; exact mG 93 (by decide +kernel) (by decide +kernel)) (by decide) (Or.inl rfl) (by decide +kernel) rfl rfl d e hlv h
theorem ggX8_7 {j t : Nat} (hM : M.1.cls = RX8) (d : decode M.2.1 pc = .ok (.getfield 7, 3)) (e : pc + 3 = pc') (hlv : lv S 8 j t) (h : gG E M B pc' ls (vI (fI S 258 j t) :: st) S cs sl) : gG E M B pc ls (vR 8 j t :: st) S cs sl := g_getI (k := 8) (i := 2) cf8 (by decide) (by rw [hM]; exact mG 712 (by decide +kernel) (by decide +kernel)) (by decide) d e hlv h
theorem gpX8_7 {j t : Nat} {x : Int32} (hM : M.1.cls = RX8) (d : decode M.2.1 pc = .ok (.putfield 7, 3)) (e : pc + 3 = pc') (hlv : lv S 8 j t) (h : gG E M B pc' ls st (sfI S 258 j t x) cs sl) : gG E M B pc ls (vI x :: vR 8 j t :: st) S cs sl := g_putI (k := 8) (i := 2) (fty := .int) cf8 (by decide) (by rw [hM]; exact mG 712 (by decide +kernel) (by decide +kernel)) (by decide) (Or.inl rfl) (by decide +kernel) rfl rfl d e hlv h
theorem ggX8_13 {j t : Nat} {q : gId} (hM : M.1.cls = RX8) (d : decode M.2.1 pc = .ok (.getfield 13, 3)) (e : pc + 3 = pc') (hlv : lv S 8 j t) (hq : fR S 262 j t = some q) (h : gG E M B pc' ls (.inr q :: st) S cs sl) : gG E M B pc ls (vR 8 j t :: st) S cs sl := g_getR (k := 8) (i := 6) cf8 (by decide) (by rw [hM]; exact mG 716 (by decide +kernel) (by decide +kernel)) (by decide) d e hlv hq h
theorem gpX8_13 {j t : Nat} {q : gId} (hM : M.1.cls = RX8) (hin : M.1.name = "<init>") (d : decode M.2.1 pc = .ok (.putfield 13, 3)) (e : pc + 3 = pc') (hlv : lv S 8 j t) (hq : q ∈ gL S) (h : gG E M B pc' ls st (sfR S 262 j t (some q)) cs sl) : gG E M B pc ls (.inr q :: vR 8 j t :: st) S cs sl := g_putR (k := 8) (i := 6) (fty := (.array .int)) cf8 (by decide) (by rw [hM]; exact mG 716 (by decide +kernel) (by decide +kernel)) (by decide) rfl hin (by rw [hM]) (by decide +kernel) (fun _ => ⟨rfl, rfl⟩) d e hlv hq h
theorem ggX8_17 {j t : Nat} (hM : M.1.cls = RX8) (d : decode M.2.1 pc = .ok (.getfield 17, 3)) (e : pc + 3 = pc') (hlv : lv S 8 j t) (h : gG E M B pc' ls (vI (fI S 263 j t) :: st) S cs sl) : gG E M B pc ls (vR 8 j t :: st) S cs sl := g_getI (k := 8) (i := 7) cf8 (by decide) (by rw [hM]; exact mG 717 (by decide +kernel) (by decide +kernel)) (by decide) d e hlv h
theorem gpX8_17 {j t : Nat} {x : Int32} (hM : M.1.cls = RX8) (d : decode M.2.1 pc = .ok (.putfield 17, 3)) (e : pc + 3 = pc') (hlv : lv S 8 j t) (h : gG E M B pc' ls st (sfI S 263 j t x) cs sl) : gG E M B pc ls (vI x :: vR 8 j t :: st) S cs sl := g_putI (k := 8) (i := 7) (fty := .int) cf8 (by decide) (by rw [hM]; exact mG 717 (by decide +kernel) (by decide +kernel)) (by decide) (Or.inl rfl) (by decide +kernel) rfl rfl d e hlv h
theorem ggX8_20 {j t : Nat} {q : gId} (hM : M.1.cls = RX8) (d : decode M.2.1 pc = .ok (.getfield 20, 3)) (e : pc + 3 = pc') (hlv : lv S 8 j t) (hq : fR S 265 j t = some q) (h : gG E M B pc' ls (.inr q :: st) S cs sl) : gG E M B pc ls (vR 8 j t :: st) S cs sl := g_getR (k := 8) (i := 9) cf8 (by decide) (by rw [hM]; exact mG 719 (by decide +kernel) (by decide +kernel)) (by decide) d e hlv hq h
theorem gpX8_20 {j t : Nat} {q : gId} (hM : M.1.cls = RX8) (hin : M.1.name = "<init>") (d : decode M.2.1 pc = .ok (.putfield 20, 3)) (e : pc + 3 = pc') (hlv : lv S 8 j t) (hq : q ∈ gL S) (h : gG E M B pc' ls st (sfR S 265 j t (some q)) cs sl) : gG E M B pc ls (.inr q :: vR 8 j t :: st) S cs sl := g_putR (k := 8) (i := 9) (fty := (.array .int)) cf8 (by decide) (by rw [hM]; exact mG 719 (by decide +kernel) (by decide +kernel)) (by decide) rfl hin (by rw [hM]) (by decide +kernel) (fun _ => ⟨rfl, rfl⟩) d e hlv hq h
theorem ggX8_23 {j t : Nat} {q : gId} (hM : M.1.cls = RX8) (d : decode M.2.1 pc = .ok (.getfield 23, 3)) (e : pc + 3 = pc') (hlv : lv S 8 j t) (hq : fR S 266 j t = some q) (h : gG E M B pc' ls (.inr q :: st) S cs sl) : gG E M B pc ls (vR 8 j t :: st) S cs sl := g_getR (k := 8) (i := 10) cf8 (by decide) (by rw [hM]; exact mG 720 (by decide +kernel) (by decide +kernel)) (by decide) d e hlv hq h
theorem gpX8_23 {j t : Nat} {q : gId} (hM : M.1.cls = RX8) (hin : M.1.name = "<init>") (d : decode M.2.1 pc = .ok (.putfield 23, 3)) (e : pc + 3 = pc') (hlv : lv S 8 j t) (hq : q ∈ gL S) (h : gG E M B pc' ls st (sfR S 266 j t (some q)) cs sl) : gG E M B pc ls (.inr q :: vR 8 j t :: st) S cs sl := g_putR (k := 8) (i := 10) (fty := (.array .int)) cf8 (by decide) (by rw [hM]; exact mG 720 (by decide +kernel) (by decide +kernel)) (by decide) rfl hin (by rw [hM]) (by decide +kernel) (fun _ => ⟨rfl, rfl⟩) d e hlv hq h
theorem ggX8_26 {j t : Nat} {q : gId} (hM : M.1.cls = RX8) (d : decode M.2.1 pc = .ok (.getfield 26, 3)) (e : pc + 3 = pc') (hlv : lv S 8 j t) (hq : fR S 267 j t = some q) (h : gG E M B pc' ls (.inr q :: st) S cs sl) : gG E M B pc ls (vR 8 j t :: st) S cs sl := g_getR (k := 8) (i := 11) cf8 (by decide) (by rw [hM]; exact mG 721 (by decide +kernel) (by decide +kernel)) (by decide) d e hlv hq h
theorem gpX8_26 {j t : Nat} {q : gId} (hM : M.1.cls = RX8) (hin : M.1.name = "<init>") (d : decode M.2.1 pc = .ok (.putfield 26, 3)) (e : pc + 3 = pc') (hlv : lv S 8 j t) (hq : q ∈ gL S) (h : gG E M B pc' ls st (sfR S 267 j t (some q)) cs sl) : gG E M B pc ls (.inr q :: vR 8 j t :: st) S cs sl := g_putR (k := 8) (i := 11) (fty := (.array .int)) cf8 (by decide) (by rw [hM]; exact mG 721 (by decide +kernel) (by decide +kernel)) (by decide) rfl hin (by rw [hM]) (by decide +kernel) (fun _ => ⟨rfl, rfl⟩) d e hlv hq h
theorem ggX8_29 {j t : Nat} {q : gId} (hM : M.1.cls = RX8) (d : decode M.2.1 pc = .ok (.getfield 29, 3)) (e : pc + 3 = pc') (hlv : lv S 8 j t) (hq : fR S 268 j t = some q) (h : gG E M B pc' ls (.inr q :: st) S cs sl) : gG E M B pc ls (vR 8 j t :: st) S cs sl := g_getR (k := 8) (i := 12) cf8 (by decide) (by rw [hM]; exact mG 722 (by decide +kernel) (by decide +kernel)) (by decide) d e hlv hq h
theorem gpX8_29 {j t : Nat} {q : gId} (hM : M.1.cls = RX8) (hin : M.1.name = "<init>") (d : decode M.2.1 pc = .ok (.putfield 29, 3)) (e : pc + 3 = pc') (hlv : lv S 8 j t) (hq : q ∈ gL S) (h : gG E M B pc' ls st (sfR S 268 j t (some q)) cs sl) : gG E M B pc ls (.inr q :: vR 8 j t :: st) S cs sl := g_putR (k := 8) (i := 12) (fty := (.array .int)) cf8 (by decide) (by rw [hM]; exact mG 722 (by decide +kernel) (by decide +kernel)) (by decide) rfl hin (by rw [hM]) (by decide +kernel) (fun _ => ⟨rfl, rfl⟩) d e hlv hq h
theorem ggX8_32 {j t : Nat} {q : gId} (hM : M.1.cls = RX8) (d : decode M.2.1 pc = .ok (.getfield 32, 3)) (e : pc + 3 = pc') (hlv : lv S 8 j t) (hq : fR S 269 j t = some q) (h : gG E M B pc' ls (.inr q :: st) S cs sl) : gG E M B pc ls (vR 8 j t :: st) S cs sl := g_getR (k := 8) (i := 13) cf8 (by decide) (by rw [hM]; exact mG 723 (by decide +kernel) (by decide +kernel)) (by decide) d e hlv hq h
theorem gpX8_32 {j t : Nat} {q : gId} (hM : M.1.cls = RX8) (hin : M.1.name = "<init>") (d : decode M.2.1 pc = .ok (.putfield 32, 3)) (e : pc + 3 = pc') (hlv : lv S 8 j t) (hq : q ∈ gL S) (h : gG E M B pc' ls st (sfR S 269 j t (some q)) cs sl) : gG E M B pc ls (.inr q :: vR 8 j t :: st) S cs sl := g_putR (k := 8) (i := 13) (fty := (.array .boolean)) cf8 (by decide) (by rw [hM]; exact mG 723 (by decide +kernel) (by decide +kernel)) (by decide) rfl hin (by rw [hM]) (by decide +kernel) (fun _ => ⟨rfl, rfl⟩) d e hlv hq h
theorem ggX8_36 {j t : Nat} {q : gId} (hM : M.1.cls = RX8) (d : decode M.2.1 pc = .ok (.getfield 36, 3)) (e : pc + 3 = pc') (hlv : lv S 8 j t) (hq : fR S 270 j t = some q) (h : gG E M B pc' ls (.inr q :: st) S cs sl) : gG E M B pc ls (vR 8 j t :: st) S cs sl := g_getR (k := 8) (i := 14) cf8 (by decide) (by rw [hM]; exact mG 724 (by decide +kernel) (by decide +kernel)) (by decide) d e hlv hq h
theorem gpX8_36 {j t : Nat} {q : gId} (hM : M.1.cls = RX8) (hin : M.1.name = "<init>") (d : decode M.2.1 pc = .ok (.putfield 36, 3)) (e : pc + 3 = pc') (hlv : lv S 8 j t) (hq : q ∈ gL S) (h : gG E M B pc' ls st (sfR S 270 j t (some q)) cs sl) : gG E M B pc ls (.inr q :: vR 8 j t :: st) S cs sl := g_putR (k := 8) (i := 14) (fty := (.array .int)) cf8 (by decide) (by rw [hM]; exact mG 724 (by decide +kernel) (by decide +kernel)) (by decide) rfl hin (by rw [hM]) (by decide +kernel) (fun _ => ⟨rfl, rfl⟩) d e hlv hq h
theorem ggX8_39 {j t : Nat} {q : gId} (hM : M.1.cls = RX8) (d : decode M.2.1 pc = .ok (.getfield 39, 3)) (e : pc + 3 = pc') (hlv : lv S 8 j t) (hq : fR S 271 j t = some q) (h : gG E M B pc' ls (.inr q :: st) S cs sl) : gG E M B pc ls (vR 8 j t :: st) S cs sl := g_getR (k := 8) (i := 15) cf8 (by decide) (by rw [hM]; exact mG 725 (by decide +kernel) (by decide +kernel)) (by decide) d e hlv hq h
theorem gpX8_39 {j t : Nat} {q : gId} (hM : M.1.cls = RX8) (hin : M.1.name = "<init>") (d : decode M.2.1 pc = .ok (.putfield 39, 3)) (e : pc + 3 = pc') (hlv : lv S 8 j t) (hq : q ∈ gL S) (h : gG E M B pc' ls st (sfR S 271 j t (some q)) cs sl) : gG E M B pc ls (.inr q :: vR 8 j t :: st) S cs sl := g_putR (k := 8) (i := 15) (fty := (.array .int)) cf8 (by decide) (by rw [hM]; exact mG 725 (by decide +kernel) (by decide +kernel)) (by decide) rfl hin (by rw [hM]) (by decide +kernel) (fun _ => ⟨rfl, rfl⟩) d e hlv hq h
theorem ggX8_42 {j t : Nat} {q : gId} (hM : M.1.cls = RX8) (d : decode M.2.1 pc = .ok (.getfield 42, 3)) (e : pc + 3 = pc') (hlv : lv S 8 j t) (hq : fR S 272 j t = some q) (h : gG E M B pc' ls (.inr q :: st) S cs sl) : gG E M B pc ls (vR 8 j t :: st) S cs sl := g_getR (k := 8) (i := 16) cf8 (by decide) (by rw [hM]; exact mG 726 (by decide +kernel) (by decide +kernel)) (by decide) d e hlv hq h
theorem gpX8_42 {j t : Nat} {q : gId} (hM : M.1.cls = RX8) (hin : M.1.name = "<init>") (d : decode M.2.1 pc = .ok (.putfield 42, 3)) (e : pc + 3 = pc') (hlv : lv S 8 j t) (hq : q ∈ gL S) (h : gG E M B pc' ls st (sfR S 272 j t (some q)) cs sl) : gG E M B pc ls (.inr q :: vR 8 j t :: st) S cs sl := g_putR (k := 8) (i := 16) (fty := (.array .boolean)) cf8 (by decide) (by rw [hM]; exact mG 726 (by decide +kernel) (by decide +kernel)) (by decide) rfl hin (by rw [hM]) (by decide +kernel) (fun _ => ⟨rfl, rfl⟩) d e hlv hq h
theorem ggX8_45 {j t : Nat} {q : gId} (hM : M.1.cls = RX8) (d : decode M.2.1 pc = .ok (.getfield 45, 3)) (e : pc + 3 = pc') (hlv : lv S 8 j t) (hq : fR S 273 j t = some q) (h : gG E M B pc' ls (.inr q :: st) S cs sl) : gG E M B pc ls (vR 8 j t :: st) S cs sl := g_getR (k := 8) (i := 17) cf8 (by decide) (by rw [hM]; exact mG 727 (by decide +kernel) (by decide +kernel)) (by decide) d e hlv hq h
theorem gpX8_45 {j t : Nat} {q : gId} (hM : M.1.cls = RX8) (hin : M.1.name = "<init>") (d : decode M.2.1 pc = .ok (.putfield 45, 3)) (e : pc + 3 = pc') (hlv : lv S 8 j t) (hq : q ∈ gL S) (h : gG E M B pc' ls st (sfR S 273 j t (some q)) cs sl) : gG E M B pc ls (.inr q :: vR 8 j t :: st) S cs sl := g_putR (k := 8) (i := 17) (fty := (.array .int)) cf8 (by decide) (by rw [hM]; exact mG 727 (by decide +kernel) (by decide +kernel)) (by decide) rfl hin (by rw [hM]) (by decide +kernel) (fun _ => ⟨rfl, rfl⟩) d e hlv hq h
theorem ggX8_48 {j t : Nat} {q : gId} (hM : M.1.cls = RX8) (d : decode M.2.1 pc = .ok (.getfield 48, 3)) (e : pc + 3 = pc') (hlv : lv S 8 j t) (hq : fR S 274 j t = some q) (h : gG E M B pc' ls (.inr q :: st) S cs sl) : gG E M B pc ls (vR 8 j t :: st) S cs sl := g_getR (k := 8) (i := 18) cf8 (by decide) (by rw [hM]; exact mG 728 (by decide +kernel) (by decide +kernel)) (by decide) d e hlv hq h
theorem gpX8_48 {j t : Nat} {q : gId} (hM : M.1.cls = RX8) (hin : M.1.name = "<init>") (d : decode M.2.1 pc = .ok (.putfield 48, 3)) (e : pc + 3 = pc') (hlv : lv S 8 j t) (hq : q ∈ gL S) (h : gG E M B pc' ls st (sfR S 274 j t (some q)) cs sl) : gG E M B pc ls (.inr q :: vR 8 j t :: st) S cs sl := g_putR (k := 8) (i := 18) (fty := (.array .int)) cf8 (by decide) (by rw [hM]; exact mG 728 (by decide +kernel) (by decide +kernel)) (by decide) rfl hin (by rw [hM]) (by decide +kernel) (fun _ => ⟨rfl, rfl⟩) d e hlv hq h
theorem ggX8_51 {j t : Nat} {q : gId} (hM : M.1.cls = RX8) (d : decode M.2.1 pc = .ok (.getfield 51, 3)) (e : pc + 3 = pc') (hlv : lv S 8 j t) (hq : fR S 275 j t = some q) (h : gG E M B pc' ls (.inr q :: st) S cs sl) : gG E M B pc ls (vR 8 j t :: st) S cs sl := g_getR (k := 8) (i := 19) cf8 (by decide) (by rw [hM]; exact mG 729 (by decide +kernel) (by decide +kernel)) (by decide) d e hlv hq h
theorem gpX8_51 {j t : Nat} {q : gId} (hM : M.1.cls = RX8) (hin : M.1.name = "<init>") (d : decode M.2.1 pc = .ok (.putfield 51, 3)) (e : pc + 3 = pc') (hlv : lv S 8 j t) (hq : q ∈ gL S) (h : gG E M B pc' ls st (sfR S 275 j t (some q)) cs sl) : gG E M B pc ls (.inr q :: vR 8 j t :: st) S cs sl := g_putR (k := 8) (i := 19) (fty := (.array .int)) cf8 (by decide) (by rw [hM]; exact mG 729 (by decide +kernel) (by decide +kernel)) (by decide) rfl hin (by rw [hM]) (by decide +kernel) (fun _ => ⟨rfl, rfl⟩) d e hlv hq h
theorem ggX8_54 {j t : Nat} {q : gId} (hM : M.1.cls = RX8) (d : decode M.2.1 pc = .ok (.getfield 54, 3)) (e : pc + 3 = pc') (hlv : lv S 8 j t) (hq : fR S 276 j t = some q) (h : gG E M B pc' ls (.inr q :: st) S cs sl) : gG E M B pc ls (vR 8 j t :: st) S cs sl := g_getR (k := 8) (i := 20) cf8 (by decide) (by rw [hM]; exact mG 730 (by decide +kernel) (by decide +kernel)) (by decide) d e hlv hq h
theorem gpX8_54 {j t : Nat} {q : gId} (hM : M.1.cls = RX8) (hin : M.1.name = "<init>") (d : decode M.2.1 pc = .ok (.putfield 54, 3)) (e : pc + 3 = pc') (hlv : lv S 8 j t) (hq : q ∈ gL S) (h : gG E M B pc' ls st (sfR S 276 j t (some q)) cs sl) : gG E M B pc ls (.inr q :: vR 8 j t :: st) S cs sl := g_putR (k := 8) (i := 20) (fty := (.array .int)) cf8 (by decide) (by rw [hM]; exact mG 730 (by decide +kernel) (by decide +kernel)) (by decide) rfl hin (by rw [hM]) (by decide +kernel) (fun _ => ⟨rfl, rfl⟩) d e hlv hq h
theorem ggX8_57 {j t : Nat} {q : gId} (hM : M.1.cls = RX8) (d : decode M.2.1 pc = .ok (.getfield 57, 3)) (e : pc + 3 = pc') (hlv : lv S 8 j t) (hq : fR S 277 j t = some q) (h : gG E M B pc' ls (.inr q :: st) S cs sl) : gG E M B pc ls (vR 8 j t :: st) S cs sl := g_getR (k := 8) (i := 21) cf8 (by decide) (by rw [hM]; exact mG 731 (by decide +kernel) (by decide +kernel)) (by decide) d e hlv hq h
theorem gpX8_57 {j t : Nat} {q : gId} (hM : M.1.cls = RX8) (hin : M.1.name = "<init>") (d : decode M.2.1 pc = .ok (.putfield 57, 3)) (e : pc + 3 = pc') (hlv : lv S 8 j t) (hq : q ∈ gL S) (h : gG E M B pc' ls st (sfR S 277 j t (some q)) cs sl) : gG E M B pc ls (.inr q :: vR 8 j t :: st) S cs sl := g_putR (k := 8) (i := 21) (fty := (.array .int)) cf8 (by decide) (by rw [hM]; exact mG 731 (by decide +kernel) (by decide +kernel)) (by decide) rfl hin (by rw [hM]) (by decide +kernel) (fun _ => ⟨rfl, rfl⟩) d e hlv hq h
theorem ggX8_60 {j t : Nat} {q : gId} (hM : M.1.cls = RX8) (d : decode M.2.1 pc = .ok (.getfield 60, 3)) (e : pc + 3 = pc') (hlv : lv S 8 j t) (hq : fR S 278 j t = some q) (h : gG E M B pc' ls (.inr q :: st) S cs sl) : gG E M B pc ls (vR 8 j t :: st) S cs sl := g_getR (k := 8) (i := 22) cf8 (by decide) (by rw [hM]; exact mG 732 (by decide +kernel) (by decide +kernel)) (by decide) d e hlv hq h
theorem gpX8_60 {j t : Nat} {q : gId} (hM : M.1.cls = RX8) (hin : M.1.name = "<init>") (d : decode M.2.1 pc = .ok (.putfield 60, 3)) (e : pc + 3 = pc') (hlv : lv S 8 j t) (hq : q ∈ gL S) (h : gG E M B pc' ls st (sfR S 278 j t (some q)) cs sl) : gG E M B pc ls (.inr q :: vR 8 j t :: st) S cs sl := g_putR (k := 8) (i := 22) (fty := (.array .int)) cf8 (by decide) (by rw [hM]; exact mG 732 (by decide +kernel) (by decide +kernel)) (by decide) rfl hin (by rw [hM]) (by decide +kernel) (fun _ => ⟨rfl, rfl⟩) d e hlv hq h
theorem ggX8_63 {j t : Nat} {q : gId} (hM : M.1.cls = RX8) (d : decode M.2.1 pc = .ok (.getfield 63, 3)) (e : pc + 3 = pc') (hlv : lv S 8 j t) (hq : fR S 280 j t = some q) (h : gG E M B pc' ls (.inr q :: st) S cs sl) : gG E M B pc ls (vR 8 j t :: st) S cs sl := g_getR (k := 8) (i := 24) cf8 (by decide) (by rw [hM]; exact mG 734 (by decide +kernel) (by decide +kernel)) (by decide) d e hlv hq h
theorem gpX8_63 {j t : Nat} {q : gId} (hM : M.1.cls = RX8) (hin : M.1.name = "<init>") (d : decode M.2.1 pc = .ok (.putfield 63, 3)) (e : pc + 3 = pc') (hlv : lv S 8 j t) (hq : q ∈ gL S) (h : gG E M B pc' ls st (sfR S 280 j t (some q)) cs sl) : gG E M B pc ls (.inr q :: vR 8 j t :: st) S cs sl := g_putR (k := 8) (i := 24) (fty := (.array .int)) cf8 (by decide) (by rw [hM]; exact mG 734 (by decide +kernel) (by decide +kernel)) (by decide) rfl hin (by rw [hM]) (by decide +kernel) (fun _ => ⟨rfl, rfl⟩) d e hlv hq h
theorem ggX8_66 {j t : Nat} (hM : M.1.cls = RX8) (d : decode M.2.1 pc = .ok (.getfield 66, 3)) (e : pc + 3 = pc') (hlv : lv S 8 j t) (h : gG E M B pc' ls (vI (fI S 256 j t) :: st) S cs sl) : gG E M B pc ls (vR 8 j t :: st) S cs sl := g_getI (k := 8) (i := 0) cf8 (by decide) (by rw [hM]; exact mG 710 (by decide +kernel) (by decide +kernel)) (by decide) d e hlv h
theorem gpX8_66 {j t : Nat} {x : Int32} (hM : M.1.cls = RX8) (d : decode M.2.1 pc = .ok (.putfield 66, 3)) (e : pc + 3 = pc') (hlv : lv S 8 j t) (h : gG E M B pc' ls st (sfI S 256 j t x) cs sl) : gG E M B pc ls (vI x :: vR 8 j t :: st) S cs sl := g_putI (k := 8) (i := 0) (fty := .int) cf8 (by decide) (by rw [hM]; exact mG 710 (by decide +kernel) (by decide +kernel)) (by decide) (Or.inl rfl) (by decide +kernel) rfl rfl d e hlv h
theorem ggX8_71 {j t : Nat} (hM : M.1.cls = RX8) (d : decode M.2.1 pc = .ok (.getfield 71, 3)) (e : pc + 3 = pc') (hlv : lv S 8 j t) (h : gG E M B pc' ls (vI (fI S 261 j t) :: st) S cs sl) : gG E M B pc ls (vR 8 j t :: st) S cs sl := g_getI (k := 8) (i := 5) cf8 (by decide) (by rw [hM]; exact mG 715 (by decide +kernel) (by decide +kernel)) (by decide) d e hlv h
theorem gpX8_71 {j t : Nat} {x : Int32} (hM : M.1.cls = RX8) (d : decode M.2.1 pc = .ok (.putfield 71, 3)) (e : pc + 3 = pc') (hlv : lv S 8 j t) (h : gG E M B pc' ls st (sfI S 261 j t x) cs sl) : gG E M B pc ls (vI x :: vR 8 j t :: st) S cs sl := g_putI (k := 8) (i := 5) (fty := .int) cf8 (by decide) (by rw [hM]; exact mG 715 (by decide +kernel) (by decide +kernel)) (by decide) (Or.inl rfl) (by decide +kernel) rfl rfl d e hlv h
theorem ggX8_98 {j t : Nat} (hM : M.1.cls = RX8) (d : decode M.2.1 pc = .ok (.getfield 98, 3)) (e : pc + 3 = pc') (hlv : lv S 8 j t) (h : gG E M B pc' ls (vI (fI S 264 j t) :: st) S cs sl) : gG E M B pc ls (vR 8 j t :: st) S cs sl := g_getI (k := 8) (i := 8) cf8 (by decide) (by rw [hM]; exact mG 718 (by decide +kernel) (by decide +kernel)) (by decide) d e hlv h
theorem gpX8_98 {j t : Nat} {x : Int32} (hM : M.1.cls = RX8) (d : decode M.2.1 pc = .ok (.putfield 98, 3)) (e : pc + 3 = pc') (hlv : lv S 8 j t) (h : gG E M B pc' ls st (sfI S 264 j t x) cs sl) : gG E M B pc ls (vI x :: vR 8 j t :: st) S cs sl := g_putI (k := 8) (i := 8) (fty := .int) cf8 (by decide) (by rw [hM]; exact mG 718 (by decide +kernel) (by decide +kernel)) (by decide) (Or.inl rfl) (by decide +kernel) rfl rfl d e hlv h
theorem ggX8_124 {j t : Nat} (hM : M.1.cls = RX8) (d : decode M.2.1 pc = .ok (.getfield 124, 3)) (e : pc + 3 = pc') (hlv : lv S 8 j t) (h : gG E M B pc' ls (vI (fI S 281 j t) :: st) S cs sl) : gG E M B pc ls (vR 8 j t :: st) S cs sl := g_getI (k := 8) (i := 25) cf8 (by decide) (by rw [hM]; exact mG 735 (by decide +kernel) (by decide +kernel)) (by decide) d e hlv h
theorem gpX8_124 {j t : Nat} {x : Int32} (hM : M.1.cls = RX8) (d : decode M.2.1 pc = .ok (.putfield 124, 3)) (e : pc + 3 = pc') (hlv : lv S 8 j t) (h : gG E M B pc' ls st (sfI S 281 j t x) cs sl) : gG E M B pc ls (vI x :: vR 8 j t :: st) S cs sl := g_putI (k := 8) (i := 25) (fty := .int) cf8 (by decide) (by rw [hM]; exact mG 735 (by decide +kernel) (by decide +kernel)) (by decide) (Or.inl rfl) (by decide +kernel) rfl rfl d e hlv h
theorem ggX8_127 {j t : Nat} (hM : M.1.cls = RX8) (d : decode M.2.1 pc = .ok (.getfield 127, 3)) (e : pc + 3 = pc') (hlv : lv S 8 j t) (h : gG E M B pc' ls (vI (fI S 282 j t) :: st) S cs sl) : gG E M B pc ls (vR 8 j t :: st) S cs sl := g_getI (k := 8) (i := 26) cf8 (by decide) (by rw [hM]; exact mG 736 (by decide +kernel) (by decide +kernel)) (by decide) d e hlv h
theorem gpX8_127 {j t : Nat} {x : Int32} (hM : M.1.cls = RX8) (d : decode M.2.1 pc = .ok (.putfield 127, 3)) (e : pc + 3 = pc') (hlv : lv S 8 j t) (h : gG E M B pc' ls st (sfI S 282 j t x) cs sl) : gG E M B pc ls (vI x :: vR 8 j t :: st) S cs sl := g_putI (k := 8) (i := 26) (fty := .int) cf8 (by decide) (by rw [hM]; exact mG 736 (by decide +kernel) (by decide +kernel)) (by decide) (Or.inl rfl) (by decide +kernel) rfl rfl d e hlv h
theorem ggX8_133 {j t : Nat} (hM : M.1.cls = RX8) (d : decode M.2.1 pc = .ok (.getfield 133, 3)) (e : pc + 3 = pc') (hlv : lv S 8 j t) (h : gG E M B pc' ls (vI (fI S 283 j t) :: st) S cs sl) : gG E M B pc ls (vR 8 j t :: st) S cs sl := g_getI (k := 8) (i := 27) cf8 (by decide) (by rw [hM]; exact mG 737 (by decide +kernel) (by decide +kernel)) (by decide) d e hlv h
theorem gpX8_133 {j t : Nat} {x : Int32} (hM : M.1.cls = RX8) (d : decode M.2.1 pc = .ok (.putfield 133, 3)) (e : pc + 3 = pc') (hlv : lv S 8 j t) (h : gG E M B pc' ls st (sfI S 283 j t x) cs sl) : gG E M B pc ls (vI x :: vR 8 j t :: st) S cs sl := g_putI (k := 8) (i := 27) (fty := .int) cf8 (by decide) (by rw [hM]; exact mG 737 (by decide +kernel) (by decide +kernel)) (by decide) (Or.inl rfl) (by decide +kernel) rfl rfl d e hlv h
theorem ggX8_170 {j t : Nat} (hM : M.1.cls = RX8) (d : decode M.2.1 pc = .ok (.getfield 170, 3)) (e : pc + 3 = pc') (hlv : lv S 8 j t) (h : gG E M B pc' ls (vI (fI S 279 j t) :: st) S cs sl) : gG E M B pc ls (vR 8 j t :: st) S cs sl := g_getI (k := 8) (i := 23) cf8 (by decide) (by rw [hM]; exact mG 733 (by decide +kernel) (by decide +kernel)) (by decide) d e hlv h
theorem gpX8_170 {j t : Nat} {x : Int32} (hM : M.1.cls = RX8) (d : decode M.2.1 pc = .ok (.putfield 170, 3)) (e : pc + 3 = pc') (hlv : lv S 8 j t) (h : gG E M B pc' ls st (sfI S 279 j t x) cs sl) : gG E M B pc ls (vI x :: vR 8 j t :: st) S cs sl := g_putI (k := 8) (i := 23) (fty := .int) cf8 (by decide) (by rw [hM]; exact mG 733 (by decide +kernel) (by decide +kernel)) (by decide) (Or.inl rfl) (by decide +kernel) rfl rfl d e hlv h
theorem ggX8_173 {j t : Nat} (hM : M.1.cls = RX8) (d : decode M.2.1 pc = .ok (.getfield 173, 3)) (e : pc + 3 = pc') (hlv : lv S 8 j t) (h : gG E M B pc' ls (vI (fI S 257 j t) :: st) S cs sl) : gG E M B pc ls (vR 8 j t :: st) S cs sl := g_getI (k := 8) (i := 1) cf8 (by decide) (by rw [hM]; exact mG 711 (by decide +kernel) (by decide +kernel)) (by decide) d e hlv h
theorem gpX8_173 {j t : Nat} {x : Int32} (hM : M.1.cls = RX8) (d : decode M.2.1 pc = .ok (.putfield 173, 3)) (e : pc + 3 = pc') (hlv : lv S 8 j t) (h : gG E M B pc' ls st (sfI S 257 j t x) cs sl) : gG E M B pc ls (vI x :: vR 8 j t :: st) S cs sl := g_putI (k := 8) (i := 1) (fty := .int) cf8 (by decide) (by rw [hM]; exact mG 711 (by decide +kernel) (by decide +kernel)) (by decide) (Or.inl rfl) (by decide +kernel) rfl rfl d e hlv h
theorem ggX8_193 {j t : Nat} (hM : M.1.cls = RX8) (d : decode M.2.1 pc = .ok (.getfield 193, 3)) (e : pc + 3 = pc') (hlv : lv S 8 j t) (h : gG E M B pc' ls (vI (fI S 259 j t) :: st) S cs sl) : gG E M B pc ls (vR 8 j t :: st) S cs sl := g_getI (k := 8) (i := 3) cf8 (by decide) (by rw [hM]; exact mG 713 (by decide +kernel) (by decide +kernel)) (by decide) d e hlv h
theorem gpX8_193 {j t : Nat} {x : Int32} (hM : M.1.cls = RX8) (d : decode M.2.1 pc = .ok (.putfield 193, 3)) (e : pc + 3 = pc') (hlv : lv S 8 j t) (hz : x = 0 ∨ x = 1) (h : gG E M B pc' ls st (sfI S 259 j t x) cs sl) : gG E M B pc ls (vI x :: vR 8 j t :: st) S cs sl := g_putI (k := 8) (i := 3) (fty := .boolean) cf8 (by decide) (by rw [hM]; exact mG 713 (by decide +kernel) (by decide +kernel)) (by decide) (Or.inl rfl) (by decide +kernel) (gz_n hz) (gz_f hz) d e hlv h
theorem ggX8_214 {j t : Nat} (hM : M.1.cls = RX8) (d : decode M.2.1 pc = .ok (.getfield 214, 3)) (e : pc + 3 = pc') (hlv : lv S 8 j t) (h : gG E M B pc' ls (vI (fI S 260 j t) :: st) S cs sl) : gG E M B pc ls (vR 8 j t :: st) S cs sl := g_getI (k := 8) (i := 4) cf8 (by decide) (by rw [hM]; exact mG 714 (by decide +kernel) (by decide +kernel)) (by decide) d e hlv h
theorem gpX8_214 {j t : Nat} {x : Int32} (hM : M.1.cls = RX8) (d : decode M.2.1 pc = .ok (.putfield 214, 3)) (e : pc + 3 = pc') (hlv : lv S 8 j t) (h : gG E M B pc' ls st (sfI S 260 j t x) cs sl) : gG E M B pc ls (vI x :: vR 8 j t :: st) S cs sl := g_putI (k := 8) (i := 4) (fty := .int) cf8 (by decide) (by rw [hM]; exact mG 714 (by decide +kernel) (by decide +kernel)) (by decide) (Or.inl rfl) (by decide +kernel) rfl rfl d e hlv h
end GFLD
section GLOC
variable {E : gE} {M : gM} {B : gB} {pc pc' : Nat} {st rest : List gV} {S : gS} {cs sl : Nat}
theorem gistore0 {y : Option gV} {r : List (Option gV)} {v : Int32} (d : decode M.2.1 pc = .ok (.istore 0, 2)) (e : pc + 2 = pc') (hn : 0 < M.2.2.1) (hk : gsok (y :: r) 0 = true) (h : gG E M B pc' (some (vI v) :: r) st S cs sl) : gG E M B pc (y :: r) (vI v :: st) S cs sl := g_istore (k := 0) d e hn hk h
theorem gistore_n0 {y : Option gV} {r : List (Option gV)} {v : Int32} (d : decode M.2.1 pc = .ok (.istore_n 0, 1)) (e : pc + 1 = pc') (hn : 0 < M.2.2.1) (hk : gsok (y :: r) 0 = true) (h : gG E M B pc' (some (vI v) :: r) st S cs sl) : gG E M B pc (y :: r) (vI v :: st) S cs sl := g_istore_n (k := 0) d e hn hk h
theorem gastore0 {y : Option gV} {r : List (Option gV)} {v : gId} (d : decode M.2.1 pc = .ok (.astore 0, 2)) (e : pc + 2 = pc') (hn : 0 < M.2.2.1) (hk : gsok (y :: r) 0 = true) (h : gG E M B pc' (some (.inr v) :: r) st S cs sl) : gG E M B pc (y :: r) (.inr v :: st) S cs sl := g_astore (k := 0) d e hn hk h
theorem gastore_n0 {y : Option gV} {r : List (Option gV)} {v : gId} (d : decode M.2.1 pc = .ok (.astore_n 0, 1)) (e : pc + 1 = pc') (hn : 0 < M.2.2.1) (hk : gsok (y :: r) 0 = true) (h : gG E M B pc' (some (.inr v) :: r) st S cs sl) : gG E M B pc (y :: r) (.inr v :: st) S cs sl := g_astore_n (k := 0) d e hn hk h
theorem giinc0 {r : List (Option gV)} {v c : Int32} {n : Int} (d : decode M.2.1 pc = .ok (.iinc 0 n, 3)) (e : pc + 3 = pc') (hc : Int32.ofInt n = c) (hn : 0 < M.2.2.1) (hk : gsok (some (vI v) :: r) 0 = true) (h : gG E M B pc' (some (vI (v + c)) :: r) st S cs sl) : gG E M B pc (some (vI v) :: r) st S cs sl := g_iinc (k := 0) (v := v + c) d e rfl (by rw [hc]) hn hk h
theorem gistore1 {x0 : Option gV} {y : Option gV} {r : List (Option gV)} {v : Int32} (d : decode M.2.1 pc = .ok (.istore 1, 2)) (e : pc + 2 = pc') (hn : 1 < M.2.2.1) (hk : gsok (x0 :: y :: r) 1 = true) (h : gG E M B pc' (x0 :: some (vI v) :: r) st S cs sl) : gG E M B pc (x0 :: y :: r) (vI v :: st) S cs sl := g_istore (k := 1) d e hn hk h
theorem gistore_n1 {x0 : Option gV} {y : Option gV} {r : List (Option gV)} {v : Int32} (d : decode M.2.1 pc = .ok (.istore_n 1, 1)) (e : pc + 1 = pc') (hn : 1 < M.2.2.1) (hk : gsok (x0 :: y :: r) 1 = true) (h : gG E M B pc' (x0 :: some (vI v) :: r) st S cs sl) : gG E M B pc (x0 :: y :: r) (vI v :: st) S cs sl := g_istore_n (k := 1) d e hn hk h
theorem gastore1 {x0 : Option gV} {y : Option gV} {r : List (Option gV)} {v : gId} (d : decode M.2.1 pc = .ok (.astore 1, 2)) (e : pc + 2 = pc') (hn : 1 < M.2.2.1) (hk : gsok (x0 :: y :: r) 1 = true) (h : gG E M B pc' (x0 :: some (.inr v) :: r) st S cs sl) : gG E M B pc (x0 :: y :: r) (.inr v :: st) S cs sl := g_astore (k := 1) d e hn hk h
theorem gastore_n1 {x0 : Option gV} {y : Option gV} {r : List (Option gV)} {v : gId} (d : decode M.2.1 pc = .ok (.astore_n 1, 1)) (e : pc + 1 = pc') (hn : 1 < M.2.2.1) (hk : gsok (x0 :: y :: r) 1 = true) (h : gG E M B pc' (x0 :: some (.inr v) :: r) st S cs sl) : gG E M B pc (x0 :: y :: r) (.inr v :: st) S cs sl := g_astore_n (k := 1) d e hn hk h
theorem giinc1 {x0 : Option gV} {r : List (Option gV)} {v c : Int32} {n : Int} (d : decode M.2.1 pc = .ok (.iinc 1 n, 3)) (e : pc + 3 = pc') (hc : Int32.ofInt n = c) (hn : 1 < M.2.2.1) (hk : gsok (x0 :: some (vI v) :: r) 1 = true) (h : gG E M B pc' (x0 :: some (vI (v + c)) :: r) st S cs sl) : gG E M B pc (x0 :: some (vI v) :: r) st S cs sl := g_iinc (k := 1) (v := v + c) d e rfl (by rw [hc]) hn hk h
theorem gistore2 {x0 x1 : Option gV} {y : Option gV} {r : List (Option gV)} {v : Int32} (d : decode M.2.1 pc = .ok (.istore 2, 2)) (e : pc + 2 = pc') (hn : 2 < M.2.2.1) (hk : gsok (x0 :: x1 :: y :: r) 2 = true) (h : gG E M B pc' (x0 :: x1 :: some (vI v) :: r) st S cs sl) : gG E M B pc (x0 :: x1 :: y :: r) (vI v :: st) S cs sl := g_istore (k := 2) d e hn hk h
theorem gistore_n2 {x0 x1 : Option gV} {y : Option gV} {r : List (Option gV)} {v : Int32} (d : decode M.2.1 pc = .ok (.istore_n 2, 1)) (e : pc + 1 = pc') (hn : 2 < M.2.2.1) (hk : gsok (x0 :: x1 :: y :: r) 2 = true) (h : gG E M B pc' (x0 :: x1 :: some (vI v) :: r) st S cs sl) : gG E M B pc (x0 :: x1 :: y :: r) (vI v :: st) S cs sl := g_istore_n (k := 2) d e hn hk h
theorem gastore2 {x0 x1 : Option gV} {y : Option gV} {r : List (Option gV)} {v : gId} (d : decode M.2.1 pc = .ok (.astore 2, 2)) (e : pc + 2 = pc') (hn : 2 < M.2.2.1) (hk : gsok (x0 :: x1 :: y :: r) 2 = true) (h : gG E M B pc' (x0 :: x1 :: some (.inr v) :: r) st S cs sl) : gG E M B pc (x0 :: x1 :: y :: r) (.inr v :: st) S cs sl := g_astore (k := 2) d e hn hk h
theorem gastore_n2 {x0 x1 : Option gV} {y : Option gV} {r : List (Option gV)} {v : gId} (d : decode M.2.1 pc = .ok (.astore_n 2, 1)) (e : pc + 1 = pc') (hn : 2 < M.2.2.1) (hk : gsok (x0 :: x1 :: y :: r) 2 = true) (h : gG E M B pc' (x0 :: x1 :: some (.inr v) :: r) st S cs sl) : gG E M B pc (x0 :: x1 :: y :: r) (.inr v :: st) S cs sl := g_astore_n (k := 2) d e hn hk h
theorem giinc2 {x0 x1 : Option gV} {r : List (Option gV)} {v c : Int32} {n : Int} (d : decode M.2.1 pc = .ok (.iinc 2 n, 3)) (e : pc + 3 = pc') (hc : Int32.ofInt n = c) (hn : 2 < M.2.2.1) (hk : gsok (x0 :: x1 :: some (vI v) :: r) 2 = true) (h : gG E M B pc' (x0 :: x1 :: some (vI (v + c)) :: r) st S cs sl) : gG E M B pc (x0 :: x1 :: some (vI v) :: r) st S cs sl := g_iinc (k := 2) (v := v + c) d e rfl (by rw [hc]) hn hk h
theorem gistore3 {x0 x1 x2 : Option gV} {y : Option gV} {r : List (Option gV)} {v : Int32} (d : decode M.2.1 pc = .ok (.istore 3, 2)) (e : pc + 2 = pc') (hn : 3 < M.2.2.1) (hk : gsok (x0 :: x1 :: x2 :: y :: r) 3 = true) (h : gG E M B pc' (x0 :: x1 :: x2 :: some (vI v) :: r) st S cs sl) : gG E M B pc (x0 :: x1 :: x2 :: y :: r) (vI v :: st) S cs sl := g_istore (k := 3) d e hn hk h
theorem gistore_n3 {x0 x1 x2 : Option gV} {y : Option gV} {r : List (Option gV)} {v : Int32} (d : decode M.2.1 pc = .ok (.istore_n 3, 1)) (e : pc + 1 = pc') (hn : 3 < M.2.2.1) (hk : gsok (x0 :: x1 :: x2 :: y :: r) 3 = true) (h : gG E M B pc' (x0 :: x1 :: x2 :: some (vI v) :: r) st S cs sl) : gG E M B pc (x0 :: x1 :: x2 :: y :: r) (vI v :: st) S cs sl := g_istore_n (k := 3) d e hn hk h
theorem gastore3 {x0 x1 x2 : Option gV} {y : Option gV} {r : List (Option gV)} {v : gId} (d : decode M.2.1 pc = .ok (.astore 3, 2)) (e : pc + 2 = pc') (hn : 3 < M.2.2.1) (hk : gsok (x0 :: x1 :: x2 :: y :: r) 3 = true) (h : gG E M B pc' (x0 :: x1 :: x2 :: some (.inr v) :: r) st S cs sl) : gG E M B pc (x0 :: x1 :: x2 :: y :: r) (.inr v :: st) S cs sl := g_astore (k := 3) d e hn hk h
theorem gastore_n3 {x0 x1 x2 : Option gV} {y : Option gV} {r : List (Option gV)} {v : gId} (d : decode M.2.1 pc = .ok (.astore_n 3, 1)) (e : pc + 1 = pc') (hn : 3 < M.2.2.1) (hk : gsok (x0 :: x1 :: x2 :: y :: r) 3 = true) (h : gG E M B pc' (x0 :: x1 :: x2 :: some (.inr v) :: r) st S cs sl) : gG E M B pc (x0 :: x1 :: x2 :: y :: r) (.inr v :: st) S cs sl := g_astore_n (k := 3) d e hn hk h
theorem giinc3 {x0 x1 x2 : Option gV} {r : List (Option gV)} {v c : Int32} {n : Int} (d : decode M.2.1 pc = .ok (.iinc 3 n, 3)) (e : pc + 3 = pc') (hc : Int32.ofInt n = c) (hn : 3 < M.2.2.1) (hk : gsok (x0 :: x1 :: x2 :: some (vI v) :: r) 3 = true) (h : gG E M B pc' (x0 :: x1 :: x2 :: some (vI (v + c)) :: r) st S cs sl) : gG E M B pc (x0 :: x1 :: x2 :: some (vI v) :: r) st S cs sl := g_iinc (k := 3) (v := v + c) d e rfl (by rw [hc]) hn hk h
theorem gistore4 {x0 x1 x2 x3 : Option gV} {y : Option gV} {r : List (Option gV)} {v : Int32} (d : decode M.2.1 pc = .ok (.istore 4, 2)) (e : pc + 2 = pc') (hn : 4 < M.2.2.1) (hk : gsok (x0 :: x1 :: x2 :: x3 :: y :: r) 4 = true) (h : gG E M B pc' (x0 :: x1 :: x2 :: x3 :: some (vI v) :: r) st S cs sl) : gG E M B pc (x0 :: x1 :: x2 :: x3 :: y :: r) (vI v :: st) S cs sl := g_istore (k := 4) d e hn hk h
theorem gastore4 {x0 x1 x2 x3 : Option gV} {y : Option gV} {r : List (Option gV)} {v : gId} (d : decode M.2.1 pc = .ok (.astore 4, 2)) (e : pc + 2 = pc') (hn : 4 < M.2.2.1) (hk : gsok (x0 :: x1 :: x2 :: x3 :: y :: r) 4 = true) (h : gG E M B pc' (x0 :: x1 :: x2 :: x3 :: some (.inr v) :: r) st S cs sl) : gG E M B pc (x0 :: x1 :: x2 :: x3 :: y :: r) (.inr v :: st) S cs sl := g_astore (k := 4) d e hn hk h
theorem giinc4 {x0 x1 x2 x3 : Option gV} {r : List (Option gV)} {v c : Int32} {n : Int} (d : decode M.2.1 pc = .ok (.iinc 4 n, 3)) (e : pc + 3 = pc') (hc : Int32.ofInt n = c) (hn : 4 < M.2.2.1) (hk : gsok (x0 :: x1 :: x2 :: x3 :: some (vI v) :: r) 4 = true) (h : gG E M B pc' (x0 :: x1 :: x2 :: x3 :: some (vI (v + c)) :: r) st S cs sl) : gG E M B pc (x0 :: x1 :: x2 :: x3 :: some (vI v) :: r) st S cs sl := g_iinc (k := 4) (v := v + c) d e rfl (by rw [hc]) hn hk h
theorem gistore5 {x0 x1 x2 x3 x4 : Option gV} {y : Option gV} {r : List (Option gV)} {v : Int32} (d : decode M.2.1 pc = .ok (.istore 5, 2)) (e : pc + 2 = pc') (hn : 5 < M.2.2.1) (hk : gsok (x0 :: x1 :: x2 :: x3 :: x4 :: y :: r) 5 = true) (h : gG E M B pc' (x0 :: x1 :: x2 :: x3 :: x4 :: some (vI v) :: r) st S cs sl) : gG E M B pc (x0 :: x1 :: x2 :: x3 :: x4 :: y :: r) (vI v :: st) S cs sl := g_istore (k := 5) d e hn hk h
theorem gastore5 {x0 x1 x2 x3 x4 : Option gV} {y : Option gV} {r : List (Option gV)} {v : gId} (d : decode M.2.1 pc = .ok (.astore 5, 2)) (e : pc + 2 = pc') (hn : 5 < M.2.2.1) (hk : gsok (x0 :: x1 :: x2 :: x3 :: x4 :: y :: r) 5 = true) (h : gG E M B pc' (x0 :: x1 :: x2 :: x3 :: x4 :: some (.inr v) :: r) st S cs sl) : gG E M B pc (x0 :: x1 :: x2 :: x3 :: x4 :: y :: r) (.inr v :: st) S cs sl := g_astore (k := 5) d e hn hk h
theorem giinc5 {x0 x1 x2 x3 x4 : Option gV} {r : List (Option gV)} {v c : Int32} {n : Int} (d : decode M.2.1 pc = .ok (.iinc 5 n, 3)) (e : pc + 3 = pc') (hc : Int32.ofInt n = c) (hn : 5 < M.2.2.1) (hk : gsok (x0 :: x1 :: x2 :: x3 :: x4 :: some (vI v) :: r) 5 = true) (h : gG E M B pc' (x0 :: x1 :: x2 :: x3 :: x4 :: some (vI (v + c)) :: r) st S cs sl) : gG E M B pc (x0 :: x1 :: x2 :: x3 :: x4 :: some (vI v) :: r) st S cs sl := g_iinc (k := 5) (v := v + c) d e rfl (by rw [hc]) hn hk h
theorem gistore6 {x0 x1 x2 x3 x4 x5 : Option gV} {y : Option gV} {r : List (Option gV)} {v : Int32} (d : decode M.2.1 pc = .ok (.istore 6, 2)) (e : pc + 2 = pc') (hn : 6 < M.2.2.1) (hk : gsok (x0 :: x1 :: x2 :: x3 :: x4 :: x5 :: y :: r) 6 = true) (h : gG E M B pc' (x0 :: x1 :: x2 :: x3 :: x4 :: x5 :: some (vI v) :: r) st S cs sl) : gG E M B pc (x0 :: x1 :: x2 :: x3 :: x4 :: x5 :: y :: r) (vI v :: st) S cs sl := g_istore (k := 6) d e hn hk h
theorem gastore6 {x0 x1 x2 x3 x4 x5 : Option gV} {y : Option gV} {r : List (Option gV)} {v : gId} (d : decode M.2.1 pc = .ok (.astore 6, 2)) (e : pc + 2 = pc') (hn : 6 < M.2.2.1) (hk : gsok (x0 :: x1 :: x2 :: x3 :: x4 :: x5 :: y :: r) 6 = true) (h : gG E M B pc' (x0 :: x1 :: x2 :: x3 :: x4 :: x5 :: some (.inr v) :: r) st S cs sl) : gG E M B pc (x0 :: x1 :: x2 :: x3 :: x4 :: x5 :: y :: r) (.inr v :: st) S cs sl := g_astore (k := 6) d e hn hk h
theorem giinc6 {x0 x1 x2 x3 x4 x5 : Option gV} {r : List (Option gV)} {v c : Int32} {n : Int} (d : decode M.2.1 pc = .ok (.iinc 6 n, 3)) (e : pc + 3 = pc') (hc : Int32.ofInt n = c) (hn : 6 < M.2.2.1) (hk : gsok (x0 :: x1 :: x2 :: x3 :: x4 :: x5 :: some (vI v) :: r) 6 = true) (h : gG E M B pc' (x0 :: x1 :: x2 :: x3 :: x4 :: x5 :: some (vI (v + c)) :: r) st S cs sl) : gG E M B pc (x0 :: x1 :: x2 :: x3 :: x4 :: x5 :: some (vI v) :: r) st S cs sl := g_iinc (k := 6) (v := v + c) d e rfl (by rw [hc]) hn hk h
theorem gistore7 {x0 x1 x2 x3 x4 x5 x6 : Option gV} {y : Option gV} {r : List (Option gV)} {v : Int32} (d : decode M.2.1 pc = .ok (.istore 7, 2)) (e : pc + 2 = pc') (hn : 7 < M.2.2.1) (hk : gsok (x0 :: x1 :: x2 :: x3 :: x4 :: x5 :: x6 :: y :: r) 7 = true) (h : gG E M B pc' (x0 :: x1 :: x2 :: x3 :: x4 :: x5 :: x6 :: some (vI v) :: r) st S cs sl) : gG E M B pc (x0 :: x1 :: x2 :: x3 :: x4 :: x5 :: x6 :: y :: r) (vI v :: st) S cs sl := g_istore (k := 7) d e hn hk h
theorem gastore7 {x0 x1 x2 x3 x4 x5 x6 : Option gV} {y : Option gV} {r : List (Option gV)} {v : gId} (d : decode M.2.1 pc = .ok (.astore 7, 2)) (e : pc + 2 = pc') (hn : 7 < M.2.2.1) (hk : gsok (x0 :: x1 :: x2 :: x3 :: x4 :: x5 :: x6 :: y :: r) 7 = true) (h : gG E M B pc' (x0 :: x1 :: x2 :: x3 :: x4 :: x5 :: x6 :: some (.inr v) :: r) st S cs sl) : gG E M B pc (x0 :: x1 :: x2 :: x3 :: x4 :: x5 :: x6 :: y :: r) (.inr v :: st) S cs sl := g_astore (k := 7) d e hn hk h
theorem giinc7 {x0 x1 x2 x3 x4 x5 x6 : Option gV} {r : List (Option gV)} {v c : Int32} {n : Int} (d : decode M.2.1 pc = .ok (.iinc 7 n, 3)) (e : pc + 3 = pc') (hc : Int32.ofInt n = c) (hn : 7 < M.2.2.1) (hk : gsok (x0 :: x1 :: x2 :: x3 :: x4 :: x5 :: x6 :: some (vI v) :: r) 7 = true) (h : gG E M B pc' (x0 :: x1 :: x2 :: x3 :: x4 :: x5 :: x6 :: some (vI (v + c)) :: r) st S cs sl) : gG E M B pc (x0 :: x1 :: x2 :: x3 :: x4 :: x5 :: x6 :: some (vI v) :: r) st S cs sl := g_iinc (k := 7) (v := v + c) d e rfl (by rw [hc]) hn hk h
theorem gistore8 {x0 x1 x2 x3 x4 x5 x6 x7 : Option gV} {y : Option gV} {r : List (Option gV)} {v : Int32} (d : decode M.2.1 pc = .ok (.istore 8, 2)) (e : pc + 2 = pc') (hn : 8 < M.2.2.1) (hk : gsok (x0 :: x1 :: x2 :: x3 :: x4 :: x5 :: x6 :: x7 :: y :: r) 8 = true) (h : gG E M B pc' (x0 :: x1 :: x2 :: x3 :: x4 :: x5 :: x6 :: x7 :: some (vI v) :: r) st S cs sl) : gG E M B pc (x0 :: x1 :: x2 :: x3 :: x4 :: x5 :: x6 :: x7 :: y :: r) (vI v :: st) S cs sl := g_istore (k := 8) d e hn hk h
theorem gastore8 {x0 x1 x2 x3 x4 x5 x6 x7 : Option gV} {y : Option gV} {r : List (Option gV)} {v : gId} (d : decode M.2.1 pc = .ok (.astore 8, 2)) (e : pc + 2 = pc') (hn : 8 < M.2.2.1) (hk : gsok (x0 :: x1 :: x2 :: x3 :: x4 :: x5 :: x6 :: x7 :: y :: r) 8 = true) (h : gG E M B pc' (x0 :: x1 :: x2 :: x3 :: x4 :: x5 :: x6 :: x7 :: some (.inr v) :: r) st S cs sl) : gG E M B pc (x0 :: x1 :: x2 :: x3 :: x4 :: x5 :: x6 :: x7 :: y :: r) (.inr v :: st) S cs sl := g_astore (k := 8) d e hn hk h
theorem giinc8 {x0 x1 x2 x3 x4 x5 x6 x7 : Option gV} {r : List (Option gV)} {v c : Int32} {n : Int} (d : decode M.2.1 pc = .ok (.iinc 8 n, 3)) (e : pc + 3 = pc') (hc : Int32.ofInt n = c) (hn : 8 < M.2.2.1) (hk : gsok (x0 :: x1 :: x2 :: x3 :: x4 :: x5 :: x6 :: x7 :: some (vI v) :: r) 8 = true) (h : gG E M B pc' (x0 :: x1 :: x2 :: x3 :: x4 :: x5 :: x6 :: x7 :: some (vI (v + c)) :: r) st S cs sl) : gG E M B pc (x0 :: x1 :: x2 :: x3 :: x4 :: x5 :: x6 :: x7 :: some (vI v) :: r) st S cs sl := g_iinc (k := 8) (v := v + c) d e rfl (by rw [hc]) hn hk h
variable {ls : List (Option gV)}
theorem gNo_nil {v : gV} : gNo [] v := by
  rcases v with w | q
  · trivial
  · exact List.not_mem_nil
theorem gcv0 {My : gM} {d idx : Nat} {q : gId} {T : u_T} {N : Nat} {ty : Nat → FieldType} (cw : gCV M.1.cls idx My 0) (cf : gCF q.1 My.1.cls T N ty) (hd : decode M.2.1 pc = .ok (.invokevirtual idx, 3)) (e : pc + 3 = pc') (hlv : q ∈ gL S) (hR : d + 1 ≤ (bR B).frames) (hR2 : 8 + (My.2.2.1 + 11) + 28 * d ≤ (bR B).locals) (hrest : (rest.map gcat).sum ≤ 8) (hc : cs ≤ bC B) (hs : sl ≤ bS B) (hrun : gRun E My d 0 0 [.inr q] S [] (fun r S' => gG E M B pc' ls (gpush r rest) S' cs sl)) : gG E M B pc ls (.inr q :: rest) S cs sl := g_callV (as := []) cw cf hd e rfl rfl hlv hR hR2 hrest (fun _ _ => gNo_nil) (fun _ _ => gNo_nil) (fun _ h => absurd h List.not_mem_nil) hc hs hrun
theorem gcs0 {My : gM} {d idx : Nat} (cw : gCS M.1.cls idx My 0) (hd : decode M.2.1 pc = .ok (.invokestatic idx, 3)) (e : pc + 3 = pc') (hR : d + 1 ≤ (bR B).frames) (hR2 : 8 + (My.2.2.1 + 11) + 28 * d ≤ (bR B).locals) (hrest : (rest.map gcat).sum ≤ 8) (hc : cs ≤ bC B) (hs : sl ≤ bS B) (hrun : gRun E My d 0 0 [] S [] (fun r S' => gG E M B pc' ls (gpush r rest) S' cs sl)) : gG E M B pc ls (rest) S cs sl := g_callS (as := []) cw hd e rfl rfl hR hR2 hrest (fun _ _ => gNo_nil) (fun _ _ => gNo_nil) (fun _ h => absurd h List.not_mem_nil) hc hs hrun
theorem gcv1 {My : gM} {d idx : Nat} {q : gId} {a0 : gV} {T : u_T} {N : Nat} {ty : Nat → FieldType} (cw : gCV M.1.cls idx My 1) (cf : gCF q.1 My.1.cls T N ty) (hd : decode M.2.1 pc = .ok (.invokevirtual idx, 3)) (e : pc + 3 = pc') (hlv : q ∈ gL S) (hR : d + 1 ≤ (bR B).frames) (hR2 : 8 + (My.2.2.1 + 11) + 28 * d ≤ (bR B).locals) (hrest : (rest.map gcat).sum ≤ 8) (hc : cs ≤ bC B) (hs : sl ≤ bS B) (hrun : gRun E My d 0 0 [.inr q, a0] S [] (fun r S' => gG E M B pc' ls (gpush r rest) S' cs sl)) : gG E M B pc ls (a0 :: .inr q :: rest) S cs sl := g_callV (as := [a0]) cw cf hd e rfl rfl hlv hR hR2 hrest (fun _ _ => gNo_nil) (fun _ _ => gNo_nil) (fun _ h => absurd h List.not_mem_nil) hc hs hrun
theorem gcs1 {My : gM} {d idx : Nat} {a0 : gV} (cw : gCS M.1.cls idx My 1) (hd : decode M.2.1 pc = .ok (.invokestatic idx, 3)) (e : pc + 3 = pc') (hR : d + 1 ≤ (bR B).frames) (hR2 : 8 + (My.2.2.1 + 11) + 28 * d ≤ (bR B).locals) (hrest : (rest.map gcat).sum ≤ 8) (hc : cs ≤ bC B) (hs : sl ≤ bS B) (hrun : gRun E My d 0 0 [a0] S [] (fun r S' => gG E M B pc' ls (gpush r rest) S' cs sl)) : gG E M B pc ls (a0 :: rest) S cs sl := g_callS (as := [a0]) cw hd e rfl rfl hR hR2 hrest (fun _ _ => gNo_nil) (fun _ _ => gNo_nil) (fun _ h => absurd h List.not_mem_nil) hc hs hrun
theorem gcv2 {My : gM} {d idx : Nat} {q : gId} {a0 a1 : gV} {T : u_T} {N : Nat} {ty : Nat → FieldType} (cw : gCV M.1.cls idx My 2) (cf : gCF q.1 My.1.cls T N ty) (hd : decode M.2.1 pc = .ok (.invokevirtual idx, 3)) (e : pc + 3 = pc') (hlv : q ∈ gL S) (hR : d + 1 ≤ (bR B).frames) (hR2 : 8 + (My.2.2.1 + 11) + 28 * d ≤ (bR B).locals) (hrest : (rest.map gcat).sum ≤ 8) (hc : cs ≤ bC B) (hs : sl ≤ bS B) (hrun : gRun E My d 0 0 [.inr q, a0, a1] S [] (fun r S' => gG E M B pc' ls (gpush r rest) S' cs sl)) : gG E M B pc ls (a1 :: a0 :: .inr q :: rest) S cs sl := g_callV (as := [a0, a1]) cw cf hd e rfl rfl hlv hR hR2 hrest (fun _ _ => gNo_nil) (fun _ _ => gNo_nil) (fun _ h => absurd h List.not_mem_nil) hc hs hrun
theorem gcs2 {My : gM} {d idx : Nat} {a0 a1 : gV} (cw : gCS M.1.cls idx My 2) (hd : decode M.2.1 pc = .ok (.invokestatic idx, 3)) (e : pc + 3 = pc') (hR : d + 1 ≤ (bR B).frames) (hR2 : 8 + (My.2.2.1 + 11) + 28 * d ≤ (bR B).locals) (hrest : (rest.map gcat).sum ≤ 8) (hc : cs ≤ bC B) (hs : sl ≤ bS B) (hrun : gRun E My d 0 0 [a0, a1] S [] (fun r S' => gG E M B pc' ls (gpush r rest) S' cs sl)) : gG E M B pc ls (a1 :: a0 :: rest) S cs sl := g_callS (as := [a0, a1]) cw hd e rfl rfl hR hR2 hrest (fun _ _ => gNo_nil) (fun _ _ => gNo_nil) (fun _ h => absurd h List.not_mem_nil) hc hs hrun
theorem gcv3 {My : gM} {d idx : Nat} {q : gId} {a0 a1 a2 : gV} {T : u_T} {N : Nat} {ty : Nat → FieldType} (cw : gCV M.1.cls idx My 3) (cf : gCF q.1 My.1.cls T N ty) (hd : decode M.2.1 pc = .ok (.invokevirtual idx, 3)) (e : pc + 3 = pc') (hlv : q ∈ gL S) (hR : d + 1 ≤ (bR B).frames) (hR2 : 8 + (My.2.2.1 + 11) + 28 * d ≤ (bR B).locals) (hrest : (rest.map gcat).sum ≤ 8) (hc : cs ≤ bC B) (hs : sl ≤ bS B) (hrun : gRun E My d 0 0 [.inr q, a0, a1, a2] S [] (fun r S' => gG E M B pc' ls (gpush r rest) S' cs sl)) : gG E M B pc ls (a2 :: a1 :: a0 :: .inr q :: rest) S cs sl := g_callV (as := [a0, a1, a2]) cw cf hd e rfl rfl hlv hR hR2 hrest (fun _ _ => gNo_nil) (fun _ _ => gNo_nil) (fun _ h => absurd h List.not_mem_nil) hc hs hrun
theorem gcs3 {My : gM} {d idx : Nat} {a0 a1 a2 : gV} (cw : gCS M.1.cls idx My 3) (hd : decode M.2.1 pc = .ok (.invokestatic idx, 3)) (e : pc + 3 = pc') (hR : d + 1 ≤ (bR B).frames) (hR2 : 8 + (My.2.2.1 + 11) + 28 * d ≤ (bR B).locals) (hrest : (rest.map gcat).sum ≤ 8) (hc : cs ≤ bC B) (hs : sl ≤ bS B) (hrun : gRun E My d 0 0 [a0, a1, a2] S [] (fun r S' => gG E M B pc' ls (gpush r rest) S' cs sl)) : gG E M B pc ls (a2 :: a1 :: a0 :: rest) S cs sl := g_callS (as := [a0, a1, a2]) cw hd e rfl rfl hR hR2 hrest (fun _ _ => gNo_nil) (fun _ _ => gNo_nil) (fun _ h => absurd h List.not_mem_nil) hc hs hrun
theorem gcv4 {My : gM} {d idx : Nat} {q : gId} {a0 a1 a2 a3 : gV} {T : u_T} {N : Nat} {ty : Nat → FieldType} (cw : gCV M.1.cls idx My 4) (cf : gCF q.1 My.1.cls T N ty) (hd : decode M.2.1 pc = .ok (.invokevirtual idx, 3)) (e : pc + 3 = pc') (hlv : q ∈ gL S) (hR : d + 1 ≤ (bR B).frames) (hR2 : 8 + (My.2.2.1 + 11) + 28 * d ≤ (bR B).locals) (hrest : (rest.map gcat).sum ≤ 8) (hc : cs ≤ bC B) (hs : sl ≤ bS B) (hrun : gRun E My d 0 0 [.inr q, a0, a1, a2, a3] S [] (fun r S' => gG E M B pc' ls (gpush r rest) S' cs sl)) : gG E M B pc ls (a3 :: a2 :: a1 :: a0 :: .inr q :: rest) S cs sl := g_callV (as := [a0, a1, a2, a3]) cw cf hd e rfl rfl hlv hR hR2 hrest (fun _ _ => gNo_nil) (fun _ _ => gNo_nil) (fun _ h => absurd h List.not_mem_nil) hc hs hrun
theorem gcs4 {My : gM} {d idx : Nat} {a0 a1 a2 a3 : gV} (cw : gCS M.1.cls idx My 4) (hd : decode M.2.1 pc = .ok (.invokestatic idx, 3)) (e : pc + 3 = pc') (hR : d + 1 ≤ (bR B).frames) (hR2 : 8 + (My.2.2.1 + 11) + 28 * d ≤ (bR B).locals) (hrest : (rest.map gcat).sum ≤ 8) (hc : cs ≤ bC B) (hs : sl ≤ bS B) (hrun : gRun E My d 0 0 [a0, a1, a2, a3] S [] (fun r S' => gG E M B pc' ls (gpush r rest) S' cs sl)) : gG E M B pc ls (a3 :: a2 :: a1 :: a0 :: rest) S cs sl := g_callS (as := [a0, a1, a2, a3]) cw hd e rfl rfl hR hR2 hrest (fun _ _ => gNo_nil) (fun _ _ => gNo_nil) (fun _ h => absurd h List.not_mem_nil) hc hs hrun
theorem gcv5 {My : gM} {d idx : Nat} {q : gId} {a0 a1 a2 a3 a4 : gV} {T : u_T} {N : Nat} {ty : Nat → FieldType} (cw : gCV M.1.cls idx My 5) (cf : gCF q.1 My.1.cls T N ty) (hd : decode M.2.1 pc = .ok (.invokevirtual idx, 3)) (e : pc + 3 = pc') (hlv : q ∈ gL S) (hR : d + 1 ≤ (bR B).frames) (hR2 : 8 + (My.2.2.1 + 11) + 28 * d ≤ (bR B).locals) (hrest : (rest.map gcat).sum ≤ 8) (hc : cs ≤ bC B) (hs : sl ≤ bS B) (hrun : gRun E My d 0 0 [.inr q, a0, a1, a2, a3, a4] S [] (fun r S' => gG E M B pc' ls (gpush r rest) S' cs sl)) : gG E M B pc ls (a4 :: a3 :: a2 :: a1 :: a0 :: .inr q :: rest) S cs sl := g_callV (as := [a0, a1, a2, a3, a4]) cw cf hd e rfl rfl hlv hR hR2 hrest (fun _ _ => gNo_nil) (fun _ _ => gNo_nil) (fun _ h => absurd h List.not_mem_nil) hc hs hrun
theorem gcs5 {My : gM} {d idx : Nat} {a0 a1 a2 a3 a4 : gV} (cw : gCS M.1.cls idx My 5) (hd : decode M.2.1 pc = .ok (.invokestatic idx, 3)) (e : pc + 3 = pc') (hR : d + 1 ≤ (bR B).frames) (hR2 : 8 + (My.2.2.1 + 11) + 28 * d ≤ (bR B).locals) (hrest : (rest.map gcat).sum ≤ 8) (hc : cs ≤ bC B) (hs : sl ≤ bS B) (hrun : gRun E My d 0 0 [a0, a1, a2, a3, a4] S [] (fun r S' => gG E M B pc' ls (gpush r rest) S' cs sl)) : gG E M B pc ls (a4 :: a3 :: a2 :: a1 :: a0 :: rest) S cs sl := g_callS (as := [a0, a1, a2, a3, a4]) cw hd e rfl rfl hR hR2 hrest (fun _ _ => gNo_nil) (fun _ _ => gNo_nil) (fun _ h => absurd h List.not_mem_nil) hc hs hrun
end GLOC
end
section
/-! rows on bits, shifts and unsigned numbers, to paste: each family out of a closed proof of our own, whole with what it rests on; each by itself clean at Lean in its own claim (generation 39, form 5). Take a family whole -/
/-! ===== Int32 by its bits: bt x i ===== -/
def bt (x : Int32) (i : Nat) : Bool := x.toBitVec.getLsbD i
theorem b_ext {x y : Int32} (h : ∀ i, i < 32 → bt x i = bt y i) : x = y := Int32.toBitVec_inj.mp (BitVec.eq_of_getLsbD_eq (fun i hi => h i hi))
theorem b_or (x y : Int32) (i : Nat) : bt (x ||| y) i = (bt x i || bt y i) := by unfold bt; rw [Int32.toBitVec_or, BitVec.getLsbD_or]
theorem b_and (x y : Int32) (i : Nat) : bt (x &&& y) i = (bt x i && bt y i) := by unfold bt; rw [Int32.toBitVec_and, BitVec.getLsbD_and]
theorem b_xor (x y : Int32) (i : Nat) : bt (x ^^^ y) i = (bt x i ^^ bt y i) := by unfold bt; rw [Int32.toBitVec_xor, BitVec.getLsbD_xor]
theorem b_big {x : Int32} {i : Nat} (h : 32 ≤ i) : bt x i = false := BitVec.getLsbD_of_ge _ _ h
theorem b_255 (i : Nat) : bt 255 i = decide (i < 8) := by
  rcases Nat.lt_or_ge i 32 with h | h
  · exact (by decide +kernel : ∀ i, i < 32 → bt 255 i = decide (i < 8)) i h
  · rw [b_big h, decide_eq_false (by omega)]
theorem b_65535 (i : Nat) : bt 65535 i = decide (i < 16) := by
  rcases Nat.lt_or_ge i 32 with h | h
  · exact (by decide +kernel : ∀ i, i < 32 → bt 65535 i = decide (i < 16)) i h
  · rw [b_big h, decide_eq_false (by omega)]
theorem b_m1 : ∀ i, i < 32 → bt (-1) i = true := by decide +kernel
theorem b_0 (i : Nat) : bt 0 i = false := BitVec.getLsbD_zero
theorem s_l : ∀ n, n < 32 → ((nI n &&& 31).toBitVec.smod 32).toNat = n := by decide +kernel
theorem s_u : ∀ n, n < 32 → (((nI n).toUInt32 &&& Int32.toUInt32 31).toBitVec % 32).toNat = n := by decide +kernel
theorem b_shl (n : Nat) (hn : n < 32) (x : Int32) {i : Nat} (hi : i < 32) : bt (x <<< (nI n &&& 31)) i = (decide (n ≤ i) && bt x (i - n)) := by
  unfold bt
  rw [Int32.toBitVec_shiftLeft]
  show (x.toBitVec <<< ((nI n &&& 31).toBitVec.smod 32).toNat).getLsbD i = _
  rw [s_l n hn, BitVec.getLsbD_shiftLeft]
  rcases Nat.lt_or_ge i n with h | h
  · simp [h, Nat.not_le.mpr h]
  · simp [hi, h, Nat.not_lt.mpr h]
theorem b_ushr (n : Nat) (hn : n < 32) (x : Int32) (i : Nat) : bt ((x.toUInt32 >>> ((nI n).toUInt32 &&& Int32.toUInt32 31)).toInt32) i = bt x (n + i) := by
  show (x.toUInt32 >>> ((nI n).toUInt32 &&& Int32.toUInt32 31)).toBitVec.getLsbD i = x.toUInt32.toBitVec.getLsbD (n + i)
  rw [UInt32.toBitVec_shiftRight]
  show (x.toUInt32.toBitVec >>> (((nI n).toUInt32 &&& Int32.toUInt32 31).toBitVec % 32).toNat).getLsbD i = _
  rw [s_u n hn, BitVec.getLsbD_ushiftRight]
theorem b_sshr (n : Nat) (hn : n < 32) (x : Int32) {i : Nat} (hi : i < 32) : bt (x >>> (nI n &&& 31)) i = if n + i < 32 then bt x (n + i) else bt x 31 := by
  unfold bt
  rw [Int32.toBitVec_shiftRight]
  show (x.toBitVec.sshiftRight ((nI n &&& 31).toBitVec.smod 32).toNat).getLsbD i = _
  rw [s_l n hn, BitVec.getLsbD_sshiftRight, BitVec.msb_eq_getLsbD_last]
  simp [hi]
theorem b_shl8 (x : Int32) {i : Nat} (hi : i < 32) : bt (x <<< ((8 : Int32) &&& 31)) i = (decide (8 ≤ i) && bt x (i - 8)) := b_shl 8 (by omega) x hi
theorem b_shl16 (x : Int32) {i : Nat} (hi : i < 32) : bt (x <<< ((16 : Int32) &&& 31)) i = (decide (16 ≤ i) && bt x (i - 16)) := b_shl 16 (by omega) x hi
theorem b_shl24 (x : Int32) {i : Nat} (hi : i < 32) : bt (x <<< ((24 : Int32) &&& 31)) i = (decide (24 ≤ i) && bt x (i - 24)) := b_shl 24 (by omega) x hi
theorem b_sshr8 (x : Int32) {i : Nat} (hi : i < 32) : bt (x >>> ((8 : Int32) &&& 31)) i = if 8 + i < 32 then bt x (8 + i) else bt x 31 := b_sshr 8 (by omega) x hi
/-! ===== nI under and, xor, >>>, one bit, 65535 ===== -/
theorem nx_and (a b : Nat) : nI a &&& nI b = nI (a &&& b) := by
  apply Int32.toBitVec_inj.1
  show BitVec.ofNat 32 a &&& BitVec.ofNat 32 b = BitVec.ofNat 32 (a &&& b)
  apply BitVec.eq_of_getLsbD_eq
  intro i hi
  simp [hi]
theorem nx_xor (a b : Nat) : nI a ^^^ nI b = nI (a ^^^ b) := by
  apply Int32.toBitVec_inj.1
  show BitVec.ofNat 32 a ^^^ BitVec.ofNat 32 b = BitVec.ofNat 32 (a ^^^ b)
  apply BitVec.eq_of_getLsbD_eq
  intro i hi
  simp [hi]
theorem nx_cnt : ∀ j : Fin 32, (UInt32.ofNat j.val &&& Int32.toUInt32 31).toNat % 32 = j.val := by decide +kernel
theorem nx_ush {k j : Nat} (hk : k < 65536) (hj : j < 32) : ((nI k).toUInt32 >>> ((nI j).toUInt32 &&& Int32.toUInt32 31)).toInt32 = nI (k >>> j) := by
  have hs : k >>> j ≤ k := by
    rw [Nat.shiftRight_eq_div_pow]
    exact Nat.div_le_self _ _
  have e2 : UInt32.ofNat k >>> (UInt32.ofNat j &&& Int32.toUInt32 31) = UInt32.ofNat (k >>> j) := by
    apply UInt32.toNat_inj.1
    have h1 : (UInt32.ofNat k).toNat = k := Nat.mod_eq_of_lt (by omega)
    have h2 : (UInt32.ofNat (k >>> j)).toNat = k >>> j := Nat.mod_eq_of_lt (by omega)
    rw [UInt32.toNat_shiftRight, nx_cnt ⟨j, hj⟩, h1, h2]
  show (UInt32.ofNat k >>> (UInt32.ofNat j &&& Int32.toUInt32 31)).toInt32 = _
  rw [e2]
  rfl
theorem nx_bit {k j : Nat} (hk : k < 65536) (hj : j < 16) : (((nI k).toUInt32 >>> ((nI j).toUInt32 &&& Int32.toUInt32 31)).toInt32 &&& 1) = 0 ↔ k.testBit j = false := by
  rw [nx_ush hk (by omega)]
  show nI (k >>> j) &&& nI 1 = 0 ↔ _
  rw [nx_and, Nat.and_one_is_mod, ← nI_0, nI_eq (by omega) (by omega), Nat.testBit_eq_decide_div_mod_eq, Nat.shiftRight_eq_div_pow, decide_eq_false_iff_not]
  generalize k / 2 ^ j = z
  omega
theorem nx_mod (k : Nat) : nI k &&& 65535 = nI (k % 65536) := by
  show nI k &&& nI 65535 = _
  rw [nx_and, show (65535 : Nat) = 2 ^ 16 - 1 from rfl, Nat.and_two_pow_sub_one_eq_mod]
theorem nx_m16 {k : Nat} (h : k < 65536) : nI k &&& 65535 = nI k := by rw [nx_mod, Nat.mod_eq_of_lt h]
theorem nx_mask (x : Int32) : ∃ k, k < 65536 ∧ x &&& 65535 = nI k := by
  have e : x = nI x.toBitVec.toNat := by
    apply Int32.toBitVec_inj.1
    show x.toBitVec = BitVec.ofNat 32 x.toBitVec.toNat
    simp
  refine ⟨x.toBitVec.toNat % 65536, Nat.mod_lt _ (by omega), ?_⟩
  rw [← nx_mod, ← e]
/-! ===== Int32 as a set of bits: test, set ===== -/
def nf_M (m : Int32) : Nat := 4294967296 - m.toBitVec.toNat
theorem nf_sh : ∀ l, l < 32 → ((1 : Int32) <<< (nI l &&& 31)).toBitVec = BitVec.twoPow 32 l := by decide +kernel
theorem nf_sl : ∀ l, l < 32 → (((nI l).toUInt32 &&& Int32.toUInt32 31).toBitVec % 32).toNat = l := by decide +kernel
theorem nf_tp : ∀ l, l < 32 → BitVec.twoPow 32 l ≠ 0#32 := by decide +kernel
theorem nf_bit (m : Int32) (l : Nat) (hl : l < 32) : ((m.toUInt32 >>> ((nI l).toUInt32 &&& Int32.toUInt32 31)).toInt32 &&& 1) = 0 ↔ (m &&& ((1 : Int32) <<< (nI l &&& 31))) = 0 := by
  have e : ((m.toUInt32 >>> ((nI l).toUInt32 &&& Int32.toUInt32 31)).toInt32).toBitVec = m.toBitVec >>> l := by
    show m.toBitVec >>> (((nI l).toUInt32 &&& Int32.toUInt32 31).toBitVec % 32) = m.toBitVec >>> l
    rw [BitVec.ushiftRight_eq', nf_sl l hl]
  rw [← Int32.toBitVec_inj, ← Int32.toBitVec_inj, Int32.toBitVec_and, Int32.toBitVec_and, nf_sh l hl, e, BitVec.and_twoPow]
  show (m.toBitVec >>> l &&& 1#32) = 0#32 ↔ _ = 0#32
  rw [BitVec.and_one_eq_setWidth_ofBool_getLsbD, BitVec.getLsbD_ushiftRight, Nat.add_zero]
  cases hb : m.toBitVec.getLsbD l
  · exact ⟨fun _ => by simp, fun _ => by decide⟩
  · exact ⟨fun z => absurd z (by decide), fun z => absurd ((if_pos rfl).symm.trans z) (nf_tp l hl)⟩
theorem nf_gr (m k : Int32) (h : m &&& k = 0) (hk : k ≠ 0) : nf_M (m ||| k) < nf_M m := by
  have hm := m.toBitVec.isLt
  have hm' := (m ||| k).toBitVec.isLt
  have h1 : m.toBitVec.toNat ≤ (m ||| k).toBitVec.toNat := by
    rw [Int32.toBitVec_or, BitVec.toNat_or]
    exact Nat.left_le_or
  have h2 : m.toBitVec.toNat ≠ (m ||| k).toBitVec.toNat := by
    intro e
    have e2 : m = m ||| k := Int32.toBitVec_inj.mp (BitVec.eq_of_toNat_eq e)
    apply hk
    apply Int32.toBitVec_inj.mp
    show k.toBitVec = 0#32
    apply BitVec.eq_of_getLsbD_eq
    intro i hi
    have a : m.toBitVec.getLsbD i = (m.toBitVec.getLsbD i || k.toBitVec.getLsbD i) := by rw [← BitVec.getLsbD_or, ← Int32.toBitVec_or, ← e2]
    have b : (m.toBitVec.getLsbD i && k.toBitVec.getLsbD i) = false := by
      rw [← BitVec.getLsbD_and, ← Int32.toBitVec_and, h]
      exact BitVec.getLsbD_zero
    rw [BitVec.getLsbD_zero]
    revert a b
    cases m.toBitVec.getLsbD i <;> cases k.toBitVec.getLsbD i <;> simp
  unfold nf_M
  omega
/-! ===== a byte read unsigned ===== -/
theorem bp_b (x : Int32) : x.toInt8.toInt32 &&& 255 = x &&& 255 := by
  apply Int32.toBitVec_inj.mp
  rw [Int32.toBitVec_and, Int32.toBitVec_and, Int8.toBitVec_toInt32, Int32.toBitVec_toInt8]
  apply BitVec.eq_of_getLsbD_eq
  intro i hi
  rw [BitVec.getLsbD_and, BitVec.getLsbD_and]
  have hm : ∀ i < 32, 8 ≤ i → (255 : Int32).toBitVec.getLsbD i = false := by decide
  rcases Nat.lt_or_ge i 8 with z | z
  · rw [BitVec.getLsbD_signExtend, BitVec.getLsbD_signExtend, if_pos z, if_pos hi]
    simp only [z, hi, decide_true, Bool.true_and]
  · rw [hm i hi z]; simp
/-! ===== the char cast and 65535 ===== -/
/-! ===== Int64 as a set of bits: test, set, clear ===== -/
theorem ts_nf {x : Bool} (h : ¬ x = false) : x = true := by cases x <;> first | rfl | exact absurd rfl h
theorem ts_nt {x : Bool} (h : ¬ x = true) : x = false := by cases x <;> first | rfl | exact absurd rfl h
theorem ts_bit {w : Int64} {s : UInt64} {j : Nat} (hj : j < 64) (hs : s.toNat = j) : ((w.toUInt64 >>> s).toInt64 &&& 1) = 0 ↔ w.toBitVec.getLsbD j = false := by
  have e : (w.toUInt64 >>> s).toInt64.toBitVec = w.toBitVec >>> j := by
    apply BitVec.eq_of_toNat_eq
    show (w.toUInt64 >>> s).toNat = _
    rw [UInt64.toNat_shiftRight, hs, Nat.mod_eq_of_lt hj, BitVec.toNat_ushiftRight]
    rfl
  rw [← Int64.toBitVec_inj, Int64.toBitVec_and, e]
  show w.toBitVec >>> j &&& 1#64 = 0#64 ↔ _
  constructor
  · intro h
    have t := congrArg (fun x => x.getLsbD 0) h
    simpa using t
  · intro h
    apply BitVec.eq_of_getLsbD_eq
    intro i hi
    cases i with
    | zero => simp [h]
    | succ i => simp
theorem ts_or {w m : Int64} {j : Nat} (hj : j < 64) (hm : m.toBitVec = BitVec.twoPow 64 j) : (w ||| m) = w ↔ w.toBitVec.getLsbD j = true := by
  rw [← Int64.toBitVec_inj, Int64.toBitVec_or, hm]
  constructor
  · intro h
    have t := congrArg (fun x => x.getLsbD j) h
    simp only [BitVec.getLsbD_or, BitVec.getLsbD_twoPow] at t
    simpa [hj] using t.symm
  · intro h
    apply BitVec.eq_of_getLsbD_eq
    intro i hi
    rw [BitVec.getLsbD_or, BitVec.getLsbD_twoPow]
    by_cases e : j = i
    · subst e; rw [h, Bool.true_or]
    · simp [e]
theorem ts_and {w m : Int64} {j : Nat} (hj : j < 64) (hm : m.toBitVec = BitVec.twoPow 64 j) : (w &&& (m ^^^ (-1))) = w ↔ w.toBitVec.getLsbD j = false := by
  have ha : (-1 : Int64).toBitVec = BitVec.allOnes 64 := by decide
  rw [← Int64.toBitVec_inj, Int64.toBitVec_and, Int64.toBitVec_xor, hm, ha]
  constructor
  · intro h
    have t := congrArg (fun x => x.getLsbD j) h
    simp only [BitVec.getLsbD_and, BitVec.getLsbD_xor, BitVec.getLsbD_twoPow, BitVec.getLsbD_allOnes] at t
    simpa [hj] using t.symm
  · intro h
    apply BitVec.eq_of_getLsbD_eq
    intro i hi
    rw [BitVec.getLsbD_and, BitVec.getLsbD_xor, BitVec.getLsbD_twoPow, BitVec.getLsbD_allOnes]
    by_cases e : j = i
    · subst e; rw [h, Bool.false_and]
    · simp [e, hi]
/-! ===== lN n to 2^64: shifts, and, or, masks, one bit ===== -/
theorem wb_tb (n : Nat) : (lN n).toBitVec = BitVec.ofNat 64 n := rfl
theorem wb_inj {a b : Int64} (h : a.toBitVec = b.toBitVec) : a = b := Int64.toBitVec_inj.mp h
theorem wb_tn {n : Nat} (h : n < 2 ^ 64) : (lN n).toBitVec.toNat = n := by rw [wb_tb, BitVec.toNat_ofNat, Nat.mod_eq_of_lt h]
theorem wb_of (x : Int64) : ∃ n, n < 2 ^ 64 ∧ x = lN n := ⟨x.toBitVec.toNat, x.toBitVec.isLt, wb_inj (by rw [wb_tb]; simp)⟩
theorem wb_of32 (x : Int32) : ∃ n, n < 2 ^ 32 ∧ x = nI n := ⟨x.toBitVec.toNat, x.toBitVec.isLt, Int32.toBitVec_inj.mp (by show _ = BitVec.ofNat 32 _; simp)⟩
theorem wb_c : ∀ k, k < 64 → ((nI k).toInt64 &&& 63) = lN k := by decide +kernel
theorem wb_cu : ∀ k, k < 64 → ((nI k).toInt64.toUInt64 &&& Int64.toUInt64 63) = UInt64.ofNat k := by decide +kernel
theorem wb_sm : ∀ k, k < 64 → (BitVec.ofNat 64 k).smod 64 = BitVec.ofNat 64 k := by decide +kernel
theorem wb_pw {a b : Nat} (h : a ≤ b) : 2 ^ b = 2 ^ a * 2 ^ (b - a) := by rw [← Nat.pow_add]; congr 1; omega
theorem wb_lt2 {a b : Nat} (h : a < b) : 2 ^ a < 2 ^ b := Nat.pow_lt_pow_right (by decide) h
theorem wb_mod (n : Nat) : lN n = lN (n % 2 ^ 64) := wb_inj (by rw [wb_tb, wb_tb]; apply BitVec.eq_of_toNat_eq; rw [BitVec.toNat_ofNat, BitVec.toNat_ofNat, Nat.mod_mod])
theorem wb_shr {n k : Nat} (hn : n < 2 ^ 64) (hk : k < 64) : ((lN n).toUInt64 >>> ((nI k).toInt64.toUInt64 &&& Int64.toUInt64 63)).toInt64 = lN (n / 2 ^ k) := by
  rw [wb_cu k hk]
  apply wb_inj
  apply BitVec.eq_of_toNat_eq
  show ((lN n).toUInt64 >>> UInt64.ofNat k).toNat = (BitVec.ofNat 64 _).toNat
  have h1 : (UInt64.ofNat k).toNat = k := by
    show (BitVec.ofNat 64 k).toNat = k
    rw [BitVec.toNat_ofNat, Nat.mod_eq_of_lt (by omega)]
  have h2 : (lN n).toUInt64.toNat = n := wb_tn hn
  rw [UInt64.toNat_shiftRight, h1, h2, Nat.mod_eq_of_lt hk, Nat.shiftRight_eq_div_pow, BitVec.toNat_ofNat, Nat.mod_eq_of_lt (Nat.lt_of_le_of_lt (Nat.div_le_self _ _) hn)]
theorem wb_shl (n : Nat) {k : Nat} (hk : k < 64) : lN n <<< ((nI k).toInt64 &&& 63) = lN (n * 2 ^ k) := by
  rw [wb_c k hk]
  apply wb_inj
  rw [Int64.toBitVec_shiftLeft, wb_tb, wb_tb, wb_tb, wb_sm k hk]
  apply BitVec.eq_of_toNat_eq
  rw [BitVec.shiftLeft_eq', BitVec.toNat_shiftLeft, BitVec.toNat_ofNat, BitVec.toNat_ofNat, BitVec.toNat_ofNat, Nat.mod_eq_of_lt (show k < 2 ^ 64 by omega), Nat.shiftLeft_eq, Nat.mul_mod, Nat.mod_mod, ← Nat.mul_mod]
theorem wb_and {a b : Nat} (ha : a < 2 ^ 64) (hb : b < 2 ^ 64) : lN a &&& lN b = lN (a &&& b) := by
  apply wb_inj
  rw [Int64.toBitVec_and, wb_tb, wb_tb, wb_tb]
  apply BitVec.eq_of_toNat_eq
  rw [BitVec.toNat_and, BitVec.toNat_ofNat, BitVec.toNat_ofNat, BitVec.toNat_ofNat, Nat.mod_eq_of_lt ha, Nat.mod_eq_of_lt hb, Nat.mod_eq_of_lt (Nat.and_lt_two_pow _ hb)]
theorem wb_or {a b : Nat} (ha : a < 2 ^ 64) (hb : b < 2 ^ 64) : lN a ||| lN b = lN (a ||| b) := by
  apply wb_inj
  rw [Int64.toBitVec_or, wb_tb, wb_tb, wb_tb]
  apply BitVec.eq_of_toNat_eq
  rw [BitVec.toNat_or, BitVec.toNat_ofNat, BitVec.toNat_ofNat, BitVec.toNat_ofNat, Nat.mod_eq_of_lt ha, Nat.mod_eq_of_lt hb, Nat.mod_eq_of_lt (Nat.or_lt_two_pow ha hb)]
theorem wb_mask {n k : Nat} (hn : n < 2 ^ 64) (hk : k < 64) : lN n &&& lN (2 ^ k - 1) = lN (n % 2 ^ k) := by
  rw [wb_and hn (by have := wb_lt2 hk; omega), Nat.and_two_pow_sub_one_eq_mod]
theorem wb_a1 {n : Nat} (hn : n < 2 ^ 64) : lN n &&& 1 = lN (n % 2) := wb_mask (k := 1) hn (by decide)
theorem wb_bit {n k : Nat} (hn : n < 2 ^ 64) (hk : k < 64) : ((lN n).toUInt64 >>> ((nI k).toInt64.toUInt64 &&& Int64.toUInt64 63)).toInt64 &&& 1 = lN (n / 2 ^ k % 2) := by
  rw [wb_shr hn hk, wb_a1 (Nat.lt_of_le_of_lt (Nat.div_le_self _ _) hn)]
theorem wb_xor {q k : Nat} (hk : k < 63) (h : 2 ^ k ≤ q) (h2 : q < 2 ^ (k + 1)) : lN q ^^^ lN (2 ^ k) = lN (q - 2 ^ k) := by
  obtain ⟨r, rfl⟩ : ∃ r, q = 2 ^ k + r := ⟨q - 2 ^ k, by omega⟩
  have hr : r < 2 ^ k := by rw [Nat.pow_succ] at h2; omega
  have hx : (2 ^ k + r) ^^^ 2 ^ k = r := by
    apply Nat.eq_of_testBit_eq
    intro i
    rw [Nat.testBit_xor, Nat.testBit_two_pow]
    rcases Nat.lt_trichotomy i k with h | h | h
    · rw [Nat.testBit_two_pow_add_gt h]
      simp [show ¬ k = i by omega]
    · subst h
      rw [Nat.testBit_two_pow_add_eq]
      simp
    · have a1 : 2 ^ (k + 1) ≤ 2 ^ i := Nat.pow_le_pow_right (by decide) h
      rw [Nat.testBit_lt_two_pow (show 2 ^ k + r < 2 ^ i by omega), Nat.testBit_lt_two_pow (show r < 2 ^ i by omega)]
      simp [show ¬ k = i by omega]
  have b1 := wb_lt2 (show k + 1 < 64 by omega)
  have b2 := wb_lt2 (show k < 64 by omega)
  apply wb_inj
  rw [Int64.toBitVec_xor, wb_tb, wb_tb, wb_tb]
  apply BitVec.eq_of_toNat_eq
  rw [BitVec.toNat_xor, BitVec.toNat_ofNat, BitVec.toNat_ofNat, BitVec.toNat_ofNat, Nat.mod_eq_of_lt (by omega : 2 ^ k + r < 2 ^ 64), Nat.mod_eq_of_lt b2, hx, Nat.add_sub_cancel_left, Nat.mod_eq_of_lt (by omega)]
/-! ===== lN: masks, 'or' of parts that don't overlap is a sum ===== -/
theorem u_tn {n : Nat} (h : n < 2 ^ 64) : (UInt64.ofNat n).toNat = n := Nat.mod_eq_of_lt h
theorem g_and {a b c : Nat} (ha : a < 2 ^ 64) (hb : b < 2 ^ 64) (hc : a &&& b = c) : lN a &&& lN b = lN c := by
  subst hc
  have h : UInt64.ofNat a &&& UInt64.ofNat b = UInt64.ofNat (a &&& b) := UInt64.toNat_inj.mp (by rw [UInt64.toNat_and, u_tn ha, u_tn hb, u_tn (Nat.and_lt_two_pow a hb)])
  have h2 := congrArg UInt64.toInt64 h
  exact h2
theorem g_and1 {a : Nat} (ha : a < 2 ^ 64) : lN a &&& 1 = lN (a % 2) := g_and (b := 1) ha (by decide) (Nat.and_two_pow_sub_one_eq_mod a 1)
theorem g_mask {a s p : Nat} (hp : 2 ^ s = p) (hs : s < 64) (ha : a < 2 ^ 64) : lN a &&& lN (p - 1) = lN (a % p) := by
  subst hp
  have := Nat.pow_lt_pow_right (show 1 < 2 by decide) hs
  exact g_and ha (by omega) (Nat.and_two_pow_sub_one_eq_mod a s)
theorem g_or {k p a b : Nat} (hp : 2 ^ k = p) (ha : a < p) (h : b * p + a < 2 ^ 64) : lN (b * p) ||| lN a = lN (b * p + a) := by
  subst hp
  have h1 : b * 2 ^ k ||| a = b * 2 ^ k + a := by rw [← Nat.shiftLeft_eq, Nat.shiftLeft_add_eq_or_of_lt ha]
  have h3 : UInt64.ofNat (b * 2 ^ k) ||| UInt64.ofNat a = UInt64.ofNat (b * 2 ^ k + a) := UInt64.toNat_inj.mp (by rw [UInt64.toNat_or, u_tn (by omega), u_tn (by omega), u_tn h, h1])
  have h2 := congrArg UInt64.toInt64 h3
  exact h2
theorem g_or' {k p a b : Nat} (hp : 2 ^ k = p) (ha : a < p) (h : a + b * p < 2 ^ 64) : lN a ||| lN (b * p) = lN (a + b * p) := by
  rw [Int64.or_comm, g_or hp ha (by omega), Nat.add_comm]
theorem g_ushr {a k p : Nat} {y : UInt64} (hy : y = UInt64.ofNat k) (hk : k < 64) (hp : 2 ^ k = p) (ha : a < 2 ^ 64) : ((lN a).toUInt64 >>> y).toInt64 = lN (a / p) := by
  subst hy hp
  have h : UInt64.ofNat a >>> UInt64.ofNat k = UInt64.ofNat (a / 2 ^ k) := UInt64.toNat_inj.mp (by rw [UInt64.toNat_shiftRight, u_tn ha, u_tn (by omega), u_tn (Nat.lt_of_le_of_lt (Nat.div_le_self _ _) ha), Nat.mod_eq_of_lt hk, Nat.shiftRight_eq_div_pow])
  have h2 := congrArg UInt64.toInt64 h
  exact h2
theorem g_shl {a k p : Nat} {y : Int64} (hy : y.toBitVec.smod 64 = BitVec.ofNat 64 k) (hk : k < 64) (hp : 2 ^ k = p) (ha : a < 2 ^ 64) : lN a <<< y = lN (a * p) := by
  subst hp
  apply Int64.toBitVec_inj.mp
  rw [Int64.toBitVec_shiftLeft, hy]
  apply BitVec.eq_of_toNat_eq
  have hb : (lN a).toBitVec.toNat = a := Nat.mod_eq_of_lt ha
  have hk' : (BitVec.ofNat 64 k).toNat = k := Nat.mod_eq_of_lt (by omega)
  have h : ((lN a).toBitVec <<< BitVec.ofNat 64 k).toNat = (a * 2 ^ k) % 2 ^ 64 := by simp only [BitVec.shiftLeft_eq', BitVec.toNat_shiftLeft, hb, hk', Nat.shiftLeft_eq]
  exact h
/-! ===== lN to 2^62 under >> and >>> ===== -/
theorem pf_lI {a : Nat} (h : a < 2 ^ 63) : (lN a).toInt = (a : Int) := lg_ofNat_toInt h
theorem pf_shr {a d : Nat} {D : Int64} (hD : (D.toBitVec.smod 64).toNat = d) (h : a < 2 ^ 62) : lN a >>> D = lN (a / 2 ^ d) := by
  have hd : a / 2 ^ d ≤ a := Nat.div_le_self _ _
  apply Int64.toInt_inj.mp
  have e : (lN a >>> D).toInt = (lN a).toInt >>> d := by
    rw [← hD]
    exact BitVec.toInt_sshiftRight ..
  rw [e, Int.shiftRight_eq_div_pow, pf_lI (by omega), pf_lI (by omega)]
  rfl
theorem pf_ushr {a d : Nat} {D : UInt64} (hD : D.toNat % 64 = d) (h : a < 2 ^ 62) : ((lN a).toUInt64 >>> D).toInt64 = lN (a / 2 ^ d) := by
  have hd : a / 2 ^ d ≤ a := Nat.div_le_self _ _
  have e : (lN a).toUInt64 >>> D = UInt64.ofNat (a / 2 ^ d) := UInt64.toNat_inj.mp (by
    rw [UInt64.toNat_shiftRight, hD, Nat.shiftRight_eq_div_pow, UInt64.toNat_ofNat']
    show (UInt64.ofNat a).toNat / 2 ^ d = _
    rw [UInt64.toNat_ofNat', Nat.mod_eq_of_lt (by omega), Nat.mod_eq_of_lt (by omega)])
  rw [e]
  rfl
theorem pf_andw (x : Int64) : ∃ m, m < 2 ^ 32 ∧ x &&& 4294967295 = lN m := ⟨x.toBitVec.toNat % 2 ^ 32, Nat.mod_lt _ (by decide), Int64.toBitVec_inj.mp (BitVec.eq_of_toNat_eq (by
  show (x.toBitVec &&& 4294967295#64).toNat = (BitVec.ofNat 64 (x.toBitVec.toNat % 2 ^ 32)).toNat
  rw [BitVec.toNat_and, show (4294967295#64).toNat = 2 ^ 32 - 1 from by decide, Nat.and_two_pow_sub_one_eq_mod, BitVec.toNat_ofNat]
  omega))⟩
/-! ===== Int64 as an unsigned number: uN x ===== -/
def uN (x : Int64) : Nat := x.toUInt64.toNat
theorem uN_lt (x : Int64) : uN x < 18446744073709551616 := x.toUInt64.toNat_lt
theorem uN_inj {x y : Int64} (h : uN x = uN y) : x = y := congrArg UInt64.toInt64 (UInt64.toNat_inj.mp h)
theorem uN_add (x y : Int64) : uN (x + y) = (uN x + uN y) % 18446744073709551616 := by
  show (x.toUInt64 + y.toUInt64).toNat = _
  exact UInt64.toNat_add _ _
theorem uN_mul (x y : Int64) : uN (x * y) = (uN x * uN y) % 18446744073709551616 := by
  show (x.toUInt64 * y.toUInt64).toNat = _
  exact UInt64.toNat_mul _ _
theorem uN_shl (x : Int64) : uN (x <<< ((1 : Int32).toInt64 &&& 63)) = (2 * uN x) % 18446744073709551616 := by
  have h : (((1 : Int32).toInt64 &&& 63).toBitVec.smod 64).toNat = 1 := by decide
  show (x.toBitVec <<< (((1 : Int32).toInt64 &&& 63).toBitVec.smod 64).toNat).toNat = _
  rw [h, BitVec.toNat_shiftLeft, Nat.shiftLeft_eq, Nat.mul_comm]
  rfl
theorem uN_shr (x : Int64) (s : UInt64) : uN (x.toUInt64 >>> s).toInt64 = uN x / 2 ^ (s.toNat % 64) := by
  show (x.toUInt64 >>> s).toNat = _
  rw [UInt64.toNat_shiftRight, Nat.shiftRight_eq_div_pow]
  rfl
theorem uN_s32 (x : Int64) : uN (x.toUInt64 >>> ((32 : Int32).toInt64.toUInt64 &&& Int64.toUInt64 63)).toInt64 = uN x / 4294967296 := by
  have h : ((32 : Int32).toInt64.toUInt64 &&& Int64.toUInt64 63).toNat % 64 = 32 := by decide
  rw [uN_shr, h]
theorem uN_s63 (x : Int64) : uN (x.toUInt64 >>> ((63 : Int32).toInt64.toUInt64 &&& Int64.toUInt64 63)).toInt64 = uN x / 9223372036854775808 := by
  have h : ((63 : Int32).toInt64.toUInt64 &&& Int64.toUInt64 63).toNat % 64 = 63 := by decide
  rw [uN_shr, h]
theorem uN_lo (x : Int64) : uN (x &&& 4294967295) = uN x % 4294967296 := by
  show (x.toUInt64 &&& Int64.toUInt64 4294967295).toNat = _
  rw [UInt64.toNat_and]
  exact Nat.and_two_pow_sub_one_eq_mod _ 32
theorem uN_bit (x : Int64) : (x &&& 1) = 0 ↔ uN x % 2 = 0 := by
  have h : uN (x &&& 1) = uN x % 2 := by
    show (x.toUInt64 &&& Int64.toUInt64 1).toNat = _
    rw [UInt64.toNat_and]
    exact Nat.and_two_pow_sub_one_eq_mod _ 1
  rw [← h]
  exact ⟨fun z => by rw [z]; rfl, fun z => uN_inj (z.trans rfl)⟩
theorem uN_or {x y : Int64} (hy : uN y < 2) : uN ((x <<< ((1 : Int32).toInt64 &&& 63)) ||| y) = (2 * uN x) % 18446744073709551616 + uN y := by
  have h1 : uN ((x <<< ((1 : Int32).toInt64 &&& 63)) ||| y) = uN (x <<< ((1 : Int32).toInt64 &&& 63)) ||| uN y := UInt64.toNat_or _ _
  have h2 : (2 * uN x) % 18446744073709551616 = 2 ^ 1 * (uN x % 9223372036854775808) := by omega
  rw [h1, uN_shl, h2]
  exact (Nat.two_pow_add_eq_or_of_lt (i := 1) hy _).symm
theorem nat_xor {a : Nat} (h : a < 18446744073709551616) : a ^^^ 2 ^ 63 = (a + 9223372036854775808) % 18446744073709551616 := by
  have h1 : (a ^^^ 2 ^ 63) % 2 ^ 63 = a % 2 ^ 63 := by rw [Nat.xor_mod_two_pow, Nat.mod_self, Nat.xor_zero]
  have h2 : (a ^^^ 2 ^ 63) / 2 ^ 63 = (a / 2 ^ 63) ^^^ 1 := by rw [Nat.xor_div_two_pow, Nat.div_self (Nat.two_pow_pos 63)]
  have h3 : a / 2 ^ 63 = 0 ∨ a / 2 ^ 63 = 1 := by omega
  generalize a ^^^ 2 ^ 63 = t at h1 h2
  rcases h3 with h3 | h3
  · rw [h3] at h2
    have h2 : t / 2 ^ 63 = 1 := h2
    omega
  · rw [h3] at h2
    have h2 : t / 2 ^ 63 = 0 := h2
    omega
theorem uN_xor (x : Int64) : uN (x ^^^ (-9223372036854775808)) = (uN x + 9223372036854775808) % 18446744073709551616 := by
  rw [← nat_xor (uN_lt x)]
  exact UInt64.toNat_xor _ _
theorem uN_int (x : Int64) : x.toInt = if 2 * uN x < 18446744073709551616 then (uN x : Int) else (uN x : Int) - 18446744073709551616 := BitVec.toInt_eq_toNat_cond _
theorem uN_le (x y : Int64) : (x ^^^ (-9223372036854775808)) ≤ (y ^^^ (-9223372036854775808)) ↔ uN x ≤ uN y := by
  have hx := uN_lt x
  have hy := uN_lt y
  rw [Int64.le_iff_toInt_le, uN_int, uN_int, uN_xor, uN_xor]
  omega
theorem uN_sk (x : Int64) {k : Nat} (hk : k < 64) : uN (x.toUInt64 >>> ((nI k).toInt64.toUInt64 &&& Int64.toUInt64 63)).toInt64 = uN x / 2 ^ k := by
  have h : ((nI k).toInt64.toUInt64 &&& Int64.toUInt64 63).toNat % 64 = k := by
    rw [nI_l (by omega), UInt64.toNat_and]
    have e : (lN k).toUInt64.toNat = k % 2 ^ 64 := rfl
    have e2 : (Int64.toUInt64 63).toNat = 2 ^ 6 - 1 := by decide
    rw [e, e2, Nat.and_two_pow_sub_one_eq_mod]
    omega
  rw [uN_shr, h]
/-! ===== unsigned comparison by xor with the least ===== -/
theorem lN_bv (n : Nat) : (lN n).toBitVec = BitVec.ofNat 64 n := rfl
theorem lN_nat {n : Nat} (h : n < 2 ^ 64) : (lN n).toBitVec.toNat = n := by rw [lN_bv, BitVec.toNat_ofNat]; exact Nat.mod_eq_of_lt h
theorem lN_xor (a b : Nat) : lN a ^^^ lN b = lN (a ^^^ b) := by
  apply Int64.toBitVec_inj.mp; rw [Int64.toBitVec_xor, lN_bv, lN_bv, lN_bv]; apply BitVec.eq_of_getLsbD_eq; intro i hi; simp [BitVec.getLsbD_ofNat, Nat.testBit_xor, hi]
theorem lN_ti {m : Nat} (h : m < 2 ^ 64) : (lN m).toInt = if m < 2 ^ 63 then (m : Int) else (m : Int) - 2 ^ 64 := by
  have c := BitVec.toInt_eq_toNat_cond (lN m).toBitVec
  rw [lN_nat h] at c
  show (lN m).toBitVec.toInt = _
  rw [c]
  split <;> split <;> omega
theorem xor63 {x : Nat} (h : x < 2 ^ 63) : x ^^^ 2 ^ 63 = 2 ^ 63 + x := by
  apply Nat.eq_of_testBit_eq
  intro i
  rw [Nat.testBit_xor, Nat.testBit_two_pow]
  rcases Nat.lt_trichotomy i 63 with z | z | z
  · rw [Nat.testBit_two_pow_add_gt z, decide_eq_false (by omega)]; simp
  · subst z; rw [Nat.testBit_two_pow_add_eq]; simp
  · have hp : 2 ^ 64 ≤ 2 ^ i := Nat.pow_le_pow_right (by decide) z
    rw [Nat.testBit_lt_two_pow (show x < 2 ^ i by omega), Nat.testBit_lt_two_pow (show 2 ^ 63 + x < 2 ^ i by omega), decide_eq_false (by omega)]; rfl
theorem xorS {a : Nat} (h : a < 2 ^ 64) : (lN a ^^^ (-9223372036854775808)).toInt = (a : Int) - 2 ^ 63 := by
  rw [show (-9223372036854775808 : Int64) = lN (2 ^ 63) from by decide +kernel, lN_xor]
  rcases Nat.lt_or_ge a (2 ^ 63) with z | z
  · rw [xor63 z, lN_ti (by omega), if_neg (by omega)]; omega
  · obtain ⟨x, rfl⟩ : ∃ x, a = 2 ^ 63 + x := ⟨a - 2 ^ 63, by omega⟩
    rw [← xor63 (by omega), Nat.xor_assoc, Nat.xor_self, Nat.xor_zero, lN_ti (by omega), if_pos (by omega), xor63 (by omega)]; omega
theorem ultL {a b : Nat} (ha : a < 2 ^ 64) (hb : b < 2 ^ 64) : ((lN b ^^^ (-9223372036854775808)) ≤ (lN a ^^^ (-9223372036854775808))) ↔ b ≤ a := by
  rw [Int64.le_iff_toInt_le, xorS ha, xorS hb]; omega
/-! ===== Int64 masks of n low bits ===== -/
theorem cr_bits (W U M : BitVec 64) : ((W &&& U) &&& (U &&& (M ^^^ BitVec.allOnes 64))) = 0#64 ↔ (W &&& U) &&& M = W &&& U := by
  constructor
  · intro h
    apply BitVec.eq_of_getLsbD_eq
    intro i hi
    have e := congrArg (fun x => BitVec.getLsbD x i) h
    simp only [BitVec.getLsbD_and, BitVec.getLsbD_xor, BitVec.getLsbD_allOnes, BitVec.getLsbD_zero, hi, decide_true] at e ⊢
    revert e
    cases W.getLsbD i <;> cases U.getLsbD i <;> cases M.getLsbD i <;> decide
  · intro h
    apply BitVec.eq_of_getLsbD_eq
    intro i hi
    have e := congrArg (fun x => BitVec.getLsbD x i) h
    simp only [BitVec.getLsbD_and, BitVec.getLsbD_xor, BitVec.getLsbD_allOnes, BitVec.getLsbD_zero, hi, decide_true] at e ⊢
    revert e
    cases W.getLsbD i <;> cases U.getLsbD i <;> cases M.getLsbD i <;> decide
theorem cr_mask (w U m : Int64) (n : Nat) (hm : m.toBitVec.toNat = 2 ^ n - 1) : ((w &&& U) &&& (U &&& (m ^^^ (-1)))) = 0 ↔ (w &&& U).toBitVec.toNat < 2 ^ n := by
  have e0 : (-1 : Int64).toBitVec = BitVec.allOnes 64 := by decide
  have z0 : (0 : Int64).toBitVec = 0#64 := by decide
  rw [← Int64.toBitVec_inj, z0, Int64.toBitVec_and, Int64.toBitVec_and, Int64.toBitVec_and, Int64.toBitVec_xor, e0, cr_bits]
  generalize w.toBitVec &&& U.toBitVec = T
  rw [← BitVec.toNat_inj, BitVec.toNat_and, hm, Nat.and_two_pow_sub_one_eq_mod]
  constructor
  · intro h
    have t := Nat.mod_lt T.toNat (Nat.two_pow_pos n)
    rw [h] at t
    exact t
  · exact Nat.mod_eq_of_lt
theorem cr_shr (t : Int64) (x : UInt64) (n : Nat) (hx : x.toNat % 64 = n) : (t.toUInt64 >>> x).toInt64 = 0 ↔ t.toBitVec.toNat < 2 ^ n := by
  rw [← Int64.toBitVec_inj, ← BitVec.toNat_inj]
  show (t.toUInt64 >>> x).toNat = 0 ↔ t.toUInt64.toNat < 2 ^ n
  rw [UInt64.toNat_shiftRight, hx, Nat.shiftRight_eq_div_pow]
  constructor
  · intro h
    have d : t.toUInt64.toNat / 2 ^ n < 1 := by
      rw [h]
      decide
    have e := (Nat.div_lt_iff_lt_mul (Nat.two_pow_pos n)).mp d
    rw [Nat.one_mul] at e
    exact e
  · exact Nat.div_eq_of_lt
theorem cr_amt (s : Int64) : ∃ n, n < 64 ∧ s &&& 63 = lN n ∧ (s.toUInt64 &&& Int64.toUInt64 63).toNat % 64 = n := by
  have e : (s.toUInt64 &&& Int64.toUInt64 63).toNat = s.toUInt64.toNat % 2 ^ 6 := by
    rw [UInt64.toNat_and, show (Int64.toUInt64 63).toNat = 2 ^ 6 - 1 from by decide, Nat.and_two_pow_sub_one_eq_mod]
  refine ⟨s.toUInt64.toNat % 2 ^ 6, by omega, ?_, by omega⟩
  rw [← Int64.toBitVec_inj, ← BitVec.toNat_inj]
  show (s.toUInt64 &&& Int64.toUInt64 63).toNat = (BitVec.ofNat 64 (s.toUInt64.toNat % 2 ^ 6)).toNat
  rw [e, BitVec.toNat_ofNat]
  omega
end
section
/-! READING AN ABSTRACT STATE; THE CLASS (1): Task, Log, Text -/
theorem fI_sfI {S : gS} {g j t g' j' t' : Nat} {v : Int32} : fI (sfI S g j t v) g' j' t' = if g' = g ∧ j' = j ∧ t' = t then v else fI S g' j' t' := rfl
theorem fR_sfI {S : gS} {g j t : Nat} {v : Int32} : fR (sfI S g j t v) = fR S := rfl
theorem aI_sfI {S : gS} {g j t : Nat} {v : Int32} : aI (sfI S g j t v) = aI S := rfl
theorem aL_sfI {S : gS} {g j t : Nat} {v : Int32} : aL (sfI S g j t v) = aL S := rfl
theorem aR_sfI {S : gS} {g j t : Nat} {v : Int32} : aR (sfI S g j t v) = aR S := rfl
theorem gL_sfI {S : gS} {g j t : Nat} {v : Int32} : gL (sfI S g j t v) = gL S := rfl
theorem fI_sfR {S : gS} {g j t : Nat} {v : Option gId} : fI (sfR S g j t v) = fI S := rfl
theorem fR_sfR {S : gS} {g j t g' j' t' : Nat} {v : Option gId} : fR (sfR S g j t v) g' j' t' = if g' = g ∧ j' = j ∧ t' = t then v else fR S g' j' t' := rfl
theorem aI_sfR {S : gS} {g j t : Nat} {v : Option gId} : aI (sfR S g j t v) = aI S := rfl
theorem aL_sfR {S : gS} {g j t : Nat} {v : Option gId} : aL (sfR S g j t v) = aL S := rfl
theorem aR_sfR {S : gS} {g j t : Nat} {v : Option gId} : aR (sfR S g j t v) = aR S := rfl
theorem gL_sfR {S : gS} {g j t : Nat} {v : Option gId} : gL (sfR S g j t v) = gL S := rfl
theorem fI_saI {S : gS} {g j t : Nat} {v : Int32} : fI (saI S g j t v) = fI S := rfl
theorem fR_saI {S : gS} {g j t : Nat} {v : Int32} : fR (saI S g j t v) = fR S := rfl
theorem aI_saI {S : gS} {g j t g' j' t' : Nat} {v : Int32} : aI (saI S g j t v) g' j' t' = if g' = g ∧ j' = j ∧ t' = t then v else aI S g' j' t' := rfl
theorem aL_saI {S : gS} {g j t : Nat} {v : Int32} : aL (saI S g j t v) = aL S := rfl
theorem aR_saI {S : gS} {g j t : Nat} {v : Int32} : aR (saI S g j t v) = aR S := rfl
theorem gL_saI {S : gS} {g j t : Nat} {v : Int32} : gL (saI S g j t v) = gL S := rfl
theorem fI_saL {S : gS} {g j t : Nat} {v : Int64} : fI (saL S g j t v) = fI S := rfl
theorem fR_saL {S : gS} {g j t : Nat} {v : Int64} : fR (saL S g j t v) = fR S := rfl
theorem aI_saL {S : gS} {g j t : Nat} {v : Int64} : aI (saL S g j t v) = aI S := rfl
theorem aL_saL {S : gS} {g j t g' j' t' : Nat} {v : Int64} : aL (saL S g j t v) g' j' t' = if g' = g ∧ j' = j ∧ t' = t then v else aL S g' j' t' := rfl
theorem aR_saL {S : gS} {g j t : Nat} {v : Int64} : aR (saL S g j t v) = aR S := rfl
theorem gL_saL {S : gS} {g j t : Nat} {v : Int64} : gL (saL S g j t v) = gL S := rfl
theorem fI_saR {S : gS} {g j t : Nat} {v : Option gId} : fI (saR S g j t v) = fI S := rfl
theorem fR_saR {S : gS} {g j t : Nat} {v : Option gId} : fR (saR S g j t v) = fR S := rfl
theorem aI_saR {S : gS} {g j t : Nat} {v : Option gId} : aI (saR S g j t v) = aI S := rfl
theorem aL_saR {S : gS} {g j t : Nat} {v : Option gId} : aL (saR S g j t v) = aL S := rfl
theorem aR_saR {S : gS} {g j t g' j' t' : Nat} {v : Option gId} : aR (saR S g j t v) g' j' t' = if g' = g ∧ j' = j ∧ t' = t then v else aR S g' j' t' := rfl
theorem gL_saR {S : gS} {g j t : Nat} {v : Option gId} : gL (saR S g j t v) = gL S := rfl
theorem gq {Q : Option gV → gS → Prop} {S : gS} {r r' : Int32} (h : Q (some (vI r)) S) (e : r = r') : Q (some (vI r')) S := e ▸ h
theorem gq2 {Q : Option gV → gS → Prop} {S S' : gS} {r r' : Int32} (h : Q (some (vI r)) S) (e : r = r') (e2 : S = S') : Q (some (vI r')) S' := e ▸ e2 ▸ h
theorem gqv {Q : Option gV → gS → Prop} {S S' : gS} (h : Q none S) (e2 : S = S') : Q none S' := e2 ▸ h
def bI (b : Bool) : Int32 := if b = true then 1 else 0
theorem bI_t {b : Bool} : bI b = 1 ↔ b = true := by cases b <;> decide
theorem bI_f {b : Bool} : bI b = 0 ↔ b = false := by cases b <;> decide
theorem bI_01 (b : Bool) : bI b = 0 ∨ bI b = 1 := by cases b <;> decide
theorem bI_nar (b : Bool) : narrow .boolean (.int (bI b)) = .int (bI b) := gz_n (bI_01 b)
theorem nI_rem {a d : Nat} (ha : a < 2 ^ 31) (h0 : 0 < d) (hd : d < 2 ^ 31) : nI a % nI d = nI (a % d) := by rw [← irem_eq_mod]; exact pk_rem ha h0 hd
theorem glt {a b : Int32} : a < b ↔ ¬ b ≤ a := Int32.not_le.symm
theorem bd_t {P : Prop} {_ : Decidable P} (h : P) : bI (decide P) = 1 := bI_t.mpr (decide_eq_true h)
theorem bd_f {P : Prop} {_ : Decidable P} (h : ¬ P) : bI (decide P) = 0 := bI_f.mpr (decide_eq_false h)
theorem nI_lit (n : Nat) : nI n = Int32.ofNat n := rfl
def tOver (S : gS) (j t : Nat) : Bool := decide (fI S 163 j t = 4 ∨ fI S 163 j t = 5 ∨ fI S 163 j t = 6)
set_option maxRecDepth 100000 in
theorem kX5_isOver {E : gE} {S : gS} {j t : Nat} {Q : Option gV → gS → Prop} (l5 : lv S 5 j t) (hQ : Q (some (vI (bI (tOver S j t)))) S) : gRun E mX5_isOver 1 0 0 [vR 5 j t] S [] Q := by
  refine gRun_of (ls := [some (vR 5 j t)]) rfl (Nat.le_of_ble_eq_true rfl) rfl (fun ad => ?_)
  refine g_aload_n (pc' := 1) dX5_isOver_0 rfl rfl ?_
  refine ggX5_9 (pc' := 4) rfl dX5_isOver_1 rfl l5 ?_
  refine g_iconst (pc' := 5) (v := 4) dX5_isOver_4 rfl rfl ?_
  refine g_icmp_eq dX5_isOver_5 (tg := 25) (pc' := 8) (by decide) rfl (fun h5 => ?_) (fun h5 => ?_)
  · refine g_iconst (pc' := 26) (v := 1) dX5_isOver_25 rfl rfl ?_
    refine g_goto dX5_isOver_26 (pc' := 30) (by decide) ?_
    refine g_iret dX5_isOver_30 rfl rfl (Nat.le_of_ble_eq_true rfl) (Nat.le_of_ble_eq_true rfl) ?_
    exact gq hQ (by simp [bI, tOver, h5])
  · refine g_aload_n (pc' := 9) dX5_isOver_8 rfl rfl ?_
    refine ggX5_9 (pc' := 12) rfl dX5_isOver_9 rfl l5 ?_
    refine g_iconst (pc' := 13) (v := 5) dX5_isOver_12 rfl rfl ?_
    refine g_icmp_eq dX5_isOver_13 (tg := 25) (pc' := 16) (by decide) rfl (fun h13 => ?_) (fun h13 => ?_)
    · refine g_iconst (pc' := 26) (v := 1) dX5_isOver_25 rfl rfl ?_
      refine g_goto dX5_isOver_26 (pc' := 30) (by decide) ?_
      refine g_iret dX5_isOver_30 rfl rfl (Nat.le_of_ble_eq_true rfl) (Nat.le_of_ble_eq_true rfl) ?_
      exact gq hQ (by simp [bI, tOver, h5, h13])
    · refine g_aload_n (pc' := 17) dX5_isOver_16 rfl rfl ?_
      refine ggX5_9 (pc' := 20) rfl dX5_isOver_17 rfl l5 ?_
      refine g_bipush (pc' := 22) (v := 6) dX5_isOver_20 rfl rfl ?_
      refine g_icmp_ne dX5_isOver_22 (tg := 29) (pc' := 25) (by decide) rfl (fun h22 => ?_) (fun h22 => ?_)
      · refine g_iconst (pc' := 30) (v := 0) dX5_isOver_29 rfl rfl ?_
        refine g_iret dX5_isOver_30 rfl rfl (Nat.le_of_ble_eq_true rfl) (Nat.le_of_ble_eq_true rfl) ?_
        exact gq hQ (by simp [bI, tOver, h5, h13, h22])
      · refine g_iconst (pc' := 26) (v := 1) dX5_isOver_25 rfl rfl ?_
        refine g_goto dX5_isOver_26 (pc' := 30) (by decide) ?_
        refine g_iret dX5_isOver_30 rfl rfl (Nat.le_of_ble_eq_true rfl) (Nat.le_of_ble_eq_true rfl) ?_
        exact gq hQ (by simp [bI, tOver, h5, h13, h22])

def tBegin (S : gS) (j t : Nat) : gS := sfI (sfI S 163 j t 1) 164 j t 0
set_option maxRecDepth 100000 in
theorem kX5_begin {E : gE} {S : gS} {j t : Nat} {Q : Option gV → gS → Prop} (l5 : lv S 5 j t) (hQ : Q none (tBegin S j t)) : gRun E mX5_begin 1 0 0 [vR 5 j t] S [] Q := by
  refine gRun_of (ls := [some (vR 5 j t)]) rfl (Nat.le_of_ble_eq_true rfl) rfl (fun ad => ?_)
  refine g_aload_n (pc' := 1) dX5_begin_0 rfl rfl ?_
  refine g_iconst (pc' := 2) (v := 1) dX5_begin_1 rfl rfl ?_
  refine gpX5_9 (pc' := 5) rfl dX5_begin_2 rfl l5 ?_
  refine g_aload_n (pc' := 6) dX5_begin_5 rfl rfl ?_
  refine g_iconst (pc' := 7) (v := 0) dX5_begin_6 rfl rfl ?_
  refine gpX5_15 (pc' := 10) rfl dX5_begin_7 rfl l5 ?_
  refine g_vret dX5_begin_10 rfl (Nat.le_of_ble_eq_true rfl) (Nat.le_of_ble_eq_true rfl) ?_
  exact hQ

def tReady (S : gS) (j t : Nat) (now done : Int32) : Bool := decide ((fI S 163 j t = 1 ∨ fI S 163 j t = 2 ∧ fI S 165 j t ≤ now) ∧ fI S 160 j t &&& (done ^^^ (-1)) = 0)
set_option maxRecDepth 100000 in
theorem kX5_isReady {E : gE} {S : gS} {j t : Nat} {now done : Int32} {Q : Option gV → gS → Prop} (l5 : lv S 5 j t) (hQ : Q (some (vI (bI (tReady S j t now done)))) S) : gRun E mX5_isReady 1 0 0 [vR 5 j t, vI now, vI done] S [] Q := by
  refine gRun_of (ls := [some (vR 5 j t), some (vI now), some (vI done), none]) rfl (Nat.le_of_ble_eq_true rfl) rfl (fun ad => ?_)
  refine g_aload_n (pc' := 1) dX5_isReady_0 rfl rfl ?_
  refine ggX5_9 (pc' := 4) rfl dX5_isReady_1 rfl l5 ?_
  refine g_iconst (pc' := 5) (v := 1) dX5_isReady_4 rfl rfl ?_
  refine g_icmp_eq dX5_isReady_5 (tg := 24) (pc' := 8) (by decide) rfl (fun h5 => ?_) (fun h5 => ?_)
  · refine g_iconst (pc' := 25) (v := 1) dX5_isReady_24 rfl rfl ?_
    refine g_goto dX5_isReady_25 (pc' := 29) (by decide) ?_
    refine gistore_n3 (pc' := 30) dX5_isReady_29 rfl (Nat.le_of_ble_eq_true rfl) rfl ?_
    refine g_iload_n (pc' := 31) dX5_isReady_30 rfl rfl ?_
    refine g_if_eq dX5_isReady_31 (tg := 49) (pc' := 34) (by decide) rfl (fun h31 => absurd h31 (by decide)) (fun h31 => ?_)
    refine g_aload_n (pc' := 35) dX5_isReady_34 rfl rfl ?_
    refine ggX5_21 (pc' := 38) rfl dX5_isReady_35 rfl l5 ?_
    refine g_iload_n (pc' := 39) dX5_isReady_38 rfl rfl ?_
    refine g_iconst (pc' := 40) (v := (-1)) dX5_isReady_39 rfl rfl ?_
    refine g_ixor (pc' := 41) dX5_isReady_40 rfl ?_
    refine g_iand (pc' := 42) dX5_isReady_41 rfl ?_
    refine g_if_ne dX5_isReady_42 (tg := 49) (pc' := 45) (by decide) rfl (fun h42 => ?_) (fun h42 => ?_)
    · refine g_iconst (pc' := 50) (v := 0) dX5_isReady_49 rfl rfl ?_
      refine g_iret dX5_isReady_50 rfl rfl (Nat.le_of_ble_eq_true rfl) (Nat.le_of_ble_eq_true rfl) ?_
      exact gq hQ (by simp only [bI, tReady, Int32.lt_iff_toInt_lt, Int32.le_iff_toInt_le] at *; simp_all <;> (intros; omega))
    · refine g_iconst (pc' := 46) (v := 1) dX5_isReady_45 rfl rfl ?_
      refine g_goto dX5_isReady_46 (pc' := 50) (by decide) ?_
      refine g_iret dX5_isReady_50 rfl rfl (Nat.le_of_ble_eq_true rfl) (Nat.le_of_ble_eq_true rfl) ?_
      exact gq hQ (by simp only [bI, tReady, Int32.lt_iff_toInt_lt, Int32.le_iff_toInt_le] at *; simp_all <;> (intros; omega))
  · refine g_aload_n (pc' := 9) dX5_isReady_8 rfl rfl ?_
    refine ggX5_9 (pc' := 12) rfl dX5_isReady_9 rfl l5 ?_
    refine g_iconst (pc' := 13) (v := 2) dX5_isReady_12 rfl rfl ?_
    refine g_icmp_ne dX5_isReady_13 (tg := 28) (pc' := 16) (by decide) rfl (fun h13 => ?_) (fun h13 => ?_)
    · refine g_iconst (pc' := 29) (v := 0) dX5_isReady_28 rfl rfl ?_
      refine gistore_n3 (pc' := 30) dX5_isReady_29 rfl (Nat.le_of_ble_eq_true rfl) rfl ?_
      refine g_iload_n (pc' := 31) dX5_isReady_30 rfl rfl ?_
      refine g_if_eq dX5_isReady_31 (tg := 49) (pc' := 34) (by decide) rfl (fun h31 => ?_) (fun h31 => absurd (by decide) h31)
      refine g_iconst (pc' := 50) (v := 0) dX5_isReady_49 rfl rfl ?_
      refine g_iret dX5_isReady_50 rfl rfl (Nat.le_of_ble_eq_true rfl) (Nat.le_of_ble_eq_true rfl) ?_
      exact gq hQ (by simp only [bI, tReady, Int32.lt_iff_toInt_lt, Int32.le_iff_toInt_le] at *; simp_all <;> (intros; omega))
    · refine g_aload_n (pc' := 17) dX5_isReady_16 rfl rfl ?_
      refine ggX5_18 (pc' := 20) rfl dX5_isReady_17 rfl l5 ?_
      refine g_iload_n (pc' := 21) dX5_isReady_20 rfl rfl ?_
      refine g_icmp_gt dX5_isReady_21 (tg := 28) (pc' := 24) (by decide) rfl (fun h21 => ?_) (fun h21 => ?_)
      · refine g_iconst (pc' := 29) (v := 0) dX5_isReady_28 rfl rfl ?_
        refine gistore_n3 (pc' := 30) dX5_isReady_29 rfl (Nat.le_of_ble_eq_true rfl) rfl ?_
        refine g_iload_n (pc' := 31) dX5_isReady_30 rfl rfl ?_
        refine g_if_eq dX5_isReady_31 (tg := 49) (pc' := 34) (by decide) rfl (fun h31 => ?_) (fun h31 => absurd (by decide) h31)
        refine g_iconst (pc' := 50) (v := 0) dX5_isReady_49 rfl rfl ?_
        refine g_iret dX5_isReady_50 rfl rfl (Nat.le_of_ble_eq_true rfl) (Nat.le_of_ble_eq_true rfl) ?_
        exact gq hQ (by simp only [bI, tReady, Int32.lt_iff_toInt_lt, Int32.le_iff_toInt_le] at *; simp_all <;> (intros; omega))
      · refine g_iconst (pc' := 25) (v := 1) dX5_isReady_24 rfl rfl ?_
        refine g_goto dX5_isReady_25 (pc' := 29) (by decide) ?_
        refine gistore_n3 (pc' := 30) dX5_isReady_29 rfl (Nat.le_of_ble_eq_true rfl) rfl ?_
        refine g_iload_n (pc' := 31) dX5_isReady_30 rfl rfl ?_
        refine g_if_eq dX5_isReady_31 (tg := 49) (pc' := 34) (by decide) rfl (fun h31 => absurd h31 (by decide)) (fun h31 => ?_)
        refine g_aload_n (pc' := 35) dX5_isReady_34 rfl rfl ?_
        refine ggX5_21 (pc' := 38) rfl dX5_isReady_35 rfl l5 ?_
        refine g_iload_n (pc' := 39) dX5_isReady_38 rfl rfl ?_
        refine g_iconst (pc' := 40) (v := (-1)) dX5_isReady_39 rfl rfl ?_
        refine g_ixor (pc' := 41) dX5_isReady_40 rfl ?_
        refine g_iand (pc' := 42) dX5_isReady_41 rfl ?_
        refine g_if_ne dX5_isReady_42 (tg := 49) (pc' := 45) (by decide) rfl (fun h42 => ?_) (fun h42 => ?_)
        · refine g_iconst (pc' := 50) (v := 0) dX5_isReady_49 rfl rfl ?_
          refine g_iret dX5_isReady_50 rfl rfl (Nat.le_of_ble_eq_true rfl) (Nat.le_of_ble_eq_true rfl) ?_
          exact gq hQ (by simp only [bI, tReady, Int32.lt_iff_toInt_lt, Int32.le_iff_toInt_le] at *; simp_all <;> (intros; omega))
        · refine g_iconst (pc' := 46) (v := 1) dX5_isReady_45 rfl rfl ?_
          refine g_goto dX5_isReady_46 (pc' := 50) (by decide) ?_
          refine g_iret dX5_isReady_50 rfl rfl (Nat.le_of_ble_eq_true rfl) (Nat.le_of_ble_eq_true rfl) ?_
          exact gq hQ (by simp only [bI, tReady, Int32.lt_iff_toInt_lt, Int32.le_iff_toInt_le] at *; simp_all <;> (intros; omega))

def tAgain (S : gS) (j t : Nat) : Bool := decide (fI S 164 j t + 1 < fI S 161 j t)
def tTry (S : gS) (j t : Nat) (now : Int32) : gS := if fI S 164 j t + 1 < fI S 161 j t then sfI (sfI (sfI S 164 j t (fI S 164 j t + 1)) 163 j t 2) 165 j t (now + (fI S 162 j t <<< (fI S 164 j t &&& 31))) else sfI S 164 j t (fI S 164 j t + 1)
set_option maxRecDepth 100000 in
theorem kX5_tryAgain {E : gE} {S : gS} {j t : Nat} {now : Int32} {Q : Option gV → gS → Prop} (l5 : lv S 5 j t) (hQ : Q (some (vI (bI (tAgain S j t)))) (tTry S j t now)) : gRun E mX5_tryAgain 1 0 0 [vR 5 j t, vI now] S [] Q := by
  refine gRun_of (ls := [some (vR 5 j t), some (vI now), none]) rfl (Nat.le_of_ble_eq_true rfl) rfl (fun ad => ?_)
  refine g_aload_n (pc' := 1) dX5_tryAgain_0 rfl rfl ?_
  refine ggX5_15 (pc' := 4) rfl dX5_tryAgain_1 rfl l5 ?_
  refine gistore_n2 (pc' := 5) dX5_tryAgain_4 rfl (Nat.le_of_ble_eq_true rfl) rfl ?_
  refine g_aload_n (pc' := 6) dX5_tryAgain_5 rfl rfl ?_
  refine g_dup (pc' := 7) dX5_tryAgain_6 rfl rfl ?_
  refine ggX5_15 (pc' := 10) rfl dX5_tryAgain_7 rfl l5 ?_
  refine g_iconst (pc' := 11) (v := 1) dX5_tryAgain_10 rfl rfl ?_
  refine g_iadd (pc' := 12) dX5_tryAgain_11 rfl ?_
  refine gpX5_15 (pc' := 15) rfl dX5_tryAgain_12 rfl l5 ?_
  refine g_aload_n (pc' := 16) dX5_tryAgain_15 rfl rfl ?_
  refine ggX5_15 (pc' := 19) rfl dX5_tryAgain_16 rfl l5 ?_
  refine g_aload_n (pc' := 20) dX5_tryAgain_19 rfl rfl ?_
  refine ggX5_24 (pc' := 23) rfl dX5_tryAgain_20 rfl l5 ?_
  refine g_icmp_lt dX5_tryAgain_23 (tg := 28) (pc' := 26) (by decide) rfl (fun h23 => ?_) (fun h23 => ?_)
  · refine g_aload_n (pc' := 29) dX5_tryAgain_28 rfl rfl ?_
    refine g_iconst (pc' := 30) (v := 2) dX5_tryAgain_29 rfl rfl ?_
    refine gpX5_9 (pc' := 33) rfl dX5_tryAgain_30 rfl l5 ?_
    refine g_aload_n (pc' := 34) dX5_tryAgain_33 rfl rfl ?_
    refine g_iload_n (pc' := 35) dX5_tryAgain_34 rfl rfl ?_
    refine g_aload_n (pc' := 36) dX5_tryAgain_35 rfl rfl ?_
    refine ggX5_27 (pc' := 39) rfl dX5_tryAgain_36 rfl l5 ?_
    refine g_iload_n (pc' := 40) dX5_tryAgain_39 rfl rfl ?_
    refine g_ishl (pc' := 41) dX5_tryAgain_40 rfl ?_
    refine g_iadd (pc' := 42) dX5_tryAgain_41 rfl ?_
    refine gpX5_18 (pc' := 45) rfl dX5_tryAgain_42 rfl l5 ?_
    refine g_iconst (pc' := 46) (v := 1) dX5_tryAgain_45 rfl rfl ?_
    refine g_iret dX5_tryAgain_46 rfl rfl (Nat.le_of_ble_eq_true rfl) (Nat.le_of_ble_eq_true rfl) ?_
    simp only [fI_sfI, fR_sfI, aI_sfI, aL_sfI, aR_sfI, gL_sfI, fI_sfR, fR_sfR, aI_sfR, aL_sfR, aR_sfR, gL_sfR, fI_saI, fR_saI, aI_saI, aL_saI, aR_saI, gL_saI, fI_saL, fR_saL, aI_saL, aL_saL, aR_saL, gL_saL, fI_saR, fR_saR, aI_saR, aL_saR, aR_saR, gL_saR, Nat.reduceEqDiff, reduceIte, and_self, and_true, true_and, false_and, and_false] at h23
    exact gq2 hQ (by simp only [bI, tAgain, Int32.lt_iff_toInt_lt, Int32.le_iff_toInt_le] at *; simp_all <;> (intros; omega)) (by unfold tTry; first | (rw [if_pos h23]; done) | (rw [if_pos h23]; simp [fI_sfI, fR_sfI, aI_sfI, aL_sfI, aR_sfI, gL_sfI, fI_sfR, fR_sfR, aI_sfR, aL_sfR, aR_sfR, gL_sfR, fI_saI, fR_saI, aI_saI, aL_saI, aR_saI, gL_saI, fI_saL, fR_saL, aI_saL, aL_saL, aR_saL, gL_saL, fI_saR, fR_saR, aI_saR, aL_saR, aR_saR, gL_saR]; done) | rw [if_neg h23])
  · refine g_iconst (pc' := 27) (v := 0) dX5_tryAgain_26 rfl rfl ?_
    refine g_iret dX5_tryAgain_27 rfl rfl (Nat.le_of_ble_eq_true rfl) (Nat.le_of_ble_eq_true rfl) ?_
    simp only [fI_sfI, fR_sfI, aI_sfI, aL_sfI, aR_sfI, gL_sfI, fI_sfR, fR_sfR, aI_sfR, aL_sfR, aR_sfR, gL_sfR, fI_saI, fR_saI, aI_saI, aL_saI, aR_saI, gL_saI, fI_saL, fR_saL, aI_saL, aL_saL, aR_saL, gL_saL, fI_saR, fR_saR, aI_saR, aL_saR, aR_saR, gL_saR, Nat.reduceEqDiff, reduceIte, and_self, and_true, true_and, false_and, and_false] at h23
    exact gq2 hQ (by simp only [bI, tAgain, Int32.lt_iff_toInt_lt, Int32.le_iff_toInt_le] at *; simp_all <;> (intros; omega)) (by unfold tTry; first | (rw [if_pos h23]; done) | (rw [if_pos h23]; simp [fI_sfI, fR_sfI, aI_sfI, aL_sfI, aR_sfI, gL_sfI, fI_sfR, fR_sfR, aI_sfR, aL_sfR, aR_sfR, gL_sfR, fI_saI, fR_saI, aI_saI, aL_saI, aR_saI, gL_saI, fI_saL, fR_saL, aI_saL, aL_saL, aR_saL, gL_saL, fI_saR, fR_saR, aI_saR, aL_saR, aR_saR, gL_saR]; done) | rw [if_neg h23])

set_option maxRecDepth 100000 in
theorem kX5_init {E : gE} {S : gS} {j t : Nat} {nd mt pz : Int32} {Q : Option gV → gS → Prop} (l5 : lv S 5 j t) (hQ : Q none (sfI (sfI (sfI (sfI (sfI (sfI S 163 j t 0) 164 j t 0) 165 j t 0) 160 j t nd) 161 j t mt) 162 j t pz)) : gRun E mX5_init 2 0 0 [vR 5 j t, vI nd, vI mt, vI pz] S [] Q := by
  refine gRun_of (ls := [some (vR 5 j t), some (vI nd), some (vI mt), some (vI pz)]) rfl (Nat.le_of_ble_eq_true rfl) rfl (fun ad => ?_)
  refine g_aload_n (pc' := 1) dX5_init_0 rfl rfl ?_
  refine g_objInit (pc' := 4) oiX5 oi1 oi2 dX5_init_1 rfl (Nat.le_of_ble_eq_true rfl) (Nat.le_of_ble_eq_true rfl) ?_
  refine g_aload_n (pc' := 5) dX5_init_4 rfl rfl ?_
  refine g_iconst (pc' := 6) (v := 0) dX5_init_5 rfl rfl ?_
  refine gpX5_9 (pc' := 9) rfl dX5_init_6 rfl l5 ?_
  refine g_aload_n (pc' := 10) dX5_init_9 rfl rfl ?_
  refine g_iconst (pc' := 11) (v := 0) dX5_init_10 rfl rfl ?_
  refine gpX5_15 (pc' := 14) rfl dX5_init_11 rfl l5 ?_
  refine g_aload_n (pc' := 15) dX5_init_14 rfl rfl ?_
  refine g_iconst (pc' := 16) (v := 0) dX5_init_15 rfl rfl ?_
  refine gpX5_18 (pc' := 19) rfl dX5_init_16 rfl l5 ?_
  refine g_aload_n (pc' := 20) dX5_init_19 rfl rfl ?_
  refine g_iload_n (pc' := 21) dX5_init_20 rfl rfl ?_
  refine gpX5_21 (pc' := 24) rfl rfl dX5_init_21 rfl l5 ?_
  refine g_aload_n (pc' := 25) dX5_init_24 rfl rfl ?_
  refine g_iload_n (pc' := 26) dX5_init_25 rfl rfl ?_
  refine gpX5_24 (pc' := 29) rfl rfl dX5_init_26 rfl l5 ?_
  refine g_aload_n (pc' := 30) dX5_init_29 rfl rfl ?_
  refine g_iload_n (pc' := 31) dX5_init_30 rfl rfl ?_
  refine gpX5_27 (pc' := 34) rfl rfl dX5_init_31 rfl l5 ?_
  refine g_vret dX5_init_34 rfl (Nat.le_of_ble_eq_true rfl) (Nat.le_of_ble_eq_true rfl) ?_
  exact hQ

def tLog (S : gS) (n : Nat) (k m j t : Int32) : gS := sfI (saI (saI (saI (saI S 13 0 (n % 64 * 4) k) 13 0 (n % 64 * 4 + 1) m) 13 0 (n % 64 * 4 + 2) j) 13 0 (n % 64 * 4 + 3) t) 97 0 0 (nI (n + 1))
theorem log_ix {n : Nat} (h : n < 2 ^ 30) (a : Nat) : nI n % 64 * 4 + nI a = nI (n % 64 * 4 + a) := by
  rw [show (64 : Int32) = nI 64 from rfl, nI_rem (by omega) (by decide) (by decide), show (4 : Int32) = nI 4 from rfl, pk_mul, nI_add]
theorem log_ix0 {n : Nat} (h : n < 2 ^ 30) : nI n % 64 * 4 = nI (n % 64 * 4) := by
  rw [show (64 : Int32) = nI 64 from rfl, nI_rem (by omega) (by decide) (by decide), show (4 : Int32) = nI 4 from rfl, pk_mul]
set_option maxRecDepth 100000 in
theorem kX3_add {E : gE} {S : gS} {n : Nat} {k m j t : Int32} {Q : Option gV → gS → Prop} (l3 : lv S 3 0 0) (l13 : lv S 13 0 0) (r96 : fR S 96 0 0 = some (13, 0, 0)) (hn : n < 2 ^ 30) (h97 : fI S 97 0 0 = nI n) (hQ : Q none (tLog S n k m j t)) : gRun E mX3_add 1 0 0 [vR 3 0 0, vI k, vI m, vI j, vI t] S [] Q := by
  refine gRun_of (ls := [some (vR 3 0 0), some (vI k), some (vI m), some (vI j), some (vI t), none]) rfl (Nat.le_of_ble_eq_true rfl) rfl (fun ad => ?_)
  refine g_aload_n (pc' := 1) dX3_add_0 rfl rfl ?_
  refine ggX3_13 (pc' := 4) rfl dX3_add_1 rfl l3 ?_
  refine g_bipush (pc' := 6) (v := 64) dX3_add_4 rfl rfl ?_
  refine g_irem (pc' := 7) dX3_add_6 rfl (by decide) ?_
  refine g_iconst (pc' := 8) (v := 4) dX3_add_7 rfl rfl ?_
  refine g_imul (pc' := 9) dX3_add_8 rfl ?_
  refine gistore5 (pc' := 11) dX3_add_9 rfl (Nat.le_of_ble_eq_true rfl) rfl ?_
  rw [h97, log_ix0 hn]
  refine g_aload_n (pc' := 12) dX3_add_11 rfl rfl ?_
  refine ggX3_9 (pc' := 15) rfl dX3_add_12 rfl l3 r96 ?_
  refine g_iload (pc' := 17) dX3_add_15 rfl rfl ?_
  refine g_iload_n (pc' := 18) dX3_add_17 rfl rfl ?_
  refine g_iast (pc' := 19) (n := n % 64 * 4) dX3_add_18 rfl (by decide) rfl rfl (show n % 64 * 4 < 256 by omega) l13 ?_
  refine g_aload_n (pc' := 20) dX3_add_19 rfl rfl ?_
  refine ggX3_9 (pc' := 23) rfl dX3_add_20 rfl l3 r96 ?_
  refine g_iload (pc' := 25) dX3_add_23 rfl rfl ?_
  refine g_iconst (pc' := 26) (v := 1) dX3_add_25 rfl rfl ?_
  refine g_iadd (pc' := 27) dX3_add_26 rfl ?_
  refine g_iload_n (pc' := 28) dX3_add_27 rfl rfl ?_
  refine g_iast (pc' := 29) (n := n % 64 * 4 + 1) dX3_add_28 rfl (by decide) rfl (nI_add _ 1) (show n % 64 * 4 + 1 < 256 by omega) l13 ?_
  refine g_aload_n (pc' := 30) dX3_add_29 rfl rfl ?_
  refine ggX3_9 (pc' := 33) rfl dX3_add_30 rfl l3 r96 ?_
  refine g_iload (pc' := 35) dX3_add_33 rfl rfl ?_
  refine g_iconst (pc' := 36) (v := 2) dX3_add_35 rfl rfl ?_
  refine g_iadd (pc' := 37) dX3_add_36 rfl ?_
  refine g_iload_n (pc' := 38) dX3_add_37 rfl rfl ?_
  refine g_iast (pc' := 39) (n := n % 64 * 4 + 2) dX3_add_38 rfl (by decide) rfl (nI_add _ 2) (show n % 64 * 4 + 2 < 256 by omega) l13 ?_
  refine g_aload_n (pc' := 40) dX3_add_39 rfl rfl ?_
  refine ggX3_9 (pc' := 43) rfl dX3_add_40 rfl l3 r96 ?_
  refine g_iload (pc' := 45) dX3_add_43 rfl rfl ?_
  refine g_iconst (pc' := 46) (v := 3) dX3_add_45 rfl rfl ?_
  refine g_iadd (pc' := 47) dX3_add_46 rfl ?_
  refine g_iload (pc' := 49) dX3_add_47 rfl rfl ?_
  refine g_iast (pc' := 50) (n := n % 64 * 4 + 3) dX3_add_49 rfl (by decide) rfl (nI_add _ 3) (show n % 64 * 4 + 3 < 256 by omega) l13 ?_
  
  refine g_aload_n (pc' := 51) dX3_add_50 rfl rfl ?_
  refine g_dup (pc' := 52) dX3_add_51 rfl rfl ?_
  refine ggX3_13 (pc' := 55) rfl dX3_add_52 rfl l3 ?_
  refine g_iconst (pc' := 56) (v := 1) dX3_add_55 rfl rfl ?_
  refine g_iadd (pc' := 57) dX3_add_56 rfl ?_
  refine gpX3_13 (pc' := 60) rfl dX3_add_57 rfl l3 ?_
  refine g_vret dX3_add_60 rfl (Nat.le_of_ble_eq_true rfl) (Nat.le_of_ble_eq_true rfl) ?_
  exact gqv hQ (by simp only [tLog, fI_sfI, fR_sfI, aI_sfI, aL_sfI, aR_sfI, gL_sfI, fI_sfR, fR_sfR, aI_sfR, aL_sfR, aR_sfR, gL_sfR, fI_saI, fR_saI, aI_saI, aL_saI, aR_saI, gL_saI, fI_saL, fR_saL, aI_saL, aL_saL, aR_saL, gL_saL, fI_saR, fR_saR, aI_saR, aL_saR, aR_saR, gL_saR]; rw [h97, nI_1])

set_option maxRecDepth 100000 in
theorem kX3_keeps {E : gE} {S : gS} {b : Int32} {Q : Option gV → gS → Prop} (l3 : lv S 3 0 0) (hQ : Q (some (vI (bI (decide (0 ≤ b ∧ b < 64 ∧ b < fI S 97 0 0))))) S) : gRun E mX3_keeps 1 0 0 [vR 3 0 0, vI b] S [] Q := by
  refine gRun_of (ls := [some (vR 3 0 0), some (vI b)]) rfl (Nat.le_of_ble_eq_true rfl) rfl (fun ad => ?_)
  refine g_iload_n (pc' := 1) dX3_keeps_0 rfl rfl ?_
  refine g_if_lt dX3_keeps_1 (tg := 22) (pc' := 4) (by decide) rfl (fun h1 => ?_) (fun h1 => ?_)
  · refine g_iconst (pc' := 23) (v := 0) dX3_keeps_22 rfl rfl ?_
    refine g_iret dX3_keeps_23 rfl rfl (Nat.le_of_ble_eq_true rfl) (Nat.le_of_ble_eq_true rfl) ?_
    exact gq hQ (by simp only [bI,  Int32.lt_iff_toInt_lt, Int32.le_iff_toInt_le] at *; simp_all <;> (intros; omega))
  · refine g_iload_n (pc' := 5) dX3_keeps_4 rfl rfl ?_
    refine g_bipush (pc' := 7) (v := 64) dX3_keeps_5 rfl rfl ?_
    refine g_icmp_ge dX3_keeps_7 (tg := 22) (pc' := 10) (by decide) rfl (fun h7 => ?_) (fun h7 => ?_)
    · refine g_iconst (pc' := 23) (v := 0) dX3_keeps_22 rfl rfl ?_
      refine g_iret dX3_keeps_23 rfl rfl (Nat.le_of_ble_eq_true rfl) (Nat.le_of_ble_eq_true rfl) ?_
      exact gq hQ (by simp only [bI,  Int32.lt_iff_toInt_lt, Int32.le_iff_toInt_le] at *; simp_all <;> (intros; omega))
    · refine g_iload_n (pc' := 11) dX3_keeps_10 rfl rfl ?_
      refine g_aload_n (pc' := 12) dX3_keeps_11 rfl rfl ?_
      refine ggX3_13 (pc' := 15) rfl dX3_keeps_12 rfl l3 ?_
      refine g_icmp_ge dX3_keeps_15 (tg := 22) (pc' := 18) (by decide) rfl (fun h15 => ?_) (fun h15 => ?_)
      · refine g_iconst (pc' := 23) (v := 0) dX3_keeps_22 rfl rfl ?_
        refine g_iret dX3_keeps_23 rfl rfl (Nat.le_of_ble_eq_true rfl) (Nat.le_of_ble_eq_true rfl) ?_
        exact gq hQ (by simp only [bI,  Int32.lt_iff_toInt_lt, Int32.le_iff_toInt_le] at *; simp_all <;> (intros; omega))
      · refine g_iconst (pc' := 19) (v := 1) dX3_keeps_18 rfl rfl ?_
        refine g_goto dX3_keeps_19 (pc' := 23) (by decide) ?_
        refine g_iret dX3_keeps_23 rfl rfl (Nat.le_of_ble_eq_true rfl) (Nat.le_of_ble_eq_true rfl) ?_
        exact gq hQ (by simp only [bI,  Int32.lt_iff_toInt_lt, Int32.le_iff_toInt_le] at *; simp_all <;> (intros; omega))

set_option maxRecDepth 100000 in
theorem kX3_read {E : gE} {S : gS} {n b p : Nat} {Q : Option gV → gS → Prop} (l3 : lv S 3 0 0) (l13 : lv S 13 0 0) (r96 : fR S 96 0 0 = some (13, 0, 0)) (hn : n < 2 ^ 30) (h97 : fI S 97 0 0 = nI n) (hb : b < n) (hp : p < 4) (hQ : Q (some (vI (aI S 13 0 ((n - 1 - b) % 64 * 4 + p)))) S) : gRun E mX3_read 1 0 0 [vR 3 0 0, vI (nI b), vI (nI p)] S [] Q := by
  refine gRun_of (ls := [some (vR 3 0 0), some (vI (nI b)), some (vI (nI p))]) rfl (Nat.le_of_ble_eq_true rfl) rfl (fun ad => ?_)
  refine g_aload_n (pc' := 1) dX3_read_0 rfl rfl ?_
  refine ggX3_9 (pc' := 4) rfl dX3_read_1 rfl l3 r96 ?_
  refine g_aload_n (pc' := 5) dX3_read_4 rfl rfl ?_
  refine ggX3_13 (pc' := 8) rfl dX3_read_5 rfl l3 ?_
  refine g_iconst (pc' := 9) (v := 1) dX3_read_8 rfl rfl ?_
  refine g_isub (pc' := 10) dX3_read_9 rfl ?_
  refine g_iload_n (pc' := 11) dX3_read_10 rfl rfl ?_
  refine g_isub (pc' := 12) dX3_read_11 rfl ?_
  refine g_bipush (pc' := 14) (v := 64) dX3_read_12 rfl rfl ?_
  refine g_irem (pc' := 15) dX3_read_14 rfl (by decide) ?_
  refine g_iconst (pc' := 16) (v := 4) dX3_read_15 rfl rfl ?_
  refine g_imul (pc' := 17) dX3_read_16 rfl ?_
  refine g_iload_n (pc' := 18) dX3_read_17 rfl rfl ?_
  refine g_iadd (pc' := 19) dX3_read_18 rfl ?_
  refine g_iald (pc' := 20) (n := (n - 1 - b) % 64 * 4 + p) dX3_read_19 rfl (by decide) rfl (by rw [h97, show (1 : Int32) = nI 1 from rfl, pk_sub (by omega), pk_sub (by omega), log_ix (by omega)]) (show (n - 1 - b) % 64 * 4 + p < 256 by omega) l13 ?_
  refine g_iret dX3_read_20 rfl rfl (Nat.le_of_ble_eq_true rfl) (Nat.le_of_ble_eq_true rfl) ?_
  exact hQ

set_option maxRecDepth 100000 in
theorem kX6_clear {E : gE} {S : gS} {Q : Option gV → gS → Prop} (l6 : lv S 6 0 0) (hQ : Q none (sfI S 193 0 0 0)) : gRun E mX6_clear 1 0 0 [vR 6 0 0] S [] Q := by
  refine gRun_of (ls := [some (vR 6 0 0)]) rfl (Nat.le_of_ble_eq_true rfl) rfl (fun ad => ?_)
  refine g_aload_n (pc' := 1) dX6_clear_0 rfl rfl ?_
  refine g_iconst (pc' := 2) (v := 0) dX6_clear_1 rfl rfl ?_
  refine gpX6_13 (pc' := 5) rfl dX6_clear_2 rfl l6 ?_
  refine g_vret dX6_clear_5 rfl (Nat.le_of_ble_eq_true rfl) (Nat.le_of_ble_eq_true rfl) ?_
  exact hQ

def tSign (S : gS) (len p : Nat) : Int32 := if p < len then aI S 10 0 p else 0
set_option maxRecDepth 100000 in
theorem kX6_signAt {E : gE} {S : gS} {n p : Nat} {Q : Option gV → gS → Prop} (l6 : lv S 6 0 0) (l10 : lv S 10 0 0) (r192 : fR S 192 0 0 = some (10, 0, 0)) (hn : n ≤ 60) (hp : p < 2 ^ 30) (h193 : fI S 193 0 0 = nI n) (hc : ∀ i, i < n → ∃ c : Nat, c < 65536 ∧ aI S 10 0 i = nI c) (hQ : Q (some (vI (tSign S n p))) S) : gRun E mX6_signAt 1 0 0 [vR 6 0 0, vI (nI p)] S [] Q := by
  refine gRun_of (ls := [some (vR 6 0 0), some (vI (nI p))]) rfl (Nat.le_of_ble_eq_true rfl) rfl (fun ad => ?_)
  refine g_iload_n (pc' := 1) dX6_signAt_0 rfl rfl ?_
  refine g_if_lt dX6_signAt_1 (tg := 21) (pc' := 4) (by decide) rfl (fun h1 => absurd h1 (nI_pos (by omega))) (fun h1 => ?_)
  refine g_iload_n (pc' := 5) dX6_signAt_4 rfl rfl ?_
  refine g_aload_n (pc' := 6) dX6_signAt_5 rfl rfl ?_
  refine ggX6_13 (pc' := 9) rfl dX6_signAt_6 rfl l6 ?_
  refine g_icmp_ge dX6_signAt_9 (tg := 21) (pc' := 12) (by decide) rfl (fun h9 => ?_) (fun h9 => ?_)
  · refine g_iconst (pc' := 22) (v := 0) dX6_signAt_21 rfl rfl ?_
    refine g_iret dX6_signAt_22 rfl (by first | rfl | (rw [hc2]; exact (pk_charN hc1).1)) (Nat.le_of_ble_eq_true rfl) (Nat.le_of_ble_eq_true rfl) ?_
    first
      | exact gq hQ (if_pos hpn)
      | exact gq hQ (by rw [h193, nI_leI (by omega) (by omega)] at h9; exact if_neg (Nat.not_lt.mpr h9))
  · rw [h193] at h9
    have hpn : p < n := by
      rcases Nat.lt_or_ge p n with q | q
      · exact q
      · exact absurd (nI_le q (by omega)) h9
    obtain ⟨c, hc1, hc2⟩ := hc p hpn
    refine g_aload_n (pc' := 13) dX6_signAt_12 rfl rfl ?_
    refine ggX6_9 (pc' := 16) rfl dX6_signAt_13 rfl l6 r192 ?_
    refine g_iload_n (pc' := 17) dX6_signAt_16 rfl rfl ?_
    refine g_cald (pc' := 18) (n := p) dX6_signAt_17 rfl (by decide) rfl rfl (show p < 60 by omega) l10 ?_
    refine g_goto dX6_signAt_18 (pc' := 22) (by decide) ?_
    refine g_iret dX6_signAt_22 rfl (by first | rfl | (rw [hc2]; exact (pk_charN hc1).1)) (Nat.le_of_ble_eq_true rfl) (Nat.le_of_ble_eq_true rfl) ?_
    first
      | exact gq hQ (if_pos hpn)
      | exact gq hQ (by rw [h193, nI_leI (by omega) (by omega)] at h9; exact if_neg (Nat.not_lt.mpr h9))
end
section
/-! THE CLASS (2): dates; Day -/
theorem nz {a : Nat} (h : a < 2 ^ 31) : nI a = 0 ↔ a = 0 := by
  rw [← nI_0]; exact nI_eq h (by decide)
theorem nI_m1 {a : Nat} (h : 1 ≤ a) : nI a - 1 = nI (a - 1) := pk_sub h
def leap (y : Nat) : Bool := decide ((y % 4 = 0 ∧ y % 100 ≠ 0) ∨ y % 400 = 0)
def yl (y : Nat) : Nat := if leap y = true then 366 else 365
def ml (y m : Nat) : Nat := if m = 2 then (if leap y = true then 29 else 28) else if m = 4 ∨ m = 6 ∨ m = 9 ∨ m = 11 then 30 else 31
def cyr : Nat → Nat
  | 0 => 0
  | n + 1 => cyr n + yl (2000 + n)
def cmo (y : Nat) : Nat → Nat
  | 0 => 0
  | n + 1 => cmo y n + ml y (n + 1)
def isDate (w y m d : Nat) : Prop := 2000 ≤ y ∧ 1 ≤ m ∧ m ≤ 12 ∧ 1 ≤ d ∧ d ≤ ml y m ∧ w = cyr (y - 2000) + cmo y (m - 1) + (d - 1)
theorem ml_pos (y m : Nat) : 28 ≤ ml y m ∧ ml y m ≤ 31 := by
  unfold ml; split
  · split <;> omega
  · split <;> omega
theorem yl_in (y : Nat) : 365 ≤ yl y ∧ yl y ≤ 366 := by unfold yl; split <;> omega
theorem cmo_12 (y : Nat) : cmo y 12 = yl y := by
  simp only [cmo, ml, yl]
  cases leap y <;> decide
theorem cmo_mono (y : Nat) : ∀ {a b : Nat}, a ≤ b → cmo y a ≤ cmo y b := by
  intro a b h
  induction h with
  | refl => exact Nat.le_refl _
  | step h ih => exact Nat.le_trans ih (Nat.le_add_right _ _)
theorem cyr_mono : ∀ {a b : Nat}, a ≤ b → cyr a ≤ cyr b := by
  intro a b h
  induction h with
  | refl => exact Nat.le_refl _
  | step h ih => exact Nat.le_trans ih (Nat.le_add_right _ _)
theorem cyr_ge (n : Nat) : 365 * n ≤ cyr n := by
  induction n with
  | zero => exact Nat.le_refl _
  | succ n ih => have := (yl_in (2000 + n)).1; simp only [cyr]; omega
/-- inside the year -/
theorem isDate.year {w y m d : Nat} (h : isDate w y m d) : cyr (y - 2000) ≤ w ∧ w < cyr (y - 2000 + 1) := by
  obtain ⟨h1, h2, h3, h4, h5, h6⟩ := h
  have a1 : cmo y (m - 1) + ml y m = cmo y m := by
    obtain ⟨k, rfl⟩ : ∃ k, m = k + 1 := ⟨m - 1, by omega⟩
    rfl
  have a2 := cmo_mono y h3
  rw [cmo_12] at a2
  have a3 : cyr (y - 2000 + 1) = cyr (y - 2000) + yl y := by
    show _ + yl (2000 + (y - 2000)) = _
    rw [show 2000 + (y - 2000) = y by omega]
  omega
theorem isDate.one {w y m d y' m' d' : Nat} (h : isDate w y m d) (h' : isDate w y' m' d') : y = y' ∧ m = m' ∧ d = d' := by
  have b := h.year
  have b' := h'.year
  obtain ⟨h1, h2, h3, h4, h5, h6⟩ := h
  obtain ⟨g1, g2, g3, g4, g5, g6⟩ := h'
  have e : y = y' := by
    rcases Nat.lt_trichotomy (y - 2000) (y' - 2000) with q | q | q
    · have := cyr_mono (show y - 2000 + 1 ≤ y' - 2000 by omega); omega
    · omega
    · have := cyr_mono (show y' - 2000 + 1 ≤ y - 2000 by omega); omega
  subst e
  have a1 : cmo y (m - 1) + ml y m = cmo y m := by
    obtain ⟨k, rfl⟩ : ∃ k, m = k + 1 := ⟨m - 1, by omega⟩
    rfl
  have a2 : cmo y (m' - 1) + ml y m' = cmo y m' := by
    obtain ⟨k, rfl⟩ : ∃ k, m' = k + 1 := ⟨m' - 1, by omega⟩
    rfl
  have e2 : m = m' := by
    rcases Nat.lt_trichotomy m m' with q | q | q
    · have := cmo_mono y (show m ≤ m' - 1 by omega); omega
    · exact q
    · have := cmo_mono y (show m' ≤ m - 1 by omega); omega
  subst e2
  exact ⟨rfl, rfl, by omega⟩
theorem isDate.next {w y m d : Nat} (h : isDate w y m d) : isDate (w + 1) (if d + 1 ≤ ml y m then y else if m + 1 ≤ 12 then y else y + 1) (if d + 1 ≤ ml y m then m else if m + 1 ≤ 12 then m + 1 else 1) (if d + 1 ≤ ml y m then d + 1 else 1) := by
  obtain ⟨h1, h2, h3, h4, h5, h6⟩ := h
  obtain ⟨k, rfl⟩ : ∃ k, m = k + 1 := ⟨m - 1, by omega⟩
  by_cases c1 : d + 1 ≤ ml y (k + 1)
  · rw [if_pos c1, if_pos c1, if_pos c1]
    exact ⟨h1, h2, h3, by omega, c1, by omega⟩
  · rw [if_neg c1, if_neg c1, if_neg c1]
    have e1 : cmo y (k + 1) = cmo y k + ml y (k + 1) := rfl
    by_cases c2 : k + 1 + 1 ≤ 12
    · rw [if_pos c2, if_pos c2]
      refine ⟨h1, by omega, c2, by omega, by have := ml_pos y (k + 1 + 1); omega, ?_⟩
      have e : cmo y (k + 1 + 1 - 1) = cmo y k + ml y (k + 1) := rfl
      rw [e]
      simp only [Nat.add_sub_cancel] at h6
      omega
    · rw [if_neg c2, if_neg c2]
      have hk : k = 11 := by omega
      subst hk
      refine ⟨by omega, by omega, by omega, by omega, by have := ml_pos (y + 1) 1; omega, ?_⟩
      have e2 : cyr (y + 1 - 2000) = cyr (y - 2000) + yl y := by
        rw [show y + 1 - 2000 = (y - 2000) + 1 by omega]
        show _ + yl (2000 + (y - 2000)) = _
        rw [show 2000 + (y - 2000) = y by omega]
      have e3 := cmo_12 y
      have e4 : cmo y 12 = cmo y 11 + ml y 12 := rfl
      have e5 : cmo (y + 1) (1 - 1) = 0 := rfl
      have c3 : ¬ d + 1 ≤ ml y 12 := c1
      have c4 : d ≤ ml y 12 := h5
      have c5 : w = cyr (y - 2000) + cmo y 11 + (d - 1) := h6
      omega
theorem date_ex : ∀ w : Nat, ∃ q : Nat × Nat × Nat, isDate w q.1 q.2.1 q.2.2
  | 0 => ⟨(2000, 1, 1), by refine ⟨?_, ?_, ?_, ?_, ?_, ?_⟩ <;> decide⟩
  | w + 1 => by
    obtain ⟨q, h⟩ := date_ex w
    exact ⟨(_, _, _), h.next⟩
noncomputable def dY (w : Nat) : Nat := (Classical.choose (date_ex w)).1
noncomputable def dM (w : Nat) : Nat := (Classical.choose (date_ex w)).2.1
noncomputable def dD (w : Nat) : Nat := (Classical.choose (date_ex w)).2.2
theorem date_is (w : Nat) : isDate w (dY w) (dM w) (dD w) := Classical.choose_spec (date_ex w)
theorem date_eq {w y m d : Nat} (h : isDate w y m d) : dY w = y ∧ dM w = m ∧ dD w = d := (date_is w).one h
theorem dY_le {w : Nat} (h : w < 13890) : dY w ≤ 2038 := by
  have h1 := (date_is w).year.1
  have h2 := cyr_ge (dY w - 2000)
  omega
theorem dM_in (w : Nat) : 1 ≤ dM w ∧ dM w ≤ 12 := ⟨(date_is w).2.1, (date_is w).2.2.1⟩
theorem dD_in (w : Nat) : 1 ≤ dD w ∧ dD w ≤ 31 := by
  obtain ⟨h1, h2, h3, h4, h5, h6⟩ := date_is w
  exact ⟨h4, by have := ml_pos (dY w) (dM w); omega⟩
theorem sfI_sfI {S : gS} {g j t : Nat} {a b : Int32} : sfI (sfI S g j t a) g j t b = sfI S g j t b := by
  refine Prod.ext ?_ rfl
  funext g' j' t'
  show (if _ then _ else (if _ then _ else _)) = (if _ then _ else _)
  split <;> rfl
theorem sfI_id {S : gS} {g j t : Nat} {a : Int32} (h : fI S g j t = a) : sfI S g j t a = S := by
  refine Prod.ext ?_ rfl
  funext g' j' t'
  show (if _ then _ else _) = _
  split
  · rename_i c
    obtain ⟨rfl, rfl, rfl⟩ := c
    exact h.symm
  · rfl
/-- the leaf of the calendar, turned -/
noncomputable def tTurn (S : gS) (w : Nat) : gS := sfI (sfI (sfI (sfI S 1 0 0 (nI (dY w))) 2 0 0 (nI (dM w))) 3 0 0 (nI (dD w))) 0 0 0 (nI w)
def DayOk (S : gS) (w : Nat) : Prop := w < 13889 ∧ fI S 0 0 0 = nI w ∧ fI S 1 0 0 = nI (dY w) ∧ fI S 2 0 0 = nI (dM w) ∧ fI S 3 0 0 = nI (dD w)
theorem tTurn_ok {S : gS} {w : Nat} (h : w < 13889) : DayOk (tTurn S w) w := ⟨h, rfl, rfl, rfl, rfl⟩
theorem tTurn_ext {S S' : gS} {w : Nat} (h2 : S'.2 = S.2) (h : ∀ g j t, fI S' g j t = fI (tTurn S w) g j t) : S' = tTurn S w := Prod.ext (funext fun g => funext fun j => funext fun t => h g j t) h2
set_option maxRecDepth 100000 in
set_option maxHeartbeats 2000000 in
theorem kX0_isLeapYear {E : gE} {S : gS} {y : Nat} {Q : Option gV → gS → Prop} (l0 : lv S 0 0 0) (hy : fI S 1 0 0 = nI y) (hl : y < 2 ^ 30) (hQ : Q (some (vI (bI (leap y)))) S) : gRun E mX0_isLeapYear 1 0 0 [vR 0 0 0] S [] Q := by
  refine gRun_of (ls := [some (vR 0 0 0)]) rfl (Nat.le_of_ble_eq_true rfl) rfl (fun ad => ?_)
  have q4 := nz (a := y % 4) (by omega)
  have q100 := nz (a := y % 100) (by omega)
  have q400 := nz (a := y % 400) (by omega)
  refine g_aload_n (pc' := 1) dX0_isLeapYear_0 rfl rfl ?_
  refine ggX0_13 (pc' := 4) rfl dX0_isLeapYear_1 rfl l0 ?_
  refine g_iconst (pc' := 5) (v := 4) dX0_isLeapYear_4 rfl rfl ?_
  refine g_irem (pc' := 6) dX0_isLeapYear_5 rfl (by decide) ?_
  rw [hy, show (4 : Int32) = nI 4 from rfl, nI_rem (by omega) (by decide) (by decide)]
  refine g_if_ne dX0_isLeapYear_6 (tg := 19) (pc' := 9) (by decide) rfl (fun h6 => ?_) (fun h6 => ?_)
  · refine g_aload_n (pc' := 20) dX0_isLeapYear_19 rfl rfl ?_
    refine ggX0_13 (pc' := 23) rfl dX0_isLeapYear_20 rfl l0 ?_
    refine g_sipush (pc' := 26) (v := 400) dX0_isLeapYear_23 rfl rfl ?_
    refine g_irem (pc' := 27) dX0_isLeapYear_26 rfl (by decide) ?_
    rw [hy, show (400 : Int32) = nI 400 from rfl, nI_rem (by omega) (by decide) (by decide)]
    refine g_if_ne dX0_isLeapYear_27 (tg := 34) (pc' := 30) (by decide) rfl (fun h27 => ?_) (fun h27 => ?_)
    · refine g_iconst (pc' := 35) (v := 0) dX0_isLeapYear_34 rfl rfl ?_
      refine g_iret dX0_isLeapYear_35 rfl rfl (Nat.le_of_ble_eq_true rfl) (Nat.le_of_ble_eq_true rfl) ?_
      exact gq hQ (by simp only [bI, leap, q4, q100, q400] at *; simp_all)
    · refine g_iconst (pc' := 31) (v := 1) dX0_isLeapYear_30 rfl rfl ?_
      refine g_goto dX0_isLeapYear_31 (pc' := 35) (by decide) ?_
      refine g_iret dX0_isLeapYear_35 rfl rfl (Nat.le_of_ble_eq_true rfl) (Nat.le_of_ble_eq_true rfl) ?_
      exact gq hQ (by simp only [bI, leap, q4, q100, q400] at *; simp_all)
  · refine g_aload_n (pc' := 10) dX0_isLeapYear_9 rfl rfl ?_
    refine ggX0_13 (pc' := 13) rfl dX0_isLeapYear_10 rfl l0 ?_
    refine g_bipush (pc' := 15) (v := 100) dX0_isLeapYear_13 rfl rfl ?_
    refine g_irem (pc' := 16) dX0_isLeapYear_15 rfl (by decide) ?_
    rw [hy, show (100 : Int32) = nI 100 from rfl, nI_rem (by omega) (by decide) (by decide)]
    refine g_if_ne dX0_isLeapYear_16 (tg := 30) (pc' := 19) (by decide) rfl (fun h16 => ?_) (fun h16 => ?_)
    · refine g_iconst (pc' := 31) (v := 1) dX0_isLeapYear_30 rfl rfl ?_
      refine g_goto dX0_isLeapYear_31 (pc' := 35) (by decide) ?_
      refine g_iret dX0_isLeapYear_35 rfl rfl (Nat.le_of_ble_eq_true rfl) (Nat.le_of_ble_eq_true rfl) ?_
      exact gq hQ (by simp only [bI, leap, q4, q100, q400] at *; simp_all)
    · refine g_aload_n (pc' := 20) dX0_isLeapYear_19 rfl rfl ?_
      refine ggX0_13 (pc' := 23) rfl dX0_isLeapYear_20 rfl l0 ?_
      refine g_sipush (pc' := 26) (v := 400) dX0_isLeapYear_23 rfl rfl ?_
      refine g_irem (pc' := 27) dX0_isLeapYear_26 rfl (by decide) ?_
      rw [hy, show (400 : Int32) = nI 400 from rfl, nI_rem (by omega) (by decide) (by decide)]
      refine g_if_ne dX0_isLeapYear_27 (tg := 34) (pc' := 30) (by decide) rfl (fun h27 => ?_) (fun h27 => ?_)
      · refine g_iconst (pc' := 35) (v := 0) dX0_isLeapYear_34 rfl rfl ?_
        refine g_iret dX0_isLeapYear_35 rfl rfl (Nat.le_of_ble_eq_true rfl) (Nat.le_of_ble_eq_true rfl) ?_
        exact gq hQ (by simp only [bI, leap, q4, q100, q400] at *; simp_all)
      · refine g_iconst (pc' := 31) (v := 1) dX0_isLeapYear_30 rfl rfl ?_
        refine g_goto dX0_isLeapYear_31 (pc' := 35) (by decide) ?_
        refine g_iret dX0_isLeapYear_35 rfl rfl (Nat.le_of_ble_eq_true rfl) (Nat.le_of_ble_eq_true rfl) ?_
        exact gq hQ (by simp only [bI, leap, q4, q100, q400] at *; simp_all)

set_option maxRecDepth 100000 in
set_option maxHeartbeats 2000000 in
theorem kX0_daysOfYear {E : gE} {S : gS} {y : Nat} {Q : Option gV → gS → Prop} (l0 : lv S 0 0 0) (hy : fI S 1 0 0 = nI y) (hl : y < 2 ^ 30) (hQ : Q (some (vI (nI (yl y)))) S) : gRun E mX0_daysOfYear 2 0 0 [vR 0 0 0] S [] Q := by
  refine gRun_of (ls := [some (vR 0 0 0)]) rfl (Nat.le_of_ble_eq_true rfl) rfl (fun ad => ?_)
  refine g_aload_n (pc' := 1) dX0_daysOfYear_0 rfl rfl ?_
  refine gcv0 (pc' := 4) cwX0_36 cf0 dX0_daysOfYear_1 rfl l0 (Nat.le_of_ble_eq_true rfl) (Nat.le_of_ble_eq_true rfl) (Nat.le_of_ble_eq_true rfl) (Nat.le_of_ble_eq_true rfl) (Nat.le_of_ble_eq_true rfl) (kX0_isLeapYear l0 hy hl ?_)
  refine g_if_eq dX0_daysOfYear_4 (tg := 13) (pc' := 7) (by decide) rfl (fun h4 => ?_) (fun h4 => ?_)
  · refine g_sipush (pc' := 16) (v := 365) dX0_daysOfYear_13 rfl rfl ?_
    refine g_iret dX0_daysOfYear_16 rfl rfl (Nat.le_of_ble_eq_true rfl) (Nat.le_of_ble_eq_true rfl) ?_
    exact gq hQ (by rw [bI_f] at h4; simp [yl, h4]; try rfl)
  · refine g_sipush (pc' := 10) (v := 366) dX0_daysOfYear_7 rfl rfl ?_
    refine g_goto dX0_daysOfYear_10 (pc' := 16) (by decide) ?_
    refine g_iret dX0_daysOfYear_16 rfl rfl (Nat.le_of_ble_eq_true rfl) (Nat.le_of_ble_eq_true rfl) ?_
    exact gq hQ (by rw [bI_f] at h4; simp [yl, h4]; try rfl)

set_option maxRecDepth 100000 in
set_option maxHeartbeats 2000000 in
theorem kX0_daysOfMonth {E : gE} {S : gS} {y m : Nat} {Q : Option gV → gS → Prop} (l0 : lv S 0 0 0) (hy : fI S 1 0 0 = nI y) (hl : y < 2 ^ 30) (hm : fI S 2 0 0 = nI m) (hm1 : 1 ≤ m) (hm2 : m ≤ 12) (hQ : Q (some (vI (nI (ml y m)))) S) : gRun E mX0_daysOfMonth 2 0 0 [vR 0 0 0] S [] Q := by
  refine gRun_of (ls := [some (vR 0 0 0)]) rfl (Nat.le_of_ble_eq_true rfl) rfl (fun ad => ?_)
  refine g_aload_n (pc' := 1) dX0_daysOfMonth_0 rfl rfl ?_
  refine ggX0_16 (pc' := 4) rfl dX0_daysOfMonth_1 rfl l0 ?_
  refine g_iconst (pc' := 5) (v := 2) dX0_daysOfMonth_4 rfl rfl ?_
  rw [hm]
  refine g_icmp_ne dX0_daysOfMonth_5 (tg := 20) (pc' := 8) (by decide) rfl (fun h5 => ?_) (fun h5 => ?_)
  · refine gsX0_40 (pc' := 23) rfl dX0_daysOfMonth_20 rfl ?_
    refine g_aload_n (pc' := 24) dX0_daysOfMonth_23 rfl rfl ?_
    refine ggX0_16 (pc' := 27) rfl dX0_daysOfMonth_24 rfl l0 ?_
    refine g_iconst (pc' := 28) (v := 1) dX0_daysOfMonth_27 rfl rfl ?_
    refine g_isub (pc' := 29) dX0_daysOfMonth_28 rfl ?_
    refine gt_2 (pc' := 30) (n := m - 1) dX0_daysOfMonth_29 rfl (by rw [hm]; exact nI_m1 hm1) (by omega) ?_
    refine g_iret dX0_daysOfMonth_30 rfl rfl (Nat.le_of_ble_eq_true rfl) (Nat.le_of_ble_eq_true rfl) ?_
    first
      | exact gq hQ (by
          rw [nI_eq (by omega) (by decide)] at h5
          rw [bI_f] at h12
          simp [ml, h5, h12]
          try rfl)
      | exact gq hQ (by
          rw [show (2 : Int32) = nI 2 from rfl, nI_eq (by omega) (by decide)] at h5
          rw [bI_f] at h12
          subst h5
          simp [ml, h12]; rfl)
      | exact gq hQ (by
          rw [show (2 : Int32) = nI 2 from rfl, nI_eq (by omega) (by decide)] at h5
          rw [ml, if_neg h5]
          exact (by decide : ∀ m, m < 13 → 1 ≤ m → ¬ m = 2 → (nI (if m = 4 ∨ m = 6 ∨ m = 9 ∨ m = 11 then 30 else 31) = (gtab 2).getD (m - 1) 0)) m (by omega) hm1 h5)
      | exact gq hQ (by
          rw [show (2 : Int32) = nI 2 from rfl, nI_eq (by omega) (by decide)] at h5
          rw [bI_f] at h12
          subst h5
          simp [ml, h12]
          exact rfl)
  · refine g_aload_n (pc' := 9) dX0_daysOfMonth_8 rfl rfl ?_
    refine gcv0 (pc' := 12) cwX0_36 cf0 dX0_daysOfMonth_9 rfl l0 (Nat.le_of_ble_eq_true rfl) (Nat.le_of_ble_eq_true rfl) (Nat.le_of_ble_eq_true rfl) (Nat.le_of_ble_eq_true rfl) (Nat.le_of_ble_eq_true rfl) (kX0_isLeapYear l0 hy hl ?_)
    refine g_if_eq dX0_daysOfMonth_12 (tg := 20) (pc' := 15) (by decide) rfl (fun h12 => ?_) (fun h12 => ?_)
    · refine gsX0_40 (pc' := 23) rfl dX0_daysOfMonth_20 rfl ?_
      refine g_aload_n (pc' := 24) dX0_daysOfMonth_23 rfl rfl ?_
      refine ggX0_16 (pc' := 27) rfl dX0_daysOfMonth_24 rfl l0 ?_
      refine g_iconst (pc' := 28) (v := 1) dX0_daysOfMonth_27 rfl rfl ?_
      refine g_isub (pc' := 29) dX0_daysOfMonth_28 rfl ?_
      refine gt_2 (pc' := 30) (n := m - 1) dX0_daysOfMonth_29 rfl (by rw [hm]; exact nI_m1 hm1) (by omega) ?_
      refine g_iret dX0_daysOfMonth_30 rfl rfl (Nat.le_of_ble_eq_true rfl) (Nat.le_of_ble_eq_true rfl) ?_
      first
        | exact gq hQ (by
            rw [nI_eq (by omega) (by decide)] at h5
            rw [bI_f] at h12
            simp [ml, h5, h12]
            try rfl)
        | exact gq hQ (by
            rw [show (2 : Int32) = nI 2 from rfl, nI_eq (by omega) (by decide)] at h5
            rw [bI_f] at h12
            subst h5
            simp [ml, h12]; rfl)
        | exact gq hQ (by
            rw [show (2 : Int32) = nI 2 from rfl, nI_eq (by omega) (by decide)] at h5
            rw [ml, if_neg h5]
            exact (by decide : ∀ m, m < 13 → 1 ≤ m → ¬ m = 2 → (nI (if m = 4 ∨ m = 6 ∨ m = 9 ∨ m = 11 then 30 else 31) = (gtab 2).getD (m - 1) 0)) m (by omega) hm1 h5)
        | exact gq hQ (by
            rw [show (2 : Int32) = nI 2 from rfl, nI_eq (by omega) (by decide)] at h5
            rw [bI_f] at h12
            subst h5
            simp [ml, h12]
            exact rfl)
    · refine g_bipush (pc' := 17) (v := 29) dX0_daysOfMonth_15 rfl rfl ?_
      refine g_goto dX0_daysOfMonth_17 (pc' := 30) (by decide) ?_
      refine g_iret dX0_daysOfMonth_30 rfl rfl (Nat.le_of_ble_eq_true rfl) (Nat.le_of_ble_eq_true rfl) ?_
      first
        | exact gq hQ (by
            rw [nI_eq (by omega) (by decide)] at h5
            rw [bI_f] at h12
            simp [ml, h5, h12]
            try rfl)
        | exact gq hQ (by
            rw [show (2 : Int32) = nI 2 from rfl, nI_eq (by omega) (by decide)] at h5
            rw [bI_f] at h12
            subst h5
            simp [ml, h12]; rfl)
        | exact gq hQ (by
            rw [show (2 : Int32) = nI 2 from rfl, nI_eq (by omega) (by decide)] at h5
            rw [ml, if_neg h5]
            exact (by decide : ∀ m, m < 13 → 1 ≤ m → ¬ m = 2 → (nI (if m = 4 ∨ m = 6 ∨ m = 9 ∨ m = 11 then 30 else 31) = (gtab 2).getD (m - 1) 0)) m (by omega) hm1 h5)
        | exact gq hQ (by
            rw [show (2 : Int32) = nI 2 from rfl, nI_eq (by omega) (by decide)] at h5
            rw [bI_f] at h12
            subst h5
            simp [ml, h12]
            exact rfl)

set_option maxRecDepth 100000 in
set_option maxHeartbeats 2000000 in
theorem kX0_weekday {E : gE} {S : gS} {w : Nat} {Q : Option gV → gS → Prop} (l0 : lv S 0 0 0) (hw : fI S 0 0 0 = nI w) (hl : w < 2 ^ 30) (hQ : Q (some (vI (nI ((w + 6) % 7)))) S) : gRun E mX0_weekday 1 0 0 [vR 0 0 0] S [] Q := by
  refine gRun_of (ls := [some (vR 0 0 0)]) rfl (Nat.le_of_ble_eq_true rfl) rfl (fun ad => ?_)
  refine g_aload_n (pc' := 1) dX0_weekday_0 rfl rfl ?_
  refine ggX0_7 (pc' := 4) rfl dX0_weekday_1 rfl l0 ?_
  refine g_bipush (pc' := 6) (v := 6) dX0_weekday_4 rfl rfl ?_
  refine g_iadd (pc' := 7) dX0_weekday_6 rfl ?_
  refine g_bipush (pc' := 9) (v := 7) dX0_weekday_7 rfl rfl ?_
  refine g_irem (pc' := 10) dX0_weekday_9 rfl (by decide) ?_
  rw [hw, show (6 : Int32) = nI 6 from rfl, nI_add, show (7 : Int32) = nI 7 from rfl, nI_rem (by omega) (by decide) (by decide)]
  refine g_iret dX0_weekday_10 rfl rfl (Nat.le_of_ble_eq_true rfl) (Nat.le_of_ble_eq_true rfl) ?_
  exact hQ
end
section
/-! THE CLASS (3): Day: find, turnOne, turnTo -/
noncomputable def tOne (S : gS) (v : Nat) : gS := sfI (sfI (sfI S 1 0 0 (nI (dY v))) 2 0 0 (nI (dM v))) 3 0 0 (nI (dD v))
theorem tOne_ext {S S' : gS} {w : Nat} (h2 : S'.2 = S.2) (h : ∀ g j t, fI S' g j t = fI (tOne S w) g j t) : S' = tOne S w := Prod.ext (funext fun g => funext fun j => funext fun t => h g j t) h2
theorem tOne_of {S S' : gS} {w : Nat} (h2 : S'.2 = S.2) (h1 : fI S' 1 0 0 = nI (dY w)) (h3 : fI S' 2 0 0 = nI (dM w)) (h4 : fI S' 3 0 0 = nI (dD w)) (h : ∀ g j t, ¬ (g = 1 ∧ j = 0 ∧ t = 0) → ¬ (g = 2 ∧ j = 0 ∧ t = 0) → ¬ (g = 3 ∧ j = 0 ∧ t = 0) → fI S' g j t = fI S g j t) : S' = tOne S w := by
  refine tOne_ext h2 fun g j t => ?_
  by_cases c3 : g = 3 ∧ j = 0 ∧ t = 0
  · obtain ⟨rfl, rfl, rfl⟩ := c3; exact h4
  · by_cases c2 : g = 2 ∧ j = 0 ∧ t = 0
    · obtain ⟨rfl, rfl, rfl⟩ := c2; exact h3
    · by_cases c1 : g = 1 ∧ j = 0 ∧ t = 0
      · obtain ⟨rfl, rfl, rfl⟩ := c1; exact h1
      · rw [h g j t c1 c2 c3]
        show _ = (if _ then _ else (if _ then _ else (if _ then _ else _)))
        rw [if_neg c3, if_neg c2, if_neg c1]
set_option maxRecDepth 100000 in
set_option maxHeartbeats 2000000 in
theorem kX0_find {E : gE} {S : gS} {w : Nat} {Q : Option gV → gS → Prop} (l0 : lv S 0 0 0) (hw : w < 13889) (hQ : Q none (tOne S w)) : gRun E mX0_find 3 0 0 [vR 0 0 0, vI (nI w)] S [] Q := by
  refine gRun_of (ls := [some (vR 0 0 0), some (vI (nI w)), none]) rfl (Nat.le_of_ble_eq_true rfl) rfl (fun ad => ?_)
  have E2 : ∀ Y m r : Nat, 2000 ≤ Y ∧ Y < 2 ^ 20 → 1 ≤ m → m ≤ 12 → w = cyr (Y - 2000) + cmo Y (m - 1) + r → r < ml Y m → gG E mX0_find (gBof 3 0 0 ad [] Q) 89 [some (vR 0 0 0), some (vI (nI w)), some (vI (nI r))] [] (sfI (sfI S 1 0 0 (nI Y)) 2 0 0 (nI m)) 0 0 := by
    intro Y m r hY h1 h2 h3 h4
    obtain ⟨e1, e2, e3⟩ := date_eq (w := w) (y := Y) (m := m) (d := r + 1) ⟨hY.1, h1, h2, by omega, by omega, by rw [Nat.add_sub_cancel]; exact h3⟩
    refine g_aload_n (pc' := 90) dX0_find_89 rfl rfl ?_
    refine g_iload_n (pc' := 91) dX0_find_90 rfl rfl ?_
    refine g_iconst (pc' := 92) (v := 1) dX0_find_91 rfl rfl ?_
    refine g_iadd (pc' := 93) dX0_find_92 rfl ?_
    refine gpX0_19 (pc' := 96) rfl dX0_find_93 rfl l0 ?_
    refine g_vret dX0_find_96 rfl (Nat.le_of_ble_eq_true rfl) (Nat.le_of_ble_eq_true rfl) ?_
    exact gqv hQ (by rw [nI_1, tOne, e1, e2, e3])
  have L2 : ∀ Y, 2000 ≤ Y ∧ Y < 2 ^ 20 → ∀ k m r : Nat, 12 < k + m → m ≤ 12 → 1 ≤ m → w = cyr (Y - 2000) + cmo Y (m - 1) + r → w < cyr (Y - 2000) + yl Y → gG E mX0_find (gBof 3 0 0 ad [] Q) 52 [some (vR 0 0 0), some (vI (nI w)), some (vI (nI r))] [] (sfI (sfI S 1 0 0 (nI Y)) 2 0 0 (nI m)) 0 0 := by
    intro Y hY k
    induction k with
    | zero => intro m r hk hm12; omega
    | succ k ih =>
      intro m r hk hm12 hm hr hl
      refine g_aload_n (pc' := 53) dX0_find_52 rfl rfl ?_
      refine ggX0_16 (pc' := 56) rfl dX0_find_53 rfl l0 ?_
      refine g_bipush (pc' := 58) (v := 12) dX0_find_56 rfl rfl ?_
      refine g_icmp_ge dX0_find_58 (tg := 89) (pc' := 61) (by decide) rfl (fun h58 => ?_) (fun h58 => ?_)
      · exact E2 Y m r hY hm (by omega) hr (by
          rw [show (12 : Int32) = nI 12 from rfl, fI_sfI, if_pos ⟨rfl, rfl, rfl⟩, nI_leI (by omega) (by omega)] at h58
          have h12 : m = 12 := by omega
          subst h12
          have q := cmo_12 Y
          have q2 : cmo Y 12 = cmo Y 11 + ml Y 12 := rfl
          have q3 : w = cyr (Y - 2000) + cmo Y 11 + r := hr
          show r < ml Y 12
          omega)
      · refine g_iload_n (pc' := 62) dX0_find_61 rfl rfl ?_
        refine g_aload_n (pc' := 63) dX0_find_62 rfl rfl ?_
        refine gcv0 (pc' := 66) cwX0_29 cf0 dX0_find_63 rfl l0 (Nat.le_of_ble_eq_true rfl) (Nat.le_of_ble_eq_true rfl) (Nat.le_of_ble_eq_true rfl) (Nat.le_of_ble_eq_true rfl) (Nat.le_of_ble_eq_true rfl) (kX0_daysOfMonth (y := Y) (m := m) l0 rfl (by omega) rfl hm (by omega) ?_)
        refine g_icmp_lt dX0_find_66 (tg := 89) (pc' := 69) (by decide) rfl (fun h66 => ?_) (fun h66 => ?_)
        · exact E2 Y m r hY hm (by omega) hr (by rw [nI_ltI (by omega) (by have := ml_pos Y m; omega)] at h66; exact h66)
        · refine g_iload_n (pc' := 70) dX0_find_69 rfl rfl ?_
          refine g_aload_n (pc' := 71) dX0_find_70 rfl rfl ?_
          refine gcv0 (pc' := 74) cwX0_29 cf0 dX0_find_71 rfl l0 (Nat.le_of_ble_eq_true rfl) (Nat.le_of_ble_eq_true rfl) (Nat.le_of_ble_eq_true rfl) (Nat.le_of_ble_eq_true rfl) (Nat.le_of_ble_eq_true rfl) (kX0_daysOfMonth (y := Y) (m := m) l0 rfl (by omega) rfl hm (by omega) ?_)
          refine g_isub (pc' := 75) dX0_find_74 rfl ?_
          refine gistore_n2 (pc' := 76) dX0_find_75 rfl (Nat.le_of_ble_eq_true rfl) rfl ?_
          refine g_aload_n (pc' := 77) dX0_find_76 rfl rfl ?_
          refine g_dup (pc' := 78) dX0_find_77 rfl rfl ?_
          refine ggX0_16 (pc' := 81) rfl dX0_find_78 rfl l0 ?_
          refine g_iconst (pc' := 82) (v := 1) dX0_find_81 rfl rfl ?_
          refine g_iadd (pc' := 83) dX0_find_82 rfl ?_
          refine gpX0_16 (pc' := 86) rfl dX0_find_83 rfl l0 ?_
          refine g_goto dX0_find_86 (pc' := 52) (by decide) ?_
          rw [nI_ltI (by omega) (by have := ml_pos Y m; omega)] at h66
          rw [pk_sub (by omega)]
          refine gG.eqS (show _ = sfI (sfI S 1 0 0 (nI Y)) 2 0 0 (nI (m + 1)) from (sfI_sfI).trans (congrArg (sfI (sfI S 1 0 0 (nI Y)) 2 0 0) (nI_1 m))) ?_
          obtain ⟨m0, rfl⟩ : ∃ m0, m = m0 + 1 := ⟨m - 1, by omega⟩
          refine ih (m0 + 1 + 1) (r - ml Y (m0 + 1)) (by omega) ?_ (by omega) ?_ hl
          · rw [show (12 : Int32) = nI 12 from rfl, fI_sfI, if_pos ⟨rfl, rfl, rfl⟩, nI_leI (by omega) (by omega)] at h58
            omega
          · have q3 : w = cyr (Y - 2000) + cmo Y m0 + r := hr
            show w = cyr (Y - 2000) + (cmo Y m0 + ml Y (m0 + 1)) + (r - ml Y (m0 + 1))
            omega
  have E1 : ∀ n r : Nat, n ≤ 38 → w = cyr n + r → r < yl (2000 + n) → gG E mX0_find (gBof 3 0 0 ad [] Q) 47 [some (vR 0 0 0), some (vI (nI w)), some (vI (nI r))] [] (sfI S 1 0 0 (nI (2000 + n))) 0 0 := by
    intro n r h3 h1 h2
    have e : 2000 + n - 2000 = n := by omega
    refine g_aload_n (pc' := 48) dX0_find_47 rfl rfl ?_
    refine g_iconst (pc' := 49) (v := 1) dX0_find_48 rfl rfl ?_
    refine gpX0_16 (pc' := 52) rfl dX0_find_49 rfl l0 ?_
    exact L2 (2000 + n) (by omega) 12 1 r (by omega) (by omega) (by omega) (by rw [e]; exact h1) (by rw [e]; omega)
  have L1 : ∀ k n r : Nat, 38 < k + n → n ≤ 38 → w = cyr n + r → gG E mX0_find (gBof 3 0 0 ad [] Q) 9 [some (vR 0 0 0), some (vI (nI w)), some (vI (nI r))] [] (sfI S 1 0 0 (nI (2000 + n))) 0 0 := by
    intro k
    induction k with
    | zero => intro n r hk hn; omega
    | succ k ih =>
      intro n r hk hn hr
      refine g_aload_n (pc' := 10) dX0_find_9 rfl rfl ?_
      refine ggX0_13 (pc' := 13) rfl dX0_find_10 rfl l0 ?_
      refine g_sipush (pc' := 16) (v := 2038) dX0_find_13 rfl rfl ?_
      refine g_icmp_ge dX0_find_16 (tg := 47) (pc' := 19) (by decide) rfl (fun h16 => ?_) (fun h16 => ?_)
      · exact E1 n r hn hr (by
          rw [show (2038 : Int32) = nI 2038 from rfl, fI_sfI, if_pos ⟨rfl, rfl, rfl⟩, nI_leI (by omega) (by omega)] at h16
          have h38 : n = 38 := by omega
          subst h38
          have q : cyr 38 = 13880 := by decide
          have := yl_in (2000 + 38)
          omega)
      · refine g_iload_n (pc' := 20) dX0_find_19 rfl rfl ?_
        refine g_aload_n (pc' := 21) dX0_find_20 rfl rfl ?_
        refine gcv0 (pc' := 24) cwX0_33 cf0 dX0_find_21 rfl l0 (Nat.le_of_ble_eq_true rfl) (Nat.le_of_ble_eq_true rfl) (Nat.le_of_ble_eq_true rfl) (Nat.le_of_ble_eq_true rfl) (Nat.le_of_ble_eq_true rfl) (kX0_daysOfYear (y := 2000 + n) l0 rfl (by omega) ?_)
        refine g_icmp_lt dX0_find_24 (tg := 47) (pc' := 27) (by decide) rfl (fun h24 => ?_) (fun h24 => ?_)
        · exact E1 n r hn hr (by rw [nI_ltI (by omega) (by have := yl_in (2000 + n); omega)] at h24; exact h24)
        · refine g_iload_n (pc' := 28) dX0_find_27 rfl rfl ?_
          refine g_aload_n (pc' := 29) dX0_find_28 rfl rfl ?_
          refine gcv0 (pc' := 32) cwX0_33 cf0 dX0_find_29 rfl l0 (Nat.le_of_ble_eq_true rfl) (Nat.le_of_ble_eq_true rfl) (Nat.le_of_ble_eq_true rfl) (Nat.le_of_ble_eq_true rfl) (Nat.le_of_ble_eq_true rfl) (kX0_daysOfYear (y := 2000 + n) l0 rfl (by omega) ?_)
          refine g_isub (pc' := 33) dX0_find_32 rfl ?_
          refine gistore_n2 (pc' := 34) dX0_find_33 rfl (Nat.le_of_ble_eq_true rfl) rfl ?_
          refine g_aload_n (pc' := 35) dX0_find_34 rfl rfl ?_
          refine g_dup (pc' := 36) dX0_find_35 rfl rfl ?_
          refine ggX0_13 (pc' := 39) rfl dX0_find_36 rfl l0 ?_
          refine g_iconst (pc' := 40) (v := 1) dX0_find_39 rfl rfl ?_
          refine g_iadd (pc' := 41) dX0_find_40 rfl ?_
          refine gpX0_13 (pc' := 44) rfl dX0_find_41 rfl l0 ?_
          refine g_goto dX0_find_44 (pc' := 9) (by decide) ?_
          rw [nI_ltI (by omega) (by have := yl_in (2000 + n); omega)] at h24
          rw [pk_sub (by omega)]
          refine gG.eqS (show _ = sfI S 1 0 0 (nI (2000 + (n + 1))) from (sfI_sfI).trans (congrArg (sfI S 1 0 0) (nI_1 (2000 + n)))) ?_
          refine ih (n + 1) (r - yl (2000 + n)) (by omega) ?_ ?_
          · rw [show (2038 : Int32) = nI 2038 from rfl, fI_sfI, if_pos ⟨rfl, rfl, rfl⟩, nI_leI (by omega) (by omega)] at h16
            omega
          · show w = cyr n + yl (2000 + n) + (r - yl (2000 + n))
            omega
  refine g_iload_n (pc' := 1) dX0_find_0 rfl rfl ?_
  refine gistore_n2 (pc' := 2) dX0_find_1 rfl (Nat.le_of_ble_eq_true rfl) rfl ?_
  refine g_aload_n (pc' := 3) dX0_find_2 rfl rfl ?_
  refine g_sipush (pc' := 6) (v := 2000) dX0_find_3 rfl rfl ?_
  refine gpX0_13 (pc' := 9) rfl dX0_find_6 rfl l0 ?_
  exact L1 39 0 w (by omega) (by omega) (by rw [show cyr 0 = 0 from rfl]; omega)

set_option maxRecDepth 100000 in
set_option maxHeartbeats 2000000 in
theorem kX0_turnOne {E : gE} {S : gS} {w : Nat} {Q : Option gV → gS → Prop} (l0 : lv S 0 0 0) (hd : DayOk S w) (hw : w + 1 < 13889) (hQ : Q none (tOne S (w + 1))) : gRun E mX0_turnOne 3 0 0 [vR 0 0 0] S [] Q := by
  refine gRun_of (ls := [some (vR 0 0 0)]) rfl (Nat.le_of_ble_eq_true rfl) rfl (fun ad => ?_)
  refine g_aload_n (pc' := 1) dX0_turnOne_0 rfl rfl ?_
  refine g_dup (pc' := 2) dX0_turnOne_1 rfl rfl ?_
  refine ggX0_19 (pc' := 5) rfl dX0_turnOne_2 rfl l0 ?_
  refine g_iconst (pc' := 6) (v := 1) dX0_turnOne_5 rfl rfl ?_
  refine g_iadd (pc' := 7) dX0_turnOne_6 rfl ?_
  refine gpX0_19 (pc' := 10) rfl dX0_turnOne_7 rfl l0 ?_
  refine g_aload_n (pc' := 11) dX0_turnOne_10 rfl rfl ?_
  refine ggX0_19 (pc' := 14) rfl dX0_turnOne_11 rfl l0 ?_
  refine g_aload_n (pc' := 15) dX0_turnOne_14 rfl rfl ?_
  refine gcv0 (pc' := 18) cwX0_29 cf0 dX0_turnOne_15 rfl l0 (Nat.le_of_ble_eq_true rfl) (Nat.le_of_ble_eq_true rfl) (Nat.le_of_ble_eq_true rfl) (Nat.le_of_ble_eq_true rfl) (Nat.le_of_ble_eq_true rfl) (kX0_daysOfMonth (y := dY w) (m := dM w) l0 hd.2.2.1 (by have := dY_le (w := w) (by omega); omega) hd.2.2.2.1 (dM_in w).1 (dM_in w).2 ?_)
  rw [show fI (sfI S 3 0 0 (fI S 3 0 0 + 1)) 3 0 0 = nI (dD w + 1) from (congrArg (· + 1) hd.2.2.2.2).trans (nI_1 _)]
  refine g_icmp_le dX0_turnOne_18 (tg := 36) (pc' := 21) (by decide) rfl (fun h18 => ?_) (fun h18 => ?_)
  · refine g_aload_n (pc' := 37) dX0_turnOne_36 rfl rfl ?_
    refine ggX0_16 (pc' := 40) rfl dX0_turnOne_37 rfl l0 ?_
    refine g_bipush (pc' := 42) (v := 12) dX0_turnOne_40 rfl rfl ?_
    first
      | rw [show fI (sfI S 3 0 0 (fI S 3 0 0 + 1)) 2 0 0 = nI (dM w) from hd.2.2.2.1]
      | rw [show fI (sfI (sfI (sfI S 3 0 0 (fI S 3 0 0 + 1)) 3 0 0 1) 2 0 0 (fI (sfI (sfI S 3 0 0 (fI S 3 0 0 + 1)) 3 0 0 1) 2 0 0 + 1)) 2 0 0 = nI (dM w + 1) from (congrArg (· + 1) hd.2.2.2.1).trans (nI_1 _)]
    refine g_icmp_le dX0_turnOne_42 (tg := 60) (pc' := 45) (by decide) rfl (fun h42 => ?_) (fun h42 => ?_)
    · refine g_vret dX0_turnOne_60 rfl (Nat.le_of_ble_eq_true rfl) (Nat.le_of_ble_eq_true rfl) ?_
      rw [nI_leI (by have := dD_in w; omega) (by have := ml_pos (dY w) (dM w); omega)] at h18
      rw [show (12 : Int32) = nI 12 from rfl, nI_leI (by have := dM_in w; omega) (by decide)] at h42
      have z := date_eq (date_is w).next
      first
        | exact absurd (dM_in w).2 h42
        | (simp only [if_pos h18] at z
           obtain ⟨z1, z2, z3⟩ := z
           refine gqv hQ (Eq.symm (tOne_of rfl ?_ ?_ ?_ (fun g j t c1 c2 c3 => by simp only [fI_sfI, if_neg c1, if_neg c2, if_neg c3])))
           · show fI S 1 0 0 = _; rw [z1]; exact hd.2.2.1
           · show fI S 2 0 0 = _; rw [z2]; exact hd.2.2.2.1
           · show fI S 3 0 0 + 1 = _; rw [z3, hd.2.2.2.2, nI_1])
        | (simp only [if_neg h18, if_pos h42] at z
           obtain ⟨z1, z2, z3⟩ := z
           refine gqv hQ (Eq.symm (tOne_of rfl ?_ ?_ ?_ (fun g j t c1 c2 c3 => by simp only [fI_sfI, if_neg c1, if_neg c2, if_neg c3])))
           · show fI S 1 0 0 = _; rw [z1]; exact hd.2.2.1
           · show fI S 2 0 0 + 1 = _; rw [z2, hd.2.2.2.1, nI_1]
           · show 1 = _; rw [z3]; rfl)
        | (simp only [if_neg h18, if_neg h42] at z
           obtain ⟨z1, z2, z3⟩ := z
           refine gqv hQ (Eq.symm (tOne_of rfl ?_ ?_ ?_ (fun g j t c1 c2 c3 => by simp only [fI_sfI, if_neg c1, if_neg c2, if_neg c3])))
           · show fI S 1 0 0 + 1 = _; rw [z1, hd.2.2.1, nI_1]
           · show 1 = _; rw [z2]; rfl
           · show 1 = _; rw [z3]; rfl)
    · refine g_aload_n (pc' := 46) dX0_turnOne_45 rfl rfl ?_
      refine g_iconst (pc' := 47) (v := 1) dX0_turnOne_46 rfl rfl ?_
      refine gpX0_16 (pc' := 50) rfl dX0_turnOne_47 rfl l0 ?_
      refine g_aload_n (pc' := 51) dX0_turnOne_50 rfl rfl ?_
      refine g_dup (pc' := 52) dX0_turnOne_51 rfl rfl ?_
      refine ggX0_13 (pc' := 55) rfl dX0_turnOne_52 rfl l0 ?_
      refine g_iconst (pc' := 56) (v := 1) dX0_turnOne_55 rfl rfl ?_
      refine g_iadd (pc' := 57) dX0_turnOne_56 rfl ?_
      refine gpX0_13 (pc' := 60) rfl dX0_turnOne_57 rfl l0 ?_
      refine g_vret dX0_turnOne_60 rfl (Nat.le_of_ble_eq_true rfl) (Nat.le_of_ble_eq_true rfl) ?_
      rw [nI_leI (by have := dD_in w; omega) (by have := ml_pos (dY w) (dM w); omega)] at h18
      rw [show (12 : Int32) = nI 12 from rfl, nI_leI (by have := dM_in w; omega) (by decide)] at h42
      have z := date_eq (date_is w).next
      first
        | exact absurd (dM_in w).2 h42
        | (simp only [if_pos h18] at z
           obtain ⟨z1, z2, z3⟩ := z
           refine gqv hQ (Eq.symm (tOne_of rfl ?_ ?_ ?_ (fun g j t c1 c2 c3 => by simp only [fI_sfI, if_neg c1, if_neg c2, if_neg c3])))
           · show fI S 1 0 0 = _; rw [z1]; exact hd.2.2.1
           · show fI S 2 0 0 = _; rw [z2]; exact hd.2.2.2.1
           · show fI S 3 0 0 + 1 = _; rw [z3, hd.2.2.2.2, nI_1])
        | (simp only [if_neg h18, if_pos h42] at z
           obtain ⟨z1, z2, z3⟩ := z
           refine gqv hQ (Eq.symm (tOne_of rfl ?_ ?_ ?_ (fun g j t c1 c2 c3 => by simp only [fI_sfI, if_neg c1, if_neg c2, if_neg c3])))
           · show fI S 1 0 0 = _; rw [z1]; exact hd.2.2.1
           · show fI S 2 0 0 + 1 = _; rw [z2, hd.2.2.2.1, nI_1]
           · show 1 = _; rw [z3]; rfl)
        | (simp only [if_neg h18, if_neg h42] at z
           obtain ⟨z1, z2, z3⟩ := z
           refine gqv hQ (Eq.symm (tOne_of rfl ?_ ?_ ?_ (fun g j t c1 c2 c3 => by simp only [fI_sfI, if_neg c1, if_neg c2, if_neg c3])))
           · show fI S 1 0 0 + 1 = _; rw [z1, hd.2.2.1, nI_1]
           · show 1 = _; rw [z2]; rfl
           · show 1 = _; rw [z3]; rfl)
  · refine g_aload_n (pc' := 22) dX0_turnOne_21 rfl rfl ?_
    refine g_iconst (pc' := 23) (v := 1) dX0_turnOne_22 rfl rfl ?_
    refine gpX0_19 (pc' := 26) rfl dX0_turnOne_23 rfl l0 ?_
    refine g_aload_n (pc' := 27) dX0_turnOne_26 rfl rfl ?_
    refine g_dup (pc' := 28) dX0_turnOne_27 rfl rfl ?_
    refine ggX0_16 (pc' := 31) rfl dX0_turnOne_28 rfl l0 ?_
    refine g_iconst (pc' := 32) (v := 1) dX0_turnOne_31 rfl rfl ?_
    refine g_iadd (pc' := 33) dX0_turnOne_32 rfl ?_
    refine gpX0_16 (pc' := 36) rfl dX0_turnOne_33 rfl l0 ?_
    refine g_aload_n (pc' := 37) dX0_turnOne_36 rfl rfl ?_
    refine ggX0_16 (pc' := 40) rfl dX0_turnOne_37 rfl l0 ?_
    refine g_bipush (pc' := 42) (v := 12) dX0_turnOne_40 rfl rfl ?_
    first
      | rw [show fI (sfI S 3 0 0 (fI S 3 0 0 + 1)) 2 0 0 = nI (dM w) from hd.2.2.2.1]
      | rw [show fI (sfI (sfI (sfI S 3 0 0 (fI S 3 0 0 + 1)) 3 0 0 1) 2 0 0 (fI (sfI (sfI S 3 0 0 (fI S 3 0 0 + 1)) 3 0 0 1) 2 0 0 + 1)) 2 0 0 = nI (dM w + 1) from (congrArg (· + 1) hd.2.2.2.1).trans (nI_1 _)]
    refine g_icmp_le dX0_turnOne_42 (tg := 60) (pc' := 45) (by decide) rfl (fun h42 => ?_) (fun h42 => ?_)
    · refine g_vret dX0_turnOne_60 rfl (Nat.le_of_ble_eq_true rfl) (Nat.le_of_ble_eq_true rfl) ?_
      rw [nI_leI (by have := dD_in w; omega) (by have := ml_pos (dY w) (dM w); omega)] at h18
      rw [show (12 : Int32) = nI 12 from rfl, nI_leI (by have := dM_in w; omega) (by decide)] at h42
      have z := date_eq (date_is w).next
      first
        | exact absurd (dM_in w).2 h42
        | (simp only [if_pos h18] at z
           obtain ⟨z1, z2, z3⟩ := z
           refine gqv hQ (Eq.symm (tOne_of rfl ?_ ?_ ?_ (fun g j t c1 c2 c3 => by simp only [fI_sfI, if_neg c1, if_neg c2, if_neg c3])))
           · show fI S 1 0 0 = _; rw [z1]; exact hd.2.2.1
           · show fI S 2 0 0 = _; rw [z2]; exact hd.2.2.2.1
           · show fI S 3 0 0 + 1 = _; rw [z3, hd.2.2.2.2, nI_1])
        | (simp only [if_neg h18, if_pos h42] at z
           obtain ⟨z1, z2, z3⟩ := z
           refine gqv hQ (Eq.symm (tOne_of rfl ?_ ?_ ?_ (fun g j t c1 c2 c3 => by simp only [fI_sfI, if_neg c1, if_neg c2, if_neg c3])))
           · show fI S 1 0 0 = _; rw [z1]; exact hd.2.2.1
           · show fI S 2 0 0 + 1 = _; rw [z2, hd.2.2.2.1, nI_1]
           · show 1 = _; rw [z3]; rfl)
        | (simp only [if_neg h18, if_neg h42] at z
           obtain ⟨z1, z2, z3⟩ := z
           refine gqv hQ (Eq.symm (tOne_of rfl ?_ ?_ ?_ (fun g j t c1 c2 c3 => by simp only [fI_sfI, if_neg c1, if_neg c2, if_neg c3])))
           · show fI S 1 0 0 + 1 = _; rw [z1, hd.2.2.1, nI_1]
           · show 1 = _; rw [z2]; rfl
           · show 1 = _; rw [z3]; rfl)
    · refine g_aload_n (pc' := 46) dX0_turnOne_45 rfl rfl ?_
      refine g_iconst (pc' := 47) (v := 1) dX0_turnOne_46 rfl rfl ?_
      refine gpX0_16 (pc' := 50) rfl dX0_turnOne_47 rfl l0 ?_
      refine g_aload_n (pc' := 51) dX0_turnOne_50 rfl rfl ?_
      refine g_dup (pc' := 52) dX0_turnOne_51 rfl rfl ?_
      refine ggX0_13 (pc' := 55) rfl dX0_turnOne_52 rfl l0 ?_
      refine g_iconst (pc' := 56) (v := 1) dX0_turnOne_55 rfl rfl ?_
      refine g_iadd (pc' := 57) dX0_turnOne_56 rfl ?_
      refine gpX0_13 (pc' := 60) rfl dX0_turnOne_57 rfl l0 ?_
      refine g_vret dX0_turnOne_60 rfl (Nat.le_of_ble_eq_true rfl) (Nat.le_of_ble_eq_true rfl) ?_
      rw [nI_leI (by have := dD_in w; omega) (by have := ml_pos (dY w) (dM w); omega)] at h18
      rw [show (12 : Int32) = nI 12 from rfl, nI_leI (by have := dM_in w; omega) (by decide)] at h42
      have z := date_eq (date_is w).next
      first
        | exact absurd (dM_in w).2 h42
        | (simp only [if_pos h18] at z
           obtain ⟨z1, z2, z3⟩ := z
           refine gqv hQ (Eq.symm (tOne_of rfl ?_ ?_ ?_ (fun g j t c1 c2 c3 => by simp only [fI_sfI, if_neg c1, if_neg c2, if_neg c3])))
           · show fI S 1 0 0 = _; rw [z1]; exact hd.2.2.1
           · show fI S 2 0 0 = _; rw [z2]; exact hd.2.2.2.1
           · show fI S 3 0 0 + 1 = _; rw [z3, hd.2.2.2.2, nI_1])
        | (simp only [if_neg h18, if_pos h42] at z
           obtain ⟨z1, z2, z3⟩ := z
           refine gqv hQ (Eq.symm (tOne_of rfl ?_ ?_ ?_ (fun g j t c1 c2 c3 => by simp only [fI_sfI, if_neg c1, if_neg c2, if_neg c3])))
           · show fI S 1 0 0 = _; rw [z1]; exact hd.2.2.1
           · show fI S 2 0 0 + 1 = _; rw [z2, hd.2.2.2.1, nI_1]
           · show 1 = _; rw [z3]; rfl)
        | (simp only [if_neg h18, if_neg h42] at z
           obtain ⟨z1, z2, z3⟩ := z
           refine gqv hQ (Eq.symm (tOne_of rfl ?_ ?_ ?_ (fun g j t c1 c2 c3 => by simp only [fI_sfI, if_neg c1, if_neg c2, if_neg c3])))
           · show fI S 1 0 0 + 1 = _; rw [z1, hd.2.2.1, nI_1]
           · show 1 = _; rw [z2]; rfl
           · show 1 = _; rw [z3]; rfl)

set_option maxRecDepth 100000 in
set_option maxHeartbeats 2000000 in
theorem kX0_turnTo {E : gE} {S : gS} {w v : Nat} {Q : Option gV → gS → Prop} (l0 : lv S 0 0 0) (hd : DayOk S w) (hv : v < 13889) (hQ : Q none (tTurn S v)) : gRun E mX0_turnTo 4 0 0 [vR 0 0 0, vI (nI v)] S [] Q := by
  refine gRun_of (ls := [some (vR 0 0 0), some (vI (nI v))]) rfl (Nat.le_of_ble_eq_true rfl) rfl (fun ad => ?_)
  refine g_iload_n (pc' := 1) dX0_turnTo_0 rfl rfl ?_
  refine g_aload_n (pc' := 2) dX0_turnTo_1 rfl rfl ?_
  refine ggX0_7 (pc' := 5) rfl dX0_turnTo_2 rfl l0 ?_
  rw [hd.2.1]
  refine g_icmp_ne dX0_turnTo_5 (tg := 9) (pc' := 8) (by decide) rfl (fun h5 => ?_) (fun h5 => ?_)
  · refine g_iload_n (pc' := 10) dX0_turnTo_9 rfl rfl ?_
    refine g_aload_n (pc' := 11) dX0_turnTo_10 rfl rfl ?_
    refine ggX0_7 (pc' := 14) rfl dX0_turnTo_11 rfl l0 ?_
    refine g_iconst (pc' := 15) (v := 1) dX0_turnTo_14 rfl rfl ?_
    refine g_iadd (pc' := 16) dX0_turnTo_15 rfl ?_
    rw [hd.2.1, nI_1]
    refine g_icmp_ne dX0_turnTo_16 (tg := 26) (pc' := 19) (by decide) rfl (fun h16 => ?_) (fun h16 => ?_)
    · refine g_aload_n (pc' := 27) dX0_turnTo_26 rfl rfl ?_
      refine g_iload_n (pc' := 28) dX0_turnTo_27 rfl rfl ?_
      refine gcv1 (pc' := 31) cwX0_25 cf0 dX0_turnTo_28 rfl l0 (Nat.le_of_ble_eq_true rfl) (Nat.le_of_ble_eq_true rfl) (Nat.le_of_ble_eq_true rfl) (Nat.le_of_ble_eq_true rfl) (Nat.le_of_ble_eq_true rfl) (kX0_find l0 hv ?_)
      refine g_aload_n (pc' := 32) dX0_turnTo_31 rfl rfl ?_
      refine g_iload_n (pc' := 33) dX0_turnTo_32 rfl rfl ?_
      refine gpX0_7 (pc' := 36) rfl dX0_turnTo_33 rfl l0 ?_
      refine g_vret dX0_turnTo_36 rfl (Nat.le_of_ble_eq_true rfl) (Nat.le_of_ble_eq_true rfl) ?_
      exact hQ
    · refine g_aload_n (pc' := 20) dX0_turnTo_19 rfl rfl ?_
      rw [nI_eq (by omega) (by have := hd.1; omega)] at h16
      subst h16
      refine gcv0 (pc' := 23) cwX0_22 cf0 dX0_turnTo_20 rfl l0 (Nat.le_of_ble_eq_true rfl) (Nat.le_of_ble_eq_true rfl) (Nat.le_of_ble_eq_true rfl) (Nat.le_of_ble_eq_true rfl) (Nat.le_of_ble_eq_true rfl) (kX0_turnOne (w := w) l0 hd hv ?_)
      refine g_goto dX0_turnTo_23 (pc' := 31) (by decide) ?_
      refine g_aload_n (pc' := 32) dX0_turnTo_31 rfl rfl ?_
      refine g_iload_n (pc' := 33) dX0_turnTo_32 rfl rfl ?_
      refine gpX0_7 (pc' := 36) rfl dX0_turnTo_33 rfl l0 ?_
      refine g_vret dX0_turnTo_36 rfl (Nat.le_of_ble_eq_true rfl) (Nat.le_of_ble_eq_true rfl) ?_
      exact hQ
  · refine g_vret dX0_turnTo_8 rfl (Nat.le_of_ble_eq_true rfl) (Nat.le_of_ble_eq_true rfl) ?_
    rw [nI_eq (by omega) (by have := hd.1; omega)] at h5
    subst h5
    exact gqv hQ (by rw [tTurn, sfI_id hd.2.2.1, sfI_id hd.2.2.2.1, sfI_id hd.2.2.2.2, sfI_id hd.2.1])

set_option maxRecDepth 100000 in
set_option maxHeartbeats 2000000 in
theorem kX0_init {E : gE} {S : gS} {Q : Option gV → gS → Prop} (l0 : lv S 0 0 0) (hQ : Q none (sfI (sfI (sfI (sfI S 0 0 0 0) 1 0 0 2000) 2 0 0 1) 3 0 0 1)) : gRun E mX0_init 2 0 0 [vR 0 0 0] S [] Q := by
  refine gRun_of (ls := [some (vR 0 0 0)]) rfl (Nat.le_of_ble_eq_true rfl) rfl (fun ad => ?_)
  refine g_aload_n (pc' := 1) dX0_init_0 rfl rfl ?_
  refine g_objInit (pc' := 4) oiX0 oi1 oi2 dX0_init_1 rfl (Nat.le_of_ble_eq_true rfl) (Nat.le_of_ble_eq_true rfl) ?_
  refine g_aload_n (pc' := 5) dX0_init_4 rfl rfl ?_
  refine g_iconst (pc' := 6) (v := 0) dX0_init_5 rfl rfl ?_
  refine gpX0_7 (pc' := 9) rfl dX0_init_6 rfl l0 ?_
  refine g_aload_n (pc' := 10) dX0_init_9 rfl rfl ?_
  refine g_sipush (pc' := 13) (v := 2000) dX0_init_10 rfl rfl ?_
  refine gpX0_13 (pc' := 16) rfl dX0_init_13 rfl l0 ?_
  refine g_aload_n (pc' := 17) dX0_init_16 rfl rfl ?_
  refine g_iconst (pc' := 18) (v := 1) dX0_init_17 rfl rfl ?_
  refine gpX0_16 (pc' := 21) rfl dX0_init_18 rfl l0 ?_
  refine g_aload_n (pc' := 22) dX0_init_21 rfl rfl ?_
  refine g_iconst (pc' := 23) (v := 1) dX0_init_22 rfl rfl ?_
  refine gpX0_19 (pc' := 26) rfl dX0_init_23 rfl l0 ?_
  refine g_vret dX0_init_26 rfl (Nat.le_of_ble_eq_true rfl) (Nat.le_of_ble_eq_true rfl) ?_
  exact hQ
end
