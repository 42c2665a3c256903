section
-- ===== PART A: goes FIRST, ahead of the names: the tables' words, and 'selects' of the private methods out of them =====
/-- a private method of a class that the tables say can be made, by its rows of tables_1 -/
def lw_okq (q : MethodName × Nat) : Prop := (q.1.cls ≠ "java/lang/invoke/MethodHandle" ∧ q.1.cls ≠ "java/lang/invoke/VarHandle") ∧ Cond.instantiable q.1.cls q.2 ∈ tables_1 ∧ Cond.privateMethod q.1 ∈ tables_1 ∧ Cond.instanceMethod q.1 ∈ tables_1
theorem lw_p0 : lw_okq (⟨"java/lang/Throwable", "fillInStackTrace", "(I)Ljava/lang/Throwable;"⟩, 6) := ⟨⟨by decide +kernel, by decide +kernel⟩, List.mem_of_getElem? (i := 195) (by decide +kernel), List.mem_of_getElem? (i := 193) (by decide +kernel), List.mem_of_getElem? (i := 194) (by decide +kernel)⟩
theorem lw_p1 : lw_okq (⟨"MapRevisions", "needSet", "(I)V"⟩, 11) := ⟨⟨by decide +kernel, by decide +kernel⟩, List.mem_of_getElem? (i := 24) (by decide +kernel), List.mem_of_getElem? (i := 233) (by decide +kernel), List.mem_of_getElem? (i := 234) (by decide +kernel)⟩
theorem lw_p2 : lw_okq (⟨"MapRevisions", "needThing", "(I)V"⟩, 11) := ⟨⟨by decide +kernel, by decide +kernel⟩, List.mem_of_getElem? (i := 24) (by decide +kernel), List.mem_of_getElem? (i := 261) (by decide +kernel), List.mem_of_getElem? (i := 262) (by decide +kernel)⟩
theorem lw_p3 : lw_okq (⟨"MapRevisions", "isKnown", "(I)Z"⟩, 11) := ⟨⟨by decide +kernel, by decide +kernel⟩, List.mem_of_getElem? (i := 24) (by decide +kernel), List.mem_of_getElem? (i := 265) (by decide +kernel), List.mem_of_getElem? (i := 266) (by decide +kernel)⟩
theorem lw_p4 : lw_okq (⟨"MapRevisions", "needPlace", "(II)V"⟩, 11) := ⟨⟨by decide +kernel, by decide +kernel⟩, List.mem_of_getElem? (i := 24) (by decide +kernel), List.mem_of_getElem? (i := 279) (by decide +kernel), List.mem_of_getElem? (i := 280) (by decide +kernel)⟩
theorem lw_p5 : lw_okq (⟨"MapRevisions", "needOpen", "(I)V"⟩, 11) := ⟨⟨by decide +kernel, by decide +kernel⟩, List.mem_of_getElem? (i := 24) (by decide +kernel), List.mem_of_getElem? (i := 299) (by decide +kernel), List.mem_of_getElem? (i := 300) (by decide +kernel)⟩
theorem lw_p6 : lw_okq (⟨"MapRevisions", "needRoomForThing", "()V"⟩, 11) := ⟨⟨by decide +kernel, by decide +kernel⟩, List.mem_of_getElem? (i := 24) (by decide +kernel), List.mem_of_getElem? (i := 304) (by decide +kernel), List.mem_of_getElem? (i := 305) (by decide +kernel)⟩
theorem lw_p7 : lw_okq (⟨"MapRevisions", "contentOfPoint", "(II)LMapRevisions$Content;"⟩, 11) := ⟨⟨by decide +kernel, by decide +kernel⟩, List.mem_of_getElem? (i := 24) (by decide +kernel), List.mem_of_getElem? (i := 309) (by decide +kernel), List.mem_of_getElem? (i := 310) (by decide +kernel)⟩
theorem lw_p8 : lw_okq (⟨"MapRevisions", "addThing", "(IILMapRevisions$Content;)I"⟩, 11) := ⟨⟨by decide +kernel, by decide +kernel⟩, List.mem_of_getElem? (i := 24) (by decide +kernel), List.mem_of_getElem? (i := 313) (by decide +kernel), List.mem_of_getElem? (i := 314) (by decide +kernel)⟩
theorem lw_p9 : lw_okq (⟨"MapRevisions", "newVersion", "(LMapRevisions$Version;ILMapRevisions$Content;)LMapRevisions$Version;"⟩, 11) := ⟨⟨by decide +kernel, by decide +kernel⟩, List.mem_of_getElem? (i := 24) (by decide +kernel), List.mem_of_getElem? (i := 318) (by decide +kernel), List.mem_of_getElem? (i := 319) (by decide +kernel)⟩
theorem lw_p10 : lw_okq (⟨"java/util/ArrayList", "add", "(Ljava/lang/Object;[Ljava/lang/Object;I)V"⟩, 3) := ⟨⟨by decide +kernel, by decide +kernel⟩, List.mem_of_getElem? (i := 56) (by decide +kernel), List.mem_of_getElem? (i := 370) (by decide +kernel), List.mem_of_getElem? (i := 371) (by decide +kernel)⟩
theorem lw_p11 : lw_okq (⟨"java/util/ArrayList", "grow", "()[Ljava/lang/Object;"⟩, 3) := ⟨⟨by decide +kernel, by decide +kernel⟩, List.mem_of_getElem? (i := 56) (by decide +kernel), List.mem_of_getElem? (i := 374) (by decide +kernel), List.mem_of_getElem? (i := 375) (by decide +kernel)⟩
theorem lw_p12 : lw_okq (⟨"java/util/ArrayList", "grow", "(I)[Ljava/lang/Object;"⟩, 3) := ⟨⟨by decide +kernel, by decide +kernel⟩, List.mem_of_getElem? (i := 56) (by decide +kernel), List.mem_of_getElem? (i := 378) (by decide +kernel), List.mem_of_getElem? (i := 379) (by decide +kernel)⟩
theorem lw_p13 : lw_okq (⟨"MapRevisions", "contentOfDraft", "()LMapRevisions$Content;"⟩, 11) := ⟨⟨by decide +kernel, by decide +kernel⟩, List.mem_of_getElem? (i := 24) (by decide +kernel), List.mem_of_getElem? (i := 431) (by decide +kernel), List.mem_of_getElem? (i := 432) (by decide +kernel)⟩
theorem lw_p14 : lw_okq (⟨"MapRevisions", "isRowFor", "(I[I)Z"⟩, 11) := ⟨⟨by decide +kernel, by decide +kernel⟩, List.mem_of_getElem? (i := 24) (by decide +kernel), List.mem_of_getElem? (i := 445) (by decide +kernel), List.mem_of_getElem? (i := 446) (by decide +kernel)⟩
theorem lw_p15 : lw_okq (⟨"MapRevisions", "isNow", "(I)Z"⟩, 11) := ⟨⟨by decide +kernel, by decide +kernel⟩, List.mem_of_getElem? (i := 24) (by decide +kernel), List.mem_of_getElem? (i := 449) (by decide +kernel), List.mem_of_getElem? (i := 450) (by decide +kernel)⟩
def lw_privs_1 : List (MethodName × Nat) := [(⟨"java/lang/Throwable", "fillInStackTrace", "(I)Ljava/lang/Throwable;"⟩, 6), (⟨"MapRevisions", "needSet", "(I)V"⟩, 11), (⟨"MapRevisions", "needThing", "(I)V"⟩, 11), (⟨"MapRevisions", "isKnown", "(I)Z"⟩, 11), (⟨"MapRevisions", "needPlace", "(II)V"⟩, 11), (⟨"MapRevisions", "needOpen", "(I)V"⟩, 11), (⟨"MapRevisions", "needRoomForThing", "()V"⟩, 11), (⟨"MapRevisions", "contentOfPoint", "(II)LMapRevisions$Content;"⟩, 11), (⟨"MapRevisions", "addThing", "(IILMapRevisions$Content;)I"⟩, 11), (⟨"MapRevisions", "newVersion", "(LMapRevisions$Version;ILMapRevisions$Content;)LMapRevisions$Version;"⟩, 11), (⟨"java/util/ArrayList", "add", "(Ljava/lang/Object;[Ljava/lang/Object;I)V"⟩, 3), (⟨"java/util/ArrayList", "grow", "()[Ljava/lang/Object;"⟩, 3), (⟨"java/util/ArrayList", "grow", "(I)[Ljava/lang/Object;"⟩, 3), (⟨"MapRevisions", "contentOfDraft", "()LMapRevisions$Content;"⟩, 11), (⟨"MapRevisions", "isRowFor", "(I[I)Z"⟩, 11), (⟨"MapRevisions", "isNow", "(I)Z"⟩, 11)]
theorem lw_r1 : ∀ q ∈ lw_privs_1, lw_okq q := List.forall_mem_cons.mpr ⟨lw_p0, List.forall_mem_cons.mpr ⟨lw_p1, List.forall_mem_cons.mpr ⟨lw_p2, List.forall_mem_cons.mpr ⟨lw_p3, List.forall_mem_cons.mpr ⟨lw_p4, List.forall_mem_cons.mpr ⟨lw_p5, List.forall_mem_cons.mpr ⟨lw_p6, List.forall_mem_cons.mpr ⟨lw_p7, List.forall_mem_cons.mpr ⟨lw_p8, List.forall_mem_cons.mpr ⟨lw_p9, List.forall_mem_cons.mpr ⟨lw_p10, List.forall_mem_cons.mpr ⟨lw_p11, List.forall_mem_cons.mpr ⟨lw_p12, List.forall_mem_cons.mpr ⟨lw_p13, List.forall_mem_cons.mpr ⟨lw_p14, List.forall_mem_cons.mpr ⟨lw_p15, fun _ h => absurd h List.not_mem_nil⟩⟩⟩⟩⟩⟩⟩⟩⟩⟩⟩⟩⟩⟩⟩⟩
theorem lw_p16 : lw_okq (⟨"MapRevisions", "edit", "(IIILMapRevisions$Content;)I"⟩, 11) := ⟨⟨by decide +kernel, by decide +kernel⟩, List.mem_of_getElem? (i := 24) (by decide +kernel), List.mem_of_getElem? (i := 461) (by decide +kernel), List.mem_of_getElem? (i := 462) (by decide +kernel)⟩
theorem lw_p17 : lw_okq (⟨"MapRevisions", "refusalOf", "(ILMapRevisions$Content;)I"⟩, 11) := ⟨⟨by decide +kernel, by decide +kernel⟩, List.mem_of_getElem? (i := 24) (by decide +kernel), List.mem_of_getElem? (i := 465) (by decide +kernel), List.mem_of_getElem? (i := 466) (by decide +kernel)⟩
theorem lw_p18 : lw_okq (⟨"MapRevisions", "usersOf", "(J)J"⟩, 11) := ⟨⟨by decide +kernel, by decide +kernel⟩, List.mem_of_getElem? (i := 24) (by decide +kernel), List.mem_of_getElem? (i := 472) (by decide +kernel), List.mem_of_getElem? (i := 473) (by decide +kernel)⟩
theorem lw_p19 : lw_okq (⟨"MapRevisions", "leadsTo", "([II)Z"⟩, 11) := ⟨⟨by decide +kernel, by decide +kernel⟩, List.mem_of_getElem? (i := 24) (by decide +kernel), List.mem_of_getElem? (i := 479) (by decide +kernel), List.mem_of_getElem? (i := 480) (by decide +kernel)⟩
theorem lw_p20 : lw_okq (⟨"MapRevisions", "membersOf", "(J)J"⟩, 11) := ⟨⟨by decide +kernel, by decide +kernel⟩, List.mem_of_getElem? (i := 24) (by decide +kernel), List.mem_of_getElem? (i := 483) (by decide +kernel), List.mem_of_getElem? (i := 484) (by decide +kernel)⟩
theorem lw_p21 : lw_okq (⟨"MapRevisions", "addVersion", "(ILMapRevisions$Thing;LMapRevisions$Content;)I"⟩, 11) := ⟨⟨by decide +kernel, by decide +kernel⟩, List.mem_of_getElem? (i := 24) (by decide +kernel), List.mem_of_getElem? (i := 490) (by decide +kernel), List.mem_of_getElem? (i := 491) (by decide +kernel)⟩
theorem lw_p22 : lw_okq (⟨"MapRevisions", "hasVersionOf", "(II)Z"⟩, 11) := ⟨⟨by decide +kernel, by decide +kernel⟩, List.mem_of_getElem? (i := 24) (by decide +kernel), List.mem_of_getElem? (i := 517) (by decide +kernel), List.mem_of_getElem? (i := 518) (by decide +kernel)⟩
theorem lw_p23 : lw_okq (⟨"MapRevisions", "undoThing", "(III)Z"⟩, 11) := ⟨⟨by decide +kernel, by decide +kernel⟩, List.mem_of_getElem? (i := 24) (by decide +kernel), List.mem_of_getElem? (i := 521) (by decide +kernel), List.mem_of_getElem? (i := 522) (by decide +kernel)⟩
theorem lw_p24 : lw_okq (⟨"MapRevisions", "contentAheadOf", "(LMapRevisions$Version;I)LMapRevisions$Content;"⟩, 11) := ⟨⟨by decide +kernel, by decide +kernel⟩, List.mem_of_getElem? (i := 24) (by decide +kernel), List.mem_of_getElem? (i := 525) (by decide +kernel), List.mem_of_getElem? (i := 526) (by decide +kernel)⟩
theorem lw_p25 : lw_okq (⟨"MapRevisions", "needVersion", "(II)LMapRevisions$Version;"⟩, 11) := ⟨⟨by decide +kernel, by decide +kernel⟩, List.mem_of_getElem? (i := 24) (by decide +kernel), List.mem_of_getElem? (i := 594) (by decide +kernel), List.mem_of_getElem? (i := 595) (by decide +kernel)⟩
theorem lw_p26 : lw_okq (⟨"MapRevisions", "countShown", "(I)I"⟩, 11) := ⟨⟨by decide +kernel, by decide +kernel⟩, List.mem_of_getElem? (i := 24) (by decide +kernel), List.mem_of_getElem? (i := 600) (by decide +kernel), List.mem_of_getElem? (i := 601) (by decide +kernel)⟩
theorem lw_p27 : lw_okq (⟨"MapRevisions", "lastMadeBefore", "(II)I"⟩, 11) := ⟨⟨by decide +kernel, by decide +kernel⟩, List.mem_of_getElem? (i := 24) (by decide +kernel), List.mem_of_getElem? (i := 620) (by decide +kernel), List.mem_of_getElem? (i := 621) (by decide +kernel)⟩
theorem lw_p28 : lw_okq (⟨"MapRevisions", "pointsWithin", "(IIII)J"⟩, 11) := ⟨⟨by decide +kernel, by decide +kernel⟩, List.mem_of_getElem? (i := 24) (by decide +kernel), List.mem_of_getElem? (i := 632) (by decide +kernel), List.mem_of_getElem? (i := 633) (by decide +kernel)⟩
theorem lw_p29 : lw_okq (⟨"MapRevisions", "thingsOf", "(I)J"⟩, 11) := ⟨⟨by decide +kernel, by decide +kernel⟩, List.mem_of_getElem? (i := 24) (by decide +kernel), List.mem_of_getElem? (i := 636) (by decide +kernel), List.mem_of_getElem? (i := 637) (by decide +kernel)⟩
theorem lw_p30 : lw_okq (⟨"MapRevisions", "needMinutes", "(I)V"⟩, 11) := ⟨⟨by decide +kernel, by decide +kernel⟩, List.mem_of_getElem? (i := 24) (by decide +kernel), List.mem_of_getElem? (i := 647) (by decide +kernel), List.mem_of_getElem? (i := 648) (by decide +kernel)⟩
theorem lw_p31 : lw_okq (⟨"MapRevisionsModel", "goes", "(ZZZ)Z"⟩, 26) := ⟨⟨by decide +kernel, by decide +kernel⟩, List.mem_of_getElem? (i := 668) (by decide +kernel), List.mem_of_getElem? (i := 761) (by decide +kernel), List.mem_of_getElem? (i := 762) (by decide +kernel)⟩
def lw_privs_2 : List (MethodName × Nat) := [(⟨"MapRevisions", "edit", "(IIILMapRevisions$Content;)I"⟩, 11), (⟨"MapRevisions", "refusalOf", "(ILMapRevisions$Content;)I"⟩, 11), (⟨"MapRevisions", "usersOf", "(J)J"⟩, 11), (⟨"MapRevisions", "leadsTo", "([II)Z"⟩, 11), (⟨"MapRevisions", "membersOf", "(J)J"⟩, 11), (⟨"MapRevisions", "addVersion", "(ILMapRevisions$Thing;LMapRevisions$Content;)I"⟩, 11), (⟨"MapRevisions", "hasVersionOf", "(II)Z"⟩, 11), (⟨"MapRevisions", "undoThing", "(III)Z"⟩, 11), (⟨"MapRevisions", "contentAheadOf", "(LMapRevisions$Version;I)LMapRevisions$Content;"⟩, 11), (⟨"MapRevisions", "needVersion", "(II)LMapRevisions$Version;"⟩, 11), (⟨"MapRevisions", "countShown", "(I)I"⟩, 11), (⟨"MapRevisions", "lastMadeBefore", "(II)I"⟩, 11), (⟨"MapRevisions", "pointsWithin", "(IIII)J"⟩, 11), (⟨"MapRevisions", "thingsOf", "(I)J"⟩, 11), (⟨"MapRevisions", "needMinutes", "(I)V"⟩, 11), (⟨"MapRevisionsModel", "goes", "(ZZZ)Z"⟩, 26)]
theorem lw_r2 : ∀ q ∈ lw_privs_2, lw_okq q := List.forall_mem_cons.mpr ⟨lw_p16, List.forall_mem_cons.mpr ⟨lw_p17, List.forall_mem_cons.mpr ⟨lw_p18, List.forall_mem_cons.mpr ⟨lw_p19, List.forall_mem_cons.mpr ⟨lw_p20, List.forall_mem_cons.mpr ⟨lw_p21, List.forall_mem_cons.mpr ⟨lw_p22, List.forall_mem_cons.mpr ⟨lw_p23, List.forall_mem_cons.mpr ⟨lw_p24, List.forall_mem_cons.mpr ⟨lw_p25, List.forall_mem_cons.mpr ⟨lw_p26, List.forall_mem_cons.mpr ⟨lw_p27, List.forall_mem_cons.mpr ⟨lw_p28, List.forall_mem_cons.mpr ⟨lw_p29, List.forall_mem_cons.mpr ⟨lw_p30, List.forall_mem_cons.mpr ⟨lw_p31, fun _ h => absurd h List.not_mem_nil⟩⟩⟩⟩⟩⟩⟩⟩⟩⟩⟩⟩⟩⟩⟩⟩
theorem lw_p32 : lw_okq (⟨"MapRevisionsModel", "isSet", "(I)Z"⟩, 26) := ⟨⟨by decide +kernel, by decide +kernel⟩, List.mem_of_getElem? (i := 668) (by decide +kernel), List.mem_of_getElem? (i := 769) (by decide +kernel), List.mem_of_getElem? (i := 770) (by decide +kernel)⟩
theorem lw_p33 : lw_okq (⟨"MapRevisionsModel", "isThing", "(I)Z"⟩, 26) := ⟨⟨by decide +kernel, by decide +kernel⟩, List.mem_of_getElem? (i := 668) (by decide +kernel), List.mem_of_getElem? (i := 780) (by decide +kernel), List.mem_of_getElem? (i := 781) (by decide +kernel)⟩
theorem lw_p34 : lw_okq (⟨"MapRevisionsModel", "told", "(I)I"⟩, 26) := ⟨⟨by decide +kernel, by decide +kernel⟩, List.mem_of_getElem? (i := 668) (by decide +kernel), List.mem_of_getElem? (i := 788) (by decide +kernel), List.mem_of_getElem? (i := 789) (by decide +kernel)⟩
theorem lw_p35 : lw_okq (⟨"MapRevisionsModel", "isOpen", "(I)Z"⟩, 26) := ⟨⟨by decide +kernel, by decide +kernel⟩, List.mem_of_getElem? (i := 668) (by decide +kernel), List.mem_of_getElem? (i := 796) (by decide +kernel), List.mem_of_getElem? (i := 797) (by decide +kernel)⟩
theorem lw_p36 : lw_okq (⟨"MapRevisionsModel", "makes", "(IIZI)I"⟩, 26) := ⟨⟨by decide +kernel, by decide +kernel⟩, List.mem_of_getElem? (i := 668) (by decide +kernel), List.mem_of_getElem? (i := 800) (by decide +kernel), List.mem_of_getElem? (i := 801) (by decide +kernel)⟩
theorem lw_p37 : lw_okq (⟨"MapRevisionsModel", "asksDraft", "()V"⟩, 26) := ⟨⟨by decide +kernel, by decide +kernel⟩, List.mem_of_getElem? (i := 668) (by decide +kernel), List.mem_of_getElem? (i := 808) (by decide +kernel), List.mem_of_getElem? (i := 809) (by decide +kernel)⟩
theorem lw_p38 : lw_okq (⟨"MapRevisionsModel", "isUnlike", "(I)Z"⟩, 26) := ⟨⟨by decide +kernel, by decide +kernel⟩, List.mem_of_getElem? (i := 668) (by decide +kernel), List.mem_of_getElem? (i := 812) (by decide +kernel), List.mem_of_getElem? (i := 813) (by decide +kernel)⟩
theorem lw_p39 : lw_okq (⟨"MapRevisionsModel", "is", "(I)Z"⟩, 26) := ⟨⟨by decide +kernel, by decide +kernel⟩, List.mem_of_getElem? (i := 668) (by decide +kernel), List.mem_of_getElem? (i := 816) (by decide +kernel), List.mem_of_getElem? (i := 817) (by decide +kernel)⟩
theorem lw_p40 : lw_okq (⟨"MapRevisionsModel", "isRing", "(I)Z"⟩, 26) := ⟨⟨by decide +kernel, by decide +kernel⟩, List.mem_of_getElem? (i := 668) (by decide +kernel), List.mem_of_getElem? (i := 828) (by decide +kernel), List.mem_of_getElem? (i := 829) (by decide +kernel)⟩
theorem lw_p41 : lw_okq (⟨"MapRevisionsModel", "hasMember", "(II)Z"⟩, 26) := ⟨⟨by decide +kernel, by decide +kernel⟩, List.mem_of_getElem? (i := 668) (by decide +kernel), List.mem_of_getElem? (i := 832) (by decide +kernel), List.mem_of_getElem? (i := 833) (by decide +kernel)⟩
theorem lw_p42 : lw_okq (⟨"MapRevisionsModel", "users", "(I)I"⟩, 26) := ⟨⟨by decide +kernel, by decide +kernel⟩, List.mem_of_getElem? (i := 668) (by decide +kernel), List.mem_of_getElem? (i := 840) (by decide +kernel), List.mem_of_getElem? (i := 841) (by decide +kernel)⟩
theorem lw_p43 : lw_okq (⟨"MapRevisionsModel", "hasOf", "(II)Z"⟩, 26) := ⟨⟨by decide +kernel, by decide +kernel⟩, List.mem_of_getElem? (i := 668) (by decide +kernel), List.mem_of_getElem? (i := 848) (by decide +kernel), List.mem_of_getElem? (i := 849) (by decide +kernel)⟩
theorem lw_p44 : lw_okq (⟨"MapRevisionsModel", "undoes", "(III)Z"⟩, 26) := ⟨⟨by decide +kernel, by decide +kernel⟩, List.mem_of_getElem? (i := 668) (by decide +kernel), List.mem_of_getElem? (i := 852) (by decide +kernel), List.mem_of_getElem? (i := 853) (by decide +kernel)⟩
theorem lw_p45 : lw_okq (⟨"MapRevisionsModel", "asksVersion", "(I)V"⟩, 26) := ⟨⟨by decide +kernel, by decide +kernel⟩, List.mem_of_getElem? (i := 668) (by decide +kernel), List.mem_of_getElem? (i := 856) (by decide +kernel), List.mem_of_getElem? (i := 857) (by decide +kernel)⟩
theorem lw_p46 : lw_okq (⟨"MapRevisionsModel", "isVersion", "(II)Z"⟩, 26) := ⟨⟨by decide +kernel, by decide +kernel⟩, List.mem_of_getElem? (i := 668) (by decide +kernel), List.mem_of_getElem? (i := 888) (by decide +kernel), List.mem_of_getElem? (i := 889) (by decide +kernel)⟩
theorem lw_p47 : lw_okq (⟨"MapRevisionsModel", "placeOf", "(II)I"⟩, 26) := ⟨⟨by decide +kernel, by decide +kernel⟩, List.mem_of_getElem? (i := 668) (by decide +kernel), List.mem_of_getElem? (i := 892) (by decide +kernel), List.mem_of_getElem? (i := 893) (by decide +kernel)⟩
def lw_privs_3 : List (MethodName × Nat) := [(⟨"MapRevisionsModel", "isSet", "(I)Z"⟩, 26), (⟨"MapRevisionsModel", "isThing", "(I)Z"⟩, 26), (⟨"MapRevisionsModel", "told", "(I)I"⟩, 26), (⟨"MapRevisionsModel", "isOpen", "(I)Z"⟩, 26), (⟨"MapRevisionsModel", "makes", "(IIZI)I"⟩, 26), (⟨"MapRevisionsModel", "asksDraft", "()V"⟩, 26), (⟨"MapRevisionsModel", "isUnlike", "(I)Z"⟩, 26), (⟨"MapRevisionsModel", "is", "(I)Z"⟩, 26), (⟨"MapRevisionsModel", "isRing", "(I)Z"⟩, 26), (⟨"MapRevisionsModel", "hasMember", "(II)Z"⟩, 26), (⟨"MapRevisionsModel", "users", "(I)I"⟩, 26), (⟨"MapRevisionsModel", "hasOf", "(II)Z"⟩, 26), (⟨"MapRevisionsModel", "undoes", "(III)Z"⟩, 26), (⟨"MapRevisionsModel", "asksVersion", "(I)V"⟩, 26), (⟨"MapRevisionsModel", "isVersion", "(II)Z"⟩, 26), (⟨"MapRevisionsModel", "placeOf", "(II)I"⟩, 26)]
theorem lw_r3 : ∀ q ∈ lw_privs_3, lw_okq q := List.forall_mem_cons.mpr ⟨lw_p32, List.forall_mem_cons.mpr ⟨lw_p33, List.forall_mem_cons.mpr ⟨lw_p34, List.forall_mem_cons.mpr ⟨lw_p35, List.forall_mem_cons.mpr ⟨lw_p36, List.forall_mem_cons.mpr ⟨lw_p37, List.forall_mem_cons.mpr ⟨lw_p38, List.forall_mem_cons.mpr ⟨lw_p39, List.forall_mem_cons.mpr ⟨lw_p40, List.forall_mem_cons.mpr ⟨lw_p41, List.forall_mem_cons.mpr ⟨lw_p42, List.forall_mem_cons.mpr ⟨lw_p43, List.forall_mem_cons.mpr ⟨lw_p44, List.forall_mem_cons.mpr ⟨lw_p45, List.forall_mem_cons.mpr ⟨lw_p46, List.forall_mem_cons.mpr ⟨lw_p47, fun _ h => absurd h List.not_mem_nil⟩⟩⟩⟩⟩⟩⟩⟩⟩⟩⟩⟩⟩⟩⟩⟩
theorem lw_p48 : lw_okq (⟨"MapRevisionsModel", "before", "(II)I"⟩, 26) := ⟨⟨by decide +kernel, by decide +kernel⟩, List.mem_of_getElem? (i := 668) (by decide +kernel), List.mem_of_getElem? (i := 904) (by decide +kernel), List.mem_of_getElem? (i := 905) (by decide +kernel)⟩
theorem lw_p49 : lw_okq (⟨"MapRevisionsModel", "usesDrawn", "(III)Z"⟩, 26) := ⟨⟨by decide +kernel, by decide +kernel⟩, List.mem_of_getElem? (i := 668) (by decide +kernel), List.mem_of_getElem? (i := 912) (by decide +kernel), List.mem_of_getElem? (i := 913) (by decide +kernel)⟩
theorem lw_p50 : lw_okq (⟨"MapRevisionsModel", "drawnOf", "(I)I"⟩, 26) := ⟨⟨by decide +kernel, by decide +kernel⟩, List.mem_of_getElem? (i := 668) (by decide +kernel), List.mem_of_getElem? (i := 916) (by decide +kernel), List.mem_of_getElem? (i := 917) (by decide +kernel)⟩
def lw_privs_4 : List (MethodName × Nat) := [(⟨"MapRevisionsModel", "before", "(II)I"⟩, 26), (⟨"MapRevisionsModel", "usesDrawn", "(III)Z"⟩, 26), (⟨"MapRevisionsModel", "drawnOf", "(I)I"⟩, 26)]
theorem lw_r4 : ∀ q ∈ lw_privs_4, lw_okq q := List.forall_mem_cons.mpr ⟨lw_p48, List.forall_mem_cons.mpr ⟨lw_p49, List.forall_mem_cons.mpr ⟨lw_p50, fun _ h => absurd h List.not_mem_nil⟩⟩⟩
def lw_privs : List (MethodName × Nat) := lw_privs_1 ++ (lw_privs_2 ++ (lw_privs_3 ++ (lw_privs_4)))
def lw_tbl : List Cond := k2_sels lw_privs ++ tables_1
theorem lw_privs_ok : ∀ q ∈ lw_privs, lw_okq q := by
  show ∀ q ∈ lw_privs_1 ++ (lw_privs_2 ++ (lw_privs_3 ++ (lw_privs_4))), lw_okq q
  exact List.forall_mem_append.mpr ⟨lw_r1, List.forall_mem_append.mpr ⟨lw_r2, List.forall_mem_append.mpr ⟨lw_r3, lw_r4⟩⟩⟩
-- ===== end of PART A; then your names; then what follows =====
end
section
/-! ===== BEGIN words of one list among another's, by their places ===== -/
theorem goodIn_r {big : List Cond} (ws : List Cond) (ps : List Nat) (hp : ws = ps.filterMap (fun i => big[i]?)) (h : ws.all goodWord = true) : GoodIn big ws := by
  intro w hw
  have h1 := List.all_eq_true.mp h w hw
  rw [hp] at hw
  obtain ⟨i, -, hi⟩ := List.mem_filterMap.mp hw
  have hm : w ∈ big := by first | exact List.mem_of_getElem? hi | exact List.getElem?_mem hi
  exact ⟨hm, good_of_word h1⟩
theorem goodIn_app {big a b : List Cond} (ha : GoodIn big a) (hb : GoodIn big b) : GoodIn big (a ++ b) := fun w h => (List.mem_append.mp h).elim (ha w) (hb w)
theorem goodIn_ca {big a b : List Cond} {c : Cond} (ha : GoodIn big (c :: a)) (hb : GoodIn big b) : GoodIn big (c :: (a ++ b)) := fun w h => (List.mem_cons.mp h).elim (fun e => ha w (List.mem_cons.mpr (Or.inl e))) (fun h => (List.mem_append.mp h).elim (fun h => ha w (List.mem_cons.mpr (Or.inr h))) (hb w))
theorem goodIn_sub {big ws : List Cond} (hm : ∀ w ∈ ws, w ∈ big) (h : ws.all goodWord = true) : GoodIn big ws := fun w hw => ⟨hm w hw, good_of_word (List.all_eq_true.mp h w hw)⟩
/-! ===== END ===== -/

/-! ===== BEGIN exceptions that leave a method, and their catching by the caller (launches without stack traces) ===== -/
section VXA
/-! The laws vx_back, vx_callV, vx_callS, vx_callSW, vx_throw0, vx_throwS follow proofs of the library, with one case more: JvmDerived/Free/Laws.lean (Back.of_free), Shelf42/LK1.lean (callV, callS), Shelf/KitTraced.lean (throwNew0V, throwNewS). -/
/-- where a method has thrown q: the class by its name, the cell, what was written, the world -/
def vx_T (XC : String → State → State → Prop) (st : State) (q : Addr) (t : State) (mc ms : Nat) (free : Addr → Prop) : Prop :=
  ∃ (E : String) (ce : Cell) (L : List Loc), XC E st t ∧ t.heap[q]? = some ce ∧ ce.vm = .none ∧ st.vm.findClass E = some ce.cls ∧ st.WarmedH t.vm ∧ st.sameButNew ({ t with vm := st.vm } : State) L mc ms ∧ ∀ z ∈ L, free z.base
def vx_Q (Qc : Array Value → State → Outcome → State → Prop) (XC : String → State → State → Prop) (mc ms : Nat) (free : Addr → Prop) : Array Value → State → Outcome → State → Prop := fun a st o t =>
  (Qc a st o t ∧ ∃ L, FrameEnd st o t L mc ms ∧ ∀ q ∈ L, free q.base) ∨ ∃ q, o = .threw q ∧ vx_T XC st q t mc ms free
/-- a callee that returns or throws -/
def vx_Met (l : Launch) (y : MethodName) (ws : List Cond) (rm : Room) (Pc : Array Value → State → Prop) (Qc : Array Value → State → Outcome → State → Prop) (XC : String → State → State → Prop) (mc ms : Nat) (free : Addr → Prop) : Prop :=
  MetFree l y (headSpec ws rm) Pc (fun _ _ _ _ _ => True) (vx_Q Qc XC mc ms free)
def vx_Post (XC : String → State → State → Prop) (mc ms : Nat) (free : Addr → Prop) : Pt → Array Value → Addr → Pt → Prop := fun A a q B =>
  ∃ (g : JFrame) (mk : MethodId) (t : State) (L : List Loc) (E : String) (ce : Cell), B.U.heap = t.heap ∧ B.U.vm = t.vm ∧ XC E (A.U.calling g mk a) t ∧ t.heap[q]? = some ce ∧ ce.vm = .none ∧ A.U.vm.findClass E = some ce.cls ∧ B.locs = A.locs ++ L ∧ (∀ z ∈ L, free z.base) ∧ B.cells = A.cells + mc ∧ B.slots = A.slots + ms
def vx_Back (l : Launch) (R : Room) (p : Program) (e : Env) (below : List Frame) (s : State) (sargs : Array Value) (y : MethodName) (len W9 : Nat)
    (Pre : Pt → Array Value → Prop) (Post : Pt → Array Value → Option Value → Pt → Prop) (PostX : Pt → Array Value → Addr → Pt → Prop) : Prop :=
  ∀ (m : MethodId) (meth : Method) (c : Code) (A : Pt) (g : JFrame) (ig : Instr) (mk : MethodId) (a : Array Value),
    Stand p l e R s m sargs below meth c A.U A.locs A.cells A.slots → g.method = m → g.locals.size = c.maxLocals → decode c.code g.pc = .ok (ig, len) →
    2 * g.monitorRoom + (g.stack.map fun v => v.category).sum ≤ W9 → A.U.methodNamed? y = some mk → Pre A a →
    (∃ (v : Option Value) (B : Pt), Stand p l e R s m sargs below meth c B.U B.locs B.cells B.slots ∧ Post A a v B ∧
      Steps p.tables e below (doInvoke e (A.U.setTop g) [] mk a).1 (B.U.setTop { g with pc := g.pc + len, stack := v.toList ++ g.stack })) ∨
    (∃ (q : Addr) (B : Pt), Stand p l e R s m sargs below meth c B.U B.locs B.cells B.slots ∧ PostX A a q B ∧
      Steps p.tables e below (doInvoke e (A.U.setTop g) [] mk a).1 ((B.U.setTop g).pushFrame (.throwing q)))
section Payer
variable {l : Launch} {R : Room} {p : Program} {e : Env} {below : List Frame} {s : State} {sargs : Array Value} {y : MethodName} {len W9 : Nat}
theorem vx_back {ws : List Cond} {rm : Room} {Pc : Array Value → State → Prop} {Qc : Array Value → State → Outcome → State → Prop} {XC : String → State → State → Prop} {mc ms : Nat} {free : Addr → Prop} {bytes : ByteArray} {maxL : Nat} {ret : Option FieldType}
    (hM : vx_Met l y ws rm Pc Qc XC mc ms free) (hblind : FrameBlind Pc) (hrc : rm.cells = mc) (hrs : rm.slots = ms)
    (hframes : rm.frames + 1 ≤ R.frames) (hlocals : W9 + (maxL + 11) + rm.locals ≤ R.locals)
    (hws : ∀ w ∈ ws, ∀ a' U, s.WarmedH U.vm → w.before a' U = true) (hcode : Cond.code y bytes maxL ret ∈ ws) (hinit : ∀ a' U, s.WarmedH U.vm → (Cond.initialized y.cls).before a' U = true) :
    vx_Back l R p e below s sargs y len W9 (PreOf R mc ms Pc) (PostOf Qc mc ms free) (vx_Post XC mc ms free) := by
  intro m meth c A g ig mk a X hg hsize hdg hW hn hp
  have h1 : (headSpec ws rm).pre.before a A.U = true := atoms_intro fun w hw => hws w hw _ _ X.warmed
  have h2 : (Cond.code y bytes maxL ret).before a A.U = true := hws _ hcode _ _ X.warmed
  have h3 : (Cond.initialized y.cls).before a A.U = true := hinit _ _ X.warmed
  have h4 : A.cells + (headSpec ws rm).room.cells ≤ R.cells := by rw [show (headSpec ws rm).room.cells = mc from hrc]; exact hp.1
  have h5 : A.slots + (headSpec ws rm).room.slots ≤ R.slots := by rw [show (headSpec ws rm).room.slots = ms from hrs]; exact hp.2.1
  have hPc : Pc a (A.U.calling g mk a) := hblind _ _ _ _ hp.2.2
  obtain ⟨U, Ls, c0, s0⟩ := A
  dsimp only [Pt.U, Pt.locs, Pt.cells, Pt.slots] at h1 h2 h3 h4 h5 X hn hPc ⊢
  obtain ⟨methY, cY, hmY, hcY, -, hlY, -, -, -, -⟩ := Cond.code_spec hn h2
  obtain ⟨kY, hkY, -⟩ := className_of_methodNamed hn
  have hinitY : kY.init = .initialized := Cond.initialized_spec (findClass_of_methodNamed hn) hkY h3
  have h : At U g.method c below := by rw [hg]; exact X.here
  have hlocals9 : W9 + (maxL + 11) + (headSpec ws rm).room.locals ≤ R.locals := hlocals
  have happ : (headSpec ws rm).appliesLoose y e.platform (U.calling g mk a) = true :=
    Spec.appliesLoose_calling (g := g) h hdg hn hkY hinitY
      (X.room_calling (g := g) (R' := (headSpec ws rm).room) hsize hmY hcY hframes (by rw [hlY]; omega) h4 h5) h1
  obtain ⟨mid, hmid⟩ := h.above
  have hfr : (U.setTop g).frames = (.java g :: mid) ++ below := by rw [State.frames_setTop' g h.top, hmid]; rfl
  obtain ⟨o, s₂, hsteps, -, hend, hq⟩ := Steps.callFree hM p X.admits X.cas X.clock (acts := []) hfr happ hPc trivial
  have hq' : vx_Q Qc XC mc ms free a (U.calling g mk a) o s₂ := hq
  rw [State.frames_setTop' g h.top] at hend
  obtain ⟨g₀, hg0⟩ := Option.isSome_iff_exists.mp h.top
  obtain ⟨r, hr⟩ := State.topJava?_eq_some.mp hg0
  have hr' : (({ U with heap := s₂.heap, slotsUsed := s₂.slotsUsed } : State).setVm s₂.vm).frames = .java g₀ :: r := hr
  rcases hq' with ⟨hqc, L, hfe, hL⟩ | ⟨q, rfl, E, ce, L, hx, hce, hcv, hcl, hW₂, hsm, hL⟩
  · obtain ⟨⟨v, rfl⟩, hW₂, e2, q2, q3, q4, q5, q6⟩ := id hfe
    have e3 : s₂ = ({ (U.calling g mk a).setFrames s₂.frames with heap := s₂.heap, slotsUsed := s₂.slotsUsed } : State).setVm s₂.vm := by
      have : s₂ = ({ s₂ with vm := (U.calling g mk a).vm } : State).setVm s₂.vm := rfl
      rw [e2] at this
      exact this
    obtain ⟨c₂, i₂, len₂, hc₂, hd₂, hf₂⟩ := hend
    have hW' : U.WarmedH s₂.vm := hW₂
    have hcc : c₂ = c := by
      have h1 : s₂.code? g.method = U.code? g.method := by
        rw [State.code?_eq, State.code?_eq, hW'.alike.method?]
      exact Option.some.inj (hc₂.symm.trans (h1.trans h.code))
    subst hcc
    have hlen : len₂ = len := by rw [hdg] at hd₂; cases hd₂; rfl
    subst hlen
    have hs₂ : s₂ = (({ U with heap := s₂.heap, slotsUsed := s₂.slotsUsed } : State).setVm s₂.vm).setTop { g with pc := g.pc + len₂, stack := v.toList ++ g.stack } := by
      refine e3.trans ?_
      rw [hf₂, State.calling_eq h.top, State.setFrames_setFrames, State.setTop_of_frames _ hr', hr]
      rfl
    have hsame : U.sameButNew ({ U with heap := s₂.heap, slotsUsed := s₂.slotsUsed } : State) L mc ms := by
      refine ⟨?_, q2, q3, q4, q5, q6⟩
      obtain ⟨t, ht, -⟩ := State.frames_cons hr
      show ({ U with heap := s₂.heap, slotsUsed := s₂.slotsUsed } : State) = { U.setFrames U.frames with heap := s₂.heap, slotsUsed := s₂.slotsUsed }
      rw [State.setFrames_self ht]
    subst hg
    refine Or.inl ⟨v, ⟨(({ U with heap := s₂.heap, slotsUsed := s₂.slotsUsed } : State).setVm s₂.vm), Ls ++ L, c0 + mc, s0 + ms⟩,
      ⟨X.admits, X.cas, X.clock, X.frames, X.room, X.hears, X.method, X.code, (X.here.setHeapUsed s₂.heap s₂.slotsUsed).setVm hW'.alike, X.tail, State.WarmedH.trans X.warmed hW', X.limits, X.bytes, X.same.trans (hsame.setVm s.vm)⟩,
      ⟨g, mk, s₂, L, rfl, rfl, hqc, rfl, hL, rfl, rfl⟩, ?_⟩
    show Steps p.tables e below _ ((({ U with heap := s₂.heap, slotsUsed := s₂.slotsUsed } : State).setVm s₂.vm).setTop { g with pc := g.pc + len₂, stack := v.toList ++ g.stack })
    rw [← hs₂]
    exact hsteps
  · obtain ⟨e2, q2, q3, q4, q5, q6⟩ := id hsm
    have e3 : s₂ = ({ (U.calling g mk a).setFrames s₂.frames with heap := s₂.heap, slotsUsed := s₂.slotsUsed } : State).setVm s₂.vm := by
      have : s₂ = ({ s₂ with vm := (U.calling g mk a).vm } : State).setVm s₂.vm := rfl
      rw [e2] at this
      exact this
    have hf₂ : s₂.frames = .throwing q :: .java g :: U.frames.tail := hend
    have hW' : U.WarmedH s₂.vm := hW₂
    have hs₂ : s₂ = ((({ U with heap := s₂.heap, slotsUsed := s₂.slotsUsed } : State).setVm s₂.vm).setTop g).pushFrame (.throwing q) := by
      refine e3.trans ?_
      rw [hf₂, State.calling_eq h.top, State.setFrames_setFrames, State.pushFrame, State.frames_setTop _ hr', State.setTop_of_frames _ hr', State.setFrames_setFrames, hr]
      rfl
    have hsame : U.sameButNew ({ U with heap := s₂.heap, slotsUsed := s₂.slotsUsed } : State) L mc ms := by
      refine ⟨?_, q2, q3, q4, q5, q6⟩
      obtain ⟨t, ht, -⟩ := State.frames_cons hr
      show ({ U with heap := s₂.heap, slotsUsed := s₂.slotsUsed } : State) = { U.setFrames U.frames with heap := s₂.heap, slotsUsed := s₂.slotsUsed }
      rw [State.setFrames_self ht]
    subst hg
    refine Or.inr ⟨q, ⟨(({ U with heap := s₂.heap, slotsUsed := s₂.slotsUsed } : State).setVm s₂.vm), Ls ++ L, c0 + mc, s0 + ms⟩,
      ⟨X.admits, X.cas, X.clock, X.frames, X.room, X.hears, X.method, X.code, (X.here.setHeapUsed s₂.heap s₂.slotsUsed).setVm hW'.alike, X.tail, State.WarmedH.trans X.warmed hW', X.limits, X.bytes, X.same.trans (hsame.setVm s.vm)⟩,
      ⟨g, mk, s₂, L, E, ce, rfl, rfl, hx, hce, hcv, hcl, rfl, hL, rfl, rfl⟩, ?_⟩
    show Steps p.tables e below _ (((({ U with heap := s₂.heap, slotsUsed := s₂.slotsUsed } : State).setVm s₂.vm).setTop g).pushFrame (.throwing q))
    rw [← hs₂]
    exact hsteps
end Payer
section Calls
variable {p : Program} {l : Launch} {e : Env} {R : Room} {s : State} {m : MethodId} {args : Array Value} {below : List Frame} {meth : Method} {c : Code} {T : State} {locs : List Loc} {cells slots : Nat}
theorem vx_callV (X : Stand p l e R s m args below meth c T locs cells slots) (hexec : p.tables.exec = Jvm.exec) {own C : String} {index : Nat} {y : MethodName} {bytes : ByteArray} {maxL : Nat} {ret : Option FieldType}
    (hown : s.vm.findClass own = some m.cls) (hlink : (Cond.methodLink own index y).before args s = true) (hinst : (Cond.instanceMethod y).before args s = true) (hsel : (Cond.selects C y y).before args s = true)
    (hcode : (Cond.code y bytes maxL ret).before args s = true) (hy : y.cls ≠ "java/lang/invoke/MethodHandle" ∧ y.cls ≠ "java/lang/invoke/VarHandle")
    {W9 : Nat} {Pre : Pt → Array Value → Prop} {Post : Pt → Array Value → Option Value → Pt → Prop} {PostX : Pt → Array Value → Addr → Pt → Prop} (hK : vx_Back l R p e below s args y 3 W9 Pre Post PostX)
    {b : Addr} {cellB : Cell} (hcell : T.heap[b]? = some cellB) (hobj : cellB.vm.isStatics = false) (hcls : s.vm.findClass C = some cellB.cls)
    {g : JFrame} (hg : g.method = m) (hsize : g.locals.size = c.maxLocals) {argsL rest : List Value} (hlen : ∀ sig, parseMethodDescriptor y.desc = some sig → argsL.length = sig.parameters.length)
    (hstack : g.stack = argsL.reverse ++ .ref b :: rest) (hW : 2 * g.monitorRoom + (rest.map fun v => v.category).sum ≤ W9) (hdg : decode c.code g.pc = .ok (.invokevirtual index, 3))
    (hpre : ∀ vm₁, s.WarmedH vm₁ → Pre ⟨T.setVm vm₁, locs, cells, slots⟩ (Value.ref b :: argsL).toArray) :
    (∃ (v : Option Value) (vm₁ : Vm) (B : Pt), s.WarmedH vm₁ ∧ Stand p l e R s m args below meth c B.U B.locs B.cells B.slots ∧ Post ⟨T.setVm vm₁, locs, cells, slots⟩ (Value.ref b :: argsL).toArray v B ∧
      ∀ target, Steps p.tables e below (B.U.setTop { g with pc := g.pc + 3, stack := v.toList ++ rest }) target → Steps p.tables e below (T.setTop g) target) ∨
    (∃ (q : Addr) (vm₁ : Vm) (B : Pt), s.WarmedH vm₁ ∧ Stand p l e R s m args below meth c B.U B.locs B.cells B.slots ∧ PostX ⟨T.setVm vm₁, locs, cells, slots⟩ (Value.ref b :: argsL).toArray q B ∧
      Steps p.tables e below (T.setTop g) ((B.U.setTop { g with stack := rest }).pushFrame (.throwing q))) := by
  obtain ⟨mk, methM, hnamed, hmethM, hstM, habM⟩ := Cond.instanceMethod_spec hinst
  obtain ⟨methM', cM, hmethM', -, -, -, -, -, -, hsigM⟩ := Cond.code_spec hnamed hcode
  cases hmethM.symm.trans hmethM'
  obtain ⟨c2, r2, m2, q1, q2, q3, q4, kP, hkP, hkPi⟩ := Cond.selects_spec hsel
  cases hcls.symm.trans q1
  cases (State.methodFound?_of_named hnamed hy).symm.trans q2
  cases hnamed.symm.trans q3
  have hselP : selectMethod e.platform s.vm cellB.cls mk = .method mk := by rw [Launch.admits_selectMethod X.admits]; exact q4
  obtain ⟨vm₁, X₁, hstep₁⟩ := X.invokevirtual hexec hown hlink hnamed hmethM hstM hkP hkPi hy (a := b) (cell := cellB) hcell
    (fun z h => by rw [h] at hobj; cases hobj) hselP hmethM habM hkP hkPi (g := g) hg (argsL := argsL) (rest := rest) (hlen _ hsigM) hstack hdg
  rcases hK m meth c ⟨T.setVm vm₁, locs, cells, slots⟩ { g with stack := rest } (.invokevirtual index) mk (Value.ref b :: argsL).toArray X₁ hg hsize hdg hW (X₁.named hnamed) (hpre vm₁ X₁.warmed) with ⟨v, B, X', hpost, hsteps⟩ | ⟨q, B, X', hpost, hsteps⟩
  · exact Or.inl ⟨v, vm₁, B, X₁.warmed, X', hpost, fun target h => hstep₁ _ fun acts => by rw [doInvoke_state]; exact hsteps.trans h⟩
  · exact Or.inr ⟨q, vm₁, B, X₁.warmed, X', hpost, hstep₁ _ fun acts => by rw [doInvoke_state]; exact hsteps⟩
theorem vx_callS (X : Stand p l e R s m args below meth c T locs cells slots) (hexec : p.tables.exec = Jvm.exec) {own : String} {index : Nat} {y : MethodName} {bytes : ByteArray} {maxL : Nat} {ret : Option FieldType}
    (hown : s.vm.findClass own = some m.cls) (hlink : (Cond.methodLink own index y).before args s = true) (hstat : (Cond.static y).before args s = true) (hinit : (Cond.initialized y.cls).before args s = true)
    (hcode : (Cond.code y bytes maxL ret).before args s = true) (hy : y.cls ≠ "java/lang/invoke/MethodHandle" ∧ y.cls ≠ "java/lang/invoke/VarHandle")
    {W9 : Nat} {Pre : Pt → Array Value → Prop} {Post : Pt → Array Value → Option Value → Pt → Prop} {PostX : Pt → Array Value → Addr → Pt → Prop} (hK : vx_Back l R p e below s args y 3 W9 Pre Post PostX)
    {g : JFrame} (hg : g.method = m) (hsize : g.locals.size = c.maxLocals) {argsL rest : List Value} (hlen : ∀ sig, parseMethodDescriptor y.desc = some sig → argsL.length = sig.parameters.length)
    (hstack : g.stack = argsL.reverse ++ rest) (hW : 2 * g.monitorRoom + (rest.map fun v => v.category).sum ≤ W9) (hdg : decode c.code g.pc = .ok (.invokestatic index, 3))
    (hpre : ∀ vm₁, s.WarmedH vm₁ → Pre ⟨T.setVm vm₁, locs, cells, slots⟩ argsL.toArray) :
    (∃ (v : Option Value) (vm₁ : Vm) (B : Pt), s.WarmedH vm₁ ∧ Stand p l e R s m args below meth c B.U B.locs B.cells B.slots ∧ Post ⟨T.setVm vm₁, locs, cells, slots⟩ argsL.toArray v B ∧
      ∀ target, Steps p.tables e below (B.U.setTop { g with pc := g.pc + 3, stack := v.toList ++ rest }) target → Steps p.tables e below (T.setTop g) target) ∨
    (∃ (q : Addr) (vm₁ : Vm) (B : Pt), s.WarmedH vm₁ ∧ Stand p l e R s m args below meth c B.U B.locs B.cells B.slots ∧ PostX ⟨T.setVm vm₁, locs, cells, slots⟩ argsL.toArray q B ∧
      Steps p.tables e below (T.setTop g) ((B.U.setTop { g with stack := rest }).pushFrame (.throwing q))) := by
  obtain ⟨mk, hnamed⟩ := Cond.code_named hcode
  obtain ⟨methM, cM, hmethM, -, -, -, -, -, -, hsigM⟩ := Cond.code_spec hnamed hcode
  have hstatic : methM.isStatic = true := Cond.static_spec hnamed hmethM hstat
  obtain ⟨kP, hkP, -⟩ := className_of_methodNamed hnamed
  have hinitP : kP.init = .initialized := Cond.initialized_spec (findClass_of_methodNamed hnamed) hkP hinit
  obtain ⟨vm₁, X₁, hstep₁⟩ := X.invokestatic hexec hown hlink hnamed hmethM hstatic hkP hinitP hy (g := g) hg (argsL := argsL) (rest := rest) (hlen _ hsigM) hstack hdg
  rcases hK m meth c ⟨T.setVm vm₁, locs, cells, slots⟩ { g with stack := rest } (.invokestatic index) mk argsL.toArray X₁ hg hsize hdg hW (X₁.named hnamed) (hpre vm₁ X₁.warmed) with ⟨v, B, X', hpost, hsteps⟩ | ⟨q, B, X', hpost, hsteps⟩
  · exact Or.inl ⟨v, vm₁, B, X₁.warmed, X', hpost, fun target h => hstep₁ _ fun acts => by rw [doInvoke_state]; exact hsteps.trans h⟩
  · exact Or.inr ⟨q, vm₁, B, X₁.warmed, X', hpost, hstep₁ _ fun acts => by rw [doInvoke_state]; exact hsteps⟩
end Calls
theorem vx_cls {s : State} {T : State} {vm₁ : Vm} {E : String} {k : ClassId} (hW : s.WarmedH vm₁) (h : (T.setVm vm₁).vm.findClass E = some k) : s.vm.findClass E = some k := by
  have h1 : vm₁.findClass E = some k := h
  rw [hW.alike.findClass] at h1
  exact h1
/-- the method's frame g, with q thrown over it -/
def vx_W (p : Program) (l : Launch) (e : Env) (R : Room) (s : State) (m : MethodId) (args : Array Value) (below : List Frame) (meth : Method) (c : Code) (H : Heap) (locs : List Loc) (cells slots : Nat) (Q : State → Prop) (g : JFrame) (q : Addr) : Prop :=
  ∀ T : State, T.heap = H → Stand p l e R s m args below meth c T locs cells slots → ∃ t, Steps p.tables e below ((T.setTop g).pushFrame (.throwing q)) t ∧ Q t
def vx_Run (p : Program) (l : Launch) (e : Env) (R : Room) (s : State) (m : MethodId) (args : Array Value) (below : List Frame) (meth : Method) (c : Code) (H : Heap) (locs : List Loc) (cells slots mc ms : Nat) (g : JFrame) (rest : List Value) (Qa : State → Outcome → State → Prop) (XC : String → State → State → Prop) (free : Addr → Prop) : Prop :=
  ∀ T : State, T.heap = H → Stand p l e R s m args below meth c T locs cells slots →
    (∃ (v : Option Value) (st₀ t T' : State) (L : List Loc), st₀.heap = H ∧ Stand p l e R s m args below meth c T' (locs ++ L) (cells + mc) (slots + ms) ∧ (∀ q ∈ L, free q.base) ∧ T'.heap = t.heap ∧ T'.vm = t.vm ∧ Qa st₀ (.returned v) t ∧
      Goes p e below T g T' { g with pc := g.pc + 3, stack := v.toList ++ rest }) ∨
    (∃ (q : Addr) (st₀ t T' : State) (L : List Loc) (E : String) (ce : Cell), st₀.heap = H ∧ Stand p l e R s m args below meth c T' (locs ++ L) (cells + mc) (slots + ms) ∧ (∀ z ∈ L, free z.base) ∧ T'.heap = t.heap ∧ T'.vm = t.vm ∧ XC E st₀ t ∧ t.heap[q]? = some ce ∧ ce.vm = .none ∧ s.vm.findClass E = some ce.cls ∧
      Steps p.tables e below (T.setTop g) ((T'.setTop { g with stack := rest }).pushFrame (.throwing q)))
def vx_X {S : Type} (px : S → Prop) (B : String → S → State → Prop) (A : Nat → Prop) : String → State → State → Prop := fun E st t => ∃ u : S, px u ∧ B E u t ∧ va_F A st t
section Runs
variable {p : Program} {l : Launch} {e : Env} {R : Room} {s : State} {m : MethodId} {args : Array Value} {below : List Frame} {meth : Method} {c : Code} {H : Heap} {locs : List Loc} {cells slots : Nat}
variable {y : MethodName} {bytes cc : ByteArray} {maxL nL mc ms n index : Nat} {ret : Option FieldType} {ws : List Cond} {rm : Room} {Pc : Array Value → State → Prop} {Qc : Array Value → State → Outcome → State → Prop} {XC : String → State → State → Prop} {free : Addr → Prop} {Ts : List Cond} {own C : String} {b : Addr} {As rest : List Value} {g : JFrame}
theorem vx_callBack (cb : CallB R s args own index y bytes maxL ret ws rm mc ms n) (hM : vx_Met l y ws rm Pc Qc XC mc ms free) (hbl : FrameBlind Pc) : vx_Back l R p e below s args y 3 8 (PreOf R mc ms Pc) (PostOf Qc mc ms free) (vx_Post XC mc ms free) := by
  obtain ⟨hrc, hrs, hfr, hlo, hws, hcw, -, hini, -⟩ := cb
  exact vx_back (bytes := bytes) (maxL := maxL) (ret := ret) hM hbl hrc hrs hfr hlo hws hcw (fun a' U hW => word_at hW (Or.inl (by first | rfl | simp [Cond.onTables, Cond.keeps, Cond.steady])) hini)
theorem vx_runV (S : CallFix p m c cc nL s args Ts own) (hM : vx_Met l y ws rm Pc Qc XC mc ms free) (cw : CallW R s args own C index y bytes maxL ret ws rm mc ms n) (hp : PreV s H C b Pc As)
    (hg : g.method = m) (hn : As.length = n) (hsize : g.locals.size = nL) (hstack : g.stack = As.reverse ++ .ref b :: rest) (hW : 2 * g.monitorRoom + (rest.map fun v => v.category).sum ≤ 8) (hdg : decode cc g.pc = .ok (.invokevirtual index, 3)) (hf : cells + mc ≤ R.cells ∧ slots + ms ≤ R.slots) :
    vx_Run p l e R s m args below meth c H locs cells slots mc ms g rest (Qc (Value.ref b :: As).toArray) XC free := by
  have hK : vx_Back l R p e below s args y 3 8 (PreOf R mc ms Pc) (PostOf Qc mc ms free) (vx_Post XC mc ms free) := vx_callBack cw.1 hM hp.1
  obtain ⟨⟨-, -, -, -, -, -, hcode, -, hy, hlen, hl⟩, hin, hse⟩ := cw
  obtain ⟨hx, hb, hml, ho, -⟩ := S
  obtain ⟨-, ⟨cellB, hcB, hoB, hclB⟩, hPc⟩ := hp
  intro T hT X
  rcases vx_callV X hx (C := C) (bytes := bytes) (maxL := maxL) (ret := ret) ho hl hin hse hcode hy hK (by rw [hT]; exact hcB) hoB hclB hg (hsize.trans hml.symm) (argsL := As) (rest := rest) (fun sig h => hn.trans (hlen sig h)) hstack hW (by rw [hb]; exact hdg)
    (fun vm₁ hW₁ => ⟨hf.1, hf.2, hPc (T.setVm vm₁) hT hW₁⟩) with ⟨v, vm₁, ⟨U', l2, c2, s2⟩, hW₁, X', ⟨g', mk, t, L, e1, e2, hq, h1, hL, h2, h3⟩, st⟩ | ⟨q, vm₁, ⟨U', l2, c2, s2⟩, hW₁, X', ⟨g', mk, t, L, E, ce, e1, e2, hq, hce, hcv, hcl, h1, hL, h2, h3⟩, st⟩
  · dsimp only [Pt.U, Pt.locs, Pt.cells, Pt.slots] at X' e1 e2 h1 h2 h3 st
    subst h1; subst h2; subst h3
    exact Or.inl ⟨v, (T.setVm vm₁).calling g' mk (Value.ref b :: As).toArray, t, U', L, hT, X', hL, e1, e2, hq, st⟩
  · dsimp only [Pt.U, Pt.locs, Pt.cells, Pt.slots] at X' e1 e2 h1 h2 h3 st hcl
    subst h1; subst h2; subst h3
    exact Or.inr ⟨q, (T.setVm vm₁).calling g' mk (Value.ref b :: As).toArray, t, U', L, E, ce, hT, X', hL, e1, e2, hq, hce, hcv, vx_cls hW₁ hcl, st⟩
theorem vx_runS (S : CallFix p m c cc nL s args Ts own) (hM : vx_Met l y ws rm Pc Qc XC mc ms free) (cw : CallB R s args own index y bytes maxL ret ws rm mc ms n ∧ (Cond.static y).before args s = true) (hp : PreS s H Pc As)
    (hg : g.method = m) (hn : As.length = n) (hsize : g.locals.size = nL) (hstack : g.stack = As.reverse ++ rest) (hW : 2 * g.monitorRoom + (rest.map fun v => v.category).sum ≤ 8) (hdg : decode cc g.pc = .ok (.invokestatic index, 3)) (hf : cells + mc ≤ R.cells ∧ slots + ms ≤ R.slots) :
    vx_Run p l e R s m args below meth c H locs cells slots mc ms g rest (Qc As.toArray) XC free := by
  have hK : vx_Back l R p e below s args y 3 8 (PreOf R mc ms Pc) (PostOf Qc mc ms free) (vx_Post XC mc ms free) := vx_callBack cw.1 hM hp.1
  obtain ⟨⟨-, -, -, -, -, -, hcode, hini, hy, hlen, hl⟩, hstt⟩ := cw
  obtain ⟨hx, hb, hml, ho, -⟩ := S
  intro T hT X
  rcases vx_callS X hx (bytes := bytes) (maxL := maxL) (ret := ret) ho hl hstt hini hcode hy hK hg (hsize.trans hml.symm) (argsL := As) (rest := rest) (fun sig h => hn.trans (hlen sig h)) hstack hW (by rw [hb]; exact hdg)
    (fun vm₁ hW₁ => ⟨hf.1, hf.2, hp.2 (T.setVm vm₁) hT hW₁⟩) with ⟨v, vm₁, ⟨U', l2, c2, s2⟩, hW₁, X', ⟨g', mk, t, L, e1, e2, hq, h1, hL, h2, h3⟩, st⟩ | ⟨q, vm₁, ⟨U', l2, c2, s2⟩, hW₁, X', ⟨g', mk, t, L, E, ce, e1, e2, hq, hce, hcv, hcl, h1, hL, h2, h3⟩, st⟩
  · dsimp only [Pt.U, Pt.locs, Pt.cells, Pt.slots] at X' e1 e2 h1 h2 h3 st
    subst h1; subst h2; subst h3
    exact Or.inl ⟨v, (T.setVm vm₁).calling g' mk As.toArray, t, U', L, hT, X', hL, e1, e2, hq, st⟩
  · dsimp only [Pt.U, Pt.locs, Pt.cells, Pt.slots] at X' e1 e2 h1 h2 h3 st hcl
    subst h1; subst h2; subst h3
    exact Or.inr ⟨q, (T.setVm vm₁).calling g' mk As.toArray, t, U', L, E, ce, hT, X', hL, e1, e2, hq, hce, hcv, vx_cls hW₁ hcl, st⟩
end Runs
section Rows
variable {p : Program} {l : Launch} {e : Env} {R : Room} {s : State} {m : MethodId} {args : Array Value} {below : List Frame} {meth : Method} {c : Code} {H : Heap} {locs : List Loc} {cells slots : Nat} {Q : State → Prop}
variable {mc ms : Nat} {free : Addr → Prop} {A0 A1 : Nat → Prop} {H0 : Heap} {a : Array Value} {pc : Nat} {ls : Array Slot} {st0 rest : List Value}
theorem vx_keep {st₀ t T' : State} {L : List Loc} (h0 : st₀.heap = H) (e1 : T'.heap = t.heap) (hS : va_S A0 H0 H locs) (hA : ∀ q, q < H.size → A1 q → A0 q) (hf : ∀ q, free q → A0 q) (hL : ∀ q ∈ L, free q.base) (hF : va_F A1 st₀ t) :
    H.size ≤ T'.heap.size ∧ (∀ q : Nat, q < H.size → ¬ A1 q → T'.heap[q]? = H[q]?) ∧ va_S A0 H0 T'.heap (locs ++ L) := by
  obtain ⟨hz, hk⟩ := hF
  rw [h0] at hz hk
  exact ⟨by rw [e1]; exact hz, fun q h1 h2 => by rw [e1]; exact hk q h1 h2,
    ⟨Nat.le_trans hS.1 (by rw [e1]; exact hz), fun q h1 h2 => by rw [e1, hk q (Nat.lt_of_lt_of_le h1 hS.1) (fun z => h2 (hA q (Nat.lt_of_lt_of_le h1 hS.1) z))]; exact hS.2.1 q h1 h2, fun q hq => by
      rcases List.mem_append.mp hq with h | h
      · exact hS.2.2 q h
      · exact hf _ (hL q h)⟩⟩
theorem vx_calli {S SX : Type} {post : Int32 → S → Prop} {px : SX → Prop} {B : S → State → Prop} {BX : String → SX → State → Prop} {AX : Nat → Prop} (hr : vx_Run p l e R s m args below meth c H locs cells slots mc ms (F0 m pc ls st0) rest (va_Qi post B A1 a) (vx_X px BX AX) free) (hS : va_S A0 H0 H locs) (hA : ∀ q, q < H.size → A1 q → A0 q) (hf : ∀ q, free q → A0 q) (hAX : ∀ q, q < H.size → AX q → A0 q)
    (kx : ∀ (E : String) (ce : Cell) (q9 : Addr) (u : SX) (t : State) (H1 : Heap) (locs1 : List Loc), t.heap = H1 → s.vm.Alike t.vm → px u → BX E u t → H.size ≤ H1.size → (∀ q : Nat, q < H.size → ¬ AX q → H1[q]? = H[q]?) → va_S A0 H0 H1 locs1 → H1[q9]? = some ce → ce.vm = .none → s.vm.findClass E = some ce.cls → vx_W p l e R s m args below meth c H1 locs1 (cells + mc) (slots + ms) Q (F0 m pc ls rest) q9)
    (kk : ∀ (r : Int32) (u : S) (t : State) (H1 : Heap) (locs1 : List Loc), t.heap = H1 → s.vm.Alike t.vm → post r u → B u t → H.size ≤ H1.size → (∀ q : Nat, q < H.size → ¬ A1 q → H1[q]? = H[q]?) → va_S A0 H0 H1 locs1 → W p l e R s m args below meth c H1 locs1 (cells + mc) (slots + ms) Q (F0 m (pc + 3) ls (.int r :: rest))) : W p l e R s m args below meth c H locs cells slots Q (F0 m pc ls st0) := by
  intro T hT X
  rcases hr T hT X with ⟨v, st₀, t, T', L, h0, X', hL, e1, e2, ⟨⟨r, u, hv, hp, hb⟩, hF⟩, st⟩ | ⟨q, st₀, t, T', L, E, ce, h0, X', hL, e1, e2, ⟨u, hp, hb, hF⟩, hce, hcv, hcl, st⟩
  · cases hv
    obtain ⟨k1, k2, k3⟩ := vx_keep h0 e1 hS hA hf hL hF
    obtain ⟨t2, a1, b1⟩ := kk r u t T'.heap (locs ++ L) e1.symm (by rw [← e2]; exact X'.warmed.alike) hp hb k1 k2 k3 T' rfl X'
    exact ⟨t2, st t2 a1, b1⟩
  · obtain ⟨k1, k2, k3⟩ := vx_keep h0 e1 hS hAX hf hL hF
    obtain ⟨t2, a1, b1⟩ := kx E ce q u t T'.heap (locs ++ L) e1.symm (by rw [← e2]; exact X'.warmed.alike) hp hb k1 k2 k3 (by rw [e1]; exact hce) hcv hcl T' rfl X'
    exact ⟨t2, st.trans a1, b1⟩
theorem vx_calll {S SX : Type} {post : Int64 → S → Prop} {px : SX → Prop} {B : S → State → Prop} {BX : String → SX → State → Prop} {AX : Nat → Prop} (hr : vx_Run p l e R s m args below meth c H locs cells slots mc ms (F0 m pc ls st0) rest (va_Ql post B A1 a) (vx_X px BX AX) free) (hS : va_S A0 H0 H locs) (hA : ∀ q, q < H.size → A1 q → A0 q) (hf : ∀ q, free q → A0 q) (hAX : ∀ q, q < H.size → AX q → A0 q)
    (kx : ∀ (E : String) (ce : Cell) (q9 : Addr) (u : SX) (t : State) (H1 : Heap) (locs1 : List Loc), t.heap = H1 → s.vm.Alike t.vm → px u → BX E u t → H.size ≤ H1.size → (∀ q : Nat, q < H.size → ¬ AX q → H1[q]? = H[q]?) → va_S A0 H0 H1 locs1 → H1[q9]? = some ce → ce.vm = .none → s.vm.findClass E = some ce.cls → vx_W p l e R s m args below meth c H1 locs1 (cells + mc) (slots + ms) Q (F0 m pc ls rest) q9)
    (kk : ∀ (r : Int64) (u : S) (t : State) (H1 : Heap) (locs1 : List Loc), t.heap = H1 → s.vm.Alike t.vm → post r u → B u t → H.size ≤ H1.size → (∀ q : Nat, q < H.size → ¬ A1 q → H1[q]? = H[q]?) → va_S A0 H0 H1 locs1 → W p l e R s m args below meth c H1 locs1 (cells + mc) (slots + ms) Q (F0 m (pc + 3) ls (.long r :: rest))) : W p l e R s m args below meth c H locs cells slots Q (F0 m pc ls st0) := by
  intro T hT X
  rcases hr T hT X with ⟨v, st₀, t, T', L, h0, X', hL, e1, e2, ⟨⟨r, u, hv, hp, hb⟩, hF⟩, st⟩ | ⟨q, st₀, t, T', L, E, ce, h0, X', hL, e1, e2, ⟨u, hp, hb, hF⟩, hce, hcv, hcl, st⟩
  · cases hv
    obtain ⟨k1, k2, k3⟩ := vx_keep h0 e1 hS hA hf hL hF
    obtain ⟨t2, a1, b1⟩ := kk r u t T'.heap (locs ++ L) e1.symm (by rw [← e2]; exact X'.warmed.alike) hp hb k1 k2 k3 T' rfl X'
    exact ⟨t2, st t2 a1, b1⟩
  · obtain ⟨k1, k2, k3⟩ := vx_keep h0 e1 hS hAX hf hL hF
    obtain ⟨t2, a1, b1⟩ := kx E ce q u t T'.heap (locs ++ L) e1.symm (by rw [← e2]; exact X'.warmed.alike) hp hb k1 k2 k3 (by rw [e1]; exact hce) hcv hcl T' rfl X'
    exact ⟨t2, st.trans a1, b1⟩
theorem vx_callf {S SX : Type} {post : UInt32 → S → Prop} {px : SX → Prop} {B : S → State → Prop} {BX : String → SX → State → Prop} {AX : Nat → Prop} (hr : vx_Run p l e R s m args below meth c H locs cells slots mc ms (F0 m pc ls st0) rest (va_Qf post B A1 a) (vx_X px BX AX) free) (hS : va_S A0 H0 H locs) (hA : ∀ q, q < H.size → A1 q → A0 q) (hf : ∀ q, free q → A0 q) (hAX : ∀ q, q < H.size → AX q → A0 q)
    (kx : ∀ (E : String) (ce : Cell) (q9 : Addr) (u : SX) (t : State) (H1 : Heap) (locs1 : List Loc), t.heap = H1 → s.vm.Alike t.vm → px u → BX E u t → H.size ≤ H1.size → (∀ q : Nat, q < H.size → ¬ AX q → H1[q]? = H[q]?) → va_S A0 H0 H1 locs1 → H1[q9]? = some ce → ce.vm = .none → s.vm.findClass E = some ce.cls → vx_W p l e R s m args below meth c H1 locs1 (cells + mc) (slots + ms) Q (F0 m pc ls rest) q9)
    (kk : ∀ (r : UInt32) (u : S) (t : State) (H1 : Heap) (locs1 : List Loc), t.heap = H1 → s.vm.Alike t.vm → post r u → B u t → H.size ≤ H1.size → (∀ q : Nat, q < H.size → ¬ A1 q → H1[q]? = H[q]?) → va_S A0 H0 H1 locs1 → W p l e R s m args below meth c H1 locs1 (cells + mc) (slots + ms) Q (F0 m (pc + 3) ls (.float r :: rest))) : W p l e R s m args below meth c H locs cells slots Q (F0 m pc ls st0) := by
  intro T hT X
  rcases hr T hT X with ⟨v, st₀, t, T', L, h0, X', hL, e1, e2, ⟨⟨r, u, hv, hp, hb⟩, hF⟩, st⟩ | ⟨q, st₀, t, T', L, E, ce, h0, X', hL, e1, e2, ⟨u, hp, hb, hF⟩, hce, hcv, hcl, st⟩
  · cases hv
    obtain ⟨k1, k2, k3⟩ := vx_keep h0 e1 hS hA hf hL hF
    obtain ⟨t2, a1, b1⟩ := kk r u t T'.heap (locs ++ L) e1.symm (by rw [← e2]; exact X'.warmed.alike) hp hb k1 k2 k3 T' rfl X'
    exact ⟨t2, st t2 a1, b1⟩
  · obtain ⟨k1, k2, k3⟩ := vx_keep h0 e1 hS hAX hf hL hF
    obtain ⟨t2, a1, b1⟩ := kx E ce q u t T'.heap (locs ++ L) e1.symm (by rw [← e2]; exact X'.warmed.alike) hp hb k1 k2 k3 (by rw [e1]; exact hce) hcv hcl T' rfl X'
    exact ⟨t2, st.trans a1, b1⟩
theorem vx_calld {S SX : Type} {post : UInt64 → S → Prop} {px : SX → Prop} {B : S → State → Prop} {BX : String → SX → State → Prop} {AX : Nat → Prop} (hr : vx_Run p l e R s m args below meth c H locs cells slots mc ms (F0 m pc ls st0) rest (va_Qd post B A1 a) (vx_X px BX AX) free) (hS : va_S A0 H0 H locs) (hA : ∀ q, q < H.size → A1 q → A0 q) (hf : ∀ q, free q → A0 q) (hAX : ∀ q, q < H.size → AX q → A0 q)
    (kx : ∀ (E : String) (ce : Cell) (q9 : Addr) (u : SX) (t : State) (H1 : Heap) (locs1 : List Loc), t.heap = H1 → s.vm.Alike t.vm → px u → BX E u t → H.size ≤ H1.size → (∀ q : Nat, q < H.size → ¬ AX q → H1[q]? = H[q]?) → va_S A0 H0 H1 locs1 → H1[q9]? = some ce → ce.vm = .none → s.vm.findClass E = some ce.cls → vx_W p l e R s m args below meth c H1 locs1 (cells + mc) (slots + ms) Q (F0 m pc ls rest) q9)
    (kk : ∀ (r : UInt64) (u : S) (t : State) (H1 : Heap) (locs1 : List Loc), t.heap = H1 → s.vm.Alike t.vm → post r u → B u t → H.size ≤ H1.size → (∀ q : Nat, q < H.size → ¬ A1 q → H1[q]? = H[q]?) → va_S A0 H0 H1 locs1 → W p l e R s m args below meth c H1 locs1 (cells + mc) (slots + ms) Q (F0 m (pc + 3) ls (.double r :: rest))) : W p l e R s m args below meth c H locs cells slots Q (F0 m pc ls st0) := by
  intro T hT X
  rcases hr T hT X with ⟨v, st₀, t, T', L, h0, X', hL, e1, e2, ⟨⟨r, u, hv, hp, hb⟩, hF⟩, st⟩ | ⟨q, st₀, t, T', L, E, ce, h0, X', hL, e1, e2, ⟨u, hp, hb, hF⟩, hce, hcv, hcl, st⟩
  · cases hv
    obtain ⟨k1, k2, k3⟩ := vx_keep h0 e1 hS hA hf hL hF
    obtain ⟨t2, a1, b1⟩ := kk r u t T'.heap (locs ++ L) e1.symm (by rw [← e2]; exact X'.warmed.alike) hp hb k1 k2 k3 T' rfl X'
    exact ⟨t2, st t2 a1, b1⟩
  · obtain ⟨k1, k2, k3⟩ := vx_keep h0 e1 hS hAX hf hL hF
    obtain ⟨t2, a1, b1⟩ := kx E ce q u t T'.heap (locs ++ L) e1.symm (by rw [← e2]; exact X'.warmed.alike) hp hb k1 k2 k3 (by rw [e1]; exact hce) hcv hcl T' rfl X'
    exact ⟨t2, st.trans a1, b1⟩
theorem vx_callv {S SX : Type} {post : S → Prop} {px : SX → Prop} {B : S → State → Prop} {BX : String → SX → State → Prop} {AX : Nat → Prop} (hr : vx_Run p l e R s m args below meth c H locs cells slots mc ms (F0 m pc ls st0) rest (va_Qv post B A1 a) (vx_X px BX AX) free) (hS : va_S A0 H0 H locs) (hA : ∀ q, q < H.size → A1 q → A0 q) (hf : ∀ q, free q → A0 q) (hAX : ∀ q, q < H.size → AX q → A0 q)
    (kx : ∀ (E : String) (ce : Cell) (q9 : Addr) (u : SX) (t : State) (H1 : Heap) (locs1 : List Loc), t.heap = H1 → s.vm.Alike t.vm → px u → BX E u t → H.size ≤ H1.size → (∀ q : Nat, q < H.size → ¬ AX q → H1[q]? = H[q]?) → va_S A0 H0 H1 locs1 → H1[q9]? = some ce → ce.vm = .none → s.vm.findClass E = some ce.cls → vx_W p l e R s m args below meth c H1 locs1 (cells + mc) (slots + ms) Q (F0 m pc ls rest) q9)
    (kk : ∀ (u : S) (t : State) (H1 : Heap) (locs1 : List Loc), t.heap = H1 → s.vm.Alike t.vm → post u → B u t → H.size ≤ H1.size → (∀ q : Nat, q < H.size → ¬ A1 q → H1[q]? = H[q]?) → va_S A0 H0 H1 locs1 → W p l e R s m args below meth c H1 locs1 (cells + mc) (slots + ms) Q (F0 m (pc + 3) ls (rest))) : W p l e R s m args below meth c H locs cells slots Q (F0 m pc ls st0) := by
  intro T hT X
  rcases hr T hT X with ⟨v, st₀, t, T', L, h0, X', hL, e1, e2, ⟨⟨u, hv, hp, hb⟩, hF⟩, st⟩ | ⟨q, st₀, t, T', L, E, ce, h0, X', hL, e1, e2, ⟨u, hp, hb, hF⟩, hce, hcv, hcl, st⟩
  · cases hv
    obtain ⟨k1, k2, k3⟩ := vx_keep h0 e1 hS hA hf hL hF
    obtain ⟨t2, a1, b1⟩ := kk u t T'.heap (locs ++ L) e1.symm (by rw [← e2]; exact X'.warmed.alike) hp hb k1 k2 k3 T' rfl X'
    exact ⟨t2, st t2 a1, b1⟩
  · obtain ⟨k1, k2, k3⟩ := vx_keep h0 e1 hS hAX hf hL hF
    obtain ⟨t2, a1, b1⟩ := kx E ce q u t T'.heap (locs ++ L) e1.symm (by rw [← e2]; exact X'.warmed.alike) hp hb k1 k2 k3 (by rw [e1]; exact hce) hcv hcl T' rfl X'
    exact ⟨t2, st.trans a1, b1⟩
/-- caught by the row x of this method's table; the rows ahead don't take it -/
theorem vx_catch {own name : String} {E : String} {ce : Cell} {q : Addr} (hown : s.vm.findClass own = some m.cls) (pre : List ExceptionTableEntry) (x : ExceptionTableEntry) (suf : List ExceptionTableEntry) (hsplit : c.exceptionTable.toList = pre ++ x :: suf)
    (hpass : ∀ z ∈ pre, covers z pc = false ∨ (z.catchType ≠ 0 ∧ ∃ nm : String, (Cond.classLink own z.catchType nm).before args s = true ∧ va_Nc E nm s)) (hx : covers x pc = true) (h0 : x.catchType ≠ 0)
    (hlink : (Cond.classLink own x.catchType name).before args s = true) (hcast : (Cond.castable E name).before args s = true) (hcell : H[q]? = some ce) (hv : ce.vm = .none) (hcl : s.vm.findClass E = some ce.cls)
    (kk : W p l e R s m args below meth c H locs cells slots Q (F0 m x.handlerPc ls [.ref q])) : vx_W p l e R s m args below meth c H locs cells slots Q (F0 m pc ls rest) q := by
  intro T hT X
  have hpl : e.platform.magicAccessors = ({} : Platform).magicAccessors := by rw [X.admits.platform]
  obtain ⟨c3, c4, hc3, hc4, hasg⟩ := Cond.castable_spec hcast
  cases Option.some.inj (hc3.symm.trans hcl)
  obtain ⟨c5, hc5, hcl5⟩ := Cond.classLink_spec hown hlink e.platform hpl
  cases Option.some.inj (hc4.symm.trans hc5)
  obtain ⟨vm', X', st⟩ := X.thenCaughtThrough q (g := F0 m pc ls rest) rfl (Steps.refl _) (by rw [hT]; exact hcell) (by rw [hv]; rfl) (by obtain ⟨k9, h9, -⟩ := Vm.findClass_spec hcl; exact ⟨k9, h9⟩) pre x suf hsplit
    (fun z hz => by
      rcases hpass z hz with h | ⟨hz0, nm, hl1, hn1⟩
      · exact Or.inl h
      · obtain ⟨c6, hc6, hcl6⟩ := Cond.classLink_spec hown hl1 e.platform hpl
        obtain ⟨a8, b8, h1, h2, h3⟩ := hn1
        cases Option.some.inj (h1.symm.trans hcl)
        cases Option.some.inj (h2.symm.trans hc6)
        exact Or.inr ⟨hz0, _, hcl6, h3⟩) hx (Or.inr ⟨h0, c4, hcl5, hasg⟩)
  obtain ⟨t, a1, b1⟩ := kk (T.setVm vm') hT X'
  exact ⟨t, st.trans a1, b1⟩
end Rows
section Ends
variable {p : Program} {l : Launch} {e : Env} {R : Room} {s : State} {m : MethodId} {args : Array Value} {below : List Frame} {meth : Method} {c : Code} {H : Heap} {locs : List Loc} {cells slots : Nat} {Q : State → Prop}
variable {mc ms : Nat} {free : Addr → Prop} {A0 A1 : Nat → Prop} {H0 : Heap} {a : Array Value} {ls : Array Slot} {st0 rest : List Value}
variable {Qc : Array Value → State → Outcome → State → Prop} {XC : String → State → State → Prop}
/-- what a body that may throw owes at its end -/
def vx_MQ (below : List Frame) (Qc : Array Value → State → Outcome → State → Prop) (XC : String → State → State → Prop) (a : Array Value) (s : State) (mc ms : Nat) (free : Addr → Prop) : State → Prop := fun t =>
  ∃ o, t.status = .running ∧ Ended t below o ∧ vx_Q Qc XC mc ms free a s o t
theorem vx_ret {g : JFrame} {mc ms : Nat} (k : W p l e R s m args below meth c H locs cells slots (MQ below Qc args s mc ms free) g) : W p l e R s m args below meth c H locs cells slots (vx_MQ below Qc XC args s mc ms free) g := by
  intro T hT X
  obtain ⟨t, a1, o, b1, b2, b3, b4⟩ := k T hT X
  exact ⟨t, a1, o, b1, b2, Or.inl ⟨b3, b4⟩⟩
/-- not caught here: it goes on to the caller -/
theorem vx_widen {g : JFrame} {q : Addr} {k n : Nat} (h1 : cells ≤ k) (h2 : slots ≤ n) (kk : vx_W p l e R s m args below meth c H locs k n Q g q) : vx_W p l e R s m args below meth c H locs cells slots Q g q := fun T hT X => kk T hT (stand_widen X h1 h2)
theorem vx_out {pc : Nat} {E : String} {ce : Cell} {q : Addr} {mc ms : Nat} (hout : ∀ x ∈ c.exceptionTable.toList, covers x pc = false) (hlocks : meth.locks = false) (hcell : H[q]? = some ce) (hv : ce.vm = .none) (hcl : s.vm.findClass E = some ce.cls)
    (hx : ∀ t : State, t.heap = H → s.vm.Alike t.vm → XC E s t) (hf : ∀ z ∈ locs, free z.base) (hc : cells ≤ mc) (hs : slots ≤ ms) :
    vx_W p l e R s m args below meth c H locs cells slots (vx_MQ below Qc XC args s mc ms free) (F0 m pc ls rest) q := by
  intro T hT X
  obtain ⟨st1, hrun, hend, hW, hsm⟩ := X.leaveThrown q (g := F0 m pc ls rest) rfl rfl rfl hout hlocks
  have hcell9 : (T.setFrames (.throwing q :: below)).heap[q]? = some ce := by
    show T.heap[q]? = some ce
    rw [hT]; exact hcell
  exact ⟨_, st1, .threw q, hrun, hend, Or.inr ⟨q, rfl, E, ce, locs, hx _ hT hW.alike, hcell9, hv, hcl, hW, hsm.mono hc hs, hf⟩⟩
theorem vx_frame {U : State} {k n : Nat} (h : s.sameButNew ({ U with vm := s.vm } : State) locs k n) : s.heap.size ≤ U.heap.size ∧ ∀ q : Nat, q < s.heap.size → (∀ z ∈ locs, z.base ≠ q) → U.heap[q]? = s.heap[q]? := by
  obtain ⟨-, h2, -, -, -, h6⟩ := h
  refine ⟨h2, fun q hq hz => ?_⟩
  obtain ⟨c9, e1, e2, e3, e4⟩ := h6 q _ (Array.getElem?_eq_getElem hq)
  have hs : c9.slots = (s.heap[q]).slots := Array.ext_getElem? fun i => e4 i fun hm => hz _ hm rfl
  have h9 : c9 = s.heap[q] := by
    rw [hs] at e2
    exact e2
  have e5 : U.heap[q]? = some c9 := e1
  rw [e5, h9, Array.getElem?_eq_getElem hq]
/-- the words of a throw but the four that speak of the heap -/
def vx_no (w : Cond) : Bool := decide (w ≠ .isRef (.static Bundle.tN "UNASSIGNED_STACK" Bundle.steD)) && decide (w ≠ .isRef (.static Bundle.tN "SUPPRESSED_SENTINEL" Bundle.listD)) && decide (w ≠ .laysStatic Bundle.tN "UNASSIGNED_STACK" Bundle.steD) && decide (w ≠ .laysStatic Bundle.tN "SUPPRESSED_SENTINEL" Bundle.listD)
def vx_at0 (own : String) (ic : Nat) (X : String) (names : List String) : List Cond := (Bundle.ownAtoms0 own ic X names).filter vx_no
def vx_atS (own : String) (ic : Nat) (X : String) (names : List String) : List Cond := (Bundle.ownAtoms own ic X names).filter vx_no
/-- a word that the tables alone decide, or a good one -/
def vx_ot (w : Cond) : Bool := w.onTables || goodWord w
theorem vx_ot_at {args a' : Array Value} {s U : State} {w : Cond} (hW : s.WarmedH U.vm) (hvm : s.vm = U.vm) (hg : vx_ot w = true) (h : w.before args s = true) : w.before a' U = true := by
  simp only [vx_ot, Bool.or_eq_true] at hg
  rcases hg with hg | hg
  · exact va_tabs hg hvm h
  · exact word_at hW (good_of_word hg) h
/-- a list's words: the good ones out of the method's own list, the others by premises of their own -/
theorem vx_hat {args : Array Value} {s : State} {L B : List Cond} (h1 : ∀ w ∈ L.filter goodWord, w.before args s = true) (h2 : ∀ w ∈ L.filter (fun w => !goodWord w), w ∈ B) (h3 : ∀ w ∈ B, w.before args s = true) : ∀ w ∈ L, w.before args s = true := by
  intro w hw
  by_cases g : goodWord w = true
  · exact h1 w (List.mem_filter.mpr ⟨hw, g⟩)
  · refine h3 w (h2 w (List.mem_filter.mpr ⟨hw, ?_⟩))
    show (!goodWord w) = true
    cases hgw : goodWord w
    · rfl
    · exact absurd hgw g
theorem vx_c {args : Array Value} {s : State} {w : Cond} {B : List Cond} (h : w.before args s = true) (t : ∀ w ∈ B, w.before args s = true) : ∀ w' ∈ w :: B, w'.before args s = true := fun w' h' => (List.mem_cons.mp h').elim (fun e => by rw [e]; exact h) (t w')
theorem vx_n {args : Array Value} {s : State} : ∀ w ∈ ([] : List Cond), w.before args s = true := fun _ h => nomatch h
theorem vx_own {args : Array Value} {s : State} {L : List Cond} (h1 : ∀ w ∈ L.filter vx_no, w.before args s = true)
    (hU : (Cond.isRef (.static Bundle.tN "UNASSIGNED_STACK" Bundle.steD)).before args s = true) (hN : (Cond.isRef (.static Bundle.tN "SUPPRESSED_SENTINEL" Bundle.listD)).before args s = true)
    (lU : (Cond.laysStatic Bundle.tN "UNASSIGNED_STACK" Bundle.steD).before args s = true) (lN : (Cond.laysStatic Bundle.tN "SUPPRESSED_SENTINEL" Bundle.listD).before args s = true) : ∀ w ∈ L, w.before args s = true := by
  intro w hw
  by_cases e1 : w = .isRef (.static Bundle.tN "UNASSIGNED_STACK" Bundle.steD)
  · rw [e1]; exact hU
  · by_cases e2 : w = .isRef (.static Bundle.tN "SUPPRESSED_SENTINEL" Bundle.listD)
    · rw [e2]; exact hN
    · by_cases e3 : w = .laysStatic Bundle.tN "UNASSIGNED_STACK" Bundle.steD
      · rw [e3]; exact lU
      · by_cases e4 : w = .laysStatic Bundle.tN "SUPPRESSED_SENTINEL" Bundle.listD
        · rw [e4]; exact lN
        · exact h1 w (List.mem_filter.mpr ⟨hw, by unfold vx_no; rw [decide_eq_true e1, decide_eq_true e2, decide_eq_true e3, decide_eq_true e4]; rfl⟩)
/-- where a static field lies, its class's statics cell in H -/
def vx_L (C n d : String) (A : Nat → Prop) (U : State) (H : Heap) : Prop := ∃ (c : ClassId) (k : Class) (i : Nat) (f : Field) (a : Nat) (cell : Cell), U.vm.findClass C = some c ∧ U.fieldFound? C n d = some (c, k, i, f) ∧ f.isStatic = true ∧ k.statics = some a ∧ H[a]? = some cell ∧ cell.vm.isStatics = true ∧ cell.cls = c ∧ f.slot < cell.slots.size ∧ k.staticTypes[f.slot]? = some f.type ∧ ¬ A a
theorem vx_L.moved {C n d : String} {A : Nat → Prop} {u U : State} {H : Heap} (hvm : u.vm.Alike U.vm) (h : vx_L C n d A u H) : vx_L C n d A U H := by
  obtain ⟨c, k, i, f, a, cell, h1, h2, h3, h4, h5, h6, h7, h8, h9, h10⟩ := h
  obtain ⟨k', hi', he⟩ := State.fieldFound?_setVm hvm h2
  exact ⟨c, k', i, f, a, cell, by rw [hvm.findClass]; exact h1, hi', h3, by rw [he]; exact h4, h5, h6, h7, h8, by rw [he]; exact h9, h10⟩
theorem vx_L.kept {C n d : String} {A : Nat → Prop} {U : State} {H H1 : Heap} (h : vx_L C n d A U H) (hq : ∀ a : Nat, a < H.size → ¬ A a → H1[a]? = H[a]?) : vx_L C n d A U H1 := by
  obtain ⟨c, k, i, f, a, cell, h1, h2, h3, h4, h5, h6, h7, h8, h9, h10⟩ := h
  exact ⟨c, k, i, f, a, cell, h1, h2, h3, h4, by rw [hq a (Array.getElem?_eq_some_iff.mp h5).1 h10]; exact h5, h6, h7, h8, h9, h10⟩
theorem vx_L.narrow {C n d : String} {A B : Nat → Prop} {U : State} {H : Heap} (h : vx_L C n d A U H) (hAB : ∀ q, B q → A q) : vx_L C n d B U H := by
  obtain ⟨c, k, i, f, a, cell, h1, h2, h3, h4, h5, h6, h7, h8, h9, h10⟩ := h
  exact ⟨c, k, i, f, a, cell, h1, h2, h3, h4, h5, h6, h7, h8, h9, fun z => h10 (hAB _ z)⟩
theorem vx_L.word {C n d : String} {A : Nat → Prop} {s : State} {args : Array Value} (h : vx_L C n d A s s.heap) : (Cond.laysStatic C n d).before args s = true := by
  obtain ⟨c, k, i, f, a, cell, h1, h2, h3, h4, h5, h6, h7, h8, h9, -⟩ := h
  show (Cond.laysStatic C n d).holds args s none s [] = true
  exact Cond.laysStatic_of h1 h2 h3 h4 h5 h6 h7 h8 h9
/-- .. and what it holds: null or some reference -/
def vx_Zq (C n d : String) (A : Nat → Prop) (U : State) (H : Heap) : Prop := va_Zq C n d A U H ∧ vx_L C n d A U H
theorem vx_Zq.moved {C n d : String} {A : Nat → Prop} {u U : State} {H : Heap} (hvm : u.vm.Alike U.vm) (h : vx_Zq C n d A u H) : vx_Zq C n d A U H := ⟨va_Zq.moved hvm h.1, vx_L.moved hvm h.2⟩
theorem vx_Zq.kept {C n d : String} {A : Nat → Prop} {U : State} {H H1 : Heap} (h : vx_Zq C n d A U H) (hq : ∀ a : Nat, a < H.size → ¬ A a → H1[a]? = H[a]?) : vx_Zq C n d A U H1 := ⟨va_Zq.kept h.1 hq, vx_L.kept h.2 hq⟩
theorem vx_Zq.narrow {C n d : String} {A B : Nat → Prop} {U : State} {H : Heap} (h : vx_Zq C n d A U H) (hAB : ∀ q, B q → A q) : vx_Zq C n d B U H := ⟨va_Zq.narrow h.1 hAB, vx_L.narrow h.2 hAB⟩
theorem vx_Zqof {args : Array Value} {s : State} {C n d : String} {A : Nat → Prop} (hl : (Cond.laysStatic C n d).before args s = true) (hini : (Cond.initialized C).before args s = true) (h : (Cond.isRef (.static C n d)).before args s = true) (hA : ∀ a : Nat, a < s.heap.size → ¬ A a) : vx_Zq C n d A s s.heap := by
  refine ⟨va_Zqof hl hini h hA, ?_⟩
  obtain ⟨c, k, i, f, a, cell, h1, h2, h3, h4, h5, h6, h7, h8, h9⟩ := Cond.laysStatic_spec hl
  exact ⟨c, k, i, f, a, cell, h1, h2, h3, h4, h5, h6, h7, h8, h9, hA a (Array.getElem?_eq_some_iff.mp h5).1⟩
theorem vx_isRef {C n d : String} {v : Value} {A : Nat → Prop} {s : State} {args : Array Value} (h : va_Z C n d v A s s.heap) (hv : v.isRef = true) : (Cond.isRef (.static C n d)).before args s = true := by
  obtain ⟨cf, kf, fi, f, a, cell, h1, h2, h3, h4, h5, h6, h7, -⟩ := h
  have he : (Term.static C n d).eval args s none [] s = some v := by
    simp [Term.eval, State.fieldNamed?, h1, h2, h4, h5, h6, h7]
  simp only [Cond.before, Cond.holds, Cond.value, he]
  cases v <;> simp_all [Value.isRef]
theorem vx_isRefq {C n d : String} {A : Nat → Prop} {s : State} {args : Array Value} (h : va_Zq C n d A s s.heap) : (Cond.isRef (.static C n d)).before args s = true := by
  rcases h with h | ⟨t, h⟩
  · exact vx_isRef h rfl
  · exact vx_isRef h rfl
/-- the same frame, seen from here: as if the method were called anew in this heap -/
theorem vx_rebase {T : State} (X : Stand p l e R s m args below meth c T locs cells slots) {R' : Room} (hf : R'.frames ≤ R.frames) (hl : R'.locals ≤ R.locals) (hc : cells + R'.cells ≤ R.cells) (hs : slots + R'.slots ≤ R.slots) :
    Stand p l e R' ((T.setVm s.vm).setFrames (.invoking m args :: below)) m args below meth c T [] 0 0 := by
  have htop : (T.setVm s.vm).topJava?.isSome := X.here.top
  have hF : ((T.setVm s.vm).setFrames (.invoking m args :: below)).frames = .invoking m args :: below := State.frames_setFrames _ (State.cur_lt_of_top htop)
  obtain ⟨g₀, hg0⟩ := Option.isSome_iff_exists.mp htop
  obtain ⟨r, hr⟩ := State.topJava?_eq_some.mp hg0
  have hl9 : e.platform.stackLimits (T.setVm s.vm).me = e.platform.stackLimits s.me := X.limits
  have hb9 : (T.setVm s.vm).me.stackBytes = s.me.stackBytes := X.bytes
  refine ⟨X.admits, X.cas, X.clock, hF, ?_, X.hears, X.method, X.code, X.here, X.tail, X.warmed, ?_, ?_, ?_⟩
  · have h := X.room
    have hU : ((T.setVm s.vm).setFrames (.invoking m args :: below)).localsInUse = s.localsInUse := by
      rw [State.localsInUse_invoking hF (meth := meth) (c := c) X.method X.code, State.localsInUse_invoking X.frames X.method X.code]
    simp only [State.hasRoom, Bool.and_eq_true, decide_eq_true_eq] at h ⊢
    obtain ⟨⟨⟨⟨h1, h2, h3, h4, h5, h6⟩, h7⟩, h8⟩, h9⟩ := h
    rw [X.frames, List.length_cons] at h2 h3
    have q1 := X.heapSize
    have q2 := X.used
    simp only [hF, hU, List.length_cons, State.stackLimits_setFrames, State.stackBytes_setFrames, hl9, hb9]
    refine ⟨⟨⟨⟨by omega, by omega, by omega, by omega, by omega, h6⟩, ?_⟩, ?_⟩, X.book⟩
    · show T.heap.size + R'.cells ≤ e.platform.maxCells
      omega
    · show T.slotsUsed + R'.slots ≤ e.platform.maxSlots
      omega
  · rw [State.stackLimits_setFrames]; rfl
  · rw [State.stackBytes_setFrames]; rfl
  · refine ⟨?_, Nat.le_refl _, Nat.le_refl _, ?_, ?_, fun a c9 h9 => ⟨c9, h9, rfl, rfl, fun _ _ => rfl⟩⟩
    · obtain ⟨t, ht, -⟩ := State.frames_cons hr
      show T.setVm s.vm = { ((T.setVm s.vm).setFrames (.invoking m args :: below)).setFrames (T.setVm s.vm).frames with heap := T.heap, slotsUsed := T.slotsUsed }
      rw [State.setFrames_setFrames, State.setFrames_self ht]
      rfl
    · show T.slotsUsed = T.slotsUsed + ((T.heap.toList.drop T.heap.size).map (·.slots.size)).sum
      rw [List.drop_eq_nil_of_le (Nat.le_of_eq Array.length_toList)]
      rfl
    · show ((T.heap.toList.drop T.heap.size).map (·.slots.size)).sum ≤ 0
      rw [List.drop_eq_nil_of_le (Nat.le_of_eq Array.length_toList)]
      exact Nat.le_refl _
/-- 'throw new E()': new; dup; invokespecial; athrow -/
theorem vx_throw0 {cc : ByteArray} {pc : Nat} (hexec : p.tables.exec = Jvm.exec) (hb : c.code = cc) (hl : l.stackTraces = false) {own cls : String} {names : List String} {ik ic mc ms : Nat} {A : Nat → Prop}
    (hown : s.vm.findClass own = some m.cls) (hcls : Bundle.fit cls = true) (hnames : ∀ n ∈ names, Bundle.fit n = true)
    (hk : (Cond.classLink own ik cls).before args s = true) (hini : (Cond.initialized cls).before args s = true) (hat : ∀ w ∈ vx_at0 own ic cls names, w.before args s = true)
    (hgood : ∀ w ∈ Cond.classLink own ik cls :: Cond.initialized cls :: vx_at0 own ic cls names, vx_ot w = true)
    (hU : vx_Zq Bundle.tN "UNASSIGNED_STACK" Bundle.steD A s s.heap) (hN : vx_Zq Bundle.tN "SUPPRESSED_SENTINEL" Bundle.listD A s s.heap) (hS : va_S A s.heap H locs) (hsize : ls.size = c.maxLocals)
    (d0 : decode cc pc = .ok (.new ik, 3)) (d3 : decode cc (pc + 3) = .ok (.dup, 1)) (d4 : decode cc (pc + 4) = .ok (.invokespecial ic, 3)) (d7 : decode cc (pc + 7) = .ok (.athrow, 1))
    (hout : ∀ x ∈ c.exceptionTable.toList, covers x (pc + 7) = false)
    (hRframes : names.length + 3 < R.frames) (hRlocals : (rest.map fun v => v.category).sum + (13 * (names.length + 1) + 42) ≤ R.locals) (hRcells : cells + 1 ≤ R.cells) (hRslots : slots + 6 ≤ R.slots) (hlocks : meth.locks = false)
    (hx : ∀ t : State, s.vm.Alike t.vm → H.size ≤ t.heap.size → (∀ q : Nat, q < H.size → t.heap[q]? = H[q]?) → XC cls s t)
    (hf : ∀ z ∈ locs, free z.base) (hc : cells + 1 ≤ mc) (hs : slots + 6 ≤ ms) :
    W p l e R s m args below meth c H locs cells slots (vx_MQ below Qc XC args s mc ms free) (F0 m pc ls rest) := by
  intro T hT X
  have htr : e.platform.stackTraces = false := (show e.platform.stackTraces = l.stackTraces by rw [X.admits.platform]).trans hl
  have Y := vx_rebase X (R' := { frames := R.frames, locals := R.locals, cells := 1, slots := 6 }) (Nat.le_refl _) (Nat.le_refl _) hRcells hRslots
  obtain ⟨s', hA⟩ : ∃ z, z = (T.setVm s.vm).setFrames (.invoking m args :: below) := ⟨_, rfl⟩
  rw [← hA] at Y
  have hvm : s'.vm = s.vm := by rw [hA]; rfl
  have hhp : s'.heap = H := by rw [hA]; exact hT
  have hW0 : s.WarmedH s'.vm := by rw [hvm]; exact State.WarmedH.refl s
  have hat' : ∀ w ∈ vx_at0 own ic cls names, w.before args s' = true := fun w hw => vx_ot_at hW0 hvm.symm (hgood w (List.mem_cons_of_mem _ (List.mem_cons_of_mem _ hw))) (hat w hw)
  have hk' : (Cond.classLink own ik cls).before args s' = true := vx_ot_at hW0 hvm.symm (hgood _ List.mem_cons_self) hk
  have hini' : (Cond.initialized cls).before args s' = true := vx_ot_at hW0 hvm.symm (hgood _ (List.mem_cons_of_mem _ List.mem_cons_self)) hini
  have hU' : vx_Zq Bundle.tN "UNASSIGNED_STACK" Bundle.steD A s' s'.heap := by rw [hhp]; exact vx_Zq.moved hW0.alike (hU.kept hS.2.1)
  have hN' : vx_Zq Bundle.tN "SUPPRESSED_SENTINEL" Bundle.listD A s' s'.heap := by rw [hhp]; exact vx_Zq.moved hW0.alike (hN.kept hS.2.1)
  have h : ∀ w ∈ Bundle.ownAtoms0 own ic cls names, w.before args s' = true := vx_own hat' (vx_isRefq hU'.1) (vx_isRefq hN'.1) hU'.2.word hN'.2.word
  have hown' : s'.vm.findClass own = some m.cls := by rw [hvm]; exact hown
  have hins : (Cond.instantiable cls 6).before args s' = true := h _ (by simp [Bundle.ownAtoms0])
  obtain ⟨vm₁, cX, kX, hfX, hkX, -, -, X₁, st1⟩ := Y.newCold hexec (own := own) (C := cls) (index := ik) (n := 6) hown' hk' hins hini'
    (g := F0 m pc ls rest) rfl (by rw [hb]; exact d0) (Nat.le_refl _) (Nat.le_refl _)
  generalize hT1 : (T.setVm vm₁).pushCell { cls := cX, slots := kX.instanceTypes.map defaultValue, vm := .none } = T1 at X₁ st1
  have hcat : (Value.ref T.heap.size).category = 1 := rfl
  have hcellA : T1.heap[T.heap.size]? = some (freshCell cX kX) := by rw [← hT1]; exact State.heap_pushCell_size _ _
  have d3' : decode c.code (pc + 3) = .ok (.dup, 1) := by rw [hb]; exact d3
  obtain ⟨U, hsteps, hrun, hend, hW, hsame, ce, hce, hO⟩ := X₁.ctorThrow0 hexec htr (own := own) (cls := cls) (names := names) (ic := ic) hown' hcls hnames h (fun x hx => nomatch hx) hfX hkX hcellA (by rw [hhp, hT]; exact Nat.le_refl _)
    (g := { method := m, pc := pc + 4, locals := ls, stack := .ref T.heap.size :: .ref T.heap.size :: rest, locked := none }) rfl hsize rfl rfl (rest := rest) rfl
    (by rw [hb]; exact d4) (by rw [hb]; exact d7) hout hRframes (by simp only [List.map_cons, List.sum_cons, hcat]; omega) hlocks
  obtain ⟨f1, f2⟩ := vx_frame hsame
  rw [hhp] at f1 f2
  have hWs : s.WarmedH U.vm := State.WarmedH.trans hW0 hW
  have hcl : s.vm.findClass cls = some ce.cls := by
    have h9 := hO.cls
    rw [hvm] at h9
    exact h9
  have hall : s.sameButNew ({ U with vm := s.vm } : State) locs mc ms := by
    subst hA
    obtain ⟨e1, e2⟩ := hsame
    rw [State.setFrames_setFrames] at e1
    have h2 : (T.setVm s.vm).sameButNew ({ U with vm := s.vm } : State) [] (0 + 1) (0 + 6) := ⟨e1, e2⟩
    have h3 := X.same.trans h2
    rw [List.append_nil] at h3
    exact h3.mono hc hs
  refine ⟨U, ?_, .threw T.heap.size, hrun, hend, Or.inr ⟨T.heap.size, rfl, cls, ce, locs, hx U hWs.alike f1 (fun q hq => f2 q hq (fun z hz => nomatch hz)), hce, hO.vm, hcl, hWs, hall, hf⟩⟩
  refine st1 _ ?_
  show Steps p.tables e below (T1.setTop { method := m, pc := pc + 3, locals := ls, stack := .ref T.heap.size :: rest, locked := none }) _
  jvm_step X₁.here [X₁.here.top, hexec, d3', Value.category]
  exact hsteps
/-- 'throw new E("text")': new; dup; ldc; invokespecial; athrow -/
theorem vx_throwS {cc : ByteArray} {pc : Nat} (hexec : p.tables.exec = Jvm.exec) (hb : c.code = cc) (hl : l.stackTraces = false) {own cls text : String} {names : List String} {ik is ic mc ms sa : Nat} {A : Nat → Prop}
    (hown : s.vm.findClass own = some m.cls) (hcls : Bundle.fit cls = true) (hnames : ∀ n ∈ names, Bundle.fit n = true)
    (hk : (Cond.classLink own ik cls).before args s = true) (hini : (Cond.initialized cls).before args s = true) (hstr : vk_R own is text sa s) (hat : ∀ w ∈ vx_atS own ic cls names, w.before args s = true)
    (hgood : ∀ w ∈ Cond.classLink own ik cls :: Cond.initialized cls :: vx_atS own ic cls names, vx_ot w = true)
    (hU : vx_Zq Bundle.tN "UNASSIGNED_STACK" Bundle.steD A s s.heap) (hN : vx_Zq Bundle.tN "SUPPRESSED_SENTINEL" Bundle.listD A s s.heap) (hS : va_S A s.heap H locs) (hsize : ls.size = c.maxLocals)
    (d0 : decode cc pc = .ok (.new ik, 3)) (d3 : decode cc (pc + 3) = .ok (.dup, 1)) (d4 : decode cc (pc + 4) = .ok (.ldc is, 2)) (d6 : decode cc (pc + 6) = .ok (.invokespecial ic, 3)) (d9 : decode cc (pc + 9) = .ok (.athrow, 1))
    (hout : ∀ x ∈ c.exceptionTable.toList, covers x (pc + 9) = false)
    (hRframes : names.length + 3 < R.frames) (hRlocals : (rest.map fun v => v.category).sum + (13 * (names.length + 1) + 43) ≤ R.locals) (hRcells : cells + 1 ≤ R.cells) (hRslots : slots + 6 ≤ R.slots) (hlocks : meth.locks = false)
    (hx : ∀ t : State, s.vm.Alike t.vm → H.size ≤ t.heap.size → (∀ q : Nat, q < H.size → t.heap[q]? = H[q]?) → XC cls s t)
    (hf : ∀ z ∈ locs, free z.base) (hc : cells + 1 ≤ mc) (hs : slots + 6 ≤ ms) :
    W p l e R s m args below meth c H locs cells slots (vx_MQ below Qc XC args s mc ms free) (F0 m pc ls rest) := by
  intro T hT X
  have htr : e.platform.stackTraces = false := (show e.platform.stackTraces = l.stackTraces by rw [X.admits.platform]).trans hl
  have Y := vx_rebase X (R' := { frames := R.frames, locals := R.locals, cells := 1, slots := 6 }) (Nat.le_refl _) (Nat.le_refl _) hRcells hRslots
  obtain ⟨s', hA⟩ : ∃ z, z = (T.setVm s.vm).setFrames (.invoking m args :: below) := ⟨_, rfl⟩
  rw [← hA] at Y
  have hvm : s'.vm = s.vm := by rw [hA]; rfl
  have hhp : s'.heap = H := by rw [hA]; exact hT
  have hW0 : s.WarmedH s'.vm := by rw [hvm]; exact State.WarmedH.refl s
  have hat' : ∀ w ∈ vx_atS own ic cls names, w.before args s' = true := fun w hw => vx_ot_at hW0 hvm.symm (hgood w (List.mem_cons_of_mem _ (List.mem_cons_of_mem _ hw))) (hat w hw)
  have hk' : (Cond.classLink own ik cls).before args s' = true := vx_ot_at hW0 hvm.symm (hgood _ List.mem_cons_self) hk
  have hini' : (Cond.initialized cls).before args s' = true := vx_ot_at hW0 hvm.symm (hgood _ (List.mem_cons_of_mem _ List.mem_cons_self)) hini
  have hU' : vx_Zq Bundle.tN "UNASSIGNED_STACK" Bundle.steD A s' s'.heap := by rw [hhp]; exact vx_Zq.moved hW0.alike (hU.kept hS.2.1)
  have hN' : vx_Zq Bundle.tN "SUPPRESSED_SENTINEL" Bundle.listD A s' s'.heap := by rw [hhp]; exact vx_Zq.moved hW0.alike (hN.kept hS.2.1)
  have h : ∀ w ∈ Bundle.ownAtoms own ic cls names, w.before args s' = true := vx_own hat' (vx_isRefq hU'.1) (vx_isRefq hN'.1) hU'.2.word hN'.2.word
  have hown' : s'.vm.findClass own = some m.cls := by rw [hvm]; exact hown
  have hins : (Cond.instantiable cls 6).before args s' = true := h _ (by simp [Bundle.ownAtoms])
  obtain ⟨vm₁, cX, kX, hfX, hkX, -, -, X₁, st1⟩ := Y.newCold hexec (own := own) (C := cls) (index := ik) (n := 6) hown' hk' hins hini'
    (g := F0 m pc ls rest) rfl (by rw [hb]; exact d0) (Nat.le_refl _) (Nat.le_refl _)
  generalize hT1 : (T.setVm vm₁).pushCell { cls := cX, slots := kX.instanceTypes.map defaultValue, vm := .none } = T1 at X₁ st1
  have hcat : (Value.ref T.heap.size).category = 1 := rfl
  have hcellA : T1.heap[T.heap.size]? = some (freshCell cX kX) := by rw [← hT1]; exact State.heap_pushCell_size _ _
  have d3' : decode c.code (pc + 3) = .ok (.dup, 1) := by rw [hb]; exact d3
  have d4' : decode c.code (pc + 4) = .ok (.ldc is, 2) := by rw [hb]; exact d4
  have hstr' : vk_R own is text sa s' := vk_R.warm hW0 hstr
  obtain ⟨U, hsteps, hrun, hend, hW, hsame, ce, hce, hO⟩ := X₁.ctorThrowS hexec htr (own := own) (cls := cls) (names := names) (ic := ic) hown' hcls hnames h (fun x hx => nomatch hx) hfX hkX hcellA (by rw [hhp, hT]; exact Nat.le_refl _) (msg := .ref sa) rfl
    (g := { method := m, pc := pc + 6, locals := ls, stack := .ref sa :: .ref T.heap.size :: .ref T.heap.size :: rest, locked := none }) rfl hsize rfl rfl (rest := rest) rfl
    (by rw [hb]; exact d6) (by rw [hb]; exact d9) hout hRframes (by simp only [List.map_cons, List.sum_cons, hcat]; omega) hlocks
  obtain ⟨f1, f2⟩ := vx_frame hsame
  rw [hhp] at f1 f2
  have hWs : s.WarmedH U.vm := State.WarmedH.trans hW0 hW
  have hcl : s.vm.findClass cls = some ce.cls := by
    have h9 := hO.cls
    rw [hvm] at h9
    exact h9
  have hall : s.sameButNew ({ U with vm := s.vm } : State) locs mc ms := by
    subst hA
    obtain ⟨e1, e2⟩ := hsame
    rw [State.setFrames_setFrames] at e1
    have h2 : (T.setVm s.vm).sameButNew ({ U with vm := s.vm } : State) [] (0 + 1) (0 + 6) := ⟨e1, e2⟩
    have h3 := X.same.trans h2
    rw [List.append_nil] at h3
    exact h3.mono hc hs
  refine ⟨U, ?_, .threw T.heap.size, hrun, hend, Or.inr ⟨T.heap.size, rfl, cls, ce, locs, hx U hWs.alike f1 (fun q hq => f2 q hq (fun z hz => nomatch hz)), hce, hO.vm, hcl, hWs, hall, hf⟩⟩
  refine st1 _ ?_
  show Steps p.tables e below (T1.setTop { method := m, pc := pc + 3, locals := ls, stack := .ref T.heap.size :: rest, locked := none }) _
  jvm_step X₁.here [X₁.here.top, hexec, d3', Value.category]
  exact X₁.ldcString hexec (own := own) (text := text) (index := is) (a := sa) hown' hstr'.1 hstr'.2
    (g := { method := m, pc := pc + 4, locals := ls, stack := .ref T.heap.size :: .ref T.heap.size :: rest, locked := none }) rfl d4' _ hsteps
/-- 'throw new E("text")', the text by a wide index -/
theorem vx_throwSW {cc : ByteArray} {pc : Nat} (hexec : p.tables.exec = Jvm.exec) (hb : c.code = cc) (hl : l.stackTraces = false) {own cls text : String} {names : List String} {ik is ic mc ms sa : Nat} {A : Nat → Prop}
    (hown : s.vm.findClass own = some m.cls) (hcls : Bundle.fit cls = true) (hnames : ∀ n ∈ names, Bundle.fit n = true)
    (hk : (Cond.classLink own ik cls).before args s = true) (hini : (Cond.initialized cls).before args s = true) (hstr : vk_R own is text sa s) (hat : ∀ w ∈ vx_atS own ic cls names, w.before args s = true)
    (hgood : ∀ w ∈ Cond.classLink own ik cls :: Cond.initialized cls :: vx_atS own ic cls names, vx_ot w = true)
    (hU : vx_Zq Bundle.tN "UNASSIGNED_STACK" Bundle.steD A s s.heap) (hN : vx_Zq Bundle.tN "SUPPRESSED_SENTINEL" Bundle.listD A s s.heap) (hS : va_S A s.heap H locs) (hsize : ls.size = c.maxLocals)
    (d0 : decode cc pc = .ok (.new ik, 3)) (d3 : decode cc (pc + 3) = .ok (.dup, 1)) (d4 : decode cc (pc + 4) = .ok (.ldc_w is, 3)) (d7 : decode cc (pc + 7) = .ok (.invokespecial ic, 3)) (d10 : decode cc (pc + 10) = .ok (.athrow, 1))
    (hout : ∀ x ∈ c.exceptionTable.toList, covers x (pc + 10) = false)
    (hRframes : names.length + 3 < R.frames) (hRlocals : (rest.map fun v => v.category).sum + (13 * (names.length + 1) + 43) ≤ R.locals) (hRcells : cells + 1 ≤ R.cells) (hRslots : slots + 6 ≤ R.slots) (hlocks : meth.locks = false)
    (hx : ∀ t : State, s.vm.Alike t.vm → H.size ≤ t.heap.size → (∀ q : Nat, q < H.size → t.heap[q]? = H[q]?) → XC cls s t)
    (hf : ∀ z ∈ locs, free z.base) (hc : cells + 1 ≤ mc) (hs : slots + 6 ≤ ms) :
    W p l e R s m args below meth c H locs cells slots (vx_MQ below Qc XC args s mc ms free) (F0 m pc ls rest) := by
  intro T hT X
  have htr : e.platform.stackTraces = false := (show e.platform.stackTraces = l.stackTraces by rw [X.admits.platform]).trans hl
  have Y := vx_rebase X (R' := { frames := R.frames, locals := R.locals, cells := 1, slots := 6 }) (Nat.le_refl _) (Nat.le_refl _) hRcells hRslots
  obtain ⟨s', hA⟩ : ∃ z, z = (T.setVm s.vm).setFrames (.invoking m args :: below) := ⟨_, rfl⟩
  rw [← hA] at Y
  have hvm : s'.vm = s.vm := by rw [hA]; rfl
  have hhp : s'.heap = H := by rw [hA]; exact hT
  have hW0 : s.WarmedH s'.vm := by rw [hvm]; exact State.WarmedH.refl s
  have hat' : ∀ w ∈ vx_atS own ic cls names, w.before args s' = true := fun w hw => vx_ot_at hW0 hvm.symm (hgood w (List.mem_cons_of_mem _ (List.mem_cons_of_mem _ hw))) (hat w hw)
  have hk' : (Cond.classLink own ik cls).before args s' = true := vx_ot_at hW0 hvm.symm (hgood _ List.mem_cons_self) hk
  have hini' : (Cond.initialized cls).before args s' = true := vx_ot_at hW0 hvm.symm (hgood _ (List.mem_cons_of_mem _ List.mem_cons_self)) hini
  have hU' : vx_Zq Bundle.tN "UNASSIGNED_STACK" Bundle.steD A s' s'.heap := by rw [hhp]; exact vx_Zq.moved hW0.alike (hU.kept hS.2.1)
  have hN' : vx_Zq Bundle.tN "SUPPRESSED_SENTINEL" Bundle.listD A s' s'.heap := by rw [hhp]; exact vx_Zq.moved hW0.alike (hN.kept hS.2.1)
  have h : ∀ w ∈ Bundle.ownAtoms own ic cls names, w.before args s' = true := vx_own hat' (vx_isRefq hU'.1) (vx_isRefq hN'.1) hU'.2.word hN'.2.word
  have hown' : s'.vm.findClass own = some m.cls := by rw [hvm]; exact hown
  have hins : (Cond.instantiable cls 6).before args s' = true := h _ (by simp [Bundle.ownAtoms])
  obtain ⟨vm₁, cX, kX, hfX, hkX, -, -, X₁, st1⟩ := Y.newCold hexec (own := own) (C := cls) (index := ik) (n := 6) hown' hk' hins hini'
    (g := F0 m pc ls rest) rfl (by rw [hb]; exact d0) (Nat.le_refl _) (Nat.le_refl _)
  generalize hT1 : (T.setVm vm₁).pushCell { cls := cX, slots := kX.instanceTypes.map defaultValue, vm := .none } = T1 at X₁ st1
  have hcat : (Value.ref T.heap.size).category = 1 := rfl
  have hcellA : T1.heap[T.heap.size]? = some (freshCell cX kX) := by rw [← hT1]; exact State.heap_pushCell_size _ _
  have d3' : decode c.code (pc + 3) = .ok (.dup, 1) := by rw [hb]; exact d3
  have d4' : decode c.code (pc + 4) = .ok (.ldc_w is, 3) := by rw [hb]; exact d4
  have hstr' : vk_R own is text sa s' := vk_R.warm hW0 hstr
  obtain ⟨U, hsteps, hrun, hend, hW, hsame, ce, hce, hO⟩ := X₁.ctorThrowS hexec htr (own := own) (cls := cls) (names := names) (ic := ic) hown' hcls hnames h (fun x hx => nomatch hx) hfX hkX hcellA (by rw [hhp, hT]; exact Nat.le_refl _) (msg := .ref sa) rfl
    (g := { method := m, pc := pc + 7, locals := ls, stack := .ref sa :: .ref T.heap.size :: .ref T.heap.size :: rest, locked := none }) rfl hsize rfl rfl (rest := rest) rfl
    (by rw [hb]; exact d7) (by rw [hb]; exact d10) hout hRframes (by simp only [List.map_cons, List.sum_cons, hcat]; omega) hlocks
  obtain ⟨f1, f2⟩ := vx_frame hsame
  rw [hhp] at f1 f2
  have hWs : s.WarmedH U.vm := State.WarmedH.trans hW0 hW
  have hcl : s.vm.findClass cls = some ce.cls := by
    have h9 := hO.cls
    rw [hvm] at h9
    exact h9
  have hall : s.sameButNew ({ U with vm := s.vm } : State) locs mc ms := by
    subst hA
    obtain ⟨e1, e2⟩ := hsame
    rw [State.setFrames_setFrames] at e1
    have h2 : (T.setVm s.vm).sameButNew ({ U with vm := s.vm } : State) [] (0 + 1) (0 + 6) := ⟨e1, e2⟩
    have h3 := X.same.trans h2
    rw [List.append_nil] at h3
    exact h3.mono hc hs
  refine ⟨U, ?_, .threw T.heap.size, hrun, hend, Or.inr ⟨T.heap.size, rfl, cls, ce, locs, hx U hWs.alike f1 (fun q hq => f2 q hq (fun z hz => nomatch hz)), hce, hO.vm, hcl, hWs, hall, hf⟩⟩
  refine st1 _ ?_
  show Steps p.tables e below (T1.setTop { method := m, pc := pc + 3, locals := ls, stack := .ref T.heap.size :: rest, locked := none }) _
  jvm_step X₁.here [X₁.here.top, hexec, d3', Value.category]
  exact X₁.ldcStringW hexec (own := own) (text := text) (index := is) (a := sa) hown' hstr'.1 hstr'.2
    (g := { method := m, pc := pc + 4, locals := ls, stack := .ref T.heap.size :: .ref T.heap.size :: rest, locked := none }) rfl d4' _ hsteps
end Ends
section Bodies
variable {l : Launch}
theorem vx_ofW {y : MethodName} {ws ws' : List Cond} {rm : Room} {Pc : Array Value → State → Prop} {Qc : Array Value → State → Outcome → State → Prop} {XC : String → State → State → Prop} {mc ms : Nat} {free : Addr → Prop} {cc : ByteArray} {maxL : Nat} {ret : Option FieldType}
    (hy : plainName y.cls = true) (hw : ws = Cond.code y cc maxL ret :: ws')
    (body : ∀ p e s m args below meth c s₁, BodyLoose p l y (headSpec ws rm) cc maxL ret e s m args below meth c s₁ → c.maxLocals = maxL → (∀ x ∈ c.exceptionTable.toList, False) → Pc args s →
      W p l e (headSpec ws rm).room s m args below meth c s.heap [] 0 0 (vx_MQ below Qc XC args s mc ms free) (entryFrame m args maxL)) : vx_Met l y ws rm Pc Qc XC mc ms free := by
  refine MetFree.of_bodyS (code := cc) (maxLocals := maxL) (ret := ret) hy ?_ ?_
  · intro args s m h hn
    obtain ⟨meth, c, h1, h2, h3, h4, h5, h6, -, -⟩ := Cond.code_spec hn (atoms_spec (ws := ws) h _ (by rw [hw]; exact List.mem_cons_self))
    exact ⟨meth, c, h1, h2, h3, h4, h5, h6⟩
  · intro p e s m args below meth c s₁ B hml hP _
    have hh0 : s₁.heap = s.heap := by rw [B.state]; rfl
    have ht : ∀ x ∈ c.exceptionTable.toList, False := by
      obtain ⟨meth9, c9, h1, h2, -, -, -, -, h7, -⟩ := Cond.code_spec B.named (atoms_spec (ws := ws) B.pre _ (by rw [hw]; exact List.mem_cons_self))
      cases Option.some.inj (h1.symm.trans B.method)
      cases Option.some.inj (h2.symm.trans (Stand.of_body B).code)
      intro x hx
      rw [Array.isEmpty_iff.mp h7] at hx
      cases hx
    obtain ⟨t, a1, o, b1, b2, b3⟩ := body p e s m args below meth c s₁ B hml ht hP s₁ hh0 (Stand.of_body B)
    exact ⟨t, o, a1, b1, b2, b3⟩
/-- the table of a body with handlers -/
theorem vx_table {p : Program} {x y : MethodName} {S : Spec} {cc bytes : ByteArray} {maxL maxL' : Nat} {ret ret' : Option FieldType} {e : Env} {s s₁ : State} {m : MethodId} {args : Array Value} {below : List Frame} {meth : Method} {c : Code} {hh : List (Nat × Nat × Nat × Nat)}
    (B : BodyLoose p l y S cc maxL ret e s m args below meth c s₁) (h : (Cond.codeWith y bytes maxL' ret' hh).before args s = true) : c.exceptionTable.toList = tableOf hh := by
  obtain ⟨m9, meth9, c9, hn9, h1, h2, -, -, h6, -⟩ := Cond.codeWith_spec h
  cases Option.some.inj (hn9.symm.trans B.named)
  cases Option.some.inj (h1.symm.trans B.method)
  cases Option.some.inj (h2.symm.trans (Stand.of_body B).code)
  rw [← h6, table_eq]
end Bodies
end VXA
/-! ===== END ===== -/
/-! ===== BEGIN a static call of a method with an exception table ===== -/
section VXS
variable {p : Program} {l : Launch} {e : Env} {R : Room} {s : State} {m : MethodId} {args : Array Value} {below : List Frame} {meth : Method} {c : Code} {T : State} {H : Heap} {locs : List Loc} {cells slots : Nat}
abbrev vx_CSW (R : Room) (s : State) (args : Array Value) (own : String) (index : Nat) (y : MethodName) (bytes : ByteArray) (maxL : Nat) (ret : Option FieldType) (hh : List (Nat × Nat × Nat × Nat)) (ws : List Cond) (rm : Room) (mc ms n : Nat) : Prop :=
  (rm.cells = mc ∧ rm.slots = ms ∧ rm.frames + 1 ≤ R.frames ∧ 8 + (maxL + 11) + rm.locals ≤ R.locals ∧ (∀ w ∈ ws, ∀ (a' : Array Value) (U : State), s.WarmedH U.vm → w.before a' U = true) ∧ Cond.codeWith y bytes maxL ret hh ∈ ws) ∧
  (Cond.codeWith y bytes maxL ret hh).before args s = true ∧ (Cond.initialized y.cls).before args s = true ∧ (y.cls ≠ "java/lang/invoke/MethodHandle" ∧ y.cls ≠ "java/lang/invoke/VarHandle") ∧
  (∀ sig, parseMethodDescriptor y.desc = some sig → n = sig.parameters.length) ∧ (Cond.methodLink own index y).before args s = true ∧ (Cond.static y).before args s = true
theorem vx_cwSW {own : String} {index maxL mc ms : Nat} {y : MethodName} {bytes : ByteArray} {ret : Option FieldType} {hh : List (Nat × Nat × Nat × Nat)} {Ts ws ws' : List Cond} {rm : Room} (n : Nat) (ht : ∀ w ∈ Ts, w.before args s = true) (hT : GoodIn Ts (va_wsS own index y ws)) (hw : ws = Cond.codeWith y bytes maxL ret hh :: ws') (hrc : rm.cells = mc) (hrs : rm.slots = ms)
    (hd : y.cls ≠ "java/lang/invoke/MethodHandle" ∧ y.cls ≠ "java/lang/invoke/VarHandle" ∧ (parseMethodDescriptor y.desc).map (fun d => d.parameters.length) = some n) (hR : rm.frames + 1 ≤ R.frames ∧ 8 + (maxL + 11) + rm.locals ≤ R.locals) :
    vx_CSW R s args own index y bytes maxL ret hh ws rm mc ms n := by
  have ok : ∀ w ∈ va_wsS own index y ws, w.before args s = true := fun w h => ht w (hT w h).1
  have hG : GoodIn Ts ws := fun w h => hT w (by unfold va_wsS; exact List.mem_append_right _ h)
  have hc : Cond.codeWith y bytes maxL ret hh ∈ ws := by rw [hw]; exact List.mem_cons_self
  refine ⟨⟨hrc, hrs, hR.1, hR.2, pay_in ht hG, hc⟩, ht _ (hG _ hc).1, ok _ (by simp [va_wsS]), ⟨hd.1, hd.2.1⟩, fun sig h => ?_, ok _ (by simp [va_wsS]), ok _ (by simp [va_wsS])⟩
  have h2 := hd.2.2
  rw [h] at h2
  exact (Option.some.inj h2).symm
theorem vx_callSW (X : Stand p l e R s m args below meth c T locs cells slots) (hexec : p.tables.exec = Jvm.exec) {own : String} {index : Nat} {y : MethodName} {bytes : ByteArray} {maxL : Nat} {ret : Option FieldType} {hh : List (Nat × Nat × Nat × Nat)}
    (hown : s.vm.findClass own = some m.cls) (hlink : (Cond.methodLink own index y).before args s = true) (hstat : (Cond.static y).before args s = true) (hinit : (Cond.initialized y.cls).before args s = true)
    (hcode : (Cond.codeWith y bytes maxL ret hh).before args s = true) (hy : y.cls ≠ "java/lang/invoke/MethodHandle" ∧ y.cls ≠ "java/lang/invoke/VarHandle")
    {W9 : Nat} {Pre : Pt → Array Value → Prop} {Post : Pt → Array Value → Option Value → Pt → Prop} (hK : Back l R p e below s args y 3 W9 Pre Post)
    {g : JFrame} (hg : g.method = m) (hsize : g.locals.size = c.maxLocals) {argsL rest : List Value} (hlen : ∀ sig, parseMethodDescriptor y.desc = some sig → argsL.length = sig.parameters.length)
    (hstack : g.stack = argsL.reverse ++ rest) (hW : 2 * g.monitorRoom + (rest.map fun v => v.category).sum ≤ W9) (hdg : decode c.code g.pc = .ok (.invokestatic index, 3))
    (hpre : ∀ vm₁, s.WarmedH vm₁ → Pre ⟨T.setVm vm₁, locs, cells, slots⟩ argsL.toArray) :
    ∃ (v : Option Value) (vm₁ : Vm) (B : Pt), s.WarmedH vm₁ ∧ Stand p l e R s m args below meth c B.U B.locs B.cells B.slots ∧ Post ⟨T.setVm vm₁, locs, cells, slots⟩ argsL.toArray v B ∧
      ∀ target, Steps p.tables e below (B.U.setTop { g with pc := g.pc + 3, stack := v.toList ++ rest }) target → Steps p.tables e below (T.setTop g) target := by
  obtain ⟨mk, methM, cM, hnamed, hmethM, -, -, -, -, -, -, hsigM⟩ := Cond.codeWith_spec hcode
  have hstatic : methM.isStatic = true := Cond.static_spec hnamed hmethM hstat
  obtain ⟨kP, hkP, -⟩ := className_of_methodNamed hnamed
  have hinitP : kP.init = .initialized := Cond.initialized_spec (findClass_of_methodNamed hnamed) hkP hinit
  obtain ⟨vm₁, X₁, hstep₁⟩ := X.invokestatic hexec hown hlink hnamed hmethM hstatic hkP hinitP hy (g := g) hg (argsL := argsL) (rest := rest) (hlen _ hsigM) hstack hdg
  obtain ⟨v, B, X', hpost, hsteps⟩ := hK m meth c ⟨T.setVm vm₁, locs, cells, slots⟩ { g with stack := rest } (.invokestatic index) mk argsL.toArray X₁ hg hsize hdg hW (X₁.named hnamed) (hpre vm₁ X₁.warmed)
  exact ⟨v, vm₁, B, X₁.warmed, X', hpost, fun target h => hstep₁ _ fun acts => by rw [doInvoke_state]; exact hsteps.trans h⟩
theorem vx_runSW {y : MethodName} {bytes cc : ByteArray} {maxL nL mc ms n index : Nat} {ret : Option FieldType} {hh : List (Nat × Nat × Nat × Nat)} {ws : List Cond} {rm : Room} {Pc : Array Value → State → Prop} {Qc : Array Value → State → Outcome → State → Prop} {free : Addr → Prop} {Ts : List Cond} {own : String} {As rest : List Value} {g : JFrame}
    (S : CallFix p m c cc nL s args Ts own) (hM : Met l y ws rm Pc Qc mc ms free) (cw : vx_CSW R s args own index y bytes maxL ret hh ws rm mc ms n) (hp : PreS s H Pc As)
    (hg : g.method = m) (hn : As.length = n) (hsize : g.locals.size = nL) (hstack : g.stack = As.reverse ++ rest) (hW : 2 * g.monitorRoom + (rest.map fun v => v.category).sum ≤ 8) (hdg : decode cc g.pc = .ok (.invokestatic index, 3)) (hf : cells + mc ≤ R.cells ∧ slots + ms ≤ R.slots) :
    va_Run p l e R s m args below meth c H locs cells slots mc ms g rest (Qc As.toArray) (free) := by
  obtain ⟨⟨hrc, hrs, hfr, hlo, hws, hcw⟩, hcode, hini, hy, hlen, hl, hstt⟩ := cw
  have hK : Back l R p e below s args y 3 8 (PreOf R mc ms Pc) (PostOf Qc mc ms free) := va_backW (hh := hh) (bytes := bytes) (maxL := maxL) (ret := ret) hM hp.1 hrc hrs hfr hlo hws hcw (fun a' U hW => word_at hW (Or.inl (by first | rfl | simp [Cond.onTables, Cond.keeps, Cond.steady])) hini)
  obtain ⟨hx, hb, hml, ho, -⟩ := S
  intro T hT X
  obtain ⟨v, vm₁, ⟨U', l2, c2, s2⟩, hW₁, X', ⟨g', mk, t, L, e1, e2, hq, h1, hL, h2, h3⟩, st⟩ := vx_callSW X hx (hh := hh) (bytes := bytes) (maxL := maxL) (ret := ret) ho hl hstt hini hcode hy hK hg (hsize.trans hml.symm) (argsL := As) (rest := rest) (fun sig h => hn.trans (hlen sig h)) hstack hW (by rw [hb]; exact hdg)
    (fun vm₁ hW₁ => ⟨hf.1, hf.2, hp.2 (T.setVm vm₁) hT hW₁⟩)
  dsimp only [Pt.U, Pt.locs, Pt.cells, Pt.slots] at X' e1 e2 h1 h2 h3 st
  subst h1; subst h2; subst h3
  exact ⟨v, (T.setVm vm₁).calling g' mk As.toArray, t, U', L, hT, X', hL, e1, e2, hq, st⟩
/-- not caught here, past rows that name other classes: it goes on to the caller -/
theorem vx_outP {p : Program} {l : Launch} {e : Env} {R : Room} {s : State} {m : MethodId} {args : Array Value} {below : List Frame} {meth : Method} {c : Code} {H : Heap} {locs : List Loc} {cells slots : Nat} {free : Addr → Prop} {ls : Array Slot} {rest : List Value} {Qc : Array Value → State → Outcome → State → Prop} {XC : String → State → State → Prop}
    {pc : Nat} {own E : String} {ce : Cell} {q : Addr} {mc ms : Nat} (hown : s.vm.findClass own = some m.cls) (hlocks : meth.locks = false)
    (hpass : ∀ z ∈ c.exceptionTable.toList, covers z pc = false ∨ (z.catchType ≠ 0 ∧ ∃ nm : String, (Cond.classLink own z.catchType nm).before args s = true ∧ va_Nc E nm s)) (hcell : H[q]? = some ce) (hv : ce.vm = .none) (hcl : s.vm.findClass E = some ce.cls)
    (hx : ∀ t : State, t.heap = H → s.vm.Alike t.vm → XC E s t) (hf : ∀ z ∈ locs, free z.base) (hc : cells ≤ mc) (hs : slots ≤ ms) :
    vx_W p l e R s m args below meth c H locs cells slots (vx_MQ below Qc XC args s mc ms free) (F0 m pc ls rest) q := by
  intro T hT X
  have hpl : e.platform.magicAccessors = ({} : Platform).magicAccessors := by rw [X.admits.platform]
  obtain ⟨vm', hW', X', st⟩ := X.outThrough hlocks q (g := F0 m pc ls rest) rfl rfl rfl (cell := ce) (by rw [hT]; exact hcell) (by rw [hv]; rfl)
    (by obtain ⟨k9, h9, -⟩ := Vm.findClass_spec hcl; exact ⟨k9, h9⟩) (fun z hz => by
      rcases hpass z hz with h | ⟨hz0, nm, hl1, hn1⟩
      · exact Or.inl h
      · obtain ⟨c6, hc6, hcl6⟩ := Cond.classLink_spec hown hl1 e.platform hpl
        obtain ⟨a8, b8, h1, h2, h3⟩ := hn1
        cases Option.some.inj (h1.symm.trans hcl)
        cases Option.some.inj (h2.symm.trans hc6)
        exact Or.inr ⟨hz0, _, hcl6, h3⟩)
  obtain ⟨g₀, hfr⟩ := X'.frames_eq
  have hcell9 : ((T.setVm vm').setFrames (.throwing q :: below)).heap[q]? = some ce := by
    show T.heap[q]? = some ce
    rw [hT]; exact hcell
  have hend : Ended ((T.setVm vm').setFrames (.throwing q :: below)) below (.threw q) := State.frames_setFrames _ (State.cur_lt_of_frames hfr)
  refine ⟨(T.setVm vm').setFrames (.throwing q :: below), ?_, .threw q, X'.here.running, hend, Or.inr ⟨q, rfl, E, ce, locs, hx _ hT (X'.ends _).1.alike, hcell9, hv, hcl, (X'.ends _).1, (X'.ends _).2.mono hc hs, hf⟩⟩
  rw [X.pushThrowing_eq]
  exact st
/-- a thing of a world lies in the heap -/
theorem vx_lt {D : va_G} {cl : List vw_C} {ws : va_W} {H1 : Heap} (h : va_P D cl ws H1) {k : Nat} {q : Nat × va_E} (hk : ws[k]? = some q) : q.1 < H1.size := (h k q hk).lt
end VXS
/-! ===== END ===== -/
/-! ===== BEGIN methods with a table of their own: called by a name, returning or throwing ===== -/
section VXH
/-! vx_backW, vx_callVX, vx_callSX, vx_callVW, vx_runVW, vx_runVX, vx_runSX, vx_ofWH follow the same proofs as their sisters above (Free/Laws.lean, Shelf42/LK1.lean); vx_outP calls Shelf42/NT130.lean (outThrough). -/
section
variable {l : Launch} {R : Room} {p : Program} {e : Env} {below : List Frame} {s : State} {sargs : Array Value} {y : MethodName} {len W9 : Nat}
theorem vx_backW {ws : List Cond} {rm : Room} {Pc : Array Value → State → Prop} {Qc : Array Value → State → Outcome → State → Prop} {XC : String → State → State → Prop} {mc ms : Nat} {free : Addr → Prop} {bytes : ByteArray} {maxL : Nat} {ret : Option FieldType} {hh : List (Nat × Nat × Nat × Nat)}
    (hM : vx_Met l y ws rm Pc Qc XC mc ms free) (hblind : FrameBlind Pc) (hrc : rm.cells = mc) (hrs : rm.slots = ms)
    (hframes : rm.frames + 1 ≤ R.frames) (hlocals : W9 + (maxL + 11) + rm.locals ≤ R.locals)
    (hws : ∀ w ∈ ws, ∀ a' U, s.WarmedH U.vm → w.before a' U = true) (hcode : Cond.codeWith y bytes maxL ret hh ∈ ws) (hinit : ∀ a' U, s.WarmedH U.vm → (Cond.initialized y.cls).before a' U = true) :
    vx_Back l R p e below s sargs y len W9 (PreOf R mc ms Pc) (PostOf Qc mc ms free) (vx_Post XC mc ms free) := by
  intro m meth c A g ig mk a X hg hsize hdg hW hn hp
  have h1 : (headSpec ws rm).pre.before a A.U = true := atoms_intro fun w hw => hws w hw _ _ X.warmed
  have h2 : (Cond.codeWith y bytes maxL ret hh).before a A.U = true := hws _ hcode _ _ X.warmed
  have h3 : (Cond.initialized y.cls).before a A.U = true := hinit _ _ X.warmed
  have h4 : A.cells + (headSpec ws rm).room.cells ≤ R.cells := by rw [show (headSpec ws rm).room.cells = mc from hrc]; exact hp.1
  have h5 : A.slots + (headSpec ws rm).room.slots ≤ R.slots := by rw [show (headSpec ws rm).room.slots = ms from hrs]; exact hp.2.1
  have hPc : Pc a (A.U.calling g mk a) := hblind _ _ _ _ hp.2.2
  obtain ⟨U, Ls, c0, s0⟩ := A
  dsimp only [Pt.U, Pt.locs, Pt.cells, Pt.slots] at h1 h2 h3 h4 h5 X hn hPc ⊢
  obtain ⟨m9, methY, cY, hn9, hmY, hcY, -, hlY, -⟩ := Cond.codeWith_spec h2
  cases Option.some.inj (hn9.symm.trans hn)
  obtain ⟨kY, hkY, -⟩ := className_of_methodNamed hn
  have hinitY : kY.init = .initialized := Cond.initialized_spec (findClass_of_methodNamed hn) hkY h3
  have h : At U g.method c below := by rw [hg]; exact X.here
  have hlocals9 : W9 + (maxL + 11) + (headSpec ws rm).room.locals ≤ R.locals := hlocals
  have happ : (headSpec ws rm).appliesLoose y e.platform (U.calling g mk a) = true :=
    Spec.appliesLoose_calling (g := g) h hdg hn hkY hinitY
      (X.room_calling (g := g) (R' := (headSpec ws rm).room) hsize hmY hcY hframes (by rw [hlY]; omega) h4 h5) h1
  obtain ⟨mid, hmid⟩ := h.above
  have hfr : (U.setTop g).frames = (.java g :: mid) ++ below := by rw [State.frames_setTop' g h.top, hmid]; rfl
  obtain ⟨o, s₂, hsteps, -, hend, hq⟩ := Steps.callFree hM p X.admits X.cas X.clock (acts := []) hfr happ hPc trivial
  have hq' : vx_Q Qc XC mc ms free a (U.calling g mk a) o s₂ := hq
  rw [State.frames_setTop' g h.top] at hend
  obtain ⟨g₀, hg0⟩ := Option.isSome_iff_exists.mp h.top
  obtain ⟨r, hr⟩ := State.topJava?_eq_some.mp hg0
  have hr' : (({ U with heap := s₂.heap, slotsUsed := s₂.slotsUsed } : State).setVm s₂.vm).frames = .java g₀ :: r := hr
  rcases hq' with ⟨hqc, L, hfe, hL⟩ | ⟨q, rfl, E, ce, L, hx, hce, hcv, hcl, hW₂, hsm, hL⟩
  · obtain ⟨⟨v, rfl⟩, hW₂, e2, q2, q3, q4, q5, q6⟩ := id hfe
    have e3 : s₂ = ({ (U.calling g mk a).setFrames s₂.frames with heap := s₂.heap, slotsUsed := s₂.slotsUsed } : State).setVm s₂.vm := by
      have : s₂ = ({ s₂ with vm := (U.calling g mk a).vm } : State).setVm s₂.vm := rfl
      rw [e2] at this
      exact this
    obtain ⟨c₂, i₂, len₂, hc₂, hd₂, hf₂⟩ := hend
    have hW' : U.WarmedH s₂.vm := hW₂
    have hcc : c₂ = c := by
      have h1 : s₂.code? g.method = U.code? g.method := by
        rw [State.code?_eq, State.code?_eq, hW'.alike.method?]
      exact Option.some.inj (hc₂.symm.trans (h1.trans h.code))
    subst hcc
    have hlen : len₂ = len := by rw [hdg] at hd₂; cases hd₂; rfl
    subst hlen
    have hs₂ : s₂ = (({ U with heap := s₂.heap, slotsUsed := s₂.slotsUsed } : State).setVm s₂.vm).setTop { g with pc := g.pc + len₂, stack := v.toList ++ g.stack } := by
      refine e3.trans ?_
      rw [hf₂, State.calling_eq h.top, State.setFrames_setFrames, State.setTop_of_frames _ hr', hr]
      rfl
    have hsame : U.sameButNew ({ U with heap := s₂.heap, slotsUsed := s₂.slotsUsed } : State) L mc ms := by
      refine ⟨?_, q2, q3, q4, q5, q6⟩
      obtain ⟨t, ht, -⟩ := State.frames_cons hr
      show ({ U with heap := s₂.heap, slotsUsed := s₂.slotsUsed } : State) = { U.setFrames U.frames with heap := s₂.heap, slotsUsed := s₂.slotsUsed }
      rw [State.setFrames_self ht]
    subst hg
    refine Or.inl ⟨v, ⟨(({ U with heap := s₂.heap, slotsUsed := s₂.slotsUsed } : State).setVm s₂.vm), Ls ++ L, c0 + mc, s0 + ms⟩,
      ⟨X.admits, X.cas, X.clock, X.frames, X.room, X.hears, X.method, X.code, (X.here.setHeapUsed s₂.heap s₂.slotsUsed).setVm hW'.alike, X.tail, State.WarmedH.trans X.warmed hW', X.limits, X.bytes, X.same.trans (hsame.setVm s.vm)⟩,
      ⟨g, mk, s₂, L, rfl, rfl, hqc, rfl, hL, rfl, rfl⟩, ?_⟩
    show Steps p.tables e below _ ((({ U with heap := s₂.heap, slotsUsed := s₂.slotsUsed } : State).setVm s₂.vm).setTop { g with pc := g.pc + len₂, stack := v.toList ++ g.stack })
    rw [← hs₂]
    exact hsteps
  · obtain ⟨e2, q2, q3, q4, q5, q6⟩ := id hsm
    have e3 : s₂ = ({ (U.calling g mk a).setFrames s₂.frames with heap := s₂.heap, slotsUsed := s₂.slotsUsed } : State).setVm s₂.vm := by
      have : s₂ = ({ s₂ with vm := (U.calling g mk a).vm } : State).setVm s₂.vm := rfl
      rw [e2] at this
      exact this
    have hf₂ : s₂.frames = .throwing q :: .java g :: U.frames.tail := hend
    have hW' : U.WarmedH s₂.vm := hW₂
    have hs₂ : s₂ = ((({ U with heap := s₂.heap, slotsUsed := s₂.slotsUsed } : State).setVm s₂.vm).setTop g).pushFrame (.throwing q) := by
      refine e3.trans ?_
      rw [hf₂, State.calling_eq h.top, State.setFrames_setFrames, State.pushFrame, State.frames_setTop _ hr', State.setTop_of_frames _ hr', State.setFrames_setFrames, hr]
      rfl
    have hsame : U.sameButNew ({ U with heap := s₂.heap, slotsUsed := s₂.slotsUsed } : State) L mc ms := by
      refine ⟨?_, q2, q3, q4, q5, q6⟩
      obtain ⟨t, ht, -⟩ := State.frames_cons hr
      show ({ U with heap := s₂.heap, slotsUsed := s₂.slotsUsed } : State) = { U.setFrames U.frames with heap := s₂.heap, slotsUsed := s₂.slotsUsed }
      rw [State.setFrames_self ht]
    subst hg
    refine Or.inr ⟨q, ⟨(({ U with heap := s₂.heap, slotsUsed := s₂.slotsUsed } : State).setVm s₂.vm), Ls ++ L, c0 + mc, s0 + ms⟩,
      ⟨X.admits, X.cas, X.clock, X.frames, X.room, X.hears, X.method, X.code, (X.here.setHeapUsed s₂.heap s₂.slotsUsed).setVm hW'.alike, X.tail, State.WarmedH.trans X.warmed hW', X.limits, X.bytes, X.same.trans (hsame.setVm s.vm)⟩,
      ⟨g, mk, s₂, L, E, ce, rfl, rfl, hx, hce, hcv, hcl, rfl, hL, rfl, rfl⟩, ?_⟩
    show Steps p.tables e below _ (((({ U with heap := s₂.heap, slotsUsed := s₂.slotsUsed } : State).setVm s₂.vm).setTop g).pushFrame (.throwing q))
    rw [← hs₂]
    exact hsteps
end
variable {p : Program} {l : Launch} {e : Env} {R : Room} {s : State} {m : MethodId} {args : Array Value} {below : List Frame} {meth : Method} {c : Code} {T : State} {H : Heap} {locs : List Loc} {cells slots : Nat}
theorem vx_callVX (X : Stand p l e R s m args below meth c T locs cells slots) (hexec : p.tables.exec = Jvm.exec) {own C : String} {index : Nat} {y : MethodName} {bytes : ByteArray} {maxL : Nat} {ret : Option FieldType} {hh : List (Nat × Nat × Nat × Nat)}
    (hown : s.vm.findClass own = some m.cls) (hlink : (Cond.methodLink own index y).before args s = true) (hinst : (Cond.instanceMethod y).before args s = true) (hsel : (Cond.selects C y y).before args s = true)
    (hcode : (Cond.codeWith y bytes maxL ret hh).before args s = true) (hy : y.cls ≠ "java/lang/invoke/MethodHandle" ∧ y.cls ≠ "java/lang/invoke/VarHandle")
    {W9 : Nat} {Pre : Pt → Array Value → Prop} {Post : Pt → Array Value → Option Value → Pt → Prop} {PostX : Pt → Array Value → Addr → Pt → Prop} (hK : vx_Back l R p e below s args y 3 W9 Pre Post PostX)
    {b : Addr} {cellB : Cell} (hcell : T.heap[b]? = some cellB) (hobj : cellB.vm.isStatics = false) (hcls : s.vm.findClass C = some cellB.cls)
    {g : JFrame} (hg : g.method = m) (hsize : g.locals.size = c.maxLocals) {argsL rest : List Value} (hlen : ∀ sig, parseMethodDescriptor y.desc = some sig → argsL.length = sig.parameters.length)
    (hstack : g.stack = argsL.reverse ++ .ref b :: rest) (hW : 2 * g.monitorRoom + (rest.map fun v => v.category).sum ≤ W9) (hdg : decode c.code g.pc = .ok (.invokevirtual index, 3))
    (hpre : ∀ vm₁, s.WarmedH vm₁ → Pre ⟨T.setVm vm₁, locs, cells, slots⟩ (Value.ref b :: argsL).toArray) :
    (∃ (v : Option Value) (vm₁ : Vm) (B : Pt), s.WarmedH vm₁ ∧ Stand p l e R s m args below meth c B.U B.locs B.cells B.slots ∧ Post ⟨T.setVm vm₁, locs, cells, slots⟩ (Value.ref b :: argsL).toArray v B ∧
      ∀ target, Steps p.tables e below (B.U.setTop { g with pc := g.pc + 3, stack := v.toList ++ rest }) target → Steps p.tables e below (T.setTop g) target) ∨
    (∃ (q : Addr) (vm₁ : Vm) (B : Pt), s.WarmedH vm₁ ∧ Stand p l e R s m args below meth c B.U B.locs B.cells B.slots ∧ PostX ⟨T.setVm vm₁, locs, cells, slots⟩ (Value.ref b :: argsL).toArray q B ∧
      Steps p.tables e below (T.setTop g) ((B.U.setTop { g with stack := rest }).pushFrame (.throwing q))) := by
  obtain ⟨mk, methM, hnamed, hmethM, hstM, habM⟩ := Cond.instanceMethod_spec hinst
  obtain ⟨m8, methM', cM, hn8, hmethM', -, -, -, -, -, -, hsigM⟩ := Cond.codeWith_spec hcode
  cases Option.some.inj (hn8.symm.trans hnamed)
  cases hmethM.symm.trans hmethM'
  obtain ⟨c2, r2, m2, q1, q2, q3, q4, kP, hkP, hkPi⟩ := Cond.selects_spec hsel
  cases hcls.symm.trans q1
  cases (State.methodFound?_of_named hnamed hy).symm.trans q2
  cases hnamed.symm.trans q3
  have hselP : selectMethod e.platform s.vm cellB.cls mk = .method mk := by rw [Launch.admits_selectMethod X.admits]; exact q4
  obtain ⟨vm₁, X₁, hstep₁⟩ := X.invokevirtual hexec hown hlink hnamed hmethM hstM hkP hkPi hy (a := b) (cell := cellB) hcell
    (fun z h => by rw [h] at hobj; cases hobj) hselP hmethM habM hkP hkPi (g := g) hg (argsL := argsL) (rest := rest) (hlen _ hsigM) hstack hdg
  rcases hK m meth c ⟨T.setVm vm₁, locs, cells, slots⟩ { g with stack := rest } (.invokevirtual index) mk (Value.ref b :: argsL).toArray X₁ hg hsize hdg hW (X₁.named hnamed) (hpre vm₁ X₁.warmed) with ⟨v, B, X', hpost, hsteps⟩ | ⟨q, B, X', hpost, hsteps⟩
  · exact Or.inl ⟨v, vm₁, B, X₁.warmed, X', hpost, fun target h => hstep₁ _ fun acts => by rw [doInvoke_state]; exact hsteps.trans h⟩
  · exact Or.inr ⟨q, vm₁, B, X₁.warmed, X', hpost, hstep₁ _ fun acts => by rw [doInvoke_state]; exact hsteps⟩
theorem vx_callSX (X : Stand p l e R s m args below meth c T locs cells slots) (hexec : p.tables.exec = Jvm.exec) {own : String} {index : Nat} {y : MethodName} {bytes : ByteArray} {maxL : Nat} {ret : Option FieldType} {hh : List (Nat × Nat × Nat × Nat)}
    (hown : s.vm.findClass own = some m.cls) (hlink : (Cond.methodLink own index y).before args s = true) (hstat : (Cond.static y).before args s = true) (hinit : (Cond.initialized y.cls).before args s = true)
    (hcode : (Cond.codeWith y bytes maxL ret hh).before args s = true) (hy : y.cls ≠ "java/lang/invoke/MethodHandle" ∧ y.cls ≠ "java/lang/invoke/VarHandle")
    {W9 : Nat} {Pre : Pt → Array Value → Prop} {Post : Pt → Array Value → Option Value → Pt → Prop} {PostX : Pt → Array Value → Addr → Pt → Prop} (hK : vx_Back l R p e below s args y 3 W9 Pre Post PostX)
    {g : JFrame} (hg : g.method = m) (hsize : g.locals.size = c.maxLocals) {argsL rest : List Value} (hlen : ∀ sig, parseMethodDescriptor y.desc = some sig → argsL.length = sig.parameters.length)
    (hstack : g.stack = argsL.reverse ++ rest) (hW : 2 * g.monitorRoom + (rest.map fun v => v.category).sum ≤ W9) (hdg : decode c.code g.pc = .ok (.invokestatic index, 3))
    (hpre : ∀ vm₁, s.WarmedH vm₁ → Pre ⟨T.setVm vm₁, locs, cells, slots⟩ argsL.toArray) :
    (∃ (v : Option Value) (vm₁ : Vm) (B : Pt), s.WarmedH vm₁ ∧ Stand p l e R s m args below meth c B.U B.locs B.cells B.slots ∧ Post ⟨T.setVm vm₁, locs, cells, slots⟩ argsL.toArray v B ∧
      ∀ target, Steps p.tables e below (B.U.setTop { g with pc := g.pc + 3, stack := v.toList ++ rest }) target → Steps p.tables e below (T.setTop g) target) ∨
    (∃ (q : Addr) (vm₁ : Vm) (B : Pt), s.WarmedH vm₁ ∧ Stand p l e R s m args below meth c B.U B.locs B.cells B.slots ∧ PostX ⟨T.setVm vm₁, locs, cells, slots⟩ argsL.toArray q B ∧
      Steps p.tables e below (T.setTop g) ((B.U.setTop { g with stack := rest }).pushFrame (.throwing q))) := by
  obtain ⟨mk, methM, cM, hnamed, hmethM, -, -, -, -, -, -, hsigM⟩ := Cond.codeWith_spec hcode
  have hstatic : methM.isStatic = true := Cond.static_spec hnamed hmethM hstat
  obtain ⟨kP, hkP, -⟩ := className_of_methodNamed hnamed
  have hinitP : kP.init = .initialized := Cond.initialized_spec (findClass_of_methodNamed hnamed) hkP hinit
  obtain ⟨vm₁, X₁, hstep₁⟩ := X.invokestatic hexec hown hlink hnamed hmethM hstatic hkP hinitP hy (g := g) hg (argsL := argsL) (rest := rest) (hlen _ hsigM) hstack hdg
  rcases hK m meth c ⟨T.setVm vm₁, locs, cells, slots⟩ { g with stack := rest } (.invokestatic index) mk argsL.toArray X₁ hg hsize hdg hW (X₁.named hnamed) (hpre vm₁ X₁.warmed) with ⟨v, B, X', hpost, hsteps⟩ | ⟨q, B, X', hpost, hsteps⟩
  · exact Or.inl ⟨v, vm₁, B, X₁.warmed, X', hpost, fun target h => hstep₁ _ fun acts => by rw [doInvoke_state]; exact hsteps.trans h⟩
  · exact Or.inr ⟨q, vm₁, B, X₁.warmed, X', hpost, hstep₁ _ fun acts => by rw [doInvoke_state]; exact hsteps⟩
theorem vx_callVW (X : Stand p l e R s m args below meth c T locs cells slots) (hexec : p.tables.exec = Jvm.exec) {own C : String} {index : Nat} {y : MethodName} {bytes : ByteArray} {maxL : Nat} {ret : Option FieldType} {hh : List (Nat × Nat × Nat × Nat)}
    (hown : s.vm.findClass own = some m.cls) (hlink : (Cond.methodLink own index y).before args s = true) (hinst : (Cond.instanceMethod y).before args s = true) (hsel : (Cond.selects C y y).before args s = true)
    (hcode : (Cond.codeWith y bytes maxL ret hh).before args s = true) (hy : y.cls ≠ "java/lang/invoke/MethodHandle" ∧ y.cls ≠ "java/lang/invoke/VarHandle")
    {W9 : Nat} {Pre : Pt → Array Value → Prop} {Post : Pt → Array Value → Option Value → Pt → Prop} (hK : Back l R p e below s args y 3 W9 Pre Post)
    {b : Addr} {cellB : Cell} (hcell : T.heap[b]? = some cellB) (hobj : cellB.vm.isStatics = false) (hcls : s.vm.findClass C = some cellB.cls)
    {g : JFrame} (hg : g.method = m) (hsize : g.locals.size = c.maxLocals) {argsL rest : List Value} (hlen : ∀ sig, parseMethodDescriptor y.desc = some sig → argsL.length = sig.parameters.length)
    (hstack : g.stack = argsL.reverse ++ .ref b :: rest) (hW : 2 * g.monitorRoom + (rest.map fun v => v.category).sum ≤ W9) (hdg : decode c.code g.pc = .ok (.invokevirtual index, 3))
    (hpre : ∀ vm₁, s.WarmedH vm₁ → Pre ⟨T.setVm vm₁, locs, cells, slots⟩ (Value.ref b :: argsL).toArray) :
    ∃ (v : Option Value) (vm₁ : Vm) (B : Pt), s.WarmedH vm₁ ∧ Stand p l e R s m args below meth c B.U B.locs B.cells B.slots ∧ Post ⟨T.setVm vm₁, locs, cells, slots⟩ (Value.ref b :: argsL).toArray v B ∧
      ∀ target, Steps p.tables e below (B.U.setTop { g with pc := g.pc + 3, stack := v.toList ++ rest }) target → Steps p.tables e below (T.setTop g) target := by
  obtain ⟨mk, methM, hnamed, hmethM, hstM, habM⟩ := Cond.instanceMethod_spec hinst
  obtain ⟨m8, methM', cM, hn8, hmethM', -, -, -, -, -, -, hsigM⟩ := Cond.codeWith_spec hcode
  cases Option.some.inj (hn8.symm.trans hnamed)
  cases hmethM.symm.trans hmethM'
  obtain ⟨c2, r2, m2, q1, q2, q3, q4, kP, hkP, hkPi⟩ := Cond.selects_spec hsel
  cases hcls.symm.trans q1
  cases (State.methodFound?_of_named hnamed hy).symm.trans q2
  cases hnamed.symm.trans q3
  have hselP : selectMethod e.platform s.vm cellB.cls mk = .method mk := by rw [Launch.admits_selectMethod X.admits]; exact q4
  obtain ⟨vm₁, X₁, hstep₁⟩ := X.invokevirtual hexec hown hlink hnamed hmethM hstM hkP hkPi hy (a := b) (cell := cellB) hcell
    (fun z h => by rw [h] at hobj; cases hobj) hselP hmethM habM hkP hkPi (g := g) hg (argsL := argsL) (rest := rest) (hlen _ hsigM) hstack hdg
  obtain ⟨v, B, X', hpost, hsteps⟩ := hK m meth c ⟨T.setVm vm₁, locs, cells, slots⟩ { g with stack := rest } (.invokevirtual index) mk (Value.ref b :: argsL).toArray X₁ hg hsize hdg hW (X₁.named hnamed) (hpre vm₁ X₁.warmed)
  exact ⟨v, vm₁, B, X₁.warmed, X', hpost, fun target h => hstep₁ _ fun acts => by rw [doInvoke_state]; exact hsteps.trans h⟩
abbrev vx_CVW (R : Room) (s : State) (args : Array Value) (own C : String) (index : Nat) (y : MethodName) (bytes : ByteArray) (maxL : Nat) (ret : Option FieldType) (hh : List (Nat × Nat × Nat × Nat)) (ws : List Cond) (rm : Room) (mc ms n : Nat) : Prop :=
  (rm.cells = mc ∧ rm.slots = ms ∧ rm.frames + 1 ≤ R.frames ∧ 8 + (maxL + 11) + rm.locals ≤ R.locals ∧ (∀ w ∈ ws, ∀ (a' : Array Value) (U : State), s.WarmedH U.vm → w.before a' U = true) ∧ Cond.codeWith y bytes maxL ret hh ∈ ws) ∧
  (Cond.codeWith y bytes maxL ret hh).before args s = true ∧ (Cond.initialized y.cls).before args s = true ∧ (y.cls ≠ "java/lang/invoke/MethodHandle" ∧ y.cls ≠ "java/lang/invoke/VarHandle") ∧
  (∀ sig, parseMethodDescriptor y.desc = some sig → n = sig.parameters.length) ∧ (Cond.methodLink own index y).before args s = true ∧ (Cond.instanceMethod y).before args s = true ∧ (Cond.selects C y y).before args s = true
theorem vx_cwVW {own C : String} {index maxL mc ms : Nat} {y : MethodName} {bytes : ByteArray} {ret : Option FieldType} {hh : List (Nat × Nat × Nat × Nat)} {Ts ws ws' : List Cond} {rm : Room} (n : Nat) (ht : ∀ w ∈ Ts, w.before args s = true) (hT : GoodIn Ts (wsV own index C y ws)) (hw : ws = Cond.codeWith y bytes maxL ret hh :: ws') (hrc : rm.cells = mc) (hrs : rm.slots = ms)
    (hd : y.cls = C ∧ y.cls ≠ "java/lang/invoke/MethodHandle" ∧ y.cls ≠ "java/lang/invoke/VarHandle" ∧ (parseMethodDescriptor y.desc).map (fun d => d.parameters.length) = some n) (hR : rm.frames + 1 ≤ R.frames ∧ 8 + (maxL + 11) + rm.locals ≤ R.locals) :
    vx_CVW R s args own C index y bytes maxL ret hh ws rm mc ms n := by
  obtain ⟨hC, hd⟩ := hd
  subst hC
  have ok : ∀ w ∈ wsV own index y.cls y ws, w.before args s = true := fun w h => ht w (hT w h).1
  have hG : GoodIn Ts ws := fun w h => hT w (by unfold wsV; exact List.mem_append_right _ h)
  have hc : Cond.codeWith y bytes maxL ret hh ∈ ws := by rw [hw]; exact List.mem_cons_self
  refine ⟨⟨hrc, hrs, hR.1, hR.2, pay_in ht hG, hc⟩, ht _ (hG _ hc).1, ok _ (by simp [wsV]), ⟨hd.1, hd.2.1⟩, fun sig h => ?_, ok _ (by simp [wsV]), ok _ (by simp [wsV]), ok _ (by simp [wsV])⟩
  have h2 := hd.2.2
  rw [h] at h2
  exact (Option.some.inj h2).symm
theorem vx_runVW {y : MethodName} {bytes cc : ByteArray} {maxL nL mc ms n index : Nat} {ret : Option FieldType} {hh : List (Nat × Nat × Nat × Nat)} {ws : List Cond} {rm : Room} {Pc : Array Value → State → Prop} {Qc : Array Value → State → Outcome → State → Prop} {free : Addr → Prop} {Ts : List Cond} {own C : String} {b : Addr} {As rest : List Value} {g : JFrame}
    (S : CallFix p m c cc nL s args Ts own) (hM : Met l y ws rm Pc Qc mc ms free) (cw : vx_CVW R s args own C index y bytes maxL ret hh ws rm mc ms n) (hp : PreV s H C b Pc As)
    (hg : g.method = m) (hn : As.length = n) (hsize : g.locals.size = nL) (hstack : g.stack = As.reverse ++ .ref b :: rest) (hW : 2 * g.monitorRoom + (rest.map fun v => v.category).sum ≤ 8) (hdg : decode cc g.pc = .ok (.invokevirtual index, 3)) (hf : cells + mc ≤ R.cells ∧ slots + ms ≤ R.slots) :
    va_Run p l e R s m args below meth c H locs cells slots mc ms g rest (Qc (Value.ref b :: As).toArray) free := by
  obtain ⟨⟨hrc, hrs, hfr, hlo, hws, hcw⟩, hcode, hini, hy, hlen, hl, hin, hse⟩ := cw
  have hK : Back l R p e below s args y 3 8 (PreOf R mc ms Pc) (PostOf Qc mc ms free) := va_backW (hh := hh) (bytes := bytes) (maxL := maxL) (ret := ret) hM hp.1 hrc hrs hfr hlo hws hcw (fun a' U hW => word_at hW (Or.inl (by first | rfl | simp [Cond.onTables, Cond.keeps, Cond.steady])) hini)
  obtain ⟨hx, hb, hml, ho, -⟩ := S
  obtain ⟨-, ⟨cellB, hcB, hoB, hclB⟩, hPc⟩ := hp
  intro T hT X
  obtain ⟨v, vm₁, ⟨U', l2, c2, s2⟩, hW₁, X', ⟨g', mk, t, L, e1, e2, hq, h1, hL, h2, h3⟩, st⟩ := vx_callVW X hx (C := C) (hh := hh) (bytes := bytes) (maxL := maxL) (ret := ret) ho hl hin hse hcode hy hK (by rw [hT]; exact hcB) hoB hclB hg (hsize.trans hml.symm) (argsL := As) (rest := rest) (fun sig h => hn.trans (hlen sig h)) hstack hW (by rw [hb]; exact hdg)
    (fun vm₁ hW₁ => ⟨hf.1, hf.2, hPc (T.setVm vm₁) hT hW₁⟩)
  dsimp only [Pt.U, Pt.locs, Pt.cells, Pt.slots] at X' e1 e2 h1 h2 h3 st
  subst h1; subst h2; subst h3
  exact ⟨v, (T.setVm vm₁).calling g' mk (Value.ref b :: As).toArray, t, U', L, hT, X', hL, e1, e2, hq, st⟩
section
variable {y : MethodName} {bytes cc : ByteArray} {maxL nL mc ms n index : Nat} {ret : Option FieldType} {ws : List Cond} {rm : Room} {Pc : Array Value → State → Prop} {Qc : Array Value → State → Outcome → State → Prop} {XC : String → State → State → Prop} {free : Addr → Prop} {Ts : List Cond} {own C : String} {b : Addr} {As rest : List Value} {g : JFrame}
theorem vx_runVX {hh : List (Nat × Nat × Nat × Nat)} (S : CallFix p m c cc nL s args Ts own) (hM : vx_Met l y ws rm Pc Qc XC mc ms free) (cw : vx_CVW R s args own C index y bytes maxL ret hh ws rm mc ms n) (hp : PreV s H C b Pc As)
    (hg : g.method = m) (hn : As.length = n) (hsize : g.locals.size = nL) (hstack : g.stack = As.reverse ++ .ref b :: rest) (hW : 2 * g.monitorRoom + (rest.map fun v => v.category).sum ≤ 8) (hdg : decode cc g.pc = .ok (.invokevirtual index, 3)) (hf : cells + mc ≤ R.cells ∧ slots + ms ≤ R.slots) :
    vx_Run p l e R s m args below meth c H locs cells slots mc ms g rest (Qc (Value.ref b :: As).toArray) XC free := by
  obtain ⟨⟨hrc, hrs, hfr, hlo, hws, hcw⟩, hcode, hini, hy, hlen, hl, hin, hse⟩ := cw
  have hK : vx_Back l R p e below s args y 3 8 (PreOf R mc ms Pc) (PostOf Qc mc ms free) (vx_Post XC mc ms free) := vx_backW (hh := hh) (bytes := bytes) (maxL := maxL) (ret := ret) hM hp.1 hrc hrs hfr hlo hws hcw (fun a' U hW => word_at hW (Or.inl (by first | rfl | simp [Cond.onTables, Cond.keeps, Cond.steady])) hini)
  obtain ⟨hx, hb, hml, ho, -⟩ := S
  obtain ⟨-, ⟨cellB, hcB, hoB, hclB⟩, hPc⟩ := hp
  intro T hT X
  rcases vx_callVX X hx (C := C) (hh := hh) (bytes := bytes) (maxL := maxL) (ret := ret) ho hl hin hse hcode hy hK (by rw [hT]; exact hcB) hoB hclB hg (hsize.trans hml.symm) (argsL := As) (rest := rest) (fun sig h => hn.trans (hlen sig h)) hstack hW (by rw [hb]; exact hdg)
    (fun vm₁ hW₁ => ⟨hf.1, hf.2, hPc (T.setVm vm₁) hT hW₁⟩) with ⟨v, vm₁, ⟨U', l2, c2, s2⟩, hW₁, X', ⟨g', mk, t, L, e1, e2, hq, h1, hL, h2, h3⟩, st⟩ | ⟨q, vm₁, ⟨U', l2, c2, s2⟩, hW₁, X', ⟨g', mk, t, L, E, ce, e1, e2, hq, hce, hcv, hcl, h1, hL, h2, h3⟩, st⟩
  · dsimp only [Pt.U, Pt.locs, Pt.cells, Pt.slots] at X' e1 e2 h1 h2 h3 st
    subst h1; subst h2; subst h3
    exact Or.inl ⟨v, (T.setVm vm₁).calling g' mk (Value.ref b :: As).toArray, t, U', L, hT, X', hL, e1, e2, hq, st⟩
  · dsimp only [Pt.U, Pt.locs, Pt.cells, Pt.slots] at X' e1 e2 h1 h2 h3 st hcl
    subst h1; subst h2; subst h3
    exact Or.inr ⟨q, (T.setVm vm₁).calling g' mk (Value.ref b :: As).toArray, t, U', L, E, ce, hT, X', hL, e1, e2, hq, hce, hcv, vx_cls hW₁ hcl, st⟩
theorem vx_runSX {hh : List (Nat × Nat × Nat × Nat)} (S : CallFix p m c cc nL s args Ts own) (hM : vx_Met l y ws rm Pc Qc XC mc ms free) (cw : vx_CSW R s args own index y bytes maxL ret hh ws rm mc ms n) (hp : PreS s H Pc As)
    (hg : g.method = m) (hn : As.length = n) (hsize : g.locals.size = nL) (hstack : g.stack = As.reverse ++ rest) (hW : 2 * g.monitorRoom + (rest.map fun v => v.category).sum ≤ 8) (hdg : decode cc g.pc = .ok (.invokestatic index, 3)) (hf : cells + mc ≤ R.cells ∧ slots + ms ≤ R.slots) :
    vx_Run p l e R s m args below meth c H locs cells slots mc ms g rest (Qc As.toArray) XC free := by
  obtain ⟨⟨hrc, hrs, hfr, hlo, hws, hcw⟩, hcode, hini, hy, hlen, hl, hstt⟩ := cw
  have hK : vx_Back l R p e below s args y 3 8 (PreOf R mc ms Pc) (PostOf Qc mc ms free) (vx_Post XC mc ms free) := vx_backW (hh := hh) (bytes := bytes) (maxL := maxL) (ret := ret) hM hp.1 hrc hrs hfr hlo hws hcw (fun a' U hW => word_at hW (Or.inl (by first | rfl | simp [Cond.onTables, Cond.keeps, Cond.steady])) hini)
  obtain ⟨hx, hb, hml, ho, -⟩ := S
  intro T hT X
  rcases vx_callSX X hx (hh := hh) (bytes := bytes) (maxL := maxL) (ret := ret) ho hl hstt hini hcode hy hK hg (hsize.trans hml.symm) (argsL := As) (rest := rest) (fun sig h => hn.trans (hlen sig h)) hstack hW (by rw [hb]; exact hdg)
    (fun vm₁ hW₁ => ⟨hf.1, hf.2, hp.2 (T.setVm vm₁) hT hW₁⟩) with ⟨v, vm₁, ⟨U', l2, c2, s2⟩, hW₁, X', ⟨g', mk, t, L, e1, e2, hq, h1, hL, h2, h3⟩, st⟩ | ⟨q, vm₁, ⟨U', l2, c2, s2⟩, hW₁, X', ⟨g', mk, t, L, E, ce, e1, e2, hq, hce, hcv, hcl, h1, hL, h2, h3⟩, st⟩
  · dsimp only [Pt.U, Pt.locs, Pt.cells, Pt.slots] at X' e1 e2 h1 h2 h3 st
    subst h1; subst h2; subst h3
    exact Or.inl ⟨v, (T.setVm vm₁).calling g' mk As.toArray, t, U', L, hT, X', hL, e1, e2, hq, st⟩
  · dsimp only [Pt.U, Pt.locs, Pt.cells, Pt.slots] at X' e1 e2 h1 h2 h3 st hcl
    subst h1; subst h2; subst h3
    exact Or.inr ⟨q, (T.setVm vm₁).calling g' mk As.toArray, t, U', L, E, ce, hT, X', hL, e1, e2, hq, hce, hcv, vx_cls hW₁ hcl, st⟩
end
end VXH
theorem vx_ofWH {l : Launch} {y : MethodName} {ws ws' : List Cond} {rm : Room} {Pc : Array Value → State → Prop} {Qc : Array Value → State → Outcome → State → Prop} {XC : String → State → State → Prop} {mc ms : Nat} {free : Addr → Prop} {cc : ByteArray} {maxL : Nat} {ret : Option FieldType} {hh : List (Nat × Nat × Nat × Nat)}
    (hy : plainName y.cls = true) (hw : ws = Cond.codeWith y cc maxL ret hh :: ws')
    (body : ∀ p e s m args below meth c s₁, BodyLoose p l y (headSpec ws rm) cc maxL ret e s m args below meth c s₁ → c.maxLocals = maxL → Pc args s →
      W p l e (headSpec ws rm).room s m args below meth c s.heap [] 0 0 (vx_MQ below Qc XC args s mc ms free) (entryFrame m args maxL)) : vx_Met l y ws rm Pc Qc XC mc ms free := by
  refine MetFree.of_bodyS (code := cc) (maxLocals := maxL) (ret := ret) hy ?_ ?_
  · intro args s m h hn
    obtain ⟨m9, meth, c, hn9, h1, h2, h3, h4, -, h5, h6, -⟩ := Cond.codeWith_spec (atoms_spec (ws := ws) h _ (by rw [hw]; exact List.mem_cons_self))
    cases hn.symm.trans hn9
    exact ⟨meth, c, h1, h2, h3, h4, h5, h6⟩
  · intro p e s m args below meth c s₁ B hml hP _
    have hh0 : s₁.heap = s.heap := by rw [B.state]; rfl
    obtain ⟨t, a1, o, b1, b2, b3⟩ := body p e s m args below meth c s₁ B hml hP s₁ hh0 (Stand.of_body B)
    exact ⟨t, o, a1, b1, b2, b3⟩
/-! ===== END ===== -/
end
section
noncomputable section
/-! ===== BEGIN printed: names, fields, word lists, decode rows ===== -/
def RX0 : String := "MapRevisions$Content"
def TX0 : u_T := fun k => match k with
  | 0 => ("MapRevisions$Content", "there", "Z", true)
  | 1 => ("MapRevisions$Content", "x", "I", true)
  | 2 => ("MapRevisions$Content", "y", "I", true)
  | _ => ("MapRevisions$Content", "members", "[I", true)
def tyX0 : Nat → FieldType := fun k => match k with
  | 0 => .boolean
  | 1 => .int
  | 2 => .int
  | _ => .array .int
abbrev wsX00 : List Cond := u_ws RX0 TX0 4
theorem nmX0 : ∀ a, a < 4 → ∀ b, b < 4 → a ≠ b → (TX0 a).2.1 ≠ (TX0 b).2.1 := by decide +kernel
theorem tyX0_ok : ∀ k, k < 4 → parseFieldDescriptor (TX0 k).2.2.1 = some (tyX0 k) := by decide +kernel
abbrev cX0_init : ByteArray := prog_2_method_1_code
def yX0_init : MethodName := ⟨RX0, "<init>", "(ZII[I)V"⟩
def RX1 : String := "MapRevisions$Thing"
def TX1 : u_T := fun k => match k with
  | 0 => ("MapRevisions$Thing", "kind", "I", true)
  | _ => ("MapRevisions$Thing", "last", "LMapRevisions$Version;", false)
def tyX1 : Nat → FieldType := fun k => match k with
  | 0 => .int
  | _ => .object "MapRevisions$Version"
abbrev wsX10 : List Cond := u_ws RX1 TX1 2
theorem nmX1 : ∀ a, a < 2 → ∀ b, b < 2 → a ≠ b → (TX1 a).2.1 ≠ (TX1 b).2.1 := by decide +kernel
theorem tyX1_ok : ∀ k, k < 2 → parseFieldDescriptor (TX1 k).2.2.1 = some (tyX1 k) := by decide +kernel
abbrev cX1_init : ByteArray := prog_3_method_1_code
def yX1_init : MethodName := ⟨RX1, "<init>", "(ILMapRevisions$Version;)V"⟩
def RX2 : String := "MapRevisions$Version"
def TX2 : u_T := fun k => match k with
  | 0 => ("MapRevisions$Version", "before", "LMapRevisions$Version;", true)
  | 1 => ("MapRevisions$Version", "number", "I", true)
  | 2 => ("MapRevisions$Version", "set", "I", true)
  | 3 => ("MapRevisions$Version", "minute", "I", true)
  | 4 => ("MapRevisions$Version", "content", "LMapRevisions$Content;", true)
  | _ => ("MapRevisions$Version", "hidden", "Z", false)
def tyX2 : Nat → FieldType := fun k => match k with
  | 0 => .object "MapRevisions$Version"
  | 1 => .int
  | 2 => .int
  | 3 => .int
  | 4 => .object "MapRevisions$Content"
  | _ => .boolean
abbrev wsX20 : List Cond := u_ws RX2 TX2 6
theorem nmX2 : ∀ a, a < 6 → ∀ b, b < 6 → a ≠ b → (TX2 a).2.1 ≠ (TX2 b).2.1 := by decide +kernel
theorem tyX2_ok : ∀ k, k < 6 → parseFieldDescriptor (TX2 k).2.2.1 = some (tyX2 k) := by decide +kernel
abbrev cX2_init : ByteArray := prog_4_method_1_code
def yX2_init : MethodName := ⟨RX2, "<init>", "(LMapRevisions$Version;IILMapRevisions$Content;)V"⟩
def RX3 : String := "MapRevisions"
def TX3 : u_T := fun k => match k with
  | 0 => ("MapRevisions", "none", "[I", true)
  | 1 => ("MapRevisions", "gone", "LMapRevisions$Content;", true)
  | 2 => ("MapRevisions", "all", "Ljava/util/ArrayList;", true)
  | 3 => ("MapRevisions", "closed", "[Z", true)
  | 4 => ("MapRevisions", "versionsOf", "[I", true)
  | 5 => ("MapRevisions", "draft", "[I", true)
  | 6 => ("MapRevisions", "sets", "I", false)
  | 7 => ("MapRevisions", "drafted", "I", false)
  | 8 => ("MapRevisions", "versions", "I", false)
  | 9 => ("MapRevisions", "now", "I", false)
  | _ => ("MapRevisions", "copyMinute", "I", false)
def tyX3 : Nat → FieldType := fun k => match k with
  | 0 => .array .int
  | 1 => .object "MapRevisions$Content"
  | 2 => .object "java/util/ArrayList"
  | 3 => .array .boolean
  | 4 => .array .int
  | 5 => .array .int
  | 6 => .int
  | 7 => .int
  | 8 => .int
  | 9 => .int
  | _ => .int
abbrev wsX30 : List Cond := u_ws RX3 TX3 11
theorem nmX3 : ∀ a, a < 11 → ∀ b, b < 11 → a ≠ b → (TX3 a).2.1 ≠ (TX3 b).2.1 := by decide +kernel
theorem tyX3_ok : ∀ k, k < 11 → parseFieldDescriptor (TX3 k).2.2.1 = some (tyX3 k) := by decide +kernel
abbrev cX3_init : ByteArray := prog_1_method_1_code
def yX3_init : MethodName := ⟨RX3, "<init>", "()V"⟩
abbrev cX3_open : ByteArray := prog_1_method_2_code
def yX3_open : MethodName := ⟨RX3, "open", "()I"⟩
abbrev cX3_close : ByteArray := prog_1_method_3_code
def yX3_close : MethodName := ⟨RX3, "close", "(I)I"⟩
abbrev cX3_refer : ByteArray := prog_1_method_4_code
def yX3_refer : MethodName := ⟨RX3, "refer", "(I)I"⟩
abbrev cX3_wipe : ByteArray := prog_1_method_5_code
def yX3_wipe : MethodName := ⟨RX3, "wipe", "()I"⟩
abbrev cX3_point : ByteArray := prog_1_method_6_code
def yX3_point : MethodName := ⟨RX3, "point", "(III)I"⟩
abbrev cX3_make : ByteArray := prog_1_method_7_code
def yX3_make : MethodName := ⟨RX3, "make", "(II)I"⟩
abbrev cX3_move : ByteArray := prog_1_method_8_code
def yX3_move : MethodName := ⟨RX3, "move", "(IIIII)I"⟩
abbrev cX3_change : ByteArray := prog_1_method_9_code
def yX3_change : MethodName := ⟨RX3, "change", "(III)I"⟩
abbrev cX3_delete : ByteArray := prog_1_method_10_code
def yX3_delete : MethodName := ⟨RX3, "delete", "(III)I"⟩
abbrev cX3_undo : ByteArray := prog_1_method_11_code
def yX3_undo : MethodName := ⟨RX3, "undo", "(II)I"⟩
abbrev cX3_things : ByteArray := prog_1_method_12_code
def yX3_things : MethodName := ⟨RX3, "things", "()I"⟩
abbrev cX3_latest : ByteArray := prog_1_method_13_code
def yX3_latest : MethodName := ⟨RX3, "latest", "(I)I"⟩
abbrev cX3_isThere : ByteArray := prog_1_method_14_code
def yX3_isThere : MethodName := ⟨RX3, "isThere", "(I)Z"⟩
abbrev cX3_whereIs : ByteArray := prog_1_method_15_code
def yX3_whereIs : MethodName := ⟨RX3, "whereIs", "(I)I"⟩
abbrev cX3_members : ByteArray := prog_1_method_16_code
def yX3_members : MethodName := ⟨RX3, "members", "(I)I"⟩
abbrev cX3_usedBy : ByteArray := prog_1_method_17_code
def yX3_usedBy : MethodName := ⟨RX3, "usedBy", "(I)I"⟩
abbrev cX3_hide : ByteArray := prog_1_method_18_code
def yX3_hide : MethodName := ⟨RX3, "hide", "(II)I"⟩
abbrev cX3_setOf : ByteArray := prog_1_method_19_code
def yX3_setOf : MethodName := ⟨RX3, "setOf", "(II)I"⟩
abbrev cX3_versionAt : ByteArray := prog_1_method_20_code
def yX3_versionAt : MethodName := ⟨RX3, "versionAt", "(II)I"⟩
abbrev cX3_inBox : ByteArray := prog_1_method_21_code
def yX3_inBox : MethodName := ⟨RX3, "inBox", "(IIIII)I"⟩
abbrev cX3_pass : ByteArray := prog_1_method_22_code
def yX3_pass : MethodName := ⟨RX3, "pass", "(I)I"⟩
abbrev cX3_take : ByteArray := prog_1_method_23_code
def yX3_take : MethodName := ⟨RX3, "take", "(I)I"⟩
abbrev cX3_inCopy : ByteArray := prog_1_method_24_code
def yX3_inCopy : MethodName := ⟨RX3, "inCopy", "(I)I"⟩
abbrev cX3_isTrue : ByteArray := prog_1_method_25_code
def yX3_isTrue : MethodName := ⟨RX3, "isTrue", "()Z"⟩
abbrev cX3_needSet : ByteArray := prog_1_method_26_code
def yX3_needSet : MethodName := ⟨RX3, "needSet", "(I)V"⟩
abbrev cX3_needThing : ByteArray := prog_1_method_27_code
def yX3_needThing : MethodName := ⟨RX3, "needThing", "(I)V"⟩
abbrev cX3_needVersion : ByteArray := prog_1_method_28_code
def yX3_needVersion : MethodName := ⟨RX3, "needVersion", "(II)LMapRevisions$Version;"⟩
abbrev cX3_needPlace : ByteArray := prog_1_method_29_code
def yX3_needPlace : MethodName := ⟨RX3, "needPlace", "(II)V"⟩
abbrev cX3_needMinutes : ByteArray := prog_1_method_30_code
def yX3_needMinutes : MethodName := ⟨RX3, "needMinutes", "(I)V"⟩
abbrev cX3_needOpen : ByteArray := prog_1_method_31_code
def yX3_needOpen : MethodName := ⟨RX3, "needOpen", "(I)V"⟩
abbrev cX3_needRoomForThing : ByteArray := prog_1_method_32_code
def yX3_needRoomForThing : MethodName := ⟨RX3, "needRoomForThing", "()V"⟩
abbrev cX3_contentOfPoint : ByteArray := prog_1_method_33_code
def yX3_contentOfPoint : MethodName := ⟨RX3, "contentOfPoint", "(II)LMapRevisions$Content;"⟩
abbrev cX3_contentOfDraft : ByteArray := prog_1_method_34_code
def yX3_contentOfDraft : MethodName := ⟨RX3, "contentOfDraft", "()LMapRevisions$Content;"⟩
abbrev cX3_addThing : ByteArray := prog_1_method_35_code
def yX3_addThing : MethodName := ⟨RX3, "addThing", "(IILMapRevisions$Content;)I"⟩
abbrev cX3_addVersion : ByteArray := prog_1_method_36_code
def yX3_addVersion : MethodName := ⟨RX3, "addVersion", "(ILMapRevisions$Thing;LMapRevisions$Content;)I"⟩
abbrev cX3_newVersion : ByteArray := prog_1_method_37_code
def yX3_newVersion : MethodName := ⟨RX3, "newVersion", "(LMapRevisions$Version;ILMapRevisions$Content;)LMapRevisions$Version;"⟩
abbrev cX3_edit : ByteArray := prog_1_method_38_code
def yX3_edit : MethodName := ⟨RX3, "edit", "(IIILMapRevisions$Content;)I"⟩
abbrev cX3_refusalOf : ByteArray := prog_1_method_39_code
def yX3_refusalOf : MethodName := ⟨RX3, "refusalOf", "(ILMapRevisions$Content;)I"⟩
abbrev cX3_isRowFor : ByteArray := prog_1_method_40_code
def yX3_isRowFor : MethodName := ⟨RX3, "isRowFor", "(I[I)Z"⟩
abbrev cX3_leadsTo : ByteArray := prog_1_method_41_code
def yX3_leadsTo : MethodName := ⟨RX3, "leadsTo", "([II)Z"⟩
abbrev cX3_hasVersionOf : ByteArray := prog_1_method_42_code
def yX3_hasVersionOf : MethodName := ⟨RX3, "hasVersionOf", "(II)Z"⟩
abbrev cX3_undoThing : ByteArray := prog_1_method_43_code
def yX3_undoThing : MethodName := ⟨RX3, "undoThing", "(III)Z"⟩
abbrev cX3_contentAheadOf : ByteArray := prog_1_method_44_code
def yX3_contentAheadOf : MethodName := ⟨RX3, "contentAheadOf", "(LMapRevisions$Version;I)LMapRevisions$Content;"⟩
abbrev cX3_isKnown : ByteArray := prog_1_method_45_code
def yX3_isKnown : MethodName := ⟨RX3, "isKnown", "(I)Z"⟩
abbrev cX3_isNow : ByteArray := prog_1_method_46_code
def yX3_isNow : MethodName := ⟨RX3, "isNow", "(I)Z"⟩
abbrev cX3_lastMadeBefore : ByteArray := prog_1_method_47_code
def yX3_lastMadeBefore : MethodName := ⟨RX3, "lastMadeBefore", "(II)I"⟩
abbrev cX3_countShown : ByteArray := prog_1_method_48_code
def yX3_countShown : MethodName := ⟨RX3, "countShown", "(I)I"⟩
abbrev cX3_bit : ByteArray := prog_1_method_49_code
def yX3_bit : MethodName := ⟨RX3, "bit", "(I)J"⟩
abbrev cX3_has : ByteArray := prog_1_method_50_code
def yX3_has : MethodName := ⟨RX3, "has", "(JI)Z"⟩
abbrev cX3_bitsOf : ByteArray := prog_1_method_51_code
def yX3_bitsOf : MethodName := ⟨RX3, "bitsOf", "([I)J"⟩
abbrev cX3_thingsOf : ByteArray := prog_1_method_52_code
def yX3_thingsOf : MethodName := ⟨RX3, "thingsOf", "(I)J"⟩
abbrev cX3_usersOf : ByteArray := prog_1_method_53_code
def yX3_usersOf : MethodName := ⟨RX3, "usersOf", "(J)J"⟩
abbrev cX3_membersOf : ByteArray := prog_1_method_54_code
def yX3_membersOf : MethodName := ⟨RX3, "membersOf", "(J)J"⟩
abbrev cX3_pointsWithin : ByteArray := prog_1_method_55_code
def yX3_pointsWithin : MethodName := ⟨RX3, "pointsWithin", "(IIII)J"⟩
def RX4 : String := "MapRevisionsModel"
def TX4 : u_T := fun k => match k with
  | 0 => ("MapRevisionsModel", "minute", "I", false)
  | 1 => ("MapRevisionsModel", "copied", "I", false)
  | 2 => ("MapRevisionsModel", "sets", "I", false)
  | 3 => ("MapRevisionsModel", "closed", "[Z", true)
  | 4 => ("MapRevisionsModel", "drafted", "I", false)
  | 5 => ("MapRevisionsModel", "draft", "[I", true)
  | 6 => ("MapRevisionsModel", "things", "I", false)
  | 7 => ("MapRevisionsModel", "kind", "[I", true)
  | 8 => ("MapRevisionsModel", "last", "[I", true)
  | 9 => ("MapRevisionsModel", "many", "[I", true)
  | 10 => ("MapRevisionsModel", "versions", "I", false)
  | 11 => ("MapRevisionsModel", "of", "[I", true)
  | 12 => ("MapRevisionsModel", "number", "[I", true)
  | 13 => ("MapRevisionsModel", "ahead", "[I", true)
  | 14 => ("MapRevisionsModel", "set", "[I", true)
  | 15 => ("MapRevisionsModel", "made", "[I", true)
  | 16 => ("MapRevisionsModel", "there", "[Z", true)
  | 17 => ("MapRevisionsModel", "hidden", "[Z", true)
  | 18 => ("MapRevisionsModel", "where", "[I", true)
  | 19 => ("MapRevisionsModel", "size", "[I", true)
  | 20 => ("MapRevisionsModel", "member", "[I", true)
  | 21 => ("MapRevisionsModel", "marked", "[Z", true)
  | 22 => ("MapRevisionsModel", "drawn", "[Z", true)
  | 23 => ("MapRevisionsModel", "asked", "I", false)
  | 24 => ("MapRevisionsModel", "asks", "[I", true)
  | _ => ("MapRevisionsModel", "thrown", "I", false)
def tyX4 : Nat → FieldType := fun k => match k with
  | 0 => .int
  | 1 => .int
  | 2 => .int
  | 3 => .array .boolean
  | 4 => .int
  | 5 => .array .int
  | 6 => .int
  | 7 => .array .int
  | 8 => .array .int
  | 9 => .array .int
  | 10 => .int
  | 11 => .array .int
  | 12 => .array .int
  | 13 => .array .int
  | 14 => .array .int
  | 15 => .array .int
  | 16 => .array .boolean
  | 17 => .array .boolean
  | 18 => .array .int
  | 19 => .array .int
  | 20 => .array .int
  | 21 => .array .boolean
  | 22 => .array .boolean
  | 23 => .int
  | 24 => .array .int
  | _ => .int
abbrev wsX40 : List Cond := u_ws RX4 TX4 26
theorem nmX4 : ∀ a, a < 26 → ∀ b, b < 26 → a ≠ b → (TX4 a).2.1 ≠ (TX4 b).2.1 := by decide +kernel
theorem tyX4_ok : ∀ k, k < 26 → parseFieldDescriptor (TX4 k).2.2.1 = some (tyX4 k) := by decide +kernel
abbrev cX4_init : ByteArray := prog_6_method_1_code
def yX4_init : MethodName := ⟨RX4, "<init>", "()V"⟩
abbrev cX4_thrown : ByteArray := prog_6_method_2_code
def yX4_thrown : MethodName := ⟨RX4, "thrown", "()I"⟩
abbrev cX4_in : ByteArray := prog_6_method_3_code
def yX4_in : MethodName := ⟨RX4, "in", "(III)Z"⟩
abbrev cX4_goes : ByteArray := prog_6_method_4_code
def yX4_goes : MethodName := ⟨RX4, "goes", "(ZZZ)Z"⟩
abbrev cX4_told : ByteArray := prog_6_method_5_code
def yX4_told : MethodName := ⟨RX4, "told", "(I)I"⟩
abbrev cX4_isThing : ByteArray := prog_6_method_6_code
def yX4_isThing : MethodName := ⟨RX4, "isThing", "(I)Z"⟩
abbrev cX4_isSet : ByteArray := prog_6_method_7_code
def yX4_isSet : MethodName := ⟨RX4, "isSet", "(I)Z"⟩
abbrev cX4_is : ByteArray := prog_6_method_8_code
def yX4_is : MethodName := ⟨RX4, "is", "(I)Z"⟩
abbrev cX4_open : ByteArray := prog_6_method_9_code
def yX4_open : MethodName := ⟨RX4, "open", "()I"⟩
abbrev cX4_close : ByteArray := prog_6_method_10_code
def yX4_close : MethodName := ⟨RX4, "close", "(I)I"⟩
abbrev cX4_refer : ByteArray := prog_6_method_11_code
def yX4_refer : MethodName := ⟨RX4, "refer", "(I)I"⟩
abbrev cX4_wipe : ByteArray := prog_6_method_12_code
def yX4_wipe : MethodName := ⟨RX4, "wipe", "()I"⟩
abbrev cX4_asksDraft : ByteArray := prog_6_method_13_code
def yX4_asksDraft : MethodName := ⟨RX4, "asksDraft", "()V"⟩
abbrev cX4_asksVersion : ByteArray := prog_6_method_14_code
def yX4_asksVersion : MethodName := ⟨RX4, "asksVersion", "(I)V"⟩
abbrev cX4_isUnlike : ByteArray := prog_6_method_15_code
def yX4_isUnlike : MethodName := ⟨RX4, "isUnlike", "(I)Z"⟩
abbrev cX4_hasMember : ByteArray := prog_6_method_16_code
def yX4_hasMember : MethodName := ⟨RX4, "hasMember", "(II)Z"⟩
abbrev cX4_isRing : ByteArray := prog_6_method_17_code
def yX4_isRing : MethodName := ⟨RX4, "isRing", "(I)Z"⟩
abbrev cX4_users : ByteArray := prog_6_method_18_code
def yX4_users : MethodName := ⟨RX4, "users", "(I)I"⟩
abbrev cX4_makes : ByteArray := prog_6_method_19_code
def yX4_makes : MethodName := ⟨RX4, "makes", "(IIZI)I"⟩
abbrev cX4_isOpen : ByteArray := prog_6_method_20_code
def yX4_isOpen : MethodName := ⟨RX4, "isOpen", "(I)Z"⟩
abbrev cX4_point : ByteArray := prog_6_method_21_code
def yX4_point : MethodName := ⟨RX4, "point", "(III)I"⟩
abbrev cX4_make : ByteArray := prog_6_method_22_code
def yX4_make : MethodName := ⟨RX4, "make", "(II)I"⟩
abbrev cX4_move : ByteArray := prog_6_method_23_code
def yX4_move : MethodName := ⟨RX4, "move", "(IIIII)I"⟩
abbrev cX4_change : ByteArray := prog_6_method_24_code
def yX4_change : MethodName := ⟨RX4, "change", "(III)I"⟩
abbrev cX4_delete : ByteArray := prog_6_method_25_code
def yX4_delete : MethodName := ⟨RX4, "delete", "(III)I"⟩
abbrev cX4_undoes : ByteArray := prog_6_method_26_code
def yX4_undoes : MethodName := ⟨RX4, "undoes", "(III)Z"⟩
abbrev cX4_hasOf : ByteArray := prog_6_method_27_code
def yX4_hasOf : MethodName := ⟨RX4, "hasOf", "(II)Z"⟩
abbrev cX4_undo : ByteArray := prog_6_method_28_code
def yX4_undo : MethodName := ⟨RX4, "undo", "(II)I"⟩
abbrev cX4_things : ByteArray := prog_6_method_29_code
def yX4_things : MethodName := ⟨RX4, "things", "()I"⟩
abbrev cX4_latest : ByteArray := prog_6_method_30_code
def yX4_latest : MethodName := ⟨RX4, "latest", "(I)I"⟩
abbrev cX4_isThere : ByteArray := prog_6_method_31_code
def yX4_isThere : MethodName := ⟨RX4, "isThere", "(I)Z"⟩
abbrev cX4_whereIs : ByteArray := prog_6_method_32_code
def yX4_whereIs : MethodName := ⟨RX4, "whereIs", "(I)I"⟩
abbrev cX4_members : ByteArray := prog_6_method_33_code
def yX4_members : MethodName := ⟨RX4, "members", "(I)I"⟩
abbrev cX4_usedBy : ByteArray := prog_6_method_34_code
def yX4_usedBy : MethodName := ⟨RX4, "usedBy", "(I)I"⟩
abbrev cX4_isVersion : ByteArray := prog_6_method_35_code
def yX4_isVersion : MethodName := ⟨RX4, "isVersion", "(II)Z"⟩
abbrev cX4_placeOf : ByteArray := prog_6_method_36_code
def yX4_placeOf : MethodName := ⟨RX4, "placeOf", "(II)I"⟩
abbrev cX4_hide : ByteArray := prog_6_method_37_code
def yX4_hide : MethodName := ⟨RX4, "hide", "(II)I"⟩
abbrev cX4_setOf : ByteArray := prog_6_method_38_code
def yX4_setOf : MethodName := ⟨RX4, "setOf", "(II)I"⟩
abbrev cX4_before : ByteArray := prog_6_method_39_code
def yX4_before : MethodName := ⟨RX4, "before", "(II)I"⟩
abbrev cX4_versionAt : ByteArray := prog_6_method_40_code
def yX4_versionAt : MethodName := ⟨RX4, "versionAt", "(II)I"⟩
abbrev cX4_usesDrawn : ByteArray := prog_6_method_41_code
def yX4_usesDrawn : MethodName := ⟨RX4, "usesDrawn", "(III)Z"⟩
abbrev cX4_drawnOf : ByteArray := prog_6_method_42_code
def yX4_drawnOf : MethodName := ⟨RX4, "drawnOf", "(I)I"⟩
abbrev cX4_inBox : ByteArray := prog_6_method_43_code
def yX4_inBox : MethodName := ⟨RX4, "inBox", "(IIIII)I"⟩
abbrev cX4_pass : ByteArray := prog_6_method_44_code
def yX4_pass : MethodName := ⟨RX4, "pass", "(I)I"⟩
abbrev cX4_take : ByteArray := prog_6_method_45_code
def yX4_take : MethodName := ⟨RX4, "take", "(I)I"⟩
abbrev cX4_inCopy : ByteArray := prog_6_method_46_code
def yX4_inCopy : MethodName := ⟨RX4, "inCopy", "(I)I"⟩
abbrev cX4_isTrue : ByteArray := prog_6_method_47_code
def yX4_isTrue : MethodName := ⟨RX4, "isTrue", "()Z"⟩
def RJx145de : String := "java/io/Serializable"
def TJx145de : u_T := fun k => match k with
  | _ => ("", "", "", false)
def tyJx145de : Nat → FieldType := fun k => match k with
  | _ => .int
abbrev wsJx145de0 : List Cond := u_ws RJx145de TJx145de 0
theorem nmJx145de : ∀ a, a < 0 → ∀ b, b < 0 → a ≠ b → (TJx145de a).2.1 ≠ (TJx145de b).2.1 := by decide +kernel
theorem tyJx145de_ok : ∀ k, k < 0 → parseFieldDescriptor (TJx145de k).2.2.1 = some (tyJx145de k) := by decide +kernel
def RJx8e188 : String := "java/lang/Cloneable"
def TJx8e188 : u_T := fun k => match k with
  | _ => ("", "", "", false)
def tyJx8e188 : Nat → FieldType := fun k => match k with
  | _ => .int
abbrev wsJx8e1880 : List Cond := u_ws RJx8e188 TJx8e188 0
theorem nmJx8e188 : ∀ a, a < 0 → ∀ b, b < 0 → a ≠ b → (TJx8e188 a).2.1 ≠ (TJx8e188 b).2.1 := by decide +kernel
theorem tyJx8e188_ok : ∀ k, k < 0 → parseFieldDescriptor (TJx8e188 k).2.2.1 = some (tyJx8e188 k) := by decide +kernel
def RJxab1ab : String := "java/lang/Iterable"
def TJxab1ab : u_T := fun k => match k with
  | _ => ("", "", "", false)
def tyJxab1ab : Nat → FieldType := fun k => match k with
  | _ => .int
abbrev wsJxab1ab0 : List Cond := u_ws RJxab1ab TJxab1ab 0
theorem nmJxab1ab : ∀ a, a < 0 → ∀ b, b < 0 → a ≠ b → (TJxab1ab a).2.1 ≠ (TJxab1ab b).2.1 := by decide +kernel
theorem tyJxab1ab_ok : ∀ k, k < 0 → parseFieldDescriptor (TJxab1ab k).2.2.1 = some (tyJxab1ab k) := by decide +kernel
def RJ13 : String := "java/lang/Long"
def TJ13 : u_T := fun k => match k with
  | _ => ("", "", "", false)
def tyJ13 : Nat → FieldType := fun k => match k with
  | _ => .int
abbrev wsJ130 : List Cond := u_ws RJ13 TJ13 0
theorem nmJ13 : ∀ a, a < 0 → ∀ b, b < 0 → a ≠ b → (TJ13 a).2.1 ≠ (TJ13 b).2.1 := by decide +kernel
theorem tyJ13_ok : ∀ k, k < 0 → parseFieldDescriptor (TJ13 k).2.2.1 = some (tyJ13 k) := by decide +kernel
abbrev cJ13_bitCount_95d88 : ByteArray := prog_14_method_50_code
def yJ13_bitCount_95d88 : MethodName := ⟨RJ13, "bitCount", "(J)I"⟩
def RJ9 : String := "java/lang/Math"
def TJ9 : u_T := fun k => match k with
  | _ => ("", "", "", false)
def tyJ9 : Nat → FieldType := fun k => match k with
  | _ => .int
abbrev wsJ90 : List Cond := u_ws RJ9 TJ9 0
theorem nmJ9 : ∀ a, a < 0 → ∀ b, b < 0 → a ≠ b → (TJ9 a).2.1 ≠ (TJ9 b).2.1 := by decide +kernel
theorem tyJ9_ok : ∀ k, k < 0 → parseFieldDescriptor (TJ9 k).2.2.1 = some (tyJ9 k) := by decide +kernel
abbrev cJ9_max_7cf53 : ByteArray := prog_15_method_65_code
def yJ9_max_7cf53 : MethodName := ⟨RJ9, "max", "(II)I"⟩
abbrev cJ9_min_7cf53 : ByteArray := prog_15_method_69_code
def yJ9_min_7cf53 : MethodName := ⟨RJ9, "min", "(II)I"⟩
def RJ0 : String := "java/lang/String"
def TJ0 : u_T := fun k => match k with
  | _ => ("", "", "", false)
def tyJ0 : Nat → FieldType := fun k => match k with
  | _ => .int
abbrev wsJ00 : List Cond := u_ws RJ0 TJ0 0
theorem nmJ0 : ∀ a, a < 0 → ∀ b, b < 0 → a ≠ b → (TJ0 a).2.1 ≠ (TJ0 b).2.1 := by decide +kernel
theorem tyJ0_ok : ∀ k, k < 0 → parseFieldDescriptor (TJ0 k).2.2.1 = some (tyJ0 k) := by decide +kernel
def RJ10 : String := "java/lang/System"
def TJ10 : u_T := fun k => match k with
  | _ => ("", "", "", false)
def tyJ10 : Nat → FieldType := fun k => match k with
  | _ => .int
abbrev wsJ100 : List Cond := u_ws RJ10 TJ10 0
theorem nmJ10 : ∀ a, a < 0 → ∀ b, b < 0 → a ≠ b → (TJ10 a).2.1 ≠ (TJ10 b).2.1 := by decide +kernel
theorem tyJ10_ok : ∀ k, k < 0 → parseFieldDescriptor (TJ10 k).2.2.1 = some (tyJ10 k) := by decide +kernel
def RJxa1e45 : String := "java/util/AbstractCollection"
def TJxa1e45 : u_T := fun k => match k with
  | _ => ("", "", "", false)
def tyJxa1e45 : Nat → FieldType := fun k => match k with
  | _ => .int
abbrev wsJxa1e450 : List Cond := u_ws RJxa1e45 TJxa1e45 0
theorem nmJxa1e45 : ∀ a, a < 0 → ∀ b, b < 0 → a ≠ b → (TJxa1e45 a).2.1 ≠ (TJxa1e45 b).2.1 := by decide +kernel
theorem tyJxa1e45_ok : ∀ k, k < 0 → parseFieldDescriptor (TJxa1e45 k).2.2.1 = some (tyJxa1e45 k) := by decide +kernel
abbrev cJxa1e45_init_da8c8 : ByteArray := prog_20_method_1_code
def yJxa1e45_init_da8c8 : MethodName := ⟨RJxa1e45, "<init>", "()V"⟩
def RJxc12de : String := "java/util/AbstractList"
def TJxc12de : u_T := fun k => match k with
  | _ => ("", "", "", false)
def tyJxc12de : Nat → FieldType := fun k => match k with
  | _ => .int
abbrev wsJxc12de0 : List Cond := u_ws RJxc12de TJxc12de 0
theorem nmJxc12de : ∀ a, a < 0 → ∀ b, b < 0 → a ≠ b → (TJxc12de a).2.1 ≠ (TJxc12de b).2.1 := by decide +kernel
theorem tyJxc12de_ok : ∀ k, k < 0 → parseFieldDescriptor (TJxc12de k).2.2.1 = some (tyJxc12de k) := by decide +kernel
abbrev cJxc12de_init_da8c8 : ByteArray := prog_21_method_1_code
def yJxc12de_init_da8c8 : MethodName := ⟨RJxc12de, "<init>", "()V"⟩
def RJx4a65c : String := "java/util/ArrayList"
def TJx4a65c : u_T := fun k => match k with
  | 0 => ("java/util/AbstractList", "modCount", "I", false)
  | 1 => ("java/util/ArrayList", "elementData", "[Ljava/lang/Object;", false)
  | _ => ("java/util/ArrayList", "size", "I", false)
def tyJx4a65c : Nat → FieldType := fun k => match k with
  | 0 => .int
  | 1 => .array (.object "java/lang/Object")
  | _ => .int
abbrev wsJx4a65c0 : List Cond := u_ws RJx4a65c TJx4a65c 3
theorem nmJx4a65c : ∀ a, a < 3 → ∀ b, b < 3 → a ≠ b → (TJx4a65c a).2.1 ≠ (TJx4a65c b).2.1 := by decide +kernel
theorem tyJx4a65c_ok : ∀ k, k < 3 → parseFieldDescriptor (TJx4a65c k).2.2.1 = some (tyJx4a65c k) := by decide +kernel
abbrev cJx4a65c_init_da8c8 : ByteArray := prog_22_method_2_code
def yJx4a65c_init_da8c8 : MethodName := ⟨RJx4a65c, "<init>", "()V"⟩
abbrev cJx4a65c_grow_92f84 : ByteArray := prog_22_method_6_code
def yJx4a65c_grow_92f84 : MethodName := ⟨RJx4a65c, "grow", "(I)[Ljava/lang/Object;"⟩
abbrev cJx4a65c_grow_d5877 : ByteArray := prog_22_method_7_code
def yJx4a65c_grow_d5877 : MethodName := ⟨RJx4a65c, "grow", "()[Ljava/lang/Object;"⟩
abbrev cJx4a65c_size_8abf5 : ByteArray := prog_22_method_8_code
def yJx4a65c_size_8abf5 : MethodName := ⟨RJx4a65c, "size", "()I"⟩
abbrev cJx4a65c_elementData_915e3 : ByteArray := prog_22_method_18_code
def yJx4a65c_elementData_915e3 : MethodName := ⟨RJx4a65c, "elementData", "(I)Ljava/lang/Object;"⟩
abbrev cJx4a65c_get_915e3 : ByteArray := prog_22_method_20_code
def yJx4a65c_get_915e3 : MethodName := ⟨RJx4a65c, "get", "(I)Ljava/lang/Object;"⟩
abbrev cJx4a65c_add_72be8 : ByteArray := prog_22_method_24_code
def yJx4a65c_add_72be8 : MethodName := ⟨RJx4a65c, "add", "(Ljava/lang/Object;[Ljava/lang/Object;I)V"⟩
abbrev cJx4a65c_add_9ea2d : ByteArray := prog_22_method_25_code
def yJx4a65c_add_9ea2d : MethodName := ⟨RJx4a65c, "add", "(Ljava/lang/Object;)Z"⟩
def RJ7 : String := "java/util/Arrays"
def TJ7 : u_T := fun k => match k with
  | _ => ("", "", "", false)
def tyJ7 : Nat → FieldType := fun k => match k with
  | _ => .int
abbrev wsJ70 : List Cond := u_ws RJ7 TJ7 0
theorem nmJ7 : ∀ a, a < 0 → ∀ b, b < 0 → a ≠ b → (TJ7 a).2.1 ≠ (TJ7 b).2.1 := by decide +kernel
theorem tyJ7_ok : ∀ k, k < 0 → parseFieldDescriptor (TJ7 k).2.2.1 = some (tyJ7 k) := by decide +kernel
abbrev cJ7_copyOf_1904c : ByteArray := prog_23_method_119_code
def yJ7_copyOf_1904c : MethodName := ⟨RJ7, "copyOf", "([Ljava/lang/Object;I)[Ljava/lang/Object;"⟩
abbrev cJ7_copyOf_6403c : ByteArray := prog_23_method_120_code
def yJ7_copyOf_6403c : MethodName := ⟨RJ7, "copyOf", "([Ljava/lang/Object;ILjava/lang/Class;)[Ljava/lang/Object;"⟩
abbrev cJ7_copyOf_59c91 : ByteArray := prog_23_method_123_code
def yJ7_copyOf_59c91 : MethodName := ⟨RJ7, "copyOf", "([II)[I"⟩
def RJx5ef63 : String := "java/util/Collection"
def TJx5ef63 : u_T := fun k => match k with
  | _ => ("", "", "", false)
def tyJx5ef63 : Nat → FieldType := fun k => match k with
  | _ => .int
abbrev wsJx5ef630 : List Cond := u_ws RJx5ef63 TJx5ef63 0
theorem nmJx5ef63 : ∀ a, a < 0 → ∀ b, b < 0 → a ≠ b → (TJx5ef63 a).2.1 ≠ (TJx5ef63 b).2.1 := by decide +kernel
theorem tyJx5ef63_ok : ∀ k, k < 0 → parseFieldDescriptor (TJx5ef63 k).2.2.1 = some (tyJx5ef63 k) := by decide +kernel
def RJxbd725 : String := "java/util/List"
def TJxbd725 : u_T := fun k => match k with
  | _ => ("", "", "", false)
def tyJxbd725 : Nat → FieldType := fun k => match k with
  | _ => .int
abbrev wsJxbd7250 : List Cond := u_ws RJxbd725 TJxbd725 0
theorem nmJxbd725 : ∀ a, a < 0 → ∀ b, b < 0 → a ≠ b → (TJxbd725 a).2.1 ≠ (TJxbd725 b).2.1 := by decide +kernel
theorem tyJxbd725_ok : ∀ k, k < 0 → parseFieldDescriptor (TJxbd725 k).2.2.1 = some (tyJxbd725 k) := by decide +kernel
def RJ15 : String := "java/util/Objects"
def TJ15 : u_T := fun k => match k with
  | _ => ("", "", "", false)
def tyJ15 : Nat → FieldType := fun k => match k with
  | _ => .int
abbrev wsJ150 : List Cond := u_ws RJ15 TJ15 0
theorem nmJ15 : ∀ a, a < 0 → ∀ b, b < 0 → a ≠ b → (TJ15 a).2.1 ≠ (TJ15 b).2.1 := by decide +kernel
theorem tyJ15_ok : ∀ k, k < 0 → parseFieldDescriptor (TJ15 k).2.2.1 = some (tyJ15 k) := by decide +kernel
abbrev cJ15_checkIndex_7cf53 : ByteArray := prog_27_method_17_code
def yJ15_checkIndex_7cf53 : MethodName := ⟨RJ15, "checkIndex", "(II)I"⟩
def RJxf0a74 : String := "java/util/RandomAccess"
def TJxf0a74 : u_T := fun k => match k with
  | _ => ("", "", "", false)
def tyJxf0a74 : Nat → FieldType := fun k => match k with
  | _ => .int
abbrev wsJxf0a740 : List Cond := u_ws RJxf0a74 TJxf0a74 0
theorem nmJxf0a74 : ∀ a, a < 0 → ∀ b, b < 0 → a ≠ b → (TJxf0a74 a).2.1 ≠ (TJxf0a74 b).2.1 := by decide +kernel
theorem tyJxf0a74_ok : ∀ k, k < 0 → parseFieldDescriptor (TJxf0a74 k).2.2.1 = some (tyJxf0a74 k) := by decide +kernel
def RJxa66e6 : String := "java/util/SequencedCollection"
def TJxa66e6 : u_T := fun k => match k with
  | _ => ("", "", "", false)
def tyJxa66e6 : Nat → FieldType := fun k => match k with
  | _ => .int
abbrev wsJxa66e60 : List Cond := u_ws RJxa66e6 TJxa66e6 0
theorem nmJxa66e6 : ∀ a, a < 0 → ∀ b, b < 0 → a ≠ b → (TJxa66e6 a).2.1 ≠ (TJxa66e6 b).2.1 := by decide +kernel
theorem tyJxa66e6_ok : ∀ k, k < 0 → parseFieldDescriptor (TJxa66e6 k).2.2.1 = some (tyJxa66e6 k) := by decide +kernel
def RJ8 : String := "jdk/internal/util/ArraysSupport"
def TJ8 : u_T := fun k => match k with
  | _ => ("", "", "", false)
def tyJ8 : Nat → FieldType := fun k => match k with
  | _ => .int
abbrev wsJ80 : List Cond := u_ws RJ8 TJ8 0
theorem nmJ8 : ∀ a, a < 0 → ∀ b, b < 0 → a ≠ b → (TJ8 a).2.1 ≠ (TJ8 b).2.1 := by decide +kernel
theorem tyJ8_ok : ∀ k, k < 0 → parseFieldDescriptor (TJ8 k).2.2.1 = some (tyJ8 k) := by decide +kernel
abbrev cJ8_newLength_cabcc : ByteArray := prog_30_method_27_code
def yJ8_newLength_cabcc : MethodName := ⟨RJ8, "newLength", "(III)I"⟩
abbrev cJ8_hugeLength_7cf53 : ByteArray := prog_30_method_28_code
def yJ8_hugeLength_7cf53 : MethodName := ⟨RJ8, "hugeLength", "(II)I"⟩
def RJ3 : String := "jdk/internal/util/Preconditions"
def TJ3 : u_T := fun k => match k with
  | _ => ("", "", "", false)
def tyJ3 : Nat → FieldType := fun k => match k with
  | _ => .int
abbrev wsJ30 : List Cond := u_ws RJ3 TJ3 0
theorem nmJ3 : ∀ a, a < 0 → ∀ b, b < 0 → a ≠ b → (TJ3 a).2.1 ≠ (TJ3 b).2.1 := by decide +kernel
theorem tyJ3_ok : ∀ k, k < 0 → parseFieldDescriptor (TJ3 k).2.2.1 = some (tyJ3 k) := by decide +kernel
abbrev cJ3_checkIndex_8e157 : ByteArray := prog_31_method_11_code
def yJ3_checkIndex_8e157 : MethodName := ⟨RJ3, "checkIndex", "(IILjava/util/function/BiFunction;)I"⟩
def RL : String := "MapRevisionsLaw"
abbrev cL_open : ByteArray := method_3_code
def yL_open : MethodName := ⟨RL, "open", "(LMapRevisions;[J)I"⟩
abbrev cL_close : ByteArray := method_4_code
def yL_close : MethodName := ⟨RL, "close", "(LMapRevisions;I[J)I"⟩
abbrev cL_refer : ByteArray := method_5_code
def yL_refer : MethodName := ⟨RL, "refer", "(LMapRevisions;I[J)I"⟩
abbrev cL_point : ByteArray := method_6_code
def yL_point : MethodName := ⟨RL, "point", "(LMapRevisions;III[J)I"⟩
abbrev cL_make : ByteArray := method_7_code
def yL_make : MethodName := ⟨RL, "make", "(LMapRevisions;II[J)I"⟩
abbrev cL_move : ByteArray := method_8_code
def yL_move : MethodName := ⟨RL, "move", "(LMapRevisions;IIIII[J)I"⟩
abbrev cL_change : ByteArray := method_9_code
def yL_change : MethodName := ⟨RL, "change", "(LMapRevisions;III[J)I"⟩
abbrev cL_delete : ByteArray := method_10_code
def yL_delete : MethodName := ⟨RL, "delete", "(LMapRevisions;III[J)I"⟩
abbrev cL_undo : ByteArray := method_11_code
def yL_undo : MethodName := ⟨RL, "undo", "(LMapRevisions;II[J)I"⟩
abbrev cL_latest : ByteArray := method_12_code
def yL_latest : MethodName := ⟨RL, "latest", "(LMapRevisions;I[J)I"⟩
abbrev cL_isThere : ByteArray := method_13_code
def yL_isThere : MethodName := ⟨RL, "isThere", "(LMapRevisions;I[J)I"⟩
abbrev cL_whereIs : ByteArray := method_14_code
def yL_whereIs : MethodName := ⟨RL, "whereIs", "(LMapRevisions;I[J)I"⟩
abbrev cL_members : ByteArray := method_15_code
def yL_members : MethodName := ⟨RL, "members", "(LMapRevisions;I[J)I"⟩
abbrev cL_usedBy : ByteArray := method_16_code
def yL_usedBy : MethodName := ⟨RL, "usedBy", "(LMapRevisions;I[J)I"⟩
abbrev cL_hide : ByteArray := method_17_code
def yL_hide : MethodName := ⟨RL, "hide", "(LMapRevisions;II[J)I"⟩
abbrev cL_setOf : ByteArray := method_18_code
def yL_setOf : MethodName := ⟨RL, "setOf", "(LMapRevisions;II[J)I"⟩
abbrev cL_versionAt : ByteArray := method_19_code
def yL_versionAt : MethodName := ⟨RL, "versionAt", "(LMapRevisions;II[J)I"⟩
abbrev cL_inBox : ByteArray := method_20_code
def yL_inBox : MethodName := ⟨RL, "inBox", "(LMapRevisions;IIIII[J)I"⟩
abbrev cL_pass : ByteArray := method_21_code
def yL_pass : MethodName := ⟨RL, "pass", "(LMapRevisions;I[J)I"⟩
abbrev cL_take : ByteArray := method_22_code
def yL_take : MethodName := ⟨RL, "take", "(LMapRevisions;I[J)I"⟩
abbrev cL_inCopy : ByteArray := method_23_code
def yL_inCopy : MethodName := ⟨RL, "inCopy", "(LMapRevisions;I[J)I"⟩
abbrev cL_law : ByteArray := code
def yL_law : MethodName := ⟨RL, "law", "([I)Z"⟩
end
end
section
noncomputable section
def wsX0_init : List Cond := .code yX0_init cX0_init 5 none :: ([.methodLink RX0 1 objectInit, .instanceMethod objectInit, .code objectInit ⟨#[0xb1]⟩ 1 none, .fieldLink RX0 7 "MapRevisions$Content" "there" "Z", .fieldLink RX0 13 "MapRevisions$Content" "x" "I", .fieldLink RX0 17 "MapRevisions$Content" "y" "I", .fieldLink RX0 20 "MapRevisions$Content" "members" "[I"] ++ wsX00)
def wsX1_init : List Cond := .code yX1_init cX1_init 3 none :: ([.methodLink RX1 1 objectInit, .instanceMethod objectInit, .code objectInit ⟨#[0xb1]⟩ 1 none, .fieldLink RX1 7 "MapRevisions$Thing" "kind" "I", .fieldLink RX1 13 "MapRevisions$Thing" "last" "LMapRevisions$Version;"] ++ wsX10)
def wsX2_init : List Cond := .code yX2_init cX2_init 5 none :: ([.methodLink RX2 1 objectInit, .instanceMethod objectInit, .code objectInit ⟨#[0xb1]⟩ 1 none, .fieldLink RX2 7 "MapRevisions$Version" "before" "LMapRevisions$Version;", .fieldLink RX2 13 "MapRevisions$Version" "number" "I", .fieldLink RX2 17 "MapRevisions$Version" "set" "I", .fieldLink RX2 20 "MapRevisions$Version" "minute" "I", .fieldLink RX2 23 "MapRevisions$Version" "content" "LMapRevisions$Content;", .fieldLink RX2 27 "MapRevisions$Version" "hidden" "Z"] ++ wsX20)
def wsJxa1e45_init_da8c8 : List Cond := .code yJxa1e45_init_da8c8 cJxa1e45_init_da8c8 1 none :: ([.methodLink RJxa1e45 1 objectInit, .instanceMethod objectInit, .code objectInit ⟨#[0xb1]⟩ 1 none])
def wsJxc12de_init_da8c8 : List Cond := .code yJxc12de_init_da8c8 cJxc12de_init_da8c8 1 none :: ([.fieldLink RJxc12de 7 "java/util/AbstractList" "modCount" "I", .methodLink RJxc12de 1 yJxa1e45_init_da8c8, .instanceMethod yJxa1e45_init_da8c8, .initialized RJxa1e45, .code yJxa1e45_init_da8c8 cJxa1e45_init_da8c8 1 none, .methodLink RJxa1e45 1 objectInit, .instanceMethod objectInit, .code objectInit ⟨#[0xb1]⟩ 1 none] ++ wsJx4a65c0)
def wsJx4a65c_init_da8c8 : List Cond := .code yJx4a65c_init_da8c8 cJx4a65c_init_da8c8 1 none :: ([.fieldLink RJx4a65c 39 "java/util/ArrayList" "DEFAULTCAPACITY_EMPTY_ELEMENTDATA" "[Ljava/lang/Object;", .fieldLink RJx4a65c 9 "java/util/ArrayList" "elementData" "[Ljava/lang/Object;", .methodLink RJx4a65c 1 yJxc12de_init_da8c8, .instanceMethod yJxc12de_init_da8c8, .initialized RJxc12de, .code yJxc12de_init_da8c8 cJxc12de_init_da8c8 1 none, .fieldLink RJxc12de 7 "java/util/AbstractList" "modCount" "I", .methodLink RJxc12de 1 yJxa1e45_init_da8c8, .instanceMethod yJxa1e45_init_da8c8, .initialized RJxa1e45, .code yJxa1e45_init_da8c8 cJxa1e45_init_da8c8 1 none, .methodLink RJxa1e45 1 objectInit, .instanceMethod objectInit, .code objectInit ⟨#[0xb1]⟩ 1 none] ++ wsJx4a65c0)
def wsX3_init_r1 : List Cond := [Cond.methodLink RX3 1 objectInit, Cond.instanceMethod objectInit, Cond.code objectInit ⟨#[0xb1]⟩ 1 none, Cond.arrayClass .int, Cond.fieldLink RX3 7 "MapRevisions" "none" "[I", Cond.classLink RX3 13 RX0, Cond.instantiable RX0 4, Cond.initialized RX0, Cond.fieldLink RX3 18 "MapRevisions" "gone" "LMapRevisions$Content;", Cond.classLink RX3 22 RJx4a65c, Cond.instantiable RJx4a65c 3, Cond.initialized RJx4a65c, Cond.fieldLink RX3 25 "MapRevisions" "all" "Ljava/util/ArrayList;", Cond.arrayClass .boolean, Cond.fieldLink RX3 29 "MapRevisions" "closed" "[Z", Cond.fieldLink RX3 33 "MapRevisions" "versionsOf" "[I", Cond.fieldLink RX3 36 "MapRevisions" "draft" "[I", Cond.fieldLink RX3 39 "MapRevisions" "sets" "I", Cond.fieldLink RX3 43 "MapRevisions" "drafted" "I", Cond.fieldLink RX3 46 "MapRevisions" "versions" "I", Cond.fieldLink RX3 49 "MapRevisions" "now" "I", Cond.fieldLink RX3 52 "MapRevisions" "copyMinute" "I", Cond.methodLink RX3 15 yX0_init, Cond.instanceMethod yX0_init]
def wsX3_init_r2 : List Cond := [Cond.code yX0_init cX0_init 5 none, Cond.methodLink RX0 1 objectInit, Cond.fieldLink RX0 7 "MapRevisions$Content" "there" "Z", Cond.fieldLink RX0 13 "MapRevisions$Content" "x" "I", Cond.fieldLink RX0 17 "MapRevisions$Content" "y" "I", Cond.fieldLink RX0 20 "MapRevisions$Content" "members" "[I", Cond.methodLink RX3 24 yJx4a65c_init_da8c8, Cond.instanceMethod yJx4a65c_init_da8c8, Cond.code yJx4a65c_init_da8c8 cJx4a65c_init_da8c8 1 none, Cond.fieldLink RJx4a65c 39 "java/util/ArrayList" "DEFAULTCAPACITY_EMPTY_ELEMENTDATA" "[Ljava/lang/Object;", Cond.fieldLink RJx4a65c 9 "java/util/ArrayList" "elementData" "[Ljava/lang/Object;", Cond.methodLink RJx4a65c 1 yJxc12de_init_da8c8, Cond.instanceMethod yJxc12de_init_da8c8, Cond.initialized RJxc12de, Cond.code yJxc12de_init_da8c8 cJxc12de_init_da8c8 1 none, Cond.fieldLink RJxc12de 7 "java/util/AbstractList" "modCount" "I", Cond.methodLink RJxc12de 1 yJxa1e45_init_da8c8, Cond.instanceMethod yJxa1e45_init_da8c8, Cond.initialized RJxa1e45, Cond.code yJxa1e45_init_da8c8 cJxa1e45_init_da8c8 1 none, Cond.methodLink RJxa1e45 1 objectInit]
def wsX3_init : List Cond := .code yX3_init cX3_init 1 none :: ((wsX3_init_r1 ++ wsX3_init_r2) ++ wsX30 ++ wsX00 ++ wsJx4a65c0)
def wsX3_open : List Cond := .code yX3_open cX3_open 1 (some .int) :: ([.classLink RX3 55 "java/lang/IllegalStateException", .initialized "java/lang/IllegalStateException", .fieldLink RX3 39 "MapRevisions" "sets" "I"] ++ wsX30 ++ (vx_atS RX3 59 "java/lang/IllegalStateException" ["java/lang/RuntimeException", "java/lang/Exception"]).filter goodWord)
def wsX3_needSet : List Cond := .code yX3_needSet cX3_needSet 2 none :: ([.classLink RX3 232 "java/lang/IndexOutOfBoundsException", .initialized "java/lang/IndexOutOfBoundsException", .fieldLink RX3 39 "MapRevisions" "sets" "I"] ++ wsX30 ++ (vx_atS RX3 236 "java/lang/IndexOutOfBoundsException" ["java/lang/RuntimeException", "java/lang/Exception"]).filter goodWord)
def wsX3_close : List Cond := .code yX3_close cX3_close 2 (some .int) :: ([.classLink RX3 55 "java/lang/IllegalStateException", .initialized "java/lang/IllegalStateException", .fieldLink RX3 29 "MapRevisions" "closed" "[Z", .fieldLink RX3 33 "MapRevisions" "versionsOf" "[I", .methodLink RX3 62 yX3_needSet, .instanceMethod yX3_needSet, .selects RX3 yX3_needSet yX3_needSet, .initialized RX3, .code yX3_needSet cX3_needSet 2 none, .classLink RX3 232 "java/lang/IndexOutOfBoundsException", .initialized "java/lang/IndexOutOfBoundsException", .fieldLink RX3 39 "MapRevisions" "sets" "I"] ++ wsX30 ++ (vx_atS RX3 59 "java/lang/IllegalStateException" ["java/lang/RuntimeException", "java/lang/Exception"]).filter goodWord ++ (vx_atS RX3 236 "java/lang/IndexOutOfBoundsException" ["java/lang/RuntimeException", "java/lang/Exception"]).filter goodWord)
def wsJx4a65c_size_8abf5 : List Cond := .code yJx4a65c_size_8abf5 cJx4a65c_size_8abf5 1 (some .int) :: ([.fieldLink RJx4a65c 48 "java/util/ArrayList" "size" "I"] ++ wsJx4a65c0)
def wsX3_isKnown : List Cond := .code yX3_isKnown cX3_isKnown 2 (some .boolean) :: ([.fieldLink RX3 25 "MapRevisions" "all" "Ljava/util/ArrayList;", .methodLink RX3 126 yJx4a65c_size_8abf5, .instanceMethod yJx4a65c_size_8abf5, .selects RJx4a65c yJx4a65c_size_8abf5 yJx4a65c_size_8abf5, .initialized RJx4a65c, .code yJx4a65c_size_8abf5 cJx4a65c_size_8abf5 1 (some .int), .fieldLink RJx4a65c 48 "java/util/ArrayList" "size" "I"] ++ wsX30 ++ wsJx4a65c0)
def wsX3_needThing : List Cond := .code yX3_needThing cX3_needThing 2 none :: ([.classLink RX3 232 "java/lang/IndexOutOfBoundsException", .initialized "java/lang/IndexOutOfBoundsException", .methodLink RX3 237 yX3_isKnown, .instanceMethod yX3_isKnown, .selects RX3 yX3_isKnown yX3_isKnown, .initialized RX3, .code yX3_isKnown cX3_isKnown 2 (some .boolean), .fieldLink RX3 25 "MapRevisions" "all" "Ljava/util/ArrayList;", .methodLink RX3 126 yJx4a65c_size_8abf5, .instanceMethod yJx4a65c_size_8abf5, .selects RJx4a65c yJx4a65c_size_8abf5 yJx4a65c_size_8abf5, .initialized RJx4a65c, .code yJx4a65c_size_8abf5 cJx4a65c_size_8abf5 1 (some .int), .fieldLink RJx4a65c 48 "java/util/ArrayList" "size" "I"] ++ wsX30 ++ wsJx4a65c0 ++ (vx_atS RX3 236 "java/lang/IndexOutOfBoundsException" ["java/lang/RuntimeException", "java/lang/Exception"]).filter goodWord)
def wsX3_refer : List Cond := .code yX3_refer cX3_refer 2 (some .int) :: ([.classLink RX3 55 "java/lang/IllegalStateException", .initialized "java/lang/IllegalStateException", .fieldLink RX3 43 "MapRevisions" "drafted" "I", .fieldLink RX3 36 "MapRevisions" "draft" "[I", .methodLink RX3 68 yX3_needThing, .instanceMethod yX3_needThing, .selects RX3 yX3_needThing yX3_needThing, .initialized RX3, .code yX3_needThing cX3_needThing 2 none, .classLink RX3 232 "java/lang/IndexOutOfBoundsException", .initialized "java/lang/IndexOutOfBoundsException", .methodLink RX3 237 yX3_isKnown, .instanceMethod yX3_isKnown, .selects RX3 yX3_isKnown yX3_isKnown, .code yX3_isKnown cX3_isKnown 2 (some .boolean), .fieldLink RX3 25 "MapRevisions" "all" "Ljava/util/ArrayList;", .methodLink RX3 126 yJx4a65c_size_8abf5, .instanceMethod yJx4a65c_size_8abf5, .selects RJx4a65c yJx4a65c_size_8abf5 yJx4a65c_size_8abf5, .initialized RJx4a65c, .code yJx4a65c_size_8abf5 cJx4a65c_size_8abf5 1 (some .int), .fieldLink RJx4a65c 48 "java/util/ArrayList" "size" "I"] ++ wsX30 ++ wsJx4a65c0 ++ (vx_atS RX3 59 "java/lang/IllegalStateException" ["java/lang/RuntimeException", "java/lang/Exception"]).filter goodWord ++ (vx_atS RX3 236 "java/lang/IndexOutOfBoundsException" ["java/lang/RuntimeException", "java/lang/Exception"]).filter goodWord)
def wsX3_wipe : List Cond := .code yX3_wipe cX3_wipe 2 (some .int) :: ([.fieldLink RX3 43 "MapRevisions" "drafted" "I"] ++ wsX30)
def wsX3_needPlace : List Cond := .code yX3_needPlace cX3_needPlace 3 none :: ([.classLink RX3 91 "java/lang/IllegalArgumentException", .initialized "java/lang/IllegalArgumentException"] ++ (vx_atS RX3 95 "java/lang/IllegalArgumentException" ["java/lang/RuntimeException", "java/lang/Exception"]).filter goodWord)
def wsX3_needOpen : List Cond := .code yX3_needOpen cX3_needOpen 2 none :: ([.classLink RX3 55 "java/lang/IllegalStateException", .initialized "java/lang/IllegalStateException", .fieldLink RX3 29 "MapRevisions" "closed" "[Z", .fieldLink RX3 46 "MapRevisions" "versions" "I"] ++ wsX30 ++ (vx_atS RX3 59 "java/lang/IllegalStateException" ["java/lang/RuntimeException", "java/lang/Exception"]).filter goodWord)
def wsX3_needRoomForThing : List Cond := .code yX3_needRoomForThing cX3_needRoomForThing 1 none :: ([.classLink RX3 55 "java/lang/IllegalStateException", .initialized "java/lang/IllegalStateException", .fieldLink RX3 25 "MapRevisions" "all" "Ljava/util/ArrayList;", .methodLink RX3 126 yJx4a65c_size_8abf5, .instanceMethod yJx4a65c_size_8abf5, .selects RJx4a65c yJx4a65c_size_8abf5 yJx4a65c_size_8abf5, .initialized RJx4a65c, .code yJx4a65c_size_8abf5 cJx4a65c_size_8abf5 1 (some .int), .fieldLink RJx4a65c 48 "java/util/ArrayList" "size" "I"] ++ wsX30 ++ wsJx4a65c0 ++ (vx_atS RX3 59 "java/lang/IllegalStateException" ["java/lang/RuntimeException", "java/lang/Exception"]).filter goodWord)
def wsX3_contentOfPoint : List Cond := .code yX3_contentOfPoint cX3_contentOfPoint 3 (some (.object "MapRevisions$Content")) :: ([.classLink RX3 13 RX0, .instantiable RX0 4, .initialized RX0, .fieldLink RX3 7 "MapRevisions" "none" "[I", .methodLink RX3 15 yX0_init, .instanceMethod yX0_init, .code yX0_init cX0_init 5 none, .methodLink RX0 1 objectInit, .instanceMethod objectInit, .code objectInit ⟨#[0xb1]⟩ 1 none, .fieldLink RX0 7 "MapRevisions$Content" "there" "Z", .fieldLink RX0 13 "MapRevisions$Content" "x" "I", .fieldLink RX0 17 "MapRevisions$Content" "y" "I", .fieldLink RX0 20 "MapRevisions$Content" "members" "[I"] ++ wsX00 ++ wsX30)
def wsX3_newVersion : List Cond := .code yX3_newVersion cX3_newVersion 4 (some (.object "MapRevisions$Version")) :: ([.fieldLink RX3 46 "MapRevisions" "versions" "I", .fieldLink RX3 33 "MapRevisions" "versionsOf" "[I", .classLink RX3 143 RX2, .instantiable RX2 6, .initialized RX2, .fieldLink RX3 49 "MapRevisions" "now" "I", .methodLink RX3 272 yX2_init, .instanceMethod yX2_init, .code yX2_init cX2_init 5 none, .methodLink RX2 1 objectInit, .instanceMethod objectInit, .code objectInit ⟨#[0xb1]⟩ 1 none, .fieldLink RX2 7 "MapRevisions$Version" "before" "LMapRevisions$Version;", .fieldLink RX2 13 "MapRevisions$Version" "number" "I", .fieldLink RX2 17 "MapRevisions$Version" "set" "I", .fieldLink RX2 20 "MapRevisions$Version" "minute" "I", .fieldLink RX2 23 "MapRevisions$Version" "content" "LMapRevisions$Content;", .fieldLink RX2 27 "MapRevisions$Version" "hidden" "Z"] ++ wsX30 ++ wsX20)
def wsJ8_hugeLength_7cf53 : List Cond := .code yJ8_hugeLength_7cf53 cJ8_hugeLength_7cf53 3 (some .int) :: ([.constant RJ8 200 (2147483639)])
def wsJ8_newLength_cabcc : List Cond := .code yJ8_newLength_cabcc cJ8_newLength_cabcc 4 (some .int) :: ([.methodLink RJ8 194 Lib.Math.max.name, .static Lib.Math.max.name, .initialized "java/lang/Math", .code Lib.Math.max.name Lib.Math.max.code 2 (some .int), .constant RJ8 200 (2147483639), .methodLink RJ8 201 yJ8_hugeLength_7cf53, .static yJ8_hugeLength_7cf53, .initialized RJ8, .code yJ8_hugeLength_7cf53 cJ8_hugeLength_7cf53 3 (some .int)])
def wsJ7_copyOf_6403c : List Cond := .code yJ7_copyOf_6403c cJ7_copyOf_6403c 4 (some (.array (.object "java/lang/Object"))) :: ([.classLink RJ7 110 "[Ljava/lang/Object;", .classLink RJ7 2 "java/lang/Object", .methodLink RJ7 304 Lib.Math.min.name, .static Lib.Math.min.name, .initialized "java/lang/Math", .code Lib.Math.min.name Lib.Math.min.code 2 (some .int), .methodLink RJ7 150 arraycopyName, .native arraycopyName, .static arraycopyName, .initialized "java/lang/System"])
def wsJ7_copyOf_1904c : List Cond := .code yJ7_copyOf_1904c cJ7_copyOf_1904c 2 (some (.array (.object "java/lang/Object"))) :: ([.methodLink RJ7 86 ⟨"java/lang/Object", "getClass", "()Ljava/lang/Class;"⟩, .selects "[Ljava/lang/Object;" ⟨"java/lang/Object", "getClass", "()Ljava/lang/Class;"⟩ ⟨"java/lang/Object", "getClass", "()Ljava/lang/Class;"⟩, .instanceMethod ⟨"java/lang/Object", "getClass", "()Ljava/lang/Class;"⟩, .native ⟨"java/lang/Object", "getClass", "()Ljava/lang/Class;"⟩, .methodLink RJ7 300 yJ7_copyOf_6403c, .static yJ7_copyOf_6403c, .initialized RJ7, .code yJ7_copyOf_6403c cJ7_copyOf_6403c 4 (some (.array (.object "java/lang/Object"))), .classLink RJ7 110 "[Ljava/lang/Object;", .classLink RJ7 2 "java/lang/Object", .methodLink RJ7 304 Lib.Math.min.name, .static Lib.Math.min.name, .initialized "java/lang/Math", .code Lib.Math.min.name Lib.Math.min.code 2 (some .int), .methodLink RJ7 150 arraycopyName, .native arraycopyName, .static arraycopyName, .initialized "java/lang/System"])
def wsJx4a65c_grow_92f84_r1 : List Cond := [Cond.fieldLink RJx4a65c 9 "java/util/ArrayList" "elementData" "[Ljava/lang/Object;", Cond.fieldLink RJx4a65c 39 "java/util/ArrayList" "DEFAULTCAPACITY_EMPTY_ELEMENTDATA" "[Ljava/lang/Object;", Cond.methodLink RJx4a65c 79 Lib.Math.max.name, Cond.static Lib.Math.max.name, Cond.initialized "java/lang/Math", Cond.code Lib.Math.max.name Lib.Math.max.code 2 (some .int), Cond.classLink RJx4a65c 7 "java/lang/Object", Cond.methodLink RJx4a65c 73 yJ8_newLength_cabcc, Cond.static yJ8_newLength_cabcc, Cond.initialized RJ8, Cond.code yJ8_newLength_cabcc cJ8_newLength_cabcc 4 (some .int), Cond.methodLink RJ8 194 Lib.Math.max.name, Cond.constant RJ8 200 (2147483639), Cond.methodLink RJ8 201 yJ8_hugeLength_7cf53, Cond.static yJ8_hugeLength_7cf53, Cond.code yJ8_hugeLength_7cf53 cJ8_hugeLength_7cf53 3 (some .int), Cond.methodLink RJx4a65c 66 yJ7_copyOf_1904c, Cond.static yJ7_copyOf_1904c, Cond.initialized RJ7, Cond.code yJ7_copyOf_1904c cJ7_copyOf_1904c 2 (some (.array (.object "java/lang/Object"))), Cond.methodLink RJ7 86 ⟨"java/lang/Object", "getClass", "()Ljava/lang/Class;"⟩, Cond.selects "[Ljava/lang/Object;" ⟨"java/lang/Object", "getClass", "()Ljava/lang/Class;"⟩ ⟨"java/lang/Object", "getClass", "()Ljava/lang/Class;"⟩, Cond.instanceMethod ⟨"java/lang/Object", "getClass", "()Ljava/lang/Class;"⟩, Cond.native ⟨"java/lang/Object", "getClass", "()Ljava/lang/Class;"⟩]
def wsJx4a65c_grow_92f84_r2 : List Cond := [Cond.methodLink RJ7 300 yJ7_copyOf_6403c, Cond.static yJ7_copyOf_6403c, Cond.code yJ7_copyOf_6403c cJ7_copyOf_6403c 4 (some (.array (.object "java/lang/Object"))), Cond.classLink RJ7 110 "[Ljava/lang/Object;", Cond.classLink RJ7 2 "java/lang/Object", Cond.methodLink RJ7 304 Lib.Math.min.name, Cond.static Lib.Math.min.name, Cond.code Lib.Math.min.name Lib.Math.min.code 2 (some .int), Cond.methodLink RJ7 150 arraycopyName, Cond.native arraycopyName, Cond.static arraycopyName, Cond.initialized "java/lang/System"]
def wsJx4a65c_grow_92f84 : List Cond := .code yJx4a65c_grow_92f84 cJx4a65c_grow_92f84 4 (some (.array (.object "java/lang/Object"))) :: ((wsJx4a65c_grow_92f84_r1 ++ wsJx4a65c_grow_92f84_r2) ++ wsJx4a65c0)
def wsJx4a65c_grow_d5877_r1 : List Cond := [Cond.fieldLink RJx4a65c 48 "java/util/ArrayList" "size" "I", Cond.methodLink RJx4a65c 69 yJx4a65c_grow_92f84, Cond.instanceMethod yJx4a65c_grow_92f84, Cond.selects RJx4a65c yJx4a65c_grow_92f84 yJx4a65c_grow_92f84, Cond.initialized RJx4a65c, Cond.code yJx4a65c_grow_92f84 cJx4a65c_grow_92f84 4 (some (.array (.object "java/lang/Object"))), Cond.fieldLink RJx4a65c 9 "java/util/ArrayList" "elementData" "[Ljava/lang/Object;", Cond.fieldLink RJx4a65c 39 "java/util/ArrayList" "DEFAULTCAPACITY_EMPTY_ELEMENTDATA" "[Ljava/lang/Object;", Cond.methodLink RJx4a65c 79 Lib.Math.max.name, Cond.static Lib.Math.max.name, Cond.initialized "java/lang/Math", Cond.code Lib.Math.max.name Lib.Math.max.code 2 (some .int), Cond.classLink RJx4a65c 7 "java/lang/Object", Cond.methodLink RJx4a65c 73 yJ8_newLength_cabcc, Cond.static yJ8_newLength_cabcc, Cond.initialized RJ8, Cond.code yJ8_newLength_cabcc cJ8_newLength_cabcc 4 (some .int), Cond.methodLink RJ8 194 Lib.Math.max.name, Cond.constant RJ8 200 (2147483639), Cond.methodLink RJ8 201 yJ8_hugeLength_7cf53, Cond.static yJ8_hugeLength_7cf53, Cond.code yJ8_hugeLength_7cf53 cJ8_hugeLength_7cf53 3 (some .int), Cond.methodLink RJx4a65c 66 yJ7_copyOf_1904c, Cond.static yJ7_copyOf_1904c]
def wsJx4a65c_grow_d5877_r2 : List Cond := [Cond.initialized RJ7, Cond.code yJ7_copyOf_1904c cJ7_copyOf_1904c 2 (some (.array (.object "java/lang/Object"))), Cond.methodLink RJ7 86 ⟨"java/lang/Object", "getClass", "()Ljava/lang/Class;"⟩, Cond.selects "[Ljava/lang/Object;" ⟨"java/lang/Object", "getClass", "()Ljava/lang/Class;"⟩ ⟨"java/lang/Object", "getClass", "()Ljava/lang/Class;"⟩, Cond.instanceMethod ⟨"java/lang/Object", "getClass", "()Ljava/lang/Class;"⟩, Cond.native ⟨"java/lang/Object", "getClass", "()Ljava/lang/Class;"⟩, Cond.methodLink RJ7 300 yJ7_copyOf_6403c, Cond.static yJ7_copyOf_6403c, Cond.code yJ7_copyOf_6403c cJ7_copyOf_6403c 4 (some (.array (.object "java/lang/Object"))), Cond.classLink RJ7 110 "[Ljava/lang/Object;", Cond.classLink RJ7 2 "java/lang/Object", Cond.methodLink RJ7 304 Lib.Math.min.name, Cond.static Lib.Math.min.name, Cond.code Lib.Math.min.name Lib.Math.min.code 2 (some .int), Cond.methodLink RJ7 150 arraycopyName, Cond.native arraycopyName, Cond.static arraycopyName, Cond.initialized "java/lang/System"]
def wsJx4a65c_grow_d5877 : List Cond := .code yJx4a65c_grow_d5877 cJx4a65c_grow_d5877 1 (some (.array (.object "java/lang/Object"))) :: ((wsJx4a65c_grow_d5877_r1 ++ wsJx4a65c_grow_d5877_r2) ++ wsJx4a65c0)
def wsJx4a65c_add_72be8_r1 : List Cond := [Cond.fieldLink RJx4a65c 48 "java/util/ArrayList" "size" "I", Cond.methodLink RJx4a65c 129 yJx4a65c_grow_d5877, Cond.instanceMethod yJx4a65c_grow_d5877, Cond.selects RJx4a65c yJx4a65c_grow_d5877 yJx4a65c_grow_d5877, Cond.initialized RJx4a65c, Cond.code yJx4a65c_grow_d5877 cJx4a65c_grow_d5877 1 (some (.array (.object "java/lang/Object"))), Cond.methodLink RJx4a65c 69 yJx4a65c_grow_92f84, Cond.instanceMethod yJx4a65c_grow_92f84, Cond.selects RJx4a65c yJx4a65c_grow_92f84 yJx4a65c_grow_92f84, Cond.code yJx4a65c_grow_92f84 cJx4a65c_grow_92f84 4 (some (.array (.object "java/lang/Object"))), Cond.fieldLink RJx4a65c 9 "java/util/ArrayList" "elementData" "[Ljava/lang/Object;", Cond.fieldLink RJx4a65c 39 "java/util/ArrayList" "DEFAULTCAPACITY_EMPTY_ELEMENTDATA" "[Ljava/lang/Object;", Cond.methodLink RJx4a65c 79 Lib.Math.max.name, Cond.static Lib.Math.max.name, Cond.initialized "java/lang/Math", Cond.code Lib.Math.max.name Lib.Math.max.code 2 (some .int), Cond.classLink RJx4a65c 7 "java/lang/Object", Cond.methodLink RJx4a65c 73 yJ8_newLength_cabcc, Cond.static yJ8_newLength_cabcc, Cond.initialized RJ8, Cond.code yJ8_newLength_cabcc cJ8_newLength_cabcc 4 (some .int), Cond.methodLink RJ8 194 Lib.Math.max.name, Cond.constant RJ8 200 (2147483639), Cond.methodLink RJ8 201 yJ8_hugeLength_7cf53]
def wsJx4a65c_add_72be8_r2 : List Cond := [Cond.static yJ8_hugeLength_7cf53, Cond.code yJ8_hugeLength_7cf53 cJ8_hugeLength_7cf53 3 (some .int), Cond.methodLink RJx4a65c 66 yJ7_copyOf_1904c, Cond.static yJ7_copyOf_1904c, Cond.initialized RJ7, Cond.code yJ7_copyOf_1904c cJ7_copyOf_1904c 2 (some (.array (.object "java/lang/Object"))), Cond.methodLink RJ7 86 ⟨"java/lang/Object", "getClass", "()Ljava/lang/Class;"⟩, Cond.selects "[Ljava/lang/Object;" ⟨"java/lang/Object", "getClass", "()Ljava/lang/Class;"⟩ ⟨"java/lang/Object", "getClass", "()Ljava/lang/Class;"⟩, Cond.instanceMethod ⟨"java/lang/Object", "getClass", "()Ljava/lang/Class;"⟩, Cond.native ⟨"java/lang/Object", "getClass", "()Ljava/lang/Class;"⟩, Cond.methodLink RJ7 300 yJ7_copyOf_6403c, Cond.static yJ7_copyOf_6403c, Cond.code yJ7_copyOf_6403c cJ7_copyOf_6403c 4 (some (.array (.object "java/lang/Object"))), Cond.classLink RJ7 110 "[Ljava/lang/Object;", Cond.classLink RJ7 2 "java/lang/Object", Cond.methodLink RJ7 304 Lib.Math.min.name, Cond.static Lib.Math.min.name, Cond.code Lib.Math.min.name Lib.Math.min.code 2 (some .int), Cond.methodLink RJ7 150 arraycopyName, Cond.native arraycopyName, Cond.static arraycopyName, Cond.initialized "java/lang/System"]
def wsJx4a65c_add_72be8 : List Cond := .code yJx4a65c_add_72be8 cJx4a65c_add_72be8 4 none :: ((wsJx4a65c_add_72be8_r1 ++ wsJx4a65c_add_72be8_r2) ++ wsJx4a65c0)
def wsJx4a65c_add_9ea2d_r1 : List Cond := [Cond.fieldLink RJx4a65c 63 "java/util/ArrayList" "modCount" "I", Cond.sameField "java/util/ArrayList" "java/util/AbstractList" "modCount" "I", Cond.fieldLink RJx4a65c 9 "java/util/ArrayList" "elementData" "[Ljava/lang/Object;", Cond.fieldLink RJx4a65c 48 "java/util/ArrayList" "size" "I", Cond.methodLink RJx4a65c 131 yJx4a65c_add_72be8, Cond.instanceMethod yJx4a65c_add_72be8, Cond.selects RJx4a65c yJx4a65c_add_72be8 yJx4a65c_add_72be8, Cond.initialized RJx4a65c, Cond.code yJx4a65c_add_72be8 cJx4a65c_add_72be8 4 none, Cond.methodLink RJx4a65c 129 yJx4a65c_grow_d5877, Cond.instanceMethod yJx4a65c_grow_d5877, Cond.selects RJx4a65c yJx4a65c_grow_d5877 yJx4a65c_grow_d5877, Cond.code yJx4a65c_grow_d5877 cJx4a65c_grow_d5877 1 (some (.array (.object "java/lang/Object"))), Cond.methodLink RJx4a65c 69 yJx4a65c_grow_92f84, Cond.instanceMethod yJx4a65c_grow_92f84, Cond.selects RJx4a65c yJx4a65c_grow_92f84 yJx4a65c_grow_92f84, Cond.code yJx4a65c_grow_92f84 cJx4a65c_grow_92f84 4 (some (.array (.object "java/lang/Object"))), Cond.fieldLink RJx4a65c 39 "java/util/ArrayList" "DEFAULTCAPACITY_EMPTY_ELEMENTDATA" "[Ljava/lang/Object;", Cond.methodLink RJx4a65c 79 Lib.Math.max.name, Cond.static Lib.Math.max.name, Cond.initialized "java/lang/Math", Cond.code Lib.Math.max.name Lib.Math.max.code 2 (some .int), Cond.classLink RJx4a65c 7 "java/lang/Object", Cond.methodLink RJx4a65c 73 yJ8_newLength_cabcc]
def wsJx4a65c_add_9ea2d_r2 : List Cond := [Cond.static yJ8_newLength_cabcc, Cond.initialized RJ8, Cond.code yJ8_newLength_cabcc cJ8_newLength_cabcc 4 (some .int), Cond.methodLink RJ8 194 Lib.Math.max.name, Cond.constant RJ8 200 (2147483639), Cond.methodLink RJ8 201 yJ8_hugeLength_7cf53, Cond.static yJ8_hugeLength_7cf53, Cond.code yJ8_hugeLength_7cf53 cJ8_hugeLength_7cf53 3 (some .int), Cond.methodLink RJx4a65c 66 yJ7_copyOf_1904c, Cond.static yJ7_copyOf_1904c, Cond.initialized RJ7, Cond.code yJ7_copyOf_1904c cJ7_copyOf_1904c 2 (some (.array (.object "java/lang/Object"))), Cond.methodLink RJ7 86 ⟨"java/lang/Object", "getClass", "()Ljava/lang/Class;"⟩, Cond.selects "[Ljava/lang/Object;" ⟨"java/lang/Object", "getClass", "()Ljava/lang/Class;"⟩ ⟨"java/lang/Object", "getClass", "()Ljava/lang/Class;"⟩, Cond.instanceMethod ⟨"java/lang/Object", "getClass", "()Ljava/lang/Class;"⟩, Cond.native ⟨"java/lang/Object", "getClass", "()Ljava/lang/Class;"⟩, Cond.methodLink RJ7 300 yJ7_copyOf_6403c, Cond.static yJ7_copyOf_6403c, Cond.code yJ7_copyOf_6403c cJ7_copyOf_6403c 4 (some (.array (.object "java/lang/Object"))), Cond.classLink RJ7 110 "[Ljava/lang/Object;", Cond.classLink RJ7 2 "java/lang/Object", Cond.methodLink RJ7 304 Lib.Math.min.name, Cond.static Lib.Math.min.name, Cond.code Lib.Math.min.name Lib.Math.min.code 2 (some .int)]
def wsJx4a65c_add_9ea2d_r3 : List Cond := [Cond.methodLink RJ7 150 arraycopyName, Cond.native arraycopyName, Cond.static arraycopyName, Cond.initialized "java/lang/System"]
def wsJx4a65c_add_9ea2d : List Cond := .code yJx4a65c_add_9ea2d cJx4a65c_add_9ea2d 2 (some .boolean) :: ((wsJx4a65c_add_9ea2d_r1 ++ (wsJx4a65c_add_9ea2d_r2 ++ wsJx4a65c_add_9ea2d_r3)) ++ wsJx4a65c0)
def wsX3_addThing_r1 : List Cond := [Cond.fieldLink RX3 25 "MapRevisions" "all" "Ljava/util/ArrayList;", Cond.classLink RX3 111 RX1, Cond.instantiable RX1 2, Cond.initialized RX1, Cond.methodLink RX3 261 yX3_newVersion, Cond.instanceMethod yX3_newVersion, Cond.selects RX3 yX3_newVersion yX3_newVersion, Cond.initialized RX3, Cond.code yX3_newVersion cX3_newVersion 4 (some (.object "MapRevisions$Version")), Cond.fieldLink RX3 46 "MapRevisions" "versions" "I", Cond.fieldLink RX3 33 "MapRevisions" "versionsOf" "[I", Cond.classLink RX3 143 RX2, Cond.instantiable RX2 6, Cond.initialized RX2, Cond.fieldLink RX3 49 "MapRevisions" "now" "I", Cond.methodLink RX3 272 yX2_init, Cond.instanceMethod yX2_init, Cond.code yX2_init cX2_init 5 none, Cond.methodLink RX2 1 objectInit, Cond.instanceMethod objectInit, Cond.code objectInit ⟨#[0xb1]⟩ 1 none, Cond.fieldLink RX2 7 "MapRevisions$Version" "before" "LMapRevisions$Version;", Cond.fieldLink RX2 13 "MapRevisions$Version" "number" "I", Cond.fieldLink RX2 17 "MapRevisions$Version" "set" "I"]
def wsX3_addThing_r2 : List Cond := [Cond.fieldLink RX2 20 "MapRevisions$Version" "minute" "I", Cond.fieldLink RX2 23 "MapRevisions$Version" "content" "LMapRevisions$Content;", Cond.fieldLink RX2 27 "MapRevisions$Version" "hidden" "Z", Cond.methodLink RX3 265 yX1_init, Cond.instanceMethod yX1_init, Cond.code yX1_init cX1_init 3 none, Cond.methodLink RX1 1 objectInit, Cond.fieldLink RX1 7 "MapRevisions$Thing" "kind" "I", Cond.fieldLink RX1 13 "MapRevisions$Thing" "last" "LMapRevisions$Version;", Cond.methodLink RX3 268 yJx4a65c_add_9ea2d, Cond.instanceMethod yJx4a65c_add_9ea2d, Cond.selects RJx4a65c yJx4a65c_add_9ea2d yJx4a65c_add_9ea2d, Cond.initialized RJx4a65c, Cond.code yJx4a65c_add_9ea2d cJx4a65c_add_9ea2d 2 (some .boolean), Cond.fieldLink RJx4a65c 63 "java/util/ArrayList" "modCount" "I", Cond.sameField "java/util/ArrayList" "java/util/AbstractList" "modCount" "I", Cond.fieldLink RJx4a65c 9 "java/util/ArrayList" "elementData" "[Ljava/lang/Object;", Cond.fieldLink RJx4a65c 48 "java/util/ArrayList" "size" "I", Cond.methodLink RJx4a65c 131 yJx4a65c_add_72be8, Cond.instanceMethod yJx4a65c_add_72be8, Cond.selects RJx4a65c yJx4a65c_add_72be8 yJx4a65c_add_72be8, Cond.code yJx4a65c_add_72be8 cJx4a65c_add_72be8 4 none, Cond.methodLink RJx4a65c 129 yJx4a65c_grow_d5877, Cond.instanceMethod yJx4a65c_grow_d5877]
def wsX3_addThing_r3 : List Cond := [Cond.selects RJx4a65c yJx4a65c_grow_d5877 yJx4a65c_grow_d5877, Cond.code yJx4a65c_grow_d5877 cJx4a65c_grow_d5877 1 (some (.array (.object "java/lang/Object"))), Cond.methodLink RJx4a65c 69 yJx4a65c_grow_92f84, Cond.instanceMethod yJx4a65c_grow_92f84, Cond.selects RJx4a65c yJx4a65c_grow_92f84 yJx4a65c_grow_92f84, Cond.code yJx4a65c_grow_92f84 cJx4a65c_grow_92f84 4 (some (.array (.object "java/lang/Object"))), Cond.fieldLink RJx4a65c 39 "java/util/ArrayList" "DEFAULTCAPACITY_EMPTY_ELEMENTDATA" "[Ljava/lang/Object;", Cond.methodLink RJx4a65c 79 Lib.Math.max.name, Cond.static Lib.Math.max.name, Cond.initialized "java/lang/Math", Cond.code Lib.Math.max.name Lib.Math.max.code 2 (some .int), Cond.classLink RJx4a65c 7 "java/lang/Object", Cond.methodLink RJx4a65c 73 yJ8_newLength_cabcc, Cond.static yJ8_newLength_cabcc, Cond.initialized RJ8, Cond.code yJ8_newLength_cabcc cJ8_newLength_cabcc 4 (some .int), Cond.methodLink RJ8 194 Lib.Math.max.name, Cond.constant RJ8 200 (2147483639), Cond.methodLink RJ8 201 yJ8_hugeLength_7cf53, Cond.static yJ8_hugeLength_7cf53, Cond.code yJ8_hugeLength_7cf53 cJ8_hugeLength_7cf53 3 (some .int), Cond.methodLink RJx4a65c 66 yJ7_copyOf_1904c, Cond.static yJ7_copyOf_1904c, Cond.initialized RJ7]
def wsX3_addThing_r4 : List Cond := [Cond.code yJ7_copyOf_1904c cJ7_copyOf_1904c 2 (some (.array (.object "java/lang/Object"))), Cond.methodLink RJ7 86 ⟨"java/lang/Object", "getClass", "()Ljava/lang/Class;"⟩, Cond.selects "[Ljava/lang/Object;" ⟨"java/lang/Object", "getClass", "()Ljava/lang/Class;"⟩ ⟨"java/lang/Object", "getClass", "()Ljava/lang/Class;"⟩, Cond.instanceMethod ⟨"java/lang/Object", "getClass", "()Ljava/lang/Class;"⟩, Cond.native ⟨"java/lang/Object", "getClass", "()Ljava/lang/Class;"⟩, Cond.methodLink RJ7 300 yJ7_copyOf_6403c, Cond.static yJ7_copyOf_6403c, Cond.code yJ7_copyOf_6403c cJ7_copyOf_6403c 4 (some (.array (.object "java/lang/Object"))), Cond.classLink RJ7 110 "[Ljava/lang/Object;", Cond.classLink RJ7 2 "java/lang/Object", Cond.methodLink RJ7 304 Lib.Math.min.name, Cond.static Lib.Math.min.name, Cond.code Lib.Math.min.name Lib.Math.min.code 2 (some .int), Cond.methodLink RJ7 150 arraycopyName, Cond.native arraycopyName, Cond.static arraycopyName, Cond.initialized "java/lang/System", Cond.methodLink RX3 126 yJx4a65c_size_8abf5, Cond.instanceMethod yJx4a65c_size_8abf5, Cond.selects RJx4a65c yJx4a65c_size_8abf5 yJx4a65c_size_8abf5, Cond.code yJx4a65c_size_8abf5 cJx4a65c_size_8abf5 1 (some .int)]
def wsX3_addThing : List Cond := .code yX3_addThing cX3_addThing 4 (some .int) :: ((wsX3_addThing_r1 ++ (wsX3_addThing_r2 ++ (wsX3_addThing_r3 ++ wsX3_addThing_r4))) ++ wsX30 ++ wsX10 ++ wsX20 ++ wsJx4a65c0)
def wsX3_point_r1 : List Cond := [Cond.methodLink RX3 62 yX3_needSet, Cond.instanceMethod yX3_needSet, Cond.selects RX3 yX3_needSet yX3_needSet, Cond.initialized RX3, Cond.code yX3_needSet cX3_needSet 2 none, Cond.classLink RX3 232 "java/lang/IndexOutOfBoundsException", Cond.initialized "java/lang/IndexOutOfBoundsException", Cond.fieldLink RX3 39 "MapRevisions" "sets" "I", Cond.methodLink RX3 73 yX3_needPlace, Cond.instanceMethod yX3_needPlace, Cond.selects RX3 yX3_needPlace yX3_needPlace, Cond.code yX3_needPlace cX3_needPlace 3 none, Cond.classLink RX3 91 "java/lang/IllegalArgumentException", Cond.initialized "java/lang/IllegalArgumentException", Cond.methodLink RX3 77 yX3_needOpen, Cond.instanceMethod yX3_needOpen, Cond.selects RX3 yX3_needOpen yX3_needOpen, Cond.code yX3_needOpen cX3_needOpen 2 none, Cond.classLink RX3 55 "java/lang/IllegalStateException", Cond.initialized "java/lang/IllegalStateException", Cond.fieldLink RX3 29 "MapRevisions" "closed" "[Z", Cond.fieldLink RX3 46 "MapRevisions" "versions" "I", Cond.methodLink RX3 80 yX3_needRoomForThing, Cond.instanceMethod yX3_needRoomForThing]
def wsX3_point_r2 : List Cond := [Cond.selects RX3 yX3_needRoomForThing yX3_needRoomForThing, Cond.code yX3_needRoomForThing cX3_needRoomForThing 1 none, Cond.fieldLink RX3 25 "MapRevisions" "all" "Ljava/util/ArrayList;", Cond.methodLink RX3 126 yJx4a65c_size_8abf5, Cond.instanceMethod yJx4a65c_size_8abf5, Cond.selects RJx4a65c yJx4a65c_size_8abf5 yJx4a65c_size_8abf5, Cond.initialized RJx4a65c, Cond.code yJx4a65c_size_8abf5 cJx4a65c_size_8abf5 1 (some .int), Cond.fieldLink RJx4a65c 48 "java/util/ArrayList" "size" "I", Cond.methodLink RX3 83 yX3_contentOfPoint, Cond.instanceMethod yX3_contentOfPoint, Cond.selects RX3 yX3_contentOfPoint yX3_contentOfPoint, Cond.code yX3_contentOfPoint cX3_contentOfPoint 3 (some (.object "MapRevisions$Content")), Cond.classLink RX3 13 RX0, Cond.instantiable RX0 4, Cond.initialized RX0, Cond.fieldLink RX3 7 "MapRevisions" "none" "[I", Cond.methodLink RX3 15 yX0_init, Cond.instanceMethod yX0_init, Cond.code yX0_init cX0_init 5 none, Cond.methodLink RX0 1 objectInit, Cond.instanceMethod objectInit, Cond.code objectInit ⟨#[0xb1]⟩ 1 none, Cond.fieldLink RX0 7 "MapRevisions$Content" "there" "Z"]
def wsX3_point_r3 : List Cond := [Cond.fieldLink RX0 13 "MapRevisions$Content" "x" "I", Cond.fieldLink RX0 17 "MapRevisions$Content" "y" "I", Cond.fieldLink RX0 20 "MapRevisions$Content" "members" "[I", Cond.methodLink RX3 87 yX3_addThing, Cond.instanceMethod yX3_addThing, Cond.selects RX3 yX3_addThing yX3_addThing, Cond.code yX3_addThing cX3_addThing 4 (some .int), Cond.classLink RX3 111 RX1, Cond.instantiable RX1 2, Cond.initialized RX1, Cond.methodLink RX3 261 yX3_newVersion, Cond.instanceMethod yX3_newVersion, Cond.selects RX3 yX3_newVersion yX3_newVersion, Cond.code yX3_newVersion cX3_newVersion 4 (some (.object "MapRevisions$Version")), Cond.fieldLink RX3 33 "MapRevisions" "versionsOf" "[I", Cond.classLink RX3 143 RX2, Cond.instantiable RX2 6, Cond.initialized RX2, Cond.fieldLink RX3 49 "MapRevisions" "now" "I", Cond.methodLink RX3 272 yX2_init, Cond.instanceMethod yX2_init, Cond.code yX2_init cX2_init 5 none, Cond.methodLink RX2 1 objectInit, Cond.fieldLink RX2 7 "MapRevisions$Version" "before" "LMapRevisions$Version;"]
def wsX3_point_r4 : List Cond := [Cond.fieldLink RX2 13 "MapRevisions$Version" "number" "I", Cond.fieldLink RX2 17 "MapRevisions$Version" "set" "I", Cond.fieldLink RX2 20 "MapRevisions$Version" "minute" "I", Cond.fieldLink RX2 23 "MapRevisions$Version" "content" "LMapRevisions$Content;", Cond.fieldLink RX2 27 "MapRevisions$Version" "hidden" "Z", Cond.methodLink RX3 265 yX1_init, Cond.instanceMethod yX1_init, Cond.code yX1_init cX1_init 3 none, Cond.methodLink RX1 1 objectInit, Cond.fieldLink RX1 7 "MapRevisions$Thing" "kind" "I", Cond.fieldLink RX1 13 "MapRevisions$Thing" "last" "LMapRevisions$Version;", Cond.methodLink RX3 268 yJx4a65c_add_9ea2d, Cond.instanceMethod yJx4a65c_add_9ea2d, Cond.selects RJx4a65c yJx4a65c_add_9ea2d yJx4a65c_add_9ea2d, Cond.code yJx4a65c_add_9ea2d cJx4a65c_add_9ea2d 2 (some .boolean), Cond.fieldLink RJx4a65c 63 "java/util/ArrayList" "modCount" "I", Cond.sameField "java/util/ArrayList" "java/util/AbstractList" "modCount" "I", Cond.fieldLink RJx4a65c 9 "java/util/ArrayList" "elementData" "[Ljava/lang/Object;", Cond.methodLink RJx4a65c 131 yJx4a65c_add_72be8, Cond.instanceMethod yJx4a65c_add_72be8, Cond.selects RJx4a65c yJx4a65c_add_72be8 yJx4a65c_add_72be8, Cond.code yJx4a65c_add_72be8 cJx4a65c_add_72be8 4 none, Cond.methodLink RJx4a65c 129 yJx4a65c_grow_d5877, Cond.instanceMethod yJx4a65c_grow_d5877]
def wsX3_point_r5 : List Cond := [Cond.selects RJx4a65c yJx4a65c_grow_d5877 yJx4a65c_grow_d5877, Cond.code yJx4a65c_grow_d5877 cJx4a65c_grow_d5877 1 (some (.array (.object "java/lang/Object"))), Cond.methodLink RJx4a65c 69 yJx4a65c_grow_92f84, Cond.instanceMethod yJx4a65c_grow_92f84, Cond.selects RJx4a65c yJx4a65c_grow_92f84 yJx4a65c_grow_92f84, Cond.code yJx4a65c_grow_92f84 cJx4a65c_grow_92f84 4 (some (.array (.object "java/lang/Object"))), Cond.fieldLink RJx4a65c 39 "java/util/ArrayList" "DEFAULTCAPACITY_EMPTY_ELEMENTDATA" "[Ljava/lang/Object;", Cond.methodLink RJx4a65c 79 Lib.Math.max.name, Cond.static Lib.Math.max.name, Cond.initialized "java/lang/Math", Cond.code Lib.Math.max.name Lib.Math.max.code 2 (some .int), Cond.classLink RJx4a65c 7 "java/lang/Object", Cond.methodLink RJx4a65c 73 yJ8_newLength_cabcc, Cond.static yJ8_newLength_cabcc, Cond.initialized RJ8, Cond.code yJ8_newLength_cabcc cJ8_newLength_cabcc 4 (some .int), Cond.methodLink RJ8 194 Lib.Math.max.name, Cond.constant RJ8 200 (2147483639), Cond.methodLink RJ8 201 yJ8_hugeLength_7cf53, Cond.static yJ8_hugeLength_7cf53, Cond.code yJ8_hugeLength_7cf53 cJ8_hugeLength_7cf53 3 (some .int), Cond.methodLink RJx4a65c 66 yJ7_copyOf_1904c, Cond.static yJ7_copyOf_1904c, Cond.initialized RJ7]
def wsX3_point_r6 : List Cond := [Cond.code yJ7_copyOf_1904c cJ7_copyOf_1904c 2 (some (.array (.object "java/lang/Object"))), Cond.methodLink RJ7 86 ⟨"java/lang/Object", "getClass", "()Ljava/lang/Class;"⟩, Cond.selects "[Ljava/lang/Object;" ⟨"java/lang/Object", "getClass", "()Ljava/lang/Class;"⟩ ⟨"java/lang/Object", "getClass", "()Ljava/lang/Class;"⟩, Cond.instanceMethod ⟨"java/lang/Object", "getClass", "()Ljava/lang/Class;"⟩, Cond.native ⟨"java/lang/Object", "getClass", "()Ljava/lang/Class;"⟩, Cond.methodLink RJ7 300 yJ7_copyOf_6403c, Cond.static yJ7_copyOf_6403c, Cond.code yJ7_copyOf_6403c cJ7_copyOf_6403c 4 (some (.array (.object "java/lang/Object"))), Cond.classLink RJ7 110 "[Ljava/lang/Object;", Cond.classLink RJ7 2 "java/lang/Object", Cond.methodLink RJ7 304 Lib.Math.min.name, Cond.static Lib.Math.min.name, Cond.code Lib.Math.min.name Lib.Math.min.code 2 (some .int), Cond.methodLink RJ7 150 arraycopyName, Cond.native arraycopyName, Cond.static arraycopyName, Cond.initialized "java/lang/System"]
def wsX3_point : List Cond := .code yX3_point cX3_point 4 (some .int) :: ((wsX3_point_r1 ++ (wsX3_point_r2 ++ (wsX3_point_r3 ++ (wsX3_point_r4 ++ (wsX3_point_r5 ++ wsX3_point_r6))))) ++ wsX30 ++ wsJx4a65c0 ++ wsX00 ++ wsX10 ++ wsX20 ++ (vx_atS RX3 236 "java/lang/IndexOutOfBoundsException" ["java/lang/RuntimeException", "java/lang/Exception"]).filter goodWord ++ (vx_atS RX3 95 "java/lang/IllegalArgumentException" ["java/lang/RuntimeException", "java/lang/Exception"]).filter goodWord ++ (vx_atS RX3 59 "java/lang/IllegalStateException" ["java/lang/RuntimeException", "java/lang/Exception"]).filter goodWord)
def wsJ7_copyOf_59c91 : List Cond := .code yJ7_copyOf_59c91 cJ7_copyOf_59c91 3 (some (.array .int)) :: ([.methodLink RJ7 316 ⟨"[I", "clone", "()Ljava/lang/Object;"⟩, .sameMethod "[I" "java/lang/Object" "clone" "()Ljava/lang/Object;", .native ⟨"java/lang/Object", "clone", "()Ljava/lang/Object;"⟩, .instanceMethod ⟨"java/lang/Object", "clone", "()Ljava/lang/Object;"⟩, .selects "[I" ⟨"[I", "clone", "()Ljava/lang/Object;"⟩ ⟨"java/lang/Object", "clone", "()Ljava/lang/Object;"⟩, .classLink RJ7 317 "[I", .arrayClass .int, .methodLink RJ7 304 Lib.Math.min.name, .static Lib.Math.min.name, .initialized "java/lang/Math", .code Lib.Math.min.name Lib.Math.min.code 2 (some .int), .methodLink RJ7 150 arraycopyName, .native arraycopyName, .static arraycopyName, .initialized "java/lang/System"])
def wsX3_contentOfDraft_r1 : List Cond := [Cond.classLink RX3 13 RX0, Cond.instantiable RX0 4, Cond.initialized RX0, Cond.fieldLink RX3 36 "MapRevisions" "draft" "[I", Cond.fieldLink RX3 43 "MapRevisions" "drafted" "I", Cond.methodLink RX3 255 yJ7_copyOf_59c91, Cond.static yJ7_copyOf_59c91, Cond.initialized RJ7, Cond.code yJ7_copyOf_59c91 cJ7_copyOf_59c91 3 (some (.array .int)), Cond.methodLink RJ7 316 ⟨"[I", "clone", "()Ljava/lang/Object;"⟩, Cond.sameMethod "[I" "java/lang/Object" "clone" "()Ljava/lang/Object;", Cond.native ⟨"java/lang/Object", "clone", "()Ljava/lang/Object;"⟩, Cond.instanceMethod ⟨"java/lang/Object", "clone", "()Ljava/lang/Object;"⟩, Cond.selects "[I" ⟨"[I", "clone", "()Ljava/lang/Object;"⟩ ⟨"java/lang/Object", "clone", "()Ljava/lang/Object;"⟩, Cond.classLink RJ7 317 "[I", Cond.arrayClass .int, Cond.methodLink RJ7 304 Lib.Math.min.name, Cond.static Lib.Math.min.name, Cond.initialized "java/lang/Math", Cond.code Lib.Math.min.name Lib.Math.min.code 2 (some .int), Cond.methodLink RJ7 150 arraycopyName, Cond.native arraycopyName, Cond.static arraycopyName, Cond.initialized "java/lang/System"]
def wsX3_contentOfDraft_r2 : List Cond := [Cond.methodLink RX3 15 yX0_init, Cond.instanceMethod yX0_init, Cond.code yX0_init cX0_init 5 none, Cond.methodLink RX0 1 objectInit, Cond.instanceMethod objectInit, Cond.code objectInit ⟨#[0xb1]⟩ 1 none, Cond.fieldLink RX0 7 "MapRevisions$Content" "there" "Z", Cond.fieldLink RX0 13 "MapRevisions$Content" "x" "I", Cond.fieldLink RX0 17 "MapRevisions$Content" "y" "I", Cond.fieldLink RX0 20 "MapRevisions$Content" "members" "[I"]
def wsX3_contentOfDraft : List Cond := .code yX3_contentOfDraft cX3_contentOfDraft 1 (some (.object "MapRevisions$Content")) :: ((wsX3_contentOfDraft_r1 ++ wsX3_contentOfDraft_r2) ++ wsX00 ++ wsX30)
def wsJ3_checkIndex_8e157 : List Cond := .code yJ3_checkIndex_8e157 cJ3_checkIndex_8e157 3 (some .int) :: ([])
def wsJ15_checkIndex_7cf53 : List Cond := .code yJ15_checkIndex_7cf53 cJ15_checkIndex_7cf53 2 (some .int) :: ([.methodLink RJ15 105 yJ3_checkIndex_8e157, .static yJ3_checkIndex_8e157, .initialized RJ3, .code yJ3_checkIndex_8e157 cJ3_checkIndex_8e157 3 (some .int)])
def wsJx4a65c_elementData_915e3 : List Cond := .code yJx4a65c_elementData_915e3 cJx4a65c_elementData_915e3 2 (some (.object "java/lang/Object")) :: ([.fieldLink RJx4a65c 9 "java/util/ArrayList" "elementData" "[Ljava/lang/Object;"] ++ wsJx4a65c0)
def wsJx4a65c_get_915e3 : List Cond := .code yJx4a65c_get_915e3 cJx4a65c_get_915e3 2 (some (.object "java/lang/Object")) :: ([.fieldLink RJx4a65c 48 "java/util/ArrayList" "size" "I", .methodLink RJx4a65c 118 yJ15_checkIndex_7cf53, .static yJ15_checkIndex_7cf53, .initialized RJ15, .code yJ15_checkIndex_7cf53 cJ15_checkIndex_7cf53 2 (some .int), .methodLink RJ15 105 yJ3_checkIndex_8e157, .static yJ3_checkIndex_8e157, .initialized RJ3, .code yJ3_checkIndex_8e157 cJ3_checkIndex_8e157 3 (some .int), .methodLink RJx4a65c 123 yJx4a65c_elementData_915e3, .instanceMethod yJx4a65c_elementData_915e3, .selects RJx4a65c yJx4a65c_elementData_915e3 yJx4a65c_elementData_915e3, .initialized RJx4a65c, .code yJx4a65c_elementData_915e3 cJx4a65c_elementData_915e3 2 (some (.object "java/lang/Object")), .fieldLink RJx4a65c 9 "java/util/ArrayList" "elementData" "[Ljava/lang/Object;"] ++ wsJx4a65c0)
def wsX3_isNow_r1 : List Cond := [Cond.fieldLink RX3 25 "MapRevisions" "all" "Ljava/util/ArrayList;", Cond.classLink RX3 111 "MapRevisions$Thing", Cond.fieldLink RX3 138 "MapRevisions$Thing" "last" "LMapRevisions$Version;", Cond.fieldLink RX3 151 "MapRevisions$Version" "content" "LMapRevisions$Content;", Cond.fieldLink RX3 154 "MapRevisions$Content" "there" "Z", Cond.methodLink RX3 237 yX3_isKnown, Cond.instanceMethod yX3_isKnown, Cond.selects RX3 yX3_isKnown yX3_isKnown, Cond.initialized RX3, Cond.code yX3_isKnown cX3_isKnown 2 (some .boolean), Cond.methodLink RX3 126 yJx4a65c_size_8abf5, Cond.instanceMethod yJx4a65c_size_8abf5, Cond.selects RJx4a65c yJx4a65c_size_8abf5 yJx4a65c_size_8abf5, Cond.initialized RJx4a65c, Cond.code yJx4a65c_size_8abf5 cJx4a65c_size_8abf5 1 (some .int), Cond.fieldLink RJx4a65c 48 "java/util/ArrayList" "size" "I", Cond.methodLink RX3 107 yJx4a65c_get_915e3, Cond.instanceMethod yJx4a65c_get_915e3, Cond.selects RJx4a65c yJx4a65c_get_915e3 yJx4a65c_get_915e3, Cond.code yJx4a65c_get_915e3 cJx4a65c_get_915e3 2 (some (.object "java/lang/Object")), Cond.methodLink RJx4a65c 118 yJ15_checkIndex_7cf53, Cond.static yJ15_checkIndex_7cf53, Cond.initialized RJ15, Cond.code yJ15_checkIndex_7cf53 cJ15_checkIndex_7cf53 2 (some .int)]
def wsX3_isNow_r2 : List Cond := [Cond.methodLink RJ15 105 yJ3_checkIndex_8e157, Cond.static yJ3_checkIndex_8e157, Cond.initialized RJ3, Cond.code yJ3_checkIndex_8e157 cJ3_checkIndex_8e157 3 (some .int), Cond.methodLink RJx4a65c 123 yJx4a65c_elementData_915e3, Cond.instanceMethod yJx4a65c_elementData_915e3, Cond.selects RJx4a65c yJx4a65c_elementData_915e3 yJx4a65c_elementData_915e3, Cond.code yJx4a65c_elementData_915e3 cJx4a65c_elementData_915e3 2 (some (.object "java/lang/Object")), Cond.fieldLink RJx4a65c 9 "java/util/ArrayList" "elementData" "[Ljava/lang/Object;"]
def wsX3_isNow : List Cond := .code yX3_isNow cX3_isNow 2 (some .boolean) :: ((wsX3_isNow_r1 ++ wsX3_isNow_r2) ++ wsX30 ++ wsX10 ++ wsX20 ++ wsX00 ++ wsJx4a65c0)
def wsX3_isRowFor_r1 : List Cond := [Cond.fieldLink RX3 25 "MapRevisions" "all" "Ljava/util/ArrayList;", Cond.classLink RX3 111 "MapRevisions$Thing", Cond.fieldLink RX3 113 "MapRevisions$Thing" "kind" "I", Cond.methodLink RX3 147 yX3_isNow, Cond.instanceMethod yX3_isNow, Cond.selects RX3 yX3_isNow yX3_isNow, Cond.initialized RX3, Cond.code yX3_isNow cX3_isNow 2 (some .boolean), Cond.fieldLink RX3 138 "MapRevisions$Thing" "last" "LMapRevisions$Version;", Cond.fieldLink RX3 151 "MapRevisions$Version" "content" "LMapRevisions$Content;", Cond.fieldLink RX3 154 "MapRevisions$Content" "there" "Z", Cond.methodLink RX3 237 yX3_isKnown, Cond.instanceMethod yX3_isKnown, Cond.selects RX3 yX3_isKnown yX3_isKnown, Cond.code yX3_isKnown cX3_isKnown 2 (some .boolean), Cond.methodLink RX3 126 yJx4a65c_size_8abf5, Cond.instanceMethod yJx4a65c_size_8abf5, Cond.selects RJx4a65c yJx4a65c_size_8abf5 yJx4a65c_size_8abf5, Cond.initialized RJx4a65c, Cond.code yJx4a65c_size_8abf5 cJx4a65c_size_8abf5 1 (some .int), Cond.fieldLink RJx4a65c 48 "java/util/ArrayList" "size" "I", Cond.methodLink RX3 107 yJx4a65c_get_915e3, Cond.instanceMethod yJx4a65c_get_915e3, Cond.selects RJx4a65c yJx4a65c_get_915e3 yJx4a65c_get_915e3]
def wsX3_isRowFor_r2 : List Cond := [Cond.code yJx4a65c_get_915e3 cJx4a65c_get_915e3 2 (some (.object "java/lang/Object")), Cond.methodLink RJx4a65c 118 yJ15_checkIndex_7cf53, Cond.static yJ15_checkIndex_7cf53, Cond.initialized RJ15, Cond.code yJ15_checkIndex_7cf53 cJ15_checkIndex_7cf53 2 (some .int), Cond.methodLink RJ15 105 yJ3_checkIndex_8e157, Cond.static yJ3_checkIndex_8e157, Cond.initialized RJ3, Cond.code yJ3_checkIndex_8e157 cJ3_checkIndex_8e157 3 (some .int), Cond.methodLink RJx4a65c 123 yJx4a65c_elementData_915e3, Cond.instanceMethod yJx4a65c_elementData_915e3, Cond.selects RJx4a65c yJx4a65c_elementData_915e3 yJx4a65c_elementData_915e3, Cond.code yJx4a65c_elementData_915e3 cJx4a65c_elementData_915e3 2 (some (.object "java/lang/Object")), Cond.fieldLink RJx4a65c 9 "java/util/ArrayList" "elementData" "[Ljava/lang/Object;"]
def wsX3_isRowFor : List Cond := .code yX3_isRowFor cX3_isRowFor 7 (some .boolean) :: ((wsX3_isRowFor_r1 ++ wsX3_isRowFor_r2) ++ wsX30 ++ wsX10 ++ wsX20 ++ wsX00 ++ wsJx4a65c0)
def wsX3_make_r1 : List Cond := [Cond.classLink RX3 91 "java/lang/IllegalArgumentException", Cond.initialized "java/lang/IllegalArgumentException", Cond.fieldLink RX3 100 "MapRevisions$Content" "members" "[I", Cond.methodLink RX3 62 yX3_needSet, Cond.instanceMethod yX3_needSet, Cond.selects RX3 yX3_needSet yX3_needSet, Cond.initialized RX3, Cond.code yX3_needSet cX3_needSet 2 none, Cond.classLink RX3 232 "java/lang/IndexOutOfBoundsException", Cond.initialized "java/lang/IndexOutOfBoundsException", Cond.fieldLink RX3 39 "MapRevisions" "sets" "I", Cond.methodLink RX3 77 yX3_needOpen, Cond.instanceMethod yX3_needOpen, Cond.selects RX3 yX3_needOpen yX3_needOpen, Cond.code yX3_needOpen cX3_needOpen 2 none, Cond.classLink RX3 55 "java/lang/IllegalStateException", Cond.initialized "java/lang/IllegalStateException", Cond.fieldLink RX3 29 "MapRevisions" "closed" "[Z", Cond.fieldLink RX3 46 "MapRevisions" "versions" "I", Cond.methodLink RX3 80 yX3_needRoomForThing, Cond.instanceMethod yX3_needRoomForThing, Cond.selects RX3 yX3_needRoomForThing yX3_needRoomForThing, Cond.code yX3_needRoomForThing cX3_needRoomForThing 1 none, Cond.fieldLink RX3 25 "MapRevisions" "all" "Ljava/util/ArrayList;"]
def wsX3_make_r2 : List Cond := [Cond.methodLink RX3 126 yJx4a65c_size_8abf5, Cond.instanceMethod yJx4a65c_size_8abf5, Cond.selects RJx4a65c yJx4a65c_size_8abf5 yJx4a65c_size_8abf5, Cond.initialized RJx4a65c, Cond.code yJx4a65c_size_8abf5 cJx4a65c_size_8abf5 1 (some .int), Cond.fieldLink RJx4a65c 48 "java/util/ArrayList" "size" "I", Cond.methodLink RX3 96 yX3_contentOfDraft, Cond.instanceMethod yX3_contentOfDraft, Cond.selects RX3 yX3_contentOfDraft yX3_contentOfDraft, Cond.code yX3_contentOfDraft cX3_contentOfDraft 1 (some (.object "MapRevisions$Content")), Cond.classLink RX3 13 RX0, Cond.instantiable RX0 4, Cond.initialized RX0, Cond.fieldLink RX3 36 "MapRevisions" "draft" "[I", Cond.fieldLink RX3 43 "MapRevisions" "drafted" "I", Cond.methodLink RX3 255 yJ7_copyOf_59c91, Cond.static yJ7_copyOf_59c91, Cond.initialized RJ7, Cond.code yJ7_copyOf_59c91 cJ7_copyOf_59c91 3 (some (.array .int)), Cond.methodLink RJ7 316 ⟨"[I", "clone", "()Ljava/lang/Object;"⟩, Cond.sameMethod "[I" "java/lang/Object" "clone" "()Ljava/lang/Object;", Cond.native ⟨"java/lang/Object", "clone", "()Ljava/lang/Object;"⟩, Cond.instanceMethod ⟨"java/lang/Object", "clone", "()Ljava/lang/Object;"⟩, Cond.selects "[I" ⟨"[I", "clone", "()Ljava/lang/Object;"⟩ ⟨"java/lang/Object", "clone", "()Ljava/lang/Object;"⟩]
def wsX3_make_r3 : List Cond := [Cond.classLink RJ7 317 "[I", Cond.arrayClass .int, Cond.methodLink RJ7 304 Lib.Math.min.name, Cond.static Lib.Math.min.name, Cond.initialized "java/lang/Math", Cond.code Lib.Math.min.name Lib.Math.min.code 2 (some .int), Cond.methodLink RJ7 150 arraycopyName, Cond.native arraycopyName, Cond.static arraycopyName, Cond.initialized "java/lang/System", Cond.methodLink RX3 15 yX0_init, Cond.instanceMethod yX0_init, Cond.code yX0_init cX0_init 5 none, Cond.methodLink RX0 1 objectInit, Cond.instanceMethod objectInit, Cond.code objectInit ⟨#[0xb1]⟩ 1 none, Cond.fieldLink RX0 7 "MapRevisions$Content" "there" "Z", Cond.fieldLink RX0 13 "MapRevisions$Content" "x" "I", Cond.fieldLink RX0 17 "MapRevisions$Content" "y" "I", Cond.fieldLink RX0 20 "MapRevisions$Content" "members" "[I", Cond.methodLink RX3 103 yX3_isRowFor, Cond.instanceMethod yX3_isRowFor, Cond.selects RX3 yX3_isRowFor yX3_isRowFor, Cond.code yX3_isRowFor cX3_isRowFor 7 (some .boolean)]
def wsX3_make_r4 : List Cond := [Cond.classLink RX3 111 "MapRevisions$Thing", Cond.fieldLink RX3 113 "MapRevisions$Thing" "kind" "I", Cond.methodLink RX3 147 yX3_isNow, Cond.instanceMethod yX3_isNow, Cond.selects RX3 yX3_isNow yX3_isNow, Cond.code yX3_isNow cX3_isNow 2 (some .boolean), Cond.fieldLink RX3 138 "MapRevisions$Thing" "last" "LMapRevisions$Version;", Cond.fieldLink RX3 151 "MapRevisions$Version" "content" "LMapRevisions$Content;", Cond.fieldLink RX3 154 "MapRevisions$Content" "there" "Z", Cond.methodLink RX3 237 yX3_isKnown, Cond.instanceMethod yX3_isKnown, Cond.selects RX3 yX3_isKnown yX3_isKnown, Cond.code yX3_isKnown cX3_isKnown 2 (some .boolean), Cond.methodLink RX3 107 yJx4a65c_get_915e3, Cond.instanceMethod yJx4a65c_get_915e3, Cond.selects RJx4a65c yJx4a65c_get_915e3 yJx4a65c_get_915e3, Cond.code yJx4a65c_get_915e3 cJx4a65c_get_915e3 2 (some (.object "java/lang/Object")), Cond.methodLink RJx4a65c 118 yJ15_checkIndex_7cf53, Cond.static yJ15_checkIndex_7cf53, Cond.initialized RJ15, Cond.code yJ15_checkIndex_7cf53 cJ15_checkIndex_7cf53 2 (some .int), Cond.methodLink RJ15 105 yJ3_checkIndex_8e157, Cond.static yJ3_checkIndex_8e157, Cond.initialized RJ3]
def wsX3_make_r5 : List Cond := [Cond.code yJ3_checkIndex_8e157 cJ3_checkIndex_8e157 3 (some .int), Cond.methodLink RJx4a65c 123 yJx4a65c_elementData_915e3, Cond.instanceMethod yJx4a65c_elementData_915e3, Cond.selects RJx4a65c yJx4a65c_elementData_915e3 yJx4a65c_elementData_915e3, Cond.code yJx4a65c_elementData_915e3 cJx4a65c_elementData_915e3 2 (some (.object "java/lang/Object")), Cond.fieldLink RJx4a65c 9 "java/util/ArrayList" "elementData" "[Ljava/lang/Object;", Cond.methodLink RX3 87 yX3_addThing, Cond.instanceMethod yX3_addThing, Cond.selects RX3 yX3_addThing yX3_addThing, Cond.code yX3_addThing cX3_addThing 4 (some .int), Cond.classLink RX3 111 RX1, Cond.instantiable RX1 2, Cond.initialized RX1, Cond.methodLink RX3 261 yX3_newVersion, Cond.instanceMethod yX3_newVersion, Cond.selects RX3 yX3_newVersion yX3_newVersion, Cond.code yX3_newVersion cX3_newVersion 4 (some (.object "MapRevisions$Version")), Cond.fieldLink RX3 33 "MapRevisions" "versionsOf" "[I", Cond.classLink RX3 143 RX2, Cond.instantiable RX2 6, Cond.initialized RX2, Cond.fieldLink RX3 49 "MapRevisions" "now" "I", Cond.methodLink RX3 272 yX2_init, Cond.instanceMethod yX2_init]
def wsX3_make_r6 : List Cond := [Cond.code yX2_init cX2_init 5 none, Cond.methodLink RX2 1 objectInit, Cond.fieldLink RX2 7 "MapRevisions$Version" "before" "LMapRevisions$Version;", Cond.fieldLink RX2 13 "MapRevisions$Version" "number" "I", Cond.fieldLink RX2 17 "MapRevisions$Version" "set" "I", Cond.fieldLink RX2 20 "MapRevisions$Version" "minute" "I", Cond.fieldLink RX2 23 "MapRevisions$Version" "content" "LMapRevisions$Content;", Cond.fieldLink RX2 27 "MapRevisions$Version" "hidden" "Z", Cond.methodLink RX3 265 yX1_init, Cond.instanceMethod yX1_init, Cond.code yX1_init cX1_init 3 none, Cond.methodLink RX1 1 objectInit, Cond.fieldLink RX1 7 "MapRevisions$Thing" "kind" "I", Cond.fieldLink RX1 13 "MapRevisions$Thing" "last" "LMapRevisions$Version;", Cond.methodLink RX3 268 yJx4a65c_add_9ea2d, Cond.instanceMethod yJx4a65c_add_9ea2d, Cond.selects RJx4a65c yJx4a65c_add_9ea2d yJx4a65c_add_9ea2d, Cond.code yJx4a65c_add_9ea2d cJx4a65c_add_9ea2d 2 (some .boolean), Cond.fieldLink RJx4a65c 63 "java/util/ArrayList" "modCount" "I", Cond.sameField "java/util/ArrayList" "java/util/AbstractList" "modCount" "I", Cond.methodLink RJx4a65c 131 yJx4a65c_add_72be8, Cond.instanceMethod yJx4a65c_add_72be8, Cond.selects RJx4a65c yJx4a65c_add_72be8 yJx4a65c_add_72be8, Cond.code yJx4a65c_add_72be8 cJx4a65c_add_72be8 4 none]
def wsX3_make_r7 : List Cond := [Cond.methodLink RJx4a65c 129 yJx4a65c_grow_d5877, Cond.instanceMethod yJx4a65c_grow_d5877, Cond.selects RJx4a65c yJx4a65c_grow_d5877 yJx4a65c_grow_d5877, Cond.code yJx4a65c_grow_d5877 cJx4a65c_grow_d5877 1 (some (.array (.object "java/lang/Object"))), Cond.methodLink RJx4a65c 69 yJx4a65c_grow_92f84, Cond.instanceMethod yJx4a65c_grow_92f84, Cond.selects RJx4a65c yJx4a65c_grow_92f84 yJx4a65c_grow_92f84, Cond.code yJx4a65c_grow_92f84 cJx4a65c_grow_92f84 4 (some (.array (.object "java/lang/Object"))), Cond.fieldLink RJx4a65c 39 "java/util/ArrayList" "DEFAULTCAPACITY_EMPTY_ELEMENTDATA" "[Ljava/lang/Object;", Cond.methodLink RJx4a65c 79 Lib.Math.max.name, Cond.static Lib.Math.max.name, Cond.code Lib.Math.max.name Lib.Math.max.code 2 (some .int), Cond.classLink RJx4a65c 7 "java/lang/Object", Cond.methodLink RJx4a65c 73 yJ8_newLength_cabcc, Cond.static yJ8_newLength_cabcc, Cond.initialized RJ8, Cond.code yJ8_newLength_cabcc cJ8_newLength_cabcc 4 (some .int), Cond.methodLink RJ8 194 Lib.Math.max.name, Cond.constant RJ8 200 (2147483639), Cond.methodLink RJ8 201 yJ8_hugeLength_7cf53, Cond.static yJ8_hugeLength_7cf53, Cond.code yJ8_hugeLength_7cf53 cJ8_hugeLength_7cf53 3 (some .int), Cond.methodLink RJx4a65c 66 yJ7_copyOf_1904c, Cond.static yJ7_copyOf_1904c]
def wsX3_make_r8 : List Cond := [Cond.code yJ7_copyOf_1904c cJ7_copyOf_1904c 2 (some (.array (.object "java/lang/Object"))), Cond.methodLink RJ7 86 ⟨"java/lang/Object", "getClass", "()Ljava/lang/Class;"⟩, Cond.selects "[Ljava/lang/Object;" ⟨"java/lang/Object", "getClass", "()Ljava/lang/Class;"⟩ ⟨"java/lang/Object", "getClass", "()Ljava/lang/Class;"⟩, Cond.instanceMethod ⟨"java/lang/Object", "getClass", "()Ljava/lang/Class;"⟩, Cond.native ⟨"java/lang/Object", "getClass", "()Ljava/lang/Class;"⟩, Cond.methodLink RJ7 300 yJ7_copyOf_6403c, Cond.static yJ7_copyOf_6403c, Cond.code yJ7_copyOf_6403c cJ7_copyOf_6403c 4 (some (.array (.object "java/lang/Object"))), Cond.classLink RJ7 110 "[Ljava/lang/Object;", Cond.classLink RJ7 2 "java/lang/Object"]
def wsX3_make : List Cond := .code yX3_make cX3_make 4 (some .int) :: ((wsX3_make_r1 ++ (wsX3_make_r2 ++ (wsX3_make_r3 ++ (wsX3_make_r4 ++ (wsX3_make_r5 ++ (wsX3_make_r6 ++ (wsX3_make_r7 ++ wsX3_make_r8))))))) ++ wsX00 ++ wsX30 ++ wsJx4a65c0 ++ wsX10 ++ wsX20 ++ (vx_atS RX3 95 "java/lang/IllegalArgumentException" ["java/lang/RuntimeException", "java/lang/Exception"]).filter goodWord ++ (vx_atS RX3 236 "java/lang/IndexOutOfBoundsException" ["java/lang/RuntimeException", "java/lang/Exception"]).filter goodWord ++ (vx_atS RX3 59 "java/lang/IllegalStateException" ["java/lang/RuntimeException", "java/lang/Exception"]).filter goodWord)
def wsX3_bit : List Cond := .code yX3_bit cX3_bit 1 (some .long) :: ([])
def wsX3_bitsOf : List Cond := .code yX3_bitsOf cX3_bitsOf 7 (some .long) :: ([.methodLink RX3 169 yX3_bit, .static yX3_bit, .initialized RX3, .code yX3_bit cX3_bit 1 (some .long)])
def wsX3_usersOf_r1 : List Cond := [Cond.fieldLink RX3 25 "MapRevisions" "all" "Ljava/util/ArrayList;", Cond.classLink RX3 111 "MapRevisions$Thing", Cond.fieldLink RX3 138 "MapRevisions$Thing" "last" "LMapRevisions$Version;", Cond.fieldLink RX3 151 "MapRevisions$Version" "content" "LMapRevisions$Content;", Cond.fieldLink RX3 100 "MapRevisions$Content" "members" "[I", Cond.methodLink RX3 126 yJx4a65c_size_8abf5, Cond.instanceMethod yJx4a65c_size_8abf5, Cond.selects RJx4a65c yJx4a65c_size_8abf5 yJx4a65c_size_8abf5, Cond.initialized RJx4a65c, Cond.code yJx4a65c_size_8abf5 cJx4a65c_size_8abf5 1 (some .int), Cond.fieldLink RJx4a65c 48 "java/util/ArrayList" "size" "I", Cond.methodLink RX3 107 yJx4a65c_get_915e3, Cond.instanceMethod yJx4a65c_get_915e3, Cond.selects RJx4a65c yJx4a65c_get_915e3 yJx4a65c_get_915e3, Cond.code yJx4a65c_get_915e3 cJx4a65c_get_915e3 2 (some (.object "java/lang/Object")), Cond.methodLink RJx4a65c 118 yJ15_checkIndex_7cf53, Cond.static yJ15_checkIndex_7cf53, Cond.initialized RJ15, Cond.code yJ15_checkIndex_7cf53 cJ15_checkIndex_7cf53 2 (some .int), Cond.methodLink RJ15 105 yJ3_checkIndex_8e157, Cond.static yJ3_checkIndex_8e157, Cond.initialized RJ3, Cond.code yJ3_checkIndex_8e157 cJ3_checkIndex_8e157 3 (some .int), Cond.methodLink RJx4a65c 123 yJx4a65c_elementData_915e3]
def wsX3_usersOf_r2 : List Cond := [Cond.instanceMethod yJx4a65c_elementData_915e3, Cond.selects RJx4a65c yJx4a65c_elementData_915e3 yJx4a65c_elementData_915e3, Cond.code yJx4a65c_elementData_915e3 cJx4a65c_elementData_915e3 2 (some (.object "java/lang/Object")), Cond.fieldLink RJx4a65c 9 "java/util/ArrayList" "elementData" "[Ljava/lang/Object;", Cond.methodLink RX3 287 yX3_bitsOf, Cond.static yX3_bitsOf, Cond.initialized RX3, Cond.code yX3_bitsOf cX3_bitsOf 7 (some .long), Cond.methodLink RX3 169 yX3_bit, Cond.static yX3_bit, Cond.code yX3_bit cX3_bit 1 (some .long)]
def wsX3_usersOf : List Cond := .code yX3_usersOf cX3_usersOf 6 (some .long) :: ((wsX3_usersOf_r1 ++ wsX3_usersOf_r2) ++ wsX30 ++ wsX10 ++ wsX20 ++ wsX00 ++ wsJx4a65c0)
def wsX3_has : List Cond := .code yX3_has cX3_has 3 (some .boolean) :: ([.methodLink RX3 169 yX3_bit, .static yX3_bit, .initialized RX3, .code yX3_bit cX3_bit 1 (some .long)])
def wsX3_membersOf_r1 : List Cond := [Cond.fieldLink RX3 25 "MapRevisions" "all" "Ljava/util/ArrayList;", Cond.classLink RX3 111 "MapRevisions$Thing", Cond.fieldLink RX3 138 "MapRevisions$Thing" "last" "LMapRevisions$Version;", Cond.fieldLink RX3 151 "MapRevisions$Version" "content" "LMapRevisions$Content;", Cond.fieldLink RX3 100 "MapRevisions$Content" "members" "[I", Cond.methodLink RX3 126 yJx4a65c_size_8abf5, Cond.instanceMethod yJx4a65c_size_8abf5, Cond.selects RJx4a65c yJx4a65c_size_8abf5 yJx4a65c_size_8abf5, Cond.initialized RJx4a65c, Cond.code yJx4a65c_size_8abf5 cJx4a65c_size_8abf5 1 (some .int), Cond.fieldLink RJx4a65c 48 "java/util/ArrayList" "size" "I", Cond.methodLink RX3 291 yX3_has, Cond.static yX3_has, Cond.initialized RX3, Cond.code yX3_has cX3_has 3 (some .boolean), Cond.methodLink RX3 169 yX3_bit, Cond.static yX3_bit, Cond.code yX3_bit cX3_bit 1 (some .long), Cond.methodLink RX3 107 yJx4a65c_get_915e3, Cond.instanceMethod yJx4a65c_get_915e3, Cond.selects RJx4a65c yJx4a65c_get_915e3 yJx4a65c_get_915e3, Cond.code yJx4a65c_get_915e3 cJx4a65c_get_915e3 2 (some (.object "java/lang/Object")), Cond.methodLink RJx4a65c 118 yJ15_checkIndex_7cf53, Cond.static yJ15_checkIndex_7cf53]
def wsX3_membersOf_r2 : List Cond := [Cond.initialized RJ15, Cond.code yJ15_checkIndex_7cf53 cJ15_checkIndex_7cf53 2 (some .int), Cond.methodLink RJ15 105 yJ3_checkIndex_8e157, Cond.static yJ3_checkIndex_8e157, Cond.initialized RJ3, Cond.code yJ3_checkIndex_8e157 cJ3_checkIndex_8e157 3 (some .int), Cond.methodLink RJx4a65c 123 yJx4a65c_elementData_915e3, Cond.instanceMethod yJx4a65c_elementData_915e3, Cond.selects RJx4a65c yJx4a65c_elementData_915e3 yJx4a65c_elementData_915e3, Cond.code yJx4a65c_elementData_915e3 cJx4a65c_elementData_915e3 2 (some (.object "java/lang/Object")), Cond.fieldLink RJx4a65c 9 "java/util/ArrayList" "elementData" "[Ljava/lang/Object;", Cond.methodLink RX3 287 yX3_bitsOf, Cond.static yX3_bitsOf, Cond.code yX3_bitsOf cX3_bitsOf 7 (some .long)]
def wsX3_membersOf : List Cond := .code yX3_membersOf cX3_membersOf 6 (some .long) :: ((wsX3_membersOf_r1 ++ wsX3_membersOf_r2) ++ wsX30 ++ wsX10 ++ wsX20 ++ wsX00 ++ wsJx4a65c0)
def wsX3_leadsTo_r1 : List Cond := [Cond.fieldLink RX3 25 "MapRevisions" "all" "Ljava/util/ArrayList;", Cond.methodLink RX3 287 yX3_bitsOf, Cond.static yX3_bitsOf, Cond.initialized RX3, Cond.code yX3_bitsOf cX3_bitsOf 7 (some .long), Cond.methodLink RX3 169 yX3_bit, Cond.static yX3_bit, Cond.code yX3_bit cX3_bit 1 (some .long), Cond.methodLink RX3 126 yJx4a65c_size_8abf5, Cond.instanceMethod yJx4a65c_size_8abf5, Cond.selects RJx4a65c yJx4a65c_size_8abf5 yJx4a65c_size_8abf5, Cond.initialized RJx4a65c, Cond.code yJx4a65c_size_8abf5 cJx4a65c_size_8abf5 1 (some .int), Cond.fieldLink RJx4a65c 48 "java/util/ArrayList" "size" "I", Cond.methodLink RX3 216 yX3_membersOf, Cond.instanceMethod yX3_membersOf, Cond.selects RX3 yX3_membersOf yX3_membersOf, Cond.code yX3_membersOf cX3_membersOf 6 (some .long), Cond.classLink RX3 111 "MapRevisions$Thing", Cond.fieldLink RX3 138 "MapRevisions$Thing" "last" "LMapRevisions$Version;", Cond.fieldLink RX3 151 "MapRevisions$Version" "content" "LMapRevisions$Content;", Cond.fieldLink RX3 100 "MapRevisions$Content" "members" "[I", Cond.methodLink RX3 291 yX3_has, Cond.static yX3_has]
def wsX3_leadsTo_r2 : List Cond := [Cond.code yX3_has cX3_has 3 (some .boolean), Cond.methodLink RX3 107 yJx4a65c_get_915e3, Cond.instanceMethod yJx4a65c_get_915e3, Cond.selects RJx4a65c yJx4a65c_get_915e3 yJx4a65c_get_915e3, Cond.code yJx4a65c_get_915e3 cJx4a65c_get_915e3 2 (some (.object "java/lang/Object")), Cond.methodLink RJx4a65c 118 yJ15_checkIndex_7cf53, Cond.static yJ15_checkIndex_7cf53, Cond.initialized RJ15, Cond.code yJ15_checkIndex_7cf53 cJ15_checkIndex_7cf53 2 (some .int), Cond.methodLink RJ15 105 yJ3_checkIndex_8e157, Cond.static yJ3_checkIndex_8e157, Cond.initialized RJ3, Cond.code yJ3_checkIndex_8e157 cJ3_checkIndex_8e157 3 (some .int), Cond.methodLink RJx4a65c 123 yJx4a65c_elementData_915e3, Cond.instanceMethod yJx4a65c_elementData_915e3, Cond.selects RJx4a65c yJx4a65c_elementData_915e3 yJx4a65c_elementData_915e3, Cond.code yJx4a65c_elementData_915e3 cJx4a65c_elementData_915e3 2 (some (.object "java/lang/Object")), Cond.fieldLink RJx4a65c 9 "java/util/ArrayList" "elementData" "[Ljava/lang/Object;"]
def wsX3_leadsTo : List Cond := .code yX3_leadsTo cX3_leadsTo 8 (some .boolean) :: ((wsX3_leadsTo_r1 ++ wsX3_leadsTo_r2) ++ wsX30 ++ wsJx4a65c0 ++ wsX10 ++ wsX20 ++ wsX00)
def wsX3_refusalOf_r1 : List Cond := [Cond.fieldLink RX3 154 "MapRevisions$Content" "there" "Z", Cond.fieldLink RX3 25 "MapRevisions" "all" "Ljava/util/ArrayList;", Cond.classLink RX3 111 "MapRevisions$Thing", Cond.fieldLink RX3 113 "MapRevisions$Thing" "kind" "I", Cond.fieldLink RX3 100 "MapRevisions$Content" "members" "[I", Cond.methodLink RX3 169 yX3_bit, Cond.static yX3_bit, Cond.initialized RX3, Cond.code yX3_bit cX3_bit 1 (some .long), Cond.methodLink RX3 173 yX3_usersOf, Cond.instanceMethod yX3_usersOf, Cond.selects RX3 yX3_usersOf yX3_usersOf, Cond.code yX3_usersOf cX3_usersOf 6 (some .long), Cond.fieldLink RX3 138 "MapRevisions$Thing" "last" "LMapRevisions$Version;", Cond.fieldLink RX3 151 "MapRevisions$Version" "content" "LMapRevisions$Content;", Cond.methodLink RX3 126 yJx4a65c_size_8abf5, Cond.instanceMethod yJx4a65c_size_8abf5, Cond.selects RJx4a65c yJx4a65c_size_8abf5 yJx4a65c_size_8abf5, Cond.initialized RJx4a65c, Cond.code yJx4a65c_size_8abf5 cJx4a65c_size_8abf5 1 (some .int), Cond.fieldLink RJx4a65c 48 "java/util/ArrayList" "size" "I", Cond.methodLink RX3 107 yJx4a65c_get_915e3, Cond.instanceMethod yJx4a65c_get_915e3, Cond.selects RJx4a65c yJx4a65c_get_915e3 yJx4a65c_get_915e3]
def wsX3_refusalOf_r2 : List Cond := [Cond.code yJx4a65c_get_915e3 cJx4a65c_get_915e3 2 (some (.object "java/lang/Object")), Cond.methodLink RJx4a65c 118 yJ15_checkIndex_7cf53, Cond.static yJ15_checkIndex_7cf53, Cond.initialized RJ15, Cond.code yJ15_checkIndex_7cf53 cJ15_checkIndex_7cf53 2 (some .int), Cond.methodLink RJ15 105 yJ3_checkIndex_8e157, Cond.static yJ3_checkIndex_8e157, Cond.initialized RJ3, Cond.code yJ3_checkIndex_8e157 cJ3_checkIndex_8e157 3 (some .int), Cond.methodLink RJx4a65c 123 yJx4a65c_elementData_915e3, Cond.instanceMethod yJx4a65c_elementData_915e3, Cond.selects RJx4a65c yJx4a65c_elementData_915e3 yJx4a65c_elementData_915e3, Cond.code yJx4a65c_elementData_915e3 cJx4a65c_elementData_915e3 2 (some (.object "java/lang/Object")), Cond.fieldLink RJx4a65c 9 "java/util/ArrayList" "elementData" "[Ljava/lang/Object;", Cond.methodLink RX3 287 yX3_bitsOf, Cond.static yX3_bitsOf, Cond.code yX3_bitsOf cX3_bitsOf 7 (some .long), Cond.methodLink RX3 103 yX3_isRowFor, Cond.instanceMethod yX3_isRowFor, Cond.selects RX3 yX3_isRowFor yX3_isRowFor, Cond.code yX3_isRowFor cX3_isRowFor 7 (some .boolean), Cond.methodLink RX3 147 yX3_isNow, Cond.instanceMethod yX3_isNow, Cond.selects RX3 yX3_isNow yX3_isNow]
def wsX3_refusalOf_r3 : List Cond := [Cond.code yX3_isNow cX3_isNow 2 (some .boolean), Cond.methodLink RX3 237 yX3_isKnown, Cond.instanceMethod yX3_isKnown, Cond.selects RX3 yX3_isKnown yX3_isKnown, Cond.code yX3_isKnown cX3_isKnown 2 (some .boolean), Cond.methodLink RX3 283 yX3_leadsTo, Cond.instanceMethod yX3_leadsTo, Cond.selects RX3 yX3_leadsTo yX3_leadsTo, Cond.code yX3_leadsTo cX3_leadsTo 8 (some .boolean), Cond.methodLink RX3 216 yX3_membersOf, Cond.instanceMethod yX3_membersOf, Cond.selects RX3 yX3_membersOf yX3_membersOf, Cond.code yX3_membersOf cX3_membersOf 6 (some .long), Cond.methodLink RX3 291 yX3_has, Cond.static yX3_has, Cond.code yX3_has cX3_has 3 (some .boolean)]
def wsX3_refusalOf : List Cond := .code yX3_refusalOf cX3_refusalOf 4 (some .int) :: ((wsX3_refusalOf_r1 ++ (wsX3_refusalOf_r2 ++ wsX3_refusalOf_r3)) ++ wsX00 ++ wsX30 ++ wsX10 ++ wsX20 ++ wsJx4a65c0)
def wsX3_addVersion_r1 : List Cond := [Cond.fieldLink RX3 138 "MapRevisions$Thing" "last" "LMapRevisions$Version;", Cond.fieldLink RX3 142 "MapRevisions$Version" "number" "I", Cond.methodLink RX3 261 yX3_newVersion, Cond.instanceMethod yX3_newVersion, Cond.selects RX3 yX3_newVersion yX3_newVersion, Cond.initialized RX3, Cond.code yX3_newVersion cX3_newVersion 4 (some (.object "MapRevisions$Version")), Cond.fieldLink RX3 46 "MapRevisions" "versions" "I", Cond.fieldLink RX3 33 "MapRevisions" "versionsOf" "[I", Cond.classLink RX3 143 RX2, Cond.instantiable RX2 6, Cond.initialized RX2, Cond.fieldLink RX3 49 "MapRevisions" "now" "I", Cond.methodLink RX3 272 yX2_init, Cond.instanceMethod yX2_init, Cond.code yX2_init cX2_init 5 none, Cond.methodLink RX2 1 objectInit, Cond.instanceMethod objectInit, Cond.code objectInit ⟨#[0xb1]⟩ 1 none, Cond.fieldLink RX2 7 "MapRevisions$Version" "before" "LMapRevisions$Version;", Cond.fieldLink RX2 13 "MapRevisions$Version" "number" "I", Cond.fieldLink RX2 17 "MapRevisions$Version" "set" "I", Cond.fieldLink RX2 20 "MapRevisions$Version" "minute" "I", Cond.fieldLink RX2 23 "MapRevisions$Version" "content" "LMapRevisions$Content;"]
def wsX3_addVersion_r2 : List Cond := [Cond.fieldLink RX2 27 "MapRevisions$Version" "hidden" "Z"]
def wsX3_addVersion : List Cond := .code yX3_addVersion cX3_addVersion 4 (some .int) :: ((wsX3_addVersion_r1 ++ wsX3_addVersion_r2) ++ wsX10 ++ wsX20 ++ wsX30)
def wsX3_edit_r1 : List Cond := [Cond.fieldLink RX3 25 "MapRevisions" "all" "Ljava/util/ArrayList;", Cond.classLink RX3 111 "MapRevisions$Thing", Cond.fieldLink RX3 138 "MapRevisions$Thing" "last" "LMapRevisions$Version;", Cond.fieldLink RX3 151 "MapRevisions$Version" "content" "LMapRevisions$Content;", Cond.fieldLink RX3 154 "MapRevisions$Content" "there" "Z", Cond.fieldLink RX3 142 "MapRevisions$Version" "number" "I", Cond.methodLink RX3 107 yJx4a65c_get_915e3, Cond.instanceMethod yJx4a65c_get_915e3, Cond.selects RJx4a65c yJx4a65c_get_915e3 yJx4a65c_get_915e3, Cond.initialized RJx4a65c, Cond.code yJx4a65c_get_915e3 cJx4a65c_get_915e3 2 (some (.object "java/lang/Object")), Cond.fieldLink RJx4a65c 48 "java/util/ArrayList" "size" "I", Cond.methodLink RJx4a65c 118 yJ15_checkIndex_7cf53, Cond.static yJ15_checkIndex_7cf53, Cond.initialized RJ15, Cond.code yJ15_checkIndex_7cf53 cJ15_checkIndex_7cf53 2 (some .int), Cond.methodLink RJ15 105 yJ3_checkIndex_8e157, Cond.static yJ3_checkIndex_8e157, Cond.initialized RJ3, Cond.code yJ3_checkIndex_8e157 cJ3_checkIndex_8e157 3 (some .int), Cond.methodLink RJx4a65c 123 yJx4a65c_elementData_915e3, Cond.instanceMethod yJx4a65c_elementData_915e3, Cond.selects RJx4a65c yJx4a65c_elementData_915e3 yJx4a65c_elementData_915e3, Cond.code yJx4a65c_elementData_915e3 cJx4a65c_elementData_915e3 2 (some (.object "java/lang/Object"))]
def wsX3_edit_r2 : List Cond := [Cond.fieldLink RJx4a65c 9 "java/util/ArrayList" "elementData" "[Ljava/lang/Object;", Cond.methodLink RX3 275 yX3_refusalOf, Cond.instanceMethod yX3_refusalOf, Cond.selects RX3 yX3_refusalOf yX3_refusalOf, Cond.initialized RX3, Cond.code yX3_refusalOf cX3_refusalOf 4 (some .int), Cond.fieldLink RX3 113 "MapRevisions$Thing" "kind" "I", Cond.fieldLink RX3 100 "MapRevisions$Content" "members" "[I", Cond.methodLink RX3 169 yX3_bit, Cond.static yX3_bit, Cond.code yX3_bit cX3_bit 1 (some .long), Cond.methodLink RX3 173 yX3_usersOf, Cond.instanceMethod yX3_usersOf, Cond.selects RX3 yX3_usersOf yX3_usersOf, Cond.code yX3_usersOf cX3_usersOf 6 (some .long), Cond.methodLink RX3 126 yJx4a65c_size_8abf5, Cond.instanceMethod yJx4a65c_size_8abf5, Cond.selects RJx4a65c yJx4a65c_size_8abf5 yJx4a65c_size_8abf5, Cond.code yJx4a65c_size_8abf5 cJx4a65c_size_8abf5 1 (some .int), Cond.methodLink RX3 287 yX3_bitsOf, Cond.static yX3_bitsOf, Cond.code yX3_bitsOf cX3_bitsOf 7 (some .long), Cond.methodLink RX3 103 yX3_isRowFor, Cond.instanceMethod yX3_isRowFor]
def wsX3_edit_r3 : List Cond := [Cond.selects RX3 yX3_isRowFor yX3_isRowFor, Cond.code yX3_isRowFor cX3_isRowFor 7 (some .boolean), Cond.methodLink RX3 147 yX3_isNow, Cond.instanceMethod yX3_isNow, Cond.selects RX3 yX3_isNow yX3_isNow, Cond.code yX3_isNow cX3_isNow 2 (some .boolean), Cond.methodLink RX3 237 yX3_isKnown, Cond.instanceMethod yX3_isKnown, Cond.selects RX3 yX3_isKnown yX3_isKnown, Cond.code yX3_isKnown cX3_isKnown 2 (some .boolean), Cond.methodLink RX3 283 yX3_leadsTo, Cond.instanceMethod yX3_leadsTo, Cond.selects RX3 yX3_leadsTo yX3_leadsTo, Cond.code yX3_leadsTo cX3_leadsTo 8 (some .boolean), Cond.methodLink RX3 216 yX3_membersOf, Cond.instanceMethod yX3_membersOf, Cond.selects RX3 yX3_membersOf yX3_membersOf, Cond.code yX3_membersOf cX3_membersOf 6 (some .long), Cond.methodLink RX3 291 yX3_has, Cond.static yX3_has, Cond.code yX3_has cX3_has 3 (some .boolean), Cond.methodLink RX3 279 yX3_addVersion, Cond.instanceMethod yX3_addVersion, Cond.selects RX3 yX3_addVersion yX3_addVersion]
def wsX3_edit_r4 : List Cond := [Cond.code yX3_addVersion cX3_addVersion 4 (some .int), Cond.methodLink RX3 261 yX3_newVersion, Cond.instanceMethod yX3_newVersion, Cond.selects RX3 yX3_newVersion yX3_newVersion, Cond.code yX3_newVersion cX3_newVersion 4 (some (.object "MapRevisions$Version")), Cond.fieldLink RX3 46 "MapRevisions" "versions" "I", Cond.fieldLink RX3 33 "MapRevisions" "versionsOf" "[I", Cond.classLink RX3 143 RX2, Cond.instantiable RX2 6, Cond.initialized RX2, Cond.fieldLink RX3 49 "MapRevisions" "now" "I", Cond.methodLink RX3 272 yX2_init, Cond.instanceMethod yX2_init, Cond.code yX2_init cX2_init 5 none, Cond.methodLink RX2 1 objectInit, Cond.instanceMethod objectInit, Cond.code objectInit ⟨#[0xb1]⟩ 1 none, Cond.fieldLink RX2 7 "MapRevisions$Version" "before" "LMapRevisions$Version;", Cond.fieldLink RX2 13 "MapRevisions$Version" "number" "I", Cond.fieldLink RX2 17 "MapRevisions$Version" "set" "I", Cond.fieldLink RX2 20 "MapRevisions$Version" "minute" "I", Cond.fieldLink RX2 23 "MapRevisions$Version" "content" "LMapRevisions$Content;", Cond.fieldLink RX2 27 "MapRevisions$Version" "hidden" "Z"]
def wsX3_edit : List Cond := .code yX3_edit cX3_edit 7 (some .int) :: ((wsX3_edit_r1 ++ (wsX3_edit_r2 ++ (wsX3_edit_r3 ++ wsX3_edit_r4))) ++ wsX30 ++ wsX10 ++ wsX20 ++ wsX00 ++ wsJx4a65c0)
def wsX3_move_r1 : List Cond := [Cond.classLink RX3 91 "java/lang/IllegalArgumentException", Cond.initialized "java/lang/IllegalArgumentException", Cond.fieldLink RX3 25 "MapRevisions" "all" "Ljava/util/ArrayList;", Cond.classLink RX3 111 "MapRevisions$Thing", Cond.fieldLink RX3 113 "MapRevisions$Thing" "kind" "I", Cond.methodLink RX3 62 yX3_needSet, Cond.instanceMethod yX3_needSet, Cond.selects RX3 yX3_needSet yX3_needSet, Cond.initialized RX3, Cond.code yX3_needSet cX3_needSet 2 none, Cond.classLink RX3 232 "java/lang/IndexOutOfBoundsException", Cond.initialized "java/lang/IndexOutOfBoundsException", Cond.fieldLink RX3 39 "MapRevisions" "sets" "I", Cond.methodLink RX3 68 yX3_needThing, Cond.instanceMethod yX3_needThing, Cond.selects RX3 yX3_needThing yX3_needThing, Cond.code yX3_needThing cX3_needThing 2 none, Cond.methodLink RX3 237 yX3_isKnown, Cond.instanceMethod yX3_isKnown, Cond.selects RX3 yX3_isKnown yX3_isKnown, Cond.code yX3_isKnown cX3_isKnown 2 (some .boolean), Cond.methodLink RX3 126 yJx4a65c_size_8abf5, Cond.instanceMethod yJx4a65c_size_8abf5, Cond.selects RJx4a65c yJx4a65c_size_8abf5 yJx4a65c_size_8abf5]
def wsX3_move_r2 : List Cond := [Cond.initialized RJx4a65c, Cond.code yJx4a65c_size_8abf5 cJx4a65c_size_8abf5 1 (some .int), Cond.fieldLink RJx4a65c 48 "java/util/ArrayList" "size" "I", Cond.methodLink RX3 107 yJx4a65c_get_915e3, Cond.instanceMethod yJx4a65c_get_915e3, Cond.selects RJx4a65c yJx4a65c_get_915e3 yJx4a65c_get_915e3, Cond.code yJx4a65c_get_915e3 cJx4a65c_get_915e3 2 (some (.object "java/lang/Object")), Cond.methodLink RJx4a65c 118 yJ15_checkIndex_7cf53, Cond.static yJ15_checkIndex_7cf53, Cond.initialized RJ15, Cond.code yJ15_checkIndex_7cf53 cJ15_checkIndex_7cf53 2 (some .int), Cond.methodLink RJ15 105 yJ3_checkIndex_8e157, Cond.static yJ3_checkIndex_8e157, Cond.initialized RJ3, Cond.code yJ3_checkIndex_8e157 cJ3_checkIndex_8e157 3 (some .int), Cond.methodLink RJx4a65c 123 yJx4a65c_elementData_915e3, Cond.instanceMethod yJx4a65c_elementData_915e3, Cond.selects RJx4a65c yJx4a65c_elementData_915e3 yJx4a65c_elementData_915e3, Cond.code yJx4a65c_elementData_915e3 cJx4a65c_elementData_915e3 2 (some (.object "java/lang/Object")), Cond.fieldLink RJx4a65c 9 "java/util/ArrayList" "elementData" "[Ljava/lang/Object;", Cond.methodLink RX3 73 yX3_needPlace, Cond.instanceMethod yX3_needPlace, Cond.selects RX3 yX3_needPlace yX3_needPlace, Cond.code yX3_needPlace cX3_needPlace 3 none]
def wsX3_move_r3 : List Cond := [Cond.methodLink RX3 77 yX3_needOpen, Cond.instanceMethod yX3_needOpen, Cond.selects RX3 yX3_needOpen yX3_needOpen, Cond.code yX3_needOpen cX3_needOpen 2 none, Cond.classLink RX3 55 "java/lang/IllegalStateException", Cond.initialized "java/lang/IllegalStateException", Cond.fieldLink RX3 29 "MapRevisions" "closed" "[Z", Cond.fieldLink RX3 46 "MapRevisions" "versions" "I", Cond.methodLink RX3 83 yX3_contentOfPoint, Cond.instanceMethod yX3_contentOfPoint, Cond.selects RX3 yX3_contentOfPoint yX3_contentOfPoint, Cond.code yX3_contentOfPoint cX3_contentOfPoint 3 (some (.object "MapRevisions$Content")), Cond.classLink RX3 13 RX0, Cond.instantiable RX0 4, Cond.initialized RX0, Cond.fieldLink RX3 7 "MapRevisions" "none" "[I", Cond.methodLink RX3 15 yX0_init, Cond.instanceMethod yX0_init, Cond.code yX0_init cX0_init 5 none, Cond.methodLink RX0 1 objectInit, Cond.instanceMethod objectInit, Cond.code objectInit ⟨#[0xb1]⟩ 1 none, Cond.fieldLink RX0 7 "MapRevisions$Content" "there" "Z", Cond.fieldLink RX0 13 "MapRevisions$Content" "x" "I"]
def wsX3_move_r4 : List Cond := [Cond.fieldLink RX0 17 "MapRevisions$Content" "y" "I", Cond.fieldLink RX0 20 "MapRevisions$Content" "members" "[I", Cond.methodLink RX3 118 yX3_edit, Cond.instanceMethod yX3_edit, Cond.selects RX3 yX3_edit yX3_edit, Cond.code yX3_edit cX3_edit 7 (some .int), Cond.fieldLink RX3 138 "MapRevisions$Thing" "last" "LMapRevisions$Version;", Cond.fieldLink RX3 151 "MapRevisions$Version" "content" "LMapRevisions$Content;", Cond.fieldLink RX3 154 "MapRevisions$Content" "there" "Z", Cond.fieldLink RX3 142 "MapRevisions$Version" "number" "I", Cond.methodLink RX3 275 yX3_refusalOf, Cond.instanceMethod yX3_refusalOf, Cond.selects RX3 yX3_refusalOf yX3_refusalOf, Cond.code yX3_refusalOf cX3_refusalOf 4 (some .int), Cond.fieldLink RX3 100 "MapRevisions$Content" "members" "[I", Cond.methodLink RX3 169 yX3_bit, Cond.static yX3_bit, Cond.code yX3_bit cX3_bit 1 (some .long), Cond.methodLink RX3 173 yX3_usersOf, Cond.instanceMethod yX3_usersOf, Cond.selects RX3 yX3_usersOf yX3_usersOf, Cond.code yX3_usersOf cX3_usersOf 6 (some .long), Cond.methodLink RX3 287 yX3_bitsOf, Cond.static yX3_bitsOf]
def wsX3_move_r5 : List Cond := [Cond.code yX3_bitsOf cX3_bitsOf 7 (some .long), Cond.methodLink RX3 103 yX3_isRowFor, Cond.instanceMethod yX3_isRowFor, Cond.selects RX3 yX3_isRowFor yX3_isRowFor, Cond.code yX3_isRowFor cX3_isRowFor 7 (some .boolean), Cond.methodLink RX3 147 yX3_isNow, Cond.instanceMethod yX3_isNow, Cond.selects RX3 yX3_isNow yX3_isNow, Cond.code yX3_isNow cX3_isNow 2 (some .boolean), Cond.methodLink RX3 283 yX3_leadsTo, Cond.instanceMethod yX3_leadsTo, Cond.selects RX3 yX3_leadsTo yX3_leadsTo, Cond.code yX3_leadsTo cX3_leadsTo 8 (some .boolean), Cond.methodLink RX3 216 yX3_membersOf, Cond.instanceMethod yX3_membersOf, Cond.selects RX3 yX3_membersOf yX3_membersOf, Cond.code yX3_membersOf cX3_membersOf 6 (some .long), Cond.methodLink RX3 291 yX3_has, Cond.static yX3_has, Cond.code yX3_has cX3_has 3 (some .boolean), Cond.methodLink RX3 279 yX3_addVersion, Cond.instanceMethod yX3_addVersion, Cond.selects RX3 yX3_addVersion yX3_addVersion, Cond.code yX3_addVersion cX3_addVersion 4 (some .int)]
def wsX3_move_r6 : List Cond := [Cond.methodLink RX3 261 yX3_newVersion, Cond.instanceMethod yX3_newVersion, Cond.selects RX3 yX3_newVersion yX3_newVersion, Cond.code yX3_newVersion cX3_newVersion 4 (some (.object "MapRevisions$Version")), Cond.fieldLink RX3 33 "MapRevisions" "versionsOf" "[I", Cond.classLink RX3 143 RX2, Cond.instantiable RX2 6, Cond.initialized RX2, Cond.fieldLink RX3 49 "MapRevisions" "now" "I", Cond.methodLink RX3 272 yX2_init, Cond.instanceMethod yX2_init, Cond.code yX2_init cX2_init 5 none, Cond.methodLink RX2 1 objectInit, Cond.fieldLink RX2 7 "MapRevisions$Version" "before" "LMapRevisions$Version;", Cond.fieldLink RX2 13 "MapRevisions$Version" "number" "I", Cond.fieldLink RX2 17 "MapRevisions$Version" "set" "I", Cond.fieldLink RX2 20 "MapRevisions$Version" "minute" "I", Cond.fieldLink RX2 23 "MapRevisions$Version" "content" "LMapRevisions$Content;", Cond.fieldLink RX2 27 "MapRevisions$Version" "hidden" "Z"]
def wsX3_move : List Cond := .code yX3_move cX3_move 6 (some .int) :: ((wsX3_move_r1 ++ (wsX3_move_r2 ++ (wsX3_move_r3 ++ (wsX3_move_r4 ++ (wsX3_move_r5 ++ wsX3_move_r6))))) ++ wsX30 ++ wsX10 ++ wsJx4a65c0 ++ wsX00 ++ wsX20 ++ (vx_atS RX3 95 "java/lang/IllegalArgumentException" ["java/lang/RuntimeException", "java/lang/Exception"]).filter goodWord ++ (vx_atS RX3 236 "java/lang/IndexOutOfBoundsException" ["java/lang/RuntimeException", "java/lang/Exception"]).filter goodWord ++ (vx_atS RX3 59 "java/lang/IllegalStateException" ["java/lang/RuntimeException", "java/lang/Exception"]).filter goodWord)
def wsX3_change_r1 : List Cond := [Cond.classLink RX3 91 "java/lang/IllegalArgumentException", Cond.initialized "java/lang/IllegalArgumentException", Cond.fieldLink RX3 25 "MapRevisions" "all" "Ljava/util/ArrayList;", Cond.classLink RX3 111 "MapRevisions$Thing", Cond.fieldLink RX3 113 "MapRevisions$Thing" "kind" "I", Cond.methodLink RX3 62 yX3_needSet, Cond.instanceMethod yX3_needSet, Cond.selects RX3 yX3_needSet yX3_needSet, Cond.initialized RX3, Cond.code yX3_needSet cX3_needSet 2 none, Cond.classLink RX3 232 "java/lang/IndexOutOfBoundsException", Cond.initialized "java/lang/IndexOutOfBoundsException", Cond.fieldLink RX3 39 "MapRevisions" "sets" "I", Cond.methodLink RX3 68 yX3_needThing, Cond.instanceMethod yX3_needThing, Cond.selects RX3 yX3_needThing yX3_needThing, Cond.code yX3_needThing cX3_needThing 2 none, Cond.methodLink RX3 237 yX3_isKnown, Cond.instanceMethod yX3_isKnown, Cond.selects RX3 yX3_isKnown yX3_isKnown, Cond.code yX3_isKnown cX3_isKnown 2 (some .boolean), Cond.methodLink RX3 126 yJx4a65c_size_8abf5, Cond.instanceMethod yJx4a65c_size_8abf5, Cond.selects RJx4a65c yJx4a65c_size_8abf5 yJx4a65c_size_8abf5]
def wsX3_change_r2 : List Cond := [Cond.initialized RJx4a65c, Cond.code yJx4a65c_size_8abf5 cJx4a65c_size_8abf5 1 (some .int), Cond.fieldLink RJx4a65c 48 "java/util/ArrayList" "size" "I", Cond.methodLink RX3 107 yJx4a65c_get_915e3, Cond.instanceMethod yJx4a65c_get_915e3, Cond.selects RJx4a65c yJx4a65c_get_915e3 yJx4a65c_get_915e3, Cond.code yJx4a65c_get_915e3 cJx4a65c_get_915e3 2 (some (.object "java/lang/Object")), Cond.methodLink RJx4a65c 118 yJ15_checkIndex_7cf53, Cond.static yJ15_checkIndex_7cf53, Cond.initialized RJ15, Cond.code yJ15_checkIndex_7cf53 cJ15_checkIndex_7cf53 2 (some .int), Cond.methodLink RJ15 105 yJ3_checkIndex_8e157, Cond.static yJ3_checkIndex_8e157, Cond.initialized RJ3, Cond.code yJ3_checkIndex_8e157 cJ3_checkIndex_8e157 3 (some .int), Cond.methodLink RJx4a65c 123 yJx4a65c_elementData_915e3, Cond.instanceMethod yJx4a65c_elementData_915e3, Cond.selects RJx4a65c yJx4a65c_elementData_915e3 yJx4a65c_elementData_915e3, Cond.code yJx4a65c_elementData_915e3 cJx4a65c_elementData_915e3 2 (some (.object "java/lang/Object")), Cond.fieldLink RJx4a65c 9 "java/util/ArrayList" "elementData" "[Ljava/lang/Object;", Cond.methodLink RX3 77 yX3_needOpen, Cond.instanceMethod yX3_needOpen, Cond.selects RX3 yX3_needOpen yX3_needOpen, Cond.code yX3_needOpen cX3_needOpen 2 none]
def wsX3_change_r3 : List Cond := [Cond.classLink RX3 55 "java/lang/IllegalStateException", Cond.initialized "java/lang/IllegalStateException", Cond.fieldLink RX3 29 "MapRevisions" "closed" "[Z", Cond.fieldLink RX3 46 "MapRevisions" "versions" "I", Cond.methodLink RX3 96 yX3_contentOfDraft, Cond.instanceMethod yX3_contentOfDraft, Cond.selects RX3 yX3_contentOfDraft yX3_contentOfDraft, Cond.code yX3_contentOfDraft cX3_contentOfDraft 1 (some (.object "MapRevisions$Content")), Cond.classLink RX3 13 RX0, Cond.instantiable RX0 4, Cond.initialized RX0, Cond.fieldLink RX3 36 "MapRevisions" "draft" "[I", Cond.fieldLink RX3 43 "MapRevisions" "drafted" "I", Cond.methodLink RX3 255 yJ7_copyOf_59c91, Cond.static yJ7_copyOf_59c91, Cond.initialized RJ7, Cond.code yJ7_copyOf_59c91 cJ7_copyOf_59c91 3 (some (.array .int)), Cond.methodLink RJ7 316 ⟨"[I", "clone", "()Ljava/lang/Object;"⟩, Cond.sameMethod "[I" "java/lang/Object" "clone" "()Ljava/lang/Object;", Cond.native ⟨"java/lang/Object", "clone", "()Ljava/lang/Object;"⟩, Cond.instanceMethod ⟨"java/lang/Object", "clone", "()Ljava/lang/Object;"⟩, Cond.selects "[I" ⟨"[I", "clone", "()Ljava/lang/Object;"⟩ ⟨"java/lang/Object", "clone", "()Ljava/lang/Object;"⟩, Cond.classLink RJ7 317 "[I", Cond.arrayClass .int]
def wsX3_change_r4 : List Cond := [Cond.methodLink RJ7 304 Lib.Math.min.name, Cond.static Lib.Math.min.name, Cond.initialized "java/lang/Math", Cond.code Lib.Math.min.name Lib.Math.min.code 2 (some .int), Cond.methodLink RJ7 150 arraycopyName, Cond.native arraycopyName, Cond.static arraycopyName, Cond.initialized "java/lang/System", Cond.methodLink RX3 15 yX0_init, Cond.instanceMethod yX0_init, Cond.code yX0_init cX0_init 5 none, Cond.methodLink RX0 1 objectInit, Cond.instanceMethod objectInit, Cond.code objectInit ⟨#[0xb1]⟩ 1 none, Cond.fieldLink RX0 7 "MapRevisions$Content" "there" "Z", Cond.fieldLink RX0 13 "MapRevisions$Content" "x" "I", Cond.fieldLink RX0 17 "MapRevisions$Content" "y" "I", Cond.fieldLink RX0 20 "MapRevisions$Content" "members" "[I", Cond.methodLink RX3 118 yX3_edit, Cond.instanceMethod yX3_edit, Cond.selects RX3 yX3_edit yX3_edit, Cond.code yX3_edit cX3_edit 7 (some .int), Cond.fieldLink RX3 138 "MapRevisions$Thing" "last" "LMapRevisions$Version;", Cond.fieldLink RX3 151 "MapRevisions$Version" "content" "LMapRevisions$Content;"]
def wsX3_change_r5 : List Cond := [Cond.fieldLink RX3 154 "MapRevisions$Content" "there" "Z", Cond.fieldLink RX3 142 "MapRevisions$Version" "number" "I", Cond.methodLink RX3 275 yX3_refusalOf, Cond.instanceMethod yX3_refusalOf, Cond.selects RX3 yX3_refusalOf yX3_refusalOf, Cond.code yX3_refusalOf cX3_refusalOf 4 (some .int), Cond.fieldLink RX3 100 "MapRevisions$Content" "members" "[I", Cond.methodLink RX3 169 yX3_bit, Cond.static yX3_bit, Cond.code yX3_bit cX3_bit 1 (some .long), Cond.methodLink RX3 173 yX3_usersOf, Cond.instanceMethod yX3_usersOf, Cond.selects RX3 yX3_usersOf yX3_usersOf, Cond.code yX3_usersOf cX3_usersOf 6 (some .long), Cond.methodLink RX3 287 yX3_bitsOf, Cond.static yX3_bitsOf, Cond.code yX3_bitsOf cX3_bitsOf 7 (some .long), Cond.methodLink RX3 103 yX3_isRowFor, Cond.instanceMethod yX3_isRowFor, Cond.selects RX3 yX3_isRowFor yX3_isRowFor, Cond.code yX3_isRowFor cX3_isRowFor 7 (some .boolean), Cond.methodLink RX3 147 yX3_isNow, Cond.instanceMethod yX3_isNow, Cond.selects RX3 yX3_isNow yX3_isNow]
def wsX3_change_r6 : List Cond := [Cond.code yX3_isNow cX3_isNow 2 (some .boolean), Cond.methodLink RX3 283 yX3_leadsTo, Cond.instanceMethod yX3_leadsTo, Cond.selects RX3 yX3_leadsTo yX3_leadsTo, Cond.code yX3_leadsTo cX3_leadsTo 8 (some .boolean), Cond.methodLink RX3 216 yX3_membersOf, Cond.instanceMethod yX3_membersOf, Cond.selects RX3 yX3_membersOf yX3_membersOf, Cond.code yX3_membersOf cX3_membersOf 6 (some .long), Cond.methodLink RX3 291 yX3_has, Cond.static yX3_has, Cond.code yX3_has cX3_has 3 (some .boolean), Cond.methodLink RX3 279 yX3_addVersion, Cond.instanceMethod yX3_addVersion, Cond.selects RX3 yX3_addVersion yX3_addVersion, Cond.code yX3_addVersion cX3_addVersion 4 (some .int), Cond.methodLink RX3 261 yX3_newVersion, Cond.instanceMethod yX3_newVersion, Cond.selects RX3 yX3_newVersion yX3_newVersion, Cond.code yX3_newVersion cX3_newVersion 4 (some (.object "MapRevisions$Version")), Cond.fieldLink RX3 33 "MapRevisions" "versionsOf" "[I", Cond.classLink RX3 143 RX2, Cond.instantiable RX2 6, Cond.initialized RX2]
def wsX3_change_r7 : List Cond := [Cond.fieldLink RX3 49 "MapRevisions" "now" "I", Cond.methodLink RX3 272 yX2_init, Cond.instanceMethod yX2_init, Cond.code yX2_init cX2_init 5 none, Cond.methodLink RX2 1 objectInit, Cond.fieldLink RX2 7 "MapRevisions$Version" "before" "LMapRevisions$Version;", Cond.fieldLink RX2 13 "MapRevisions$Version" "number" "I", Cond.fieldLink RX2 17 "MapRevisions$Version" "set" "I", Cond.fieldLink RX2 20 "MapRevisions$Version" "minute" "I", Cond.fieldLink RX2 23 "MapRevisions$Version" "content" "LMapRevisions$Content;", Cond.fieldLink RX2 27 "MapRevisions$Version" "hidden" "Z"]
def wsX3_change : List Cond := .code yX3_change cX3_change 4 (some .int) :: ((wsX3_change_r1 ++ (wsX3_change_r2 ++ (wsX3_change_r3 ++ (wsX3_change_r4 ++ (wsX3_change_r5 ++ (wsX3_change_r6 ++ wsX3_change_r7)))))) ++ wsX30 ++ wsX10 ++ wsJx4a65c0 ++ wsX00 ++ wsX20 ++ (vx_atS RX3 95 "java/lang/IllegalArgumentException" ["java/lang/RuntimeException", "java/lang/Exception"]).filter goodWord ++ (vx_atS RX3 236 "java/lang/IndexOutOfBoundsException" ["java/lang/RuntimeException", "java/lang/Exception"]).filter goodWord ++ (vx_atS RX3 59 "java/lang/IllegalStateException" ["java/lang/RuntimeException", "java/lang/Exception"]).filter goodWord)
def wsX3_delete_r1 : List Cond := [Cond.fieldLink RX3 18 "MapRevisions" "gone" "LMapRevisions$Content;", Cond.methodLink RX3 62 yX3_needSet, Cond.instanceMethod yX3_needSet, Cond.selects RX3 yX3_needSet yX3_needSet, Cond.initialized RX3, Cond.code yX3_needSet cX3_needSet 2 none, Cond.classLink RX3 232 "java/lang/IndexOutOfBoundsException", Cond.initialized "java/lang/IndexOutOfBoundsException", Cond.fieldLink RX3 39 "MapRevisions" "sets" "I", Cond.methodLink RX3 68 yX3_needThing, Cond.instanceMethod yX3_needThing, Cond.selects RX3 yX3_needThing yX3_needThing, Cond.code yX3_needThing cX3_needThing 2 none, Cond.methodLink RX3 237 yX3_isKnown, Cond.instanceMethod yX3_isKnown, Cond.selects RX3 yX3_isKnown yX3_isKnown, Cond.code yX3_isKnown cX3_isKnown 2 (some .boolean), Cond.fieldLink RX3 25 "MapRevisions" "all" "Ljava/util/ArrayList;", Cond.methodLink RX3 126 yJx4a65c_size_8abf5, Cond.instanceMethod yJx4a65c_size_8abf5, Cond.selects RJx4a65c yJx4a65c_size_8abf5 yJx4a65c_size_8abf5, Cond.initialized RJx4a65c, Cond.code yJx4a65c_size_8abf5 cJx4a65c_size_8abf5 1 (some .int), Cond.fieldLink RJx4a65c 48 "java/util/ArrayList" "size" "I"]
def wsX3_delete_r2 : List Cond := [Cond.methodLink RX3 77 yX3_needOpen, Cond.instanceMethod yX3_needOpen, Cond.selects RX3 yX3_needOpen yX3_needOpen, Cond.code yX3_needOpen cX3_needOpen 2 none, Cond.classLink RX3 55 "java/lang/IllegalStateException", Cond.initialized "java/lang/IllegalStateException", Cond.fieldLink RX3 29 "MapRevisions" "closed" "[Z", Cond.fieldLink RX3 46 "MapRevisions" "versions" "I", Cond.methodLink RX3 118 yX3_edit, Cond.instanceMethod yX3_edit, Cond.selects RX3 yX3_edit yX3_edit, Cond.code yX3_edit cX3_edit 7 (some .int), Cond.classLink RX3 111 "MapRevisions$Thing", Cond.fieldLink RX3 138 "MapRevisions$Thing" "last" "LMapRevisions$Version;", Cond.fieldLink RX3 151 "MapRevisions$Version" "content" "LMapRevisions$Content;", Cond.fieldLink RX3 154 "MapRevisions$Content" "there" "Z", Cond.fieldLink RX3 142 "MapRevisions$Version" "number" "I", Cond.methodLink RX3 107 yJx4a65c_get_915e3, Cond.instanceMethod yJx4a65c_get_915e3, Cond.selects RJx4a65c yJx4a65c_get_915e3 yJx4a65c_get_915e3, Cond.code yJx4a65c_get_915e3 cJx4a65c_get_915e3 2 (some (.object "java/lang/Object")), Cond.methodLink RJx4a65c 118 yJ15_checkIndex_7cf53, Cond.static yJ15_checkIndex_7cf53, Cond.initialized RJ15]
def wsX3_delete_r3 : List Cond := [Cond.code yJ15_checkIndex_7cf53 cJ15_checkIndex_7cf53 2 (some .int), Cond.methodLink RJ15 105 yJ3_checkIndex_8e157, Cond.static yJ3_checkIndex_8e157, Cond.initialized RJ3, Cond.code yJ3_checkIndex_8e157 cJ3_checkIndex_8e157 3 (some .int), Cond.methodLink RJx4a65c 123 yJx4a65c_elementData_915e3, Cond.instanceMethod yJx4a65c_elementData_915e3, Cond.selects RJx4a65c yJx4a65c_elementData_915e3 yJx4a65c_elementData_915e3, Cond.code yJx4a65c_elementData_915e3 cJx4a65c_elementData_915e3 2 (some (.object "java/lang/Object")), Cond.fieldLink RJx4a65c 9 "java/util/ArrayList" "elementData" "[Ljava/lang/Object;", Cond.methodLink RX3 275 yX3_refusalOf, Cond.instanceMethod yX3_refusalOf, Cond.selects RX3 yX3_refusalOf yX3_refusalOf, Cond.code yX3_refusalOf cX3_refusalOf 4 (some .int), Cond.fieldLink RX3 113 "MapRevisions$Thing" "kind" "I", Cond.fieldLink RX3 100 "MapRevisions$Content" "members" "[I", Cond.methodLink RX3 169 yX3_bit, Cond.static yX3_bit, Cond.code yX3_bit cX3_bit 1 (some .long), Cond.methodLink RX3 173 yX3_usersOf, Cond.instanceMethod yX3_usersOf, Cond.selects RX3 yX3_usersOf yX3_usersOf, Cond.code yX3_usersOf cX3_usersOf 6 (some .long), Cond.methodLink RX3 287 yX3_bitsOf]
def wsX3_delete_r4 : List Cond := [Cond.static yX3_bitsOf, Cond.code yX3_bitsOf cX3_bitsOf 7 (some .long), Cond.methodLink RX3 103 yX3_isRowFor, Cond.instanceMethod yX3_isRowFor, Cond.selects RX3 yX3_isRowFor yX3_isRowFor, Cond.code yX3_isRowFor cX3_isRowFor 7 (some .boolean), Cond.methodLink RX3 147 yX3_isNow, Cond.instanceMethod yX3_isNow, Cond.selects RX3 yX3_isNow yX3_isNow, Cond.code yX3_isNow cX3_isNow 2 (some .boolean), Cond.methodLink RX3 283 yX3_leadsTo, Cond.instanceMethod yX3_leadsTo, Cond.selects RX3 yX3_leadsTo yX3_leadsTo, Cond.code yX3_leadsTo cX3_leadsTo 8 (some .boolean), Cond.methodLink RX3 216 yX3_membersOf, Cond.instanceMethod yX3_membersOf, Cond.selects RX3 yX3_membersOf yX3_membersOf, Cond.code yX3_membersOf cX3_membersOf 6 (some .long), Cond.methodLink RX3 291 yX3_has, Cond.static yX3_has, Cond.code yX3_has cX3_has 3 (some .boolean), Cond.methodLink RX3 279 yX3_addVersion, Cond.instanceMethod yX3_addVersion, Cond.selects RX3 yX3_addVersion yX3_addVersion]
def wsX3_delete_r5 : List Cond := [Cond.code yX3_addVersion cX3_addVersion 4 (some .int), Cond.methodLink RX3 261 yX3_newVersion, Cond.instanceMethod yX3_newVersion, Cond.selects RX3 yX3_newVersion yX3_newVersion, Cond.code yX3_newVersion cX3_newVersion 4 (some (.object "MapRevisions$Version")), Cond.fieldLink RX3 33 "MapRevisions" "versionsOf" "[I", Cond.classLink RX3 143 RX2, Cond.instantiable RX2 6, Cond.initialized RX2, Cond.fieldLink RX3 49 "MapRevisions" "now" "I", Cond.methodLink RX3 272 yX2_init, Cond.instanceMethod yX2_init, Cond.code yX2_init cX2_init 5 none, Cond.methodLink RX2 1 objectInit, Cond.instanceMethod objectInit, Cond.code objectInit ⟨#[0xb1]⟩ 1 none, Cond.fieldLink RX2 7 "MapRevisions$Version" "before" "LMapRevisions$Version;", Cond.fieldLink RX2 13 "MapRevisions$Version" "number" "I", Cond.fieldLink RX2 17 "MapRevisions$Version" "set" "I", Cond.fieldLink RX2 20 "MapRevisions$Version" "minute" "I", Cond.fieldLink RX2 23 "MapRevisions$Version" "content" "LMapRevisions$Content;", Cond.fieldLink RX2 27 "MapRevisions$Version" "hidden" "Z"]
def wsX3_delete : List Cond := .code yX3_delete cX3_delete 4 (some .int) :: ((wsX3_delete_r1 ++ (wsX3_delete_r2 ++ (wsX3_delete_r3 ++ (wsX3_delete_r4 ++ wsX3_delete_r5)))) ++ wsX30 ++ wsJx4a65c0 ++ wsX10 ++ wsX20 ++ wsX00 ++ (vx_atS RX3 236 "java/lang/IndexOutOfBoundsException" ["java/lang/RuntimeException", "java/lang/Exception"]).filter goodWord ++ (vx_atS RX3 59 "java/lang/IllegalStateException" ["java/lang/RuntimeException", "java/lang/Exception"]).filter goodWord)
def wsX3_hasVersionOf : List Cond := .code yX3_hasVersionOf cX3_hasVersionOf 4 (some .boolean) :: ([.fieldLink RX3 25 "MapRevisions" "all" "Ljava/util/ArrayList;", .classLink RX3 111 "MapRevisions$Thing", .fieldLink RX3 138 "MapRevisions$Thing" "last" "LMapRevisions$Version;", .fieldLink RX3 198 "MapRevisions$Version" "set" "I", .fieldLink RX3 242 "MapRevisions$Version" "before" "LMapRevisions$Version;", .methodLink RX3 107 yJx4a65c_get_915e3, .instanceMethod yJx4a65c_get_915e3, .selects RJx4a65c yJx4a65c_get_915e3 yJx4a65c_get_915e3, .initialized RJx4a65c, .code yJx4a65c_get_915e3 cJx4a65c_get_915e3 2 (some (.object "java/lang/Object")), .fieldLink RJx4a65c 48 "java/util/ArrayList" "size" "I", .methodLink RJx4a65c 118 yJ15_checkIndex_7cf53, .static yJ15_checkIndex_7cf53, .initialized RJ15, .code yJ15_checkIndex_7cf53 cJ15_checkIndex_7cf53 2 (some .int), .methodLink RJ15 105 yJ3_checkIndex_8e157, .static yJ3_checkIndex_8e157, .initialized RJ3, .code yJ3_checkIndex_8e157 cJ3_checkIndex_8e157 3 (some .int), .methodLink RJx4a65c 123 yJx4a65c_elementData_915e3, .instanceMethod yJx4a65c_elementData_915e3, .selects RJx4a65c yJx4a65c_elementData_915e3 yJx4a65c_elementData_915e3, .code yJx4a65c_elementData_915e3 cJx4a65c_elementData_915e3 2 (some (.object "java/lang/Object")), .fieldLink RJx4a65c 9 "java/util/ArrayList" "elementData" "[Ljava/lang/Object;"] ++ wsX30 ++ wsX10 ++ wsX20 ++ wsJx4a65c0)
def wsX3_contentAheadOf : List Cond := .code yX3_contentAheadOf cX3_contentAheadOf 4 (some (.object "MapRevisions$Content")) :: ([.fieldLink RX3 242 "MapRevisions$Version" "before" "LMapRevisions$Version;", .fieldLink RX3 198 "MapRevisions$Version" "set" "I", .fieldLink RX3 18 "MapRevisions" "gone" "LMapRevisions$Content;", .fieldLink RX3 151 "MapRevisions$Version" "content" "LMapRevisions$Content;"] ++ wsX20 ++ wsX30)
def wsX3_undoThing_r1 : List Cond := [Cond.fieldLink RX3 25 "MapRevisions" "all" "Ljava/util/ArrayList;", Cond.classLink RX3 111 "MapRevisions$Thing", Cond.fieldLink RX3 138 "MapRevisions$Thing" "last" "LMapRevisions$Version;", Cond.fieldLink RX3 198 "MapRevisions$Version" "set" "I", Cond.methodLink RX3 107 yJx4a65c_get_915e3, Cond.instanceMethod yJx4a65c_get_915e3, Cond.selects RJx4a65c yJx4a65c_get_915e3 yJx4a65c_get_915e3, Cond.initialized RJx4a65c, Cond.code yJx4a65c_get_915e3 cJx4a65c_get_915e3 2 (some (.object "java/lang/Object")), Cond.fieldLink RJx4a65c 48 "java/util/ArrayList" "size" "I", Cond.methodLink RJx4a65c 118 yJ15_checkIndex_7cf53, Cond.static yJ15_checkIndex_7cf53, Cond.initialized RJ15, Cond.code yJ15_checkIndex_7cf53 cJ15_checkIndex_7cf53 2 (some .int), Cond.methodLink RJ15 105 yJ3_checkIndex_8e157, Cond.static yJ3_checkIndex_8e157, Cond.initialized RJ3, Cond.code yJ3_checkIndex_8e157 cJ3_checkIndex_8e157 3 (some .int), Cond.methodLink RJx4a65c 123 yJx4a65c_elementData_915e3, Cond.instanceMethod yJx4a65c_elementData_915e3, Cond.selects RJx4a65c yJx4a65c_elementData_915e3 yJx4a65c_elementData_915e3, Cond.code yJx4a65c_elementData_915e3 cJx4a65c_elementData_915e3 2 (some (.object "java/lang/Object")), Cond.fieldLink RJx4a65c 9 "java/util/ArrayList" "elementData" "[Ljava/lang/Object;", Cond.methodLink RX3 295 yX3_contentAheadOf]
def wsX3_undoThing_r2 : List Cond := [Cond.instanceMethod yX3_contentAheadOf, Cond.selects RX3 yX3_contentAheadOf yX3_contentAheadOf, Cond.initialized RX3, Cond.code yX3_contentAheadOf cX3_contentAheadOf 4 (some (.object "MapRevisions$Content")), Cond.fieldLink RX3 242 "MapRevisions$Version" "before" "LMapRevisions$Version;", Cond.fieldLink RX3 18 "MapRevisions" "gone" "LMapRevisions$Content;", Cond.fieldLink RX3 151 "MapRevisions$Version" "content" "LMapRevisions$Content;", Cond.methodLink RX3 275 yX3_refusalOf, Cond.instanceMethod yX3_refusalOf, Cond.selects RX3 yX3_refusalOf yX3_refusalOf, Cond.code yX3_refusalOf cX3_refusalOf 4 (some .int), Cond.fieldLink RX3 154 "MapRevisions$Content" "there" "Z", Cond.fieldLink RX3 113 "MapRevisions$Thing" "kind" "I", Cond.fieldLink RX3 100 "MapRevisions$Content" "members" "[I", Cond.methodLink RX3 169 yX3_bit, Cond.static yX3_bit, Cond.code yX3_bit cX3_bit 1 (some .long), Cond.methodLink RX3 173 yX3_usersOf, Cond.instanceMethod yX3_usersOf, Cond.selects RX3 yX3_usersOf yX3_usersOf, Cond.code yX3_usersOf cX3_usersOf 6 (some .long), Cond.methodLink RX3 126 yJx4a65c_size_8abf5, Cond.instanceMethod yJx4a65c_size_8abf5, Cond.selects RJx4a65c yJx4a65c_size_8abf5 yJx4a65c_size_8abf5]
def wsX3_undoThing_r3 : List Cond := [Cond.code yJx4a65c_size_8abf5 cJx4a65c_size_8abf5 1 (some .int), Cond.methodLink RX3 287 yX3_bitsOf, Cond.static yX3_bitsOf, Cond.code yX3_bitsOf cX3_bitsOf 7 (some .long), Cond.methodLink RX3 103 yX3_isRowFor, Cond.instanceMethod yX3_isRowFor, Cond.selects RX3 yX3_isRowFor yX3_isRowFor, Cond.code yX3_isRowFor cX3_isRowFor 7 (some .boolean), Cond.methodLink RX3 147 yX3_isNow, Cond.instanceMethod yX3_isNow, Cond.selects RX3 yX3_isNow yX3_isNow, Cond.code yX3_isNow cX3_isNow 2 (some .boolean), Cond.methodLink RX3 237 yX3_isKnown, Cond.instanceMethod yX3_isKnown, Cond.selects RX3 yX3_isKnown yX3_isKnown, Cond.code yX3_isKnown cX3_isKnown 2 (some .boolean), Cond.methodLink RX3 283 yX3_leadsTo, Cond.instanceMethod yX3_leadsTo, Cond.selects RX3 yX3_leadsTo yX3_leadsTo, Cond.code yX3_leadsTo cX3_leadsTo 8 (some .boolean), Cond.methodLink RX3 216 yX3_membersOf, Cond.instanceMethod yX3_membersOf, Cond.selects RX3 yX3_membersOf yX3_membersOf, Cond.code yX3_membersOf cX3_membersOf 6 (some .long)]
def wsX3_undoThing_r4 : List Cond := [Cond.methodLink RX3 291 yX3_has, Cond.static yX3_has, Cond.code yX3_has cX3_has 3 (some .boolean), Cond.methodLink RX3 279 yX3_addVersion, Cond.instanceMethod yX3_addVersion, Cond.selects RX3 yX3_addVersion yX3_addVersion, Cond.code yX3_addVersion cX3_addVersion 4 (some .int), Cond.fieldLink RX3 142 "MapRevisions$Version" "number" "I", Cond.methodLink RX3 261 yX3_newVersion, Cond.instanceMethod yX3_newVersion, Cond.selects RX3 yX3_newVersion yX3_newVersion, Cond.code yX3_newVersion cX3_newVersion 4 (some (.object "MapRevisions$Version")), Cond.fieldLink RX3 46 "MapRevisions" "versions" "I", Cond.fieldLink RX3 33 "MapRevisions" "versionsOf" "[I", Cond.classLink RX3 143 RX2, Cond.instantiable RX2 6, Cond.initialized RX2, Cond.fieldLink RX3 49 "MapRevisions" "now" "I", Cond.methodLink RX3 272 yX2_init, Cond.instanceMethod yX2_init, Cond.code yX2_init cX2_init 5 none, Cond.methodLink RX2 1 objectInit, Cond.instanceMethod objectInit, Cond.code objectInit ⟨#[0xb1]⟩ 1 none]
def wsX3_undoThing_r5 : List Cond := [Cond.fieldLink RX2 7 "MapRevisions$Version" "before" "LMapRevisions$Version;", Cond.fieldLink RX2 13 "MapRevisions$Version" "number" "I", Cond.fieldLink RX2 17 "MapRevisions$Version" "set" "I", Cond.fieldLink RX2 20 "MapRevisions$Version" "minute" "I", Cond.fieldLink RX2 23 "MapRevisions$Version" "content" "LMapRevisions$Content;", Cond.fieldLink RX2 27 "MapRevisions$Version" "hidden" "Z"]
def wsX3_undoThing : List Cond := .code yX3_undoThing cX3_undoThing 6 (some .boolean) :: ((wsX3_undoThing_r1 ++ (wsX3_undoThing_r2 ++ (wsX3_undoThing_r3 ++ (wsX3_undoThing_r4 ++ wsX3_undoThing_r5)))) ++ wsX30 ++ wsX10 ++ wsX20 ++ wsJx4a65c0 ++ wsX00)
def wsX3_undo_r1 : List Cond := [Cond.classLink RX3 55 "java/lang/IllegalStateException", Cond.initialized "java/lang/IllegalStateException", Cond.fieldLink RX3 29 "MapRevisions" "closed" "[Z", Cond.fieldLink RX3 25 "MapRevisions" "all" "Ljava/util/ArrayList;", Cond.methodLink RX3 62 yX3_needSet, Cond.instanceMethod yX3_needSet, Cond.selects RX3 yX3_needSet yX3_needSet, Cond.initialized RX3, Cond.code yX3_needSet cX3_needSet 2 none, Cond.classLink RX3 232 "java/lang/IndexOutOfBoundsException", Cond.initialized "java/lang/IndexOutOfBoundsException", Cond.fieldLink RX3 39 "MapRevisions" "sets" "I", Cond.methodLink RX3 77 yX3_needOpen, Cond.instanceMethod yX3_needOpen, Cond.selects RX3 yX3_needOpen yX3_needOpen, Cond.code yX3_needOpen cX3_needOpen 2 none, Cond.fieldLink RX3 46 "MapRevisions" "versions" "I", Cond.methodLink RX3 126 yJx4a65c_size_8abf5, Cond.instanceMethod yJx4a65c_size_8abf5, Cond.selects RJx4a65c yJx4a65c_size_8abf5 yJx4a65c_size_8abf5, Cond.initialized RJx4a65c, Cond.code yJx4a65c_size_8abf5 cJx4a65c_size_8abf5 1 (some .int), Cond.fieldLink RJx4a65c 48 "java/util/ArrayList" "size" "I", Cond.methodLink RX3 130 yX3_hasVersionOf]
def wsX3_undo_r2 : List Cond := [Cond.instanceMethod yX3_hasVersionOf, Cond.selects RX3 yX3_hasVersionOf yX3_hasVersionOf, Cond.code yX3_hasVersionOf cX3_hasVersionOf 4 (some .boolean), Cond.classLink RX3 111 "MapRevisions$Thing", Cond.fieldLink RX3 138 "MapRevisions$Thing" "last" "LMapRevisions$Version;", Cond.fieldLink RX3 198 "MapRevisions$Version" "set" "I", Cond.fieldLink RX3 242 "MapRevisions$Version" "before" "LMapRevisions$Version;", Cond.methodLink RX3 107 yJx4a65c_get_915e3, Cond.instanceMethod yJx4a65c_get_915e3, Cond.selects RJx4a65c yJx4a65c_get_915e3 yJx4a65c_get_915e3, Cond.code yJx4a65c_get_915e3 cJx4a65c_get_915e3 2 (some (.object "java/lang/Object")), Cond.methodLink RJx4a65c 118 yJ15_checkIndex_7cf53, Cond.static yJ15_checkIndex_7cf53, Cond.initialized RJ15, Cond.code yJ15_checkIndex_7cf53 cJ15_checkIndex_7cf53 2 (some .int), Cond.methodLink RJ15 105 yJ3_checkIndex_8e157, Cond.static yJ3_checkIndex_8e157, Cond.initialized RJ3, Cond.code yJ3_checkIndex_8e157 cJ3_checkIndex_8e157 3 (some .int), Cond.methodLink RJx4a65c 123 yJx4a65c_elementData_915e3, Cond.instanceMethod yJx4a65c_elementData_915e3, Cond.selects RJx4a65c yJx4a65c_elementData_915e3 yJx4a65c_elementData_915e3, Cond.code yJx4a65c_elementData_915e3 cJx4a65c_elementData_915e3 2 (some (.object "java/lang/Object")), Cond.fieldLink RJx4a65c 9 "java/util/ArrayList" "elementData" "[Ljava/lang/Object;"]
def wsX3_undo_r3 : List Cond := [Cond.methodLink RX3 134 yX3_undoThing, Cond.instanceMethod yX3_undoThing, Cond.selects RX3 yX3_undoThing yX3_undoThing, Cond.code yX3_undoThing cX3_undoThing 6 (some .boolean), Cond.methodLink RX3 295 yX3_contentAheadOf, Cond.instanceMethod yX3_contentAheadOf, Cond.selects RX3 yX3_contentAheadOf yX3_contentAheadOf, Cond.code yX3_contentAheadOf cX3_contentAheadOf 4 (some (.object "MapRevisions$Content")), Cond.fieldLink RX3 18 "MapRevisions" "gone" "LMapRevisions$Content;", Cond.fieldLink RX3 151 "MapRevisions$Version" "content" "LMapRevisions$Content;", Cond.methodLink RX3 275 yX3_refusalOf, Cond.instanceMethod yX3_refusalOf, Cond.selects RX3 yX3_refusalOf yX3_refusalOf, Cond.code yX3_refusalOf cX3_refusalOf 4 (some .int), Cond.fieldLink RX3 154 "MapRevisions$Content" "there" "Z", Cond.fieldLink RX3 113 "MapRevisions$Thing" "kind" "I", Cond.fieldLink RX3 100 "MapRevisions$Content" "members" "[I", Cond.methodLink RX3 169 yX3_bit, Cond.static yX3_bit, Cond.code yX3_bit cX3_bit 1 (some .long), Cond.methodLink RX3 173 yX3_usersOf, Cond.instanceMethod yX3_usersOf, Cond.selects RX3 yX3_usersOf yX3_usersOf, Cond.code yX3_usersOf cX3_usersOf 6 (some .long)]
def wsX3_undo_r4 : List Cond := [Cond.methodLink RX3 287 yX3_bitsOf, Cond.static yX3_bitsOf, Cond.code yX3_bitsOf cX3_bitsOf 7 (some .long), Cond.methodLink RX3 103 yX3_isRowFor, Cond.instanceMethod yX3_isRowFor, Cond.selects RX3 yX3_isRowFor yX3_isRowFor, Cond.code yX3_isRowFor cX3_isRowFor 7 (some .boolean), Cond.methodLink RX3 147 yX3_isNow, Cond.instanceMethod yX3_isNow, Cond.selects RX3 yX3_isNow yX3_isNow, Cond.code yX3_isNow cX3_isNow 2 (some .boolean), Cond.methodLink RX3 237 yX3_isKnown, Cond.instanceMethod yX3_isKnown, Cond.selects RX3 yX3_isKnown yX3_isKnown, Cond.code yX3_isKnown cX3_isKnown 2 (some .boolean), Cond.methodLink RX3 283 yX3_leadsTo, Cond.instanceMethod yX3_leadsTo, Cond.selects RX3 yX3_leadsTo yX3_leadsTo, Cond.code yX3_leadsTo cX3_leadsTo 8 (some .boolean), Cond.methodLink RX3 216 yX3_membersOf, Cond.instanceMethod yX3_membersOf, Cond.selects RX3 yX3_membersOf yX3_membersOf, Cond.code yX3_membersOf cX3_membersOf 6 (some .long), Cond.methodLink RX3 291 yX3_has]
def wsX3_undo_r5 : List Cond := [Cond.static yX3_has, Cond.code yX3_has cX3_has 3 (some .boolean), Cond.methodLink RX3 279 yX3_addVersion, Cond.instanceMethod yX3_addVersion, Cond.selects RX3 yX3_addVersion yX3_addVersion, Cond.code yX3_addVersion cX3_addVersion 4 (some .int), Cond.fieldLink RX3 142 "MapRevisions$Version" "number" "I", Cond.methodLink RX3 261 yX3_newVersion, Cond.instanceMethod yX3_newVersion, Cond.selects RX3 yX3_newVersion yX3_newVersion, Cond.code yX3_newVersion cX3_newVersion 4 (some (.object "MapRevisions$Version")), Cond.fieldLink RX3 33 "MapRevisions" "versionsOf" "[I", Cond.classLink RX3 143 RX2, Cond.instantiable RX2 6, Cond.initialized RX2, Cond.fieldLink RX3 49 "MapRevisions" "now" "I", Cond.methodLink RX3 272 yX2_init, Cond.instanceMethod yX2_init, Cond.code yX2_init cX2_init 5 none, Cond.methodLink RX2 1 objectInit, Cond.instanceMethod objectInit, Cond.code objectInit ⟨#[0xb1]⟩ 1 none, Cond.fieldLink RX2 7 "MapRevisions$Version" "before" "LMapRevisions$Version;", Cond.fieldLink RX2 13 "MapRevisions$Version" "number" "I"]
def wsX3_undo_r6 : List Cond := [Cond.fieldLink RX2 17 "MapRevisions$Version" "set" "I", Cond.fieldLink RX2 20 "MapRevisions$Version" "minute" "I", Cond.fieldLink RX2 23 "MapRevisions$Version" "content" "LMapRevisions$Content;", Cond.fieldLink RX2 27 "MapRevisions$Version" "hidden" "Z"]
def wsX3_undo : List Cond := .code yX3_undo cX3_undo 5 (some .int) :: ((wsX3_undo_r1 ++ (wsX3_undo_r2 ++ (wsX3_undo_r3 ++ (wsX3_undo_r4 ++ (wsX3_undo_r5 ++ wsX3_undo_r6))))) ++ wsX30 ++ wsJx4a65c0 ++ wsX10 ++ wsX20 ++ wsX00 ++ (vx_atS RX3 59 "java/lang/IllegalStateException" ["java/lang/RuntimeException", "java/lang/Exception"]).filter goodWord ++ (vx_atS RX3 236 "java/lang/IndexOutOfBoundsException" ["java/lang/RuntimeException", "java/lang/Exception"]).filter goodWord)
def wsX3_things : List Cond := .code yX3_things cX3_things 1 (some .int) :: ([.fieldLink RX3 25 "MapRevisions" "all" "Ljava/util/ArrayList;", .methodLink RX3 126 yJx4a65c_size_8abf5, .instanceMethod yJx4a65c_size_8abf5, .selects RJx4a65c yJx4a65c_size_8abf5 yJx4a65c_size_8abf5, .initialized RJx4a65c, .code yJx4a65c_size_8abf5 cJx4a65c_size_8abf5 1 (some .int), .fieldLink RJx4a65c 48 "java/util/ArrayList" "size" "I"] ++ wsX30 ++ wsJx4a65c0)
def wsX3_latest_r1 : List Cond := [Cond.fieldLink RX3 25 "MapRevisions" "all" "Ljava/util/ArrayList;", Cond.classLink RX3 111 "MapRevisions$Thing", Cond.fieldLink RX3 138 "MapRevisions$Thing" "last" "LMapRevisions$Version;", Cond.fieldLink RX3 142 "MapRevisions$Version" "number" "I", Cond.methodLink RX3 68 yX3_needThing, Cond.instanceMethod yX3_needThing, Cond.selects RX3 yX3_needThing yX3_needThing, Cond.initialized RX3, Cond.code yX3_needThing cX3_needThing 2 none, Cond.classLink RX3 232 "java/lang/IndexOutOfBoundsException", Cond.initialized "java/lang/IndexOutOfBoundsException", Cond.methodLink RX3 237 yX3_isKnown, Cond.instanceMethod yX3_isKnown, Cond.selects RX3 yX3_isKnown yX3_isKnown, Cond.code yX3_isKnown cX3_isKnown 2 (some .boolean), Cond.methodLink RX3 126 yJx4a65c_size_8abf5, Cond.instanceMethod yJx4a65c_size_8abf5, Cond.selects RJx4a65c yJx4a65c_size_8abf5 yJx4a65c_size_8abf5, Cond.initialized RJx4a65c, Cond.code yJx4a65c_size_8abf5 cJx4a65c_size_8abf5 1 (some .int), Cond.fieldLink RJx4a65c 48 "java/util/ArrayList" "size" "I", Cond.methodLink RX3 107 yJx4a65c_get_915e3, Cond.instanceMethod yJx4a65c_get_915e3, Cond.selects RJx4a65c yJx4a65c_get_915e3 yJx4a65c_get_915e3]
def wsX3_latest_r2 : List Cond := [Cond.code yJx4a65c_get_915e3 cJx4a65c_get_915e3 2 (some (.object "java/lang/Object")), Cond.methodLink RJx4a65c 118 yJ15_checkIndex_7cf53, Cond.static yJ15_checkIndex_7cf53, Cond.initialized RJ15, Cond.code yJ15_checkIndex_7cf53 cJ15_checkIndex_7cf53 2 (some .int), Cond.methodLink RJ15 105 yJ3_checkIndex_8e157, Cond.static yJ3_checkIndex_8e157, Cond.initialized RJ3, Cond.code yJ3_checkIndex_8e157 cJ3_checkIndex_8e157 3 (some .int), Cond.methodLink RJx4a65c 123 yJx4a65c_elementData_915e3, Cond.instanceMethod yJx4a65c_elementData_915e3, Cond.selects RJx4a65c yJx4a65c_elementData_915e3 yJx4a65c_elementData_915e3, Cond.code yJx4a65c_elementData_915e3 cJx4a65c_elementData_915e3 2 (some (.object "java/lang/Object")), Cond.fieldLink RJx4a65c 9 "java/util/ArrayList" "elementData" "[Ljava/lang/Object;"]
def wsX3_latest : List Cond := .code yX3_latest cX3_latest 2 (some .int) :: ((wsX3_latest_r1 ++ wsX3_latest_r2) ++ wsX30 ++ wsX10 ++ wsX20 ++ wsJx4a65c0 ++ (vx_atS RX3 236 "java/lang/IndexOutOfBoundsException" ["java/lang/RuntimeException", "java/lang/Exception"]).filter goodWord)
def wsX3_isThere_r1 : List Cond := [Cond.methodLink RX3 68 yX3_needThing, Cond.instanceMethod yX3_needThing, Cond.selects RX3 yX3_needThing yX3_needThing, Cond.initialized RX3, Cond.code yX3_needThing cX3_needThing 2 none, Cond.classLink RX3 232 "java/lang/IndexOutOfBoundsException", Cond.initialized "java/lang/IndexOutOfBoundsException", Cond.methodLink RX3 237 yX3_isKnown, Cond.instanceMethod yX3_isKnown, Cond.selects RX3 yX3_isKnown yX3_isKnown, Cond.code yX3_isKnown cX3_isKnown 2 (some .boolean), Cond.fieldLink RX3 25 "MapRevisions" "all" "Ljava/util/ArrayList;", Cond.methodLink RX3 126 yJx4a65c_size_8abf5, Cond.instanceMethod yJx4a65c_size_8abf5, Cond.selects RJx4a65c yJx4a65c_size_8abf5 yJx4a65c_size_8abf5, Cond.initialized RJx4a65c, Cond.code yJx4a65c_size_8abf5 cJx4a65c_size_8abf5 1 (some .int), Cond.fieldLink RJx4a65c 48 "java/util/ArrayList" "size" "I", Cond.methodLink RX3 147 yX3_isNow, Cond.instanceMethod yX3_isNow, Cond.selects RX3 yX3_isNow yX3_isNow, Cond.code yX3_isNow cX3_isNow 2 (some .boolean), Cond.classLink RX3 111 "MapRevisions$Thing", Cond.fieldLink RX3 138 "MapRevisions$Thing" "last" "LMapRevisions$Version;"]
def wsX3_isThere_r2 : List Cond := [Cond.fieldLink RX3 151 "MapRevisions$Version" "content" "LMapRevisions$Content;", Cond.fieldLink RX3 154 "MapRevisions$Content" "there" "Z", Cond.methodLink RX3 107 yJx4a65c_get_915e3, Cond.instanceMethod yJx4a65c_get_915e3, Cond.selects RJx4a65c yJx4a65c_get_915e3 yJx4a65c_get_915e3, Cond.code yJx4a65c_get_915e3 cJx4a65c_get_915e3 2 (some (.object "java/lang/Object")), Cond.methodLink RJx4a65c 118 yJ15_checkIndex_7cf53, Cond.static yJ15_checkIndex_7cf53, Cond.initialized RJ15, Cond.code yJ15_checkIndex_7cf53 cJ15_checkIndex_7cf53 2 (some .int), Cond.methodLink RJ15 105 yJ3_checkIndex_8e157, Cond.static yJ3_checkIndex_8e157, Cond.initialized RJ3, Cond.code yJ3_checkIndex_8e157 cJ3_checkIndex_8e157 3 (some .int), Cond.methodLink RJx4a65c 123 yJx4a65c_elementData_915e3, Cond.instanceMethod yJx4a65c_elementData_915e3, Cond.selects RJx4a65c yJx4a65c_elementData_915e3 yJx4a65c_elementData_915e3, Cond.code yJx4a65c_elementData_915e3 cJx4a65c_elementData_915e3 2 (some (.object "java/lang/Object")), Cond.fieldLink RJx4a65c 9 "java/util/ArrayList" "elementData" "[Ljava/lang/Object;"]
def wsX3_isThere : List Cond := .code yX3_isThere cX3_isThere 2 (some .boolean) :: ((wsX3_isThere_r1 ++ wsX3_isThere_r2) ++ wsX30 ++ wsJx4a65c0 ++ wsX10 ++ wsX20 ++ wsX00 ++ (vx_atS RX3 236 "java/lang/IndexOutOfBoundsException" ["java/lang/RuntimeException", "java/lang/Exception"]).filter goodWord)
def wsX3_whereIs_r1 : List Cond := [Cond.classLink RX3 158 "java/util/NoSuchElementException", Cond.initialized "java/util/NoSuchElementException", Cond.fieldLink RX3 25 "MapRevisions" "all" "Ljava/util/ArrayList;", Cond.classLink RX3 111 "MapRevisions$Thing", Cond.fieldLink RX3 138 "MapRevisions$Thing" "last" "LMapRevisions$Version;", Cond.fieldLink RX3 151 "MapRevisions$Version" "content" "LMapRevisions$Content;", Cond.fieldLink RX3 113 "MapRevisions$Thing" "kind" "I", Cond.fieldLink RX3 154 "MapRevisions$Content" "there" "Z", Cond.fieldLink RX3 163 "MapRevisions$Content" "x" "I", Cond.fieldLink RX3 166 "MapRevisions$Content" "y" "I", Cond.methodLink RX3 68 yX3_needThing, Cond.instanceMethod yX3_needThing, Cond.selects RX3 yX3_needThing yX3_needThing, Cond.initialized RX3, Cond.code yX3_needThing cX3_needThing 2 none, Cond.classLink RX3 232 "java/lang/IndexOutOfBoundsException", Cond.initialized "java/lang/IndexOutOfBoundsException", Cond.methodLink RX3 237 yX3_isKnown, Cond.instanceMethod yX3_isKnown, Cond.selects RX3 yX3_isKnown yX3_isKnown, Cond.code yX3_isKnown cX3_isKnown 2 (some .boolean), Cond.methodLink RX3 126 yJx4a65c_size_8abf5, Cond.instanceMethod yJx4a65c_size_8abf5, Cond.selects RJx4a65c yJx4a65c_size_8abf5 yJx4a65c_size_8abf5]
def wsX3_whereIs_r2 : List Cond := [Cond.initialized RJx4a65c, Cond.code yJx4a65c_size_8abf5 cJx4a65c_size_8abf5 1 (some .int), Cond.fieldLink RJx4a65c 48 "java/util/ArrayList" "size" "I", Cond.methodLink RX3 107 yJx4a65c_get_915e3, Cond.instanceMethod yJx4a65c_get_915e3, Cond.selects RJx4a65c yJx4a65c_get_915e3 yJx4a65c_get_915e3, Cond.code yJx4a65c_get_915e3 cJx4a65c_get_915e3 2 (some (.object "java/lang/Object")), Cond.methodLink RJx4a65c 118 yJ15_checkIndex_7cf53, Cond.static yJ15_checkIndex_7cf53, Cond.initialized RJ15, Cond.code yJ15_checkIndex_7cf53 cJ15_checkIndex_7cf53 2 (some .int), Cond.methodLink RJ15 105 yJ3_checkIndex_8e157, Cond.static yJ3_checkIndex_8e157, Cond.initialized RJ3, Cond.code yJ3_checkIndex_8e157 cJ3_checkIndex_8e157 3 (some .int), Cond.methodLink RJx4a65c 123 yJx4a65c_elementData_915e3, Cond.instanceMethod yJx4a65c_elementData_915e3, Cond.selects RJx4a65c yJx4a65c_elementData_915e3 yJx4a65c_elementData_915e3, Cond.code yJx4a65c_elementData_915e3 cJx4a65c_elementData_915e3 2 (some (.object "java/lang/Object")), Cond.fieldLink RJx4a65c 9 "java/util/ArrayList" "elementData" "[Ljava/lang/Object;"]
def wsX3_whereIs : List Cond := .code yX3_whereIs cX3_whereIs 3 (some .int) :: ((wsX3_whereIs_r1 ++ wsX3_whereIs_r2) ++ wsX30 ++ wsX10 ++ wsX20 ++ wsX00 ++ wsJx4a65c0 ++ (vx_atS RX3 162 "java/util/NoSuchElementException" ["java/lang/RuntimeException", "java/lang/Exception"]).filter goodWord ++ (vx_atS RX3 236 "java/lang/IndexOutOfBoundsException" ["java/lang/RuntimeException", "java/lang/Exception"]).filter goodWord)
def wsX3_members_r1 : List Cond := [Cond.fieldLink RX3 25 "MapRevisions" "all" "Ljava/util/ArrayList;", Cond.classLink RX3 111 "MapRevisions$Thing", Cond.fieldLink RX3 138 "MapRevisions$Thing" "last" "LMapRevisions$Version;", Cond.fieldLink RX3 151 "MapRevisions$Version" "content" "LMapRevisions$Content;", Cond.fieldLink RX3 100 "MapRevisions$Content" "members" "[I", Cond.methodLink RX3 68 yX3_needThing, Cond.instanceMethod yX3_needThing, Cond.selects RX3 yX3_needThing yX3_needThing, Cond.initialized RX3, Cond.code yX3_needThing cX3_needThing 2 none, Cond.classLink RX3 232 "java/lang/IndexOutOfBoundsException", Cond.initialized "java/lang/IndexOutOfBoundsException", Cond.methodLink RX3 237 yX3_isKnown, Cond.instanceMethod yX3_isKnown, Cond.selects RX3 yX3_isKnown yX3_isKnown, Cond.code yX3_isKnown cX3_isKnown 2 (some .boolean), Cond.methodLink RX3 126 yJx4a65c_size_8abf5, Cond.instanceMethod yJx4a65c_size_8abf5, Cond.selects RJx4a65c yJx4a65c_size_8abf5 yJx4a65c_size_8abf5, Cond.initialized RJx4a65c, Cond.code yJx4a65c_size_8abf5 cJx4a65c_size_8abf5 1 (some .int), Cond.fieldLink RJx4a65c 48 "java/util/ArrayList" "size" "I", Cond.methodLink RX3 107 yJx4a65c_get_915e3, Cond.instanceMethod yJx4a65c_get_915e3]
def wsX3_members_r2 : List Cond := [Cond.selects RJx4a65c yJx4a65c_get_915e3 yJx4a65c_get_915e3, Cond.code yJx4a65c_get_915e3 cJx4a65c_get_915e3 2 (some (.object "java/lang/Object")), Cond.methodLink RJx4a65c 118 yJ15_checkIndex_7cf53, Cond.static yJ15_checkIndex_7cf53, Cond.initialized RJ15, Cond.code yJ15_checkIndex_7cf53 cJ15_checkIndex_7cf53 2 (some .int), Cond.methodLink RJ15 105 yJ3_checkIndex_8e157, Cond.static yJ3_checkIndex_8e157, Cond.initialized RJ3, Cond.code yJ3_checkIndex_8e157 cJ3_checkIndex_8e157 3 (some .int), Cond.methodLink RJx4a65c 123 yJx4a65c_elementData_915e3, Cond.instanceMethod yJx4a65c_elementData_915e3, Cond.selects RJx4a65c yJx4a65c_elementData_915e3 yJx4a65c_elementData_915e3, Cond.code yJx4a65c_elementData_915e3 cJx4a65c_elementData_915e3 2 (some (.object "java/lang/Object")), Cond.fieldLink RJx4a65c 9 "java/util/ArrayList" "elementData" "[Ljava/lang/Object;"]
def wsX3_members : List Cond := .code yX3_members cX3_members 2 (some .int) :: ((wsX3_members_r1 ++ wsX3_members_r2) ++ wsX30 ++ wsX10 ++ wsX20 ++ wsX00 ++ wsJx4a65c0 ++ (vx_atS RX3 236 "java/lang/IndexOutOfBoundsException" ["java/lang/RuntimeException", "java/lang/Exception"]).filter goodWord)
def wsJ13_bitCount_95d88 : List Cond := .code yJ13_bitCount_95d88 cJ13_bitCount_95d88 2 (some .int) :: ([.constantLong RJ13 314 (6148914691236517205), .constantLong RJ13 316 (3689348814741910323), .constantLong RJ13 318 (1085102592571150095)])
def wsX3_usedBy_r1 : List Cond := [Cond.methodLink RX3 68 yX3_needThing, Cond.instanceMethod yX3_needThing, Cond.selects RX3 yX3_needThing yX3_needThing, Cond.initialized RX3, Cond.code yX3_needThing cX3_needThing 2 none, Cond.classLink RX3 232 "java/lang/IndexOutOfBoundsException", Cond.initialized "java/lang/IndexOutOfBoundsException", Cond.methodLink RX3 237 yX3_isKnown, Cond.instanceMethod yX3_isKnown, Cond.selects RX3 yX3_isKnown yX3_isKnown, Cond.code yX3_isKnown cX3_isKnown 2 (some .boolean), Cond.fieldLink RX3 25 "MapRevisions" "all" "Ljava/util/ArrayList;", Cond.methodLink RX3 126 yJx4a65c_size_8abf5, Cond.instanceMethod yJx4a65c_size_8abf5, Cond.selects RJx4a65c yJx4a65c_size_8abf5 yJx4a65c_size_8abf5, Cond.initialized RJx4a65c, Cond.code yJx4a65c_size_8abf5 cJx4a65c_size_8abf5 1 (some .int), Cond.fieldLink RJx4a65c 48 "java/util/ArrayList" "size" "I", Cond.methodLink RX3 169 yX3_bit, Cond.static yX3_bit, Cond.code yX3_bit cX3_bit 1 (some .long), Cond.methodLink RX3 173 yX3_usersOf, Cond.instanceMethod yX3_usersOf, Cond.selects RX3 yX3_usersOf yX3_usersOf]
def wsX3_usedBy_r2 : List Cond := [Cond.code yX3_usersOf cX3_usersOf 6 (some .long), Cond.classLink RX3 111 "MapRevisions$Thing", Cond.fieldLink RX3 138 "MapRevisions$Thing" "last" "LMapRevisions$Version;", Cond.fieldLink RX3 151 "MapRevisions$Version" "content" "LMapRevisions$Content;", Cond.fieldLink RX3 100 "MapRevisions$Content" "members" "[I", Cond.methodLink RX3 107 yJx4a65c_get_915e3, Cond.instanceMethod yJx4a65c_get_915e3, Cond.selects RJx4a65c yJx4a65c_get_915e3 yJx4a65c_get_915e3, Cond.code yJx4a65c_get_915e3 cJx4a65c_get_915e3 2 (some (.object "java/lang/Object")), Cond.methodLink RJx4a65c 118 yJ15_checkIndex_7cf53, Cond.static yJ15_checkIndex_7cf53, Cond.initialized RJ15, Cond.code yJ15_checkIndex_7cf53 cJ15_checkIndex_7cf53 2 (some .int), Cond.methodLink RJ15 105 yJ3_checkIndex_8e157, Cond.static yJ3_checkIndex_8e157, Cond.initialized RJ3, Cond.code yJ3_checkIndex_8e157 cJ3_checkIndex_8e157 3 (some .int), Cond.methodLink RJx4a65c 123 yJx4a65c_elementData_915e3, Cond.instanceMethod yJx4a65c_elementData_915e3, Cond.selects RJx4a65c yJx4a65c_elementData_915e3 yJx4a65c_elementData_915e3, Cond.code yJx4a65c_elementData_915e3 cJx4a65c_elementData_915e3 2 (some (.object "java/lang/Object")), Cond.fieldLink RJx4a65c 9 "java/util/ArrayList" "elementData" "[Ljava/lang/Object;", Cond.methodLink RX3 287 yX3_bitsOf, Cond.static yX3_bitsOf]
def wsX3_usedBy_r3 : List Cond := [Cond.code yX3_bitsOf cX3_bitsOf 7 (some .long), Cond.methodLink RX3 177 yJ13_bitCount_95d88, Cond.static yJ13_bitCount_95d88, Cond.initialized RJ13, Cond.code yJ13_bitCount_95d88 cJ13_bitCount_95d88 2 (some .int), Cond.constantLong RJ13 314 (6148914691236517205), Cond.constantLong RJ13 316 (3689348814741910323), Cond.constantLong RJ13 318 (1085102592571150095)]
def wsX3_usedBy : List Cond := .code yX3_usedBy cX3_usedBy 2 (some .int) :: ((wsX3_usedBy_r1 ++ (wsX3_usedBy_r2 ++ wsX3_usedBy_r3)) ++ wsX30 ++ wsJx4a65c0 ++ wsX10 ++ wsX20 ++ wsX00 ++ (vx_atS RX3 236 "java/lang/IndexOutOfBoundsException" ["java/lang/RuntimeException", "java/lang/Exception"]).filter goodWord)
def wsX3_needVersion_r1 : List Cond := [Cond.classLink RX3 232 "java/lang/IndexOutOfBoundsException", Cond.initialized "java/lang/IndexOutOfBoundsException", Cond.fieldLink RX3 25 "MapRevisions" "all" "Ljava/util/ArrayList;", Cond.classLink RX3 111 "MapRevisions$Thing", Cond.fieldLink RX3 138 "MapRevisions$Thing" "last" "LMapRevisions$Version;", Cond.fieldLink RX3 142 "MapRevisions$Version" "number" "I", Cond.fieldLink RX3 242 "MapRevisions$Version" "before" "LMapRevisions$Version;", Cond.methodLink RX3 107 yJx4a65c_get_915e3, Cond.instanceMethod yJx4a65c_get_915e3, Cond.selects RJx4a65c yJx4a65c_get_915e3 yJx4a65c_get_915e3, Cond.initialized RJx4a65c, Cond.code yJx4a65c_get_915e3 cJx4a65c_get_915e3 2 (some (.object "java/lang/Object")), Cond.fieldLink RJx4a65c 48 "java/util/ArrayList" "size" "I", Cond.methodLink RJx4a65c 118 yJ15_checkIndex_7cf53, Cond.static yJ15_checkIndex_7cf53, Cond.initialized RJ15, Cond.code yJ15_checkIndex_7cf53 cJ15_checkIndex_7cf53 2 (some .int), Cond.methodLink RJ15 105 yJ3_checkIndex_8e157, Cond.static yJ3_checkIndex_8e157, Cond.initialized RJ3, Cond.code yJ3_checkIndex_8e157 cJ3_checkIndex_8e157 3 (some .int), Cond.methodLink RJx4a65c 123 yJx4a65c_elementData_915e3, Cond.instanceMethod yJx4a65c_elementData_915e3, Cond.selects RJx4a65c yJx4a65c_elementData_915e3 yJx4a65c_elementData_915e3]
def wsX3_needVersion_r2 : List Cond := [Cond.code yJx4a65c_elementData_915e3 cJx4a65c_elementData_915e3 2 (some (.object "java/lang/Object")), Cond.fieldLink RJx4a65c 9 "java/util/ArrayList" "elementData" "[Ljava/lang/Object;"]
def wsX3_needVersion : List Cond := .code yX3_needVersion cX3_needVersion 4 (some (.object "MapRevisions$Version")) :: ((wsX3_needVersion_r1 ++ wsX3_needVersion_r2) ++ wsX30 ++ wsX10 ++ wsX20 ++ wsJx4a65c0 ++ (vx_atS RX3 236 "java/lang/IndexOutOfBoundsException" ["java/lang/RuntimeException", "java/lang/Exception"]).filter goodWord)
def wsX3_countShown : List Cond := .code yX3_countShown cX3_countShown 4 (some .int) :: ([.fieldLink RX3 25 "MapRevisions" "all" "Ljava/util/ArrayList;", .classLink RX3 111 "MapRevisions$Thing", .fieldLink RX3 138 "MapRevisions$Thing" "last" "LMapRevisions$Version;", .fieldLink RX3 187 "MapRevisions$Version" "hidden" "Z", .fieldLink RX3 242 "MapRevisions$Version" "before" "LMapRevisions$Version;", .methodLink RX3 107 yJx4a65c_get_915e3, .instanceMethod yJx4a65c_get_915e3, .selects RJx4a65c yJx4a65c_get_915e3 yJx4a65c_get_915e3, .initialized RJx4a65c, .code yJx4a65c_get_915e3 cJx4a65c_get_915e3 2 (some (.object "java/lang/Object")), .fieldLink RJx4a65c 48 "java/util/ArrayList" "size" "I", .methodLink RJx4a65c 118 yJ15_checkIndex_7cf53, .static yJ15_checkIndex_7cf53, .initialized RJ15, .code yJ15_checkIndex_7cf53 cJ15_checkIndex_7cf53 2 (some .int), .methodLink RJ15 105 yJ3_checkIndex_8e157, .static yJ3_checkIndex_8e157, .initialized RJ3, .code yJ3_checkIndex_8e157 cJ3_checkIndex_8e157 3 (some .int), .methodLink RJx4a65c 123 yJx4a65c_elementData_915e3, .instanceMethod yJx4a65c_elementData_915e3, .selects RJx4a65c yJx4a65c_elementData_915e3 yJx4a65c_elementData_915e3, .code yJx4a65c_elementData_915e3 cJx4a65c_elementData_915e3 2 (some (.object "java/lang/Object")), .fieldLink RJx4a65c 9 "java/util/ArrayList" "elementData" "[Ljava/lang/Object;"] ++ wsX30 ++ wsX10 ++ wsX20 ++ wsJx4a65c0)
def wsX3_hide_r1 : List Cond := [Cond.classLink RX3 55 "java/lang/IllegalStateException", Cond.initialized "java/lang/IllegalStateException", Cond.fieldLink RX3 25 "MapRevisions" "all" "Ljava/util/ArrayList;", Cond.classLink RX3 111 "MapRevisions$Thing", Cond.fieldLink RX3 138 "MapRevisions$Thing" "last" "LMapRevisions$Version;", Cond.fieldLink RX3 142 "MapRevisions$Version" "number" "I", Cond.fieldLink RX3 187 "MapRevisions$Version" "hidden" "Z", Cond.methodLink RX3 68 yX3_needThing, Cond.instanceMethod yX3_needThing, Cond.selects RX3 yX3_needThing yX3_needThing, Cond.initialized RX3, Cond.code yX3_needThing cX3_needThing 2 none, Cond.classLink RX3 232 "java/lang/IndexOutOfBoundsException", Cond.initialized "java/lang/IndexOutOfBoundsException", Cond.methodLink RX3 237 yX3_isKnown, Cond.instanceMethod yX3_isKnown, Cond.selects RX3 yX3_isKnown yX3_isKnown, Cond.code yX3_isKnown cX3_isKnown 2 (some .boolean), Cond.methodLink RX3 126 yJx4a65c_size_8abf5, Cond.instanceMethod yJx4a65c_size_8abf5, Cond.selects RJx4a65c yJx4a65c_size_8abf5 yJx4a65c_size_8abf5, Cond.initialized RJx4a65c, Cond.code yJx4a65c_size_8abf5 cJx4a65c_size_8abf5 1 (some .int), Cond.fieldLink RJx4a65c 48 "java/util/ArrayList" "size" "I"]
def wsX3_hide_r2 : List Cond := [Cond.methodLink RX3 183 yX3_needVersion, Cond.instanceMethod yX3_needVersion, Cond.selects RX3 yX3_needVersion yX3_needVersion, Cond.code yX3_needVersion cX3_needVersion 4 (some (.object "MapRevisions$Version")), Cond.fieldLink RX3 242 "MapRevisions$Version" "before" "LMapRevisions$Version;", Cond.methodLink RX3 107 yJx4a65c_get_915e3, Cond.instanceMethod yJx4a65c_get_915e3, Cond.selects RJx4a65c yJx4a65c_get_915e3 yJx4a65c_get_915e3, Cond.code yJx4a65c_get_915e3 cJx4a65c_get_915e3 2 (some (.object "java/lang/Object")), Cond.methodLink RJx4a65c 118 yJ15_checkIndex_7cf53, Cond.static yJ15_checkIndex_7cf53, Cond.initialized RJ15, Cond.code yJ15_checkIndex_7cf53 cJ15_checkIndex_7cf53 2 (some .int), Cond.methodLink RJ15 105 yJ3_checkIndex_8e157, Cond.static yJ3_checkIndex_8e157, Cond.initialized RJ3, Cond.code yJ3_checkIndex_8e157 cJ3_checkIndex_8e157 3 (some .int), Cond.methodLink RJx4a65c 123 yJx4a65c_elementData_915e3, Cond.instanceMethod yJx4a65c_elementData_915e3, Cond.selects RJx4a65c yJx4a65c_elementData_915e3 yJx4a65c_elementData_915e3, Cond.code yJx4a65c_elementData_915e3 cJx4a65c_elementData_915e3 2 (some (.object "java/lang/Object")), Cond.fieldLink RJx4a65c 9 "java/util/ArrayList" "elementData" "[Ljava/lang/Object;", Cond.methodLink RX3 192 yX3_countShown, Cond.instanceMethod yX3_countShown]
def wsX3_hide_r3 : List Cond := [Cond.selects RX3 yX3_countShown yX3_countShown, Cond.code yX3_countShown cX3_countShown 4 (some .int)]
def wsX3_hide : List Cond := .code yX3_hide cX3_hide 4 (some .int) :: ((wsX3_hide_r1 ++ (wsX3_hide_r2 ++ wsX3_hide_r3)) ++ wsX30 ++ wsX10 ++ wsX20 ++ wsJx4a65c0 ++ (vx_atS RX3 59 "java/lang/IllegalStateException" ["java/lang/RuntimeException", "java/lang/Exception"]).filter goodWord ++ (vx_atS RX3 236 "java/lang/IndexOutOfBoundsException" ["java/lang/RuntimeException", "java/lang/Exception"]).filter goodWord)
def wsX3_setOf_r1 : List Cond := [Cond.classLink RX3 158 "java/util/NoSuchElementException", Cond.initialized "java/util/NoSuchElementException", Cond.fieldLink RX3 187 "MapRevisions$Version" "hidden" "Z", Cond.fieldLink RX3 198 "MapRevisions$Version" "set" "I", Cond.methodLink RX3 68 yX3_needThing, Cond.instanceMethod yX3_needThing, Cond.selects RX3 yX3_needThing yX3_needThing, Cond.initialized RX3, Cond.code yX3_needThing cX3_needThing 2 none, Cond.classLink RX3 232 "java/lang/IndexOutOfBoundsException", Cond.initialized "java/lang/IndexOutOfBoundsException", Cond.methodLink RX3 237 yX3_isKnown, Cond.instanceMethod yX3_isKnown, Cond.selects RX3 yX3_isKnown yX3_isKnown, Cond.code yX3_isKnown cX3_isKnown 2 (some .boolean), Cond.fieldLink RX3 25 "MapRevisions" "all" "Ljava/util/ArrayList;", Cond.methodLink RX3 126 yJx4a65c_size_8abf5, Cond.instanceMethod yJx4a65c_size_8abf5, Cond.selects RJx4a65c yJx4a65c_size_8abf5 yJx4a65c_size_8abf5, Cond.initialized RJx4a65c, Cond.code yJx4a65c_size_8abf5 cJx4a65c_size_8abf5 1 (some .int), Cond.fieldLink RJx4a65c 48 "java/util/ArrayList" "size" "I", Cond.methodLink RX3 183 yX3_needVersion, Cond.instanceMethod yX3_needVersion]
def wsX3_setOf_r2 : List Cond := [Cond.selects RX3 yX3_needVersion yX3_needVersion, Cond.code yX3_needVersion cX3_needVersion 4 (some (.object "MapRevisions$Version")), Cond.classLink RX3 111 "MapRevisions$Thing", Cond.fieldLink RX3 138 "MapRevisions$Thing" "last" "LMapRevisions$Version;", Cond.fieldLink RX3 142 "MapRevisions$Version" "number" "I", Cond.fieldLink RX3 242 "MapRevisions$Version" "before" "LMapRevisions$Version;", Cond.methodLink RX3 107 yJx4a65c_get_915e3, Cond.instanceMethod yJx4a65c_get_915e3, Cond.selects RJx4a65c yJx4a65c_get_915e3 yJx4a65c_get_915e3, Cond.code yJx4a65c_get_915e3 cJx4a65c_get_915e3 2 (some (.object "java/lang/Object")), Cond.methodLink RJx4a65c 118 yJ15_checkIndex_7cf53, Cond.static yJ15_checkIndex_7cf53, Cond.initialized RJ15, Cond.code yJ15_checkIndex_7cf53 cJ15_checkIndex_7cf53 2 (some .int), Cond.methodLink RJ15 105 yJ3_checkIndex_8e157, Cond.static yJ3_checkIndex_8e157, Cond.initialized RJ3, Cond.code yJ3_checkIndex_8e157 cJ3_checkIndex_8e157 3 (some .int), Cond.methodLink RJx4a65c 123 yJx4a65c_elementData_915e3, Cond.instanceMethod yJx4a65c_elementData_915e3, Cond.selects RJx4a65c yJx4a65c_elementData_915e3 yJx4a65c_elementData_915e3, Cond.code yJx4a65c_elementData_915e3 cJx4a65c_elementData_915e3 2 (some (.object "java/lang/Object")), Cond.fieldLink RJx4a65c 9 "java/util/ArrayList" "elementData" "[Ljava/lang/Object;"]
def wsX3_setOf : List Cond := .code yX3_setOf cX3_setOf 4 (some .int) :: ((wsX3_setOf_r1 ++ wsX3_setOf_r2) ++ wsX20 ++ wsX30 ++ wsJx4a65c0 ++ wsX10 ++ (vx_atS RX3 162 "java/util/NoSuchElementException" ["java/lang/RuntimeException", "java/lang/Exception"]).filter goodWord ++ (vx_atS RX3 236 "java/lang/IndexOutOfBoundsException" ["java/lang/RuntimeException", "java/lang/Exception"]).filter goodWord)
def wsX3_lastMadeBefore_r1 : List Cond := [Cond.fieldLink RX3 25 "MapRevisions" "all" "Ljava/util/ArrayList;", Cond.classLink RX3 111 "MapRevisions$Thing", Cond.fieldLink RX3 138 "MapRevisions$Thing" "last" "LMapRevisions$Version;", Cond.fieldLink RX3 229 "MapRevisions$Version" "minute" "I", Cond.fieldLink RX3 242 "MapRevisions$Version" "before" "LMapRevisions$Version;", Cond.fieldLink RX3 142 "MapRevisions$Version" "number" "I", Cond.methodLink RX3 107 yJx4a65c_get_915e3, Cond.instanceMethod yJx4a65c_get_915e3, Cond.selects RJx4a65c yJx4a65c_get_915e3 yJx4a65c_get_915e3, Cond.initialized RJx4a65c, Cond.code yJx4a65c_get_915e3 cJx4a65c_get_915e3 2 (some (.object "java/lang/Object")), Cond.fieldLink RJx4a65c 48 "java/util/ArrayList" "size" "I", Cond.methodLink RJx4a65c 118 yJ15_checkIndex_7cf53, Cond.static yJ15_checkIndex_7cf53, Cond.initialized RJ15, Cond.code yJ15_checkIndex_7cf53 cJ15_checkIndex_7cf53 2 (some .int), Cond.methodLink RJ15 105 yJ3_checkIndex_8e157, Cond.static yJ3_checkIndex_8e157, Cond.initialized RJ3, Cond.code yJ3_checkIndex_8e157 cJ3_checkIndex_8e157 3 (some .int), Cond.methodLink RJx4a65c 123 yJx4a65c_elementData_915e3, Cond.instanceMethod yJx4a65c_elementData_915e3, Cond.selects RJx4a65c yJx4a65c_elementData_915e3 yJx4a65c_elementData_915e3, Cond.code yJx4a65c_elementData_915e3 cJx4a65c_elementData_915e3 2 (some (.object "java/lang/Object"))]
def wsX3_lastMadeBefore_r2 : List Cond := [Cond.fieldLink RJx4a65c 9 "java/util/ArrayList" "elementData" "[Ljava/lang/Object;"]
def wsX3_lastMadeBefore : List Cond := .code yX3_lastMadeBefore cX3_lastMadeBefore 4 (some .int) :: ((wsX3_lastMadeBefore_r1 ++ wsX3_lastMadeBefore_r2) ++ wsX30 ++ wsX10 ++ wsX20 ++ wsJx4a65c0)
def wsX3_versionAt_r1 : List Cond := [Cond.classLink RX3 91 "java/lang/IllegalArgumentException", Cond.initialized "java/lang/IllegalArgumentException", Cond.fieldLink RX3 49 "MapRevisions" "now" "I", Cond.methodLink RX3 68 yX3_needThing, Cond.instanceMethod yX3_needThing, Cond.selects RX3 yX3_needThing yX3_needThing, Cond.initialized RX3, Cond.code yX3_needThing cX3_needThing 2 none, Cond.classLink RX3 232 "java/lang/IndexOutOfBoundsException", Cond.initialized "java/lang/IndexOutOfBoundsException", Cond.methodLink RX3 237 yX3_isKnown, Cond.instanceMethod yX3_isKnown, Cond.selects RX3 yX3_isKnown yX3_isKnown, Cond.code yX3_isKnown cX3_isKnown 2 (some .boolean), Cond.fieldLink RX3 25 "MapRevisions" "all" "Ljava/util/ArrayList;", Cond.methodLink RX3 126 yJx4a65c_size_8abf5, Cond.instanceMethod yJx4a65c_size_8abf5, Cond.selects RJx4a65c yJx4a65c_size_8abf5 yJx4a65c_size_8abf5, Cond.initialized RJx4a65c, Cond.code yJx4a65c_size_8abf5 cJx4a65c_size_8abf5 1 (some .int), Cond.fieldLink RJx4a65c 48 "java/util/ArrayList" "size" "I", Cond.methodLink RX3 203 yX3_lastMadeBefore, Cond.instanceMethod yX3_lastMadeBefore, Cond.selects RX3 yX3_lastMadeBefore yX3_lastMadeBefore]
def wsX3_versionAt_r2 : List Cond := [Cond.code yX3_lastMadeBefore cX3_lastMadeBefore 4 (some .int), Cond.classLink RX3 111 "MapRevisions$Thing", Cond.fieldLink RX3 138 "MapRevisions$Thing" "last" "LMapRevisions$Version;", Cond.fieldLink RX3 229 "MapRevisions$Version" "minute" "I", Cond.fieldLink RX3 242 "MapRevisions$Version" "before" "LMapRevisions$Version;", Cond.fieldLink RX3 142 "MapRevisions$Version" "number" "I", Cond.methodLink RX3 107 yJx4a65c_get_915e3, Cond.instanceMethod yJx4a65c_get_915e3, Cond.selects RJx4a65c yJx4a65c_get_915e3 yJx4a65c_get_915e3, Cond.code yJx4a65c_get_915e3 cJx4a65c_get_915e3 2 (some (.object "java/lang/Object")), Cond.methodLink RJx4a65c 118 yJ15_checkIndex_7cf53, Cond.static yJ15_checkIndex_7cf53, Cond.initialized RJ15, Cond.code yJ15_checkIndex_7cf53 cJ15_checkIndex_7cf53 2 (some .int), Cond.methodLink RJ15 105 yJ3_checkIndex_8e157, Cond.static yJ3_checkIndex_8e157, Cond.initialized RJ3, Cond.code yJ3_checkIndex_8e157 cJ3_checkIndex_8e157 3 (some .int), Cond.methodLink RJx4a65c 123 yJx4a65c_elementData_915e3, Cond.instanceMethod yJx4a65c_elementData_915e3, Cond.selects RJx4a65c yJx4a65c_elementData_915e3 yJx4a65c_elementData_915e3, Cond.code yJx4a65c_elementData_915e3 cJx4a65c_elementData_915e3 2 (some (.object "java/lang/Object")), Cond.fieldLink RJx4a65c 9 "java/util/ArrayList" "elementData" "[Ljava/lang/Object;"]
def wsX3_versionAt : List Cond := .code yX3_versionAt cX3_versionAt 3 (some .int) :: ((wsX3_versionAt_r1 ++ wsX3_versionAt_r2) ++ wsX30 ++ wsJx4a65c0 ++ wsX10 ++ wsX20 ++ (vx_atS RX3 95 "java/lang/IllegalArgumentException" ["java/lang/RuntimeException", "java/lang/Exception"]).filter goodWord ++ (vx_atS RX3 236 "java/lang/IndexOutOfBoundsException" ["java/lang/RuntimeException", "java/lang/Exception"]).filter goodWord)
def wsX3_pointsWithin_r1 : List Cond := [Cond.fieldLink RX3 25 "MapRevisions" "all" "Ljava/util/ArrayList;", Cond.classLink RX3 111 "MapRevisions$Thing", Cond.fieldLink RX3 138 "MapRevisions$Thing" "last" "LMapRevisions$Version;", Cond.fieldLink RX3 151 "MapRevisions$Version" "content" "LMapRevisions$Content;", Cond.fieldLink RX3 113 "MapRevisions$Thing" "kind" "I", Cond.fieldLink RX3 154 "MapRevisions$Content" "there" "Z", Cond.fieldLink RX3 163 "MapRevisions$Content" "x" "I", Cond.fieldLink RX3 166 "MapRevisions$Content" "y" "I", Cond.methodLink RX3 126 yJx4a65c_size_8abf5, Cond.instanceMethod yJx4a65c_size_8abf5, Cond.selects RJx4a65c yJx4a65c_size_8abf5 yJx4a65c_size_8abf5, Cond.initialized RJx4a65c, Cond.code yJx4a65c_size_8abf5 cJx4a65c_size_8abf5 1 (some .int), Cond.fieldLink RJx4a65c 48 "java/util/ArrayList" "size" "I", Cond.methodLink RX3 107 yJx4a65c_get_915e3, Cond.instanceMethod yJx4a65c_get_915e3, Cond.selects RJx4a65c yJx4a65c_get_915e3 yJx4a65c_get_915e3, Cond.code yJx4a65c_get_915e3 cJx4a65c_get_915e3 2 (some (.object "java/lang/Object")), Cond.methodLink RJx4a65c 118 yJ15_checkIndex_7cf53, Cond.static yJ15_checkIndex_7cf53, Cond.initialized RJ15, Cond.code yJ15_checkIndex_7cf53 cJ15_checkIndex_7cf53 2 (some .int), Cond.methodLink RJ15 105 yJ3_checkIndex_8e157, Cond.static yJ3_checkIndex_8e157]
def wsX3_pointsWithin_r2 : List Cond := [Cond.initialized RJ3, Cond.code yJ3_checkIndex_8e157 cJ3_checkIndex_8e157 3 (some .int), Cond.methodLink RJx4a65c 123 yJx4a65c_elementData_915e3, Cond.instanceMethod yJx4a65c_elementData_915e3, Cond.selects RJx4a65c yJx4a65c_elementData_915e3 yJx4a65c_elementData_915e3, Cond.code yJx4a65c_elementData_915e3 cJx4a65c_elementData_915e3 2 (some (.object "java/lang/Object")), Cond.fieldLink RJx4a65c 9 "java/util/ArrayList" "elementData" "[Ljava/lang/Object;", Cond.methodLink RX3 169 yX3_bit, Cond.static yX3_bit, Cond.initialized RX3, Cond.code yX3_bit cX3_bit 1 (some .long)]
def wsX3_pointsWithin : List Cond := .code yX3_pointsWithin cX3_pointsWithin 9 (some .long) :: ((wsX3_pointsWithin_r1 ++ wsX3_pointsWithin_r2) ++ wsX30 ++ wsX10 ++ wsX20 ++ wsX00 ++ wsJx4a65c0)
def wsX3_thingsOf_r1 : List Cond := [Cond.fieldLink RX3 25 "MapRevisions" "all" "Ljava/util/ArrayList;", Cond.classLink RX3 111 "MapRevisions$Thing", Cond.fieldLink RX3 113 "MapRevisions$Thing" "kind" "I", Cond.methodLink RX3 126 yJx4a65c_size_8abf5, Cond.instanceMethod yJx4a65c_size_8abf5, Cond.selects RJx4a65c yJx4a65c_size_8abf5 yJx4a65c_size_8abf5, Cond.initialized RJx4a65c, Cond.code yJx4a65c_size_8abf5 cJx4a65c_size_8abf5 1 (some .int), Cond.fieldLink RJx4a65c 48 "java/util/ArrayList" "size" "I", Cond.methodLink RX3 107 yJx4a65c_get_915e3, Cond.instanceMethod yJx4a65c_get_915e3, Cond.selects RJx4a65c yJx4a65c_get_915e3 yJx4a65c_get_915e3, Cond.code yJx4a65c_get_915e3 cJx4a65c_get_915e3 2 (some (.object "java/lang/Object")), Cond.methodLink RJx4a65c 118 yJ15_checkIndex_7cf53, Cond.static yJ15_checkIndex_7cf53, Cond.initialized RJ15, Cond.code yJ15_checkIndex_7cf53 cJ15_checkIndex_7cf53 2 (some .int), Cond.methodLink RJ15 105 yJ3_checkIndex_8e157, Cond.static yJ3_checkIndex_8e157, Cond.initialized RJ3, Cond.code yJ3_checkIndex_8e157 cJ3_checkIndex_8e157 3 (some .int), Cond.methodLink RJx4a65c 123 yJx4a65c_elementData_915e3, Cond.instanceMethod yJx4a65c_elementData_915e3, Cond.selects RJx4a65c yJx4a65c_elementData_915e3 yJx4a65c_elementData_915e3]
def wsX3_thingsOf_r2 : List Cond := [Cond.code yJx4a65c_elementData_915e3 cJx4a65c_elementData_915e3 2 (some (.object "java/lang/Object")), Cond.fieldLink RJx4a65c 9 "java/util/ArrayList" "elementData" "[Ljava/lang/Object;", Cond.methodLink RX3 169 yX3_bit, Cond.static yX3_bit, Cond.initialized RX3, Cond.code yX3_bit cX3_bit 1 (some .long)]
def wsX3_thingsOf : List Cond := .code yX3_thingsOf cX3_thingsOf 5 (some .long) :: ((wsX3_thingsOf_r1 ++ wsX3_thingsOf_r2) ++ wsX30 ++ wsX10 ++ wsJx4a65c0)
def wsX3_inBox_r1 : List Cond := [Cond.classLink RX3 91 "java/lang/IllegalArgumentException", Cond.initialized "java/lang/IllegalArgumentException", Cond.methodLink RX3 73 yX3_needPlace, Cond.instanceMethod yX3_needPlace, Cond.selects RX3 yX3_needPlace yX3_needPlace, Cond.initialized RX3, Cond.code yX3_needPlace cX3_needPlace 3 none, Cond.methodLink RX3 209 yX3_pointsWithin, Cond.instanceMethod yX3_pointsWithin, Cond.selects RX3 yX3_pointsWithin yX3_pointsWithin, Cond.code yX3_pointsWithin cX3_pointsWithin 9 (some .long), Cond.fieldLink RX3 25 "MapRevisions" "all" "Ljava/util/ArrayList;", Cond.classLink RX3 111 "MapRevisions$Thing", Cond.fieldLink RX3 138 "MapRevisions$Thing" "last" "LMapRevisions$Version;", Cond.fieldLink RX3 151 "MapRevisions$Version" "content" "LMapRevisions$Content;", Cond.fieldLink RX3 113 "MapRevisions$Thing" "kind" "I", Cond.fieldLink RX3 154 "MapRevisions$Content" "there" "Z", Cond.fieldLink RX3 163 "MapRevisions$Content" "x" "I", Cond.fieldLink RX3 166 "MapRevisions$Content" "y" "I", Cond.methodLink RX3 126 yJx4a65c_size_8abf5, Cond.instanceMethod yJx4a65c_size_8abf5, Cond.selects RJx4a65c yJx4a65c_size_8abf5 yJx4a65c_size_8abf5, Cond.initialized RJx4a65c, Cond.code yJx4a65c_size_8abf5 cJx4a65c_size_8abf5 1 (some .int)]
def wsX3_inBox_r2 : List Cond := [Cond.fieldLink RJx4a65c 48 "java/util/ArrayList" "size" "I", Cond.methodLink RX3 107 yJx4a65c_get_915e3, Cond.instanceMethod yJx4a65c_get_915e3, Cond.selects RJx4a65c yJx4a65c_get_915e3 yJx4a65c_get_915e3, Cond.code yJx4a65c_get_915e3 cJx4a65c_get_915e3 2 (some (.object "java/lang/Object")), Cond.methodLink RJx4a65c 118 yJ15_checkIndex_7cf53, Cond.static yJ15_checkIndex_7cf53, Cond.initialized RJ15, Cond.code yJ15_checkIndex_7cf53 cJ15_checkIndex_7cf53 2 (some .int), Cond.methodLink RJ15 105 yJ3_checkIndex_8e157, Cond.static yJ3_checkIndex_8e157, Cond.initialized RJ3, Cond.code yJ3_checkIndex_8e157 cJ3_checkIndex_8e157 3 (some .int), Cond.methodLink RJx4a65c 123 yJx4a65c_elementData_915e3, Cond.instanceMethod yJx4a65c_elementData_915e3, Cond.selects RJx4a65c yJx4a65c_elementData_915e3 yJx4a65c_elementData_915e3, Cond.code yJx4a65c_elementData_915e3 cJx4a65c_elementData_915e3 2 (some (.object "java/lang/Object")), Cond.fieldLink RJx4a65c 9 "java/util/ArrayList" "elementData" "[Ljava/lang/Object;", Cond.methodLink RX3 169 yX3_bit, Cond.static yX3_bit, Cond.code yX3_bit cX3_bit 1 (some .long), Cond.methodLink RX3 173 yX3_usersOf, Cond.instanceMethod yX3_usersOf, Cond.selects RX3 yX3_usersOf yX3_usersOf]
def wsX3_inBox_r3 : List Cond := [Cond.code yX3_usersOf cX3_usersOf 6 (some .long), Cond.fieldLink RX3 100 "MapRevisions$Content" "members" "[I", Cond.methodLink RX3 287 yX3_bitsOf, Cond.static yX3_bitsOf, Cond.code yX3_bitsOf cX3_bitsOf 7 (some .long), Cond.methodLink RX3 213 yX3_thingsOf, Cond.instanceMethod yX3_thingsOf, Cond.selects RX3 yX3_thingsOf yX3_thingsOf, Cond.code yX3_thingsOf cX3_thingsOf 5 (some .long), Cond.methodLink RX3 216 yX3_membersOf, Cond.instanceMethod yX3_membersOf, Cond.selects RX3 yX3_membersOf yX3_membersOf, Cond.code yX3_membersOf cX3_membersOf 6 (some .long), Cond.methodLink RX3 291 yX3_has, Cond.static yX3_has, Cond.code yX3_has cX3_has 3 (some .boolean), Cond.methodLink RX3 177 yJ13_bitCount_95d88, Cond.static yJ13_bitCount_95d88, Cond.initialized RJ13, Cond.code yJ13_bitCount_95d88 cJ13_bitCount_95d88 2 (some .int), Cond.constantLong RJ13 314 (6148914691236517205), Cond.constantLong RJ13 316 (3689348814741910323), Cond.constantLong RJ13 318 (1085102592571150095)]
def wsX3_inBox : List Cond := .code yX3_inBox cX3_inBox 14 (some .int) :: ((wsX3_inBox_r1 ++ (wsX3_inBox_r2 ++ wsX3_inBox_r3)) ++ wsX30 ++ wsX10 ++ wsX20 ++ wsX00 ++ wsJx4a65c0 ++ (vx_atS RX3 95 "java/lang/IllegalArgumentException" ["java/lang/RuntimeException", "java/lang/Exception"]).filter goodWord)
def wsX3_needMinutes : List Cond := .code yX3_needMinutes cX3_needMinutes 2 none :: ([.classLink RX3 91 "java/lang/IllegalArgumentException", .initialized "java/lang/IllegalArgumentException"] ++ (vx_atS RX3 95 "java/lang/IllegalArgumentException" ["java/lang/RuntimeException", "java/lang/Exception"]).filter goodWord)
def wsX3_pass : List Cond := .code yX3_pass cX3_pass 2 (some .int) :: ([.classLink RX3 55 "java/lang/IllegalStateException", .initialized "java/lang/IllegalStateException", .fieldLink RX3 49 "MapRevisions" "now" "I", .methodLink RX3 219 yX3_needMinutes, .instanceMethod yX3_needMinutes, .selects RX3 yX3_needMinutes yX3_needMinutes, .initialized RX3, .code yX3_needMinutes cX3_needMinutes 2 none, .classLink RX3 91 "java/lang/IllegalArgumentException", .initialized "java/lang/IllegalArgumentException"] ++ wsX30 ++ (vx_atS RX3 59 "java/lang/IllegalStateException" ["java/lang/RuntimeException", "java/lang/Exception"]).filter goodWord ++ (vx_atS RX3 95 "java/lang/IllegalArgumentException" ["java/lang/RuntimeException", "java/lang/Exception"]).filter goodWord)
def wsX3_take_r1 : List Cond := [Cond.fieldLink RX3 52 "MapRevisions" "copyMinute" "I", Cond.fieldLink RX3 49 "MapRevisions" "now" "I", Cond.methodLink RX3 224 Lib.Math.min.name, Cond.static Lib.Math.min.name, Cond.initialized "java/lang/Math", Cond.code Lib.Math.min.name Lib.Math.min.code 2 (some .int), Cond.fieldLink RX3 25 "MapRevisions" "all" "Ljava/util/ArrayList;", Cond.methodLink RX3 219 yX3_needMinutes, Cond.instanceMethod yX3_needMinutes, Cond.selects RX3 yX3_needMinutes yX3_needMinutes, Cond.initialized RX3, Cond.code yX3_needMinutes cX3_needMinutes 2 none, Cond.classLink RX3 91 "java/lang/IllegalArgumentException", Cond.initialized "java/lang/IllegalArgumentException", Cond.methodLink RX3 126 yJx4a65c_size_8abf5, Cond.instanceMethod yJx4a65c_size_8abf5, Cond.selects RJx4a65c yJx4a65c_size_8abf5 yJx4a65c_size_8abf5, Cond.initialized RJx4a65c, Cond.code yJx4a65c_size_8abf5 cJx4a65c_size_8abf5 1 (some .int), Cond.fieldLink RJx4a65c 48 "java/util/ArrayList" "size" "I", Cond.methodLink RX3 203 yX3_lastMadeBefore, Cond.instanceMethod yX3_lastMadeBefore, Cond.selects RX3 yX3_lastMadeBefore yX3_lastMadeBefore, Cond.code yX3_lastMadeBefore cX3_lastMadeBefore 4 (some .int)]
def wsX3_take_r2 : List Cond := [Cond.classLink RX3 111 "MapRevisions$Thing", Cond.fieldLink RX3 138 "MapRevisions$Thing" "last" "LMapRevisions$Version;", Cond.fieldLink RX3 229 "MapRevisions$Version" "minute" "I", Cond.fieldLink RX3 242 "MapRevisions$Version" "before" "LMapRevisions$Version;", Cond.fieldLink RX3 142 "MapRevisions$Version" "number" "I", Cond.methodLink RX3 107 yJx4a65c_get_915e3, Cond.instanceMethod yJx4a65c_get_915e3, Cond.selects RJx4a65c yJx4a65c_get_915e3 yJx4a65c_get_915e3, Cond.code yJx4a65c_get_915e3 cJx4a65c_get_915e3 2 (some (.object "java/lang/Object")), Cond.methodLink RJx4a65c 118 yJ15_checkIndex_7cf53, Cond.static yJ15_checkIndex_7cf53, Cond.initialized RJ15, Cond.code yJ15_checkIndex_7cf53 cJ15_checkIndex_7cf53 2 (some .int), Cond.methodLink RJ15 105 yJ3_checkIndex_8e157, Cond.static yJ3_checkIndex_8e157, Cond.initialized RJ3, Cond.code yJ3_checkIndex_8e157 cJ3_checkIndex_8e157 3 (some .int), Cond.methodLink RJx4a65c 123 yJx4a65c_elementData_915e3, Cond.instanceMethod yJx4a65c_elementData_915e3, Cond.selects RJx4a65c yJx4a65c_elementData_915e3 yJx4a65c_elementData_915e3, Cond.code yJx4a65c_elementData_915e3 cJx4a65c_elementData_915e3 2 (some (.object "java/lang/Object")), Cond.fieldLink RJx4a65c 9 "java/util/ArrayList" "elementData" "[Ljava/lang/Object;"]
def wsX3_take : List Cond := .code yX3_take cX3_take 5 (some .int) :: ((wsX3_take_r1 ++ wsX3_take_r2) ++ wsX30 ++ wsJx4a65c0 ++ wsX10 ++ wsX20 ++ (vx_atS RX3 95 "java/lang/IllegalArgumentException" ["java/lang/RuntimeException", "java/lang/Exception"]).filter goodWord)
def wsX3_inCopy_r1 : List Cond := [Cond.fieldLink RX3 52 "MapRevisions" "copyMinute" "I", Cond.methodLink RX3 68 yX3_needThing, Cond.instanceMethod yX3_needThing, Cond.selects RX3 yX3_needThing yX3_needThing, Cond.initialized RX3, Cond.code yX3_needThing cX3_needThing 2 none, Cond.classLink RX3 232 "java/lang/IndexOutOfBoundsException", Cond.initialized "java/lang/IndexOutOfBoundsException", Cond.methodLink RX3 237 yX3_isKnown, Cond.instanceMethod yX3_isKnown, Cond.selects RX3 yX3_isKnown yX3_isKnown, Cond.code yX3_isKnown cX3_isKnown 2 (some .boolean), Cond.fieldLink RX3 25 "MapRevisions" "all" "Ljava/util/ArrayList;", Cond.methodLink RX3 126 yJx4a65c_size_8abf5, Cond.instanceMethod yJx4a65c_size_8abf5, Cond.selects RJx4a65c yJx4a65c_size_8abf5 yJx4a65c_size_8abf5, Cond.initialized RJx4a65c, Cond.code yJx4a65c_size_8abf5 cJx4a65c_size_8abf5 1 (some .int), Cond.fieldLink RJx4a65c 48 "java/util/ArrayList" "size" "I", Cond.methodLink RX3 203 yX3_lastMadeBefore, Cond.instanceMethod yX3_lastMadeBefore, Cond.selects RX3 yX3_lastMadeBefore yX3_lastMadeBefore, Cond.code yX3_lastMadeBefore cX3_lastMadeBefore 4 (some .int), Cond.classLink RX3 111 "MapRevisions$Thing"]
def wsX3_inCopy_r2 : List Cond := [Cond.fieldLink RX3 138 "MapRevisions$Thing" "last" "LMapRevisions$Version;", Cond.fieldLink RX3 229 "MapRevisions$Version" "minute" "I", Cond.fieldLink RX3 242 "MapRevisions$Version" "before" "LMapRevisions$Version;", Cond.fieldLink RX3 142 "MapRevisions$Version" "number" "I", Cond.methodLink RX3 107 yJx4a65c_get_915e3, Cond.instanceMethod yJx4a65c_get_915e3, Cond.selects RJx4a65c yJx4a65c_get_915e3 yJx4a65c_get_915e3, Cond.code yJx4a65c_get_915e3 cJx4a65c_get_915e3 2 (some (.object "java/lang/Object")), Cond.methodLink RJx4a65c 118 yJ15_checkIndex_7cf53, Cond.static yJ15_checkIndex_7cf53, Cond.initialized RJ15, Cond.code yJ15_checkIndex_7cf53 cJ15_checkIndex_7cf53 2 (some .int), Cond.methodLink RJ15 105 yJ3_checkIndex_8e157, Cond.static yJ3_checkIndex_8e157, Cond.initialized RJ3, Cond.code yJ3_checkIndex_8e157 cJ3_checkIndex_8e157 3 (some .int), Cond.methodLink RJx4a65c 123 yJx4a65c_elementData_915e3, Cond.instanceMethod yJx4a65c_elementData_915e3, Cond.selects RJx4a65c yJx4a65c_elementData_915e3 yJx4a65c_elementData_915e3, Cond.code yJx4a65c_elementData_915e3 cJx4a65c_elementData_915e3 2 (some (.object "java/lang/Object")), Cond.fieldLink RJx4a65c 9 "java/util/ArrayList" "elementData" "[Ljava/lang/Object;"]
def wsX3_inCopy : List Cond := .code yX3_inCopy cX3_inCopy 2 (some .int) :: ((wsX3_inCopy_r1 ++ wsX3_inCopy_r2) ++ wsX30 ++ wsJx4a65c0 ++ wsX10 ++ wsX20 ++ (vx_atS RX3 236 "java/lang/IndexOutOfBoundsException" ["java/lang/RuntimeException", "java/lang/Exception"]).filter goodWord)
def wsX3_isTrue_r1 : List Cond := [Cond.fieldLink RX3 25 "MapRevisions" "all" "Ljava/util/ArrayList;", Cond.classLink RX3 111 "MapRevisions$Thing", Cond.fieldLink RX3 138 "MapRevisions$Thing" "last" "LMapRevisions$Version;", Cond.fieldLink RX3 229 "MapRevisions$Version" "minute" "I", Cond.fieldLink RX3 52 "MapRevisions" "copyMinute" "I", Cond.methodLink RX3 126 yJx4a65c_size_8abf5, Cond.instanceMethod yJx4a65c_size_8abf5, Cond.selects RJx4a65c yJx4a65c_size_8abf5 yJx4a65c_size_8abf5, Cond.initialized RJx4a65c, Cond.code yJx4a65c_size_8abf5 cJx4a65c_size_8abf5 1 (some .int), Cond.fieldLink RJx4a65c 48 "java/util/ArrayList" "size" "I", Cond.methodLink RX3 107 yJx4a65c_get_915e3, Cond.instanceMethod yJx4a65c_get_915e3, Cond.selects RJx4a65c yJx4a65c_get_915e3 yJx4a65c_get_915e3, Cond.code yJx4a65c_get_915e3 cJx4a65c_get_915e3 2 (some (.object "java/lang/Object")), Cond.methodLink RJx4a65c 118 yJ15_checkIndex_7cf53, Cond.static yJ15_checkIndex_7cf53, Cond.initialized RJ15, Cond.code yJ15_checkIndex_7cf53 cJ15_checkIndex_7cf53 2 (some .int), Cond.methodLink RJ15 105 yJ3_checkIndex_8e157, Cond.static yJ3_checkIndex_8e157, Cond.initialized RJ3, Cond.code yJ3_checkIndex_8e157 cJ3_checkIndex_8e157 3 (some .int), Cond.methodLink RJx4a65c 123 yJx4a65c_elementData_915e3]
def wsX3_isTrue_r2 : List Cond := [Cond.instanceMethod yJx4a65c_elementData_915e3, Cond.selects RJx4a65c yJx4a65c_elementData_915e3 yJx4a65c_elementData_915e3, Cond.code yJx4a65c_elementData_915e3 cJx4a65c_elementData_915e3 2 (some (.object "java/lang/Object")), Cond.fieldLink RJx4a65c 9 "java/util/ArrayList" "elementData" "[Ljava/lang/Object;"]
def wsX3_isTrue : List Cond := .code yX3_isTrue cX3_isTrue 2 (some .boolean) :: ((wsX3_isTrue_r1 ++ wsX3_isTrue_r2) ++ wsX30 ++ wsX10 ++ wsX20 ++ wsJx4a65c0)
def wsX4_init : List Cond := .code yX4_init cX4_init 1 none :: ([.methodLink RX4 1 objectInit, .instanceMethod objectInit, .code objectInit ⟨#[0xb1]⟩ 1 none, .arrayClass .boolean, .fieldLink RX4 7 "MapRevisionsModel" "closed" "[Z", .arrayClass .int, .fieldLink RX4 13 "MapRevisionsModel" "draft" "[I", .fieldLink RX4 17 "MapRevisionsModel" "kind" "[I", .fieldLink RX4 20 "MapRevisionsModel" "last" "[I", .fieldLink RX4 23 "MapRevisionsModel" "many" "[I", .fieldLink RX4 26 "MapRevisionsModel" "of" "[I", .fieldLink RX4 29 "MapRevisionsModel" "number" "[I", .fieldLink RX4 32 "MapRevisionsModel" "ahead" "[I", .fieldLink RX4 35 "MapRevisionsModel" "set" "[I", .fieldLink RX4 38 "MapRevisionsModel" "made" "[I", .fieldLink RX4 41 "MapRevisionsModel" "there" "[Z", .fieldLink RX4 44 "MapRevisionsModel" "hidden" "[Z", .fieldLink RX4 47 "MapRevisionsModel" "where" "[I", .fieldLink RX4 50 "MapRevisionsModel" "size" "[I", .fieldLink RX4 53 "MapRevisionsModel" "member" "[I", .fieldLink RX4 56 "MapRevisionsModel" "marked" "[Z", .fieldLink RX4 59 "MapRevisionsModel" "drawn" "[Z", .fieldLink RX4 62 "MapRevisionsModel" "asks" "[I"] ++ wsX40)
def wsX4_thrown : List Cond := .code yX4_thrown cX4_thrown 1 (some .int) :: ([.fieldLink RX4 65 "MapRevisionsModel" "thrown" "I"] ++ wsX40)
def wsX4_in : List Cond := .code yX4_in cX4_in 3 (some .boolean) :: ([])
def wsX4_goes : List Cond := .code yX4_goes cX4_goes 4 (some .boolean) :: ([.fieldLink RX4 65 "MapRevisionsModel" "thrown" "I"] ++ wsX40)
def wsX4_told : List Cond := .code yX4_told cX4_told 2 (some .int) :: ([.fieldLink RX4 65 "MapRevisionsModel" "thrown" "I"] ++ wsX40)
def wsX4_isThing : List Cond := .code yX4_isThing cX4_isThing 2 (some .boolean) :: ([.fieldLink RX4 69 "MapRevisionsModel" "things" "I", .methodLink RX4 72 yX4_in, .static yX4_in, .initialized RX4, .code yX4_in cX4_in 3 (some .boolean)] ++ wsX40)
def wsX4_isSet : List Cond := .code yX4_isSet cX4_isSet 2 (some .boolean) :: ([.fieldLink RX4 76 "MapRevisionsModel" "sets" "I", .methodLink RX4 72 yX4_in, .static yX4_in, .initialized RX4, .code yX4_in cX4_in 3 (some .boolean)] ++ wsX40)
def wsX4_is : List Cond := .code yX4_is cX4_is 2 (some .boolean) :: ([.fieldLink RX4 41 "MapRevisionsModel" "there" "[Z", .fieldLink RX4 20 "MapRevisionsModel" "last" "[I"] ++ wsX40)
def wsX4_open : List Cond := .code yX4_open cX4_open 1 (some .int) :: ([.fieldLink RX4 76 "MapRevisionsModel" "sets" "I", .methodLink RX4 79 yX4_goes, .instanceMethod yX4_goes, .selects RX4 yX4_goes yX4_goes, .initialized RX4, .code yX4_goes cX4_goes 4 (some .boolean), .fieldLink RX4 65 "MapRevisionsModel" "thrown" "I"] ++ wsX40)
def wsX4_close : List Cond := .code yX4_close cX4_close 5 (some .int) :: ([.fieldLink RX4 7 "MapRevisionsModel" "closed" "[Z", .fieldLink RX4 87 "MapRevisionsModel" "versions" "I", .fieldLink RX4 35 "MapRevisionsModel" "set" "[I", .methodLink RX4 83 yX4_isSet, .instanceMethod yX4_isSet, .selects RX4 yX4_isSet yX4_isSet, .initialized RX4, .code yX4_isSet cX4_isSet 2 (some .boolean), .fieldLink RX4 76 "MapRevisionsModel" "sets" "I", .methodLink RX4 72 yX4_in, .static yX4_in, .code yX4_in cX4_in 3 (some .boolean), .methodLink RX4 79 yX4_goes, .instanceMethod yX4_goes, .selects RX4 yX4_goes yX4_goes, .code yX4_goes cX4_goes 4 (some .boolean), .fieldLink RX4 65 "MapRevisionsModel" "thrown" "I"] ++ wsX40)
def wsX4_refer : List Cond := .code yX4_refer cX4_refer 2 (some .int) :: ([.fieldLink RX4 93 "MapRevisionsModel" "drafted" "I", .fieldLink RX4 13 "MapRevisionsModel" "draft" "[I", .methodLink RX4 90 yX4_isThing, .instanceMethod yX4_isThing, .selects RX4 yX4_isThing yX4_isThing, .initialized RX4, .code yX4_isThing cX4_isThing 2 (some .boolean), .fieldLink RX4 69 "MapRevisionsModel" "things" "I", .methodLink RX4 72 yX4_in, .static yX4_in, .code yX4_in cX4_in 3 (some .boolean), .methodLink RX4 79 yX4_goes, .instanceMethod yX4_goes, .selects RX4 yX4_goes yX4_goes, .code yX4_goes cX4_goes 4 (some .boolean), .fieldLink RX4 65 "MapRevisionsModel" "thrown" "I"] ++ wsX40)
def wsX4_wipe : List Cond := .code yX4_wipe cX4_wipe 2 (some .int) :: ([.fieldLink RX4 93 "MapRevisionsModel" "drafted" "I", .methodLink RX4 96 yX4_told, .instanceMethod yX4_told, .selects RX4 yX4_told yX4_told, .initialized RX4, .code yX4_told cX4_told 2 (some .int), .fieldLink RX4 65 "MapRevisionsModel" "thrown" "I"] ++ wsX40)
def wsX4_asksDraft : List Cond := .code yX4_asksDraft cX4_asksDraft 2 none :: ([.fieldLink RX4 93 "MapRevisionsModel" "drafted" "I", .fieldLink RX4 100 "MapRevisionsModel" "asked" "I", .fieldLink RX4 62 "MapRevisionsModel" "asks" "[I", .fieldLink RX4 13 "MapRevisionsModel" "draft" "[I"] ++ wsX40)
def wsX4_asksVersion : List Cond := .code yX4_asksVersion cX4_asksVersion 3 none :: ([.fieldLink RX4 50 "MapRevisionsModel" "size" "[I", .fieldLink RX4 100 "MapRevisionsModel" "asked" "I", .fieldLink RX4 62 "MapRevisionsModel" "asks" "[I", .fieldLink RX4 53 "MapRevisionsModel" "member" "[I"] ++ wsX40)
def wsX4_isUnlike : List Cond := .code yX4_isUnlike cX4_isUnlike 4 (some .boolean) :: ([.fieldLink RX4 100 "MapRevisionsModel" "asked" "I", .fieldLink RX4 62 "MapRevisionsModel" "asks" "[I", .fieldLink RX4 17 "MapRevisionsModel" "kind" "[I", .methodLink RX4 103 yX4_is, .instanceMethod yX4_is, .selects RX4 yX4_is yX4_is, .initialized RX4, .code yX4_is cX4_is 2 (some .boolean), .fieldLink RX4 41 "MapRevisionsModel" "there" "[Z", .fieldLink RX4 20 "MapRevisionsModel" "last" "[I"] ++ wsX40)
def wsX4_hasMember : List Cond := .code yX4_hasMember cX4_hasMember 5 (some .boolean) :: ([.fieldLink RX4 50 "MapRevisionsModel" "size" "[I", .fieldLink RX4 20 "MapRevisionsModel" "last" "[I", .fieldLink RX4 53 "MapRevisionsModel" "member" "[I", .methodLink RX4 103 yX4_is, .instanceMethod yX4_is, .selects RX4 yX4_is yX4_is, .initialized RX4, .code yX4_is cX4_is 2 (some .boolean), .fieldLink RX4 41 "MapRevisionsModel" "there" "[Z"] ++ wsX40)
def wsX4_isRing : List Cond := .code yX4_isRing cX4_isRing 5 (some .boolean) :: ([.fieldLink RX4 17 "MapRevisionsModel" "kind" "[I", .fieldLink RX4 69 "MapRevisionsModel" "things" "I", .fieldLink RX4 56 "MapRevisionsModel" "marked" "[Z", .fieldLink RX4 100 "MapRevisionsModel" "asked" "I", .fieldLink RX4 62 "MapRevisionsModel" "asks" "[I", .methodLink RX4 106 yX4_hasMember, .instanceMethod yX4_hasMember, .selects RX4 yX4_hasMember yX4_hasMember, .initialized RX4, .code yX4_hasMember cX4_hasMember 5 (some .boolean), .fieldLink RX4 50 "MapRevisionsModel" "size" "[I", .fieldLink RX4 20 "MapRevisionsModel" "last" "[I", .fieldLink RX4 53 "MapRevisionsModel" "member" "[I", .methodLink RX4 103 yX4_is, .instanceMethod yX4_is, .selects RX4 yX4_is yX4_is, .code yX4_is cX4_is 2 (some .boolean), .fieldLink RX4 41 "MapRevisionsModel" "there" "[Z"] ++ wsX40)
def wsX4_users : List Cond := .code yX4_users cX4_users 4 (some .int) :: ([.fieldLink RX4 69 "MapRevisionsModel" "things" "I", .methodLink RX4 106 yX4_hasMember, .instanceMethod yX4_hasMember, .selects RX4 yX4_hasMember yX4_hasMember, .initialized RX4, .code yX4_hasMember cX4_hasMember 5 (some .boolean), .fieldLink RX4 50 "MapRevisionsModel" "size" "[I", .fieldLink RX4 20 "MapRevisionsModel" "last" "[I", .fieldLink RX4 53 "MapRevisionsModel" "member" "[I", .methodLink RX4 103 yX4_is, .instanceMethod yX4_is, .selects RX4 yX4_is yX4_is, .code yX4_is cX4_is 2 (some .boolean), .fieldLink RX4 41 "MapRevisionsModel" "there" "[Z"] ++ wsX40)
def wsX4_makes : List Cond := .code yX4_makes cX4_makes 6 (some .int) :: ([.fieldLink RX4 26 "MapRevisionsModel" "of" "[I", .fieldLink RX4 87 "MapRevisionsModel" "versions" "I", .fieldLink RX4 32 "MapRevisionsModel" "ahead" "[I", .fieldLink RX4 23 "MapRevisionsModel" "many" "[I", .fieldLink RX4 20 "MapRevisionsModel" "last" "[I", .fieldLink RX4 29 "MapRevisionsModel" "number" "[I", .fieldLink RX4 35 "MapRevisionsModel" "set" "[I", .fieldLink RX4 38 "MapRevisionsModel" "made" "[I", .fieldLink RX4 110 "MapRevisionsModel" "minute" "I", .fieldLink RX4 41 "MapRevisionsModel" "there" "[Z", .fieldLink RX4 44 "MapRevisionsModel" "hidden" "[Z", .fieldLink RX4 47 "MapRevisionsModel" "where" "[I", .fieldLink RX4 50 "MapRevisionsModel" "size" "[I", .fieldLink RX4 100 "MapRevisionsModel" "asked" "I", .fieldLink RX4 53 "MapRevisionsModel" "member" "[I", .fieldLink RX4 62 "MapRevisionsModel" "asks" "[I"] ++ wsX40)
def wsX4_isOpen : List Cond := .code yX4_isOpen cX4_isOpen 2 (some .boolean) :: ([.fieldLink RX4 7 "MapRevisionsModel" "closed" "[Z", .methodLink RX4 83 yX4_isSet, .instanceMethod yX4_isSet, .selects RX4 yX4_isSet yX4_isSet, .initialized RX4, .code yX4_isSet cX4_isSet 2 (some .boolean), .fieldLink RX4 76 "MapRevisionsModel" "sets" "I", .methodLink RX4 72 yX4_in, .static yX4_in, .code yX4_in cX4_in 3 (some .boolean)] ++ wsX40)
def wsX4_point_r1 : List Cond := [Cond.fieldLink RX4 69 "MapRevisionsModel" "things" "I", Cond.fieldLink RX4 17 "MapRevisionsModel" "kind" "[I", Cond.fieldLink RX4 100 "MapRevisionsModel" "asked" "I", Cond.methodLink RX4 83 yX4_isSet, Cond.instanceMethod yX4_isSet, Cond.selects RX4 yX4_isSet yX4_isSet, Cond.initialized RX4, Cond.code yX4_isSet cX4_isSet 2 (some .boolean), Cond.fieldLink RX4 76 "MapRevisionsModel" "sets" "I", Cond.methodLink RX4 72 yX4_in, Cond.static yX4_in, Cond.code yX4_in cX4_in 3 (some .boolean), Cond.methodLink RX4 113 yX4_isOpen, Cond.instanceMethod yX4_isOpen, Cond.selects RX4 yX4_isOpen yX4_isOpen, Cond.code yX4_isOpen cX4_isOpen 2 (some .boolean), Cond.fieldLink RX4 7 "MapRevisionsModel" "closed" "[Z", Cond.methodLink RX4 79 yX4_goes, Cond.instanceMethod yX4_goes, Cond.selects RX4 yX4_goes yX4_goes, Cond.code yX4_goes cX4_goes 4 (some .boolean), Cond.fieldLink RX4 65 "MapRevisionsModel" "thrown" "I", Cond.methodLink RX4 116 yX4_makes, Cond.instanceMethod yX4_makes]
def wsX4_point_r2 : List Cond := [Cond.selects RX4 yX4_makes yX4_makes, Cond.code yX4_makes cX4_makes 6 (some .int), Cond.fieldLink RX4 26 "MapRevisionsModel" "of" "[I", Cond.fieldLink RX4 87 "MapRevisionsModel" "versions" "I", Cond.fieldLink RX4 32 "MapRevisionsModel" "ahead" "[I", Cond.fieldLink RX4 23 "MapRevisionsModel" "many" "[I", Cond.fieldLink RX4 20 "MapRevisionsModel" "last" "[I", Cond.fieldLink RX4 29 "MapRevisionsModel" "number" "[I", Cond.fieldLink RX4 35 "MapRevisionsModel" "set" "[I", Cond.fieldLink RX4 38 "MapRevisionsModel" "made" "[I", Cond.fieldLink RX4 110 "MapRevisionsModel" "minute" "I", Cond.fieldLink RX4 41 "MapRevisionsModel" "there" "[Z", Cond.fieldLink RX4 44 "MapRevisionsModel" "hidden" "[Z", Cond.fieldLink RX4 47 "MapRevisionsModel" "where" "[I", Cond.fieldLink RX4 50 "MapRevisionsModel" "size" "[I", Cond.fieldLink RX4 53 "MapRevisionsModel" "member" "[I", Cond.fieldLink RX4 62 "MapRevisionsModel" "asks" "[I"]
def wsX4_point : List Cond := .code yX4_point cX4_point 5 (some .int) :: ((wsX4_point_r1 ++ wsX4_point_r2) ++ wsX40)
def wsX4_make_r1 : List Cond := [Cond.fieldLink RX4 69 "MapRevisionsModel" "things" "I", Cond.fieldLink RX4 17 "MapRevisionsModel" "kind" "[I", Cond.methodLink RX4 83 yX4_isSet, Cond.instanceMethod yX4_isSet, Cond.selects RX4 yX4_isSet yX4_isSet, Cond.initialized RX4, Cond.code yX4_isSet cX4_isSet 2 (some .boolean), Cond.fieldLink RX4 76 "MapRevisionsModel" "sets" "I", Cond.methodLink RX4 72 yX4_in, Cond.static yX4_in, Cond.code yX4_in cX4_in 3 (some .boolean), Cond.methodLink RX4 113 yX4_isOpen, Cond.instanceMethod yX4_isOpen, Cond.selects RX4 yX4_isOpen yX4_isOpen, Cond.code yX4_isOpen cX4_isOpen 2 (some .boolean), Cond.fieldLink RX4 7 "MapRevisionsModel" "closed" "[Z", Cond.methodLink RX4 79 yX4_goes, Cond.instanceMethod yX4_goes, Cond.selects RX4 yX4_goes yX4_goes, Cond.code yX4_goes cX4_goes 4 (some .boolean), Cond.fieldLink RX4 65 "MapRevisionsModel" "thrown" "I", Cond.methodLink RX4 120 yX4_asksDraft, Cond.instanceMethod yX4_asksDraft, Cond.selects RX4 yX4_asksDraft yX4_asksDraft]
def wsX4_make_r2 : List Cond := [Cond.code yX4_asksDraft cX4_asksDraft 2 none, Cond.fieldLink RX4 93 "MapRevisionsModel" "drafted" "I", Cond.fieldLink RX4 100 "MapRevisionsModel" "asked" "I", Cond.fieldLink RX4 62 "MapRevisionsModel" "asks" "[I", Cond.fieldLink RX4 13 "MapRevisionsModel" "draft" "[I", Cond.methodLink RX4 123 yX4_isUnlike, Cond.instanceMethod yX4_isUnlike, Cond.selects RX4 yX4_isUnlike yX4_isUnlike, Cond.code yX4_isUnlike cX4_isUnlike 4 (some .boolean), Cond.methodLink RX4 103 yX4_is, Cond.instanceMethod yX4_is, Cond.selects RX4 yX4_is yX4_is, Cond.code yX4_is cX4_is 2 (some .boolean), Cond.fieldLink RX4 41 "MapRevisionsModel" "there" "[Z", Cond.fieldLink RX4 20 "MapRevisionsModel" "last" "[I", Cond.methodLink RX4 116 yX4_makes, Cond.instanceMethod yX4_makes, Cond.selects RX4 yX4_makes yX4_makes, Cond.code yX4_makes cX4_makes 6 (some .int), Cond.fieldLink RX4 26 "MapRevisionsModel" "of" "[I", Cond.fieldLink RX4 87 "MapRevisionsModel" "versions" "I", Cond.fieldLink RX4 32 "MapRevisionsModel" "ahead" "[I", Cond.fieldLink RX4 23 "MapRevisionsModel" "many" "[I", Cond.fieldLink RX4 29 "MapRevisionsModel" "number" "[I"]
def wsX4_make_r3 : List Cond := [Cond.fieldLink RX4 35 "MapRevisionsModel" "set" "[I", Cond.fieldLink RX4 38 "MapRevisionsModel" "made" "[I", Cond.fieldLink RX4 110 "MapRevisionsModel" "minute" "I", Cond.fieldLink RX4 44 "MapRevisionsModel" "hidden" "[Z", Cond.fieldLink RX4 47 "MapRevisionsModel" "where" "[I", Cond.fieldLink RX4 50 "MapRevisionsModel" "size" "[I", Cond.fieldLink RX4 53 "MapRevisionsModel" "member" "[I"]
def wsX4_make : List Cond := .code yX4_make cX4_make 4 (some .int) :: ((wsX4_make_r1 ++ (wsX4_make_r2 ++ wsX4_make_r3)) ++ wsX40)
def wsX4_move_r1 : List Cond := [Cond.fieldLink RX4 17 "MapRevisionsModel" "kind" "[I", Cond.fieldLink RX4 100 "MapRevisionsModel" "asked" "I", Cond.fieldLink RX4 23 "MapRevisionsModel" "many" "[I", Cond.methodLink RX4 83 yX4_isSet, Cond.instanceMethod yX4_isSet, Cond.selects RX4 yX4_isSet yX4_isSet, Cond.initialized RX4, Cond.code yX4_isSet cX4_isSet 2 (some .boolean), Cond.fieldLink RX4 76 "MapRevisionsModel" "sets" "I", Cond.methodLink RX4 72 yX4_in, Cond.static yX4_in, Cond.code yX4_in cX4_in 3 (some .boolean), Cond.methodLink RX4 90 yX4_isThing, Cond.instanceMethod yX4_isThing, Cond.selects RX4 yX4_isThing yX4_isThing, Cond.code yX4_isThing cX4_isThing 2 (some .boolean), Cond.fieldLink RX4 69 "MapRevisionsModel" "things" "I", Cond.methodLink RX4 113 yX4_isOpen, Cond.instanceMethod yX4_isOpen, Cond.selects RX4 yX4_isOpen yX4_isOpen, Cond.code yX4_isOpen cX4_isOpen 2 (some .boolean), Cond.fieldLink RX4 7 "MapRevisionsModel" "closed" "[Z", Cond.methodLink RX4 79 yX4_goes, Cond.instanceMethod yX4_goes]
def wsX4_move_r2 : List Cond := [Cond.selects RX4 yX4_goes yX4_goes, Cond.code yX4_goes cX4_goes 4 (some .boolean), Cond.fieldLink RX4 65 "MapRevisionsModel" "thrown" "I", Cond.methodLink RX4 103 yX4_is, Cond.instanceMethod yX4_is, Cond.selects RX4 yX4_is yX4_is, Cond.code yX4_is cX4_is 2 (some .boolean), Cond.fieldLink RX4 41 "MapRevisionsModel" "there" "[Z", Cond.fieldLink RX4 20 "MapRevisionsModel" "last" "[I", Cond.methodLink RX4 116 yX4_makes, Cond.instanceMethod yX4_makes, Cond.selects RX4 yX4_makes yX4_makes, Cond.code yX4_makes cX4_makes 6 (some .int), Cond.fieldLink RX4 26 "MapRevisionsModel" "of" "[I", Cond.fieldLink RX4 87 "MapRevisionsModel" "versions" "I", Cond.fieldLink RX4 32 "MapRevisionsModel" "ahead" "[I", Cond.fieldLink RX4 29 "MapRevisionsModel" "number" "[I", Cond.fieldLink RX4 35 "MapRevisionsModel" "set" "[I", Cond.fieldLink RX4 38 "MapRevisionsModel" "made" "[I", Cond.fieldLink RX4 110 "MapRevisionsModel" "minute" "I", Cond.fieldLink RX4 44 "MapRevisionsModel" "hidden" "[Z", Cond.fieldLink RX4 47 "MapRevisionsModel" "where" "[I", Cond.fieldLink RX4 50 "MapRevisionsModel" "size" "[I", Cond.fieldLink RX4 53 "MapRevisionsModel" "member" "[I"]
def wsX4_move_r3 : List Cond := [Cond.fieldLink RX4 62 "MapRevisionsModel" "asks" "[I"]
def wsX4_move : List Cond := .code yX4_move cX4_move 7 (some .int) :: ((wsX4_move_r1 ++ (wsX4_move_r2 ++ wsX4_move_r3)) ++ wsX40)
def wsX4_change_r1 : List Cond := [Cond.fieldLink RX4 17 "MapRevisionsModel" "kind" "[I", Cond.fieldLink RX4 23 "MapRevisionsModel" "many" "[I", Cond.methodLink RX4 83 yX4_isSet, Cond.instanceMethod yX4_isSet, Cond.selects RX4 yX4_isSet yX4_isSet, Cond.initialized RX4, Cond.code yX4_isSet cX4_isSet 2 (some .boolean), Cond.fieldLink RX4 76 "MapRevisionsModel" "sets" "I", Cond.methodLink RX4 72 yX4_in, Cond.static yX4_in, Cond.code yX4_in cX4_in 3 (some .boolean), Cond.methodLink RX4 90 yX4_isThing, Cond.instanceMethod yX4_isThing, Cond.selects RX4 yX4_isThing yX4_isThing, Cond.code yX4_isThing cX4_isThing 2 (some .boolean), Cond.fieldLink RX4 69 "MapRevisionsModel" "things" "I", Cond.methodLink RX4 113 yX4_isOpen, Cond.instanceMethod yX4_isOpen, Cond.selects RX4 yX4_isOpen yX4_isOpen, Cond.code yX4_isOpen cX4_isOpen 2 (some .boolean), Cond.fieldLink RX4 7 "MapRevisionsModel" "closed" "[Z", Cond.methodLink RX4 79 yX4_goes, Cond.instanceMethod yX4_goes, Cond.selects RX4 yX4_goes yX4_goes]
def wsX4_change_r2 : List Cond := [Cond.code yX4_goes cX4_goes 4 (some .boolean), Cond.fieldLink RX4 65 "MapRevisionsModel" "thrown" "I", Cond.methodLink RX4 120 yX4_asksDraft, Cond.instanceMethod yX4_asksDraft, Cond.selects RX4 yX4_asksDraft yX4_asksDraft, Cond.code yX4_asksDraft cX4_asksDraft 2 none, Cond.fieldLink RX4 93 "MapRevisionsModel" "drafted" "I", Cond.fieldLink RX4 100 "MapRevisionsModel" "asked" "I", Cond.fieldLink RX4 62 "MapRevisionsModel" "asks" "[I", Cond.fieldLink RX4 13 "MapRevisionsModel" "draft" "[I", Cond.methodLink RX4 103 yX4_is, Cond.instanceMethod yX4_is, Cond.selects RX4 yX4_is yX4_is, Cond.code yX4_is cX4_is 2 (some .boolean), Cond.fieldLink RX4 41 "MapRevisionsModel" "there" "[Z", Cond.fieldLink RX4 20 "MapRevisionsModel" "last" "[I", Cond.methodLink RX4 123 yX4_isUnlike, Cond.instanceMethod yX4_isUnlike, Cond.selects RX4 yX4_isUnlike yX4_isUnlike, Cond.code yX4_isUnlike cX4_isUnlike 4 (some .boolean), Cond.methodLink RX4 126 yX4_isRing, Cond.instanceMethod yX4_isRing, Cond.selects RX4 yX4_isRing yX4_isRing, Cond.code yX4_isRing cX4_isRing 5 (some .boolean)]
def wsX4_change_r3 : List Cond := [Cond.fieldLink RX4 56 "MapRevisionsModel" "marked" "[Z", Cond.methodLink RX4 106 yX4_hasMember, Cond.instanceMethod yX4_hasMember, Cond.selects RX4 yX4_hasMember yX4_hasMember, Cond.code yX4_hasMember cX4_hasMember 5 (some .boolean), Cond.fieldLink RX4 50 "MapRevisionsModel" "size" "[I", Cond.fieldLink RX4 53 "MapRevisionsModel" "member" "[I", Cond.methodLink RX4 116 yX4_makes, Cond.instanceMethod yX4_makes, Cond.selects RX4 yX4_makes yX4_makes, Cond.code yX4_makes cX4_makes 6 (some .int), Cond.fieldLink RX4 26 "MapRevisionsModel" "of" "[I", Cond.fieldLink RX4 87 "MapRevisionsModel" "versions" "I", Cond.fieldLink RX4 32 "MapRevisionsModel" "ahead" "[I", Cond.fieldLink RX4 29 "MapRevisionsModel" "number" "[I", Cond.fieldLink RX4 35 "MapRevisionsModel" "set" "[I", Cond.fieldLink RX4 38 "MapRevisionsModel" "made" "[I", Cond.fieldLink RX4 110 "MapRevisionsModel" "minute" "I", Cond.fieldLink RX4 44 "MapRevisionsModel" "hidden" "[Z", Cond.fieldLink RX4 47 "MapRevisionsModel" "where" "[I"]
def wsX4_change : List Cond := .code yX4_change cX4_change 5 (some .int) :: ((wsX4_change_r1 ++ (wsX4_change_r2 ++ wsX4_change_r3)) ++ wsX40)
def wsX4_delete_r1 : List Cond := [Cond.fieldLink RX4 23 "MapRevisionsModel" "many" "[I", Cond.methodLink RX4 83 yX4_isSet, Cond.instanceMethod yX4_isSet, Cond.selects RX4 yX4_isSet yX4_isSet, Cond.initialized RX4, Cond.code yX4_isSet cX4_isSet 2 (some .boolean), Cond.fieldLink RX4 76 "MapRevisionsModel" "sets" "I", Cond.methodLink RX4 72 yX4_in, Cond.static yX4_in, Cond.code yX4_in cX4_in 3 (some .boolean), Cond.methodLink RX4 90 yX4_isThing, Cond.instanceMethod yX4_isThing, Cond.selects RX4 yX4_isThing yX4_isThing, Cond.code yX4_isThing cX4_isThing 2 (some .boolean), Cond.fieldLink RX4 69 "MapRevisionsModel" "things" "I", Cond.methodLink RX4 113 yX4_isOpen, Cond.instanceMethod yX4_isOpen, Cond.selects RX4 yX4_isOpen yX4_isOpen, Cond.code yX4_isOpen cX4_isOpen 2 (some .boolean), Cond.fieldLink RX4 7 "MapRevisionsModel" "closed" "[Z", Cond.methodLink RX4 79 yX4_goes, Cond.instanceMethod yX4_goes, Cond.selects RX4 yX4_goes yX4_goes, Cond.code yX4_goes cX4_goes 4 (some .boolean)]
def wsX4_delete_r2 : List Cond := [Cond.fieldLink RX4 65 "MapRevisionsModel" "thrown" "I", Cond.methodLink RX4 103 yX4_is, Cond.instanceMethod yX4_is, Cond.selects RX4 yX4_is yX4_is, Cond.code yX4_is cX4_is 2 (some .boolean), Cond.fieldLink RX4 41 "MapRevisionsModel" "there" "[Z", Cond.fieldLink RX4 20 "MapRevisionsModel" "last" "[I", Cond.methodLink RX4 129 yX4_users, Cond.instanceMethod yX4_users, Cond.selects RX4 yX4_users yX4_users, Cond.code yX4_users cX4_users 4 (some .int), Cond.methodLink RX4 106 yX4_hasMember, Cond.instanceMethod yX4_hasMember, Cond.selects RX4 yX4_hasMember yX4_hasMember, Cond.code yX4_hasMember cX4_hasMember 5 (some .boolean), Cond.fieldLink RX4 50 "MapRevisionsModel" "size" "[I", Cond.fieldLink RX4 53 "MapRevisionsModel" "member" "[I", Cond.methodLink RX4 116 yX4_makes, Cond.instanceMethod yX4_makes, Cond.selects RX4 yX4_makes yX4_makes, Cond.code yX4_makes cX4_makes 6 (some .int), Cond.fieldLink RX4 26 "MapRevisionsModel" "of" "[I", Cond.fieldLink RX4 87 "MapRevisionsModel" "versions" "I", Cond.fieldLink RX4 32 "MapRevisionsModel" "ahead" "[I"]
def wsX4_delete_r3 : List Cond := [Cond.fieldLink RX4 29 "MapRevisionsModel" "number" "[I", Cond.fieldLink RX4 35 "MapRevisionsModel" "set" "[I", Cond.fieldLink RX4 38 "MapRevisionsModel" "made" "[I", Cond.fieldLink RX4 110 "MapRevisionsModel" "minute" "I", Cond.fieldLink RX4 44 "MapRevisionsModel" "hidden" "[Z", Cond.fieldLink RX4 47 "MapRevisionsModel" "where" "[I", Cond.fieldLink RX4 100 "MapRevisionsModel" "asked" "I", Cond.fieldLink RX4 62 "MapRevisionsModel" "asks" "[I"]
def wsX4_delete : List Cond := .code yX4_delete cX4_delete 5 (some .int) :: ((wsX4_delete_r1 ++ (wsX4_delete_r2 ++ wsX4_delete_r3)) ++ wsX40)
def wsX4_undoes_r1 : List Cond := [Cond.fieldLink RX4 20 "MapRevisionsModel" "last" "[I", Cond.fieldLink RX4 35 "MapRevisionsModel" "set" "[I", Cond.fieldLink RX4 32 "MapRevisionsModel" "ahead" "[I", Cond.fieldLink RX4 41 "MapRevisionsModel" "there" "[Z", Cond.fieldLink RX4 100 "MapRevisionsModel" "asked" "I", Cond.fieldLink RX4 17 "MapRevisionsModel" "kind" "[I", Cond.fieldLink RX4 47 "MapRevisionsModel" "where" "[I", Cond.methodLink RX4 129 yX4_users, Cond.instanceMethod yX4_users, Cond.selects RX4 yX4_users yX4_users, Cond.initialized RX4, Cond.code yX4_users cX4_users 4 (some .int), Cond.fieldLink RX4 69 "MapRevisionsModel" "things" "I", Cond.methodLink RX4 106 yX4_hasMember, Cond.instanceMethod yX4_hasMember, Cond.selects RX4 yX4_hasMember yX4_hasMember, Cond.code yX4_hasMember cX4_hasMember 5 (some .boolean), Cond.fieldLink RX4 50 "MapRevisionsModel" "size" "[I", Cond.fieldLink RX4 53 "MapRevisionsModel" "member" "[I", Cond.methodLink RX4 103 yX4_is, Cond.instanceMethod yX4_is, Cond.selects RX4 yX4_is yX4_is, Cond.code yX4_is cX4_is 2 (some .boolean), Cond.methodLink RX4 132 yX4_asksVersion]
def wsX4_undoes_r2 : List Cond := [Cond.instanceMethod yX4_asksVersion, Cond.selects RX4 yX4_asksVersion yX4_asksVersion, Cond.code yX4_asksVersion cX4_asksVersion 3 none, Cond.fieldLink RX4 62 "MapRevisionsModel" "asks" "[I", Cond.methodLink RX4 123 yX4_isUnlike, Cond.instanceMethod yX4_isUnlike, Cond.selects RX4 yX4_isUnlike yX4_isUnlike, Cond.code yX4_isUnlike cX4_isUnlike 4 (some .boolean), Cond.methodLink RX4 126 yX4_isRing, Cond.instanceMethod yX4_isRing, Cond.selects RX4 yX4_isRing yX4_isRing, Cond.code yX4_isRing cX4_isRing 5 (some .boolean), Cond.fieldLink RX4 56 "MapRevisionsModel" "marked" "[Z", Cond.methodLink RX4 116 yX4_makes, Cond.instanceMethod yX4_makes, Cond.selects RX4 yX4_makes yX4_makes, Cond.code yX4_makes cX4_makes 6 (some .int), Cond.fieldLink RX4 26 "MapRevisionsModel" "of" "[I", Cond.fieldLink RX4 87 "MapRevisionsModel" "versions" "I", Cond.fieldLink RX4 23 "MapRevisionsModel" "many" "[I", Cond.fieldLink RX4 29 "MapRevisionsModel" "number" "[I", Cond.fieldLink RX4 38 "MapRevisionsModel" "made" "[I", Cond.fieldLink RX4 110 "MapRevisionsModel" "minute" "I", Cond.fieldLink RX4 44 "MapRevisionsModel" "hidden" "[Z"]
def wsX4_undoes : List Cond := .code yX4_undoes cX4_undoes 7 (some .boolean) :: ((wsX4_undoes_r1 ++ wsX4_undoes_r2) ++ wsX40)
def wsX4_hasOf : List Cond := .code yX4_hasOf cX4_hasOf 5 (some .boolean) :: ([.fieldLink RX4 87 "MapRevisionsModel" "versions" "I", .fieldLink RX4 26 "MapRevisionsModel" "of" "[I", .fieldLink RX4 35 "MapRevisionsModel" "set" "[I"] ++ wsX40)
def wsX4_undo_r1 : List Cond := [Cond.fieldLink RX4 7 "MapRevisionsModel" "closed" "[Z", Cond.fieldLink RX4 69 "MapRevisionsModel" "things" "I", Cond.fieldLink RX4 35 "MapRevisionsModel" "set" "[I", Cond.fieldLink RX4 20 "MapRevisionsModel" "last" "[I", Cond.methodLink RX4 83 yX4_isSet, Cond.instanceMethod yX4_isSet, Cond.selects RX4 yX4_isSet yX4_isSet, Cond.initialized RX4, Cond.code yX4_isSet cX4_isSet 2 (some .boolean), Cond.fieldLink RX4 76 "MapRevisionsModel" "sets" "I", Cond.methodLink RX4 72 yX4_in, Cond.static yX4_in, Cond.code yX4_in cX4_in 3 (some .boolean), Cond.methodLink RX4 79 yX4_goes, Cond.instanceMethod yX4_goes, Cond.selects RX4 yX4_goes yX4_goes, Cond.code yX4_goes cX4_goes 4 (some .boolean), Cond.fieldLink RX4 65 "MapRevisionsModel" "thrown" "I", Cond.methodLink RX4 136 yX4_hasOf, Cond.instanceMethod yX4_hasOf, Cond.selects RX4 yX4_hasOf yX4_hasOf, Cond.code yX4_hasOf cX4_hasOf 5 (some .boolean), Cond.fieldLink RX4 87 "MapRevisionsModel" "versions" "I", Cond.fieldLink RX4 26 "MapRevisionsModel" "of" "[I"]
def wsX4_undo_r2 : List Cond := [Cond.methodLink RX4 139 yX4_undoes, Cond.instanceMethod yX4_undoes, Cond.selects RX4 yX4_undoes yX4_undoes, Cond.code yX4_undoes cX4_undoes 7 (some .boolean), Cond.fieldLink RX4 32 "MapRevisionsModel" "ahead" "[I", Cond.fieldLink RX4 41 "MapRevisionsModel" "there" "[Z", Cond.fieldLink RX4 100 "MapRevisionsModel" "asked" "I", Cond.fieldLink RX4 17 "MapRevisionsModel" "kind" "[I", Cond.fieldLink RX4 47 "MapRevisionsModel" "where" "[I", Cond.methodLink RX4 129 yX4_users, Cond.instanceMethod yX4_users, Cond.selects RX4 yX4_users yX4_users, Cond.code yX4_users cX4_users 4 (some .int), Cond.methodLink RX4 106 yX4_hasMember, Cond.instanceMethod yX4_hasMember, Cond.selects RX4 yX4_hasMember yX4_hasMember, Cond.code yX4_hasMember cX4_hasMember 5 (some .boolean), Cond.fieldLink RX4 50 "MapRevisionsModel" "size" "[I", Cond.fieldLink RX4 53 "MapRevisionsModel" "member" "[I", Cond.methodLink RX4 103 yX4_is, Cond.instanceMethod yX4_is, Cond.selects RX4 yX4_is yX4_is, Cond.code yX4_is cX4_is 2 (some .boolean), Cond.methodLink RX4 132 yX4_asksVersion]
def wsX4_undo_r3 : List Cond := [Cond.instanceMethod yX4_asksVersion, Cond.selects RX4 yX4_asksVersion yX4_asksVersion, Cond.code yX4_asksVersion cX4_asksVersion 3 none, Cond.fieldLink RX4 62 "MapRevisionsModel" "asks" "[I", Cond.methodLink RX4 123 yX4_isUnlike, Cond.instanceMethod yX4_isUnlike, Cond.selects RX4 yX4_isUnlike yX4_isUnlike, Cond.code yX4_isUnlike cX4_isUnlike 4 (some .boolean), Cond.methodLink RX4 126 yX4_isRing, Cond.instanceMethod yX4_isRing, Cond.selects RX4 yX4_isRing yX4_isRing, Cond.code yX4_isRing cX4_isRing 5 (some .boolean), Cond.fieldLink RX4 56 "MapRevisionsModel" "marked" "[Z", Cond.methodLink RX4 116 yX4_makes, Cond.instanceMethod yX4_makes, Cond.selects RX4 yX4_makes yX4_makes, Cond.code yX4_makes cX4_makes 6 (some .int), Cond.fieldLink RX4 23 "MapRevisionsModel" "many" "[I", Cond.fieldLink RX4 29 "MapRevisionsModel" "number" "[I", Cond.fieldLink RX4 38 "MapRevisionsModel" "made" "[I", Cond.fieldLink RX4 110 "MapRevisionsModel" "minute" "I", Cond.fieldLink RX4 44 "MapRevisionsModel" "hidden" "[Z"]
def wsX4_undo : List Cond := .code yX4_undo cX4_undo 7 (some .int) :: ((wsX4_undo_r1 ++ (wsX4_undo_r2 ++ wsX4_undo_r3)) ++ wsX40)
def wsX4_things : List Cond := .code yX4_things cX4_things 1 (some .int) :: ([.fieldLink RX4 69 "MapRevisionsModel" "things" "I", .methodLink RX4 96 yX4_told, .instanceMethod yX4_told, .selects RX4 yX4_told yX4_told, .initialized RX4, .code yX4_told cX4_told 2 (some .int), .fieldLink RX4 65 "MapRevisionsModel" "thrown" "I"] ++ wsX40)
def wsX4_latest : List Cond := .code yX4_latest cX4_latest 2 (some .int) :: ([.fieldLink RX4 23 "MapRevisionsModel" "many" "[I", .methodLink RX4 90 yX4_isThing, .instanceMethod yX4_isThing, .selects RX4 yX4_isThing yX4_isThing, .initialized RX4, .code yX4_isThing cX4_isThing 2 (some .boolean), .fieldLink RX4 69 "MapRevisionsModel" "things" "I", .methodLink RX4 72 yX4_in, .static yX4_in, .code yX4_in cX4_in 3 (some .boolean), .methodLink RX4 79 yX4_goes, .instanceMethod yX4_goes, .selects RX4 yX4_goes yX4_goes, .code yX4_goes cX4_goes 4 (some .boolean), .fieldLink RX4 65 "MapRevisionsModel" "thrown" "I"] ++ wsX40)
def wsX4_isThere : List Cond := .code yX4_isThere cX4_isThere 2 (some .boolean) :: ([.methodLink RX4 90 yX4_isThing, .instanceMethod yX4_isThing, .selects RX4 yX4_isThing yX4_isThing, .initialized RX4, .code yX4_isThing cX4_isThing 2 (some .boolean), .fieldLink RX4 69 "MapRevisionsModel" "things" "I", .methodLink RX4 72 yX4_in, .static yX4_in, .code yX4_in cX4_in 3 (some .boolean), .methodLink RX4 79 yX4_goes, .instanceMethod yX4_goes, .selects RX4 yX4_goes yX4_goes, .code yX4_goes cX4_goes 4 (some .boolean), .fieldLink RX4 65 "MapRevisionsModel" "thrown" "I", .methodLink RX4 103 yX4_is, .instanceMethod yX4_is, .selects RX4 yX4_is yX4_is, .code yX4_is cX4_is 2 (some .boolean), .fieldLink RX4 41 "MapRevisionsModel" "there" "[Z", .fieldLink RX4 20 "MapRevisionsModel" "last" "[I"] ++ wsX40)
def wsX4_whereIs : List Cond := .code yX4_whereIs cX4_whereIs 3 (some .int) :: ([.fieldLink RX4 17 "MapRevisionsModel" "kind" "[I", .fieldLink RX4 47 "MapRevisionsModel" "where" "[I", .fieldLink RX4 20 "MapRevisionsModel" "last" "[I", .methodLink RX4 90 yX4_isThing, .instanceMethod yX4_isThing, .selects RX4 yX4_isThing yX4_isThing, .initialized RX4, .code yX4_isThing cX4_isThing 2 (some .boolean), .fieldLink RX4 69 "MapRevisionsModel" "things" "I", .methodLink RX4 72 yX4_in, .static yX4_in, .code yX4_in cX4_in 3 (some .boolean), .methodLink RX4 103 yX4_is, .instanceMethod yX4_is, .selects RX4 yX4_is yX4_is, .code yX4_is cX4_is 2 (some .boolean), .fieldLink RX4 41 "MapRevisionsModel" "there" "[Z", .methodLink RX4 79 yX4_goes, .instanceMethod yX4_goes, .selects RX4 yX4_goes yX4_goes, .code yX4_goes cX4_goes 4 (some .boolean), .fieldLink RX4 65 "MapRevisionsModel" "thrown" "I"] ++ wsX40)
def wsX4_members : List Cond := .code yX4_members cX4_members 2 (some .int) :: ([.fieldLink RX4 50 "MapRevisionsModel" "size" "[I", .fieldLink RX4 20 "MapRevisionsModel" "last" "[I", .methodLink RX4 90 yX4_isThing, .instanceMethod yX4_isThing, .selects RX4 yX4_isThing yX4_isThing, .initialized RX4, .code yX4_isThing cX4_isThing 2 (some .boolean), .fieldLink RX4 69 "MapRevisionsModel" "things" "I", .methodLink RX4 72 yX4_in, .static yX4_in, .code yX4_in cX4_in 3 (some .boolean), .methodLink RX4 79 yX4_goes, .instanceMethod yX4_goes, .selects RX4 yX4_goes yX4_goes, .code yX4_goes cX4_goes 4 (some .boolean), .fieldLink RX4 65 "MapRevisionsModel" "thrown" "I"] ++ wsX40)
def wsX4_usedBy_r1 : List Cond := [Cond.methodLink RX4 90 yX4_isThing, Cond.instanceMethod yX4_isThing, Cond.selects RX4 yX4_isThing yX4_isThing, Cond.initialized RX4, Cond.code yX4_isThing cX4_isThing 2 (some .boolean), Cond.fieldLink RX4 69 "MapRevisionsModel" "things" "I", Cond.methodLink RX4 72 yX4_in, Cond.static yX4_in, Cond.code yX4_in cX4_in 3 (some .boolean), Cond.methodLink RX4 79 yX4_goes, Cond.instanceMethod yX4_goes, Cond.selects RX4 yX4_goes yX4_goes, Cond.code yX4_goes cX4_goes 4 (some .boolean), Cond.fieldLink RX4 65 "MapRevisionsModel" "thrown" "I", Cond.methodLink RX4 129 yX4_users, Cond.instanceMethod yX4_users, Cond.selects RX4 yX4_users yX4_users, Cond.code yX4_users cX4_users 4 (some .int), Cond.methodLink RX4 106 yX4_hasMember, Cond.instanceMethod yX4_hasMember, Cond.selects RX4 yX4_hasMember yX4_hasMember, Cond.code yX4_hasMember cX4_hasMember 5 (some .boolean), Cond.fieldLink RX4 50 "MapRevisionsModel" "size" "[I", Cond.fieldLink RX4 20 "MapRevisionsModel" "last" "[I"]
def wsX4_usedBy_r2 : List Cond := [Cond.fieldLink RX4 53 "MapRevisionsModel" "member" "[I", Cond.methodLink RX4 103 yX4_is, Cond.instanceMethod yX4_is, Cond.selects RX4 yX4_is yX4_is, Cond.code yX4_is cX4_is 2 (some .boolean), Cond.fieldLink RX4 41 "MapRevisionsModel" "there" "[Z"]
def wsX4_usedBy : List Cond := .code yX4_usedBy cX4_usedBy 2 (some .int) :: ((wsX4_usedBy_r1 ++ wsX4_usedBy_r2) ++ wsX40)
def wsX4_isVersion : List Cond := .code yX4_isVersion cX4_isVersion 3 (some .boolean) :: ([.fieldLink RX4 23 "MapRevisionsModel" "many" "[I", .methodLink RX4 90 yX4_isThing, .instanceMethod yX4_isThing, .selects RX4 yX4_isThing yX4_isThing, .initialized RX4, .code yX4_isThing cX4_isThing 2 (some .boolean), .fieldLink RX4 69 "MapRevisionsModel" "things" "I", .methodLink RX4 72 yX4_in, .static yX4_in, .code yX4_in cX4_in 3 (some .boolean)] ++ wsX40)
def wsX4_placeOf : List Cond := .code yX4_placeOf cX4_placeOf 4 (some .int) :: ([.fieldLink RX4 20 "MapRevisionsModel" "last" "[I", .fieldLink RX4 29 "MapRevisionsModel" "number" "[I", .fieldLink RX4 32 "MapRevisionsModel" "ahead" "[I"] ++ wsX40)
def wsX4_hide_r1 : List Cond := [Cond.fieldLink RX4 23 "MapRevisionsModel" "many" "[I", Cond.fieldLink RX4 44 "MapRevisionsModel" "hidden" "[Z", Cond.fieldLink RX4 20 "MapRevisionsModel" "last" "[I", Cond.fieldLink RX4 32 "MapRevisionsModel" "ahead" "[I", Cond.methodLink RX4 142 yX4_isVersion, Cond.instanceMethod yX4_isVersion, Cond.selects RX4 yX4_isVersion yX4_isVersion, Cond.initialized RX4, Cond.code yX4_isVersion cX4_isVersion 3 (some .boolean), Cond.methodLink RX4 90 yX4_isThing, Cond.instanceMethod yX4_isThing, Cond.selects RX4 yX4_isThing yX4_isThing, Cond.code yX4_isThing cX4_isThing 2 (some .boolean), Cond.fieldLink RX4 69 "MapRevisionsModel" "things" "I", Cond.methodLink RX4 72 yX4_in, Cond.static yX4_in, Cond.code yX4_in cX4_in 3 (some .boolean), Cond.methodLink RX4 145 yX4_placeOf, Cond.instanceMethod yX4_placeOf, Cond.selects RX4 yX4_placeOf yX4_placeOf, Cond.code yX4_placeOf cX4_placeOf 4 (some .int), Cond.fieldLink RX4 29 "MapRevisionsModel" "number" "[I", Cond.methodLink RX4 79 yX4_goes, Cond.instanceMethod yX4_goes]
def wsX4_hide_r2 : List Cond := [Cond.selects RX4 yX4_goes yX4_goes, Cond.code yX4_goes cX4_goes 4 (some .boolean), Cond.fieldLink RX4 65 "MapRevisionsModel" "thrown" "I"]
def wsX4_hide : List Cond := .code yX4_hide cX4_hide 7 (some .int) :: ((wsX4_hide_r1 ++ wsX4_hide_r2) ++ wsX40)
def wsX4_setOf_r1 : List Cond := [Cond.fieldLink RX4 44 "MapRevisionsModel" "hidden" "[Z", Cond.fieldLink RX4 35 "MapRevisionsModel" "set" "[I", Cond.methodLink RX4 142 yX4_isVersion, Cond.instanceMethod yX4_isVersion, Cond.selects RX4 yX4_isVersion yX4_isVersion, Cond.initialized RX4, Cond.code yX4_isVersion cX4_isVersion 3 (some .boolean), Cond.fieldLink RX4 23 "MapRevisionsModel" "many" "[I", Cond.methodLink RX4 90 yX4_isThing, Cond.instanceMethod yX4_isThing, Cond.selects RX4 yX4_isThing yX4_isThing, Cond.code yX4_isThing cX4_isThing 2 (some .boolean), Cond.fieldLink RX4 69 "MapRevisionsModel" "things" "I", Cond.methodLink RX4 72 yX4_in, Cond.static yX4_in, Cond.code yX4_in cX4_in 3 (some .boolean), Cond.methodLink RX4 145 yX4_placeOf, Cond.instanceMethod yX4_placeOf, Cond.selects RX4 yX4_placeOf yX4_placeOf, Cond.code yX4_placeOf cX4_placeOf 4 (some .int), Cond.fieldLink RX4 20 "MapRevisionsModel" "last" "[I", Cond.fieldLink RX4 29 "MapRevisionsModel" "number" "[I", Cond.fieldLink RX4 32 "MapRevisionsModel" "ahead" "[I", Cond.methodLink RX4 79 yX4_goes]
def wsX4_setOf_r2 : List Cond := [Cond.instanceMethod yX4_goes, Cond.selects RX4 yX4_goes yX4_goes, Cond.code yX4_goes cX4_goes 4 (some .boolean), Cond.fieldLink RX4 65 "MapRevisionsModel" "thrown" "I"]
def wsX4_setOf : List Cond := .code yX4_setOf cX4_setOf 5 (some .int) :: ((wsX4_setOf_r1 ++ wsX4_setOf_r2) ++ wsX40)
def wsX4_before : List Cond := .code yX4_before cX4_before 4 (some .int) :: ([.fieldLink RX4 20 "MapRevisionsModel" "last" "[I", .fieldLink RX4 38 "MapRevisionsModel" "made" "[I", .fieldLink RX4 32 "MapRevisionsModel" "ahead" "[I", .fieldLink RX4 29 "MapRevisionsModel" "number" "[I"] ++ wsX40)
def wsX4_versionAt : List Cond := .code yX4_versionAt cX4_versionAt 3 (some .int) :: ([.fieldLink RX4 110 "MapRevisionsModel" "minute" "I", .methodLink RX4 90 yX4_isThing, .instanceMethod yX4_isThing, .selects RX4 yX4_isThing yX4_isThing, .initialized RX4, .code yX4_isThing cX4_isThing 2 (some .boolean), .fieldLink RX4 69 "MapRevisionsModel" "things" "I", .methodLink RX4 72 yX4_in, .static yX4_in, .code yX4_in cX4_in 3 (some .boolean), .methodLink RX4 79 yX4_goes, .instanceMethod yX4_goes, .selects RX4 yX4_goes yX4_goes, .code yX4_goes cX4_goes 4 (some .boolean), .fieldLink RX4 65 "MapRevisionsModel" "thrown" "I", .methodLink RX4 149 yX4_before, .instanceMethod yX4_before, .selects RX4 yX4_before yX4_before, .code yX4_before cX4_before 4 (some .int), .fieldLink RX4 20 "MapRevisionsModel" "last" "[I", .fieldLink RX4 38 "MapRevisionsModel" "made" "[I", .fieldLink RX4 32 "MapRevisionsModel" "ahead" "[I", .fieldLink RX4 29 "MapRevisionsModel" "number" "[I"] ++ wsX40)
def wsX4_usesDrawn : List Cond := .code yX4_usesDrawn cX4_usesDrawn 6 (some .boolean) :: ([.fieldLink RX4 69 "MapRevisionsModel" "things" "I", .fieldLink RX4 59 "MapRevisionsModel" "drawn" "[Z", .fieldLink RX4 17 "MapRevisionsModel" "kind" "[I", .methodLink RX4 106 yX4_hasMember, .instanceMethod yX4_hasMember, .selects RX4 yX4_hasMember yX4_hasMember, .initialized RX4, .code yX4_hasMember cX4_hasMember 5 (some .boolean), .fieldLink RX4 50 "MapRevisionsModel" "size" "[I", .fieldLink RX4 20 "MapRevisionsModel" "last" "[I", .fieldLink RX4 53 "MapRevisionsModel" "member" "[I", .methodLink RX4 103 yX4_is, .instanceMethod yX4_is, .selects RX4 yX4_is yX4_is, .code yX4_is cX4_is 2 (some .boolean), .fieldLink RX4 41 "MapRevisionsModel" "there" "[Z"] ++ wsX40)
def wsX4_drawnOf : List Cond := .code yX4_drawnOf cX4_drawnOf 4 (some .int) :: ([.fieldLink RX4 69 "MapRevisionsModel" "things" "I", .fieldLink RX4 59 "MapRevisionsModel" "drawn" "[Z", .fieldLink RX4 17 "MapRevisionsModel" "kind" "[I"] ++ wsX40)
def wsX4_inBox_r1 : List Cond := [Cond.fieldLink RX4 69 "MapRevisionsModel" "things" "I", Cond.fieldLink RX4 47 "MapRevisionsModel" "where" "[I", Cond.fieldLink RX4 20 "MapRevisionsModel" "last" "[I", Cond.fieldLink RX4 59 "MapRevisionsModel" "drawn" "[Z", Cond.fieldLink RX4 17 "MapRevisionsModel" "kind" "[I", Cond.methodLink RX4 72 yX4_in, Cond.static yX4_in, Cond.initialized RX4, Cond.code yX4_in cX4_in 3 (some .boolean), Cond.methodLink RX4 79 yX4_goes, Cond.instanceMethod yX4_goes, Cond.selects RX4 yX4_goes yX4_goes, Cond.code yX4_goes cX4_goes 4 (some .boolean), Cond.fieldLink RX4 65 "MapRevisionsModel" "thrown" "I", Cond.methodLink RX4 103 yX4_is, Cond.instanceMethod yX4_is, Cond.selects RX4 yX4_is yX4_is, Cond.code yX4_is cX4_is 2 (some .boolean), Cond.fieldLink RX4 41 "MapRevisionsModel" "there" "[Z", Cond.methodLink RX4 152 yX4_usesDrawn, Cond.instanceMethod yX4_usesDrawn, Cond.selects RX4 yX4_usesDrawn yX4_usesDrawn, Cond.code yX4_usesDrawn cX4_usesDrawn 6 (some .boolean), Cond.methodLink RX4 106 yX4_hasMember]
def wsX4_inBox_r2 : List Cond := [Cond.instanceMethod yX4_hasMember, Cond.selects RX4 yX4_hasMember yX4_hasMember, Cond.code yX4_hasMember cX4_hasMember 5 (some .boolean), Cond.fieldLink RX4 50 "MapRevisionsModel" "size" "[I", Cond.fieldLink RX4 53 "MapRevisionsModel" "member" "[I", Cond.methodLink RX4 155 yX4_drawnOf, Cond.instanceMethod yX4_drawnOf, Cond.selects RX4 yX4_drawnOf yX4_drawnOf, Cond.code yX4_drawnOf cX4_drawnOf 4 (some .int)]
def wsX4_inBox : List Cond := .code yX4_inBox cX4_inBox 9 (some .int) :: ((wsX4_inBox_r1 ++ wsX4_inBox_r2) ++ wsX40)
def wsX4_pass : List Cond := .code yX4_pass cX4_pass 3 (some .int) :: ([.fieldLink RX4 110 "MapRevisionsModel" "minute" "I", .methodLink RX4 72 yX4_in, .static yX4_in, .initialized RX4, .code yX4_in cX4_in 3 (some .boolean), .methodLink RX4 79 yX4_goes, .instanceMethod yX4_goes, .selects RX4 yX4_goes yX4_goes, .code yX4_goes cX4_goes 4 (some .boolean), .fieldLink RX4 65 "MapRevisionsModel" "thrown" "I"] ++ wsX40)
def wsX4_take : List Cond := .code yX4_take cX4_take 5 (some .int) :: ([.fieldLink RX4 158 "MapRevisionsModel" "copied" "I", .fieldLink RX4 110 "MapRevisionsModel" "minute" "I", .fieldLink RX4 87 "MapRevisionsModel" "versions" "I", .fieldLink RX4 38 "MapRevisionsModel" "made" "[I", .methodLink RX4 72 yX4_in, .static yX4_in, .initialized RX4, .code yX4_in cX4_in 3 (some .boolean), .methodLink RX4 79 yX4_goes, .instanceMethod yX4_goes, .selects RX4 yX4_goes yX4_goes, .code yX4_goes cX4_goes 4 (some .boolean), .fieldLink RX4 65 "MapRevisionsModel" "thrown" "I"] ++ wsX40)
def wsX4_inCopy : List Cond := .code yX4_inCopy cX4_inCopy 2 (some .int) :: ([.fieldLink RX4 158 "MapRevisionsModel" "copied" "I", .methodLink RX4 90 yX4_isThing, .instanceMethod yX4_isThing, .selects RX4 yX4_isThing yX4_isThing, .initialized RX4, .code yX4_isThing cX4_isThing 2 (some .boolean), .fieldLink RX4 69 "MapRevisionsModel" "things" "I", .methodLink RX4 72 yX4_in, .static yX4_in, .code yX4_in cX4_in 3 (some .boolean), .methodLink RX4 79 yX4_goes, .instanceMethod yX4_goes, .selects RX4 yX4_goes yX4_goes, .code yX4_goes cX4_goes 4 (some .boolean), .fieldLink RX4 65 "MapRevisionsModel" "thrown" "I", .methodLink RX4 149 yX4_before, .instanceMethod yX4_before, .selects RX4 yX4_before yX4_before, .code yX4_before cX4_before 4 (some .int), .fieldLink RX4 20 "MapRevisionsModel" "last" "[I", .fieldLink RX4 38 "MapRevisionsModel" "made" "[I", .fieldLink RX4 32 "MapRevisionsModel" "ahead" "[I", .fieldLink RX4 29 "MapRevisionsModel" "number" "[I"] ++ wsX40)
def wsX4_isTrue : List Cond := .code yX4_isTrue cX4_isTrue 3 (some .boolean) :: ([.fieldLink RX4 65 "MapRevisionsModel" "thrown" "I", .fieldLink RX4 69 "MapRevisionsModel" "things" "I", .fieldLink RX4 158 "MapRevisionsModel" "copied" "I", .fieldLink RX4 23 "MapRevisionsModel" "many" "[I", .methodLink RX4 149 yX4_before, .instanceMethod yX4_before, .selects RX4 yX4_before yX4_before, .initialized RX4, .code yX4_before cX4_before 4 (some .int), .fieldLink RX4 20 "MapRevisionsModel" "last" "[I", .fieldLink RX4 38 "MapRevisionsModel" "made" "[I", .fieldLink RX4 32 "MapRevisionsModel" "ahead" "[I", .fieldLink RX4 29 "MapRevisionsModel" "number" "[I"] ++ wsX40)
def wsJ9_max_7cf53 : List Cond := .code yJ9_max_7cf53 cJ9_max_7cf53 2 (some .int) :: ([])
def wsJ9_min_7cf53 : List Cond := .code yJ9_min_7cf53 cJ9_min_7cf53 2 (some .int) :: ([])
def wsL_open : List Cond := .codeWith yL_open cL_open 3 (some .int) [(0, 8, 11, 13)] :: ([.classLink RL 13 "java/lang/IllegalStateException", .methodLink RL 7 yX3_open, .instanceMethod yX3_open, .selects RX3 yX3_open yX3_open, .initialized RX3, .code yX3_open cX3_open 1 (some .int), .classLink RX3 55 "java/lang/IllegalStateException", .initialized "java/lang/IllegalStateException", .fieldLink RX3 39 "MapRevisions" "sets" "I"] ++ wsX30 ++ (vx_atS RX3 59 "java/lang/IllegalStateException" ["java/lang/RuntimeException", "java/lang/Exception"]).filter goodWord)
def wsL_close : List Cond := .codeWith yL_close cL_close 4 (some .int) [(0, 9, 12, 19), (0, 9, 15, 13)] :: ([.classLink RL 19 "java/lang/IndexOutOfBoundsException", .classLink RL 13 "java/lang/IllegalStateException", .methodLink RL 15 yX3_close, .instanceMethod yX3_close, .selects RX3 yX3_close yX3_close, .initialized RX3, .code yX3_close cX3_close 2 (some .int), .classLink RX3 55 "java/lang/IllegalStateException", .initialized "java/lang/IllegalStateException", .fieldLink RX3 29 "MapRevisions" "closed" "[Z", .fieldLink RX3 33 "MapRevisions" "versionsOf" "[I", .methodLink RX3 62 yX3_needSet, .instanceMethod yX3_needSet, .selects RX3 yX3_needSet yX3_needSet, .code yX3_needSet cX3_needSet 2 none, .classLink RX3 232 "java/lang/IndexOutOfBoundsException", .initialized "java/lang/IndexOutOfBoundsException", .fieldLink RX3 39 "MapRevisions" "sets" "I"] ++ wsX30 ++ (vx_atS RX3 59 "java/lang/IllegalStateException" ["java/lang/RuntimeException", "java/lang/Exception"]).filter goodWord ++ (vx_atS RX3 236 "java/lang/IndexOutOfBoundsException" ["java/lang/RuntimeException", "java/lang/Exception"]).filter goodWord)
def wsL_refer_r1 : List Cond := [Cond.classLink RL 19 "java/lang/IndexOutOfBoundsException", Cond.classLink RL 13 "java/lang/IllegalStateException", Cond.methodLink RL 21 yX3_refer, Cond.instanceMethod yX3_refer, Cond.selects RX3 yX3_refer yX3_refer, Cond.initialized RX3, Cond.code yX3_refer cX3_refer 2 (some .int), Cond.classLink RX3 55 "java/lang/IllegalStateException", Cond.initialized "java/lang/IllegalStateException", Cond.fieldLink RX3 43 "MapRevisions" "drafted" "I", Cond.fieldLink RX3 36 "MapRevisions" "draft" "[I", Cond.methodLink RX3 68 yX3_needThing, Cond.instanceMethod yX3_needThing, Cond.selects RX3 yX3_needThing yX3_needThing, Cond.code yX3_needThing cX3_needThing 2 none, Cond.classLink RX3 232 "java/lang/IndexOutOfBoundsException", Cond.initialized "java/lang/IndexOutOfBoundsException", Cond.methodLink RX3 237 yX3_isKnown, Cond.instanceMethod yX3_isKnown, Cond.selects RX3 yX3_isKnown yX3_isKnown, Cond.code yX3_isKnown cX3_isKnown 2 (some .boolean), Cond.fieldLink RX3 25 "MapRevisions" "all" "Ljava/util/ArrayList;", Cond.methodLink RX3 126 yJx4a65c_size_8abf5, Cond.instanceMethod yJx4a65c_size_8abf5]
def wsL_refer_r2 : List Cond := [Cond.selects RJx4a65c yJx4a65c_size_8abf5 yJx4a65c_size_8abf5, Cond.initialized RJx4a65c, Cond.code yJx4a65c_size_8abf5 cJx4a65c_size_8abf5 1 (some .int), Cond.fieldLink RJx4a65c 48 "java/util/ArrayList" "size" "I"]
def wsL_refer : List Cond := .codeWith yL_refer cL_refer 4 (some .int) [(0, 9, 12, 19), (0, 9, 15, 13)] :: ((wsL_refer_r1 ++ wsL_refer_r2) ++ wsX30 ++ wsJx4a65c0 ++ (vx_atS RX3 59 "java/lang/IllegalStateException" ["java/lang/RuntimeException", "java/lang/Exception"]).filter goodWord ++ (vx_atS RX3 236 "java/lang/IndexOutOfBoundsException" ["java/lang/RuntimeException", "java/lang/Exception"]).filter goodWord)
def wsL_point_r1 : List Cond := [Cond.classLink RL 19 "java/lang/IndexOutOfBoundsException", Cond.classLink RL 28 "java/lang/IllegalArgumentException", Cond.classLink RL 13 "java/lang/IllegalStateException", Cond.methodLink RL 24 yX3_point, Cond.instanceMethod yX3_point, Cond.selects RX3 yX3_point yX3_point, Cond.initialized RX3, Cond.code yX3_point cX3_point 4 (some .int), Cond.methodLink RX3 62 yX3_needSet, Cond.instanceMethod yX3_needSet, Cond.selects RX3 yX3_needSet yX3_needSet, Cond.code yX3_needSet cX3_needSet 2 none, Cond.classLink RX3 232 "java/lang/IndexOutOfBoundsException", Cond.initialized "java/lang/IndexOutOfBoundsException", Cond.fieldLink RX3 39 "MapRevisions" "sets" "I", Cond.methodLink RX3 73 yX3_needPlace, Cond.instanceMethod yX3_needPlace, Cond.selects RX3 yX3_needPlace yX3_needPlace, Cond.code yX3_needPlace cX3_needPlace 3 none, Cond.classLink RX3 91 "java/lang/IllegalArgumentException", Cond.initialized "java/lang/IllegalArgumentException", Cond.methodLink RX3 77 yX3_needOpen, Cond.instanceMethod yX3_needOpen, Cond.selects RX3 yX3_needOpen yX3_needOpen]
def wsL_point_r2 : List Cond := [Cond.code yX3_needOpen cX3_needOpen 2 none, Cond.classLink RX3 55 "java/lang/IllegalStateException", Cond.initialized "java/lang/IllegalStateException", Cond.fieldLink RX3 29 "MapRevisions" "closed" "[Z", Cond.fieldLink RX3 46 "MapRevisions" "versions" "I", Cond.methodLink RX3 80 yX3_needRoomForThing, Cond.instanceMethod yX3_needRoomForThing, Cond.selects RX3 yX3_needRoomForThing yX3_needRoomForThing, Cond.code yX3_needRoomForThing cX3_needRoomForThing 1 none, Cond.fieldLink RX3 25 "MapRevisions" "all" "Ljava/util/ArrayList;", Cond.methodLink RX3 126 yJx4a65c_size_8abf5, Cond.instanceMethod yJx4a65c_size_8abf5, Cond.selects RJx4a65c yJx4a65c_size_8abf5 yJx4a65c_size_8abf5, Cond.initialized RJx4a65c, Cond.code yJx4a65c_size_8abf5 cJx4a65c_size_8abf5 1 (some .int), Cond.fieldLink RJx4a65c 48 "java/util/ArrayList" "size" "I", Cond.methodLink RX3 83 yX3_contentOfPoint, Cond.instanceMethod yX3_contentOfPoint, Cond.selects RX3 yX3_contentOfPoint yX3_contentOfPoint, Cond.code yX3_contentOfPoint cX3_contentOfPoint 3 (some (.object "MapRevisions$Content")), Cond.classLink RX3 13 RX0, Cond.instantiable RX0 4, Cond.initialized RX0, Cond.fieldLink RX3 7 "MapRevisions" "none" "[I"]
def wsL_point_r3 : List Cond := [Cond.methodLink RX3 15 yX0_init, Cond.instanceMethod yX0_init, Cond.code yX0_init cX0_init 5 none, Cond.methodLink RX0 1 objectInit, Cond.instanceMethod objectInit, Cond.code objectInit ⟨#[0xb1]⟩ 1 none, Cond.fieldLink RX0 7 "MapRevisions$Content" "there" "Z", Cond.fieldLink RX0 13 "MapRevisions$Content" "x" "I", Cond.fieldLink RX0 17 "MapRevisions$Content" "y" "I", Cond.fieldLink RX0 20 "MapRevisions$Content" "members" "[I", Cond.methodLink RX3 87 yX3_addThing, Cond.instanceMethod yX3_addThing, Cond.selects RX3 yX3_addThing yX3_addThing, Cond.code yX3_addThing cX3_addThing 4 (some .int), Cond.classLink RX3 111 RX1, Cond.instantiable RX1 2, Cond.initialized RX1, Cond.methodLink RX3 261 yX3_newVersion, Cond.instanceMethod yX3_newVersion, Cond.selects RX3 yX3_newVersion yX3_newVersion, Cond.code yX3_newVersion cX3_newVersion 4 (some (.object "MapRevisions$Version")), Cond.fieldLink RX3 33 "MapRevisions" "versionsOf" "[I", Cond.classLink RX3 143 RX2, Cond.instantiable RX2 6]
def wsL_point_r4 : List Cond := [Cond.initialized RX2, Cond.fieldLink RX3 49 "MapRevisions" "now" "I", Cond.methodLink RX3 272 yX2_init, Cond.instanceMethod yX2_init, Cond.code yX2_init cX2_init 5 none, Cond.methodLink RX2 1 objectInit, Cond.fieldLink RX2 7 "MapRevisions$Version" "before" "LMapRevisions$Version;", Cond.fieldLink RX2 13 "MapRevisions$Version" "number" "I", Cond.fieldLink RX2 17 "MapRevisions$Version" "set" "I", Cond.fieldLink RX2 20 "MapRevisions$Version" "minute" "I", Cond.fieldLink RX2 23 "MapRevisions$Version" "content" "LMapRevisions$Content;", Cond.fieldLink RX2 27 "MapRevisions$Version" "hidden" "Z", Cond.methodLink RX3 265 yX1_init, Cond.instanceMethod yX1_init, Cond.code yX1_init cX1_init 3 none, Cond.methodLink RX1 1 objectInit, Cond.fieldLink RX1 7 "MapRevisions$Thing" "kind" "I", Cond.fieldLink RX1 13 "MapRevisions$Thing" "last" "LMapRevisions$Version;", Cond.methodLink RX3 268 yJx4a65c_add_9ea2d, Cond.instanceMethod yJx4a65c_add_9ea2d, Cond.selects RJx4a65c yJx4a65c_add_9ea2d yJx4a65c_add_9ea2d, Cond.code yJx4a65c_add_9ea2d cJx4a65c_add_9ea2d 2 (some .boolean), Cond.fieldLink RJx4a65c 63 "java/util/ArrayList" "modCount" "I", Cond.sameField "java/util/ArrayList" "java/util/AbstractList" "modCount" "I"]
def wsL_point_r5 : List Cond := [Cond.fieldLink RJx4a65c 9 "java/util/ArrayList" "elementData" "[Ljava/lang/Object;", Cond.methodLink RJx4a65c 131 yJx4a65c_add_72be8, Cond.instanceMethod yJx4a65c_add_72be8, Cond.selects RJx4a65c yJx4a65c_add_72be8 yJx4a65c_add_72be8, Cond.code yJx4a65c_add_72be8 cJx4a65c_add_72be8 4 none, Cond.methodLink RJx4a65c 129 yJx4a65c_grow_d5877, Cond.instanceMethod yJx4a65c_grow_d5877, Cond.selects RJx4a65c yJx4a65c_grow_d5877 yJx4a65c_grow_d5877, Cond.code yJx4a65c_grow_d5877 cJx4a65c_grow_d5877 1 (some (.array (.object "java/lang/Object"))), Cond.methodLink RJx4a65c 69 yJx4a65c_grow_92f84, Cond.instanceMethod yJx4a65c_grow_92f84, Cond.selects RJx4a65c yJx4a65c_grow_92f84 yJx4a65c_grow_92f84, Cond.code yJx4a65c_grow_92f84 cJx4a65c_grow_92f84 4 (some (.array (.object "java/lang/Object"))), Cond.fieldLink RJx4a65c 39 "java/util/ArrayList" "DEFAULTCAPACITY_EMPTY_ELEMENTDATA" "[Ljava/lang/Object;", Cond.methodLink RJx4a65c 79 Lib.Math.max.name, Cond.static Lib.Math.max.name, Cond.initialized "java/lang/Math", Cond.code Lib.Math.max.name Lib.Math.max.code 2 (some .int), Cond.classLink RJx4a65c 7 "java/lang/Object", Cond.methodLink RJx4a65c 73 yJ8_newLength_cabcc, Cond.static yJ8_newLength_cabcc, Cond.initialized RJ8, Cond.code yJ8_newLength_cabcc cJ8_newLength_cabcc 4 (some .int), Cond.methodLink RJ8 194 Lib.Math.max.name]
def wsL_point_r6 : List Cond := [Cond.constant RJ8 200 (2147483639), Cond.methodLink RJ8 201 yJ8_hugeLength_7cf53, Cond.static yJ8_hugeLength_7cf53, Cond.code yJ8_hugeLength_7cf53 cJ8_hugeLength_7cf53 3 (some .int), Cond.methodLink RJx4a65c 66 yJ7_copyOf_1904c, Cond.static yJ7_copyOf_1904c, Cond.initialized RJ7, Cond.code yJ7_copyOf_1904c cJ7_copyOf_1904c 2 (some (.array (.object "java/lang/Object"))), Cond.methodLink RJ7 86 ⟨"java/lang/Object", "getClass", "()Ljava/lang/Class;"⟩, Cond.selects "[Ljava/lang/Object;" ⟨"java/lang/Object", "getClass", "()Ljava/lang/Class;"⟩ ⟨"java/lang/Object", "getClass", "()Ljava/lang/Class;"⟩, Cond.instanceMethod ⟨"java/lang/Object", "getClass", "()Ljava/lang/Class;"⟩, Cond.native ⟨"java/lang/Object", "getClass", "()Ljava/lang/Class;"⟩, Cond.methodLink RJ7 300 yJ7_copyOf_6403c, Cond.static yJ7_copyOf_6403c, Cond.code yJ7_copyOf_6403c cJ7_copyOf_6403c 4 (some (.array (.object "java/lang/Object"))), Cond.classLink RJ7 110 "[Ljava/lang/Object;", Cond.classLink RJ7 2 "java/lang/Object", Cond.methodLink RJ7 304 Lib.Math.min.name, Cond.static Lib.Math.min.name, Cond.code Lib.Math.min.name Lib.Math.min.code 2 (some .int), Cond.methodLink RJ7 150 arraycopyName, Cond.native arraycopyName, Cond.static arraycopyName, Cond.initialized "java/lang/System"]
def wsL_point : List Cond := .codeWith yL_point cL_point 6 (some .int) [(0, 12, 15, 19), (0, 12, 19, 28), (0, 12, 23, 13)] :: ((wsL_point_r1 ++ (wsL_point_r2 ++ (wsL_point_r3 ++ (wsL_point_r4 ++ (wsL_point_r5 ++ wsL_point_r6))))) ++ wsX30 ++ wsJx4a65c0 ++ wsX00 ++ wsX10 ++ wsX20 ++ (vx_atS RX3 236 "java/lang/IndexOutOfBoundsException" ["java/lang/RuntimeException", "java/lang/Exception"]).filter goodWord ++ (vx_atS RX3 95 "java/lang/IllegalArgumentException" ["java/lang/RuntimeException", "java/lang/Exception"]).filter goodWord ++ (vx_atS RX3 59 "java/lang/IllegalStateException" ["java/lang/RuntimeException", "java/lang/Exception"]).filter goodWord)
def wsL_make_r1 : List Cond := [Cond.classLink RL 19 "java/lang/IndexOutOfBoundsException", Cond.classLink RL 28 "java/lang/IllegalArgumentException", Cond.classLink RL 13 "java/lang/IllegalStateException", Cond.methodLink RL 30 yX3_make, Cond.instanceMethod yX3_make, Cond.selects RX3 yX3_make yX3_make, Cond.initialized RX3, Cond.code yX3_make cX3_make 4 (some .int), Cond.classLink RX3 91 "java/lang/IllegalArgumentException", Cond.initialized "java/lang/IllegalArgumentException", Cond.fieldLink RX3 100 "MapRevisions$Content" "members" "[I", Cond.methodLink RX3 62 yX3_needSet, Cond.instanceMethod yX3_needSet, Cond.selects RX3 yX3_needSet yX3_needSet, Cond.code yX3_needSet cX3_needSet 2 none, Cond.classLink RX3 232 "java/lang/IndexOutOfBoundsException", Cond.initialized "java/lang/IndexOutOfBoundsException", Cond.fieldLink RX3 39 "MapRevisions" "sets" "I", Cond.methodLink RX3 77 yX3_needOpen, Cond.instanceMethod yX3_needOpen, Cond.selects RX3 yX3_needOpen yX3_needOpen, Cond.code yX3_needOpen cX3_needOpen 2 none, Cond.classLink RX3 55 "java/lang/IllegalStateException", Cond.initialized "java/lang/IllegalStateException"]
def wsL_make_r2 : List Cond := [Cond.fieldLink RX3 29 "MapRevisions" "closed" "[Z", Cond.fieldLink RX3 46 "MapRevisions" "versions" "I", Cond.methodLink RX3 80 yX3_needRoomForThing, Cond.instanceMethod yX3_needRoomForThing, Cond.selects RX3 yX3_needRoomForThing yX3_needRoomForThing, Cond.code yX3_needRoomForThing cX3_needRoomForThing 1 none, Cond.fieldLink RX3 25 "MapRevisions" "all" "Ljava/util/ArrayList;", Cond.methodLink RX3 126 yJx4a65c_size_8abf5, Cond.instanceMethod yJx4a65c_size_8abf5, Cond.selects RJx4a65c yJx4a65c_size_8abf5 yJx4a65c_size_8abf5, Cond.initialized RJx4a65c, Cond.code yJx4a65c_size_8abf5 cJx4a65c_size_8abf5 1 (some .int), Cond.fieldLink RJx4a65c 48 "java/util/ArrayList" "size" "I", Cond.methodLink RX3 96 yX3_contentOfDraft, Cond.instanceMethod yX3_contentOfDraft, Cond.selects RX3 yX3_contentOfDraft yX3_contentOfDraft, Cond.code yX3_contentOfDraft cX3_contentOfDraft 1 (some (.object "MapRevisions$Content")), Cond.classLink RX3 13 RX0, Cond.instantiable RX0 4, Cond.initialized RX0, Cond.fieldLink RX3 36 "MapRevisions" "draft" "[I", Cond.fieldLink RX3 43 "MapRevisions" "drafted" "I", Cond.methodLink RX3 255 yJ7_copyOf_59c91, Cond.static yJ7_copyOf_59c91]
def wsL_make_r3 : List Cond := [Cond.initialized RJ7, Cond.code yJ7_copyOf_59c91 cJ7_copyOf_59c91 3 (some (.array .int)), Cond.methodLink RJ7 316 ⟨"[I", "clone", "()Ljava/lang/Object;"⟩, Cond.sameMethod "[I" "java/lang/Object" "clone" "()Ljava/lang/Object;", Cond.native ⟨"java/lang/Object", "clone", "()Ljava/lang/Object;"⟩, Cond.instanceMethod ⟨"java/lang/Object", "clone", "()Ljava/lang/Object;"⟩, Cond.selects "[I" ⟨"[I", "clone", "()Ljava/lang/Object;"⟩ ⟨"java/lang/Object", "clone", "()Ljava/lang/Object;"⟩, Cond.classLink RJ7 317 "[I", Cond.arrayClass .int, Cond.methodLink RJ7 304 Lib.Math.min.name, Cond.static Lib.Math.min.name, Cond.initialized "java/lang/Math", Cond.code Lib.Math.min.name Lib.Math.min.code 2 (some .int), Cond.methodLink RJ7 150 arraycopyName, Cond.native arraycopyName, Cond.static arraycopyName, Cond.initialized "java/lang/System", Cond.methodLink RX3 15 yX0_init, Cond.instanceMethod yX0_init, Cond.code yX0_init cX0_init 5 none, Cond.methodLink RX0 1 objectInit, Cond.instanceMethod objectInit, Cond.code objectInit ⟨#[0xb1]⟩ 1 none, Cond.fieldLink RX0 7 "MapRevisions$Content" "there" "Z"]
def wsL_make_r4 : List Cond := [Cond.fieldLink RX0 13 "MapRevisions$Content" "x" "I", Cond.fieldLink RX0 17 "MapRevisions$Content" "y" "I", Cond.fieldLink RX0 20 "MapRevisions$Content" "members" "[I", Cond.methodLink RX3 103 yX3_isRowFor, Cond.instanceMethod yX3_isRowFor, Cond.selects RX3 yX3_isRowFor yX3_isRowFor, Cond.code yX3_isRowFor cX3_isRowFor 7 (some .boolean), Cond.classLink RX3 111 "MapRevisions$Thing", Cond.fieldLink RX3 113 "MapRevisions$Thing" "kind" "I", Cond.methodLink RX3 147 yX3_isNow, Cond.instanceMethod yX3_isNow, Cond.selects RX3 yX3_isNow yX3_isNow, Cond.code yX3_isNow cX3_isNow 2 (some .boolean), Cond.fieldLink RX3 138 "MapRevisions$Thing" "last" "LMapRevisions$Version;", Cond.fieldLink RX3 151 "MapRevisions$Version" "content" "LMapRevisions$Content;", Cond.fieldLink RX3 154 "MapRevisions$Content" "there" "Z", Cond.methodLink RX3 237 yX3_isKnown, Cond.instanceMethod yX3_isKnown, Cond.selects RX3 yX3_isKnown yX3_isKnown, Cond.code yX3_isKnown cX3_isKnown 2 (some .boolean), Cond.methodLink RX3 107 yJx4a65c_get_915e3, Cond.instanceMethod yJx4a65c_get_915e3, Cond.selects RJx4a65c yJx4a65c_get_915e3 yJx4a65c_get_915e3, Cond.code yJx4a65c_get_915e3 cJx4a65c_get_915e3 2 (some (.object "java/lang/Object"))]
def wsL_make_r5 : List Cond := [Cond.methodLink RJx4a65c 118 yJ15_checkIndex_7cf53, Cond.static yJ15_checkIndex_7cf53, Cond.initialized RJ15, Cond.code yJ15_checkIndex_7cf53 cJ15_checkIndex_7cf53 2 (some .int), Cond.methodLink RJ15 105 yJ3_checkIndex_8e157, Cond.static yJ3_checkIndex_8e157, Cond.initialized RJ3, Cond.code yJ3_checkIndex_8e157 cJ3_checkIndex_8e157 3 (some .int), Cond.methodLink RJx4a65c 123 yJx4a65c_elementData_915e3, Cond.instanceMethod yJx4a65c_elementData_915e3, Cond.selects RJx4a65c yJx4a65c_elementData_915e3 yJx4a65c_elementData_915e3, Cond.code yJx4a65c_elementData_915e3 cJx4a65c_elementData_915e3 2 (some (.object "java/lang/Object")), Cond.fieldLink RJx4a65c 9 "java/util/ArrayList" "elementData" "[Ljava/lang/Object;", Cond.methodLink RX3 87 yX3_addThing, Cond.instanceMethod yX3_addThing, Cond.selects RX3 yX3_addThing yX3_addThing, Cond.code yX3_addThing cX3_addThing 4 (some .int), Cond.classLink RX3 111 RX1, Cond.instantiable RX1 2, Cond.initialized RX1, Cond.methodLink RX3 261 yX3_newVersion, Cond.instanceMethod yX3_newVersion, Cond.selects RX3 yX3_newVersion yX3_newVersion, Cond.code yX3_newVersion cX3_newVersion 4 (some (.object "MapRevisions$Version"))]
def wsL_make_r6 : List Cond := [Cond.fieldLink RX3 33 "MapRevisions" "versionsOf" "[I", Cond.classLink RX3 143 RX2, Cond.instantiable RX2 6, Cond.initialized RX2, Cond.fieldLink RX3 49 "MapRevisions" "now" "I", Cond.methodLink RX3 272 yX2_init, Cond.instanceMethod yX2_init, Cond.code yX2_init cX2_init 5 none, Cond.methodLink RX2 1 objectInit, Cond.fieldLink RX2 7 "MapRevisions$Version" "before" "LMapRevisions$Version;", Cond.fieldLink RX2 13 "MapRevisions$Version" "number" "I", Cond.fieldLink RX2 17 "MapRevisions$Version" "set" "I", Cond.fieldLink RX2 20 "MapRevisions$Version" "minute" "I", Cond.fieldLink RX2 23 "MapRevisions$Version" "content" "LMapRevisions$Content;", Cond.fieldLink RX2 27 "MapRevisions$Version" "hidden" "Z", Cond.methodLink RX3 265 yX1_init, Cond.instanceMethod yX1_init, Cond.code yX1_init cX1_init 3 none, Cond.methodLink RX1 1 objectInit, Cond.fieldLink RX1 7 "MapRevisions$Thing" "kind" "I", Cond.fieldLink RX1 13 "MapRevisions$Thing" "last" "LMapRevisions$Version;", Cond.methodLink RX3 268 yJx4a65c_add_9ea2d, Cond.instanceMethod yJx4a65c_add_9ea2d, Cond.selects RJx4a65c yJx4a65c_add_9ea2d yJx4a65c_add_9ea2d]
def wsL_make_r7 : List Cond := [Cond.code yJx4a65c_add_9ea2d cJx4a65c_add_9ea2d 2 (some .boolean), Cond.fieldLink RJx4a65c 63 "java/util/ArrayList" "modCount" "I", Cond.sameField "java/util/ArrayList" "java/util/AbstractList" "modCount" "I", Cond.methodLink RJx4a65c 131 yJx4a65c_add_72be8, Cond.instanceMethod yJx4a65c_add_72be8, Cond.selects RJx4a65c yJx4a65c_add_72be8 yJx4a65c_add_72be8, Cond.code yJx4a65c_add_72be8 cJx4a65c_add_72be8 4 none, Cond.methodLink RJx4a65c 129 yJx4a65c_grow_d5877, Cond.instanceMethod yJx4a65c_grow_d5877, Cond.selects RJx4a65c yJx4a65c_grow_d5877 yJx4a65c_grow_d5877, Cond.code yJx4a65c_grow_d5877 cJx4a65c_grow_d5877 1 (some (.array (.object "java/lang/Object"))), Cond.methodLink RJx4a65c 69 yJx4a65c_grow_92f84, Cond.instanceMethod yJx4a65c_grow_92f84, Cond.selects RJx4a65c yJx4a65c_grow_92f84 yJx4a65c_grow_92f84, Cond.code yJx4a65c_grow_92f84 cJx4a65c_grow_92f84 4 (some (.array (.object "java/lang/Object"))), Cond.fieldLink RJx4a65c 39 "java/util/ArrayList" "DEFAULTCAPACITY_EMPTY_ELEMENTDATA" "[Ljava/lang/Object;", Cond.methodLink RJx4a65c 79 Lib.Math.max.name, Cond.static Lib.Math.max.name, Cond.code Lib.Math.max.name Lib.Math.max.code 2 (some .int), Cond.classLink RJx4a65c 7 "java/lang/Object", Cond.methodLink RJx4a65c 73 yJ8_newLength_cabcc, Cond.static yJ8_newLength_cabcc, Cond.initialized RJ8, Cond.code yJ8_newLength_cabcc cJ8_newLength_cabcc 4 (some .int)]
def wsL_make_r8 : List Cond := [Cond.methodLink RJ8 194 Lib.Math.max.name, Cond.constant RJ8 200 (2147483639), Cond.methodLink RJ8 201 yJ8_hugeLength_7cf53, Cond.static yJ8_hugeLength_7cf53, Cond.code yJ8_hugeLength_7cf53 cJ8_hugeLength_7cf53 3 (some .int), Cond.methodLink RJx4a65c 66 yJ7_copyOf_1904c, Cond.static yJ7_copyOf_1904c, Cond.code yJ7_copyOf_1904c cJ7_copyOf_1904c 2 (some (.array (.object "java/lang/Object"))), Cond.methodLink RJ7 86 ⟨"java/lang/Object", "getClass", "()Ljava/lang/Class;"⟩, Cond.selects "[Ljava/lang/Object;" ⟨"java/lang/Object", "getClass", "()Ljava/lang/Class;"⟩ ⟨"java/lang/Object", "getClass", "()Ljava/lang/Class;"⟩, Cond.instanceMethod ⟨"java/lang/Object", "getClass", "()Ljava/lang/Class;"⟩, Cond.native ⟨"java/lang/Object", "getClass", "()Ljava/lang/Class;"⟩, Cond.methodLink RJ7 300 yJ7_copyOf_6403c, Cond.static yJ7_copyOf_6403c, Cond.code yJ7_copyOf_6403c cJ7_copyOf_6403c 4 (some (.array (.object "java/lang/Object"))), Cond.classLink RJ7 110 "[Ljava/lang/Object;", Cond.classLink RJ7 2 "java/lang/Object"]
def wsL_make : List Cond := .codeWith yL_make cL_make 5 (some .int) [(0, 10, 13, 19), (0, 10, 17, 28), (0, 10, 21, 13)] :: ((wsL_make_r1 ++ (wsL_make_r2 ++ (wsL_make_r3 ++ (wsL_make_r4 ++ (wsL_make_r5 ++ (wsL_make_r6 ++ (wsL_make_r7 ++ wsL_make_r8))))))) ++ wsX00 ++ wsX30 ++ wsJx4a65c0 ++ wsX10 ++ wsX20 ++ (vx_atS RX3 95 "java/lang/IllegalArgumentException" ["java/lang/RuntimeException", "java/lang/Exception"]).filter goodWord ++ (vx_atS RX3 236 "java/lang/IndexOutOfBoundsException" ["java/lang/RuntimeException", "java/lang/Exception"]).filter goodWord ++ (vx_atS RX3 59 "java/lang/IllegalStateException" ["java/lang/RuntimeException", "java/lang/Exception"]).filter goodWord)
def wsL_move_r1 : List Cond := [Cond.classLink RL 19 "java/lang/IndexOutOfBoundsException", Cond.classLink RL 28 "java/lang/IllegalArgumentException", Cond.classLink RL 13 "java/lang/IllegalStateException", Cond.methodLink RL 34 yX3_move, Cond.instanceMethod yX3_move, Cond.selects RX3 yX3_move yX3_move, Cond.initialized RX3, Cond.code yX3_move cX3_move 6 (some .int), Cond.classLink RX3 91 "java/lang/IllegalArgumentException", Cond.initialized "java/lang/IllegalArgumentException", Cond.fieldLink RX3 25 "MapRevisions" "all" "Ljava/util/ArrayList;", Cond.classLink RX3 111 "MapRevisions$Thing", Cond.fieldLink RX3 113 "MapRevisions$Thing" "kind" "I", Cond.methodLink RX3 62 yX3_needSet, Cond.instanceMethod yX3_needSet, Cond.selects RX3 yX3_needSet yX3_needSet, Cond.code yX3_needSet cX3_needSet 2 none, Cond.classLink RX3 232 "java/lang/IndexOutOfBoundsException", Cond.initialized "java/lang/IndexOutOfBoundsException", Cond.fieldLink RX3 39 "MapRevisions" "sets" "I", Cond.methodLink RX3 68 yX3_needThing, Cond.instanceMethod yX3_needThing, Cond.selects RX3 yX3_needThing yX3_needThing, Cond.code yX3_needThing cX3_needThing 2 none]
def wsL_move_r2 : List Cond := [Cond.methodLink RX3 237 yX3_isKnown, Cond.instanceMethod yX3_isKnown, Cond.selects RX3 yX3_isKnown yX3_isKnown, Cond.code yX3_isKnown cX3_isKnown 2 (some .boolean), Cond.methodLink RX3 126 yJx4a65c_size_8abf5, Cond.instanceMethod yJx4a65c_size_8abf5, Cond.selects RJx4a65c yJx4a65c_size_8abf5 yJx4a65c_size_8abf5, Cond.initialized RJx4a65c, Cond.code yJx4a65c_size_8abf5 cJx4a65c_size_8abf5 1 (some .int), Cond.fieldLink RJx4a65c 48 "java/util/ArrayList" "size" "I", Cond.methodLink RX3 107 yJx4a65c_get_915e3, Cond.instanceMethod yJx4a65c_get_915e3, Cond.selects RJx4a65c yJx4a65c_get_915e3 yJx4a65c_get_915e3, Cond.code yJx4a65c_get_915e3 cJx4a65c_get_915e3 2 (some (.object "java/lang/Object")), Cond.methodLink RJx4a65c 118 yJ15_checkIndex_7cf53, Cond.static yJ15_checkIndex_7cf53, Cond.initialized RJ15, Cond.code yJ15_checkIndex_7cf53 cJ15_checkIndex_7cf53 2 (some .int), Cond.methodLink RJ15 105 yJ3_checkIndex_8e157, Cond.static yJ3_checkIndex_8e157, Cond.initialized RJ3, Cond.code yJ3_checkIndex_8e157 cJ3_checkIndex_8e157 3 (some .int), Cond.methodLink RJx4a65c 123 yJx4a65c_elementData_915e3, Cond.instanceMethod yJx4a65c_elementData_915e3]
def wsL_move_r3 : List Cond := [Cond.selects RJx4a65c yJx4a65c_elementData_915e3 yJx4a65c_elementData_915e3, Cond.code yJx4a65c_elementData_915e3 cJx4a65c_elementData_915e3 2 (some (.object "java/lang/Object")), Cond.fieldLink RJx4a65c 9 "java/util/ArrayList" "elementData" "[Ljava/lang/Object;", Cond.methodLink RX3 73 yX3_needPlace, Cond.instanceMethod yX3_needPlace, Cond.selects RX3 yX3_needPlace yX3_needPlace, Cond.code yX3_needPlace cX3_needPlace 3 none, Cond.methodLink RX3 77 yX3_needOpen, Cond.instanceMethod yX3_needOpen, Cond.selects RX3 yX3_needOpen yX3_needOpen, Cond.code yX3_needOpen cX3_needOpen 2 none, Cond.classLink RX3 55 "java/lang/IllegalStateException", Cond.initialized "java/lang/IllegalStateException", Cond.fieldLink RX3 29 "MapRevisions" "closed" "[Z", Cond.fieldLink RX3 46 "MapRevisions" "versions" "I", Cond.methodLink RX3 83 yX3_contentOfPoint, Cond.instanceMethod yX3_contentOfPoint, Cond.selects RX3 yX3_contentOfPoint yX3_contentOfPoint, Cond.code yX3_contentOfPoint cX3_contentOfPoint 3 (some (.object "MapRevisions$Content")), Cond.classLink RX3 13 RX0, Cond.instantiable RX0 4, Cond.initialized RX0, Cond.fieldLink RX3 7 "MapRevisions" "none" "[I", Cond.methodLink RX3 15 yX0_init]
def wsL_move_r4 : List Cond := [Cond.instanceMethod yX0_init, Cond.code yX0_init cX0_init 5 none, Cond.methodLink RX0 1 objectInit, Cond.instanceMethod objectInit, Cond.code objectInit ⟨#[0xb1]⟩ 1 none, Cond.fieldLink RX0 7 "MapRevisions$Content" "there" "Z", Cond.fieldLink RX0 13 "MapRevisions$Content" "x" "I", Cond.fieldLink RX0 17 "MapRevisions$Content" "y" "I", Cond.fieldLink RX0 20 "MapRevisions$Content" "members" "[I", Cond.methodLink RX3 118 yX3_edit, Cond.instanceMethod yX3_edit, Cond.selects RX3 yX3_edit yX3_edit, Cond.code yX3_edit cX3_edit 7 (some .int), Cond.fieldLink RX3 138 "MapRevisions$Thing" "last" "LMapRevisions$Version;", Cond.fieldLink RX3 151 "MapRevisions$Version" "content" "LMapRevisions$Content;", Cond.fieldLink RX3 154 "MapRevisions$Content" "there" "Z", Cond.fieldLink RX3 142 "MapRevisions$Version" "number" "I", Cond.methodLink RX3 275 yX3_refusalOf, Cond.instanceMethod yX3_refusalOf, Cond.selects RX3 yX3_refusalOf yX3_refusalOf, Cond.code yX3_refusalOf cX3_refusalOf 4 (some .int), Cond.fieldLink RX3 100 "MapRevisions$Content" "members" "[I", Cond.methodLink RX3 169 yX3_bit, Cond.static yX3_bit]
def wsL_move_r5 : List Cond := [Cond.code yX3_bit cX3_bit 1 (some .long), Cond.methodLink RX3 173 yX3_usersOf, Cond.instanceMethod yX3_usersOf, Cond.selects RX3 yX3_usersOf yX3_usersOf, Cond.code yX3_usersOf cX3_usersOf 6 (some .long), Cond.methodLink RX3 287 yX3_bitsOf, Cond.static yX3_bitsOf, Cond.code yX3_bitsOf cX3_bitsOf 7 (some .long), Cond.methodLink RX3 103 yX3_isRowFor, Cond.instanceMethod yX3_isRowFor, Cond.selects RX3 yX3_isRowFor yX3_isRowFor, Cond.code yX3_isRowFor cX3_isRowFor 7 (some .boolean), Cond.methodLink RX3 147 yX3_isNow, Cond.instanceMethod yX3_isNow, Cond.selects RX3 yX3_isNow yX3_isNow, Cond.code yX3_isNow cX3_isNow 2 (some .boolean), Cond.methodLink RX3 283 yX3_leadsTo, Cond.instanceMethod yX3_leadsTo, Cond.selects RX3 yX3_leadsTo yX3_leadsTo, Cond.code yX3_leadsTo cX3_leadsTo 8 (some .boolean), Cond.methodLink RX3 216 yX3_membersOf, Cond.instanceMethod yX3_membersOf, Cond.selects RX3 yX3_membersOf yX3_membersOf, Cond.code yX3_membersOf cX3_membersOf 6 (some .long)]
def wsL_move_r6 : List Cond := [Cond.methodLink RX3 291 yX3_has, Cond.static yX3_has, Cond.code yX3_has cX3_has 3 (some .boolean), Cond.methodLink RX3 279 yX3_addVersion, Cond.instanceMethod yX3_addVersion, Cond.selects RX3 yX3_addVersion yX3_addVersion, Cond.code yX3_addVersion cX3_addVersion 4 (some .int), Cond.methodLink RX3 261 yX3_newVersion, Cond.instanceMethod yX3_newVersion, Cond.selects RX3 yX3_newVersion yX3_newVersion, Cond.code yX3_newVersion cX3_newVersion 4 (some (.object "MapRevisions$Version")), Cond.fieldLink RX3 33 "MapRevisions" "versionsOf" "[I", Cond.classLink RX3 143 RX2, Cond.instantiable RX2 6, Cond.initialized RX2, Cond.fieldLink RX3 49 "MapRevisions" "now" "I", Cond.methodLink RX3 272 yX2_init, Cond.instanceMethod yX2_init, Cond.code yX2_init cX2_init 5 none, Cond.methodLink RX2 1 objectInit, Cond.fieldLink RX2 7 "MapRevisions$Version" "before" "LMapRevisions$Version;", Cond.fieldLink RX2 13 "MapRevisions$Version" "number" "I", Cond.fieldLink RX2 17 "MapRevisions$Version" "set" "I", Cond.fieldLink RX2 20 "MapRevisions$Version" "minute" "I"]
def wsL_move_r7 : List Cond := [Cond.fieldLink RX2 23 "MapRevisions$Version" "content" "LMapRevisions$Content;", Cond.fieldLink RX2 27 "MapRevisions$Version" "hidden" "Z"]
def wsL_move : List Cond := .codeWith yL_move cL_move 8 (some .int) [(0, 16, 19, 19), (0, 16, 23, 28), (0, 16, 27, 13)] :: ((wsL_move_r1 ++ (wsL_move_r2 ++ (wsL_move_r3 ++ (wsL_move_r4 ++ (wsL_move_r5 ++ (wsL_move_r6 ++ wsL_move_r7)))))) ++ wsX30 ++ wsX10 ++ wsJx4a65c0 ++ wsX00 ++ wsX20 ++ (vx_atS RX3 95 "java/lang/IllegalArgumentException" ["java/lang/RuntimeException", "java/lang/Exception"]).filter goodWord ++ (vx_atS RX3 236 "java/lang/IndexOutOfBoundsException" ["java/lang/RuntimeException", "java/lang/Exception"]).filter goodWord ++ (vx_atS RX3 59 "java/lang/IllegalStateException" ["java/lang/RuntimeException", "java/lang/Exception"]).filter goodWord)
def wsL_change_r1 : List Cond := [Cond.classLink RL 19 "java/lang/IndexOutOfBoundsException", Cond.classLink RL 28 "java/lang/IllegalArgumentException", Cond.classLink RL 13 "java/lang/IllegalStateException", Cond.methodLink RL 38 yX3_change, Cond.instanceMethod yX3_change, Cond.selects RX3 yX3_change yX3_change, Cond.initialized RX3, Cond.code yX3_change cX3_change 4 (some .int), Cond.classLink RX3 91 "java/lang/IllegalArgumentException", Cond.initialized "java/lang/IllegalArgumentException", Cond.fieldLink RX3 25 "MapRevisions" "all" "Ljava/util/ArrayList;", Cond.classLink RX3 111 "MapRevisions$Thing", Cond.fieldLink RX3 113 "MapRevisions$Thing" "kind" "I", Cond.methodLink RX3 62 yX3_needSet, Cond.instanceMethod yX3_needSet, Cond.selects RX3 yX3_needSet yX3_needSet, Cond.code yX3_needSet cX3_needSet 2 none, Cond.classLink RX3 232 "java/lang/IndexOutOfBoundsException", Cond.initialized "java/lang/IndexOutOfBoundsException", Cond.fieldLink RX3 39 "MapRevisions" "sets" "I", Cond.methodLink RX3 68 yX3_needThing, Cond.instanceMethod yX3_needThing, Cond.selects RX3 yX3_needThing yX3_needThing, Cond.code yX3_needThing cX3_needThing 2 none]
def wsL_change_r2 : List Cond := [Cond.methodLink RX3 237 yX3_isKnown, Cond.instanceMethod yX3_isKnown, Cond.selects RX3 yX3_isKnown yX3_isKnown, Cond.code yX3_isKnown cX3_isKnown 2 (some .boolean), Cond.methodLink RX3 126 yJx4a65c_size_8abf5, Cond.instanceMethod yJx4a65c_size_8abf5, Cond.selects RJx4a65c yJx4a65c_size_8abf5 yJx4a65c_size_8abf5, Cond.initialized RJx4a65c, Cond.code yJx4a65c_size_8abf5 cJx4a65c_size_8abf5 1 (some .int), Cond.fieldLink RJx4a65c 48 "java/util/ArrayList" "size" "I", Cond.methodLink RX3 107 yJx4a65c_get_915e3, Cond.instanceMethod yJx4a65c_get_915e3, Cond.selects RJx4a65c yJx4a65c_get_915e3 yJx4a65c_get_915e3, Cond.code yJx4a65c_get_915e3 cJx4a65c_get_915e3 2 (some (.object "java/lang/Object")), Cond.methodLink RJx4a65c 118 yJ15_checkIndex_7cf53, Cond.static yJ15_checkIndex_7cf53, Cond.initialized RJ15, Cond.code yJ15_checkIndex_7cf53 cJ15_checkIndex_7cf53 2 (some .int), Cond.methodLink RJ15 105 yJ3_checkIndex_8e157, Cond.static yJ3_checkIndex_8e157, Cond.initialized RJ3, Cond.code yJ3_checkIndex_8e157 cJ3_checkIndex_8e157 3 (some .int), Cond.methodLink RJx4a65c 123 yJx4a65c_elementData_915e3, Cond.instanceMethod yJx4a65c_elementData_915e3]
def wsL_change_r3 : List Cond := [Cond.selects RJx4a65c yJx4a65c_elementData_915e3 yJx4a65c_elementData_915e3, Cond.code yJx4a65c_elementData_915e3 cJx4a65c_elementData_915e3 2 (some (.object "java/lang/Object")), Cond.fieldLink RJx4a65c 9 "java/util/ArrayList" "elementData" "[Ljava/lang/Object;", Cond.methodLink RX3 77 yX3_needOpen, Cond.instanceMethod yX3_needOpen, Cond.selects RX3 yX3_needOpen yX3_needOpen, Cond.code yX3_needOpen cX3_needOpen 2 none, Cond.classLink RX3 55 "java/lang/IllegalStateException", Cond.initialized "java/lang/IllegalStateException", Cond.fieldLink RX3 29 "MapRevisions" "closed" "[Z", Cond.fieldLink RX3 46 "MapRevisions" "versions" "I", Cond.methodLink RX3 96 yX3_contentOfDraft, Cond.instanceMethod yX3_contentOfDraft, Cond.selects RX3 yX3_contentOfDraft yX3_contentOfDraft, Cond.code yX3_contentOfDraft cX3_contentOfDraft 1 (some (.object "MapRevisions$Content")), Cond.classLink RX3 13 RX0, Cond.instantiable RX0 4, Cond.initialized RX0, Cond.fieldLink RX3 36 "MapRevisions" "draft" "[I", Cond.fieldLink RX3 43 "MapRevisions" "drafted" "I", Cond.methodLink RX3 255 yJ7_copyOf_59c91, Cond.static yJ7_copyOf_59c91, Cond.initialized RJ7, Cond.code yJ7_copyOf_59c91 cJ7_copyOf_59c91 3 (some (.array .int))]
def wsL_change_r4 : List Cond := [Cond.methodLink RJ7 316 ⟨"[I", "clone", "()Ljava/lang/Object;"⟩, Cond.sameMethod "[I" "java/lang/Object" "clone" "()Ljava/lang/Object;", Cond.native ⟨"java/lang/Object", "clone", "()Ljava/lang/Object;"⟩, Cond.instanceMethod ⟨"java/lang/Object", "clone", "()Ljava/lang/Object;"⟩, Cond.selects "[I" ⟨"[I", "clone", "()Ljava/lang/Object;"⟩ ⟨"java/lang/Object", "clone", "()Ljava/lang/Object;"⟩, Cond.classLink RJ7 317 "[I", Cond.arrayClass .int, Cond.methodLink RJ7 304 Lib.Math.min.name, Cond.static Lib.Math.min.name, Cond.initialized "java/lang/Math", Cond.code Lib.Math.min.name Lib.Math.min.code 2 (some .int), Cond.methodLink RJ7 150 arraycopyName, Cond.native arraycopyName, Cond.static arraycopyName, Cond.initialized "java/lang/System", Cond.methodLink RX3 15 yX0_init, Cond.instanceMethod yX0_init, Cond.code yX0_init cX0_init 5 none, Cond.methodLink RX0 1 objectInit, Cond.instanceMethod objectInit, Cond.code objectInit ⟨#[0xb1]⟩ 1 none, Cond.fieldLink RX0 7 "MapRevisions$Content" "there" "Z", Cond.fieldLink RX0 13 "MapRevisions$Content" "x" "I", Cond.fieldLink RX0 17 "MapRevisions$Content" "y" "I"]
def wsL_change_r5 : List Cond := [Cond.fieldLink RX0 20 "MapRevisions$Content" "members" "[I", Cond.methodLink RX3 118 yX3_edit, Cond.instanceMethod yX3_edit, Cond.selects RX3 yX3_edit yX3_edit, Cond.code yX3_edit cX3_edit 7 (some .int), Cond.fieldLink RX3 138 "MapRevisions$Thing" "last" "LMapRevisions$Version;", Cond.fieldLink RX3 151 "MapRevisions$Version" "content" "LMapRevisions$Content;", Cond.fieldLink RX3 154 "MapRevisions$Content" "there" "Z", Cond.fieldLink RX3 142 "MapRevisions$Version" "number" "I", Cond.methodLink RX3 275 yX3_refusalOf, Cond.instanceMethod yX3_refusalOf, Cond.selects RX3 yX3_refusalOf yX3_refusalOf, Cond.code yX3_refusalOf cX3_refusalOf 4 (some .int), Cond.fieldLink RX3 100 "MapRevisions$Content" "members" "[I", Cond.methodLink RX3 169 yX3_bit, Cond.static yX3_bit, Cond.code yX3_bit cX3_bit 1 (some .long), Cond.methodLink RX3 173 yX3_usersOf, Cond.instanceMethod yX3_usersOf, Cond.selects RX3 yX3_usersOf yX3_usersOf, Cond.code yX3_usersOf cX3_usersOf 6 (some .long), Cond.methodLink RX3 287 yX3_bitsOf, Cond.static yX3_bitsOf, Cond.code yX3_bitsOf cX3_bitsOf 7 (some .long)]
def wsL_change_r6 : List Cond := [Cond.methodLink RX3 103 yX3_isRowFor, Cond.instanceMethod yX3_isRowFor, Cond.selects RX3 yX3_isRowFor yX3_isRowFor, Cond.code yX3_isRowFor cX3_isRowFor 7 (some .boolean), Cond.methodLink RX3 147 yX3_isNow, Cond.instanceMethod yX3_isNow, Cond.selects RX3 yX3_isNow yX3_isNow, Cond.code yX3_isNow cX3_isNow 2 (some .boolean), Cond.methodLink RX3 283 yX3_leadsTo, Cond.instanceMethod yX3_leadsTo, Cond.selects RX3 yX3_leadsTo yX3_leadsTo, Cond.code yX3_leadsTo cX3_leadsTo 8 (some .boolean), Cond.methodLink RX3 216 yX3_membersOf, Cond.instanceMethod yX3_membersOf, Cond.selects RX3 yX3_membersOf yX3_membersOf, Cond.code yX3_membersOf cX3_membersOf 6 (some .long), Cond.methodLink RX3 291 yX3_has, Cond.static yX3_has, Cond.code yX3_has cX3_has 3 (some .boolean), Cond.methodLink RX3 279 yX3_addVersion, Cond.instanceMethod yX3_addVersion, Cond.selects RX3 yX3_addVersion yX3_addVersion, Cond.code yX3_addVersion cX3_addVersion 4 (some .int), Cond.methodLink RX3 261 yX3_newVersion]
def wsL_change_r7 : List Cond := [Cond.instanceMethod yX3_newVersion, Cond.selects RX3 yX3_newVersion yX3_newVersion, Cond.code yX3_newVersion cX3_newVersion 4 (some (.object "MapRevisions$Version")), Cond.fieldLink RX3 33 "MapRevisions" "versionsOf" "[I", Cond.classLink RX3 143 RX2, Cond.instantiable RX2 6, Cond.initialized RX2, Cond.fieldLink RX3 49 "MapRevisions" "now" "I", Cond.methodLink RX3 272 yX2_init, Cond.instanceMethod yX2_init, Cond.code yX2_init cX2_init 5 none, Cond.methodLink RX2 1 objectInit, Cond.fieldLink RX2 7 "MapRevisions$Version" "before" "LMapRevisions$Version;", Cond.fieldLink RX2 13 "MapRevisions$Version" "number" "I", Cond.fieldLink RX2 17 "MapRevisions$Version" "set" "I", Cond.fieldLink RX2 20 "MapRevisions$Version" "minute" "I", Cond.fieldLink RX2 23 "MapRevisions$Version" "content" "LMapRevisions$Content;", Cond.fieldLink RX2 27 "MapRevisions$Version" "hidden" "Z"]
def wsL_change : List Cond := .codeWith yL_change cL_change 6 (some .int) [(0, 12, 15, 19), (0, 12, 19, 28), (0, 12, 23, 13)] :: ((wsL_change_r1 ++ (wsL_change_r2 ++ (wsL_change_r3 ++ (wsL_change_r4 ++ (wsL_change_r5 ++ (wsL_change_r6 ++ wsL_change_r7)))))) ++ wsX30 ++ wsX10 ++ wsJx4a65c0 ++ wsX00 ++ wsX20 ++ (vx_atS RX3 95 "java/lang/IllegalArgumentException" ["java/lang/RuntimeException", "java/lang/Exception"]).filter goodWord ++ (vx_atS RX3 236 "java/lang/IndexOutOfBoundsException" ["java/lang/RuntimeException", "java/lang/Exception"]).filter goodWord ++ (vx_atS RX3 59 "java/lang/IllegalStateException" ["java/lang/RuntimeException", "java/lang/Exception"]).filter goodWord)
def wsL_delete_r1 : List Cond := [Cond.classLink RL 19 "java/lang/IndexOutOfBoundsException", Cond.classLink RL 13 "java/lang/IllegalStateException", Cond.methodLink RL 41 yX3_delete, Cond.instanceMethod yX3_delete, Cond.selects RX3 yX3_delete yX3_delete, Cond.initialized RX3, Cond.code yX3_delete cX3_delete 4 (some .int), Cond.fieldLink RX3 18 "MapRevisions" "gone" "LMapRevisions$Content;", Cond.methodLink RX3 62 yX3_needSet, Cond.instanceMethod yX3_needSet, Cond.selects RX3 yX3_needSet yX3_needSet, Cond.code yX3_needSet cX3_needSet 2 none, Cond.classLink RX3 232 "java/lang/IndexOutOfBoundsException", Cond.initialized "java/lang/IndexOutOfBoundsException", Cond.fieldLink RX3 39 "MapRevisions" "sets" "I", Cond.methodLink RX3 68 yX3_needThing, Cond.instanceMethod yX3_needThing, Cond.selects RX3 yX3_needThing yX3_needThing, Cond.code yX3_needThing cX3_needThing 2 none, Cond.methodLink RX3 237 yX3_isKnown, Cond.instanceMethod yX3_isKnown, Cond.selects RX3 yX3_isKnown yX3_isKnown, Cond.code yX3_isKnown cX3_isKnown 2 (some .boolean), Cond.fieldLink RX3 25 "MapRevisions" "all" "Ljava/util/ArrayList;"]
def wsL_delete_r2 : List Cond := [Cond.methodLink RX3 126 yJx4a65c_size_8abf5, Cond.instanceMethod yJx4a65c_size_8abf5, Cond.selects RJx4a65c yJx4a65c_size_8abf5 yJx4a65c_size_8abf5, Cond.initialized RJx4a65c, Cond.code yJx4a65c_size_8abf5 cJx4a65c_size_8abf5 1 (some .int), Cond.fieldLink RJx4a65c 48 "java/util/ArrayList" "size" "I", Cond.methodLink RX3 77 yX3_needOpen, Cond.instanceMethod yX3_needOpen, Cond.selects RX3 yX3_needOpen yX3_needOpen, Cond.code yX3_needOpen cX3_needOpen 2 none, Cond.classLink RX3 55 "java/lang/IllegalStateException", Cond.initialized "java/lang/IllegalStateException", Cond.fieldLink RX3 29 "MapRevisions" "closed" "[Z", Cond.fieldLink RX3 46 "MapRevisions" "versions" "I", Cond.methodLink RX3 118 yX3_edit, Cond.instanceMethod yX3_edit, Cond.selects RX3 yX3_edit yX3_edit, Cond.code yX3_edit cX3_edit 7 (some .int), Cond.classLink RX3 111 "MapRevisions$Thing", Cond.fieldLink RX3 138 "MapRevisions$Thing" "last" "LMapRevisions$Version;", Cond.fieldLink RX3 151 "MapRevisions$Version" "content" "LMapRevisions$Content;", Cond.fieldLink RX3 154 "MapRevisions$Content" "there" "Z", Cond.fieldLink RX3 142 "MapRevisions$Version" "number" "I", Cond.methodLink RX3 107 yJx4a65c_get_915e3]
def wsL_delete_r3 : List Cond := [Cond.instanceMethod yJx4a65c_get_915e3, Cond.selects RJx4a65c yJx4a65c_get_915e3 yJx4a65c_get_915e3, Cond.code yJx4a65c_get_915e3 cJx4a65c_get_915e3 2 (some (.object "java/lang/Object")), Cond.methodLink RJx4a65c 118 yJ15_checkIndex_7cf53, Cond.static yJ15_checkIndex_7cf53, Cond.initialized RJ15, Cond.code yJ15_checkIndex_7cf53 cJ15_checkIndex_7cf53 2 (some .int), Cond.methodLink RJ15 105 yJ3_checkIndex_8e157, Cond.static yJ3_checkIndex_8e157, Cond.initialized RJ3, Cond.code yJ3_checkIndex_8e157 cJ3_checkIndex_8e157 3 (some .int), Cond.methodLink RJx4a65c 123 yJx4a65c_elementData_915e3, Cond.instanceMethod yJx4a65c_elementData_915e3, Cond.selects RJx4a65c yJx4a65c_elementData_915e3 yJx4a65c_elementData_915e3, Cond.code yJx4a65c_elementData_915e3 cJx4a65c_elementData_915e3 2 (some (.object "java/lang/Object")), Cond.fieldLink RJx4a65c 9 "java/util/ArrayList" "elementData" "[Ljava/lang/Object;", Cond.methodLink RX3 275 yX3_refusalOf, Cond.instanceMethod yX3_refusalOf, Cond.selects RX3 yX3_refusalOf yX3_refusalOf, Cond.code yX3_refusalOf cX3_refusalOf 4 (some .int), Cond.fieldLink RX3 113 "MapRevisions$Thing" "kind" "I", Cond.fieldLink RX3 100 "MapRevisions$Content" "members" "[I", Cond.methodLink RX3 169 yX3_bit, Cond.static yX3_bit]
def wsL_delete_r4 : List Cond := [Cond.code yX3_bit cX3_bit 1 (some .long), Cond.methodLink RX3 173 yX3_usersOf, Cond.instanceMethod yX3_usersOf, Cond.selects RX3 yX3_usersOf yX3_usersOf, Cond.code yX3_usersOf cX3_usersOf 6 (some .long), Cond.methodLink RX3 287 yX3_bitsOf, Cond.static yX3_bitsOf, Cond.code yX3_bitsOf cX3_bitsOf 7 (some .long), Cond.methodLink RX3 103 yX3_isRowFor, Cond.instanceMethod yX3_isRowFor, Cond.selects RX3 yX3_isRowFor yX3_isRowFor, Cond.code yX3_isRowFor cX3_isRowFor 7 (some .boolean), Cond.methodLink RX3 147 yX3_isNow, Cond.instanceMethod yX3_isNow, Cond.selects RX3 yX3_isNow yX3_isNow, Cond.code yX3_isNow cX3_isNow 2 (some .boolean), Cond.methodLink RX3 283 yX3_leadsTo, Cond.instanceMethod yX3_leadsTo, Cond.selects RX3 yX3_leadsTo yX3_leadsTo, Cond.code yX3_leadsTo cX3_leadsTo 8 (some .boolean), Cond.methodLink RX3 216 yX3_membersOf, Cond.instanceMethod yX3_membersOf, Cond.selects RX3 yX3_membersOf yX3_membersOf, Cond.code yX3_membersOf cX3_membersOf 6 (some .long)]
def wsL_delete_r5 : List Cond := [Cond.methodLink RX3 291 yX3_has, Cond.static yX3_has, Cond.code yX3_has cX3_has 3 (some .boolean), Cond.methodLink RX3 279 yX3_addVersion, Cond.instanceMethod yX3_addVersion, Cond.selects RX3 yX3_addVersion yX3_addVersion, Cond.code yX3_addVersion cX3_addVersion 4 (some .int), Cond.methodLink RX3 261 yX3_newVersion, Cond.instanceMethod yX3_newVersion, Cond.selects RX3 yX3_newVersion yX3_newVersion, Cond.code yX3_newVersion cX3_newVersion 4 (some (.object "MapRevisions$Version")), Cond.fieldLink RX3 33 "MapRevisions" "versionsOf" "[I", Cond.classLink RX3 143 RX2, Cond.instantiable RX2 6, Cond.initialized RX2, Cond.fieldLink RX3 49 "MapRevisions" "now" "I", Cond.methodLink RX3 272 yX2_init, Cond.instanceMethod yX2_init, Cond.code yX2_init cX2_init 5 none, Cond.methodLink RX2 1 objectInit, Cond.instanceMethod objectInit, Cond.code objectInit ⟨#[0xb1]⟩ 1 none, Cond.fieldLink RX2 7 "MapRevisions$Version" "before" "LMapRevisions$Version;", Cond.fieldLink RX2 13 "MapRevisions$Version" "number" "I"]
def wsL_delete_r6 : List Cond := [Cond.fieldLink RX2 17 "MapRevisions$Version" "set" "I", Cond.fieldLink RX2 20 "MapRevisions$Version" "minute" "I", Cond.fieldLink RX2 23 "MapRevisions$Version" "content" "LMapRevisions$Content;", Cond.fieldLink RX2 27 "MapRevisions$Version" "hidden" "Z"]
def wsL_delete : List Cond := .codeWith yL_delete cL_delete 6 (some .int) [(0, 12, 15, 19), (0, 12, 19, 13)] :: ((wsL_delete_r1 ++ (wsL_delete_r2 ++ (wsL_delete_r3 ++ (wsL_delete_r4 ++ (wsL_delete_r5 ++ wsL_delete_r6))))) ++ wsX30 ++ wsJx4a65c0 ++ wsX10 ++ wsX20 ++ wsX00 ++ (vx_atS RX3 236 "java/lang/IndexOutOfBoundsException" ["java/lang/RuntimeException", "java/lang/Exception"]).filter goodWord ++ (vx_atS RX3 59 "java/lang/IllegalStateException" ["java/lang/RuntimeException", "java/lang/Exception"]).filter goodWord)
def wsL_undo_r1 : List Cond := [Cond.classLink RL 19 "java/lang/IndexOutOfBoundsException", Cond.classLink RL 13 "java/lang/IllegalStateException", Cond.methodLink RL 44 yX3_undo, Cond.instanceMethod yX3_undo, Cond.selects RX3 yX3_undo yX3_undo, Cond.initialized RX3, Cond.code yX3_undo cX3_undo 5 (some .int), Cond.classLink RX3 55 "java/lang/IllegalStateException", Cond.initialized "java/lang/IllegalStateException", Cond.fieldLink RX3 29 "MapRevisions" "closed" "[Z", Cond.fieldLink RX3 25 "MapRevisions" "all" "Ljava/util/ArrayList;", Cond.methodLink RX3 62 yX3_needSet, Cond.instanceMethod yX3_needSet, Cond.selects RX3 yX3_needSet yX3_needSet, Cond.code yX3_needSet cX3_needSet 2 none, Cond.classLink RX3 232 "java/lang/IndexOutOfBoundsException", Cond.initialized "java/lang/IndexOutOfBoundsException", Cond.fieldLink RX3 39 "MapRevisions" "sets" "I", Cond.methodLink RX3 77 yX3_needOpen, Cond.instanceMethod yX3_needOpen, Cond.selects RX3 yX3_needOpen yX3_needOpen, Cond.code yX3_needOpen cX3_needOpen 2 none, Cond.fieldLink RX3 46 "MapRevisions" "versions" "I", Cond.methodLink RX3 126 yJx4a65c_size_8abf5]
def wsL_undo_r2 : List Cond := [Cond.instanceMethod yJx4a65c_size_8abf5, Cond.selects RJx4a65c yJx4a65c_size_8abf5 yJx4a65c_size_8abf5, Cond.initialized RJx4a65c, Cond.code yJx4a65c_size_8abf5 cJx4a65c_size_8abf5 1 (some .int), Cond.fieldLink RJx4a65c 48 "java/util/ArrayList" "size" "I", Cond.methodLink RX3 130 yX3_hasVersionOf, Cond.instanceMethod yX3_hasVersionOf, Cond.selects RX3 yX3_hasVersionOf yX3_hasVersionOf, Cond.code yX3_hasVersionOf cX3_hasVersionOf 4 (some .boolean), Cond.classLink RX3 111 "MapRevisions$Thing", Cond.fieldLink RX3 138 "MapRevisions$Thing" "last" "LMapRevisions$Version;", Cond.fieldLink RX3 198 "MapRevisions$Version" "set" "I", Cond.fieldLink RX3 242 "MapRevisions$Version" "before" "LMapRevisions$Version;", Cond.methodLink RX3 107 yJx4a65c_get_915e3, Cond.instanceMethod yJx4a65c_get_915e3, Cond.selects RJx4a65c yJx4a65c_get_915e3 yJx4a65c_get_915e3, Cond.code yJx4a65c_get_915e3 cJx4a65c_get_915e3 2 (some (.object "java/lang/Object")), Cond.methodLink RJx4a65c 118 yJ15_checkIndex_7cf53, Cond.static yJ15_checkIndex_7cf53, Cond.initialized RJ15, Cond.code yJ15_checkIndex_7cf53 cJ15_checkIndex_7cf53 2 (some .int), Cond.methodLink RJ15 105 yJ3_checkIndex_8e157, Cond.static yJ3_checkIndex_8e157, Cond.initialized RJ3]
def wsL_undo_r3 : List Cond := [Cond.code yJ3_checkIndex_8e157 cJ3_checkIndex_8e157 3 (some .int), Cond.methodLink RJx4a65c 123 yJx4a65c_elementData_915e3, Cond.instanceMethod yJx4a65c_elementData_915e3, Cond.selects RJx4a65c yJx4a65c_elementData_915e3 yJx4a65c_elementData_915e3, Cond.code yJx4a65c_elementData_915e3 cJx4a65c_elementData_915e3 2 (some (.object "java/lang/Object")), Cond.fieldLink RJx4a65c 9 "java/util/ArrayList" "elementData" "[Ljava/lang/Object;", Cond.methodLink RX3 134 yX3_undoThing, Cond.instanceMethod yX3_undoThing, Cond.selects RX3 yX3_undoThing yX3_undoThing, Cond.code yX3_undoThing cX3_undoThing 6 (some .boolean), Cond.methodLink RX3 295 yX3_contentAheadOf, Cond.instanceMethod yX3_contentAheadOf, Cond.selects RX3 yX3_contentAheadOf yX3_contentAheadOf, Cond.code yX3_contentAheadOf cX3_contentAheadOf 4 (some (.object "MapRevisions$Content")), Cond.fieldLink RX3 18 "MapRevisions" "gone" "LMapRevisions$Content;", Cond.fieldLink RX3 151 "MapRevisions$Version" "content" "LMapRevisions$Content;", Cond.methodLink RX3 275 yX3_refusalOf, Cond.instanceMethod yX3_refusalOf, Cond.selects RX3 yX3_refusalOf yX3_refusalOf, Cond.code yX3_refusalOf cX3_refusalOf 4 (some .int), Cond.fieldLink RX3 154 "MapRevisions$Content" "there" "Z", Cond.fieldLink RX3 113 "MapRevisions$Thing" "kind" "I", Cond.fieldLink RX3 100 "MapRevisions$Content" "members" "[I", Cond.methodLink RX3 169 yX3_bit]
def wsL_undo_r4 : List Cond := [Cond.static yX3_bit, Cond.code yX3_bit cX3_bit 1 (some .long), Cond.methodLink RX3 173 yX3_usersOf, Cond.instanceMethod yX3_usersOf, Cond.selects RX3 yX3_usersOf yX3_usersOf, Cond.code yX3_usersOf cX3_usersOf 6 (some .long), Cond.methodLink RX3 287 yX3_bitsOf, Cond.static yX3_bitsOf, Cond.code yX3_bitsOf cX3_bitsOf 7 (some .long), Cond.methodLink RX3 103 yX3_isRowFor, Cond.instanceMethod yX3_isRowFor, Cond.selects RX3 yX3_isRowFor yX3_isRowFor, Cond.code yX3_isRowFor cX3_isRowFor 7 (some .boolean), Cond.methodLink RX3 147 yX3_isNow, Cond.instanceMethod yX3_isNow, Cond.selects RX3 yX3_isNow yX3_isNow, Cond.code yX3_isNow cX3_isNow 2 (some .boolean), Cond.methodLink RX3 237 yX3_isKnown, Cond.instanceMethod yX3_isKnown, Cond.selects RX3 yX3_isKnown yX3_isKnown, Cond.code yX3_isKnown cX3_isKnown 2 (some .boolean), Cond.methodLink RX3 283 yX3_leadsTo, Cond.instanceMethod yX3_leadsTo, Cond.selects RX3 yX3_leadsTo yX3_leadsTo]
def wsL_undo_r5 : List Cond := [Cond.code yX3_leadsTo cX3_leadsTo 8 (some .boolean), Cond.methodLink RX3 216 yX3_membersOf, Cond.instanceMethod yX3_membersOf, Cond.selects RX3 yX3_membersOf yX3_membersOf, Cond.code yX3_membersOf cX3_membersOf 6 (some .long), Cond.methodLink RX3 291 yX3_has, Cond.static yX3_has, Cond.code yX3_has cX3_has 3 (some .boolean), Cond.methodLink RX3 279 yX3_addVersion, Cond.instanceMethod yX3_addVersion, Cond.selects RX3 yX3_addVersion yX3_addVersion, Cond.code yX3_addVersion cX3_addVersion 4 (some .int), Cond.fieldLink RX3 142 "MapRevisions$Version" "number" "I", Cond.methodLink RX3 261 yX3_newVersion, Cond.instanceMethod yX3_newVersion, Cond.selects RX3 yX3_newVersion yX3_newVersion, Cond.code yX3_newVersion cX3_newVersion 4 (some (.object "MapRevisions$Version")), Cond.fieldLink RX3 33 "MapRevisions" "versionsOf" "[I", Cond.classLink RX3 143 RX2, Cond.instantiable RX2 6, Cond.initialized RX2, Cond.fieldLink RX3 49 "MapRevisions" "now" "I", Cond.methodLink RX3 272 yX2_init, Cond.instanceMethod yX2_init]
def wsL_undo_r6 : List Cond := [Cond.code yX2_init cX2_init 5 none, Cond.methodLink RX2 1 objectInit, Cond.instanceMethod objectInit, Cond.code objectInit ⟨#[0xb1]⟩ 1 none, Cond.fieldLink RX2 7 "MapRevisions$Version" "before" "LMapRevisions$Version;", Cond.fieldLink RX2 13 "MapRevisions$Version" "number" "I", Cond.fieldLink RX2 17 "MapRevisions$Version" "set" "I", Cond.fieldLink RX2 20 "MapRevisions$Version" "minute" "I", Cond.fieldLink RX2 23 "MapRevisions$Version" "content" "LMapRevisions$Content;", Cond.fieldLink RX2 27 "MapRevisions$Version" "hidden" "Z"]
def wsL_undo : List Cond := .codeWith yL_undo cL_undo 5 (some .int) [(0, 10, 13, 19), (0, 10, 17, 13)] :: ((wsL_undo_r1 ++ (wsL_undo_r2 ++ (wsL_undo_r3 ++ (wsL_undo_r4 ++ (wsL_undo_r5 ++ wsL_undo_r6))))) ++ wsX30 ++ wsJx4a65c0 ++ wsX10 ++ wsX20 ++ wsX00 ++ (vx_atS RX3 59 "java/lang/IllegalStateException" ["java/lang/RuntimeException", "java/lang/Exception"]).filter goodWord ++ (vx_atS RX3 236 "java/lang/IndexOutOfBoundsException" ["java/lang/RuntimeException", "java/lang/Exception"]).filter goodWord)
def wsL_latest_r1 : List Cond := [Cond.classLink RL 19 "java/lang/IndexOutOfBoundsException", Cond.methodLink RL 47 yX3_latest, Cond.instanceMethod yX3_latest, Cond.selects RX3 yX3_latest yX3_latest, Cond.initialized RX3, Cond.code yX3_latest cX3_latest 2 (some .int), Cond.fieldLink RX3 25 "MapRevisions" "all" "Ljava/util/ArrayList;", Cond.classLink RX3 111 "MapRevisions$Thing", Cond.fieldLink RX3 138 "MapRevisions$Thing" "last" "LMapRevisions$Version;", Cond.fieldLink RX3 142 "MapRevisions$Version" "number" "I", Cond.methodLink RX3 68 yX3_needThing, Cond.instanceMethod yX3_needThing, Cond.selects RX3 yX3_needThing yX3_needThing, Cond.code yX3_needThing cX3_needThing 2 none, Cond.classLink RX3 232 "java/lang/IndexOutOfBoundsException", Cond.initialized "java/lang/IndexOutOfBoundsException", Cond.methodLink RX3 237 yX3_isKnown, Cond.instanceMethod yX3_isKnown, Cond.selects RX3 yX3_isKnown yX3_isKnown, Cond.code yX3_isKnown cX3_isKnown 2 (some .boolean), Cond.methodLink RX3 126 yJx4a65c_size_8abf5, Cond.instanceMethod yJx4a65c_size_8abf5, Cond.selects RJx4a65c yJx4a65c_size_8abf5 yJx4a65c_size_8abf5, Cond.initialized RJx4a65c]
def wsL_latest_r2 : List Cond := [Cond.code yJx4a65c_size_8abf5 cJx4a65c_size_8abf5 1 (some .int), Cond.fieldLink RJx4a65c 48 "java/util/ArrayList" "size" "I", Cond.methodLink RX3 107 yJx4a65c_get_915e3, Cond.instanceMethod yJx4a65c_get_915e3, Cond.selects RJx4a65c yJx4a65c_get_915e3 yJx4a65c_get_915e3, Cond.code yJx4a65c_get_915e3 cJx4a65c_get_915e3 2 (some (.object "java/lang/Object")), Cond.methodLink RJx4a65c 118 yJ15_checkIndex_7cf53, Cond.static yJ15_checkIndex_7cf53, Cond.initialized RJ15, Cond.code yJ15_checkIndex_7cf53 cJ15_checkIndex_7cf53 2 (some .int), Cond.methodLink RJ15 105 yJ3_checkIndex_8e157, Cond.static yJ3_checkIndex_8e157, Cond.initialized RJ3, Cond.code yJ3_checkIndex_8e157 cJ3_checkIndex_8e157 3 (some .int), Cond.methodLink RJx4a65c 123 yJx4a65c_elementData_915e3, Cond.instanceMethod yJx4a65c_elementData_915e3, Cond.selects RJx4a65c yJx4a65c_elementData_915e3 yJx4a65c_elementData_915e3, Cond.code yJx4a65c_elementData_915e3 cJx4a65c_elementData_915e3 2 (some (.object "java/lang/Object")), Cond.fieldLink RJx4a65c 9 "java/util/ArrayList" "elementData" "[Ljava/lang/Object;"]
def wsL_latest : List Cond := .codeWith yL_latest cL_latest 4 (some .int) [(0, 9, 12, 19)] :: ((wsL_latest_r1 ++ wsL_latest_r2) ++ wsX30 ++ wsX10 ++ wsX20 ++ wsJx4a65c0 ++ (vx_atS RX3 236 "java/lang/IndexOutOfBoundsException" ["java/lang/RuntimeException", "java/lang/Exception"]).filter goodWord)
def wsL_isThere_r1 : List Cond := [Cond.classLink RL 19 "java/lang/IndexOutOfBoundsException", Cond.methodLink RL 50 yX3_isThere, Cond.instanceMethod yX3_isThere, Cond.selects RX3 yX3_isThere yX3_isThere, Cond.initialized RX3, Cond.code yX3_isThere cX3_isThere 2 (some .boolean), Cond.methodLink RX3 68 yX3_needThing, Cond.instanceMethod yX3_needThing, Cond.selects RX3 yX3_needThing yX3_needThing, Cond.code yX3_needThing cX3_needThing 2 none, Cond.classLink RX3 232 "java/lang/IndexOutOfBoundsException", Cond.initialized "java/lang/IndexOutOfBoundsException", Cond.methodLink RX3 237 yX3_isKnown, Cond.instanceMethod yX3_isKnown, Cond.selects RX3 yX3_isKnown yX3_isKnown, Cond.code yX3_isKnown cX3_isKnown 2 (some .boolean), Cond.fieldLink RX3 25 "MapRevisions" "all" "Ljava/util/ArrayList;", Cond.methodLink RX3 126 yJx4a65c_size_8abf5, Cond.instanceMethod yJx4a65c_size_8abf5, Cond.selects RJx4a65c yJx4a65c_size_8abf5 yJx4a65c_size_8abf5, Cond.initialized RJx4a65c, Cond.code yJx4a65c_size_8abf5 cJx4a65c_size_8abf5 1 (some .int), Cond.fieldLink RJx4a65c 48 "java/util/ArrayList" "size" "I", Cond.methodLink RX3 147 yX3_isNow]
def wsL_isThere_r2 : List Cond := [Cond.instanceMethod yX3_isNow, Cond.selects RX3 yX3_isNow yX3_isNow, Cond.code yX3_isNow cX3_isNow 2 (some .boolean), Cond.classLink RX3 111 "MapRevisions$Thing", Cond.fieldLink RX3 138 "MapRevisions$Thing" "last" "LMapRevisions$Version;", Cond.fieldLink RX3 151 "MapRevisions$Version" "content" "LMapRevisions$Content;", Cond.fieldLink RX3 154 "MapRevisions$Content" "there" "Z", Cond.methodLink RX3 107 yJx4a65c_get_915e3, Cond.instanceMethod yJx4a65c_get_915e3, Cond.selects RJx4a65c yJx4a65c_get_915e3 yJx4a65c_get_915e3, Cond.code yJx4a65c_get_915e3 cJx4a65c_get_915e3 2 (some (.object "java/lang/Object")), Cond.methodLink RJx4a65c 118 yJ15_checkIndex_7cf53, Cond.static yJ15_checkIndex_7cf53, Cond.initialized RJ15, Cond.code yJ15_checkIndex_7cf53 cJ15_checkIndex_7cf53 2 (some .int), Cond.methodLink RJ15 105 yJ3_checkIndex_8e157, Cond.static yJ3_checkIndex_8e157, Cond.initialized RJ3, Cond.code yJ3_checkIndex_8e157 cJ3_checkIndex_8e157 3 (some .int), Cond.methodLink RJx4a65c 123 yJx4a65c_elementData_915e3, Cond.instanceMethod yJx4a65c_elementData_915e3, Cond.selects RJx4a65c yJx4a65c_elementData_915e3 yJx4a65c_elementData_915e3, Cond.code yJx4a65c_elementData_915e3 cJx4a65c_elementData_915e3 2 (some (.object "java/lang/Object")), Cond.fieldLink RJx4a65c 9 "java/util/ArrayList" "elementData" "[Ljava/lang/Object;"]
def wsL_isThere : List Cond := .codeWith yL_isThere cL_isThere 4 (some .int) [(0, 16, 19, 19)] :: ((wsL_isThere_r1 ++ wsL_isThere_r2) ++ wsX30 ++ wsJx4a65c0 ++ wsX10 ++ wsX20 ++ wsX00 ++ (vx_atS RX3 236 "java/lang/IndexOutOfBoundsException" ["java/lang/RuntimeException", "java/lang/Exception"]).filter goodWord)
def wsL_whereIs_r1 : List Cond := [Cond.classLink RL 19 "java/lang/IndexOutOfBoundsException", Cond.classLink RL 57 "java/util/NoSuchElementException", Cond.methodLink RL 54 yX3_whereIs, Cond.instanceMethod yX3_whereIs, Cond.selects RX3 yX3_whereIs yX3_whereIs, Cond.initialized RX3, Cond.code yX3_whereIs cX3_whereIs 3 (some .int), Cond.classLink RX3 158 "java/util/NoSuchElementException", Cond.initialized "java/util/NoSuchElementException", Cond.fieldLink RX3 25 "MapRevisions" "all" "Ljava/util/ArrayList;", Cond.classLink RX3 111 "MapRevisions$Thing", Cond.fieldLink RX3 138 "MapRevisions$Thing" "last" "LMapRevisions$Version;", Cond.fieldLink RX3 151 "MapRevisions$Version" "content" "LMapRevisions$Content;", Cond.fieldLink RX3 113 "MapRevisions$Thing" "kind" "I", Cond.fieldLink RX3 154 "MapRevisions$Content" "there" "Z", Cond.fieldLink RX3 163 "MapRevisions$Content" "x" "I", Cond.fieldLink RX3 166 "MapRevisions$Content" "y" "I", Cond.methodLink RX3 68 yX3_needThing, Cond.instanceMethod yX3_needThing, Cond.selects RX3 yX3_needThing yX3_needThing, Cond.code yX3_needThing cX3_needThing 2 none, Cond.classLink RX3 232 "java/lang/IndexOutOfBoundsException", Cond.initialized "java/lang/IndexOutOfBoundsException", Cond.methodLink RX3 237 yX3_isKnown]
def wsL_whereIs_r2 : List Cond := [Cond.instanceMethod yX3_isKnown, Cond.selects RX3 yX3_isKnown yX3_isKnown, Cond.code yX3_isKnown cX3_isKnown 2 (some .boolean), Cond.methodLink RX3 126 yJx4a65c_size_8abf5, Cond.instanceMethod yJx4a65c_size_8abf5, Cond.selects RJx4a65c yJx4a65c_size_8abf5 yJx4a65c_size_8abf5, Cond.initialized RJx4a65c, Cond.code yJx4a65c_size_8abf5 cJx4a65c_size_8abf5 1 (some .int), Cond.fieldLink RJx4a65c 48 "java/util/ArrayList" "size" "I", Cond.methodLink RX3 107 yJx4a65c_get_915e3, Cond.instanceMethod yJx4a65c_get_915e3, Cond.selects RJx4a65c yJx4a65c_get_915e3 yJx4a65c_get_915e3, Cond.code yJx4a65c_get_915e3 cJx4a65c_get_915e3 2 (some (.object "java/lang/Object")), Cond.methodLink RJx4a65c 118 yJ15_checkIndex_7cf53, Cond.static yJ15_checkIndex_7cf53, Cond.initialized RJ15, Cond.code yJ15_checkIndex_7cf53 cJ15_checkIndex_7cf53 2 (some .int), Cond.methodLink RJ15 105 yJ3_checkIndex_8e157, Cond.static yJ3_checkIndex_8e157, Cond.initialized RJ3, Cond.code yJ3_checkIndex_8e157 cJ3_checkIndex_8e157 3 (some .int), Cond.methodLink RJx4a65c 123 yJx4a65c_elementData_915e3, Cond.instanceMethod yJx4a65c_elementData_915e3, Cond.selects RJx4a65c yJx4a65c_elementData_915e3 yJx4a65c_elementData_915e3]
def wsL_whereIs_r3 : List Cond := [Cond.code yJx4a65c_elementData_915e3 cJx4a65c_elementData_915e3 2 (some (.object "java/lang/Object")), Cond.fieldLink RJx4a65c 9 "java/util/ArrayList" "elementData" "[Ljava/lang/Object;"]
def wsL_whereIs : List Cond := .codeWith yL_whereIs cL_whereIs 4 (some .int) [(0, 9, 12, 19), (0, 9, 15, 57)] :: ((wsL_whereIs_r1 ++ (wsL_whereIs_r2 ++ wsL_whereIs_r3)) ++ wsX30 ++ wsX10 ++ wsX20 ++ wsX00 ++ wsJx4a65c0 ++ (vx_atS RX3 162 "java/util/NoSuchElementException" ["java/lang/RuntimeException", "java/lang/Exception"]).filter goodWord ++ (vx_atS RX3 236 "java/lang/IndexOutOfBoundsException" ["java/lang/RuntimeException", "java/lang/Exception"]).filter goodWord)
def wsL_members_r1 : List Cond := [Cond.classLink RL 19 "java/lang/IndexOutOfBoundsException", Cond.methodLink RL 59 yX3_members, Cond.instanceMethod yX3_members, Cond.selects RX3 yX3_members yX3_members, Cond.initialized RX3, Cond.code yX3_members cX3_members 2 (some .int), Cond.fieldLink RX3 25 "MapRevisions" "all" "Ljava/util/ArrayList;", Cond.classLink RX3 111 "MapRevisions$Thing", Cond.fieldLink RX3 138 "MapRevisions$Thing" "last" "LMapRevisions$Version;", Cond.fieldLink RX3 151 "MapRevisions$Version" "content" "LMapRevisions$Content;", Cond.fieldLink RX3 100 "MapRevisions$Content" "members" "[I", Cond.methodLink RX3 68 yX3_needThing, Cond.instanceMethod yX3_needThing, Cond.selects RX3 yX3_needThing yX3_needThing, Cond.code yX3_needThing cX3_needThing 2 none, Cond.classLink RX3 232 "java/lang/IndexOutOfBoundsException", Cond.initialized "java/lang/IndexOutOfBoundsException", Cond.methodLink RX3 237 yX3_isKnown, Cond.instanceMethod yX3_isKnown, Cond.selects RX3 yX3_isKnown yX3_isKnown, Cond.code yX3_isKnown cX3_isKnown 2 (some .boolean), Cond.methodLink RX3 126 yJx4a65c_size_8abf5, Cond.instanceMethod yJx4a65c_size_8abf5, Cond.selects RJx4a65c yJx4a65c_size_8abf5 yJx4a65c_size_8abf5]
def wsL_members_r2 : List Cond := [Cond.initialized RJx4a65c, Cond.code yJx4a65c_size_8abf5 cJx4a65c_size_8abf5 1 (some .int), Cond.fieldLink RJx4a65c 48 "java/util/ArrayList" "size" "I", Cond.methodLink RX3 107 yJx4a65c_get_915e3, Cond.instanceMethod yJx4a65c_get_915e3, Cond.selects RJx4a65c yJx4a65c_get_915e3 yJx4a65c_get_915e3, Cond.code yJx4a65c_get_915e3 cJx4a65c_get_915e3 2 (some (.object "java/lang/Object")), Cond.methodLink RJx4a65c 118 yJ15_checkIndex_7cf53, Cond.static yJ15_checkIndex_7cf53, Cond.initialized RJ15, Cond.code yJ15_checkIndex_7cf53 cJ15_checkIndex_7cf53 2 (some .int), Cond.methodLink RJ15 105 yJ3_checkIndex_8e157, Cond.static yJ3_checkIndex_8e157, Cond.initialized RJ3, Cond.code yJ3_checkIndex_8e157 cJ3_checkIndex_8e157 3 (some .int), Cond.methodLink RJx4a65c 123 yJx4a65c_elementData_915e3, Cond.instanceMethod yJx4a65c_elementData_915e3, Cond.selects RJx4a65c yJx4a65c_elementData_915e3 yJx4a65c_elementData_915e3, Cond.code yJx4a65c_elementData_915e3 cJx4a65c_elementData_915e3 2 (some (.object "java/lang/Object")), Cond.fieldLink RJx4a65c 9 "java/util/ArrayList" "elementData" "[Ljava/lang/Object;"]
def wsL_members : List Cond := .codeWith yL_members cL_members 4 (some .int) [(0, 9, 12, 19)] :: ((wsL_members_r1 ++ wsL_members_r2) ++ wsX30 ++ wsX10 ++ wsX20 ++ wsX00 ++ wsJx4a65c0 ++ (vx_atS RX3 236 "java/lang/IndexOutOfBoundsException" ["java/lang/RuntimeException", "java/lang/Exception"]).filter goodWord)
def wsL_usedBy_r1 : List Cond := [Cond.classLink RL 19 "java/lang/IndexOutOfBoundsException", Cond.methodLink RL 62 yX3_usedBy, Cond.instanceMethod yX3_usedBy, Cond.selects RX3 yX3_usedBy yX3_usedBy, Cond.initialized RX3, Cond.code yX3_usedBy cX3_usedBy 2 (some .int), Cond.methodLink RX3 68 yX3_needThing, Cond.instanceMethod yX3_needThing, Cond.selects RX3 yX3_needThing yX3_needThing, Cond.code yX3_needThing cX3_needThing 2 none, Cond.classLink RX3 232 "java/lang/IndexOutOfBoundsException", Cond.initialized "java/lang/IndexOutOfBoundsException", Cond.methodLink RX3 237 yX3_isKnown, Cond.instanceMethod yX3_isKnown, Cond.selects RX3 yX3_isKnown yX3_isKnown, Cond.code yX3_isKnown cX3_isKnown 2 (some .boolean), Cond.fieldLink RX3 25 "MapRevisions" "all" "Ljava/util/ArrayList;", Cond.methodLink RX3 126 yJx4a65c_size_8abf5, Cond.instanceMethod yJx4a65c_size_8abf5, Cond.selects RJx4a65c yJx4a65c_size_8abf5 yJx4a65c_size_8abf5, Cond.initialized RJx4a65c, Cond.code yJx4a65c_size_8abf5 cJx4a65c_size_8abf5 1 (some .int), Cond.fieldLink RJx4a65c 48 "java/util/ArrayList" "size" "I", Cond.methodLink RX3 169 yX3_bit]
def wsL_usedBy_r2 : List Cond := [Cond.static yX3_bit, Cond.code yX3_bit cX3_bit 1 (some .long), Cond.methodLink RX3 173 yX3_usersOf, Cond.instanceMethod yX3_usersOf, Cond.selects RX3 yX3_usersOf yX3_usersOf, Cond.code yX3_usersOf cX3_usersOf 6 (some .long), Cond.classLink RX3 111 "MapRevisions$Thing", Cond.fieldLink RX3 138 "MapRevisions$Thing" "last" "LMapRevisions$Version;", Cond.fieldLink RX3 151 "MapRevisions$Version" "content" "LMapRevisions$Content;", Cond.fieldLink RX3 100 "MapRevisions$Content" "members" "[I", Cond.methodLink RX3 107 yJx4a65c_get_915e3, Cond.instanceMethod yJx4a65c_get_915e3, Cond.selects RJx4a65c yJx4a65c_get_915e3 yJx4a65c_get_915e3, Cond.code yJx4a65c_get_915e3 cJx4a65c_get_915e3 2 (some (.object "java/lang/Object")), Cond.methodLink RJx4a65c 118 yJ15_checkIndex_7cf53, Cond.static yJ15_checkIndex_7cf53, Cond.initialized RJ15, Cond.code yJ15_checkIndex_7cf53 cJ15_checkIndex_7cf53 2 (some .int), Cond.methodLink RJ15 105 yJ3_checkIndex_8e157, Cond.static yJ3_checkIndex_8e157, Cond.initialized RJ3, Cond.code yJ3_checkIndex_8e157 cJ3_checkIndex_8e157 3 (some .int), Cond.methodLink RJx4a65c 123 yJx4a65c_elementData_915e3, Cond.instanceMethod yJx4a65c_elementData_915e3]
def wsL_usedBy_r3 : List Cond := [Cond.selects RJx4a65c yJx4a65c_elementData_915e3 yJx4a65c_elementData_915e3, Cond.code yJx4a65c_elementData_915e3 cJx4a65c_elementData_915e3 2 (some (.object "java/lang/Object")), Cond.fieldLink RJx4a65c 9 "java/util/ArrayList" "elementData" "[Ljava/lang/Object;", Cond.methodLink RX3 287 yX3_bitsOf, Cond.static yX3_bitsOf, Cond.code yX3_bitsOf cX3_bitsOf 7 (some .long), Cond.methodLink RX3 177 yJ13_bitCount_95d88, Cond.static yJ13_bitCount_95d88, Cond.initialized RJ13, Cond.code yJ13_bitCount_95d88 cJ13_bitCount_95d88 2 (some .int), Cond.constantLong RJ13 314 (6148914691236517205), Cond.constantLong RJ13 316 (3689348814741910323), Cond.constantLong RJ13 318 (1085102592571150095)]
def wsL_usedBy : List Cond := .codeWith yL_usedBy cL_usedBy 4 (some .int) [(0, 9, 12, 19)] :: ((wsL_usedBy_r1 ++ (wsL_usedBy_r2 ++ wsL_usedBy_r3)) ++ wsX30 ++ wsJx4a65c0 ++ wsX10 ++ wsX20 ++ wsX00 ++ (vx_atS RX3 236 "java/lang/IndexOutOfBoundsException" ["java/lang/RuntimeException", "java/lang/Exception"]).filter goodWord)
def wsL_hide_r1 : List Cond := [Cond.classLink RL 19 "java/lang/IndexOutOfBoundsException", Cond.classLink RL 13 "java/lang/IllegalStateException", Cond.methodLink RL 65 yX3_hide, Cond.instanceMethod yX3_hide, Cond.selects RX3 yX3_hide yX3_hide, Cond.initialized RX3, Cond.code yX3_hide cX3_hide 4 (some .int), Cond.classLink RX3 55 "java/lang/IllegalStateException", Cond.initialized "java/lang/IllegalStateException", Cond.fieldLink RX3 25 "MapRevisions" "all" "Ljava/util/ArrayList;", Cond.classLink RX3 111 "MapRevisions$Thing", Cond.fieldLink RX3 138 "MapRevisions$Thing" "last" "LMapRevisions$Version;", Cond.fieldLink RX3 142 "MapRevisions$Version" "number" "I", Cond.fieldLink RX3 187 "MapRevisions$Version" "hidden" "Z", Cond.methodLink RX3 68 yX3_needThing, Cond.instanceMethod yX3_needThing, Cond.selects RX3 yX3_needThing yX3_needThing, Cond.code yX3_needThing cX3_needThing 2 none, Cond.classLink RX3 232 "java/lang/IndexOutOfBoundsException", Cond.initialized "java/lang/IndexOutOfBoundsException", Cond.methodLink RX3 237 yX3_isKnown, Cond.instanceMethod yX3_isKnown, Cond.selects RX3 yX3_isKnown yX3_isKnown, Cond.code yX3_isKnown cX3_isKnown 2 (some .boolean)]
def wsL_hide_r2 : List Cond := [Cond.methodLink RX3 126 yJx4a65c_size_8abf5, Cond.instanceMethod yJx4a65c_size_8abf5, Cond.selects RJx4a65c yJx4a65c_size_8abf5 yJx4a65c_size_8abf5, Cond.initialized RJx4a65c, Cond.code yJx4a65c_size_8abf5 cJx4a65c_size_8abf5 1 (some .int), Cond.fieldLink RJx4a65c 48 "java/util/ArrayList" "size" "I", Cond.methodLink RX3 183 yX3_needVersion, Cond.instanceMethod yX3_needVersion, Cond.selects RX3 yX3_needVersion yX3_needVersion, Cond.code yX3_needVersion cX3_needVersion 4 (some (.object "MapRevisions$Version")), Cond.fieldLink RX3 242 "MapRevisions$Version" "before" "LMapRevisions$Version;", Cond.methodLink RX3 107 yJx4a65c_get_915e3, Cond.instanceMethod yJx4a65c_get_915e3, Cond.selects RJx4a65c yJx4a65c_get_915e3 yJx4a65c_get_915e3, Cond.code yJx4a65c_get_915e3 cJx4a65c_get_915e3 2 (some (.object "java/lang/Object")), Cond.methodLink RJx4a65c 118 yJ15_checkIndex_7cf53, Cond.static yJ15_checkIndex_7cf53, Cond.initialized RJ15, Cond.code yJ15_checkIndex_7cf53 cJ15_checkIndex_7cf53 2 (some .int), Cond.methodLink RJ15 105 yJ3_checkIndex_8e157, Cond.static yJ3_checkIndex_8e157, Cond.initialized RJ3, Cond.code yJ3_checkIndex_8e157 cJ3_checkIndex_8e157 3 (some .int), Cond.methodLink RJx4a65c 123 yJx4a65c_elementData_915e3]
def wsL_hide_r3 : List Cond := [Cond.instanceMethod yJx4a65c_elementData_915e3, Cond.selects RJx4a65c yJx4a65c_elementData_915e3 yJx4a65c_elementData_915e3, Cond.code yJx4a65c_elementData_915e3 cJx4a65c_elementData_915e3 2 (some (.object "java/lang/Object")), Cond.fieldLink RJx4a65c 9 "java/util/ArrayList" "elementData" "[Ljava/lang/Object;", Cond.methodLink RX3 192 yX3_countShown, Cond.instanceMethod yX3_countShown, Cond.selects RX3 yX3_countShown yX3_countShown, Cond.code yX3_countShown cX3_countShown 4 (some .int)]
def wsL_hide : List Cond := .codeWith yL_hide cL_hide 5 (some .int) [(0, 10, 13, 19), (0, 10, 17, 13)] :: ((wsL_hide_r1 ++ (wsL_hide_r2 ++ wsL_hide_r3)) ++ wsX30 ++ wsX10 ++ wsX20 ++ wsJx4a65c0 ++ (vx_atS RX3 59 "java/lang/IllegalStateException" ["java/lang/RuntimeException", "java/lang/Exception"]).filter goodWord ++ (vx_atS RX3 236 "java/lang/IndexOutOfBoundsException" ["java/lang/RuntimeException", "java/lang/Exception"]).filter goodWord)
def wsL_setOf_r1 : List Cond := [Cond.classLink RL 19 "java/lang/IndexOutOfBoundsException", Cond.classLink RL 57 "java/util/NoSuchElementException", Cond.methodLink RL 68 yX3_setOf, Cond.instanceMethod yX3_setOf, Cond.selects RX3 yX3_setOf yX3_setOf, Cond.initialized RX3, Cond.code yX3_setOf cX3_setOf 4 (some .int), Cond.classLink RX3 158 "java/util/NoSuchElementException", Cond.initialized "java/util/NoSuchElementException", Cond.fieldLink RX3 187 "MapRevisions$Version" "hidden" "Z", Cond.fieldLink RX3 198 "MapRevisions$Version" "set" "I", Cond.methodLink RX3 68 yX3_needThing, Cond.instanceMethod yX3_needThing, Cond.selects RX3 yX3_needThing yX3_needThing, Cond.code yX3_needThing cX3_needThing 2 none, Cond.classLink RX3 232 "java/lang/IndexOutOfBoundsException", Cond.initialized "java/lang/IndexOutOfBoundsException", Cond.methodLink RX3 237 yX3_isKnown, Cond.instanceMethod yX3_isKnown, Cond.selects RX3 yX3_isKnown yX3_isKnown, Cond.code yX3_isKnown cX3_isKnown 2 (some .boolean), Cond.fieldLink RX3 25 "MapRevisions" "all" "Ljava/util/ArrayList;", Cond.methodLink RX3 126 yJx4a65c_size_8abf5, Cond.instanceMethod yJx4a65c_size_8abf5]
def wsL_setOf_r2 : List Cond := [Cond.selects RJx4a65c yJx4a65c_size_8abf5 yJx4a65c_size_8abf5, Cond.initialized RJx4a65c, Cond.code yJx4a65c_size_8abf5 cJx4a65c_size_8abf5 1 (some .int), Cond.fieldLink RJx4a65c 48 "java/util/ArrayList" "size" "I", Cond.methodLink RX3 183 yX3_needVersion, Cond.instanceMethod yX3_needVersion, Cond.selects RX3 yX3_needVersion yX3_needVersion, Cond.code yX3_needVersion cX3_needVersion 4 (some (.object "MapRevisions$Version")), Cond.classLink RX3 111 "MapRevisions$Thing", Cond.fieldLink RX3 138 "MapRevisions$Thing" "last" "LMapRevisions$Version;", Cond.fieldLink RX3 142 "MapRevisions$Version" "number" "I", Cond.fieldLink RX3 242 "MapRevisions$Version" "before" "LMapRevisions$Version;", Cond.methodLink RX3 107 yJx4a65c_get_915e3, Cond.instanceMethod yJx4a65c_get_915e3, Cond.selects RJx4a65c yJx4a65c_get_915e3 yJx4a65c_get_915e3, Cond.code yJx4a65c_get_915e3 cJx4a65c_get_915e3 2 (some (.object "java/lang/Object")), Cond.methodLink RJx4a65c 118 yJ15_checkIndex_7cf53, Cond.static yJ15_checkIndex_7cf53, Cond.initialized RJ15, Cond.code yJ15_checkIndex_7cf53 cJ15_checkIndex_7cf53 2 (some .int), Cond.methodLink RJ15 105 yJ3_checkIndex_8e157, Cond.static yJ3_checkIndex_8e157, Cond.initialized RJ3, Cond.code yJ3_checkIndex_8e157 cJ3_checkIndex_8e157 3 (some .int)]
def wsL_setOf_r3 : List Cond := [Cond.methodLink RJx4a65c 123 yJx4a65c_elementData_915e3, Cond.instanceMethod yJx4a65c_elementData_915e3, Cond.selects RJx4a65c yJx4a65c_elementData_915e3 yJx4a65c_elementData_915e3, Cond.code yJx4a65c_elementData_915e3 cJx4a65c_elementData_915e3 2 (some (.object "java/lang/Object")), Cond.fieldLink RJx4a65c 9 "java/util/ArrayList" "elementData" "[Ljava/lang/Object;"]
def wsL_setOf : List Cond := .codeWith yL_setOf cL_setOf 5 (some .int) [(0, 10, 13, 19), (0, 10, 17, 57)] :: ((wsL_setOf_r1 ++ (wsL_setOf_r2 ++ wsL_setOf_r3)) ++ wsX20 ++ wsX30 ++ wsJx4a65c0 ++ wsX10 ++ (vx_atS RX3 162 "java/util/NoSuchElementException" ["java/lang/RuntimeException", "java/lang/Exception"]).filter goodWord ++ (vx_atS RX3 236 "java/lang/IndexOutOfBoundsException" ["java/lang/RuntimeException", "java/lang/Exception"]).filter goodWord)
def wsL_versionAt_r1 : List Cond := [Cond.classLink RL 19 "java/lang/IndexOutOfBoundsException", Cond.classLink RL 28 "java/lang/IllegalArgumentException", Cond.methodLink RL 71 yX3_versionAt, Cond.instanceMethod yX3_versionAt, Cond.selects RX3 yX3_versionAt yX3_versionAt, Cond.initialized RX3, Cond.code yX3_versionAt cX3_versionAt 3 (some .int), Cond.classLink RX3 91 "java/lang/IllegalArgumentException", Cond.initialized "java/lang/IllegalArgumentException", Cond.fieldLink RX3 49 "MapRevisions" "now" "I", Cond.methodLink RX3 68 yX3_needThing, Cond.instanceMethod yX3_needThing, Cond.selects RX3 yX3_needThing yX3_needThing, Cond.code yX3_needThing cX3_needThing 2 none, Cond.classLink RX3 232 "java/lang/IndexOutOfBoundsException", Cond.initialized "java/lang/IndexOutOfBoundsException", Cond.methodLink RX3 237 yX3_isKnown, Cond.instanceMethod yX3_isKnown, Cond.selects RX3 yX3_isKnown yX3_isKnown, Cond.code yX3_isKnown cX3_isKnown 2 (some .boolean), Cond.fieldLink RX3 25 "MapRevisions" "all" "Ljava/util/ArrayList;", Cond.methodLink RX3 126 yJx4a65c_size_8abf5, Cond.instanceMethod yJx4a65c_size_8abf5, Cond.selects RJx4a65c yJx4a65c_size_8abf5 yJx4a65c_size_8abf5]
def wsL_versionAt_r2 : List Cond := [Cond.initialized RJx4a65c, Cond.code yJx4a65c_size_8abf5 cJx4a65c_size_8abf5 1 (some .int), Cond.fieldLink RJx4a65c 48 "java/util/ArrayList" "size" "I", Cond.methodLink RX3 203 yX3_lastMadeBefore, Cond.instanceMethod yX3_lastMadeBefore, Cond.selects RX3 yX3_lastMadeBefore yX3_lastMadeBefore, Cond.code yX3_lastMadeBefore cX3_lastMadeBefore 4 (some .int), Cond.classLink RX3 111 "MapRevisions$Thing", Cond.fieldLink RX3 138 "MapRevisions$Thing" "last" "LMapRevisions$Version;", Cond.fieldLink RX3 229 "MapRevisions$Version" "minute" "I", Cond.fieldLink RX3 242 "MapRevisions$Version" "before" "LMapRevisions$Version;", Cond.fieldLink RX3 142 "MapRevisions$Version" "number" "I", Cond.methodLink RX3 107 yJx4a65c_get_915e3, Cond.instanceMethod yJx4a65c_get_915e3, Cond.selects RJx4a65c yJx4a65c_get_915e3 yJx4a65c_get_915e3, Cond.code yJx4a65c_get_915e3 cJx4a65c_get_915e3 2 (some (.object "java/lang/Object")), Cond.methodLink RJx4a65c 118 yJ15_checkIndex_7cf53, Cond.static yJ15_checkIndex_7cf53, Cond.initialized RJ15, Cond.code yJ15_checkIndex_7cf53 cJ15_checkIndex_7cf53 2 (some .int), Cond.methodLink RJ15 105 yJ3_checkIndex_8e157, Cond.static yJ3_checkIndex_8e157, Cond.initialized RJ3, Cond.code yJ3_checkIndex_8e157 cJ3_checkIndex_8e157 3 (some .int)]
def wsL_versionAt_r3 : List Cond := [Cond.methodLink RJx4a65c 123 yJx4a65c_elementData_915e3, Cond.instanceMethod yJx4a65c_elementData_915e3, Cond.selects RJx4a65c yJx4a65c_elementData_915e3 yJx4a65c_elementData_915e3, Cond.code yJx4a65c_elementData_915e3 cJx4a65c_elementData_915e3 2 (some (.object "java/lang/Object")), Cond.fieldLink RJx4a65c 9 "java/util/ArrayList" "elementData" "[Ljava/lang/Object;"]
def wsL_versionAt : List Cond := .codeWith yL_versionAt cL_versionAt 5 (some .int) [(0, 10, 13, 19), (0, 10, 17, 28)] :: ((wsL_versionAt_r1 ++ (wsL_versionAt_r2 ++ wsL_versionAt_r3)) ++ wsX30 ++ wsJx4a65c0 ++ wsX10 ++ wsX20 ++ (vx_atS RX3 95 "java/lang/IllegalArgumentException" ["java/lang/RuntimeException", "java/lang/Exception"]).filter goodWord ++ (vx_atS RX3 236 "java/lang/IndexOutOfBoundsException" ["java/lang/RuntimeException", "java/lang/Exception"]).filter goodWord)
def wsL_inBox_r1 : List Cond := [Cond.classLink RL 28 "java/lang/IllegalArgumentException", Cond.methodLink RL 74 yX3_inBox, Cond.instanceMethod yX3_inBox, Cond.selects RX3 yX3_inBox yX3_inBox, Cond.initialized RX3, Cond.code yX3_inBox cX3_inBox 14 (some .int), Cond.classLink RX3 91 "java/lang/IllegalArgumentException", Cond.initialized "java/lang/IllegalArgumentException", Cond.methodLink RX3 73 yX3_needPlace, Cond.instanceMethod yX3_needPlace, Cond.selects RX3 yX3_needPlace yX3_needPlace, Cond.code yX3_needPlace cX3_needPlace 3 none, Cond.methodLink RX3 209 yX3_pointsWithin, Cond.instanceMethod yX3_pointsWithin, Cond.selects RX3 yX3_pointsWithin yX3_pointsWithin, Cond.code yX3_pointsWithin cX3_pointsWithin 9 (some .long), Cond.fieldLink RX3 25 "MapRevisions" "all" "Ljava/util/ArrayList;", Cond.classLink RX3 111 "MapRevisions$Thing", Cond.fieldLink RX3 138 "MapRevisions$Thing" "last" "LMapRevisions$Version;", Cond.fieldLink RX3 151 "MapRevisions$Version" "content" "LMapRevisions$Content;", Cond.fieldLink RX3 113 "MapRevisions$Thing" "kind" "I", Cond.fieldLink RX3 154 "MapRevisions$Content" "there" "Z", Cond.fieldLink RX3 163 "MapRevisions$Content" "x" "I", Cond.fieldLink RX3 166 "MapRevisions$Content" "y" "I"]
def wsL_inBox_r2 : List Cond := [Cond.methodLink RX3 126 yJx4a65c_size_8abf5, Cond.instanceMethod yJx4a65c_size_8abf5, Cond.selects RJx4a65c yJx4a65c_size_8abf5 yJx4a65c_size_8abf5, Cond.initialized RJx4a65c, Cond.code yJx4a65c_size_8abf5 cJx4a65c_size_8abf5 1 (some .int), Cond.fieldLink RJx4a65c 48 "java/util/ArrayList" "size" "I", Cond.methodLink RX3 107 yJx4a65c_get_915e3, Cond.instanceMethod yJx4a65c_get_915e3, Cond.selects RJx4a65c yJx4a65c_get_915e3 yJx4a65c_get_915e3, Cond.code yJx4a65c_get_915e3 cJx4a65c_get_915e3 2 (some (.object "java/lang/Object")), Cond.methodLink RJx4a65c 118 yJ15_checkIndex_7cf53, Cond.static yJ15_checkIndex_7cf53, Cond.initialized RJ15, Cond.code yJ15_checkIndex_7cf53 cJ15_checkIndex_7cf53 2 (some .int), Cond.methodLink RJ15 105 yJ3_checkIndex_8e157, Cond.static yJ3_checkIndex_8e157, Cond.initialized RJ3, Cond.code yJ3_checkIndex_8e157 cJ3_checkIndex_8e157 3 (some .int), Cond.methodLink RJx4a65c 123 yJx4a65c_elementData_915e3, Cond.instanceMethod yJx4a65c_elementData_915e3, Cond.selects RJx4a65c yJx4a65c_elementData_915e3 yJx4a65c_elementData_915e3, Cond.code yJx4a65c_elementData_915e3 cJx4a65c_elementData_915e3 2 (some (.object "java/lang/Object")), Cond.fieldLink RJx4a65c 9 "java/util/ArrayList" "elementData" "[Ljava/lang/Object;", Cond.methodLink RX3 169 yX3_bit]
def wsL_inBox_r3 : List Cond := [Cond.static yX3_bit, Cond.code yX3_bit cX3_bit 1 (some .long), Cond.methodLink RX3 173 yX3_usersOf, Cond.instanceMethod yX3_usersOf, Cond.selects RX3 yX3_usersOf yX3_usersOf, Cond.code yX3_usersOf cX3_usersOf 6 (some .long), Cond.fieldLink RX3 100 "MapRevisions$Content" "members" "[I", Cond.methodLink RX3 287 yX3_bitsOf, Cond.static yX3_bitsOf, Cond.code yX3_bitsOf cX3_bitsOf 7 (some .long), Cond.methodLink RX3 213 yX3_thingsOf, Cond.instanceMethod yX3_thingsOf, Cond.selects RX3 yX3_thingsOf yX3_thingsOf, Cond.code yX3_thingsOf cX3_thingsOf 5 (some .long), Cond.methodLink RX3 216 yX3_membersOf, Cond.instanceMethod yX3_membersOf, Cond.selects RX3 yX3_membersOf yX3_membersOf, Cond.code yX3_membersOf cX3_membersOf 6 (some .long), Cond.methodLink RX3 291 yX3_has, Cond.static yX3_has, Cond.code yX3_has cX3_has 3 (some .boolean), Cond.methodLink RX3 177 yJ13_bitCount_95d88, Cond.static yJ13_bitCount_95d88, Cond.initialized RJ13]
def wsL_inBox_r4 : List Cond := [Cond.code yJ13_bitCount_95d88 cJ13_bitCount_95d88 2 (some .int), Cond.constantLong RJ13 314 (6148914691236517205), Cond.constantLong RJ13 316 (3689348814741910323), Cond.constantLong RJ13 318 (1085102592571150095)]
def wsL_inBox : List Cond := .codeWith yL_inBox cL_inBox 8 (some .int) [(0, 16, 19, 28)] :: ((wsL_inBox_r1 ++ (wsL_inBox_r2 ++ (wsL_inBox_r3 ++ wsL_inBox_r4))) ++ wsX30 ++ wsX10 ++ wsX20 ++ wsX00 ++ wsJx4a65c0 ++ (vx_atS RX3 95 "java/lang/IllegalArgumentException" ["java/lang/RuntimeException", "java/lang/Exception"]).filter goodWord)
def wsL_pass : List Cond := .codeWith yL_pass cL_pass 4 (some .int) [(0, 9, 12, 28), (0, 9, 15, 13)] :: ([.classLink RL 28 "java/lang/IllegalArgumentException", .classLink RL 13 "java/lang/IllegalStateException", .methodLink RL 77 yX3_pass, .instanceMethod yX3_pass, .selects RX3 yX3_pass yX3_pass, .initialized RX3, .code yX3_pass cX3_pass 2 (some .int), .classLink RX3 55 "java/lang/IllegalStateException", .initialized "java/lang/IllegalStateException", .fieldLink RX3 49 "MapRevisions" "now" "I", .methodLink RX3 219 yX3_needMinutes, .instanceMethod yX3_needMinutes, .selects RX3 yX3_needMinutes yX3_needMinutes, .code yX3_needMinutes cX3_needMinutes 2 none, .classLink RX3 91 "java/lang/IllegalArgumentException", .initialized "java/lang/IllegalArgumentException"] ++ wsX30 ++ (vx_atS RX3 59 "java/lang/IllegalStateException" ["java/lang/RuntimeException", "java/lang/Exception"]).filter goodWord ++ (vx_atS RX3 95 "java/lang/IllegalArgumentException" ["java/lang/RuntimeException", "java/lang/Exception"]).filter goodWord)
def wsL_take_r1 : List Cond := [Cond.classLink RL 28 "java/lang/IllegalArgumentException", Cond.methodLink RL 80 yX3_take, Cond.instanceMethod yX3_take, Cond.selects RX3 yX3_take yX3_take, Cond.initialized RX3, Cond.code yX3_take cX3_take 5 (some .int), Cond.fieldLink RX3 52 "MapRevisions" "copyMinute" "I", Cond.fieldLink RX3 49 "MapRevisions" "now" "I", Cond.methodLink RX3 224 Lib.Math.min.name, Cond.static Lib.Math.min.name, Cond.initialized "java/lang/Math", Cond.code Lib.Math.min.name Lib.Math.min.code 2 (some .int), Cond.fieldLink RX3 25 "MapRevisions" "all" "Ljava/util/ArrayList;", Cond.methodLink RX3 219 yX3_needMinutes, Cond.instanceMethod yX3_needMinutes, Cond.selects RX3 yX3_needMinutes yX3_needMinutes, Cond.code yX3_needMinutes cX3_needMinutes 2 none, Cond.classLink RX3 91 "java/lang/IllegalArgumentException", Cond.initialized "java/lang/IllegalArgumentException", Cond.methodLink RX3 126 yJx4a65c_size_8abf5, Cond.instanceMethod yJx4a65c_size_8abf5, Cond.selects RJx4a65c yJx4a65c_size_8abf5 yJx4a65c_size_8abf5, Cond.initialized RJx4a65c, Cond.code yJx4a65c_size_8abf5 cJx4a65c_size_8abf5 1 (some .int)]
def wsL_take_r2 : List Cond := [Cond.fieldLink RJx4a65c 48 "java/util/ArrayList" "size" "I", Cond.methodLink RX3 203 yX3_lastMadeBefore, Cond.instanceMethod yX3_lastMadeBefore, Cond.selects RX3 yX3_lastMadeBefore yX3_lastMadeBefore, Cond.code yX3_lastMadeBefore cX3_lastMadeBefore 4 (some .int), Cond.classLink RX3 111 "MapRevisions$Thing", Cond.fieldLink RX3 138 "MapRevisions$Thing" "last" "LMapRevisions$Version;", Cond.fieldLink RX3 229 "MapRevisions$Version" "minute" "I", Cond.fieldLink RX3 242 "MapRevisions$Version" "before" "LMapRevisions$Version;", Cond.fieldLink RX3 142 "MapRevisions$Version" "number" "I", Cond.methodLink RX3 107 yJx4a65c_get_915e3, Cond.instanceMethod yJx4a65c_get_915e3, Cond.selects RJx4a65c yJx4a65c_get_915e3 yJx4a65c_get_915e3, Cond.code yJx4a65c_get_915e3 cJx4a65c_get_915e3 2 (some (.object "java/lang/Object")), Cond.methodLink RJx4a65c 118 yJ15_checkIndex_7cf53, Cond.static yJ15_checkIndex_7cf53, Cond.initialized RJ15, Cond.code yJ15_checkIndex_7cf53 cJ15_checkIndex_7cf53 2 (some .int), Cond.methodLink RJ15 105 yJ3_checkIndex_8e157, Cond.static yJ3_checkIndex_8e157, Cond.initialized RJ3, Cond.code yJ3_checkIndex_8e157 cJ3_checkIndex_8e157 3 (some .int), Cond.methodLink RJx4a65c 123 yJx4a65c_elementData_915e3, Cond.instanceMethod yJx4a65c_elementData_915e3]
def wsL_take_r3 : List Cond := [Cond.selects RJx4a65c yJx4a65c_elementData_915e3 yJx4a65c_elementData_915e3, Cond.code yJx4a65c_elementData_915e3 cJx4a65c_elementData_915e3 2 (some (.object "java/lang/Object")), Cond.fieldLink RJx4a65c 9 "java/util/ArrayList" "elementData" "[Ljava/lang/Object;"]
def wsL_take : List Cond := .codeWith yL_take cL_take 4 (some .int) [(0, 9, 12, 28)] :: ((wsL_take_r1 ++ (wsL_take_r2 ++ wsL_take_r3)) ++ wsX30 ++ wsJx4a65c0 ++ wsX10 ++ wsX20 ++ (vx_atS RX3 95 "java/lang/IllegalArgumentException" ["java/lang/RuntimeException", "java/lang/Exception"]).filter goodWord)
def wsL_inCopy_r1 : List Cond := [Cond.classLink RL 19 "java/lang/IndexOutOfBoundsException", Cond.methodLink RL 83 yX3_inCopy, Cond.instanceMethod yX3_inCopy, Cond.selects RX3 yX3_inCopy yX3_inCopy, Cond.initialized RX3, Cond.code yX3_inCopy cX3_inCopy 2 (some .int), Cond.fieldLink RX3 52 "MapRevisions" "copyMinute" "I", Cond.methodLink RX3 68 yX3_needThing, Cond.instanceMethod yX3_needThing, Cond.selects RX3 yX3_needThing yX3_needThing, Cond.code yX3_needThing cX3_needThing 2 none, Cond.classLink RX3 232 "java/lang/IndexOutOfBoundsException", Cond.initialized "java/lang/IndexOutOfBoundsException", Cond.methodLink RX3 237 yX3_isKnown, Cond.instanceMethod yX3_isKnown, Cond.selects RX3 yX3_isKnown yX3_isKnown, Cond.code yX3_isKnown cX3_isKnown 2 (some .boolean), Cond.fieldLink RX3 25 "MapRevisions" "all" "Ljava/util/ArrayList;", Cond.methodLink RX3 126 yJx4a65c_size_8abf5, Cond.instanceMethod yJx4a65c_size_8abf5, Cond.selects RJx4a65c yJx4a65c_size_8abf5 yJx4a65c_size_8abf5, Cond.initialized RJx4a65c, Cond.code yJx4a65c_size_8abf5 cJx4a65c_size_8abf5 1 (some .int), Cond.fieldLink RJx4a65c 48 "java/util/ArrayList" "size" "I"]
def wsL_inCopy_r2 : List Cond := [Cond.methodLink RX3 203 yX3_lastMadeBefore, Cond.instanceMethod yX3_lastMadeBefore, Cond.selects RX3 yX3_lastMadeBefore yX3_lastMadeBefore, Cond.code yX3_lastMadeBefore cX3_lastMadeBefore 4 (some .int), Cond.classLink RX3 111 "MapRevisions$Thing", Cond.fieldLink RX3 138 "MapRevisions$Thing" "last" "LMapRevisions$Version;", Cond.fieldLink RX3 229 "MapRevisions$Version" "minute" "I", Cond.fieldLink RX3 242 "MapRevisions$Version" "before" "LMapRevisions$Version;", Cond.fieldLink RX3 142 "MapRevisions$Version" "number" "I", Cond.methodLink RX3 107 yJx4a65c_get_915e3, Cond.instanceMethod yJx4a65c_get_915e3, Cond.selects RJx4a65c yJx4a65c_get_915e3 yJx4a65c_get_915e3, Cond.code yJx4a65c_get_915e3 cJx4a65c_get_915e3 2 (some (.object "java/lang/Object")), Cond.methodLink RJx4a65c 118 yJ15_checkIndex_7cf53, Cond.static yJ15_checkIndex_7cf53, Cond.initialized RJ15, Cond.code yJ15_checkIndex_7cf53 cJ15_checkIndex_7cf53 2 (some .int), Cond.methodLink RJ15 105 yJ3_checkIndex_8e157, Cond.static yJ3_checkIndex_8e157, Cond.initialized RJ3, Cond.code yJ3_checkIndex_8e157 cJ3_checkIndex_8e157 3 (some .int), Cond.methodLink RJx4a65c 123 yJx4a65c_elementData_915e3, Cond.instanceMethod yJx4a65c_elementData_915e3, Cond.selects RJx4a65c yJx4a65c_elementData_915e3 yJx4a65c_elementData_915e3]
def wsL_inCopy_r3 : List Cond := [Cond.code yJx4a65c_elementData_915e3 cJx4a65c_elementData_915e3 2 (some (.object "java/lang/Object")), Cond.fieldLink RJx4a65c 9 "java/util/ArrayList" "elementData" "[Ljava/lang/Object;"]
def wsL_inCopy : List Cond := .codeWith yL_inCopy cL_inCopy 4 (some .int) [(0, 9, 12, 19)] :: ((wsL_inCopy_r1 ++ (wsL_inCopy_r2 ++ wsL_inCopy_r3)) ++ wsX30 ++ wsJx4a65c0 ++ wsX10 ++ wsX20 ++ (vx_atS RX3 236 "java/lang/IndexOutOfBoundsException" ["java/lang/RuntimeException", "java/lang/Exception"]).filter goodWord)
theorem inX0 : ∀ w ∈ wsX00, w ∈ lw_tbl := by decide +kernel
theorem inX1 : ∀ w ∈ wsX10, w ∈ lw_tbl := by decide +kernel
theorem inX2 : ∀ w ∈ wsX20, w ∈ lw_tbl := by decide +kernel
theorem inX3 : ∀ w ∈ wsX30, w ∈ lw_tbl := by decide +kernel
theorem inX4 : ∀ w ∈ wsX40, w ∈ lw_tbl := by decide +kernel
theorem inJx145de : ∀ w ∈ wsJx145de0, w ∈ lw_tbl := by decide +kernel
theorem inJx8e188 : ∀ w ∈ wsJx8e1880, w ∈ lw_tbl := by decide +kernel
theorem inJxab1ab : ∀ w ∈ wsJxab1ab0, w ∈ lw_tbl := by decide +kernel
theorem inJ13 : ∀ w ∈ wsJ130, w ∈ lw_tbl := by decide +kernel
theorem inJ9 : ∀ w ∈ wsJ90, w ∈ lw_tbl := by decide +kernel
theorem inJ0 : ∀ w ∈ wsJ00, w ∈ lw_tbl := by decide +kernel
theorem inJ10 : ∀ w ∈ wsJ100, w ∈ lw_tbl := by decide +kernel
theorem inJxa1e45 : ∀ w ∈ wsJxa1e450, w ∈ lw_tbl := by decide +kernel
theorem inJxc12de : ∀ w ∈ wsJxc12de0, w ∈ lw_tbl := by decide +kernel
theorem inJx4a65c : ∀ w ∈ wsJx4a65c0, w ∈ lw_tbl := by decide +kernel
theorem inJ7 : ∀ w ∈ wsJ70, w ∈ lw_tbl := by decide +kernel
theorem inJx5ef63 : ∀ w ∈ wsJx5ef630, w ∈ lw_tbl := by decide +kernel
theorem inJxbd725 : ∀ w ∈ wsJxbd7250, w ∈ lw_tbl := by decide +kernel
theorem inJ15 : ∀ w ∈ wsJ150, w ∈ lw_tbl := by decide +kernel
theorem inJxf0a74 : ∀ w ∈ wsJxf0a740, w ∈ lw_tbl := by decide +kernel
theorem inJxa66e6 : ∀ w ∈ wsJxa66e60, w ∈ lw_tbl := by decide +kernel
theorem inJ8 : ∀ w ∈ wsJ80, w ∈ lw_tbl := by decide +kernel
theorem inJ3 : ∀ w ∈ wsJ30, w ∈ lw_tbl := by decide +kernel
abbrev vwCl : List vw_C := [(RJx4a65c, TJx4a65c, 3), (RX0, TX0, 4), (RX1, TX1, 2), (RX2, TX2, 6), (RX3, TX3, 11), (RX4, TX4, 26)]
end
end
section
/-! The J layer: one context X, one pure heap h (address to cell), locals as a list; a contract says what a method answers and which heap it leaves. -/
abbrev jG : Type := Nat × va_G × (ClassId × ClassId × ClassId × ClassId) × Nat × Nat × (Nat → Nat)
def jA (G : jG) : Nat → Prop := fun q => G.1 ≤ q
def jT (G : jG) : List (ClassId × FieldType) := [(G.2.2.1.1, .int), (G.2.2.1.2.1, .boolean), (G.2.2.1.2.2.1, .object "java/lang/Object"), (G.2.2.1.2.2.2, .long)]
abbrev jH : Type := Nat → Option va_E
def jup (h : jH) (a : Nat) (e : va_E) : jH := fun b => if b = a then some e else h b
theorem jup_self (h : jH) (a : Nat) (e : va_E) : jup h a e a = some e := by simp [jup]
theorem jup_ne {h : jH} {a b : Nat} {e : va_E} (n : b ≠ a) : jup h a e b = h b := by simp [jup, n]
def jR (G : jG) (h : jH) (H : Heap) : Prop := ∀ (a : Nat) (e : va_E), h a = some e → va_at G.2.1 vwCl (a, e) H ∧ G.1 ≤ a
def jStr : List (Nat × String) := [(116, "the thing is no point"), (122, "the thing is a point"), (124, "the set to undo is open"), (160, "the thing is no point, or is gone"), (190, "the version is the latest one, or hidden"), (196, "the version is hidden"), (201, "the minute is out of range"), (207, "the box or the kind is out of range"), (222, "it would be later than minute 5000"), (234, "there is no such set"), (240, "there is no such thing"), (245, "there is no such version"), (247, "x or y is out of range"), (249, "the minutes are out of range"), (251, "there is no room for versions"), (253, "there are 40 things"), (57, "there are 20 sets"), (66, "the set is closed"), (71, "the draft has 6 things"), (93, "the kind is neither WAY nor RELATION")]
def jS (G : jG) (U : State) (H : Heap) : Prop :=
  va_K G.2.1 vwCl (jT G) U ∧ vx_Zq Bundle.tN "UNASSIGNED_STACK" Bundle.steD (jA G) U H ∧ vx_Zq Bundle.tN "SUPPRESSED_SENTINEL" Bundle.listD (jA G) U H ∧
  va_Z "java/util/ArrayList" "DEFAULTCAPACITY_EMPTY_ELEMENTDATA" "[Ljava/lang/Object;" (.ref G.2.2.2.1) (jA G) U H ∧ va_T (.object "java/lang/Object") G.2.2.2.1 0 (fun _ => .null) (jA G) U H ∧
  va_AO "java/lang/Object" U ∧ va_Mi "[Ljava/lang/Object;" G.2.2.2.2.1 U ∧ va_Dc U ∧ ∀ (k : Nat) (t : String), (k, t) ∈ jStr → vk_R RX3 k t (G.2.2.2.2.2 k) U
theorem jS.move {G : jG} {s U : State} {H0 H : Heap} (hW : s.WarmedH U.vm) (hq : ∀ q : Nat, q < H0.size → ¬ jA G q → H[q]? = H0[q]?) (h : jS G s H0) : jS G U H := by
  obtain ⟨h1, h2, h3, h4, h5, h6, h7, h8, h9⟩ := h
  have ha := hW.alike
  exact ⟨va_K.moved ha h1, (vx_Zq.moved ha h2).kept hq, (vx_Zq.moved ha h3).kept hq, (va_Z.moved ha h4).kept hq, (va_T.moved ha h5).kept hq, va_AO.moved ha h6, va_Mi.moved ha h7, va_Dc.moved ha h8, fun k t hk => vk_R.warm hW (h9 k t hk)⟩
theorem jS.frame {G : jG} {U V : State} {H : Heap} (hv : V.vm = U.vm) (h : jS G U H) : jS G V H := by
  obtain ⟨h1, h2, h3, h4, h5, h6, h7, h8, h9⟩ := h
  have ha : U.vm.Alike V.vm := by rw [hv]; exact Vm.Alike.refl U.vm
  exact ⟨va_K.moved ha h1, vx_Zq.moved ha h2, vx_Zq.moved ha h3, va_Z.moved ha h4, va_T.moved ha h5, va_AO.moved ha h6, va_Mi.moved ha h7, va_Dc.moved ha h8, fun k t hk => vk_R.same hv (h9 k t hk)⟩
def jPc (G : jG) (av : List Value) (h : jH) : Array Value → State → Prop := va_Pc av (fun U => G.1 ≤ U.heap.size ∧ jR G h U.heap ∧ jS G U U.heap)
def jQc (G : jG) (ok : Option Value → jH → Prop) : Array Value → State → Outcome → State → Prop := fun _ st oc t => (∃ (r : Option Value) (h' : jH), oc = .returned r ∧ ok r h' ∧ jR G h' t.heap) ∧ va_F (jA G) st t
def jXC (G : jG) (ex : String → jH → Prop) : String → State → State → Prop := fun E st t => (∃ h' : jH, ex E h' ∧ jR G h' t.heap) ∧ va_F (jA G) st t
/-- a contract: y, called on av over the heap h, returns with ok, or throws with ex -/
def jM (l : Launch) (G : jG) (y : MethodName) (ws : List Cond) (f lo mc ms : Nat) (av : List Value) (h : jH) (ok : Option Value → jH → Prop) (ex : String → jH → Prop) : Prop :=
  vx_Met l y ws { frames := f, cells := mc, slots := ms, locals := lo } (jPc G av h) (jQc G ok) (jXC G ex) mc ms (jA G)
theorem jPc.blind (G : jG) (av : List Value) (h : jH) : FrameBlind (jPc G av h) := fun a U g mk q => ⟨q.1, q.2.1, q.2.2.1, jS.frame (U := U) rfl q.2.2.2⟩
abbrev jX : Type := Program × Launch × Env × Room × State × MethodId × Array Value × List Frame × Method × Code × (State → Prop)
def jW (X : jX) (G : jG) (nL k n pc : Nat) (l : List (Nat × Value)) (st : List Value) (h : jH) : Prop :=
  ∀ (H : Heap) (locs : List Loc) (ls : Array Slot), jR G h H → va_S (jA G) X.2.2.2.2.1.heap H locs → lv_has ls nL l →
    W X.1 X.2.1 X.2.2.1 X.2.2.2.1 X.2.2.2.2.1 X.2.2.2.2.2.1 X.2.2.2.2.2.2.1 X.2.2.2.2.2.2.2.1 X.2.2.2.2.2.2.2.2.1 X.2.2.2.2.2.2.2.2.2.1 H locs k n X.2.2.2.2.2.2.2.2.2.2 (F0 X.2.2.2.2.2.1 pc ls st)
/-- a throw arrives: an object of E lies at some cell -/
def jXW (X : jX) (G : jG) (nL k n pc : Nat) (l : List (Nat × Value)) (h : jH) (E : String) : Prop :=
  ∀ (H : Heap) (locs : List Loc) (ls : Array Slot) (rest : List Value) (q : Addr) (ce : Cell), jR G h H → va_S (jA G) X.2.2.2.2.1.heap H locs → lv_has ls nL l → H[q]? = some ce → ce.vm = .none → X.2.2.2.2.1.vm.findClass E = some ce.cls →
    vx_W X.1 X.2.1 X.2.2.1 X.2.2.2.1 X.2.2.2.2.1 X.2.2.2.2.2.1 X.2.2.2.2.2.2.1 X.2.2.2.2.2.2.2.1 X.2.2.2.2.2.2.2.2.1 X.2.2.2.2.2.2.2.2.2.1 H locs k n X.2.2.2.2.2.2.2.2.2.2 (F0 X.2.2.2.2.2.1 pc ls rest) q
/-- what holds of a body's context -/
def jC (X : jX) (G : jG) (cc : ByteArray) (nL : Nat) (Ts : List Cond) (own : String) : Prop :=
  X.1.tables.exec = Jvm.exec ∧ X.2.2.2.2.2.2.2.2.2.1.code = cc ∧ X.2.2.2.2.2.2.2.2.2.1.maxLocals = nL ∧ X.2.2.2.2.1.vm.findClass own = some X.2.2.2.2.2.1.cls ∧ (∀ w ∈ Ts, w.before X.2.2.2.2.2.2.1 X.2.2.2.2.1 = true) ∧
  X.2.2.2.2.2.2.2.2.1.locks = false ∧ G.1 ≤ X.2.2.2.2.1.heap.size ∧ jS G X.2.2.2.2.1 X.2.2.2.2.1.heap ∧ X.2.1.stackTraces = false
/-- .. and of one that returns by contract, without handlers -/
def jE (X : jX) (G : jG) (ok : Option Value → jH → Prop) (ex : String → jH → Prop) (mc ms : Nat) (ret : Option FieldType) : Prop :=
  X.2.2.2.2.2.2.2.2.2.2 = vx_MQ X.2.2.2.2.2.2.2.1 (jQc G ok) (jXC G ex) X.2.2.2.2.2.2.1 X.2.2.2.2.1 mc ms (jA G) ∧ X.2.2.2.2.2.2.2.2.1.sig.returnType = ret ∧ X.2.2.2.1.cells = mc ∧ X.2.2.2.1.slots = ms ∧ (∀ x ∈ X.2.2.2.2.2.2.2.2.2.1.exceptionTable.toList, False)
section JAY
variable {X : jX} {G : jG} {cc : ByteArray} {nL : Nat} {Ts : List Cond} {own : String} {pc pc' k n : Nat} {l : List (Nat × Value)} {st : List Value} {h : jH}
theorem jC.K (C : jC X G cc nL Ts own) : va_K G.2.1 vwCl (jT G) X.2.2.2.2.1 := C.2.2.2.2.2.2.2.1.1
theorem jC.A (C : jC X G cc nL Ts own) : ∀ q : Nat, X.2.2.2.2.1.heap.size ≤ q → jA G q := fun q hq => Nat.le_trans C.2.2.2.2.2.2.1 hq
theorem jW.widen {k' n' : Nat} (h1 : k ≤ k') (h2 : n ≤ n') (kk : jW X G nL k' n' pc l st h) : jW X G nL k n pc l st h := fun H locs ls hR hS hl => W.widen h1 h2 (kk H locs ls hR hS hl)
theorem jW.locals {l' : List (Nat × Value)} (ks : List Nat) (hp : lv_pick l ks = l') (kk : jW X G nL k n pc l' st h) : jW X G nL k n pc l st h := fun H locs ls hR hS hl => kk H locs ls hR hS (lv_sub hl ks hp)
/-- the list of a heap's cells -/
theorem jR.list {H : Heap} (hR : jR G h H) : ∃ ws : va_W, va_P G.2.1 vwCl ws H ∧ va_D (jA G) ws ∧ (∀ (q : Nat) (e : Nat × va_E), ws[q]? = some e → h e.1 = some e.2) ∧ ∀ (a : Nat) (e : va_E), h a = some e → ∃ q : Nat, ws[q]? = some (a, e) := by
  have hlt : ∀ (a : Nat) (e : va_E), h a = some e → a < H.size := fun a e he => (hR a e he).1.lt
  have key : ∀ N : Nat, ∃ ws : va_W, (∀ (i j : Nat) (p q : Nat × va_E), ws[i]? = some p → ws[j]? = some q → p.1 = q.1 → i = j) ∧ (∀ (q : Nat) (e : Nat × va_E), ws[q]? = some e → h e.1 = some e.2 ∧ e.1 < N) ∧ ∀ (a : Nat) (e : va_E), a < N → h a = some e → ∃ q : Nat, ws[q]? = some (a, e) := by
    intro N
    induction N with
    | zero => exact ⟨[], fun i j p q hp => by simp at hp, fun q e he => by simp at he, fun a e ha => absurd ha (Nat.not_lt_zero a)⟩
    | succ N ih =>
      obtain ⟨ws, h1, h2, h3⟩ := ih
      cases hN : h N with
      | none =>
        refine ⟨ws, h1, fun q e he => ⟨(h2 q e he).1, Nat.lt_succ_of_lt (h2 q e he).2⟩, fun a e ha he => ?_⟩
        rcases Nat.lt_succ_iff_lt_or_eq.mp ha with hl | rfl
        · exact h3 a e hl he
        · rw [hN] at he; cases he
      | some e0 =>
        have cut : ∀ (q : Nat) (e : Nat × va_E), (ws ++ [(N, e0)])[q]? = some e → (q < ws.length ∧ ws[q]? = some e) ∨ (q = ws.length ∧ e = (N, e0)) := by
          intro q e he
          by_cases hq : q < ws.length
          · rw [List.getElem?_append_left hq] at he; exact Or.inl ⟨hq, he⟩
          · rw [List.getElem?_append_right (by omega)] at he
            have hz : q - ws.length < 1 := (List.getElem?_eq_some_iff.mp he).1
            have hq0 : q = ws.length := by omega
            subst hq0
            rw [Nat.sub_self] at he
            cases he
            exact Or.inr ⟨rfl, rfl⟩
        refine ⟨ws ++ [(N, e0)], fun i j p q hp hq hpq => ?_, fun q e he => ?_, fun a e ha he => ?_⟩
        · rcases cut i p hp with ⟨a1, a2⟩ | ⟨a1, a2⟩ <;> rcases cut j q hq with ⟨b1, b2⟩ | ⟨b1, b2⟩
          · exact h1 i j p q a2 b2 hpq
          · have := (h2 i p a2).2; rw [hpq, b2] at this; exact absurd this (Nat.lt_irrefl _)
          · have := (h2 j q b2).2; rw [← hpq, a2] at this; exact absurd this (Nat.lt_irrefl _)
          · omega
        · rcases cut q e he with ⟨-, a2⟩ | ⟨-, a2⟩
          · exact ⟨(h2 q e a2).1, Nat.lt_succ_of_lt (h2 q e a2).2⟩
          · rw [a2]; exact ⟨hN, Nat.lt_succ_self N⟩
        · rcases Nat.lt_succ_iff_lt_or_eq.mp ha with hl | rfl
          · obtain ⟨q, hq⟩ := h3 a e hl he
            have hql : q < ws.length := (List.getElem?_eq_some_iff.mp hq).1
            exact ⟨q, by rw [List.getElem?_append_left hql]; exact hq⟩
          · rw [hN] at he; cases he
            exact ⟨ws.length, by simp⟩
  obtain ⟨ws, h1, h2, h3⟩ := key H.size
  exact ⟨ws, fun q e he => (hR e.1 e.2 (h2 q e he).1).1, ⟨h1, fun q e he => (hR e.1 e.2 (h2 q e he).1).2⟩, fun q e he => (h2 q e he).1, fun a e he => h3 a e (hlt a e he) he⟩
theorem jR.set {H1 : Heap} {ws : va_W} {q0 a : Nat} {e0 e1 : va_E} (hD : va_D (jA G) ws) (h2 : ∀ (a : Nat) (e : va_E), h a = some e → ∃ q : Nat, ws[q]? = some (a, e)) (h0 : ws[q0]? = some (a, e0)) (hP1 : va_P G.2.1 vwCl (ws.set q0 (a, e1)) H1) (hD1 : va_D (jA G) (ws.set q0 (a, e1))) : jR G (jup h a e1) H1 := by
  have hl := (List.getElem?_eq_some_iff.mp h0).1
  have hs : (ws.set q0 (a, e1))[q0]? = some (a, e1) := by rw [List.getElem?_set_self hl]
  intro b e hb
  by_cases hba : b = a
  · subst hba
    rw [jup_self] at hb
    cases hb
    exact ⟨hP1 q0 _ hs, hD1.2 q0 _ hs⟩
  · rw [jup_ne hba] at hb
    obtain ⟨q, hq⟩ := h2 b e hb
    have hne : q0 ≠ q := by
      rintro rfl
      rw [h0] at hq
      cases hq
      exact hba rfl
    have hq' : (ws.set q0 (a, e1))[q]? = some (b, e) := by rw [List.getElem?_set_ne hne]; exact hq
    exact ⟨hP1 q _ hq', hD1.2 q _ hq'⟩
theorem jR.push {H H1 : Heap} {ws : va_W} {a : Nat} {e1 : va_E} (hR : jR G h H) (h2 : ∀ (a : Nat) (e : va_E), h a = some e → ∃ q : Nat, ws[q]? = some (a, e)) (hP1 : va_P G.2.1 vwCl (ws ++ [(a, e1)]) H1) (hD1 : va_D (jA G) (ws ++ [(a, e1)])) : h a = none ∧ jR G (jup h a e1) H1 := by
  have hs : (ws ++ [(a, e1)])[ws.length]? = some (a, e1) := by simp
  have hn : h a = none := by
    cases hc : h a with
    | none => rfl
    | some e =>
      obtain ⟨q, hq⟩ := h2 a e hc
      have hql : q < ws.length := (List.getElem?_eq_some_iff.mp hq).1
      have := hD1.1 q ws.length (a, e) (a, e1) (by rw [List.getElem?_append_left hql]; exact hq) hs rfl
      omega
  refine ⟨hn, fun b e hb => ?_⟩
  by_cases hba : b = a
  · subst hba
    rw [jup_self] at hb
    cases hb
    exact ⟨hP1 _ _ hs, hD1.2 _ _ hs⟩
  · rw [jup_ne hba] at hb
    obtain ⟨q, hq⟩ := h2 b e hb
    have hql : q < ws.length := (List.getElem?_eq_some_iff.mp hq).1
    have hq' : (ws ++ [(a, e1)])[q]? = some (b, e) := by rw [List.getElem?_append_left hql]; exact hq
    exact ⟨hP1 q _ hq', hD1.2 q _ hq'⟩
theorem j_iconst (C : jC X G cc nL Ts own) {i : Int} {v : Int32} (hv : Int32.ofInt i = v) (hd : decode cc pc = .ok (.iconst i, 1)) (hp : pc + 1 = pc') (kk : jW X G nL k n pc' l (.int v :: st) h) : jW X G nL k n pc l st h := by
  subst hp
  exact fun H locs ls hR hS hl => lv_iconst C.1 C.2.1 hd hv (kk H locs ls hR hS hl)
theorem j_bipush (C : jC X G cc nL Ts own) {i : Int} {v : Int32} (hv : (Int8.ofInt i).toInt32 = v) (hd : decode cc pc = .ok (.bipush i, 2)) (hp : pc + 2 = pc') (kk : jW X G nL k n pc' l (.int v :: st) h) : jW X G nL k n pc l st h := by
  subst hp
  exact fun H locs ls hR hS hl => lv_bipush C.1 C.2.1 hd hv (kk H locs ls hR hS hl)
theorem j_sipush (C : jC X G cc nL Ts own) {i : Int} {v : Int32} (hv : (Int16.ofInt i).toInt32 = v) (hd : decode cc pc = .ok (.sipush i, 3)) (hp : pc + 3 = pc') (kk : jW X G nL k n pc' l (.int v :: st) h) : jW X G nL k n pc l st h := by
  subst hp
  exact fun H locs ls hR hS hl => lv_sipush C.1 C.2.1 hd hv (kk H locs ls hR hS hl)
theorem j_lconst (C : jC X G cc nL Ts own) {i : Fin 2} {v : Int64} (hv : Int64.ofNat (i : Nat) = v) (hd : decode cc pc = .ok (.lconst i, 1)) (hp : pc + 1 = pc') (kk : jW X G nL k n pc' l (.long v :: st) h) : jW X G nL k n pc l st h := by
  subst hp
  exact fun H locs ls hR hS hl => lv_lconst C.1 C.2.1 hd hv (kk H locs ls hR hS hl)
theorem j_iload_n (C : jC X G cc nL Ts own) {i : Fin 4} {x : Int32} (q : Nat) (hq : l[q]? = some ((i : Nat), .int x)) (hd : decode cc pc = .ok (.iload_n i, 1)) (hp : pc + 1 = pc') (kk : jW X G nL k n pc' l (.int x :: st) h) : jW X G nL k n pc l st h := by
  subst hp
  exact fun H locs ls hR hS hl => lv_iload_n C.1 C.2.1 hd rfl (lv_at hl q hq) (kk H locs ls hR hS hl)
theorem j_iload (C : jC X G cc nL Ts own) {i : Nat} {x : Int32} (q : Nat) (hq : l[q]? = some (i, .int x)) (hd : decode cc pc = .ok (.iload i, 2)) (hp : pc + 2 = pc') (kk : jW X G nL k n pc' l (.int x :: st) h) : jW X G nL k n pc l st h := by
  subst hp
  exact fun H locs ls hR hS hl => lv_iload C.1 C.2.1 hd (lv_at hl q hq) (kk H locs ls hR hS hl)
theorem j_lload_n (C : jC X G cc nL Ts own) {i : Fin 4} {x : Int64} (q : Nat) (hq : l[q]? = some ((i : Nat), .long x)) (hd : decode cc pc = .ok (.lload_n i, 1)) (hp : pc + 1 = pc') (kk : jW X G nL k n pc' l (.long x :: st) h) : jW X G nL k n pc l st h := by
  subst hp
  exact fun H locs ls hR hS hl => lv_lload_n C.1 C.2.1 hd rfl (lv_at hl q hq) (kk H locs ls hR hS hl)
theorem j_lload (C : jC X G cc nL Ts own) {i : Nat} {x : Int64} (q : Nat) (hq : l[q]? = some (i, .long x)) (hd : decode cc pc = .ok (.lload i, 2)) (hp : pc + 2 = pc') (kk : jW X G nL k n pc' l (.long x :: st) h) : jW X G nL k n pc l st h := by
  subst hp
  exact fun H locs ls hR hS hl => lv_lload C.1 C.2.1 hd (lv_at hl q hq) (kk H locs ls hR hS hl)
theorem j_aload_n (C : jC X G cc nL Ts own) {i : Fin 4} {x : Nat} (q : Nat) (hq : l[q]? = some ((i : Nat), .ref x)) (hd : decode cc pc = .ok (.aload_n i, 1)) (hp : pc + 1 = pc') (kk : jW X G nL k n pc' l (.ref x :: st) h) : jW X G nL k n pc l st h := by
  subst hp
  exact fun H locs ls hR hS hl => lv_aload_n C.1 C.2.1 hd rfl (lv_at hl q hq) (kk H locs ls hR hS hl)
theorem j_aload (C : jC X G cc nL Ts own) {i : Nat} {x : Nat} (q : Nat) (hq : l[q]? = some (i, .ref x)) (hd : decode cc pc = .ok (.aload i, 2)) (hp : pc + 2 = pc') (kk : jW X G nL k n pc' l (.ref x :: st) h) : jW X G nL k n pc l st h := by
  subst hp
  exact fun H locs ls hR hS hl => lv_aload C.1 C.2.1 hd (lv_at hl q hq) (kk H locs ls hR hS hl)
theorem j_aload_nv (C : jC X G cc nL Ts own) {i : Fin 4} {v : Value} (q : Nat) (hq : l[q]? = some ((i : Nat), v)) (hv : v = .null ∨ ∃ a, v = .ref a) (hd : decode cc pc = .ok (.aload_n i, 1)) (hp : pc + 1 = pc') (kk : jW X G nL k n pc' l (v :: st) h) : jW X G nL k n pc l st h := by
  subst hp
  rcases hv with rfl | ⟨a, rfl⟩
  · exact fun H locs ls hR hS hl => lv_aload_nN C.1 C.2.1 hd rfl (lv_at hl q hq) (kk H locs ls hR hS hl)
  · exact fun H locs ls hR hS hl => lv_aload_n C.1 C.2.1 hd rfl (lv_at hl q hq) (kk H locs ls hR hS hl)
theorem j_aloadv (C : jC X G cc nL Ts own) {i : Nat} {v : Value} (q : Nat) (hq : l[q]? = some (i, v)) (hv : v = .null ∨ ∃ a, v = .ref a) (hd : decode cc pc = .ok (.aload i, 2)) (hp : pc + 2 = pc') (kk : jW X G nL k n pc' l (v :: st) h) : jW X G nL k n pc l st h := by
  subst hp
  rcases hv with rfl | ⟨a, rfl⟩
  · exact fun H locs ls hR hS hl => lv_aloadN C.1 C.2.1 hd (lv_at hl q hq) (kk H locs ls hR hS hl)
  · exact fun H locs ls hR hS hl => lv_aload C.1 C.2.1 hd (lv_at hl q hq) (kk H locs ls hR hS hl)
theorem j_istore_n (C : jC X G cc nL Ts own) {i : Fin 4} {x : Int32} {l' : List (Nat × Value)} (hd : decode cc pc = .ok (.istore_n i, 1)) (hp : pc + 1 = pc') (hn : (i : Nat) < nL) (hl' : ((i : Nat), Value.int x) :: l.filter (fun q => !(q.1 == (i : Nat)) && !(q.1 + 1 == (i : Nat) && q.2.category == 2)) = l') (kk : jW X G nL k n pc' l' st h) : jW X G nL k n pc l (Value.int x :: st) h := by
  subst hp
  exact fun H locs ls hR hS hl => lv_istore_n C.1 C.2.1 hd rfl hl hn hl' (fun ls' hls => kk H locs ls' hR hS hls)
theorem j_istore (C : jC X G cc nL Ts own) {i : Nat} {x : Int32} {l' : List (Nat × Value)} (hd : decode cc pc = .ok (.istore i, 2)) (hp : pc + 2 = pc') (hn : (i : Nat) < nL) (hl' : ((i : Nat), Value.int x) :: l.filter (fun q => !(q.1 == i) && !(q.1 + 1 == i && q.2.category == 2)) = l') (kk : jW X G nL k n pc' l' st h) : jW X G nL k n pc l (Value.int x :: st) h := by
  subst hp
  exact fun H locs ls hR hS hl => lv_istore C.1 C.2.1 hd hl hn hl' (fun ls' hls => kk H locs ls' hR hS hls)
theorem j_lstore_n (C : jC X G cc nL Ts own) {i : Fin 4} {x : Int64} {l' : List (Nat × Value)} (hd : decode cc pc = .ok (.lstore_n i, 1)) (hp : pc + 1 = pc') (hn : (i : Nat) + 1 < nL) (hl' : ((i : Nat), Value.long x) :: l.filter (fun q => !(q.1 == (i : Nat)) && (!(q.1 == (i : Nat) + 1) && !(q.1 + 1 == (i : Nat) && q.2.category == 2))) = l') (kk : jW X G nL k n pc' l' st h) : jW X G nL k n pc l (Value.long x :: st) h := by
  subst hp
  exact fun H locs ls hR hS hl => lv_lstore_n C.1 C.2.1 hd rfl hl hn hl' (fun ls' hls => kk H locs ls' hR hS hls)
theorem j_lstore (C : jC X G cc nL Ts own) {i : Nat} {x : Int64} {l' : List (Nat × Value)} (hd : decode cc pc = .ok (.lstore i, 2)) (hp : pc + 2 = pc') (hn : (i : Nat) + 1 < nL) (hl' : ((i : Nat), Value.long x) :: l.filter (fun q => !(q.1 == i) && (!(q.1 == i + 1) && !(q.1 + 1 == i && q.2.category == 2))) = l') (kk : jW X G nL k n pc' l' st h) : jW X G nL k n pc l (Value.long x :: st) h := by
  subst hp
  exact fun H locs ls hR hS hl => lv_lstore C.1 C.2.1 hd hl hn hl' (fun ls' hls => kk H locs ls' hR hS hls)
theorem j_astore_n (C : jC X G cc nL Ts own) {i : Fin 4} {x : Nat} {l' : List (Nat × Value)} (hd : decode cc pc = .ok (.astore_n i, 1)) (hp : pc + 1 = pc') (hn : (i : Nat) < nL) (hl' : ((i : Nat), Value.ref x) :: l.filter (fun q => !(q.1 == (i : Nat)) && !(q.1 + 1 == (i : Nat) && q.2.category == 2)) = l') (kk : jW X G nL k n pc' l' st h) : jW X G nL k n pc l (Value.ref x :: st) h := by
  subst hp
  exact fun H locs ls hR hS hl => lv_astore_n C.1 C.2.1 hd rfl hl hn hl' (fun ls' hls => kk H locs ls' hR hS hls)
theorem j_astore (C : jC X G cc nL Ts own) {i : Nat} {x : Nat} {l' : List (Nat × Value)} (hd : decode cc pc = .ok (.astore i, 2)) (hp : pc + 2 = pc') (hn : (i : Nat) < nL) (hl' : ((i : Nat), Value.ref x) :: l.filter (fun q => !(q.1 == i) && !(q.1 + 1 == i && q.2.category == 2)) = l') (kk : jW X G nL k n pc' l' st h) : jW X G nL k n pc l (Value.ref x :: st) h := by
  subst hp
  exact fun H locs ls hR hS hl => lv_astore C.1 C.2.1 hd hl hn hl' (fun ls' hls => kk H locs ls' hR hS hls)
theorem j_astore_nN (C : jC X G cc nL Ts own) {i : Fin 4} {l' : List (Nat × Value)} (hd : decode cc pc = .ok (.astore_n i, 1)) (hp : pc + 1 = pc') (hn : (i : Nat) < nL) (hl' : ((i : Nat), Value.null) :: l.filter (fun q => !(q.1 == (i : Nat)) && !(q.1 + 1 == (i : Nat) && q.2.category == 2)) = l') (kk : jW X G nL k n pc' l' st h) : jW X G nL k n pc l (Value.null :: st) h := by
  subst hp
  exact fun H locs ls hR hS hl => lv_astore_nN C.1 C.2.1 hd rfl hl hn hl' (fun ls' hls => kk H locs ls' hR hS hls)
theorem j_astoreN (C : jC X G cc nL Ts own) {i : Nat} {l' : List (Nat × Value)} (hd : decode cc pc = .ok (.astore i, 2)) (hp : pc + 2 = pc') (hn : (i : Nat) < nL) (hl' : ((i : Nat), Value.null) :: l.filter (fun q => !(q.1 == i) && !(q.1 + 1 == i && q.2.category == 2)) = l') (kk : jW X G nL k n pc' l' st h) : jW X G nL k n pc l (Value.null :: st) h := by
  subst hp
  exact fun H locs ls hR hS hl => lv_astoreN C.1 C.2.1 hd hl hn hl' (fun ls' hls => kk H locs ls' hR hS hls)
theorem j_iinc (C : jC X G cc nL Ts own) {i q : Nat} {d : Int} {x v : Int32} {l' : List (Nat × Value)} (hd : decode cc pc = .ok (.iinc i d, 3)) (hp : pc + 3 = pc') (hq : l[q]? = some (i, .int x)) (hv : x + Int32.ofInt d = v) (hn : i < nL) (hl' : (i, Value.int v) :: l.filter (fun q => !(q.1 == i) && !(q.1 + 1 == i && q.2.category == 2)) = l') (kk : jW X G nL k n pc' l' st h) : jW X G nL k n pc l st h := by
  subst hp
  exact fun H locs ls hR hS hl => lv_iinc C.1 C.2.1 hd hl hq hv hn hl' (fun ls' hls => kk H locs ls' hR hS hls)
theorem j_iadd (C : jC X G cc nL Ts own) {x y : Int32} (hd : decode cc pc = .ok (.iadd, 1)) (hp : pc + 1 = pc') (kk : jW X G nL k n pc' l (.int (x + y) :: st) h) : jW X G nL k n pc l (.int y :: .int x :: st) h := by
  subst hp
  exact fun H locs ls hR hS hl => lv_iadd C.1 C.2.1 hd (kk H locs ls hR hS hl)
theorem j_isub (C : jC X G cc nL Ts own) {x y : Int32} (hd : decode cc pc = .ok (.isub, 1)) (hp : pc + 1 = pc') (kk : jW X G nL k n pc' l (.int (x - y) :: st) h) : jW X G nL k n pc l (.int y :: .int x :: st) h := by
  subst hp
  exact fun H locs ls hR hS hl => lv_isub C.1 C.2.1 hd (kk H locs ls hR hS hl)
theorem j_imul (C : jC X G cc nL Ts own) {x y : Int32} (hd : decode cc pc = .ok (.imul, 1)) (hp : pc + 1 = pc') (kk : jW X G nL k n pc' l (.int (x * y) :: st) h) : jW X G nL k n pc l (.int y :: .int x :: st) h := by
  subst hp
  exact fun H locs ls hR hS hl => lv_imul C.1 C.2.1 hd (kk H locs ls hR hS hl)
theorem j_iand (C : jC X G cc nL Ts own) {x y : Int32} (hd : decode cc pc = .ok (.iand, 1)) (hp : pc + 1 = pc') (kk : jW X G nL k n pc' l (.int (x &&& y) :: st) h) : jW X G nL k n pc l (.int y :: .int x :: st) h := by
  subst hp
  exact fun H locs ls hR hS hl => lv_iand C.1 C.2.1 hd (kk H locs ls hR hS hl)
theorem j_ladd (C : jC X G cc nL Ts own) {x y : Int64} (hd : decode cc pc = .ok (.ladd, 1)) (hp : pc + 1 = pc') (kk : jW X G nL k n pc' l (.long (x + y) :: st) h) : jW X G nL k n pc l (.long y :: .long x :: st) h := by
  subst hp
  exact fun H locs ls hR hS hl => lv_ladd C.1 C.2.1 hd (kk H locs ls hR hS hl)
theorem j_lsub (C : jC X G cc nL Ts own) {x y : Int64} (hd : decode cc pc = .ok (.lsub, 1)) (hp : pc + 1 = pc') (kk : jW X G nL k n pc' l (.long (x - y) :: st) h) : jW X G nL k n pc l (.long y :: .long x :: st) h := by
  subst hp
  exact fun H locs ls hR hS hl => lv_lsub C.1 C.2.1 hd (kk H locs ls hR hS hl)
theorem j_land (C : jC X G cc nL Ts own) {x y : Int64} (hd : decode cc pc = .ok (.land, 1)) (hp : pc + 1 = pc') (kk : jW X G nL k n pc' l (.long (x &&& y) :: st) h) : jW X G nL k n pc l (.long y :: .long x :: st) h := by
  subst hp
  exact fun H locs ls hR hS hl => lv_land C.1 C.2.1 hd (kk H locs ls hR hS hl)
theorem j_lor (C : jC X G cc nL Ts own) {x y : Int64} (hd : decode cc pc = .ok (.lor, 1)) (hp : pc + 1 = pc') (kk : jW X G nL k n pc' l (.long (x ||| y) :: st) h) : jW X G nL k n pc l (.long y :: .long x :: st) h := by
  subst hp
  exact fun H locs ls hR hS hl => lv_lor C.1 C.2.1 hd (kk H locs ls hR hS hl)
theorem j_lmul (C : jC X G cc nL Ts own) {x y : Int64} (hd : decode cc pc = .ok (.lmul, 1)) (hp : pc + 1 = pc') (kk : jW X G nL k n pc' l (.long (x * y) :: st) h) : jW X G nL k n pc l (.long y :: .long x :: st) h := by
  subst hp
  exact fun H locs ls hR hS hl => lv_lmul C.1 C.2.1 hd (kk H locs ls hR hS hl)
theorem j_lcmp (C : jC X G cc nL Ts own) {x y : Int64} (hd : decode cc pc = .ok (.lcmp, 1)) (hp : pc + 1 = pc') (kk : jW X G nL k n pc' l (.int (lg_cmp x y) :: st) h) : jW X G nL k n pc l (.long y :: .long x :: st) h := by
  subst hp
  exact fun H locs ls hR hS hl => W.lcmp C.1 C.2.1 hd (kk H locs ls hR hS hl)
theorem j_lushr (C : jC X G cc nL Ts own) {x v : Int64} {y : Int32} (hv : (x.toUInt64 >>> (y.toInt64.toUInt64 &&& Int64.toUInt64 63)).toInt64 = v) (hd : decode cc pc = .ok (.lushr, 1)) (hp : pc + 1 = pc') (kk : jW X G nL k n pc' l (.long v :: st) h) : jW X G nL k n pc l (.int y :: .long x :: st) h := by
  subst hp
  exact fun H locs ls hR hS hl => lv_lushr C.1 C.2.1 hd hv (kk H locs ls hR hS hl)
theorem j_lshl (C : jC X G cc nL Ts own) {x v : Int64} {y : Int32} (hv : x <<< (y.toInt64 &&& 63) = v) (hd : decode cc pc = .ok (.lshl, 1)) (hp : pc + 1 = pc') (kk : jW X G nL k n pc' l (.long v :: st) h) : jW X G nL k n pc l (.int y :: .long x :: st) h := by
  subst hp
  exact fun H locs ls hR hS hl => lv_lshl C.1 C.2.1 hd hv (kk H locs ls hR hS hl)
theorem j_goto (C : jC X G cc nL Ts own) {off : Int} (hd : decode cc pc = .ok (.goto off, 3)) (hp : (pc : Int) + off = (pc' : Int)) (kk : jW X G nL k n pc' l st h) : jW X G nL k n pc l st h := fun H locs ls hR hS hl => lv_goto C.1 C.2.1 hd hp (kk H locs ls hR hS hl)
theorem jt_i {x y : Int32} (e : x = y) (kk : jW X G nL k n pc l (.int y :: st) h) : jW X G nL k n pc l (.int x :: st) h := e ▸ kk
theorem jt_l {x y : Int64} (e : x = y) (kk : jW X G nL k n pc l (.long y :: st) h) : jW X G nL k n pc l (.long x :: st) h := e ▸ kk
theorem jt_h {h' : jH} (e : h = h') (kk : jW X G nL k n pc l st h') : jW X G nL k n pc l st h := e ▸ kk
theorem jt_s {st' : List Value} (e : st = st') (kk : jW X G nL k n pc l st' h) : jW X G nL k n pc l st h := e ▸ kk
theorem jt_loc {l' : List (Nat × Value)} (e : l = l') (kk : jW X G nL k n pc l' st h) : jW X G nL k n pc l st h := e ▸ kk
theorem j_if_eq (C : jC X G cc nL Ts own) {x : Int32} {off : Int} {tgt : Nat} (hd : decode cc pc = .ok (.ifCond .eq off, 3)) (ht : (pc : Int) + off = (tgt : Int)) (hp : pc + 3 = pc') (kt : x = 0 → jW X G nL k n tgt l st h) (kf : ¬ x = 0 → jW X G nL k n pc' l st h) : jW X G nL k n pc l (.int x :: st) h := by
  subst hp
  exact fun H locs ls hR hS hl => lv_if_eq C.1 C.2.1 hd ht (fun z => kt z H locs ls hR hS hl) (fun z => kf z H locs ls hR hS hl)
theorem j_if_ne (C : jC X G cc nL Ts own) {x : Int32} {off : Int} {tgt : Nat} (hd : decode cc pc = .ok (.ifCond .ne off, 3)) (ht : (pc : Int) + off = (tgt : Int)) (hp : pc + 3 = pc') (kt : ¬ x = 0 → jW X G nL k n tgt l st h) (kf : x = 0 → jW X G nL k n pc' l st h) : jW X G nL k n pc l (.int x :: st) h := by
  subst hp
  exact fun H locs ls hR hS hl => lv_if_ne C.1 C.2.1 hd ht (fun z => kt z H locs ls hR hS hl) (fun z => kf z H locs ls hR hS hl)
theorem j_if_lt (C : jC X G cc nL Ts own) {x : Int32} {off : Int} {tgt : Nat} (hd : decode cc pc = .ok (.ifCond .lt off, 3)) (ht : (pc : Int) + off = (tgt : Int)) (hp : pc + 3 = pc') (kt : x < 0 → jW X G nL k n tgt l st h) (kf : ¬ x < 0 → jW X G nL k n pc' l st h) : jW X G nL k n pc l (.int x :: st) h := by
  subst hp
  exact fun H locs ls hR hS hl => lv_if_lt C.1 C.2.1 hd ht (fun z => kt z H locs ls hR hS hl) (fun z => kf z H locs ls hR hS hl)
theorem j_if_ge (C : jC X G cc nL Ts own) {x : Int32} {off : Int} {tgt : Nat} (hd : decode cc pc = .ok (.ifCond .ge off, 3)) (ht : (pc : Int) + off = (tgt : Int)) (hp : pc + 3 = pc') (kt : 0 ≤ x → jW X G nL k n tgt l st h) (kf : ¬ 0 ≤ x → jW X G nL k n pc' l st h) : jW X G nL k n pc l (.int x :: st) h := by
  subst hp
  exact fun H locs ls hR hS hl => lv_if_ge C.1 C.2.1 hd ht (fun z => kt z H locs ls hR hS hl) (fun z => kf z H locs ls hR hS hl)
theorem j_if_gt (C : jC X G cc nL Ts own) {x : Int32} {off : Int} {tgt : Nat} (hd : decode cc pc = .ok (.ifCond .gt off, 3)) (ht : (pc : Int) + off = (tgt : Int)) (hp : pc + 3 = pc') (kt : 0 < x → jW X G nL k n tgt l st h) (kf : ¬ 0 < x → jW X G nL k n pc' l st h) : jW X G nL k n pc l (.int x :: st) h := by
  subst hp
  exact fun H locs ls hR hS hl => lv_if_gt C.1 C.2.1 hd ht (fun z => kt z H locs ls hR hS hl) (fun z => kf z H locs ls hR hS hl)
theorem j_if_le (C : jC X G cc nL Ts own) {x : Int32} {off : Int} {tgt : Nat} (hd : decode cc pc = .ok (.ifCond .le off, 3)) (ht : (pc : Int) + off = (tgt : Int)) (hp : pc + 3 = pc') (kt : x ≤ 0 → jW X G nL k n tgt l st h) (kf : ¬ x ≤ 0 → jW X G nL k n pc' l st h) : jW X G nL k n pc l (.int x :: st) h := by
  subst hp
  exact fun H locs ls hR hS hl => lv_if_le C.1 C.2.1 hd ht (fun z => kt z H locs ls hR hS hl) (fun z => kf z H locs ls hR hS hl)
theorem j_icmp_eq (C : jC X G cc nL Ts own) {x y : Int32} {off : Int} {tgt : Nat} (hd : decode cc pc = .ok (.if_icmp .eq off, 3)) (ht : (pc : Int) + off = (tgt : Int)) (hp : pc + 3 = pc') (kt : x = y → jW X G nL k n tgt l st h) (kf : ¬ x = y → jW X G nL k n pc' l st h) : jW X G nL k n pc l (.int y :: .int x :: st) h := by
  subst hp
  exact fun H locs ls hR hS hl => lv_icmp_eq C.1 C.2.1 hd ht (fun z => kt z H locs ls hR hS hl) (fun z => kf z H locs ls hR hS hl)
theorem j_icmp_ne (C : jC X G cc nL Ts own) {x y : Int32} {off : Int} {tgt : Nat} (hd : decode cc pc = .ok (.if_icmp .ne off, 3)) (ht : (pc : Int) + off = (tgt : Int)) (hp : pc + 3 = pc') (kt : ¬ x = y → jW X G nL k n tgt l st h) (kf : x = y → jW X G nL k n pc' l st h) : jW X G nL k n pc l (.int y :: .int x :: st) h := by
  subst hp
  exact fun H locs ls hR hS hl => lv_icmp_ne C.1 C.2.1 hd ht (fun z => kt z H locs ls hR hS hl) (fun z => kf z H locs ls hR hS hl)
theorem j_icmp_lt (C : jC X G cc nL Ts own) {x y : Int32} {off : Int} {tgt : Nat} (hd : decode cc pc = .ok (.if_icmp .lt off, 3)) (ht : (pc : Int) + off = (tgt : Int)) (hp : pc + 3 = pc') (kt : x < y → jW X G nL k n tgt l st h) (kf : ¬ x < y → jW X G nL k n pc' l st h) : jW X G nL k n pc l (.int y :: .int x :: st) h := by
  subst hp
  exact fun H locs ls hR hS hl => lv_icmp_lt C.1 C.2.1 hd ht (fun z => kt z H locs ls hR hS hl) (fun z => kf z H locs ls hR hS hl)
theorem j_icmp_ge (C : jC X G cc nL Ts own) {x y : Int32} {off : Int} {tgt : Nat} (hd : decode cc pc = .ok (.if_icmp .ge off, 3)) (ht : (pc : Int) + off = (tgt : Int)) (hp : pc + 3 = pc') (kt : y ≤ x → jW X G nL k n tgt l st h) (kf : ¬ y ≤ x → jW X G nL k n pc' l st h) : jW X G nL k n pc l (.int y :: .int x :: st) h := by
  subst hp
  exact fun H locs ls hR hS hl => lv_icmp_ge C.1 C.2.1 hd ht (fun z => kt z H locs ls hR hS hl) (fun z => kf z H locs ls hR hS hl)
theorem j_icmp_gt (C : jC X G cc nL Ts own) {x y : Int32} {off : Int} {tgt : Nat} (hd : decode cc pc = .ok (.if_icmp .gt off, 3)) (ht : (pc : Int) + off = (tgt : Int)) (hp : pc + 3 = pc') (kt : y < x → jW X G nL k n tgt l st h) (kf : ¬ y < x → jW X G nL k n pc' l st h) : jW X G nL k n pc l (.int y :: .int x :: st) h := by
  subst hp
  exact fun H locs ls hR hS hl => lv_icmp_gt C.1 C.2.1 hd ht (fun z => kt z H locs ls hR hS hl) (fun z => kf z H locs ls hR hS hl)
theorem j_icmp_le (C : jC X G cc nL Ts own) {x y : Int32} {off : Int} {tgt : Nat} (hd : decode cc pc = .ok (.if_icmp .le off, 3)) (ht : (pc : Int) + off = (tgt : Int)) (hp : pc + 3 = pc') (kt : x ≤ y → jW X G nL k n tgt l st h) (kf : ¬ x ≤ y → jW X G nL k n pc' l st h) : jW X G nL k n pc l (.int y :: .int x :: st) h := by
  subst hp
  exact fun H locs ls hR hS hl => lv_icmp_le C.1 C.2.1 hd ht (fun z => kt z H locs ls hR hS hl) (fun z => kf z H locs ls hR hS hl)
theorem j_idiv (C : jC X G cc nL Ts own) {x y : Int32} (hne : ¬ y = 0) (hd : decode cc pc = .ok (.idiv, 1)) (hp : pc + 1 = pc') (kk : jW X G nL k n pc' l (.int (x / y) :: st) h) : jW X G nL k n pc l (.int y :: .int x :: st) h := by
  subst hp
  exact fun H locs ls hR hS hl => lv_idiv C.1 C.2.1 hd hne (kk H locs ls hR hS hl)
theorem j_irem (C : jC X G cc nL Ts own) {x y : Int32} (hne : ¬ y = 0) (hd : decode cc pc = .ok (.irem, 1)) (hp : pc + 1 = pc') (kk : jW X G nL k n pc' l (.int (x - x / y * y) :: st) h) : jW X G nL k n pc l (.int y :: .int x :: st) h := by
  subst hp
  exact fun H locs ls hR hS hl => lv_irem C.1 C.2.1 hd hne (kk H locs ls hR hS hl)
theorem j_i2l (C : jC X G cc nL Ts own) {x : Int32} {v : Int64} (hv : x.toInt64 = v) (hd : decode cc pc = .ok (.i2l, 1)) (hp : pc + 1 = pc') (kk : jW X G nL k n pc' l (.long v :: st) h) : jW X G nL k n pc l (.int x :: st) h := by
  subst hp
  exact fun H locs ls hR hS hl => lv_i2l C.1 C.2.1 hd hv (kk H locs ls hR hS hl)
theorem j_l2i (C : jC X G cc nL Ts own) {x : Int64} {v : Int32} (hv : x.toInt32 = v) (hd : decode cc pc = .ok (.l2i, 1)) (hp : pc + 1 = pc') (kk : jW X G nL k n pc' l (.int v :: st) h) : jW X G nL k n pc l (.long x :: st) h := by
  subst hp
  exact fun H locs ls hR hS hl => lv_l2i C.1 C.2.1 hd hv (kk H locs ls hR hS hl)
theorem j_dup (C : jC X G cc nL Ts own) {va : Value} (hva : va.category = 1) (hd : decode cc pc = .ok (.dup, 1)) (hp : pc + 1 = pc') (kk : jW X G nL k n pc' l (va :: va :: st) h) : jW X G nL k n pc l (va :: st) h := by
  subst hp
  exact fun H locs ls hR hS hl => lv_dup C.1 C.2.1 hd hva (kk H locs ls hR hS hl)
theorem j_pop (C : jC X G cc nL Ts own) {va : Value} (hva : va.category = 1) (hd : decode cc pc = .ok (.pop, 1)) (hp : pc + 1 = pc') (kk : jW X G nL k n pc' l st h) : jW X G nL k n pc l (va :: st) h := by
  subst hp
  exact fun H locs ls hR hS hl => lv_pop C.1 C.2.1 hd hva (kk H locs ls hR hS hl)
theorem j_dup_x1 (C : jC X G cc nL Ts own) {va vb : Value} (hva : va.category = 1) (hvb : vb.category = 1) (hd : decode cc pc = .ok (.dup_x1, 1)) (hp : pc + 1 = pc') (kk : jW X G nL k n pc' l (va :: vb :: va :: st) h) : jW X G nL k n pc l (va :: vb :: st) h := by
  subst hp
  exact fun H locs ls hR hS hl => lv_dup_x1 C.1 C.2.1 hd hva hvb (kk H locs ls hR hS hl)
theorem j_dup2 (C : jC X G cc nL Ts own) {va vb : Value} (hva : va.category = 1) (hvb : vb.category = 1) (hd : decode cc pc = .ok (.dup2, 1)) (hp : pc + 1 = pc') (kk : jW X G nL k n pc' l (va :: vb :: va :: vb :: st) h) : jW X G nL k n pc l (va :: vb :: st) h := by
  subst hp
  exact fun H locs ls hR hS hl => lv_dup2_11 C.1 C.2.1 hd hva hvb (kk H locs ls hR hS hl)
theorem j_null (C : jC X G cc nL Ts own)  (hd : decode cc pc = .ok (.aconst_null, 1)) (hp : pc + 1 = pc') (kk : jW X G nL k n pc' l (.null :: st) h) : jW X G nL k n pc l st h := by
  subst hp
  exact fun H locs ls hR hS hl => lv_null C.1 C.2.1 hd (kk H locs ls hR hS hl)
theorem j_ifnull_r (C : jC X G cc nL Ts own) {x : Nat} {off : Int} (hd : decode cc pc = .ok (.ifnull off, 3)) (hp : pc + 3 = pc') (kk : jW X G nL k n pc' l st h) : jW X G nL k n pc l (.ref x :: st) h := by
  subst hp
  exact fun H locs ls hR hS hl => lv_ifnull C.1 C.2.1 hd (kk H locs ls hR hS hl)
theorem j_ifnull_n (C : jC X G cc nL Ts own) {off : Int} {tgt : Nat} (hd : decode cc pc = .ok (.ifnull off, 3)) (ht : (pc : Int) + off = (tgt : Int)) (kk : jW X G nL k n tgt l st h) : jW X G nL k n pc l (.null :: st) h := fun H locs ls hR hS hl => lv_ifnullN C.1 C.2.1 hd ht (kk H locs ls hR hS hl)
theorem j_ifnonnull_r (C : jC X G cc nL Ts own) {x : Nat} {off : Int} {tgt : Nat} (hd : decode cc pc = .ok (.ifnonnull off, 3)) (ht : (pc : Int) + off = (tgt : Int)) (kk : jW X G nL k n tgt l st h) : jW X G nL k n pc l (.ref x :: st) h := fun H locs ls hR hS hl => lv_ifnonnull C.1 C.2.1 hd ht (kk H locs ls hR hS hl)
theorem j_ifnonnull_n (C : jC X G cc nL Ts own) {off : Int} (hd : decode cc pc = .ok (.ifnonnull off, 3)) (hp : pc + 3 = pc') (kk : jW X G nL k n pc' l st h) : jW X G nL k n pc l (.null :: st) h := by
  subst hp
  exact fun H locs ls hR hS hl => lv_ifnonnullN C.1 C.2.1 hd (kk H locs ls hR hS hl)
theorem j_ldc (C : jC X G cc nL Ts own) {idx : Nat} {v : Int32} (hm : Cond.constant own idx v ∈ Ts) (hd : decode cc pc = .ok (.ldc idx, 2)) (hp : pc + 2 = pc') (kk : jW X G nL k n pc' l (.int v :: st) h) : jW X G nL k n pc l st h := by
  subst hp
  exact fun H locs ls hR hS hl => lv_ldc C.1 C.2.1 C.2.2.2.1 (C.2.2.2.2.1 _ hm) hd (kk H locs ls hR hS hl)
theorem j_ldc2 (C : jC X G cc nL Ts own) {idx : Nat} {v : Int64} (hm : Cond.constantLong own idx v ∈ Ts) (hd : decode cc pc = .ok (.ldc2_w idx, 3)) (hp : pc + 3 = pc') (kk : jW X G nL k n pc' l (.long v :: st) h) : jW X G nL k n pc l st h := by
  subst hp
  exact fun H locs ls hR hS hl => lv_ldc2 C.1 C.2.1 C.2.2.2.1 (C.2.2.2.2.1 _ hm) hd (kk H locs ls hR hS hl)
/-! fields -/
theorem j_get (C : jC X G cc nL Ts own) {ref CN : String} {T : u_T} {N ci index a kf : Nat} {fs : List Value} {v : Value} (hin : ∀ w ∈ u_ws CN T N, w ∈ Ts) (hc : vwCl[ci]? = some (CN, T, N)) (hk : kf < N) (hlink : Cond.fieldLink own index ref (T kf).2.1 (T kf).2.2.1 ∈ Ts) (hsame : (T kf).1 = ref) (hh : h a = some (.inr (ci, fs))) (hv : fs[kf]? = some v) (hd : decode cc pc = .ok (.getfield index, 3)) (hp : pc + 3 = pc') (kk : jW X G nL k n pc' l (v :: st) h) : jW X G nL k n pc l (.ref a :: st) h := by
  subst hp
  intro H locs ls hR hS hl
  obtain ⟨ws, hP, hD, h1, h2⟩ := jR.list hR
  obtain ⟨q0, hq0⟩ := h2 a _ hh
  exact va_get C.1 C.2.1 C.2.2.2.2.1 hin C.2.2.2.1 C.K hP q0 hq0 hc kf hk (C.2.2.2.2.1 _ hlink) (fun x hx => hsame ▸ hx) hv hd (kk H locs ls hR hS hl)
theorem j_put (C : jC X G cc nL Ts own) {ref CN : String} {T : u_T} {N ci index a kf : Nat} {fs : List Value} {v : Value} {ty : FieldType} (hin : ∀ w ∈ u_ws CN T N, w ∈ Ts) {ty0 : Nat → FieldType} (hty : ∀ k, k < N → parseFieldDescriptor (T k).2.2.1 = some (ty0 k)) (hnm : ∀ a, a < N → ∀ b, b < N → a ≠ b → (T a).2.1 ≠ (T b).2.1) (hc : vwCl[ci]? = some (CN, T, N)) (hk : kf < N) (hlink : Cond.fieldLink own index ref (T kf).2.1 (T kf).2.2.1 ∈ Ts) (hsame : (T kf).1 = ref) (hfin : (T kf).2.2.2 = false) (hpd : parseFieldDescriptor (T kf).2.2.1 = some ty) (hn : narrow ty v = v) (hfit : fits ty v = true) (hh : h a = some (.inr (ci, fs))) (hl2 : kf < fs.length) (hd : decode cc pc = .ok (.putfield index, 3)) (hp : pc + 3 = pc') (kk : jW X G nL k n pc' l st (jup h a (.inr (ci, fs.set kf v)))) : jW X G nL k n pc l (v :: .ref a :: st) h := by
  subst hp
  intro H locs ls hR hS hl
  obtain ⟨ws, hP, hD, h1, h2⟩ := jR.list hR
  obtain ⟨q0, hq0⟩ := h2 a _ hh
  exact va_put C.1 C.2.1 C.2.2.2.2.1 hin ty0 hty hnm C.2.2.2.1 C.K hP hD hS q0 hq0 hc kf hk (C.2.2.2.2.1 _ hlink) (fun x hx => hsame ▸ hx) hfin hpd hn hfit hl2 hd (fun H1 locs1 hP1 hD1 hS1 => kk H1 locs1 ls (jR.set hD h2 hq0 hP1 hD1) hS1 hl)
theorem j_putF (C : jC X G cc nL Ts own) {ref CN : String} {T : u_T} {N ci index a kf : Nat} {fs : List Value} {v : Value} {ty : FieldType} (hin : ∀ w ∈ u_ws CN T N, w ∈ Ts) {ty0 : Nat → FieldType} (hty : ∀ k, k < N → parseFieldDescriptor (T k).2.2.1 = some (ty0 k)) (hnm : ∀ a, a < N → ∀ b, b < N → a ≠ b → (T a).2.1 ≠ (T b).2.1) (hc : vwCl[ci]? = some (CN, T, N)) (hk : kf < N) (hlink : Cond.fieldLink own index ref (T kf).2.1 (T kf).2.2.1 ∈ Ts) (hsame : (T kf).1 = ref) (hfin : (T kf).2.2.2 = true) (hinit : X.2.2.2.2.2.2.2.2.1.name = "<init>") (hdecl : (T kf).1 = own) (hpd : parseFieldDescriptor (T kf).2.2.1 = some ty) (hn : narrow ty v = v) (hfit : fits ty v = true) (hh : h a = some (.inr (ci, fs))) (hl2 : kf < fs.length) (hd : decode cc pc = .ok (.putfield index, 3)) (hp : pc + 3 = pc') (kk : jW X G nL k n pc' l st (jup h a (.inr (ci, fs.set kf v)))) : jW X G nL k n pc l (v :: .ref a :: st) h := by
  subst hp
  intro H locs ls hR hS hl
  obtain ⟨ws, hP, hD, h1, h2⟩ := jR.list hR
  obtain ⟨q0, hq0⟩ := h2 a _ hh
  exact va_putF C.1 C.2.1 C.2.2.2.2.1 hin ty0 hty hnm C.2.2.2.1 C.K hP hD hS q0 hq0 hc kf hk (C.2.2.2.2.1 _ hlink) (fun x hx => hsame ▸ hx) hfin hinit hdecl hpd hn hfit hl2 hd (fun H1 locs1 hP1 hD1 hS1 => kk H1 locs1 ls (jR.set hD h2 hq0 hP1 hD1) hS1 hl)
/-! arrays, at places that are numbers -/
theorem j_iald (C : jC X G cc nL Ts own) {a N j : Nat} {f : Nat → Int32} {i : Int32} (hh : h a = some (.inl (G.2.2.1.1, N, .inl f))) (hi : i = nI j) (hj : j < N) (hN : N < 2 ^ 31) (hd : decode cc pc = .ok (.iaload, 1)) (hp : pc + 1 = pc') (kk : jW X G nL k n pc' l (.int (f j) :: st) h) : jW X G nL k n pc l (.int i :: .ref a :: st) h := by
  subst hp hi
  intro H locs ls hR hS hl
  obtain ⟨ws, hP, hD, h1, h2⟩ := jR.list hR
  obtain ⟨q0, hq0⟩ := h2 a _ hh
  have e := nI_clamp (n := j) (by omega)
  refine va_iald C.1 C.2.1 C.K hP q0 0 hq0 rfl (vp_in_nI hj hN) hd ?_
  rw [e]
  exact kk H locs ls hR hS hl
theorem j_zald (C : jC X G cc nL Ts own) {a N j : Nat} {f : Nat → Int32} {i : Int32} (hh : h a = some (.inl (G.2.2.1.2.1, N, .inl f))) (hi : i = nI j) (hj : j < N) (hN : N < 2 ^ 31) (hd : decode cc pc = .ok (.baload, 1)) (hp : pc + 1 = pc') (kk : jW X G nL k n pc' l (.int (f j) :: st) h) : jW X G nL k n pc l (.int i :: .ref a :: st) h := by
  subst hp hi
  intro H locs ls hR hS hl
  obtain ⟨ws, hP, hD, h1, h2⟩ := jR.list hR
  obtain ⟨q0, hq0⟩ := h2 a _ hh
  have e := nI_clamp (n := j) (by omega)
  refine va_zald C.1 C.2.1 C.K hP q0 1 hq0 rfl (vp_in_nI hj hN) hd ?_
  rw [e]
  exact kk H locs ls hR hS hl
theorem j_lald (C : jC X G cc nL Ts own) {a N j : Nat} {f : Nat → Int64} {i : Int32} (hh : h a = some (.inl (G.2.2.1.2.2.2, N, .inr (.inl f)))) (hi : i = nI j) (hj : j < N) (hN : N < 2 ^ 31) (hd : decode cc pc = .ok (.laload, 1)) (hp : pc + 1 = pc') (kk : jW X G nL k n pc' l (.long (f j) :: st) h) : jW X G nL k n pc l (.int i :: .ref a :: st) h := by
  subst hp hi
  intro H locs ls hR hS hl
  obtain ⟨ws, hP, hD, h1, h2⟩ := jR.list hR
  obtain ⟨q0, hq0⟩ := h2 a _ hh
  have e := nI_clamp (n := j) (by omega)
  refine va_lald C.1 C.2.1 C.K hP q0 3 hq0 rfl (vp_in_nI hj hN) hd ?_
  rw [e]
  exact kk H locs ls hR hS hl
theorem j_aald (C : jC X G cc nL Ts own) {a N j : Nat} {f : Nat → Option Nat} {i : Int32} (hh : h a = some (.inl (G.2.2.1.2.2.1, N, .inr (.inr (.inr (.inr f)))))) (hi : i = nI j) (hj : j < N) (hN : N < 2 ^ 31) (hd : decode cc pc = .ok (.aaload, 1)) (hp : pc + 1 = pc') (kk : jW X G nL k n pc' l (va_rf (f j) :: st) h) : jW X G nL k n pc l (.int i :: .ref a :: st) h := by
  subst hp hi
  intro H locs ls hR hS hl
  obtain ⟨ws, hP, hD, h1, h2⟩ := jR.list hR
  obtain ⟨q0, hq0⟩ := h2 a _ hh
  have e := nI_clamp (n := j) (by omega)
  refine va_aldq C.1 C.2.1 C.K hP q0 2 hq0 rfl (vp_in_nI hj hN) hd ?_
  rw [e]
  exact kk H locs ls hR hS hl
theorem j_iast (C : jC X G cc nL Ts own) {a N j : Nat} {f : Nat → Int32} {i : Int32} {x : Int32} (hh : h a = some (.inl (G.2.2.1.1, N, .inl f))) (hi : i = nI j) (hj : j < N) (hN : N < 2 ^ 31) (hd : decode cc pc = .ok (.iastore, 1)) (hp : pc + 1 = pc') (kk : jW X G nL k n pc' l st (jup h a (.inl (G.2.2.1.1, N, .inl (upd f j x))))) : jW X G nL k n pc l (.int x :: .int i :: .ref a :: st) h := by
  subst hp hi
  intro H locs ls hR hS hl
  obtain ⟨ws, hP, hD, h1, h2⟩ := jR.list hR
  obtain ⟨q0, hq0⟩ := h2 a _ hh
  have e := nI_clamp (n := j) (by omega)
  refine va_iast C.1 C.2.1 C.K hP hD hS q0 0 hq0 rfl (vp_in_nI hj hN) hd (fun H1 locs1 hP1 hD1 hS1 => ?_)
  rw [e] at hP1 hD1
  skip
  exact kk H1 locs1 ls (jR.set hD h2 hq0 hP1 hD1) hS1 hl
theorem j_zast (C : jC X G cc nL Ts own) {a N j : Nat} {f : Nat → Int32} {i : Int32} {x : Int32} {y : Int32} (hx : vp_nar .boolean x = y) (hh : h a = some (.inl (G.2.2.1.2.1, N, .inl f))) (hi : i = nI j) (hj : j < N) (hN : N < 2 ^ 31) (hd : decode cc pc = .ok (.bastore, 1)) (hp : pc + 1 = pc') (kk : jW X G nL k n pc' l st (jup h a (.inl (G.2.2.1.2.1, N, .inl (upd f j y))))) : jW X G nL k n pc l (.int x :: .int i :: .ref a :: st) h := by
  subst hp hi
  intro H locs ls hR hS hl
  obtain ⟨ws, hP, hD, h1, h2⟩ := jR.list hR
  obtain ⟨q0, hq0⟩ := h2 a _ hh
  have e := nI_clamp (n := j) (by omega)
  refine va_zast C.1 C.2.1 C.K hP hD hS q0 1 hq0 rfl (vp_in_nI hj hN) hd (fun H1 locs1 hP1 hD1 hS1 => ?_)
  rw [e] at hP1 hD1
  rw [hx] at hP1 hD1
  exact kk H1 locs1 ls (jR.set hD h2 hq0 hP1 hD1) hS1 hl
theorem j_last (C : jC X G cc nL Ts own) {a N j : Nat} {f : Nat → Int64} {i : Int32} {x : Int64} (hh : h a = some (.inl (G.2.2.1.2.2.2, N, .inr (.inl f)))) (hi : i = nI j) (hj : j < N) (hN : N < 2 ^ 31) (hd : decode cc pc = .ok (.lastore, 1)) (hp : pc + 1 = pc') (kk : jW X G nL k n pc' l st (jup h a (.inl (G.2.2.1.2.2.2, N, .inr (.inl (vp_updL f j x)))))) : jW X G nL k n pc l (.long x :: .int i :: .ref a :: st) h := by
  subst hp hi
  intro H locs ls hR hS hl
  obtain ⟨ws, hP, hD, h1, h2⟩ := jR.list hR
  obtain ⟨q0, hq0⟩ := h2 a _ hh
  have e := nI_clamp (n := j) (by omega)
  refine va_last C.1 C.2.1 C.K hP hD hS q0 3 hq0 rfl (vp_in_nI hj hN) hd (fun H1 locs1 hP1 hD1 hS1 => ?_)
  rw [e] at hP1 hD1
  skip
  exact kk H1 locs1 ls (jR.set hD h2 hq0 hP1 hD1) hS1 hl
theorem j_alen (C : jC X G cc nL Ts own) {a t0 : Nat} {cA : ClassId} {x : vp_A} {ty : FieldType} {v : Int32} (hh : h a = some (.inl (cA, x))) (ht : (jT G)[t0]? = some (cA, ty)) (hv : nI x.1 = v) (hd : decode cc pc = .ok (.arraylength, 1)) (hp : pc + 1 = pc') (kk : jW X G nL k n pc' l (.int v :: st) h) : jW X G nL k n pc l (.ref a :: st) h := by
  subst hp
  intro H locs ls hR hS hl
  obtain ⟨ws, hP, hD, h1, h2⟩ := jR.list hR
  obtain ⟨q0, hq0⟩ := h2 a _ hh
  exact va_alen C.1 C.2.1 C.K hP q0 t0 hq0 ht hv hd (kk H locs ls hR hS hl)
theorem j_aast (C : jC X G cc nL Ts own) {a N j v ci : Nat} {f : Nat → Option Nat} {i : Int32} {fs : List Value} {r : vw_C} (hh : h a = some (.inl (G.2.2.1.2.2.1, N, .inr (.inr (.inr (.inr f)))))) (hv : h v = some (.inr (ci, fs))) (hc : vwCl[ci]? = some r) (hasg : ∀ comp c0 : ClassId, X.2.2.2.2.1.vm.findClass "java/lang/Object" = some comp → X.2.2.2.2.1.vm.findClass r.1 = some c0 → X.2.2.2.2.1.vm.assignable c0 comp = true) (hi : i = nI j) (hj : j < N) (hN : N < 2 ^ 31) (hd : decode cc pc = .ok (.aastore, 1)) (hp : pc + 1 = pc') (kk : jW X G nL k n pc' l st (jup h a (.inl (G.2.2.1.2.2.1, N, .inr (.inr (.inr (.inr (va_up f j (some v)))))))) ) : jW X G nL k n pc l (.ref v :: .int i :: .ref a :: st) h := by
  subst hp hi
  intro H locs ls hR hS hl
  obtain ⟨ws, hP, hD, h1, h2⟩ := jR.list hR
  obtain ⟨q0, hq0⟩ := h2 a _ hh
  obtain ⟨q1, hq1⟩ := h2 v _ hv
  have e := nI_clamp (n := j) (by omega)
  refine va_astqM C.1 C.2.1 C.K hP hD hS q0 2 hq0 rfl (va_rAny C.K hP hq1 hc hasg) (vp_in_nI hj hN) hd (fun H1 locs1 hP1 hD1 hS1 => ?_)
  rw [e] at hP1 hD1
  exact kk H1 locs1 ls (jR.set hD h2 hq0 hP1 hD1) hS1 hl
/-! making -/
theorem j_new (C : jC X G cc nL Ts own) {CN : String} {T : u_T} {N ci index : Nat} {fs : List Value} (hin : ∀ w ∈ u_ws CN T N, w ∈ Ts) {ty0 : Nat → FieldType} (hty : ∀ k, k < N → parseFieldDescriptor (T k).2.2.1 = some (ty0 k)) (hcl : Cond.classLink own index CN ∈ Ts) (hinst : Cond.instantiable CN N ∈ Ts) (hini : Cond.initialized CN ∈ Ts) (hc : vwCl[ci]? = some (CN, T, N)) (hfs : ∀ j, j < N → defaultValue (ty0 j) = vp_V fs j) (hk : k + 1 ≤ X.2.2.2.1.cells) (hn : n + N ≤ X.2.2.2.1.slots) (hd : decode cc pc = .ok (.new index, 3)) (hp : pc + 3 = pc') (kk : ∀ q : Nat, h q = none → jW X G nL (k + 1) (n + N) pc' l (.ref q :: st) (jup h q (.inr (ci, fs)))) : jW X G nL k n pc l st h := by
  subst hp
  intro H locs ls hR hS hl
  obtain ⟨ws, hP, hD, h1, h2⟩ := jR.list hR
  exact va_new C.1 C.2.1 C.2.2.2.2.1 hin ty0 hty C.2.2.2.1 (C.2.2.2.2.1 _ hcl) (C.2.2.2.2.1 _ hinst) (C.2.2.2.2.1 _ hini) C.K hP hD hS C.A hc hfs hk hn hd (fun q H1 hP1 hD1 hS1 => kk q (jR.push hR h2 hP1 hD1).1 H1 locs ls (jR.push hR h2 hP1 hD1).2 hS1 hl)
theorem j_newa_i (C : jC X G cc nL Ts own) {N : Nat} {i : Int32} (harr : Cond.arrayClass .int ∈ Ts) (hi : i = nI N) (hN : N ≤ 60000000) (hk : k + 1 ≤ X.2.2.2.1.cells) (hn : n + N ≤ X.2.2.2.1.slots) (hd : decode cc pc = .ok (.newarray .int, 2)) (hp : pc + 2 = pc') (kk : ∀ q : Nat, h q = none → jW X G nL (k + 1) (n + N) pc' l (.ref q :: st) (jup h q (.inl (G.2.2.1.1, N, .inl (fun _ => 0))))) : jW X G nL k n pc l (.int i :: st) h := by
  subst hp hi
  intro H locs ls hR hS hl
  obtain ⟨ws, hP, hD, h1, h2⟩ := jR.list hR
  have hT := (C.K.2 0 (G.2.2.1.1, .int) rfl).2
  refine va_newa (atype := .int) (ty := .int) (N' := N) (a0 := (N, .inl (fun _ => 0))) C.1 C.2.1 (C.2.2.2.2.1 _ harr) rfl C.K hP hD hS C.A (fun cA => rfl) (nI_pos (by omega)) (nI_clamp (by omega)) (by show N * _ ≤ _; simp only [componentBytes]; omega) hk hn hd (fun q cA H1 hK1 hP1 hD1 hS1 => ?_)
  have hT1 := (hK1.2 4 (cA, .int) rfl).2
  have e : cA = G.2.2.1.1 := Option.some.inj (Eq.trans (Eq.symm hT1) hT)
  subst e
  exact kk q (jR.push hR h2 hP1 hD1).1 H1 locs ls (jR.push hR h2 hP1 hD1).2 hS1 hl
theorem j_newa_z (C : jC X G cc nL Ts own) {N : Nat} {i : Int32} (harr : Cond.arrayClass .boolean ∈ Ts) (hi : i = nI N) (hN : N ≤ 60000000) (hk : k + 1 ≤ X.2.2.2.1.cells) (hn : n + N ≤ X.2.2.2.1.slots) (hd : decode cc pc = .ok (.newarray .boolean, 2)) (hp : pc + 2 = pc') (kk : ∀ q : Nat, h q = none → jW X G nL (k + 1) (n + N) pc' l (.ref q :: st) (jup h q (.inl (G.2.2.1.2.1, N, .inl (fun _ => 0))))) : jW X G nL k n pc l (.int i :: st) h := by
  subst hp hi
  intro H locs ls hR hS hl
  obtain ⟨ws, hP, hD, h1, h2⟩ := jR.list hR
  have hT := (C.K.2 1 (G.2.2.1.2.1, .boolean) rfl).2
  refine va_newa (atype := .boolean) (ty := .boolean) (N' := N) (a0 := (N, .inl (fun _ => 0))) C.1 C.2.1 (C.2.2.2.2.1 _ harr) rfl C.K hP hD hS C.A (fun cA => rfl) (nI_pos (by omega)) (nI_clamp (by omega)) (by show N * _ ≤ _; simp only [componentBytes]; omega) hk hn hd (fun q cA H1 hK1 hP1 hD1 hS1 => ?_)
  have hT1 := (hK1.2 4 (cA, .boolean) rfl).2
  have e : cA = G.2.2.1.2.1 := Option.some.inj (Eq.trans (Eq.symm hT1) hT)
  subst e
  exact kk q (jR.push hR h2 hP1 hD1).1 H1 locs ls (jR.push hR h2 hP1 hD1).2 hS1 hl
theorem j_newa_l (C : jC X G cc nL Ts own) {N : Nat} {i : Int32} (harr : Cond.arrayClass .long ∈ Ts) (hi : i = nI N) (hN : N ≤ 60000000) (hk : k + 1 ≤ X.2.2.2.1.cells) (hn : n + N ≤ X.2.2.2.1.slots) (hd : decode cc pc = .ok (.newarray .long, 2)) (hp : pc + 2 = pc') (kk : ∀ q : Nat, h q = none → jW X G nL (k + 1) (n + N) pc' l (.ref q :: st) (jup h q (.inl (G.2.2.1.2.2.2, N, .inr (.inl (fun _ => 0)))))) : jW X G nL k n pc l (.int i :: st) h := by
  subst hp hi
  intro H locs ls hR hS hl
  obtain ⟨ws, hP, hD, h1, h2⟩ := jR.list hR
  have hT := (C.K.2 3 (G.2.2.1.2.2.2, .long) rfl).2
  refine va_newa (atype := .long) (ty := .long) (N' := N) (a0 := (N, .inr (.inl (fun _ => 0)))) C.1 C.2.1 (C.2.2.2.2.1 _ harr) rfl C.K hP hD hS C.A (fun cA => rfl) (nI_pos (by omega)) (nI_clamp (by omega)) (by show N * _ ≤ _; simp only [componentBytes]; omega) hk hn hd (fun q cA H1 hK1 hP1 hD1 hS1 => ?_)
  have hT1 := (hK1.2 4 (cA, .long) rfl).2
  have e : cA = G.2.2.1.2.2.2 := Option.some.inj (Eq.trans (Eq.symm hT1) hT)
  subst e
  exact kk q (jR.push hR h2 hP1 hD1).1 H1 locs ls (jR.push hR h2 hP1 hD1).2 hS1 hl
/-! calls -/
theorem j_run (C : jC X G cc nL Ts own) {stk rest : List Value} {mc ms : Nat} {ok : Option Value → jH → Prop} {ex : String → jH → Prop} {a : Array Value} (hr : ∀ (H : Heap) (locs : List Loc) (ls : Array Slot), jR G h H → va_S (jA G) X.2.2.2.2.1.heap H locs → lv_has ls nL l →
    vx_Run X.1 X.2.1 X.2.2.1 X.2.2.2.1 X.2.2.2.2.1 X.2.2.2.2.2.1 X.2.2.2.2.2.2.1 X.2.2.2.2.2.2.2.1 X.2.2.2.2.2.2.2.2.1 X.2.2.2.2.2.2.2.2.2.1 H locs k n mc ms (F0 X.2.2.2.2.2.1 pc ls stk) rest (jQc G ok a) (jXC G ex) (jA G)) (hp : pc + 3 = pc')
    (kx : ∀ (E : String) (h' : jH), ex E h' → jXW X G nL (k + mc) (n + ms) pc l h' E) (kk : ∀ (r : Option Value) (h' : jH), ok r h' → jW X G nL (k + mc) (n + ms) pc' l (r.toList ++ rest) h') : jW X G nL k n pc l stk h := by
  subst hp
  intro H locs ls hR hS hl T hT X0
  rcases hr H locs ls hR hS hl T hT X0 with ⟨v, st₀, t, T', L, h0, X', hL, e1, e2, ⟨⟨r, h', hv, hok, hR'⟩, hF⟩, st⟩ | ⟨q, st₀, t, T', L, E, ce, h0, X', hL, e1, e2, ⟨⟨h', hex, hR'⟩, hF⟩, hce, hcv, hcl, st⟩
  · cases hv
    obtain ⟨-, -, hS'⟩ := vx_keep h0 e1 hS (fun q _ z => z) (fun q z => z) hL hF
    obtain ⟨t2, a1, b1⟩ := kk v h' hok T'.heap (locs ++ L) ls (by rw [e1]; exact hR') hS' hl T' rfl X'
    exact ⟨t2, st t2 a1, b1⟩
  · obtain ⟨-, -, hS'⟩ := vx_keep h0 e1 hS (fun q _ z => z) (fun q z => z) hL hF
    obtain ⟨t2, a1, b1⟩ := kx E h' hex T'.heap (locs ++ L) ls rest q ce (by rw [e1]; exact hR') hS' hl (by rw [e1]; exact hce) hcv hcl T' rfl X'
    exact ⟨t2, st.trans a1, b1⟩
theorem jC.pre (C : jC X G cc nL Ts own) {av : List Value} {H : Heap} {locs : List Loc} (hR : jR G h H) (hS : va_S (jA G) X.2.2.2.2.1.heap H locs) : ∀ U : State, U.heap = H → X.2.2.2.2.1.WarmedH U.vm → jPc G av h av.toArray U := fun U hU hW => ⟨rfl, by rw [hU]; exact Nat.le_trans C.2.2.2.2.2.2.1 hS.1, by rw [hU]; exact hR, by rw [hU]; exact jS.move hW (fun q h1 h2 => hS.2.1 q h1 h2) C.2.2.2.2.2.2.2.1⟩
theorem jC.recv (C : jC X G cc nL Ts own) {b ci : Nat} {fs : List Value} {r : vw_C} {H : Heap} (hR : jR G h H) (hh : h b = some (.inr (ci, fs))) (hc : vwCl[ci]? = some r) : ∃ cell : Cell, H[b]? = some cell ∧ cell.vm.isStatics = false ∧ X.2.2.2.2.1.vm.findClass r.1 = some cell.cls := by
  obtain ⟨ws, hP, hD, h1, h2⟩ := jR.list hR
  obtain ⟨q0, hq0⟩ := h2 b _ hh
  exact va_recv C.K hP hc hq0
theorem j_callV (C : jC X G cc nL Ts own) {CN : String} {T : u_T} {N index b ci maxL na mc ms f lo : Nat} {y : MethodName} {bytes : ByteArray} {ret : Option FieldType} {ws : List Cond} {fs As stk rest : List Value} {ok : Option Value → jH → Prop} {ex : String → jH → Prop}
    (hM : jM X.2.1 G y ws f lo mc ms (.ref b :: As) h ok ex) (cw : CallW X.2.2.2.1 X.2.2.2.2.1 X.2.2.2.2.2.2.1 own CN index y bytes maxL ret ws { frames := f, cells := mc, slots := ms, locals := lo } mc ms na) (hh : h b = some (.inr (ci, fs))) (hc : vwCl[ci]? = some (CN, T, N)) (hn : As.length = na) (hst : stk = As.reverse ++ .ref b :: rest) (hW : (rest.map fun v => v.category).sum ≤ 8) (hd : decode cc pc = .ok (.invokevirtual index, 3)) (hp : pc + 3 = pc') (hk : k + mc ≤ X.2.2.2.1.cells) (hms : n + ms ≤ X.2.2.2.1.slots)
    (kx : ∀ (E : String) (h' : jH), ex E h' → jXW X G nL (k + mc) (n + ms) pc l h' E) (kk : ∀ (r : Option Value) (h' : jH), ok r h' → jW X G nL (k + mc) (n + ms) pc' l (r.toList ++ rest) h') : jW X G nL k n pc l stk h :=
  j_run C (fun H locs ls hR hS hl => vx_runV ⟨C.1, C.2.1, C.2.2.1, C.2.2.2.1, C.2.2.2.2.1⟩ hM cw ⟨jPc.blind G _ _, C.recv hR hh hc, C.pre hR hS⟩ rfl hn hl.1 hst (lv_room hW) hd ⟨hk, hms⟩) hp kx kk
theorem j_callS (C : jC X G cc nL Ts own) {index maxL na mc ms f lo : Nat} {y : MethodName} {bytes : ByteArray} {ret : Option FieldType} {ws : List Cond} {As stk rest : List Value} {ok : Option Value → jH → Prop} {ex : String → jH → Prop}
    (hM : jM X.2.1 G y ws f lo mc ms As h ok ex) (cw : CallB X.2.2.2.1 X.2.2.2.2.1 X.2.2.2.2.2.2.1 own index y bytes maxL ret ws { frames := f, cells := mc, slots := ms, locals := lo } mc ms na ∧ (Cond.static y).before X.2.2.2.2.2.2.1 X.2.2.2.2.1 = true) (hn : As.length = na) (hst : stk = As.reverse ++ rest) (hW : (rest.map fun v => v.category).sum ≤ 8) (hd : decode cc pc = .ok (.invokestatic index, 3)) (hp : pc + 3 = pc') (hk : k + mc ≤ X.2.2.2.1.cells) (hms : n + ms ≤ X.2.2.2.1.slots)
    (kx : ∀ (E : String) (h' : jH), ex E h' → jXW X G nL (k + mc) (n + ms) pc l h' E) (kk : ∀ (r : Option Value) (h' : jH), ok r h' → jW X G nL (k + mc) (n + ms) pc' l (r.toList ++ rest) h') : jW X G nL k n pc l stk h :=
  j_run C (fun H locs ls hR hS hl => vx_runS ⟨C.1, C.2.1, C.2.2.1, C.2.2.2.1, C.2.2.2.2.1⟩ hM cw ⟨jPc.blind G _ _, C.pre hR hS⟩ rfl hn hl.1 hst (lv_room hW) hd ⟨hk, hms⟩) hp kx kk
/-! ends -/
theorem j_iret (C : jC X G cc nL Ts own) {ok : Option Value → jH → Prop} {ex : String → jH → Prop} {mc ms : Nat} {ty : FieldType} {v : Int32} (E : jE X G ok ex mc ms (some ty)) (hd : decode cc pc = .ok (.ireturn, 1)) (hn : narrow ty (.int v) = .int v) (hk : k ≤ mc) (hs : n ≤ ms) (ho : ok (some (.int v)) h) : jW X G nL k n pc l [.int v] h := by
  intro H locs ls hR hS hl
  rw [E.1]
  exact W.widen hk hs (vx_ret (W.zret (hlocks := C.2.2.2.2.2.1) C.1 C.2.1 E.2.1 hn (fun t ht hW => ⟨⟨_, h, rfl, ho, by rw [ht]; exact hR⟩, by have := hS.F ht; exact this⟩) hS.2.2 hd))
theorem j_lret (C : jC X G cc nL Ts own) {ok : Option Value → jH → Prop} {ex : String → jH → Prop} {mc ms : Nat} {v : Int64} (E : jE X G ok ex mc ms (some .long)) (hd : decode cc pc = .ok (.lreturn, 1)) (hk : k ≤ mc) (hs : n ≤ ms) (ho : ok (some (.long v)) h) : jW X G nL k n pc l [.long v] h := by
  intro H locs ls hR hS hl
  rw [E.1]
  exact W.widen hk hs (vx_ret (W.lret (hlocks := C.2.2.2.2.2.1) C.1 C.2.1 E.2.1 (fun t ht hW => ⟨⟨_, h, rfl, ho, by rw [ht]; exact hR⟩, by have := hS.F ht; exact this⟩) hS.2.2 hd))
theorem j_vret (C : jC X G cc nL Ts own) {ok : Option Value → jH → Prop} {ex : String → jH → Prop} {mc ms : Nat} (E : jE X G ok ex mc ms none) (hd : decode cc pc = .ok (.return_, 1)) (hk : k ≤ mc) (hs : n ≤ ms) (ho : ok none h) : jW X G nL k n pc l [] h := by
  intro H locs ls hR hS hl
  rw [E.1]
  exact W.widen hk hs (vx_ret (W.vret (hlocks := C.2.2.2.2.2.1) C.1 C.2.1 E.2.1 (fun t ht hW => ⟨⟨_, h, rfl, ho, by rw [ht]; exact hR⟩, by have := hS.F ht; exact this⟩) hS.2.2 hd))
theorem j_aret (C : jC X G cc nL Ts own) {ok : Option Value → jH → Prop} {ex : String → jH → Prop} {mc ms : Nat} {v : Value} {rt : FieldType} (E : jE X G ok ex mc ms (some rt)) (hrt : (∃ n, rt = .object n) ∨ ∃ t, rt = .array t) (hv : v = .null ∨ ∃ a, v = .ref a) (hd : decode cc pc = .ok (.areturn, 1)) (hk : k ≤ mc) (hs : n ≤ ms) (ho : ok (some v) h) : jW X G nL k n pc l [v] h := by
  intro H locs ls hR hS hl
  rw [E.1]
  exact W.widen hk hs (vx_ret (W.aret (hlocks := C.2.2.2.2.2.1) C.1 C.2.1 E.2.1 hrt hv (fun t ht hW => ⟨⟨_, h, rfl, ho, by rw [ht]; exact hR⟩, by have := hS.F ht; exact this⟩) hS.2.2 hd))
/-- a callee's throw goes on to the caller's caller -/
theorem j_out (C : jC X G cc nL Ts own) {ok : Option Value → jH → Prop} {ex : String → jH → Prop} {mc ms : Nat} {ret : Option FieldType} {E0 : String} (E : jE X G ok ex mc ms ret) (hk : k ≤ mc) (hs : n ≤ ms) (hx : ex E0 h) : jXW X G nL k n pc l h E0 := by
  intro H locs ls rest q ce hR hS hl hce hcv hcl
  rw [E.1]
  exact vx_out (fun x hx' => (E.2.2.2.2 x hx').elim) C.2.2.2.2.2.1 hce hcv hcl (fun t ht ha => ⟨⟨h, hx, by rw [ht]; exact hR⟩, by have := hS.F ht; exact this⟩) hS.2.2 hk hs
/-- the walk of a body gives its contract -/
theorem jM_of {y : MethodName} {ws ws' : List Cond} {f lo mc ms maxL : Nat} {av : List Value} {l : Launch} {ok : Option Value → jH → Prop} {ex : String → jH → Prop} {ret : Option FieldType} (hlt : l.stackTraces = false) (hy : plainName y.cls = true) (hw : ws = Cond.code y cc maxL ret :: ws') (hsl : (lg_sl av).length ≤ maxL)
    (body : ∀ X : jX, jC X G cc maxL ws y.cls → jE X G ok ex mc ms ret → X.2.1 = l → X.2.2.2.1 = { frames := f, cells := mc, slots := ms, locals := lo } → X.2.2.2.2.2.2.2.2.1.name = y.name → jW X G maxL 0 0 0 (lv_args 0 av) [] h) : jM l G y ws f lo mc ms av h ok ex := by
  refine vx_ofW (cc := cc) (maxL := maxL) (ret := ret) hy hw ?_
  intro p e s m args below meth c s₁ B hml hno hv
  obtain ⟨rfl, hsz, hR, hSS⟩ := hv
  have hts := atoms_spec (ws := ws) B.pre
  have hown := findClass_of_methodNamed B.named
  have hX := body (p, l, e, { frames := f, cells := mc, slots := ms, locals := lo }, s, m, av.toArray, below, meth, c, vx_MQ below (jQc G ok) (jXC G ex) av.toArray s mc ms (jA G))
    ⟨B.exec, B.bytes, hml, hown, hts, B.notSynchronized, hsz, hSS, hlt⟩ ⟨rfl, B.returns, rfl, rfl, hno⟩ rfl rfl ((name_of_methodNamed B.named B.method).1)
  rw [lg_entry_eq]
  exact hX s.heap [] _ hR va_S.rf (lv_entry av (n := maxL) hsl)
end JAY
end
section
theorem i_vc : Claimed_1_1 ∧ Claimed_1_2 := sorry
end
