section
-- ===== PART A: goes FIRST, ahead of the names: the tables' words, and 'selects' of the private methods out of them =====
/-- a private method of a class that the tables say can be made, by its rows of tables_1 -/
def lw_okq (q : MethodName × Nat) : Prop := (q.1.cls ≠ "java/lang/invoke/MethodHandle" ∧ q.1.cls ≠ "java/lang/invoke/VarHandle") ∧ Cond.instantiable q.1.cls q.2 ∈ tables_1 ∧ Cond.privateMethod q.1 ∈ tables_1 ∧ Cond.instanceMethod q.1 ∈ tables_1
theorem lw_p0 : lw_okq (⟨"SubstituteDesk$School", "reset", "()V"⟩, 19) := ⟨⟨by decide +kernel, by decide +kernel⟩, List.mem_of_getElem? (i := 33) (by decide +kernel), List.mem_of_getElem? (i := 39) (by decide +kernel), List.mem_of_getElem? (i := 40) (by decide +kernel)⟩
theorem lw_p1 : lw_okq (⟨"SubstituteDesk$History", "forget", "()V"⟩, 3) := ⟨⟨by decide +kernel, by decide +kernel⟩, List.mem_of_getElem? (i := 131) (by decide +kernel), List.mem_of_getElem? (i := 292) (by decide +kernel), List.mem_of_getElem? (i := 293) (by decide +kernel)⟩
theorem lw_p2 : lw_okq (⟨"SubstituteDesk$School", "pointsFoundAnew", "(I)I"⟩, 19) := ⟨⟨by decide +kernel, by decide +kernel⟩, List.mem_of_getElem? (i := 33) (by decide +kernel), List.mem_of_getElem? (i := 303) (by decide +kernel), List.mem_of_getElem? (i := 304) (by decide +kernel)⟩
theorem lw_p3 : lw_okq (⟨"SubstituteDesk$School", "stateOf", "(I)I"⟩, 19) := ⟨⟨by decide +kernel, by decide +kernel⟩, List.mem_of_getElem? (i := 33) (by decide +kernel), List.mem_of_getElem? (i := 307) (by decide +kernel), List.mem_of_getElem? (i := 308) (by decide +kernel)⟩
theorem lw_p4 : lw_okq (⟨"SubstituteDesk$School", "actingOf", "(I)I"⟩, 19) := ⟨⟨by decide +kernel, by decide +kernel⟩, List.mem_of_getElem? (i := 33) (by decide +kernel), List.mem_of_getElem? (i := 311) (by decide +kernel), List.mem_of_getElem? (i := 312) (by decide +kernel)⟩
theorem lw_p5 : lw_okq (⟨"SubstituteDesk$School", "pointsFor", "(II)I"⟩, 19) := ⟨⟨by decide +kernel, by decide +kernel⟩, List.mem_of_getElem? (i := 33) (by decide +kernel), List.mem_of_getElem? (i := 316) (by decide +kernel), List.mem_of_getElem? (i := 317) (by decide +kernel)⟩
theorem lw_p6 : lw_okq (⟨"SubstituteDesk$School", "hasSubject", "(II)Z"⟩, 19) := ⟨⟨by decide +kernel, by decide +kernel⟩, List.mem_of_getElem? (i := 33) (by decide +kernel), List.mem_of_getElem? (i := 320) (by decide +kernel), List.mem_of_getElem? (i := 321) (by decide +kernel)⟩
theorem lw_p7 : lw_okq (⟨"SubstituteDesk$School", "copyFrom", "(LSubstituteDesk$School;)V"⟩, 19) := ⟨⟨by decide +kernel, by decide +kernel⟩, List.mem_of_getElem? (i := 33) (by decide +kernel), List.mem_of_getElem? (i := 328) (by decide +kernel), List.mem_of_getElem? (i := 329) (by decide +kernel)⟩
theorem lw_p8 : lw_okq (⟨"java/lang/Throwable", "fillInStackTrace", "(I)Ljava/lang/Throwable;"⟩, 6) := ⟨⟨by decide +kernel, by decide +kernel⟩, List.mem_of_getElem? (i := 392) (by decide +kernel), List.mem_of_getElem? (i := 390) (by decide +kernel), List.mem_of_getElem? (i := 391) (by decide +kernel)⟩
theorem lw_p9 : lw_okq (⟨"SubstituteDesk$History", "remember", "(LSubstituteDesk$School;)V"⟩, 3) := ⟨⟨by decide +kernel, by decide +kernel⟩, List.mem_of_getElem? (i := 131) (by decide +kernel), List.mem_of_getElem? (i := 438) (by decide +kernel), List.mem_of_getElem? (i := 439) (by decide +kernel)⟩
theorem lw_p10 : lw_okq (⟨"SubstituteDesk$History", "newestPast", "()LSubstituteDesk$School;"⟩, 3) := ⟨⟨by decide +kernel, by decide +kernel⟩, List.mem_of_getElem? (i := 131) (by decide +kernel), List.mem_of_getElem? (i := 442) (by decide +kernel), List.mem_of_getElem? (i := 443) (by decide +kernel)⟩
theorem lw_p11 : lw_okq (⟨"SubstituteDesk$School", "putTeacher", "(II)I"⟩, 19) := ⟨⟨by decide +kernel, by decide +kernel⟩, List.mem_of_getElem? (i := 33) (by decide +kernel), List.mem_of_getElem? (i := 450) (by decide +kernel), List.mem_of_getElem? (i := 451) (by decide +kernel)⟩
theorem lw_p12 : lw_okq (⟨"SubstituteDesk", "needTeacher", "(I)V"⟩, 10) := ⟨⟨by decide +kernel, by decide +kernel⟩, List.mem_of_getElem? (i := 25) (by decide +kernel), List.mem_of_getElem? (i := 488) (by decide +kernel), List.mem_of_getElem? (i := 489) (by decide +kernel)⟩
theorem lw_p13 : lw_okq (⟨"SubstituteDesk$School", "allowsSize", "(II)Z"⟩, 19) := ⟨⟨by decide +kernel, by decide +kernel⟩, List.mem_of_getElem? (i := 33) (by decide +kernel), List.mem_of_getElem? (i := 519) (by decide +kernel), List.mem_of_getElem? (i := 520) (by decide +kernel)⟩
theorem lw_p14 : lw_okq (⟨"SubstituteDesk$School", "guestsOf", "(I)I"⟩, 19) := ⟨⟨by decide +kernel, by decide +kernel⟩, List.mem_of_getElem? (i := 33) (by decide +kernel), List.mem_of_getElem? (i := 523) (by decide +kernel), List.mem_of_getElem? (i := 524) (by decide +kernel)⟩
theorem lw_p15 : lw_okq (⟨"SubstituteDesk$School", "firstPart", "(I)I"⟩, 19) := ⟨⟨by decide +kernel, by decide +kernel⟩, List.mem_of_getElem? (i := 33) (by decide +kernel), List.mem_of_getElem? (i := 527) (by decide +kernel), List.mem_of_getElem? (i := 528) (by decide +kernel)⟩
def lw_privs_1 : List (MethodName × Nat) := [(⟨"SubstituteDesk$School", "reset", "()V"⟩, 19), (⟨"SubstituteDesk$History", "forget", "()V"⟩, 3), (⟨"SubstituteDesk$School", "pointsFoundAnew", "(I)I"⟩, 19), (⟨"SubstituteDesk$School", "stateOf", "(I)I"⟩, 19), (⟨"SubstituteDesk$School", "actingOf", "(I)I"⟩, 19), (⟨"SubstituteDesk$School", "pointsFor", "(II)I"⟩, 19), (⟨"SubstituteDesk$School", "hasSubject", "(II)Z"⟩, 19), (⟨"SubstituteDesk$School", "copyFrom", "(LSubstituteDesk$School;)V"⟩, 19), (⟨"java/lang/Throwable", "fillInStackTrace", "(I)Ljava/lang/Throwable;"⟩, 6), (⟨"SubstituteDesk$History", "remember", "(LSubstituteDesk$School;)V"⟩, 3), (⟨"SubstituteDesk$History", "newestPast", "()LSubstituteDesk$School;"⟩, 3), (⟨"SubstituteDesk$School", "putTeacher", "(II)I"⟩, 19), (⟨"SubstituteDesk", "needTeacher", "(I)V"⟩, 10), (⟨"SubstituteDesk$School", "allowsSize", "(II)Z"⟩, 19), (⟨"SubstituteDesk$School", "guestsOf", "(I)I"⟩, 19), (⟨"SubstituteDesk$School", "firstPart", "(I)I"⟩, 19)]
theorem lw_r1 : ∀ q ∈ lw_privs_1, lw_okq q := List.forall_mem_cons.mpr ⟨lw_p0, List.forall_mem_cons.mpr ⟨lw_p1, List.forall_mem_cons.mpr ⟨lw_p2, List.forall_mem_cons.mpr ⟨lw_p3, List.forall_mem_cons.mpr ⟨lw_p4, List.forall_mem_cons.mpr ⟨lw_p5, List.forall_mem_cons.mpr ⟨lw_p6, List.forall_mem_cons.mpr ⟨lw_p7, List.forall_mem_cons.mpr ⟨lw_p8, List.forall_mem_cons.mpr ⟨lw_p9, List.forall_mem_cons.mpr ⟨lw_p10, List.forall_mem_cons.mpr ⟨lw_p11, List.forall_mem_cons.mpr ⟨lw_p12, List.forall_mem_cons.mpr ⟨lw_p13, List.forall_mem_cons.mpr ⟨lw_p14, List.forall_mem_cons.mpr ⟨lw_p15, fun _ h => absurd h List.not_mem_nil⟩⟩⟩⟩⟩⟩⟩⟩⟩⟩⟩⟩⟩⟩⟩⟩
theorem lw_p16 : lw_okq (⟨"SubstituteDesk$School", "sizeOf", "(I)I"⟩, 19) := ⟨⟨by decide +kernel, by decide +kernel⟩, List.mem_of_getElem? (i := 33) (by decide +kernel), List.mem_of_getElem? (i := 531) (by decide +kernel), List.mem_of_getElem? (i := 532) (by decide +kernel)⟩
theorem lw_p17 : lw_okq (⟨"SubstituteDesk$School", "secondPart", "(I)I"⟩, 19) := ⟨⟨by decide +kernel, by decide +kernel⟩, List.mem_of_getElem? (i := 33) (by decide +kernel), List.mem_of_getElem? (i := 535) (by decide +kernel), List.mem_of_getElem? (i := 536) (by decide +kernel)⟩
theorem lw_p18 : lw_okq (⟨"SubstituteDesk$School", "capacityOf", "(I)I"⟩, 19) := ⟨⟨by decide +kernel, by decide +kernel⟩, List.mem_of_getElem? (i := 33) (by decide +kernel), List.mem_of_getElem? (i := 539) (by decide +kernel), List.mem_of_getElem? (i := 540) (by decide +kernel)⟩
theorem lw_p19 : lw_okq (⟨"SubstituteDesk$School", "allowsCapacity", "(II)Z"⟩, 19) := ⟨⟨by decide +kernel, by decide +kernel⟩, List.mem_of_getElem? (i := 33) (by decide +kernel), List.mem_of_getElem? (i := 551) (by decide +kernel), List.mem_of_getElem? (i := 552) (by decide +kernel)⟩
theorem lw_p20 : lw_okq (⟨"SubstituteDesk$School", "loadOf", "(I)I"⟩, 19) := ⟨⟨by decide +kernel, by decide +kernel⟩, List.mem_of_getElem? (i := 33) (by decide +kernel), List.mem_of_getElem? (i := 555) (by decide +kernel), List.mem_of_getElem? (i := 556) (by decide +kernel)⟩
theorem lw_p21 : lw_okq (⟨"SubstituteDesk$School", "faultOfLesson", "(IIIII)I"⟩, 19) := ⟨⟨by decide +kernel, by decide +kernel⟩, List.mem_of_getElem? (i := 33) (by decide +kernel), List.mem_of_getElem? (i := 568) (by decide +kernel), List.mem_of_getElem? (i := 569) (by decide +kernel)⟩
theorem lw_p22 : lw_okq (⟨"SubstituteDesk$School", "lessonIn", "(I[II)I"⟩, 19) := ⟨⟨by decide +kernel, by decide +kernel⟩, List.mem_of_getElem? (i := 33) (by decide +kernel), List.mem_of_getElem? (i := 573) (by decide +kernel), List.mem_of_getElem? (i := 574) (by decide +kernel)⟩
theorem lw_p23 : lw_okq (⟨"SubstituteDesk$School", "putLesson", "(IIIII)I"⟩, 19) := ⟨⟨by decide +kernel, by decide +kernel⟩, List.mem_of_getElem? (i := 33) (by decide +kernel), List.mem_of_getElem? (i := 594) (by decide +kernel), List.mem_of_getElem? (i := 595) (by decide +kernel)⟩
theorem lw_p24 : lw_okq (⟨"SubstituteDesk", "needLesson", "(I)V"⟩, 10) := ⟨⟨by decide +kernel, by decide +kernel⟩, List.mem_of_getElem? (i := 25) (by decide +kernel), List.mem_of_getElem? (i := 605) (by decide +kernel), List.mem_of_getElem? (i := 606) (by decide +kernel)⟩
theorem lw_p25 : lw_okq (⟨"SubstituteDesk$School", "dropLesson", "(I)V"⟩, 19) := ⟨⟨by decide +kernel, by decide +kernel⟩, List.mem_of_getElem? (i := 33) (by decide +kernel), List.mem_of_getElem? (i := 609) (by decide +kernel), List.mem_of_getElem? (i := 610) (by decide +kernel)⟩
theorem lw_p26 : lw_okq (⟨"SubstituteDesk$School", "endAllWith", "(I)I"⟩, 19) := ⟨⟨by decide +kernel, by decide +kernel⟩, List.mem_of_getElem? (i := 33) (by decide +kernel), List.mem_of_getElem? (i := 613) (by decide +kernel), List.mem_of_getElem? (i := 614) (by decide +kernel)⟩
theorem lw_p27 : lw_okq (⟨"SubstituteDesk$School", "endSplitsWith", "(I)I"⟩, 19) := ⟨⟨by decide +kernel, by decide +kernel⟩, List.mem_of_getElem? (i := 33) (by decide +kernel), List.mem_of_getElem? (i := 617) (by decide +kernel), List.mem_of_getElem? (i := 618) (by decide +kernel)⟩
theorem lw_p28 : lw_okq (⟨"SubstituteDesk$School", "isSplitWith", "(II)Z"⟩, 19) := ⟨⟨by decide +kernel, by decide +kernel⟩, List.mem_of_getElem? (i := 33) (by decide +kernel), List.mem_of_getElem? (i := 621) (by decide +kernel), List.mem_of_getElem? (i := 622) (by decide +kernel)⟩
theorem lw_p29 : lw_okq (⟨"SubstituteDesk$School", "endSplit", "(I)V"⟩, 19) := ⟨⟨by decide +kernel, by decide +kernel⟩, List.mem_of_getElem? (i := 33) (by decide +kernel), List.mem_of_getElem? (i := 625) (by decide +kernel), List.mem_of_getElem? (i := 626) (by decide +kernel)⟩
theorem lw_p30 : lw_okq (⟨"SubstituteDesk$School", "addPoints", "(II)V"⟩, 19) := ⟨⟨by decide +kernel, by decide +kernel⟩, List.mem_of_getElem? (i := 33) (by decide +kernel), List.mem_of_getElem? (i := 629) (by decide +kernel), List.mem_of_getElem? (i := 630) (by decide +kernel)⟩
theorem lw_p31 : lw_okq (⟨"SubstituteDesk$School", "endCover", "(I)I"⟩, 19) := ⟨⟨by decide +kernel, by decide +kernel⟩, List.mem_of_getElem? (i := 33) (by decide +kernel), List.mem_of_getElem? (i := 633) (by decide +kernel), List.mem_of_getElem? (i := 634) (by decide +kernel)⟩
def lw_privs_2 : List (MethodName × Nat) := [(⟨"SubstituteDesk$School", "sizeOf", "(I)I"⟩, 19), (⟨"SubstituteDesk$School", "secondPart", "(I)I"⟩, 19), (⟨"SubstituteDesk$School", "capacityOf", "(I)I"⟩, 19), (⟨"SubstituteDesk$School", "allowsCapacity", "(II)Z"⟩, 19), (⟨"SubstituteDesk$School", "loadOf", "(I)I"⟩, 19), (⟨"SubstituteDesk$School", "faultOfLesson", "(IIIII)I"⟩, 19), (⟨"SubstituteDesk$School", "lessonIn", "(I[II)I"⟩, 19), (⟨"SubstituteDesk$School", "putLesson", "(IIIII)I"⟩, 19), (⟨"SubstituteDesk", "needLesson", "(I)V"⟩, 10), (⟨"SubstituteDesk$School", "dropLesson", "(I)V"⟩, 19), (⟨"SubstituteDesk$School", "endAllWith", "(I)I"⟩, 19), (⟨"SubstituteDesk$School", "endSplitsWith", "(I)I"⟩, 19), (⟨"SubstituteDesk$School", "isSplitWith", "(II)Z"⟩, 19), (⟨"SubstituteDesk$School", "endSplit", "(I)V"⟩, 19), (⟨"SubstituteDesk$School", "addPoints", "(II)V"⟩, 19), (⟨"SubstituteDesk$School", "endCover", "(I)I"⟩, 19)]
theorem lw_r2 : ∀ q ∈ lw_privs_2, lw_okq q := List.forall_mem_cons.mpr ⟨lw_p16, List.forall_mem_cons.mpr ⟨lw_p17, List.forall_mem_cons.mpr ⟨lw_p18, List.forall_mem_cons.mpr ⟨lw_p19, List.forall_mem_cons.mpr ⟨lw_p20, List.forall_mem_cons.mpr ⟨lw_p21, List.forall_mem_cons.mpr ⟨lw_p22, List.forall_mem_cons.mpr ⟨lw_p23, List.forall_mem_cons.mpr ⟨lw_p24, List.forall_mem_cons.mpr ⟨lw_p25, List.forall_mem_cons.mpr ⟨lw_p26, List.forall_mem_cons.mpr ⟨lw_p27, List.forall_mem_cons.mpr ⟨lw_p28, List.forall_mem_cons.mpr ⟨lw_p29, List.forall_mem_cons.mpr ⟨lw_p30, List.forall_mem_cons.mpr ⟨lw_p31, fun _ h => absurd h List.not_mem_nil⟩⟩⟩⟩⟩⟩⟩⟩⟩⟩⟩⟩⟩⟩⟩⟩
theorem lw_p32 : lw_okq (⟨"SubstituteDesk$School", "moveHosts", "([II)V"⟩, 19) := ⟨⟨by decide +kernel, by decide +kernel⟩, List.mem_of_getElem? (i := 33) (by decide +kernel), List.mem_of_getElem? (i := 643) (by decide +kernel), List.mem_of_getElem? (i := 644) (by decide +kernel)⟩
theorem lw_p33 : lw_okq (⟨"SubstituteDesk$School", "allowsRoom", "(II)Z"⟩, 19) := ⟨⟨by decide +kernel, by decide +kernel⟩, List.mem_of_getElem? (i := 33) (by decide +kernel), List.mem_of_getElem? (i := 654) (by decide +kernel), List.mem_of_getElem? (i := 655) (by decide +kernel)⟩
theorem lw_p34 : lw_okq (⟨"SubstituteDesk$School", "lessonsIn", "(I)I"⟩, 19) := ⟨⟨by decide +kernel, by decide +kernel⟩, List.mem_of_getElem? (i := 33) (by decide +kernel), List.mem_of_getElem? (i := 666) (by decide +kernel), List.mem_of_getElem? (i := 667) (by decide +kernel)⟩
theorem lw_p35 : lw_okq (⟨"SubstituteDesk$School", "shareOf", "(I)I"⟩, 19) := ⟨⟨by decide +kernel, by decide +kernel⟩, List.mem_of_getElem? (i := 33) (by decide +kernel), List.mem_of_getElem? (i := 688) (by decide +kernel), List.mem_of_getElem? (i := 689) (by decide +kernel)⟩
theorem lw_p36 : lw_okq (⟨"SubstituteDesk$School", "shareFor", "(II)I"⟩, 19) := ⟨⟨by decide +kernel, by decide +kernel⟩, List.mem_of_getElem? (i := 33) (by decide +kernel), List.mem_of_getElem? (i := 692) (by decide +kernel), List.mem_of_getElem? (i := 693) (by decide +kernel)⟩
theorem lw_p37 : lw_okq (⟨"SubstituteDesk$School", "ownLessons", "(I)I"⟩, 19) := ⟨⟨by decide +kernel, by decide +kernel⟩, List.mem_of_getElem? (i := 33) (by decide +kernel), List.mem_of_getElem? (i := 696) (by decide +kernel), List.mem_of_getElem? (i := 697) (by decide +kernel)⟩
theorem lw_p38 : lw_okq (⟨"SubstituteDesk$School", "coversOf", "(I)I"⟩, 19) := ⟨⟨by decide +kernel, by decide +kernel⟩, List.mem_of_getElem? (i := 33) (by decide +kernel), List.mem_of_getElem? (i := 700) (by decide +kernel), List.mem_of_getElem? (i := 701) (by decide +kernel)⟩
theorem lw_p39 : lw_okq (⟨"SubstituteDesk$School", "coversOn", "(II)I"⟩, 19) := ⟨⟨by decide +kernel, by decide +kernel⟩, List.mem_of_getElem? (i := 33) (by decide +kernel), List.mem_of_getElem? (i := 704) (by decide +kernel), List.mem_of_getElem? (i := 705) (by decide +kernel)⟩
theorem lw_p40 : lw_okq (⟨"SubstituteDesk$School", "dayOf", "(I)I"⟩, 19) := ⟨⟨by decide +kernel, by decide +kernel⟩, List.mem_of_getElem? (i := 33) (by decide +kernel), List.mem_of_getElem? (i := 708) (by decide +kernel), List.mem_of_getElem? (i := 709) (by decide +kernel)⟩
theorem lw_p41 : lw_okq (⟨"SubstituteDesk$School", "untaughtLessons", "(I)I"⟩, 19) := ⟨⟨by decide +kernel, by decide +kernel⟩, List.mem_of_getElem? (i := 33) (by decide +kernel), List.mem_of_getElem? (i := 712) (by decide +kernel), List.mem_of_getElem? (i := 713) (by decide +kernel)⟩
theorem lw_p42 : lw_okq (⟨"SubstituteDesk$School", "isAbsentIn", "(II)Z"⟩, 19) := ⟨⟨by decide +kernel, by decide +kernel⟩, List.mem_of_getElem? (i := 33) (by decide +kernel), List.mem_of_getElem? (i := 748) (by decide +kernel), List.mem_of_getElem? (i := 749) (by decide +kernel)⟩
theorem lw_p43 : lw_okq (⟨"SubstituteDesk$School", "turnAbsence", "(II)I"⟩, 19) := ⟨⟨by decide +kernel, by decide +kernel⟩, List.mem_of_getElem? (i := 33) (by decide +kernel), List.mem_of_getElem? (i := 753) (by decide +kernel), List.mem_of_getElem? (i := 754) (by decide +kernel)⟩
theorem lw_p44 : lw_okq (⟨"SubstituteDesk$School", "absentPeriods", "(II)I"⟩, 19) := ⟨⟨by decide +kernel, by decide +kernel⟩, List.mem_of_getElem? (i := 33) (by decide +kernel), List.mem_of_getElem? (i := 764) (by decide +kernel), List.mem_of_getElem? (i := 765) (by decide +kernel)⟩
theorem lw_p45 : lw_okq (⟨"SubstituteDesk$School", "freePeriods", "(II)I"⟩, 19) := ⟨⟨by decide +kernel, by decide +kernel⟩, List.mem_of_getElem? (i := 33) (by decide +kernel), List.mem_of_getElem? (i := 775) (by decide +kernel), List.mem_of_getElem? (i := 776) (by decide +kernel)⟩
theorem lw_p46 : lw_okq (⟨"SubstituteDesk$School", "isFreeIn", "(II)Z"⟩, 19) := ⟨⟨by decide +kernel, by decide +kernel⟩, List.mem_of_getElem? (i := 33) (by decide +kernel), List.mem_of_getElem? (i := 779) (by decide +kernel), List.mem_of_getElem? (i := 780) (by decide +kernel)⟩
theorem lw_p47 : lw_okq (⟨"SubstituteDesk$School", "roomsFreeIn", "(I)I"⟩, 19) := ⟨⟨by decide +kernel, by decide +kernel⟩, List.mem_of_getElem? (i := 33) (by decide +kernel), List.mem_of_getElem? (i := 791) (by decide +kernel), List.mem_of_getElem? (i := 792) (by decide +kernel)⟩
def lw_privs_3 : List (MethodName × Nat) := [(⟨"SubstituteDesk$School", "moveHosts", "([II)V"⟩, 19), (⟨"SubstituteDesk$School", "allowsRoom", "(II)Z"⟩, 19), (⟨"SubstituteDesk$School", "lessonsIn", "(I)I"⟩, 19), (⟨"SubstituteDesk$School", "shareOf", "(I)I"⟩, 19), (⟨"SubstituteDesk$School", "shareFor", "(II)I"⟩, 19), (⟨"SubstituteDesk$School", "ownLessons", "(I)I"⟩, 19), (⟨"SubstituteDesk$School", "coversOf", "(I)I"⟩, 19), (⟨"SubstituteDesk$School", "coversOn", "(II)I"⟩, 19), (⟨"SubstituteDesk$School", "dayOf", "(I)I"⟩, 19), (⟨"SubstituteDesk$School", "untaughtLessons", "(I)I"⟩, 19), (⟨"SubstituteDesk$School", "isAbsentIn", "(II)Z"⟩, 19), (⟨"SubstituteDesk$School", "turnAbsence", "(II)I"⟩, 19), (⟨"SubstituteDesk$School", "absentPeriods", "(II)I"⟩, 19), (⟨"SubstituteDesk$School", "freePeriods", "(II)I"⟩, 19), (⟨"SubstituteDesk$School", "isFreeIn", "(II)Z"⟩, 19), (⟨"SubstituteDesk$School", "roomsFreeIn", "(I)I"⟩, 19)]
theorem lw_r3 : ∀ q ∈ lw_privs_3, lw_okq q := List.forall_mem_cons.mpr ⟨lw_p32, List.forall_mem_cons.mpr ⟨lw_p33, List.forall_mem_cons.mpr ⟨lw_p34, List.forall_mem_cons.mpr ⟨lw_p35, List.forall_mem_cons.mpr ⟨lw_p36, List.forall_mem_cons.mpr ⟨lw_p37, List.forall_mem_cons.mpr ⟨lw_p38, List.forall_mem_cons.mpr ⟨lw_p39, List.forall_mem_cons.mpr ⟨lw_p40, List.forall_mem_cons.mpr ⟨lw_p41, List.forall_mem_cons.mpr ⟨lw_p42, List.forall_mem_cons.mpr ⟨lw_p43, List.forall_mem_cons.mpr ⟨lw_p44, List.forall_mem_cons.mpr ⟨lw_p45, List.forall_mem_cons.mpr ⟨lw_p46, List.forall_mem_cons.mpr ⟨lw_p47, fun _ h => absurd h List.not_mem_nil⟩⟩⟩⟩⟩⟩⟩⟩⟩⟩⟩⟩⟩⟩⟩⟩
theorem lw_p48 : lw_okq (⟨"SubstituteDesk$School", "openCount", "(I)I"⟩, 19) := ⟨⟨by decide +kernel, by decide +kernel⟩, List.mem_of_getElem? (i := 33) (by decide +kernel), List.mem_of_getElem? (i := 802) (by decide +kernel), List.mem_of_getElem? (i := 803) (by decide +kernel)⟩
theorem lw_p49 : lw_okq (⟨"SubstituteDesk$School", "openAt", "(II)I"⟩, 19) := ⟨⟨by decide +kernel, by decide +kernel⟩, List.mem_of_getElem? (i := 33) (by decide +kernel), List.mem_of_getElem? (i := 813) (by decide +kernel), List.mem_of_getElem? (i := 814) (by decide +kernel)⟩
theorem lw_p50 : lw_okq (⟨"SubstituteDesk$School", "isOpenIn", "(II)Z"⟩, 19) := ⟨⟨by decide +kernel, by decide +kernel⟩, List.mem_of_getElem? (i := 33) (by decide +kernel), List.mem_of_getElem? (i := 817) (by decide +kernel), List.mem_of_getElem? (i := 818) (by decide +kernel)⟩
theorem lw_p51 : lw_okq (⟨"SubstituteDesk", "needState", "(II)V"⟩, 10) := ⟨⟨by decide +kernel, by decide +kernel⟩, List.mem_of_getElem? (i := 25) (by decide +kernel), List.mem_of_getElem? (i := 829) (by decide +kernel), List.mem_of_getElem? (i := 830) (by decide +kernel)⟩
theorem lw_p52 : lw_okq (⟨"SubstituteDesk$School", "reasonAgainst", "(II)I"⟩, 19) := ⟨⟨by decide +kernel, by decide +kernel⟩, List.mem_of_getElem? (i := 33) (by decide +kernel), List.mem_of_getElem? (i := 834) (by decide +kernel), List.mem_of_getElem? (i := 835) (by decide +kernel)⟩
theorem lw_p53 : lw_okq (⟨"SubstituteDesk$School", "bestFor", "(I)I"⟩, 19) := ⟨⟨by decide +kernel, by decide +kernel⟩, List.mem_of_getElem? (i := 33) (by decide +kernel), List.mem_of_getElem? (i := 853) (by decide +kernel), List.mem_of_getElem? (i := 854) (by decide +kernel)⟩
theorem lw_p54 : lw_okq (⟨"SubstituteDesk$School", "isBetterFor", "(III)Z"⟩, 19) := ⟨⟨by decide +kernel, by decide +kernel⟩, List.mem_of_getElem? (i := 33) (by decide +kernel), List.mem_of_getElem? (i := 858) (by decide +kernel), List.mem_of_getElem? (i := 859) (by decide +kernel)⟩
theorem lw_p55 : lw_okq (⟨"SubstituteDesk$School", "shareWith", "(II)I"⟩, 19) := ⟨⟨by decide +kernel, by decide +kernel⟩, List.mem_of_getElem? (i := 33) (by decide +kernel), List.mem_of_getElem? (i := 862) (by decide +kernel), List.mem_of_getElem? (i := 863) (by decide +kernel)⟩
theorem lw_p56 : lw_okq (⟨"SubstituteDesk$School", "beginCover", "(II)V"⟩, 19) := ⟨⟨by decide +kernel, by decide +kernel⟩, List.mem_of_getElem? (i := 33) (by decide +kernel), List.mem_of_getElem? (i := 875) (by decide +kernel), List.mem_of_getElem? (i := 876) (by decide +kernel)⟩
theorem lw_p57 : lw_okq (⟨"SubstituteDesk$School", "areTogether", "(II)Z"⟩, 19) := ⟨⟨by decide +kernel, by decide +kernel⟩, List.mem_of_getElem? (i := 33) (by decide +kernel), List.mem_of_getElem? (i := 895) (by decide +kernel), List.mem_of_getElem? (i := 896) (by decide +kernel)⟩
theorem lw_p58 : lw_okq (⟨"SubstituteDesk$School", "canHost", "(II)Z"⟩, 19) := ⟨⟨by decide +kernel, by decide +kernel⟩, List.mem_of_getElem? (i := 33) (by decide +kernel), List.mem_of_getElem? (i := 901) (by decide +kernel), List.mem_of_getElem? (i := 902) (by decide +kernel)⟩
theorem lw_p59 : lw_okq (⟨"SubstituteDesk$School", "beginSplit", "(III)V"⟩, 19) := ⟨⟨by decide +kernel, by decide +kernel⟩, List.mem_of_getElem? (i := 33) (by decide +kernel), List.mem_of_getElem? (i := 907) (by decide +kernel), List.mem_of_getElem? (i := 908) (by decide +kernel)⟩
theorem lw_p60 : lw_okq (⟨"SubstituteDesk$School", "coverOpenLessons", "(I)I"⟩, 19) := ⟨⟨by decide +kernel, by decide +kernel⟩, List.mem_of_getElem? (i := 33) (by decide +kernel), List.mem_of_getElem? (i := 942) (by decide +kernel), List.mem_of_getElem? (i := 943) (by decide +kernel)⟩
theorem lw_p61 : lw_okq (⟨"SubstituteDesk", "needTeachers", "()V"⟩, 10) := ⟨⟨by decide +kernel, by decide +kernel⟩, List.mem_of_getElem? (i := 25) (by decide +kernel), List.mem_of_getElem? (i := 955) (by decide +kernel), List.mem_of_getElem? (i := 956) (by decide +kernel)⟩
theorem lw_p62 : lw_okq (⟨"SubstituteDesk$School", "extremeTeacher", "(Z)I"⟩, 19) := ⟨⟨by decide +kernel, by decide +kernel⟩, List.mem_of_getElem? (i := 33) (by decide +kernel), List.mem_of_getElem? (i := 960) (by decide +kernel), List.mem_of_getElem? (i := 961) (by decide +kernel)⟩
theorem lw_p63 : lw_okq (⟨"SubstituteDesk", "planDay", "(I)V"⟩, 10) := ⟨⟨by decide +kernel, by decide +kernel⟩, List.mem_of_getElem? (i := 25) (by decide +kernel), List.mem_of_getElem? (i := 979) (by decide +kernel), List.mem_of_getElem? (i := 980) (by decide +kernel)⟩
def lw_privs_4 : List (MethodName × Nat) := [(⟨"SubstituteDesk$School", "openCount", "(I)I"⟩, 19), (⟨"SubstituteDesk$School", "openAt", "(II)I"⟩, 19), (⟨"SubstituteDesk$School", "isOpenIn", "(II)Z"⟩, 19), (⟨"SubstituteDesk", "needState", "(II)V"⟩, 10), (⟨"SubstituteDesk$School", "reasonAgainst", "(II)I"⟩, 19), (⟨"SubstituteDesk$School", "bestFor", "(I)I"⟩, 19), (⟨"SubstituteDesk$School", "isBetterFor", "(III)Z"⟩, 19), (⟨"SubstituteDesk$School", "shareWith", "(II)I"⟩, 19), (⟨"SubstituteDesk$School", "beginCover", "(II)V"⟩, 19), (⟨"SubstituteDesk$School", "areTogether", "(II)Z"⟩, 19), (⟨"SubstituteDesk$School", "canHost", "(II)Z"⟩, 19), (⟨"SubstituteDesk$School", "beginSplit", "(III)V"⟩, 19), (⟨"SubstituteDesk$School", "coverOpenLessons", "(I)I"⟩, 19), (⟨"SubstituteDesk", "needTeachers", "()V"⟩, 10), (⟨"SubstituteDesk$School", "extremeTeacher", "(Z)I"⟩, 19), (⟨"SubstituteDesk", "planDay", "(I)V"⟩, 10)]
theorem lw_r4 : ∀ q ∈ lw_privs_4, lw_okq q := List.forall_mem_cons.mpr ⟨lw_p48, List.forall_mem_cons.mpr ⟨lw_p49, List.forall_mem_cons.mpr ⟨lw_p50, List.forall_mem_cons.mpr ⟨lw_p51, List.forall_mem_cons.mpr ⟨lw_p52, List.forall_mem_cons.mpr ⟨lw_p53, List.forall_mem_cons.mpr ⟨lw_p54, List.forall_mem_cons.mpr ⟨lw_p55, List.forall_mem_cons.mpr ⟨lw_p56, List.forall_mem_cons.mpr ⟨lw_p57, List.forall_mem_cons.mpr ⟨lw_p58, List.forall_mem_cons.mpr ⟨lw_p59, List.forall_mem_cons.mpr ⟨lw_p60, List.forall_mem_cons.mpr ⟨lw_p61, List.forall_mem_cons.mpr ⟨lw_p62, List.forall_mem_cons.mpr ⟨lw_p63, fun _ h => absurd h List.not_mem_nil⟩⟩⟩⟩⟩⟩⟩⟩⟩⟩⟩⟩⟩⟩⟩⟩
theorem lw_p64 : lw_okq (⟨"SubstituteDesk$Planner", "findPlans", "(LSubstituteDesk$School;I)V"⟩, 12) := ⟨⟨by decide +kernel, by decide +kernel⟩, List.mem_of_getElem? (i := 151) (by decide +kernel), List.mem_of_getElem? (i := 984) (by decide +kernel), List.mem_of_getElem? (i := 985) (by decide +kernel)⟩
theorem lw_p65 : lw_okq (⟨"SubstituteDesk$Planner", "takeLesson", "(LSubstituteDesk$School;II)V"⟩, 12) := ⟨⟨by decide +kernel, by decide +kernel⟩, List.mem_of_getElem? (i := 151) (by decide +kernel), List.mem_of_getElem? (i := 995) (by decide +kernel), List.mem_of_getElem? (i := 996) (by decide +kernel)⟩
theorem lw_p66 : lw_okq (⟨"SubstituteDesk$Planner", "judge", "()V"⟩, 12) := ⟨⟨by decide +kernel, by decide +kernel⟩, List.mem_of_getElem? (i := 151) (by decide +kernel), List.mem_of_getElem? (i := 1005) (by decide +kernel), List.mem_of_getElem? (i := 1006) (by decide +kernel)⟩
theorem lw_p67 : lw_okq (⟨"SubstituteDesk$Planner", "spreadNow", "()I"⟩, 12) := ⟨⟨by decide +kernel, by decide +kernel⟩, List.mem_of_getElem? (i := 151) (by decide +kernel), List.mem_of_getElem? (i := 1009) (by decide +kernel), List.mem_of_getElem? (i := 1010) (by decide +kernel)⟩
theorem lw_p68 : lw_okq (⟨"SubstituteDesk$Planner", "canTake", "(II)Z"⟩, 12) := ⟨⟨by decide +kernel, by decide +kernel⟩, List.mem_of_getElem? (i := 151) (by decide +kernel), List.mem_of_getElem? (i := 1015) (by decide +kernel), List.mem_of_getElem? (i := 1016) (by decide +kernel)⟩
theorem lw_p69 : lw_okq (⟨"SubstituteDesk$Planner", "give", "(III)V"⟩, 12) := ⟨⟨by decide +kernel, by decide +kernel⟩, List.mem_of_getElem? (i := 151) (by decide +kernel), List.mem_of_getElem? (i := 1019) (by decide +kernel), List.mem_of_getElem? (i := 1020) (by decide +kernel)⟩
theorem lw_p70 : lw_okq (⟨"SubstituteDesk", "needPlan", "()V"⟩, 10) := ⟨⟨by decide +kernel, by decide +kernel⟩, List.mem_of_getElem? (i := 25) (by decide +kernel), List.mem_of_getElem? (i := 1023) (by decide +kernel), List.mem_of_getElem? (i := 1024) (by decide +kernel)⟩
theorem lw_p71 : lw_okq (⟨"SubstituteDesk$School", "pointsOfAll", "(I)I"⟩, 19) := ⟨⟨by decide +kernel, by decide +kernel⟩, List.mem_of_getElem? (i := 33) (by decide +kernel), List.mem_of_getElem? (i := 1080) (by decide +kernel), List.mem_of_getElem? (i := 1081) (by decide +kernel)⟩
theorem lw_p72 : lw_okq (⟨"SubstituteDesk$School", "lostLessons", "(I)I"⟩, 19) := ⟨⟨by decide +kernel, by decide +kernel⟩, List.mem_of_getElem? (i := 33) (by decide +kernel), List.mem_of_getElem? (i := 1091) (by decide +kernel), List.mem_of_getElem? (i := 1092) (by decide +kernel)⟩
theorem lw_p73 : lw_okq (⟨"SubstituteDesk$Input", "add", "(C)V"⟩, 11) := ⟨⟨by decide +kernel, by decide +kernel⟩, List.mem_of_getElem? (i := 199) (by decide +kernel), List.mem_of_getElem? (i := 1103) (by decide +kernel), List.mem_of_getElem? (i := 1104) (by decide +kernel)⟩
theorem lw_p74 : lw_okq (⟨"SubstituteDesk$Input", "firstError", "()I"⟩, 11) := ⟨⟨by decide +kernel, by decide +kernel⟩, List.mem_of_getElem? (i := 199) (by decide +kernel), List.mem_of_getElem? (i := 1114) (by decide +kernel), List.mem_of_getElem? (i := 1115) (by decide +kernel)⟩
theorem lw_p75 : lw_okq (⟨"SubstituteDesk$Input", "takeEntry", "()Z"⟩, 11) := ⟨⟨by decide +kernel, by decide +kernel⟩, List.mem_of_getElem? (i := 199) (by decide +kernel), List.mem_of_getElem? (i := 1118) (by decide +kernel), List.mem_of_getElem? (i := 1119) (by decide +kernel)⟩
theorem lw_p76 : lw_okq (⟨"SubstituteDesk$Input", "takeSign", "(C)Z"⟩, 11) := ⟨⟨by decide +kernel, by decide +kernel⟩, List.mem_of_getElem? (i := 199) (by decide +kernel), List.mem_of_getElem? (i := 1125) (by decide +kernel), List.mem_of_getElem? (i := 1126) (by decide +kernel)⟩
theorem lw_p77 : lw_okq (⟨"SubstituteDesk$Input", "takeTeacher", "()Z"⟩, 11) := ⟨⟨by decide +kernel, by decide +kernel⟩, List.mem_of_getElem? (i := 199) (by decide +kernel), List.mem_of_getElem? (i := 1129) (by decide +kernel), List.mem_of_getElem? (i := 1130) (by decide +kernel)⟩
theorem lw_p78 : lw_okq (⟨"SubstituteDesk$Input", "takeDigit", "(II)I"⟩, 11) := ⟨⟨by decide +kernel, by decide +kernel⟩, List.mem_of_getElem? (i := 199) (by decide +kernel), List.mem_of_getElem? (i := 1133) (by decide +kernel), List.mem_of_getElem? (i := 1134) (by decide +kernel)⟩
theorem lw_p79 : lw_okq (⟨"SubstituteDesk$Input", "takeLesson", "()Z"⟩, 11) := ⟨⟨by decide +kernel, by decide +kernel⟩, List.mem_of_getElem? (i := 199) (by decide +kernel), List.mem_of_getElem? (i := 1138) (by decide +kernel), List.mem_of_getElem? (i := 1139) (by decide +kernel)⟩
def lw_privs_5 : List (MethodName × Nat) := [(⟨"SubstituteDesk$Planner", "findPlans", "(LSubstituteDesk$School;I)V"⟩, 12), (⟨"SubstituteDesk$Planner", "takeLesson", "(LSubstituteDesk$School;II)V"⟩, 12), (⟨"SubstituteDesk$Planner", "judge", "()V"⟩, 12), (⟨"SubstituteDesk$Planner", "spreadNow", "()I"⟩, 12), (⟨"SubstituteDesk$Planner", "canTake", "(II)Z"⟩, 12), (⟨"SubstituteDesk$Planner", "give", "(III)V"⟩, 12), (⟨"SubstituteDesk", "needPlan", "()V"⟩, 10), (⟨"SubstituteDesk$School", "pointsOfAll", "(I)I"⟩, 19), (⟨"SubstituteDesk$School", "lostLessons", "(I)I"⟩, 19), (⟨"SubstituteDesk$Input", "add", "(C)V"⟩, 11), (⟨"SubstituteDesk$Input", "firstError", "()I"⟩, 11), (⟨"SubstituteDesk$Input", "takeEntry", "()Z"⟩, 11), (⟨"SubstituteDesk$Input", "takeSign", "(C)Z"⟩, 11), (⟨"SubstituteDesk$Input", "takeTeacher", "()Z"⟩, 11), (⟨"SubstituteDesk$Input", "takeDigit", "(II)I"⟩, 11), (⟨"SubstituteDesk$Input", "takeLesson", "()Z"⟩, 11)]
theorem lw_r5 : ∀ q ∈ lw_privs_5, lw_okq q := List.forall_mem_cons.mpr ⟨lw_p64, List.forall_mem_cons.mpr ⟨lw_p65, List.forall_mem_cons.mpr ⟨lw_p66, List.forall_mem_cons.mpr ⟨lw_p67, List.forall_mem_cons.mpr ⟨lw_p68, List.forall_mem_cons.mpr ⟨lw_p69, List.forall_mem_cons.mpr ⟨lw_p70, List.forall_mem_cons.mpr ⟨lw_p71, List.forall_mem_cons.mpr ⟨lw_p72, List.forall_mem_cons.mpr ⟨lw_p73, List.forall_mem_cons.mpr ⟨lw_p74, List.forall_mem_cons.mpr ⟨lw_p75, List.forall_mem_cons.mpr ⟨lw_p76, List.forall_mem_cons.mpr ⟨lw_p77, List.forall_mem_cons.mpr ⟨lw_p78, List.forall_mem_cons.mpr ⟨lw_p79, fun _ h => absurd h List.not_mem_nil⟩⟩⟩⟩⟩⟩⟩⟩⟩⟩⟩⟩⟩⟩⟩⟩
theorem lw_p80 : lw_okq (⟨"SubstituteDesk$Input", "takeNumber", "()I"⟩, 11) := ⟨⟨by decide +kernel, by decide +kernel⟩, List.mem_of_getElem? (i := 199) (by decide +kernel), List.mem_of_getElem? (i := 1142) (by decide +kernel), List.mem_of_getElem? (i := 1143) (by decide +kernel)⟩
theorem lw_p81 : lw_okq (⟨"SubstituteDesk$Input", "takeAbsence", "()Z"⟩, 11) := ⟨⟨by decide +kernel, by decide +kernel⟩, List.mem_of_getElem? (i := 199) (by decide +kernel), List.mem_of_getElem? (i := 1146) (by decide +kernel), List.mem_of_getElem? (i := 1147) (by decide +kernel)⟩
theorem lw_p82 : lw_okq (⟨"SubstituteDesk$Input", "tellTo", "(LSubstituteDesk$School;)I"⟩, 11) := ⟨⟨by decide +kernel, by decide +kernel⟩, List.mem_of_getElem? (i := 199) (by decide +kernel), List.mem_of_getElem? (i := 1151) (by decide +kernel), List.mem_of_getElem? (i := 1152) (by decide +kernel)⟩
theorem lw_p83 : lw_okq (⟨"SubstituteDesk$Input", "isRefusedBy", "(LSubstituteDesk$School;)Z"⟩, 11) := ⟨⟨by decide +kernel, by decide +kernel⟩, List.mem_of_getElem? (i := 199) (by decide +kernel), List.mem_of_getElem? (i := 1155) (by decide +kernel), List.mem_of_getElem? (i := 1156) (by decide +kernel)⟩
theorem lw_p84 : lw_okq (⟨"SubstituteDesk$Line", "writeLesson", "(LSubstituteDesk$School;I)V"⟩, 2) := ⟨⟨by decide +kernel, by decide +kernel⟩, List.mem_of_getElem? (i := 241) (by decide +kernel), List.mem_of_getElem? (i := 1180) (by decide +kernel), List.mem_of_getElem? (i := 1181) (by decide +kernel)⟩
theorem lw_p85 : lw_okq (⟨"SubstituteDesk$Line", "add", "(C)V"⟩, 2) := ⟨⟨by decide +kernel, by decide +kernel⟩, List.mem_of_getElem? (i := 241) (by decide +kernel), List.mem_of_getElem? (i := 1185) (by decide +kernel), List.mem_of_getElem? (i := 1186) (by decide +kernel)⟩
theorem lw_p86 : lw_okq (⟨"SubstituteDesk$Line", "addDigit", "(I)V"⟩, 2) := ⟨⟨by decide +kernel, by decide +kernel⟩, List.mem_of_getElem? (i := 241) (by decide +kernel), List.mem_of_getElem? (i := 1189) (by decide +kernel), List.mem_of_getElem? (i := 1190) (by decide +kernel)⟩
theorem lw_p87 : lw_okq (⟨"SubstituteDesk$History", "goBack", "(LSubstituteDesk$School;)V"⟩, 3) := ⟨⟨by decide +kernel, by decide +kernel⟩, List.mem_of_getElem? (i := 131) (by decide +kernel), List.mem_of_getElem? (i := 1203) (by decide +kernel), List.mem_of_getElem? (i := 1204) (by decide +kernel)⟩
theorem lw_p88 : lw_okq (⟨"SubstituteDeskModel", "empties", "()V"⟩, 18) := ⟨⟨by decide +kernel, by decide +kernel⟩, List.mem_of_getElem? (i := 1215) (by decide +kernel), List.mem_of_getElem? (i := 1221) (by decide +kernel), List.mem_of_getElem? (i := 1222) (by decide +kernel)⟩
theorem lw_p89 : lw_okq (⟨"SubstituteDeskModel", "lessons", "()I"⟩, 18) := ⟨⟨by decide +kernel, by decide +kernel⟩, List.mem_of_getElem? (i := 1215) (by decide +kernel), List.mem_of_getElem? (i := 1288) (by decide +kernel), List.mem_of_getElem? (i := 1289) (by decide +kernel)⟩
theorem lw_p90 : lw_okq (⟨"SubstituteDeskModel", "keepsAhead", "()V"⟩, 18) := ⟨⟨by decide +kernel, by decide +kernel⟩, List.mem_of_getElem? (i := 1215) (by decide +kernel), List.mem_of_getElem? (i := 1296) (by decide +kernel), List.mem_of_getElem? (i := 1297) (by decide +kernel)⟩
theorem lw_p91 : lw_okq (⟨"SubstituteDeskModel", "newTeacher", "(II)I"⟩, 18) := ⟨⟨by decide +kernel, by decide +kernel⟩, List.mem_of_getElem? (i := 1215) (by decide +kernel), List.mem_of_getElem? (i := 1300) (by decide +kernel), List.mem_of_getElem? (i := 1301) (by decide +kernel)⟩
theorem lw_p92 : lw_okq (⟨"SubstituteDeskModel", "raises", "(I)I"⟩, 18) := ⟨⟨by decide +kernel, by decide +kernel⟩, List.mem_of_getElem? (i := 1215) (by decide +kernel), List.mem_of_getElem? (i := 1307) (by decide +kernel), List.mem_of_getElem? (i := 1308) (by decide +kernel)⟩
theorem lw_p93 : lw_okq (⟨"SubstituteDeskModel", "teachers", "()I"⟩, 18) := ⟨⟨by decide +kernel, by decide +kernel⟩, List.mem_of_getElem? (i := 1215) (by decide +kernel), List.mem_of_getElem? (i := 1311) (by decide +kernel), List.mem_of_getElem? (i := 1312) (by decide +kernel)⟩
theorem lw_p94 : lw_okq (⟨"SubstituteDeskModel", "keepsBehind", "()V"⟩, 18) := ⟨⟨by decide +kernel, by decide +kernel⟩, List.mem_of_getElem? (i := 1215) (by decide +kernel), List.mem_of_getElem? (i := 1318) (by decide +kernel), List.mem_of_getElem? (i := 1319) (by decide +kernel)⟩
theorem lw_p95 : lw_okq (⟨"SubstituteDeskModel", "changes", "()V"⟩, 18) := ⟨⟨by decide +kernel, by decide +kernel⟩, List.mem_of_getElem? (i := 1215) (by decide +kernel), List.mem_of_getElem? (i := 1322) (by decide +kernel), List.mem_of_getElem? (i := 1323) (by decide +kernel)⟩
def lw_privs_6 : List (MethodName × Nat) := [(⟨"SubstituteDesk$Input", "takeNumber", "()I"⟩, 11), (⟨"SubstituteDesk$Input", "takeAbsence", "()Z"⟩, 11), (⟨"SubstituteDesk$Input", "tellTo", "(LSubstituteDesk$School;)I"⟩, 11), (⟨"SubstituteDesk$Input", "isRefusedBy", "(LSubstituteDesk$School;)Z"⟩, 11), (⟨"SubstituteDesk$Line", "writeLesson", "(LSubstituteDesk$School;I)V"⟩, 2), (⟨"SubstituteDesk$Line", "add", "(C)V"⟩, 2), (⟨"SubstituteDesk$Line", "addDigit", "(I)V"⟩, 2), (⟨"SubstituteDesk$History", "goBack", "(LSubstituteDesk$School;)V"⟩, 3), (⟨"SubstituteDeskModel", "empties", "()V"⟩, 18), (⟨"SubstituteDeskModel", "lessons", "()I"⟩, 18), (⟨"SubstituteDeskModel", "keepsAhead", "()V"⟩, 18), (⟨"SubstituteDeskModel", "newTeacher", "(II)I"⟩, 18), (⟨"SubstituteDeskModel", "raises", "(I)I"⟩, 18), (⟨"SubstituteDeskModel", "teachers", "()I"⟩, 18), (⟨"SubstituteDeskModel", "keepsBehind", "()V"⟩, 18), (⟨"SubstituteDeskModel", "changes", "()V"⟩, 18)]
theorem lw_r6 : ∀ q ∈ lw_privs_6, lw_okq q := List.forall_mem_cons.mpr ⟨lw_p80, List.forall_mem_cons.mpr ⟨lw_p81, List.forall_mem_cons.mpr ⟨lw_p82, List.forall_mem_cons.mpr ⟨lw_p83, List.forall_mem_cons.mpr ⟨lw_p84, List.forall_mem_cons.mpr ⟨lw_p85, List.forall_mem_cons.mpr ⟨lw_p86, List.forall_mem_cons.mpr ⟨lw_p87, List.forall_mem_cons.mpr ⟨lw_p88, List.forall_mem_cons.mpr ⟨lw_p89, List.forall_mem_cons.mpr ⟨lw_p90, List.forall_mem_cons.mpr ⟨lw_p91, List.forall_mem_cons.mpr ⟨lw_p92, List.forall_mem_cons.mpr ⟨lw_p93, List.forall_mem_cons.mpr ⟨lw_p94, List.forall_mem_cons.mpr ⟨lw_p95, fun _ h => absurd h List.not_mem_nil⟩⟩⟩⟩⟩⟩⟩⟩⟩⟩⟩⟩⟩⟩⟩⟩
theorem lw_p96 : lw_okq (⟨"SubstituteDeskModel", "isTeacher", "(I)Z"⟩, 18) := ⟨⟨by decide +kernel, by decide +kernel⟩, List.mem_of_getElem? (i := 1215) (by decide +kernel), List.mem_of_getElem? (i := 1330) (by decide +kernel), List.mem_of_getElem? (i := 1331) (by decide +kernel)⟩
theorem lw_p97 : lw_okq (⟨"SubstituteDeskModel", "sets", "(II)I"⟩, 18) := ⟨⟨by decide +kernel, by decide +kernel⟩, List.mem_of_getElem? (i := 1215) (by decide +kernel), List.mem_of_getElem? (i := 1334) (by decide +kernel), List.mem_of_getElem? (i := 1335) (by decide +kernel)⟩
theorem lw_p98 : lw_okq (⟨"SubstituteDeskModel", "isSplitClass", "(I)Z"⟩, 18) := ⟨⟨by decide +kernel, by decide +kernel⟩, List.mem_of_getElem? (i := 1215) (by decide +kernel), List.mem_of_getElem? (i := 1345) (by decide +kernel), List.mem_of_getElem? (i := 1346) (by decide +kernel)⟩
theorem lw_p99 : lw_okq (⟨"SubstituteDeskModel", "of", "(II)I"⟩, 18) := ⟨⟨by decide +kernel, by decide +kernel⟩, List.mem_of_getElem? (i := 1215) (by decide +kernel), List.mem_of_getElem? (i := 1349) (by decide +kernel), List.mem_of_getElem? (i := 1350) (by decide +kernel)⟩
theorem lw_p100 : lw_okq (⟨"SubstituteDeskModel", "state", "(I)I"⟩, 18) := ⟨⟨by decide +kernel, by decide +kernel⟩, List.mem_of_getElem? (i := 1215) (by decide +kernel), List.mem_of_getElem? (i := 1356) (by decide +kernel), List.mem_of_getElem? (i := 1357) (by decide +kernel)⟩
theorem lw_p101 : lw_okq (⟨"SubstituteDeskModel", "isAway", "(II)Z"⟩, 18) := ⟨⟨by decide +kernel, by decide +kernel⟩, List.mem_of_getElem? (i := 1215) (by decide +kernel), List.mem_of_getElem? (i := 1360) (by decide +kernel), List.mem_of_getElem? (i := 1361) (by decide +kernel)⟩
theorem lw_p102 : lw_okq (⟨"SubstituteDeskModel", "by", "(II)I"⟩, 18) := ⟨⟨by decide +kernel, by decide +kernel⟩, List.mem_of_getElem? (i := 1215) (by decide +kernel), List.mem_of_getElem? (i := 1364) (by decide +kernel), List.mem_of_getElem? (i := 1365) (by decide +kernel)⟩
theorem lw_p103 : lw_okq (⟨"SubstituteDeskModel", "isTooFull", "()Z"⟩, 18) := ⟨⟨by decide +kernel, by decide +kernel⟩, List.mem_of_getElem? (i := 1215) (by decide +kernel), List.mem_of_getElem? (i := 1371) (by decide +kernel), List.mem_of_getElem? (i := 1372) (by decide +kernel)⟩
theorem lw_p104 : lw_okq (⟨"SubstituteDeskModel", "load", "(I)I"⟩, 18) := ⟨⟨by decide +kernel, by decide +kernel⟩, List.mem_of_getElem? (i := 1215) (by decide +kernel), List.mem_of_getElem? (i := 1375) (by decide +kernel), List.mem_of_getElem? (i := 1376) (by decide +kernel)⟩
theorem lw_p105 : lw_okq (⟨"SubstituteDeskModel", "newLesson", "(IIIII)I"⟩, 18) := ⟨⟨by decide +kernel, by decide +kernel⟩, List.mem_of_getElem? (i := 1215) (by decide +kernel), List.mem_of_getElem? (i := 1387) (by decide +kernel), List.mem_of_getElem? (i := 1388) (by decide +kernel)⟩
theorem lw_p106 : lw_okq (⟨"SubstituteDeskModel", "collides", "(IIII)Z"⟩, 18) := ⟨⟨by decide +kernel, by decide +kernel⟩, List.mem_of_getElem? (i := 1215) (by decide +kernel), List.mem_of_getElem? (i := 1394) (by decide +kernel), List.mem_of_getElem? (i := 1395) (by decide +kernel)⟩
theorem lw_p107 : lw_okq (⟨"SubstituteDeskModel", "covers", "(II)Z"⟩, 18) := ⟨⟨by decide +kernel, by decide +kernel⟩, List.mem_of_getElem? (i := 1215) (by decide +kernel), List.mem_of_getElem? (i := 1398) (by decide +kernel), List.mem_of_getElem? (i := 1399) (by decide +kernel)⟩
theorem lw_p108 : lw_okq (⟨"SubstituteDeskModel", "isLesson", "(I)Z"⟩, 18) := ⟨⟨by decide +kernel, by decide +kernel⟩, List.mem_of_getElem? (i := 1215) (by decide +kernel), List.mem_of_getElem? (i := 1406) (by decide +kernel), List.mem_of_getElem? (i := 1407) (by decide +kernel)⟩
theorem lw_p109 : lw_okq (⟨"SubstituteDeskModel", "endsHosted", "(I)I"⟩, 18) := ⟨⟨by decide +kernel, by decide +kernel⟩, List.mem_of_getElem? (i := 1215) (by decide +kernel), List.mem_of_getElem? (i := 1410) (by decide +kernel), List.mem_of_getElem? (i := 1411) (by decide +kernel)⟩
theorem lw_p110 : lw_okq (⟨"SubstituteDeskModel", "endsSplit", "(I)V"⟩, 18) := ⟨⟨by decide +kernel, by decide +kernel⟩, List.mem_of_getElem? (i := 1215) (by decide +kernel), List.mem_of_getElem? (i := 1414) (by decide +kernel), List.mem_of_getElem? (i := 1415) (by decide +kernel)⟩
theorem lw_p111 : lw_okq (⟨"SubstituteDeskModel", "acting", "(I)I"⟩, 18) := ⟨⟨by decide +kernel, by decide +kernel⟩, List.mem_of_getElem? (i := 1215) (by decide +kernel), List.mem_of_getElem? (i := 1418) (by decide +kernel), List.mem_of_getElem? (i := 1419) (by decide +kernel)⟩
def lw_privs_7 : List (MethodName × Nat) := [(⟨"SubstituteDeskModel", "isTeacher", "(I)Z"⟩, 18), (⟨"SubstituteDeskModel", "sets", "(II)I"⟩, 18), (⟨"SubstituteDeskModel", "isSplitClass", "(I)Z"⟩, 18), (⟨"SubstituteDeskModel", "of", "(II)I"⟩, 18), (⟨"SubstituteDeskModel", "state", "(I)I"⟩, 18), (⟨"SubstituteDeskModel", "isAway", "(II)Z"⟩, 18), (⟨"SubstituteDeskModel", "by", "(II)I"⟩, 18), (⟨"SubstituteDeskModel", "isTooFull", "()Z"⟩, 18), (⟨"SubstituteDeskModel", "load", "(I)I"⟩, 18), (⟨"SubstituteDeskModel", "newLesson", "(IIIII)I"⟩, 18), (⟨"SubstituteDeskModel", "collides", "(IIII)Z"⟩, 18), (⟨"SubstituteDeskModel", "covers", "(II)Z"⟩, 18), (⟨"SubstituteDeskModel", "isLesson", "(I)Z"⟩, 18), (⟨"SubstituteDeskModel", "endsHosted", "(I)I"⟩, 18), (⟨"SubstituteDeskModel", "endsSplit", "(I)V"⟩, 18), (⟨"SubstituteDeskModel", "acting", "(I)I"⟩, 18)]
theorem lw_r7 : ∀ q ∈ lw_privs_7, lw_okq q := List.forall_mem_cons.mpr ⟨lw_p96, List.forall_mem_cons.mpr ⟨lw_p97, List.forall_mem_cons.mpr ⟨lw_p98, List.forall_mem_cons.mpr ⟨lw_p99, List.forall_mem_cons.mpr ⟨lw_p100, List.forall_mem_cons.mpr ⟨lw_p101, List.forall_mem_cons.mpr ⟨lw_p102, List.forall_mem_cons.mpr ⟨lw_p103, List.forall_mem_cons.mpr ⟨lw_p104, List.forall_mem_cons.mpr ⟨lw_p105, List.forall_mem_cons.mpr ⟨lw_p106, List.forall_mem_cons.mpr ⟨lw_p107, List.forall_mem_cons.mpr ⟨lw_p108, List.forall_mem_cons.mpr ⟨lw_p109, List.forall_mem_cons.mpr ⟨lw_p110, List.forall_mem_cons.mpr ⟨lw_p111, fun _ h => absurd h List.not_mem_nil⟩⟩⟩⟩⟩⟩⟩⟩⟩⟩⟩⟩⟩⟩⟩⟩
theorem lw_p112 : lw_okq (⟨"SubstituteDeskModel", "gains", "(II)V"⟩, 18) := ⟨⟨by decide +kernel, by decide +kernel⟩, List.mem_of_getElem? (i := 1215) (by decide +kernel), List.mem_of_getElem? (i := 1422) (by decide +kernel), List.mem_of_getElem? (i := 1423) (by decide +kernel)⟩
theorem lw_p113 : lw_okq (⟨"SubstituteDeskModel", "endsAll", "(I)I"⟩, 18) := ⟨⟨by decide +kernel, by decide +kernel⟩, List.mem_of_getElem? (i := 1215) (by decide +kernel), List.mem_of_getElem? (i := 1426) (by decide +kernel), List.mem_of_getElem? (i := 1427) (by decide +kernel)⟩
theorem lw_p114 : lw_okq (⟨"SubstituteDeskModel", "endsCover", "(I)I"⟩, 18) := ⟨⟨by decide +kernel, by decide +kernel⟩, List.mem_of_getElem? (i := 1215) (by decide +kernel), List.mem_of_getElem? (i := 1430) (by decide +kernel), List.mem_of_getElem? (i := 1431) (by decide +kernel)⟩
theorem lw_p115 : lw_okq (⟨"SubstituteDeskModel", "worth", "(II)I"⟩, 18) := ⟨⟨by decide +kernel, by decide +kernel⟩, List.mem_of_getElem? (i := 1215) (by decide +kernel), List.mem_of_getElem? (i := 1434) (by decide +kernel), List.mem_of_getElem? (i := 1435) (by decide +kernel)⟩
theorem lw_p116 : lw_okq (⟨"SubstituteDeskModel", "share", "(II)I"⟩, 18) := ⟨⟨by decide +kernel, by decide +kernel⟩, List.mem_of_getElem? (i := 1215) (by decide +kernel), List.mem_of_getElem? (i := 1454) (by decide +kernel), List.mem_of_getElem? (i := 1455) (by decide +kernel)⟩
theorem lw_p117 : lw_okq (⟨"SubstituteDeskModel", "lessonsOf", "(II)I"⟩, 18) := ⟨⟨by decide +kernel, by decide +kernel⟩, List.mem_of_getElem? (i := 1215) (by decide +kernel), List.mem_of_getElem? (i := 1458) (by decide +kernel), List.mem_of_getElem? (i := 1459) (by decide +kernel)⟩
theorem lw_p118 : lw_okq (⟨"SubstituteDeskModel", "find", "(III)I"⟩, 18) := ⟨⟨by decide +kernel, by decide +kernel⟩, List.mem_of_getElem? (i := 1215) (by decide +kernel), List.mem_of_getElem? (i := 1466) (by decide +kernel), List.mem_of_getElem? (i := 1467) (by decide +kernel)⟩
theorem lw_p119 : lw_okq (⟨"SubstituteDeskModel", "turns", "(IIZ)I"⟩, 18) := ⟨⟨by decide +kernel, by decide +kernel⟩, List.mem_of_getElem? (i := 1215) (by decide +kernel), List.mem_of_getElem? (i := 1474) (by decide +kernel), List.mem_of_getElem? (i := 1475) (by decide +kernel)⟩
theorem lw_p120 : lw_okq (⟨"SubstituteDeskModel", "listsOpen", "(I)I"⟩, 18) := ⟨⟨by decide +kernel, by decide +kernel⟩, List.mem_of_getElem? (i := 1215) (by decide +kernel), List.mem_of_getElem? (i := 1497) (by decide +kernel), List.mem_of_getElem? (i := 1498) (by decide +kernel)⟩
theorem lw_p121 : lw_okq (⟨"SubstituteDeskModel", "bar", "(II)I"⟩, 18) := ⟨⟨by decide +kernel, by decide +kernel⟩, List.mem_of_getElem? (i := 1215) (by decide +kernel), List.mem_of_getElem? (i := 1509) (by decide +kernel), List.mem_of_getElem? (i := 1510) (by decide +kernel)⟩
theorem lw_p122 : lw_okq (⟨"SubstituteDeskModel", "coversOn", "(II)I"⟩, 18) := ⟨⟨by decide +kernel, by decide +kernel⟩, List.mem_of_getElem? (i := 1215) (by decide +kernel), List.mem_of_getElem? (i := 1513) (by decide +kernel), List.mem_of_getElem? (i := 1514) (by decide +kernel)⟩
theorem lw_p123 : lw_okq (⟨"SubstituteDeskModel", "suggested", "(I)I"⟩, 18) := ⟨⟨by decide +kernel, by decide +kernel⟩, List.mem_of_getElem? (i := 1215) (by decide +kernel), List.mem_of_getElem? (i := 1525) (by decide +kernel), List.mem_of_getElem? (i := 1526) (by decide +kernel)⟩
theorem lw_p124 : lw_okq (⟨"SubstituteDeskModel", "knows", "(II)Z"⟩, 18) := ⟨⟨by decide +kernel, by decide +kernel⟩, List.mem_of_getElem? (i := 1215) (by decide +kernel), List.mem_of_getElem? (i := 1529) (by decide +kernel), List.mem_of_getElem? (i := 1530) (by decide +kernel)⟩
theorem lw_p125 : lw_okq (⟨"SubstituteDeskModel", "begins", "(II)I"⟩, 18) := ⟨⟨by decide +kernel, by decide +kernel⟩, List.mem_of_getElem? (i := 1215) (by decide +kernel), List.mem_of_getElem? (i := 1537) (by decide +kernel), List.mem_of_getElem? (i := 1538) (by decide +kernel)⟩
theorem lw_p126 : lw_okq (⟨"SubstituteDeskModel", "canHost", "(II)Z"⟩, 18) := ⟨⟨by decide +kernel, by decide +kernel⟩, List.mem_of_getElem? (i := 1215) (by decide +kernel), List.mem_of_getElem? (i := 1549) (by decide +kernel), List.mem_of_getElem? (i := 1550) (by decide +kernel)⟩
theorem lw_p127 : lw_okq (⟨"SubstituteDeskModel", "spreadNow", "()I"⟩, 18) := ⟨⟨by decide +kernel, by decide +kernel⟩, List.mem_of_getElem? (i := 1215) (by decide +kernel), List.mem_of_getElem? (i := 1573) (by decide +kernel), List.mem_of_getElem? (i := 1574) (by decide +kernel)⟩
def lw_privs_8 : List (MethodName × Nat) := [(⟨"SubstituteDeskModel", "gains", "(II)V"⟩, 18), (⟨"SubstituteDeskModel", "endsAll", "(I)I"⟩, 18), (⟨"SubstituteDeskModel", "endsCover", "(I)I"⟩, 18), (⟨"SubstituteDeskModel", "worth", "(II)I"⟩, 18), (⟨"SubstituteDeskModel", "share", "(II)I"⟩, 18), (⟨"SubstituteDeskModel", "lessonsOf", "(II)I"⟩, 18), (⟨"SubstituteDeskModel", "find", "(III)I"⟩, 18), (⟨"SubstituteDeskModel", "turns", "(IIZ)I"⟩, 18), (⟨"SubstituteDeskModel", "listsOpen", "(I)I"⟩, 18), (⟨"SubstituteDeskModel", "bar", "(II)I"⟩, 18), (⟨"SubstituteDeskModel", "coversOn", "(II)I"⟩, 18), (⟨"SubstituteDeskModel", "suggested", "(I)I"⟩, 18), (⟨"SubstituteDeskModel", "knows", "(II)Z"⟩, 18), (⟨"SubstituteDeskModel", "begins", "(II)I"⟩, 18), (⟨"SubstituteDeskModel", "canHost", "(II)Z"⟩, 18), (⟨"SubstituteDeskModel", "spreadNow", "()I"⟩, 18)]
theorem lw_r8 : ∀ q ∈ lw_privs_8, lw_okq q := List.forall_mem_cons.mpr ⟨lw_p112, List.forall_mem_cons.mpr ⟨lw_p113, List.forall_mem_cons.mpr ⟨lw_p114, List.forall_mem_cons.mpr ⟨lw_p115, List.forall_mem_cons.mpr ⟨lw_p116, List.forall_mem_cons.mpr ⟨lw_p117, List.forall_mem_cons.mpr ⟨lw_p118, List.forall_mem_cons.mpr ⟨lw_p119, List.forall_mem_cons.mpr ⟨lw_p120, List.forall_mem_cons.mpr ⟨lw_p121, List.forall_mem_cons.mpr ⟨lw_p122, List.forall_mem_cons.mpr ⟨lw_p123, List.forall_mem_cons.mpr ⟨lw_p124, List.forall_mem_cons.mpr ⟨lw_p125, List.forall_mem_cons.mpr ⟨lw_p126, List.forall_mem_cons.mpr ⟨lw_p127, fun _ h => absurd h List.not_mem_nil⟩⟩⟩⟩⟩⟩⟩⟩⟩⟩⟩⟩⟩⟩⟩⟩
theorem lw_p128 : lw_okq (⟨"SubstituteDeskModel", "looks", "(I)I"⟩, 18) := ⟨⟨by decide +kernel, by decide +kernel⟩, List.mem_of_getElem? (i := 1215) (by decide +kernel), List.mem_of_getElem? (i := 1587) (by decide +kernel), List.mem_of_getElem? (i := 1588) (by decide +kernel)⟩
theorem lw_p129 : lw_okq (⟨"SubstituteDeskModel", "plans", "(II)V"⟩, 18) := ⟨⟨by decide +kernel, by decide +kernel⟩, List.mem_of_getElem? (i := 1215) (by decide +kernel), List.mem_of_getElem? (i := 1591) (by decide +kernel), List.mem_of_getElem? (i := 1592) (by decide +kernel)⟩
theorem lw_p130 : lw_okq (⟨"SubstituteDeskModel", "isEntry", "()Z"⟩, 18) := ⟨⟨by decide +kernel, by decide +kernel⟩, List.mem_of_getElem? (i := 1215) (by decide +kernel), List.mem_of_getElem? (i := 1628) (by decide +kernel), List.mem_of_getElem? (i := 1629) (by decide +kernel)⟩
theorem lw_p131 : lw_okq (⟨"SubstituteDeskModel", "takes", "(II)Z"⟩, 18) := ⟨⟨by decide +kernel, by decide +kernel⟩, List.mem_of_getElem? (i := 1215) (by decide +kernel), List.mem_of_getElem? (i := 1632) (by decide +kernel), List.mem_of_getElem? (i := 1633) (by decide +kernel)⟩
theorem lw_p132 : lw_okq (⟨"SubstituteDeskModel", "isNumber", "()Z"⟩, 18) := ⟨⟨by decide +kernel, by decide +kernel⟩, List.mem_of_getElem? (i := 1215) (by decide +kernel), List.mem_of_getElem? (i := 1636) (by decide +kernel), List.mem_of_getElem? (i := 1637) (by decide +kernel)⟩
theorem lw_p133 : lw_okq (⟨"SubstituteDeskModel", "isMarked", "(CC)Z"⟩, 18) := ⟨⟨by decide +kernel, by decide +kernel⟩, List.mem_of_getElem? (i := 1215) (by decide +kernel), List.mem_of_getElem? (i := 1640) (by decide +kernel), List.mem_of_getElem? (i := 1641) (by decide +kernel)⟩
theorem lw_p134 : lw_okq (⟨"SubstituteDeskModel", "does", "(I)I"⟩, 18) := ⟨⟨by decide +kernel, by decide +kernel⟩, List.mem_of_getElem? (i := 1215) (by decide +kernel), List.mem_of_getElem? (i := 1644) (by decide +kernel), List.mem_of_getElem? (i := 1645) (by decide +kernel)⟩
theorem lw_p135 : lw_okq (⟨"SubstituteDeskModel", "number", "(I)I"⟩, 18) := ⟨⟨by decide +kernel, by decide +kernel⟩, List.mem_of_getElem? (i := 1215) (by decide +kernel), List.mem_of_getElem? (i := 1648) (by decide +kernel), List.mem_of_getElem? (i := 1649) (by decide +kernel)⟩
def lw_privs_9 : List (MethodName × Nat) := [(⟨"SubstituteDeskModel", "looks", "(I)I"⟩, 18), (⟨"SubstituteDeskModel", "plans", "(II)V"⟩, 18), (⟨"SubstituteDeskModel", "isEntry", "()Z"⟩, 18), (⟨"SubstituteDeskModel", "takes", "(II)Z"⟩, 18), (⟨"SubstituteDeskModel", "isNumber", "()Z"⟩, 18), (⟨"SubstituteDeskModel", "isMarked", "(CC)Z"⟩, 18), (⟨"SubstituteDeskModel", "does", "(I)I"⟩, 18), (⟨"SubstituteDeskModel", "number", "(I)I"⟩, 18)]
theorem lw_r9 : ∀ q ∈ lw_privs_9, lw_okq q := List.forall_mem_cons.mpr ⟨lw_p128, List.forall_mem_cons.mpr ⟨lw_p129, List.forall_mem_cons.mpr ⟨lw_p130, List.forall_mem_cons.mpr ⟨lw_p131, List.forall_mem_cons.mpr ⟨lw_p132, List.forall_mem_cons.mpr ⟨lw_p133, List.forall_mem_cons.mpr ⟨lw_p134, List.forall_mem_cons.mpr ⟨lw_p135, fun _ h => absurd h List.not_mem_nil⟩⟩⟩⟩⟩⟩⟩⟩
def lw_privs : List (MethodName × Nat) := lw_privs_1 ++ (lw_privs_2 ++ (lw_privs_3 ++ (lw_privs_4 ++ (lw_privs_5 ++ (lw_privs_6 ++ (lw_privs_7 ++ (lw_privs_8 ++ (lw_privs_9))))))))
def lw_tbl : List Cond := k2_sels lw_privs ++ tables_1
theorem lw_privs_ok : ∀ q ∈ lw_privs, lw_okq q := by
  show ∀ q ∈ lw_privs_1 ++ (lw_privs_2 ++ (lw_privs_3 ++ (lw_privs_4 ++ (lw_privs_5 ++ (lw_privs_6 ++ (lw_privs_7 ++ (lw_privs_8 ++ (lw_privs_9)))))))), lw_okq q
  exact List.forall_mem_append.mpr ⟨lw_r1, List.forall_mem_append.mpr ⟨lw_r2, List.forall_mem_append.mpr ⟨lw_r3, List.forall_mem_append.mpr ⟨lw_r4, List.forall_mem_append.mpr ⟨lw_r5, List.forall_mem_append.mpr ⟨lw_r6, List.forall_mem_append.mpr ⟨lw_r7, List.forall_mem_append.mpr ⟨lw_r8, lw_r9⟩⟩⟩⟩⟩⟩⟩⟩
/-- the streams that the claim lets the run draw from -/
abbrev lw_cs : List Choice := [Jvm.Choice.named "NaN.bits"]
theorem lw_bits : nanBits ∈ lw_cs := by first | decide | exact List.mem_cons_self | simp [lw_cs, nanBits]
end
section
/-! ===== BEGIN words of one list among another's, by their places ===== -/
theorem goodIn_r {big : List Cond} (ws : List Cond) (ps : List Nat) (hp : ws = ps.filterMap (fun i => big[i]?)) (h : ws.all goodWord = true) : GoodIn big ws := by
  intro w hw
  have h1 := List.all_eq_true.mp h w hw
  rw [hp] at hw
  obtain ⟨i, -, hi⟩ := List.mem_filterMap.mp hw
  have hm : w ∈ big := by first | exact List.mem_of_getElem? hi | exact List.getElem?_mem hi
  exact ⟨hm, good_of_word h1⟩
theorem goodIn_app {big a b : List Cond} (ha : GoodIn big a) (hb : GoodIn big b) : GoodIn big (a ++ b) := fun w h => (List.mem_append.mp h).elim (ha w) (hb w)
theorem goodIn_ca {big a b : List Cond} {c : Cond} (ha : GoodIn big (c :: a)) (hb : GoodIn big b) : GoodIn big (c :: (a ++ b)) := fun w h => (List.mem_cons.mp h).elim (fun e => ha w (List.mem_cons.mpr (Or.inl e))) (fun h => (List.mem_append.mp h).elim (fun h => ha w (List.mem_cons.mpr (Or.inr h))) (hb w))
theorem goodIn_sub {big ws : List Cond} (hm : ∀ w ∈ ws, w ∈ big) (h : ws.all goodWord = true) : GoodIn big ws := fun w hw => ⟨hm w hw, good_of_word (List.all_eq_true.mp h w hw)⟩
/-! ===== END ===== -/

/-! ===== BEGIN exceptions that leave a method, and their catching by the caller (launches without stack traces) ===== -/
section VXA
/-! The laws vx_back, vx_callV, vx_callS, vx_callSW, vx_throw0, vx_throwS follow proofs of the library, with one case more: JvmDerived/Free/Laws.lean (Back.of_free), Shelf42/LK1.lean (callV, callS), Shelf/KitTraced.lean (throwNew0V, throwNewS). -/
/-- where a method has thrown q: the class by its name, the cell, what was written, the world -/
def vx_T (XC : String → State → State → Prop) (st : State) (q : Addr) (t : State) (mc ms : Nat) (free : Addr → Prop) : Prop :=
  ∃ (E : String) (ce : Cell) (L : List Loc), XC E st t ∧ t.heap[q]? = some ce ∧ ce.vm = .none ∧ st.vm.findClass E = some ce.cls ∧ st.WarmedH t.vm ∧ st.sameButNew ({ t with vm := st.vm } : State) L mc ms ∧ ∀ z ∈ L, free z.base
def vx_Q (Qc : Array Value → State → Outcome → State → Prop) (XC : String → State → State → Prop) (mc ms : Nat) (free : Addr → Prop) : Array Value → State → Outcome → State → Prop := fun a st o t =>
  (Qc a st o t ∧ ∃ L, FrameEnd st o t L mc ms ∧ ∀ q ∈ L, free q.base) ∨ ∃ q, o = .threw q ∧ vx_T XC st q t mc ms free
/-- a callee that returns or throws -/
def vx_Met (l : Launch) (y : MethodName) (ws : List Cond) (rm : Room) (Pc : Array Value → State → Prop) (Qc : Array Value → State → Outcome → State → Prop) (XC : String → State → State → Prop) (mc ms : Nat) (free : Addr → Prop) : Prop :=
  MetFree l y (headSpec ws rm) Pc (fun _ _ _ _ _ => True) (vx_Q Qc XC mc ms free)
def vx_Post (XC : String → State → State → Prop) (mc ms : Nat) (free : Addr → Prop) : Pt → Array Value → Addr → Pt → Prop := fun A a q B =>
  ∃ (g : JFrame) (mk : MethodId) (t : State) (L : List Loc) (E : String) (ce : Cell), B.U.heap = t.heap ∧ B.U.vm = t.vm ∧ XC E (A.U.calling g mk a) t ∧ t.heap[q]? = some ce ∧ ce.vm = .none ∧ A.U.vm.findClass E = some ce.cls ∧ B.locs = A.locs ++ L ∧ (∀ z ∈ L, free z.base) ∧ B.cells = A.cells + mc ∧ B.slots = A.slots + ms
def vx_Back (l : Launch) (R : Room) (p : Program) (e : Env) (below : List Frame) (s : State) (sargs : Array Value) (y : MethodName) (len W9 : Nat)
    (Pre : Pt → Array Value → Prop) (Post : Pt → Array Value → Option Value → Pt → Prop) (PostX : Pt → Array Value → Addr → Pt → Prop) : Prop :=
  ∀ (m : MethodId) (meth : Method) (c : Code) (A : Pt) (g : JFrame) (ig : Instr) (mk : MethodId) (a : Array Value),
    Stand p l e R s m sargs below meth c A.U A.locs A.cells A.slots → g.method = m → g.locals.size = c.maxLocals → decode c.code g.pc = .ok (ig, len) →
    2 * g.monitorRoom + (g.stack.map fun v => v.category).sum ≤ W9 → A.U.methodNamed? y = some mk → Pre A a →
    (∃ (v : Option Value) (B : Pt), Stand p l e R s m sargs below meth c B.U B.locs B.cells B.slots ∧ Post A a v B ∧
      Steps p.tables e below (doInvoke e (A.U.setTop g) [] mk a).1 (B.U.setTop { g with pc := g.pc + len, stack := v.toList ++ g.stack })) ∨
    (∃ (q : Addr) (B : Pt), Stand p l e R s m sargs below meth c B.U B.locs B.cells B.slots ∧ PostX A a q B ∧
      Steps p.tables e below (doInvoke e (A.U.setTop g) [] mk a).1 ((B.U.setTop g).pushFrame (.throwing q)))
section Payer
variable {l : Launch} {R : Room} {p : Program} {e : Env} {below : List Frame} {s : State} {sargs : Array Value} {y : MethodName} {len W9 : Nat}
theorem vx_back {ws : List Cond} {rm : Room} {Pc : Array Value → State → Prop} {Qc : Array Value → State → Outcome → State → Prop} {XC : String → State → State → Prop} {mc ms : Nat} {free : Addr → Prop} {bytes : ByteArray} {maxL : Nat} {ret : Option FieldType}
    (hM : vx_Met l y ws rm Pc Qc XC mc ms free) (hblind : FrameBlind Pc) (hrc : rm.cells = mc) (hrs : rm.slots = ms)
    (hframes : rm.frames + 1 ≤ R.frames) (hlocals : W9 + (maxL + 11) + rm.locals ≤ R.locals)
    (hws : ∀ w ∈ ws, ∀ a' U, s.WarmedH U.vm → w.before a' U = true) (hcode : Cond.code y bytes maxL ret ∈ ws) (hinit : ∀ a' U, s.WarmedH U.vm → (Cond.initialized y.cls).before a' U = true) :
    vx_Back l R p e below s sargs y len W9 (PreOf R mc ms Pc) (PostOf Qc mc ms free) (vx_Post XC mc ms free) := by
  intro m meth c A g ig mk a X hg hsize hdg hW hn hp
  have h1 : (headSpec ws rm).pre.before a A.U = true := atoms_intro fun w hw => hws w hw _ _ X.warmed
  have h2 : (Cond.code y bytes maxL ret).before a A.U = true := hws _ hcode _ _ X.warmed
  have h3 : (Cond.initialized y.cls).before a A.U = true := hinit _ _ X.warmed
  have h4 : A.cells + (headSpec ws rm).room.cells ≤ R.cells := by rw [show (headSpec ws rm).room.cells = mc from hrc]; exact hp.1
  have h5 : A.slots + (headSpec ws rm).room.slots ≤ R.slots := by rw [show (headSpec ws rm).room.slots = ms from hrs]; exact hp.2.1
  have hPc : Pc a (A.U.calling g mk a) := hblind _ _ _ _ hp.2.2
  obtain ⟨U, Ls, c0, s0⟩ := A
  dsimp only [Pt.U, Pt.locs, Pt.cells, Pt.slots] at h1 h2 h3 h4 h5 X hn hPc ⊢
  obtain ⟨methY, cY, hmY, hcY, -, hlY, -, -, -, -⟩ := Cond.code_spec hn h2
  obtain ⟨kY, hkY, -⟩ := className_of_methodNamed hn
  have hinitY : kY.init = .initialized := Cond.initialized_spec (findClass_of_methodNamed hn) hkY h3
  have h : At U g.method c below := by rw [hg]; exact X.here
  have hlocals9 : W9 + (maxL + 11) + (headSpec ws rm).room.locals ≤ R.locals := hlocals
  have happ : (headSpec ws rm).appliesLoose y e.platform (U.calling g mk a) = true :=
    Spec.appliesLoose_calling (g := g) h hdg hn hkY hinitY
      (X.room_calling (g := g) (R' := (headSpec ws rm).room) hsize hmY hcY hframes (by rw [hlY]; omega) h4 h5) h1
  obtain ⟨mid, hmid⟩ := h.above
  have hfr : (U.setTop g).frames = (.java g :: mid) ++ below := by rw [State.frames_setTop' g h.top, hmid]; rfl
  obtain ⟨o, s₂, hsteps, -, hend, hq⟩ := Steps.callFree hM p X.admits X.cas X.clock (acts := []) hfr happ hPc trivial
  have hq' : vx_Q Qc XC mc ms free a (U.calling g mk a) o s₂ := hq
  rw [State.frames_setTop' g h.top] at hend
  obtain ⟨g₀, hg0⟩ := Option.isSome_iff_exists.mp h.top
  obtain ⟨r, hr⟩ := State.topJava?_eq_some.mp hg0
  have hr' : (({ U with heap := s₂.heap, slotsUsed := s₂.slotsUsed } : State).setVm s₂.vm).frames = .java g₀ :: r := hr
  rcases hq' with ⟨hqc, L, hfe, hL⟩ | ⟨q, rfl, E, ce, L, hx, hce, hcv, hcl, hW₂, hsm, hL⟩
  · obtain ⟨⟨v, rfl⟩, hW₂, e2, q2, q3, q4, q5, q6⟩ := id hfe
    have e3 : s₂ = ({ (U.calling g mk a).setFrames s₂.frames with heap := s₂.heap, slotsUsed := s₂.slotsUsed } : State).setVm s₂.vm := by
      have : s₂ = ({ s₂ with vm := (U.calling g mk a).vm } : State).setVm s₂.vm := rfl
      rw [e2] at this
      exact this
    obtain ⟨c₂, i₂, len₂, hc₂, hd₂, hf₂⟩ := hend
    have hW' : U.WarmedH s₂.vm := hW₂
    have hcc : c₂ = c := by
      have h1 : s₂.code? g.method = U.code? g.method := by
        rw [State.code?_eq, State.code?_eq, hW'.alike.method?]
      exact Option.some.inj (hc₂.symm.trans (h1.trans h.code))
    subst hcc
    have hlen : len₂ = len := by rw [hdg] at hd₂; cases hd₂; rfl
    subst hlen
    have hs₂ : s₂ = (({ U with heap := s₂.heap, slotsUsed := s₂.slotsUsed } : State).setVm s₂.vm).setTop { g with pc := g.pc + len₂, stack := v.toList ++ g.stack } := by
      refine e3.trans ?_
      rw [hf₂, State.calling_eq h.top, State.setFrames_setFrames, State.setTop_of_frames _ hr', hr]
      rfl
    have hsame : U.sameButNew ({ U with heap := s₂.heap, slotsUsed := s₂.slotsUsed } : State) L mc ms := by
      refine ⟨?_, q2, q3, q4, q5, q6⟩
      obtain ⟨t, ht, -⟩ := State.frames_cons hr
      show ({ U with heap := s₂.heap, slotsUsed := s₂.slotsUsed } : State) = { U.setFrames U.frames with heap := s₂.heap, slotsUsed := s₂.slotsUsed }
      rw [State.setFrames_self ht]
    subst hg
    refine Or.inl ⟨v, ⟨(({ U with heap := s₂.heap, slotsUsed := s₂.slotsUsed } : State).setVm s₂.vm), Ls ++ L, c0 + mc, s0 + ms⟩,
      ⟨X.admits, X.cas, X.clock, X.frames, X.room, X.hears, X.method, X.code, (X.here.setHeapUsed s₂.heap s₂.slotsUsed).setVm hW'.alike, X.tail, State.WarmedH.trans X.warmed hW', X.limits, X.bytes, X.same.trans (hsame.setVm s.vm)⟩,
      ⟨g, mk, s₂, L, rfl, rfl, hqc, rfl, hL, rfl, rfl⟩, ?_⟩
    show Steps p.tables e below _ ((({ U with heap := s₂.heap, slotsUsed := s₂.slotsUsed } : State).setVm s₂.vm).setTop { g with pc := g.pc + len₂, stack := v.toList ++ g.stack })
    rw [← hs₂]
    exact hsteps
  · obtain ⟨e2, q2, q3, q4, q5, q6⟩ := id hsm
    have e3 : s₂ = ({ (U.calling g mk a).setFrames s₂.frames with heap := s₂.heap, slotsUsed := s₂.slotsUsed } : State).setVm s₂.vm := by
      have : s₂ = ({ s₂ with vm := (U.calling g mk a).vm } : State).setVm s₂.vm := rfl
      rw [e2] at this
      exact this
    have hf₂ : s₂.frames = .throwing q :: .java g :: U.frames.tail := hend
    have hW' : U.WarmedH s₂.vm := hW₂
    have hs₂ : s₂ = ((({ U with heap := s₂.heap, slotsUsed := s₂.slotsUsed } : State).setVm s₂.vm).setTop g).pushFrame (.throwing q) := by
      refine e3.trans ?_
      rw [hf₂, State.calling_eq h.top, State.setFrames_setFrames, State.pushFrame, State.frames_setTop _ hr', State.setTop_of_frames _ hr', State.setFrames_setFrames, hr]
      rfl
    have hsame : U.sameButNew ({ U with heap := s₂.heap, slotsUsed := s₂.slotsUsed } : State) L mc ms := by
      refine ⟨?_, q2, q3, q4, q5, q6⟩
      obtain ⟨t, ht, -⟩ := State.frames_cons hr
      show ({ U with heap := s₂.heap, slotsUsed := s₂.slotsUsed } : State) = { U.setFrames U.frames with heap := s₂.heap, slotsUsed := s₂.slotsUsed }
      rw [State.setFrames_self ht]
    subst hg
    refine Or.inr ⟨q, ⟨(({ U with heap := s₂.heap, slotsUsed := s₂.slotsUsed } : State).setVm s₂.vm), Ls ++ L, c0 + mc, s0 + ms⟩,
      ⟨X.admits, X.cas, X.clock, X.frames, X.room, X.hears, X.method, X.code, (X.here.setHeapUsed s₂.heap s₂.slotsUsed).setVm hW'.alike, X.tail, State.WarmedH.trans X.warmed hW', X.limits, X.bytes, X.same.trans (hsame.setVm s.vm)⟩,
      ⟨g, mk, s₂, L, E, ce, rfl, rfl, hx, hce, hcv, hcl, rfl, hL, rfl, rfl⟩, ?_⟩
    show Steps p.tables e below _ (((({ U with heap := s₂.heap, slotsUsed := s₂.slotsUsed } : State).setVm s₂.vm).setTop g).pushFrame (.throwing q))
    rw [← hs₂]
    exact hsteps
end Payer
section Calls
variable {p : Program} {l : Launch} {e : Env} {R : Room} {s : State} {m : MethodId} {args : Array Value} {below : List Frame} {meth : Method} {c : Code} {T : State} {locs : List Loc} {cells slots : Nat}
theorem vx_callV (X : Stand p l e R s m args below meth c T locs cells slots) (hexec : p.tables.exec = Jvm.exec) {own C : String} {index : Nat} {y : MethodName} {bytes : ByteArray} {maxL : Nat} {ret : Option FieldType}
    (hown : s.vm.findClass own = some m.cls) (hlink : (Cond.methodLink own index y).before args s = true) (hinst : (Cond.instanceMethod y).before args s = true) (hsel : (Cond.selects C y y).before args s = true)
    (hcode : (Cond.code y bytes maxL ret).before args s = true) (hy : y.cls ≠ "java/lang/invoke/MethodHandle" ∧ y.cls ≠ "java/lang/invoke/VarHandle")
    {W9 : Nat} {Pre : Pt → Array Value → Prop} {Post : Pt → Array Value → Option Value → Pt → Prop} {PostX : Pt → Array Value → Addr → Pt → Prop} (hK : vx_Back l R p e below s args y 3 W9 Pre Post PostX)
    {b : Addr} {cellB : Cell} (hcell : T.heap[b]? = some cellB) (hobj : cellB.vm.isStatics = false) (hcls : s.vm.findClass C = some cellB.cls)
    {g : JFrame} (hg : g.method = m) (hsize : g.locals.size = c.maxLocals) {argsL rest : List Value} (hlen : ∀ sig, parseMethodDescriptor y.desc = some sig → argsL.length = sig.parameters.length)
    (hstack : g.stack = argsL.reverse ++ .ref b :: rest) (hW : 2 * g.monitorRoom + (rest.map fun v => v.category).sum ≤ W9) (hdg : decode c.code g.pc = .ok (.invokevirtual index, 3))
    (hpre : ∀ vm₁, s.WarmedH vm₁ → Pre ⟨T.setVm vm₁, locs, cells, slots⟩ (Value.ref b :: argsL).toArray) :
    (∃ (v : Option Value) (vm₁ : Vm) (B : Pt), s.WarmedH vm₁ ∧ Stand p l e R s m args below meth c B.U B.locs B.cells B.slots ∧ Post ⟨T.setVm vm₁, locs, cells, slots⟩ (Value.ref b :: argsL).toArray v B ∧
      ∀ target, Steps p.tables e below (B.U.setTop { g with pc := g.pc + 3, stack := v.toList ++ rest }) target → Steps p.tables e below (T.setTop g) target) ∨
    (∃ (q : Addr) (vm₁ : Vm) (B : Pt), s.WarmedH vm₁ ∧ Stand p l e R s m args below meth c B.U B.locs B.cells B.slots ∧ PostX ⟨T.setVm vm₁, locs, cells, slots⟩ (Value.ref b :: argsL).toArray q B ∧
      Steps p.tables e below (T.setTop g) ((B.U.setTop { g with stack := rest }).pushFrame (.throwing q))) := by
  obtain ⟨mk, methM, hnamed, hmethM, hstM, habM⟩ := Cond.instanceMethod_spec hinst
  obtain ⟨methM', cM, hmethM', -, -, -, -, -, -, hsigM⟩ := Cond.code_spec hnamed hcode
  cases hmethM.symm.trans hmethM'
  obtain ⟨c2, r2, m2, q1, q2, q3, q4, kP, hkP, hkPi⟩ := Cond.selects_spec hsel
  cases hcls.symm.trans q1
  cases (State.methodFound?_of_named hnamed hy).symm.trans q2
  cases hnamed.symm.trans q3
  have hselP : selectMethod e.platform s.vm cellB.cls mk = .method mk := by rw [Launch.admits_selectMethod X.admits]; exact q4
  obtain ⟨vm₁, X₁, hstep₁⟩ := X.invokevirtual hexec hown hlink hnamed hmethM hstM hkP hkPi hy (a := b) (cell := cellB) hcell
    (fun z h => by rw [h] at hobj; cases hobj) hselP hmethM habM hkP hkPi (g := g) hg (argsL := argsL) (rest := rest) (hlen _ hsigM) hstack hdg
  rcases hK m meth c ⟨T.setVm vm₁, locs, cells, slots⟩ { g with stack := rest } (.invokevirtual index) mk (Value.ref b :: argsL).toArray X₁ hg hsize hdg hW (X₁.named hnamed) (hpre vm₁ X₁.warmed) with ⟨v, B, X', hpost, hsteps⟩ | ⟨q, B, X', hpost, hsteps⟩
  · exact Or.inl ⟨v, vm₁, B, X₁.warmed, X', hpost, fun target h => hstep₁ _ fun acts => by rw [doInvoke_state]; exact hsteps.trans h⟩
  · exact Or.inr ⟨q, vm₁, B, X₁.warmed, X', hpost, hstep₁ _ fun acts => by rw [doInvoke_state]; exact hsteps⟩
theorem vx_callS (X : Stand p l e R s m args below meth c T locs cells slots) (hexec : p.tables.exec = Jvm.exec) {own : String} {index : Nat} {y : MethodName} {bytes : ByteArray} {maxL : Nat} {ret : Option FieldType}
    (hown : s.vm.findClass own = some m.cls) (hlink : (Cond.methodLink own index y).before args s = true) (hstat : (Cond.static y).before args s = true) (hinit : (Cond.initialized y.cls).before args s = true)
    (hcode : (Cond.code y bytes maxL ret).before args s = true) (hy : y.cls ≠ "java/lang/invoke/MethodHandle" ∧ y.cls ≠ "java/lang/invoke/VarHandle")
    {W9 : Nat} {Pre : Pt → Array Value → Prop} {Post : Pt → Array Value → Option Value → Pt → Prop} {PostX : Pt → Array Value → Addr → Pt → Prop} (hK : vx_Back l R p e below s args y 3 W9 Pre Post PostX)
    {g : JFrame} (hg : g.method = m) (hsize : g.locals.size = c.maxLocals) {argsL rest : List Value} (hlen : ∀ sig, parseMethodDescriptor y.desc = some sig → argsL.length = sig.parameters.length)
    (hstack : g.stack = argsL.reverse ++ rest) (hW : 2 * g.monitorRoom + (rest.map fun v => v.category).sum ≤ W9) (hdg : decode c.code g.pc = .ok (.invokestatic index, 3))
    (hpre : ∀ vm₁, s.WarmedH vm₁ → Pre ⟨T.setVm vm₁, locs, cells, slots⟩ argsL.toArray) :
    (∃ (v : Option Value) (vm₁ : Vm) (B : Pt), s.WarmedH vm₁ ∧ Stand p l e R s m args below meth c B.U B.locs B.cells B.slots ∧ Post ⟨T.setVm vm₁, locs, cells, slots⟩ argsL.toArray v B ∧
      ∀ target, Steps p.tables e below (B.U.setTop { g with pc := g.pc + 3, stack := v.toList ++ rest }) target → Steps p.tables e below (T.setTop g) target) ∨
    (∃ (q : Addr) (vm₁ : Vm) (B : Pt), s.WarmedH vm₁ ∧ Stand p l e R s m args below meth c B.U B.locs B.cells B.slots ∧ PostX ⟨T.setVm vm₁, locs, cells, slots⟩ argsL.toArray q B ∧
      Steps p.tables e below (T.setTop g) ((B.U.setTop { g with stack := rest }).pushFrame (.throwing q))) := by
  obtain ⟨mk, hnamed⟩ := Cond.code_named hcode
  obtain ⟨methM, cM, hmethM, -, -, -, -, -, -, hsigM⟩ := Cond.code_spec hnamed hcode
  have hstatic : methM.isStatic = true := Cond.static_spec hnamed hmethM hstat
  obtain ⟨kP, hkP, -⟩ := className_of_methodNamed hnamed
  have hinitP : kP.init = .initialized := Cond.initialized_spec (findClass_of_methodNamed hnamed) hkP hinit
  obtain ⟨vm₁, X₁, hstep₁⟩ := X.invokestatic hexec hown hlink hnamed hmethM hstatic hkP hinitP hy (g := g) hg (argsL := argsL) (rest := rest) (hlen _ hsigM) hstack hdg
  rcases hK m meth c ⟨T.setVm vm₁, locs, cells, slots⟩ { g with stack := rest } (.invokestatic index) mk argsL.toArray X₁ hg hsize hdg hW (X₁.named hnamed) (hpre vm₁ X₁.warmed) with ⟨v, B, X', hpost, hsteps⟩ | ⟨q, B, X', hpost, hsteps⟩
  · exact Or.inl ⟨v, vm₁, B, X₁.warmed, X', hpost, fun target h => hstep₁ _ fun acts => by rw [doInvoke_state]; exact hsteps.trans h⟩
  · exact Or.inr ⟨q, vm₁, B, X₁.warmed, X', hpost, hstep₁ _ fun acts => by rw [doInvoke_state]; exact hsteps⟩
end Calls
theorem vx_cls {s : State} {T : State} {vm₁ : Vm} {E : String} {k : ClassId} (hW : s.WarmedH vm₁) (h : (T.setVm vm₁).vm.findClass E = some k) : s.vm.findClass E = some k := by
  have h1 : vm₁.findClass E = some k := h
  rw [hW.alike.findClass] at h1
  exact h1
/-- the method's frame g, with q thrown over it -/
def vx_W (p : Program) (l : Launch) (e : Env) (R : Room) (s : State) (m : MethodId) (args : Array Value) (below : List Frame) (meth : Method) (c : Code) (H : Heap) (locs : List Loc) (cells slots : Nat) (Q : State → Prop) (g : JFrame) (q : Addr) : Prop :=
  ∀ T : State, T.heap = H → Stand p l e R s m args below meth c T locs cells slots → ∃ t, Steps p.tables e below ((T.setTop g).pushFrame (.throwing q)) t ∧ Q t
def vx_Run (p : Program) (l : Launch) (e : Env) (R : Room) (s : State) (m : MethodId) (args : Array Value) (below : List Frame) (meth : Method) (c : Code) (H : Heap) (locs : List Loc) (cells slots mc ms : Nat) (g : JFrame) (rest : List Value) (Qa : State → Outcome → State → Prop) (XC : String → State → State → Prop) (free : Addr → Prop) : Prop :=
  ∀ T : State, T.heap = H → Stand p l e R s m args below meth c T locs cells slots →
    (∃ (v : Option Value) (st₀ t T' : State) (L : List Loc), st₀.heap = H ∧ Stand p l e R s m args below meth c T' (locs ++ L) (cells + mc) (slots + ms) ∧ (∀ q ∈ L, free q.base) ∧ T'.heap = t.heap ∧ T'.vm = t.vm ∧ Qa st₀ (.returned v) t ∧
      Goes p e below T g T' { g with pc := g.pc + 3, stack := v.toList ++ rest }) ∨
    (∃ (q : Addr) (st₀ t T' : State) (L : List Loc) (E : String) (ce : Cell), st₀.heap = H ∧ Stand p l e R s m args below meth c T' (locs ++ L) (cells + mc) (slots + ms) ∧ (∀ z ∈ L, free z.base) ∧ T'.heap = t.heap ∧ T'.vm = t.vm ∧ XC E st₀ t ∧ t.heap[q]? = some ce ∧ ce.vm = .none ∧ s.vm.findClass E = some ce.cls ∧
      Steps p.tables e below (T.setTop g) ((T'.setTop { g with stack := rest }).pushFrame (.throwing q)))
def vx_X {S : Type} (px : S → Prop) (B : String → S → State → Prop) (A : Nat → Prop) : String → State → State → Prop := fun E st t => ∃ u : S, px u ∧ B E u t ∧ va_F A st t
section Runs
variable {p : Program} {l : Launch} {e : Env} {R : Room} {s : State} {m : MethodId} {args : Array Value} {below : List Frame} {meth : Method} {c : Code} {H : Heap} {locs : List Loc} {cells slots : Nat}
variable {y : MethodName} {bytes cc : ByteArray} {maxL nL mc ms n index : Nat} {ret : Option FieldType} {ws : List Cond} {rm : Room} {Pc : Array Value → State → Prop} {Qc : Array Value → State → Outcome → State → Prop} {XC : String → State → State → Prop} {free : Addr → Prop} {Ts : List Cond} {own C : String} {b : Addr} {As rest : List Value} {g : JFrame}
theorem vx_callBack (cb : CallB R s args own index y bytes maxL ret ws rm mc ms n) (hM : vx_Met l y ws rm Pc Qc XC mc ms free) (hbl : FrameBlind Pc) : vx_Back l R p e below s args y 3 8 (PreOf R mc ms Pc) (PostOf Qc mc ms free) (vx_Post XC mc ms free) := by
  obtain ⟨hrc, hrs, hfr, hlo, hws, hcw, -, hini, -⟩ := cb
  exact vx_back (bytes := bytes) (maxL := maxL) (ret := ret) hM hbl hrc hrs hfr hlo hws hcw (fun a' U hW => word_at hW (Or.inl (by first | rfl | simp [Cond.onTables, Cond.keeps, Cond.steady])) hini)
theorem vx_runV (S : CallFix p m c cc nL s args Ts own) (hM : vx_Met l y ws rm Pc Qc XC mc ms free) (cw : CallW R s args own C index y bytes maxL ret ws rm mc ms n) (hp : PreV s H C b Pc As)
    (hg : g.method = m) (hn : As.length = n) (hsize : g.locals.size = nL) (hstack : g.stack = As.reverse ++ .ref b :: rest) (hW : 2 * g.monitorRoom + (rest.map fun v => v.category).sum ≤ 8) (hdg : decode cc g.pc = .ok (.invokevirtual index, 3)) (hf : cells + mc ≤ R.cells ∧ slots + ms ≤ R.slots) :
    vx_Run p l e R s m args below meth c H locs cells slots mc ms g rest (Qc (Value.ref b :: As).toArray) XC free := by
  have hK : vx_Back l R p e below s args y 3 8 (PreOf R mc ms Pc) (PostOf Qc mc ms free) (vx_Post XC mc ms free) := vx_callBack cw.1 hM hp.1
  obtain ⟨⟨-, -, -, -, -, -, hcode, -, hy, hlen, hl⟩, hin, hse⟩ := cw
  obtain ⟨hx, hb, hml, ho, -⟩ := S
  obtain ⟨-, ⟨cellB, hcB, hoB, hclB⟩, hPc⟩ := hp
  intro T hT X
  rcases vx_callV X hx (C := C) (bytes := bytes) (maxL := maxL) (ret := ret) ho hl hin hse hcode hy hK (by rw [hT]; exact hcB) hoB hclB hg (hsize.trans hml.symm) (argsL := As) (rest := rest) (fun sig h => hn.trans (hlen sig h)) hstack hW (by rw [hb]; exact hdg)
    (fun vm₁ hW₁ => ⟨hf.1, hf.2, hPc (T.setVm vm₁) hT hW₁⟩) with ⟨v, vm₁, ⟨U', l2, c2, s2⟩, hW₁, X', ⟨g', mk, t, L, e1, e2, hq, h1, hL, h2, h3⟩, st⟩ | ⟨q, vm₁, ⟨U', l2, c2, s2⟩, hW₁, X', ⟨g', mk, t, L, E, ce, e1, e2, hq, hce, hcv, hcl, h1, hL, h2, h3⟩, st⟩
  · dsimp only [Pt.U, Pt.locs, Pt.cells, Pt.slots] at X' e1 e2 h1 h2 h3 st
    subst h1; subst h2; subst h3
    exact Or.inl ⟨v, (T.setVm vm₁).calling g' mk (Value.ref b :: As).toArray, t, U', L, hT, X', hL, e1, e2, hq, st⟩
  · dsimp only [Pt.U, Pt.locs, Pt.cells, Pt.slots] at X' e1 e2 h1 h2 h3 st hcl
    subst h1; subst h2; subst h3
    exact Or.inr ⟨q, (T.setVm vm₁).calling g' mk (Value.ref b :: As).toArray, t, U', L, E, ce, hT, X', hL, e1, e2, hq, hce, hcv, vx_cls hW₁ hcl, st⟩
theorem vx_runS (S : CallFix p m c cc nL s args Ts own) (hM : vx_Met l y ws rm Pc Qc XC mc ms free) (cw : CallB R s args own index y bytes maxL ret ws rm mc ms n ∧ (Cond.static y).before args s = true) (hp : PreS s H Pc As)
    (hg : g.method = m) (hn : As.length = n) (hsize : g.locals.size = nL) (hstack : g.stack = As.reverse ++ rest) (hW : 2 * g.monitorRoom + (rest.map fun v => v.category).sum ≤ 8) (hdg : decode cc g.pc = .ok (.invokestatic index, 3)) (hf : cells + mc ≤ R.cells ∧ slots + ms ≤ R.slots) :
    vx_Run p l e R s m args below meth c H locs cells slots mc ms g rest (Qc As.toArray) XC free := by
  have hK : vx_Back l R p e below s args y 3 8 (PreOf R mc ms Pc) (PostOf Qc mc ms free) (vx_Post XC mc ms free) := vx_callBack cw.1 hM hp.1
  obtain ⟨⟨-, -, -, -, -, -, hcode, hini, hy, hlen, hl⟩, hstt⟩ := cw
  obtain ⟨hx, hb, hml, ho, -⟩ := S
  intro T hT X
  rcases vx_callS X hx (bytes := bytes) (maxL := maxL) (ret := ret) ho hl hstt hini hcode hy hK hg (hsize.trans hml.symm) (argsL := As) (rest := rest) (fun sig h => hn.trans (hlen sig h)) hstack hW (by rw [hb]; exact hdg)
    (fun vm₁ hW₁ => ⟨hf.1, hf.2, hp.2 (T.setVm vm₁) hT hW₁⟩) with ⟨v, vm₁, ⟨U', l2, c2, s2⟩, hW₁, X', ⟨g', mk, t, L, e1, e2, hq, h1, hL, h2, h3⟩, st⟩ | ⟨q, vm₁, ⟨U', l2, c2, s2⟩, hW₁, X', ⟨g', mk, t, L, E, ce, e1, e2, hq, hce, hcv, hcl, h1, hL, h2, h3⟩, st⟩
  · dsimp only [Pt.U, Pt.locs, Pt.cells, Pt.slots] at X' e1 e2 h1 h2 h3 st
    subst h1; subst h2; subst h3
    exact Or.inl ⟨v, (T.setVm vm₁).calling g' mk As.toArray, t, U', L, hT, X', hL, e1, e2, hq, st⟩
  · dsimp only [Pt.U, Pt.locs, Pt.cells, Pt.slots] at X' e1 e2 h1 h2 h3 st hcl
    subst h1; subst h2; subst h3
    exact Or.inr ⟨q, (T.setVm vm₁).calling g' mk As.toArray, t, U', L, E, ce, hT, X', hL, e1, e2, hq, hce, hcv, vx_cls hW₁ hcl, st⟩
end Runs
section Rows
variable {p : Program} {l : Launch} {e : Env} {R : Room} {s : State} {m : MethodId} {args : Array Value} {below : List Frame} {meth : Method} {c : Code} {H : Heap} {locs : List Loc} {cells slots : Nat} {Q : State → Prop}
variable {mc ms : Nat} {free : Addr → Prop} {A0 A1 : Nat → Prop} {H0 : Heap} {a : Array Value} {pc : Nat} {ls : Array Slot} {st0 rest : List Value}
theorem vx_keep {st₀ t T' : State} {L : List Loc} (h0 : st₀.heap = H) (e1 : T'.heap = t.heap) (hS : va_S A0 H0 H locs) (hA : ∀ q, q < H.size → A1 q → A0 q) (hf : ∀ q, free q → A0 q) (hL : ∀ q ∈ L, free q.base) (hF : va_F A1 st₀ t) :
    H.size ≤ T'.heap.size ∧ (∀ q : Nat, q < H.size → ¬ A1 q → T'.heap[q]? = H[q]?) ∧ va_S A0 H0 T'.heap (locs ++ L) := by
  obtain ⟨hz, hk⟩ := hF
  rw [h0] at hz hk
  exact ⟨by rw [e1]; exact hz, fun q h1 h2 => by rw [e1]; exact hk q h1 h2,
    ⟨Nat.le_trans hS.1 (by rw [e1]; exact hz), fun q h1 h2 => by rw [e1, hk q (Nat.lt_of_lt_of_le h1 hS.1) (fun z => h2 (hA q (Nat.lt_of_lt_of_le h1 hS.1) z))]; exact hS.2.1 q h1 h2, fun q hq => by
      rcases List.mem_append.mp hq with h | h
      · exact hS.2.2 q h
      · exact hf _ (hL q h)⟩⟩
theorem vx_calli {S SX : Type} {post : Int32 → S → Prop} {px : SX → Prop} {B : S → State → Prop} {BX : String → SX → State → Prop} {AX : Nat → Prop} (hr : vx_Run p l e R s m args below meth c H locs cells slots mc ms (F0 m pc ls st0) rest (va_Qi post B A1 a) (vx_X px BX AX) free) (hS : va_S A0 H0 H locs) (hA : ∀ q, q < H.size → A1 q → A0 q) (hf : ∀ q, free q → A0 q) (hAX : ∀ q, q < H.size → AX q → A0 q)
    (kx : ∀ (E : String) (ce : Cell) (q9 : Addr) (u : SX) (t : State) (H1 : Heap) (locs1 : List Loc), t.heap = H1 → s.vm.Alike t.vm → px u → BX E u t → H.size ≤ H1.size → (∀ q : Nat, q < H.size → ¬ AX q → H1[q]? = H[q]?) → va_S A0 H0 H1 locs1 → H1[q9]? = some ce → ce.vm = .none → s.vm.findClass E = some ce.cls → vx_W p l e R s m args below meth c H1 locs1 (cells + mc) (slots + ms) Q (F0 m pc ls rest) q9)
    (kk : ∀ (r : Int32) (u : S) (t : State) (H1 : Heap) (locs1 : List Loc), t.heap = H1 → s.vm.Alike t.vm → post r u → B u t → H.size ≤ H1.size → (∀ q : Nat, q < H.size → ¬ A1 q → H1[q]? = H[q]?) → va_S A0 H0 H1 locs1 → W p l e R s m args below meth c H1 locs1 (cells + mc) (slots + ms) Q (F0 m (pc + 3) ls (.int r :: rest))) : W p l e R s m args below meth c H locs cells slots Q (F0 m pc ls st0) := by
  intro T hT X
  rcases hr T hT X with ⟨v, st₀, t, T', L, h0, X', hL, e1, e2, ⟨⟨r, u, hv, hp, hb⟩, hF⟩, st⟩ | ⟨q, st₀, t, T', L, E, ce, h0, X', hL, e1, e2, ⟨u, hp, hb, hF⟩, hce, hcv, hcl, st⟩
  · cases hv
    obtain ⟨k1, k2, k3⟩ := vx_keep h0 e1 hS hA hf hL hF
    obtain ⟨t2, a1, b1⟩ := kk r u t T'.heap (locs ++ L) e1.symm (by rw [← e2]; exact X'.warmed.alike) hp hb k1 k2 k3 T' rfl X'
    exact ⟨t2, st t2 a1, b1⟩
  · obtain ⟨k1, k2, k3⟩ := vx_keep h0 e1 hS hAX hf hL hF
    obtain ⟨t2, a1, b1⟩ := kx E ce q u t T'.heap (locs ++ L) e1.symm (by rw [← e2]; exact X'.warmed.alike) hp hb k1 k2 k3 (by rw [e1]; exact hce) hcv hcl T' rfl X'
    exact ⟨t2, st.trans a1, b1⟩
theorem vx_calll {S SX : Type} {post : Int64 → S → Prop} {px : SX → Prop} {B : S → State → Prop} {BX : String → SX → State → Prop} {AX : Nat → Prop} (hr : vx_Run p l e R s m args below meth c H locs cells slots mc ms (F0 m pc ls st0) rest (va_Ql post B A1 a) (vx_X px BX AX) free) (hS : va_S A0 H0 H locs) (hA : ∀ q, q < H.size → A1 q → A0 q) (hf : ∀ q, free q → A0 q) (hAX : ∀ q, q < H.size → AX q → A0 q)
    (kx : ∀ (E : String) (ce : Cell) (q9 : Addr) (u : SX) (t : State) (H1 : Heap) (locs1 : List Loc), t.heap = H1 → s.vm.Alike t.vm → px u → BX E u t → H.size ≤ H1.size → (∀ q : Nat, q < H.size → ¬ AX q → H1[q]? = H[q]?) → va_S A0 H0 H1 locs1 → H1[q9]? = some ce → ce.vm = .none → s.vm.findClass E = some ce.cls → vx_W p l e R s m args below meth c H1 locs1 (cells + mc) (slots + ms) Q (F0 m pc ls rest) q9)
    (kk : ∀ (r : Int64) (u : S) (t : State) (H1 : Heap) (locs1 : List Loc), t.heap = H1 → s.vm.Alike t.vm → post r u → B u t → H.size ≤ H1.size → (∀ q : Nat, q < H.size → ¬ A1 q → H1[q]? = H[q]?) → va_S A0 H0 H1 locs1 → W p l e R s m args below meth c H1 locs1 (cells + mc) (slots + ms) Q (F0 m (pc + 3) ls (.long r :: rest))) : W p l e R s m args below meth c H locs cells slots Q (F0 m pc ls st0) := by
  intro T hT X
  rcases hr T hT X with ⟨v, st₀, t, T', L, h0, X', hL, e1, e2, ⟨⟨r, u, hv, hp, hb⟩, hF⟩, st⟩ | ⟨q, st₀, t, T', L, E, ce, h0, X', hL, e1, e2, ⟨u, hp, hb, hF⟩, hce, hcv, hcl, st⟩
  · cases hv
    obtain ⟨k1, k2, k3⟩ := vx_keep h0 e1 hS hA hf hL hF
    obtain ⟨t2, a1, b1⟩ := kk r u t T'.heap (locs ++ L) e1.symm (by rw [← e2]; exact X'.warmed.alike) hp hb k1 k2 k3 T' rfl X'
    exact ⟨t2, st t2 a1, b1⟩
  · obtain ⟨k1, k2, k3⟩ := vx_keep h0 e1 hS hAX hf hL hF
    obtain ⟨t2, a1, b1⟩ := kx E ce q u t T'.heap (locs ++ L) e1.symm (by rw [← e2]; exact X'.warmed.alike) hp hb k1 k2 k3 (by rw [e1]; exact hce) hcv hcl T' rfl X'
    exact ⟨t2, st.trans a1, b1⟩
theorem vx_callf {S SX : Type} {post : UInt32 → S → Prop} {px : SX → Prop} {B : S → State → Prop} {BX : String → SX → State → Prop} {AX : Nat → Prop} (hr : vx_Run p l e R s m args below meth c H locs cells slots mc ms (F0 m pc ls st0) rest (va_Qf post B A1 a) (vx_X px BX AX) free) (hS : va_S A0 H0 H locs) (hA : ∀ q, q < H.size → A1 q → A0 q) (hf : ∀ q, free q → A0 q) (hAX : ∀ q, q < H.size → AX q → A0 q)
    (kx : ∀ (E : String) (ce : Cell) (q9 : Addr) (u : SX) (t : State) (H1 : Heap) (locs1 : List Loc), t.heap = H1 → s.vm.Alike t.vm → px u → BX E u t → H.size ≤ H1.size → (∀ q : Nat, q < H.size → ¬ AX q → H1[q]? = H[q]?) → va_S A0 H0 H1 locs1 → H1[q9]? = some ce → ce.vm = .none → s.vm.findClass E = some ce.cls → vx_W p l e R s m args below meth c H1 locs1 (cells + mc) (slots + ms) Q (F0 m pc ls rest) q9)
    (kk : ∀ (r : UInt32) (u : S) (t : State) (H1 : Heap) (locs1 : List Loc), t.heap = H1 → s.vm.Alike t.vm → post r u → B u t → H.size ≤ H1.size → (∀ q : Nat, q < H.size → ¬ A1 q → H1[q]? = H[q]?) → va_S A0 H0 H1 locs1 → W p l e R s m args below meth c H1 locs1 (cells + mc) (slots + ms) Q (F0 m (pc + 3) ls (.float r :: rest))) : W p l e R s m args below meth c H locs cells slots Q (F0 m pc ls st0) := by
  intro T hT X
  rcases hr T hT X with ⟨v, st₀, t, T', L, h0, X', hL, e1, e2, ⟨⟨r, u, hv, hp, hb⟩, hF⟩, st⟩ | ⟨q, st₀, t, T', L, E, ce, h0, X', hL, e1, e2, ⟨u, hp, hb, hF⟩, hce, hcv, hcl, st⟩
  · cases hv
    obtain ⟨k1, k2, k3⟩ := vx_keep h0 e1 hS hA hf hL hF
    obtain ⟨t2, a1, b1⟩ := kk r u t T'.heap (locs ++ L) e1.symm (by rw [← e2]; exact X'.warmed.alike) hp hb k1 k2 k3 T' rfl X'
    exact ⟨t2, st t2 a1, b1⟩
  · obtain ⟨k1, k2, k3⟩ := vx_keep h0 e1 hS hAX hf hL hF
    obtain ⟨t2, a1, b1⟩ := kx E ce q u t T'.heap (locs ++ L) e1.symm (by rw [← e2]; exact X'.warmed.alike) hp hb k1 k2 k3 (by rw [e1]; exact hce) hcv hcl T' rfl X'
    exact ⟨t2, st.trans a1, b1⟩
theorem vx_calld {S SX : Type} {post : UInt64 → S → Prop} {px : SX → Prop} {B : S → State → Prop} {BX : String → SX → State → Prop} {AX : Nat → Prop} (hr : vx_Run p l e R s m args below meth c H locs cells slots mc ms (F0 m pc ls st0) rest (va_Qd post B A1 a) (vx_X px BX AX) free) (hS : va_S A0 H0 H locs) (hA : ∀ q, q < H.size → A1 q → A0 q) (hf : ∀ q, free q → A0 q) (hAX : ∀ q, q < H.size → AX q → A0 q)
    (kx : ∀ (E : String) (ce : Cell) (q9 : Addr) (u : SX) (t : State) (H1 : Heap) (locs1 : List Loc), t.heap = H1 → s.vm.Alike t.vm → px u → BX E u t → H.size ≤ H1.size → (∀ q : Nat, q < H.size → ¬ AX q → H1[q]? = H[q]?) → va_S A0 H0 H1 locs1 → H1[q9]? = some ce → ce.vm = .none → s.vm.findClass E = some ce.cls → vx_W p l e R s m args below meth c H1 locs1 (cells + mc) (slots + ms) Q (F0 m pc ls rest) q9)
    (kk : ∀ (r : UInt64) (u : S) (t : State) (H1 : Heap) (locs1 : List Loc), t.heap = H1 → s.vm.Alike t.vm → post r u → B u t → H.size ≤ H1.size → (∀ q : Nat, q < H.size → ¬ A1 q → H1[q]? = H[q]?) → va_S A0 H0 H1 locs1 → W p l e R s m args below meth c H1 locs1 (cells + mc) (slots + ms) Q (F0 m (pc + 3) ls (.double r :: rest))) : W p l e R s m args below meth c H locs cells slots Q (F0 m pc ls st0) := by
  intro T hT X
  rcases hr T hT X with ⟨v, st₀, t, T', L, h0, X', hL, e1, e2, ⟨⟨r, u, hv, hp, hb⟩, hF⟩, st⟩ | ⟨q, st₀, t, T', L, E, ce, h0, X', hL, e1, e2, ⟨u, hp, hb, hF⟩, hce, hcv, hcl, st⟩
  · cases hv
    obtain ⟨k1, k2, k3⟩ := vx_keep h0 e1 hS hA hf hL hF
    obtain ⟨t2, a1, b1⟩ := kk r u t T'.heap (locs ++ L) e1.symm (by rw [← e2]; exact X'.warmed.alike) hp hb k1 k2 k3 T' rfl X'
    exact ⟨t2, st t2 a1, b1⟩
  · obtain ⟨k1, k2, k3⟩ := vx_keep h0 e1 hS hAX hf hL hF
    obtain ⟨t2, a1, b1⟩ := kx E ce q u t T'.heap (locs ++ L) e1.symm (by rw [← e2]; exact X'.warmed.alike) hp hb k1 k2 k3 (by rw [e1]; exact hce) hcv hcl T' rfl X'
    exact ⟨t2, st.trans a1, b1⟩
theorem vx_callv {S SX : Type} {post : S → Prop} {px : SX → Prop} {B : S → State → Prop} {BX : String → SX → State → Prop} {AX : Nat → Prop} (hr : vx_Run p l e R s m args below meth c H locs cells slots mc ms (F0 m pc ls st0) rest (va_Qv post B A1 a) (vx_X px BX AX) free) (hS : va_S A0 H0 H locs) (hA : ∀ q, q < H.size → A1 q → A0 q) (hf : ∀ q, free q → A0 q) (hAX : ∀ q, q < H.size → AX q → A0 q)
    (kx : ∀ (E : String) (ce : Cell) (q9 : Addr) (u : SX) (t : State) (H1 : Heap) (locs1 : List Loc), t.heap = H1 → s.vm.Alike t.vm → px u → BX E u t → H.size ≤ H1.size → (∀ q : Nat, q < H.size → ¬ AX q → H1[q]? = H[q]?) → va_S A0 H0 H1 locs1 → H1[q9]? = some ce → ce.vm = .none → s.vm.findClass E = some ce.cls → vx_W p l e R s m args below meth c H1 locs1 (cells + mc) (slots + ms) Q (F0 m pc ls rest) q9)
    (kk : ∀ (u : S) (t : State) (H1 : Heap) (locs1 : List Loc), t.heap = H1 → s.vm.Alike t.vm → post u → B u t → H.size ≤ H1.size → (∀ q : Nat, q < H.size → ¬ A1 q → H1[q]? = H[q]?) → va_S A0 H0 H1 locs1 → W p l e R s m args below meth c H1 locs1 (cells + mc) (slots + ms) Q (F0 m (pc + 3) ls (rest))) : W p l e R s m args below meth c H locs cells slots Q (F0 m pc ls st0) := by
  intro T hT X
  rcases hr T hT X with ⟨v, st₀, t, T', L, h0, X', hL, e1, e2, ⟨⟨u, hv, hp, hb⟩, hF⟩, st⟩ | ⟨q, st₀, t, T', L, E, ce, h0, X', hL, e1, e2, ⟨u, hp, hb, hF⟩, hce, hcv, hcl, st⟩
  · cases hv
    obtain ⟨k1, k2, k3⟩ := vx_keep h0 e1 hS hA hf hL hF
    obtain ⟨t2, a1, b1⟩ := kk u t T'.heap (locs ++ L) e1.symm (by rw [← e2]; exact X'.warmed.alike) hp hb k1 k2 k3 T' rfl X'
    exact ⟨t2, st t2 a1, b1⟩
  · obtain ⟨k1, k2, k3⟩ := vx_keep h0 e1 hS hAX hf hL hF
    obtain ⟨t2, a1, b1⟩ := kx E ce q u t T'.heap (locs ++ L) e1.symm (by rw [← e2]; exact X'.warmed.alike) hp hb k1 k2 k3 (by rw [e1]; exact hce) hcv hcl T' rfl X'
    exact ⟨t2, st.trans a1, b1⟩
/-- caught by the row x of this method's table; the rows ahead don't take it -/
theorem vx_catch {own name : String} {E : String} {ce : Cell} {q : Addr} (hown : s.vm.findClass own = some m.cls) (pre : List ExceptionTableEntry) (x : ExceptionTableEntry) (suf : List ExceptionTableEntry) (hsplit : c.exceptionTable.toList = pre ++ x :: suf)
    (hpass : ∀ z ∈ pre, covers z pc = false ∨ (z.catchType ≠ 0 ∧ ∃ nm : String, (Cond.classLink own z.catchType nm).before args s = true ∧ va_Nc E nm s)) (hx : covers x pc = true) (h0 : x.catchType ≠ 0)
    (hlink : (Cond.classLink own x.catchType name).before args s = true) (hcast : (Cond.castable E name).before args s = true) (hcell : H[q]? = some ce) (hv : ce.vm = .none) (hcl : s.vm.findClass E = some ce.cls)
    (kk : W p l e R s m args below meth c H locs cells slots Q (F0 m x.handlerPc ls [.ref q])) : vx_W p l e R s m args below meth c H locs cells slots Q (F0 m pc ls rest) q := by
  intro T hT X
  have hpl : e.platform.magicAccessors = ({} : Platform).magicAccessors := by rw [X.admits.platform]
  obtain ⟨c3, c4, hc3, hc4, hasg⟩ := Cond.castable_spec hcast
  cases Option.some.inj (hc3.symm.trans hcl)
  obtain ⟨c5, hc5, hcl5⟩ := Cond.classLink_spec hown hlink e.platform hpl
  cases Option.some.inj (hc4.symm.trans hc5)
  obtain ⟨vm', X', st⟩ := X.thenCaughtThrough q (g := F0 m pc ls rest) rfl (Steps.refl _) (by rw [hT]; exact hcell) (by rw [hv]; rfl) (by obtain ⟨k9, h9, -⟩ := Vm.findClass_spec hcl; exact ⟨k9, h9⟩) pre x suf hsplit
    (fun z hz => by
      rcases hpass z hz with h | ⟨hz0, nm, hl1, hn1⟩
      · exact Or.inl h
      · obtain ⟨c6, hc6, hcl6⟩ := Cond.classLink_spec hown hl1 e.platform hpl
        obtain ⟨a8, b8, h1, h2, h3⟩ := hn1
        cases Option.some.inj (h1.symm.trans hcl)
        cases Option.some.inj (h2.symm.trans hc6)
        exact Or.inr ⟨hz0, _, hcl6, h3⟩) hx (Or.inr ⟨h0, c4, hcl5, hasg⟩)
  obtain ⟨t, a1, b1⟩ := kk (T.setVm vm') hT X'
  exact ⟨t, st.trans a1, b1⟩
end Rows
section Ends
variable {p : Program} {l : Launch} {e : Env} {R : Room} {s : State} {m : MethodId} {args : Array Value} {below : List Frame} {meth : Method} {c : Code} {H : Heap} {locs : List Loc} {cells slots : Nat} {Q : State → Prop}
variable {mc ms : Nat} {free : Addr → Prop} {A0 A1 : Nat → Prop} {H0 : Heap} {a : Array Value} {ls : Array Slot} {st0 rest : List Value}
variable {Qc : Array Value → State → Outcome → State → Prop} {XC : String → State → State → Prop}
/-- what a body that may throw owes at its end -/
def vx_MQ (below : List Frame) (Qc : Array Value → State → Outcome → State → Prop) (XC : String → State → State → Prop) (a : Array Value) (s : State) (mc ms : Nat) (free : Addr → Prop) : State → Prop := fun t =>
  ∃ o, t.status = .running ∧ Ended t below o ∧ vx_Q Qc XC mc ms free a s o t
theorem vx_ret {g : JFrame} {mc ms : Nat} (k : W p l e R s m args below meth c H locs cells slots (MQ below Qc args s mc ms free) g) : W p l e R s m args below meth c H locs cells slots (vx_MQ below Qc XC args s mc ms free) g := by
  intro T hT X
  obtain ⟨t, a1, o, b1, b2, b3, b4⟩ := k T hT X
  exact ⟨t, a1, o, b1, b2, Or.inl ⟨b3, b4⟩⟩
/-- not caught here: it goes on to the caller -/
theorem vx_widen {g : JFrame} {q : Addr} {k n : Nat} (h1 : cells ≤ k) (h2 : slots ≤ n) (kk : vx_W p l e R s m args below meth c H locs k n Q g q) : vx_W p l e R s m args below meth c H locs cells slots Q g q := fun T hT X => kk T hT (stand_widen X h1 h2)
theorem vx_out {pc : Nat} {E : String} {ce : Cell} {q : Addr} {mc ms : Nat} (hout : ∀ x ∈ c.exceptionTable.toList, covers x pc = false) (hlocks : meth.locks = false) (hcell : H[q]? = some ce) (hv : ce.vm = .none) (hcl : s.vm.findClass E = some ce.cls)
    (hx : ∀ t : State, t.heap = H → s.vm.Alike t.vm → XC E s t) (hf : ∀ z ∈ locs, free z.base) (hc : cells ≤ mc) (hs : slots ≤ ms) :
    vx_W p l e R s m args below meth c H locs cells slots (vx_MQ below Qc XC args s mc ms free) (F0 m pc ls rest) q := by
  intro T hT X
  obtain ⟨st1, hrun, hend, hW, hsm⟩ := X.leaveThrown q (g := F0 m pc ls rest) rfl rfl rfl hout hlocks
  have hcell9 : (T.setFrames (.throwing q :: below)).heap[q]? = some ce := by
    show T.heap[q]? = some ce
    rw [hT]; exact hcell
  exact ⟨_, st1, .threw q, hrun, hend, Or.inr ⟨q, rfl, E, ce, locs, hx _ hT hW.alike, hcell9, hv, hcl, hW, hsm.mono hc hs, hf⟩⟩
theorem vx_frame {U : State} {k n : Nat} (h : s.sameButNew ({ U with vm := s.vm } : State) locs k n) : s.heap.size ≤ U.heap.size ∧ ∀ q : Nat, q < s.heap.size → (∀ z ∈ locs, z.base ≠ q) → U.heap[q]? = s.heap[q]? := by
  obtain ⟨-, h2, -, -, -, h6⟩ := h
  refine ⟨h2, fun q hq hz => ?_⟩
  obtain ⟨c9, e1, e2, e3, e4⟩ := h6 q _ (Array.getElem?_eq_getElem hq)
  have hs : c9.slots = (s.heap[q]).slots := Array.ext_getElem? fun i => e4 i fun hm => hz _ hm rfl
  have h9 : c9 = s.heap[q] := by
    rw [hs] at e2
    exact e2
  have e5 : U.heap[q]? = some c9 := e1
  rw [e5, h9, Array.getElem?_eq_getElem hq]
/-- the words of a throw but the four that speak of the heap -/
def vx_no (w : Cond) : Bool := decide (w ≠ .isRef (.static Bundle.tN "UNASSIGNED_STACK" Bundle.steD)) && decide (w ≠ .isRef (.static Bundle.tN "SUPPRESSED_SENTINEL" Bundle.listD)) && decide (w ≠ .laysStatic Bundle.tN "UNASSIGNED_STACK" Bundle.steD) && decide (w ≠ .laysStatic Bundle.tN "SUPPRESSED_SENTINEL" Bundle.listD)
def vx_at0 (own : String) (ic : Nat) (X : String) (names : List String) : List Cond := (Bundle.ownAtoms0 own ic X names).filter vx_no
def vx_atS (own : String) (ic : Nat) (X : String) (names : List String) : List Cond := (Bundle.ownAtoms own ic X names).filter vx_no
/-- a word that the tables alone decide, or a good one -/
def vx_ot (w : Cond) : Bool := w.onTables || goodWord w
theorem vx_ot_at {args a' : Array Value} {s U : State} {w : Cond} (hW : s.WarmedH U.vm) (hvm : s.vm = U.vm) (hg : vx_ot w = true) (h : w.before args s = true) : w.before a' U = true := by
  simp only [vx_ot, Bool.or_eq_true] at hg
  rcases hg with hg | hg
  · exact va_tabs hg hvm h
  · exact word_at hW (good_of_word hg) h
/-- a list's words: the good ones out of the method's own list, the others by premises of their own -/
theorem vx_hat {args : Array Value} {s : State} {L B : List Cond} (h1 : ∀ w ∈ L.filter goodWord, w.before args s = true) (h2 : ∀ w ∈ L.filter (fun w => !goodWord w), w ∈ B) (h3 : ∀ w ∈ B, w.before args s = true) : ∀ w ∈ L, w.before args s = true := by
  intro w hw
  by_cases g : goodWord w = true
  · exact h1 w (List.mem_filter.mpr ⟨hw, g⟩)
  · refine h3 w (h2 w (List.mem_filter.mpr ⟨hw, ?_⟩))
    show (!goodWord w) = true
    cases hgw : goodWord w
    · rfl
    · exact absurd hgw g
theorem vx_c {args : Array Value} {s : State} {w : Cond} {B : List Cond} (h : w.before args s = true) (t : ∀ w ∈ B, w.before args s = true) : ∀ w' ∈ w :: B, w'.before args s = true := fun w' h' => (List.mem_cons.mp h').elim (fun e => by rw [e]; exact h) (t w')
theorem vx_n {args : Array Value} {s : State} : ∀ w ∈ ([] : List Cond), w.before args s = true := fun _ h => nomatch h
theorem vx_own {args : Array Value} {s : State} {L : List Cond} (h1 : ∀ w ∈ L.filter vx_no, w.before args s = true)
    (hU : (Cond.isRef (.static Bundle.tN "UNASSIGNED_STACK" Bundle.steD)).before args s = true) (hN : (Cond.isRef (.static Bundle.tN "SUPPRESSED_SENTINEL" Bundle.listD)).before args s = true)
    (lU : (Cond.laysStatic Bundle.tN "UNASSIGNED_STACK" Bundle.steD).before args s = true) (lN : (Cond.laysStatic Bundle.tN "SUPPRESSED_SENTINEL" Bundle.listD).before args s = true) : ∀ w ∈ L, w.before args s = true := by
  intro w hw
  by_cases e1 : w = .isRef (.static Bundle.tN "UNASSIGNED_STACK" Bundle.steD)
  · rw [e1]; exact hU
  · by_cases e2 : w = .isRef (.static Bundle.tN "SUPPRESSED_SENTINEL" Bundle.listD)
    · rw [e2]; exact hN
    · by_cases e3 : w = .laysStatic Bundle.tN "UNASSIGNED_STACK" Bundle.steD
      · rw [e3]; exact lU
      · by_cases e4 : w = .laysStatic Bundle.tN "SUPPRESSED_SENTINEL" Bundle.listD
        · rw [e4]; exact lN
        · exact h1 w (List.mem_filter.mpr ⟨hw, by unfold vx_no; rw [decide_eq_true e1, decide_eq_true e2, decide_eq_true e3, decide_eq_true e4]; rfl⟩)
/-- where a static field lies, its class's statics cell in H -/
def vx_L (C n d : String) (A : Nat → Prop) (U : State) (H : Heap) : Prop := ∃ (c : ClassId) (k : Class) (i : Nat) (f : Field) (a : Nat) (cell : Cell), U.vm.findClass C = some c ∧ U.fieldFound? C n d = some (c, k, i, f) ∧ f.isStatic = true ∧ k.statics = some a ∧ H[a]? = some cell ∧ cell.vm.isStatics = true ∧ cell.cls = c ∧ f.slot < cell.slots.size ∧ k.staticTypes[f.slot]? = some f.type ∧ ¬ A a
theorem vx_L.moved {C n d : String} {A : Nat → Prop} {u U : State} {H : Heap} (hvm : u.vm.Alike U.vm) (h : vx_L C n d A u H) : vx_L C n d A U H := by
  obtain ⟨c, k, i, f, a, cell, h1, h2, h3, h4, h5, h6, h7, h8, h9, h10⟩ := h
  obtain ⟨k', hi', he⟩ := State.fieldFound?_setVm hvm h2
  exact ⟨c, k', i, f, a, cell, by rw [hvm.findClass]; exact h1, hi', h3, by rw [he]; exact h4, h5, h6, h7, h8, by rw [he]; exact h9, h10⟩
theorem vx_L.kept {C n d : String} {A : Nat → Prop} {U : State} {H H1 : Heap} (h : vx_L C n d A U H) (hq : ∀ a : Nat, a < H.size → ¬ A a → H1[a]? = H[a]?) : vx_L C n d A U H1 := by
  obtain ⟨c, k, i, f, a, cell, h1, h2, h3, h4, h5, h6, h7, h8, h9, h10⟩ := h
  exact ⟨c, k, i, f, a, cell, h1, h2, h3, h4, by rw [hq a (Array.getElem?_eq_some_iff.mp h5).1 h10]; exact h5, h6, h7, h8, h9, h10⟩
theorem vx_L.narrow {C n d : String} {A B : Nat → Prop} {U : State} {H : Heap} (h : vx_L C n d A U H) (hAB : ∀ q, B q → A q) : vx_L C n d B U H := by
  obtain ⟨c, k, i, f, a, cell, h1, h2, h3, h4, h5, h6, h7, h8, h9, h10⟩ := h
  exact ⟨c, k, i, f, a, cell, h1, h2, h3, h4, h5, h6, h7, h8, h9, fun z => h10 (hAB _ z)⟩
theorem vx_L.word {C n d : String} {A : Nat → Prop} {s : State} {args : Array Value} (h : vx_L C n d A s s.heap) : (Cond.laysStatic C n d).before args s = true := by
  obtain ⟨c, k, i, f, a, cell, h1, h2, h3, h4, h5, h6, h7, h8, h9, -⟩ := h
  show (Cond.laysStatic C n d).holds args s none s [] = true
  exact Cond.laysStatic_of h1 h2 h3 h4 h5 h6 h7 h8 h9
/-- .. and what it holds: null or some reference -/
def vx_Zq (C n d : String) (A : Nat → Prop) (U : State) (H : Heap) : Prop := va_Zq C n d A U H ∧ vx_L C n d A U H
theorem vx_Zq.moved {C n d : String} {A : Nat → Prop} {u U : State} {H : Heap} (hvm : u.vm.Alike U.vm) (h : vx_Zq C n d A u H) : vx_Zq C n d A U H := ⟨va_Zq.moved hvm h.1, vx_L.moved hvm h.2⟩
theorem vx_Zq.kept {C n d : String} {A : Nat → Prop} {U : State} {H H1 : Heap} (h : vx_Zq C n d A U H) (hq : ∀ a : Nat, a < H.size → ¬ A a → H1[a]? = H[a]?) : vx_Zq C n d A U H1 := ⟨va_Zq.kept h.1 hq, vx_L.kept h.2 hq⟩
theorem vx_Zq.narrow {C n d : String} {A B : Nat → Prop} {U : State} {H : Heap} (h : vx_Zq C n d A U H) (hAB : ∀ q, B q → A q) : vx_Zq C n d B U H := ⟨va_Zq.narrow h.1 hAB, vx_L.narrow h.2 hAB⟩
theorem vx_Zqof {args : Array Value} {s : State} {C n d : String} {A : Nat → Prop} (hl : (Cond.laysStatic C n d).before args s = true) (hini : (Cond.initialized C).before args s = true) (h : (Cond.isRef (.static C n d)).before args s = true) (hA : ∀ a : Nat, a < s.heap.size → ¬ A a) : vx_Zq C n d A s s.heap := by
  refine ⟨va_Zqof hl hini h hA, ?_⟩
  obtain ⟨c, k, i, f, a, cell, h1, h2, h3, h4, h5, h6, h7, h8, h9⟩ := Cond.laysStatic_spec hl
  exact ⟨c, k, i, f, a, cell, h1, h2, h3, h4, h5, h6, h7, h8, h9, hA a (Array.getElem?_eq_some_iff.mp h5).1⟩
theorem vx_isRef {C n d : String} {v : Value} {A : Nat → Prop} {s : State} {args : Array Value} (h : va_Z C n d v A s s.heap) (hv : v.isRef = true) : (Cond.isRef (.static C n d)).before args s = true := by
  obtain ⟨cf, kf, fi, f, a, cell, h1, h2, h3, h4, h5, h6, h7, -⟩ := h
  have he : (Term.static C n d).eval args s none [] s = some v := by
    simp [Term.eval, State.fieldNamed?, h1, h2, h4, h5, h6, h7]
  simp only [Cond.before, Cond.holds, Cond.value, he]
  cases v <;> simp_all [Value.isRef]
theorem vx_isRefq {C n d : String} {A : Nat → Prop} {s : State} {args : Array Value} (h : va_Zq C n d A s s.heap) : (Cond.isRef (.static C n d)).before args s = true := by
  rcases h with h | ⟨t, h⟩
  · exact vx_isRef h rfl
  · exact vx_isRef h rfl
/-- the same frame, seen from here: as if the method were called anew in this heap -/
theorem vx_rebase {T : State} (X : Stand p l e R s m args below meth c T locs cells slots) {R' : Room} (hf : R'.frames ≤ R.frames) (hl : R'.locals ≤ R.locals) (hc : cells + R'.cells ≤ R.cells) (hs : slots + R'.slots ≤ R.slots) :
    Stand p l e R' ((T.setVm s.vm).setFrames (.invoking m args :: below)) m args below meth c T [] 0 0 := by
  have htop : (T.setVm s.vm).topJava?.isSome := X.here.top
  have hF : ((T.setVm s.vm).setFrames (.invoking m args :: below)).frames = .invoking m args :: below := State.frames_setFrames _ (State.cur_lt_of_top htop)
  obtain ⟨g₀, hg0⟩ := Option.isSome_iff_exists.mp htop
  obtain ⟨r, hr⟩ := State.topJava?_eq_some.mp hg0
  have hl9 : e.platform.stackLimits (T.setVm s.vm).me = e.platform.stackLimits s.me := X.limits
  have hb9 : (T.setVm s.vm).me.stackBytes = s.me.stackBytes := X.bytes
  refine ⟨X.admits, X.cas, X.clock, hF, ?_, X.hears, X.method, X.code, X.here, X.tail, X.warmed, ?_, ?_, ?_⟩
  · have h := X.room
    have hU : ((T.setVm s.vm).setFrames (.invoking m args :: below)).localsInUse = s.localsInUse := by
      rw [State.localsInUse_invoking hF (meth := meth) (c := c) X.method X.code, State.localsInUse_invoking X.frames X.method X.code]
    simp only [State.hasRoom, Bool.and_eq_true, decide_eq_true_eq] at h ⊢
    obtain ⟨⟨⟨⟨h1, h2, h3, h4, h5, h6⟩, h7⟩, h8⟩, h9⟩ := h
    rw [X.frames, List.length_cons] at h2 h3
    have q1 := X.heapSize
    have q2 := X.used
    simp only [hF, hU, List.length_cons, State.stackLimits_setFrames, State.stackBytes_setFrames, hl9, hb9]
    refine ⟨⟨⟨⟨by omega, by omega, by omega, by omega, by omega, h6⟩, ?_⟩, ?_⟩, X.book⟩
    · show T.heap.size + R'.cells ≤ e.platform.maxCells
      omega
    · show T.slotsUsed + R'.slots ≤ e.platform.maxSlots
      omega
  · rw [State.stackLimits_setFrames]; rfl
  · rw [State.stackBytes_setFrames]; rfl
  · refine ⟨?_, Nat.le_refl _, Nat.le_refl _, ?_, ?_, fun a c9 h9 => ⟨c9, h9, rfl, rfl, fun _ _ => rfl⟩⟩
    · obtain ⟨t, ht, -⟩ := State.frames_cons hr
      show T.setVm s.vm = { ((T.setVm s.vm).setFrames (.invoking m args :: below)).setFrames (T.setVm s.vm).frames with heap := T.heap, slotsUsed := T.slotsUsed }
      rw [State.setFrames_setFrames, State.setFrames_self ht]
      rfl
    · show T.slotsUsed = T.slotsUsed + ((T.heap.toList.drop T.heap.size).map (·.slots.size)).sum
      rw [List.drop_eq_nil_of_le (Nat.le_of_eq Array.length_toList)]
      rfl
    · show ((T.heap.toList.drop T.heap.size).map (·.slots.size)).sum ≤ 0
      rw [List.drop_eq_nil_of_le (Nat.le_of_eq Array.length_toList)]
      exact Nat.le_refl _
/-- 'throw new E()': new; dup; invokespecial; athrow -/
theorem vx_throw0 {cc : ByteArray} {pc : Nat} (hexec : p.tables.exec = Jvm.exec) (hb : c.code = cc) (hl : l.stackTraces = false) {own cls : String} {names : List String} {ik ic mc ms : Nat} {A : Nat → Prop}
    (hown : s.vm.findClass own = some m.cls) (hcls : Bundle.fit cls = true) (hnames : ∀ n ∈ names, Bundle.fit n = true)
    (hk : (Cond.classLink own ik cls).before args s = true) (hini : (Cond.initialized cls).before args s = true) (hat : ∀ w ∈ vx_at0 own ic cls names, w.before args s = true)
    (hgood : ∀ w ∈ Cond.classLink own ik cls :: Cond.initialized cls :: vx_at0 own ic cls names, vx_ot w = true)
    (hU : vx_Zq Bundle.tN "UNASSIGNED_STACK" Bundle.steD A s s.heap) (hN : vx_Zq Bundle.tN "SUPPRESSED_SENTINEL" Bundle.listD A s s.heap) (hS : va_S A s.heap H locs) (hsize : ls.size = c.maxLocals)
    (d0 : decode cc pc = .ok (.new ik, 3)) (d3 : decode cc (pc + 3) = .ok (.dup, 1)) (d4 : decode cc (pc + 4) = .ok (.invokespecial ic, 3)) (d7 : decode cc (pc + 7) = .ok (.athrow, 1))
    (hout : ∀ x ∈ c.exceptionTable.toList, covers x (pc + 7) = false)
    (hRframes : names.length + 3 < R.frames) (hRlocals : (rest.map fun v => v.category).sum + (13 * (names.length + 1) + 42) ≤ R.locals) (hRcells : cells + 1 ≤ R.cells) (hRslots : slots + 6 ≤ R.slots) (hlocks : meth.locks = false)
    (hx : ∀ t : State, s.vm.Alike t.vm → H.size ≤ t.heap.size → (∀ q : Nat, q < H.size → t.heap[q]? = H[q]?) → XC cls s t)
    (hf : ∀ z ∈ locs, free z.base) (hc : cells + 1 ≤ mc) (hs : slots + 6 ≤ ms) :
    W p l e R s m args below meth c H locs cells slots (vx_MQ below Qc XC args s mc ms free) (F0 m pc ls rest) := by
  intro T hT X
  have htr : e.platform.stackTraces = false := (show e.platform.stackTraces = l.stackTraces by rw [X.admits.platform]).trans hl
  have Y := vx_rebase X (R' := { frames := R.frames, locals := R.locals, cells := 1, slots := 6 }) (Nat.le_refl _) (Nat.le_refl _) hRcells hRslots
  obtain ⟨s', hA⟩ : ∃ z, z = (T.setVm s.vm).setFrames (.invoking m args :: below) := ⟨_, rfl⟩
  rw [← hA] at Y
  have hvm : s'.vm = s.vm := by rw [hA]; rfl
  have hhp : s'.heap = H := by rw [hA]; exact hT
  have hW0 : s.WarmedH s'.vm := by rw [hvm]; exact State.WarmedH.refl s
  have hat' : ∀ w ∈ vx_at0 own ic cls names, w.before args s' = true := fun w hw => vx_ot_at hW0 hvm.symm (hgood w (List.mem_cons_of_mem _ (List.mem_cons_of_mem _ hw))) (hat w hw)
  have hk' : (Cond.classLink own ik cls).before args s' = true := vx_ot_at hW0 hvm.symm (hgood _ List.mem_cons_self) hk
  have hini' : (Cond.initialized cls).before args s' = true := vx_ot_at hW0 hvm.symm (hgood _ (List.mem_cons_of_mem _ List.mem_cons_self)) hini
  have hU' : vx_Zq Bundle.tN "UNASSIGNED_STACK" Bundle.steD A s' s'.heap := by rw [hhp]; exact vx_Zq.moved hW0.alike (hU.kept hS.2.1)
  have hN' : vx_Zq Bundle.tN "SUPPRESSED_SENTINEL" Bundle.listD A s' s'.heap := by rw [hhp]; exact vx_Zq.moved hW0.alike (hN.kept hS.2.1)
  have h : ∀ w ∈ Bundle.ownAtoms0 own ic cls names, w.before args s' = true := vx_own hat' (vx_isRefq hU'.1) (vx_isRefq hN'.1) hU'.2.word hN'.2.word
  have hown' : s'.vm.findClass own = some m.cls := by rw [hvm]; exact hown
  have hins : (Cond.instantiable cls 6).before args s' = true := h _ (by simp [Bundle.ownAtoms0])
  obtain ⟨vm₁, cX, kX, hfX, hkX, -, -, X₁, st1⟩ := Y.newCold hexec (own := own) (C := cls) (index := ik) (n := 6) hown' hk' hins hini'
    (g := F0 m pc ls rest) rfl (by rw [hb]; exact d0) (Nat.le_refl _) (Nat.le_refl _)
  generalize hT1 : (T.setVm vm₁).pushCell { cls := cX, slots := kX.instanceTypes.map defaultValue, vm := .none } = T1 at X₁ st1
  have hcat : (Value.ref T.heap.size).category = 1 := rfl
  have hcellA : T1.heap[T.heap.size]? = some (freshCell cX kX) := by rw [← hT1]; exact State.heap_pushCell_size _ _
  have d3' : decode c.code (pc + 3) = .ok (.dup, 1) := by rw [hb]; exact d3
  obtain ⟨U, hsteps, hrun, hend, hW, hsame, ce, hce, hO⟩ := X₁.ctorThrow0 hexec htr (own := own) (cls := cls) (names := names) (ic := ic) hown' hcls hnames h (fun x hx => nomatch hx) hfX hkX hcellA (by rw [hhp, hT]; exact Nat.le_refl _)
    (g := { method := m, pc := pc + 4, locals := ls, stack := .ref T.heap.size :: .ref T.heap.size :: rest, locked := none }) rfl hsize rfl rfl (rest := rest) rfl
    (by rw [hb]; exact d4) (by rw [hb]; exact d7) hout hRframes (by simp only [List.map_cons, List.sum_cons, hcat]; omega) hlocks
  obtain ⟨f1, f2⟩ := vx_frame hsame
  rw [hhp] at f1 f2
  have hWs : s.WarmedH U.vm := State.WarmedH.trans hW0 hW
  have hcl : s.vm.findClass cls = some ce.cls := by
    have h9 := hO.cls
    rw [hvm] at h9
    exact h9
  have hall : s.sameButNew ({ U with vm := s.vm } : State) locs mc ms := by
    subst hA
    obtain ⟨e1, e2⟩ := hsame
    rw [State.setFrames_setFrames] at e1
    have h2 : (T.setVm s.vm).sameButNew ({ U with vm := s.vm } : State) [] (0 + 1) (0 + 6) := ⟨e1, e2⟩
    have h3 := X.same.trans h2
    rw [List.append_nil] at h3
    exact h3.mono hc hs
  refine ⟨U, ?_, .threw T.heap.size, hrun, hend, Or.inr ⟨T.heap.size, rfl, cls, ce, locs, hx U hWs.alike f1 (fun q hq => f2 q hq (fun z hz => nomatch hz)), hce, hO.vm, hcl, hWs, hall, hf⟩⟩
  refine st1 _ ?_
  show Steps p.tables e below (T1.setTop { method := m, pc := pc + 3, locals := ls, stack := .ref T.heap.size :: rest, locked := none }) _
  jvm_step X₁.here [X₁.here.top, hexec, d3', Value.category]
  exact hsteps
/-- 'throw new E("text")': new; dup; ldc; invokespecial; athrow -/
theorem vx_throwS {cc : ByteArray} {pc : Nat} (hexec : p.tables.exec = Jvm.exec) (hb : c.code = cc) (hl : l.stackTraces = false) {own cls text : String} {names : List String} {ik is ic mc ms sa : Nat} {A : Nat → Prop}
    (hown : s.vm.findClass own = some m.cls) (hcls : Bundle.fit cls = true) (hnames : ∀ n ∈ names, Bundle.fit n = true)
    (hk : (Cond.classLink own ik cls).before args s = true) (hini : (Cond.initialized cls).before args s = true) (hstr : vk_R own is text sa s) (hat : ∀ w ∈ vx_atS own ic cls names, w.before args s = true)
    (hgood : ∀ w ∈ Cond.classLink own ik cls :: Cond.initialized cls :: vx_atS own ic cls names, vx_ot w = true)
    (hU : vx_Zq Bundle.tN "UNASSIGNED_STACK" Bundle.steD A s s.heap) (hN : vx_Zq Bundle.tN "SUPPRESSED_SENTINEL" Bundle.listD A s s.heap) (hS : va_S A s.heap H locs) (hsize : ls.size = c.maxLocals)
    (d0 : decode cc pc = .ok (.new ik, 3)) (d3 : decode cc (pc + 3) = .ok (.dup, 1)) (d4 : decode cc (pc + 4) = .ok (.ldc is, 2)) (d6 : decode cc (pc + 6) = .ok (.invokespecial ic, 3)) (d9 : decode cc (pc + 9) = .ok (.athrow, 1))
    (hout : ∀ x ∈ c.exceptionTable.toList, covers x (pc + 9) = false)
    (hRframes : names.length + 3 < R.frames) (hRlocals : (rest.map fun v => v.category).sum + (13 * (names.length + 1) + 43) ≤ R.locals) (hRcells : cells + 1 ≤ R.cells) (hRslots : slots + 6 ≤ R.slots) (hlocks : meth.locks = false)
    (hx : ∀ t : State, s.vm.Alike t.vm → H.size ≤ t.heap.size → (∀ q : Nat, q < H.size → t.heap[q]? = H[q]?) → XC cls s t)
    (hf : ∀ z ∈ locs, free z.base) (hc : cells + 1 ≤ mc) (hs : slots + 6 ≤ ms) :
    W p l e R s m args below meth c H locs cells slots (vx_MQ below Qc XC args s mc ms free) (F0 m pc ls rest) := by
  intro T hT X
  have htr : e.platform.stackTraces = false := (show e.platform.stackTraces = l.stackTraces by rw [X.admits.platform]).trans hl
  have Y := vx_rebase X (R' := { frames := R.frames, locals := R.locals, cells := 1, slots := 6 }) (Nat.le_refl _) (Nat.le_refl _) hRcells hRslots
  obtain ⟨s', hA⟩ : ∃ z, z = (T.setVm s.vm).setFrames (.invoking m args :: below) := ⟨_, rfl⟩
  rw [← hA] at Y
  have hvm : s'.vm = s.vm := by rw [hA]; rfl
  have hhp : s'.heap = H := by rw [hA]; exact hT
  have hW0 : s.WarmedH s'.vm := by rw [hvm]; exact State.WarmedH.refl s
  have hat' : ∀ w ∈ vx_atS own ic cls names, w.before args s' = true := fun w hw => vx_ot_at hW0 hvm.symm (hgood w (List.mem_cons_of_mem _ (List.mem_cons_of_mem _ hw))) (hat w hw)
  have hk' : (Cond.classLink own ik cls).before args s' = true := vx_ot_at hW0 hvm.symm (hgood _ List.mem_cons_self) hk
  have hini' : (Cond.initialized cls).before args s' = true := vx_ot_at hW0 hvm.symm (hgood _ (List.mem_cons_of_mem _ List.mem_cons_self)) hini
  have hU' : vx_Zq Bundle.tN "UNASSIGNED_STACK" Bundle.steD A s' s'.heap := by rw [hhp]; exact vx_Zq.moved hW0.alike (hU.kept hS.2.1)
  have hN' : vx_Zq Bundle.tN "SUPPRESSED_SENTINEL" Bundle.listD A s' s'.heap := by rw [hhp]; exact vx_Zq.moved hW0.alike (hN.kept hS.2.1)
  have h : ∀ w ∈ Bundle.ownAtoms own ic cls names, w.before args s' = true := vx_own hat' (vx_isRefq hU'.1) (vx_isRefq hN'.1) hU'.2.word hN'.2.word
  have hown' : s'.vm.findClass own = some m.cls := by rw [hvm]; exact hown
  have hins : (Cond.instantiable cls 6).before args s' = true := h _ (by simp [Bundle.ownAtoms])
  obtain ⟨vm₁, cX, kX, hfX, hkX, -, -, X₁, st1⟩ := Y.newCold hexec (own := own) (C := cls) (index := ik) (n := 6) hown' hk' hins hini'
    (g := F0 m pc ls rest) rfl (by rw [hb]; exact d0) (Nat.le_refl _) (Nat.le_refl _)
  generalize hT1 : (T.setVm vm₁).pushCell { cls := cX, slots := kX.instanceTypes.map defaultValue, vm := .none } = T1 at X₁ st1
  have hcat : (Value.ref T.heap.size).category = 1 := rfl
  have hcellA : T1.heap[T.heap.size]? = some (freshCell cX kX) := by rw [← hT1]; exact State.heap_pushCell_size _ _
  have d3' : decode c.code (pc + 3) = .ok (.dup, 1) := by rw [hb]; exact d3
  have d4' : decode c.code (pc + 4) = .ok (.ldc is, 2) := by rw [hb]; exact d4
  have hstr' : vk_R own is text sa s' := vk_R.warm hW0 hstr
  obtain ⟨U, hsteps, hrun, hend, hW, hsame, ce, hce, hO⟩ := X₁.ctorThrowS hexec htr (own := own) (cls := cls) (names := names) (ic := ic) hown' hcls hnames h (fun x hx => nomatch hx) hfX hkX hcellA (by rw [hhp, hT]; exact Nat.le_refl _) (msg := .ref sa) rfl
    (g := { method := m, pc := pc + 6, locals := ls, stack := .ref sa :: .ref T.heap.size :: .ref T.heap.size :: rest, locked := none }) rfl hsize rfl rfl (rest := rest) rfl
    (by rw [hb]; exact d6) (by rw [hb]; exact d9) hout hRframes (by simp only [List.map_cons, List.sum_cons, hcat]; omega) hlocks
  obtain ⟨f1, f2⟩ := vx_frame hsame
  rw [hhp] at f1 f2
  have hWs : s.WarmedH U.vm := State.WarmedH.trans hW0 hW
  have hcl : s.vm.findClass cls = some ce.cls := by
    have h9 := hO.cls
    rw [hvm] at h9
    exact h9
  have hall : s.sameButNew ({ U with vm := s.vm } : State) locs mc ms := by
    subst hA
    obtain ⟨e1, e2⟩ := hsame
    rw [State.setFrames_setFrames] at e1
    have h2 : (T.setVm s.vm).sameButNew ({ U with vm := s.vm } : State) [] (0 + 1) (0 + 6) := ⟨e1, e2⟩
    have h3 := X.same.trans h2
    rw [List.append_nil] at h3
    exact h3.mono hc hs
  refine ⟨U, ?_, .threw T.heap.size, hrun, hend, Or.inr ⟨T.heap.size, rfl, cls, ce, locs, hx U hWs.alike f1 (fun q hq => f2 q hq (fun z hz => nomatch hz)), hce, hO.vm, hcl, hWs, hall, hf⟩⟩
  refine st1 _ ?_
  show Steps p.tables e below (T1.setTop { method := m, pc := pc + 3, locals := ls, stack := .ref T.heap.size :: rest, locked := none }) _
  jvm_step X₁.here [X₁.here.top, hexec, d3', Value.category]
  exact X₁.ldcString hexec (own := own) (text := text) (index := is) (a := sa) hown' hstr'.1 hstr'.2
    (g := { method := m, pc := pc + 4, locals := ls, stack := .ref T.heap.size :: .ref T.heap.size :: rest, locked := none }) rfl d4' _ hsteps
/-- 'throw new E("text")', the text by a wide index -/
theorem vx_throwSW {cc : ByteArray} {pc : Nat} (hexec : p.tables.exec = Jvm.exec) (hb : c.code = cc) (hl : l.stackTraces = false) {own cls text : String} {names : List String} {ik is ic mc ms sa : Nat} {A : Nat → Prop}
    (hown : s.vm.findClass own = some m.cls) (hcls : Bundle.fit cls = true) (hnames : ∀ n ∈ names, Bundle.fit n = true)
    (hk : (Cond.classLink own ik cls).before args s = true) (hini : (Cond.initialized cls).before args s = true) (hstr : vk_R own is text sa s) (hat : ∀ w ∈ vx_atS own ic cls names, w.before args s = true)
    (hgood : ∀ w ∈ Cond.classLink own ik cls :: Cond.initialized cls :: vx_atS own ic cls names, vx_ot w = true)
    (hU : vx_Zq Bundle.tN "UNASSIGNED_STACK" Bundle.steD A s s.heap) (hN : vx_Zq Bundle.tN "SUPPRESSED_SENTINEL" Bundle.listD A s s.heap) (hS : va_S A s.heap H locs) (hsize : ls.size = c.maxLocals)
    (d0 : decode cc pc = .ok (.new ik, 3)) (d3 : decode cc (pc + 3) = .ok (.dup, 1)) (d4 : decode cc (pc + 4) = .ok (.ldc_w is, 3)) (d7 : decode cc (pc + 7) = .ok (.invokespecial ic, 3)) (d10 : decode cc (pc + 10) = .ok (.athrow, 1))
    (hout : ∀ x ∈ c.exceptionTable.toList, covers x (pc + 10) = false)
    (hRframes : names.length + 3 < R.frames) (hRlocals : (rest.map fun v => v.category).sum + (13 * (names.length + 1) + 43) ≤ R.locals) (hRcells : cells + 1 ≤ R.cells) (hRslots : slots + 6 ≤ R.slots) (hlocks : meth.locks = false)
    (hx : ∀ t : State, s.vm.Alike t.vm → H.size ≤ t.heap.size → (∀ q : Nat, q < H.size → t.heap[q]? = H[q]?) → XC cls s t)
    (hf : ∀ z ∈ locs, free z.base) (hc : cells + 1 ≤ mc) (hs : slots + 6 ≤ ms) :
    W p l e R s m args below meth c H locs cells slots (vx_MQ below Qc XC args s mc ms free) (F0 m pc ls rest) := by
  intro T hT X
  have htr : e.platform.stackTraces = false := (show e.platform.stackTraces = l.stackTraces by rw [X.admits.platform]).trans hl
  have Y := vx_rebase X (R' := { frames := R.frames, locals := R.locals, cells := 1, slots := 6 }) (Nat.le_refl _) (Nat.le_refl _) hRcells hRslots
  obtain ⟨s', hA⟩ : ∃ z, z = (T.setVm s.vm).setFrames (.invoking m args :: below) := ⟨_, rfl⟩
  rw [← hA] at Y
  have hvm : s'.vm = s.vm := by rw [hA]; rfl
  have hhp : s'.heap = H := by rw [hA]; exact hT
  have hW0 : s.WarmedH s'.vm := by rw [hvm]; exact State.WarmedH.refl s
  have hat' : ∀ w ∈ vx_atS own ic cls names, w.before args s' = true := fun w hw => vx_ot_at hW0 hvm.symm (hgood w (List.mem_cons_of_mem _ (List.mem_cons_of_mem _ hw))) (hat w hw)
  have hk' : (Cond.classLink own ik cls).before args s' = true := vx_ot_at hW0 hvm.symm (hgood _ List.mem_cons_self) hk
  have hini' : (Cond.initialized cls).before args s' = true := vx_ot_at hW0 hvm.symm (hgood _ (List.mem_cons_of_mem _ List.mem_cons_self)) hini
  have hU' : vx_Zq Bundle.tN "UNASSIGNED_STACK" Bundle.steD A s' s'.heap := by rw [hhp]; exact vx_Zq.moved hW0.alike (hU.kept hS.2.1)
  have hN' : vx_Zq Bundle.tN "SUPPRESSED_SENTINEL" Bundle.listD A s' s'.heap := by rw [hhp]; exact vx_Zq.moved hW0.alike (hN.kept hS.2.1)
  have h : ∀ w ∈ Bundle.ownAtoms own ic cls names, w.before args s' = true := vx_own hat' (vx_isRefq hU'.1) (vx_isRefq hN'.1) hU'.2.word hN'.2.word
  have hown' : s'.vm.findClass own = some m.cls := by rw [hvm]; exact hown
  have hins : (Cond.instantiable cls 6).before args s' = true := h _ (by simp [Bundle.ownAtoms])
  obtain ⟨vm₁, cX, kX, hfX, hkX, -, -, X₁, st1⟩ := Y.newCold hexec (own := own) (C := cls) (index := ik) (n := 6) hown' hk' hins hini'
    (g := F0 m pc ls rest) rfl (by rw [hb]; exact d0) (Nat.le_refl _) (Nat.le_refl _)
  generalize hT1 : (T.setVm vm₁).pushCell { cls := cX, slots := kX.instanceTypes.map defaultValue, vm := .none } = T1 at X₁ st1
  have hcat : (Value.ref T.heap.size).category = 1 := rfl
  have hcellA : T1.heap[T.heap.size]? = some (freshCell cX kX) := by rw [← hT1]; exact State.heap_pushCell_size _ _
  have d3' : decode c.code (pc + 3) = .ok (.dup, 1) := by rw [hb]; exact d3
  have d4' : decode c.code (pc + 4) = .ok (.ldc_w is, 3) := by rw [hb]; exact d4
  have hstr' : vk_R own is text sa s' := vk_R.warm hW0 hstr
  obtain ⟨U, hsteps, hrun, hend, hW, hsame, ce, hce, hO⟩ := X₁.ctorThrowS hexec htr (own := own) (cls := cls) (names := names) (ic := ic) hown' hcls hnames h (fun x hx => nomatch hx) hfX hkX hcellA (by rw [hhp, hT]; exact Nat.le_refl _) (msg := .ref sa) rfl
    (g := { method := m, pc := pc + 7, locals := ls, stack := .ref sa :: .ref T.heap.size :: .ref T.heap.size :: rest, locked := none }) rfl hsize rfl rfl (rest := rest) rfl
    (by rw [hb]; exact d7) (by rw [hb]; exact d10) hout hRframes (by simp only [List.map_cons, List.sum_cons, hcat]; omega) hlocks
  obtain ⟨f1, f2⟩ := vx_frame hsame
  rw [hhp] at f1 f2
  have hWs : s.WarmedH U.vm := State.WarmedH.trans hW0 hW
  have hcl : s.vm.findClass cls = some ce.cls := by
    have h9 := hO.cls
    rw [hvm] at h9
    exact h9
  have hall : s.sameButNew ({ U with vm := s.vm } : State) locs mc ms := by
    subst hA
    obtain ⟨e1, e2⟩ := hsame
    rw [State.setFrames_setFrames] at e1
    have h2 : (T.setVm s.vm).sameButNew ({ U with vm := s.vm } : State) [] (0 + 1) (0 + 6) := ⟨e1, e2⟩
    have h3 := X.same.trans h2
    rw [List.append_nil] at h3
    exact h3.mono hc hs
  refine ⟨U, ?_, .threw T.heap.size, hrun, hend, Or.inr ⟨T.heap.size, rfl, cls, ce, locs, hx U hWs.alike f1 (fun q hq => f2 q hq (fun z hz => nomatch hz)), hce, hO.vm, hcl, hWs, hall, hf⟩⟩
  refine st1 _ ?_
  show Steps p.tables e below (T1.setTop { method := m, pc := pc + 3, locals := ls, stack := .ref T.heap.size :: rest, locked := none }) _
  jvm_step X₁.here [X₁.here.top, hexec, d3', Value.category]
  exact X₁.ldcStringW hexec (own := own) (text := text) (index := is) (a := sa) hown' hstr'.1 hstr'.2
    (g := { method := m, pc := pc + 4, locals := ls, stack := .ref T.heap.size :: .ref T.heap.size :: rest, locked := none }) rfl d4' _ hsteps
end Ends
section Bodies
variable {l : Launch}
theorem vx_ofW {y : MethodName} {ws ws' : List Cond} {rm : Room} {Pc : Array Value → State → Prop} {Qc : Array Value → State → Outcome → State → Prop} {XC : String → State → State → Prop} {mc ms : Nat} {free : Addr → Prop} {cc : ByteArray} {maxL : Nat} {ret : Option FieldType}
    (hy : plainName y.cls = true) (hw : ws = Cond.code y cc maxL ret :: ws')
    (body : ∀ p e s m args below meth c s₁, BodyLoose p l y (headSpec ws rm) cc maxL ret e s m args below meth c s₁ → c.maxLocals = maxL → (∀ x ∈ c.exceptionTable.toList, False) → Pc args s →
      W p l e (headSpec ws rm).room s m args below meth c s.heap [] 0 0 (vx_MQ below Qc XC args s mc ms free) (entryFrame m args maxL)) : vx_Met l y ws rm Pc Qc XC mc ms free := by
  refine MetFree.of_bodyS (code := cc) (maxLocals := maxL) (ret := ret) hy ?_ ?_
  · intro args s m h hn
    obtain ⟨meth, c, h1, h2, h3, h4, h5, h6, -, -⟩ := Cond.code_spec hn (atoms_spec (ws := ws) h _ (by rw [hw]; exact List.mem_cons_self))
    exact ⟨meth, c, h1, h2, h3, h4, h5, h6⟩
  · intro p e s m args below meth c s₁ B hml hP _
    have hh0 : s₁.heap = s.heap := by rw [B.state]; rfl
    have ht : ∀ x ∈ c.exceptionTable.toList, False := by
      obtain ⟨meth9, c9, h1, h2, -, -, -, -, h7, -⟩ := Cond.code_spec B.named (atoms_spec (ws := ws) B.pre _ (by rw [hw]; exact List.mem_cons_self))
      cases Option.some.inj (h1.symm.trans B.method)
      cases Option.some.inj (h2.symm.trans (Stand.of_body B).code)
      intro x hx
      rw [Array.isEmpty_iff.mp h7] at hx
      cases hx
    obtain ⟨t, a1, o, b1, b2, b3⟩ := body p e s m args below meth c s₁ B hml ht hP s₁ hh0 (Stand.of_body B)
    exact ⟨t, o, a1, b1, b2, b3⟩
/-- the table of a body with handlers -/
theorem vx_table {p : Program} {x y : MethodName} {S : Spec} {cc bytes : ByteArray} {maxL maxL' : Nat} {ret ret' : Option FieldType} {e : Env} {s s₁ : State} {m : MethodId} {args : Array Value} {below : List Frame} {meth : Method} {c : Code} {hh : List (Nat × Nat × Nat × Nat)}
    (B : BodyLoose p l y S cc maxL ret e s m args below meth c s₁) (h : (Cond.codeWith y bytes maxL' ret' hh).before args s = true) : c.exceptionTable.toList = tableOf hh := by
  obtain ⟨m9, meth9, c9, hn9, h1, h2, -, -, h6, -⟩ := Cond.codeWith_spec h
  cases Option.some.inj (hn9.symm.trans B.named)
  cases Option.some.inj (h1.symm.trans B.method)
  cases Option.some.inj (h2.symm.trans (Stand.of_body B).code)
  rw [← h6, table_eq]
end Bodies
end VXA
/-! ===== END ===== -/
/-! ===== BEGIN a static call of a method with an exception table ===== -/
section VXS
variable {p : Program} {l : Launch} {e : Env} {R : Room} {s : State} {m : MethodId} {args : Array Value} {below : List Frame} {meth : Method} {c : Code} {T : State} {H : Heap} {locs : List Loc} {cells slots : Nat}
abbrev vx_CSW (R : Room) (s : State) (args : Array Value) (own : String) (index : Nat) (y : MethodName) (bytes : ByteArray) (maxL : Nat) (ret : Option FieldType) (hh : List (Nat × Nat × Nat × Nat)) (ws : List Cond) (rm : Room) (mc ms n : Nat) : Prop :=
  (rm.cells = mc ∧ rm.slots = ms ∧ rm.frames + 1 ≤ R.frames ∧ 8 + (maxL + 11) + rm.locals ≤ R.locals ∧ (∀ w ∈ ws, ∀ (a' : Array Value) (U : State), s.WarmedH U.vm → w.before a' U = true) ∧ Cond.codeWith y bytes maxL ret hh ∈ ws) ∧
  (Cond.codeWith y bytes maxL ret hh).before args s = true ∧ (Cond.initialized y.cls).before args s = true ∧ (y.cls ≠ "java/lang/invoke/MethodHandle" ∧ y.cls ≠ "java/lang/invoke/VarHandle") ∧
  (∀ sig, parseMethodDescriptor y.desc = some sig → n = sig.parameters.length) ∧ (Cond.methodLink own index y).before args s = true ∧ (Cond.static y).before args s = true
theorem vx_cwSW {own : String} {index maxL mc ms : Nat} {y : MethodName} {bytes : ByteArray} {ret : Option FieldType} {hh : List (Nat × Nat × Nat × Nat)} {Ts ws ws' : List Cond} {rm : Room} (n : Nat) (ht : ∀ w ∈ Ts, w.before args s = true) (hT : GoodIn Ts (va_wsS own index y ws)) (hw : ws = Cond.codeWith y bytes maxL ret hh :: ws') (hrc : rm.cells = mc) (hrs : rm.slots = ms)
    (hd : y.cls ≠ "java/lang/invoke/MethodHandle" ∧ y.cls ≠ "java/lang/invoke/VarHandle" ∧ (parseMethodDescriptor y.desc).map (fun d => d.parameters.length) = some n) (hR : rm.frames + 1 ≤ R.frames ∧ 8 + (maxL + 11) + rm.locals ≤ R.locals) :
    vx_CSW R s args own index y bytes maxL ret hh ws rm mc ms n := by
  have ok : ∀ w ∈ va_wsS own index y ws, w.before args s = true := fun w h => ht w (hT w h).1
  have hG : GoodIn Ts ws := fun w h => hT w (by unfold va_wsS; exact List.mem_append_right _ h)
  have hc : Cond.codeWith y bytes maxL ret hh ∈ ws := by rw [hw]; exact List.mem_cons_self
  refine ⟨⟨hrc, hrs, hR.1, hR.2, pay_in ht hG, hc⟩, ht _ (hG _ hc).1, ok _ (by simp [va_wsS]), ⟨hd.1, hd.2.1⟩, fun sig h => ?_, ok _ (by simp [va_wsS]), ok _ (by simp [va_wsS])⟩
  have h2 := hd.2.2
  rw [h] at h2
  exact (Option.some.inj h2).symm
theorem vx_callSW (X : Stand p l e R s m args below meth c T locs cells slots) (hexec : p.tables.exec = Jvm.exec) {own : String} {index : Nat} {y : MethodName} {bytes : ByteArray} {maxL : Nat} {ret : Option FieldType} {hh : List (Nat × Nat × Nat × Nat)}
    (hown : s.vm.findClass own = some m.cls) (hlink : (Cond.methodLink own index y).before args s = true) (hstat : (Cond.static y).before args s = true) (hinit : (Cond.initialized y.cls).before args s = true)
    (hcode : (Cond.codeWith y bytes maxL ret hh).before args s = true) (hy : y.cls ≠ "java/lang/invoke/MethodHandle" ∧ y.cls ≠ "java/lang/invoke/VarHandle")
    {W9 : Nat} {Pre : Pt → Array Value → Prop} {Post : Pt → Array Value → Option Value → Pt → Prop} (hK : Back l R p e below s args y 3 W9 Pre Post)
    {g : JFrame} (hg : g.method = m) (hsize : g.locals.size = c.maxLocals) {argsL rest : List Value} (hlen : ∀ sig, parseMethodDescriptor y.desc = some sig → argsL.length = sig.parameters.length)
    (hstack : g.stack = argsL.reverse ++ rest) (hW : 2 * g.monitorRoom + (rest.map fun v => v.category).sum ≤ W9) (hdg : decode c.code g.pc = .ok (.invokestatic index, 3))
    (hpre : ∀ vm₁, s.WarmedH vm₁ → Pre ⟨T.setVm vm₁, locs, cells, slots⟩ argsL.toArray) :
    ∃ (v : Option Value) (vm₁ : Vm) (B : Pt), s.WarmedH vm₁ ∧ Stand p l e R s m args below meth c B.U B.locs B.cells B.slots ∧ Post ⟨T.setVm vm₁, locs, cells, slots⟩ argsL.toArray v B ∧
      ∀ target, Steps p.tables e below (B.U.setTop { g with pc := g.pc + 3, stack := v.toList ++ rest }) target → Steps p.tables e below (T.setTop g) target := by
  obtain ⟨mk, methM, cM, hnamed, hmethM, -, -, -, -, -, -, hsigM⟩ := Cond.codeWith_spec hcode
  have hstatic : methM.isStatic = true := Cond.static_spec hnamed hmethM hstat
  obtain ⟨kP, hkP, -⟩ := className_of_methodNamed hnamed
  have hinitP : kP.init = .initialized := Cond.initialized_spec (findClass_of_methodNamed hnamed) hkP hinit
  obtain ⟨vm₁, X₁, hstep₁⟩ := X.invokestatic hexec hown hlink hnamed hmethM hstatic hkP hinitP hy (g := g) hg (argsL := argsL) (rest := rest) (hlen _ hsigM) hstack hdg
  obtain ⟨v, B, X', hpost, hsteps⟩ := hK m meth c ⟨T.setVm vm₁, locs, cells, slots⟩ { g with stack := rest } (.invokestatic index) mk argsL.toArray X₁ hg hsize hdg hW (X₁.named hnamed) (hpre vm₁ X₁.warmed)
  exact ⟨v, vm₁, B, X₁.warmed, X', hpost, fun target h => hstep₁ _ fun acts => by rw [doInvoke_state]; exact hsteps.trans h⟩
theorem vx_runSW {y : MethodName} {bytes cc : ByteArray} {maxL nL mc ms n index : Nat} {ret : Option FieldType} {hh : List (Nat × Nat × Nat × Nat)} {ws : List Cond} {rm : Room} {Pc : Array Value → State → Prop} {Qc : Array Value → State → Outcome → State → Prop} {free : Addr → Prop} {Ts : List Cond} {own : String} {As rest : List Value} {g : JFrame}
    (S : CallFix p m c cc nL s args Ts own) (hM : Met l y ws rm Pc Qc mc ms free) (cw : vx_CSW R s args own index y bytes maxL ret hh ws rm mc ms n) (hp : PreS s H Pc As)
    (hg : g.method = m) (hn : As.length = n) (hsize : g.locals.size = nL) (hstack : g.stack = As.reverse ++ rest) (hW : 2 * g.monitorRoom + (rest.map fun v => v.category).sum ≤ 8) (hdg : decode cc g.pc = .ok (.invokestatic index, 3)) (hf : cells + mc ≤ R.cells ∧ slots + ms ≤ R.slots) :
    va_Run p l e R s m args below meth c H locs cells slots mc ms g rest (Qc As.toArray) (free) := by
  obtain ⟨⟨hrc, hrs, hfr, hlo, hws, hcw⟩, hcode, hini, hy, hlen, hl, hstt⟩ := cw
  have hK : Back l R p e below s args y 3 8 (PreOf R mc ms Pc) (PostOf Qc mc ms free) := va_backW (hh := hh) (bytes := bytes) (maxL := maxL) (ret := ret) hM hp.1 hrc hrs hfr hlo hws hcw (fun a' U hW => word_at hW (Or.inl (by first | rfl | simp [Cond.onTables, Cond.keeps, Cond.steady])) hini)
  obtain ⟨hx, hb, hml, ho, -⟩ := S
  intro T hT X
  obtain ⟨v, vm₁, ⟨U', l2, c2, s2⟩, hW₁, X', ⟨g', mk, t, L, e1, e2, hq, h1, hL, h2, h3⟩, st⟩ := vx_callSW X hx (hh := hh) (bytes := bytes) (maxL := maxL) (ret := ret) ho hl hstt hini hcode hy hK hg (hsize.trans hml.symm) (argsL := As) (rest := rest) (fun sig h => hn.trans (hlen sig h)) hstack hW (by rw [hb]; exact hdg)
    (fun vm₁ hW₁ => ⟨hf.1, hf.2, hp.2 (T.setVm vm₁) hT hW₁⟩)
  dsimp only [Pt.U, Pt.locs, Pt.cells, Pt.slots] at X' e1 e2 h1 h2 h3 st
  subst h1; subst h2; subst h3
  exact ⟨v, (T.setVm vm₁).calling g' mk As.toArray, t, U', L, hT, X', hL, e1, e2, hq, st⟩
/-- not caught here, past rows that name other classes: it goes on to the caller -/
theorem vx_outP {p : Program} {l : Launch} {e : Env} {R : Room} {s : State} {m : MethodId} {args : Array Value} {below : List Frame} {meth : Method} {c : Code} {H : Heap} {locs : List Loc} {cells slots : Nat} {free : Addr → Prop} {ls : Array Slot} {rest : List Value} {Qc : Array Value → State → Outcome → State → Prop} {XC : String → State → State → Prop}
    {pc : Nat} {own E : String} {ce : Cell} {q : Addr} {mc ms : Nat} (hown : s.vm.findClass own = some m.cls) (hlocks : meth.locks = false)
    (hpass : ∀ z ∈ c.exceptionTable.toList, covers z pc = false ∨ (z.catchType ≠ 0 ∧ ∃ nm : String, (Cond.classLink own z.catchType nm).before args s = true ∧ va_Nc E nm s)) (hcell : H[q]? = some ce) (hv : ce.vm = .none) (hcl : s.vm.findClass E = some ce.cls)
    (hx : ∀ t : State, t.heap = H → s.vm.Alike t.vm → XC E s t) (hf : ∀ z ∈ locs, free z.base) (hc : cells ≤ mc) (hs : slots ≤ ms) :
    vx_W p l e R s m args below meth c H locs cells slots (vx_MQ below Qc XC args s mc ms free) (F0 m pc ls rest) q := by
  intro T hT X
  have hpl : e.platform.magicAccessors = ({} : Platform).magicAccessors := by rw [X.admits.platform]
  obtain ⟨vm', hW', X', st⟩ := X.outThrough hlocks q (g := F0 m pc ls rest) rfl rfl rfl (cell := ce) (by rw [hT]; exact hcell) (by rw [hv]; rfl)
    (by obtain ⟨k9, h9, -⟩ := Vm.findClass_spec hcl; exact ⟨k9, h9⟩) (fun z hz => by
      rcases hpass z hz with h | ⟨hz0, nm, hl1, hn1⟩
      · exact Or.inl h
      · obtain ⟨c6, hc6, hcl6⟩ := Cond.classLink_spec hown hl1 e.platform hpl
        obtain ⟨a8, b8, h1, h2, h3⟩ := hn1
        cases Option.some.inj (h1.symm.trans hcl)
        cases Option.some.inj (h2.symm.trans hc6)
        exact Or.inr ⟨hz0, _, hcl6, h3⟩)
  obtain ⟨g₀, hfr⟩ := X'.frames_eq
  have hcell9 : ((T.setVm vm').setFrames (.throwing q :: below)).heap[q]? = some ce := by
    show T.heap[q]? = some ce
    rw [hT]; exact hcell
  have hend : Ended ((T.setVm vm').setFrames (.throwing q :: below)) below (.threw q) := State.frames_setFrames _ (State.cur_lt_of_frames hfr)
  refine ⟨(T.setVm vm').setFrames (.throwing q :: below), ?_, .threw q, X'.here.running, hend, Or.inr ⟨q, rfl, E, ce, locs, hx _ hT (X'.ends _).1.alike, hcell9, hv, hcl, (X'.ends _).1, (X'.ends _).2.mono hc hs, hf⟩⟩
  rw [X.pushThrowing_eq]
  exact st
/-- a thing of a world lies in the heap -/
theorem vx_lt {D : va_G} {cl : List vw_C} {ws : va_W} {H1 : Heap} (h : va_P D cl ws H1) {k : Nat} {q : Nat × va_E} (hk : ws[k]? = some q) : q.1 < H1.size := (h k q hk).lt
end VXS
/-! ===== END ===== -/
/-! ===== BEGIN methods with a table of their own: called by a name, returning or throwing ===== -/
section VXH
/-! vx_backW, vx_callVX, vx_callSX, vx_callVW, vx_runVW, vx_runVX, vx_runSX, vx_ofWH follow the same proofs as their sisters above (Free/Laws.lean, Shelf42/LK1.lean); vx_outP calls Shelf42/NT130.lean (outThrough). -/
section
variable {l : Launch} {R : Room} {p : Program} {e : Env} {below : List Frame} {s : State} {sargs : Array Value} {y : MethodName} {len W9 : Nat}
theorem vx_backW {ws : List Cond} {rm : Room} {Pc : Array Value → State → Prop} {Qc : Array Value → State → Outcome → State → Prop} {XC : String → State → State → Prop} {mc ms : Nat} {free : Addr → Prop} {bytes : ByteArray} {maxL : Nat} {ret : Option FieldType} {hh : List (Nat × Nat × Nat × Nat)}
    (hM : vx_Met l y ws rm Pc Qc XC mc ms free) (hblind : FrameBlind Pc) (hrc : rm.cells = mc) (hrs : rm.slots = ms)
    (hframes : rm.frames + 1 ≤ R.frames) (hlocals : W9 + (maxL + 11) + rm.locals ≤ R.locals)
    (hws : ∀ w ∈ ws, ∀ a' U, s.WarmedH U.vm → w.before a' U = true) (hcode : Cond.codeWith y bytes maxL ret hh ∈ ws) (hinit : ∀ a' U, s.WarmedH U.vm → (Cond.initialized y.cls).before a' U = true) :
    vx_Back l R p e below s sargs y len W9 (PreOf R mc ms Pc) (PostOf Qc mc ms free) (vx_Post XC mc ms free) := by
  intro m meth c A g ig mk a X hg hsize hdg hW hn hp
  have h1 : (headSpec ws rm).pre.before a A.U = true := atoms_intro fun w hw => hws w hw _ _ X.warmed
  have h2 : (Cond.codeWith y bytes maxL ret hh).before a A.U = true := hws _ hcode _ _ X.warmed
  have h3 : (Cond.initialized y.cls).before a A.U = true := hinit _ _ X.warmed
  have h4 : A.cells + (headSpec ws rm).room.cells ≤ R.cells := by rw [show (headSpec ws rm).room.cells = mc from hrc]; exact hp.1
  have h5 : A.slots + (headSpec ws rm).room.slots ≤ R.slots := by rw [show (headSpec ws rm).room.slots = ms from hrs]; exact hp.2.1
  have hPc : Pc a (A.U.calling g mk a) := hblind _ _ _ _ hp.2.2
  obtain ⟨U, Ls, c0, s0⟩ := A
  dsimp only [Pt.U, Pt.locs, Pt.cells, Pt.slots] at h1 h2 h3 h4 h5 X hn hPc ⊢
  obtain ⟨m9, methY, cY, hn9, hmY, hcY, -, hlY, -⟩ := Cond.codeWith_spec h2
  cases Option.some.inj (hn9.symm.trans hn)
  obtain ⟨kY, hkY, -⟩ := className_of_methodNamed hn
  have hinitY : kY.init = .initialized := Cond.initialized_spec (findClass_of_methodNamed hn) hkY h3
  have h : At U g.method c below := by rw [hg]; exact X.here
  have hlocals9 : W9 + (maxL + 11) + (headSpec ws rm).room.locals ≤ R.locals := hlocals
  have happ : (headSpec ws rm).appliesLoose y e.platform (U.calling g mk a) = true :=
    Spec.appliesLoose_calling (g := g) h hdg hn hkY hinitY
      (X.room_calling (g := g) (R' := (headSpec ws rm).room) hsize hmY hcY hframes (by rw [hlY]; omega) h4 h5) h1
  obtain ⟨mid, hmid⟩ := h.above
  have hfr : (U.setTop g).frames = (.java g :: mid) ++ below := by rw [State.frames_setTop' g h.top, hmid]; rfl
  obtain ⟨o, s₂, hsteps, -, hend, hq⟩ := Steps.callFree hM p X.admits X.cas X.clock (acts := []) hfr happ hPc trivial
  have hq' : vx_Q Qc XC mc ms free a (U.calling g mk a) o s₂ := hq
  rw [State.frames_setTop' g h.top] at hend
  obtain ⟨g₀, hg0⟩ := Option.isSome_iff_exists.mp h.top
  obtain ⟨r, hr⟩ := State.topJava?_eq_some.mp hg0
  have hr' : (({ U with heap := s₂.heap, slotsUsed := s₂.slotsUsed } : State).setVm s₂.vm).frames = .java g₀ :: r := hr
  rcases hq' with ⟨hqc, L, hfe, hL⟩ | ⟨q, rfl, E, ce, L, hx, hce, hcv, hcl, hW₂, hsm, hL⟩
  · obtain ⟨⟨v, rfl⟩, hW₂, e2, q2, q3, q4, q5, q6⟩ := id hfe
    have e3 : s₂ = ({ (U.calling g mk a).setFrames s₂.frames with heap := s₂.heap, slotsUsed := s₂.slotsUsed } : State).setVm s₂.vm := by
      have : s₂ = ({ s₂ with vm := (U.calling g mk a).vm } : State).setVm s₂.vm := rfl
      rw [e2] at this
      exact this
    obtain ⟨c₂, i₂, len₂, hc₂, hd₂, hf₂⟩ := hend
    have hW' : U.WarmedH s₂.vm := hW₂
    have hcc : c₂ = c := by
      have h1 : s₂.code? g.method = U.code? g.method := by
        rw [State.code?_eq, State.code?_eq, hW'.alike.method?]
      exact Option.some.inj (hc₂.symm.trans (h1.trans h.code))
    subst hcc
    have hlen : len₂ = len := by rw [hdg] at hd₂; cases hd₂; rfl
    subst hlen
    have hs₂ : s₂ = (({ U with heap := s₂.heap, slotsUsed := s₂.slotsUsed } : State).setVm s₂.vm).setTop { g with pc := g.pc + len₂, stack := v.toList ++ g.stack } := by
      refine e3.trans ?_
      rw [hf₂, State.calling_eq h.top, State.setFrames_setFrames, State.setTop_of_frames _ hr', hr]
      rfl
    have hsame : U.sameButNew ({ U with heap := s₂.heap, slotsUsed := s₂.slotsUsed } : State) L mc ms := by
      refine ⟨?_, q2, q3, q4, q5, q6⟩
      obtain ⟨t, ht, -⟩ := State.frames_cons hr
      show ({ U with heap := s₂.heap, slotsUsed := s₂.slotsUsed } : State) = { U.setFrames U.frames with heap := s₂.heap, slotsUsed := s₂.slotsUsed }
      rw [State.setFrames_self ht]
    subst hg
    refine Or.inl ⟨v, ⟨(({ U with heap := s₂.heap, slotsUsed := s₂.slotsUsed } : State).setVm s₂.vm), Ls ++ L, c0 + mc, s0 + ms⟩,
      ⟨X.admits, X.cas, X.clock, X.frames, X.room, X.hears, X.method, X.code, (X.here.setHeapUsed s₂.heap s₂.slotsUsed).setVm hW'.alike, X.tail, State.WarmedH.trans X.warmed hW', X.limits, X.bytes, X.same.trans (hsame.setVm s.vm)⟩,
      ⟨g, mk, s₂, L, rfl, rfl, hqc, rfl, hL, rfl, rfl⟩, ?_⟩
    show Steps p.tables e below _ ((({ U with heap := s₂.heap, slotsUsed := s₂.slotsUsed } : State).setVm s₂.vm).setTop { g with pc := g.pc + len₂, stack := v.toList ++ g.stack })
    rw [← hs₂]
    exact hsteps
  · obtain ⟨e2, q2, q3, q4, q5, q6⟩ := id hsm
    have e3 : s₂ = ({ (U.calling g mk a).setFrames s₂.frames with heap := s₂.heap, slotsUsed := s₂.slotsUsed } : State).setVm s₂.vm := by
      have : s₂ = ({ s₂ with vm := (U.calling g mk a).vm } : State).setVm s₂.vm := rfl
      rw [e2] at this
      exact this
    have hf₂ : s₂.frames = .throwing q :: .java g :: U.frames.tail := hend
    have hW' : U.WarmedH s₂.vm := hW₂
    have hs₂ : s₂ = ((({ U with heap := s₂.heap, slotsUsed := s₂.slotsUsed } : State).setVm s₂.vm).setTop g).pushFrame (.throwing q) := by
      refine e3.trans ?_
      rw [hf₂, State.calling_eq h.top, State.setFrames_setFrames, State.pushFrame, State.frames_setTop _ hr', State.setTop_of_frames _ hr', State.setFrames_setFrames, hr]
      rfl
    have hsame : U.sameButNew ({ U with heap := s₂.heap, slotsUsed := s₂.slotsUsed } : State) L mc ms := by
      refine ⟨?_, q2, q3, q4, q5, q6⟩
      obtain ⟨t, ht, -⟩ := State.frames_cons hr
      show ({ U with heap := s₂.heap, slotsUsed := s₂.slotsUsed } : State) = { U.setFrames U.frames with heap := s₂.heap, slotsUsed := s₂.slotsUsed }
      rw [State.setFrames_self ht]
    subst hg
    refine Or.inr ⟨q, ⟨(({ U with heap := s₂.heap, slotsUsed := s₂.slotsUsed } : State).setVm s₂.vm), Ls ++ L, c0 + mc, s0 + ms⟩,
      ⟨X.admits, X.cas, X.clock, X.frames, X.room, X.hears, X.method, X.code, (X.here.setHeapUsed s₂.heap s₂.slotsUsed).setVm hW'.alike, X.tail, State.WarmedH.trans X.warmed hW', X.limits, X.bytes, X.same.trans (hsame.setVm s.vm)⟩,
      ⟨g, mk, s₂, L, E, ce, rfl, rfl, hx, hce, hcv, hcl, rfl, hL, rfl, rfl⟩, ?_⟩
    show Steps p.tables e below _ (((({ U with heap := s₂.heap, slotsUsed := s₂.slotsUsed } : State).setVm s₂.vm).setTop g).pushFrame (.throwing q))
    rw [← hs₂]
    exact hsteps
end
variable {p : Program} {l : Launch} {e : Env} {R : Room} {s : State} {m : MethodId} {args : Array Value} {below : List Frame} {meth : Method} {c : Code} {T : State} {H : Heap} {locs : List Loc} {cells slots : Nat}
theorem vx_callVX (X : Stand p l e R s m args below meth c T locs cells slots) (hexec : p.tables.exec = Jvm.exec) {own C : String} {index : Nat} {y : MethodName} {bytes : ByteArray} {maxL : Nat} {ret : Option FieldType} {hh : List (Nat × Nat × Nat × Nat)}
    (hown : s.vm.findClass own = some m.cls) (hlink : (Cond.methodLink own index y).before args s = true) (hinst : (Cond.instanceMethod y).before args s = true) (hsel : (Cond.selects C y y).before args s = true)
    (hcode : (Cond.codeWith y bytes maxL ret hh).before args s = true) (hy : y.cls ≠ "java/lang/invoke/MethodHandle" ∧ y.cls ≠ "java/lang/invoke/VarHandle")
    {W9 : Nat} {Pre : Pt → Array Value → Prop} {Post : Pt → Array Value → Option Value → Pt → Prop} {PostX : Pt → Array Value → Addr → Pt → Prop} (hK : vx_Back l R p e below s args y 3 W9 Pre Post PostX)
    {b : Addr} {cellB : Cell} (hcell : T.heap[b]? = some cellB) (hobj : cellB.vm.isStatics = false) (hcls : s.vm.findClass C = some cellB.cls)
    {g : JFrame} (hg : g.method = m) (hsize : g.locals.size = c.maxLocals) {argsL rest : List Value} (hlen : ∀ sig, parseMethodDescriptor y.desc = some sig → argsL.length = sig.parameters.length)
    (hstack : g.stack = argsL.reverse ++ .ref b :: rest) (hW : 2 * g.monitorRoom + (rest.map fun v => v.category).sum ≤ W9) (hdg : decode c.code g.pc = .ok (.invokevirtual index, 3))
    (hpre : ∀ vm₁, s.WarmedH vm₁ → Pre ⟨T.setVm vm₁, locs, cells, slots⟩ (Value.ref b :: argsL).toArray) :
    (∃ (v : Option Value) (vm₁ : Vm) (B : Pt), s.WarmedH vm₁ ∧ Stand p l e R s m args below meth c B.U B.locs B.cells B.slots ∧ Post ⟨T.setVm vm₁, locs, cells, slots⟩ (Value.ref b :: argsL).toArray v B ∧
      ∀ target, Steps p.tables e below (B.U.setTop { g with pc := g.pc + 3, stack := v.toList ++ rest }) target → Steps p.tables e below (T.setTop g) target) ∨
    (∃ (q : Addr) (vm₁ : Vm) (B : Pt), s.WarmedH vm₁ ∧ Stand p l e R s m args below meth c B.U B.locs B.cells B.slots ∧ PostX ⟨T.setVm vm₁, locs, cells, slots⟩ (Value.ref b :: argsL).toArray q B ∧
      Steps p.tables e below (T.setTop g) ((B.U.setTop { g with stack := rest }).pushFrame (.throwing q))) := by
  obtain ⟨mk, methM, hnamed, hmethM, hstM, habM⟩ := Cond.instanceMethod_spec hinst
  obtain ⟨m8, methM', cM, hn8, hmethM', -, -, -, -, -, -, hsigM⟩ := Cond.codeWith_spec hcode
  cases Option.some.inj (hn8.symm.trans hnamed)
  cases hmethM.symm.trans hmethM'
  obtain ⟨c2, r2, m2, q1, q2, q3, q4, kP, hkP, hkPi⟩ := Cond.selects_spec hsel
  cases hcls.symm.trans q1
  cases (State.methodFound?_of_named hnamed hy).symm.trans q2
  cases hnamed.symm.trans q3
  have hselP : selectMethod e.platform s.vm cellB.cls mk = .method mk := by rw [Launch.admits_selectMethod X.admits]; exact q4
  obtain ⟨vm₁, X₁, hstep₁⟩ := X.invokevirtual hexec hown hlink hnamed hmethM hstM hkP hkPi hy (a := b) (cell := cellB) hcell
    (fun z h => by rw [h] at hobj; cases hobj) hselP hmethM habM hkP hkPi (g := g) hg (argsL := argsL) (rest := rest) (hlen _ hsigM) hstack hdg
  rcases hK m meth c ⟨T.setVm vm₁, locs, cells, slots⟩ { g with stack := rest } (.invokevirtual index) mk (Value.ref b :: argsL).toArray X₁ hg hsize hdg hW (X₁.named hnamed) (hpre vm₁ X₁.warmed) with ⟨v, B, X', hpost, hsteps⟩ | ⟨q, B, X', hpost, hsteps⟩
  · exact Or.inl ⟨v, vm₁, B, X₁.warmed, X', hpost, fun target h => hstep₁ _ fun acts => by rw [doInvoke_state]; exact hsteps.trans h⟩
  · exact Or.inr ⟨q, vm₁, B, X₁.warmed, X', hpost, hstep₁ _ fun acts => by rw [doInvoke_state]; exact hsteps⟩
theorem vx_callSX (X : Stand p l e R s m args below meth c T locs cells slots) (hexec : p.tables.exec = Jvm.exec) {own : String} {index : Nat} {y : MethodName} {bytes : ByteArray} {maxL : Nat} {ret : Option FieldType} {hh : List (Nat × Nat × Nat × Nat)}
    (hown : s.vm.findClass own = some m.cls) (hlink : (Cond.methodLink own index y).before args s = true) (hstat : (Cond.static y).before args s = true) (hinit : (Cond.initialized y.cls).before args s = true)
    (hcode : (Cond.codeWith y bytes maxL ret hh).before args s = true) (hy : y.cls ≠ "java/lang/invoke/MethodHandle" ∧ y.cls ≠ "java/lang/invoke/VarHandle")
    {W9 : Nat} {Pre : Pt → Array Value → Prop} {Post : Pt → Array Value → Option Value → Pt → Prop} {PostX : Pt → Array Value → Addr → Pt → Prop} (hK : vx_Back l R p e below s args y 3 W9 Pre Post PostX)
    {g : JFrame} (hg : g.method = m) (hsize : g.locals.size = c.maxLocals) {argsL rest : List Value} (hlen : ∀ sig, parseMethodDescriptor y.desc = some sig → argsL.length = sig.parameters.length)
    (hstack : g.stack = argsL.reverse ++ rest) (hW : 2 * g.monitorRoom + (rest.map fun v => v.category).sum ≤ W9) (hdg : decode c.code g.pc = .ok (.invokestatic index, 3))
    (hpre : ∀ vm₁, s.WarmedH vm₁ → Pre ⟨T.setVm vm₁, locs, cells, slots⟩ argsL.toArray) :
    (∃ (v : Option Value) (vm₁ : Vm) (B : Pt), s.WarmedH vm₁ ∧ Stand p l e R s m args below meth c B.U B.locs B.cells B.slots ∧ Post ⟨T.setVm vm₁, locs, cells, slots⟩ argsL.toArray v B ∧
      ∀ target, Steps p.tables e below (B.U.setTop { g with pc := g.pc + 3, stack := v.toList ++ rest }) target → Steps p.tables e below (T.setTop g) target) ∨
    (∃ (q : Addr) (vm₁ : Vm) (B : Pt), s.WarmedH vm₁ ∧ Stand p l e R s m args below meth c B.U B.locs B.cells B.slots ∧ PostX ⟨T.setVm vm₁, locs, cells, slots⟩ argsL.toArray q B ∧
      Steps p.tables e below (T.setTop g) ((B.U.setTop { g with stack := rest }).pushFrame (.throwing q))) := by
  obtain ⟨mk, methM, cM, hnamed, hmethM, -, -, -, -, -, -, hsigM⟩ := Cond.codeWith_spec hcode
  have hstatic : methM.isStatic = true := Cond.static_spec hnamed hmethM hstat
  obtain ⟨kP, hkP, -⟩ := className_of_methodNamed hnamed
  have hinitP : kP.init = .initialized := Cond.initialized_spec (findClass_of_methodNamed hnamed) hkP hinit
  obtain ⟨vm₁, X₁, hstep₁⟩ := X.invokestatic hexec hown hlink hnamed hmethM hstatic hkP hinitP hy (g := g) hg (argsL := argsL) (rest := rest) (hlen _ hsigM) hstack hdg
  rcases hK m meth c ⟨T.setVm vm₁, locs, cells, slots⟩ { g with stack := rest } (.invokestatic index) mk argsL.toArray X₁ hg hsize hdg hW (X₁.named hnamed) (hpre vm₁ X₁.warmed) with ⟨v, B, X', hpost, hsteps⟩ | ⟨q, B, X', hpost, hsteps⟩
  · exact Or.inl ⟨v, vm₁, B, X₁.warmed, X', hpost, fun target h => hstep₁ _ fun acts => by rw [doInvoke_state]; exact hsteps.trans h⟩
  · exact Or.inr ⟨q, vm₁, B, X₁.warmed, X', hpost, hstep₁ _ fun acts => by rw [doInvoke_state]; exact hsteps⟩
theorem vx_callVW (X : Stand p l e R s m args below meth c T locs cells slots) (hexec : p.tables.exec = Jvm.exec) {own C : String} {index : Nat} {y : MethodName} {bytes : ByteArray} {maxL : Nat} {ret : Option FieldType} {hh : List (Nat × Nat × Nat × Nat)}
    (hown : s.vm.findClass own = some m.cls) (hlink : (Cond.methodLink own index y).before args s = true) (hinst : (Cond.instanceMethod y).before args s = true) (hsel : (Cond.selects C y y).before args s = true)
    (hcode : (Cond.codeWith y bytes maxL ret hh).before args s = true) (hy : y.cls ≠ "java/lang/invoke/MethodHandle" ∧ y.cls ≠ "java/lang/invoke/VarHandle")
    {W9 : Nat} {Pre : Pt → Array Value → Prop} {Post : Pt → Array Value → Option Value → Pt → Prop} (hK : Back l R p e below s args y 3 W9 Pre Post)
    {b : Addr} {cellB : Cell} (hcell : T.heap[b]? = some cellB) (hobj : cellB.vm.isStatics = false) (hcls : s.vm.findClass C = some cellB.cls)
    {g : JFrame} (hg : g.method = m) (hsize : g.locals.size = c.maxLocals) {argsL rest : List Value} (hlen : ∀ sig, parseMethodDescriptor y.desc = some sig → argsL.length = sig.parameters.length)
    (hstack : g.stack = argsL.reverse ++ .ref b :: rest) (hW : 2 * g.monitorRoom + (rest.map fun v => v.category).sum ≤ W9) (hdg : decode c.code g.pc = .ok (.invokevirtual index, 3))
    (hpre : ∀ vm₁, s.WarmedH vm₁ → Pre ⟨T.setVm vm₁, locs, cells, slots⟩ (Value.ref b :: argsL).toArray) :
    ∃ (v : Option Value) (vm₁ : Vm) (B : Pt), s.WarmedH vm₁ ∧ Stand p l e R s m args below meth c B.U B.locs B.cells B.slots ∧ Post ⟨T.setVm vm₁, locs, cells, slots⟩ (Value.ref b :: argsL).toArray v B ∧
      ∀ target, Steps p.tables e below (B.U.setTop { g with pc := g.pc + 3, stack := v.toList ++ rest }) target → Steps p.tables e below (T.setTop g) target := by
  obtain ⟨mk, methM, hnamed, hmethM, hstM, habM⟩ := Cond.instanceMethod_spec hinst
  obtain ⟨m8, methM', cM, hn8, hmethM', -, -, -, -, -, -, hsigM⟩ := Cond.codeWith_spec hcode
  cases Option.some.inj (hn8.symm.trans hnamed)
  cases hmethM.symm.trans hmethM'
  obtain ⟨c2, r2, m2, q1, q2, q3, q4, kP, hkP, hkPi⟩ := Cond.selects_spec hsel
  cases hcls.symm.trans q1
  cases (State.methodFound?_of_named hnamed hy).symm.trans q2
  cases hnamed.symm.trans q3
  have hselP : selectMethod e.platform s.vm cellB.cls mk = .method mk := by rw [Launch.admits_selectMethod X.admits]; exact q4
  obtain ⟨vm₁, X₁, hstep₁⟩ := X.invokevirtual hexec hown hlink hnamed hmethM hstM hkP hkPi hy (a := b) (cell := cellB) hcell
    (fun z h => by rw [h] at hobj; cases hobj) hselP hmethM habM hkP hkPi (g := g) hg (argsL := argsL) (rest := rest) (hlen _ hsigM) hstack hdg
  obtain ⟨v, B, X', hpost, hsteps⟩ := hK m meth c ⟨T.setVm vm₁, locs, cells, slots⟩ { g with stack := rest } (.invokevirtual index) mk (Value.ref b :: argsL).toArray X₁ hg hsize hdg hW (X₁.named hnamed) (hpre vm₁ X₁.warmed)
  exact ⟨v, vm₁, B, X₁.warmed, X', hpost, fun target h => hstep₁ _ fun acts => by rw [doInvoke_state]; exact hsteps.trans h⟩
abbrev vx_CVW (R : Room) (s : State) (args : Array Value) (own C : String) (index : Nat) (y : MethodName) (bytes : ByteArray) (maxL : Nat) (ret : Option FieldType) (hh : List (Nat × Nat × Nat × Nat)) (ws : List Cond) (rm : Room) (mc ms n : Nat) : Prop :=
  (rm.cells = mc ∧ rm.slots = ms ∧ rm.frames + 1 ≤ R.frames ∧ 8 + (maxL + 11) + rm.locals ≤ R.locals ∧ (∀ w ∈ ws, ∀ (a' : Array Value) (U : State), s.WarmedH U.vm → w.before a' U = true) ∧ Cond.codeWith y bytes maxL ret hh ∈ ws) ∧
  (Cond.codeWith y bytes maxL ret hh).before args s = true ∧ (Cond.initialized y.cls).before args s = true ∧ (y.cls ≠ "java/lang/invoke/MethodHandle" ∧ y.cls ≠ "java/lang/invoke/VarHandle") ∧
  (∀ sig, parseMethodDescriptor y.desc = some sig → n = sig.parameters.length) ∧ (Cond.methodLink own index y).before args s = true ∧ (Cond.instanceMethod y).before args s = true ∧ (Cond.selects C y y).before args s = true
theorem vx_cwVW {own C : String} {index maxL mc ms : Nat} {y : MethodName} {bytes : ByteArray} {ret : Option FieldType} {hh : List (Nat × Nat × Nat × Nat)} {Ts ws ws' : List Cond} {rm : Room} (n : Nat) (ht : ∀ w ∈ Ts, w.before args s = true) (hT : GoodIn Ts (wsV own index C y ws)) (hw : ws = Cond.codeWith y bytes maxL ret hh :: ws') (hrc : rm.cells = mc) (hrs : rm.slots = ms)
    (hd : y.cls = C ∧ y.cls ≠ "java/lang/invoke/MethodHandle" ∧ y.cls ≠ "java/lang/invoke/VarHandle" ∧ (parseMethodDescriptor y.desc).map (fun d => d.parameters.length) = some n) (hR : rm.frames + 1 ≤ R.frames ∧ 8 + (maxL + 11) + rm.locals ≤ R.locals) :
    vx_CVW R s args own C index y bytes maxL ret hh ws rm mc ms n := by
  obtain ⟨hC, hd⟩ := hd
  subst hC
  have ok : ∀ w ∈ wsV own index y.cls y ws, w.before args s = true := fun w h => ht w (hT w h).1
  have hG : GoodIn Ts ws := fun w h => hT w (by unfold wsV; exact List.mem_append_right _ h)
  have hc : Cond.codeWith y bytes maxL ret hh ∈ ws := by rw [hw]; exact List.mem_cons_self
  refine ⟨⟨hrc, hrs, hR.1, hR.2, pay_in ht hG, hc⟩, ht _ (hG _ hc).1, ok _ (by simp [wsV]), ⟨hd.1, hd.2.1⟩, fun sig h => ?_, ok _ (by simp [wsV]), ok _ (by simp [wsV]), ok _ (by simp [wsV])⟩
  have h2 := hd.2.2
  rw [h] at h2
  exact (Option.some.inj h2).symm
theorem vx_runVW {y : MethodName} {bytes cc : ByteArray} {maxL nL mc ms n index : Nat} {ret : Option FieldType} {hh : List (Nat × Nat × Nat × Nat)} {ws : List Cond} {rm : Room} {Pc : Array Value → State → Prop} {Qc : Array Value → State → Outcome → State → Prop} {free : Addr → Prop} {Ts : List Cond} {own C : String} {b : Addr} {As rest : List Value} {g : JFrame}
    (S : CallFix p m c cc nL s args Ts own) (hM : Met l y ws rm Pc Qc mc ms free) (cw : vx_CVW R s args own C index y bytes maxL ret hh ws rm mc ms n) (hp : PreV s H C b Pc As)
    (hg : g.method = m) (hn : As.length = n) (hsize : g.locals.size = nL) (hstack : g.stack = As.reverse ++ .ref b :: rest) (hW : 2 * g.monitorRoom + (rest.map fun v => v.category).sum ≤ 8) (hdg : decode cc g.pc = .ok (.invokevirtual index, 3)) (hf : cells + mc ≤ R.cells ∧ slots + ms ≤ R.slots) :
    va_Run p l e R s m args below meth c H locs cells slots mc ms g rest (Qc (Value.ref b :: As).toArray) free := by
  obtain ⟨⟨hrc, hrs, hfr, hlo, hws, hcw⟩, hcode, hini, hy, hlen, hl, hin, hse⟩ := cw
  have hK : Back l R p e below s args y 3 8 (PreOf R mc ms Pc) (PostOf Qc mc ms free) := va_backW (hh := hh) (bytes := bytes) (maxL := maxL) (ret := ret) hM hp.1 hrc hrs hfr hlo hws hcw (fun a' U hW => word_at hW (Or.inl (by first | rfl | simp [Cond.onTables, Cond.keeps, Cond.steady])) hini)
  obtain ⟨hx, hb, hml, ho, -⟩ := S
  obtain ⟨-, ⟨cellB, hcB, hoB, hclB⟩, hPc⟩ := hp
  intro T hT X
  obtain ⟨v, vm₁, ⟨U', l2, c2, s2⟩, hW₁, X', ⟨g', mk, t, L, e1, e2, hq, h1, hL, h2, h3⟩, st⟩ := vx_callVW X hx (C := C) (hh := hh) (bytes := bytes) (maxL := maxL) (ret := ret) ho hl hin hse hcode hy hK (by rw [hT]; exact hcB) hoB hclB hg (hsize.trans hml.symm) (argsL := As) (rest := rest) (fun sig h => hn.trans (hlen sig h)) hstack hW (by rw [hb]; exact hdg)
    (fun vm₁ hW₁ => ⟨hf.1, hf.2, hPc (T.setVm vm₁) hT hW₁⟩)
  dsimp only [Pt.U, Pt.locs, Pt.cells, Pt.slots] at X' e1 e2 h1 h2 h3 st
  subst h1; subst h2; subst h3
  exact ⟨v, (T.setVm vm₁).calling g' mk (Value.ref b :: As).toArray, t, U', L, hT, X', hL, e1, e2, hq, st⟩
section
variable {y : MethodName} {bytes cc : ByteArray} {maxL nL mc ms n index : Nat} {ret : Option FieldType} {ws : List Cond} {rm : Room} {Pc : Array Value → State → Prop} {Qc : Array Value → State → Outcome → State → Prop} {XC : String → State → State → Prop} {free : Addr → Prop} {Ts : List Cond} {own C : String} {b : Addr} {As rest : List Value} {g : JFrame}
theorem vx_runVX {hh : List (Nat × Nat × Nat × Nat)} (S : CallFix p m c cc nL s args Ts own) (hM : vx_Met l y ws rm Pc Qc XC mc ms free) (cw : vx_CVW R s args own C index y bytes maxL ret hh ws rm mc ms n) (hp : PreV s H C b Pc As)
    (hg : g.method = m) (hn : As.length = n) (hsize : g.locals.size = nL) (hstack : g.stack = As.reverse ++ .ref b :: rest) (hW : 2 * g.monitorRoom + (rest.map fun v => v.category).sum ≤ 8) (hdg : decode cc g.pc = .ok (.invokevirtual index, 3)) (hf : cells + mc ≤ R.cells ∧ slots + ms ≤ R.slots) :
    vx_Run p l e R s m args below meth c H locs cells slots mc ms g rest (Qc (Value.ref b :: As).toArray) XC free := by
  obtain ⟨⟨hrc, hrs, hfr, hlo, hws, hcw⟩, hcode, hini, hy, hlen, hl, hin, hse⟩ := cw
  have hK : vx_Back l R p e below s args y 3 8 (PreOf R mc ms Pc) (PostOf Qc mc ms free) (vx_Post XC mc ms free) := vx_backW (hh := hh) (bytes := bytes) (maxL := maxL) (ret := ret) hM hp.1 hrc hrs hfr hlo hws hcw (fun a' U hW => word_at hW (Or.inl (by first | rfl | simp [Cond.onTables, Cond.keeps, Cond.steady])) hini)
  obtain ⟨hx, hb, hml, ho, -⟩ := S
  obtain ⟨-, ⟨cellB, hcB, hoB, hclB⟩, hPc⟩ := hp
  intro T hT X
  rcases vx_callVX X hx (C := C) (hh := hh) (bytes := bytes) (maxL := maxL) (ret := ret) ho hl hin hse hcode hy hK (by rw [hT]; exact hcB) hoB hclB hg (hsize.trans hml.symm) (argsL := As) (rest := rest) (fun sig h => hn.trans (hlen sig h)) hstack hW (by rw [hb]; exact hdg)
    (fun vm₁ hW₁ => ⟨hf.1, hf.2, hPc (T.setVm vm₁) hT hW₁⟩) with ⟨v, vm₁, ⟨U', l2, c2, s2⟩, hW₁, X', ⟨g', mk, t, L, e1, e2, hq, h1, hL, h2, h3⟩, st⟩ | ⟨q, vm₁, ⟨U', l2, c2, s2⟩, hW₁, X', ⟨g', mk, t, L, E, ce, e1, e2, hq, hce, hcv, hcl, h1, hL, h2, h3⟩, st⟩
  · dsimp only [Pt.U, Pt.locs, Pt.cells, Pt.slots] at X' e1 e2 h1 h2 h3 st
    subst h1; subst h2; subst h3
    exact Or.inl ⟨v, (T.setVm vm₁).calling g' mk (Value.ref b :: As).toArray, t, U', L, hT, X', hL, e1, e2, hq, st⟩
  · dsimp only [Pt.U, Pt.locs, Pt.cells, Pt.slots] at X' e1 e2 h1 h2 h3 st hcl
    subst h1; subst h2; subst h3
    exact Or.inr ⟨q, (T.setVm vm₁).calling g' mk (Value.ref b :: As).toArray, t, U', L, E, ce, hT, X', hL, e1, e2, hq, hce, hcv, vx_cls hW₁ hcl, st⟩
theorem vx_runSX {hh : List (Nat × Nat × Nat × Nat)} (S : CallFix p m c cc nL s args Ts own) (hM : vx_Met l y ws rm Pc Qc XC mc ms free) (cw : vx_CSW R s args own index y bytes maxL ret hh ws rm mc ms n) (hp : PreS s H Pc As)
    (hg : g.method = m) (hn : As.length = n) (hsize : g.locals.size = nL) (hstack : g.stack = As.reverse ++ rest) (hW : 2 * g.monitorRoom + (rest.map fun v => v.category).sum ≤ 8) (hdg : decode cc g.pc = .ok (.invokestatic index, 3)) (hf : cells + mc ≤ R.cells ∧ slots + ms ≤ R.slots) :
    vx_Run p l e R s m args below meth c H locs cells slots mc ms g rest (Qc As.toArray) XC free := by
  obtain ⟨⟨hrc, hrs, hfr, hlo, hws, hcw⟩, hcode, hini, hy, hlen, hl, hstt⟩ := cw
  have hK : vx_Back l R p e below s args y 3 8 (PreOf R mc ms Pc) (PostOf Qc mc ms free) (vx_Post XC mc ms free) := vx_backW (hh := hh) (bytes := bytes) (maxL := maxL) (ret := ret) hM hp.1 hrc hrs hfr hlo hws hcw (fun a' U hW => word_at hW (Or.inl (by first | rfl | simp [Cond.onTables, Cond.keeps, Cond.steady])) hini)
  obtain ⟨hx, hb, hml, ho, -⟩ := S
  intro T hT X
  rcases vx_callSX X hx (hh := hh) (bytes := bytes) (maxL := maxL) (ret := ret) ho hl hstt hini hcode hy hK hg (hsize.trans hml.symm) (argsL := As) (rest := rest) (fun sig h => hn.trans (hlen sig h)) hstack hW (by rw [hb]; exact hdg)
    (fun vm₁ hW₁ => ⟨hf.1, hf.2, hp.2 (T.setVm vm₁) hT hW₁⟩) with ⟨v, vm₁, ⟨U', l2, c2, s2⟩, hW₁, X', ⟨g', mk, t, L, e1, e2, hq, h1, hL, h2, h3⟩, st⟩ | ⟨q, vm₁, ⟨U', l2, c2, s2⟩, hW₁, X', ⟨g', mk, t, L, E, ce, e1, e2, hq, hce, hcv, hcl, h1, hL, h2, h3⟩, st⟩
  · dsimp only [Pt.U, Pt.locs, Pt.cells, Pt.slots] at X' e1 e2 h1 h2 h3 st
    subst h1; subst h2; subst h3
    exact Or.inl ⟨v, (T.setVm vm₁).calling g' mk As.toArray, t, U', L, hT, X', hL, e1, e2, hq, st⟩
  · dsimp only [Pt.U, Pt.locs, Pt.cells, Pt.slots] at X' e1 e2 h1 h2 h3 st hcl
    subst h1; subst h2; subst h3
    exact Or.inr ⟨q, (T.setVm vm₁).calling g' mk As.toArray, t, U', L, E, ce, hT, X', hL, e1, e2, hq, hce, hcv, vx_cls hW₁ hcl, st⟩
end
end VXH
theorem vx_ofWH {l : Launch} {y : MethodName} {ws ws' : List Cond} {rm : Room} {Pc : Array Value → State → Prop} {Qc : Array Value → State → Outcome → State → Prop} {XC : String → State → State → Prop} {mc ms : Nat} {free : Addr → Prop} {cc : ByteArray} {maxL : Nat} {ret : Option FieldType} {hh : List (Nat × Nat × Nat × Nat)}
    (hy : plainName y.cls = true) (hw : ws = Cond.codeWith y cc maxL ret hh :: ws')
    (body : ∀ p e s m args below meth c s₁, BodyLoose p l y (headSpec ws rm) cc maxL ret e s m args below meth c s₁ → c.maxLocals = maxL → Pc args s →
      W p l e (headSpec ws rm).room s m args below meth c s.heap [] 0 0 (vx_MQ below Qc XC args s mc ms free) (entryFrame m args maxL)) : vx_Met l y ws rm Pc Qc XC mc ms free := by
  refine MetFree.of_bodyS (code := cc) (maxLocals := maxL) (ret := ret) hy ?_ ?_
  · intro args s m h hn
    obtain ⟨m9, meth, c, hn9, h1, h2, h3, h4, -, h5, h6, -⟩ := Cond.codeWith_spec (atoms_spec (ws := ws) h _ (by rw [hw]; exact List.mem_cons_self))
    cases hn.symm.trans hn9
    exact ⟨meth, c, h1, h2, h3, h4, h5, h6⟩
  · intro p e s m args below meth c s₁ B hml hP _
    have hh0 : s₁.heap = s.heap := by rw [B.state]; rfl
    obtain ⟨t, a1, o, b1, b2, b3⟩ := body p e s m args below meth c s₁ B hml hP s₁ hh0 (Stand.of_body B)
    exact ⟨t, o, a1, b1, b2, b3⟩
/-! ===== END ===== -/
end
section
def RX0 : String := "SubstituteDesk$History"
def TX0 : u_T := fun k => match k with
  | 0 => ("SubstituteDesk$History", "past", "[LSubstituteDesk$School;", true)
  | 1 => ("SubstituteDesk$History", "newest", "I", false)
  | _ => ("SubstituteDesk$History", "remembered", "I", false)
def tyX0 : Nat → FieldType := fun k => match k with
  | 0 => .array (.object "SubstituteDesk$School")
  | 1 => .int
  | _ => .int
abbrev wsX00 : List Cond := u_ws RX0 TX0 3
theorem nmX0 : ∀ a, a < 3 → ∀ b, b < 3 → a ≠ b → (TX0 a).2.1 ≠ (TX0 b).2.1 := by decide +kernel
theorem tyX0_ok : ∀ k, k < 3 → parseFieldDescriptor (TX0 k).2.2.1 = some (tyX0 k) := by decide +kernel
abbrev cX0_init : ByteArray := prog_2_method_1_code
def yX0_init : MethodName := ⟨RX0, "<init>", "()V"⟩
abbrev cX0_forget : ByteArray := prog_2_method_2_code
def yX0_forget : MethodName := ⟨RX0, "forget", "()V"⟩
abbrev cX0_remember : ByteArray := prog_2_method_3_code
def yX0_remember : MethodName := ⟨RX0, "remember", "(LSubstituteDesk$School;)V"⟩
abbrev cX0_goBack : ByteArray := prog_2_method_4_code
def yX0_goBack : MethodName := ⟨RX0, "goBack", "(LSubstituteDesk$School;)V"⟩
abbrev cX0_newestPast : ByteArray := prog_2_method_5_code
def yX0_newestPast : MethodName := ⟨RX0, "newestPast", "()LSubstituteDesk$School;"⟩
def RX1 : String := "SubstituteDesk$Input"
def TX1 : u_T := fun k => match k with
  | 0 => ("SubstituteDesk$Input", "signs", "[C", true)
  | 1 => ("SubstituteDesk$Input", "length", "I", false)
  | 2 => ("SubstituteDesk$Input", "position", "I", false)
  | 3 => ("SubstituteDesk$Input", "kind", "C", false)
  | 4 => ("SubstituteDesk$Input", "subjects", "I", false)
  | 5 => ("SubstituteDesk$Input", "weight", "I", false)
  | 6 => ("SubstituteDesk$Input", "slot", "I", false)
  | 7 => ("SubstituteDesk$Input", "number", "I", false)
  | 8 => ("SubstituteDesk$Input", "subject", "I", false)
  | 9 => ("SubstituteDesk$Input", "teacher", "I", false)
  | _ => ("SubstituteDesk$Input", "room", "I", false)
def tyX1 : Nat → FieldType := fun k => match k with
  | 0 => .array .char
  | 1 => .int
  | 2 => .int
  | 3 => .char
  | 4 => .int
  | 5 => .int
  | 6 => .int
  | 7 => .int
  | 8 => .int
  | 9 => .int
  | _ => .int
abbrev wsX10 : List Cond := u_ws RX1 TX1 11
theorem nmX1 : ∀ a, a < 11 → ∀ b, b < 11 → a ≠ b → (TX1 a).2.1 ≠ (TX1 b).2.1 := by decide +kernel
theorem tyX1_ok : ∀ k, k < 11 → parseFieldDescriptor (TX1 k).2.2.1 = some (tyX1 k) := by decide +kernel
abbrev cX1_init : ByteArray := prog_3_method_1_code
def yX1_init : MethodName := ⟨RX1, "<init>", "()V"⟩
abbrev cX1_add : ByteArray := prog_3_method_2_code
def yX1_add : MethodName := ⟨RX1, "add", "(C)V"⟩
abbrev cX1_firstError : ByteArray := prog_3_method_3_code
def yX1_firstError : MethodName := ⟨RX1, "firstError", "()I"⟩
abbrev cX1_tellTo : ByteArray := prog_3_method_4_code
def yX1_tellTo : MethodName := ⟨RX1, "tellTo", "(LSubstituteDesk$School;)I"⟩
abbrev cX1_isRefusedBy : ByteArray := prog_3_method_5_code
def yX1_isRefusedBy : MethodName := ⟨RX1, "isRefusedBy", "(LSubstituteDesk$School;)Z"⟩
abbrev cX1_takeEntry : ByteArray := prog_3_method_6_code
def yX1_takeEntry : MethodName := ⟨RX1, "takeEntry", "()Z"⟩
abbrev cX1_takeTeacher : ByteArray := prog_3_method_7_code
def yX1_takeTeacher : MethodName := ⟨RX1, "takeTeacher", "()Z"⟩
abbrev cX1_takeLesson : ByteArray := prog_3_method_8_code
def yX1_takeLesson : MethodName := ⟨RX1, "takeLesson", "()Z"⟩
abbrev cX1_takeAbsence : ByteArray := prog_3_method_9_code
def yX1_takeAbsence : MethodName := ⟨RX1, "takeAbsence", "()Z"⟩
abbrev cX1_takeNumber : ByteArray := prog_3_method_10_code
def yX1_takeNumber : MethodName := ⟨RX1, "takeNumber", "()I"⟩
abbrev cX1_takeDigit : ByteArray := prog_3_method_11_code
def yX1_takeDigit : MethodName := ⟨RX1, "takeDigit", "(II)I"⟩
abbrev cX1_takeSign : ByteArray := prog_3_method_12_code
def yX1_takeSign : MethodName := ⟨RX1, "takeSign", "(C)Z"⟩
def RX2 : String := "SubstituteDesk$Line"
def TX2 : u_T := fun k => match k with
  | 0 => ("SubstituteDesk$Line", "signs", "[C", true)
  | _ => ("SubstituteDesk$Line", "length", "I", false)
def tyX2 : Nat → FieldType := fun k => match k with
  | 0 => .array .char
  | _ => .int
abbrev wsX20 : List Cond := u_ws RX2 TX2 2
theorem nmX2 : ∀ a, a < 2 → ∀ b, b < 2 → a ≠ b → (TX2 a).2.1 ≠ (TX2 b).2.1 := by decide +kernel
theorem tyX2_ok : ∀ k, k < 2 → parseFieldDescriptor (TX2 k).2.2.1 = some (tyX2 k) := by decide +kernel
abbrev cX2_init : ByteArray := prog_4_method_1_code
def yX2_init : MethodName := ⟨RX2, "<init>", "()V"⟩
abbrev cX2_writeLesson : ByteArray := prog_4_method_2_code
def yX2_writeLesson : MethodName := ⟨RX2, "writeLesson", "(LSubstituteDesk$School;I)V"⟩
abbrev cX2_addDigit : ByteArray := prog_4_method_3_code
def yX2_addDigit : MethodName := ⟨RX2, "addDigit", "(I)V"⟩
abbrev cX2_add : ByteArray := prog_4_method_4_code
def yX2_add : MethodName := ⟨RX2, "add", "(C)V"⟩
def RX3 : String := "SubstituteDesk$Planner"
def TX3 : u_T := fun k => match k with
  | 0 => ("SubstituteDesk$Planner", "lessons", "[I", true)
  | 1 => ("SubstituteDesk$Planner", "slots", "[I", true)
  | 2 => ("SubstituteDesk$Planner", "able", "[I", true)
  | 3 => ("SubstituteDesk$Planner", "chosen", "[I", true)
  | 4 => ("SubstituteDesk$Planner", "best", "[I", true)
  | 5 => ("SubstituteDesk$Planner", "shares", "[I", true)
  | 6 => ("SubstituteDesk$Planner", "coversLeft", "[I", true)
  | 7 => ("SubstituteDesk$Planner", "costs", "[I", true)
  | 8 => ("SubstituteDesk$Planner", "teacherCount", "I", false)
  | 9 => ("SubstituteDesk$Planner", "lessonCount", "I", false)
  | 10 => ("SubstituteDesk$Planner", "planCount", "I", false)
  | _ => ("SubstituteDesk$Planner", "bestSpread", "I", false)
def tyX3 : Nat → FieldType := fun k => match k with
  | 0 => .array .int
  | 1 => .array .int
  | 2 => .array .int
  | 3 => .array .int
  | 4 => .array .int
  | 5 => .array .int
  | 6 => .array .int
  | 7 => .array .int
  | 8 => .int
  | 9 => .int
  | 10 => .int
  | _ => .int
abbrev wsX30 : List Cond := u_ws RX3 TX3 12
theorem nmX3 : ∀ a, a < 12 → ∀ b, b < 12 → a ≠ b → (TX3 a).2.1 ≠ (TX3 b).2.1 := by decide +kernel
theorem tyX3_ok : ∀ k, k < 12 → parseFieldDescriptor (TX3 k).2.2.1 = some (tyX3 k) := by decide +kernel
abbrev cX3_init : ByteArray := prog_5_method_1_code
def yX3_init : MethodName := ⟨RX3, "<init>", "()V"⟩
abbrev cX3_findPlans : ByteArray := prog_5_method_2_code
def yX3_findPlans : MethodName := ⟨RX3, "findPlans", "(LSubstituteDesk$School;I)V"⟩
abbrev cX3_takeLesson : ByteArray := prog_5_method_3_code
def yX3_takeLesson : MethodName := ⟨RX3, "takeLesson", "(LSubstituteDesk$School;II)V"⟩
abbrev cX3_extend : ByteArray := prog_5_method_4_code
def yX3_extend : MethodName := ⟨RX3, "extend", "(LSubstituteDesk$Planner;I)V"⟩
abbrev cX3_canTake : ByteArray := prog_5_method_5_code
def yX3_canTake : MethodName := ⟨RX3, "canTake", "(II)Z"⟩
abbrev cX3_give : ByteArray := prog_5_method_6_code
def yX3_give : MethodName := ⟨RX3, "give", "(III)V"⟩
abbrev cX3_judge : ByteArray := prog_5_method_7_code
def yX3_judge : MethodName := ⟨RX3, "judge", "()V"⟩
abbrev cX3_spreadNow : ByteArray := prog_5_method_8_code
def yX3_spreadNow : MethodName := ⟨RX3, "spreadNow", "()I"⟩
def RX4 : String := "SubstituteDesk$School"
def TX4 : u_T := fun k => match k with
  | 0 => ("SubstituteDesk$School", "teacherCount", "I", false)
  | 1 => ("SubstituteDesk$School", "lessonCount", "I", false)
  | 2 => ("SubstituteDesk$School", "undoneCovers", "I", false)
  | 3 => ("SubstituteDesk$School", "undoneSplits", "I", false)
  | 4 => ("SubstituteDesk$School", "subjects", "[I", true)
  | 5 => ("SubstituteDesk$School", "weights", "[I", true)
  | 6 => ("SubstituteDesk$School", "limits", "[I", true)
  | 7 => ("SubstituteDesk$School", "points", "[I", true)
  | 8 => ("SubstituteDesk$School", "absences", "[I", true)
  | 9 => ("SubstituteDesk$School", "sizes", "[I", true)
  | 10 => ("SubstituteDesk$School", "capacities", "[I", true)
  | 11 => ("SubstituteDesk$School", "slots", "[I", true)
  | 12 => ("SubstituteDesk$School", "classes", "[I", true)
  | 13 => ("SubstituteDesk$School", "topics", "[I", true)
  | 14 => ("SubstituteDesk$School", "owners", "[I", true)
  | 15 => ("SubstituteDesk$School", "rooms", "[I", true)
  | 16 => ("SubstituteDesk$School", "coverers", "[I", true)
  | 17 => ("SubstituteDesk$School", "firsts", "[I", true)
  | _ => ("SubstituteDesk$School", "seconds", "[I", true)
def tyX4 : Nat → FieldType := fun k => match k with
  | 0 => .int
  | 1 => .int
  | 2 => .int
  | 3 => .int
  | 4 => .array .int
  | 5 => .array .int
  | 6 => .array .int
  | 7 => .array .int
  | 8 => .array .int
  | 9 => .array .int
  | 10 => .array .int
  | 11 => .array .int
  | 12 => .array .int
  | 13 => .array .int
  | 14 => .array .int
  | 15 => .array .int
  | 16 => .array .int
  | 17 => .array .int
  | _ => .array .int
abbrev wsX40 : List Cond := u_ws RX4 TX4 19
theorem nmX4 : ∀ a, a < 19 → ∀ b, b < 19 → a ≠ b → (TX4 a).2.1 ≠ (TX4 b).2.1 := by decide +kernel
theorem tyX4_ok : ∀ k, k < 19 → parseFieldDescriptor (TX4 k).2.2.1 = some (tyX4 k) := by decide +kernel
abbrev cX4_init : ByteArray := prog_6_method_1_code
def yX4_init : MethodName := ⟨RX4, "<init>", "()V"⟩
abbrev cX4_reset : ByteArray := prog_6_method_2_code
def yX4_reset : MethodName := ⟨RX4, "reset", "()V"⟩
abbrev cX4_copyFrom : ByteArray := prog_6_method_3_code
def yX4_copyFrom : MethodName := ⟨RX4, "copyFrom", "(LSubstituteDesk$School;)V"⟩
abbrev cX4_putTeacher : ByteArray := prog_6_method_4_code
def yX4_putTeacher : MethodName := ⟨RX4, "putTeacher", "(II)I"⟩
abbrev cX4_isAbsentIn : ByteArray := prog_6_method_5_code
def yX4_isAbsentIn : MethodName := ⟨RX4, "isAbsentIn", "(II)Z"⟩
abbrev cX4_absentPeriods : ByteArray := prog_6_method_6_code
def yX4_absentPeriods : MethodName := ⟨RX4, "absentPeriods", "(II)I"⟩
abbrev cX4_isFreeIn : ByteArray := prog_6_method_7_code
def yX4_isFreeIn : MethodName := ⟨RX4, "isFreeIn", "(II)Z"⟩
abbrev cX4_freePeriods : ByteArray := prog_6_method_8_code
def yX4_freePeriods : MethodName := ⟨RX4, "freePeriods", "(II)I"⟩
abbrev cX4_hasSubject : ByteArray := prog_6_method_9_code
def yX4_hasSubject : MethodName := ⟨RX4, "hasSubject", "(II)Z"⟩
abbrev cX4_ownLessons : ByteArray := prog_6_method_10_code
def yX4_ownLessons : MethodName := ⟨RX4, "ownLessons", "(I)I"⟩
abbrev cX4_untaughtLessons : ByteArray := prog_6_method_11_code
def yX4_untaughtLessons : MethodName := ⟨RX4, "untaughtLessons", "(I)I"⟩
abbrev cX4_coversOf : ByteArray := prog_6_method_12_code
def yX4_coversOf : MethodName := ⟨RX4, "coversOf", "(I)I"⟩
abbrev cX4_coversOn : ByteArray := prog_6_method_13_code
def yX4_coversOn : MethodName := ⟨RX4, "coversOn", "(II)I"⟩
abbrev cX4_addPoints : ByteArray := prog_6_method_14_code
def yX4_addPoints : MethodName := ⟨RX4, "addPoints", "(II)V"⟩
abbrev cX4_shareFor : ByteArray := prog_6_method_15_code
def yX4_shareFor : MethodName := ⟨RX4, "shareFor", "(II)I"⟩
abbrev cX4_shareOf : ByteArray := prog_6_method_16_code
def yX4_shareOf : MethodName := ⟨RX4, "shareOf", "(I)I"⟩
abbrev cX4_extremeTeacher : ByteArray := prog_6_method_17_code
def yX4_extremeTeacher : MethodName := ⟨RX4, "extremeTeacher", "(Z)I"⟩
abbrev cX4_pointsOfAll : ByteArray := prog_6_method_18_code
def yX4_pointsOfAll : MethodName := ⟨RX4, "pointsOfAll", "(I)I"⟩
abbrev cX4_pointsFor : ByteArray := prog_6_method_19_code
def yX4_pointsFor : MethodName := ⟨RX4, "pointsFor", "(II)I"⟩
abbrev cX4_pointsFoundAnew : ByteArray := prog_6_method_20_code
def yX4_pointsFoundAnew : MethodName := ⟨RX4, "pointsFoundAnew", "(I)I"⟩
abbrev cX4_faultOfLesson : ByteArray := prog_6_method_21_code
def yX4_faultOfLesson : MethodName := ⟨RX4, "faultOfLesson", "(IIIII)I"⟩
abbrev cX4_putLesson : ByteArray := prog_6_method_22_code
def yX4_putLesson : MethodName := ⟨RX4, "putLesson", "(IIIII)I"⟩
abbrev cX4_dropLesson : ByteArray := prog_6_method_23_code
def yX4_dropLesson : MethodName := ⟨RX4, "dropLesson", "(I)V"⟩
abbrev cX4_moveHosts : ByteArray := prog_6_method_24_code
def yX4_moveHosts : MethodName := ⟨RX4, "moveHosts", "([II)V"⟩
abbrev cX4_lessonIn : ByteArray := prog_6_method_25_code
def yX4_lessonIn : MethodName := ⟨RX4, "lessonIn", "(I[II)I"⟩
abbrev cX4_dayOf : ByteArray := prog_6_method_26_code
def yX4_dayOf : MethodName := ⟨RX4, "dayOf", "(I)I"⟩
abbrev cX4_actingOf : ByteArray := prog_6_method_27_code
def yX4_actingOf : MethodName := ⟨RX4, "actingOf", "(I)I"⟩
abbrev cX4_stateOf : ByteArray := prog_6_method_28_code
def yX4_stateOf : MethodName := ⟨RX4, "stateOf", "(I)I"⟩
abbrev cX4_lessonsIn : ByteArray := prog_6_method_29_code
def yX4_lessonsIn : MethodName := ⟨RX4, "lessonsIn", "(I)I"⟩
abbrev cX4_lostLessons : ByteArray := prog_6_method_30_code
def yX4_lostLessons : MethodName := ⟨RX4, "lostLessons", "(I)I"⟩
abbrev cX4_openCount : ByteArray := prog_6_method_31_code
def yX4_openCount : MethodName := ⟨RX4, "openCount", "(I)I"⟩
abbrev cX4_openAt : ByteArray := prog_6_method_32_code
def yX4_openAt : MethodName := ⟨RX4, "openAt", "(II)I"⟩
abbrev cX4_isOpenIn : ByteArray := prog_6_method_33_code
def yX4_isOpenIn : MethodName := ⟨RX4, "isOpenIn", "(II)Z"⟩
abbrev cX4_areTogether : ByteArray := prog_6_method_34_code
def yX4_areTogether : MethodName := ⟨RX4, "areTogether", "(II)Z"⟩
abbrev cX4_sizeOf : ByteArray := prog_6_method_35_code
def yX4_sizeOf : MethodName := ⟨RX4, "sizeOf", "(I)I"⟩
abbrev cX4_capacityOf : ByteArray := prog_6_method_36_code
def yX4_capacityOf : MethodName := ⟨RX4, "capacityOf", "(I)I"⟩
abbrev cX4_firstPart : ByteArray := prog_6_method_37_code
def yX4_firstPart : MethodName := ⟨RX4, "firstPart", "(I)I"⟩
abbrev cX4_secondPart : ByteArray := prog_6_method_38_code
def yX4_secondPart : MethodName := ⟨RX4, "secondPart", "(I)I"⟩
abbrev cX4_guestsOf : ByteArray := prog_6_method_39_code
def yX4_guestsOf : MethodName := ⟨RX4, "guestsOf", "(I)I"⟩
abbrev cX4_loadOf : ByteArray := prog_6_method_40_code
def yX4_loadOf : MethodName := ⟨RX4, "loadOf", "(I)I"⟩
abbrev cX4_canHost : ByteArray := prog_6_method_41_code
def yX4_canHost : MethodName := ⟨RX4, "canHost", "(II)Z"⟩
abbrev cX4_allowsSize : ByteArray := prog_6_method_42_code
def yX4_allowsSize : MethodName := ⟨RX4, "allowsSize", "(II)Z"⟩
abbrev cX4_allowsCapacity : ByteArray := prog_6_method_43_code
def yX4_allowsCapacity : MethodName := ⟨RX4, "allowsCapacity", "(II)Z"⟩
abbrev cX4_allowsRoom : ByteArray := prog_6_method_44_code
def yX4_allowsRoom : MethodName := ⟨RX4, "allowsRoom", "(II)Z"⟩
abbrev cX4_roomsFreeIn : ByteArray := prog_6_method_45_code
def yX4_roomsFreeIn : MethodName := ⟨RX4, "roomsFreeIn", "(I)I"⟩
abbrev cX4_reasonAgainst : ByteArray := prog_6_method_46_code
def yX4_reasonAgainst : MethodName := ⟨RX4, "reasonAgainst", "(II)I"⟩
abbrev cX4_bestFor : ByteArray := prog_6_method_47_code
def yX4_bestFor : MethodName := ⟨RX4, "bestFor", "(I)I"⟩
abbrev cX4_isBetterFor : ByteArray := prog_6_method_48_code
def yX4_isBetterFor : MethodName := ⟨RX4, "isBetterFor", "(III)Z"⟩
abbrev cX4_shareWith : ByteArray := prog_6_method_49_code
def yX4_shareWith : MethodName := ⟨RX4, "shareWith", "(II)I"⟩
abbrev cX4_beginCover : ByteArray := prog_6_method_50_code
def yX4_beginCover : MethodName := ⟨RX4, "beginCover", "(II)V"⟩
abbrev cX4_endCover : ByteArray := prog_6_method_51_code
def yX4_endCover : MethodName := ⟨RX4, "endCover", "(I)I"⟩
abbrev cX4_coverOpenLessons : ByteArray := prog_6_method_52_code
def yX4_coverOpenLessons : MethodName := ⟨RX4, "coverOpenLessons", "(I)I"⟩
abbrev cX4_beginSplit : ByteArray := prog_6_method_53_code
def yX4_beginSplit : MethodName := ⟨RX4, "beginSplit", "(III)V"⟩
abbrev cX4_endSplit : ByteArray := prog_6_method_54_code
def yX4_endSplit : MethodName := ⟨RX4, "endSplit", "(I)V"⟩
abbrev cX4_endSplitsWith : ByteArray := prog_6_method_55_code
def yX4_endSplitsWith : MethodName := ⟨RX4, "endSplitsWith", "(I)I"⟩
abbrev cX4_isSplitWith : ByteArray := prog_6_method_56_code
def yX4_isSplitWith : MethodName := ⟨RX4, "isSplitWith", "(II)Z"⟩
abbrev cX4_endAllWith : ByteArray := prog_6_method_57_code
def yX4_endAllWith : MethodName := ⟨RX4, "endAllWith", "(I)I"⟩
abbrev cX4_turnAbsence : ByteArray := prog_6_method_58_code
def yX4_turnAbsence : MethodName := ⟨RX4, "turnAbsence", "(II)I"⟩
def RX5 : String := "SubstituteDesk"
def TX5 : u_T := fun k => match k with
  | 0 => ("SubstituteDesk", "school", "LSubstituteDesk$School;", true)
  | 1 => ("SubstituteDesk", "saved", "LSubstituteDesk$School;", true)
  | 2 => ("SubstituteDesk", "beforeRead", "LSubstituteDesk$School;", true)
  | 3 => ("SubstituteDesk", "history", "LSubstituteDesk$History;", true)
  | 4 => ("SubstituteDesk", "planner", "LSubstituteDesk$Planner;", true)
  | 5 => ("SubstituteDesk", "input", "LSubstituteDesk$Input;", true)
  | 6 => ("SubstituteDesk", "line", "LSubstituteDesk$Line;", true)
  | 7 => ("SubstituteDesk", "isSaved", "Z", false)
  | 8 => ("SubstituteDesk", "keptReason", "I", false)
  | _ => ("SubstituteDesk", "keptErrorPosition", "I", false)
def tyX5 : Nat → FieldType := fun k => match k with
  | 0 => .object "SubstituteDesk$School"
  | 1 => .object "SubstituteDesk$School"
  | 2 => .object "SubstituteDesk$School"
  | 3 => .object "SubstituteDesk$History"
  | 4 => .object "SubstituteDesk$Planner"
  | 5 => .object "SubstituteDesk$Input"
  | 6 => .object "SubstituteDesk$Line"
  | 7 => .boolean
  | 8 => .int
  | _ => .int
abbrev wsX50 : List Cond := u_ws RX5 TX5 10
theorem nmX5 : ∀ a, a < 10 → ∀ b, b < 10 → a ≠ b → (TX5 a).2.1 ≠ (TX5 b).2.1 := by decide +kernel
theorem tyX5_ok : ∀ k, k < 10 → parseFieldDescriptor (TX5 k).2.2.1 = some (tyX5 k) := by decide +kernel
abbrev cX5_init : ByteArray := prog_1_method_1_code
def yX5_init : MethodName := ⟨RX5, "<init>", "()V"⟩
abbrev cX5_clear : ByteArray := prog_1_method_2_code
def yX5_clear : MethodName := ⟨RX5, "clear", "()I"⟩
abbrev cX5_addTeacher : ByteArray := prog_1_method_3_code
def yX5_addTeacher : MethodName := ⟨RX5, "addTeacher", "(II)I"⟩
abbrev cX5_setLimit : ByteArray := prog_1_method_4_code
def yX5_setLimit : MethodName := ⟨RX5, "setLimit", "(II)I"⟩
abbrev cX5_setSize : ByteArray := prog_1_method_5_code
def yX5_setSize : MethodName := ⟨RX5, "setSize", "(II)I"⟩
abbrev cX5_setCapacity : ByteArray := prog_1_method_6_code
def yX5_setCapacity : MethodName := ⟨RX5, "setCapacity", "(II)I"⟩
abbrev cX5_addLesson : ByteArray := prog_1_method_7_code
def yX5_addLesson : MethodName := ⟨RX5, "addLesson", "(IIIII)I"⟩
abbrev cX5_removeLesson : ByteArray := prog_1_method_8_code
def yX5_removeLesson : MethodName := ⟨RX5, "removeLesson", "(I)I"⟩
abbrev cX5_setRoom : ByteArray := prog_1_method_9_code
def yX5_setRoom : MethodName := ⟨RX5, "setRoom", "(II)I"⟩
abbrev cX5_count : ByteArray := prog_1_method_10_code
def yX5_count : MethodName := ⟨RX5, "count", "(I)I"⟩
abbrev cX5_lesson : ByteArray := prog_1_method_11_code
def yX5_lesson : MethodName := ⟨RX5, "lesson", "(II)I"⟩
abbrev cX5_teacher : ByteArray := prog_1_method_12_code
def yX5_teacher : MethodName := ⟨RX5, "teacher", "(II)I"⟩
abbrev cX5_lessonOf : ByteArray := prog_1_method_13_code
def yX5_lessonOf : MethodName := ⟨RX5, "lessonOf", "(II)I"⟩
abbrev cX5_setAbsent : ByteArray := prog_1_method_14_code
def yX5_setAbsent : MethodName := ⟨RX5, "setAbsent", "(IIZ)I"⟩
abbrev cX5_absent : ByteArray := prog_1_method_15_code
def yX5_absent : MethodName := ⟨RX5, "absent", "(II)I"⟩
abbrev cX5_free : ByteArray := prog_1_method_16_code
def yX5_free : MethodName := ⟨RX5, "free", "(II)I"⟩
abbrev cX5_freeRooms : ByteArray := prog_1_method_17_code
def yX5_freeRooms : MethodName := ⟨RX5, "freeRooms", "(I)I"⟩
abbrev cX5_openOn : ByteArray := prog_1_method_18_code
def yX5_openOn : MethodName := ⟨RX5, "openOn", "(I)I"⟩
abbrev cX5_open : ByteArray := prog_1_method_19_code
def yX5_open : MethodName := ⟨RX5, "open", "(II)I"⟩
abbrev cX5_why : ByteArray := prog_1_method_20_code
def yX5_why : MethodName := ⟨RX5, "why", "(II)I"⟩
abbrev cX5_points : ByteArray := prog_1_method_21_code
def yX5_points : MethodName := ⟨RX5, "points", "(II)I"⟩
abbrev cX5_suggestion : ByteArray := prog_1_method_22_code
def yX5_suggestion : MethodName := ⟨RX5, "suggestion", "(I)I"⟩
abbrev cX5_cover : ByteArray := prog_1_method_23_code
def yX5_cover : MethodName := ⟨RX5, "cover", "(II)I"⟩
abbrev cX5_uncover : ByteArray := prog_1_method_24_code
def yX5_uncover : MethodName := ⟨RX5, "uncover", "(I)I"⟩
abbrev cX5_split : ByteArray := prog_1_method_25_code
def yX5_split : MethodName := ⟨RX5, "split", "(III)I"⟩
abbrev cX5_unsplit : ByteArray := prog_1_method_26_code
def yX5_unsplit : MethodName := ⟨RX5, "unsplit", "(I)I"⟩
abbrev cX5_host : ByteArray := prog_1_method_27_code
def yX5_host : MethodName := ⟨RX5, "host", "(IZ)I"⟩
abbrev cX5_refusal : ByteArray := prog_1_method_28_code
def yX5_refusal : MethodName := ⟨RX5, "refusal", "()I"⟩
abbrev cX5_coverDay : ByteArray := prog_1_method_29_code
def yX5_coverDay : MethodName := ⟨RX5, "coverDay", "(I)I"⟩
abbrev cX5_spread : ByteArray := prog_1_method_30_code
def yX5_spread : MethodName := ⟨RX5, "spread", "()I"⟩
abbrev cX5_extreme : ByteArray := prog_1_method_31_code
def yX5_extreme : MethodName := ⟨RX5, "extreme", "(Z)I"⟩
abbrev cX5_plannedSpread : ByteArray := prog_1_method_32_code
def yX5_plannedSpread : MethodName := ⟨RX5, "plannedSpread", "(I)I"⟩
abbrev cX5_planned : ByteArray := prog_1_method_33_code
def yX5_planned : MethodName := ⟨RX5, "planned", "(II)I"⟩
abbrev cX5_carryOut : ByteArray := prog_1_method_34_code
def yX5_carryOut : MethodName := ⟨RX5, "carryOut", "(I)I"⟩
abbrev cX5_plans : ByteArray := prog_1_method_35_code
def yX5_plans : MethodName := ⟨RX5, "plans", "(I)I"⟩
abbrev cX5_averagePoints : ByteArray := prog_1_method_36_code
def yX5_averagePoints : MethodName := ⟨RX5, "averagePoints", "(I)D"⟩
abbrev cX5_audit : ByteArray := prog_1_method_37_code
def yX5_audit : MethodName := ⟨RX5, "audit", "()I"⟩
abbrev cX5_lost : ByteArray := prog_1_method_38_code
def yX5_lost : MethodName := ⟨RX5, "lost", "(I)I"⟩
abbrev cX5_append : ByteArray := prog_1_method_39_code
def yX5_append : MethodName := ⟨RX5, "append", "(C)I"⟩
abbrev cX5_read : ByteArray := prog_1_method_40_code
def yX5_read : MethodName := ⟨RX5, "read", "()I"⟩
abbrev cX5_errorPosition : ByteArray := prog_1_method_41_code
def yX5_errorPosition : MethodName := ⟨RX5, "errorPosition", "()I"⟩
abbrev cX5_describe : ByteArray := prog_1_method_42_code
def yX5_describe : MethodName := ⟨RX5, "describe", "(II)I"⟩
abbrev cX5_undo : ByteArray := prog_1_method_43_code
def yX5_undo : MethodName := ⟨RX5, "undo", "()I"⟩
abbrev cX5_save : ByteArray := prog_1_method_44_code
def yX5_save : MethodName := ⟨RX5, "save", "()I"⟩
abbrev cX5_restore : ByteArray := prog_1_method_45_code
def yX5_restore : MethodName := ⟨RX5, "restore", "()I"⟩
abbrev cX5_needIndex : ByteArray := prog_1_method_46_code
def yX5_needIndex : MethodName := ⟨RX5, "needIndex", "(II)V"⟩
abbrev cX5_needRange : ByteArray := prog_1_method_47_code
def yX5_needRange : MethodName := ⟨RX5, "needRange", "(III)V"⟩
abbrev cX5_needTeacher : ByteArray := prog_1_method_48_code
def yX5_needTeacher : MethodName := ⟨RX5, "needTeacher", "(I)V"⟩
abbrev cX5_needLesson : ByteArray := prog_1_method_49_code
def yX5_needLesson : MethodName := ⟨RX5, "needLesson", "(I)V"⟩
abbrev cX5_needState : ByteArray := prog_1_method_50_code
def yX5_needState : MethodName := ⟨RX5, "needState", "(II)V"⟩
abbrev cX5_needTeachers : ByteArray := prog_1_method_51_code
def yX5_needTeachers : MethodName := ⟨RX5, "needTeachers", "()V"⟩
abbrev cX5_needPlan : ByteArray := prog_1_method_52_code
def yX5_needPlan : MethodName := ⟨RX5, "needPlan", "()V"⟩
abbrev cX5_planDay : ByteArray := prog_1_method_53_code
def yX5_planDay : MethodName := ⟨RX5, "planDay", "(I)V"⟩
abbrev cX5_isWithin : ByteArray := prog_1_method_54_code
def yX5_isWithin : MethodName := ⟨RX5, "isWithin", "(III)Z"⟩
abbrev cX5_at : ByteArray := prog_1_method_55_code
def yX5_at : MethodName := ⟨RX5, "at", "([II)I"⟩
abbrev cX5_put : ByteArray := prog_1_method_56_code
def yX5_put : MethodName := ⟨RX5, "put", "([III)V"⟩
abbrev cX5_swap : ByteArray := prog_1_method_57_code
def yX5_swap : MethodName := ⟨RX5, "swap", "([III)I"⟩
abbrev cX5_signAt : ByteArray := prog_1_method_58_code
def yX5_signAt : MethodName := ⟨RX5, "signAt", "([CI)C"⟩
abbrev cX5_fill : ByteArray := prog_1_method_59_code
def yX5_fill : MethodName := ⟨RX5, "fill", "([II)V"⟩
abbrev cX5_copy : ByteArray := prog_1_method_60_code
def yX5_copy : MethodName := ⟨RX5, "copy", "([I[I)V"⟩
abbrev cX5_dropFrom : ByteArray := prog_1_method_61_code
def yX5_dropFrom : MethodName := ⟨RX5, "dropFrom", "([II)V"⟩
def RX6 : String := "SubstituteDeskModel"
def TX6 : u_T := fun k => match k with
  | 0 => ("SubstituteDeskModel", "thrown", "I", false)
  | 1 => ("SubstituteDeskModel", "now", "[I", true)
  | 2 => ("SubstituteDeskModel", "saved", "[I", true)
  | 3 => ("SubstituteDeskModel", "isSaved", "Z", false)
  | 4 => ("SubstituteDeskModel", "ahead", "[I", true)
  | 5 => ("SubstituteDeskModel", "kept", "[I", true)
  | 6 => ("SubstituteDeskModel", "changes", "I", false)
  | 7 => ("SubstituteDeskModel", "input", "[I", true)
  | 8 => ("SubstituteDeskModel", "length", "I", false)
  | 9 => ("SubstituteDeskModel", "error", "I", false)
  | 10 => ("SubstituteDeskModel", "refused", "I", false)
  | 11 => ("SubstituteDeskModel", "at", "I", false)
  | 12 => ("SubstituteDeskModel", "opens", "[I", true)
  | 13 => ("SubstituteDeskModel", "plan", "[I", true)
  | 14 => ("SubstituteDeskModel", "best", "[I", true)
  | 15 => ("SubstituteDeskModel", "bestSpread", "I", false)
  | 16 => ("SubstituteDeskModel", "planCount", "I", false)
  | _ => ("SubstituteDeskModel", "written", "[I", true)
def tyX6 : Nat → FieldType := fun k => match k with
  | 0 => .int
  | 1 => .array .int
  | 2 => .array .int
  | 3 => .boolean
  | 4 => .array .int
  | 5 => .array .int
  | 6 => .int
  | 7 => .array .int
  | 8 => .int
  | 9 => .int
  | 10 => .int
  | 11 => .int
  | 12 => .array .int
  | 13 => .array .int
  | 14 => .array .int
  | 15 => .int
  | 16 => .int
  | _ => .array .int
abbrev wsX60 : List Cond := u_ws RX6 TX6 18
theorem nmX6 : ∀ a, a < 18 → ∀ b, b < 18 → a ≠ b → (TX6 a).2.1 ≠ (TX6 b).2.1 := by decide +kernel
theorem tyX6_ok : ∀ k, k < 18 → parseFieldDescriptor (TX6 k).2.2.1 = some (tyX6 k) := by decide +kernel
abbrev cX6_init : ByteArray := prog_8_method_1_code
def yX6_init : MethodName := ⟨RX6, "<init>", "()V"⟩
abbrev cX6_thrown : ByteArray := prog_8_method_2_code
def yX6_thrown : MethodName := ⟨RX6, "thrown", "()I"⟩
abbrev cX6_in : ByteArray := prog_8_method_3_code
def yX6_in : MethodName := ⟨RX6, "in", "(III)Z"⟩
abbrev cX6_raises : ByteArray := prog_8_method_4_code
def yX6_raises : MethodName := ⟨RX6, "raises", "(I)I"⟩
abbrev cX6_empties : ByteArray := prog_8_method_5_code
def yX6_empties : MethodName := ⟨RX6, "empties", "()V"⟩
abbrev cX6_teacherAt : ByteArray := prog_8_method_6_code
def yX6_teacherAt : MethodName := ⟨RX6, "teacherAt", "(I)I"⟩
abbrev cX6_lessonAt : ByteArray := prog_8_method_7_code
def yX6_lessonAt : MethodName := ⟨RX6, "lessonAt", "(I)I"⟩
abbrev cX6_of : ByteArray := prog_8_method_8_code
def yX6_of : MethodName := ⟨RX6, "of", "(II)I"⟩
abbrev cX6_by : ByteArray := prog_8_method_9_code
def yX6_by : MethodName := ⟨RX6, "by", "(II)I"⟩
abbrev cX6_lessons : ByteArray := prog_8_method_10_code
def yX6_lessons : MethodName := ⟨RX6, "lessons", "()I"⟩
abbrev cX6_teachers : ByteArray := prog_8_method_11_code
def yX6_teachers : MethodName := ⟨RX6, "teachers", "()I"⟩
abbrev cX6_isLesson : ByteArray := prog_8_method_12_code
def yX6_isLesson : MethodName := ⟨RX6, "isLesson", "(I)Z"⟩
abbrev cX6_isTeacher : ByteArray := prog_8_method_13_code
def yX6_isTeacher : MethodName := ⟨RX6, "isTeacher", "(I)Z"⟩
abbrev cX6_isSlot : ByteArray := prog_8_method_14_code
def yX6_isSlot : MethodName := ⟨RX6, "isSlot", "(I)Z"⟩
abbrev cX6_isSix : ByteArray := prog_8_method_15_code
def yX6_isSix : MethodName := ⟨RX6, "isSix", "(I)Z"⟩
abbrev cX6_has : ByteArray := prog_8_method_16_code
def yX6_has : MethodName := ⟨RX6, "has", "(II)Z"⟩
abbrev cX6_changes : ByteArray := prog_8_method_17_code
def yX6_changes : MethodName := ⟨RX6, "changes", "()V"⟩
abbrev cX6_sets : ByteArray := prog_8_method_18_code
def yX6_sets : MethodName := ⟨RX6, "sets", "(II)I"⟩
abbrev cX6_isAway : ByteArray := prog_8_method_19_code
def yX6_isAway : MethodName := ⟨RX6, "isAway", "(II)Z"⟩
abbrev cX6_state : ByteArray := prog_8_method_20_code
def yX6_state : MethodName := ⟨RX6, "state", "(I)I"⟩
abbrev cX6_acting : ByteArray := prog_8_method_21_code
def yX6_acting : MethodName := ⟨RX6, "acting", "(I)I"⟩
abbrev cX6_load : ByteArray := prog_8_method_22_code
def yX6_load : MethodName := ⟨RX6, "load", "(I)I"⟩
abbrev cX6_worth : ByteArray := prog_8_method_23_code
def yX6_worth : MethodName := ⟨RX6, "worth", "(II)I"⟩
abbrev cX6_gains : ByteArray := prog_8_method_24_code
def yX6_gains : MethodName := ⟨RX6, "gains", "(II)V"⟩
abbrev cX6_endsSplit : ByteArray := prog_8_method_25_code
def yX6_endsSplit : MethodName := ⟨RX6, "endsSplit", "(I)V"⟩
abbrev cX6_endsHosted : ByteArray := prog_8_method_26_code
def yX6_endsHosted : MethodName := ⟨RX6, "endsHosted", "(I)I"⟩
abbrev cX6_endsCover : ByteArray := prog_8_method_27_code
def yX6_endsCover : MethodName := ⟨RX6, "endsCover", "(I)I"⟩
abbrev cX6_endsAll : ByteArray := prog_8_method_28_code
def yX6_endsAll : MethodName := ⟨RX6, "endsAll", "(I)I"⟩
abbrev cX6_clear : ByteArray := prog_8_method_29_code
def yX6_clear : MethodName := ⟨RX6, "clear", "()I"⟩
abbrev cX6_newTeacher : ByteArray := prog_8_method_30_code
def yX6_newTeacher : MethodName := ⟨RX6, "newTeacher", "(II)I"⟩
abbrev cX6_keepsAhead : ByteArray := prog_8_method_31_code
def yX6_keepsAhead : MethodName := ⟨RX6, "keepsAhead", "()V"⟩
abbrev cX6_keepsBehind : ByteArray := prog_8_method_32_code
def yX6_keepsBehind : MethodName := ⟨RX6, "keepsBehind", "()V"⟩
abbrev cX6_addTeacher : ByteArray := prog_8_method_33_code
def yX6_addTeacher : MethodName := ⟨RX6, "addTeacher", "(II)I"⟩
abbrev cX6_setLimit : ByteArray := prog_8_method_34_code
def yX6_setLimit : MethodName := ⟨RX6, "setLimit", "(II)I"⟩
abbrev cX6_isTooFull : ByteArray := prog_8_method_35_code
def yX6_isTooFull : MethodName := ⟨RX6, "isTooFull", "()Z"⟩
abbrev cX6_isSplitClass : ByteArray := prog_8_method_36_code
def yX6_isSplitClass : MethodName := ⟨RX6, "isSplitClass", "(I)Z"⟩
abbrev cX6_setSize : ByteArray := prog_8_method_37_code
def yX6_setSize : MethodName := ⟨RX6, "setSize", "(II)I"⟩
abbrev cX6_setCapacity : ByteArray := prog_8_method_38_code
def yX6_setCapacity : MethodName := ⟨RX6, "setCapacity", "(II)I"⟩
abbrev cX6_covers : ByteArray := prog_8_method_39_code
def yX6_covers : MethodName := ⟨RX6, "covers", "(II)Z"⟩
abbrev cX6_collides : ByteArray := prog_8_method_40_code
def yX6_collides : MethodName := ⟨RX6, "collides", "(IIII)Z"⟩
abbrev cX6_newLesson : ByteArray := prog_8_method_41_code
def yX6_newLesson : MethodName := ⟨RX6, "newLesson", "(IIIII)I"⟩
abbrev cX6_addLesson : ByteArray := prog_8_method_42_code
def yX6_addLesson : MethodName := ⟨RX6, "addLesson", "(IIIII)I"⟩
abbrev cX6_removeLesson : ByteArray := prog_8_method_43_code
def yX6_removeLesson : MethodName := ⟨RX6, "removeLesson", "(I)I"⟩
abbrev cX6_setRoom : ByteArray := prog_8_method_44_code
def yX6_setRoom : MethodName := ⟨RX6, "setRoom", "(II)I"⟩
abbrev cX6_count : ByteArray := prog_8_method_45_code
def yX6_count : MethodName := ⟨RX6, "count", "(I)I"⟩
abbrev cX6_lesson : ByteArray := prog_8_method_46_code
def yX6_lesson : MethodName := ⟨RX6, "lesson", "(II)I"⟩
abbrev cX6_share : ByteArray := prog_8_method_47_code
def yX6_share : MethodName := ⟨RX6, "share", "(II)I"⟩
abbrev cX6_lessonsOf : ByteArray := prog_8_method_48_code
def yX6_lessonsOf : MethodName := ⟨RX6, "lessonsOf", "(II)I"⟩
abbrev cX6_teacher : ByteArray := prog_8_method_49_code
def yX6_teacher : MethodName := ⟨RX6, "teacher", "(II)I"⟩
abbrev cX6_find : ByteArray := prog_8_method_50_code
def yX6_find : MethodName := ⟨RX6, "find", "(III)I"⟩
abbrev cX6_lessonOf : ByteArray := prog_8_method_51_code
def yX6_lessonOf : MethodName := ⟨RX6, "lessonOf", "(II)I"⟩
abbrev cX6_turns : ByteArray := prog_8_method_52_code
def yX6_turns : MethodName := ⟨RX6, "turns", "(IIZ)I"⟩
abbrev cX6_setAbsent : ByteArray := prog_8_method_53_code
def yX6_setAbsent : MethodName := ⟨RX6, "setAbsent", "(IIZ)I"⟩
abbrev cX6_isDay : ByteArray := prog_8_method_54_code
def yX6_isDay : MethodName := ⟨RX6, "isDay", "(I)Z"⟩
abbrev cX6_absent : ByteArray := prog_8_method_55_code
def yX6_absent : MethodName := ⟨RX6, "absent", "(II)I"⟩
abbrev cX6_free : ByteArray := prog_8_method_56_code
def yX6_free : MethodName := ⟨RX6, "free", "(II)I"⟩
abbrev cX6_freeRooms : ByteArray := prog_8_method_57_code
def yX6_freeRooms : MethodName := ⟨RX6, "freeRooms", "(I)I"⟩
abbrev cX6_listsOpen : ByteArray := prog_8_method_58_code
def yX6_listsOpen : MethodName := ⟨RX6, "listsOpen", "(I)I"⟩
abbrev cX6_openOn : ByteArray := prog_8_method_59_code
def yX6_openOn : MethodName := ⟨RX6, "openOn", "(I)I"⟩
abbrev cX6_open : ByteArray := prog_8_method_60_code
def yX6_open : MethodName := ⟨RX6, "open", "(II)I"⟩
abbrev cX6_coversOn : ByteArray := prog_8_method_61_code
def yX6_coversOn : MethodName := ⟨RX6, "coversOn", "(II)I"⟩
abbrev cX6_bar : ByteArray := prog_8_method_62_code
def yX6_bar : MethodName := ⟨RX6, "bar", "(II)I"⟩
abbrev cX6_why : ByteArray := prog_8_method_63_code
def yX6_why : MethodName := ⟨RX6, "why", "(II)I"⟩
abbrev cX6_points : ByteArray := prog_8_method_64_code
def yX6_points : MethodName := ⟨RX6, "points", "(II)I"⟩
abbrev cX6_knows : ByteArray := prog_8_method_65_code
def yX6_knows : MethodName := ⟨RX6, "knows", "(II)Z"⟩
abbrev cX6_suggested : ByteArray := prog_8_method_66_code
def yX6_suggested : MethodName := ⟨RX6, "suggested", "(I)I"⟩
abbrev cX6_suggestion : ByteArray := prog_8_method_67_code
def yX6_suggestion : MethodName := ⟨RX6, "suggestion", "(I)I"⟩
abbrev cX6_begins : ByteArray := prog_8_method_68_code
def yX6_begins : MethodName := ⟨RX6, "begins", "(II)I"⟩
abbrev cX6_cover : ByteArray := prog_8_method_69_code
def yX6_cover : MethodName := ⟨RX6, "cover", "(II)I"⟩
abbrev cX6_uncover : ByteArray := prog_8_method_70_code
def yX6_uncover : MethodName := ⟨RX6, "uncover", "(I)I"⟩
abbrev cX6_canHost : ByteArray := prog_8_method_71_code
def yX6_canHost : MethodName := ⟨RX6, "canHost", "(II)Z"⟩
abbrev cX6_split : ByteArray := prog_8_method_72_code
def yX6_split : MethodName := ⟨RX6, "split", "(III)I"⟩
abbrev cX6_unsplit : ByteArray := prog_8_method_73_code
def yX6_unsplit : MethodName := ⟨RX6, "unsplit", "(I)I"⟩
abbrev cX6_host : ByteArray := prog_8_method_74_code
def yX6_host : MethodName := ⟨RX6, "host", "(IZ)I"⟩
abbrev cX6_refusal : ByteArray := prog_8_method_75_code
def yX6_refusal : MethodName := ⟨RX6, "refusal", "()I"⟩
abbrev cX6_coverDay : ByteArray := prog_8_method_76_code
def yX6_coverDay : MethodName := ⟨RX6, "coverDay", "(I)I"⟩
abbrev cX6_spreadNow : ByteArray := prog_8_method_77_code
def yX6_spreadNow : MethodName := ⟨RX6, "spreadNow", "()I"⟩
abbrev cX6_spread : ByteArray := prog_8_method_78_code
def yX6_spread : MethodName := ⟨RX6, "spread", "()I"⟩
abbrev cX6_extreme : ByteArray := prog_8_method_79_code
def yX6_extreme : MethodName := ⟨RX6, "extreme", "(Z)I"⟩
abbrev cX6_plans : ByteArray := prog_8_method_80_code
def yX6_plans : MethodName := ⟨RX6, "plans", "(II)V"⟩
abbrev cX6_looks : ByteArray := prog_8_method_81_code
def yX6_looks : MethodName := ⟨RX6, "looks", "(I)I"⟩
abbrev cX6_plannedSpread : ByteArray := prog_8_method_82_code
def yX6_plannedSpread : MethodName := ⟨RX6, "plannedSpread", "(I)I"⟩
abbrev cX6_planned : ByteArray := prog_8_method_83_code
def yX6_planned : MethodName := ⟨RX6, "planned", "(II)I"⟩
abbrev cX6_carryOut : ByteArray := prog_8_method_84_code
def yX6_carryOut : MethodName := ⟨RX6, "carryOut", "(I)I"⟩
abbrev cX6_plans_ : ByteArray := prog_8_method_85_code
def yX6_plans_ : MethodName := ⟨RX6, "plans", "(I)I"⟩
abbrev cX6_averagePoints : ByteArray := prog_8_method_86_code
def yX6_averagePoints : MethodName := ⟨RX6, "averagePoints", "(I)D"⟩
abbrev cX6_audit : ByteArray := prog_8_method_87_code
def yX6_audit : MethodName := ⟨RX6, "audit", "()I"⟩
abbrev cX6_lost : ByteArray := prog_8_method_88_code
def yX6_lost : MethodName := ⟨RX6, "lost", "(I)I"⟩
abbrev cX6_append : ByteArray := prog_8_method_89_code
def yX6_append : MethodName := ⟨RX6, "append", "(C)I"⟩
abbrev cX6_takes : ByteArray := prog_8_method_90_code
def yX6_takes : MethodName := ⟨RX6, "takes", "(II)Z"⟩
abbrev cX6_isNumber : ByteArray := prog_8_method_91_code
def yX6_isNumber : MethodName := ⟨RX6, "isNumber", "()Z"⟩
abbrev cX6_isMarked : ByteArray := prog_8_method_92_code
def yX6_isMarked : MethodName := ⟨RX6, "isMarked", "(CC)Z"⟩
abbrev cX6_isEntry : ByteArray := prog_8_method_93_code
def yX6_isEntry : MethodName := ⟨RX6, "isEntry", "()Z"⟩
abbrev cX6_number : ByteArray := prog_8_method_94_code
def yX6_number : MethodName := ⟨RX6, "number", "(I)I"⟩
abbrev cX6_does : ByteArray := prog_8_method_95_code
def yX6_does : MethodName := ⟨RX6, "does", "(I)I"⟩
abbrev cX6_read : ByteArray := prog_8_method_96_code
def yX6_read : MethodName := ⟨RX6, "read", "()I"⟩
abbrev cX6_errorPosition : ByteArray := prog_8_method_97_code
def yX6_errorPosition : MethodName := ⟨RX6, "errorPosition", "()I"⟩
abbrev cX6_describe : ByteArray := prog_8_method_98_code
def yX6_describe : MethodName := ⟨RX6, "describe", "(II)I"⟩
abbrev cX6_undo : ByteArray := prog_8_method_99_code
def yX6_undo : MethodName := ⟨RX6, "undo", "()I"⟩
abbrev cX6_save : ByteArray := prog_8_method_100_code
def yX6_save : MethodName := ⟨RX6, "save", "()I"⟩
abbrev cX6_restore : ByteArray := prog_8_method_101_code
def yX6_restore : MethodName := ⟨RX6, "restore", "()I"⟩
def RJx145de : String := "java/io/Serializable"
def TJx145de : u_T := fun k => match k with
  | _ => ("", "", "", false)
def tyJx145de : Nat → FieldType := fun k => match k with
  | _ => .int
abbrev wsJx145de0 : List Cond := u_ws RJx145de TJx145de 0
theorem nmJx145de : ∀ a, a < 0 → ∀ b, b < 0 → a ≠ b → (TJx145de a).2.1 ≠ (TJx145de b).2.1 := by decide +kernel
theorem tyJx145de_ok : ∀ k, k < 0 → parseFieldDescriptor (TJx145de k).2.2.1 = some (tyJx145de k) := by decide +kernel
def RJx00060 : String := "java/lang/ArrayIndexOutOfBoundsException"
def TJx00060 : u_T := fun k => match k with
  | 0 => ("java/lang/Throwable", "backtrace", "Ljava/lang/Object;", false)
  | 1 => ("java/lang/Throwable", "detailMessage", "Ljava/lang/String;", false)
  | 2 => ("java/lang/Throwable", "cause", "Ljava/lang/Throwable;", false)
  | 3 => ("java/lang/Throwable", "stackTrace", "[Ljava/lang/StackTraceElement;", false)
  | 4 => ("java/lang/Throwable", "depth", "I", false)
  | _ => ("java/lang/Throwable", "suppressedExceptions", "Ljava/util/List;", false)
def tyJx00060 : Nat → FieldType := fun k => match k with
  | 0 => .object "java/lang/Object"
  | 1 => .object "java/lang/String"
  | 2 => .object "java/lang/Throwable"
  | 3 => .array (.object "java/lang/StackTraceElement")
  | 4 => .int
  | _ => .object "java/util/List"
abbrev wsJx000600 : List Cond := u_ws RJx00060 TJx00060 6
theorem nmJx00060 : ∀ a, a < 6 → ∀ b, b < 6 → a ≠ b → (TJx00060 a).2.1 ≠ (TJx00060 b).2.1 := by decide +kernel
theorem tyJx00060_ok : ∀ k, k < 6 → parseFieldDescriptor (TJx00060 k).2.2.1 = some (tyJx00060 k) := by decide +kernel
abbrev cJx00060_init_a7421 : ByteArray := prog_11_method_2_code
def yJx00060_init_a7421 : MethodName := ⟨RJx00060, "<init>", "(Ljava/lang/String;)V"⟩
def RJx9f9b0 : String := "java/lang/CharSequence"
def TJx9f9b0 : u_T := fun k => match k with
  | _ => ("", "", "", false)
def tyJx9f9b0 : Nat → FieldType := fun k => match k with
  | _ => .int
abbrev wsJx9f9b00 : List Cond := u_ws RJx9f9b0 TJx9f9b0 0
theorem nmJx9f9b0 : ∀ a, a < 0 → ∀ b, b < 0 → a ≠ b → (TJx9f9b0 a).2.1 ≠ (TJx9f9b0 b).2.1 := by decide +kernel
theorem tyJx9f9b0_ok : ∀ k, k < 0 → parseFieldDescriptor (TJx9f9b0 k).2.2.1 = some (tyJx9f9b0 k) := by decide +kernel
def RJxb160c : String := "java/lang/Comparable"
def TJxb160c : u_T := fun k => match k with
  | _ => ("", "", "", false)
def tyJxb160c : Nat → FieldType := fun k => match k with
  | _ => .int
abbrev wsJxb160c0 : List Cond := u_ws RJxb160c TJxb160c 0
theorem nmJxb160c : ∀ a, a < 0 → ∀ b, b < 0 → a ≠ b → (TJxb160c a).2.1 ≠ (TJxb160c b).2.1 := by decide +kernel
theorem tyJxb160c_ok : ∀ k, k < 0 → parseFieldDescriptor (TJxb160c k).2.2.1 = some (tyJxb160c k) := by decide +kernel
def RJ6 : String := "java/lang/Integer"
def TJ6 : u_T := fun k => match k with
  | _ => ("", "", "", false)
def tyJ6 : Nat → FieldType := fun k => match k with
  | _ => .int
abbrev wsJ60 : List Cond := u_ws RJ6 TJ6 0
theorem nmJ6 : ∀ a, a < 0 → ∀ b, b < 0 → a ≠ b → (TJ6 a).2.1 ≠ (TJ6 b).2.1 := by decide +kernel
theorem tyJ6_ok : ∀ k, k < 0 → parseFieldDescriptor (TJ6 k).2.2.1 = some (tyJ6 k) := by decide +kernel
abbrev cJ6_bitCount_0f7a4 : ByteArray := prog_18_method_49_code
def yJ6_bitCount_0f7a4 : MethodName := ⟨RJ6, "bitCount", "(I)I"⟩
def RJ9 : String := "java/lang/Math"
def TJ9 : u_T := fun k => match k with
  | _ => ("", "", "", false)
def tyJ9 : Nat → FieldType := fun k => match k with
  | _ => .int
abbrev wsJ90 : List Cond := u_ws RJ9 TJ9 0
theorem nmJ9 : ∀ a, a < 0 → ∀ b, b < 0 → a ≠ b → (TJ9 a).2.1 ≠ (TJ9 b).2.1 := by decide +kernel
theorem tyJ9_ok : ∀ k, k < 0 → parseFieldDescriptor (TJ9 k).2.2.1 = some (tyJ9 k) := by decide +kernel
abbrev cJ9_max_7cf53 : ByteArray := prog_19_method_65_code
def yJ9_max_7cf53 : MethodName := ⟨RJ9, "max", "(II)I"⟩
abbrev cJ9_min_7cf53 : ByteArray := prog_19_method_69_code
def yJ9_min_7cf53 : MethodName := ⟨RJ9, "min", "(II)I"⟩
def RJ0 : String := "java/lang/String"
def TJ0 : u_T := fun k => match k with
  | 0 => ("java/lang/String", "value", "[B", true)
  | _ => ("java/lang/String", "coder", "B", true)
def tyJ0 : Nat → FieldType := fun k => match k with
  | 0 => .array .byte
  | _ => .byte
abbrev wsJ00 : List Cond := u_ws RJ0 TJ0 2
theorem nmJ0 : ∀ a, a < 2 → ∀ b, b < 2 → a ≠ b → (TJ0 a).2.1 ≠ (TJ0 b).2.1 := by decide +kernel
theorem tyJ0_ok : ∀ k, k < 2 → parseFieldDescriptor (TJ0 k).2.2.1 = some (tyJ0 k) := by decide +kernel
abbrev cJ0_charAt_5068e : ByteArray := prog_21_method_56_code
def yJ0_charAt_5068e : MethodName := ⟨RJ0, "charAt", "(I)C"⟩
abbrev cJ0_isLatin1_aae02 : ByteArray := prog_21_method_154_code
def yJ0_isLatin1_aae02 : MethodName := ⟨RJ0, "isLatin1", "()Z"⟩
abbrev cJ0_checkIndex_df160 : ByteArray := prog_21_method_155_code
def yJ0_checkIndex_df160 : MethodName := ⟨RJ0, "checkIndex", "(II)V"⟩
def RJ1 : String := "java/lang/StringLatin1"
def TJ1 : u_T := fun k => match k with
  | _ => ("", "", "", false)
def tyJ1 : Nat → FieldType := fun k => match k with
  | _ => .int
abbrev wsJ10 : List Cond := u_ws RJ1 TJ1 0
theorem nmJ1 : ∀ a, a < 0 → ∀ b, b < 0 → a ≠ b → (TJ1 a).2.1 ≠ (TJ1 b).2.1 := by decide +kernel
theorem tyJ1_ok : ∀ k, k < 0 → parseFieldDescriptor (TJ1 k).2.2.1 = some (tyJ1 k) := by decide +kernel
abbrev cJ1_charAt_3b067 : ByteArray := prog_22_method_2_code
def yJ1_charAt_3b067 : MethodName := ⟨RJ1, "charAt", "([BI)C"⟩
def RJ2 : String := "java/lang/StringUTF16"
def TJ2 : u_T := fun k => match k with
  | _ => ("", "", "", false)
def tyJ2 : Nat → FieldType := fun k => match k with
  | _ => .int
abbrev wsJ20 : List Cond := u_ws RJ2 TJ2 0
theorem nmJ2 : ∀ a, a < 0 → ∀ b, b < 0 → a ≠ b → (TJ2 a).2.1 ≠ (TJ2 b).2.1 := by decide +kernel
theorem tyJ2_ok : ∀ k, k < 0 → parseFieldDescriptor (TJ2 k).2.2.1 = some (tyJ2 k) := by decide +kernel
abbrev cJ2_getChar_3b067 : ByteArray := prog_23_method_5_code
def yJ2_getChar_3b067 : MethodName := ⟨RJ2, "getChar", "([BI)C"⟩
abbrev cJ2_length_9d52b : ByteArray := prog_23_method_6_code
def yJ2_length_9d52b : MethodName := ⟨RJ2, "length", "([B)I"⟩
abbrev cJ2_charAt_3b067 : ByteArray := prog_23_method_83_code
def yJ2_charAt_3b067 : MethodName := ⟨RJ2, "charAt", "([BI)C"⟩
abbrev cJ2_checkIndex_2214a : ByteArray := prog_23_method_91_code
def yJ2_checkIndex_2214a : MethodName := ⟨RJ2, "checkIndex", "(I[B)V"⟩
def RJxfd54e : String := "java/lang/constant/Constable"
def TJxfd54e : u_T := fun k => match k with
  | _ => ("", "", "", false)
def tyJxfd54e : Nat → FieldType := fun k => match k with
  | _ => .int
abbrev wsJxfd54e0 : List Cond := u_ws RJxfd54e TJxfd54e 0
theorem nmJxfd54e : ∀ a, a < 0 → ∀ b, b < 0 → a ≠ b → (TJxfd54e a).2.1 ≠ (TJxfd54e b).2.1 := by decide +kernel
theorem tyJxfd54e_ok : ∀ k, k < 0 → parseFieldDescriptor (TJxfd54e k).2.2.1 = some (tyJxfd54e k) := by decide +kernel
def RJx3cf43 : String := "java/lang/constant/ConstantDesc"
def TJx3cf43 : u_T := fun k => match k with
  | _ => ("", "", "", false)
def tyJx3cf43 : Nat → FieldType := fun k => match k with
  | _ => .int
abbrev wsJx3cf430 : List Cond := u_ws RJx3cf43 TJx3cf43 0
theorem nmJx3cf43 : ∀ a, a < 0 → ∀ b, b < 0 → a ≠ b → (TJx3cf43 a).2.1 ≠ (TJx3cf43 b).2.1 := by decide +kernel
theorem tyJx3cf43_ok : ∀ k, k < 0 → parseFieldDescriptor (TJx3cf43 k).2.2.1 = some (tyJx3cf43 k) := by decide +kernel
def RJ3 : String := "jdk/internal/util/Preconditions"
def TJ3 : u_T := fun k => match k with
  | _ => ("", "", "", false)
def tyJ3 : Nat → FieldType := fun k => match k with
  | _ => .int
abbrev wsJ30 : List Cond := u_ws RJ3 TJ3 0
theorem nmJ3 : ∀ a, a < 0 → ∀ b, b < 0 → a ≠ b → (TJ3 a).2.1 ≠ (TJ3 b).2.1 := by decide +kernel
theorem tyJ3_ok : ∀ k, k < 0 → parseFieldDescriptor (TJ3 k).2.2.1 = some (tyJ3 k) := by decide +kernel
abbrev cJ3_checkIndex_8e157 : ByteArray := prog_29_method_11_code
def yJ3_checkIndex_8e157 : MethodName := ⟨RJ3, "checkIndex", "(IILjava/util/function/BiFunction;)I"⟩
def RL : String := "SubstituteDeskLaw"
abbrev cL_addTeacher : ByteArray := method_3_code
def yL_addTeacher : MethodName := ⟨RL, "addTeacher", "(LSubstituteDesk;II[J)I"⟩
abbrev cL_setLimit : ByteArray := method_4_code
def yL_setLimit : MethodName := ⟨RL, "setLimit", "(LSubstituteDesk;II[J)I"⟩
abbrev cL_setSize : ByteArray := method_5_code
def yL_setSize : MethodName := ⟨RL, "setSize", "(LSubstituteDesk;II[J)I"⟩
abbrev cL_setCapacity : ByteArray := method_6_code
def yL_setCapacity : MethodName := ⟨RL, "setCapacity", "(LSubstituteDesk;II[J)I"⟩
abbrev cL_addLesson : ByteArray := method_7_code
def yL_addLesson : MethodName := ⟨RL, "addLesson", "(LSubstituteDesk;IIIII[J)I"⟩
abbrev cL_removeLesson : ByteArray := method_8_code
def yL_removeLesson : MethodName := ⟨RL, "removeLesson", "(LSubstituteDesk;I[J)I"⟩
abbrev cL_setRoom : ByteArray := method_9_code
def yL_setRoom : MethodName := ⟨RL, "setRoom", "(LSubstituteDesk;II[J)I"⟩
abbrev cL_count : ByteArray := method_10_code
def yL_count : MethodName := ⟨RL, "count", "(LSubstituteDesk;I[J)I"⟩
abbrev cL_lesson : ByteArray := method_11_code
def yL_lesson : MethodName := ⟨RL, "lesson", "(LSubstituteDesk;II[J)I"⟩
abbrev cL_teacher : ByteArray := method_12_code
def yL_teacher : MethodName := ⟨RL, "teacher", "(LSubstituteDesk;II[J)I"⟩
abbrev cL_lessonOf : ByteArray := method_13_code
def yL_lessonOf : MethodName := ⟨RL, "lessonOf", "(LSubstituteDesk;II[J)I"⟩
abbrev cL_setAbsent : ByteArray := method_14_code
def yL_setAbsent : MethodName := ⟨RL, "setAbsent", "(LSubstituteDesk;IIZ[J)I"⟩
abbrev cL_absent : ByteArray := method_15_code
def yL_absent : MethodName := ⟨RL, "absent", "(LSubstituteDesk;II[J)I"⟩
abbrev cL_free : ByteArray := method_16_code
def yL_free : MethodName := ⟨RL, "free", "(LSubstituteDesk;II[J)I"⟩
abbrev cL_freeRooms : ByteArray := method_17_code
def yL_freeRooms : MethodName := ⟨RL, "freeRooms", "(LSubstituteDesk;I[J)I"⟩
abbrev cL_openOn : ByteArray := method_18_code
def yL_openOn : MethodName := ⟨RL, "openOn", "(LSubstituteDesk;I[J)I"⟩
abbrev cL_open : ByteArray := method_19_code
def yL_open : MethodName := ⟨RL, "open", "(LSubstituteDesk;II[J)I"⟩
abbrev cL_why : ByteArray := method_20_code
def yL_why : MethodName := ⟨RL, "why", "(LSubstituteDesk;II[J)I"⟩
abbrev cL_points : ByteArray := method_21_code
def yL_points : MethodName := ⟨RL, "points", "(LSubstituteDesk;II[J)I"⟩
abbrev cL_suggestion : ByteArray := method_22_code
def yL_suggestion : MethodName := ⟨RL, "suggestion", "(LSubstituteDesk;I[J)I"⟩
abbrev cL_cover : ByteArray := method_23_code
def yL_cover : MethodName := ⟨RL, "cover", "(LSubstituteDesk;II[J)I"⟩
abbrev cL_uncover : ByteArray := method_24_code
def yL_uncover : MethodName := ⟨RL, "uncover", "(LSubstituteDesk;I[J)I"⟩
abbrev cL_split : ByteArray := method_25_code
def yL_split : MethodName := ⟨RL, "split", "(LSubstituteDesk;III[J)I"⟩
abbrev cL_unsplit : ByteArray := method_26_code
def yL_unsplit : MethodName := ⟨RL, "unsplit", "(LSubstituteDesk;I[J)I"⟩
abbrev cL_host : ByteArray := method_27_code
def yL_host : MethodName := ⟨RL, "host", "(LSubstituteDesk;IZ[J)I"⟩
abbrev cL_refusal : ByteArray := method_28_code
def yL_refusal : MethodName := ⟨RL, "refusal", "(LSubstituteDesk;[J)I"⟩
abbrev cL_coverDay : ByteArray := method_29_code
def yL_coverDay : MethodName := ⟨RL, "coverDay", "(LSubstituteDesk;I[J)I"⟩
abbrev cL_spread : ByteArray := method_30_code
def yL_spread : MethodName := ⟨RL, "spread", "(LSubstituteDesk;[J)I"⟩
abbrev cL_extreme : ByteArray := method_31_code
def yL_extreme : MethodName := ⟨RL, "extreme", "(LSubstituteDesk;Z[J)I"⟩
abbrev cL_plannedSpread : ByteArray := method_32_code
def yL_plannedSpread : MethodName := ⟨RL, "plannedSpread", "(LSubstituteDesk;I[J)I"⟩
abbrev cL_planned : ByteArray := method_33_code
def yL_planned : MethodName := ⟨RL, "planned", "(LSubstituteDesk;II[J)I"⟩
abbrev cL_carryOut : ByteArray := method_34_code
def yL_carryOut : MethodName := ⟨RL, "carryOut", "(LSubstituteDesk;I[J)I"⟩
abbrev cL_plans : ByteArray := method_35_code
def yL_plans : MethodName := ⟨RL, "plans", "(LSubstituteDesk;I[J)I"⟩
abbrev cL_averagePoints : ByteArray := method_36_code
def yL_averagePoints : MethodName := ⟨RL, "averagePoints", "(LSubstituteDesk;I[D)I"⟩
abbrev cL_lost : ByteArray := method_37_code
def yL_lost : MethodName := ⟨RL, "lost", "(LSubstituteDesk;I[J)I"⟩
abbrev cL_append : ByteArray := method_38_code
def yL_append : MethodName := ⟨RL, "append", "(LSubstituteDesk;C[J)I"⟩
abbrev cL_read : ByteArray := method_39_code
def yL_read : MethodName := ⟨RL, "read", "(LSubstituteDesk;[J)I"⟩
abbrev cL_errorPosition : ByteArray := method_40_code
def yL_errorPosition : MethodName := ⟨RL, "errorPosition", "(LSubstituteDesk;[J)I"⟩
abbrev cL_describe : ByteArray := method_41_code
def yL_describe : MethodName := ⟨RL, "describe", "(LSubstituteDesk;II[J)I"⟩
abbrev cL_undo : ByteArray := method_42_code
def yL_undo : MethodName := ⟨RL, "undo", "(LSubstituteDesk;[J)I"⟩
abbrev cL_restore : ByteArray := method_43_code
def yL_restore : MethodName := ⟨RL, "restore", "(LSubstituteDesk;[J)I"⟩
abbrev cL_law : ByteArray := code
def yL_law : MethodName := ⟨RL, "law", "([I)Z"⟩
end
section
theorem dX4_init_0 : decode cX4_init 0 = .ok (.aload_n 0, 1) := by decide +kernel
theorem dX4_init_1 : decode cX4_init 1 = .ok (.invokespecial 3, 3) := by decide +kernel
theorem dX4_init_4 : decode cX4_init 4 = .ok (.aload_n 0, 1) := by decide +kernel
theorem dX4_init_5 : decode cX4_init 5 = .ok (.iconst 0, 1) := by decide +kernel
theorem dX4_init_6 : decode cX4_init 6 = .ok (.putfield 9, 3) := by decide +kernel
theorem dX4_init_9 : decode cX4_init 9 = .ok (.aload_n 0, 1) := by decide +kernel
theorem dX4_init_10 : decode cX4_init 10 = .ok (.iconst 0, 1) := by decide +kernel
theorem dX4_init_11 : decode cX4_init 11 = .ok (.putfield 15, 3) := by decide +kernel
theorem dX4_init_14 : decode cX4_init 14 = .ok (.aload_n 0, 1) := by decide +kernel
theorem dX4_init_15 : decode cX4_init 15 = .ok (.iconst 0, 1) := by decide +kernel
theorem dX4_init_16 : decode cX4_init 16 = .ok (.putfield 18, 3) := by decide +kernel
theorem dX4_init_19 : decode cX4_init 19 = .ok (.aload_n 0, 1) := by decide +kernel
theorem dX4_init_20 : decode cX4_init 20 = .ok (.iconst 0, 1) := by decide +kernel
theorem dX4_init_21 : decode cX4_init 21 = .ok (.putfield 21, 3) := by decide +kernel
theorem dX4_init_24 : decode cX4_init 24 = .ok (.aload_n 0, 1) := by decide +kernel
theorem dX4_init_25 : decode cX4_init 25 = .ok (.bipush 8, 2) := by decide +kernel
theorem dX4_init_27 : decode cX4_init 27 = .ok (.newarray .int, 2) := by decide +kernel
theorem dX4_init_29 : decode cX4_init 29 = .ok (.putfield 24, 3) := by decide +kernel
theorem dX4_init_32 : decode cX4_init 32 = .ok (.aload_n 0, 1) := by decide +kernel
theorem dX4_init_33 : decode cX4_init 33 = .ok (.bipush 8, 2) := by decide +kernel
theorem dX4_init_35 : decode cX4_init 35 = .ok (.newarray .int, 2) := by decide +kernel
theorem dX4_init_37 : decode cX4_init 37 = .ok (.putfield 28, 3) := by decide +kernel
theorem dX4_init_40 : decode cX4_init 40 = .ok (.aload_n 0, 1) := by decide +kernel
theorem dX4_init_41 : decode cX4_init 41 = .ok (.bipush 8, 2) := by decide +kernel
theorem dX4_init_43 : decode cX4_init 43 = .ok (.newarray .int, 2) := by decide +kernel
theorem dX4_init_45 : decode cX4_init 45 = .ok (.putfield 31, 3) := by decide +kernel
theorem dX4_init_48 : decode cX4_init 48 = .ok (.aload_n 0, 1) := by decide +kernel
theorem dX4_init_49 : decode cX4_init 49 = .ok (.bipush 8, 2) := by decide +kernel
theorem dX4_init_51 : decode cX4_init 51 = .ok (.newarray .int, 2) := by decide +kernel
theorem dX4_init_53 : decode cX4_init 53 = .ok (.putfield 34, 3) := by decide +kernel
theorem dX4_init_56 : decode cX4_init 56 = .ok (.aload_n 0, 1) := by decide +kernel
theorem dX4_init_57 : decode cX4_init 57 = .ok (.bipush 8, 2) := by decide +kernel
theorem dX4_init_59 : decode cX4_init 59 = .ok (.newarray .int, 2) := by decide +kernel
theorem dX4_init_61 : decode cX4_init 61 = .ok (.putfield 37, 3) := by decide +kernel
theorem dX4_init_64 : decode cX4_init 64 = .ok (.aload_n 0, 1) := by decide +kernel
theorem dX4_init_65 : decode cX4_init 65 = .ok (.bipush 6, 2) := by decide +kernel
theorem dX4_init_67 : decode cX4_init 67 = .ok (.newarray .int, 2) := by decide +kernel
theorem dX4_init_69 : decode cX4_init 69 = .ok (.putfield 40, 3) := by decide +kernel
theorem dX4_init_72 : decode cX4_init 72 = .ok (.aload_n 0, 1) := by decide +kernel
theorem dX4_init_73 : decode cX4_init 73 = .ok (.bipush 6, 2) := by decide +kernel
theorem dX4_init_75 : decode cX4_init 75 = .ok (.newarray .int, 2) := by decide +kernel
theorem dX4_init_77 : decode cX4_init 77 = .ok (.putfield 43, 3) := by decide +kernel
theorem dX4_init_80 : decode cX4_init 80 = .ok (.aload_n 0, 1) := by decide +kernel
theorem dX4_init_81 : decode cX4_init 81 = .ok (.bipush 40, 2) := by decide +kernel
theorem dX4_init_83 : decode cX4_init 83 = .ok (.newarray .int, 2) := by decide +kernel
theorem dX4_init_85 : decode cX4_init 85 = .ok (.putfield 46, 3) := by decide +kernel
theorem dX4_init_88 : decode cX4_init 88 = .ok (.aload_n 0, 1) := by decide +kernel
theorem dX4_init_89 : decode cX4_init 89 = .ok (.bipush 40, 2) := by decide +kernel
theorem dX4_init_91 : decode cX4_init 91 = .ok (.newarray .int, 2) := by decide +kernel
theorem dX4_init_93 : decode cX4_init 93 = .ok (.putfield 49, 3) := by decide +kernel
theorem dX4_init_96 : decode cX4_init 96 = .ok (.aload_n 0, 1) := by decide +kernel
theorem dX4_init_97 : decode cX4_init 97 = .ok (.bipush 40, 2) := by decide +kernel
theorem dX4_init_99 : decode cX4_init 99 = .ok (.newarray .int, 2) := by decide +kernel
theorem dX4_init_101 : decode cX4_init 101 = .ok (.putfield 52, 3) := by decide +kernel
theorem dX4_init_104 : decode cX4_init 104 = .ok (.aload_n 0, 1) := by decide +kernel
theorem dX4_init_105 : decode cX4_init 105 = .ok (.bipush 40, 2) := by decide +kernel
theorem dX4_init_107 : decode cX4_init 107 = .ok (.newarray .int, 2) := by decide +kernel
theorem dX4_init_109 : decode cX4_init 109 = .ok (.putfield 55, 3) := by decide +kernel
theorem dX4_init_112 : decode cX4_init 112 = .ok (.aload_n 0, 1) := by decide +kernel
theorem dX4_init_113 : decode cX4_init 113 = .ok (.bipush 40, 2) := by decide +kernel
theorem dX4_init_115 : decode cX4_init 115 = .ok (.newarray .int, 2) := by decide +kernel
theorem dX4_init_117 : decode cX4_init 117 = .ok (.putfield 58, 3) := by decide +kernel
theorem dX4_init_120 : decode cX4_init 120 = .ok (.aload_n 0, 1) := by decide +kernel
theorem dX4_init_121 : decode cX4_init 121 = .ok (.bipush 40, 2) := by decide +kernel
theorem dX4_init_123 : decode cX4_init 123 = .ok (.newarray .int, 2) := by decide +kernel
theorem dX4_init_125 : decode cX4_init 125 = .ok (.putfield 61, 3) := by decide +kernel
theorem dX4_init_128 : decode cX4_init 128 = .ok (.aload_n 0, 1) := by decide +kernel
theorem dX4_init_129 : decode cX4_init 129 = .ok (.bipush 40, 2) := by decide +kernel
theorem dX4_init_131 : decode cX4_init 131 = .ok (.newarray .int, 2) := by decide +kernel
theorem dX4_init_133 : decode cX4_init 133 = .ok (.putfield 64, 3) := by decide +kernel
theorem dX4_init_136 : decode cX4_init 136 = .ok (.aload_n 0, 1) := by decide +kernel
theorem dX4_init_137 : decode cX4_init 137 = .ok (.bipush 40, 2) := by decide +kernel
theorem dX4_init_139 : decode cX4_init 139 = .ok (.newarray .int, 2) := by decide +kernel
theorem dX4_init_141 : decode cX4_init 141 = .ok (.putfield 67, 3) := by decide +kernel
theorem dX4_init_144 : decode cX4_init 144 = .ok (.aload_n 0, 1) := by decide +kernel
theorem dX4_init_145 : decode cX4_init 145 = .ok (.invokevirtual 70, 3) := by decide +kernel
theorem dX4_init_148 : decode cX4_init 148 = .ok (.return_, 1) := by decide +kernel
theorem dX4_reset_0 : decode cX4_reset 0 = .ok (.aload_n 0, 1) := by decide +kernel
theorem dX4_reset_1 : decode cX4_reset 1 = .ok (.iconst 0, 1) := by decide +kernel
theorem dX4_reset_2 : decode cX4_reset 2 = .ok (.putfield 9, 3) := by decide +kernel
theorem dX4_reset_5 : decode cX4_reset 5 = .ok (.aload_n 0, 1) := by decide +kernel
theorem dX4_reset_6 : decode cX4_reset 6 = .ok (.iconst 0, 1) := by decide +kernel
theorem dX4_reset_7 : decode cX4_reset 7 = .ok (.putfield 15, 3) := by decide +kernel
theorem dX4_reset_10 : decode cX4_reset 10 = .ok (.aload_n 0, 1) := by decide +kernel
theorem dX4_reset_11 : decode cX4_reset 11 = .ok (.iconst 0, 1) := by decide +kernel
theorem dX4_reset_12 : decode cX4_reset 12 = .ok (.putfield 18, 3) := by decide +kernel
theorem dX4_reset_15 : decode cX4_reset 15 = .ok (.aload_n 0, 1) := by decide +kernel
theorem dX4_reset_16 : decode cX4_reset 16 = .ok (.iconst 0, 1) := by decide +kernel
theorem dX4_reset_17 : decode cX4_reset 17 = .ok (.putfield 21, 3) := by decide +kernel
theorem dX4_reset_20 : decode cX4_reset 20 = .ok (.aload_n 0, 1) := by decide +kernel
theorem dX4_reset_21 : decode cX4_reset 21 = .ok (.getfield 40, 3) := by decide +kernel
theorem dX4_reset_24 : decode cX4_reset 24 = .ok (.bipush 20, 2) := by decide +kernel
theorem dX4_reset_26 : decode cX4_reset 26 = .ok (.invokestatic 73, 3) := by decide +kernel
theorem dX4_reset_29 : decode cX4_reset 29 = .ok (.aload_n 0, 1) := by decide +kernel
theorem dX4_reset_30 : decode cX4_reset 30 = .ok (.getfield 43, 3) := by decide +kernel
theorem dX4_reset_33 : decode cX4_reset 33 = .ok (.bipush 30, 2) := by decide +kernel
theorem dX4_reset_35 : decode cX4_reset 35 = .ok (.invokestatic 73, 3) := by decide +kernel
theorem dX4_reset_38 : decode cX4_reset 38 = .ok (.return_, 1) := by decide +kernel
theorem dX4_copyFrom_0 : decode cX4_copyFrom 0 = .ok (.aload_n 0, 1) := by decide +kernel
theorem dX4_copyFrom_1 : decode cX4_copyFrom 1 = .ok (.aload_n 1, 1) := by decide +kernel
theorem dX4_copyFrom_2 : decode cX4_copyFrom 2 = .ok (.getfield 9, 3) := by decide +kernel
theorem dX4_copyFrom_5 : decode cX4_copyFrom 5 = .ok (.putfield 9, 3) := by decide +kernel
theorem dX4_copyFrom_8 : decode cX4_copyFrom 8 = .ok (.aload_n 0, 1) := by decide +kernel
theorem dX4_copyFrom_9 : decode cX4_copyFrom 9 = .ok (.aload_n 1, 1) := by decide +kernel
theorem dX4_copyFrom_10 : decode cX4_copyFrom 10 = .ok (.getfield 15, 3) := by decide +kernel
theorem dX4_copyFrom_13 : decode cX4_copyFrom 13 = .ok (.putfield 15, 3) := by decide +kernel
theorem dX4_copyFrom_16 : decode cX4_copyFrom 16 = .ok (.aload_n 0, 1) := by decide +kernel
theorem dX4_copyFrom_17 : decode cX4_copyFrom 17 = .ok (.aload_n 1, 1) := by decide +kernel
theorem dX4_copyFrom_18 : decode cX4_copyFrom 18 = .ok (.getfield 18, 3) := by decide +kernel
theorem dX4_copyFrom_21 : decode cX4_copyFrom 21 = .ok (.putfield 18, 3) := by decide +kernel
theorem dX4_copyFrom_24 : decode cX4_copyFrom 24 = .ok (.aload_n 0, 1) := by decide +kernel
theorem dX4_copyFrom_25 : decode cX4_copyFrom 25 = .ok (.aload_n 1, 1) := by decide +kernel
theorem dX4_copyFrom_26 : decode cX4_copyFrom 26 = .ok (.getfield 21, 3) := by decide +kernel
theorem dX4_copyFrom_29 : decode cX4_copyFrom 29 = .ok (.putfield 21, 3) := by decide +kernel
theorem dX4_copyFrom_32 : decode cX4_copyFrom 32 = .ok (.aload_n 1, 1) := by decide +kernel
theorem dX4_copyFrom_33 : decode cX4_copyFrom 33 = .ok (.getfield 24, 3) := by decide +kernel
theorem dX4_copyFrom_36 : decode cX4_copyFrom 36 = .ok (.aload_n 0, 1) := by decide +kernel
theorem dX4_copyFrom_37 : decode cX4_copyFrom 37 = .ok (.getfield 24, 3) := by decide +kernel
theorem dX4_copyFrom_40 : decode cX4_copyFrom 40 = .ok (.invokestatic 77, 3) := by decide +kernel
theorem dX4_copyFrom_43 : decode cX4_copyFrom 43 = .ok (.aload_n 1, 1) := by decide +kernel
theorem dX4_copyFrom_44 : decode cX4_copyFrom 44 = .ok (.getfield 28, 3) := by decide +kernel
theorem dX4_copyFrom_47 : decode cX4_copyFrom 47 = .ok (.aload_n 0, 1) := by decide +kernel
theorem dX4_copyFrom_48 : decode cX4_copyFrom 48 = .ok (.getfield 28, 3) := by decide +kernel
theorem dX4_copyFrom_51 : decode cX4_copyFrom 51 = .ok (.invokestatic 77, 3) := by decide +kernel
theorem dX4_copyFrom_54 : decode cX4_copyFrom 54 = .ok (.aload_n 1, 1) := by decide +kernel
theorem dX4_copyFrom_55 : decode cX4_copyFrom 55 = .ok (.getfield 31, 3) := by decide +kernel
theorem dX4_copyFrom_58 : decode cX4_copyFrom 58 = .ok (.aload_n 0, 1) := by decide +kernel
theorem dX4_copyFrom_59 : decode cX4_copyFrom 59 = .ok (.getfield 31, 3) := by decide +kernel
theorem dX4_copyFrom_62 : decode cX4_copyFrom 62 = .ok (.invokestatic 77, 3) := by decide +kernel
theorem dX4_copyFrom_65 : decode cX4_copyFrom 65 = .ok (.aload_n 1, 1) := by decide +kernel
theorem dX4_copyFrom_66 : decode cX4_copyFrom 66 = .ok (.getfield 34, 3) := by decide +kernel
theorem dX4_copyFrom_69 : decode cX4_copyFrom 69 = .ok (.aload_n 0, 1) := by decide +kernel
theorem dX4_copyFrom_70 : decode cX4_copyFrom 70 = .ok (.getfield 34, 3) := by decide +kernel
theorem dX4_copyFrom_73 : decode cX4_copyFrom 73 = .ok (.invokestatic 77, 3) := by decide +kernel
theorem dX4_copyFrom_76 : decode cX4_copyFrom 76 = .ok (.aload_n 1, 1) := by decide +kernel
theorem dX4_copyFrom_77 : decode cX4_copyFrom 77 = .ok (.getfield 37, 3) := by decide +kernel
theorem dX4_copyFrom_80 : decode cX4_copyFrom 80 = .ok (.aload_n 0, 1) := by decide +kernel
theorem dX4_copyFrom_81 : decode cX4_copyFrom 81 = .ok (.getfield 37, 3) := by decide +kernel
theorem dX4_copyFrom_84 : decode cX4_copyFrom 84 = .ok (.invokestatic 77, 3) := by decide +kernel
theorem dX4_copyFrom_87 : decode cX4_copyFrom 87 = .ok (.aload_n 1, 1) := by decide +kernel
theorem dX4_copyFrom_88 : decode cX4_copyFrom 88 = .ok (.getfield 40, 3) := by decide +kernel
theorem dX4_copyFrom_91 : decode cX4_copyFrom 91 = .ok (.aload_n 0, 1) := by decide +kernel
theorem dX4_copyFrom_92 : decode cX4_copyFrom 92 = .ok (.getfield 40, 3) := by decide +kernel
theorem dX4_copyFrom_95 : decode cX4_copyFrom 95 = .ok (.invokestatic 77, 3) := by decide +kernel
theorem dX4_copyFrom_98 : decode cX4_copyFrom 98 = .ok (.aload_n 1, 1) := by decide +kernel
theorem dX4_copyFrom_99 : decode cX4_copyFrom 99 = .ok (.getfield 43, 3) := by decide +kernel
theorem dX4_copyFrom_102 : decode cX4_copyFrom 102 = .ok (.aload_n 0, 1) := by decide +kernel
theorem dX4_copyFrom_103 : decode cX4_copyFrom 103 = .ok (.getfield 43, 3) := by decide +kernel
theorem dX4_copyFrom_106 : decode cX4_copyFrom 106 = .ok (.invokestatic 77, 3) := by decide +kernel
theorem dX4_copyFrom_109 : decode cX4_copyFrom 109 = .ok (.aload_n 1, 1) := by decide +kernel
theorem dX4_copyFrom_110 : decode cX4_copyFrom 110 = .ok (.getfield 46, 3) := by decide +kernel
theorem dX4_copyFrom_113 : decode cX4_copyFrom 113 = .ok (.aload_n 0, 1) := by decide +kernel
theorem dX4_copyFrom_114 : decode cX4_copyFrom 114 = .ok (.getfield 46, 3) := by decide +kernel
theorem dX4_copyFrom_117 : decode cX4_copyFrom 117 = .ok (.invokestatic 77, 3) := by decide +kernel
theorem dX4_copyFrom_120 : decode cX4_copyFrom 120 = .ok (.aload_n 1, 1) := by decide +kernel
theorem dX4_copyFrom_121 : decode cX4_copyFrom 121 = .ok (.getfield 49, 3) := by decide +kernel
theorem dX4_copyFrom_124 : decode cX4_copyFrom 124 = .ok (.aload_n 0, 1) := by decide +kernel
theorem dX4_copyFrom_125 : decode cX4_copyFrom 125 = .ok (.getfield 49, 3) := by decide +kernel
theorem dX4_copyFrom_128 : decode cX4_copyFrom 128 = .ok (.invokestatic 77, 3) := by decide +kernel
theorem dX4_copyFrom_131 : decode cX4_copyFrom 131 = .ok (.aload_n 1, 1) := by decide +kernel
theorem dX4_copyFrom_132 : decode cX4_copyFrom 132 = .ok (.getfield 52, 3) := by decide +kernel
theorem dX4_copyFrom_135 : decode cX4_copyFrom 135 = .ok (.aload_n 0, 1) := by decide +kernel
theorem dX4_copyFrom_136 : decode cX4_copyFrom 136 = .ok (.getfield 52, 3) := by decide +kernel
theorem dX4_copyFrom_139 : decode cX4_copyFrom 139 = .ok (.invokestatic 77, 3) := by decide +kernel
theorem dX4_copyFrom_142 : decode cX4_copyFrom 142 = .ok (.aload_n 1, 1) := by decide +kernel
theorem dX4_copyFrom_143 : decode cX4_copyFrom 143 = .ok (.getfield 55, 3) := by decide +kernel
theorem dX4_copyFrom_146 : decode cX4_copyFrom 146 = .ok (.aload_n 0, 1) := by decide +kernel
theorem dX4_copyFrom_147 : decode cX4_copyFrom 147 = .ok (.getfield 55, 3) := by decide +kernel
theorem dX4_copyFrom_150 : decode cX4_copyFrom 150 = .ok (.invokestatic 77, 3) := by decide +kernel
theorem dX4_copyFrom_153 : decode cX4_copyFrom 153 = .ok (.aload_n 1, 1) := by decide +kernel
theorem dX4_copyFrom_154 : decode cX4_copyFrom 154 = .ok (.getfield 58, 3) := by decide +kernel
theorem dX4_copyFrom_157 : decode cX4_copyFrom 157 = .ok (.aload_n 0, 1) := by decide +kernel
theorem dX4_copyFrom_158 : decode cX4_copyFrom 158 = .ok (.getfield 58, 3) := by decide +kernel
theorem dX4_copyFrom_161 : decode cX4_copyFrom 161 = .ok (.invokestatic 77, 3) := by decide +kernel
theorem dX4_copyFrom_164 : decode cX4_copyFrom 164 = .ok (.aload_n 1, 1) := by decide +kernel
theorem dX4_copyFrom_165 : decode cX4_copyFrom 165 = .ok (.getfield 61, 3) := by decide +kernel
theorem dX4_copyFrom_168 : decode cX4_copyFrom 168 = .ok (.aload_n 0, 1) := by decide +kernel
theorem dX4_copyFrom_169 : decode cX4_copyFrom 169 = .ok (.getfield 61, 3) := by decide +kernel
theorem dX4_copyFrom_172 : decode cX4_copyFrom 172 = .ok (.invokestatic 77, 3) := by decide +kernel
theorem dX4_copyFrom_175 : decode cX4_copyFrom 175 = .ok (.aload_n 1, 1) := by decide +kernel
theorem dX4_copyFrom_176 : decode cX4_copyFrom 176 = .ok (.getfield 64, 3) := by decide +kernel
theorem dX4_copyFrom_179 : decode cX4_copyFrom 179 = .ok (.aload_n 0, 1) := by decide +kernel
theorem dX4_copyFrom_180 : decode cX4_copyFrom 180 = .ok (.getfield 64, 3) := by decide +kernel
theorem dX4_copyFrom_183 : decode cX4_copyFrom 183 = .ok (.invokestatic 77, 3) := by decide +kernel
theorem dX4_copyFrom_186 : decode cX4_copyFrom 186 = .ok (.aload_n 1, 1) := by decide +kernel
theorem dX4_copyFrom_187 : decode cX4_copyFrom 187 = .ok (.getfield 67, 3) := by decide +kernel
theorem dX4_copyFrom_190 : decode cX4_copyFrom 190 = .ok (.aload_n 0, 1) := by decide +kernel
theorem dX4_copyFrom_191 : decode cX4_copyFrom 191 = .ok (.getfield 67, 3) := by decide +kernel
theorem dX4_copyFrom_194 : decode cX4_copyFrom 194 = .ok (.invokestatic 77, 3) := by decide +kernel
theorem dX4_copyFrom_197 : decode cX4_copyFrom 197 = .ok (.return_, 1) := by decide +kernel
theorem dX4_putTeacher_0 : decode cX4_putTeacher 0 = .ok (.aload_n 0, 1) := by decide +kernel
theorem dX4_putTeacher_1 : decode cX4_putTeacher 1 = .ok (.getfield 9, 3) := by decide +kernel
theorem dX4_putTeacher_4 : decode cX4_putTeacher 4 = .ok (.istore_n 3, 1) := by decide +kernel
theorem dX4_putTeacher_5 : decode cX4_putTeacher 5 = .ok (.aload_n 0, 1) := by decide +kernel
theorem dX4_putTeacher_6 : decode cX4_putTeacher 6 = .ok (.getfield 24, 3) := by decide +kernel
theorem dX4_putTeacher_9 : decode cX4_putTeacher 9 = .ok (.iload_n 3, 1) := by decide +kernel
theorem dX4_putTeacher_10 : decode cX4_putTeacher 10 = .ok (.iload_n 1, 1) := by decide +kernel
theorem dX4_putTeacher_11 : decode cX4_putTeacher 11 = .ok (.invokestatic 81, 3) := by decide +kernel
theorem dX4_putTeacher_14 : decode cX4_putTeacher 14 = .ok (.aload_n 0, 1) := by decide +kernel
theorem dX4_putTeacher_15 : decode cX4_putTeacher 15 = .ok (.getfield 28, 3) := by decide +kernel
theorem dX4_putTeacher_18 : decode cX4_putTeacher 18 = .ok (.iload_n 3, 1) := by decide +kernel
theorem dX4_putTeacher_19 : decode cX4_putTeacher 19 = .ok (.iload_n 2, 1) := by decide +kernel
theorem dX4_putTeacher_20 : decode cX4_putTeacher 20 = .ok (.invokestatic 81, 3) := by decide +kernel
theorem dX4_putTeacher_23 : decode cX4_putTeacher 23 = .ok (.aload_n 0, 1) := by decide +kernel
theorem dX4_putTeacher_24 : decode cX4_putTeacher 24 = .ok (.getfield 31, 3) := by decide +kernel
theorem dX4_putTeacher_27 : decode cX4_putTeacher 27 = .ok (.iload_n 3, 1) := by decide +kernel
theorem dX4_putTeacher_28 : decode cX4_putTeacher 28 = .ok (.iconst 2, 1) := by decide +kernel
theorem dX4_putTeacher_29 : decode cX4_putTeacher 29 = .ok (.invokestatic 81, 3) := by decide +kernel
theorem dX4_putTeacher_32 : decode cX4_putTeacher 32 = .ok (.aload_n 0, 1) := by decide +kernel
theorem dX4_putTeacher_33 : decode cX4_putTeacher 33 = .ok (.getfield 34, 3) := by decide +kernel
theorem dX4_putTeacher_36 : decode cX4_putTeacher 36 = .ok (.iload_n 3, 1) := by decide +kernel
theorem dX4_putTeacher_37 : decode cX4_putTeacher 37 = .ok (.iconst 0, 1) := by decide +kernel
theorem dX4_putTeacher_38 : decode cX4_putTeacher 38 = .ok (.invokestatic 81, 3) := by decide +kernel
theorem dX4_putTeacher_41 : decode cX4_putTeacher 41 = .ok (.aload_n 0, 1) := by decide +kernel
theorem dX4_putTeacher_42 : decode cX4_putTeacher 42 = .ok (.getfield 37, 3) := by decide +kernel
theorem dX4_putTeacher_45 : decode cX4_putTeacher 45 = .ok (.iload_n 3, 1) := by decide +kernel
theorem dX4_putTeacher_46 : decode cX4_putTeacher 46 = .ok (.iconst 0, 1) := by decide +kernel
theorem dX4_putTeacher_47 : decode cX4_putTeacher 47 = .ok (.invokestatic 81, 3) := by decide +kernel
theorem dX4_putTeacher_50 : decode cX4_putTeacher 50 = .ok (.aload_n 0, 1) := by decide +kernel
theorem dX4_putTeacher_51 : decode cX4_putTeacher 51 = .ok (.dup, 1) := by decide +kernel
theorem dX4_putTeacher_52 : decode cX4_putTeacher 52 = .ok (.getfield 9, 3) := by decide +kernel
theorem dX4_putTeacher_55 : decode cX4_putTeacher 55 = .ok (.iconst 1, 1) := by decide +kernel
theorem dX4_putTeacher_56 : decode cX4_putTeacher 56 = .ok (.iadd, 1) := by decide +kernel
theorem dX4_putTeacher_57 : decode cX4_putTeacher 57 = .ok (.putfield 9, 3) := by decide +kernel
theorem dX4_putTeacher_60 : decode cX4_putTeacher 60 = .ok (.iload_n 3, 1) := by decide +kernel
theorem dX4_putTeacher_61 : decode cX4_putTeacher 61 = .ok (.ireturn, 1) := by decide +kernel
theorem dX4_isAbsentIn_0 : decode cX4_isAbsentIn 0 = .ok (.aload_n 0, 1) := by decide +kernel
theorem dX4_isAbsentIn_1 : decode cX4_isAbsentIn 1 = .ok (.getfield 37, 3) := by decide +kernel
theorem dX4_isAbsentIn_4 : decode cX4_isAbsentIn 4 = .ok (.iload_n 1, 1) := by decide +kernel
theorem dX4_isAbsentIn_5 : decode cX4_isAbsentIn 5 = .ok (.invokestatic 85, 3) := by decide +kernel
theorem dX4_isAbsentIn_8 : decode cX4_isAbsentIn 8 = .ok (.iload_n 2, 1) := by decide +kernel
theorem dX4_isAbsentIn_9 : decode cX4_isAbsentIn 9 = .ok (.ishr, 1) := by decide +kernel
theorem dX4_isAbsentIn_10 : decode cX4_isAbsentIn 10 = .ok (.iconst 1, 1) := by decide +kernel
theorem dX4_isAbsentIn_11 : decode cX4_isAbsentIn 11 = .ok (.iand, 1) := by decide +kernel
theorem dX4_isAbsentIn_12 : decode cX4_isAbsentIn 12 = .ok (.ifCond .eq 7, 3) := by decide +kernel
theorem dX4_isAbsentIn_15 : decode cX4_isAbsentIn 15 = .ok (.iconst 1, 1) := by decide +kernel
theorem dX4_isAbsentIn_16 : decode cX4_isAbsentIn 16 = .ok (.goto 4, 3) := by decide +kernel
theorem dX4_isAbsentIn_19 : decode cX4_isAbsentIn 19 = .ok (.iconst 0, 1) := by decide +kernel
theorem dX4_isAbsentIn_20 : decode cX4_isAbsentIn 20 = .ok (.ireturn, 1) := by decide +kernel
theorem dX4_absentPeriods_0 : decode cX4_absentPeriods 0 = .ok (.aload_n 0, 1) := by decide +kernel
theorem dX4_absentPeriods_1 : decode cX4_absentPeriods 1 = .ok (.getfield 37, 3) := by decide +kernel
theorem dX4_absentPeriods_4 : decode cX4_absentPeriods 4 = .ok (.iload_n 1, 1) := by decide +kernel
theorem dX4_absentPeriods_5 : decode cX4_absentPeriods 5 = .ok (.invokestatic 85, 3) := by decide +kernel
theorem dX4_absentPeriods_8 : decode cX4_absentPeriods 8 = .ok (.iload_n 2, 1) := by decide +kernel
theorem dX4_absentPeriods_9 : decode cX4_absentPeriods 9 = .ok (.bipush 6, 2) := by decide +kernel
theorem dX4_absentPeriods_11 : decode cX4_absentPeriods 11 = .ok (.imul, 1) := by decide +kernel
theorem dX4_absentPeriods_12 : decode cX4_absentPeriods 12 = .ok (.ishr, 1) := by decide +kernel
theorem dX4_absentPeriods_13 : decode cX4_absentPeriods 13 = .ok (.bipush 63, 2) := by decide +kernel
theorem dX4_absentPeriods_15 : decode cX4_absentPeriods 15 = .ok (.iand, 1) := by decide +kernel
theorem dX4_absentPeriods_16 : decode cX4_absentPeriods 16 = .ok (.ireturn, 1) := by decide +kernel
theorem dX4_isFreeIn_0 : decode cX4_isFreeIn 0 = .ok (.aload_n 0, 1) := by decide +kernel
theorem dX4_isFreeIn_1 : decode cX4_isFreeIn 1 = .ok (.iload_n 1, 1) := by decide +kernel
theorem dX4_isFreeIn_2 : decode cX4_isFreeIn 2 = .ok (.iload_n 2, 1) := by decide +kernel
theorem dX4_isFreeIn_3 : decode cX4_isFreeIn 3 = .ok (.invokevirtual 89, 3) := by decide +kernel
theorem dX4_isFreeIn_6 : decode cX4_isFreeIn 6 = .ok (.ifCond .ne 35, 3) := by decide +kernel
theorem dX4_isFreeIn_9 : decode cX4_isFreeIn 9 = .ok (.aload_n 0, 1) := by decide +kernel
theorem dX4_isFreeIn_10 : decode cX4_isFreeIn 10 = .ok (.iload_n 2, 1) := by decide +kernel
theorem dX4_isFreeIn_11 : decode cX4_isFreeIn 11 = .ok (.aload_n 0, 1) := by decide +kernel
theorem dX4_isFreeIn_12 : decode cX4_isFreeIn 12 = .ok (.getfield 55, 3) := by decide +kernel
theorem dX4_isFreeIn_15 : decode cX4_isFreeIn 15 = .ok (.iload_n 1, 1) := by decide +kernel
theorem dX4_isFreeIn_16 : decode cX4_isFreeIn 16 = .ok (.invokevirtual 93, 3) := by decide +kernel
theorem dX4_isFreeIn_19 : decode cX4_isFreeIn 19 = .ok (.iconst (-1), 1) := by decide +kernel
theorem dX4_isFreeIn_20 : decode cX4_isFreeIn 20 = .ok (.if_icmp .ne 21, 3) := by decide +kernel
theorem dX4_isFreeIn_23 : decode cX4_isFreeIn 23 = .ok (.aload_n 0, 1) := by decide +kernel
theorem dX4_isFreeIn_24 : decode cX4_isFreeIn 24 = .ok (.iload_n 2, 1) := by decide +kernel
theorem dX4_isFreeIn_25 : decode cX4_isFreeIn 25 = .ok (.aload_n 0, 1) := by decide +kernel
theorem dX4_isFreeIn_26 : decode cX4_isFreeIn 26 = .ok (.getfield 61, 3) := by decide +kernel
theorem dX4_isFreeIn_29 : decode cX4_isFreeIn 29 = .ok (.iload_n 1, 1) := by decide +kernel
theorem dX4_isFreeIn_30 : decode cX4_isFreeIn 30 = .ok (.invokevirtual 93, 3) := by decide +kernel
theorem dX4_isFreeIn_33 : decode cX4_isFreeIn 33 = .ok (.iconst (-1), 1) := by decide +kernel
theorem dX4_isFreeIn_34 : decode cX4_isFreeIn 34 = .ok (.if_icmp .ne 7, 3) := by decide +kernel
theorem dX4_isFreeIn_37 : decode cX4_isFreeIn 37 = .ok (.iconst 1, 1) := by decide +kernel
theorem dX4_isFreeIn_38 : decode cX4_isFreeIn 38 = .ok (.goto 4, 3) := by decide +kernel
theorem dX4_isFreeIn_41 : decode cX4_isFreeIn 41 = .ok (.iconst 0, 1) := by decide +kernel
theorem dX4_isFreeIn_42 : decode cX4_isFreeIn 42 = .ok (.ireturn, 1) := by decide +kernel
theorem dX4_freePeriods_0 : decode cX4_freePeriods 0 = .ok (.iconst 0, 1) := by decide +kernel
theorem dX4_freePeriods_1 : decode cX4_freePeriods 1 = .ok (.istore_n 3, 1) := by decide +kernel
theorem dX4_freePeriods_2 : decode cX4_freePeriods 2 = .ok (.iconst 0, 1) := by decide +kernel
theorem dX4_freePeriods_3 : decode cX4_freePeriods 3 = .ok (.istore 4, 2) := by decide +kernel
theorem dX4_freePeriods_5 : decode cX4_freePeriods 5 = .ok (.iload 4, 2) := by decide +kernel
theorem dX4_freePeriods_7 : decode cX4_freePeriods 7 = .ok (.bipush 6, 2) := by decide +kernel
theorem dX4_freePeriods_9 : decode cX4_freePeriods 9 = .ok (.if_icmp .ge 31, 3) := by decide +kernel
theorem dX4_freePeriods_12 : decode cX4_freePeriods 12 = .ok (.aload_n 0, 1) := by decide +kernel
theorem dX4_freePeriods_13 : decode cX4_freePeriods 13 = .ok (.iload_n 1, 1) := by decide +kernel
theorem dX4_freePeriods_14 : decode cX4_freePeriods 14 = .ok (.iload_n 2, 1) := by decide +kernel
theorem dX4_freePeriods_15 : decode cX4_freePeriods 15 = .ok (.bipush 6, 2) := by decide +kernel
theorem dX4_freePeriods_17 : decode cX4_freePeriods 17 = .ok (.imul, 1) := by decide +kernel
theorem dX4_freePeriods_18 : decode cX4_freePeriods 18 = .ok (.iload 4, 2) := by decide +kernel
theorem dX4_freePeriods_20 : decode cX4_freePeriods 20 = .ok (.iadd, 1) := by decide +kernel
theorem dX4_freePeriods_21 : decode cX4_freePeriods 21 = .ok (.invokevirtual 97, 3) := by decide +kernel
theorem dX4_freePeriods_24 : decode cX4_freePeriods 24 = .ok (.ifCond .eq 10, 3) := by decide +kernel
theorem dX4_freePeriods_27 : decode cX4_freePeriods 27 = .ok (.iload_n 3, 1) := by decide +kernel
theorem dX4_freePeriods_28 : decode cX4_freePeriods 28 = .ok (.iconst 1, 1) := by decide +kernel
theorem dX4_freePeriods_29 : decode cX4_freePeriods 29 = .ok (.iload 4, 2) := by decide +kernel
theorem dX4_freePeriods_31 : decode cX4_freePeriods 31 = .ok (.ishl, 1) := by decide +kernel
theorem dX4_freePeriods_32 : decode cX4_freePeriods 32 = .ok (.ior, 1) := by decide +kernel
theorem dX4_freePeriods_33 : decode cX4_freePeriods 33 = .ok (.istore_n 3, 1) := by decide +kernel
theorem dX4_freePeriods_34 : decode cX4_freePeriods 34 = .ok (.iinc 4 1, 3) := by decide +kernel
theorem dX4_freePeriods_37 : decode cX4_freePeriods 37 = .ok (.goto (-32), 3) := by decide +kernel
theorem dX4_freePeriods_40 : decode cX4_freePeriods 40 = .ok (.iload_n 3, 1) := by decide +kernel
theorem dX4_freePeriods_41 : decode cX4_freePeriods 41 = .ok (.ireturn, 1) := by decide +kernel
theorem dX4_hasSubject_0 : decode cX4_hasSubject 0 = .ok (.aload_n 0, 1) := by decide +kernel
theorem dX4_hasSubject_1 : decode cX4_hasSubject 1 = .ok (.getfield 24, 3) := by decide +kernel
theorem dX4_hasSubject_4 : decode cX4_hasSubject 4 = .ok (.iload_n 1, 1) := by decide +kernel
theorem dX4_hasSubject_5 : decode cX4_hasSubject 5 = .ok (.invokestatic 85, 3) := by decide +kernel
theorem dX4_hasSubject_8 : decode cX4_hasSubject 8 = .ok (.iload_n 2, 1) := by decide +kernel
theorem dX4_hasSubject_9 : decode cX4_hasSubject 9 = .ok (.ishr, 1) := by decide +kernel
theorem dX4_hasSubject_10 : decode cX4_hasSubject 10 = .ok (.iconst 1, 1) := by decide +kernel
theorem dX4_hasSubject_11 : decode cX4_hasSubject 11 = .ok (.iand, 1) := by decide +kernel
theorem dX4_hasSubject_12 : decode cX4_hasSubject 12 = .ok (.ifCond .eq 7, 3) := by decide +kernel
theorem dX4_hasSubject_15 : decode cX4_hasSubject 15 = .ok (.iconst 1, 1) := by decide +kernel
theorem dX4_hasSubject_16 : decode cX4_hasSubject 16 = .ok (.goto 4, 3) := by decide +kernel
theorem dX4_hasSubject_19 : decode cX4_hasSubject 19 = .ok (.iconst 0, 1) := by decide +kernel
theorem dX4_hasSubject_20 : decode cX4_hasSubject 20 = .ok (.ireturn, 1) := by decide +kernel
theorem dX4_ownLessons_0 : decode cX4_ownLessons 0 = .ok (.iconst 0, 1) := by decide +kernel
theorem dX4_ownLessons_1 : decode cX4_ownLessons 1 = .ok (.istore_n 2, 1) := by decide +kernel
theorem dX4_ownLessons_2 : decode cX4_ownLessons 2 = .ok (.iconst 0, 1) := by decide +kernel
theorem dX4_ownLessons_3 : decode cX4_ownLessons 3 = .ok (.istore_n 3, 1) := by decide +kernel
theorem dX4_ownLessons_4 : decode cX4_ownLessons 4 = .ok (.iload_n 3, 1) := by decide +kernel
theorem dX4_ownLessons_5 : decode cX4_ownLessons 5 = .ok (.aload_n 0, 1) := by decide +kernel
theorem dX4_ownLessons_6 : decode cX4_ownLessons 6 = .ok (.getfield 15, 3) := by decide +kernel
theorem dX4_ownLessons_9 : decode cX4_ownLessons 9 = .ok (.if_icmp .ge 24, 3) := by decide +kernel
theorem dX4_ownLessons_12 : decode cX4_ownLessons 12 = .ok (.aload_n 0, 1) := by decide +kernel
theorem dX4_ownLessons_13 : decode cX4_ownLessons 13 = .ok (.getfield 55, 3) := by decide +kernel
theorem dX4_ownLessons_16 : decode cX4_ownLessons 16 = .ok (.iload_n 3, 1) := by decide +kernel
theorem dX4_ownLessons_17 : decode cX4_ownLessons 17 = .ok (.invokestatic 85, 3) := by decide +kernel
theorem dX4_ownLessons_20 : decode cX4_ownLessons 20 = .ok (.iload_n 1, 1) := by decide +kernel
theorem dX4_ownLessons_21 : decode cX4_ownLessons 21 = .ok (.if_icmp .ne 6, 3) := by decide +kernel
theorem dX4_ownLessons_24 : decode cX4_ownLessons 24 = .ok (.iinc 2 1, 3) := by decide +kernel
theorem dX4_ownLessons_27 : decode cX4_ownLessons 27 = .ok (.iinc 3 1, 3) := by decide +kernel
theorem dX4_ownLessons_30 : decode cX4_ownLessons 30 = .ok (.goto (-26), 3) := by decide +kernel
theorem dX4_ownLessons_33 : decode cX4_ownLessons 33 = .ok (.iload_n 2, 1) := by decide +kernel
theorem dX4_ownLessons_34 : decode cX4_ownLessons 34 = .ok (.ireturn, 1) := by decide +kernel
theorem dX4_untaughtLessons_0 : decode cX4_untaughtLessons 0 = .ok (.iconst 0, 1) := by decide +kernel
theorem dX4_untaughtLessons_1 : decode cX4_untaughtLessons 1 = .ok (.istore_n 2, 1) := by decide +kernel
theorem dX4_untaughtLessons_2 : decode cX4_untaughtLessons 2 = .ok (.iconst 0, 1) := by decide +kernel
theorem dX4_untaughtLessons_3 : decode cX4_untaughtLessons 3 = .ok (.istore_n 3, 1) := by decide +kernel
theorem dX4_untaughtLessons_4 : decode cX4_untaughtLessons 4 = .ok (.iload_n 3, 1) := by decide +kernel
theorem dX4_untaughtLessons_5 : decode cX4_untaughtLessons 5 = .ok (.aload_n 0, 1) := by decide +kernel
theorem dX4_untaughtLessons_6 : decode cX4_untaughtLessons 6 = .ok (.getfield 15, 3) := by decide +kernel
theorem dX4_untaughtLessons_9 : decode cX4_untaughtLessons 9 = .ok (.if_icmp .ge 32, 3) := by decide +kernel
theorem dX4_untaughtLessons_12 : decode cX4_untaughtLessons 12 = .ok (.aload_n 0, 1) := by decide +kernel
theorem dX4_untaughtLessons_13 : decode cX4_untaughtLessons 13 = .ok (.getfield 55, 3) := by decide +kernel
theorem dX4_untaughtLessons_16 : decode cX4_untaughtLessons 16 = .ok (.iload_n 3, 1) := by decide +kernel
theorem dX4_untaughtLessons_17 : decode cX4_untaughtLessons 17 = .ok (.invokestatic 85, 3) := by decide +kernel
theorem dX4_untaughtLessons_20 : decode cX4_untaughtLessons 20 = .ok (.iload_n 1, 1) := by decide +kernel
theorem dX4_untaughtLessons_21 : decode cX4_untaughtLessons 21 = .ok (.if_icmp .ne 14, 3) := by decide +kernel
theorem dX4_untaughtLessons_24 : decode cX4_untaughtLessons 24 = .ok (.aload_n 0, 1) := by decide +kernel
theorem dX4_untaughtLessons_25 : decode cX4_untaughtLessons 25 = .ok (.iload_n 3, 1) := by decide +kernel
theorem dX4_untaughtLessons_26 : decode cX4_untaughtLessons 26 = .ok (.invokevirtual 100, 3) := by decide +kernel
theorem dX4_untaughtLessons_29 : decode cX4_untaughtLessons 29 = .ok (.ifCond .eq 6, 3) := by decide +kernel
theorem dX4_untaughtLessons_32 : decode cX4_untaughtLessons 32 = .ok (.iinc 2 1, 3) := by decide +kernel
theorem dX4_untaughtLessons_35 : decode cX4_untaughtLessons 35 = .ok (.iinc 3 1, 3) := by decide +kernel
theorem dX4_untaughtLessons_38 : decode cX4_untaughtLessons 38 = .ok (.goto (-34), 3) := by decide +kernel
theorem dX4_untaughtLessons_41 : decode cX4_untaughtLessons 41 = .ok (.iload_n 2, 1) := by decide +kernel
theorem dX4_untaughtLessons_42 : decode cX4_untaughtLessons 42 = .ok (.ireturn, 1) := by decide +kernel
theorem dX4_coversOf_0 : decode cX4_coversOf 0 = .ok (.iconst 0, 1) := by decide +kernel
theorem dX4_coversOf_1 : decode cX4_coversOf 1 = .ok (.istore_n 2, 1) := by decide +kernel
theorem dX4_coversOf_2 : decode cX4_coversOf 2 = .ok (.iconst 0, 1) := by decide +kernel
theorem dX4_coversOf_3 : decode cX4_coversOf 3 = .ok (.istore_n 3, 1) := by decide +kernel
theorem dX4_coversOf_4 : decode cX4_coversOf 4 = .ok (.iload_n 3, 1) := by decide +kernel
theorem dX4_coversOf_5 : decode cX4_coversOf 5 = .ok (.iconst 5, 1) := by decide +kernel
theorem dX4_coversOf_6 : decode cX4_coversOf 6 = .ok (.if_icmp .ge 18, 3) := by decide +kernel
theorem dX4_coversOf_9 : decode cX4_coversOf 9 = .ok (.iload_n 2, 1) := by decide +kernel
theorem dX4_coversOf_10 : decode cX4_coversOf 10 = .ok (.aload_n 0, 1) := by decide +kernel
theorem dX4_coversOf_11 : decode cX4_coversOf 11 = .ok (.iload_n 1, 1) := by decide +kernel
theorem dX4_coversOf_12 : decode cX4_coversOf 12 = .ok (.iload_n 3, 1) := by decide +kernel
theorem dX4_coversOf_13 : decode cX4_coversOf 13 = .ok (.invokevirtual 104, 3) := by decide +kernel
theorem dX4_coversOf_16 : decode cX4_coversOf 16 = .ok (.iadd, 1) := by decide +kernel
theorem dX4_coversOf_17 : decode cX4_coversOf 17 = .ok (.istore_n 2, 1) := by decide +kernel
theorem dX4_coversOf_18 : decode cX4_coversOf 18 = .ok (.iinc 3 1, 3) := by decide +kernel
theorem dX4_coversOf_21 : decode cX4_coversOf 21 = .ok (.goto (-17), 3) := by decide +kernel
theorem dX4_coversOf_24 : decode cX4_coversOf 24 = .ok (.iload_n 2, 1) := by decide +kernel
theorem dX4_coversOf_25 : decode cX4_coversOf 25 = .ok (.ireturn, 1) := by decide +kernel
theorem dX4_coversOn_0 : decode cX4_coversOn 0 = .ok (.iconst 0, 1) := by decide +kernel
theorem dX4_coversOn_1 : decode cX4_coversOn 1 = .ok (.istore_n 3, 1) := by decide +kernel
theorem dX4_coversOn_2 : decode cX4_coversOn 2 = .ok (.iconst 0, 1) := by decide +kernel
theorem dX4_coversOn_3 : decode cX4_coversOn 3 = .ok (.istore 4, 2) := by decide +kernel
theorem dX4_coversOn_5 : decode cX4_coversOn 5 = .ok (.iload 4, 2) := by decide +kernel
theorem dX4_coversOn_7 : decode cX4_coversOn 7 = .ok (.aload_n 0, 1) := by decide +kernel
theorem dX4_coversOn_8 : decode cX4_coversOn 8 = .ok (.getfield 15, 3) := by decide +kernel
theorem dX4_coversOn_11 : decode cX4_coversOn 11 = .ok (.if_icmp .ge 35, 3) := by decide +kernel
theorem dX4_coversOn_14 : decode cX4_coversOn 14 = .ok (.aload_n 0, 1) := by decide +kernel
theorem dX4_coversOn_15 : decode cX4_coversOn 15 = .ok (.getfield 61, 3) := by decide +kernel
theorem dX4_coversOn_18 : decode cX4_coversOn 18 = .ok (.iload 4, 2) := by decide +kernel
theorem dX4_coversOn_20 : decode cX4_coversOn 20 = .ok (.invokestatic 85, 3) := by decide +kernel
theorem dX4_coversOn_23 : decode cX4_coversOn 23 = .ok (.iload_n 1, 1) := by decide +kernel
theorem dX4_coversOn_24 : decode cX4_coversOn 24 = .ok (.if_icmp .ne 16, 3) := by decide +kernel
theorem dX4_coversOn_27 : decode cX4_coversOn 27 = .ok (.aload_n 0, 1) := by decide +kernel
theorem dX4_coversOn_28 : decode cX4_coversOn 28 = .ok (.iload 4, 2) := by decide +kernel
theorem dX4_coversOn_30 : decode cX4_coversOn 30 = .ok (.invokevirtual 108, 3) := by decide +kernel
theorem dX4_coversOn_33 : decode cX4_coversOn 33 = .ok (.iload_n 2, 1) := by decide +kernel
theorem dX4_coversOn_34 : decode cX4_coversOn 34 = .ok (.if_icmp .ne 6, 3) := by decide +kernel
theorem dX4_coversOn_37 : decode cX4_coversOn 37 = .ok (.iinc 3 1, 3) := by decide +kernel
theorem dX4_coversOn_40 : decode cX4_coversOn 40 = .ok (.iinc 4 1, 3) := by decide +kernel
theorem dX4_coversOn_43 : decode cX4_coversOn 43 = .ok (.goto (-38), 3) := by decide +kernel
theorem dX4_coversOn_46 : decode cX4_coversOn 46 = .ok (.iload_n 3, 1) := by decide +kernel
theorem dX4_coversOn_47 : decode cX4_coversOn 47 = .ok (.ireturn, 1) := by decide +kernel
theorem dX4_addPoints_0 : decode cX4_addPoints 0 = .ok (.aload_n 0, 1) := by decide +kernel
theorem dX4_addPoints_1 : decode cX4_addPoints 1 = .ok (.getfield 34, 3) := by decide +kernel
theorem dX4_addPoints_4 : decode cX4_addPoints 4 = .ok (.iload_n 1, 1) := by decide +kernel
theorem dX4_addPoints_5 : decode cX4_addPoints 5 = .ok (.aload_n 0, 1) := by decide +kernel
theorem dX4_addPoints_6 : decode cX4_addPoints 6 = .ok (.getfield 34, 3) := by decide +kernel
theorem dX4_addPoints_9 : decode cX4_addPoints 9 = .ok (.iload_n 1, 1) := by decide +kernel
theorem dX4_addPoints_10 : decode cX4_addPoints 10 = .ok (.invokestatic 85, 3) := by decide +kernel
theorem dX4_addPoints_13 : decode cX4_addPoints 13 = .ok (.iload_n 2, 1) := by decide +kernel
theorem dX4_addPoints_14 : decode cX4_addPoints 14 = .ok (.iadd, 1) := by decide +kernel
theorem dX4_addPoints_15 : decode cX4_addPoints 15 = .ok (.invokestatic 81, 3) := by decide +kernel
theorem dX4_addPoints_18 : decode cX4_addPoints 18 = .ok (.return_, 1) := by decide +kernel
theorem dX4_shareFor_0 : decode cX4_shareFor 0 = .ok (.aload_n 0, 1) := by decide +kernel
theorem dX4_shareFor_1 : decode cX4_shareFor 1 = .ok (.getfield 28, 3) := by decide +kernel
theorem dX4_shareFor_4 : decode cX4_shareFor 4 = .ok (.iload_n 1, 1) := by decide +kernel
theorem dX4_shareFor_5 : decode cX4_shareFor 5 = .ok (.invokestatic 85, 3) := by decide +kernel
theorem dX4_shareFor_8 : decode cX4_shareFor 8 = .ok (.istore_n 3, 1) := by decide +kernel
theorem dX4_shareFor_9 : decode cX4_shareFor 9 = .ok (.iload_n 3, 1) := by decide +kernel
theorem dX4_shareFor_10 : decode cX4_shareFor 10 = .ok (.iconst 1, 1) := by decide +kernel
theorem dX4_shareFor_11 : decode cX4_shareFor 11 = .ok (.if_icmp .ge 7, 3) := by decide +kernel
theorem dX4_shareFor_14 : decode cX4_shareFor 14 = .ok (.iconst 0, 1) := by decide +kernel
theorem dX4_shareFor_15 : decode cX4_shareFor 15 = .ok (.goto 9, 3) := by decide +kernel
theorem dX4_shareFor_18 : decode cX4_shareFor 18 = .ok (.bipush 12, 2) := by decide +kernel
theorem dX4_shareFor_20 : decode cX4_shareFor 20 = .ok (.iload_n 2, 1) := by decide +kernel
theorem dX4_shareFor_21 : decode cX4_shareFor 21 = .ok (.imul, 1) := by decide +kernel
theorem dX4_shareFor_22 : decode cX4_shareFor 22 = .ok (.iload_n 3, 1) := by decide +kernel
theorem dX4_shareFor_23 : decode cX4_shareFor 23 = .ok (.idiv, 1) := by decide +kernel
theorem dX4_shareFor_24 : decode cX4_shareFor 24 = .ok (.ireturn, 1) := by decide +kernel
theorem dX4_shareOf_0 : decode cX4_shareOf 0 = .ok (.aload_n 0, 1) := by decide +kernel
theorem dX4_shareOf_1 : decode cX4_shareOf 1 = .ok (.iload_n 1, 1) := by decide +kernel
theorem dX4_shareOf_2 : decode cX4_shareOf 2 = .ok (.aload_n 0, 1) := by decide +kernel
theorem dX4_shareOf_3 : decode cX4_shareOf 3 = .ok (.getfield 34, 3) := by decide +kernel
theorem dX4_shareOf_6 : decode cX4_shareOf 6 = .ok (.iload_n 1, 1) := by decide +kernel
theorem dX4_shareOf_7 : decode cX4_shareOf 7 = .ok (.invokestatic 85, 3) := by decide +kernel
theorem dX4_shareOf_10 : decode cX4_shareOf 10 = .ok (.invokevirtual 111, 3) := by decide +kernel
theorem dX4_shareOf_13 : decode cX4_shareOf 13 = .ok (.ireturn, 1) := by decide +kernel
theorem dX4_extremeTeacher_0 : decode cX4_extremeTeacher 0 = .ok (.iconst 0, 1) := by decide +kernel
theorem dX4_extremeTeacher_1 : decode cX4_extremeTeacher 1 = .ok (.istore_n 2, 1) := by decide +kernel
theorem dX4_extremeTeacher_2 : decode cX4_extremeTeacher 2 = .ok (.iconst 1, 1) := by decide +kernel
theorem dX4_extremeTeacher_3 : decode cX4_extremeTeacher 3 = .ok (.istore_n 3, 1) := by decide +kernel
theorem dX4_extremeTeacher_4 : decode cX4_extremeTeacher 4 = .ok (.iload_n 3, 1) := by decide +kernel
theorem dX4_extremeTeacher_5 : decode cX4_extremeTeacher 5 = .ok (.aload_n 0, 1) := by decide +kernel
theorem dX4_extremeTeacher_6 : decode cX4_extremeTeacher 6 = .ok (.getfield 9, 3) := by decide +kernel
theorem dX4_extremeTeacher_9 : decode cX4_extremeTeacher 9 = .ok (.if_icmp .ge 41, 3) := by decide +kernel
theorem dX4_extremeTeacher_12 : decode cX4_extremeTeacher 12 = .ok (.aload_n 0, 1) := by decide +kernel
theorem dX4_extremeTeacher_13 : decode cX4_extremeTeacher 13 = .ok (.iload_n 3, 1) := by decide +kernel
theorem dX4_extremeTeacher_14 : decode cX4_extremeTeacher 14 = .ok (.invokevirtual 114, 3) := by decide +kernel
theorem dX4_extremeTeacher_17 : decode cX4_extremeTeacher 17 = .ok (.aload_n 0, 1) := by decide +kernel
theorem dX4_extremeTeacher_18 : decode cX4_extremeTeacher 18 = .ok (.iload_n 2, 1) := by decide +kernel
theorem dX4_extremeTeacher_19 : decode cX4_extremeTeacher 19 = .ok (.invokevirtual 114, 3) := by decide +kernel
theorem dX4_extremeTeacher_22 : decode cX4_extremeTeacher 22 = .ok (.isub, 1) := by decide +kernel
theorem dX4_extremeTeacher_23 : decode cX4_extremeTeacher 23 = .ok (.istore 4, 2) := by decide +kernel
theorem dX4_extremeTeacher_25 : decode cX4_extremeTeacher 25 = .ok (.iload_n 1, 1) := by decide +kernel
theorem dX4_extremeTeacher_26 : decode cX4_extremeTeacher 26 = .ok (.ifCond .eq 11, 3) := by decide +kernel
theorem dX4_extremeTeacher_29 : decode cX4_extremeTeacher 29 = .ok (.iload 4, 2) := by decide +kernel
theorem dX4_extremeTeacher_31 : decode cX4_extremeTeacher 31 = .ok (.ifCond .le 13, 3) := by decide +kernel
theorem dX4_extremeTeacher_34 : decode cX4_extremeTeacher 34 = .ok (.goto 8, 3) := by decide +kernel
theorem dX4_extremeTeacher_37 : decode cX4_extremeTeacher 37 = .ok (.iload 4, 2) := by decide +kernel
theorem dX4_extremeTeacher_39 : decode cX4_extremeTeacher 39 = .ok (.ifCond .ge 5, 3) := by decide +kernel
theorem dX4_extremeTeacher_42 : decode cX4_extremeTeacher 42 = .ok (.iload_n 3, 1) := by decide +kernel
theorem dX4_extremeTeacher_43 : decode cX4_extremeTeacher 43 = .ok (.istore_n 2, 1) := by decide +kernel
theorem dX4_extremeTeacher_44 : decode cX4_extremeTeacher 44 = .ok (.iinc 3 1, 3) := by decide +kernel
theorem dX4_extremeTeacher_47 : decode cX4_extremeTeacher 47 = .ok (.goto (-43), 3) := by decide +kernel
theorem dX4_extremeTeacher_50 : decode cX4_extremeTeacher 50 = .ok (.iload_n 2, 1) := by decide +kernel
theorem dX4_extremeTeacher_51 : decode cX4_extremeTeacher 51 = .ok (.ireturn, 1) := by decide +kernel
theorem dX4_pointsOfAll_0 : decode cX4_pointsOfAll 0 = .ok (.iconst 0, 1) := by decide +kernel
theorem dX4_pointsOfAll_1 : decode cX4_pointsOfAll 1 = .ok (.istore_n 2, 1) := by decide +kernel
theorem dX4_pointsOfAll_2 : decode cX4_pointsOfAll 2 = .ok (.iconst 0, 1) := by decide +kernel
theorem dX4_pointsOfAll_3 : decode cX4_pointsOfAll 3 = .ok (.istore_n 3, 1) := by decide +kernel
theorem dX4_pointsOfAll_4 : decode cX4_pointsOfAll 4 = .ok (.iload_n 3, 1) := by decide +kernel
theorem dX4_pointsOfAll_5 : decode cX4_pointsOfAll 5 = .ok (.aload_n 0, 1) := by decide +kernel
theorem dX4_pointsOfAll_6 : decode cX4_pointsOfAll 6 = .ok (.getfield 9, 3) := by decide +kernel
theorem dX4_pointsOfAll_9 : decode cX4_pointsOfAll 9 = .ok (.if_icmp .ge 28, 3) := by decide +kernel
theorem dX4_pointsOfAll_12 : decode cX4_pointsOfAll 12 = .ok (.iload_n 1, 1) := by decide +kernel
theorem dX4_pointsOfAll_13 : decode cX4_pointsOfAll 13 = .ok (.iload_n 3, 1) := by decide +kernel
theorem dX4_pointsOfAll_14 : decode cX4_pointsOfAll 14 = .ok (.ishr, 1) := by decide +kernel
theorem dX4_pointsOfAll_15 : decode cX4_pointsOfAll 15 = .ok (.iconst 1, 1) := by decide +kernel
theorem dX4_pointsOfAll_16 : decode cX4_pointsOfAll 16 = .ok (.iand, 1) := by decide +kernel
theorem dX4_pointsOfAll_17 : decode cX4_pointsOfAll 17 = .ok (.ifCond .eq 14, 3) := by decide +kernel
theorem dX4_pointsOfAll_20 : decode cX4_pointsOfAll 20 = .ok (.iload_n 2, 1) := by decide +kernel
theorem dX4_pointsOfAll_21 : decode cX4_pointsOfAll 21 = .ok (.aload_n 0, 1) := by decide +kernel
theorem dX4_pointsOfAll_22 : decode cX4_pointsOfAll 22 = .ok (.getfield 34, 3) := by decide +kernel
theorem dX4_pointsOfAll_25 : decode cX4_pointsOfAll 25 = .ok (.iload_n 3, 1) := by decide +kernel
theorem dX4_pointsOfAll_26 : decode cX4_pointsOfAll 26 = .ok (.invokestatic 85, 3) := by decide +kernel
theorem dX4_pointsOfAll_29 : decode cX4_pointsOfAll 29 = .ok (.iadd, 1) := by decide +kernel
theorem dX4_pointsOfAll_30 : decode cX4_pointsOfAll 30 = .ok (.istore_n 2, 1) := by decide +kernel
theorem dX4_pointsOfAll_31 : decode cX4_pointsOfAll 31 = .ok (.iinc 3 1, 3) := by decide +kernel
theorem dX4_pointsOfAll_34 : decode cX4_pointsOfAll 34 = .ok (.goto (-30), 3) := by decide +kernel
theorem dX4_pointsOfAll_37 : decode cX4_pointsOfAll 37 = .ok (.iload_n 2, 1) := by decide +kernel
theorem dX4_pointsOfAll_38 : decode cX4_pointsOfAll 38 = .ok (.ireturn, 1) := by decide +kernel
theorem dX4_pointsFor_0 : decode cX4_pointsFor 0 = .ok (.aload_n 0, 1) := by decide +kernel
theorem dX4_pointsFor_1 : decode cX4_pointsFor 1 = .ok (.getfield 46, 3) := by decide +kernel
theorem dX4_pointsFor_4 : decode cX4_pointsFor 4 = .ok (.iload_n 1, 1) := by decide +kernel
theorem dX4_pointsFor_5 : decode cX4_pointsFor 5 = .ok (.invokestatic 85, 3) := by decide +kernel
theorem dX4_pointsFor_8 : decode cX4_pointsFor 8 = .ok (.bipush 6, 2) := by decide +kernel
theorem dX4_pointsFor_10 : decode cX4_pointsFor 10 = .ok (.irem, 1) := by decide +kernel
theorem dX4_pointsFor_11 : decode cX4_pointsFor 11 = .ok (.istore_n 3, 1) := by decide +kernel
theorem dX4_pointsFor_12 : decode cX4_pointsFor 12 = .ok (.iload_n 3, 1) := by decide +kernel
theorem dX4_pointsFor_13 : decode cX4_pointsFor 13 = .ok (.iconst 3, 1) := by decide +kernel
theorem dX4_pointsFor_14 : decode cX4_pointsFor 14 = .ok (.if_icmp .ge 7, 3) := by decide +kernel
theorem dX4_pointsFor_17 : decode cX4_pointsFor 17 = .ok (.iconst 2, 1) := by decide +kernel
theorem dX4_pointsFor_18 : decode cX4_pointsFor 18 = .ok (.goto 13, 3) := by decide +kernel
theorem dX4_pointsFor_21 : decode cX4_pointsFor 21 = .ok (.iload_n 3, 1) := by decide +kernel
theorem dX4_pointsFor_22 : decode cX4_pointsFor 22 = .ok (.iconst 5, 1) := by decide +kernel
theorem dX4_pointsFor_23 : decode cX4_pointsFor 23 = .ok (.if_icmp .ge 7, 3) := by decide +kernel
theorem dX4_pointsFor_26 : decode cX4_pointsFor 26 = .ok (.iconst 3, 1) := by decide +kernel
theorem dX4_pointsFor_27 : decode cX4_pointsFor 27 = .ok (.goto 4, 3) := by decide +kernel
theorem dX4_pointsFor_30 : decode cX4_pointsFor 30 = .ok (.iconst 4, 1) := by decide +kernel
theorem dX4_pointsFor_31 : decode cX4_pointsFor 31 = .ok (.istore 4, 2) := by decide +kernel
theorem dX4_pointsFor_33 : decode cX4_pointsFor 33 = .ok (.aload_n 0, 1) := by decide +kernel
theorem dX4_pointsFor_34 : decode cX4_pointsFor 34 = .ok (.iload_n 2, 1) := by decide +kernel
theorem dX4_pointsFor_35 : decode cX4_pointsFor 35 = .ok (.aload_n 0, 1) := by decide +kernel
theorem dX4_pointsFor_36 : decode cX4_pointsFor 36 = .ok (.getfield 52, 3) := by decide +kernel
theorem dX4_pointsFor_39 : decode cX4_pointsFor 39 = .ok (.iload_n 1, 1) := by decide +kernel
theorem dX4_pointsFor_40 : decode cX4_pointsFor 40 = .ok (.invokestatic 85, 3) := by decide +kernel
theorem dX4_pointsFor_43 : decode cX4_pointsFor 43 = .ok (.invokevirtual 117, 3) := by decide +kernel
theorem dX4_pointsFor_46 : decode cX4_pointsFor 46 = .ok (.ifCond .eq 8, 3) := by decide +kernel
theorem dX4_pointsFor_49 : decode cX4_pointsFor 49 = .ok (.iload 4, 2) := by decide +kernel
theorem dX4_pointsFor_51 : decode cX4_pointsFor 51 = .ok (.goto 7, 3) := by decide +kernel
theorem dX4_pointsFor_54 : decode cX4_pointsFor 54 = .ok (.iload 4, 2) := by decide +kernel
theorem dX4_pointsFor_56 : decode cX4_pointsFor 56 = .ok (.iconst 2, 1) := by decide +kernel
theorem dX4_pointsFor_57 : decode cX4_pointsFor 57 = .ok (.iadd, 1) := by decide +kernel
theorem dX4_pointsFor_58 : decode cX4_pointsFor 58 = .ok (.ireturn, 1) := by decide +kernel
theorem dX4_pointsFoundAnew_0 : decode cX4_pointsFoundAnew 0 = .ok (.iconst 0, 1) := by decide +kernel
theorem dX4_pointsFoundAnew_1 : decode cX4_pointsFoundAnew 1 = .ok (.istore_n 2, 1) := by decide +kernel
theorem dX4_pointsFoundAnew_2 : decode cX4_pointsFoundAnew 2 = .ok (.iconst 0, 1) := by decide +kernel
theorem dX4_pointsFoundAnew_3 : decode cX4_pointsFoundAnew 3 = .ok (.istore_n 3, 1) := by decide +kernel
theorem dX4_pointsFoundAnew_4 : decode cX4_pointsFoundAnew 4 = .ok (.iload_n 3, 1) := by decide +kernel
theorem dX4_pointsFoundAnew_5 : decode cX4_pointsFoundAnew 5 = .ok (.aload_n 0, 1) := by decide +kernel
theorem dX4_pointsFoundAnew_6 : decode cX4_pointsFoundAnew 6 = .ok (.getfield 15, 3) := by decide +kernel
theorem dX4_pointsFoundAnew_9 : decode cX4_pointsFoundAnew 9 = .ok (.if_icmp .ge 97, 3) := by decide +kernel
theorem dX4_pointsFoundAnew_12 : decode cX4_pointsFoundAnew 12 = .ok (.aload_n 0, 1) := by decide +kernel
theorem dX4_pointsFoundAnew_13 : decode cX4_pointsFoundAnew 13 = .ok (.iload_n 3, 1) := by decide +kernel
theorem dX4_pointsFoundAnew_14 : decode cX4_pointsFoundAnew 14 = .ok (.invokevirtual 100, 3) := by decide +kernel
theorem dX4_pointsFoundAnew_17 : decode cX4_pointsFoundAnew 17 = .ok (.istore 4, 2) := by decide +kernel
theorem dX4_pointsFoundAnew_19 : decode cX4_pointsFoundAnew 19 = .ok (.iload 4, 2) := by decide +kernel
theorem dX4_pointsFoundAnew_21 : decode cX4_pointsFoundAnew 21 = .ok (.iconst 1, 1) := by decide +kernel
theorem dX4_pointsFoundAnew_22 : decode cX4_pointsFoundAnew 22 = .ok (.if_icmp .ne 24, 3) := by decide +kernel
theorem dX4_pointsFoundAnew_25 : decode cX4_pointsFoundAnew 25 = .ok (.aload_n 0, 1) := by decide +kernel
theorem dX4_pointsFoundAnew_26 : decode cX4_pointsFoundAnew 26 = .ok (.getfield 61, 3) := by decide +kernel
theorem dX4_pointsFoundAnew_29 : decode cX4_pointsFoundAnew 29 = .ok (.iload_n 3, 1) := by decide +kernel
theorem dX4_pointsFoundAnew_30 : decode cX4_pointsFoundAnew 30 = .ok (.invokestatic 85, 3) := by decide +kernel
theorem dX4_pointsFoundAnew_33 : decode cX4_pointsFoundAnew 33 = .ok (.iload_n 1, 1) := by decide +kernel
theorem dX4_pointsFoundAnew_34 : decode cX4_pointsFoundAnew 34 = .ok (.if_icmp .ne 12, 3) := by decide +kernel
theorem dX4_pointsFoundAnew_37 : decode cX4_pointsFoundAnew 37 = .ok (.iload_n 2, 1) := by decide +kernel
theorem dX4_pointsFoundAnew_38 : decode cX4_pointsFoundAnew 38 = .ok (.aload_n 0, 1) := by decide +kernel
theorem dX4_pointsFoundAnew_39 : decode cX4_pointsFoundAnew 39 = .ok (.iload_n 3, 1) := by decide +kernel
theorem dX4_pointsFoundAnew_40 : decode cX4_pointsFoundAnew 40 = .ok (.iload_n 1, 1) := by decide +kernel
theorem dX4_pointsFoundAnew_41 : decode cX4_pointsFoundAnew 41 = .ok (.invokevirtual 120, 3) := by decide +kernel
theorem dX4_pointsFoundAnew_44 : decode cX4_pointsFoundAnew 44 = .ok (.iadd, 1) := by decide +kernel
theorem dX4_pointsFoundAnew_45 : decode cX4_pointsFoundAnew 45 = .ok (.istore_n 2, 1) := by decide +kernel
theorem dX4_pointsFoundAnew_46 : decode cX4_pointsFoundAnew 46 = .ok (.iload 4, 2) := by decide +kernel
theorem dX4_pointsFoundAnew_48 : decode cX4_pointsFoundAnew 48 = .ok (.iconst 2, 1) := by decide +kernel
theorem dX4_pointsFoundAnew_49 : decode cX4_pointsFoundAnew 49 = .ok (.if_icmp .ne 51, 3) := by decide +kernel
theorem dX4_pointsFoundAnew_52 : decode cX4_pointsFoundAnew 52 = .ok (.iload_n 2, 1) := by decide +kernel
theorem dX4_pointsFoundAnew_53 : decode cX4_pointsFoundAnew 53 = .ok (.aload_n 0, 1) := by decide +kernel
theorem dX4_pointsFoundAnew_54 : decode cX4_pointsFoundAnew 54 = .ok (.aload_n 0, 1) := by decide +kernel
theorem dX4_pointsFoundAnew_55 : decode cX4_pointsFoundAnew 55 = .ok (.getfield 64, 3) := by decide +kernel
theorem dX4_pointsFoundAnew_58 : decode cX4_pointsFoundAnew 58 = .ok (.iload_n 3, 1) := by decide +kernel
theorem dX4_pointsFoundAnew_59 : decode cX4_pointsFoundAnew 59 = .ok (.invokestatic 85, 3) := by decide +kernel
theorem dX4_pointsFoundAnew_62 : decode cX4_pointsFoundAnew 62 = .ok (.invokevirtual 123, 3) := by decide +kernel
theorem dX4_pointsFoundAnew_65 : decode cX4_pointsFoundAnew 65 = .ok (.iload_n 1, 1) := by decide +kernel
theorem dX4_pointsFoundAnew_66 : decode cX4_pointsFoundAnew 66 = .ok (.if_icmp .ne 7, 3) := by decide +kernel
theorem dX4_pointsFoundAnew_69 : decode cX4_pointsFoundAnew 69 = .ok (.iconst 1, 1) := by decide +kernel
theorem dX4_pointsFoundAnew_70 : decode cX4_pointsFoundAnew 70 = .ok (.goto 4, 3) := by decide +kernel
theorem dX4_pointsFoundAnew_73 : decode cX4_pointsFoundAnew 73 = .ok (.iconst 0, 1) := by decide +kernel
theorem dX4_pointsFoundAnew_74 : decode cX4_pointsFoundAnew 74 = .ok (.iadd, 1) := by decide +kernel
theorem dX4_pointsFoundAnew_75 : decode cX4_pointsFoundAnew 75 = .ok (.istore_n 2, 1) := by decide +kernel
theorem dX4_pointsFoundAnew_76 : decode cX4_pointsFoundAnew 76 = .ok (.iload_n 2, 1) := by decide +kernel
theorem dX4_pointsFoundAnew_77 : decode cX4_pointsFoundAnew 77 = .ok (.aload_n 0, 1) := by decide +kernel
theorem dX4_pointsFoundAnew_78 : decode cX4_pointsFoundAnew 78 = .ok (.aload_n 0, 1) := by decide +kernel
theorem dX4_pointsFoundAnew_79 : decode cX4_pointsFoundAnew 79 = .ok (.getfield 67, 3) := by decide +kernel
theorem dX4_pointsFoundAnew_82 : decode cX4_pointsFoundAnew 82 = .ok (.iload_n 3, 1) := by decide +kernel
theorem dX4_pointsFoundAnew_83 : decode cX4_pointsFoundAnew 83 = .ok (.invokestatic 85, 3) := by decide +kernel
theorem dX4_pointsFoundAnew_86 : decode cX4_pointsFoundAnew 86 = .ok (.invokevirtual 123, 3) := by decide +kernel
theorem dX4_pointsFoundAnew_89 : decode cX4_pointsFoundAnew 89 = .ok (.iload_n 1, 1) := by decide +kernel
theorem dX4_pointsFoundAnew_90 : decode cX4_pointsFoundAnew 90 = .ok (.if_icmp .ne 7, 3) := by decide +kernel
theorem dX4_pointsFoundAnew_93 : decode cX4_pointsFoundAnew 93 = .ok (.iconst 1, 1) := by decide +kernel
theorem dX4_pointsFoundAnew_94 : decode cX4_pointsFoundAnew 94 = .ok (.goto 4, 3) := by decide +kernel
theorem dX4_pointsFoundAnew_97 : decode cX4_pointsFoundAnew 97 = .ok (.iconst 0, 1) := by decide +kernel
theorem dX4_pointsFoundAnew_98 : decode cX4_pointsFoundAnew 98 = .ok (.iadd, 1) := by decide +kernel
theorem dX4_pointsFoundAnew_99 : decode cX4_pointsFoundAnew 99 = .ok (.istore_n 2, 1) := by decide +kernel
theorem dX4_pointsFoundAnew_100 : decode cX4_pointsFoundAnew 100 = .ok (.iinc 3 1, 3) := by decide +kernel
theorem dX4_pointsFoundAnew_103 : decode cX4_pointsFoundAnew 103 = .ok (.goto (-99), 3) := by decide +kernel
theorem dX4_pointsFoundAnew_106 : decode cX4_pointsFoundAnew 106 = .ok (.iload_n 2, 1) := by decide +kernel
theorem dX4_pointsFoundAnew_107 : decode cX4_pointsFoundAnew 107 = .ok (.ireturn, 1) := by decide +kernel
theorem dX4_faultOfLesson_0 : decode cX4_faultOfLesson 0 = .ok (.iload_n 1, 1) := by decide +kernel
theorem dX4_faultOfLesson_1 : decode cX4_faultOfLesson 1 = .ok (.iconst 0, 1) := by decide +kernel
theorem dX4_faultOfLesson_2 : decode cX4_faultOfLesson 2 = .ok (.bipush 29, 2) := by decide +kernel
theorem dX4_faultOfLesson_4 : decode cX4_faultOfLesson 4 = .ok (.invokestatic 126, 3) := by decide +kernel
theorem dX4_faultOfLesson_7 : decode cX4_faultOfLesson 7 = .ok (.ifCond .eq 46, 3) := by decide +kernel
theorem dX4_faultOfLesson_10 : decode cX4_faultOfLesson 10 = .ok (.iload_n 2, 1) := by decide +kernel
theorem dX4_faultOfLesson_11 : decode cX4_faultOfLesson 11 = .ok (.iconst 0, 1) := by decide +kernel
theorem dX4_faultOfLesson_12 : decode cX4_faultOfLesson 12 = .ok (.iconst 5, 1) := by decide +kernel
theorem dX4_faultOfLesson_13 : decode cX4_faultOfLesson 13 = .ok (.invokestatic 126, 3) := by decide +kernel
theorem dX4_faultOfLesson_16 : decode cX4_faultOfLesson 16 = .ok (.ifCond .eq 37, 3) := by decide +kernel
theorem dX4_faultOfLesson_19 : decode cX4_faultOfLesson 19 = .ok (.iload_n 3, 1) := by decide +kernel
theorem dX4_faultOfLesson_20 : decode cX4_faultOfLesson 20 = .ok (.iconst 0, 1) := by decide +kernel
theorem dX4_faultOfLesson_21 : decode cX4_faultOfLesson 21 = .ok (.iconst 5, 1) := by decide +kernel
theorem dX4_faultOfLesson_22 : decode cX4_faultOfLesson 22 = .ok (.invokestatic 126, 3) := by decide +kernel
theorem dX4_faultOfLesson_25 : decode cX4_faultOfLesson 25 = .ok (.ifCond .eq 28, 3) := by decide +kernel
theorem dX4_faultOfLesson_28 : decode cX4_faultOfLesson 28 = .ok (.iload 4, 2) := by decide +kernel
theorem dX4_faultOfLesson_30 : decode cX4_faultOfLesson 30 = .ok (.iconst 0, 1) := by decide +kernel
theorem dX4_faultOfLesson_31 : decode cX4_faultOfLesson 31 = .ok (.aload_n 0, 1) := by decide +kernel
theorem dX4_faultOfLesson_32 : decode cX4_faultOfLesson 32 = .ok (.getfield 9, 3) := by decide +kernel
theorem dX4_faultOfLesson_35 : decode cX4_faultOfLesson 35 = .ok (.iconst 1, 1) := by decide +kernel
theorem dX4_faultOfLesson_36 : decode cX4_faultOfLesson 36 = .ok (.isub, 1) := by decide +kernel
theorem dX4_faultOfLesson_37 : decode cX4_faultOfLesson 37 = .ok (.invokestatic 126, 3) := by decide +kernel
theorem dX4_faultOfLesson_40 : decode cX4_faultOfLesson 40 = .ok (.ifCond .eq 13, 3) := by decide +kernel
theorem dX4_faultOfLesson_43 : decode cX4_faultOfLesson 43 = .ok (.iload 5, 2) := by decide +kernel
theorem dX4_faultOfLesson_45 : decode cX4_faultOfLesson 45 = .ok (.iconst 0, 1) := by decide +kernel
theorem dX4_faultOfLesson_46 : decode cX4_faultOfLesson 46 = .ok (.iconst 5, 1) := by decide +kernel
theorem dX4_faultOfLesson_47 : decode cX4_faultOfLesson 47 = .ok (.invokestatic 126, 3) := by decide +kernel
theorem dX4_faultOfLesson_50 : decode cX4_faultOfLesson 50 = .ok (.ifCond .ne 5, 3) := by decide +kernel
theorem dX4_faultOfLesson_53 : decode cX4_faultOfLesson 53 = .ok (.iconst 1, 1) := by decide +kernel
theorem dX4_faultOfLesson_54 : decode cX4_faultOfLesson 54 = .ok (.ireturn, 1) := by decide +kernel
theorem dX4_faultOfLesson_55 : decode cX4_faultOfLesson 55 = .ok (.aload_n 0, 1) := by decide +kernel
theorem dX4_faultOfLesson_56 : decode cX4_faultOfLesson 56 = .ok (.iload_n 1, 1) := by decide +kernel
theorem dX4_faultOfLesson_57 : decode cX4_faultOfLesson 57 = .ok (.aload_n 0, 1) := by decide +kernel
theorem dX4_faultOfLesson_58 : decode cX4_faultOfLesson 58 = .ok (.getfield 49, 3) := by decide +kernel
theorem dX4_faultOfLesson_61 : decode cX4_faultOfLesson 61 = .ok (.iload_n 2, 1) := by decide +kernel
theorem dX4_faultOfLesson_62 : decode cX4_faultOfLesson 62 = .ok (.invokevirtual 93, 3) := by decide +kernel
theorem dX4_faultOfLesson_65 : decode cX4_faultOfLesson 65 = .ok (.iconst (-1), 1) := by decide +kernel
theorem dX4_faultOfLesson_66 : decode cX4_faultOfLesson 66 = .ok (.if_icmp .ne 68, 3) := by decide +kernel
theorem dX4_faultOfLesson_69 : decode cX4_faultOfLesson 69 = .ok (.aload_n 0, 1) := by decide +kernel
theorem dX4_faultOfLesson_70 : decode cX4_faultOfLesson 70 = .ok (.iload_n 1, 1) := by decide +kernel
theorem dX4_faultOfLesson_71 : decode cX4_faultOfLesson 71 = .ok (.aload_n 0, 1) := by decide +kernel
theorem dX4_faultOfLesson_72 : decode cX4_faultOfLesson 72 = .ok (.getfield 55, 3) := by decide +kernel
theorem dX4_faultOfLesson_75 : decode cX4_faultOfLesson 75 = .ok (.iload 4, 2) := by decide +kernel
theorem dX4_faultOfLesson_77 : decode cX4_faultOfLesson 77 = .ok (.invokevirtual 93, 3) := by decide +kernel
theorem dX4_faultOfLesson_80 : decode cX4_faultOfLesson 80 = .ok (.iconst (-1), 1) := by decide +kernel
theorem dX4_faultOfLesson_81 : decode cX4_faultOfLesson 81 = .ok (.if_icmp .ne 53, 3) := by decide +kernel
theorem dX4_faultOfLesson_84 : decode cX4_faultOfLesson 84 = .ok (.aload_n 0, 1) := by decide +kernel
theorem dX4_faultOfLesson_85 : decode cX4_faultOfLesson 85 = .ok (.iload_n 1, 1) := by decide +kernel
theorem dX4_faultOfLesson_86 : decode cX4_faultOfLesson 86 = .ok (.aload_n 0, 1) := by decide +kernel
theorem dX4_faultOfLesson_87 : decode cX4_faultOfLesson 87 = .ok (.getfield 58, 3) := by decide +kernel
theorem dX4_faultOfLesson_90 : decode cX4_faultOfLesson 90 = .ok (.iload 5, 2) := by decide +kernel
theorem dX4_faultOfLesson_92 : decode cX4_faultOfLesson 92 = .ok (.invokevirtual 93, 3) := by decide +kernel
theorem dX4_faultOfLesson_95 : decode cX4_faultOfLesson 95 = .ok (.iconst (-1), 1) := by decide +kernel
theorem dX4_faultOfLesson_96 : decode cX4_faultOfLesson 96 = .ok (.if_icmp .ne 38, 3) := by decide +kernel
theorem dX4_faultOfLesson_99 : decode cX4_faultOfLesson 99 = .ok (.aload_n 0, 1) := by decide +kernel
theorem dX4_faultOfLesson_100 : decode cX4_faultOfLesson 100 = .ok (.iload_n 1, 1) := by decide +kernel
theorem dX4_faultOfLesson_101 : decode cX4_faultOfLesson 101 = .ok (.aload_n 0, 1) := by decide +kernel
theorem dX4_faultOfLesson_102 : decode cX4_faultOfLesson 102 = .ok (.getfield 61, 3) := by decide +kernel
theorem dX4_faultOfLesson_105 : decode cX4_faultOfLesson 105 = .ok (.iload 4, 2) := by decide +kernel
theorem dX4_faultOfLesson_107 : decode cX4_faultOfLesson 107 = .ok (.invokevirtual 93, 3) := by decide +kernel
theorem dX4_faultOfLesson_110 : decode cX4_faultOfLesson 110 = .ok (.iconst (-1), 1) := by decide +kernel
theorem dX4_faultOfLesson_111 : decode cX4_faultOfLesson 111 = .ok (.if_icmp .ne 23, 3) := by decide +kernel
theorem dX4_faultOfLesson_114 : decode cX4_faultOfLesson 114 = .ok (.aload_n 0, 1) := by decide +kernel
theorem dX4_faultOfLesson_115 : decode cX4_faultOfLesson 115 = .ok (.getfield 40, 3) := by decide +kernel
theorem dX4_faultOfLesson_118 : decode cX4_faultOfLesson 118 = .ok (.iload_n 2, 1) := by decide +kernel
theorem dX4_faultOfLesson_119 : decode cX4_faultOfLesson 119 = .ok (.invokestatic 85, 3) := by decide +kernel
theorem dX4_faultOfLesson_122 : decode cX4_faultOfLesson 122 = .ok (.aload_n 0, 1) := by decide +kernel
theorem dX4_faultOfLesson_123 : decode cX4_faultOfLesson 123 = .ok (.getfield 43, 3) := by decide +kernel
theorem dX4_faultOfLesson_126 : decode cX4_faultOfLesson 126 = .ok (.iload 5, 2) := by decide +kernel
theorem dX4_faultOfLesson_128 : decode cX4_faultOfLesson 128 = .ok (.invokestatic 85, 3) := by decide +kernel
theorem dX4_faultOfLesson_131 : decode cX4_faultOfLesson 131 = .ok (.if_icmp .le 5, 3) := by decide +kernel
theorem dX4_faultOfLesson_134 : decode cX4_faultOfLesson 134 = .ok (.iconst 2, 1) := by decide +kernel
theorem dX4_faultOfLesson_135 : decode cX4_faultOfLesson 135 = .ok (.ireturn, 1) := by decide +kernel
theorem dX4_faultOfLesson_136 : decode cX4_faultOfLesson 136 = .ok (.aload_n 0, 1) := by decide +kernel
theorem dX4_faultOfLesson_137 : decode cX4_faultOfLesson 137 = .ok (.getfield 15, 3) := by decide +kernel
theorem dX4_faultOfLesson_140 : decode cX4_faultOfLesson 140 = .ok (.bipush 40, 2) := by decide +kernel
theorem dX4_faultOfLesson_142 : decode cX4_faultOfLesson 142 = .ok (.if_icmp .lt 7, 3) := by decide +kernel
theorem dX4_faultOfLesson_145 : decode cX4_faultOfLesson 145 = .ok (.iconst 3, 1) := by decide +kernel
theorem dX4_faultOfLesson_146 : decode cX4_faultOfLesson 146 = .ok (.goto 4, 3) := by decide +kernel
theorem dX4_faultOfLesson_149 : decode cX4_faultOfLesson 149 = .ok (.iconst 0, 1) := by decide +kernel
theorem dX4_faultOfLesson_150 : decode cX4_faultOfLesson 150 = .ok (.ireturn, 1) := by decide +kernel
theorem dX4_putLesson_0 : decode cX4_putLesson 0 = .ok (.aload_n 0, 1) := by decide +kernel
theorem dX4_putLesson_1 : decode cX4_putLesson 1 = .ok (.getfield 15, 3) := by decide +kernel
theorem dX4_putLesson_4 : decode cX4_putLesson 4 = .ok (.istore 6, 2) := by decide +kernel
theorem dX4_putLesson_6 : decode cX4_putLesson 6 = .ok (.aload_n 0, 1) := by decide +kernel
theorem dX4_putLesson_7 : decode cX4_putLesson 7 = .ok (.getfield 46, 3) := by decide +kernel
theorem dX4_putLesson_10 : decode cX4_putLesson 10 = .ok (.iload 6, 2) := by decide +kernel
theorem dX4_putLesson_12 : decode cX4_putLesson 12 = .ok (.iload_n 1, 1) := by decide +kernel
theorem dX4_putLesson_13 : decode cX4_putLesson 13 = .ok (.invokestatic 81, 3) := by decide +kernel
theorem dX4_putLesson_16 : decode cX4_putLesson 16 = .ok (.aload_n 0, 1) := by decide +kernel
theorem dX4_putLesson_17 : decode cX4_putLesson 17 = .ok (.getfield 49, 3) := by decide +kernel
theorem dX4_putLesson_20 : decode cX4_putLesson 20 = .ok (.iload 6, 2) := by decide +kernel
theorem dX4_putLesson_22 : decode cX4_putLesson 22 = .ok (.iload_n 2, 1) := by decide +kernel
theorem dX4_putLesson_23 : decode cX4_putLesson 23 = .ok (.invokestatic 81, 3) := by decide +kernel
theorem dX4_putLesson_26 : decode cX4_putLesson 26 = .ok (.aload_n 0, 1) := by decide +kernel
theorem dX4_putLesson_27 : decode cX4_putLesson 27 = .ok (.getfield 52, 3) := by decide +kernel
theorem dX4_putLesson_30 : decode cX4_putLesson 30 = .ok (.iload 6, 2) := by decide +kernel
theorem dX4_putLesson_32 : decode cX4_putLesson 32 = .ok (.iload_n 3, 1) := by decide +kernel
theorem dX4_putLesson_33 : decode cX4_putLesson 33 = .ok (.invokestatic 81, 3) := by decide +kernel
theorem dX4_putLesson_36 : decode cX4_putLesson 36 = .ok (.aload_n 0, 1) := by decide +kernel
theorem dX4_putLesson_37 : decode cX4_putLesson 37 = .ok (.getfield 55, 3) := by decide +kernel
theorem dX4_putLesson_40 : decode cX4_putLesson 40 = .ok (.iload 6, 2) := by decide +kernel
theorem dX4_putLesson_42 : decode cX4_putLesson 42 = .ok (.iload 4, 2) := by decide +kernel
theorem dX4_putLesson_44 : decode cX4_putLesson 44 = .ok (.invokestatic 81, 3) := by decide +kernel
theorem dX4_putLesson_47 : decode cX4_putLesson 47 = .ok (.aload_n 0, 1) := by decide +kernel
theorem dX4_putLesson_48 : decode cX4_putLesson 48 = .ok (.getfield 58, 3) := by decide +kernel
theorem dX4_putLesson_51 : decode cX4_putLesson 51 = .ok (.iload 6, 2) := by decide +kernel
theorem dX4_putLesson_53 : decode cX4_putLesson 53 = .ok (.iload 5, 2) := by decide +kernel
theorem dX4_putLesson_55 : decode cX4_putLesson 55 = .ok (.invokestatic 81, 3) := by decide +kernel
theorem dX4_putLesson_58 : decode cX4_putLesson 58 = .ok (.aload_n 0, 1) := by decide +kernel
theorem dX4_putLesson_59 : decode cX4_putLesson 59 = .ok (.getfield 61, 3) := by decide +kernel
theorem dX4_putLesson_62 : decode cX4_putLesson 62 = .ok (.iload 6, 2) := by decide +kernel
theorem dX4_putLesson_64 : decode cX4_putLesson 64 = .ok (.iconst (-1), 1) := by decide +kernel
theorem dX4_putLesson_65 : decode cX4_putLesson 65 = .ok (.invokestatic 81, 3) := by decide +kernel
theorem dX4_putLesson_68 : decode cX4_putLesson 68 = .ok (.aload_n 0, 1) := by decide +kernel
theorem dX4_putLesson_69 : decode cX4_putLesson 69 = .ok (.getfield 64, 3) := by decide +kernel
theorem dX4_putLesson_72 : decode cX4_putLesson 72 = .ok (.iload 6, 2) := by decide +kernel
theorem dX4_putLesson_74 : decode cX4_putLesson 74 = .ok (.iconst (-1), 1) := by decide +kernel
theorem dX4_putLesson_75 : decode cX4_putLesson 75 = .ok (.invokestatic 81, 3) := by decide +kernel
theorem dX4_putLesson_78 : decode cX4_putLesson 78 = .ok (.aload_n 0, 1) := by decide +kernel
theorem dX4_putLesson_79 : decode cX4_putLesson 79 = .ok (.getfield 67, 3) := by decide +kernel
theorem dX4_putLesson_82 : decode cX4_putLesson 82 = .ok (.iload 6, 2) := by decide +kernel
theorem dX4_putLesson_84 : decode cX4_putLesson 84 = .ok (.iconst (-1), 1) := by decide +kernel
theorem dX4_putLesson_85 : decode cX4_putLesson 85 = .ok (.invokestatic 81, 3) := by decide +kernel
theorem dX4_putLesson_88 : decode cX4_putLesson 88 = .ok (.aload_n 0, 1) := by decide +kernel
theorem dX4_putLesson_89 : decode cX4_putLesson 89 = .ok (.dup, 1) := by decide +kernel
theorem dX4_putLesson_90 : decode cX4_putLesson 90 = .ok (.getfield 15, 3) := by decide +kernel
theorem dX4_putLesson_93 : decode cX4_putLesson 93 = .ok (.iconst 1, 1) := by decide +kernel
theorem dX4_putLesson_94 : decode cX4_putLesson 94 = .ok (.iadd, 1) := by decide +kernel
theorem dX4_putLesson_95 : decode cX4_putLesson 95 = .ok (.putfield 15, 3) := by decide +kernel
theorem dX4_putLesson_98 : decode cX4_putLesson 98 = .ok (.iload 6, 2) := by decide +kernel
theorem dX4_putLesson_100 : decode cX4_putLesson 100 = .ok (.ireturn, 1) := by decide +kernel
theorem dX4_dropLesson_0 : decode cX4_dropLesson 0 = .ok (.aload_n 0, 1) := by decide +kernel
theorem dX4_dropLesson_1 : decode cX4_dropLesson 1 = .ok (.iload_n 1, 1) := by decide +kernel
theorem dX4_dropLesson_2 : decode cX4_dropLesson 2 = .ok (.invokevirtual 130, 3) := by decide +kernel
theorem dX4_dropLesson_5 : decode cX4_dropLesson 5 = .ok (.pop, 1) := by decide +kernel
theorem dX4_dropLesson_6 : decode cX4_dropLesson 6 = .ok (.aload_n 0, 1) := by decide +kernel
theorem dX4_dropLesson_7 : decode cX4_dropLesson 7 = .ok (.getfield 46, 3) := by decide +kernel
theorem dX4_dropLesson_10 : decode cX4_dropLesson 10 = .ok (.iload_n 1, 1) := by decide +kernel
theorem dX4_dropLesson_11 : decode cX4_dropLesson 11 = .ok (.invokestatic 133, 3) := by decide +kernel
theorem dX4_dropLesson_14 : decode cX4_dropLesson 14 = .ok (.aload_n 0, 1) := by decide +kernel
theorem dX4_dropLesson_15 : decode cX4_dropLesson 15 = .ok (.getfield 49, 3) := by decide +kernel
theorem dX4_dropLesson_18 : decode cX4_dropLesson 18 = .ok (.iload_n 1, 1) := by decide +kernel
theorem dX4_dropLesson_19 : decode cX4_dropLesson 19 = .ok (.invokestatic 133, 3) := by decide +kernel
theorem dX4_dropLesson_22 : decode cX4_dropLesson 22 = .ok (.aload_n 0, 1) := by decide +kernel
theorem dX4_dropLesson_23 : decode cX4_dropLesson 23 = .ok (.getfield 52, 3) := by decide +kernel
theorem dX4_dropLesson_26 : decode cX4_dropLesson 26 = .ok (.iload_n 1, 1) := by decide +kernel
theorem dX4_dropLesson_27 : decode cX4_dropLesson 27 = .ok (.invokestatic 133, 3) := by decide +kernel
theorem dX4_dropLesson_30 : decode cX4_dropLesson 30 = .ok (.aload_n 0, 1) := by decide +kernel
theorem dX4_dropLesson_31 : decode cX4_dropLesson 31 = .ok (.getfield 55, 3) := by decide +kernel
theorem dX4_dropLesson_34 : decode cX4_dropLesson 34 = .ok (.iload_n 1, 1) := by decide +kernel
theorem dX4_dropLesson_35 : decode cX4_dropLesson 35 = .ok (.invokestatic 133, 3) := by decide +kernel
theorem dX4_dropLesson_38 : decode cX4_dropLesson 38 = .ok (.aload_n 0, 1) := by decide +kernel
theorem dX4_dropLesson_39 : decode cX4_dropLesson 39 = .ok (.getfield 58, 3) := by decide +kernel
theorem dX4_dropLesson_42 : decode cX4_dropLesson 42 = .ok (.iload_n 1, 1) := by decide +kernel
theorem dX4_dropLesson_43 : decode cX4_dropLesson 43 = .ok (.invokestatic 133, 3) := by decide +kernel
theorem dX4_dropLesson_46 : decode cX4_dropLesson 46 = .ok (.aload_n 0, 1) := by decide +kernel
theorem dX4_dropLesson_47 : decode cX4_dropLesson 47 = .ok (.getfield 61, 3) := by decide +kernel
theorem dX4_dropLesson_50 : decode cX4_dropLesson 50 = .ok (.iload_n 1, 1) := by decide +kernel
theorem dX4_dropLesson_51 : decode cX4_dropLesson 51 = .ok (.invokestatic 133, 3) := by decide +kernel
theorem dX4_dropLesson_54 : decode cX4_dropLesson 54 = .ok (.aload_n 0, 1) := by decide +kernel
theorem dX4_dropLesson_55 : decode cX4_dropLesson 55 = .ok (.getfield 64, 3) := by decide +kernel
theorem dX4_dropLesson_58 : decode cX4_dropLesson 58 = .ok (.iload_n 1, 1) := by decide +kernel
theorem dX4_dropLesson_59 : decode cX4_dropLesson 59 = .ok (.invokestatic 133, 3) := by decide +kernel
theorem dX4_dropLesson_62 : decode cX4_dropLesson 62 = .ok (.aload_n 0, 1) := by decide +kernel
theorem dX4_dropLesson_63 : decode cX4_dropLesson 63 = .ok (.getfield 67, 3) := by decide +kernel
theorem dX4_dropLesson_66 : decode cX4_dropLesson 66 = .ok (.iload_n 1, 1) := by decide +kernel
theorem dX4_dropLesson_67 : decode cX4_dropLesson 67 = .ok (.invokestatic 133, 3) := by decide +kernel
theorem dX4_dropLesson_70 : decode cX4_dropLesson 70 = .ok (.aload_n 0, 1) := by decide +kernel
theorem dX4_dropLesson_71 : decode cX4_dropLesson 71 = .ok (.dup, 1) := by decide +kernel
theorem dX4_dropLesson_72 : decode cX4_dropLesson 72 = .ok (.getfield 15, 3) := by decide +kernel
theorem dX4_dropLesson_75 : decode cX4_dropLesson 75 = .ok (.iconst 1, 1) := by decide +kernel
theorem dX4_dropLesson_76 : decode cX4_dropLesson 76 = .ok (.isub, 1) := by decide +kernel
theorem dX4_dropLesson_77 : decode cX4_dropLesson 77 = .ok (.putfield 15, 3) := by decide +kernel
theorem dX4_dropLesson_80 : decode cX4_dropLesson 80 = .ok (.aload_n 0, 1) := by decide +kernel
theorem dX4_dropLesson_81 : decode cX4_dropLesson 81 = .ok (.aload_n 0, 1) := by decide +kernel
theorem dX4_dropLesson_82 : decode cX4_dropLesson 82 = .ok (.getfield 64, 3) := by decide +kernel
theorem dX4_dropLesson_85 : decode cX4_dropLesson 85 = .ok (.iload_n 1, 1) := by decide +kernel
theorem dX4_dropLesson_86 : decode cX4_dropLesson 86 = .ok (.invokevirtual 136, 3) := by decide +kernel
theorem dX4_dropLesson_89 : decode cX4_dropLesson 89 = .ok (.aload_n 0, 1) := by decide +kernel
theorem dX4_dropLesson_90 : decode cX4_dropLesson 90 = .ok (.aload_n 0, 1) := by decide +kernel
theorem dX4_dropLesson_91 : decode cX4_dropLesson 91 = .ok (.getfield 67, 3) := by decide +kernel
theorem dX4_dropLesson_94 : decode cX4_dropLesson 94 = .ok (.iload_n 1, 1) := by decide +kernel
theorem dX4_dropLesson_95 : decode cX4_dropLesson 95 = .ok (.invokevirtual 136, 3) := by decide +kernel
theorem dX4_dropLesson_98 : decode cX4_dropLesson 98 = .ok (.return_, 1) := by decide +kernel
theorem dX4_moveHosts_0 : decode cX4_moveHosts 0 = .ok (.iconst 0, 1) := by decide +kernel
theorem dX4_moveHosts_1 : decode cX4_moveHosts 1 = .ok (.istore_n 3, 1) := by decide +kernel
theorem dX4_moveHosts_2 : decode cX4_moveHosts 2 = .ok (.iload_n 3, 1) := by decide +kernel
theorem dX4_moveHosts_3 : decode cX4_moveHosts 3 = .ok (.aload_n 0, 1) := by decide +kernel
theorem dX4_moveHosts_4 : decode cX4_moveHosts 4 = .ok (.getfield 15, 3) := by decide +kernel
theorem dX4_moveHosts_7 : decode cX4_moveHosts 7 = .ok (.if_icmp .ge 30, 3) := by decide +kernel
theorem dX4_moveHosts_10 : decode cX4_moveHosts 10 = .ok (.aload_n 1, 1) := by decide +kernel
theorem dX4_moveHosts_11 : decode cX4_moveHosts 11 = .ok (.iload_n 3, 1) := by decide +kernel
theorem dX4_moveHosts_12 : decode cX4_moveHosts 12 = .ok (.invokestatic 85, 3) := by decide +kernel
theorem dX4_moveHosts_15 : decode cX4_moveHosts 15 = .ok (.iload_n 2, 1) := by decide +kernel
theorem dX4_moveHosts_16 : decode cX4_moveHosts 16 = .ok (.if_icmp .le 15, 3) := by decide +kernel
theorem dX4_moveHosts_19 : decode cX4_moveHosts 19 = .ok (.aload_n 1, 1) := by decide +kernel
theorem dX4_moveHosts_20 : decode cX4_moveHosts 20 = .ok (.iload_n 3, 1) := by decide +kernel
theorem dX4_moveHosts_21 : decode cX4_moveHosts 21 = .ok (.aload_n 1, 1) := by decide +kernel
theorem dX4_moveHosts_22 : decode cX4_moveHosts 22 = .ok (.iload_n 3, 1) := by decide +kernel
theorem dX4_moveHosts_23 : decode cX4_moveHosts 23 = .ok (.invokestatic 85, 3) := by decide +kernel
theorem dX4_moveHosts_26 : decode cX4_moveHosts 26 = .ok (.iconst 1, 1) := by decide +kernel
theorem dX4_moveHosts_27 : decode cX4_moveHosts 27 = .ok (.isub, 1) := by decide +kernel
theorem dX4_moveHosts_28 : decode cX4_moveHosts 28 = .ok (.invokestatic 81, 3) := by decide +kernel
theorem dX4_moveHosts_31 : decode cX4_moveHosts 31 = .ok (.iinc 3 1, 3) := by decide +kernel
theorem dX4_moveHosts_34 : decode cX4_moveHosts 34 = .ok (.goto (-32), 3) := by decide +kernel
theorem dX4_moveHosts_37 : decode cX4_moveHosts 37 = .ok (.return_, 1) := by decide +kernel
theorem dX4_lessonIn_0 : decode cX4_lessonIn 0 = .ok (.iconst 0, 1) := by decide +kernel
theorem dX4_lessonIn_1 : decode cX4_lessonIn 1 = .ok (.istore 4, 2) := by decide +kernel
theorem dX4_lessonIn_3 : decode cX4_lessonIn 3 = .ok (.iload 4, 2) := by decide +kernel
theorem dX4_lessonIn_5 : decode cX4_lessonIn 5 = .ok (.aload_n 0, 1) := by decide +kernel
theorem dX4_lessonIn_6 : decode cX4_lessonIn 6 = .ok (.getfield 15, 3) := by decide +kernel
theorem dX4_lessonIn_9 : decode cX4_lessonIn 9 = .ok (.if_icmp .ge 35, 3) := by decide +kernel
theorem dX4_lessonIn_12 : decode cX4_lessonIn 12 = .ok (.aload_n 0, 1) := by decide +kernel
theorem dX4_lessonIn_13 : decode cX4_lessonIn 13 = .ok (.getfield 46, 3) := by decide +kernel
theorem dX4_lessonIn_16 : decode cX4_lessonIn 16 = .ok (.iload 4, 2) := by decide +kernel
theorem dX4_lessonIn_18 : decode cX4_lessonIn 18 = .ok (.invokestatic 85, 3) := by decide +kernel
theorem dX4_lessonIn_21 : decode cX4_lessonIn 21 = .ok (.iload_n 1, 1) := by decide +kernel
theorem dX4_lessonIn_22 : decode cX4_lessonIn 22 = .ok (.if_icmp .ne 16, 3) := by decide +kernel
theorem dX4_lessonIn_25 : decode cX4_lessonIn 25 = .ok (.aload_n 2, 1) := by decide +kernel
theorem dX4_lessonIn_26 : decode cX4_lessonIn 26 = .ok (.iload 4, 2) := by decide +kernel
theorem dX4_lessonIn_28 : decode cX4_lessonIn 28 = .ok (.invokestatic 85, 3) := by decide +kernel
theorem dX4_lessonIn_31 : decode cX4_lessonIn 31 = .ok (.iload_n 3, 1) := by decide +kernel
theorem dX4_lessonIn_32 : decode cX4_lessonIn 32 = .ok (.if_icmp .ne 6, 3) := by decide +kernel
theorem dX4_lessonIn_35 : decode cX4_lessonIn 35 = .ok (.iload 4, 2) := by decide +kernel
theorem dX4_lessonIn_37 : decode cX4_lessonIn 37 = .ok (.ireturn, 1) := by decide +kernel
theorem dX4_lessonIn_38 : decode cX4_lessonIn 38 = .ok (.iinc 4 1, 3) := by decide +kernel
theorem dX4_lessonIn_41 : decode cX4_lessonIn 41 = .ok (.goto (-38), 3) := by decide +kernel
theorem dX4_lessonIn_44 : decode cX4_lessonIn 44 = .ok (.iconst (-1), 1) := by decide +kernel
theorem dX4_lessonIn_45 : decode cX4_lessonIn 45 = .ok (.ireturn, 1) := by decide +kernel
theorem dX4_dayOf_0 : decode cX4_dayOf 0 = .ok (.aload_n 0, 1) := by decide +kernel
theorem dX4_dayOf_1 : decode cX4_dayOf 1 = .ok (.getfield 46, 3) := by decide +kernel
theorem dX4_dayOf_4 : decode cX4_dayOf 4 = .ok (.iload_n 1, 1) := by decide +kernel
theorem dX4_dayOf_5 : decode cX4_dayOf 5 = .ok (.invokestatic 85, 3) := by decide +kernel
theorem dX4_dayOf_8 : decode cX4_dayOf 8 = .ok (.bipush 6, 2) := by decide +kernel
theorem dX4_dayOf_10 : decode cX4_dayOf 10 = .ok (.idiv, 1) := by decide +kernel
theorem dX4_dayOf_11 : decode cX4_dayOf 11 = .ok (.ireturn, 1) := by decide +kernel
theorem dX4_actingOf_0 : decode cX4_actingOf 0 = .ok (.aload_n 0, 1) := by decide +kernel
theorem dX4_actingOf_1 : decode cX4_actingOf 1 = .ok (.getfield 55, 3) := by decide +kernel
theorem dX4_actingOf_4 : decode cX4_actingOf 4 = .ok (.iload_n 1, 1) := by decide +kernel
theorem dX4_actingOf_5 : decode cX4_actingOf 5 = .ok (.invokestatic 85, 3) := by decide +kernel
theorem dX4_actingOf_8 : decode cX4_actingOf 8 = .ok (.istore_n 2, 1) := by decide +kernel
theorem dX4_actingOf_9 : decode cX4_actingOf 9 = .ok (.aload_n 0, 1) := by decide +kernel
theorem dX4_actingOf_10 : decode cX4_actingOf 10 = .ok (.getfield 37, 3) := by decide +kernel
theorem dX4_actingOf_13 : decode cX4_actingOf 13 = .ok (.iload_n 2, 1) := by decide +kernel
theorem dX4_actingOf_14 : decode cX4_actingOf 14 = .ok (.invokestatic 85, 3) := by decide +kernel
theorem dX4_actingOf_17 : decode cX4_actingOf 17 = .ok (.aload_n 0, 1) := by decide +kernel
theorem dX4_actingOf_18 : decode cX4_actingOf 18 = .ok (.getfield 46, 3) := by decide +kernel
theorem dX4_actingOf_21 : decode cX4_actingOf 21 = .ok (.iload_n 1, 1) := by decide +kernel
theorem dX4_actingOf_22 : decode cX4_actingOf 22 = .ok (.invokestatic 85, 3) := by decide +kernel
theorem dX4_actingOf_25 : decode cX4_actingOf 25 = .ok (.ishr, 1) := by decide +kernel
theorem dX4_actingOf_26 : decode cX4_actingOf 26 = .ok (.iconst 1, 1) := by decide +kernel
theorem dX4_actingOf_27 : decode cX4_actingOf 27 = .ok (.iand, 1) := by decide +kernel
theorem dX4_actingOf_28 : decode cX4_actingOf 28 = .ok (.ifCond .ne 7, 3) := by decide +kernel
theorem dX4_actingOf_31 : decode cX4_actingOf 31 = .ok (.iconst 1, 1) := by decide +kernel
theorem dX4_actingOf_32 : decode cX4_actingOf 32 = .ok (.goto 4, 3) := by decide +kernel
theorem dX4_actingOf_35 : decode cX4_actingOf 35 = .ok (.iconst 0, 1) := by decide +kernel
theorem dX4_actingOf_36 : decode cX4_actingOf 36 = .ok (.istore_n 3, 1) := by decide +kernel
theorem dX4_actingOf_37 : decode cX4_actingOf 37 = .ok (.iload_n 3, 1) := by decide +kernel
theorem dX4_actingOf_38 : decode cX4_actingOf 38 = .ok (.ifCond .eq 7, 3) := by decide +kernel
theorem dX4_actingOf_41 : decode cX4_actingOf 41 = .ok (.iload_n 2, 1) := by decide +kernel
theorem dX4_actingOf_42 : decode cX4_actingOf 42 = .ok (.goto 11, 3) := by decide +kernel
theorem dX4_actingOf_45 : decode cX4_actingOf 45 = .ok (.aload_n 0, 1) := by decide +kernel
theorem dX4_actingOf_46 : decode cX4_actingOf 46 = .ok (.getfield 61, 3) := by decide +kernel
theorem dX4_actingOf_49 : decode cX4_actingOf 49 = .ok (.iload_n 1, 1) := by decide +kernel
theorem dX4_actingOf_50 : decode cX4_actingOf 50 = .ok (.invokestatic 85, 3) := by decide +kernel
theorem dX4_actingOf_53 : decode cX4_actingOf 53 = .ok (.ireturn, 1) := by decide +kernel
theorem dX4_stateOf_0 : decode cX4_stateOf 0 = .ok (.aload_n 0, 1) := by decide +kernel
theorem dX4_stateOf_1 : decode cX4_stateOf 1 = .ok (.iload_n 1, 1) := by decide +kernel
theorem dX4_stateOf_2 : decode cX4_stateOf 2 = .ok (.invokevirtual 123, 3) := by decide +kernel
theorem dX4_stateOf_5 : decode cX4_stateOf 5 = .ok (.istore_n 2, 1) := by decide +kernel
theorem dX4_stateOf_6 : decode cX4_stateOf 6 = .ok (.iload_n 2, 1) := by decide +kernel
theorem dX4_stateOf_7 : decode cX4_stateOf 7 = .ok (.iconst (-1), 1) := by decide +kernel
theorem dX4_stateOf_8 : decode cX4_stateOf 8 = .ok (.if_icmp .eq 21, 3) := by decide +kernel
theorem dX4_stateOf_11 : decode cX4_stateOf 11 = .ok (.iload_n 2, 1) := by decide +kernel
theorem dX4_stateOf_12 : decode cX4_stateOf 12 = .ok (.aload_n 0, 1) := by decide +kernel
theorem dX4_stateOf_13 : decode cX4_stateOf 13 = .ok (.getfield 55, 3) := by decide +kernel
theorem dX4_stateOf_16 : decode cX4_stateOf 16 = .ok (.iload_n 1, 1) := by decide +kernel
theorem dX4_stateOf_17 : decode cX4_stateOf 17 = .ok (.invokestatic 85, 3) := by decide +kernel
theorem dX4_stateOf_20 : decode cX4_stateOf 20 = .ok (.if_icmp .ne 7, 3) := by decide +kernel
theorem dX4_stateOf_23 : decode cX4_stateOf 23 = .ok (.iconst 0, 1) := by decide +kernel
theorem dX4_stateOf_24 : decode cX4_stateOf 24 = .ok (.goto 4, 3) := by decide +kernel
theorem dX4_stateOf_27 : decode cX4_stateOf 27 = .ok (.iconst 1, 1) := by decide +kernel
theorem dX4_stateOf_28 : decode cX4_stateOf 28 = .ok (.ireturn, 1) := by decide +kernel
theorem dX4_stateOf_29 : decode cX4_stateOf 29 = .ok (.aload_n 0, 1) := by decide +kernel
theorem dX4_stateOf_30 : decode cX4_stateOf 30 = .ok (.getfield 64, 3) := by decide +kernel
theorem dX4_stateOf_33 : decode cX4_stateOf 33 = .ok (.iload_n 1, 1) := by decide +kernel
theorem dX4_stateOf_34 : decode cX4_stateOf 34 = .ok (.invokestatic 85, 3) := by decide +kernel
theorem dX4_stateOf_37 : decode cX4_stateOf 37 = .ok (.iconst (-1), 1) := by decide +kernel
theorem dX4_stateOf_38 : decode cX4_stateOf 38 = .ok (.if_icmp .eq 7, 3) := by decide +kernel
theorem dX4_stateOf_41 : decode cX4_stateOf 41 = .ok (.iconst 2, 1) := by decide +kernel
theorem dX4_stateOf_42 : decode cX4_stateOf 42 = .ok (.goto 4, 3) := by decide +kernel
theorem dX4_stateOf_45 : decode cX4_stateOf 45 = .ok (.iconst 3, 1) := by decide +kernel
theorem dX4_stateOf_46 : decode cX4_stateOf 46 = .ok (.ireturn, 1) := by decide +kernel
theorem dX4_lessonsIn_0 : decode cX4_lessonsIn 0 = .ok (.iconst 0, 1) := by decide +kernel
theorem dX4_lessonsIn_1 : decode cX4_lessonsIn 1 = .ok (.istore_n 2, 1) := by decide +kernel
theorem dX4_lessonsIn_2 : decode cX4_lessonsIn 2 = .ok (.iconst 0, 1) := by decide +kernel
theorem dX4_lessonsIn_3 : decode cX4_lessonsIn 3 = .ok (.istore_n 3, 1) := by decide +kernel
theorem dX4_lessonsIn_4 : decode cX4_lessonsIn 4 = .ok (.iload_n 3, 1) := by decide +kernel
theorem dX4_lessonsIn_5 : decode cX4_lessonsIn 5 = .ok (.aload_n 0, 1) := by decide +kernel
theorem dX4_lessonsIn_6 : decode cX4_lessonsIn 6 = .ok (.getfield 15, 3) := by decide +kernel
theorem dX4_lessonsIn_9 : decode cX4_lessonsIn 9 = .ok (.if_icmp .ge 21, 3) := by decide +kernel
theorem dX4_lessonsIn_12 : decode cX4_lessonsIn 12 = .ok (.aload_n 0, 1) := by decide +kernel
theorem dX4_lessonsIn_13 : decode cX4_lessonsIn 13 = .ok (.iload_n 3, 1) := by decide +kernel
theorem dX4_lessonsIn_14 : decode cX4_lessonsIn 14 = .ok (.invokevirtual 100, 3) := by decide +kernel
theorem dX4_lessonsIn_17 : decode cX4_lessonsIn 17 = .ok (.iload_n 1, 1) := by decide +kernel
theorem dX4_lessonsIn_18 : decode cX4_lessonsIn 18 = .ok (.if_icmp .ne 6, 3) := by decide +kernel
theorem dX4_lessonsIn_21 : decode cX4_lessonsIn 21 = .ok (.iinc 2 1, 3) := by decide +kernel
theorem dX4_lessonsIn_24 : decode cX4_lessonsIn 24 = .ok (.iinc 3 1, 3) := by decide +kernel
theorem dX4_lessonsIn_27 : decode cX4_lessonsIn 27 = .ok (.goto (-23), 3) := by decide +kernel
theorem dX4_lessonsIn_30 : decode cX4_lessonsIn 30 = .ok (.iload_n 2, 1) := by decide +kernel
theorem dX4_lessonsIn_31 : decode cX4_lessonsIn 31 = .ok (.ireturn, 1) := by decide +kernel
theorem dX4_lostLessons_0 : decode cX4_lostLessons 0 = .ok (.iconst 0, 1) := by decide +kernel
theorem dX4_lostLessons_1 : decode cX4_lostLessons 1 = .ok (.istore_n 2, 1) := by decide +kernel
theorem dX4_lostLessons_2 : decode cX4_lostLessons 2 = .ok (.iconst 0, 1) := by decide +kernel
theorem dX4_lostLessons_3 : decode cX4_lostLessons 3 = .ok (.istore_n 3, 1) := by decide +kernel
theorem dX4_lostLessons_4 : decode cX4_lostLessons 4 = .ok (.iload_n 3, 1) := by decide +kernel
theorem dX4_lostLessons_5 : decode cX4_lostLessons 5 = .ok (.aload_n 0, 1) := by decide +kernel
theorem dX4_lostLessons_6 : decode cX4_lostLessons 6 = .ok (.getfield 15, 3) := by decide +kernel
theorem dX4_lostLessons_9 : decode cX4_lostLessons 9 = .ok (.if_icmp .ge 43, 3) := by decide +kernel
theorem dX4_lostLessons_12 : decode cX4_lostLessons 12 = .ok (.aload_n 0, 1) := by decide +kernel
theorem dX4_lostLessons_13 : decode cX4_lostLessons 13 = .ok (.iload_n 3, 1) := by decide +kernel
theorem dX4_lostLessons_14 : decode cX4_lostLessons 14 = .ok (.invokevirtual 100, 3) := by decide +kernel
theorem dX4_lostLessons_17 : decode cX4_lostLessons 17 = .ok (.istore 4, 2) := by decide +kernel
theorem dX4_lostLessons_19 : decode cX4_lostLessons 19 = .ok (.aload_n 0, 1) := by decide +kernel
theorem dX4_lostLessons_20 : decode cX4_lostLessons 20 = .ok (.getfield 49, 3) := by decide +kernel
theorem dX4_lostLessons_23 : decode cX4_lostLessons 23 = .ok (.iload_n 3, 1) := by decide +kernel
theorem dX4_lostLessons_24 : decode cX4_lostLessons 24 = .ok (.invokestatic 85, 3) := by decide +kernel
theorem dX4_lostLessons_27 : decode cX4_lostLessons 27 = .ok (.iload_n 1, 1) := by decide +kernel
theorem dX4_lostLessons_28 : decode cX4_lostLessons 28 = .ok (.if_icmp .ne 18, 3) := by decide +kernel
theorem dX4_lostLessons_31 : decode cX4_lostLessons 31 = .ok (.iload 4, 2) := by decide +kernel
theorem dX4_lostLessons_33 : decode cX4_lostLessons 33 = .ok (.iconst 3, 1) := by decide +kernel
theorem dX4_lostLessons_34 : decode cX4_lostLessons 34 = .ok (.if_icmp .eq 9, 3) := by decide +kernel
theorem dX4_lostLessons_37 : decode cX4_lostLessons 37 = .ok (.iload 4, 2) := by decide +kernel
theorem dX4_lostLessons_39 : decode cX4_lostLessons 39 = .ok (.iconst 2, 1) := by decide +kernel
theorem dX4_lostLessons_40 : decode cX4_lostLessons 40 = .ok (.if_icmp .ne 6, 3) := by decide +kernel
theorem dX4_lostLessons_43 : decode cX4_lostLessons 43 = .ok (.iinc 2 1, 3) := by decide +kernel
theorem dX4_lostLessons_46 : decode cX4_lostLessons 46 = .ok (.iinc 3 1, 3) := by decide +kernel
theorem dX4_lostLessons_49 : decode cX4_lostLessons 49 = .ok (.goto (-45), 3) := by decide +kernel
theorem dX4_lostLessons_52 : decode cX4_lostLessons 52 = .ok (.iload_n 2, 1) := by decide +kernel
theorem dX4_lostLessons_53 : decode cX4_lostLessons 53 = .ok (.ireturn, 1) := by decide +kernel
theorem dX4_openCount_0 : decode cX4_openCount 0 = .ok (.iconst 0, 1) := by decide +kernel
theorem dX4_openCount_1 : decode cX4_openCount 1 = .ok (.istore_n 2, 1) := by decide +kernel
theorem dX4_openCount_2 : decode cX4_openCount 2 = .ok (.iconst 0, 1) := by decide +kernel
theorem dX4_openCount_3 : decode cX4_openCount 3 = .ok (.istore_n 3, 1) := by decide +kernel
theorem dX4_openCount_4 : decode cX4_openCount 4 = .ok (.iload_n 3, 1) := by decide +kernel
theorem dX4_openCount_5 : decode cX4_openCount 5 = .ok (.aload_n 0, 1) := by decide +kernel
theorem dX4_openCount_6 : decode cX4_openCount 6 = .ok (.getfield 15, 3) := by decide +kernel
theorem dX4_openCount_9 : decode cX4_openCount 9 = .ok (.if_icmp .ge 30, 3) := by decide +kernel
theorem dX4_openCount_12 : decode cX4_openCount 12 = .ok (.aload_n 0, 1) := by decide +kernel
theorem dX4_openCount_13 : decode cX4_openCount 13 = .ok (.iload_n 3, 1) := by decide +kernel
theorem dX4_openCount_14 : decode cX4_openCount 14 = .ok (.invokevirtual 108, 3) := by decide +kernel
theorem dX4_openCount_17 : decode cX4_openCount 17 = .ok (.iload_n 1, 1) := by decide +kernel
theorem dX4_openCount_18 : decode cX4_openCount 18 = .ok (.if_icmp .ne 15, 3) := by decide +kernel
theorem dX4_openCount_21 : decode cX4_openCount 21 = .ok (.aload_n 0, 1) := by decide +kernel
theorem dX4_openCount_22 : decode cX4_openCount 22 = .ok (.iload_n 3, 1) := by decide +kernel
theorem dX4_openCount_23 : decode cX4_openCount 23 = .ok (.invokevirtual 100, 3) := by decide +kernel
theorem dX4_openCount_26 : decode cX4_openCount 26 = .ok (.iconst 3, 1) := by decide +kernel
theorem dX4_openCount_27 : decode cX4_openCount 27 = .ok (.if_icmp .ne 6, 3) := by decide +kernel
theorem dX4_openCount_30 : decode cX4_openCount 30 = .ok (.iinc 2 1, 3) := by decide +kernel
theorem dX4_openCount_33 : decode cX4_openCount 33 = .ok (.iinc 3 1, 3) := by decide +kernel
theorem dX4_openCount_36 : decode cX4_openCount 36 = .ok (.goto (-32), 3) := by decide +kernel
theorem dX4_openCount_39 : decode cX4_openCount 39 = .ok (.iload_n 2, 1) := by decide +kernel
theorem dX4_openCount_40 : decode cX4_openCount 40 = .ok (.ireturn, 1) := by decide +kernel
theorem dX4_openAt_0 : decode cX4_openAt 0 = .ok (.iconst 0, 1) := by decide +kernel
theorem dX4_openAt_1 : decode cX4_openAt 1 = .ok (.istore_n 3, 1) := by decide +kernel
theorem dX4_openAt_2 : decode cX4_openAt 2 = .ok (.iconst 0, 1) := by decide +kernel
theorem dX4_openAt_3 : decode cX4_openAt 3 = .ok (.istore 4, 2) := by decide +kernel
theorem dX4_openAt_5 : decode cX4_openAt 5 = .ok (.iload 4, 2) := by decide +kernel
theorem dX4_openAt_7 : decode cX4_openAt 7 = .ok (.bipush 6, 2) := by decide +kernel
theorem dX4_openAt_9 : decode cX4_openAt 9 = .ok (.if_icmp .ge 54, 3) := by decide +kernel
theorem dX4_openAt_12 : decode cX4_openAt 12 = .ok (.iconst 0, 1) := by decide +kernel
theorem dX4_openAt_13 : decode cX4_openAt 13 = .ok (.istore 5, 2) := by decide +kernel
theorem dX4_openAt_15 : decode cX4_openAt 15 = .ok (.iload 5, 2) := by decide +kernel
theorem dX4_openAt_17 : decode cX4_openAt 17 = .ok (.aload_n 0, 1) := by decide +kernel
theorem dX4_openAt_18 : decode cX4_openAt 18 = .ok (.getfield 15, 3) := by decide +kernel
theorem dX4_openAt_21 : decode cX4_openAt 21 = .ok (.if_icmp .ge 36, 3) := by decide +kernel
theorem dX4_openAt_24 : decode cX4_openAt 24 = .ok (.aload_n 0, 1) := by decide +kernel
theorem dX4_openAt_25 : decode cX4_openAt 25 = .ok (.iload 5, 2) := by decide +kernel
theorem dX4_openAt_27 : decode cX4_openAt 27 = .ok (.iload_n 1, 1) := by decide +kernel
theorem dX4_openAt_28 : decode cX4_openAt 28 = .ok (.bipush 6, 2) := by decide +kernel
theorem dX4_openAt_30 : decode cX4_openAt 30 = .ok (.imul, 1) := by decide +kernel
theorem dX4_openAt_31 : decode cX4_openAt 31 = .ok (.iload 4, 2) := by decide +kernel
theorem dX4_openAt_33 : decode cX4_openAt 33 = .ok (.iadd, 1) := by decide +kernel
theorem dX4_openAt_34 : decode cX4_openAt 34 = .ok (.invokevirtual 139, 3) := by decide +kernel
theorem dX4_openAt_37 : decode cX4_openAt 37 = .ok (.ifCond .eq 14, 3) := by decide +kernel
theorem dX4_openAt_40 : decode cX4_openAt 40 = .ok (.iload_n 3, 1) := by decide +kernel
theorem dX4_openAt_41 : decode cX4_openAt 41 = .ok (.iload_n 2, 1) := by decide +kernel
theorem dX4_openAt_42 : decode cX4_openAt 42 = .ok (.if_icmp .ne 6, 3) := by decide +kernel
theorem dX4_openAt_45 : decode cX4_openAt 45 = .ok (.iload 5, 2) := by decide +kernel
theorem dX4_openAt_47 : decode cX4_openAt 47 = .ok (.ireturn, 1) := by decide +kernel
theorem dX4_openAt_48 : decode cX4_openAt 48 = .ok (.iinc 3 1, 3) := by decide +kernel
theorem dX4_openAt_51 : decode cX4_openAt 51 = .ok (.iinc 5 1, 3) := by decide +kernel
theorem dX4_openAt_54 : decode cX4_openAt 54 = .ok (.goto (-39), 3) := by decide +kernel
theorem dX4_openAt_57 : decode cX4_openAt 57 = .ok (.iinc 4 1, 3) := by decide +kernel
theorem dX4_openAt_60 : decode cX4_openAt 60 = .ok (.goto (-55), 3) := by decide +kernel
theorem dX4_openAt_63 : decode cX4_openAt 63 = .ok (.iconst (-1), 1) := by decide +kernel
theorem dX4_openAt_64 : decode cX4_openAt 64 = .ok (.ireturn, 1) := by decide +kernel
theorem dX4_isOpenIn_0 : decode cX4_isOpenIn 0 = .ok (.aload_n 0, 1) := by decide +kernel
theorem dX4_isOpenIn_1 : decode cX4_isOpenIn 1 = .ok (.getfield 46, 3) := by decide +kernel
theorem dX4_isOpenIn_4 : decode cX4_isOpenIn 4 = .ok (.iload_n 1, 1) := by decide +kernel
theorem dX4_isOpenIn_5 : decode cX4_isOpenIn 5 = .ok (.invokestatic 85, 3) := by decide +kernel
theorem dX4_isOpenIn_8 : decode cX4_isOpenIn 8 = .ok (.iload_n 2, 1) := by decide +kernel
theorem dX4_isOpenIn_9 : decode cX4_isOpenIn 9 = .ok (.if_icmp .ne 16, 3) := by decide +kernel
theorem dX4_isOpenIn_12 : decode cX4_isOpenIn 12 = .ok (.aload_n 0, 1) := by decide +kernel
theorem dX4_isOpenIn_13 : decode cX4_isOpenIn 13 = .ok (.iload_n 1, 1) := by decide +kernel
theorem dX4_isOpenIn_14 : decode cX4_isOpenIn 14 = .ok (.invokevirtual 100, 3) := by decide +kernel
theorem dX4_isOpenIn_17 : decode cX4_isOpenIn 17 = .ok (.iconst 3, 1) := by decide +kernel
theorem dX4_isOpenIn_18 : decode cX4_isOpenIn 18 = .ok (.if_icmp .ne 7, 3) := by decide +kernel
theorem dX4_isOpenIn_21 : decode cX4_isOpenIn 21 = .ok (.iconst 1, 1) := by decide +kernel
theorem dX4_isOpenIn_22 : decode cX4_isOpenIn 22 = .ok (.goto 4, 3) := by decide +kernel
theorem dX4_isOpenIn_25 : decode cX4_isOpenIn 25 = .ok (.iconst 0, 1) := by decide +kernel
theorem dX4_isOpenIn_26 : decode cX4_isOpenIn 26 = .ok (.ireturn, 1) := by decide +kernel
theorem dX4_areTogether_0 : decode cX4_areTogether 0 = .ok (.aload_n 0, 1) := by decide +kernel
theorem dX4_areTogether_1 : decode cX4_areTogether 1 = .ok (.getfield 46, 3) := by decide +kernel
theorem dX4_areTogether_4 : decode cX4_areTogether 4 = .ok (.iload_n 1, 1) := by decide +kernel
theorem dX4_areTogether_5 : decode cX4_areTogether 5 = .ok (.invokestatic 85, 3) := by decide +kernel
theorem dX4_areTogether_8 : decode cX4_areTogether 8 = .ok (.aload_n 0, 1) := by decide +kernel
theorem dX4_areTogether_9 : decode cX4_areTogether 9 = .ok (.getfield 46, 3) := by decide +kernel
theorem dX4_areTogether_12 : decode cX4_areTogether 12 = .ok (.iload_n 2, 1) := by decide +kernel
theorem dX4_areTogether_13 : decode cX4_areTogether 13 = .ok (.invokestatic 85, 3) := by decide +kernel
theorem dX4_areTogether_16 : decode cX4_areTogether 16 = .ok (.if_icmp .ne 7, 3) := by decide +kernel
theorem dX4_areTogether_19 : decode cX4_areTogether 19 = .ok (.iconst 1, 1) := by decide +kernel
theorem dX4_areTogether_20 : decode cX4_areTogether 20 = .ok (.goto 4, 3) := by decide +kernel
theorem dX4_areTogether_23 : decode cX4_areTogether 23 = .ok (.iconst 0, 1) := by decide +kernel
theorem dX4_areTogether_24 : decode cX4_areTogether 24 = .ok (.ireturn, 1) := by decide +kernel
theorem dX4_sizeOf_0 : decode cX4_sizeOf 0 = .ok (.aload_n 0, 1) := by decide +kernel
theorem dX4_sizeOf_1 : decode cX4_sizeOf 1 = .ok (.getfield 40, 3) := by decide +kernel
theorem dX4_sizeOf_4 : decode cX4_sizeOf 4 = .ok (.aload_n 0, 1) := by decide +kernel
theorem dX4_sizeOf_5 : decode cX4_sizeOf 5 = .ok (.getfield 49, 3) := by decide +kernel
theorem dX4_sizeOf_8 : decode cX4_sizeOf 8 = .ok (.iload_n 1, 1) := by decide +kernel
theorem dX4_sizeOf_9 : decode cX4_sizeOf 9 = .ok (.invokestatic 85, 3) := by decide +kernel
theorem dX4_sizeOf_12 : decode cX4_sizeOf 12 = .ok (.invokestatic 85, 3) := by decide +kernel
theorem dX4_sizeOf_15 : decode cX4_sizeOf 15 = .ok (.ireturn, 1) := by decide +kernel
theorem dX4_capacityOf_0 : decode cX4_capacityOf 0 = .ok (.aload_n 0, 1) := by decide +kernel
theorem dX4_capacityOf_1 : decode cX4_capacityOf 1 = .ok (.getfield 43, 3) := by decide +kernel
theorem dX4_capacityOf_4 : decode cX4_capacityOf 4 = .ok (.aload_n 0, 1) := by decide +kernel
theorem dX4_capacityOf_5 : decode cX4_capacityOf 5 = .ok (.getfield 58, 3) := by decide +kernel
theorem dX4_capacityOf_8 : decode cX4_capacityOf 8 = .ok (.iload_n 1, 1) := by decide +kernel
theorem dX4_capacityOf_9 : decode cX4_capacityOf 9 = .ok (.invokestatic 85, 3) := by decide +kernel
theorem dX4_capacityOf_12 : decode cX4_capacityOf 12 = .ok (.invokestatic 85, 3) := by decide +kernel
theorem dX4_capacityOf_15 : decode cX4_capacityOf 15 = .ok (.ireturn, 1) := by decide +kernel
theorem dX4_firstPart_0 : decode cX4_firstPart 0 = .ok (.aload_n 0, 1) := by decide +kernel
theorem dX4_firstPart_1 : decode cX4_firstPart 1 = .ok (.iload_n 1, 1) := by decide +kernel
theorem dX4_firstPart_2 : decode cX4_firstPart 2 = .ok (.invokevirtual 142, 3) := by decide +kernel
theorem dX4_firstPart_5 : decode cX4_firstPart 5 = .ok (.iconst 1, 1) := by decide +kernel
theorem dX4_firstPart_6 : decode cX4_firstPart 6 = .ok (.iadd, 1) := by decide +kernel
theorem dX4_firstPart_7 : decode cX4_firstPart 7 = .ok (.iconst 2, 1) := by decide +kernel
theorem dX4_firstPart_8 : decode cX4_firstPart 8 = .ok (.idiv, 1) := by decide +kernel
theorem dX4_firstPart_9 : decode cX4_firstPart 9 = .ok (.ireturn, 1) := by decide +kernel
theorem dX4_secondPart_0 : decode cX4_secondPart 0 = .ok (.aload_n 0, 1) := by decide +kernel
theorem dX4_secondPart_1 : decode cX4_secondPart 1 = .ok (.iload_n 1, 1) := by decide +kernel
theorem dX4_secondPart_2 : decode cX4_secondPart 2 = .ok (.invokevirtual 142, 3) := by decide +kernel
theorem dX4_secondPart_5 : decode cX4_secondPart 5 = .ok (.iconst 2, 1) := by decide +kernel
theorem dX4_secondPart_6 : decode cX4_secondPart 6 = .ok (.idiv, 1) := by decide +kernel
theorem dX4_secondPart_7 : decode cX4_secondPart 7 = .ok (.ireturn, 1) := by decide +kernel
theorem dX4_guestsOf_0 : decode cX4_guestsOf 0 = .ok (.iconst 0, 1) := by decide +kernel
theorem dX4_guestsOf_1 : decode cX4_guestsOf 1 = .ok (.istore_n 2, 1) := by decide +kernel
theorem dX4_guestsOf_2 : decode cX4_guestsOf 2 = .ok (.iconst 0, 1) := by decide +kernel
theorem dX4_guestsOf_3 : decode cX4_guestsOf 3 = .ok (.istore_n 3, 1) := by decide +kernel
theorem dX4_guestsOf_4 : decode cX4_guestsOf 4 = .ok (.iload_n 3, 1) := by decide +kernel
theorem dX4_guestsOf_5 : decode cX4_guestsOf 5 = .ok (.aload_n 0, 1) := by decide +kernel
theorem dX4_guestsOf_6 : decode cX4_guestsOf 6 = .ok (.getfield 15, 3) := by decide +kernel
theorem dX4_guestsOf_9 : decode cX4_guestsOf 9 = .ok (.if_icmp .ge 49, 3) := by decide +kernel
theorem dX4_guestsOf_12 : decode cX4_guestsOf 12 = .ok (.aload_n 0, 1) := by decide +kernel
theorem dX4_guestsOf_13 : decode cX4_guestsOf 13 = .ok (.getfield 64, 3) := by decide +kernel
theorem dX4_guestsOf_16 : decode cX4_guestsOf 16 = .ok (.iload_n 3, 1) := by decide +kernel
theorem dX4_guestsOf_17 : decode cX4_guestsOf 17 = .ok (.invokestatic 85, 3) := by decide +kernel
theorem dX4_guestsOf_20 : decode cX4_guestsOf 20 = .ok (.iload_n 1, 1) := by decide +kernel
theorem dX4_guestsOf_21 : decode cX4_guestsOf 21 = .ok (.if_icmp .ne 11, 3) := by decide +kernel
theorem dX4_guestsOf_24 : decode cX4_guestsOf 24 = .ok (.iload_n 2, 1) := by decide +kernel
theorem dX4_guestsOf_25 : decode cX4_guestsOf 25 = .ok (.aload_n 0, 1) := by decide +kernel
theorem dX4_guestsOf_26 : decode cX4_guestsOf 26 = .ok (.iload_n 3, 1) := by decide +kernel
theorem dX4_guestsOf_27 : decode cX4_guestsOf 27 = .ok (.invokevirtual 145, 3) := by decide +kernel
theorem dX4_guestsOf_30 : decode cX4_guestsOf 30 = .ok (.iadd, 1) := by decide +kernel
theorem dX4_guestsOf_31 : decode cX4_guestsOf 31 = .ok (.istore_n 2, 1) := by decide +kernel
theorem dX4_guestsOf_32 : decode cX4_guestsOf 32 = .ok (.aload_n 0, 1) := by decide +kernel
theorem dX4_guestsOf_33 : decode cX4_guestsOf 33 = .ok (.getfield 67, 3) := by decide +kernel
theorem dX4_guestsOf_36 : decode cX4_guestsOf 36 = .ok (.iload_n 3, 1) := by decide +kernel
theorem dX4_guestsOf_37 : decode cX4_guestsOf 37 = .ok (.invokestatic 85, 3) := by decide +kernel
theorem dX4_guestsOf_40 : decode cX4_guestsOf 40 = .ok (.iload_n 1, 1) := by decide +kernel
theorem dX4_guestsOf_41 : decode cX4_guestsOf 41 = .ok (.if_icmp .ne 11, 3) := by decide +kernel
theorem dX4_guestsOf_44 : decode cX4_guestsOf 44 = .ok (.iload_n 2, 1) := by decide +kernel
theorem dX4_guestsOf_45 : decode cX4_guestsOf 45 = .ok (.aload_n 0, 1) := by decide +kernel
theorem dX4_guestsOf_46 : decode cX4_guestsOf 46 = .ok (.iload_n 3, 1) := by decide +kernel
theorem dX4_guestsOf_47 : decode cX4_guestsOf 47 = .ok (.invokevirtual 148, 3) := by decide +kernel
theorem dX4_guestsOf_50 : decode cX4_guestsOf 50 = .ok (.iadd, 1) := by decide +kernel
theorem dX4_guestsOf_51 : decode cX4_guestsOf 51 = .ok (.istore_n 2, 1) := by decide +kernel
theorem dX4_guestsOf_52 : decode cX4_guestsOf 52 = .ok (.iinc 3 1, 3) := by decide +kernel
theorem dX4_guestsOf_55 : decode cX4_guestsOf 55 = .ok (.goto (-51), 3) := by decide +kernel
theorem dX4_guestsOf_58 : decode cX4_guestsOf 58 = .ok (.iload_n 2, 1) := by decide +kernel
theorem dX4_guestsOf_59 : decode cX4_guestsOf 59 = .ok (.ireturn, 1) := by decide +kernel
theorem dX4_loadOf_0 : decode cX4_loadOf 0 = .ok (.aload_n 0, 1) := by decide +kernel
theorem dX4_loadOf_1 : decode cX4_loadOf 1 = .ok (.iload_n 1, 1) := by decide +kernel
theorem dX4_loadOf_2 : decode cX4_loadOf 2 = .ok (.invokevirtual 142, 3) := by decide +kernel
theorem dX4_loadOf_5 : decode cX4_loadOf 5 = .ok (.aload_n 0, 1) := by decide +kernel
theorem dX4_loadOf_6 : decode cX4_loadOf 6 = .ok (.iload_n 1, 1) := by decide +kernel
theorem dX4_loadOf_7 : decode cX4_loadOf 7 = .ok (.invokevirtual 151, 3) := by decide +kernel
theorem dX4_loadOf_10 : decode cX4_loadOf 10 = .ok (.iadd, 1) := by decide +kernel
theorem dX4_loadOf_11 : decode cX4_loadOf 11 = .ok (.ireturn, 1) := by decide +kernel
theorem dX4_canHost_0 : decode cX4_canHost 0 = .ok (.aload_n 0, 1) := by decide +kernel
theorem dX4_canHost_1 : decode cX4_canHost 1 = .ok (.iload_n 1, 1) := by decide +kernel
theorem dX4_canHost_2 : decode cX4_canHost 2 = .ok (.invokevirtual 123, 3) := by decide +kernel
theorem dX4_canHost_5 : decode cX4_canHost 5 = .ok (.iconst (-1), 1) := by decide +kernel
theorem dX4_canHost_6 : decode cX4_canHost 6 = .ok (.if_icmp .eq 22, 3) := by decide +kernel
theorem dX4_canHost_9 : decode cX4_canHost 9 = .ok (.aload_n 0, 1) := by decide +kernel
theorem dX4_canHost_10 : decode cX4_canHost 10 = .ok (.iload_n 1, 1) := by decide +kernel
theorem dX4_canHost_11 : decode cX4_canHost 11 = .ok (.invokevirtual 154, 3) := by decide +kernel
theorem dX4_canHost_14 : decode cX4_canHost 14 = .ok (.iload_n 2, 1) := by decide +kernel
theorem dX4_canHost_15 : decode cX4_canHost 15 = .ok (.iadd, 1) := by decide +kernel
theorem dX4_canHost_16 : decode cX4_canHost 16 = .ok (.aload_n 0, 1) := by decide +kernel
theorem dX4_canHost_17 : decode cX4_canHost 17 = .ok (.iload_n 1, 1) := by decide +kernel
theorem dX4_canHost_18 : decode cX4_canHost 18 = .ok (.invokevirtual 157, 3) := by decide +kernel
theorem dX4_canHost_21 : decode cX4_canHost 21 = .ok (.if_icmp .gt 7, 3) := by decide +kernel
theorem dX4_canHost_24 : decode cX4_canHost 24 = .ok (.iconst 1, 1) := by decide +kernel
theorem dX4_canHost_25 : decode cX4_canHost 25 = .ok (.goto 4, 3) := by decide +kernel
theorem dX4_canHost_28 : decode cX4_canHost 28 = .ok (.iconst 0, 1) := by decide +kernel
theorem dX4_canHost_29 : decode cX4_canHost 29 = .ok (.ireturn, 1) := by decide +kernel
theorem dX4_allowsSize_0 : decode cX4_allowsSize 0 = .ok (.iconst 0, 1) := by decide +kernel
theorem dX4_allowsSize_1 : decode cX4_allowsSize 1 = .ok (.istore_n 3, 1) := by decide +kernel
theorem dX4_allowsSize_2 : decode cX4_allowsSize 2 = .ok (.iload_n 3, 1) := by decide +kernel
theorem dX4_allowsSize_3 : decode cX4_allowsSize 3 = .ok (.aload_n 0, 1) := by decide +kernel
theorem dX4_allowsSize_4 : decode cX4_allowsSize 4 = .ok (.getfield 15, 3) := by decide +kernel
theorem dX4_allowsSize_7 : decode cX4_allowsSize 7 = .ok (.if_icmp .ge 47, 3) := by decide +kernel
theorem dX4_allowsSize_10 : decode cX4_allowsSize 10 = .ok (.aload_n 0, 1) := by decide +kernel
theorem dX4_allowsSize_11 : decode cX4_allowsSize 11 = .ok (.getfield 49, 3) := by decide +kernel
theorem dX4_allowsSize_14 : decode cX4_allowsSize 14 = .ok (.iload_n 3, 1) := by decide +kernel
theorem dX4_allowsSize_15 : decode cX4_allowsSize 15 = .ok (.invokestatic 85, 3) := by decide +kernel
theorem dX4_allowsSize_18 : decode cX4_allowsSize 18 = .ok (.iload_n 1, 1) := by decide +kernel
theorem dX4_allowsSize_19 : decode cX4_allowsSize 19 = .ok (.if_icmp .ne 29, 3) := by decide +kernel
theorem dX4_allowsSize_22 : decode cX4_allowsSize 22 = .ok (.aload_n 0, 1) := by decide +kernel
theorem dX4_allowsSize_23 : decode cX4_allowsSize 23 = .ok (.iload_n 3, 1) := by decide +kernel
theorem dX4_allowsSize_24 : decode cX4_allowsSize 24 = .ok (.invokevirtual 100, 3) := by decide +kernel
theorem dX4_allowsSize_27 : decode cX4_allowsSize 27 = .ok (.iconst 2, 1) := by decide +kernel
theorem dX4_allowsSize_28 : decode cX4_allowsSize 28 = .ok (.if_icmp .eq 18, 3) := by decide +kernel
theorem dX4_allowsSize_31 : decode cX4_allowsSize 31 = .ok (.iload_n 2, 1) := by decide +kernel
theorem dX4_allowsSize_32 : decode cX4_allowsSize 32 = .ok (.aload_n 0, 1) := by decide +kernel
theorem dX4_allowsSize_33 : decode cX4_allowsSize 33 = .ok (.iload_n 3, 1) := by decide +kernel
theorem dX4_allowsSize_34 : decode cX4_allowsSize 34 = .ok (.invokevirtual 151, 3) := by decide +kernel
theorem dX4_allowsSize_37 : decode cX4_allowsSize 37 = .ok (.iadd, 1) := by decide +kernel
theorem dX4_allowsSize_38 : decode cX4_allowsSize 38 = .ok (.aload_n 0, 1) := by decide +kernel
theorem dX4_allowsSize_39 : decode cX4_allowsSize 39 = .ok (.iload_n 3, 1) := by decide +kernel
theorem dX4_allowsSize_40 : decode cX4_allowsSize 40 = .ok (.invokevirtual 157, 3) := by decide +kernel
theorem dX4_allowsSize_43 : decode cX4_allowsSize 43 = .ok (.if_icmp .le 5, 3) := by decide +kernel
theorem dX4_allowsSize_46 : decode cX4_allowsSize 46 = .ok (.iconst 0, 1) := by decide +kernel
theorem dX4_allowsSize_47 : decode cX4_allowsSize 47 = .ok (.ireturn, 1) := by decide +kernel
theorem dX4_allowsSize_48 : decode cX4_allowsSize 48 = .ok (.iinc 3 1, 3) := by decide +kernel
theorem dX4_allowsSize_51 : decode cX4_allowsSize 51 = .ok (.goto (-49), 3) := by decide +kernel
theorem dX4_allowsSize_54 : decode cX4_allowsSize 54 = .ok (.iconst 1, 1) := by decide +kernel
theorem dX4_allowsSize_55 : decode cX4_allowsSize 55 = .ok (.ireturn, 1) := by decide +kernel
theorem dX4_allowsCapacity_0 : decode cX4_allowsCapacity 0 = .ok (.iconst 0, 1) := by decide +kernel
theorem dX4_allowsCapacity_1 : decode cX4_allowsCapacity 1 = .ok (.istore_n 3, 1) := by decide +kernel
theorem dX4_allowsCapacity_2 : decode cX4_allowsCapacity 2 = .ok (.iload_n 3, 1) := by decide +kernel
theorem dX4_allowsCapacity_3 : decode cX4_allowsCapacity 3 = .ok (.aload_n 0, 1) := by decide +kernel
theorem dX4_allowsCapacity_4 : decode cX4_allowsCapacity 4 = .ok (.getfield 15, 3) := by decide +kernel
theorem dX4_allowsCapacity_7 : decode cX4_allowsCapacity 7 = .ok (.if_icmp .ge 32, 3) := by decide +kernel
theorem dX4_allowsCapacity_10 : decode cX4_allowsCapacity 10 = .ok (.aload_n 0, 1) := by decide +kernel
theorem dX4_allowsCapacity_11 : decode cX4_allowsCapacity 11 = .ok (.getfield 58, 3) := by decide +kernel
theorem dX4_allowsCapacity_14 : decode cX4_allowsCapacity 14 = .ok (.iload_n 3, 1) := by decide +kernel
theorem dX4_allowsCapacity_15 : decode cX4_allowsCapacity 15 = .ok (.invokestatic 85, 3) := by decide +kernel
theorem dX4_allowsCapacity_18 : decode cX4_allowsCapacity 18 = .ok (.iload_n 1, 1) := by decide +kernel
theorem dX4_allowsCapacity_19 : decode cX4_allowsCapacity 19 = .ok (.if_icmp .ne 14, 3) := by decide +kernel
theorem dX4_allowsCapacity_22 : decode cX4_allowsCapacity 22 = .ok (.aload_n 0, 1) := by decide +kernel
theorem dX4_allowsCapacity_23 : decode cX4_allowsCapacity 23 = .ok (.iload_n 3, 1) := by decide +kernel
theorem dX4_allowsCapacity_24 : decode cX4_allowsCapacity 24 = .ok (.invokevirtual 154, 3) := by decide +kernel
theorem dX4_allowsCapacity_27 : decode cX4_allowsCapacity 27 = .ok (.iload_n 2, 1) := by decide +kernel
theorem dX4_allowsCapacity_28 : decode cX4_allowsCapacity 28 = .ok (.if_icmp .le 5, 3) := by decide +kernel
theorem dX4_allowsCapacity_31 : decode cX4_allowsCapacity 31 = .ok (.iconst 0, 1) := by decide +kernel
theorem dX4_allowsCapacity_32 : decode cX4_allowsCapacity 32 = .ok (.ireturn, 1) := by decide +kernel
theorem dX4_allowsCapacity_33 : decode cX4_allowsCapacity 33 = .ok (.iinc 3 1, 3) := by decide +kernel
theorem dX4_allowsCapacity_36 : decode cX4_allowsCapacity 36 = .ok (.goto (-34), 3) := by decide +kernel
theorem dX4_allowsCapacity_39 : decode cX4_allowsCapacity 39 = .ok (.iconst 1, 1) := by decide +kernel
theorem dX4_allowsCapacity_40 : decode cX4_allowsCapacity 40 = .ok (.ireturn, 1) := by decide +kernel
theorem dX4_allowsRoom_0 : decode cX4_allowsRoom 0 = .ok (.aload_n 0, 1) := by decide +kernel
theorem dX4_allowsRoom_1 : decode cX4_allowsRoom 1 = .ok (.aload_n 0, 1) := by decide +kernel
theorem dX4_allowsRoom_2 : decode cX4_allowsRoom 2 = .ok (.getfield 46, 3) := by decide +kernel
theorem dX4_allowsRoom_5 : decode cX4_allowsRoom 5 = .ok (.iload_n 1, 1) := by decide +kernel
theorem dX4_allowsRoom_6 : decode cX4_allowsRoom 6 = .ok (.invokestatic 85, 3) := by decide +kernel
theorem dX4_allowsRoom_9 : decode cX4_allowsRoom 9 = .ok (.aload_n 0, 1) := by decide +kernel
theorem dX4_allowsRoom_10 : decode cX4_allowsRoom 10 = .ok (.getfield 58, 3) := by decide +kernel
theorem dX4_allowsRoom_13 : decode cX4_allowsRoom 13 = .ok (.iload_n 2, 1) := by decide +kernel
theorem dX4_allowsRoom_14 : decode cX4_allowsRoom 14 = .ok (.invokevirtual 93, 3) := by decide +kernel
theorem dX4_allowsRoom_17 : decode cX4_allowsRoom 17 = .ok (.istore_n 3, 1) := by decide +kernel
theorem dX4_allowsRoom_18 : decode cX4_allowsRoom 18 = .ok (.iload_n 3, 1) := by decide +kernel
theorem dX4_allowsRoom_19 : decode cX4_allowsRoom 19 = .ok (.iconst (-1), 1) := by decide +kernel
theorem dX4_allowsRoom_20 : decode cX4_allowsRoom 20 = .ok (.if_icmp .eq 8, 3) := by decide +kernel
theorem dX4_allowsRoom_23 : decode cX4_allowsRoom 23 = .ok (.iload_n 3, 1) := by decide +kernel
theorem dX4_allowsRoom_24 : decode cX4_allowsRoom 24 = .ok (.iload_n 1, 1) := by decide +kernel
theorem dX4_allowsRoom_25 : decode cX4_allowsRoom 25 = .ok (.if_icmp .ne 23, 3) := by decide +kernel
theorem dX4_allowsRoom_28 : decode cX4_allowsRoom 28 = .ok (.aload_n 0, 1) := by decide +kernel
theorem dX4_allowsRoom_29 : decode cX4_allowsRoom 29 = .ok (.iload_n 1, 1) := by decide +kernel
theorem dX4_allowsRoom_30 : decode cX4_allowsRoom 30 = .ok (.invokevirtual 154, 3) := by decide +kernel
theorem dX4_allowsRoom_33 : decode cX4_allowsRoom 33 = .ok (.aload_n 0, 1) := by decide +kernel
theorem dX4_allowsRoom_34 : decode cX4_allowsRoom 34 = .ok (.getfield 43, 3) := by decide +kernel
theorem dX4_allowsRoom_37 : decode cX4_allowsRoom 37 = .ok (.iload_n 2, 1) := by decide +kernel
theorem dX4_allowsRoom_38 : decode cX4_allowsRoom 38 = .ok (.invokestatic 85, 3) := by decide +kernel
theorem dX4_allowsRoom_41 : decode cX4_allowsRoom 41 = .ok (.if_icmp .gt 7, 3) := by decide +kernel
theorem dX4_allowsRoom_44 : decode cX4_allowsRoom 44 = .ok (.iconst 1, 1) := by decide +kernel
theorem dX4_allowsRoom_45 : decode cX4_allowsRoom 45 = .ok (.goto 4, 3) := by decide +kernel
theorem dX4_allowsRoom_48 : decode cX4_allowsRoom 48 = .ok (.iconst 0, 1) := by decide +kernel
theorem dX4_allowsRoom_49 : decode cX4_allowsRoom 49 = .ok (.ireturn, 1) := by decide +kernel
theorem dX4_roomsFreeIn_0 : decode cX4_roomsFreeIn 0 = .ok (.iconst 0, 1) := by decide +kernel
theorem dX4_roomsFreeIn_1 : decode cX4_roomsFreeIn 1 = .ok (.istore_n 2, 1) := by decide +kernel
theorem dX4_roomsFreeIn_2 : decode cX4_roomsFreeIn 2 = .ok (.iconst 0, 1) := by decide +kernel
theorem dX4_roomsFreeIn_3 : decode cX4_roomsFreeIn 3 = .ok (.istore_n 3, 1) := by decide +kernel
theorem dX4_roomsFreeIn_4 : decode cX4_roomsFreeIn 4 = .ok (.iload_n 3, 1) := by decide +kernel
theorem dX4_roomsFreeIn_5 : decode cX4_roomsFreeIn 5 = .ok (.bipush 6, 2) := by decide +kernel
theorem dX4_roomsFreeIn_7 : decode cX4_roomsFreeIn 7 = .ok (.if_icmp .ge 29, 3) := by decide +kernel
theorem dX4_roomsFreeIn_10 : decode cX4_roomsFreeIn 10 = .ok (.aload_n 0, 1) := by decide +kernel
theorem dX4_roomsFreeIn_11 : decode cX4_roomsFreeIn 11 = .ok (.iload_n 1, 1) := by decide +kernel
theorem dX4_roomsFreeIn_12 : decode cX4_roomsFreeIn 12 = .ok (.aload_n 0, 1) := by decide +kernel
theorem dX4_roomsFreeIn_13 : decode cX4_roomsFreeIn 13 = .ok (.getfield 58, 3) := by decide +kernel
theorem dX4_roomsFreeIn_16 : decode cX4_roomsFreeIn 16 = .ok (.iload_n 3, 1) := by decide +kernel
theorem dX4_roomsFreeIn_17 : decode cX4_roomsFreeIn 17 = .ok (.invokevirtual 93, 3) := by decide +kernel
theorem dX4_roomsFreeIn_20 : decode cX4_roomsFreeIn 20 = .ok (.iconst (-1), 1) := by decide +kernel
theorem dX4_roomsFreeIn_21 : decode cX4_roomsFreeIn 21 = .ok (.if_icmp .ne 9, 3) := by decide +kernel
theorem dX4_roomsFreeIn_24 : decode cX4_roomsFreeIn 24 = .ok (.iload_n 2, 1) := by decide +kernel
theorem dX4_roomsFreeIn_25 : decode cX4_roomsFreeIn 25 = .ok (.iconst 1, 1) := by decide +kernel
theorem dX4_roomsFreeIn_26 : decode cX4_roomsFreeIn 26 = .ok (.iload_n 3, 1) := by decide +kernel
theorem dX4_roomsFreeIn_27 : decode cX4_roomsFreeIn 27 = .ok (.ishl, 1) := by decide +kernel
theorem dX4_roomsFreeIn_28 : decode cX4_roomsFreeIn 28 = .ok (.ior, 1) := by decide +kernel
theorem dX4_roomsFreeIn_29 : decode cX4_roomsFreeIn 29 = .ok (.istore_n 2, 1) := by decide +kernel
theorem dX4_roomsFreeIn_30 : decode cX4_roomsFreeIn 30 = .ok (.iinc 3 1, 3) := by decide +kernel
theorem dX4_roomsFreeIn_33 : decode cX4_roomsFreeIn 33 = .ok (.goto (-29), 3) := by decide +kernel
theorem dX4_roomsFreeIn_36 : decode cX4_roomsFreeIn 36 = .ok (.iload_n 2, 1) := by decide +kernel
theorem dX4_roomsFreeIn_37 : decode cX4_roomsFreeIn 37 = .ok (.ireturn, 1) := by decide +kernel
theorem dX4_reasonAgainst_0 : decode cX4_reasonAgainst 0 = .ok (.aload_n 0, 1) := by decide +kernel
theorem dX4_reasonAgainst_1 : decode cX4_reasonAgainst 1 = .ok (.getfield 46, 3) := by decide +kernel
theorem dX4_reasonAgainst_4 : decode cX4_reasonAgainst 4 = .ok (.iload_n 1, 1) := by decide +kernel
theorem dX4_reasonAgainst_5 : decode cX4_reasonAgainst 5 = .ok (.invokestatic 85, 3) := by decide +kernel
theorem dX4_reasonAgainst_8 : decode cX4_reasonAgainst 8 = .ok (.istore_n 3, 1) := by decide +kernel
theorem dX4_reasonAgainst_9 : decode cX4_reasonAgainst 9 = .ok (.aload_n 0, 1) := by decide +kernel
theorem dX4_reasonAgainst_10 : decode cX4_reasonAgainst 10 = .ok (.getfield 55, 3) := by decide +kernel
theorem dX4_reasonAgainst_13 : decode cX4_reasonAgainst 13 = .ok (.iload_n 1, 1) := by decide +kernel
theorem dX4_reasonAgainst_14 : decode cX4_reasonAgainst 14 = .ok (.invokestatic 85, 3) := by decide +kernel
theorem dX4_reasonAgainst_17 : decode cX4_reasonAgainst 17 = .ok (.iload_n 2, 1) := by decide +kernel
theorem dX4_reasonAgainst_18 : decode cX4_reasonAgainst 18 = .ok (.if_icmp .ne 5, 3) := by decide +kernel
theorem dX4_reasonAgainst_21 : decode cX4_reasonAgainst 21 = .ok (.iconst 1, 1) := by decide +kernel
theorem dX4_reasonAgainst_22 : decode cX4_reasonAgainst 22 = .ok (.ireturn, 1) := by decide +kernel
theorem dX4_reasonAgainst_23 : decode cX4_reasonAgainst 23 = .ok (.aload_n 0, 1) := by decide +kernel
theorem dX4_reasonAgainst_24 : decode cX4_reasonAgainst 24 = .ok (.iload_n 2, 1) := by decide +kernel
theorem dX4_reasonAgainst_25 : decode cX4_reasonAgainst 25 = .ok (.iload_n 3, 1) := by decide +kernel
theorem dX4_reasonAgainst_26 : decode cX4_reasonAgainst 26 = .ok (.invokevirtual 89, 3) := by decide +kernel
theorem dX4_reasonAgainst_29 : decode cX4_reasonAgainst 29 = .ok (.ifCond .eq 5, 3) := by decide +kernel
theorem dX4_reasonAgainst_32 : decode cX4_reasonAgainst 32 = .ok (.iconst 2, 1) := by decide +kernel
theorem dX4_reasonAgainst_33 : decode cX4_reasonAgainst 33 = .ok (.ireturn, 1) := by decide +kernel
theorem dX4_reasonAgainst_34 : decode cX4_reasonAgainst 34 = .ok (.aload_n 0, 1) := by decide +kernel
theorem dX4_reasonAgainst_35 : decode cX4_reasonAgainst 35 = .ok (.iload_n 3, 1) := by decide +kernel
theorem dX4_reasonAgainst_36 : decode cX4_reasonAgainst 36 = .ok (.aload_n 0, 1) := by decide +kernel
theorem dX4_reasonAgainst_37 : decode cX4_reasonAgainst 37 = .ok (.getfield 55, 3) := by decide +kernel
theorem dX4_reasonAgainst_40 : decode cX4_reasonAgainst 40 = .ok (.iload_n 2, 1) := by decide +kernel
theorem dX4_reasonAgainst_41 : decode cX4_reasonAgainst 41 = .ok (.invokevirtual 93, 3) := by decide +kernel
theorem dX4_reasonAgainst_44 : decode cX4_reasonAgainst 44 = .ok (.iconst (-1), 1) := by decide +kernel
theorem dX4_reasonAgainst_45 : decode cX4_reasonAgainst 45 = .ok (.if_icmp .eq 5, 3) := by decide +kernel
theorem dX4_reasonAgainst_48 : decode cX4_reasonAgainst 48 = .ok (.iconst 3, 1) := by decide +kernel
theorem dX4_reasonAgainst_49 : decode cX4_reasonAgainst 49 = .ok (.ireturn, 1) := by decide +kernel
theorem dX4_reasonAgainst_50 : decode cX4_reasonAgainst 50 = .ok (.aload_n 0, 1) := by decide +kernel
theorem dX4_reasonAgainst_51 : decode cX4_reasonAgainst 51 = .ok (.iload_n 3, 1) := by decide +kernel
theorem dX4_reasonAgainst_52 : decode cX4_reasonAgainst 52 = .ok (.aload_n 0, 1) := by decide +kernel
theorem dX4_reasonAgainst_53 : decode cX4_reasonAgainst 53 = .ok (.getfield 61, 3) := by decide +kernel
theorem dX4_reasonAgainst_56 : decode cX4_reasonAgainst 56 = .ok (.iload_n 2, 1) := by decide +kernel
theorem dX4_reasonAgainst_57 : decode cX4_reasonAgainst 57 = .ok (.invokevirtual 93, 3) := by decide +kernel
theorem dX4_reasonAgainst_60 : decode cX4_reasonAgainst 60 = .ok (.iconst (-1), 1) := by decide +kernel
theorem dX4_reasonAgainst_61 : decode cX4_reasonAgainst 61 = .ok (.if_icmp .eq 5, 3) := by decide +kernel
theorem dX4_reasonAgainst_64 : decode cX4_reasonAgainst 64 = .ok (.iconst 4, 1) := by decide +kernel
theorem dX4_reasonAgainst_65 : decode cX4_reasonAgainst 65 = .ok (.ireturn, 1) := by decide +kernel
theorem dX4_reasonAgainst_66 : decode cX4_reasonAgainst 66 = .ok (.aload_n 0, 1) := by decide +kernel
theorem dX4_reasonAgainst_67 : decode cX4_reasonAgainst 67 = .ok (.iload_n 2, 1) := by decide +kernel
theorem dX4_reasonAgainst_68 : decode cX4_reasonAgainst 68 = .ok (.aload_n 0, 1) := by decide +kernel
theorem dX4_reasonAgainst_69 : decode cX4_reasonAgainst 69 = .ok (.iload_n 1, 1) := by decide +kernel
theorem dX4_reasonAgainst_70 : decode cX4_reasonAgainst 70 = .ok (.invokevirtual 108, 3) := by decide +kernel
theorem dX4_reasonAgainst_73 : decode cX4_reasonAgainst 73 = .ok (.invokevirtual 104, 3) := by decide +kernel
theorem dX4_reasonAgainst_76 : decode cX4_reasonAgainst 76 = .ok (.aload_n 0, 1) := by decide +kernel
theorem dX4_reasonAgainst_77 : decode cX4_reasonAgainst 77 = .ok (.getfield 31, 3) := by decide +kernel
theorem dX4_reasonAgainst_80 : decode cX4_reasonAgainst 80 = .ok (.iload_n 2, 1) := by decide +kernel
theorem dX4_reasonAgainst_81 : decode cX4_reasonAgainst 81 = .ok (.invokestatic 85, 3) := by decide +kernel
theorem dX4_reasonAgainst_84 : decode cX4_reasonAgainst 84 = .ok (.if_icmp .lt 7, 3) := by decide +kernel
theorem dX4_reasonAgainst_87 : decode cX4_reasonAgainst 87 = .ok (.iconst 5, 1) := by decide +kernel
theorem dX4_reasonAgainst_88 : decode cX4_reasonAgainst 88 = .ok (.goto 4, 3) := by decide +kernel
theorem dX4_reasonAgainst_91 : decode cX4_reasonAgainst 91 = .ok (.iconst 0, 1) := by decide +kernel
theorem dX4_reasonAgainst_92 : decode cX4_reasonAgainst 92 = .ok (.ireturn, 1) := by decide +kernel
theorem dX4_bestFor_0 : decode cX4_bestFor 0 = .ok (.iconst (-1), 1) := by decide +kernel
theorem dX4_bestFor_1 : decode cX4_bestFor 1 = .ok (.istore_n 2, 1) := by decide +kernel
theorem dX4_bestFor_2 : decode cX4_bestFor 2 = .ok (.iconst 0, 1) := by decide +kernel
theorem dX4_bestFor_3 : decode cX4_bestFor 3 = .ok (.istore_n 3, 1) := by decide +kernel
theorem dX4_bestFor_4 : decode cX4_bestFor 4 = .ok (.iload_n 3, 1) := by decide +kernel
theorem dX4_bestFor_5 : decode cX4_bestFor 5 = .ok (.aload_n 0, 1) := by decide +kernel
theorem dX4_bestFor_6 : decode cX4_bestFor 6 = .ok (.getfield 9, 3) := by decide +kernel
theorem dX4_bestFor_9 : decode cX4_bestFor 9 = .ok (.if_icmp .ge 35, 3) := by decide +kernel
theorem dX4_bestFor_12 : decode cX4_bestFor 12 = .ok (.aload_n 0, 1) := by decide +kernel
theorem dX4_bestFor_13 : decode cX4_bestFor 13 = .ok (.iload_n 1, 1) := by decide +kernel
theorem dX4_bestFor_14 : decode cX4_bestFor 14 = .ok (.iload_n 3, 1) := by decide +kernel
theorem dX4_bestFor_15 : decode cX4_bestFor 15 = .ok (.invokevirtual 160, 3) := by decide +kernel
theorem dX4_bestFor_18 : decode cX4_bestFor 18 = .ok (.ifCond .ne 20, 3) := by decide +kernel
theorem dX4_bestFor_21 : decode cX4_bestFor 21 = .ok (.iload_n 2, 1) := by decide +kernel
theorem dX4_bestFor_22 : decode cX4_bestFor 22 = .ok (.iconst (-1), 1) := by decide +kernel
theorem dX4_bestFor_23 : decode cX4_bestFor 23 = .ok (.if_icmp .eq 13, 3) := by decide +kernel
theorem dX4_bestFor_26 : decode cX4_bestFor 26 = .ok (.aload_n 0, 1) := by decide +kernel
theorem dX4_bestFor_27 : decode cX4_bestFor 27 = .ok (.iload_n 1, 1) := by decide +kernel
theorem dX4_bestFor_28 : decode cX4_bestFor 28 = .ok (.iload_n 3, 1) := by decide +kernel
theorem dX4_bestFor_29 : decode cX4_bestFor 29 = .ok (.iload_n 2, 1) := by decide +kernel
theorem dX4_bestFor_30 : decode cX4_bestFor 30 = .ok (.invokevirtual 163, 3) := by decide +kernel
theorem dX4_bestFor_33 : decode cX4_bestFor 33 = .ok (.ifCond .eq 5, 3) := by decide +kernel
theorem dX4_bestFor_36 : decode cX4_bestFor 36 = .ok (.iload_n 3, 1) := by decide +kernel
theorem dX4_bestFor_37 : decode cX4_bestFor 37 = .ok (.istore_n 2, 1) := by decide +kernel
theorem dX4_bestFor_38 : decode cX4_bestFor 38 = .ok (.iinc 3 1, 3) := by decide +kernel
theorem dX4_bestFor_41 : decode cX4_bestFor 41 = .ok (.goto (-37), 3) := by decide +kernel
theorem dX4_bestFor_44 : decode cX4_bestFor 44 = .ok (.iload_n 2, 1) := by decide +kernel
theorem dX4_bestFor_45 : decode cX4_bestFor 45 = .ok (.ireturn, 1) := by decide +kernel
theorem dX4_isBetterFor_0 : decode cX4_isBetterFor 0 = .ok (.aload_n 0, 1) := by decide +kernel
theorem dX4_isBetterFor_1 : decode cX4_isBetterFor 1 = .ok (.iload_n 2, 1) := by decide +kernel
theorem dX4_isBetterFor_2 : decode cX4_isBetterFor 2 = .ok (.aload_n 0, 1) := by decide +kernel
theorem dX4_isBetterFor_3 : decode cX4_isBetterFor 3 = .ok (.getfield 52, 3) := by decide +kernel
theorem dX4_isBetterFor_6 : decode cX4_isBetterFor 6 = .ok (.iload_n 1, 1) := by decide +kernel
theorem dX4_isBetterFor_7 : decode cX4_isBetterFor 7 = .ok (.invokestatic 85, 3) := by decide +kernel
theorem dX4_isBetterFor_10 : decode cX4_isBetterFor 10 = .ok (.invokevirtual 117, 3) := by decide +kernel
theorem dX4_isBetterFor_13 : decode cX4_isBetterFor 13 = .ok (.istore 4, 2) := by decide +kernel
theorem dX4_isBetterFor_15 : decode cX4_isBetterFor 15 = .ok (.iload 4, 2) := by decide +kernel
theorem dX4_isBetterFor_17 : decode cX4_isBetterFor 17 = .ok (.aload_n 0, 1) := by decide +kernel
theorem dX4_isBetterFor_18 : decode cX4_isBetterFor 18 = .ok (.iload_n 3, 1) := by decide +kernel
theorem dX4_isBetterFor_19 : decode cX4_isBetterFor 19 = .ok (.aload_n 0, 1) := by decide +kernel
theorem dX4_isBetterFor_20 : decode cX4_isBetterFor 20 = .ok (.getfield 52, 3) := by decide +kernel
theorem dX4_isBetterFor_23 : decode cX4_isBetterFor 23 = .ok (.iload_n 1, 1) := by decide +kernel
theorem dX4_isBetterFor_24 : decode cX4_isBetterFor 24 = .ok (.invokestatic 85, 3) := by decide +kernel
theorem dX4_isBetterFor_27 : decode cX4_isBetterFor 27 = .ok (.invokevirtual 117, 3) := by decide +kernel
theorem dX4_isBetterFor_30 : decode cX4_isBetterFor 30 = .ok (.if_icmp .eq 6, 3) := by decide +kernel
theorem dX4_isBetterFor_33 : decode cX4_isBetterFor 33 = .ok (.iload 4, 2) := by decide +kernel
theorem dX4_isBetterFor_35 : decode cX4_isBetterFor 35 = .ok (.ireturn, 1) := by decide +kernel
theorem dX4_isBetterFor_36 : decode cX4_isBetterFor 36 = .ok (.aload_n 0, 1) := by decide +kernel
theorem dX4_isBetterFor_37 : decode cX4_isBetterFor 37 = .ok (.iload_n 1, 1) := by decide +kernel
theorem dX4_isBetterFor_38 : decode cX4_isBetterFor 38 = .ok (.iload_n 2, 1) := by decide +kernel
theorem dX4_isBetterFor_39 : decode cX4_isBetterFor 39 = .ok (.invokevirtual 166, 3) := by decide +kernel
theorem dX4_isBetterFor_42 : decode cX4_isBetterFor 42 = .ok (.aload_n 0, 1) := by decide +kernel
theorem dX4_isBetterFor_43 : decode cX4_isBetterFor 43 = .ok (.iload_n 1, 1) := by decide +kernel
theorem dX4_isBetterFor_44 : decode cX4_isBetterFor 44 = .ok (.iload_n 3, 1) := by decide +kernel
theorem dX4_isBetterFor_45 : decode cX4_isBetterFor 45 = .ok (.invokevirtual 166, 3) := by decide +kernel
theorem dX4_isBetterFor_48 : decode cX4_isBetterFor 48 = .ok (.if_icmp .ge 7, 3) := by decide +kernel
theorem dX4_isBetterFor_51 : decode cX4_isBetterFor 51 = .ok (.iconst 1, 1) := by decide +kernel
theorem dX4_isBetterFor_52 : decode cX4_isBetterFor 52 = .ok (.goto 4, 3) := by decide +kernel
theorem dX4_isBetterFor_55 : decode cX4_isBetterFor 55 = .ok (.iconst 0, 1) := by decide +kernel
theorem dX4_isBetterFor_56 : decode cX4_isBetterFor 56 = .ok (.ireturn, 1) := by decide +kernel
theorem dX4_shareWith_0 : decode cX4_shareWith 0 = .ok (.aload_n 0, 1) := by decide +kernel
theorem dX4_shareWith_1 : decode cX4_shareWith 1 = .ok (.iload_n 2, 1) := by decide +kernel
theorem dX4_shareWith_2 : decode cX4_shareWith 2 = .ok (.aload_n 0, 1) := by decide +kernel
theorem dX4_shareWith_3 : decode cX4_shareWith 3 = .ok (.getfield 34, 3) := by decide +kernel
theorem dX4_shareWith_6 : decode cX4_shareWith 6 = .ok (.iload_n 2, 1) := by decide +kernel
theorem dX4_shareWith_7 : decode cX4_shareWith 7 = .ok (.invokestatic 85, 3) := by decide +kernel
theorem dX4_shareWith_10 : decode cX4_shareWith 10 = .ok (.aload_n 0, 1) := by decide +kernel
theorem dX4_shareWith_11 : decode cX4_shareWith 11 = .ok (.iload_n 1, 1) := by decide +kernel
theorem dX4_shareWith_12 : decode cX4_shareWith 12 = .ok (.iload_n 2, 1) := by decide +kernel
theorem dX4_shareWith_13 : decode cX4_shareWith 13 = .ok (.invokevirtual 120, 3) := by decide +kernel
theorem dX4_shareWith_16 : decode cX4_shareWith 16 = .ok (.iadd, 1) := by decide +kernel
theorem dX4_shareWith_17 : decode cX4_shareWith 17 = .ok (.invokevirtual 111, 3) := by decide +kernel
theorem dX4_shareWith_20 : decode cX4_shareWith 20 = .ok (.ireturn, 1) := by decide +kernel
theorem dX4_beginCover_0 : decode cX4_beginCover 0 = .ok (.aload_n 0, 1) := by decide +kernel
theorem dX4_beginCover_1 : decode cX4_beginCover 1 = .ok (.getfield 61, 3) := by decide +kernel
theorem dX4_beginCover_4 : decode cX4_beginCover 4 = .ok (.iload_n 1, 1) := by decide +kernel
theorem dX4_beginCover_5 : decode cX4_beginCover 5 = .ok (.iload_n 2, 1) := by decide +kernel
theorem dX4_beginCover_6 : decode cX4_beginCover 6 = .ok (.invokestatic 81, 3) := by decide +kernel
theorem dX4_beginCover_9 : decode cX4_beginCover 9 = .ok (.aload_n 0, 1) := by decide +kernel
theorem dX4_beginCover_10 : decode cX4_beginCover 10 = .ok (.iload_n 2, 1) := by decide +kernel
theorem dX4_beginCover_11 : decode cX4_beginCover 11 = .ok (.aload_n 0, 1) := by decide +kernel
theorem dX4_beginCover_12 : decode cX4_beginCover 12 = .ok (.iload_n 1, 1) := by decide +kernel
theorem dX4_beginCover_13 : decode cX4_beginCover 13 = .ok (.iload_n 2, 1) := by decide +kernel
theorem dX4_beginCover_14 : decode cX4_beginCover 14 = .ok (.invokevirtual 120, 3) := by decide +kernel
theorem dX4_beginCover_17 : decode cX4_beginCover 17 = .ok (.invokevirtual 169, 3) := by decide +kernel
theorem dX4_beginCover_20 : decode cX4_beginCover 20 = .ok (.return_, 1) := by decide +kernel
theorem dX4_endCover_0 : decode cX4_endCover 0 = .ok (.aload_n 0, 1) := by decide +kernel
theorem dX4_endCover_1 : decode cX4_endCover 1 = .ok (.getfield 61, 3) := by decide +kernel
theorem dX4_endCover_4 : decode cX4_endCover 4 = .ok (.iload_n 1, 1) := by decide +kernel
theorem dX4_endCover_5 : decode cX4_endCover 5 = .ok (.invokestatic 85, 3) := by decide +kernel
theorem dX4_endCover_8 : decode cX4_endCover 8 = .ok (.istore_n 2, 1) := by decide +kernel
theorem dX4_endCover_9 : decode cX4_endCover 9 = .ok (.iload_n 2, 1) := by decide +kernel
theorem dX4_endCover_10 : decode cX4_endCover 10 = .ok (.iconst (-1), 1) := by decide +kernel
theorem dX4_endCover_11 : decode cX4_endCover 11 = .ok (.if_icmp .ne 5, 3) := by decide +kernel
theorem dX4_endCover_14 : decode cX4_endCover 14 = .ok (.iconst 0, 1) := by decide +kernel
theorem dX4_endCover_15 : decode cX4_endCover 15 = .ok (.ireturn, 1) := by decide +kernel
theorem dX4_endCover_16 : decode cX4_endCover 16 = .ok (.aload_n 0, 1) := by decide +kernel
theorem dX4_endCover_17 : decode cX4_endCover 17 = .ok (.iload_n 2, 1) := by decide +kernel
theorem dX4_endCover_18 : decode cX4_endCover 18 = .ok (.aload_n 0, 1) := by decide +kernel
theorem dX4_endCover_19 : decode cX4_endCover 19 = .ok (.iload_n 1, 1) := by decide +kernel
theorem dX4_endCover_20 : decode cX4_endCover 20 = .ok (.iload_n 2, 1) := by decide +kernel
theorem dX4_endCover_21 : decode cX4_endCover 21 = .ok (.invokevirtual 120, 3) := by decide +kernel
theorem dX4_endCover_24 : decode cX4_endCover 24 = .ok (.ineg, 1) := by decide +kernel
theorem dX4_endCover_25 : decode cX4_endCover 25 = .ok (.invokevirtual 169, 3) := by decide +kernel
theorem dX4_endCover_28 : decode cX4_endCover 28 = .ok (.aload_n 0, 1) := by decide +kernel
theorem dX4_endCover_29 : decode cX4_endCover 29 = .ok (.getfield 61, 3) := by decide +kernel
theorem dX4_endCover_32 : decode cX4_endCover 32 = .ok (.iload_n 1, 1) := by decide +kernel
theorem dX4_endCover_33 : decode cX4_endCover 33 = .ok (.iconst (-1), 1) := by decide +kernel
theorem dX4_endCover_34 : decode cX4_endCover 34 = .ok (.invokestatic 81, 3) := by decide +kernel
theorem dX4_endCover_37 : decode cX4_endCover 37 = .ok (.iconst 1, 1) := by decide +kernel
theorem dX4_endCover_38 : decode cX4_endCover 38 = .ok (.ireturn, 1) := by decide +kernel
theorem dX4_coverOpenLessons_0 : decode cX4_coverOpenLessons 0 = .ok (.iconst 0, 1) := by decide +kernel
theorem dX4_coverOpenLessons_1 : decode cX4_coverOpenLessons 1 = .ok (.istore_n 2, 1) := by decide +kernel
theorem dX4_coverOpenLessons_2 : decode cX4_coverOpenLessons 2 = .ok (.iconst 0, 1) := by decide +kernel
theorem dX4_coverOpenLessons_3 : decode cX4_coverOpenLessons 3 = .ok (.istore_n 3, 1) := by decide +kernel
theorem dX4_coverOpenLessons_4 : decode cX4_coverOpenLessons 4 = .ok (.iload_n 3, 1) := by decide +kernel
theorem dX4_coverOpenLessons_5 : decode cX4_coverOpenLessons 5 = .ok (.bipush 6, 2) := by decide +kernel
theorem dX4_coverOpenLessons_7 : decode cX4_coverOpenLessons 7 = .ok (.if_icmp .ge 71, 3) := by decide +kernel
theorem dX4_coverOpenLessons_10 : decode cX4_coverOpenLessons 10 = .ok (.iconst 0, 1) := by decide +kernel
theorem dX4_coverOpenLessons_11 : decode cX4_coverOpenLessons 11 = .ok (.istore 4, 2) := by decide +kernel
theorem dX4_coverOpenLessons_13 : decode cX4_coverOpenLessons 13 = .ok (.iload 4, 2) := by decide +kernel
theorem dX4_coverOpenLessons_15 : decode cX4_coverOpenLessons 15 = .ok (.aload_n 0, 1) := by decide +kernel
theorem dX4_coverOpenLessons_16 : decode cX4_coverOpenLessons 16 = .ok (.getfield 15, 3) := by decide +kernel
theorem dX4_coverOpenLessons_19 : decode cX4_coverOpenLessons 19 = .ok (.if_icmp .ge 53, 3) := by decide +kernel
theorem dX4_coverOpenLessons_22 : decode cX4_coverOpenLessons 22 = .ok (.aload_n 0, 1) := by decide +kernel
theorem dX4_coverOpenLessons_23 : decode cX4_coverOpenLessons 23 = .ok (.iload 4, 2) := by decide +kernel
theorem dX4_coverOpenLessons_25 : decode cX4_coverOpenLessons 25 = .ok (.iload_n 1, 1) := by decide +kernel
theorem dX4_coverOpenLessons_26 : decode cX4_coverOpenLessons 26 = .ok (.bipush 6, 2) := by decide +kernel
theorem dX4_coverOpenLessons_28 : decode cX4_coverOpenLessons 28 = .ok (.imul, 1) := by decide +kernel
theorem dX4_coverOpenLessons_29 : decode cX4_coverOpenLessons 29 = .ok (.iload_n 3, 1) := by decide +kernel
theorem dX4_coverOpenLessons_30 : decode cX4_coverOpenLessons 30 = .ok (.iadd, 1) := by decide +kernel
theorem dX4_coverOpenLessons_31 : decode cX4_coverOpenLessons 31 = .ok (.invokevirtual 139, 3) := by decide +kernel
theorem dX4_coverOpenLessons_34 : decode cX4_coverOpenLessons 34 = .ok (.ifCond .eq 12, 3) := by decide +kernel
theorem dX4_coverOpenLessons_37 : decode cX4_coverOpenLessons 37 = .ok (.aload_n 0, 1) := by decide +kernel
theorem dX4_coverOpenLessons_38 : decode cX4_coverOpenLessons 38 = .ok (.iload 4, 2) := by decide +kernel
theorem dX4_coverOpenLessons_40 : decode cX4_coverOpenLessons 40 = .ok (.invokevirtual 173, 3) := by decide +kernel
theorem dX4_coverOpenLessons_43 : decode cX4_coverOpenLessons 43 = .ok (.goto 4, 3) := by decide +kernel
theorem dX4_coverOpenLessons_46 : decode cX4_coverOpenLessons 46 = .ok (.iconst (-1), 1) := by decide +kernel
theorem dX4_coverOpenLessons_47 : decode cX4_coverOpenLessons 47 = .ok (.istore 5, 2) := by decide +kernel
theorem dX4_coverOpenLessons_49 : decode cX4_coverOpenLessons 49 = .ok (.iload 5, 2) := by decide +kernel
theorem dX4_coverOpenLessons_51 : decode cX4_coverOpenLessons 51 = .ok (.iconst (-1), 1) := by decide +kernel
theorem dX4_coverOpenLessons_52 : decode cX4_coverOpenLessons 52 = .ok (.if_icmp .eq 14, 3) := by decide +kernel
theorem dX4_coverOpenLessons_55 : decode cX4_coverOpenLessons 55 = .ok (.aload_n 0, 1) := by decide +kernel
theorem dX4_coverOpenLessons_56 : decode cX4_coverOpenLessons 56 = .ok (.iload 4, 2) := by decide +kernel
theorem dX4_coverOpenLessons_58 : decode cX4_coverOpenLessons 58 = .ok (.iload 5, 2) := by decide +kernel
theorem dX4_coverOpenLessons_60 : decode cX4_coverOpenLessons 60 = .ok (.invokevirtual 176, 3) := by decide +kernel
theorem dX4_coverOpenLessons_63 : decode cX4_coverOpenLessons 63 = .ok (.iinc 2 1, 3) := by decide +kernel
theorem dX4_coverOpenLessons_66 : decode cX4_coverOpenLessons 66 = .ok (.iinc 4 1, 3) := by decide +kernel
theorem dX4_coverOpenLessons_69 : decode cX4_coverOpenLessons 69 = .ok (.goto (-56), 3) := by decide +kernel
theorem dX4_coverOpenLessons_72 : decode cX4_coverOpenLessons 72 = .ok (.iinc 3 1, 3) := by decide +kernel
theorem dX4_coverOpenLessons_75 : decode cX4_coverOpenLessons 75 = .ok (.goto (-71), 3) := by decide +kernel
theorem dX4_coverOpenLessons_78 : decode cX4_coverOpenLessons 78 = .ok (.iload_n 2, 1) := by decide +kernel
theorem dX4_coverOpenLessons_79 : decode cX4_coverOpenLessons 79 = .ok (.ireturn, 1) := by decide +kernel
theorem dX4_beginSplit_0 : decode cX4_beginSplit 0 = .ok (.aload_n 0, 1) := by decide +kernel
theorem dX4_beginSplit_1 : decode cX4_beginSplit 1 = .ok (.getfield 64, 3) := by decide +kernel
theorem dX4_beginSplit_4 : decode cX4_beginSplit 4 = .ok (.iload_n 1, 1) := by decide +kernel
theorem dX4_beginSplit_5 : decode cX4_beginSplit 5 = .ok (.iload_n 2, 1) := by decide +kernel
theorem dX4_beginSplit_6 : decode cX4_beginSplit 6 = .ok (.invokestatic 81, 3) := by decide +kernel
theorem dX4_beginSplit_9 : decode cX4_beginSplit 9 = .ok (.aload_n 0, 1) := by decide +kernel
theorem dX4_beginSplit_10 : decode cX4_beginSplit 10 = .ok (.getfield 67, 3) := by decide +kernel
theorem dX4_beginSplit_13 : decode cX4_beginSplit 13 = .ok (.iload_n 1, 1) := by decide +kernel
theorem dX4_beginSplit_14 : decode cX4_beginSplit 14 = .ok (.iload_n 3, 1) := by decide +kernel
theorem dX4_beginSplit_15 : decode cX4_beginSplit 15 = .ok (.invokestatic 81, 3) := by decide +kernel
theorem dX4_beginSplit_18 : decode cX4_beginSplit 18 = .ok (.aload_n 0, 1) := by decide +kernel
theorem dX4_beginSplit_19 : decode cX4_beginSplit 19 = .ok (.aload_n 0, 1) := by decide +kernel
theorem dX4_beginSplit_20 : decode cX4_beginSplit 20 = .ok (.iload_n 2, 1) := by decide +kernel
theorem dX4_beginSplit_21 : decode cX4_beginSplit 21 = .ok (.invokevirtual 123, 3) := by decide +kernel
theorem dX4_beginSplit_24 : decode cX4_beginSplit 24 = .ok (.iconst 1, 1) := by decide +kernel
theorem dX4_beginSplit_25 : decode cX4_beginSplit 25 = .ok (.invokevirtual 169, 3) := by decide +kernel
theorem dX4_beginSplit_28 : decode cX4_beginSplit 28 = .ok (.aload_n 0, 1) := by decide +kernel
theorem dX4_beginSplit_29 : decode cX4_beginSplit 29 = .ok (.aload_n 0, 1) := by decide +kernel
theorem dX4_beginSplit_30 : decode cX4_beginSplit 30 = .ok (.iload_n 3, 1) := by decide +kernel
theorem dX4_beginSplit_31 : decode cX4_beginSplit 31 = .ok (.invokevirtual 123, 3) := by decide +kernel
theorem dX4_beginSplit_34 : decode cX4_beginSplit 34 = .ok (.iconst 1, 1) := by decide +kernel
theorem dX4_beginSplit_35 : decode cX4_beginSplit 35 = .ok (.invokevirtual 169, 3) := by decide +kernel
theorem dX4_beginSplit_38 : decode cX4_beginSplit 38 = .ok (.return_, 1) := by decide +kernel
theorem dX4_endSplit_0 : decode cX4_endSplit 0 = .ok (.aload_n 0, 1) := by decide +kernel
theorem dX4_endSplit_1 : decode cX4_endSplit 1 = .ok (.aload_n 0, 1) := by decide +kernel
theorem dX4_endSplit_2 : decode cX4_endSplit 2 = .ok (.aload_n 0, 1) := by decide +kernel
theorem dX4_endSplit_3 : decode cX4_endSplit 3 = .ok (.getfield 64, 3) := by decide +kernel
theorem dX4_endSplit_6 : decode cX4_endSplit 6 = .ok (.iload_n 1, 1) := by decide +kernel
theorem dX4_endSplit_7 : decode cX4_endSplit 7 = .ok (.invokestatic 85, 3) := by decide +kernel
theorem dX4_endSplit_10 : decode cX4_endSplit 10 = .ok (.invokevirtual 123, 3) := by decide +kernel
theorem dX4_endSplit_13 : decode cX4_endSplit 13 = .ok (.iconst (-1), 1) := by decide +kernel
theorem dX4_endSplit_14 : decode cX4_endSplit 14 = .ok (.invokevirtual 169, 3) := by decide +kernel
theorem dX4_endSplit_17 : decode cX4_endSplit 17 = .ok (.aload_n 0, 1) := by decide +kernel
theorem dX4_endSplit_18 : decode cX4_endSplit 18 = .ok (.aload_n 0, 1) := by decide +kernel
theorem dX4_endSplit_19 : decode cX4_endSplit 19 = .ok (.aload_n 0, 1) := by decide +kernel
theorem dX4_endSplit_20 : decode cX4_endSplit 20 = .ok (.getfield 67, 3) := by decide +kernel
theorem dX4_endSplit_23 : decode cX4_endSplit 23 = .ok (.iload_n 1, 1) := by decide +kernel
theorem dX4_endSplit_24 : decode cX4_endSplit 24 = .ok (.invokestatic 85, 3) := by decide +kernel
theorem dX4_endSplit_27 : decode cX4_endSplit 27 = .ok (.invokevirtual 123, 3) := by decide +kernel
theorem dX4_endSplit_30 : decode cX4_endSplit 30 = .ok (.iconst (-1), 1) := by decide +kernel
theorem dX4_endSplit_31 : decode cX4_endSplit 31 = .ok (.invokevirtual 169, 3) := by decide +kernel
theorem dX4_endSplit_34 : decode cX4_endSplit 34 = .ok (.aload_n 0, 1) := by decide +kernel
theorem dX4_endSplit_35 : decode cX4_endSplit 35 = .ok (.getfield 64, 3) := by decide +kernel
theorem dX4_endSplit_38 : decode cX4_endSplit 38 = .ok (.iload_n 1, 1) := by decide +kernel
theorem dX4_endSplit_39 : decode cX4_endSplit 39 = .ok (.iconst (-1), 1) := by decide +kernel
theorem dX4_endSplit_40 : decode cX4_endSplit 40 = .ok (.invokestatic 81, 3) := by decide +kernel
theorem dX4_endSplit_43 : decode cX4_endSplit 43 = .ok (.aload_n 0, 1) := by decide +kernel
theorem dX4_endSplit_44 : decode cX4_endSplit 44 = .ok (.getfield 67, 3) := by decide +kernel
theorem dX4_endSplit_47 : decode cX4_endSplit 47 = .ok (.iload_n 1, 1) := by decide +kernel
theorem dX4_endSplit_48 : decode cX4_endSplit 48 = .ok (.iconst (-1), 1) := by decide +kernel
theorem dX4_endSplit_49 : decode cX4_endSplit 49 = .ok (.invokestatic 81, 3) := by decide +kernel
theorem dX4_endSplit_52 : decode cX4_endSplit 52 = .ok (.return_, 1) := by decide +kernel
theorem dX4_endSplitsWith_0 : decode cX4_endSplitsWith 0 = .ok (.iconst 0, 1) := by decide +kernel
theorem dX4_endSplitsWith_1 : decode cX4_endSplitsWith 1 = .ok (.istore_n 2, 1) := by decide +kernel
theorem dX4_endSplitsWith_2 : decode cX4_endSplitsWith 2 = .ok (.iconst 0, 1) := by decide +kernel
theorem dX4_endSplitsWith_3 : decode cX4_endSplitsWith 3 = .ok (.istore_n 3, 1) := by decide +kernel
theorem dX4_endSplitsWith_4 : decode cX4_endSplitsWith 4 = .ok (.iload_n 3, 1) := by decide +kernel
theorem dX4_endSplitsWith_5 : decode cX4_endSplitsWith 5 = .ok (.aload_n 0, 1) := by decide +kernel
theorem dX4_endSplitsWith_6 : decode cX4_endSplitsWith 6 = .ok (.getfield 15, 3) := by decide +kernel
theorem dX4_endSplitsWith_9 : decode cX4_endSplitsWith 9 = .ok (.if_icmp .ge 26, 3) := by decide +kernel
theorem dX4_endSplitsWith_12 : decode cX4_endSplitsWith 12 = .ok (.aload_n 0, 1) := by decide +kernel
theorem dX4_endSplitsWith_13 : decode cX4_endSplitsWith 13 = .ok (.iload_n 3, 1) := by decide +kernel
theorem dX4_endSplitsWith_14 : decode cX4_endSplitsWith 14 = .ok (.iload_n 1, 1) := by decide +kernel
theorem dX4_endSplitsWith_15 : decode cX4_endSplitsWith 15 = .ok (.invokevirtual 179, 3) := by decide +kernel
theorem dX4_endSplitsWith_18 : decode cX4_endSplitsWith 18 = .ok (.ifCond .eq 11, 3) := by decide +kernel
theorem dX4_endSplitsWith_21 : decode cX4_endSplitsWith 21 = .ok (.aload_n 0, 1) := by decide +kernel
theorem dX4_endSplitsWith_22 : decode cX4_endSplitsWith 22 = .ok (.iload_n 3, 1) := by decide +kernel
theorem dX4_endSplitsWith_23 : decode cX4_endSplitsWith 23 = .ok (.invokevirtual 182, 3) := by decide +kernel
theorem dX4_endSplitsWith_26 : decode cX4_endSplitsWith 26 = .ok (.iinc 2 1, 3) := by decide +kernel
theorem dX4_endSplitsWith_29 : decode cX4_endSplitsWith 29 = .ok (.iinc 3 1, 3) := by decide +kernel
theorem dX4_endSplitsWith_32 : decode cX4_endSplitsWith 32 = .ok (.goto (-28), 3) := by decide +kernel
theorem dX4_endSplitsWith_35 : decode cX4_endSplitsWith 35 = .ok (.aload_n 0, 1) := by decide +kernel
theorem dX4_endSplitsWith_36 : decode cX4_endSplitsWith 36 = .ok (.dup, 1) := by decide +kernel
theorem dX4_endSplitsWith_37 : decode cX4_endSplitsWith 37 = .ok (.getfield 21, 3) := by decide +kernel
theorem dX4_endSplitsWith_40 : decode cX4_endSplitsWith 40 = .ok (.iload_n 2, 1) := by decide +kernel
theorem dX4_endSplitsWith_41 : decode cX4_endSplitsWith 41 = .ok (.iadd, 1) := by decide +kernel
theorem dX4_endSplitsWith_42 : decode cX4_endSplitsWith 42 = .ok (.putfield 21, 3) := by decide +kernel
theorem dX4_endSplitsWith_45 : decode cX4_endSplitsWith 45 = .ok (.iload_n 2, 1) := by decide +kernel
theorem dX4_endSplitsWith_46 : decode cX4_endSplitsWith 46 = .ok (.ireturn, 1) := by decide +kernel
theorem dX4_isSplitWith_0 : decode cX4_isSplitWith 0 = .ok (.aload_n 0, 1) := by decide +kernel
theorem dX4_isSplitWith_1 : decode cX4_isSplitWith 1 = .ok (.getfield 64, 3) := by decide +kernel
theorem dX4_isSplitWith_4 : decode cX4_isSplitWith 4 = .ok (.iload_n 1, 1) := by decide +kernel
theorem dX4_isSplitWith_5 : decode cX4_isSplitWith 5 = .ok (.invokestatic 85, 3) := by decide +kernel
theorem dX4_isSplitWith_8 : decode cX4_isSplitWith 8 = .ok (.istore_n 3, 1) := by decide +kernel
theorem dX4_isSplitWith_9 : decode cX4_isSplitWith 9 = .ok (.iload_n 3, 1) := by decide +kernel
theorem dX4_isSplitWith_10 : decode cX4_isSplitWith 10 = .ok (.iconst (-1), 1) := by decide +kernel
theorem dX4_isSplitWith_11 : decode cX4_isSplitWith 11 = .ok (.if_icmp .eq 29, 3) := by decide +kernel
theorem dX4_isSplitWith_14 : decode cX4_isSplitWith 14 = .ok (.iload_n 1, 1) := by decide +kernel
theorem dX4_isSplitWith_15 : decode cX4_isSplitWith 15 = .ok (.iload_n 2, 1) := by decide +kernel
theorem dX4_isSplitWith_16 : decode cX4_isSplitWith 16 = .ok (.if_icmp .eq 20, 3) := by decide +kernel
theorem dX4_isSplitWith_19 : decode cX4_isSplitWith 19 = .ok (.iload_n 3, 1) := by decide +kernel
theorem dX4_isSplitWith_20 : decode cX4_isSplitWith 20 = .ok (.iload_n 2, 1) := by decide +kernel
theorem dX4_isSplitWith_21 : decode cX4_isSplitWith 21 = .ok (.if_icmp .eq 15, 3) := by decide +kernel
theorem dX4_isSplitWith_24 : decode cX4_isSplitWith 24 = .ok (.aload_n 0, 1) := by decide +kernel
theorem dX4_isSplitWith_25 : decode cX4_isSplitWith 25 = .ok (.getfield 67, 3) := by decide +kernel
theorem dX4_isSplitWith_28 : decode cX4_isSplitWith 28 = .ok (.iload_n 1, 1) := by decide +kernel
theorem dX4_isSplitWith_29 : decode cX4_isSplitWith 29 = .ok (.invokestatic 85, 3) := by decide +kernel
theorem dX4_isSplitWith_32 : decode cX4_isSplitWith 32 = .ok (.iload_n 2, 1) := by decide +kernel
theorem dX4_isSplitWith_33 : decode cX4_isSplitWith 33 = .ok (.if_icmp .ne 7, 3) := by decide +kernel
theorem dX4_isSplitWith_36 : decode cX4_isSplitWith 36 = .ok (.iconst 1, 1) := by decide +kernel
theorem dX4_isSplitWith_37 : decode cX4_isSplitWith 37 = .ok (.goto 4, 3) := by decide +kernel
theorem dX4_isSplitWith_40 : decode cX4_isSplitWith 40 = .ok (.iconst 0, 1) := by decide +kernel
theorem dX4_isSplitWith_41 : decode cX4_isSplitWith 41 = .ok (.ireturn, 1) := by decide +kernel
theorem dX4_endAllWith_0 : decode cX4_endAllWith 0 = .ok (.aload_n 0, 1) := by decide +kernel
theorem dX4_endAllWith_1 : decode cX4_endAllWith 1 = .ok (.iload_n 1, 1) := by decide +kernel
theorem dX4_endAllWith_2 : decode cX4_endAllWith 2 = .ok (.invokevirtual 186, 3) := by decide +kernel
theorem dX4_endAllWith_5 : decode cX4_endAllWith 5 = .ok (.istore_n 2, 1) := by decide +kernel
theorem dX4_endAllWith_6 : decode cX4_endAllWith 6 = .ok (.aload_n 0, 1) := by decide +kernel
theorem dX4_endAllWith_7 : decode cX4_endAllWith 7 = .ok (.iload_n 1, 1) := by decide +kernel
theorem dX4_endAllWith_8 : decode cX4_endAllWith 8 = .ok (.invokevirtual 189, 3) := by decide +kernel
theorem dX4_endAllWith_11 : decode cX4_endAllWith 11 = .ok (.istore_n 3, 1) := by decide +kernel
theorem dX4_endAllWith_12 : decode cX4_endAllWith 12 = .ok (.aload_n 0, 1) := by decide +kernel
theorem dX4_endAllWith_13 : decode cX4_endAllWith 13 = .ok (.dup, 1) := by decide +kernel
theorem dX4_endAllWith_14 : decode cX4_endAllWith 14 = .ok (.getfield 18, 3) := by decide +kernel
theorem dX4_endAllWith_17 : decode cX4_endAllWith 17 = .ok (.iload_n 3, 1) := by decide +kernel
theorem dX4_endAllWith_18 : decode cX4_endAllWith 18 = .ok (.iadd, 1) := by decide +kernel
theorem dX4_endAllWith_19 : decode cX4_endAllWith 19 = .ok (.putfield 18, 3) := by decide +kernel
theorem dX4_endAllWith_22 : decode cX4_endAllWith 22 = .ok (.iload_n 2, 1) := by decide +kernel
theorem dX4_endAllWith_23 : decode cX4_endAllWith 23 = .ok (.iload_n 3, 1) := by decide +kernel
theorem dX4_endAllWith_24 : decode cX4_endAllWith 24 = .ok (.iadd, 1) := by decide +kernel
theorem dX4_endAllWith_25 : decode cX4_endAllWith 25 = .ok (.ireturn, 1) := by decide +kernel
theorem dX4_turnAbsence_0 : decode cX4_turnAbsence 0 = .ok (.iconst 0, 1) := by decide +kernel
theorem dX4_turnAbsence_1 : decode cX4_turnAbsence 1 = .ok (.istore_n 3, 1) := by decide +kernel
theorem dX4_turnAbsence_2 : decode cX4_turnAbsence 2 = .ok (.aload_n 0, 1) := by decide +kernel
theorem dX4_turnAbsence_3 : decode cX4_turnAbsence 3 = .ok (.iload_n 2, 1) := by decide +kernel
theorem dX4_turnAbsence_4 : decode cX4_turnAbsence 4 = .ok (.aload_n 0, 1) := by decide +kernel
theorem dX4_turnAbsence_5 : decode cX4_turnAbsence 5 = .ok (.getfield 55, 3) := by decide +kernel
theorem dX4_turnAbsence_8 : decode cX4_turnAbsence 8 = .ok (.iload_n 1, 1) := by decide +kernel
theorem dX4_turnAbsence_9 : decode cX4_turnAbsence 9 = .ok (.invokevirtual 93, 3) := by decide +kernel
theorem dX4_turnAbsence_12 : decode cX4_turnAbsence 12 = .ok (.istore 4, 2) := by decide +kernel
theorem dX4_turnAbsence_14 : decode cX4_turnAbsence 14 = .ok (.iload 4, 2) := by decide +kernel
theorem dX4_turnAbsence_16 : decode cX4_turnAbsence 16 = .ok (.iconst (-1), 1) := by decide +kernel
theorem dX4_turnAbsence_17 : decode cX4_turnAbsence 17 = .ok (.if_icmp .eq 12, 3) := by decide +kernel
theorem dX4_turnAbsence_20 : decode cX4_turnAbsence 20 = .ok (.iload_n 3, 1) := by decide +kernel
theorem dX4_turnAbsence_21 : decode cX4_turnAbsence 21 = .ok (.aload_n 0, 1) := by decide +kernel
theorem dX4_turnAbsence_22 : decode cX4_turnAbsence 22 = .ok (.iload 4, 2) := by decide +kernel
theorem dX4_turnAbsence_24 : decode cX4_turnAbsence 24 = .ok (.invokevirtual 130, 3) := by decide +kernel
theorem dX4_turnAbsence_27 : decode cX4_turnAbsence 27 = .ok (.iadd, 1) := by decide +kernel
theorem dX4_turnAbsence_28 : decode cX4_turnAbsence 28 = .ok (.istore_n 3, 1) := by decide +kernel
theorem dX4_turnAbsence_29 : decode cX4_turnAbsence 29 = .ok (.aload_n 0, 1) := by decide +kernel
theorem dX4_turnAbsence_30 : decode cX4_turnAbsence 30 = .ok (.iload_n 2, 1) := by decide +kernel
theorem dX4_turnAbsence_31 : decode cX4_turnAbsence 31 = .ok (.aload_n 0, 1) := by decide +kernel
theorem dX4_turnAbsence_32 : decode cX4_turnAbsence 32 = .ok (.getfield 61, 3) := by decide +kernel
theorem dX4_turnAbsence_35 : decode cX4_turnAbsence 35 = .ok (.iload_n 1, 1) := by decide +kernel
theorem dX4_turnAbsence_36 : decode cX4_turnAbsence 36 = .ok (.invokevirtual 93, 3) := by decide +kernel
theorem dX4_turnAbsence_39 : decode cX4_turnAbsence 39 = .ok (.istore 5, 2) := by decide +kernel
theorem dX4_turnAbsence_41 : decode cX4_turnAbsence 41 = .ok (.iload 5, 2) := by decide +kernel
theorem dX4_turnAbsence_43 : decode cX4_turnAbsence 43 = .ok (.iconst (-1), 1) := by decide +kernel
theorem dX4_turnAbsence_44 : decode cX4_turnAbsence 44 = .ok (.if_icmp .eq 12, 3) := by decide +kernel
theorem dX4_turnAbsence_47 : decode cX4_turnAbsence 47 = .ok (.iload_n 3, 1) := by decide +kernel
theorem dX4_turnAbsence_48 : decode cX4_turnAbsence 48 = .ok (.aload_n 0, 1) := by decide +kernel
theorem dX4_turnAbsence_49 : decode cX4_turnAbsence 49 = .ok (.iload 5, 2) := by decide +kernel
theorem dX4_turnAbsence_51 : decode cX4_turnAbsence 51 = .ok (.invokevirtual 130, 3) := by decide +kernel
theorem dX4_turnAbsence_54 : decode cX4_turnAbsence 54 = .ok (.iadd, 1) := by decide +kernel
theorem dX4_turnAbsence_55 : decode cX4_turnAbsence 55 = .ok (.istore_n 3, 1) := by decide +kernel
theorem dX4_turnAbsence_56 : decode cX4_turnAbsence 56 = .ok (.aload_n 0, 1) := by decide +kernel
theorem dX4_turnAbsence_57 : decode cX4_turnAbsence 57 = .ok (.getfield 37, 3) := by decide +kernel
theorem dX4_turnAbsence_60 : decode cX4_turnAbsence 60 = .ok (.iload_n 1, 1) := by decide +kernel
theorem dX4_turnAbsence_61 : decode cX4_turnAbsence 61 = .ok (.aload_n 0, 1) := by decide +kernel
theorem dX4_turnAbsence_62 : decode cX4_turnAbsence 62 = .ok (.getfield 37, 3) := by decide +kernel
theorem dX4_turnAbsence_65 : decode cX4_turnAbsence 65 = .ok (.iload_n 1, 1) := by decide +kernel
theorem dX4_turnAbsence_66 : decode cX4_turnAbsence 66 = .ok (.invokestatic 85, 3) := by decide +kernel
theorem dX4_turnAbsence_69 : decode cX4_turnAbsence 69 = .ok (.iconst 1, 1) := by decide +kernel
theorem dX4_turnAbsence_70 : decode cX4_turnAbsence 70 = .ok (.iload_n 2, 1) := by decide +kernel
theorem dX4_turnAbsence_71 : decode cX4_turnAbsence 71 = .ok (.ishl, 1) := by decide +kernel
theorem dX4_turnAbsence_72 : decode cX4_turnAbsence 72 = .ok (.ixor, 1) := by decide +kernel
theorem dX4_turnAbsence_73 : decode cX4_turnAbsence 73 = .ok (.invokestatic 81, 3) := by decide +kernel
theorem dX4_turnAbsence_76 : decode cX4_turnAbsence 76 = .ok (.iload_n 3, 1) := by decide +kernel
theorem dX4_turnAbsence_77 : decode cX4_turnAbsence 77 = .ok (.ireturn, 1) := by decide +kernel
end
section
/-! THE UNIFORM WORLD: every cell of a run has a number (its place in one fixed layout); what all cells hold is ONE function of number and place. References never change once the objects are made: they are the layout's. -/
abbrev ux_H : Type := Nat → Nat → Value
def xgi (h : ux_H) (k j : Nat) : Int32 := match h k j with
  | .int x => x
  | _ => 0
def xgl (h : ux_H) (k j : Nat) : Int64 := match h k j with
  | .long x => x
  | _ => 0
def xgd (h : ux_H) (k j : Nat) : UInt64 := match h k j with
  | .double x => x
  | _ => 0
def xsv (h : ux_H) (k j : Nat) (v : Value) : ux_H := fun a b => if a = k ∧ b = j then v else h a b
def xsi (h : ux_H) (k j : Nat) (x : Int32) : ux_H := xsv h k j (.int x)
theorem xgi_sif (h : ux_H) (k j : Nat) (x : Int32) (a b : Nat) : xgi (xsi h k j x) a b = if a = k ∧ b = j then x else xgi h a b := by
  by_cases hc : a = k ∧ b = j
  · simp [xgi, xsi, xsv, hc]
  · simp [xgi, xsi, xsv, hc]
theorem xgi_si (h : ux_H) (k j : Nat) (x : Int32) : xgi (xsi h k j x) k j = x := by simp [xgi_sif]
theorem xgi_ne (h : ux_H) (k j : Nat) (x : Int32) (a b : Nat) (hn : ¬ (a = k ∧ b = j)) : xgi (xsi h k j x) a b = xgi h a b := by simp [xgi_sif, hn]
theorem xgl_si (h : ux_H) (k j : Nat) (x : Int32) (a b : Nat) (hn : a ≠ k) : xgl (xsi h k j x) a b = xgl h a b := by simp [xgl, xsi, xsv, hn]
theorem xgd_si (h : ux_H) (k j : Nat) (x : Int32) (a b : Nat) (hn : a ≠ k) : xgd (xsi h k j x) a b = xgd h a b := by simp [xgd, xsi, xsv, hn]
/-- the kind of a cell: the number of its class (0 to 6), or 10 int[], 11 char[], 12 long[], 13 double[], 14 School[] -/
def ux_kd (k : Nat) : Nat :=
  if k < 176 then (if k % 16 = 0 then 4 else 10)
  else if k < 180 then (if k = 176 then 5 else if k = 177 then 0 else if k = 178 then 14 else 3)
  else if k < 188 then 10
  else if k < 193 then (if k = 188 then 1 else if k = 189 then 11 else if k = 190 then 2 else if k = 191 then 11 else 6)
  else if k < 202 then 10
  else if k = 202 then 12 else if k = 203 then 13 else 99
/-- how many fields or elements -/
def ux_ln (k : Nat) : Nat :=
  if k < 176 then (if k % 16 = 0 then 19 else if k % 16 < 6 then 8 else if k % 16 < 8 then 6 else 40)
  else if k < 180 then (if k = 176 then 10 else if k = 177 then 3 else if k = 178 then 8 else 12)
  else if k < 188 then (if k < 185 then 4 else if k < 187 then 8 else 32)
  else if k < 193 then (if k = 188 then 11 else if k = 189 then 70 else if k = 190 then 2 else if k = 191 then 12 else 18)
  else if k < 202 then (if k < 196 then 376 else if k = 196 then 3008 else if k = 197 then 70 else if k = 198 then 40 else if k < 201 then 4 else 20)
  else 1
/-- the cell that a place refers to -/
def ux_rf (k j : Nat) : Option Nat :=
  if k < 176 then (if k % 16 = 0 then (if 4 ≤ j ∧ j < 19 then some (k + j - 3) else none) else none)
  else if k = 176 then (match j with
    | 0 => some 0
    | 1 => some 16
    | 2 => some 32
    | 3 => some 177
    | 4 => some 179
    | 5 => some 188
    | 6 => some 190
    | _ => none)
  else if k = 177 then (match j with
    | 0 => some 178
    | _ => none)
  else if k = 178 then (if j < 8 then some (48 + 16 * j) else none)
  else if k = 179 then (if j < 8 then some (180 + j) else none)
  else if k = 188 then (match j with
    | 0 => some 189
    | _ => none)
  else if k = 190 then (match j with
    | 0 => some 191
    | _ => none)
  else if k = 192 then (match j with
    | 1 => some 193
    | 2 => some 194
    | 4 => some 195
    | 5 => some 196
    | 7 => some 197
    | 12 => some 198
    | 13 => some 199
    | 14 => some 200
    | 17 => some 201
    | _ => none)
  else none
/-- the start of the law's heap; where the cells lie; the classes' and arrays' numbers in the tables -/
abbrev ux_G : Type := Nat × (Nat → Nat) × va_G × (Nat → ClassId)
def ux_cv (G : ux_G) : Value → Value := fun v => match v with
  | .ref n => .ref (if n < 1000 then G.2.1 n else n - 1000)
  | .int x => .int x
  | .long x => .long x
  | .float x => .float x
  | .double x => .double x
  | .null => .null
  | .retAddr q => .retAddr q
theorem ux_cv_ref (G : ux_G) {k : Nat} (h : k < 204) : ux_cv G (.ref k) = .ref (G.2.1 k) := by
  show Value.ref (if k < 1000 then G.2.1 k else k - 1000) = _
  rw [if_pos (by omega)]
theorem ux_cv_raw (G : ux_G) (q : Nat) : ux_cv G (.ref (1000 + q)) = .ref q := by
  show Value.ref (if 1000 + q < 1000 then G.2.1 (1000 + q) else 1000 + q - 1000) = _
  rw [if_neg (by omega), Nat.add_sub_cancel_left]
theorem ux_cv_cat (G : ux_G) (v : Value) : (ux_cv G v).category = v.category := by cases v <;> rfl
abbrev ux_cl : List vw_C := [(RX0, TX0, 3), (RX1, TX1, 11), (RX2, TX2, 2), (RX3, TX3, 12), (RX4, TX4, 19), (RX5, TX5, 10), (RX6, TX6, 18)]
def ux_nf (c : Nat) : Nat := match c with
  | 0 => 3
  | 1 => 11
  | 2 => 2
  | 3 => 12
  | 4 => 19
  | 5 => 10
  | 6 => 18
  | _ => 0
theorem ux_ln_nf : ∀ k, k < 204 → ux_kd k < 7 → ux_ln k = ux_nf (ux_kd k) := by decide +kernel
theorem ux_kd_lt {k : Nat} (h : ux_kd k < 99) : k < 204 := by
  rcases Nat.lt_or_ge k 204 with q | q
  · exact q
  · exfalso
    unfold ux_kd at h
    rw [if_neg (by omega), if_neg (by omega), if_neg (by omega), if_neg (by omega), if_neg (by omega), if_neg (by omega), if_neg (by omega)] at h
    omega
def ux_fv (G : ux_G) (h : ux_H) (k j : Nat) : Value := match ux_rf k j with
  | some q => .ref (G.2.1 q)
  | none => .int (xgi h k j)
def ux_en (G : ux_G) (h : ux_H) (k : Nat) : va_E :=
  if ux_kd k = 10 then .inl (G.2.2.2 0, ux_ln k, .inl (xgi h k))
  else if ux_kd k = 11 then .inl (G.2.2.2 1, ux_ln k, .inl (xgi h k))
  else if ux_kd k = 12 then .inl (G.2.2.2 2, ux_ln k, .inr (.inl (xgl h k)))
  else if ux_kd k = 13 then .inl (G.2.2.2 3, ux_ln k, .inr (.inr (.inr (.inl (xgd h k)))))
  else if ux_kd k = 14 then .inl (G.2.2.2 4, ux_ln k, .inr (.inr (.inr (.inr (fun j => (ux_rf k j).map G.2.1)))))
  else .inr (ux_kd k, (List.range (ux_ln k)).map (ux_fv G h k))
theorem ux_en_i {G : ux_G} {h : ux_H} {k : Nat} (hk : ux_kd k = 10) : ux_en G h k = .inl (G.2.2.2 0, ux_ln k, .inl (xgi h k)) := by simp [ux_en, hk]
theorem ux_en_c {G : ux_G} {h : ux_H} {k : Nat} (hk : ux_kd k = 11) : ux_en G h k = .inl (G.2.2.2 1, ux_ln k, .inl (xgi h k)) := by simp [ux_en, hk]
theorem ux_en_l {G : ux_G} {h : ux_H} {k : Nat} (hk : ux_kd k = 12) : ux_en G h k = .inl (G.2.2.2 2, ux_ln k, .inr (.inl (xgl h k))) := by simp [ux_en, hk]
theorem ux_en_d {G : ux_G} {h : ux_H} {k : Nat} (hk : ux_kd k = 13) : ux_en G h k = .inl (G.2.2.2 3, ux_ln k, .inr (.inr (.inr (.inl (xgd h k))))) := by simp [ux_en, hk]
theorem ux_en_q {G : ux_G} {h : ux_H} {k : Nat} (hk : ux_kd k = 14) : ux_en G h k = .inl (G.2.2.2 4, ux_ln k, .inr (.inr (.inr (.inr (fun j => (ux_rf k j).map G.2.1))))) := by simp [ux_en, hk]
theorem ux_en_o {G : ux_G} {h : ux_H} {k : Nat} (hk : ux_kd k < 7) : ux_en G h k = .inr (ux_kd k, (List.range (ux_ln k)).map (ux_fv G h k)) := by
  unfold ux_en
  rw [if_neg (by omega), if_neg (by omega), if_neg (by omega), if_neg (by omega), if_neg (by omega)]
def ux_ws (G : ux_G) (h : ux_H) : va_W := (List.range 204).map (fun k => (G.2.1 k, ux_en G h k))
theorem ux_ws_at (G : ux_G) (h : ux_H) {k : Nat} (hk : k < 204) : (ux_ws G h)[k]? = some (G.2.1 k, ux_en G h k) := by
  simp [ux_ws, hk]
theorem ux_ws_ge (G : ux_G) (h : ux_H) {k : Nat} (hk : ¬ k < 204) : (ux_ws G h)[k]? = none := by
  simp only [ux_ws, List.getElem?_map, Option.map_eq_none_iff, List.getElem?_eq_none_iff, List.length_range]
  omega
/-- another function makes the same world but at one cell -/
theorem ux_ws_set {G : ux_G} {h h' : ux_H} {k : Nat} (hk : k < 204) {e : va_E} (he : ux_en G h' k = e) (ho : ∀ a, a < 204 → a ≠ k → ux_en G h' a = ux_en G h a) : (ux_ws G h).set k (G.2.1 k, e) = ux_ws G h' := by
  apply List.ext_getElem?
  intro i
  rw [List.getElem?_set]
  by_cases hi : i < 204
  · rw [ux_ws_at G h' hi, ux_ws_at G h hi]
    by_cases e1 : k = i
    · subst e1
      rw [if_pos rfl, he]
      simp [ux_ws, hk]
    · rw [if_neg e1, ho i hi (fun z => e1 z.symm)]
  · rw [ux_ws_ge G h' hi, ux_ws_ge G h hi]
    have : ¬ k = i := by omega
    rw [if_neg this]
theorem ux_xgi_fun {h : ux_H} {k j : Nat} {x : Int32} {a : Nat} (ha : a ≠ k) : xgi (xsi h k j x) a = xgi h a := by
  funext b
  exact xgi_ne h k j x a b (fun z => ha z.1)
theorem ux_xgl_fun {h : ux_H} {k j : Nat} {v : Value} {a : Nat} (ha : a ≠ k) : xgl (xsv h k j v) a = xgl h a := by
  funext b
  simp [xgl, xsv, ha]
theorem ux_xgd_fun {h : ux_H} {k j : Nat} {v : Value} {a : Nat} (ha : a ≠ k) : xgd (xsv h k j v) a = xgd h a := by
  funext b
  simp [xgd, xsv, ha]
theorem ux_xgi_funv {h : ux_H} {k j : Nat} {v : Value} {a : Nat} (ha : a ≠ k) : xgi (xsv h k j v) a = xgi h a := by
  funext b
  simp [xgi, xsv, ha]
theorem ux_fv_fun {G : ux_G} {h : ux_H} {k j : Nat} {v : Value} {a : Nat} (ha : a ≠ k) : ux_fv G (xsv h k j v) a = ux_fv G h a := by
  funext b
  unfold ux_fv
  rw [ux_xgi_funv ha]
theorem ux_en_other {G : ux_G} {h : ux_H} {k j : Nat} {v : Value} {a : Nat} (ha : a ≠ k) : ux_en G (xsv h k j v) a = ux_en G h a := by
  unfold ux_en
  rw [ux_xgi_funv ha, ux_xgl_fun ha, ux_xgd_fun ha, ux_fv_fun ha]
theorem ux_upd_i {h : ux_H} {k j : Nat} {x : Int32} : xgi (xsi h k j x) k = upd (xgi h k) j x := by
  funext b
  rw [xgi_sif]
  unfold upd
  by_cases e : b = j <;> simp [e]
theorem ux_set_i {G : ux_G} {h : ux_H} {k j : Nat} {x : Int32} (hk : ux_kd k = 10) : (ux_ws G h).set k (G.2.1 k, .inl (G.2.2.2 0, ux_ln k, .inl (upd (xgi h k) j x))) = ux_ws G (xsi h k j x) :=
  ux_ws_set (ux_kd_lt (by omega)) (by rw [ux_en_i hk, ux_upd_i]) (fun a _ ha => ux_en_other ha)
theorem ux_set_c {G : ux_G} {h : ux_H} {k j : Nat} {x : Int32} (hk : ux_kd k = 11) : (ux_ws G h).set k (G.2.1 k, .inl (G.2.2.2 1, ux_ln k, .inl (upd (xgi h k) j x))) = ux_ws G (xsi h k j x) :=
  ux_ws_set (ux_kd_lt (by omega)) (by rw [ux_en_c hk, ux_upd_i]) (fun a _ ha => ux_en_other ha)
theorem ux_set_l {G : ux_G} {h : ux_H} {k j : Nat} {x : Int64} (hk : ux_kd k = 12) : (ux_ws G h).set k (G.2.1 k, .inl (G.2.2.2 2, ux_ln k, .inr (.inl (vp_updL (xgl h k) j x)))) = ux_ws G (xsv h k j (.long x)) := by
  refine ux_ws_set (ux_kd_lt (by omega)) ?_ (fun a _ ha => ux_en_other ha)
  rw [ux_en_l hk]
  have : xgl (xsv h k j (.long x)) k = vp_updL (xgl h k) j x := by
    funext b
    unfold vp_updL xgl xsv
    by_cases e : b = j <;> simp [e]
  rw [this]
theorem ux_set_d {G : ux_G} {h : ux_H} {k j : Nat} {x : UInt64} (hk : ux_kd k = 13) : (ux_ws G h).set k (G.2.1 k, .inl (G.2.2.2 3, ux_ln k, .inr (.inr (.inr (.inl (vf_upd (xgd h k) j x)))))) = ux_ws G (xsv h k j (.double x)) := by
  refine ux_ws_set (ux_kd_lt (by omega)) ?_ (fun a _ ha => ux_en_other ha)
  rw [ux_en_d hk]
  have : xgd (xsv h k j (.double x)) k = vf_upd (xgd h k) j x := by
    funext b
    unfold vf_upd xgd xsv
    by_cases e : b = j <;> simp [e]
  rw [this]
theorem ux_set_o {G : ux_G} {h : ux_H} {k j : Nat} {x : Int32} (hk : ux_kd k < 7) (hj : j < ux_ln k) (hr : ux_rf k j = none) : (ux_ws G h).set k (G.2.1 k, .inr (ux_kd k, ((List.range (ux_ln k)).map (ux_fv G h k)).set j (.int x))) = ux_ws G (xsi h k j x) := by
  refine ux_ws_set (ux_kd_lt (by omega)) ?_ (fun a _ ha => ux_en_other ha)
  rw [ux_en_o hk]
  congr 2
  apply List.ext_getElem?
  intro i
  rw [List.getElem?_set]
  by_cases hi : i < ux_ln k
  · simp only [List.getElem?_map, List.getElem?_range hi, Option.map_some, List.length_map, List.length_range, hj, if_true]
    by_cases e : j = i
    · subst e
      simp [ux_fv, hr, xgi_si]
    · rw [if_neg e]
      congr 1
      unfold ux_fv
      rw [xgi_ne h k j x k i (fun z => e z.2.symm)]
  · have h1 : ¬ j = i := by omega
    have h2 : (List.range (ux_ln k))[i]? = none := by simp; omega
    rw [if_neg h1]
    simp only [List.getElem?_map, h2, Option.map_none]
end
section
/-! STANDING IN THE UNIFORM WORLD: the words, the world at a method's start, what a method owes. -/
def ux_T : List Cond := lw_tbl.filter goodWord
def ux_nst : Cond → Bool := fun w => match w with
  | .methodLinkNest .. => true
  | .fieldLinkNest .. => true
  | .castable .. => true
  | _ => false
def ux_N : List Cond := lw_tbl.filter ux_nst
theorem ux_mem {n : Nat} {w : Cond} (h : lw_tbl[n]? = some w) (hg : goodWord w = true) : w ∈ ux_T := List.mem_filter.mpr ⟨List.mem_of_getElem? h, hg⟩
theorem ux_memN {n : Nat} {w : Cond} (h : lw_tbl[n]? = some w) (hg : ux_nst w = true) : w ∈ ux_N := List.mem_filter.mpr ⟨List.mem_of_getElem? h, hg⟩
theorem ux_good {w : Cond} (h : w ∈ ux_T) : goodWord w = true := (List.mem_filter.mp h).2
theorem ux_goodIn {w0 : Cond} (h : w0 ∈ ux_T) : GoodIn ux_T (w0 :: ux_T) := by
  intro w hw
  rcases List.mem_cons.mp hw with e | e
  · rw [e]; exact ⟨h, good_of_word (ux_good h)⟩
  · exact ⟨e, good_of_word (ux_good e)⟩
def ux_A (G : ux_G) : Nat → Prop := fun q => G.1 ≤ q
def ux_ok (G : ux_G) : Prop := (∀ i j : Nat, i < 204 → j < 204 → G.2.1 i = G.2.1 j → i = j) ∧ ∀ k : Nat, k < 204 → G.1 ≤ G.2.1 k
def ux_ty (G : ux_G) : List (ClassId × FieldType) := [(G.2.2.2 0, .int), (G.2.2.2 1, .char), (G.2.2.2 2, .long), (G.2.2.2 3, .double), (G.2.2.2 4, .object RX4)]
/-- the world of the heap -/
def ux_hw (G : ux_G) (h : ux_H) (H : Heap) : Prop := va_P G.2.2.1 ux_cl (ux_ws G h) H
def ux_xs : List String := ["java/lang/IllegalArgumentException", "java/lang/IllegalStateException", "java/lang/IndexOutOfBoundsException", "java/lang/UnsupportedOperationException", "java/util/NoSuchElementException", "java/lang/ArithmeticException"]
/-- the texts of the exceptions: class, entry, text -/
def ux_tx : List (String × Nat × String) := [(RX5, 131, "a number is out of range"), (RX5, 79, "there are 8 teachers"), (RX5, 415, "there is no such number"), (RX5, 112, "a lesson of the class is split, or its room is too small"), (RX5, 120, "a lesson in the room needs more"), (RX5, 136, "the lesson collides with another, or its room is too small"), (RX5, 139, "there are 40 lessons"), (RX5, 153, "another lesson has the room, or it is too small"), (RX5, 168, "there is no such number to ask for"), (RX5, 222, "the class has no lesson in the slot"), (RX5, 228, "the teacher is already so"), (RX5, 248, "there is no such open lesson"), (RX5, 418, "the lesson is in another state"), (RX5, 262, "no teacher can cover the lesson"), (RX5, 264, "the teacher cannot cover the lesson"), (RX5, 278, "the hosts are the same, or one is in another slot"), (RX5, 289, "a host has no acting teacher, or its room is too small"), (RX5, 306, "no reason was kept"), (RX5, 420, "there are no teachers"), (RX5, 424, "the day has more than 4 open lessons"), (RX5, 422, "there is no plan"), (RX5, 341, "a teacher of the set does not exist"), (RX5, 350, "the set is empty"), (RX5, 365, "the input is full"), (RX5, 375, "the input is not a text"), (RX5, 384, "an entry cannot be done"), (RX5, 386, "no error position was kept"), (RX5, 393, "there is no such character"), (RX5, 406, "no change is remembered"), (RX5, 411, "nothing was saved")]
/-- the one text that a call reads -/
def ux_cs (G : ux_G) (U : State) (H : Heap) : Prop := ∃ aK aV : Nat, vk_R RX6 253 "cspr" aK U ∧ vk_S 1 [4] [[99, 115, 112, 114]] (fun _ => aK) (fun _ => aV) (ux_A G) U H ∧ va_Z "java/lang/String" "COMPACT_STRINGS" "Z" (.int 1) (ux_A G) U H
/-- what else holds at a method's start -/
def ux_wf (l : Launch) (G : ux_G) (U : State) : Prop :=
  ux_ok G ∧ l.stackTraces = false ∧ (∀ w ∈ ux_N, va_Nw w U) ∧ vx_Zq Bundle.tN "UNASSIGNED_STACK" Bundle.steD (ux_A G) U U.heap ∧ vx_Zq Bundle.tN "SUPPRESSED_SENTINEL" Bundle.listD (ux_A G) U U.heap ∧
  (∀ q ∈ ux_tx, ∃ a, vk_R q.1 q.2.1 q.2.2 a U) ∧ (∀ a ∈ ux_xs, ∀ b ∈ ux_xs, a ≠ b → va_Nc a b U) ∧ va_K G.2.2.1 ux_cl (ux_ty G) U ∧ G.1 ≤ U.heap.size ∧ ux_cs G U U.heap
theorem ux_cs.kept {G : ux_G} {U : State} {H H1 : Heap} (h : ux_cs G U H) (hq : ∀ a : Nat, a < H.size → ¬ ux_A G a → H1[a]? = H[a]?) : ux_cs G U H1 := by
  obtain ⟨aK, aV, h1, h2, h3⟩ := h
  exact ⟨aK, aV, h1, h2.kept hq, h3.kept hq⟩
theorem ux_cs.warm {G : ux_G} {s U : State} {H : Heap} (hW : s.WarmedH U.vm) (h : ux_cs G s H) : ux_cs G U H := by
  obtain ⟨aK, aV, h1, h2, h3⟩ := h
  exact ⟨aK, aV, h1.warm hW, vk_S.moved hW.alike h2, va_Z.moved hW.alike h3⟩
/-- it holds wherever the same method's walk has come -/
theorem ux_wf.on {l : Launch} {G : ux_G} {s U : State} {H : Heap} {locs : List Loc} (h : ux_wf l G s) (hS : va_S (ux_A G) s.heap H locs) (hU : U.heap = H) (hW : s.WarmedH U.vm) : ux_wf l G U := by
  obtain ⟨h1, h2, h3, h4, h5, h6, h7, h8, h9, h10⟩ := h
  refine ⟨h1, h2, ?_, by rw [hU]; exact vx_Zq.moved hW.alike (h4.kept hS.2.1), by rw [hU]; exact vx_Zq.moved hW.alike (h5.kept hS.2.1), fun q hq => (h6 q hq).imp fun a ha => ha.warm hW, fun a ha b hb n => (h7 a ha b hb n).moved hW.alike, h8.moved hW.alike, by rw [hU]; exact Nat.le_trans h9 hS.1, by rw [hU]; exact (h10.kept hS.2.1).warm hW⟩
  intro w hw
  have hz := h3 w hw
  have hn := (List.mem_filter.mp hw).2
  cases w <;> first | exact hz.warmM hW | exact hz.warmF hW | exact hz.warmC hW | (exfalso; revert hn; unfold ux_nst; exact fun z => Bool.noConfusion z)
/-- it doesn't look at the frames -/
theorem ux_wf.blind {l : Launch} {G : ux_G} {U V : State} (hv : V.vm = U.vm) (hh : V.heap = U.heap) (h : ux_wf l G U) : ux_wf l G V := by
  obtain ⟨h1, h2, h3, h4, h5, h6, h7, h8, h9, h10⟩ := h
  have ha : U.vm.Alike V.vm := by rw [hv]; exact Vm.Alike.refl _
  refine ⟨h1, h2, ?_, by rw [hh]; exact vx_Zq.moved ha h4, by rw [hh]; exact vx_Zq.moved ha h5, fun q hq => (h6 q hq).imp fun a hR => hR.same hv, fun a hx b hb n => (h7 a hx b hb n).moved ha, h8.moved ha, by rw [hh]; exact h9, ?_⟩
  · intro w hw
    have hz := h3 w hw
    have hn := (List.mem_filter.mp hw).2
    have ho : w.onTables = true := by
      cases w <;> first | rfl | (exfalso; revert hn; unfold ux_nst; exact fun z => Bool.noConfusion z)
    exact hz.same ho hv.symm
  · rw [hh]
    obtain ⟨aK, aV, g1, g2, g3⟩ := h10
    exact ⟨aK, aV, g1.same hv, vk_S.moved ha g2, va_Z.moved ha g3⟩
/-- bytes, locals, the class's name, the result's type, the handlers -/
abbrev ux_I : Type := ByteArray × Nat × String × Option FieldType × List (Nat × Nat × Nat × Nat)
def ux_C (l : Launch) (G : ux_G) (mi : ux_I) (p : Program) (s : State) (m : MethodId) (args : Array Value) (meth : Method) (c : Code) : Prop :=
  p.tables.exec = Jvm.exec ∧ c.code = mi.1 ∧ c.maxLocals = mi.2.1 ∧ s.vm.findClass mi.2.2.1 = some m.cls ∧ (∀ w ∈ ux_T, w.before args s = true) ∧ meth.locks = false ∧ meth.sig.returnType = mi.2.2.2.1 ∧ c.exceptionTable.toList = tableOf mi.2.2.2.2 ∧ ux_wf l G s
def ux_lv (G : ux_G) : Nat → List (Option Value) → List (Nat × Value)
  | _, [] => []
  | i, none :: r => ux_lv G (i + 1) r
  | i, some v :: r => (i, ux_cv G v) :: ux_lv G (i + 1) r
theorem ux_lv_mem {G : ux_G} : ∀ (L : List (Option Value)) (n i : Nat) (w : Value), (i, w) ∈ ux_lv G n L ↔ ∃ (j : Nat) (v : Value), i = n + j ∧ L[j]? = some (some v) ∧ w = ux_cv G v := by
  intro L
  induction L with
  | nil => intro n i w; simp [ux_lv]
  | cons a r ih =>
    intro n i w
    cases a with
    | none =>
      show (i, w) ∈ ux_lv G (n + 1) r ↔ _
      rw [ih]
      constructor
      · rintro ⟨j, v, h1, h2, h3⟩
        exact ⟨j + 1, v, by omega, by simpa using h2, h3⟩
      · rintro ⟨j, v, h1, h2, h3⟩
        cases j with
        | zero => simp at h2
        | succ j => exact ⟨j, v, by omega, by simpa using h2, h3⟩
    | some a =>
      show (i, w) ∈ (n, ux_cv G a) :: ux_lv G (n + 1) r ↔ _
      rw [List.mem_cons, ih]
      constructor
      · rintro (h | ⟨j, v, h1, h2, h3⟩)
        · obtain ⟨rfl, rfl⟩ := Prod.mk.injEq .. ▸ h
          exact ⟨0, a, rfl, rfl, rfl⟩
        · exact ⟨j + 1, v, by omega, by simpa using h2, h3⟩
      · rintro ⟨j, v, h1, h2, h3⟩
        cases j with
        | zero =>
          left
          have e : a = v := by simpa using h2
          subst e
          rw [h1, h3]
          rfl
        | succ j => exact Or.inr ⟨j, v, by omega, by simpa using h2, h3⟩
theorem ux_at {G : ux_G} {ls : Array Slot} {nL : Nat} {L : List (Option Value)} (h : lv_has ls nL (ux_lv G 0 L)) {i : Nat} {v : Value} (hL : L[i]? = some (some v)) : ls[i]? = some (.val (ux_cv G v)) :=
  h.2.2 (i, ux_cv G v) ((ux_lv_mem L 0 i _).mpr ⟨i, v, by omega, hL, rfl⟩)
/-- fewer pairs -/
theorem ux_has {ls : Array Slot} {nL : Nat} {l l' : List (Nat × Value)} (h : lv_has ls nL l) (hs : ∀ q ∈ l', q ∈ l) : lv_has ls nL l' := ⟨h.1, h.2.1, fun q hq => h.2.2 q (hs q hq)⟩
/-- a local of one word is set -/
theorem ux_set1 {G : ux_G} {ls : Array Slot} {nL i : Nat} {L : List (Option Value)} {v : Value} (hc : ∀ (j : Nat) (w : Value), j + 1 = i → L[j]? = some (some w) → w.category = 1)
    (h : lv_has ls nL ((i, ux_cv G v) :: (ux_lv G 0 L).filter (fun q => !(q.1 == i) && !(q.1 + 1 == i && q.2.category == 2)))) : lv_has ls nL (ux_lv G 0 (L.set i (some v))) := by
  refine ux_has h ?_
  rintro ⟨a, w⟩ hq
  obtain ⟨j, x, h1, h2, h3⟩ := (ux_lv_mem _ _ _ _).mp hq
  have hj : a = j := by omega
  subst hj
  rw [List.getElem?_set] at h2
  by_cases e : i = a
  · subst e
    rw [if_pos rfl] at h2
    split at h2
    · have e2 : v = x := by simpa using h2
      subst e2
      rw [h3]
      exact List.mem_cons_self
    · cases h2
  · rw [if_neg e] at h2
    refine List.mem_cons_of_mem _ (List.mem_filter.mpr ⟨(ux_lv_mem _ _ _ _).mpr ⟨a, x, by omega, h2, h3⟩, ?_⟩)
    have e1 : (a == i) = false := by simp; omega
    simp only [e1, Bool.not_false, Bool.true_and, Bool.not_eq_true', Bool.and_eq_false_iff]
    by_cases e2 : a + 1 = i
    · right
      have h9 := hc a x e2 h2
      rw [h3, ux_cv_cat, h9]
      rfl
    · left
      simpa using e2
abbrev ux_Zt : Type := Array Value → State → List Frame → State → Prop
/-- from here the method comes to its end Z -/
def ux_W (l : Launch) (G : ux_G) (mi : ux_I) (R : Room) (Z : ux_Zt) (pc : Nat) (L : List (Option Value)) (st : List Value) (h : ux_H) (u : Nat) : Prop :=
  ∀ p e s m args below meth c H locs ls, ux_C l G mi p s m args meth c → ux_hw G h H → va_S (ux_A G) s.heap H locs → lv_has ls mi.2.1 (ux_lv G 0 L) → W p l e R s m args below meth c H locs u (6 * u) (Z args s below) (F0 m pc ls (st.map (ux_cv G)))
/-- from here, with an exception of the class E thrown -/
def ux_V (l : Launch) (G : ux_G) (mi : ux_I) (R : Room) (Z : ux_Zt) (pc : Nat) (L : List (Option Value)) (h : ux_H) (u : Nat) (E : String) : Prop :=
  ∀ p e s m args below meth c H locs ls ce q rest, ux_C l G mi p s m args meth c → ux_hw G h H → va_S (ux_A G) s.heap H locs → lv_has ls mi.2.1 (ux_lv G 0 L) → H[q]? = some ce → ce.vm = .none → s.vm.findClass E = some ce.cls → vx_W p l e R s m args below meth c H locs u (6 * u) (Z args s below) (F0 m pc ls rest) q
def ux_rm (d k : Nat) : Room := { frames := 8 + d, cells := k, slots := 6 * k, locals := 200 + 40 * d }
def ux_Qc (G : ux_G) (Q : Option Value → ux_H → Prop) : Array Value → State → Outcome → State → Prop := fun _ st o t => (∃ v h', o = .returned (v.map (ux_cv G)) ∧ Q v h' ∧ ux_hw G h' t.heap) ∧ va_F (ux_A G) st t
def ux_Xc (G : ux_G) (X : String → ux_H → Prop) : String → State → State → Prop := fun E st t => (∃ h', X E h' ∧ ux_hw G h' t.heap) ∧ va_F (ux_A G) st t
/-- the end of a method: a result, or an exception -/
def ux_Z (G : ux_G) (k : Nat) (Q : Option Value → ux_H → Prop) (X : String → ux_H → Prop) : ux_Zt := fun args s below => vx_MQ below (ux_Qc G Q) (ux_Xc G X) args s k (6 * k) (ux_A G)
def ux_cw (y : MethodName) (mi : ux_I) : Cond := match mi.2.2.2.2 with
  | [] => .code y mi.1 mi.2.1 mi.2.2.2.1
  | hh => .codeWith y mi.1 mi.2.1 mi.2.2.2.1 hh
def ux_Pc (l : Launch) (G : ux_G) (av : List Value) (h : ux_H) : Array Value → State → Prop := va_Pc (av.map (ux_cv G)) (fun U => ux_wf l G U ∧ ux_hw G h U.heap)
/-- A METHOD'S CONTRACT: called with av in the world h, it ends with Q or throws with X -/
def ux_M (l : Launch) (G : ux_G) (y : MethodName) (mi : ux_I) (d k : Nat) (av : List Value) (h : ux_H) (Q : Option Value → ux_H → Prop) (X : String → ux_H → Prop) : Prop :=
  vx_Met l y (ux_cw y mi :: ux_T) (ux_rm d k) (ux_Pc l G av h) (ux_Qc G Q) (ux_Xc G X) k (6 * k) (ux_A G)
theorem ux_Pc_blind {l : Launch} {G : ux_G} {av : List Value} {h : ux_H} : FrameBlind (ux_Pc l G av h) := by
  rintro a U g mk ⟨e, hw, hh⟩
  exact ⟨e, ux_wf.blind (U := U) (V := U.calling g mk a) rfl rfl hw, hh⟩
end
section
/-! THE ROWS OF THE UNIFORM WORLD: an instruction, a row. -/
section UXR
variable {l : Launch} {G : ux_G} {mi : ux_I} {R : Room} {Z : ux_Zt} {pc : Nat} {L : List (Option Value)} {st : List Value} {h : ux_H} {u : Nat}
theorem g_at {pc' : Nat} (e : pc' = pc) (n : ux_W l G mi R Z pc' L st h u) : ux_W l G mi R Z pc L st h u := e ▸ n
theorem g_widen {k : Nat} (hk : u ≤ k) (n : ux_W l G mi R Z pc L st h k) : ux_W l G mi R Z pc L st h u := by
  intro p e s m args below meth c H locs ls C hH hS hl
  exact W.widen hk (by omega) (n p e s m args below meth c H locs ls C hH hS hl)
theorem g_iconst {n : Int} {v : Int32} (d : decode mi.1 pc = .ok (.iconst n, 1)) (hv : Int32.ofInt n = v) (k : ux_W l G mi R Z (pc + 1) L (.int v :: st) h u) : ux_W l G mi R Z pc L st h u := by
  intro p e s m args below meth c H locs ls C hH hS hl
  exact lv_iconst C.1 C.2.1 d hv (k p e s m args below meth c H locs ls C hH hS hl)
theorem g_bipush {n : Int} {v : Int32} (d : decode mi.1 pc = .ok (.bipush n, 2)) (hv : (Int8.ofInt n).toInt32 = v) (k : ux_W l G mi R Z (pc + 2) L (.int v :: st) h u) : ux_W l G mi R Z pc L st h u := by
  intro p e s m args below meth c H locs ls C hH hS hl
  exact lv_bipush C.1 C.2.1 d hv (k p e s m args below meth c H locs ls C hH hS hl)
theorem g_sipush {n : Int} {v : Int32} (d : decode mi.1 pc = .ok (.sipush n, 3)) (hv : (Int16.ofInt n).toInt32 = v) (k : ux_W l G mi R Z (pc + 3) L (.int v :: st) h u) : ux_W l G mi R Z pc L st h u := by
  intro p e s m args below meth c H locs ls C hH hS hl
  exact lv_sipush C.1 C.2.1 d hv (k p e s m args below meth c H locs ls C hH hS hl)
theorem g_iload_n {k : Fin 4} {x : Int32} (d : decode mi.1 pc = .ok (.iload_n k, 1)) (hL : L[(k : Nat)]? = some (some (.int x))) (n : ux_W l G mi R Z (pc + 1) L (.int x :: st) h u) : ux_W l G mi R Z pc L st h u := by
  intro p e s m args below meth c H locs ls C hH hS hl
  exact lv_iload_n C.1 C.2.1 d rfl (ux_at hl hL) (n p e s m args below meth c H locs ls C hH hS hl)
theorem g_iload {i : Nat} {x : Int32} (d : decode mi.1 pc = .ok (.iload i, 2)) (hL : L[i]? = some (some (.int x))) (n : ux_W l G mi R Z (pc + 2) L (.int x :: st) h u) : ux_W l G mi R Z pc L st h u := by
  intro p e s m args below meth c H locs ls C hH hS hl
  exact lv_iload C.1 C.2.1 d (ux_at hl hL) (n p e s m args below meth c H locs ls C hH hS hl)
theorem g_dload {i : Nat} {x : UInt64} (d : decode mi.1 pc = .ok (.dload i, 2)) (hL : L[i]? = some (some (.double x))) (n : ux_W l G mi R Z (pc + 2) L (.double x :: st) h u) : ux_W l G mi R Z pc L st h u := by
  intro p e s m args below meth c H locs ls C hH hS hl
  exact lv_dload C.1 C.2.1 d (ux_at hl hL) (n p e s m args below meth c H locs ls C hH hS hl)
theorem g_aload_n {k : Fin 4} {x : Nat} (d : decode mi.1 pc = .ok (.aload_n k, 1)) (hL : L[(k : Nat)]? = some (some (.ref x))) (n : ux_W l G mi R Z (pc + 1) L (.ref x :: st) h u) : ux_W l G mi R Z pc L st h u := by
  intro p e s m args below meth c H locs ls C hH hS hl
  exact lv_aload_n C.1 C.2.1 d rfl (ux_at hl hL) (n p e s m args below meth c H locs ls C hH hS hl)
theorem g_aload {i : Nat} {x : Nat} (d : decode mi.1 pc = .ok (.aload i, 2)) (hL : L[i]? = some (some (.ref x))) (n : ux_W l G mi R Z (pc + 2) L (.ref x :: st) h u) : ux_W l G mi R Z pc L st h u := by
  intro p e s m args below meth c H locs ls C hH hS hl
  exact lv_aload C.1 C.2.1 d (ux_at hl hL) (n p e s m args below meth c H locs ls C hH hS hl)
/-- no local holds a long or double -/
def ux_one (L : List (Option Value)) : Prop := ∀ (j : Nat) (w : Value), L[j]? = some (some w) → w.category = 1
theorem ux_one_nil : ux_one [] := fun j w q => by simp at q
theorem ux_one_n {L : List (Option Value)} (q : ux_one L) : ux_one (none :: L) := fun j w z => by
  cases j with
  | zero => simp at z
  | succ j => exact q j w (by simpa using z)
theorem ux_one_c {L : List (Option Value)} {v : Value} (hv : v.category = 1) (q : ux_one L) : ux_one (some v :: L) := fun j w z => by
  cases j with
  | zero =>
    have e : v = w := by simpa using z
    rw [← e]; exact hv
  | succ j => exact q j w (by simpa using z)
theorem ux_one_set {L : List (Option Value)} {v : Value} {i : Nat} (hv : v.category = 1) (q : ux_one L) : ux_one (L.set i (some v)) := fun j w z => by
  rw [List.getElem?_set] at z
  split at z
  · split at z
    · have e : v = w := by simpa using z
      rw [← e]; exact hv
    · cases z
  · exact q j w z
theorem g_istore_n {k : Fin 4} {x : Int32} (d : decode mi.1 pc = .ok (.istore_n k, 1)) (h1 : ux_one L) (hk : (k : Nat) < mi.2.1) (n : ux_W l G mi R Z (pc + 1) (L.set k (some (.int x))) st h u) : ux_W l G mi R Z pc L (.int x :: st) h u := by
  intro p e s m args below meth c H locs ls C hH hS hl
  exact lv_istore_n C.1 C.2.1 d rfl hl hk rfl (fun ls' hl' => n p e s m args below meth c H locs ls' C hH hS (ux_set1 (fun j w _ q => h1 j w q) hl'))
theorem g_istore {i : Nat} {x : Int32} (d : decode mi.1 pc = .ok (.istore i, 2)) (h1 : ux_one L) (hk : i < mi.2.1) (n : ux_W l G mi R Z (pc + 2) (L.set i (some (.int x))) st h u) : ux_W l G mi R Z pc L (.int x :: st) h u := by
  intro p e s m args below meth c H locs ls C hH hS hl
  exact lv_istore C.1 C.2.1 d hl hk rfl (fun ls' hl' => n p e s m args below meth c H locs ls' C hH hS (ux_set1 (fun j w _ q => h1 j w q) hl'))
theorem g_astore_n {k : Fin 4} {x : Nat} (d : decode mi.1 pc = .ok (.astore_n k, 1)) (h1 : ux_one L) (hk : (k : Nat) < mi.2.1) (n : ux_W l G mi R Z (pc + 1) (L.set k (some (.ref x))) st h u) : ux_W l G mi R Z pc L (.ref x :: st) h u := by
  intro p e s m args below meth c H locs ls C hH hS hl
  exact lv_astore_n C.1 C.2.1 d rfl hl hk rfl (fun ls' hl' => n p e s m args below meth c H locs ls' C hH hS (ux_set1 (v := .ref x) (fun j w _ q => h1 j w q) hl'))
theorem g_astore {i : Nat} {x : Nat} (d : decode mi.1 pc = .ok (.astore i, 2)) (h1 : ux_one L) (hk : i < mi.2.1) (n : ux_W l G mi R Z (pc + 2) (L.set i (some (.ref x))) st h u) : ux_W l G mi R Z pc L (.ref x :: st) h u := by
  intro p e s m args below meth c H locs ls C hH hS hl
  exact lv_astore C.1 C.2.1 d hl hk rfl (fun ls' hl' => n p e s m args below meth c H locs ls' C hH hS (ux_set1 (v := .ref x) (fun j w _ q => h1 j w q) hl'))
theorem ux_iinc_at {L : List (Option Value)} {G : ux_G} {i : Nat} {x : Int32} (hL : L[i]? = some (some (.int x))) : ∃ k : Nat, (ux_lv G 0 L)[k]? = some (i, .int x) := by
  have hm : (i, ux_cv G (.int x)) ∈ ux_lv G 0 L := (ux_lv_mem L 0 i _).mpr ⟨i, _, by omega, hL, rfl⟩
  exact List.getElem?_of_mem hm
theorem g_iinc {i : Nat} {z : Int} {x v : Int32} (d : decode mi.1 pc = .ok (.iinc i z, 3)) (hL : L[i]? = some (some (.int x))) (hv : x + Int32.ofInt z = v) (h1 : ux_one L) (hk : i < mi.2.1) (n : ux_W l G mi R Z (pc + 3) (L.set i (some (.int v))) st h u) : ux_W l G mi R Z pc L st h u := by
  intro p e s m args below meth c H locs ls C hH hS hl
  obtain ⟨k, hk2⟩ := ux_iinc_at (G := G) hL
  exact lv_iinc C.1 C.2.1 d hl hk2 hv hk rfl (fun ls' hl' => n p e s m args below meth c H locs ls' C hH hS (ux_set1 (v := .int v) (fun j w _ q => h1 j w q) hl'))
theorem g_iadd {x y : Int32} (d : decode mi.1 pc = .ok (.iadd, 1)) (k : ux_W l G mi R Z (pc + 1) L (.int (x + y) :: st) h u) : ux_W l G mi R Z pc L (.int y :: .int x :: st) h u := by
  intro p e s m args below meth c H locs ls C hH hS hl
  exact lv_iadd C.1 C.2.1 d (k p e s m args below meth c H locs ls C hH hS hl)
theorem g_isub {x y : Int32} (d : decode mi.1 pc = .ok (.isub, 1)) (k : ux_W l G mi R Z (pc + 1) L (.int (x - y) :: st) h u) : ux_W l G mi R Z pc L (.int y :: .int x :: st) h u := by
  intro p e s m args below meth c H locs ls C hH hS hl
  exact lv_isub C.1 C.2.1 d (k p e s m args below meth c H locs ls C hH hS hl)
theorem g_imul {x y : Int32} (d : decode mi.1 pc = .ok (.imul, 1)) (k : ux_W l G mi R Z (pc + 1) L (.int (x * y) :: st) h u) : ux_W l G mi R Z pc L (.int y :: .int x :: st) h u := by
  intro p e s m args below meth c H locs ls C hH hS hl
  exact lv_imul C.1 C.2.1 d (k p e s m args below meth c H locs ls C hH hS hl)
theorem g_iand {x y : Int32} (d : decode mi.1 pc = .ok (.iand, 1)) (k : ux_W l G mi R Z (pc + 1) L (.int (x &&& y) :: st) h u) : ux_W l G mi R Z pc L (.int y :: .int x :: st) h u := by
  intro p e s m args below meth c H locs ls C hH hS hl
  exact lv_iand C.1 C.2.1 d (k p e s m args below meth c H locs ls C hH hS hl)
theorem g_ior {x y : Int32} (d : decode mi.1 pc = .ok (.ior, 1)) (k : ux_W l G mi R Z (pc + 1) L (.int (x ||| y) :: st) h u) : ux_W l G mi R Z pc L (.int y :: .int x :: st) h u := by
  intro p e s m args below meth c H locs ls C hH hS hl
  exact lv_ior C.1 C.2.1 d (k p e s m args below meth c H locs ls C hH hS hl)
theorem g_ixor {x y : Int32} (d : decode mi.1 pc = .ok (.ixor, 1)) (k : ux_W l G mi R Z (pc + 1) L (.int (x ^^^ y) :: st) h u) : ux_W l G mi R Z pc L (.int y :: .int x :: st) h u := by
  intro p e s m args below meth c H locs ls C hH hS hl
  exact lv_ixor C.1 C.2.1 d (k p e s m args below meth c H locs ls C hH hS hl)
theorem g_ishl {x y : Int32} (d : decode mi.1 pc = .ok (.ishl, 1)) (k : ux_W l G mi R Z (pc + 1) L (.int (x <<< (y &&& 31)) :: st) h u) : ux_W l G mi R Z pc L (.int y :: .int x :: st) h u := by
  intro p e s m args below meth c H locs ls C hH hS hl
  exact lv_ishl C.1 C.2.1 d (k p e s m args below meth c H locs ls C hH hS hl)
theorem g_ishr {x y : Int32} (d : decode mi.1 pc = .ok (.ishr, 1)) (k : ux_W l G mi R Z (pc + 1) L (.int (x >>> (y &&& 31)) :: st) h u) : ux_W l G mi R Z pc L (.int y :: .int x :: st) h u := by
  intro p e s m args below meth c H locs ls C hH hS hl
  exact lv_ishr C.1 C.2.1 d (k p e s m args below meth c H locs ls C hH hS hl)
theorem g_iushr {x y v : Int32} (d : decode mi.1 pc = .ok (.iushr, 1)) (hv : (x.toUInt32 >>> (y.toUInt32 &&& Int32.toUInt32 31)).toInt32 = v) (k : ux_W l G mi R Z (pc + 1) L (.int v :: st) h u) : ux_W l G mi R Z pc L (.int y :: .int x :: st) h u := by
  intro p e s m args below meth c H locs ls C hH hS hl
  exact lv_iushr C.1 C.2.1 d hv (k p e s m args below meth c H locs ls C hH hS hl)
theorem g_idiv {x y : Int32} (d : decode mi.1 pc = .ok (.idiv, 1)) (hy : ¬ y = 0) (k : ux_W l G mi R Z (pc + 1) L (.int (x / y) :: st) h u) : ux_W l G mi R Z pc L (.int y :: .int x :: st) h u := by
  intro p e s m args below meth c H locs ls C hH hS hl
  exact lv_idiv C.1 C.2.1 d hy (k p e s m args below meth c H locs ls C hH hS hl)
theorem g_irem {x y : Int32} (d : decode mi.1 pc = .ok (.irem, 1)) (hy : ¬ y = 0) (k : ux_W l G mi R Z (pc + 1) L (.int (x - x / y * y) :: st) h u) : ux_W l G mi R Z pc L (.int y :: .int x :: st) h u := by
  intro p e s m args below meth c H locs ls C hH hS hl
  exact lv_irem C.1 C.2.1 d hy (k p e s m args below meth c H locs ls C hH hS hl)
theorem g_ineg {x : Int32} (d : decode mi.1 pc = .ok (.ineg, 1)) (k : ux_W l G mi R Z (pc + 1) L (.int (-x) :: st) h u) : ux_W l G mi R Z pc L (.int x :: st) h u := by
  intro p e s m args below meth c H locs ls C hH hS hl
  exact lv_ineg C.1 C.2.1 d (k p e s m args below meth c H locs ls C hH hS hl)
theorem g_i2c {x v : Int32} (d : decode mi.1 pc = .ok (.i2c, 1)) (hv : (x.toUInt32 % 65536).toInt32 = v) (k : ux_W l G mi R Z (pc + 1) L (.int v :: st) h u) : ux_W l G mi R Z pc L (.int x :: st) h u := by
  intro p e s m args below meth c H locs ls C hH hS hl
  exact lv_i2c C.1 C.2.1 d hv (k p e s m args below meth c H locs ls C hH hS hl)
theorem g_i2l {x : Int32} (d : decode mi.1 pc = .ok (.i2l, 1)) (k : ux_W l G mi R Z (pc + 1) L (.long x.toInt64 :: st) h u) : ux_W l G mi R Z pc L (.int x :: st) h u := by
  intro p e s m args below meth c H locs ls C hH hS hl
  exact lv_i2l C.1 C.2.1 d rfl (k p e s m args below meth c H locs ls C hH hS hl)
theorem g_i2d {x : Int32} (d : decode mi.1 pc = .ok (.i2d, 1)) (k : ux_W l G mi R Z (pc + 1) L (.double (FP.i2d x) :: st) h u) : ux_W l G mi R Z pc L (.int x :: st) h u := by
  intro p e s m args below meth c H locs ls C hH hS hl
  exact lv_i2d C.1 C.2.1 d (k p e s m args below meth c H locs ls C hH hS hl)
theorem g_ddiv {x y : UInt64} (d : decode mi.1 pc = .ok (.ddiv, 1)) (hn : vf_n64 (FP.ddiv x y)) (k : ux_W l G mi R Z (pc + 1) L (.double (FP.ddiv x y) :: st) h u) : ux_W l G mi R Z pc L (.double y :: .double x :: st) h u := by
  intro p e s m args below meth c H locs ls C hH hS hl
  exact lv_ddiv C.1 C.2.1 d hn (k p e s m args below meth c H locs ls C hH hS hl)
theorem g_dcmp {x y : UInt64} {op : CmpOp} (d : decode mi.1 pc = .ok (.dcmp op, 1)) (k : ux_W l G mi R Z (pc + 1) L (.int (Op.cmpValue (FP.dcmp x y) op) :: st) h u) : ux_W l G mi R Z pc L (.double y :: .double x :: st) h u := by
  intro p e s m args below meth c H locs ls C hH hS hl
  exact lv_dcmp C.1 C.2.1 d (k p e s m args below meth c H locs ls C hH hS hl)
theorem g_lcmp {x y : Int64} (d : decode mi.1 pc = .ok (.lcmp, 1)) (k : ux_W l G mi R Z (pc + 1) L (.int (lg_cmp x y) :: st) h u) : ux_W l G mi R Z pc L (.long y :: .long x :: st) h u := by
  intro p e s m args below meth c H locs ls C hH hS hl
  exact W.lcmp C.1 C.2.1 d (k p e s m args below meth c H locs ls C hH hS hl)
theorem g_dup {v : Value} (d : decode mi.1 pc = .ok (.dup, 1)) (hv : v.category = 1) (k : ux_W l G mi R Z (pc + 1) L (v :: v :: st) h u) : ux_W l G mi R Z pc L (v :: st) h u := by
  intro p e s m args below meth c H locs ls C hH hS hl
  exact lv_dup C.1 C.2.1 d (by rw [ux_cv_cat]; exact hv) (k p e s m args below meth c H locs ls C hH hS hl)
theorem g_dup2 {v w : Value} (d : decode mi.1 pc = .ok (.dup2, 1)) (hv : v.category = 1) (hw : w.category = 1) (k : ux_W l G mi R Z (pc + 1) L (v :: w :: v :: w :: st) h u) : ux_W l G mi R Z pc L (v :: w :: st) h u := by
  intro p e s m args below meth c H locs ls C hH hS hl
  exact lv_dup2_11 C.1 C.2.1 d (by rw [ux_cv_cat]; exact hv) (by rw [ux_cv_cat]; exact hw) (k p e s m args below meth c H locs ls C hH hS hl)
theorem g_dup_x1 {v w : Value} (d : decode mi.1 pc = .ok (.dup_x1, 1)) (hv : v.category = 1) (hw : w.category = 1) (k : ux_W l G mi R Z (pc + 1) L (v :: w :: v :: st) h u) : ux_W l G mi R Z pc L (v :: w :: st) h u := by
  intro p e s m args below meth c H locs ls C hH hS hl
  exact lv_dup_x1 C.1 C.2.1 d (by rw [ux_cv_cat]; exact hv) (by rw [ux_cv_cat]; exact hw) (k p e s m args below meth c H locs ls C hH hS hl)
theorem g_dup_x2 {v w z : Value} (d : decode mi.1 pc = .ok (.dup_x2, 1)) (hv : v.category = 1) (hw : w.category = 1) (hz : z.category = 1) (k : ux_W l G mi R Z (pc + 1) L (v :: w :: z :: v :: st) h u) : ux_W l G mi R Z pc L (v :: w :: z :: st) h u := by
  intro p e s m args below meth c H locs ls C hH hS hl
  exact lv_dup_x2 C.1 C.2.1 d (by rw [ux_cv_cat]; exact hv) (by rw [ux_cv_cat]; exact hw) (by rw [ux_cv_cat]; exact hz) (k p e s m args below meth c H locs ls C hH hS hl)
theorem g_pop {v : Value} (d : decode mi.1 pc = .ok (.pop, 1)) (hv : v.category = 1) (k : ux_W l G mi R Z (pc + 1) L st h u) : ux_W l G mi R Z pc L (v :: st) h u := by
  intro p e s m args below meth c H locs ls C hH hS hl
  exact lv_pop C.1 C.2.1 d (by rw [ux_cv_cat]; exact hv) (k p e s m args below meth c H locs ls C hH hS hl)
theorem g_goto {off : Int} {tgt : Nat} (d : decode mi.1 pc = .ok (.goto off, 3)) (ht : (pc : Int) + off = (tgt : Int)) (k : ux_W l G mi R Z tgt L st h u) : ux_W l G mi R Z pc L st h u := by
  intro p e s m args below meth c H locs ls C hH hS hl
  exact lv_goto C.1 C.2.1 d ht (k p e s m args below meth c H locs ls C hH hS hl)
theorem g_if_eq {x : Int32} {off : Int} {tgt : Nat} (d : decode mi.1 pc = .ok (.ifCond .eq off, 3)) (ht : (pc : Int) + off = (tgt : Int)) (kt : x = 0 → ux_W l G mi R Z tgt L st h u) (kf : ¬ x = 0 → ux_W l G mi R Z (pc + 3) L st h u) : ux_W l G mi R Z pc L (.int x :: st) h u := by
  intro p e s m args below meth c H locs ls C hH hS hl
  exact lv_if_eq C.1 C.2.1 d ht (fun q => kt q p e s m args below meth c H locs ls C hH hS hl) (fun q => kf q p e s m args below meth c H locs ls C hH hS hl)
theorem g_if_ne {x : Int32} {off : Int} {tgt : Nat} (d : decode mi.1 pc = .ok (.ifCond .ne off, 3)) (ht : (pc : Int) + off = (tgt : Int)) (kt : ¬ x = 0 → ux_W l G mi R Z tgt L st h u) (kf : x = 0 → ux_W l G mi R Z (pc + 3) L st h u) : ux_W l G mi R Z pc L (.int x :: st) h u := by
  intro p e s m args below meth c H locs ls C hH hS hl
  exact lv_if_ne C.1 C.2.1 d ht (fun q => kt q p e s m args below meth c H locs ls C hH hS hl) (fun q => kf q p e s m args below meth c H locs ls C hH hS hl)
theorem g_if_lt {x : Int32} {off : Int} {tgt : Nat} (d : decode mi.1 pc = .ok (.ifCond .lt off, 3)) (ht : (pc : Int) + off = (tgt : Int)) (kt : x < 0 → ux_W l G mi R Z tgt L st h u) (kf : ¬ x < 0 → ux_W l G mi R Z (pc + 3) L st h u) : ux_W l G mi R Z pc L (.int x :: st) h u := by
  intro p e s m args below meth c H locs ls C hH hS hl
  exact lv_if_lt C.1 C.2.1 d ht (fun q => kt q p e s m args below meth c H locs ls C hH hS hl) (fun q => kf q p e s m args below meth c H locs ls C hH hS hl)
theorem g_if_gt {x : Int32} {off : Int} {tgt : Nat} (d : decode mi.1 pc = .ok (.ifCond .gt off, 3)) (ht : (pc : Int) + off = (tgt : Int)) (kt : 0 < x → ux_W l G mi R Z tgt L st h u) (kf : ¬ 0 < x → ux_W l G mi R Z (pc + 3) L st h u) : ux_W l G mi R Z pc L (.int x :: st) h u := by
  intro p e s m args below meth c H locs ls C hH hS hl
  exact lv_if_gt C.1 C.2.1 d ht (fun q => kt q p e s m args below meth c H locs ls C hH hS hl) (fun q => kf q p e s m args below meth c H locs ls C hH hS hl)
theorem g_if_le {x : Int32} {off : Int} {tgt : Nat} (d : decode mi.1 pc = .ok (.ifCond .le off, 3)) (ht : (pc : Int) + off = (tgt : Int)) (kt : x ≤ 0 → ux_W l G mi R Z tgt L st h u) (kf : ¬ x ≤ 0 → ux_W l G mi R Z (pc + 3) L st h u) : ux_W l G mi R Z pc L (.int x :: st) h u := by
  intro p e s m args below meth c H locs ls C hH hS hl
  exact lv_if_le C.1 C.2.1 d ht (fun q => kt q p e s m args below meth c H locs ls C hH hS hl) (fun q => kf q p e s m args below meth c H locs ls C hH hS hl)
theorem g_if_ge {x : Int32} {off : Int} {tgt : Nat} (d : decode mi.1 pc = .ok (.ifCond .ge off, 3)) (ht : (pc : Int) + off = (tgt : Int)) (kt : 0 ≤ x → ux_W l G mi R Z tgt L st h u) (kf : ¬ 0 ≤ x → ux_W l G mi R Z (pc + 3) L st h u) : ux_W l G mi R Z pc L (.int x :: st) h u := by
  intro p e s m args below meth c H locs ls C hH hS hl
  exact lv_if_ge C.1 C.2.1 d ht (fun q => kt q p e s m args below meth c H locs ls C hH hS hl) (fun q => kf q p e s m args below meth c H locs ls C hH hS hl)
theorem g_icmp_eq {x y : Int32} {off : Int} {tgt : Nat} (d : decode mi.1 pc = .ok (.if_icmp .eq off, 3)) (ht : (pc : Int) + off = (tgt : Int)) (kt : x = y → ux_W l G mi R Z tgt L st h u) (kf : ¬ x = y → ux_W l G mi R Z (pc + 3) L st h u) : ux_W l G mi R Z pc L (.int y :: .int x :: st) h u := by
  intro p e s m args below meth c H locs ls C hH hS hl
  exact lv_icmp_eq C.1 C.2.1 d ht (fun q => kt q p e s m args below meth c H locs ls C hH hS hl) (fun q => kf q p e s m args below meth c H locs ls C hH hS hl)
theorem g_icmp_ne {x y : Int32} {off : Int} {tgt : Nat} (d : decode mi.1 pc = .ok (.if_icmp .ne off, 3)) (ht : (pc : Int) + off = (tgt : Int)) (kt : ¬ x = y → ux_W l G mi R Z tgt L st h u) (kf : x = y → ux_W l G mi R Z (pc + 3) L st h u) : ux_W l G mi R Z pc L (.int y :: .int x :: st) h u := by
  intro p e s m args below meth c H locs ls C hH hS hl
  exact lv_icmp_ne C.1 C.2.1 d ht (fun q => kt q p e s m args below meth c H locs ls C hH hS hl) (fun q => kf q p e s m args below meth c H locs ls C hH hS hl)
theorem g_icmp_lt {x y : Int32} {off : Int} {tgt : Nat} (d : decode mi.1 pc = .ok (.if_icmp .lt off, 3)) (ht : (pc : Int) + off = (tgt : Int)) (kt : x < y → ux_W l G mi R Z tgt L st h u) (kf : ¬ x < y → ux_W l G mi R Z (pc + 3) L st h u) : ux_W l G mi R Z pc L (.int y :: .int x :: st) h u := by
  intro p e s m args below meth c H locs ls C hH hS hl
  exact lv_icmp_lt C.1 C.2.1 d ht (fun q => kt q p e s m args below meth c H locs ls C hH hS hl) (fun q => kf q p e s m args below meth c H locs ls C hH hS hl)
theorem g_icmp_gt {x y : Int32} {off : Int} {tgt : Nat} (d : decode mi.1 pc = .ok (.if_icmp .gt off, 3)) (ht : (pc : Int) + off = (tgt : Int)) (kt : y < x → ux_W l G mi R Z tgt L st h u) (kf : ¬ y < x → ux_W l G mi R Z (pc + 3) L st h u) : ux_W l G mi R Z pc L (.int y :: .int x :: st) h u := by
  intro p e s m args below meth c H locs ls C hH hS hl
  exact lv_icmp_gt C.1 C.2.1 d ht (fun q => kt q p e s m args below meth c H locs ls C hH hS hl) (fun q => kf q p e s m args below meth c H locs ls C hH hS hl)
theorem g_icmp_le {x y : Int32} {off : Int} {tgt : Nat} (d : decode mi.1 pc = .ok (.if_icmp .le off, 3)) (ht : (pc : Int) + off = (tgt : Int)) (kt : x ≤ y → ux_W l G mi R Z tgt L st h u) (kf : ¬ x ≤ y → ux_W l G mi R Z (pc + 3) L st h u) : ux_W l G mi R Z pc L (.int y :: .int x :: st) h u := by
  intro p e s m args below meth c H locs ls C hH hS hl
  exact lv_icmp_le C.1 C.2.1 d ht (fun q => kt q p e s m args below meth c H locs ls C hH hS hl) (fun q => kf q p e s m args below meth c H locs ls C hH hS hl)
theorem g_icmp_ge {x y : Int32} {off : Int} {tgt : Nat} (d : decode mi.1 pc = .ok (.if_icmp .ge off, 3)) (ht : (pc : Int) + off = (tgt : Int)) (kt : y ≤ x → ux_W l G mi R Z tgt L st h u) (kf : ¬ y ≤ x → ux_W l G mi R Z (pc + 3) L st h u) : ux_W l G mi R Z pc L (.int y :: .int x :: st) h u := by
  intro p e s m args below meth c H locs ls C hH hS hl
  exact lv_icmp_ge C.1 C.2.1 d ht (fun q => kt q p e s m args below meth c H locs ls C hH hS hl) (fun q => kf q p e s m args below meth c H locs ls C hH hS hl)
theorem g_ifnull {x : Nat} {off : Int} (d : decode mi.1 pc = .ok (.ifnull off, 3)) (k : ux_W l G mi R Z (pc + 3) L st h u) : ux_W l G mi R Z pc L (.ref x :: st) h u := by
  intro p e s m args below meth c H locs ls C hH hS hl
  exact lv_ifnull C.1 C.2.1 d (k p e s m args below meth c H locs ls C hH hS hl)
theorem g_tableOut {dflt lo hi : Int} {offs : Array Int} {len : Nat} {x : Int32} {tgt : Nat} (d : decode mi.1 pc = .ok (.tableswitch dflt lo hi offs, len)) (hx : x.toInt < lo ∨ hi < x.toInt) (ht : (pc : Int) + dflt = (tgt : Int)) (k : ux_W l G mi R Z tgt L st h u) : ux_W l G mi R Z pc L (.int x :: st) h u := by
  intro p e s m args below meth c H locs ls C hH hS hl
  exact lv_tableOut C.1 C.2.1 d hx ht (k p e s m args below meth c H locs ls C hH hS hl)
theorem g_tableIn {dflt lo hi : Int} {offs : Array Int} {len : Nat} {x : Int32} {off : Int} {tgt : Nat} (d : decode mi.1 pc = .ok (.tableswitch dflt lo hi offs, len)) (h1 : ¬ x.toInt < lo) (h2 : ¬ hi < x.toInt) (ho : offs[(x.toInt - lo).toNat]? = some off) (ht : (pc : Int) + off = (tgt : Int)) (k : ux_W l G mi R Z tgt L st h u) : ux_W l G mi R Z pc L (.int x :: st) h u := by
  intro p e s m args below meth c H locs ls C hH hS hl
  exact lv_tableIn C.1 C.2.1 d h1 h2 ho ht (k p e s m args below meth c H locs ls C hH hS hl)
end UXR
end
section
/-! FIELDS, ARRAYS, CALLS AND ENDS in the uniform world. -/
/-- a link of a field: own class, entry, the field's class by its number, the field's place -/
def ux_fl (own : String) (idx ci j : Nat) : Prop := ∃ (C : String) (T : u_T) (ty : Nat → FieldType), ux_cl[ci]? = some (C, T, ux_nf ci) ∧ j < ux_nf ci ∧ (T j).1 = C ∧ (∀ w ∈ u_ws C T (ux_nf ci), w ∈ ux_T) ∧ (∀ k, k < ux_nf ci → parseFieldDescriptor (T k).2.2.1 = some (ty k)) ∧ (∀ a, a < ux_nf ci → ∀ b, b < ux_nf ci → a ≠ b → (T a).2.1 ≠ (T b).2.1) ∧
  (Cond.fieldLink own idx C (T j).2.1 (T j).2.2.1 ∈ ux_T ∨ ∃ host, Cond.fieldLinkNest own idx C (T j).2.1 (T j).2.2.1 host ∈ ux_N)
/-- .. that isn't final, of a type -/
def ux_pf (own : String) (idx ci j : Nat) (t : FieldType) : Prop := ∃ (C : String) (T : u_T) (ty : Nat → FieldType), ux_cl[ci]? = some (C, T, ux_nf ci) ∧ j < ux_nf ci ∧ (T j).1 = C ∧ (∀ w ∈ u_ws C T (ux_nf ci), w ∈ ux_T) ∧ (∀ k, k < ux_nf ci → parseFieldDescriptor (T k).2.2.1 = some (ty k)) ∧ (∀ a, a < ux_nf ci → ∀ b, b < ux_nf ci → a ≠ b → (T a).2.1 ≠ (T b).2.1) ∧
  (Cond.fieldLink own idx C (T j).2.1 (T j).2.2.1 ∈ ux_T ∨ ∃ host, Cond.fieldLinkNest own idx C (T j).2.1 (T j).2.2.1 host ∈ ux_N) ∧ (T j).2.2.2 = false ∧ parseFieldDescriptor (T j).2.2.1 = some t
/-- a method's own words -/
def ux_lk (y : MethodName) (mi : ux_I) (n : Nat) : Prop := ux_cw y mi ∈ ux_T ∧ Cond.initialized y.cls ∈ ux_T ∧ (y.cls ≠ "java/lang/invoke/MethodHandle" ∧ y.cls ≠ "java/lang/invoke/VarHandle") ∧ (parseMethodDescriptor y.desc).map (fun d => d.parameters.length) = some n ∧ plainName y.cls = true ∧ mi.2.2.1 = y.cls
def ux_lS (own : String) (idx : Nat) (y : MethodName) : Prop := Cond.methodLink own idx y ∈ ux_T ∧ Cond.static y ∈ ux_T
def ux_lSN (own : String) (idx : Nat) (y : MethodName) : Prop := (∃ host, Cond.methodLinkNest own idx y host ∈ ux_N) ∧ Cond.static y ∈ ux_T
def ux_lV (own : String) (idx : Nat) (y : MethodName) : Prop := Cond.methodLink own idx y ∈ ux_T ∧ Cond.instanceMethod y ∈ ux_T ∧ Cond.selects y.cls y y ∈ ux_T
def ux_lVN (own : String) (idx : Nat) (y : MethodName) : Prop := (∃ host, Cond.methodLinkNest own idx y host ∈ ux_N) ∧ Cond.instanceMethod y ∈ ux_T ∧ Cond.selects y.cls y y ∈ ux_T
/-- the room that a call needs -/
def ux_ro (R : Room) (mL d k u : Nat) : Bool := decide (8 + d + 1 ≤ R.frames) && decide (8 + (mL + 11) + (200 + 40 * d) ≤ R.locals) && decide (u + k ≤ R.cells) && decide (6 * u + 6 * k ≤ R.slots)
theorem ux_ro_of {R : Room} {mL d k u : Nat} (h : ux_ro R mL d k u = true) : 8 + d + 1 ≤ R.frames ∧ 8 + (mL + 11) + (200 + 40 * d) ≤ R.locals ∧ u + k ≤ R.cells ∧ 6 * u + 6 * k ≤ R.slots := by
  simp only [ux_ro, Bool.and_eq_true, decide_eq_true_eq] at h
  exact ⟨h.1.1.1, h.1.1.2, h.1.2, h.2⟩
theorem ux_D {G : ux_G} (ho : ux_ok G) (h : ux_H) : va_D (ux_A G) (ux_ws G h) := by
  refine ⟨fun i j p q hi hj e => ?_, fun k q hk => ?_⟩
  · have hi1 : i < 204 := by
      rcases Nat.lt_or_ge i 204 with z | z
      · exact z
      · rw [ux_ws_ge G h (by omega)] at hi; cases hi
    have hj1 : j < 204 := by
      rcases Nat.lt_or_ge j 204 with z | z
      · exact z
      · rw [ux_ws_ge G h (by omega)] at hj; cases hj
    rw [ux_ws_at G h hi1] at hi
    rw [ux_ws_at G h hj1] at hj
    cases hi
    cases hj
    exact ho.1 i j hi1 hj1 e
  · have hk1 : k < 204 := by
      rcases Nat.lt_or_ge k 204 with z | z
      · exact z
      · rw [ux_ws_ge G h (by omega)] at hk; cases hk
    rw [ux_ws_at G h hk1] at hk
    cases hk
    exact ho.2 k hk1
theorem ux_ln_lt (k : Nat) : ux_ln k < 2 ^ 31 := by
  unfold ux_ln
  repeat' split
  all_goals exact Nat.lt_of_lt_of_le (by decide) (Nat.le_refl _)
theorem ux_cl_lt {ci : Nat} {q : vw_C} (h : ux_cl[ci]? = some q) : ci < 7 := by
  rcases Nat.lt_or_ge ci 7 with z | z
  · exact z
  · rw [List.getElem?_eq_none (by show 7 ≤ ci; exact z)] at h; cases h
section UXS
variable {l : Launch} {G : ux_G} {mi : ux_I} {R : Room} {Z : ux_Zt} {pc : Nat} {L : List (Option Value)} {st : List Value} {h : ux_H} {u : Nat}
theorem ux_fs_at {G : ux_G} {h : ux_H} {k j : Nat} (hj : j < ux_ln k) : ((List.range (ux_ln k)).map (ux_fv G h k))[j]? = some (ux_fv G h k j) := by
  simp [List.getElem?_map, List.getElem?_range hj]
theorem g_getv {idx k ci j : Nat} {v : Value} (f : ux_fl mi.2.2.1 idx ci j) (d : decode mi.1 pc = .ok (.getfield idx, 3)) (hk : ux_kd k = ci) (hv : ux_fv G h k j = ux_cv G v) (n : ux_W l G mi R Z (pc + 3) L (v :: st) h u) : ux_W l G mi R Z pc L (.ref k :: st) h u := by
  intro p e s m args below meth c H locs ls C hH hS hl
  obtain ⟨CC, T, ty, hc, hj, hC1, hin, -, -, hlink⟩ := f
  obtain ⟨c1, c2, c3, c4, c5, c6, c7, c8, c9⟩ := C
  obtain ⟨w1, w2, w3, w4, w5, w6, w7, w8, w9, w10⟩ := id c9
  have hci : ci < 7 := ux_cl_lt hc
  have hk204 : k < 204 := ux_kd_lt (by omega)
  have hln : ux_ln k = ux_nf ci := by rw [← hk]; exact ux_ln_nf k hk204 (by omega)
  have hh := n p e s m args below meth c H locs ls ⟨c1, c2, c3, c4, c5, c6, c7, c8, c9⟩ hH hS hl
  have hw : (ux_ws G h)[k]? = some (G.2.1 k, .inr (ci, (List.range (ux_ln k)).map (ux_fv G h k))) := by rw [ux_ws_at G h hk204, ux_en_o (by omega), hk]
  have hcv : ux_cv G (.ref k) = .ref (G.2.1 k) := ux_cv_ref G hk204
  show W p l e R s m args below meth c H locs u (6 * u) (Z args s below) (F0 m pc ls (ux_cv G (.ref k) :: st.map (ux_cv G)))
  rw [hcv]
  rcases hlink with hl1 | ⟨host, hl1⟩
  · exact va_get (D := G.2.2.1) (ci := ci) (v := ux_cv G v) (C := CC) (T := T) (N := ux_nf ci) (ref := CC) c1 c2 c5 hin c4 w8 hH k hw hc j hj (c5 _ hl1) (fun x q => by rw [hC1] at q; exact q) (by rw [← hv]; exact ux_fs_at (by omega)) d hh
  · exact va_getN (D := G.2.2.1) (ci := ci) (v := ux_cv G v) (C := CC) (T := T) (N := ux_nf ci) (ref := CC) (host := host) c1 c2 c5 hin c4 w8 hH k hw hc j hj ((w3 _ hl1).use rfl) (fun x q => by rw [hC1] at q; exact q) (by rw [← hv]; exact ux_fs_at (by omega)) d hh
theorem g_geti {idx k ci j : Nat} (f : ux_fl mi.2.2.1 idx ci j) (d : decode mi.1 pc = .ok (.getfield idx, 3)) (hk : ux_kd k = ci) (hr : ux_rf k j = none) (n : ux_W l G mi R Z (pc + 3) L (.int (xgi h k j) :: st) h u) : ux_W l G mi R Z pc L (.ref k :: st) h u :=
  g_getv f d hk (by unfold ux_fv; rw [hr]; rfl) n
theorem g_getr {idx k ci j q : Nat} (f : ux_fl mi.2.2.1 idx ci j) (d : decode mi.1 pc = .ok (.getfield idx, 3)) (hk : ux_kd k = ci) (hr : ux_rf k j = some q) (hq : Nat.ble q 203 = true) (n : ux_W l G mi R Z (pc + 3) L (.ref q :: st) h u) : ux_W l G mi R Z pc L (.ref k :: st) h u :=
  g_getv f d hk (by unfold ux_fv; rw [hr, ux_cv_ref G (Nat.lt_of_le_of_lt (Nat.le_of_ble_eq_true hq) (by decide))]) n
theorem g_put {idx k ci j : Nat} {t : FieldType} {x : Int32} (f : ux_pf mi.2.2.1 idx ci j t) (d : decode mi.1 pc = .ok (.putfield idx, 3)) (hk : ux_kd k = ci) (hr : ux_rf k j = none) (hn : narrow t (.int x) = .int x) (hf : fits t (.int x) = true) (n : ux_W l G mi R Z (pc + 3) L st (xsi h k j x) u) : ux_W l G mi R Z pc L (.int x :: .ref k :: st) h u := by
  intro p e s m args below meth c H locs ls C hH hS hl
  obtain ⟨CC, T, ty, hc, hj, hC1, hin, hty, hnm, hlink, hfin, hpt⟩ := f
  obtain ⟨c1, c2, c3, c4, c5, c6, c7, c8, c9⟩ := C
  obtain ⟨w1, w2, w3, w4, w5, w6, w7, w8, w9, w10⟩ := id c9
  have hci : ci < 7 := ux_cl_lt hc
  have hk204 : k < 204 := ux_kd_lt (by omega)
  have hln : ux_ln k = ux_nf ci := by rw [← hk]; exact ux_ln_nf k hk204 (by omega)
  have hw : (ux_ws G h)[k]? = some (G.2.1 k, .inr (ci, (List.range (ux_ln k)).map (ux_fv G h k))) := by rw [ux_ws_at G h hk204, ux_en_o (by omega), hk]
  have hset : (ux_ws G h).set k (G.2.1 k, .inr (ci, ((List.range (ux_ln k)).map (ux_fv G h k)).set j (.int x))) = ux_ws G (xsi h k j x) := by
    rw [← hk]; exact ux_set_o (by omega) (by omega) hr
  show W p l e R s m args below meth c H locs u (6 * u) (Z args s below) (F0 m pc ls (.int x :: ux_cv G (.ref k) :: st.map (ux_cv G)))
  rw [ux_cv_ref G hk204]
  have kk : ∀ (H1 : Heap) (locs1 : List Loc), va_P G.2.2.1 ux_cl ((ux_ws G h).set k (G.2.1 k, .inr (ci, ((List.range (ux_ln k)).map (ux_fv G h k)).set j (.int x)))) H1 → va_D (ux_A G) ((ux_ws G h).set k (G.2.1 k, .inr (ci, ((List.range (ux_ln k)).map (ux_fv G h k)).set j (.int x)))) → va_S (ux_A G) s.heap H1 locs1 → W p l e R s m args below meth c H1 locs1 u (6 * u) (Z args s below) (F0 m (pc + 3) ls (st.map (ux_cv G))) := by
    intro H1 locs1 hP1 _ hS1
    rw [hset] at hP1
    exact n p e s m args below meth c H1 locs1 ls ⟨c1, c2, c3, c4, c5, c6, c7, c8, c9⟩ hP1 hS1 hl
  rcases hlink with hl1 | ⟨host, hl1⟩
  · exact va_put (D := G.2.2.1) (ci := ci) (v := .int x) (ty := t) (C := CC) (T := T) (N := ux_nf ci) (ref := CC) c1 c2 c5 hin ty hty hnm c4 w8 hH (ux_D w1 h) hS k hw hc j hj (c5 _ hl1) (fun x q => by rw [hC1] at q; exact q) hfin hpt hn hf (by simp; omega) d kk
  · exact va_putN (D := G.2.2.1) (ci := ci) (v := .int x) (ty := t) (C := CC) (T := T) (N := ux_nf ci) (ref := CC) (host := host) c1 c2 c5 hin ty hty hnm c4 w8 hH (ux_D w1 h) hS k hw hc j hj ((w3 _ hl1).use rfl) (fun x q => by rw [hC1] at q; exact q) hfin hpt hn hf (by simp; omega) d kk
theorem g_puti {idx k ci j : Nat} {x : Int32} (f : ux_pf mi.2.2.1 idx ci j .int) (d : decode mi.1 pc = .ok (.putfield idx, 3)) (hk : ux_kd k = ci) (hr : ux_rf k j = none) (n : ux_W l G mi R Z (pc + 3) L st (xsi h k j x) u) : ux_W l G mi R Z pc L (.int x :: .ref k :: st) h u :=
  g_put f d hk hr rfl rfl n
theorem g_alen {k : Nat} {v : Int32} (d : decode mi.1 pc = .ok (.arraylength, 1)) (hk : ux_kd k = 10 ∨ ux_kd k = 11 ∨ ux_kd k = 14) (hv : nI (ux_ln k) = v) (n : ux_W l G mi R Z (pc + 1) L (.int v :: st) h u) : ux_W l G mi R Z pc L (.ref k :: st) h u := by
  intro p e s m args below meth c H locs ls C hH hS hl
  have w8 := C.2.2.2.2.2.2.2.2.2.2.2.2.2.2.2.1
  have hk204 : k < 204 := ux_kd_lt (by omega)
  show W p l e R s m args below meth c H locs u (6 * u) (Z args s below) (F0 m pc ls (ux_cv G (.ref k) :: st.map (ux_cv G)))
  rw [ux_cv_ref G hk204]
  have hh := n p e s m args below meth c H locs ls C hH hS hl
  rcases hk with hk | hk | hk
  · exact va_alen (x := (ux_ln k, .inl (xgi h k))) C.1 C.2.1 w8 hH k 0 (by rw [ux_ws_at G h hk204, ux_en_i hk]) rfl hv d hh
  · exact va_alen (x := (ux_ln k, .inl (xgi h k))) C.1 C.2.1 w8 hH k 1 (by rw [ux_ws_at G h hk204, ux_en_c hk]) rfl hv d hh
  · exact va_alen (x := (ux_ln k, .inr (.inr (.inr (.inr (fun j => (ux_rf k j).map G.2.1)))))) C.1 C.2.1 w8 hH k 4 (by rw [ux_ws_at G h hk204, ux_en_q hk]) rfl hv d hh
theorem g_iald {k j : Nat} {i : Int32} (d : decode mi.1 pc = .ok (.iaload, 1)) (hk : ux_kd k = 10) (hj : j < ux_ln k) (hi : i = nI j) (n : ux_W l G mi R Z (pc + 1) L (.int (xgi h k j) :: st) h u) : ux_W l G mi R Z pc L (.int i :: .ref k :: st) h u := by
  intro p e s m args below meth c H locs ls C hH hS hl
  have w8 := C.2.2.2.2.2.2.2.2.2.2.2.2.2.2.2.1
  have hk204 : k < 204 := ux_kd_lt (by omega)
  show W p l e R s m args below meth c H locs u (6 * u) (Z args s below) (F0 m pc ls (.int i :: ux_cv G (.ref k) :: st.map (ux_cv G)))
  rw [ux_cv_ref G hk204]
  refine va_iald C.1 C.2.1 w8 hH k 0 (by rw [ux_ws_at G h hk204, ux_en_i hk]) rfl (by rw [hi]; exact vp_in_nI hj (ux_ln_lt k)) d ?_
  rw [hi, nI_clamp (Nat.lt_trans hj (ux_ln_lt k))]
  exact n p e s m args below meth c H locs ls C hH hS hl
theorem g_cald {k j : Nat} {i : Int32} (d : decode mi.1 pc = .ok (.caload, 1)) (hk : ux_kd k = 11) (hj : j < ux_ln k) (hi : i = nI j) (n : ux_W l G mi R Z (pc + 1) L (.int (xgi h k j) :: st) h u) : ux_W l G mi R Z pc L (.int i :: .ref k :: st) h u := by
  intro p e s m args below meth c H locs ls C hH hS hl
  have w8 := C.2.2.2.2.2.2.2.2.2.2.2.2.2.2.2.1
  have hk204 : k < 204 := ux_kd_lt (by omega)
  show W p l e R s m args below meth c H locs u (6 * u) (Z args s below) (F0 m pc ls (.int i :: ux_cv G (.ref k) :: st.map (ux_cv G)))
  rw [ux_cv_ref G hk204]
  refine va_cald C.1 C.2.1 w8 hH k 1 (by rw [ux_ws_at G h hk204, ux_en_c hk]) rfl (by rw [hi]; exact vp_in_nI hj (ux_ln_lt k)) d ?_
  rw [hi, nI_clamp (Nat.lt_trans hj (ux_ln_lt k))]
  exact n p e s m args below meth c H locs ls C hH hS hl
theorem g_lald {k j : Nat} {i : Int32} (d : decode mi.1 pc = .ok (.laload, 1)) (hk : ux_kd k = 12) (hj : j < ux_ln k) (hi : i = nI j) (n : ux_W l G mi R Z (pc + 1) L (.long (xgl h k j) :: st) h u) : ux_W l G mi R Z pc L (.int i :: .ref k :: st) h u := by
  intro p e s m args below meth c H locs ls C hH hS hl
  have w8 := C.2.2.2.2.2.2.2.2.2.2.2.2.2.2.2.1
  have hk204 : k < 204 := ux_kd_lt (by omega)
  show W p l e R s m args below meth c H locs u (6 * u) (Z args s below) (F0 m pc ls (.int i :: ux_cv G (.ref k) :: st.map (ux_cv G)))
  rw [ux_cv_ref G hk204]
  refine va_lald C.1 C.2.1 w8 hH k 2 (by rw [ux_ws_at G h hk204, ux_en_l hk]) rfl (by rw [hi]; exact vp_in_nI hj (ux_ln_lt k)) d ?_
  rw [hi, nI_clamp (Nat.lt_trans hj (ux_ln_lt k))]
  exact n p e s m args below meth c H locs ls C hH hS hl
theorem g_dald {k j : Nat} {i : Int32} (d : decode mi.1 pc = .ok (.daload, 1)) (hk : ux_kd k = 13) (hj : j < ux_ln k) (hi : i = nI j) (n : ux_W l G mi R Z (pc + 1) L (.double (xgd h k j) :: st) h u) : ux_W l G mi R Z pc L (.int i :: .ref k :: st) h u := by
  intro p e s m args below meth c H locs ls C hH hS hl
  have w8 := C.2.2.2.2.2.2.2.2.2.2.2.2.2.2.2.1
  have hk204 : k < 204 := ux_kd_lt (by omega)
  show W p l e R s m args below meth c H locs u (6 * u) (Z args s below) (F0 m pc ls (.int i :: ux_cv G (.ref k) :: st.map (ux_cv G)))
  rw [ux_cv_ref G hk204]
  refine va_dald C.1 C.2.1 w8 hH k 3 (by rw [ux_ws_at G h hk204, ux_en_d hk]) rfl (by rw [hi]; exact vp_in_nI hj (ux_ln_lt k)) d ?_
  rw [hi, nI_clamp (Nat.lt_trans hj (ux_ln_lt k))]
  exact n p e s m args below meth c H locs ls C hH hS hl
theorem g_aald {k j q : Nat} {i : Int32} (d : decode mi.1 pc = .ok (.aaload, 1)) (hk : ux_kd k = 14) (hj : j < ux_ln k) (hi : i = nI j) (hr : ux_rf k j = some q) (hq : Nat.ble q 203 = true) (n : ux_W l G mi R Z (pc + 1) L (.ref q :: st) h u) : ux_W l G mi R Z pc L (.int i :: .ref k :: st) h u := by
  intro p e s m args below meth c H locs ls C hH hS hl
  have w8 := C.2.2.2.2.2.2.2.2.2.2.2.2.2.2.2.1
  have hk204 : k < 204 := ux_kd_lt (by omega)
  show W p l e R s m args below meth c H locs u (6 * u) (Z args s below) (F0 m pc ls (.int i :: ux_cv G (.ref k) :: st.map (ux_cv G)))
  rw [ux_cv_ref G hk204]
  refine va_aldq C.1 C.2.1 w8 hH k 4 (by rw [ux_ws_at G h hk204, ux_en_q hk]) rfl (by rw [hi]; exact vp_in_nI hj (ux_ln_lt k)) d ?_
  rw [hi, nI_clamp (Nat.lt_trans hj (ux_ln_lt k)), hr]
  have hh := n p e s m args below meth c H locs ls C hH hS hl
  have hcv := ux_cv_ref G (k := q) (Nat.lt_of_le_of_lt (Nat.le_of_ble_eq_true hq) (by decide))
  show W p l e R s m args below meth c H locs u (6 * u) (Z args s below) (F0 m (pc + 1) ls (.ref (G.2.1 q) :: st.map (ux_cv G)))
  rw [← hcv]
  exact hh
theorem g_iast {k j : Nat} {i x : Int32} (d : decode mi.1 pc = .ok (.iastore, 1)) (hk : ux_kd k = 10) (hj : j < ux_ln k) (hi : i = nI j) (n : ux_W l G mi R Z (pc + 1) L st (xsi h k j x) u) : ux_W l G mi R Z pc L (.int x :: .int i :: .ref k :: st) h u := by
  intro p e s m args below meth c H locs ls C hH hS hl
  have w1 := C.2.2.2.2.2.2.2.2.1
  have w8 := C.2.2.2.2.2.2.2.2.2.2.2.2.2.2.2.1
  have hk204 : k < 204 := ux_kd_lt (by omega)
  show W p l e R s m args below meth c H locs u (6 * u) (Z args s below) (F0 m pc ls (.int x :: .int i :: ux_cv G (.ref k) :: st.map (ux_cv G)))
  rw [ux_cv_ref G hk204]
  refine va_iast C.1 C.2.1 w8 hH (ux_D w1 h) hS k 0 (by rw [ux_ws_at G h hk204, ux_en_i hk]) rfl (by rw [hi]; exact vp_in_nI hj (ux_ln_lt k)) d (fun H1 locs1 hP1 _ hS1 => ?_)
  rw [hi, nI_clamp (Nat.lt_trans hj (ux_ln_lt k)), ux_set_i hk] at hP1
  exact n p e s m args below meth c H1 locs1 ls C hP1 hS1 hl
theorem g_cast {k j : Nat} {i x : Int32} (d : decode mi.1 pc = .ok (.castore, 1)) (hk : ux_kd k = 11) (hj : j < ux_ln k) (hi : i = nI j) (hx : vp_nar .char x = x) (n : ux_W l G mi R Z (pc + 1) L st (xsi h k j x) u) : ux_W l G mi R Z pc L (.int x :: .int i :: .ref k :: st) h u := by
  intro p e s m args below meth c H locs ls C hH hS hl
  have w1 := C.2.2.2.2.2.2.2.2.1
  have w8 := C.2.2.2.2.2.2.2.2.2.2.2.2.2.2.2.1
  have hk204 : k < 204 := ux_kd_lt (by omega)
  show W p l e R s m args below meth c H locs u (6 * u) (Z args s below) (F0 m pc ls (.int x :: .int i :: ux_cv G (.ref k) :: st.map (ux_cv G)))
  rw [ux_cv_ref G hk204]
  refine va_cast C.1 C.2.1 w8 hH (ux_D w1 h) hS k 1 (by rw [ux_ws_at G h hk204, ux_en_c hk]) rfl (by rw [hi]; exact vp_in_nI hj (ux_ln_lt k)) d (fun H1 locs1 hP1 _ hS1 => ?_)
  rw [hi, nI_clamp (Nat.lt_trans hj (ux_ln_lt k)), hx, ux_set_c hk] at hP1
  exact n p e s m args below meth c H1 locs1 ls C hP1 hS1 hl
theorem g_last {k j : Nat} {i : Int32} {x : Int64} (d : decode mi.1 pc = .ok (.lastore, 1)) (hk : ux_kd k = 12) (hj : j < ux_ln k) (hi : i = nI j) (n : ux_W l G mi R Z (pc + 1) L st (xsv h k j (.long x)) u) : ux_W l G mi R Z pc L (.long x :: .int i :: .ref k :: st) h u := by
  intro p e s m args below meth c H locs ls C hH hS hl
  have w1 := C.2.2.2.2.2.2.2.2.1
  have w8 := C.2.2.2.2.2.2.2.2.2.2.2.2.2.2.2.1
  have hk204 : k < 204 := ux_kd_lt (by omega)
  show W p l e R s m args below meth c H locs u (6 * u) (Z args s below) (F0 m pc ls (.long x :: .int i :: ux_cv G (.ref k) :: st.map (ux_cv G)))
  rw [ux_cv_ref G hk204]
  refine va_last C.1 C.2.1 w8 hH (ux_D w1 h) hS k 2 (by rw [ux_ws_at G h hk204, ux_en_l hk]) rfl (by rw [hi]; exact vp_in_nI hj (ux_ln_lt k)) d (fun H1 locs1 hP1 _ hS1 => ?_)
  rw [hi, nI_clamp (Nat.lt_trans hj (ux_ln_lt k)), ux_set_l hk] at hP1
  exact n p e s m args below meth c H1 locs1 ls C hP1 hS1 hl
theorem g_dast {k j : Nat} {i : Int32} {x : UInt64} (d : decode mi.1 pc = .ok (.dastore, 1)) (hk : ux_kd k = 13) (hj : j < ux_ln k) (hi : i = nI j) (n : ux_W l G mi R Z (pc + 1) L st (xsv h k j (.double x)) u) : ux_W l G mi R Z pc L (.double x :: .int i :: .ref k :: st) h u := by
  intro p e s m args below meth c H locs ls C hH hS hl
  have w1 := C.2.2.2.2.2.2.2.2.1
  have w8 := C.2.2.2.2.2.2.2.2.2.2.2.2.2.2.2.1
  have hk204 : k < 204 := ux_kd_lt (by omega)
  show W p l e R s m args below meth c H locs u (6 * u) (Z args s below) (F0 m pc ls (.double x :: .int i :: ux_cv G (.ref k) :: st.map (ux_cv G)))
  rw [ux_cv_ref G hk204]
  refine va_dast C.1 C.2.1 w8 hH (ux_D w1 h) hS k 3 (by rw [ux_ws_at G h hk204, ux_en_d hk]) rfl (by rw [hi]; exact vp_in_nI hj (ux_ln_lt k)) d (fun H1 locs1 hP1 _ hS1 => ?_)
  rw [hi, nI_clamp (Nat.lt_trans hj (ux_ln_lt k)), ux_set_d hk] at hP1
  exact n p e s m args below meth c H1 locs1 ls C hP1 hS1 hl
end UXS
end
section
/-! CALLS, RETURNS, THROWS, ENTRIES in the uniform world. -/
section UXD
variable {l : Launch} {G : ux_G} {mi : ux_I} {R : Room} {Z : ux_Zt} {pc : Nat} {L : List (Option Value)} {st : List Value} {h : ux_H} {u : Nat}
/-- a contract that throws nothing is a plain one -/
theorem ux_met {y : MethodName} {mi' : ux_I} {d k : Nat} {av : List Value} {Q : Option Value → ux_H → Prop} (hM : ux_M l G y mi' d k av h Q (fun _ _ => False)) : Met l y (ux_cw y mi' :: ux_T) (ux_rm d k) (ux_Pc l G av h) (ux_Qc G Q) k (6 * k) (ux_A G) := by
  intro p e h1 h2 h3 s m args below h4 h5 h6 h7
  obtain ⟨n, o, g1, g2, g3, g4⟩ := hM p e h1 h2 h3 s m args below h4 h5 h6 h7
  refine ⟨n, o, g1, g2, g3, ?_⟩
  rcases g4 with g4 | ⟨q, _, E, ce, L0, ⟨⟨h', hx, _⟩, _⟩, _⟩
  · exact g4
  · exact hx.elim
/-- behind a call, back in the frame -/
theorem ux_kept {s st₀ t T' : State} {H : Heap} {locs L0 : List Loc} (h0 : st₀.heap = H) (e1 : T'.heap = t.heap) (hS : va_S (ux_A G) s.heap H locs) (hL : ∀ q ∈ L0, ux_A G q.base) (hF : va_F (ux_A G) st₀ t) : va_S (ux_A G) s.heap T'.heap (locs ++ L0) :=
  (vx_keep h0 e1 hS (fun _ _ q => q) (fun _ q => q) hL hF).2.2
theorem ux_runQ {p : Program} {e : Env} {s : State} {m : MethodId} {args : Array Value} {below : List Frame} {meth : Method} {c : Code} {H : Heap} {locs : List Loc} {ls : Array Slot} {k' : Nat} {rest : List Value} {st0 : List Value} {Q' : Option Value → ux_H → Prop} {X' : String → ux_H → Prop} {a : Array Value}
    (C : ux_C l G mi p s m args meth c) (hS : va_S (ux_A G) s.heap H locs) (hl : lv_has ls mi.2.1 (ux_lv G 0 L))
    (hr : vx_Run p l e R s m args below meth c H locs u (6 * u) k' (6 * k') (F0 m pc ls st0) (rest.map (ux_cv G)) (ux_Qc G Q' a) (ux_Xc G X') (ux_A G))
    (kk : ∀ v h', Q' v h' → ux_W l G mi R Z (pc + 3) L (v.toList ++ rest) h' (u + k')) (kx : ∀ E h', X' E h' → ux_V l G mi R Z pc L h' (u + k') E) : W p l e R s m args below meth c H locs u (6 * u) (Z args s below) (F0 m pc ls st0) := by
  intro T hT X
  have e6 : 6 * u + 6 * k' = 6 * (u + k') := by omega
  rcases hr T hT X with ⟨v, st₀, t, T', L0, h0, X', hL, e1, e2, ⟨⟨v', h', hv, hq, hw⟩, hF⟩, st⟩ | ⟨q, st₀, t, T', L0, E, ce, h0, X', hL, e1, e2, ⟨⟨h', hq, hw⟩, hF⟩, hce, hcv, hcl, st⟩
  · have hv2 : v = v'.map (ux_cv G) := by simpa using hv
    subst hv2
    have hS2 := ux_kept h0 e1 hS hL hF
    rw [← e1] at hw
    rw [e6] at X'
    obtain ⟨t2, a1, b1⟩ := kk v' h' hq p e s m args below meth c T'.heap (locs ++ L0) ls C hw hS2 hl T' rfl X'
    have hstk : ((v'.map (ux_cv G)).toList ++ rest.map (ux_cv G)) = (v'.toList ++ rest).map (ux_cv G) := by cases v' <;> rfl
    refine ⟨t2, st t2 ?_, b1⟩
    rw [hstk]
    exact a1
  · have hS2 := ux_kept h0 e1 hS hL hF
    rw [← e1] at hw hce
    rw [e6] at X'
    obtain ⟨t2, a1, b1⟩ := kx E h' hq p e s m args below meth c T'.heap (locs ++ L0) ls ce q (rest.map (ux_cv G)) C hw hS2 hl hce hcv hcl T' rfl X'
    exact ⟨t2, st.trans a1, b1⟩
/-- a plain run is one that doesn't throw -/
theorem ux_run_of {p : Program} {e : Env} {s : State} {m : MethodId} {args : Array Value} {below : List Frame} {meth : Method} {c : Code} {H : Heap} {locs : List Loc} {cells slots mc ms : Nat} {g : JFrame} {rest : List Value} {Qa : State → Outcome → State → Prop} {free : Addr → Prop} (hr : va_Run p l e R s m args below meth c H locs cells slots mc ms g rest Qa free) : vx_Run p l e R s m args below meth c H locs cells slots mc ms g rest Qa (ux_Xc G (fun _ _ => False)) free := by
  intro T hT X
  exact Or.inl (hr T hT X)
theorem ux_pres {s : State} {H : Heap} {locs : List Loc} {av : List Value} (w : ux_wf l G s) (hH : ux_hw G h H) (hS : va_S (ux_A G) s.heap H locs) : ∀ U : State, U.heap = H → s.WarmedH U.vm → ux_Pc l G av h (av.map (ux_cv G)).toArray U :=
  fun U hU hW => ⟨rfl, w.on hS hU hW, by rw [hU]; exact hH⟩
theorem ux_warm {s : State} {args : Array Value} {w0 : Cond} (ht : ∀ w ∈ ux_T, w.before args s = true) (h0 : w0 ∈ ux_T) : ∀ w ∈ w0 :: ux_T, ∀ (a' : Array Value) (U : State), s.WarmedH U.vm → w.before a' U = true := pay_in ht (ux_goodIn h0)
theorem ux_len {y : MethodName} {n : Nat} (hd : (parseMethodDescriptor y.desc).map (fun d => d.parameters.length) = some n) : ∀ sig, parseMethodDescriptor y.desc = some sig → n = sig.parameters.length := by
  intro sig q
  rw [q] at hd
  exact (Option.some.inj hd).symm
theorem ux_room {rest : List Value} {m : MethodId} {pc : Nat} {ls : Array Slot} {st0 : List Value} (q : (rest.map fun v => v.category).sum ≤ 8) : 2 * (F0 m pc ls st0).monitorRoom + ((rest.map (ux_cv G)).map fun v => v.category).sum ≤ 8 := by
  have e : (rest.map (ux_cv G)).map (fun v => v.category) = rest.map fun v => v.category := by
    rw [List.map_map]
    congr 1
    funext v
    exact ux_cv_cat G v
  rw [e]
  exact lv_room (pc := pc) (ls := ls) (rest := st0) q
theorem g_callS {idx n : Nat} {y : MethodName} {mi' : ux_I} {d' k' : Nat} {av rest stk : List Value} {Q' : Option Value → ux_H → Prop} {X' : String → ux_H → Prop} (ln : ux_lS mi.2.2.1 idx y) (lk : ux_lk y mi' n) (hM : ux_M l G y mi' d' k' av h Q' X') (d : decode mi.1 pc = .ok (.invokestatic idx, 3)) (hh : mi'.2.2.2.2 = []) (hn : av.length = n) (hro : ux_ro R mi'.2.1 d' k' u = true) (hst : stk = av.reverse ++ rest) (hc : (rest.map fun v => v.category).sum ≤ 8)
    (kk : ∀ v h', Q' v h' → ux_W l G mi R Z (pc + 3) L (v.toList ++ rest) h' (u + k')) (kx : ∀ E h', X' E h' → ux_V l G mi R Z pc L h' (u + k') E) : ux_W l G mi R Z pc L stk h u := by
  intro p e s m args below meth c H locs ls C hH hS hl
  obtain ⟨r1, r2, r3, r4⟩ := ux_ro_of hro
  obtain ⟨k1, k2, k3, k4, k5, k6⟩ := lk
  have hcw : ux_cw y mi' = .code y mi'.1 mi'.2.1 mi'.2.2.2.1 := by unfold ux_cw; rw [hh]
  have hts := C.2.2.2.2.1
  rw [hst]
  refine ux_runQ C hS hl (vx_runS (y := y) (bytes := mi'.1) (maxL := mi'.2.1) (ret := mi'.2.2.2.1) (As := av.map (ux_cv G)) (rest := rest.map (ux_cv G)) (rm := ux_rm d' k') ⟨C.1, C.2.1, C.2.2.1, C.2.2.2.1, hts⟩ hM
    ⟨⟨rfl, rfl, r1, r2, ux_warm hts k1, by rw [hcw]; exact List.mem_cons_self, by rw [← hcw]; exact hts _ k1, hts _ k2, k3, ux_len k4, hts _ ln.1⟩, hts _ ln.2⟩ ⟨ux_Pc_blind, ux_pres C.2.2.2.2.2.2.2.2 hH hS⟩ rfl (by rw [List.length_map]; exact hn) hl.1 ?_ (ux_room hc) d ⟨r3, r4⟩) kk kx
  show (av.reverse ++ rest).map (ux_cv G) = _
  rw [List.map_append, List.map_reverse]
theorem g_callSN {idx n : Nat} {y : MethodName} {mi' : ux_I} {d' k' : Nat} {av rest stk : List Value} {Q' : Option Value → ux_H → Prop} (ln : ux_lSN mi.2.2.1 idx y) (lk : ux_lk y mi' n) (hM : ux_M l G y mi' d' k' av h Q' (fun _ _ => False)) (d : decode mi.1 pc = .ok (.invokestatic idx, 3)) (hh : mi'.2.2.2.2 = []) (hn : av.length = n) (hro : ux_ro R mi'.2.1 d' k' u = true) (hst : stk = av.reverse ++ rest) (hc : (rest.map fun v => v.category).sum ≤ 8)
    (kk : ∀ v h', Q' v h' → ux_W l G mi R Z (pc + 3) L (v.toList ++ rest) h' (u + k')) : ux_W l G mi R Z pc L stk h u := by
  intro p e s m args below meth c H locs ls C hH hS hl
  obtain ⟨r1, r2, r3, r4⟩ := ux_ro_of hro
  obtain ⟨k1, k2, k3, k4, k5, k6⟩ := lk
  obtain ⟨⟨host, l1⟩, l2⟩ := ln
  have hcw : ux_cw y mi' = .code y mi'.1 mi'.2.1 mi'.2.2.2.1 := by unfold ux_cw; rw [hh]
  have hts := C.2.2.2.2.1
  rw [hst]
  refine ux_runQ (X' := fun _ _ => False) C hS hl (ux_run_of (va_runSN (y := y) (host := host) (bytes := mi'.1) (maxL := mi'.2.1) (ret := mi'.2.2.2.1) (As := av.map (ux_cv G)) (rest := rest.map (ux_cv G)) (rm := ux_rm d' k') ⟨C.1, C.2.1, C.2.2.1, C.2.2.2.1, hts⟩ (ux_met hM)
    ⟨⟨⟨rfl, rfl, r1, r2, ux_warm hts k1, by rw [hcw]; exact List.mem_cons_self⟩, by rw [← hcw]; exact hts _ k1, hts _ k2, k3, ux_len k4, (C.2.2.2.2.2.2.2.2.2.2.1 _ l1).use rfl⟩, hts _ l2, trivial⟩ ⟨ux_Pc_blind, ux_pres C.2.2.2.2.2.2.2.2 hH hS⟩ rfl (by rw [List.length_map]; exact hn) hl.1 ?_ (ux_room hc) d ⟨r3, r4⟩)) kk (fun _ _ z => z.elim)
  show (av.reverse ++ rest).map (ux_cv G) = _
  rw [List.map_append, List.map_reverse]
theorem ux_recv {s : State} {H : Heap} {k ci : Nat} {C0 : String} (w : ux_wf l G s) (hH : ux_hw G h H) (hk : ux_kd k = ci) (hc : (ux_cl[ci]?).map (fun q => q.1) = some C0) : ∃ cell : Cell, H[G.2.1 k]? = some cell ∧ cell.vm.isStatics = false ∧ s.vm.findClass C0 = some cell.cls := by
  cases e : ux_cl[ci]? with
  | none => rw [e] at hc; cases hc
  | some q =>
    rw [e] at hc
    have hc2 : q.1 = C0 := Option.some.inj hc
    rw [← hc2]
    have hci := ux_cl_lt e
    have hk204 : k < 204 := ux_kd_lt (by omega)
    exact va_recv w.2.2.2.2.2.2.2.1 hH e (q0 := k) (by rw [ux_ws_at G h hk204, ux_en_o (by omega), hk])
theorem g_callV {idx n ci b : Nat} {y : MethodName} {mi' : ux_I} {d' k' : Nat} {av rest stk : List Value} {Q' : Option Value → ux_H → Prop} {X' : String → ux_H → Prop} (ln : ux_lV mi.2.2.1 idx y) (lk : ux_lk y mi' n) (hM : ux_M l G y mi' d' k' (.ref b :: av) h Q' X') (d : decode mi.1 pc = .ok (.invokevirtual idx, 3)) (hh : mi'.2.2.2.2 = []) (hn : av.length = n) (hb : ux_kd b = ci) (hcl : (ux_cl[ci]?).map (fun q => q.1) = some y.cls) (hro : ux_ro R mi'.2.1 d' k' u = true) (hst : stk = av.reverse ++ .ref b :: rest) (hc : (rest.map fun v => v.category).sum ≤ 8)
    (kk : ∀ v h', Q' v h' → ux_W l G mi R Z (pc + 3) L (v.toList ++ rest) h' (u + k')) (kx : ∀ E h', X' E h' → ux_V l G mi R Z pc L h' (u + k') E) : ux_W l G mi R Z pc L stk h u := by
  intro p e s m args below meth c H locs ls C hH hS hl
  obtain ⟨r1, r2, r3, r4⟩ := ux_ro_of hro
  obtain ⟨k1, k2, k3, k4, k5, k6⟩ := lk
  have hci : ci < 7 := by
    cases e9 : ux_cl[ci]? with
    | none => rw [e9] at hcl; cases hcl
    | some q => exact ux_cl_lt e9
  have hb204 : b < 204 := ux_kd_lt (by omega)
  have hcv := ux_cv_ref G hb204
  have hcw : ux_cw y mi' = .code y mi'.1 mi'.2.1 mi'.2.2.2.1 := by unfold ux_cw; rw [hh]
  have hts := C.2.2.2.2.1
  rw [hst]
  have hp := ux_pres (av := .ref b :: av) C.2.2.2.2.2.2.2.2 hH hS
  refine ux_runQ C hS hl (vx_runV (C := y.cls) (b := G.2.1 b) (y := y) (bytes := mi'.1) (maxL := mi'.2.1) (ret := mi'.2.2.2.1) (As := av.map (ux_cv G)) (rest := rest.map (ux_cv G)) (rm := ux_rm d' k') ⟨C.1, C.2.1, C.2.2.1, C.2.2.2.1, hts⟩ hM
    ⟨⟨rfl, rfl, r1, r2, ux_warm hts k1, by rw [hcw]; exact List.mem_cons_self, by rw [← hcw]; exact hts _ k1, hts _ k2, k3, ux_len k4, hts _ ln.1⟩, hts _ ln.2.1, hts _ ln.2.2⟩ ⟨ux_Pc_blind, ux_recv C.2.2.2.2.2.2.2.2 hH hb hcl, ?_⟩ rfl (by rw [List.length_map]; exact hn) hl.1 ?_ (ux_room hc) d ⟨r3, r4⟩) kk kx
  · rw [List.map_cons, hcv] at hp
    exact hp
  · show (av.reverse ++ .ref b :: rest).map (ux_cv G) = _
    rw [List.map_append, List.map_reverse, List.map_cons, hcv]
theorem g_callVN {idx n ci b : Nat} {y : MethodName} {mi' : ux_I} {d' k' : Nat} {av rest stk : List Value} {Q' : Option Value → ux_H → Prop} (ln : ux_lVN mi.2.2.1 idx y) (lk : ux_lk y mi' n) (hM : ux_M l G y mi' d' k' (.ref b :: av) h Q' (fun _ _ => False)) (d : decode mi.1 pc = .ok (.invokevirtual idx, 3)) (hh : mi'.2.2.2.2 = []) (hn : av.length = n) (hb : ux_kd b = ci) (hcl : (ux_cl[ci]?).map (fun q => q.1) = some y.cls) (hro : ux_ro R mi'.2.1 d' k' u = true) (hst : stk = av.reverse ++ .ref b :: rest) (hc : (rest.map fun v => v.category).sum ≤ 8)
    (kk : ∀ v h', Q' v h' → ux_W l G mi R Z (pc + 3) L (v.toList ++ rest) h' (u + k')) : ux_W l G mi R Z pc L stk h u := by
  intro p e s m args below meth c H locs ls C hH hS hl
  obtain ⟨r1, r2, r3, r4⟩ := ux_ro_of hro
  obtain ⟨k1, k2, k3, k4, k5, k6⟩ := lk
  obtain ⟨⟨host, l1⟩, l2, l3⟩ := ln
  have hci : ci < 7 := by
    cases e9 : ux_cl[ci]? with
    | none => rw [e9] at hcl; cases hcl
    | some q => exact ux_cl_lt e9
  have hb204 : b < 204 := ux_kd_lt (by omega)
  have hcv := ux_cv_ref G hb204
  have hcw : ux_cw y mi' = .code y mi'.1 mi'.2.1 mi'.2.2.2.1 := by unfold ux_cw; rw [hh]
  have hts := C.2.2.2.2.1
  rw [hst]
  have hp := ux_pres (av := .ref b :: av) C.2.2.2.2.2.2.2.2 hH hS
  refine ux_runQ (X' := fun _ _ => False) C hS hl (ux_run_of (va_runVN (C := y.cls) (b := G.2.1 b) (host := host) (y := y) (bytes := mi'.1) (maxL := mi'.2.1) (ret := mi'.2.2.2.1) (As := av.map (ux_cv G)) (rest := rest.map (ux_cv G)) (rm := ux_rm d' k') ⟨C.1, C.2.1, C.2.2.1, C.2.2.2.1, hts⟩ (ux_met hM)
    ⟨⟨⟨rfl, rfl, r1, r2, ux_warm hts k1, by rw [hcw]; exact List.mem_cons_self⟩, by rw [← hcw]; exact hts _ k1, hts _ k2, k3, ux_len k4, (C.2.2.2.2.2.2.2.2.2.2.1 _ l1).use rfl⟩, hts _ l2, hts _ l3⟩ ⟨ux_Pc_blind, ux_recv C.2.2.2.2.2.2.2.2 hH hb hcl, ?_⟩ rfl (by rw [List.length_map]; exact hn) hl.1 ?_ (ux_room hc) d ⟨r3, r4⟩)) kk (fun _ _ z => z.elim)
  · rw [List.map_cons, hcv] at hp
    exact hp
  · show (av.reverse ++ .ref b :: rest).map (ux_cv G) = _
    rw [List.map_append, List.map_reverse, List.map_cons, hcv]
/-- a static call of a method with handlers of its own -/
theorem g_callSX {idx n : Nat} {y : MethodName} {mi' : ux_I} {d' k' : Nat} {av rest stk : List Value} {Q' : Option Value → ux_H → Prop} {X' : String → ux_H → Prop} (ln : ux_lS mi.2.2.1 idx y) (lk : ux_lk y mi' n) (hM : ux_M l G y mi' d' k' av h Q' X') (d : decode mi.1 pc = .ok (.invokestatic idx, 3)) (hh : mi'.2.2.2.2 ≠ []) (hn : av.length = n) (hro : ux_ro R mi'.2.1 d' k' u = true) (hst : stk = av.reverse ++ rest) (hc : (rest.map fun v => v.category).sum ≤ 8)
    (kk : ∀ v h', Q' v h' → ux_W l G mi R Z (pc + 3) L (v.toList ++ rest) h' (u + k')) (kx : ∀ E h', X' E h' → ux_V l G mi R Z pc L h' (u + k') E) : ux_W l G mi R Z pc L stk h u := by
  intro p e s m args below meth c H locs ls C hH hS hl
  obtain ⟨r1, r2, r3, r4⟩ := ux_ro_of hro
  obtain ⟨k1, k2, k3, k4, k5, k6⟩ := lk
  have hcw : ux_cw y mi' = .codeWith y mi'.1 mi'.2.1 mi'.2.2.2.1 mi'.2.2.2.2 := by
    unfold ux_cw
    split
    · next q => exact absurd q hh
    · rfl
  have hts := C.2.2.2.2.1
  rw [hst]
  refine ux_runQ C hS hl (vx_runSX (y := y) (bytes := mi'.1) (maxL := mi'.2.1) (ret := mi'.2.2.2.1) (hh := mi'.2.2.2.2) (As := av.map (ux_cv G)) (rest := rest.map (ux_cv G)) (rm := ux_rm d' k') ⟨C.1, C.2.1, C.2.2.1, C.2.2.2.1, hts⟩ hM
    ⟨⟨rfl, rfl, r1, r2, ux_warm hts k1, by rw [hcw]; exact List.mem_cons_self⟩, by rw [← hcw]; exact hts _ k1, hts _ k2, k3, ux_len k4, hts _ ln.1, hts _ ln.2⟩ ⟨ux_Pc_blind, ux_pres C.2.2.2.2.2.2.2.2 hH hS⟩ rfl (by rw [List.length_map]; exact hn) hl.1 ?_ (ux_room hc) d ⟨r3, r4⟩) kk kx
  show (av.reverse ++ rest).map (ux_cv G) = _
  rw [List.map_append, List.map_reverse]
end UXD
section UXE
variable {l : Launch} {G : ux_G} {mi : ux_I} {R : Room} {pc : Nat} {L : List (Option Value)} {st : List Value} {h : ux_H} {u k : Nat} {Q : Option Value → ux_H → Prop} {X : String → ux_H → Prop}
theorem ux_fin {s t : State} {H : Heap} {locs : List Loc} {a : Array Value} {v : Option Value} (hH : ux_hw G h H) (hS : va_S (ux_A G) s.heap H locs) (hq : Q v h) (ht : t.heap = H) : ux_Qc G Q a s (.returned (v.map (ux_cv G))) t :=
  ⟨⟨v, h, rfl, hq, by rw [ht]; exact hH⟩, hS.F ht⟩
theorem g_ireturn {x : Int32} {ty : FieldType} (d : decode mi.1 pc = .ok (.ireturn, 1)) (hr : mi.2.2.2.1 = some ty) (hn : narrow ty (.int x) = .int x) (hu : u ≤ k) (hq : Q (some (.int x)) h) : ux_W l G mi R (ux_Z G k Q X) pc L [.int x] h u := by
  intro p e s m args below meth c H locs ls C hH hS hl
  refine vx_ret (W.widen hu (Nat.mul_le_mul_left 6 hu) ?_)
  exact W.zret C.1 C.2.1 (by rw [C.2.2.2.2.2.2.1]; exact hr) hn (fun t ht _ => ux_fin (v := some (.int x)) hH hS hq ht) (fun q hq => hS.2.2 q hq) d C.2.2.2.2.2.1
theorem g_return (d : decode mi.1 pc = .ok (.return_, 1)) (hr : mi.2.2.2.1 = none) (hu : u ≤ k) (hq : Q none h) : ux_W l G mi R (ux_Z G k Q X) pc L [] h u := by
  intro p e s m args below meth c H locs ls C hH hS hl
  refine vx_ret (W.widen hu (Nat.mul_le_mul_left 6 hu) ?_)
  exact W.vret C.1 C.2.1 (by rw [C.2.2.2.2.2.2.1]; exact hr) (fun t ht _ => ux_fin (v := none) hH hS hq ht) (fun q hq => hS.2.2 q hq) d C.2.2.2.2.2.1
theorem g_dreturn {x : UInt64} (d : decode mi.1 pc = .ok (.dreturn, 1)) (hr : mi.2.2.2.1 = some .double) (hu : u ≤ k) (hq : Q (some (.double x)) h) : ux_W l G mi R (ux_Z G k Q X) pc L [.double x] h u := by
  intro p e s m args below meth c H locs ls C hH hS hl
  refine vx_ret (W.widen hu (Nat.mul_le_mul_left 6 hu) ?_)
  exact W.dret C.1 C.2.1 (by rw [C.2.2.2.2.2.2.1]; exact hr) (fun t ht _ => ux_fin (v := some (.double x)) hH hS hq ht) (fun q hq => hS.2.2 q hq) d C.2.2.2.2.2.1
theorem g_areturn {q : Nat} {C0 : String} (d : decode mi.1 pc = .ok (.areturn, 1)) (hr : mi.2.2.2.1 = some (.object C0)) (hu : u ≤ k) (hq : Q (some (.ref q)) h) : ux_W l G mi R (ux_Z G k Q X) pc L [.ref q] h u := by
  intro p e s m args below meth c H locs ls C hH hS hl
  refine vx_ret (W.widen hu (Nat.mul_le_mul_left 6 hu) ?_)
  exact W.aret C.1 C.2.1 (by rw [C.2.2.2.2.2.2.1]; exact hr) (Or.inl ⟨C0, rfl⟩) (Or.inr ⟨_, rfl⟩) (fun t ht _ => ux_fin (v := some (.ref q)) hH hS hq ht) (fun q hq => hS.2.2 q hq) d C.2.2.2.2.2.1
/-- an exception goes on to the caller: no handlers here -/
theorem g_out {E : String} (hh : mi.2.2.2.2 = []) (hu : u ≤ k) (hx : X E h) : ux_V l G mi R (ux_Z G k Q X) pc L h u E := by
  intro p e s m args below meth c H locs ls ce q rest C hH hS hl hce hcv hcl
  have ht : c.exceptionTable.toList = [] := by rw [C.2.2.2.2.2.2.2.1, hh]; rfl
  exact vx_out (by rw [ht]; exact fun x z => absurd z List.not_mem_nil) C.2.2.2.2.2.1 hce hcv hcl (fun t ht2 _ => ⟨⟨h, hx, by rw [ht2]; exact hH⟩, hS.F ht2⟩) (fun z hz => hS.2.2 z hz) hu (Nat.mul_le_mul_left 6 hu)
/-- what 'throw new E("text")' needs of the tables -/
def ux_nm : List String := ["java/lang/RuntimeException", "java/lang/Exception"]
def ux_th (own : String) (ik is ic : Nat) (E text : String) : Prop := Bundle.fit E = true ∧ Cond.classLink own ik E ∈ ux_T ∧ Cond.initialized E ∈ ux_T ∧ (∀ w ∈ vx_atS own ic E ux_nm, w ∈ ux_T ∨ w ∈ ux_N) ∧ (∀ w ∈ Cond.classLink own ik E :: Cond.initialized E :: vx_atS own ic E ux_nm, vx_ot w = true) ∧ (own, is, text) ∈ ux_tx
theorem ux_hat {own E : String} {ic : Nat} {s : State} {args : Array Value} (h1 : ∀ w ∈ vx_atS own ic E ux_nm, w ∈ ux_T ∨ w ∈ ux_N) (ht : ∀ w ∈ ux_T, w.before args s = true) (hn : ∀ w ∈ ux_N, va_Nw w s) (ho : ∀ w ∈ vx_atS own ic E ux_nm, vx_ot w = true) : ∀ w ∈ vx_atS own ic E ux_nm, w.before args s = true := by
  intro w hw
  rcases h1 w hw with q | q
  · exact ht w q
  · have hs := (List.mem_filter.mp q).2
    have hon : w.onTables = true := by
      cases w <;> first | rfl | (exfalso; revert hs; unfold ux_nst; exact fun z => Bool.noConfusion z)
    exact (hn w q).use hon
theorem g_throw {ik is ic : Nat} {E text : String} (t : ux_th mi.2.2.1 ik is ic E text) (d0 : decode mi.1 pc = .ok (.new ik, 3)) (d3 : decode mi.1 (pc + 3) = .ok (.dup, 1)) (d4 : decode mi.1 (pc + 4) = .ok (.ldc is, 2)) (d6 : decode mi.1 (pc + 6) = .ok (.invokespecial ic, 3)) (d9 : decode mi.1 (pc + 9) = .ok (.athrow, 1)) (hh : mi.2.2.2.2 = []) (hR : (Nat.ble 6 R.frames && Nat.ble 100 R.locals && Nat.ble (u + 1) R.cells && Nat.ble (6 * u + 6) R.slots) = true) (hu : u + 1 ≤ k) (hx : X E h) : ux_W l G mi R (ux_Z G k Q X) pc L [] h u := by
  intro p e s m args below meth c H locs ls C hH hS hl
  obtain ⟨t1, t2, t3, t4, t5, t6⟩ := t
  obtain ⟨c1, c2, c3, c4, c5, c6, c7, c8, w1, w2, w3, w4, w5, w6, w7, w8, w9, w10⟩ := C
  obtain ⟨sa, hsa⟩ := w6 _ t6
  simp only [Bool.and_eq_true] at hR
  have r1 := Nat.le_of_ble_eq_true hR.1.1.1
  have r2 := Nat.le_of_ble_eq_true hR.1.1.2
  have r3 := Nat.le_of_ble_eq_true hR.1.2
  have r4 := Nat.le_of_ble_eq_true hR.2
  have ht : c.exceptionTable.toList = [] := by rw [c8, hh]; rfl
  refine vx_throwS (own := mi.2.2.1) (cls := E) (text := text) (names := ux_nm) (A := ux_A G) c1 c2 w2 c4 t1 (by decide +kernel) (c5 _ t2) (c5 _ t3) hsa (ux_hat t4 c5 w3 (fun w hw => t5 w (List.mem_cons_of_mem _ (List.mem_cons_of_mem _ hw)))) t5 w4 w5 hS (hl.1.trans c3.symm) d0 d3 d4 d6 d9 (by rw [ht]; exact fun x z => absurd z List.not_mem_nil) ?_ ?_ r3 r4 c6 ?_ (fun z hz => hS.2.2 z hz) hu (by omega)
  · show 2 + 3 < R.frames
    omega
  · show 0 + (13 * (2 + 1) + 43) ≤ R.locals
    omega
  · intro t2 _ hz hk
    refine ⟨⟨h, hx, hH.kept (fun k0 q0 hq0 => hk _ (hH k0 q0 hq0).lt)⟩, Nat.le_trans hS.1 hz, fun q hq hn => ?_⟩
    rw [hk q (Nat.lt_of_lt_of_le hq hS.1)]
    exact hS.2.1 q hq hn
theorem g_throwW {ik is ic : Nat} {E text : String} (t : ux_th mi.2.2.1 ik is ic E text) (d0 : decode mi.1 pc = .ok (.new ik, 3)) (d3 : decode mi.1 (pc + 3) = .ok (.dup, 1)) (d4 : decode mi.1 (pc + 4) = .ok (.ldc_w is, 3)) (d7 : decode mi.1 (pc + 7) = .ok (.invokespecial ic, 3)) (d10 : decode mi.1 (pc + 10) = .ok (.athrow, 1)) (hh : mi.2.2.2.2 = []) (hR : (Nat.ble 6 R.frames && Nat.ble 100 R.locals && Nat.ble (u + 1) R.cells && Nat.ble (6 * u + 6) R.slots) = true) (hu : u + 1 ≤ k) (hx : X E h) : ux_W l G mi R (ux_Z G k Q X) pc L [] h u := by
  intro p e s m args below meth c H locs ls C hH hS hl
  obtain ⟨t1, t2, t3, t4, t5, t6⟩ := t
  obtain ⟨c1, c2, c3, c4, c5, c6, c7, c8, w1, w2, w3, w4, w5, w6, w7, w8, w9, w10⟩ := C
  obtain ⟨sa, hsa⟩ := w6 _ t6
  simp only [Bool.and_eq_true] at hR
  have r1 := Nat.le_of_ble_eq_true hR.1.1.1
  have r2 := Nat.le_of_ble_eq_true hR.1.1.2
  have r3 := Nat.le_of_ble_eq_true hR.1.2
  have r4 := Nat.le_of_ble_eq_true hR.2
  have ht : c.exceptionTable.toList = [] := by rw [c8, hh]; rfl
  refine vx_throwSW (own := mi.2.2.1) (cls := E) (text := text) (names := ux_nm) (A := ux_A G) c1 c2 w2 c4 t1 (by decide +kernel) (c5 _ t2) (c5 _ t3) hsa (ux_hat t4 c5 w3 (fun w hw => t5 w (List.mem_cons_of_mem _ (List.mem_cons_of_mem _ hw)))) t5 w4 w5 hS (hl.1.trans c3.symm) d0 d3 d4 d7 d10 (by rw [ht]; exact fun x z => absurd z List.not_mem_nil) ?_ ?_ r3 r4 c6 ?_ (fun z hz => hS.2.2 z hz) hu (by omega)
  · show 2 + 3 < R.frames
    omega
  · show 0 + (13 * (2 + 1) + 43) ≤ R.locals
    omega
  · intro t2 _ hz hk
    refine ⟨⟨h, hx, hH.kept (fun k0 q0 hq0 => hk _ (hH k0 q0 hq0).lt)⟩, Nat.le_trans hS.1 hz, fun q hq hn => ?_⟩
    rw [hk q (Nat.lt_of_lt_of_le hq hS.1)]
    exact hS.2.1 q hq hn
theorem ux_args {G : ux_G} : ∀ (av : List Value) (n i : Nat), (∀ v ∈ av, v.category = 1) → ux_lv G i (av.map some ++ List.replicate n none) = lv_args i (av.map (ux_cv G)) := by
  intro av n
  induction av with
  | nil =>
    intro i _
    show ux_lv G i (List.replicate n none) = []
    induction n generalizing i with
    | zero => rfl
    | succ n ih => exact ih (i + 1)
  | cons a r ih =>
    intro i hv
    show (i, ux_cv G a) :: ux_lv G (i + 1) (r.map some ++ List.replicate n none) = (i, ux_cv G a) :: lv_args (if (ux_cv G a).category = 2 then i + 2 else i + 1) (r.map (ux_cv G))
    have h1 : a.category = 1 := hv a List.mem_cons_self
    rw [ux_cv_cat, h1, if_neg (by decide), ih (i + 1) (fun v q => hv v (List.mem_cons_of_mem _ q))]
theorem ux_slots {G : ux_G} : ∀ (av : List Value), (∀ v ∈ av, v.category = 1) → (lg_sl (av.map (ux_cv G))).length = av.length := by
  intro av
  induction av with
  | nil => intro _; rfl
  | cons a r ih =>
    intro hv
    have h1 : a.category = 1 := hv a List.mem_cons_self
    have h2 := ih (fun v q => hv v (List.mem_cons_of_mem _ q))
    unfold lg_sl at h2 ⊢
    rw [List.map_cons, List.flatMap_cons, ux_cv_cat, h1, if_neg (by decide), List.length_append, h2]
    simp
    omega
def ux_L0 (nL : Nat) (av : List Value) : List (Option Value) := av.map some ++ List.replicate (nL - av.length) none
theorem ux_entry {y : MethodName} {av : List Value} {m : MethodId} (hv : ∀ v ∈ av, v.category = 1) {nL : Nat} (hn : av.length ≤ nL) : ∃ ls, entryFrame m (av.map (ux_cv G)).toArray nL = F0 m 0 ls [] ∧ lv_has ls nL (ux_lv G 0 (ux_L0 nL av)) := by
  refine ⟨_, lg_entry_eq m (av.map (ux_cv G)) nL, ?_⟩
  have h1 := lv_entry (av.map (ux_cv G)) (n := nL) (by rw [ux_slots av hv]; exact hn)
  unfold ux_L0
  rw [ux_args av _ 0 hv]
  exact h1
/-- a body without handlers gives the contract -/
theorem ux_enter {y : MethodName} {n d : Nat} {av : List Value} (lk : ux_lk y mi n) (hh : mi.2.2.2.2 = []) (hv : ∀ v ∈ av, v.category = 1) (hn : av.length ≤ mi.2.1) (body : ux_W l G mi (ux_rm d k) (ux_Z G k Q X) 0 (ux_L0 mi.2.1 av) [] h 0) : ux_M l G y mi d k av h Q X := by
  obtain ⟨k1, k2, k3, k4, k5, k6⟩ := lk
  have hcw : ux_cw y mi = .code y mi.1 mi.2.1 mi.2.2.2.1 := by unfold ux_cw; rw [hh]
  refine vx_ofW (cc := mi.1) (maxL := mi.2.1) (ret := mi.2.2.2.1) (ws' := ux_T) k5 (by rw [hcw]) ?_
  intro p e s m args below meth c s₁ B hml ht hP
  obtain ⟨rfl, hw, hH⟩ := hP
  have hts := atoms_spec (ws := ux_cw y mi :: ux_T) B.pre
  obtain ⟨ls, e1, e2⟩ := ux_entry (G := G) (y := y) (m := m) hv hn
  rw [e1]
  have htab : c.exceptionTable.toList = tableOf mi.2.2.2.2 := by
    rw [hh]
    show c.exceptionTable.toList = []
    exact List.eq_nil_iff_forall_not_mem.mpr (fun x z => ht x z)
  exact body p e s m _ below meth c s.heap [] ls ⟨B.exec, B.bytes, hml, by rw [k6]; exact findClass_of_methodNamed B.named, fun w z => hts w (List.mem_cons_of_mem _ z), B.notSynchronized, B.returns, htab, hw⟩ hH va_S.rf e2
/-- .. and one with handlers -/
theorem ux_enterX {y : MethodName} {n d : Nat} {av : List Value} (lk : ux_lk y mi n) (hh : mi.2.2.2.2 ≠ []) (hv : ∀ v ∈ av, v.category = 1) (hn : av.length ≤ mi.2.1) (body : ux_W l G mi (ux_rm d k) (ux_Z G k Q X) 0 (ux_L0 mi.2.1 av) [] h 0) : ux_M l G y mi d k av h Q X := by
  obtain ⟨k1, k2, k3, k4, k5, k6⟩ := lk
  have hcw : ux_cw y mi = .codeWith y mi.1 mi.2.1 mi.2.2.2.1 mi.2.2.2.2 := by
    unfold ux_cw
    split
    · next q => exact absurd q hh
    · rfl
  refine vx_ofWH (cc := mi.1) (maxL := mi.2.1) (ret := mi.2.2.2.1) (hh := mi.2.2.2.2) (ws' := ux_T) k5 (by rw [hcw]) ?_
  intro p e s m args below meth c s₁ B hml hP
  obtain ⟨rfl, hw, hH⟩ := hP
  have hts := atoms_spec (ws := ux_cw y mi :: ux_T) B.pre
  obtain ⟨ls, e1, e2⟩ := ux_entry (G := G) (y := y) (m := m) hv hn
  rw [e1]
  have h0 := hts _ List.mem_cons_self
  rw [hcw] at h0
  have htab : c.exceptionTable.toList = tableOf mi.2.2.2.2 := vx_table (x := y) B h0
  exact body p e s m _ below meth c s.heap [] ls ⟨B.exec, B.bytes, hml, by rw [k6]; exact findClass_of_methodNamed B.named, fun w z => hts w (List.mem_cons_of_mem _ z), B.notSynchronized, B.returns, htab, hw⟩ hH va_S.rf e2
end UXE
end
