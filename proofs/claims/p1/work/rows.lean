section
-- ===== PART A: goes FIRST, ahead of the names: the tables' words, and 'selects' of the private methods out of them =====
/-- a private method of a class that the tables say can be made, by its rows of tables_1 -/
def lw_okq (q : MethodName × Nat) : Prop := (q.1.cls ≠ "java/lang/invoke/MethodHandle" ∧ q.1.cls ≠ "java/lang/invoke/VarHandle") ∧ Cond.instantiable q.1.cls q.2 ∈ tables_1 ∧ Cond.privateMethod q.1 ∈ tables_1 ∧ Cond.instanceMethod q.1 ∈ tables_1
theorem lw_p0 : lw_okq (⟨"FireWards", "needCell", "(I)V"⟩, 12) := ⟨⟨by decide +kernel, by decide +kernel⟩, List.mem_of_getElem? (i := 25) (by decide +kernel), List.mem_of_getElem? (i := 389) (by decide +kernel), List.mem_of_getElem? (i := 390) (by decide +kernel)⟩
theorem lw_p1 : lw_okq (⟨"java/lang/Throwable", "fillInStackTrace", "(I)Ljava/lang/Throwable;"⟩, 6) := ⟨⟨by decide +kernel, by decide +kernel⟩, List.mem_of_getElem? (i := 434) (by decide +kernel), List.mem_of_getElem? (i := 432) (by decide +kernel), List.mem_of_getElem? (i := 433) (by decide +kernel)⟩
theorem lw_p2 : lw_okq (⟨"FireWards$Tokens", "takeToken", "(I)I"⟩, 6) := ⟨⟨by decide +kernel, by decide +kernel⟩, List.mem_of_getElem? (i := 165) (by decide +kernel), List.mem_of_getElem? (i := 531) (by decide +kernel), List.mem_of_getElem? (i := 532) (by decide +kernel)⟩
theorem lw_p3 : lw_okq (⟨"FireWards$Tokens", "letterAt", "(I)Z"⟩, 6) := ⟨⟨by decide +kernel, by decide +kernel⟩, List.mem_of_getElem? (i := 165) (by decide +kernel), List.mem_of_getElem? (i := 535) (by decide +kernel), List.mem_of_getElem? (i := 536) (by decide +kernel)⟩
theorem lw_p4 : lw_okq (⟨"FireWards$Tokens", "takeWord", "(I)I"⟩, 6) := ⟨⟨by decide +kernel, by decide +kernel⟩, List.mem_of_getElem? (i := 165) (by decide +kernel), List.mem_of_getElem? (i := 539) (by decide +kernel), List.mem_of_getElem? (i := 540) (by decide +kernel)⟩
theorem lw_p5 : lw_okq (⟨"FireWards$Tokens", "keyword", "(I)I"⟩, 6) := ⟨⟨by decide +kernel, by decide +kernel⟩, List.mem_of_getElem? (i := 165) (by decide +kernel), List.mem_of_getElem? (i := 543) (by decide +kernel), List.mem_of_getElem? (i := 544) (by decide +kernel)⟩
theorem lw_p6 : lw_okq (⟨"FireWards$Tokens", "wordIs", "(Ljava/lang/String;I)Z"⟩, 6) := ⟨⟨by decide +kernel, by decide +kernel⟩, List.mem_of_getElem? (i := 165) (by decide +kernel), List.mem_of_getElem? (i := 548) (by decide +kernel), List.mem_of_getElem? (i := 549) (by decide +kernel)⟩
theorem lw_p7 : lw_okq (⟨"FireWards$Tokens", "nameWord", "(I)I"⟩, 6) := ⟨⟨by decide +kernel, by decide +kernel⟩, List.mem_of_getElem? (i := 165) (by decide +kernel), List.mem_of_getElem? (i := 604) (by decide +kernel), List.mem_of_getElem? (i := 605) (by decide +kernel)⟩
theorem lw_p8 : lw_okq (⟨"FireWards$Tokens", "digitAt", "(I)Z"⟩, 6) := ⟨⟨by decide +kernel, by decide +kernel⟩, List.mem_of_getElem? (i := 165) (by decide +kernel), List.mem_of_getElem? (i := 616) (by decide +kernel), List.mem_of_getElem? (i := 617) (by decide +kernel)⟩
theorem lw_p9 : lw_okq (⟨"FireWards$Tokens", "takeNumber", "(I)I"⟩, 6) := ⟨⟨by decide +kernel, by decide +kernel⟩, List.mem_of_getElem? (i := 165) (by decide +kernel), List.mem_of_getElem? (i := 620) (by decide +kernel), List.mem_of_getElem? (i := 621) (by decide +kernel)⟩
theorem lw_p10 : lw_okq (⟨"FireWards$Tokens", "signAt", "(I)I"⟩, 6) := ⟨⟨by decide +kernel, by decide +kernel⟩, List.mem_of_getElem? (i := 165) (by decide +kernel), List.mem_of_getElem? (i := 624) (by decide +kernel), List.mem_of_getElem? (i := 625) (by decide +kernel)⟩
theorem lw_p11 : lw_okq (⟨"FireWards$Tokens", "add", "(II)V"⟩, 6) := ⟨⟨by decide +kernel, by decide +kernel⟩, List.mem_of_getElem? (i := 165) (by decide +kernel), List.mem_of_getElem? (i := 628) (by decide +kernel), List.mem_of_getElem? (i := 629) (by decide +kernel)⟩
theorem lw_p12 : lw_okq (⟨"FireWards$LawReader", "readRule", "(I)Z"⟩, 6) := ⟨⟨by decide +kernel, by decide +kernel⟩, List.mem_of_getElem? (i := 159) (by decide +kernel), List.mem_of_getElem? (i := 632) (by decide +kernel), List.mem_of_getElem? (i := 633) (by decide +kernel)⟩
theorem lw_p13 : lw_okq (⟨"FireWards$LawReader", "fail", "(I)Z"⟩, 6) := ⟨⟨by decide +kernel, by decide +kernel⟩, List.mem_of_getElem? (i := 159) (by decide +kernel), List.mem_of_getElem? (i := 636) (by decide +kernel), List.mem_of_getElem? (i := 637) (by decide +kernel)⟩
theorem lw_p14 : lw_okq (⟨"FireWards$LawReader", "advance", "()V"⟩, 6) := ⟨⟨by decide +kernel, by decide +kernel⟩, List.mem_of_getElem? (i := 159) (by decide +kernel), List.mem_of_getElem? (i := 640) (by decide +kernel), List.mem_of_getElem? (i := 641) (by decide +kernel)⟩
theorem lw_p15 : lw_okq (⟨"FireWards$LawReader", "readExpr", "(I)Z"⟩, 6) := ⟨⟨by decide +kernel, by decide +kernel⟩, List.mem_of_getElem? (i := 159) (by decide +kernel), List.mem_of_getElem? (i := 644) (by decide +kernel), List.mem_of_getElem? (i := 645) (by decide +kernel)⟩
def lw_privs_1 : List (MethodName × Nat) := [(⟨"FireWards", "needCell", "(I)V"⟩, 12), (⟨"java/lang/Throwable", "fillInStackTrace", "(I)Ljava/lang/Throwable;"⟩, 6), (⟨"FireWards$Tokens", "takeToken", "(I)I"⟩, 6), (⟨"FireWards$Tokens", "letterAt", "(I)Z"⟩, 6), (⟨"FireWards$Tokens", "takeWord", "(I)I"⟩, 6), (⟨"FireWards$Tokens", "keyword", "(I)I"⟩, 6), (⟨"FireWards$Tokens", "wordIs", "(Ljava/lang/String;I)Z"⟩, 6), (⟨"FireWards$Tokens", "nameWord", "(I)I"⟩, 6), (⟨"FireWards$Tokens", "digitAt", "(I)Z"⟩, 6), (⟨"FireWards$Tokens", "takeNumber", "(I)I"⟩, 6), (⟨"FireWards$Tokens", "signAt", "(I)I"⟩, 6), (⟨"FireWards$Tokens", "add", "(II)V"⟩, 6), (⟨"FireWards$LawReader", "readRule", "(I)Z"⟩, 6), (⟨"FireWards$LawReader", "fail", "(I)Z"⟩, 6), (⟨"FireWards$LawReader", "advance", "()V"⟩, 6), (⟨"FireWards$LawReader", "readExpr", "(I)Z"⟩, 6)]
theorem lw_r1 : ∀ q ∈ lw_privs_1, lw_okq q := List.forall_mem_cons.mpr ⟨lw_p0, List.forall_mem_cons.mpr ⟨lw_p1, List.forall_mem_cons.mpr ⟨lw_p2, List.forall_mem_cons.mpr ⟨lw_p3, List.forall_mem_cons.mpr ⟨lw_p4, List.forall_mem_cons.mpr ⟨lw_p5, List.forall_mem_cons.mpr ⟨lw_p6, List.forall_mem_cons.mpr ⟨lw_p7, List.forall_mem_cons.mpr ⟨lw_p8, List.forall_mem_cons.mpr ⟨lw_p9, List.forall_mem_cons.mpr ⟨lw_p10, List.forall_mem_cons.mpr ⟨lw_p11, List.forall_mem_cons.mpr ⟨lw_p12, List.forall_mem_cons.mpr ⟨lw_p13, List.forall_mem_cons.mpr ⟨lw_p14, List.forall_mem_cons.mpr ⟨lw_p15, fun _ h => absurd h List.not_mem_nil⟩⟩⟩⟩⟩⟩⟩⟩⟩⟩⟩⟩⟩⟩⟩⟩
theorem lw_p16 : lw_okq (⟨"FireWards$LawReader", "beginsPart", "()Z"⟩, 6) := ⟨⟨by decide +kernel, by decide +kernel⟩, List.mem_of_getElem? (i := 159) (by decide +kernel), List.mem_of_getElem? (i := 648) (by decide +kernel), List.mem_of_getElem? (i := 649) (by decide +kernel)⟩
theorem lw_p17 : lw_okq (⟨"FireWards$LawReader", "isNumberOrName", "()Z"⟩, 6) := ⟨⟨by decide +kernel, by decide +kernel⟩, List.mem_of_getElem? (i := 159) (by decide +kernel), List.mem_of_getElem? (i := 652) (by decide +kernel), List.mem_of_getElem? (i := 653) (by decide +kernel)⟩
theorem lw_p18 : lw_okq (⟨"FireWards$LawReader", "faultOfPart", "()I"⟩, 6) := ⟨⟨by decide +kernel, by decide +kernel⟩, List.mem_of_getElem? (i := 159) (by decide +kernel), List.mem_of_getElem? (i := 656) (by decide +kernel), List.mem_of_getElem? (i := 657) (by decide +kernel)⟩
theorem lw_p19 : lw_okq (⟨"FireWards$LawReader", "readTest", "(I)Z"⟩, 6) := ⟨⟨by decide +kernel, by decide +kernel⟩, List.mem_of_getElem? (i := 159) (by decide +kernel), List.mem_of_getElem? (i := 660) (by decide +kernel), List.mem_of_getElem? (i := 661) (by decide +kernel)⟩
theorem lw_p20 : lw_okq (⟨"FireWards$LawReader", "readSum", "(I)Z"⟩, 6) := ⟨⟨by decide +kernel, by decide +kernel⟩, List.mem_of_getElem? (i := 159) (by decide +kernel), List.mem_of_getElem? (i := 664) (by decide +kernel), List.mem_of_getElem? (i := 665) (by decide +kernel)⟩
theorem lw_p21 : lw_okq (⟨"FireWards$LawReader", "readPart", "(I)Z"⟩, 6) := ⟨⟨by decide +kernel, by decide +kernel⟩, List.mem_of_getElem? (i := 159) (by decide +kernel), List.mem_of_getElem? (i := 668) (by decide +kernel), List.mem_of_getElem? (i := 669) (by decide +kernel)⟩
theorem lw_p22 : lw_okq (⟨"FireWards$LawReader", "emit", "(I)V"⟩, 6) := ⟨⟨by decide +kernel, by decide +kernel⟩, List.mem_of_getElem? (i := 159) (by decide +kernel), List.mem_of_getElem? (i := 672) (by decide +kernel), List.mem_of_getElem? (i := 673) (by decide +kernel)⟩
theorem lw_p23 : lw_okq (⟨"FireWards", "ringBells", "()V"⟩, 12) := ⟨⟨by decide +kernel, by decide +kernel⟩, List.mem_of_getElem? (i := 25) (by decide +kernel), List.mem_of_getElem? (i := 698) (by decide +kernel), List.mem_of_getElem? (i := 699) (by decide +kernel)⟩
theorem lw_p24 : lw_okq (⟨"FireWards", "ringBell", "(III)V"⟩, 12) := ⟨⟨by decide +kernel, by decide +kernel⟩, List.mem_of_getElem? (i := 25) (by decide +kernel), List.mem_of_getElem? (i := 714) (by decide +kernel), List.mem_of_getElem? (i := 715) (by decide +kernel)⟩
theorem lw_p25 : lw_okq (⟨"FireWards", "isCalled", "(IIII)Z"⟩, 12) := ⟨⟨by decide +kernel, by decide +kernel⟩, List.mem_of_getElem? (i := 25) (by decide +kernel), List.mem_of_getElem? (i := 718) (by decide +kernel), List.mem_of_getElem? (i := 719) (by decide +kernel)⟩
theorem lw_p26 : lw_okq (⟨"FireWards", "inform", "(III)V"⟩, 12) := ⟨⟨by decide +kernel, by decide +kernel⟩, List.mem_of_getElem? (i := 25) (by decide +kernel), List.mem_of_getElem? (i := 722) (by decide +kernel), List.mem_of_getElem? (i := 723) (by decide +kernel)⟩
theorem lw_p27 : lw_okq (⟨"FireWards$Judge", "take", "(I)V"⟩, 5) := ⟨⟨by decide +kernel, by decide +kernel⟩, List.mem_of_getElem? (i := 238) (by decide +kernel), List.mem_of_getElem? (i := 742) (by decide +kernel), List.mem_of_getElem? (i := 743) (by decide +kernel)⟩
theorem lw_p28 : lw_okq (⟨"FireWards$Judge", "push", "(I)V"⟩, 5) := ⟨⟨by decide +kernel, by decide +kernel⟩, List.mem_of_getElem? (i := 238) (by decide +kernel), List.mem_of_getElem? (i := 746) (by decide +kernel), List.mem_of_getElem? (i := 747) (by decide +kernel)⟩
theorem lw_p29 : lw_okq (⟨"FireWards$Judge", "pop", "()I"⟩, 5) := ⟨⟨by decide +kernel, by decide +kernel⟩, List.mem_of_getElem? (i := 238) (by decide +kernel), List.mem_of_getElem? (i := 750) (by decide +kernel), List.mem_of_getElem? (i := 751) (by decide +kernel)⟩
theorem lw_p30 : lw_okq (⟨"FireWards", "order", "(III)Z"⟩, 12) := ⟨⟨by decide +kernel, by decide +kernel⟩, List.mem_of_getElem? (i := 25) (by decide +kernel), List.mem_of_getElem? (i := 768) (by decide +kernel), List.mem_of_getElem? (i := 769) (by decide +kernel)⟩
theorem lw_p31 : lw_okq (⟨"FireWards", "needCrew", "(I)V"⟩, 12) := ⟨⟨by decide +kernel, by decide +kernel⟩, List.mem_of_getElem? (i := 25) (by decide +kernel), List.mem_of_getElem? (i := 772) (by decide +kernel), List.mem_of_getElem? (i := 773) (by decide +kernel)⟩
def lw_privs_2 : List (MethodName × Nat) := [(⟨"FireWards$LawReader", "beginsPart", "()Z"⟩, 6), (⟨"FireWards$LawReader", "isNumberOrName", "()Z"⟩, 6), (⟨"FireWards$LawReader", "faultOfPart", "()I"⟩, 6), (⟨"FireWards$LawReader", "readTest", "(I)Z"⟩, 6), (⟨"FireWards$LawReader", "readSum", "(I)Z"⟩, 6), (⟨"FireWards$LawReader", "readPart", "(I)Z"⟩, 6), (⟨"FireWards$LawReader", "emit", "(I)V"⟩, 6), (⟨"FireWards", "ringBells", "()V"⟩, 12), (⟨"FireWards", "ringBell", "(III)V"⟩, 12), (⟨"FireWards", "isCalled", "(IIII)Z"⟩, 12), (⟨"FireWards", "inform", "(III)V"⟩, 12), (⟨"FireWards$Judge", "take", "(I)V"⟩, 5), (⟨"FireWards$Judge", "push", "(I)V"⟩, 5), (⟨"FireWards$Judge", "pop", "()I"⟩, 5), (⟨"FireWards", "order", "(III)Z"⟩, 12), (⟨"FireWards", "needCrew", "(I)V"⟩, 12)]
theorem lw_r2 : ∀ q ∈ lw_privs_2, lw_okq q := List.forall_mem_cons.mpr ⟨lw_p16, List.forall_mem_cons.mpr ⟨lw_p17, List.forall_mem_cons.mpr ⟨lw_p18, List.forall_mem_cons.mpr ⟨lw_p19, List.forall_mem_cons.mpr ⟨lw_p20, List.forall_mem_cons.mpr ⟨lw_p21, List.forall_mem_cons.mpr ⟨lw_p22, List.forall_mem_cons.mpr ⟨lw_p23, List.forall_mem_cons.mpr ⟨lw_p24, List.forall_mem_cons.mpr ⟨lw_p25, List.forall_mem_cons.mpr ⟨lw_p26, List.forall_mem_cons.mpr ⟨lw_p27, List.forall_mem_cons.mpr ⟨lw_p28, List.forall_mem_cons.mpr ⟨lw_p29, List.forall_mem_cons.mpr ⟨lw_p30, List.forall_mem_cons.mpr ⟨lw_p31, fun _ h => absurd h List.not_mem_nil⟩⟩⟩⟩⟩⟩⟩⟩⟩⟩⟩⟩⟩⟩⟩⟩
theorem lw_p32 : lw_okq (⟨"FireWards", "passHour", "()V"⟩, 12) := ⟨⟨by decide +kernel, by decide +kernel⟩, List.mem_of_getElem? (i := 25) (by decide +kernel), List.mem_of_getElem? (i := 796) (by decide +kernel), List.mem_of_getElem? (i := 797) (by decide +kernel)⟩
theorem lw_p33 : lw_okq (⟨"FireWards", "crewsGo", "()V"⟩, 12) := ⟨⟨by decide +kernel, by decide +kernel⟩, List.mem_of_getElem? (i := 25) (by decide +kernel), List.mem_of_getElem? (i := 800) (by decide +kernel), List.mem_of_getElem? (i := 801) (by decide +kernel)⟩
theorem lw_p34 : lw_okq (⟨"FireWards$Ways", "reckonSteps", "(I)V"⟩, 4) := ⟨⟨by decide +kernel, by decide +kernel⟩, List.mem_of_getElem? (i := 262) (by decide +kernel), List.mem_of_getElem? (i := 813) (by decide +kernel), List.mem_of_getElem? (i := 814) (by decide +kernel)⟩
theorem lw_p35 : lw_okq (⟨"FireWards$Ways", "spread", "(III)V"⟩, 4) := ⟨⟨by decide +kernel, by decide +kernel⟩, List.mem_of_getElem? (i := 262) (by decide +kernel), List.mem_of_getElem? (i := 818) (by decide +kernel), List.mem_of_getElem? (i := 819) (by decide +kernel)⟩
theorem lw_p36 : lw_okq (⟨"FireWards", "giveRoofs", "()V"⟩, 12) := ⟨⟨by decide +kernel, by decide +kernel⟩, List.mem_of_getElem? (i := 25) (by decide +kernel), List.mem_of_getElem? (i := 823) (by decide +kernel), List.mem_of_getElem? (i := 824) (by decide +kernel)⟩
theorem lw_p37 : lw_okq (⟨"FireWards", "giveRoof", "(I)V"⟩, 12) := ⟨⟨by decide +kernel, by decide +kernel⟩, List.mem_of_getElem? (i := 25) (by decide +kernel), List.mem_of_getElem? (i := 827) (by decide +kernel), List.mem_of_getElem? (i := 828) (by decide +kernel)⟩
theorem lw_p38 : lw_okq (⟨"FireWards", "crewsWork", "()V"⟩, 12) := ⟨⟨by decide +kernel, by decide +kernel⟩, List.mem_of_getElem? (i := 25) (by decide +kernel), List.mem_of_getElem? (i := 831) (by decide +kernel), List.mem_of_getElem? (i := 832) (by decide +kernel)⟩
theorem lw_p39 : lw_okq (⟨"FireWards", "pullAt", "(II)V"⟩, 12) := ⟨⟨by decide +kernel, by decide +kernel⟩, List.mem_of_getElem? (i := 25) (by decide +kernel), List.mem_of_getElem? (i := 835) (by decide +kernel), List.mem_of_getElem? (i := 836) (by decide +kernel)⟩
theorem lw_p40 : lw_okq (⟨"FireWards", "fireEats", "()V"⟩, 12) := ⟨⟨by decide +kernel, by decide +kernel⟩, List.mem_of_getElem? (i := 25) (by decide +kernel), List.mem_of_getElem? (i := 843) (by decide +kernel), List.mem_of_getElem? (i := 844) (by decide +kernel)⟩
theorem lw_p41 : lw_okq (⟨"FireWards", "putOut", "(I)V"⟩, 12) := ⟨⟨by decide +kernel, by decide +kernel⟩, List.mem_of_getElem? (i := 25) (by decide +kernel), List.mem_of_getElem? (i := 847) (by decide +kernel), List.mem_of_getElem? (i := 848) (by decide +kernel)⟩
theorem lw_p42 : lw_okq (⟨"FireWards", "leave", "(I)V"⟩, 12) := ⟨⟨by decide +kernel, by decide +kernel⟩, List.mem_of_getElem? (i := 25) (by decide +kernel), List.mem_of_getElem? (i := 851) (by decide +kernel), List.mem_of_getElem? (i := 852) (by decide +kernel)⟩
theorem lw_p43 : lw_okq (⟨"FireWards", "payFor", "(II)I"⟩, 12) := ⟨⟨by decide +kernel, by decide +kernel⟩, List.mem_of_getElem? (i := 25) (by decide +kernel), List.mem_of_getElem? (i := 855) (by decide +kernel), List.mem_of_getElem? (i := 856) (by decide +kernel)⟩
theorem lw_p44 : lw_okq (⟨"FireWards$City", "heatAt", "(I)I"⟩, 13) := ⟨⟨by decide +kernel, by decide +kernel⟩, List.mem_of_getElem? (i := 33) (by decide +kernel), List.mem_of_getElem? (i := 863) (by decide +kernel), List.mem_of_getElem? (i := 864) (by decide +kernel)⟩
theorem lw_p45 : lw_okq (⟨"FireWards$FireBreak", "addRow", "()Z"⟩, 13) := ⟨⟨by decide +kernel, by decide +kernel⟩, List.mem_of_getElem? (i := 281) (by decide +kernel), List.mem_of_getElem? (i := 910) (by decide +kernel), List.mem_of_getElem? (i := 911) (by decide +kernel)⟩
theorem lw_p46 : lw_okq (⟨"FireWards$FireBreak", "search", "(I)I"⟩, 13) := ⟨⟨by decide +kernel, by decide +kernel⟩, List.mem_of_getElem? (i := 281) (by decide +kernel), List.mem_of_getElem? (i := 914) (by decide +kernel), List.mem_of_getElem? (i := 915) (by decide +kernel)⟩
theorem lw_p47 : lw_okq (⟨"FireWards$FireBreak", "see", "(II)V"⟩, 13) := ⟨⟨by decide +kernel, by decide +kernel⟩, List.mem_of_getElem? (i := 281) (by decide +kernel), List.mem_of_getElem? (i := 919) (by decide +kernel), List.mem_of_getElem? (i := 920) (by decide +kernel)⟩
def lw_privs_3 : List (MethodName × Nat) := [(⟨"FireWards", "passHour", "()V"⟩, 12), (⟨"FireWards", "crewsGo", "()V"⟩, 12), (⟨"FireWards$Ways", "reckonSteps", "(I)V"⟩, 4), (⟨"FireWards$Ways", "spread", "(III)V"⟩, 4), (⟨"FireWards", "giveRoofs", "()V"⟩, 12), (⟨"FireWards", "giveRoof", "(I)V"⟩, 12), (⟨"FireWards", "crewsWork", "()V"⟩, 12), (⟨"FireWards", "pullAt", "(II)V"⟩, 12), (⟨"FireWards", "fireEats", "()V"⟩, 12), (⟨"FireWards", "putOut", "(I)V"⟩, 12), (⟨"FireWards", "leave", "(I)V"⟩, 12), (⟨"FireWards", "payFor", "(II)I"⟩, 12), (⟨"FireWards$City", "heatAt", "(I)I"⟩, 13), (⟨"FireWards$FireBreak", "addRow", "()Z"⟩, 13), (⟨"FireWards$FireBreak", "search", "(I)I"⟩, 13), (⟨"FireWards$FireBreak", "see", "(II)V"⟩, 13)]
theorem lw_r3 : ∀ q ∈ lw_privs_3, lw_okq q := List.forall_mem_cons.mpr ⟨lw_p32, List.forall_mem_cons.mpr ⟨lw_p33, List.forall_mem_cons.mpr ⟨lw_p34, List.forall_mem_cons.mpr ⟨lw_p35, List.forall_mem_cons.mpr ⟨lw_p36, List.forall_mem_cons.mpr ⟨lw_p37, List.forall_mem_cons.mpr ⟨lw_p38, List.forall_mem_cons.mpr ⟨lw_p39, List.forall_mem_cons.mpr ⟨lw_p40, List.forall_mem_cons.mpr ⟨lw_p41, List.forall_mem_cons.mpr ⟨lw_p42, List.forall_mem_cons.mpr ⟨lw_p43, List.forall_mem_cons.mpr ⟨lw_p44, List.forall_mem_cons.mpr ⟨lw_p45, List.forall_mem_cons.mpr ⟨lw_p46, List.forall_mem_cons.mpr ⟨lw_p47, fun _ h => absurd h List.not_mem_nil⟩⟩⟩⟩⟩⟩⟩⟩⟩⟩⟩⟩⟩⟩⟩⟩
theorem lw_p48 : lw_okq (⟨"FireWards$FireBreak", "goOnFromEntry", "(I)V"⟩, 13) := ⟨⟨by decide +kernel, by decide +kernel⟩, List.mem_of_getElem? (i := 281) (by decide +kernel), List.mem_of_getElem? (i := 924) (by decide +kernel), List.mem_of_getElem? (i := 925) (by decide +kernel)⟩
theorem lw_p49 : lw_okq (⟨"FireWards$FireBreak", "goOnFromExit", "(I)Z"⟩, 13) := ⟨⟨by decide +kernel, by decide +kernel⟩, List.mem_of_getElem? (i := 281) (by decide +kernel), List.mem_of_getElem? (i := 928) (by decide +kernel), List.mem_of_getElem? (i := 929) (by decide +kernel)⟩
theorem lw_p50 : lw_okq (⟨"FireWards$FireBreak", "turn", "(II)V"⟩, 13) := ⟨⟨by decide +kernel, by decide +kernel⟩, List.mem_of_getElem? (i := 281) (by decide +kernel), List.mem_of_getElem? (i := 932) (by decide +kernel), List.mem_of_getElem? (i := 933) (by decide +kernel)⟩
theorem lw_p51 : lw_okq (⟨"FireWards$FireBreak", "isInSomeBreak", "(I)Z"⟩, 13) := ⟨⟨by decide +kernel, by decide +kernel⟩, List.mem_of_getElem? (i := 281) (by decide +kernel), List.mem_of_getElem? (i := 936) (by decide +kernel), List.mem_of_getElem? (i := 937) (by decide +kernel)⟩
theorem lw_p52 : lw_okq (⟨"FireWards$FireBreak", "keep", "(I)V"⟩, 13) := ⟨⟨by decide +kernel, by decide +kernel⟩, List.mem_of_getElem? (i := 281) (by decide +kernel), List.mem_of_getElem? (i := 940) (by decide +kernel), List.mem_of_getElem? (i := 941) (by decide +kernel)⟩
theorem lw_p53 : lw_okq (⟨"FireWardsModel", "isCell", "(I)Z"⟩, 56) := ⟨⟨by decide +kernel, by decide +kernel⟩, List.mem_of_getElem? (i := 964) (by decide +kernel), List.mem_of_getElem? (i := 1157) (by decide +kernel), List.mem_of_getElem? (i := 1158) (by decide +kernel)⟩
theorem lw_p54 : lw_okq (⟨"FireWardsModel", "fail", "()I"⟩, 56) := ⟨⟨by decide +kernel, by decide +kernel⟩, List.mem_of_getElem? (i := 964) (by decide +kernel), List.mem_of_getElem? (i := 1161) (by decide +kernel), List.mem_of_getElem? (i := 1162) (by decide +kernel)⟩
theorem lw_p55 : lw_okq (⟨"FireWardsModel", "readLaw", "()V"⟩, 56) := ⟨⟨by decide +kernel, by decide +kernel⟩, List.mem_of_getElem? (i := 964) (by decide +kernel), List.mem_of_getElem? (i := 1185) (by decide +kernel), List.mem_of_getElem? (i := 1186) (by decide +kernel)⟩
theorem lw_p56 : lw_okq (⟨"FireWardsModel", "step", "()V"⟩, 56) := ⟨⟨by decide +kernel, by decide +kernel⟩, List.mem_of_getElem? (i := 964) (by decide +kernel), List.mem_of_getElem? (i := 1189) (by decide +kernel), List.mem_of_getElem? (i := 1190) (by decide +kernel)⟩
theorem lw_p57 : lw_okq (⟨"FireWardsModel", "byteAt", "(I)I"⟩, 56) := ⟨⟨by decide +kernel, by decide +kernel⟩, List.mem_of_getElem? (i := 964) (by decide +kernel), List.mem_of_getElem? (i := 1193) (by decide +kernel), List.mem_of_getElem? (i := 1194) (by decide +kernel)⟩
theorem lw_p58 : lw_okq (⟨"FireWardsModel", "isWord", "(Ljava/lang/String;)Z"⟩, 56) := ⟨⟨by decide +kernel, by decide +kernel⟩, List.mem_of_getElem? (i := 964) (by decide +kernel), List.mem_of_getElem? (i := 1204) (by decide +kernel), List.mem_of_getElem? (i := 1205) (by decide +kernel)⟩
theorem lw_p59 : lw_okq (⟨"FireWardsModel", "wrong", "(I)V"⟩, 56) := ⟨⟨by decide +kernel, by decide +kernel⟩, List.mem_of_getElem? (i := 964) (by decide +kernel), List.mem_of_getElem? (i := 1211) (by decide +kernel), List.mem_of_getElem? (i := 1212) (by decide +kernel)⟩
theorem lw_p60 : lw_okq (⟨"FireWardsModel", "readExpression", "(I)V"⟩, 56) := ⟨⟨by decide +kernel, by decide +kernel⟩, List.mem_of_getElem? (i := 964) (by decide +kernel), List.mem_of_getElem? (i := 1215) (by decide +kernel), List.mem_of_getElem? (i := 1216) (by decide +kernel)⟩
theorem lw_p61 : lw_okq (⟨"FireWardsModel", "isSign", "(I)Z"⟩, 56) := ⟨⟨by decide +kernel, by decide +kernel⟩, List.mem_of_getElem? (i := 964) (by decide +kernel), List.mem_of_getElem? (i := 1219) (by decide +kernel), List.mem_of_getElem? (i := 1220) (by decide +kernel)⟩
theorem lw_p62 : lw_okq (⟨"FireWardsModel", "readTest", "(I)V"⟩, 56) := ⟨⟨by decide +kernel, by decide +kernel⟩, List.mem_of_getElem? (i := 964) (by decide +kernel), List.mem_of_getElem? (i := 1223) (by decide +kernel), List.mem_of_getElem? (i := 1224) (by decide +kernel)⟩
theorem lw_p63 : lw_okq (⟨"FireWardsModel", "readSum", "(I)V"⟩, 56) := ⟨⟨by decide +kernel, by decide +kernel⟩, List.mem_of_getElem? (i := 964) (by decide +kernel), List.mem_of_getElem? (i := 1228) (by decide +kernel), List.mem_of_getElem? (i := 1229) (by decide +kernel)⟩
def lw_privs_4 : List (MethodName × Nat) := [(⟨"FireWards$FireBreak", "goOnFromEntry", "(I)V"⟩, 13), (⟨"FireWards$FireBreak", "goOnFromExit", "(I)Z"⟩, 13), (⟨"FireWards$FireBreak", "turn", "(II)V"⟩, 13), (⟨"FireWards$FireBreak", "isInSomeBreak", "(I)Z"⟩, 13), (⟨"FireWards$FireBreak", "keep", "(I)V"⟩, 13), (⟨"FireWardsModel", "isCell", "(I)Z"⟩, 56), (⟨"FireWardsModel", "fail", "()I"⟩, 56), (⟨"FireWardsModel", "readLaw", "()V"⟩, 56), (⟨"FireWardsModel", "step", "()V"⟩, 56), (⟨"FireWardsModel", "byteAt", "(I)I"⟩, 56), (⟨"FireWardsModel", "isWord", "(Ljava/lang/String;)Z"⟩, 56), (⟨"FireWardsModel", "wrong", "(I)V"⟩, 56), (⟨"FireWardsModel", "readExpression", "(I)V"⟩, 56), (⟨"FireWardsModel", "isSign", "(I)Z"⟩, 56), (⟨"FireWardsModel", "readTest", "(I)V"⟩, 56), (⟨"FireWardsModel", "readSum", "(I)V"⟩, 56)]
theorem lw_r4 : ∀ q ∈ lw_privs_4, lw_okq q := List.forall_mem_cons.mpr ⟨lw_p48, List.forall_mem_cons.mpr ⟨lw_p49, List.forall_mem_cons.mpr ⟨lw_p50, List.forall_mem_cons.mpr ⟨lw_p51, List.forall_mem_cons.mpr ⟨lw_p52, List.forall_mem_cons.mpr ⟨lw_p53, List.forall_mem_cons.mpr ⟨lw_p54, List.forall_mem_cons.mpr ⟨lw_p55, List.forall_mem_cons.mpr ⟨lw_p56, List.forall_mem_cons.mpr ⟨lw_p57, List.forall_mem_cons.mpr ⟨lw_p58, List.forall_mem_cons.mpr ⟨lw_p59, List.forall_mem_cons.mpr ⟨lw_p60, List.forall_mem_cons.mpr ⟨lw_p61, List.forall_mem_cons.mpr ⟨lw_p62, List.forall_mem_cons.mpr ⟨lw_p63, fun _ h => absurd h List.not_mem_nil⟩⟩⟩⟩⟩⟩⟩⟩⟩⟩⟩⟩⟩⟩⟩⟩
theorem lw_p64 : lw_okq (⟨"FireWardsModel", "readPart", "(I)V"⟩, 56) := ⟨⟨by decide +kernel, by decide +kernel⟩, List.mem_of_getElem? (i := 964) (by decide +kernel), List.mem_of_getElem? (i := 1232) (by decide +kernel), List.mem_of_getElem? (i := 1233) (by decide +kernel)⟩
theorem lw_p65 : lw_okq (⟨"FireWardsModel", "emit", "(I)V"⟩, 56) := ⟨⟨by decide +kernel, by decide +kernel⟩, List.mem_of_getElem? (i := 964) (by decide +kernel), List.mem_of_getElem? (i := 1236) (by decide +kernel), List.mem_of_getElem? (i := 1237) (by decide +kernel)⟩
theorem lw_p66 : lw_okq (⟨"FireWardsModel", "noGoal", "(IZ)V"⟩, 56) := ⟨⟨by decide +kernel, by decide +kernel⟩, List.mem_of_getElem? (i := 964) (by decide +kernel), List.mem_of_getElem? (i := 1250) (by decide +kernel), List.mem_of_getElem? (i := 1251) (by decide +kernel)⟩
theorem lw_p67 : lw_okq (⟨"FireWardsModel", "ring", "(I)V"⟩, 56) := ⟨⟨by decide +kernel, by decide +kernel⟩, List.mem_of_getElem? (i := 964) (by decide +kernel), List.mem_of_getElem? (i := 1254) (by decide +kernel), List.mem_of_getElem? (i := 1255) (by decide +kernel)⟩
theorem lw_p68 : lw_okq (⟨"FireWardsModel", "isCalled", "(II)Z"⟩, 56) := ⟨⟨by decide +kernel, by decide +kernel⟩, List.mem_of_getElem? (i := 964) (by decide +kernel), List.mem_of_getElem? (i := 1258) (by decide +kernel), List.mem_of_getElem? (i := 1259) (by decide +kernel)⟩
theorem lw_p69 : lw_okq (⟨"FireWardsModel", "force", "()I"⟩, 56) := ⟨⟨by decide +kernel, by decide +kernel⟩, List.mem_of_getElem? (i := 964) (by decide +kernel), List.mem_of_getElem? (i := 1262) (by decide +kernel), List.mem_of_getElem? (i := 1263) (by decide +kernel)⟩
theorem lw_p70 : lw_okq (⟨"FireWardsModel", "ruled", "(ZII)I"⟩, 56) := ⟨⟨by decide +kernel, by decide +kernel⟩, List.mem_of_getElem? (i := 964) (by decide +kernel), List.mem_of_getElem? (i := 1266) (by decide +kernel), List.mem_of_getElem? (i := 1267) (by decide +kernel)⟩
theorem lw_p71 : lw_okq (⟨"FireWardsModel", "told", "(IIII)I"⟩, 56) := ⟨⟨by decide +kernel, by decide +kernel⟩, List.mem_of_getElem? (i := 964) (by decide +kernel), List.mem_of_getElem? (i := 1270) (by decide +kernel), List.mem_of_getElem? (i := 1271) (by decide +kernel)⟩
theorem lw_p72 : lw_okq (⟨"FireWardsModel", "value", "(III)I"⟩, 56) := ⟨⟨by decide +kernel, by decide +kernel⟩, List.mem_of_getElem? (i := 964) (by decide +kernel), List.mem_of_getElem? (i := 1274) (by decide +kernel), List.mem_of_getElem? (i := 1275) (by decide +kernel)⟩
theorem lw_p73 : lw_okq (⟨"FireWardsModel", "far", "(II)I"⟩, 56) := ⟨⟨by decide +kernel, by decide +kernel⟩, List.mem_of_getElem? (i := 964) (by decide +kernel), List.mem_of_getElem? (i := 1278) (by decide +kernel), List.mem_of_getElem? (i := 1279) (by decide +kernel)⟩
theorem lw_p74 : lw_okq (⟨"FireWardsModel", "many", "(I)I"⟩, 56) := ⟨⟨by decide +kernel, by decide +kernel⟩, List.mem_of_getElem? (i := 964) (by decide +kernel), List.mem_of_getElem? (i := 1283) (by decide +kernel), List.mem_of_getElem? (i := 1284) (by decide +kernel)⟩
theorem lw_p75 : lw_okq (⟨"FireWardsModel", "aim", "(IIZ)Z"⟩, 56) := ⟨⟨by decide +kernel, by decide +kernel⟩, List.mem_of_getElem? (i := 964) (by decide +kernel), List.mem_of_getElem? (i := 1294) (by decide +kernel), List.mem_of_getElem? (i := 1295) (by decide +kernel)⟩
theorem lw_p76 : lw_okq (⟨"FireWardsModel", "isCompany", "(I)Z"⟩, 56) := ⟨⟨by decide +kernel, by decide +kernel⟩, List.mem_of_getElem? (i := 964) (by decide +kernel), List.mem_of_getElem? (i := 1298) (by decide +kernel), List.mem_of_getElem? (i := 1299) (by decide +kernel)⟩
theorem lw_p77 : lw_okq (⟨"FireWardsModel", "go", "(I)V"⟩, 56) := ⟨⟨by decide +kernel, by decide +kernel⟩, List.mem_of_getElem? (i := 964) (by decide +kernel), List.mem_of_getElem? (i := 1310) (by decide +kernel), List.mem_of_getElem? (i := 1311) (by decide +kernel)⟩
theorem lw_p78 : lw_okq (⟨"FireWardsModel", "isBeside", "(II)Z"⟩, 56) := ⟨⟨by decide +kernel, by decide +kernel⟩, List.mem_of_getElem? (i := 964) (by decide +kernel), List.mem_of_getElem? (i := 1314) (by decide +kernel), List.mem_of_getElem? (i := 1315) (by decide +kernel)⟩
theorem lw_p79 : lw_okq (⟨"FireWardsModel", "reckon", "(I)V"⟩, 56) := ⟨⟨by decide +kernel, by decide +kernel⟩, List.mem_of_getElem? (i := 964) (by decide +kernel), List.mem_of_getElem? (i := 1318) (by decide +kernel), List.mem_of_getElem? (i := 1319) (by decide +kernel)⟩
def lw_privs_5 : List (MethodName × Nat) := [(⟨"FireWardsModel", "readPart", "(I)V"⟩, 56), (⟨"FireWardsModel", "emit", "(I)V"⟩, 56), (⟨"FireWardsModel", "noGoal", "(IZ)V"⟩, 56), (⟨"FireWardsModel", "ring", "(I)V"⟩, 56), (⟨"FireWardsModel", "isCalled", "(II)Z"⟩, 56), (⟨"FireWardsModel", "force", "()I"⟩, 56), (⟨"FireWardsModel", "ruled", "(ZII)I"⟩, 56), (⟨"FireWardsModel", "told", "(IIII)I"⟩, 56), (⟨"FireWardsModel", "value", "(III)I"⟩, 56), (⟨"FireWardsModel", "far", "(II)I"⟩, 56), (⟨"FireWardsModel", "many", "(I)I"⟩, 56), (⟨"FireWardsModel", "aim", "(IIZ)Z"⟩, 56), (⟨"FireWardsModel", "isCompany", "(I)Z"⟩, 56), (⟨"FireWardsModel", "go", "(I)V"⟩, 56), (⟨"FireWardsModel", "isBeside", "(II)Z"⟩, 56), (⟨"FireWardsModel", "reckon", "(I)V"⟩, 56)]
theorem lw_r5 : ∀ q ∈ lw_privs_5, lw_okq q := List.forall_mem_cons.mpr ⟨lw_p64, List.forall_mem_cons.mpr ⟨lw_p65, List.forall_mem_cons.mpr ⟨lw_p66, List.forall_mem_cons.mpr ⟨lw_p67, List.forall_mem_cons.mpr ⟨lw_p68, List.forall_mem_cons.mpr ⟨lw_p69, List.forall_mem_cons.mpr ⟨lw_p70, List.forall_mem_cons.mpr ⟨lw_p71, List.forall_mem_cons.mpr ⟨lw_p72, List.forall_mem_cons.mpr ⟨lw_p73, List.forall_mem_cons.mpr ⟨lw_p74, List.forall_mem_cons.mpr ⟨lw_p75, List.forall_mem_cons.mpr ⟨lw_p76, List.forall_mem_cons.mpr ⟨lw_p77, List.forall_mem_cons.mpr ⟨lw_p78, List.forall_mem_cons.mpr ⟨lw_p79, fun _ h => absurd h List.not_mem_nil⟩⟩⟩⟩⟩⟩⟩⟩⟩⟩⟩⟩⟩⟩⟩⟩
theorem lw_p80 : lw_okq (⟨"FireWardsModel", "isOpen", "(II)Z"⟩, 56) := ⟨⟨by decide +kernel, by decide +kernel⟩, List.mem_of_getElem? (i := 964) (by decide +kernel), List.mem_of_getElem? (i := 1322) (by decide +kernel), List.mem_of_getElem? (i := 1323) (by decide +kernel)⟩
theorem lw_p81 : lw_okq (⟨"FireWardsModel", "beside", "(II)I"⟩, 56) := ⟨⟨by decide +kernel, by decide +kernel⟩, List.mem_of_getElem? (i := 964) (by decide +kernel), List.mem_of_getElem? (i := 1326) (by decide +kernel), List.mem_of_getElem? (i := 1327) (by decide +kernel)⟩
theorem lw_p82 : lw_okq (⟨"FireWardsModel", "roofs", "()V"⟩, 56) := ⟨⟨by decide +kernel, by decide +kernel⟩, List.mem_of_getElem? (i := 964) (by decide +kernel), List.mem_of_getElem? (i := 1330) (by decide +kernel), List.mem_of_getElem? (i := 1331) (by decide +kernel)⟩
theorem lw_p83 : lw_okq (⟨"FireWardsModel", "work", "(I)V"⟩, 56) := ⟨⟨by decide +kernel, by decide +kernel⟩, List.mem_of_getElem? (i := 964) (by decide +kernel), List.mem_of_getElem? (i := 1334) (by decide +kernel), List.mem_of_getElem? (i := 1335) (by decide +kernel)⟩
theorem lw_p84 : lw_okq (⟨"FireWardsModel", "isByWell", "(I)Z"⟩, 56) := ⟨⟨by decide +kernel, by decide +kernel⟩, List.mem_of_getElem? (i := 964) (by decide +kernel), List.mem_of_getElem? (i := 1338) (by decide +kernel), List.mem_of_getElem? (i := 1339) (by decide +kernel)⟩
theorem lw_p85 : lw_okq (⟨"FireWardsModel", "burn", "(I)V"⟩, 56) := ⟨⟨by decide +kernel, by decide +kernel⟩, List.mem_of_getElem? (i := 964) (by decide +kernel), List.mem_of_getElem? (i := 1342) (by decide +kernel), List.mem_of_getElem? (i := 1343) (by decide +kernel)⟩
theorem lw_p86 : lw_okq (⟨"FireWardsModel", "payOf", "(II)I"⟩, 56) := ⟨⟨by decide +kernel, by decide +kernel⟩, List.mem_of_getElem? (i := 964) (by decide +kernel), List.mem_of_getElem? (i := 1346) (by decide +kernel), List.mem_of_getElem? (i := 1347) (by decide +kernel)⟩
theorem lw_p87 : lw_okq (⟨"FireWardsModel", "warm", "()V"⟩, 56) := ⟨⟨by decide +kernel, by decide +kernel⟩, List.mem_of_getElem? (i := 964) (by decide +kernel), List.mem_of_getElem? (i := 1350) (by decide +kernel), List.mem_of_getElem? (i := 1351) (by decide +kernel)⟩
theorem lw_p88 : lw_okq (⟨"FireWardsModel", "isSource", "(I)Z"⟩, 56) := ⟨⟨by decide +kernel, by decide +kernel⟩, List.mem_of_getElem? (i := 964) (by decide +kernel), List.mem_of_getElem? (i := 1367) (by decide +kernel), List.mem_of_getElem? (i := 1368) (by decide +kernel)⟩
theorem lw_p89 : lw_okq (⟨"FireWardsModel", "least", "(I)I"⟩, 56) := ⟨⟨by decide +kernel, by decide +kernel⟩, List.mem_of_getElem? (i := 964) (by decide +kernel), List.mem_of_getElem? (i := 1371) (by decide +kernel), List.mem_of_getElem? (i := 1372) (by decide +kernel)⟩
theorem lw_p90 : lw_okq (⟨"FireWardsModel", "oneMore", "(I)Z"⟩, 56) := ⟨⟨by decide +kernel, by decide +kernel⟩, List.mem_of_getElem? (i := 964) (by decide +kernel), List.mem_of_getElem? (i := 1375) (by decide +kernel), List.mem_of_getElem? (i := 1376) (by decide +kernel)⟩
theorem lw_p91 : lw_okq (⟨"FireWardsModel", "stays", "(I)Z"⟩, 56) := ⟨⟨by decide +kernel, by decide +kernel⟩, List.mem_of_getElem? (i := 964) (by decide +kernel), List.mem_of_getElem? (i := 1379) (by decide +kernel), List.mem_of_getElem? (i := 1380) (by decide +kernel)⟩
theorem lw_p92 : lw_okq (⟨"FireWardsModel", "trace", "(II)V"⟩, 56) := ⟨⟨by decide +kernel, by decide +kernel⟩, List.mem_of_getElem? (i := 964) (by decide +kernel), List.mem_of_getElem? (i := 1383) (by decide +kernel), List.mem_of_getElem? (i := 1384) (by decide +kernel)⟩
def lw_privs_6 : List (MethodName × Nat) := [(⟨"FireWardsModel", "isOpen", "(II)Z"⟩, 56), (⟨"FireWardsModel", "beside", "(II)I"⟩, 56), (⟨"FireWardsModel", "roofs", "()V"⟩, 56), (⟨"FireWardsModel", "work", "(I)V"⟩, 56), (⟨"FireWardsModel", "isByWell", "(I)Z"⟩, 56), (⟨"FireWardsModel", "burn", "(I)V"⟩, 56), (⟨"FireWardsModel", "payOf", "(II)I"⟩, 56), (⟨"FireWardsModel", "warm", "()V"⟩, 56), (⟨"FireWardsModel", "isSource", "(I)Z"⟩, 56), (⟨"FireWardsModel", "least", "(I)I"⟩, 56), (⟨"FireWardsModel", "oneMore", "(I)Z"⟩, 56), (⟨"FireWardsModel", "stays", "(I)Z"⟩, 56), (⟨"FireWardsModel", "trace", "(II)V"⟩, 56)]
theorem lw_r6 : ∀ q ∈ lw_privs_6, lw_okq q := List.forall_mem_cons.mpr ⟨lw_p80, List.forall_mem_cons.mpr ⟨lw_p81, List.forall_mem_cons.mpr ⟨lw_p82, List.forall_mem_cons.mpr ⟨lw_p83, List.forall_mem_cons.mpr ⟨lw_p84, List.forall_mem_cons.mpr ⟨lw_p85, List.forall_mem_cons.mpr ⟨lw_p86, List.forall_mem_cons.mpr ⟨lw_p87, List.forall_mem_cons.mpr ⟨lw_p88, List.forall_mem_cons.mpr ⟨lw_p89, List.forall_mem_cons.mpr ⟨lw_p90, List.forall_mem_cons.mpr ⟨lw_p91, List.forall_mem_cons.mpr ⟨lw_p92, fun _ h => absurd h List.not_mem_nil⟩⟩⟩⟩⟩⟩⟩⟩⟩⟩⟩⟩⟩
def lw_privs : List (MethodName × Nat) := lw_privs_1 ++ (lw_privs_2 ++ (lw_privs_3 ++ (lw_privs_4 ++ (lw_privs_5 ++ (lw_privs_6)))))
def lw_tbl : List Cond := k2_sels lw_privs ++ tables_1
theorem lw_privs_ok : ∀ q ∈ lw_privs, lw_okq q := by
  show ∀ q ∈ lw_privs_1 ++ (lw_privs_2 ++ (lw_privs_3 ++ (lw_privs_4 ++ (lw_privs_5 ++ (lw_privs_6))))), lw_okq q
  exact List.forall_mem_append.mpr ⟨lw_r1, List.forall_mem_append.mpr ⟨lw_r2, List.forall_mem_append.mpr ⟨lw_r3, List.forall_mem_append.mpr ⟨lw_r4, List.forall_mem_append.mpr ⟨lw_r5, lw_r6⟩⟩⟩⟩⟩
-- ===== end of PART A; then your names; then what follows =====
end
section
/-! ===== BEGIN words of one list among another's, by their places ===== -/
theorem goodIn_r {big : List Cond} (ws : List Cond) (ps : List Nat) (hp : ws = ps.filterMap (fun i => big[i]?)) (h : ws.all goodWord = true) : GoodIn big ws := by
  intro w hw
  have h1 := List.all_eq_true.mp h w hw
  rw [hp] at hw
  obtain ⟨i, -, hi⟩ := List.mem_filterMap.mp hw
  have hm : w ∈ big := by first | exact List.mem_of_getElem? hi | exact List.getElem?_mem hi
  exact ⟨hm, good_of_word h1⟩
theorem goodIn_app {big a b : List Cond} (ha : GoodIn big a) (hb : GoodIn big b) : GoodIn big (a ++ b) := fun w h => (List.mem_append.mp h).elim (ha w) (hb w)
theorem goodIn_ca {big a b : List Cond} {c : Cond} (ha : GoodIn big (c :: a)) (hb : GoodIn big b) : GoodIn big (c :: (a ++ b)) := fun w h => (List.mem_cons.mp h).elim (fun e => ha w (List.mem_cons.mpr (Or.inl e))) (fun h => (List.mem_append.mp h).elim (fun h => ha w (List.mem_cons.mpr (Or.inr h))) (hb w))
theorem goodIn_sub {big ws : List Cond} (hm : ∀ w ∈ ws, w ∈ big) (h : ws.all goodWord = true) : GoodIn big ws := fun w hw => ⟨hm w hw, good_of_word (List.all_eq_true.mp h w hw)⟩
/-! ===== END ===== -/

/-! ===== BEGIN exceptions that leave a method, and their catching by the caller (launches without stack traces) ===== -/
section VXA
/-! The laws vx_back, vx_callV, vx_callS, vx_callSW, vx_throw0, vx_throwS follow proofs of the library, with one case more: JvmDerived/Free/Laws.lean (Back.of_free), Shelf42/LK1.lean (callV, callS), Shelf/KitTraced.lean (throwNew0V, throwNewS). -/
/-- where a method has thrown q: the class by its name, the cell, what was written, the world -/
def vx_T (XC : String → State → State → Prop) (st : State) (q : Addr) (t : State) (mc ms : Nat) (free : Addr → Prop) : Prop :=
  ∃ (E : String) (ce : Cell) (L : List Loc), XC E st t ∧ t.heap[q]? = some ce ∧ ce.vm = .none ∧ st.vm.findClass E = some ce.cls ∧ st.WarmedH t.vm ∧ st.sameButNew ({ t with vm := st.vm } : State) L mc ms ∧ ∀ z ∈ L, free z.base
def vx_Q (Qc : Array Value → State → Outcome → State → Prop) (XC : String → State → State → Prop) (mc ms : Nat) (free : Addr → Prop) : Array Value → State → Outcome → State → Prop := fun a st o t =>
  (Qc a st o t ∧ ∃ L, FrameEnd st o t L mc ms ∧ ∀ q ∈ L, free q.base) ∨ ∃ q, o = .threw q ∧ vx_T XC st q t mc ms free
/-- a callee that returns or throws -/
def vx_Met (l : Launch) (y : MethodName) (ws : List Cond) (rm : Room) (Pc : Array Value → State → Prop) (Qc : Array Value → State → Outcome → State → Prop) (XC : String → State → State → Prop) (mc ms : Nat) (free : Addr → Prop) : Prop :=
  MetFree l y (headSpec ws rm) Pc (fun _ _ _ _ _ => True) (vx_Q Qc XC mc ms free)
def vx_Post (XC : String → State → State → Prop) (mc ms : Nat) (free : Addr → Prop) : Pt → Array Value → Addr → Pt → Prop := fun A a q B =>
  ∃ (g : JFrame) (mk : MethodId) (t : State) (L : List Loc) (E : String) (ce : Cell), B.U.heap = t.heap ∧ B.U.vm = t.vm ∧ XC E (A.U.calling g mk a) t ∧ t.heap[q]? = some ce ∧ ce.vm = .none ∧ A.U.vm.findClass E = some ce.cls ∧ B.locs = A.locs ++ L ∧ (∀ z ∈ L, free z.base) ∧ B.cells = A.cells + mc ∧ B.slots = A.slots + ms
def vx_Back (l : Launch) (R : Room) (p : Program) (e : Env) (below : List Frame) (s : State) (sargs : Array Value) (y : MethodName) (len W9 : Nat)
    (Pre : Pt → Array Value → Prop) (Post : Pt → Array Value → Option Value → Pt → Prop) (PostX : Pt → Array Value → Addr → Pt → Prop) : Prop :=
  ∀ (m : MethodId) (meth : Method) (c : Code) (A : Pt) (g : JFrame) (ig : Instr) (mk : MethodId) (a : Array Value),
    Stand p l e R s m sargs below meth c A.U A.locs A.cells A.slots → g.method = m → g.locals.size = c.maxLocals → decode c.code g.pc = .ok (ig, len) →
    2 * g.monitorRoom + (g.stack.map fun v => v.category).sum ≤ W9 → A.U.methodNamed? y = some mk → Pre A a →
    (∃ (v : Option Value) (B : Pt), Stand p l e R s m sargs below meth c B.U B.locs B.cells B.slots ∧ Post A a v B ∧
      Steps p.tables e below (doInvoke e (A.U.setTop g) [] mk a).1 (B.U.setTop { g with pc := g.pc + len, stack := v.toList ++ g.stack })) ∨
    (∃ (q : Addr) (B : Pt), Stand p l e R s m sargs below meth c B.U B.locs B.cells B.slots ∧ PostX A a q B ∧
      Steps p.tables e below (doInvoke e (A.U.setTop g) [] mk a).1 ((B.U.setTop g).pushFrame (.throwing q)))
section Payer
variable {l : Launch} {R : Room} {p : Program} {e : Env} {below : List Frame} {s : State} {sargs : Array Value} {y : MethodName} {len W9 : Nat}
theorem vx_back {ws : List Cond} {rm : Room} {Pc : Array Value → State → Prop} {Qc : Array Value → State → Outcome → State → Prop} {XC : String → State → State → Prop} {mc ms : Nat} {free : Addr → Prop} {bytes : ByteArray} {maxL : Nat} {ret : Option FieldType}
    (hM : vx_Met l y ws rm Pc Qc XC mc ms free) (hblind : FrameBlind Pc) (hrc : rm.cells = mc) (hrs : rm.slots = ms)
    (hframes : rm.frames + 1 ≤ R.frames) (hlocals : W9 + (maxL + 11) + rm.locals ≤ R.locals)
    (hws : ∀ w ∈ ws, ∀ a' U, s.WarmedH U.vm → w.before a' U = true) (hcode : Cond.code y bytes maxL ret ∈ ws) (hinit : ∀ a' U, s.WarmedH U.vm → (Cond.initialized y.cls).before a' U = true) :
    vx_Back l R p e below s sargs y len W9 (PreOf R mc ms Pc) (PostOf Qc mc ms free) (vx_Post XC mc ms free) := by
  intro m meth c A g ig mk a X hg hsize hdg hW hn hp
  have h1 : (headSpec ws rm).pre.before a A.U = true := atoms_intro fun w hw => hws w hw _ _ X.warmed
  have h2 : (Cond.code y bytes maxL ret).before a A.U = true := hws _ hcode _ _ X.warmed
  have h3 : (Cond.initialized y.cls).before a A.U = true := hinit _ _ X.warmed
  have h4 : A.cells + (headSpec ws rm).room.cells ≤ R.cells := by rw [show (headSpec ws rm).room.cells = mc from hrc]; exact hp.1
  have h5 : A.slots + (headSpec ws rm).room.slots ≤ R.slots := by rw [show (headSpec ws rm).room.slots = ms from hrs]; exact hp.2.1
  have hPc : Pc a (A.U.calling g mk a) := hblind _ _ _ _ hp.2.2
  obtain ⟨U, Ls, c0, s0⟩ := A
  dsimp only [Pt.U, Pt.locs, Pt.cells, Pt.slots] at h1 h2 h3 h4 h5 X hn hPc ⊢
  obtain ⟨methY, cY, hmY, hcY, -, hlY, -, -, -, -⟩ := Cond.code_spec hn h2
  obtain ⟨kY, hkY, -⟩ := className_of_methodNamed hn
  have hinitY : kY.init = .initialized := Cond.initialized_spec (findClass_of_methodNamed hn) hkY h3
  have h : At U g.method c below := by rw [hg]; exact X.here
  have hlocals9 : W9 + (maxL + 11) + (headSpec ws rm).room.locals ≤ R.locals := hlocals
  have happ : (headSpec ws rm).appliesLoose y e.platform (U.calling g mk a) = true :=
    Spec.appliesLoose_calling (g := g) h hdg hn hkY hinitY
      (X.room_calling (g := g) (R' := (headSpec ws rm).room) hsize hmY hcY hframes (by rw [hlY]; omega) h4 h5) h1
  obtain ⟨mid, hmid⟩ := h.above
  have hfr : (U.setTop g).frames = (.java g :: mid) ++ below := by rw [State.frames_setTop' g h.top, hmid]; rfl
  obtain ⟨o, s₂, hsteps, -, hend, hq⟩ := Steps.callFree hM p X.admits X.cas X.clock (acts := []) hfr happ hPc trivial
  have hq' : vx_Q Qc XC mc ms free a (U.calling g mk a) o s₂ := hq
  rw [State.frames_setTop' g h.top] at hend
  obtain ⟨g₀, hg0⟩ := Option.isSome_iff_exists.mp h.top
  obtain ⟨r, hr⟩ := State.topJava?_eq_some.mp hg0
  have hr' : (({ U with heap := s₂.heap, slotsUsed := s₂.slotsUsed } : State).setVm s₂.vm).frames = .java g₀ :: r := hr
  rcases hq' with ⟨hqc, L, hfe, hL⟩ | ⟨q, rfl, E, ce, L, hx, hce, hcv, hcl, hW₂, hsm, hL⟩
  · obtain ⟨⟨v, rfl⟩, hW₂, e2, q2, q3, q4, q5, q6⟩ := id hfe
    have e3 : s₂ = ({ (U.calling g mk a).setFrames s₂.frames with heap := s₂.heap, slotsUsed := s₂.slotsUsed } : State).setVm s₂.vm := by
      have : s₂ = ({ s₂ with vm := (U.calling g mk a).vm } : State).setVm s₂.vm := rfl
      rw [e2] at this
      exact this
    obtain ⟨c₂, i₂, len₂, hc₂, hd₂, hf₂⟩ := hend
    have hW' : U.WarmedH s₂.vm := hW₂
    have hcc : c₂ = c := by
      have h1 : s₂.code? g.method = U.code? g.method := by
        rw [State.code?_eq, State.code?_eq, hW'.alike.method?]
      exact Option.some.inj (hc₂.symm.trans (h1.trans h.code))
    subst hcc
    have hlen : len₂ = len := by rw [hdg] at hd₂; cases hd₂; rfl
    subst hlen
    have hs₂ : s₂ = (({ U with heap := s₂.heap, slotsUsed := s₂.slotsUsed } : State).setVm s₂.vm).setTop { g with pc := g.pc + len₂, stack := v.toList ++ g.stack } := by
      refine e3.trans ?_
      rw [hf₂, State.calling_eq h.top, State.setFrames_setFrames, State.setTop_of_frames _ hr', hr]
      rfl
    have hsame : U.sameButNew ({ U with heap := s₂.heap, slotsUsed := s₂.slotsUsed } : State) L mc ms := by
      refine ⟨?_, q2, q3, q4, q5, q6⟩
      obtain ⟨t, ht, -⟩ := State.frames_cons hr
      show ({ U with heap := s₂.heap, slotsUsed := s₂.slotsUsed } : State) = { U.setFrames U.frames with heap := s₂.heap, slotsUsed := s₂.slotsUsed }
      rw [State.setFrames_self ht]
    subst hg
    refine Or.inl ⟨v, ⟨(({ U with heap := s₂.heap, slotsUsed := s₂.slotsUsed } : State).setVm s₂.vm), Ls ++ L, c0 + mc, s0 + ms⟩,
      ⟨X.admits, X.cas, X.clock, X.frames, X.room, X.hears, X.method, X.code, (X.here.setHeapUsed s₂.heap s₂.slotsUsed).setVm hW'.alike, X.tail, State.WarmedH.trans X.warmed hW', X.limits, X.bytes, X.same.trans (hsame.setVm s.vm)⟩,
      ⟨g, mk, s₂, L, rfl, rfl, hqc, rfl, hL, rfl, rfl⟩, ?_⟩
    show Steps p.tables e below _ ((({ U with heap := s₂.heap, slotsUsed := s₂.slotsUsed } : State).setVm s₂.vm).setTop { g with pc := g.pc + len₂, stack := v.toList ++ g.stack })
    rw [← hs₂]
    exact hsteps
  · obtain ⟨e2, q2, q3, q4, q5, q6⟩ := id hsm
    have e3 : s₂ = ({ (U.calling g mk a).setFrames s₂.frames with heap := s₂.heap, slotsUsed := s₂.slotsUsed } : State).setVm s₂.vm := by
      have : s₂ = ({ s₂ with vm := (U.calling g mk a).vm } : State).setVm s₂.vm := rfl
      rw [e2] at this
      exact this
    have hf₂ : s₂.frames = .throwing q :: .java g :: U.frames.tail := hend
    have hW' : U.WarmedH s₂.vm := hW₂
    have hs₂ : s₂ = ((({ U with heap := s₂.heap, slotsUsed := s₂.slotsUsed } : State).setVm s₂.vm).setTop g).pushFrame (.throwing q) := by
      refine e3.trans ?_
      rw [hf₂, State.calling_eq h.top, State.setFrames_setFrames, State.pushFrame, State.frames_setTop _ hr', State.setTop_of_frames _ hr', State.setFrames_setFrames, hr]
      rfl
    have hsame : U.sameButNew ({ U with heap := s₂.heap, slotsUsed := s₂.slotsUsed } : State) L mc ms := by
      refine ⟨?_, q2, q3, q4, q5, q6⟩
      obtain ⟨t, ht, -⟩ := State.frames_cons hr
      show ({ U with heap := s₂.heap, slotsUsed := s₂.slotsUsed } : State) = { U.setFrames U.frames with heap := s₂.heap, slotsUsed := s₂.slotsUsed }
      rw [State.setFrames_self ht]
    subst hg
    refine Or.inr ⟨q, ⟨(({ U with heap := s₂.heap, slotsUsed := s₂.slotsUsed } : State).setVm s₂.vm), Ls ++ L, c0 + mc, s0 + ms⟩,
      ⟨X.admits, X.cas, X.clock, X.frames, X.room, X.hears, X.method, X.code, (X.here.setHeapUsed s₂.heap s₂.slotsUsed).setVm hW'.alike, X.tail, State.WarmedH.trans X.warmed hW', X.limits, X.bytes, X.same.trans (hsame.setVm s.vm)⟩,
      ⟨g, mk, s₂, L, E, ce, rfl, rfl, hx, hce, hcv, hcl, rfl, hL, rfl, rfl⟩, ?_⟩
    show Steps p.tables e below _ (((({ U with heap := s₂.heap, slotsUsed := s₂.slotsUsed } : State).setVm s₂.vm).setTop g).pushFrame (.throwing q))
    rw [← hs₂]
    exact hsteps
end Payer
section Calls
variable {p : Program} {l : Launch} {e : Env} {R : Room} {s : State} {m : MethodId} {args : Array Value} {below : List Frame} {meth : Method} {c : Code} {T : State} {locs : List Loc} {cells slots : Nat}
theorem vx_callV (X : Stand p l e R s m args below meth c T locs cells slots) (hexec : p.tables.exec = Jvm.exec) {own C : String} {index : Nat} {y : MethodName} {bytes : ByteArray} {maxL : Nat} {ret : Option FieldType}
    (hown : s.vm.findClass own = some m.cls) (hlink : (Cond.methodLink own index y).before args s = true) (hinst : (Cond.instanceMethod y).before args s = true) (hsel : (Cond.selects C y y).before args s = true)
    (hcode : (Cond.code y bytes maxL ret).before args s = true) (hy : y.cls ≠ "java/lang/invoke/MethodHandle" ∧ y.cls ≠ "java/lang/invoke/VarHandle")
    {W9 : Nat} {Pre : Pt → Array Value → Prop} {Post : Pt → Array Value → Option Value → Pt → Prop} {PostX : Pt → Array Value → Addr → Pt → Prop} (hK : vx_Back l R p e below s args y 3 W9 Pre Post PostX)
    {b : Addr} {cellB : Cell} (hcell : T.heap[b]? = some cellB) (hobj : cellB.vm.isStatics = false) (hcls : s.vm.findClass C = some cellB.cls)
    {g : JFrame} (hg : g.method = m) (hsize : g.locals.size = c.maxLocals) {argsL rest : List Value} (hlen : ∀ sig, parseMethodDescriptor y.desc = some sig → argsL.length = sig.parameters.length)
    (hstack : g.stack = argsL.reverse ++ .ref b :: rest) (hW : 2 * g.monitorRoom + (rest.map fun v => v.category).sum ≤ W9) (hdg : decode c.code g.pc = .ok (.invokevirtual index, 3))
    (hpre : ∀ vm₁, s.WarmedH vm₁ → Pre ⟨T.setVm vm₁, locs, cells, slots⟩ (Value.ref b :: argsL).toArray) :
    (∃ (v : Option Value) (vm₁ : Vm) (B : Pt), s.WarmedH vm₁ ∧ Stand p l e R s m args below meth c B.U B.locs B.cells B.slots ∧ Post ⟨T.setVm vm₁, locs, cells, slots⟩ (Value.ref b :: argsL).toArray v B ∧
      ∀ target, Steps p.tables e below (B.U.setTop { g with pc := g.pc + 3, stack := v.toList ++ rest }) target → Steps p.tables e below (T.setTop g) target) ∨
    (∃ (q : Addr) (vm₁ : Vm) (B : Pt), s.WarmedH vm₁ ∧ Stand p l e R s m args below meth c B.U B.locs B.cells B.slots ∧ PostX ⟨T.setVm vm₁, locs, cells, slots⟩ (Value.ref b :: argsL).toArray q B ∧
      Steps p.tables e below (T.setTop g) ((B.U.setTop { g with stack := rest }).pushFrame (.throwing q))) := by
  obtain ⟨mk, methM, hnamed, hmethM, hstM, habM⟩ := Cond.instanceMethod_spec hinst
  obtain ⟨methM', cM, hmethM', -, -, -, -, -, -, hsigM⟩ := Cond.code_spec hnamed hcode
  cases hmethM.symm.trans hmethM'
  obtain ⟨c2, r2, m2, q1, q2, q3, q4, kP, hkP, hkPi⟩ := Cond.selects_spec hsel
  cases hcls.symm.trans q1
  cases (State.methodFound?_of_named hnamed hy).symm.trans q2
  cases hnamed.symm.trans q3
  have hselP : selectMethod e.platform s.vm cellB.cls mk = .method mk := by rw [Launch.admits_selectMethod X.admits]; exact q4
  obtain ⟨vm₁, X₁, hstep₁⟩ := X.invokevirtual hexec hown hlink hnamed hmethM hstM hkP hkPi hy (a := b) (cell := cellB) hcell
    (fun z h => by rw [h] at hobj; cases hobj) hselP hmethM habM hkP hkPi (g := g) hg (argsL := argsL) (rest := rest) (hlen _ hsigM) hstack hdg
  rcases hK m meth c ⟨T.setVm vm₁, locs, cells, slots⟩ { g with stack := rest } (.invokevirtual index) mk (Value.ref b :: argsL).toArray X₁ hg hsize hdg hW (X₁.named hnamed) (hpre vm₁ X₁.warmed) with ⟨v, B, X', hpost, hsteps⟩ | ⟨q, B, X', hpost, hsteps⟩
  · exact Or.inl ⟨v, vm₁, B, X₁.warmed, X', hpost, fun target h => hstep₁ _ fun acts => by rw [doInvoke_state]; exact hsteps.trans h⟩
  · exact Or.inr ⟨q, vm₁, B, X₁.warmed, X', hpost, hstep₁ _ fun acts => by rw [doInvoke_state]; exact hsteps⟩
theorem vx_callS (X : Stand p l e R s m args below meth c T locs cells slots) (hexec : p.tables.exec = Jvm.exec) {own : String} {index : Nat} {y : MethodName} {bytes : ByteArray} {maxL : Nat} {ret : Option FieldType}
    (hown : s.vm.findClass own = some m.cls) (hlink : (Cond.methodLink own index y).before args s = true) (hstat : (Cond.static y).before args s = true) (hinit : (Cond.initialized y.cls).before args s = true)
    (hcode : (Cond.code y bytes maxL ret).before args s = true) (hy : y.cls ≠ "java/lang/invoke/MethodHandle" ∧ y.cls ≠ "java/lang/invoke/VarHandle")
    {W9 : Nat} {Pre : Pt → Array Value → Prop} {Post : Pt → Array Value → Option Value → Pt → Prop} {PostX : Pt → Array Value → Addr → Pt → Prop} (hK : vx_Back l R p e below s args y 3 W9 Pre Post PostX)
    {g : JFrame} (hg : g.method = m) (hsize : g.locals.size = c.maxLocals) {argsL rest : List Value} (hlen : ∀ sig, parseMethodDescriptor y.desc = some sig → argsL.length = sig.parameters.length)
    (hstack : g.stack = argsL.reverse ++ rest) (hW : 2 * g.monitorRoom + (rest.map fun v => v.category).sum ≤ W9) (hdg : decode c.code g.pc = .ok (.invokestatic index, 3))
    (hpre : ∀ vm₁, s.WarmedH vm₁ → Pre ⟨T.setVm vm₁, locs, cells, slots⟩ argsL.toArray) :
    (∃ (v : Option Value) (vm₁ : Vm) (B : Pt), s.WarmedH vm₁ ∧ Stand p l e R s m args below meth c B.U B.locs B.cells B.slots ∧ Post ⟨T.setVm vm₁, locs, cells, slots⟩ argsL.toArray v B ∧
      ∀ target, Steps p.tables e below (B.U.setTop { g with pc := g.pc + 3, stack := v.toList ++ rest }) target → Steps p.tables e below (T.setTop g) target) ∨
    (∃ (q : Addr) (vm₁ : Vm) (B : Pt), s.WarmedH vm₁ ∧ Stand p l e R s m args below meth c B.U B.locs B.cells B.slots ∧ PostX ⟨T.setVm vm₁, locs, cells, slots⟩ argsL.toArray q B ∧
      Steps p.tables e below (T.setTop g) ((B.U.setTop { g with stack := rest }).pushFrame (.throwing q))) := by
  obtain ⟨mk, hnamed⟩ := Cond.code_named hcode
  obtain ⟨methM, cM, hmethM, -, -, -, -, -, -, hsigM⟩ := Cond.code_spec hnamed hcode
  have hstatic : methM.isStatic = true := Cond.static_spec hnamed hmethM hstat
  obtain ⟨kP, hkP, -⟩ := className_of_methodNamed hnamed
  have hinitP : kP.init = .initialized := Cond.initialized_spec (findClass_of_methodNamed hnamed) hkP hinit
  obtain ⟨vm₁, X₁, hstep₁⟩ := X.invokestatic hexec hown hlink hnamed hmethM hstatic hkP hinitP hy (g := g) hg (argsL := argsL) (rest := rest) (hlen _ hsigM) hstack hdg
  rcases hK m meth c ⟨T.setVm vm₁, locs, cells, slots⟩ { g with stack := rest } (.invokestatic index) mk argsL.toArray X₁ hg hsize hdg hW (X₁.named hnamed) (hpre vm₁ X₁.warmed) with ⟨v, B, X', hpost, hsteps⟩ | ⟨q, B, X', hpost, hsteps⟩
  · exact Or.inl ⟨v, vm₁, B, X₁.warmed, X', hpost, fun target h => hstep₁ _ fun acts => by rw [doInvoke_state]; exact hsteps.trans h⟩
  · exact Or.inr ⟨q, vm₁, B, X₁.warmed, X', hpost, hstep₁ _ fun acts => by rw [doInvoke_state]; exact hsteps⟩
end Calls
theorem vx_cls {s : State} {T : State} {vm₁ : Vm} {E : String} {k : ClassId} (hW : s.WarmedH vm₁) (h : (T.setVm vm₁).vm.findClass E = some k) : s.vm.findClass E = some k := by
  have h1 : vm₁.findClass E = some k := h
  rw [hW.alike.findClass] at h1
  exact h1
/-- the method's frame g, with q thrown over it -/
def vx_W (p : Program) (l : Launch) (e : Env) (R : Room) (s : State) (m : MethodId) (args : Array Value) (below : List Frame) (meth : Method) (c : Code) (H : Heap) (locs : List Loc) (cells slots : Nat) (Q : State → Prop) (g : JFrame) (q : Addr) : Prop :=
  ∀ T : State, T.heap = H → Stand p l e R s m args below meth c T locs cells slots → ∃ t, Steps p.tables e below ((T.setTop g).pushFrame (.throwing q)) t ∧ Q t
def vx_Run (p : Program) (l : Launch) (e : Env) (R : Room) (s : State) (m : MethodId) (args : Array Value) (below : List Frame) (meth : Method) (c : Code) (H : Heap) (locs : List Loc) (cells slots mc ms : Nat) (g : JFrame) (rest : List Value) (Qa : State → Outcome → State → Prop) (XC : String → State → State → Prop) (free : Addr → Prop) : Prop :=
  ∀ T : State, T.heap = H → Stand p l e R s m args below meth c T locs cells slots →
    (∃ (v : Option Value) (st₀ t T' : State) (L : List Loc), st₀.heap = H ∧ Stand p l e R s m args below meth c T' (locs ++ L) (cells + mc) (slots + ms) ∧ (∀ q ∈ L, free q.base) ∧ T'.heap = t.heap ∧ T'.vm = t.vm ∧ Qa st₀ (.returned v) t ∧
      Goes p e below T g T' { g with pc := g.pc + 3, stack := v.toList ++ rest }) ∨
    (∃ (q : Addr) (st₀ t T' : State) (L : List Loc) (E : String) (ce : Cell), st₀.heap = H ∧ Stand p l e R s m args below meth c T' (locs ++ L) (cells + mc) (slots + ms) ∧ (∀ z ∈ L, free z.base) ∧ T'.heap = t.heap ∧ T'.vm = t.vm ∧ XC E st₀ t ∧ t.heap[q]? = some ce ∧ ce.vm = .none ∧ s.vm.findClass E = some ce.cls ∧
      Steps p.tables e below (T.setTop g) ((T'.setTop { g with stack := rest }).pushFrame (.throwing q)))
def vx_X {S : Type} (px : S → Prop) (B : String → S → State → Prop) (A : Nat → Prop) : String → State → State → Prop := fun E st t => ∃ u : S, px u ∧ B E u t ∧ va_F A st t
section Runs
variable {p : Program} {l : Launch} {e : Env} {R : Room} {s : State} {m : MethodId} {args : Array Value} {below : List Frame} {meth : Method} {c : Code} {H : Heap} {locs : List Loc} {cells slots : Nat}
variable {y : MethodName} {bytes cc : ByteArray} {maxL nL mc ms n index : Nat} {ret : Option FieldType} {ws : List Cond} {rm : Room} {Pc : Array Value → State → Prop} {Qc : Array Value → State → Outcome → State → Prop} {XC : String → State → State → Prop} {free : Addr → Prop} {Ts : List Cond} {own C : String} {b : Addr} {As rest : List Value} {g : JFrame}
theorem vx_callBack (cb : CallB R s args own index y bytes maxL ret ws rm mc ms n) (hM : vx_Met l y ws rm Pc Qc XC mc ms free) (hbl : FrameBlind Pc) : vx_Back l R p e below s args y 3 8 (PreOf R mc ms Pc) (PostOf Qc mc ms free) (vx_Post XC mc ms free) := by
  obtain ⟨hrc, hrs, hfr, hlo, hws, hcw, -, hini, -⟩ := cb
  exact vx_back (bytes := bytes) (maxL := maxL) (ret := ret) hM hbl hrc hrs hfr hlo hws hcw (fun a' U hW => word_at hW (Or.inl (by first | rfl | simp [Cond.onTables, Cond.keeps, Cond.steady])) hini)
theorem vx_runV (S : CallFix p m c cc nL s args Ts own) (hM : vx_Met l y ws rm Pc Qc XC mc ms free) (cw : CallW R s args own C index y bytes maxL ret ws rm mc ms n) (hp : PreV s H C b Pc As)
    (hg : g.method = m) (hn : As.length = n) (hsize : g.locals.size = nL) (hstack : g.stack = As.reverse ++ .ref b :: rest) (hW : 2 * g.monitorRoom + (rest.map fun v => v.category).sum ≤ 8) (hdg : decode cc g.pc = .ok (.invokevirtual index, 3)) (hf : cells + mc ≤ R.cells ∧ slots + ms ≤ R.slots) :
    vx_Run p l e R s m args below meth c H locs cells slots mc ms g rest (Qc (Value.ref b :: As).toArray) XC free := by
  have hK : vx_Back l R p e below s args y 3 8 (PreOf R mc ms Pc) (PostOf Qc mc ms free) (vx_Post XC mc ms free) := vx_callBack cw.1 hM hp.1
  obtain ⟨⟨-, -, -, -, -, -, hcode, -, hy, hlen, hl⟩, hin, hse⟩ := cw
  obtain ⟨hx, hb, hml, ho, -⟩ := S
  obtain ⟨-, ⟨cellB, hcB, hoB, hclB⟩, hPc⟩ := hp
  intro T hT X
  rcases vx_callV X hx (C := C) (bytes := bytes) (maxL := maxL) (ret := ret) ho hl hin hse hcode hy hK (by rw [hT]; exact hcB) hoB hclB hg (hsize.trans hml.symm) (argsL := As) (rest := rest) (fun sig h => hn.trans (hlen sig h)) hstack hW (by rw [hb]; exact hdg)
    (fun vm₁ hW₁ => ⟨hf.1, hf.2, hPc (T.setVm vm₁) hT hW₁⟩) with ⟨v, vm₁, ⟨U', l2, c2, s2⟩, hW₁, X', ⟨g', mk, t, L, e1, e2, hq, h1, hL, h2, h3⟩, st⟩ | ⟨q, vm₁, ⟨U', l2, c2, s2⟩, hW₁, X', ⟨g', mk, t, L, E, ce, e1, e2, hq, hce, hcv, hcl, h1, hL, h2, h3⟩, st⟩
  · dsimp only [Pt.U, Pt.locs, Pt.cells, Pt.slots] at X' e1 e2 h1 h2 h3 st
    subst h1; subst h2; subst h3
    exact Or.inl ⟨v, (T.setVm vm₁).calling g' mk (Value.ref b :: As).toArray, t, U', L, hT, X', hL, e1, e2, hq, st⟩
  · dsimp only [Pt.U, Pt.locs, Pt.cells, Pt.slots] at X' e1 e2 h1 h2 h3 st hcl
    subst h1; subst h2; subst h3
    exact Or.inr ⟨q, (T.setVm vm₁).calling g' mk (Value.ref b :: As).toArray, t, U', L, E, ce, hT, X', hL, e1, e2, hq, hce, hcv, vx_cls hW₁ hcl, st⟩
theorem vx_runS (S : CallFix p m c cc nL s args Ts own) (hM : vx_Met l y ws rm Pc Qc XC mc ms free) (cw : CallB R s args own index y bytes maxL ret ws rm mc ms n ∧ (Cond.static y).before args s = true) (hp : PreS s H Pc As)
    (hg : g.method = m) (hn : As.length = n) (hsize : g.locals.size = nL) (hstack : g.stack = As.reverse ++ rest) (hW : 2 * g.monitorRoom + (rest.map fun v => v.category).sum ≤ 8) (hdg : decode cc g.pc = .ok (.invokestatic index, 3)) (hf : cells + mc ≤ R.cells ∧ slots + ms ≤ R.slots) :
    vx_Run p l e R s m args below meth c H locs cells slots mc ms g rest (Qc As.toArray) XC free := by
  have hK : vx_Back l R p e below s args y 3 8 (PreOf R mc ms Pc) (PostOf Qc mc ms free) (vx_Post XC mc ms free) := vx_callBack cw.1 hM hp.1
  obtain ⟨⟨-, -, -, -, -, -, hcode, hini, hy, hlen, hl⟩, hstt⟩ := cw
  obtain ⟨hx, hb, hml, ho, -⟩ := S
  intro T hT X
  rcases vx_callS X hx (bytes := bytes) (maxL := maxL) (ret := ret) ho hl hstt hini hcode hy hK hg (hsize.trans hml.symm) (argsL := As) (rest := rest) (fun sig h => hn.trans (hlen sig h)) hstack hW (by rw [hb]; exact hdg)
    (fun vm₁ hW₁ => ⟨hf.1, hf.2, hp.2 (T.setVm vm₁) hT hW₁⟩) with ⟨v, vm₁, ⟨U', l2, c2, s2⟩, hW₁, X', ⟨g', mk, t, L, e1, e2, hq, h1, hL, h2, h3⟩, st⟩ | ⟨q, vm₁, ⟨U', l2, c2, s2⟩, hW₁, X', ⟨g', mk, t, L, E, ce, e1, e2, hq, hce, hcv, hcl, h1, hL, h2, h3⟩, st⟩
  · dsimp only [Pt.U, Pt.locs, Pt.cells, Pt.slots] at X' e1 e2 h1 h2 h3 st
    subst h1; subst h2; subst h3
    exact Or.inl ⟨v, (T.setVm vm₁).calling g' mk As.toArray, t, U', L, hT, X', hL, e1, e2, hq, st⟩
  · dsimp only [Pt.U, Pt.locs, Pt.cells, Pt.slots] at X' e1 e2 h1 h2 h3 st hcl
    subst h1; subst h2; subst h3
    exact Or.inr ⟨q, (T.setVm vm₁).calling g' mk As.toArray, t, U', L, E, ce, hT, X', hL, e1, e2, hq, hce, hcv, vx_cls hW₁ hcl, st⟩
end Runs
section Rows
variable {p : Program} {l : Launch} {e : Env} {R : Room} {s : State} {m : MethodId} {args : Array Value} {below : List Frame} {meth : Method} {c : Code} {H : Heap} {locs : List Loc} {cells slots : Nat} {Q : State → Prop}
variable {mc ms : Nat} {free : Addr → Prop} {A0 A1 : Nat → Prop} {H0 : Heap} {a : Array Value} {pc : Nat} {ls : Array Slot} {st0 rest : List Value}
theorem vx_keep {st₀ t T' : State} {L : List Loc} (h0 : st₀.heap = H) (e1 : T'.heap = t.heap) (hS : va_S A0 H0 H locs) (hA : ∀ q, q < H.size → A1 q → A0 q) (hf : ∀ q, free q → A0 q) (hL : ∀ q ∈ L, free q.base) (hF : va_F A1 st₀ t) :
    H.size ≤ T'.heap.size ∧ (∀ q : Nat, q < H.size → ¬ A1 q → T'.heap[q]? = H[q]?) ∧ va_S A0 H0 T'.heap (locs ++ L) := by
  obtain ⟨hz, hk⟩ := hF
  rw [h0] at hz hk
  exact ⟨by rw [e1]; exact hz, fun q h1 h2 => by rw [e1]; exact hk q h1 h2,
    ⟨Nat.le_trans hS.1 (by rw [e1]; exact hz), fun q h1 h2 => by rw [e1, hk q (Nat.lt_of_lt_of_le h1 hS.1) (fun z => h2 (hA q (Nat.lt_of_lt_of_le h1 hS.1) z))]; exact hS.2.1 q h1 h2, fun q hq => by
      rcases List.mem_append.mp hq with h | h
      · exact hS.2.2 q h
      · exact hf _ (hL q h)⟩⟩
theorem vx_calli {S SX : Type} {post : Int32 → S → Prop} {px : SX → Prop} {B : S → State → Prop} {BX : String → SX → State → Prop} {AX : Nat → Prop} (hr : vx_Run p l e R s m args below meth c H locs cells slots mc ms (F0 m pc ls st0) rest (va_Qi post B A1 a) (vx_X px BX AX) free) (hS : va_S A0 H0 H locs) (hA : ∀ q, q < H.size → A1 q → A0 q) (hf : ∀ q, free q → A0 q) (hAX : ∀ q, q < H.size → AX q → A0 q)
    (kx : ∀ (E : String) (ce : Cell) (q9 : Addr) (u : SX) (t : State) (H1 : Heap) (locs1 : List Loc), t.heap = H1 → s.vm.Alike t.vm → px u → BX E u t → H.size ≤ H1.size → (∀ q : Nat, q < H.size → ¬ AX q → H1[q]? = H[q]?) → va_S A0 H0 H1 locs1 → H1[q9]? = some ce → ce.vm = .none → s.vm.findClass E = some ce.cls → vx_W p l e R s m args below meth c H1 locs1 (cells + mc) (slots + ms) Q (F0 m pc ls rest) q9)
    (kk : ∀ (r : Int32) (u : S) (t : State) (H1 : Heap) (locs1 : List Loc), t.heap = H1 → s.vm.Alike t.vm → post r u → B u t → H.size ≤ H1.size → (∀ q : Nat, q < H.size → ¬ A1 q → H1[q]? = H[q]?) → va_S A0 H0 H1 locs1 → W p l e R s m args below meth c H1 locs1 (cells + mc) (slots + ms) Q (F0 m (pc + 3) ls (.int r :: rest))) : W p l e R s m args below meth c H locs cells slots Q (F0 m pc ls st0) := by
  intro T hT X
  rcases hr T hT X with ⟨v, st₀, t, T', L, h0, X', hL, e1, e2, ⟨⟨r, u, hv, hp, hb⟩, hF⟩, st⟩ | ⟨q, st₀, t, T', L, E, ce, h0, X', hL, e1, e2, ⟨u, hp, hb, hF⟩, hce, hcv, hcl, st⟩
  · cases hv
    obtain ⟨k1, k2, k3⟩ := vx_keep h0 e1 hS hA hf hL hF
    obtain ⟨t2, a1, b1⟩ := kk r u t T'.heap (locs ++ L) e1.symm (by rw [← e2]; exact X'.warmed.alike) hp hb k1 k2 k3 T' rfl X'
    exact ⟨t2, st t2 a1, b1⟩
  · obtain ⟨k1, k2, k3⟩ := vx_keep h0 e1 hS hAX hf hL hF
    obtain ⟨t2, a1, b1⟩ := kx E ce q u t T'.heap (locs ++ L) e1.symm (by rw [← e2]; exact X'.warmed.alike) hp hb k1 k2 k3 (by rw [e1]; exact hce) hcv hcl T' rfl X'
    exact ⟨t2, st.trans a1, b1⟩
theorem vx_calll {S SX : Type} {post : Int64 → S → Prop} {px : SX → Prop} {B : S → State → Prop} {BX : String → SX → State → Prop} {AX : Nat → Prop} (hr : vx_Run p l e R s m args below meth c H locs cells slots mc ms (F0 m pc ls st0) rest (va_Ql post B A1 a) (vx_X px BX AX) free) (hS : va_S A0 H0 H locs) (hA : ∀ q, q < H.size → A1 q → A0 q) (hf : ∀ q, free q → A0 q) (hAX : ∀ q, q < H.size → AX q → A0 q)
    (kx : ∀ (E : String) (ce : Cell) (q9 : Addr) (u : SX) (t : State) (H1 : Heap) (locs1 : List Loc), t.heap = H1 → s.vm.Alike t.vm → px u → BX E u t → H.size ≤ H1.size → (∀ q : Nat, q < H.size → ¬ AX q → H1[q]? = H[q]?) → va_S A0 H0 H1 locs1 → H1[q9]? = some ce → ce.vm = .none → s.vm.findClass E = some ce.cls → vx_W p l e R s m args below meth c H1 locs1 (cells + mc) (slots + ms) Q (F0 m pc ls rest) q9)
    (kk : ∀ (r : Int64) (u : S) (t : State) (H1 : Heap) (locs1 : List Loc), t.heap = H1 → s.vm.Alike t.vm → post r u → B u t → H.size ≤ H1.size → (∀ q : Nat, q < H.size → ¬ A1 q → H1[q]? = H[q]?) → va_S A0 H0 H1 locs1 → W p l e R s m args below meth c H1 locs1 (cells + mc) (slots + ms) Q (F0 m (pc + 3) ls (.long r :: rest))) : W p l e R s m args below meth c H locs cells slots Q (F0 m pc ls st0) := by
  intro T hT X
  rcases hr T hT X with ⟨v, st₀, t, T', L, h0, X', hL, e1, e2, ⟨⟨r, u, hv, hp, hb⟩, hF⟩, st⟩ | ⟨q, st₀, t, T', L, E, ce, h0, X', hL, e1, e2, ⟨u, hp, hb, hF⟩, hce, hcv, hcl, st⟩
  · cases hv
    obtain ⟨k1, k2, k3⟩ := vx_keep h0 e1 hS hA hf hL hF
    obtain ⟨t2, a1, b1⟩ := kk r u t T'.heap (locs ++ L) e1.symm (by rw [← e2]; exact X'.warmed.alike) hp hb k1 k2 k3 T' rfl X'
    exact ⟨t2, st t2 a1, b1⟩
  · obtain ⟨k1, k2, k3⟩ := vx_keep h0 e1 hS hAX hf hL hF
    obtain ⟨t2, a1, b1⟩ := kx E ce q u t T'.heap (locs ++ L) e1.symm (by rw [← e2]; exact X'.warmed.alike) hp hb k1 k2 k3 (by rw [e1]; exact hce) hcv hcl T' rfl X'
    exact ⟨t2, st.trans a1, b1⟩
theorem vx_callf {S SX : Type} {post : UInt32 → S → Prop} {px : SX → Prop} {B : S → State → Prop} {BX : String → SX → State → Prop} {AX : Nat → Prop} (hr : vx_Run p l e R s m args below meth c H locs cells slots mc ms (F0 m pc ls st0) rest (va_Qf post B A1 a) (vx_X px BX AX) free) (hS : va_S A0 H0 H locs) (hA : ∀ q, q < H.size → A1 q → A0 q) (hf : ∀ q, free q → A0 q) (hAX : ∀ q, q < H.size → AX q → A0 q)
    (kx : ∀ (E : String) (ce : Cell) (q9 : Addr) (u : SX) (t : State) (H1 : Heap) (locs1 : List Loc), t.heap = H1 → s.vm.Alike t.vm → px u → BX E u t → H.size ≤ H1.size → (∀ q : Nat, q < H.size → ¬ AX q → H1[q]? = H[q]?) → va_S A0 H0 H1 locs1 → H1[q9]? = some ce → ce.vm = .none → s.vm.findClass E = some ce.cls → vx_W p l e R s m args below meth c H1 locs1 (cells + mc) (slots + ms) Q (F0 m pc ls rest) q9)
    (kk : ∀ (r : UInt32) (u : S) (t : State) (H1 : Heap) (locs1 : List Loc), t.heap = H1 → s.vm.Alike t.vm → post r u → B u t → H.size ≤ H1.size → (∀ q : Nat, q < H.size → ¬ A1 q → H1[q]? = H[q]?) → va_S A0 H0 H1 locs1 → W p l e R s m args below meth c H1 locs1 (cells + mc) (slots + ms) Q (F0 m (pc + 3) ls (.float r :: rest))) : W p l e R s m args below meth c H locs cells slots Q (F0 m pc ls st0) := by
  intro T hT X
  rcases hr T hT X with ⟨v, st₀, t, T', L, h0, X', hL, e1, e2, ⟨⟨r, u, hv, hp, hb⟩, hF⟩, st⟩ | ⟨q, st₀, t, T', L, E, ce, h0, X', hL, e1, e2, ⟨u, hp, hb, hF⟩, hce, hcv, hcl, st⟩
  · cases hv
    obtain ⟨k1, k2, k3⟩ := vx_keep h0 e1 hS hA hf hL hF
    obtain ⟨t2, a1, b1⟩ := kk r u t T'.heap (locs ++ L) e1.symm (by rw [← e2]; exact X'.warmed.alike) hp hb k1 k2 k3 T' rfl X'
    exact ⟨t2, st t2 a1, b1⟩
  · obtain ⟨k1, k2, k3⟩ := vx_keep h0 e1 hS hAX hf hL hF
    obtain ⟨t2, a1, b1⟩ := kx E ce q u t T'.heap (locs ++ L) e1.symm (by rw [← e2]; exact X'.warmed.alike) hp hb k1 k2 k3 (by rw [e1]; exact hce) hcv hcl T' rfl X'
    exact ⟨t2, st.trans a1, b1⟩
theorem vx_calld {S SX : Type} {post : UInt64 → S → Prop} {px : SX → Prop} {B : S → State → Prop} {BX : String → SX → State → Prop} {AX : Nat → Prop} (hr : vx_Run p l e R s m args below meth c H locs cells slots mc ms (F0 m pc ls st0) rest (va_Qd post B A1 a) (vx_X px BX AX) free) (hS : va_S A0 H0 H locs) (hA : ∀ q, q < H.size → A1 q → A0 q) (hf : ∀ q, free q → A0 q) (hAX : ∀ q, q < H.size → AX q → A0 q)
    (kx : ∀ (E : String) (ce : Cell) (q9 : Addr) (u : SX) (t : State) (H1 : Heap) (locs1 : List Loc), t.heap = H1 → s.vm.Alike t.vm → px u → BX E u t → H.size ≤ H1.size → (∀ q : Nat, q < H.size → ¬ AX q → H1[q]? = H[q]?) → va_S A0 H0 H1 locs1 → H1[q9]? = some ce → ce.vm = .none → s.vm.findClass E = some ce.cls → vx_W p l e R s m args below meth c H1 locs1 (cells + mc) (slots + ms) Q (F0 m pc ls rest) q9)
    (kk : ∀ (r : UInt64) (u : S) (t : State) (H1 : Heap) (locs1 : List Loc), t.heap = H1 → s.vm.Alike t.vm → post r u → B u t → H.size ≤ H1.size → (∀ q : Nat, q < H.size → ¬ A1 q → H1[q]? = H[q]?) → va_S A0 H0 H1 locs1 → W p l e R s m args below meth c H1 locs1 (cells + mc) (slots + ms) Q (F0 m (pc + 3) ls (.double r :: rest))) : W p l e R s m args below meth c H locs cells slots Q (F0 m pc ls st0) := by
  intro T hT X
  rcases hr T hT X with ⟨v, st₀, t, T', L, h0, X', hL, e1, e2, ⟨⟨r, u, hv, hp, hb⟩, hF⟩, st⟩ | ⟨q, st₀, t, T', L, E, ce, h0, X', hL, e1, e2, ⟨u, hp, hb, hF⟩, hce, hcv, hcl, st⟩
  · cases hv
    obtain ⟨k1, k2, k3⟩ := vx_keep h0 e1 hS hA hf hL hF
    obtain ⟨t2, a1, b1⟩ := kk r u t T'.heap (locs ++ L) e1.symm (by rw [← e2]; exact X'.warmed.alike) hp hb k1 k2 k3 T' rfl X'
    exact ⟨t2, st t2 a1, b1⟩
  · obtain ⟨k1, k2, k3⟩ := vx_keep h0 e1 hS hAX hf hL hF
    obtain ⟨t2, a1, b1⟩ := kx E ce q u t T'.heap (locs ++ L) e1.symm (by rw [← e2]; exact X'.warmed.alike) hp hb k1 k2 k3 (by rw [e1]; exact hce) hcv hcl T' rfl X'
    exact ⟨t2, st.trans a1, b1⟩
theorem vx_callv {S SX : Type} {post : S → Prop} {px : SX → Prop} {B : S → State → Prop} {BX : String → SX → State → Prop} {AX : Nat → Prop} (hr : vx_Run p l e R s m args below meth c H locs cells slots mc ms (F0 m pc ls st0) rest (va_Qv post B A1 a) (vx_X px BX AX) free) (hS : va_S A0 H0 H locs) (hA : ∀ q, q < H.size → A1 q → A0 q) (hf : ∀ q, free q → A0 q) (hAX : ∀ q, q < H.size → AX q → A0 q)
    (kx : ∀ (E : String) (ce : Cell) (q9 : Addr) (u : SX) (t : State) (H1 : Heap) (locs1 : List Loc), t.heap = H1 → s.vm.Alike t.vm → px u → BX E u t → H.size ≤ H1.size → (∀ q : Nat, q < H.size → ¬ AX q → H1[q]? = H[q]?) → va_S A0 H0 H1 locs1 → H1[q9]? = some ce → ce.vm = .none → s.vm.findClass E = some ce.cls → vx_W p l e R s m args below meth c H1 locs1 (cells + mc) (slots + ms) Q (F0 m pc ls rest) q9)
    (kk : ∀ (u : S) (t : State) (H1 : Heap) (locs1 : List Loc), t.heap = H1 → s.vm.Alike t.vm → post u → B u t → H.size ≤ H1.size → (∀ q : Nat, q < H.size → ¬ A1 q → H1[q]? = H[q]?) → va_S A0 H0 H1 locs1 → W p l e R s m args below meth c H1 locs1 (cells + mc) (slots + ms) Q (F0 m (pc + 3) ls (rest))) : W p l e R s m args below meth c H locs cells slots Q (F0 m pc ls st0) := by
  intro T hT X
  rcases hr T hT X with ⟨v, st₀, t, T', L, h0, X', hL, e1, e2, ⟨⟨u, hv, hp, hb⟩, hF⟩, st⟩ | ⟨q, st₀, t, T', L, E, ce, h0, X', hL, e1, e2, ⟨u, hp, hb, hF⟩, hce, hcv, hcl, st⟩
  · cases hv
    obtain ⟨k1, k2, k3⟩ := vx_keep h0 e1 hS hA hf hL hF
    obtain ⟨t2, a1, b1⟩ := kk u t T'.heap (locs ++ L) e1.symm (by rw [← e2]; exact X'.warmed.alike) hp hb k1 k2 k3 T' rfl X'
    exact ⟨t2, st t2 a1, b1⟩
  · obtain ⟨k1, k2, k3⟩ := vx_keep h0 e1 hS hAX hf hL hF
    obtain ⟨t2, a1, b1⟩ := kx E ce q u t T'.heap (locs ++ L) e1.symm (by rw [← e2]; exact X'.warmed.alike) hp hb k1 k2 k3 (by rw [e1]; exact hce) hcv hcl T' rfl X'
    exact ⟨t2, st.trans a1, b1⟩
/-- caught by the row x of this method's table; the rows ahead don't take it -/
theorem vx_catch {own name : String} {E : String} {ce : Cell} {q : Addr} (hown : s.vm.findClass own = some m.cls) (pre : List ExceptionTableEntry) (x : ExceptionTableEntry) (suf : List ExceptionTableEntry) (hsplit : c.exceptionTable.toList = pre ++ x :: suf)
    (hpass : ∀ z ∈ pre, covers z pc = false ∨ (z.catchType ≠ 0 ∧ ∃ nm : String, (Cond.classLink own z.catchType nm).before args s = true ∧ va_Nc E nm s)) (hx : covers x pc = true) (h0 : x.catchType ≠ 0)
    (hlink : (Cond.classLink own x.catchType name).before args s = true) (hcast : (Cond.castable E name).before args s = true) (hcell : H[q]? = some ce) (hv : ce.vm = .none) (hcl : s.vm.findClass E = some ce.cls)
    (kk : W p l e R s m args below meth c H locs cells slots Q (F0 m x.handlerPc ls [.ref q])) : vx_W p l e R s m args below meth c H locs cells slots Q (F0 m pc ls rest) q := by
  intro T hT X
  have hpl : e.platform.magicAccessors = ({} : Platform).magicAccessors := by rw [X.admits.platform]
  obtain ⟨c3, c4, hc3, hc4, hasg⟩ := Cond.castable_spec hcast
  cases Option.some.inj (hc3.symm.trans hcl)
  obtain ⟨c5, hc5, hcl5⟩ := Cond.classLink_spec hown hlink e.platform hpl
  cases Option.some.inj (hc4.symm.trans hc5)
  obtain ⟨vm', X', st⟩ := Stand.thenCaughtThrough X q (g := F0 m pc ls rest) rfl (Steps.refl _) (by rw [hT]; exact hcell) (by rw [hv]; rfl) (by obtain ⟨k9, h9, -⟩ := Vm.findClass_spec hcl; exact ⟨k9, h9⟩) pre x suf hsplit
    (fun z hz => by
      rcases hpass z hz with h | ⟨hz0, nm, hl1, hn1⟩
      · exact Or.inl h
      · obtain ⟨c6, hc6, hcl6⟩ := Cond.classLink_spec hown hl1 e.platform hpl
        obtain ⟨a8, b8, h1, h2, h3⟩ := hn1
        cases Option.some.inj (h1.symm.trans hcl)
        cases Option.some.inj (h2.symm.trans hc6)
        exact Or.inr ⟨hz0, _, hcl6, h3⟩) hx (Or.inr ⟨h0, c4, hcl5, hasg⟩)
  obtain ⟨t, a1, b1⟩ := kk (T.setVm vm') hT X'
  exact ⟨t, st.trans a1, b1⟩
end Rows
section Ends
variable {p : Program} {l : Launch} {e : Env} {R : Room} {s : State} {m : MethodId} {args : Array Value} {below : List Frame} {meth : Method} {c : Code} {H : Heap} {locs : List Loc} {cells slots : Nat} {Q : State → Prop}
variable {mc ms : Nat} {free : Addr → Prop} {A0 A1 : Nat → Prop} {H0 : Heap} {a : Array Value} {ls : Array Slot} {st0 rest : List Value}
variable {Qc : Array Value → State → Outcome → State → Prop} {XC : String → State → State → Prop}
/-- what a body that may throw owes at its end -/
def vx_MQ (below : List Frame) (Qc : Array Value → State → Outcome → State → Prop) (XC : String → State → State → Prop) (a : Array Value) (s : State) (mc ms : Nat) (free : Addr → Prop) : State → Prop := fun t =>
  ∃ o, t.status = .running ∧ Ended t below o ∧ vx_Q Qc XC mc ms free a s o t
theorem vx_ret {g : JFrame} {mc ms : Nat} (k : W p l e R s m args below meth c H locs cells slots (MQ below Qc args s mc ms free) g) : W p l e R s m args below meth c H locs cells slots (vx_MQ below Qc XC args s mc ms free) g := by
  intro T hT X
  obtain ⟨t, a1, o, b1, b2, b3, b4⟩ := k T hT X
  exact ⟨t, a1, o, b1, b2, Or.inl ⟨b3, b4⟩⟩
/-- not caught here: it goes on to the caller -/
theorem vx_widen {g : JFrame} {q : Addr} {k n : Nat} (h1 : cells ≤ k) (h2 : slots ≤ n) (kk : vx_W p l e R s m args below meth c H locs k n Q g q) : vx_W p l e R s m args below meth c H locs cells slots Q g q := fun T hT X => kk T hT (stand_widen X h1 h2)
theorem vx_out {pc : Nat} {E : String} {ce : Cell} {q : Addr} {mc ms : Nat} (hout : ∀ x ∈ c.exceptionTable.toList, covers x pc = false) (hlocks : meth.locks = false) (hcell : H[q]? = some ce) (hv : ce.vm = .none) (hcl : s.vm.findClass E = some ce.cls)
    (hx : ∀ t : State, t.heap = H → s.vm.Alike t.vm → XC E s t) (hf : ∀ z ∈ locs, free z.base) (hc : cells ≤ mc) (hs : slots ≤ ms) :
    vx_W p l e R s m args below meth c H locs cells slots (vx_MQ below Qc XC args s mc ms free) (F0 m pc ls rest) q := by
  intro T hT X
  obtain ⟨st1, hrun, hend, hW, hsm⟩ := X.leaveThrown q (g := F0 m pc ls rest) rfl rfl rfl hout hlocks
  have hcell9 : (T.setFrames (.throwing q :: below)).heap[q]? = some ce := by
    show T.heap[q]? = some ce
    rw [hT]; exact hcell
  exact ⟨_, st1, .threw q, hrun, hend, Or.inr ⟨q, rfl, E, ce, locs, hx _ hT hW.alike, hcell9, hv, hcl, hW, hsm.mono hc hs, hf⟩⟩
theorem vx_frame {U : State} {k n : Nat} (h : s.sameButNew ({ U with vm := s.vm } : State) locs k n) : s.heap.size ≤ U.heap.size ∧ ∀ q : Nat, q < s.heap.size → (∀ z ∈ locs, z.base ≠ q) → U.heap[q]? = s.heap[q]? := by
  obtain ⟨-, h2, -, -, -, h6⟩ := h
  refine ⟨h2, fun q hq hz => ?_⟩
  obtain ⟨c9, e1, e2, e3, e4⟩ := h6 q _ (Array.getElem?_eq_getElem hq)
  have hs : c9.slots = (s.heap[q]).slots := Array.ext_getElem? fun i => e4 i fun hm => hz _ hm rfl
  have h9 : c9 = s.heap[q] := by
    rw [hs] at e2
    exact e2
  have e5 : U.heap[q]? = some c9 := e1
  rw [e5, h9, Array.getElem?_eq_getElem hq]
/-- the words of a throw but the four that speak of the heap -/
def vx_no (w : Cond) : Bool := decide (w ≠ .isRef (.static Bundle.tN "UNASSIGNED_STACK" Bundle.steD)) && decide (w ≠ .isRef (.static Bundle.tN "SUPPRESSED_SENTINEL" Bundle.listD)) && decide (w ≠ .laysStatic Bundle.tN "UNASSIGNED_STACK" Bundle.steD) && decide (w ≠ .laysStatic Bundle.tN "SUPPRESSED_SENTINEL" Bundle.listD)
def vx_at0 (own : String) (ic : Nat) (X : String) (names : List String) : List Cond := (Bundle.ownAtoms0 own ic X names).filter vx_no
def vx_atS (own : String) (ic : Nat) (X : String) (names : List String) : List Cond := (Bundle.ownAtoms own ic X names).filter vx_no
/-- a word that the tables alone decide, or a good one -/
def vx_ot (w : Cond) : Bool := w.onTables || goodWord w
theorem vx_ot_at {args a' : Array Value} {s U : State} {w : Cond} (hW : s.WarmedH U.vm) (hvm : s.vm = U.vm) (hg : vx_ot w = true) (h : w.before args s = true) : w.before a' U = true := by
  simp only [vx_ot, Bool.or_eq_true] at hg
  rcases hg with hg | hg
  · exact va_tabs hg hvm h
  · exact word_at hW (good_of_word hg) h
/-- a list's words: the good ones out of the method's own list, the others by premises of their own -/
theorem vx_hat {args : Array Value} {s : State} {L B : List Cond} (h1 : ∀ w ∈ L.filter goodWord, w.before args s = true) (h2 : ∀ w ∈ L.filter (fun w => !goodWord w), w ∈ B) (h3 : ∀ w ∈ B, w.before args s = true) : ∀ w ∈ L, w.before args s = true := by
  intro w hw
  by_cases g : goodWord w = true
  · exact h1 w (List.mem_filter.mpr ⟨hw, g⟩)
  · refine h3 w (h2 w (List.mem_filter.mpr ⟨hw, ?_⟩))
    show (!goodWord w) = true
    cases hgw : goodWord w
    · rfl
    · exact absurd hgw g
theorem vx_c {args : Array Value} {s : State} {w : Cond} {B : List Cond} (h : w.before args s = true) (t : ∀ w ∈ B, w.before args s = true) : ∀ w' ∈ w :: B, w'.before args s = true := fun w' h' => (List.mem_cons.mp h').elim (fun e => by rw [e]; exact h) (t w')
theorem vx_n {args : Array Value} {s : State} : ∀ w ∈ ([] : List Cond), w.before args s = true := fun _ h => nomatch h
theorem vx_own {args : Array Value} {s : State} {L : List Cond} (h1 : ∀ w ∈ L.filter vx_no, w.before args s = true)
    (hU : (Cond.isRef (.static Bundle.tN "UNASSIGNED_STACK" Bundle.steD)).before args s = true) (hN : (Cond.isRef (.static Bundle.tN "SUPPRESSED_SENTINEL" Bundle.listD)).before args s = true)
    (lU : (Cond.laysStatic Bundle.tN "UNASSIGNED_STACK" Bundle.steD).before args s = true) (lN : (Cond.laysStatic Bundle.tN "SUPPRESSED_SENTINEL" Bundle.listD).before args s = true) : ∀ w ∈ L, w.before args s = true := by
  intro w hw
  by_cases e1 : w = .isRef (.static Bundle.tN "UNASSIGNED_STACK" Bundle.steD)
  · rw [e1]; exact hU
  · by_cases e2 : w = .isRef (.static Bundle.tN "SUPPRESSED_SENTINEL" Bundle.listD)
    · rw [e2]; exact hN
    · by_cases e3 : w = .laysStatic Bundle.tN "UNASSIGNED_STACK" Bundle.steD
      · rw [e3]; exact lU
      · by_cases e4 : w = .laysStatic Bundle.tN "SUPPRESSED_SENTINEL" Bundle.listD
        · rw [e4]; exact lN
        · exact h1 w (List.mem_filter.mpr ⟨hw, by unfold vx_no; rw [decide_eq_true e1, decide_eq_true e2, decide_eq_true e3, decide_eq_true e4]; rfl⟩)
/-- where a static field lies, its class's statics cell in H -/
def vx_L (C n d : String) (A : Nat → Prop) (U : State) (H : Heap) : Prop := ∃ (c : ClassId) (k : Class) (i : Nat) (f : Field) (a : Nat) (cell : Cell), U.vm.findClass C = some c ∧ U.fieldFound? C n d = some (c, k, i, f) ∧ f.isStatic = true ∧ k.statics = some a ∧ H[a]? = some cell ∧ cell.vm.isStatics = true ∧ cell.cls = c ∧ f.slot < cell.slots.size ∧ k.staticTypes[f.slot]? = some f.type ∧ ¬ A a
theorem vx_L.moved {C n d : String} {A : Nat → Prop} {u U : State} {H : Heap} (hvm : u.vm.Alike U.vm) (h : vx_L C n d A u H) : vx_L C n d A U H := by
  obtain ⟨c, k, i, f, a, cell, h1, h2, h3, h4, h5, h6, h7, h8, h9, h10⟩ := h
  obtain ⟨k', hi', he⟩ := State.fieldFound?_setVm hvm h2
  exact ⟨c, k', i, f, a, cell, by rw [hvm.findClass]; exact h1, hi', h3, by rw [he]; exact h4, h5, h6, h7, h8, by rw [he]; exact h9, h10⟩
theorem vx_L.kept {C n d : String} {A : Nat → Prop} {U : State} {H H1 : Heap} (h : vx_L C n d A U H) (hq : ∀ a : Nat, a < H.size → ¬ A a → H1[a]? = H[a]?) : vx_L C n d A U H1 := by
  obtain ⟨c, k, i, f, a, cell, h1, h2, h3, h4, h5, h6, h7, h8, h9, h10⟩ := h
  exact ⟨c, k, i, f, a, cell, h1, h2, h3, h4, by rw [hq a (Array.getElem?_eq_some_iff.mp h5).1 h10]; exact h5, h6, h7, h8, h9, h10⟩
theorem vx_L.narrow {C n d : String} {A B : Nat → Prop} {U : State} {H : Heap} (h : vx_L C n d A U H) (hAB : ∀ q, B q → A q) : vx_L C n d B U H := by
  obtain ⟨c, k, i, f, a, cell, h1, h2, h3, h4, h5, h6, h7, h8, h9, h10⟩ := h
  exact ⟨c, k, i, f, a, cell, h1, h2, h3, h4, h5, h6, h7, h8, h9, fun z => h10 (hAB _ z)⟩
theorem vx_L.word {C n d : String} {A : Nat → Prop} {s : State} {args : Array Value} (h : vx_L C n d A s s.heap) : (Cond.laysStatic C n d).before args s = true := by
  obtain ⟨c, k, i, f, a, cell, h1, h2, h3, h4, h5, h6, h7, h8, h9, -⟩ := h
  show (Cond.laysStatic C n d).holds args s none s [] = true
  exact Cond.laysStatic_of h1 h2 h3 h4 h5 h6 h7 h8 h9
/-- .. and what it holds: null or some reference -/
def vx_Zq (C n d : String) (A : Nat → Prop) (U : State) (H : Heap) : Prop := va_Zq C n d A U H ∧ vx_L C n d A U H
theorem vx_Zq.moved {C n d : String} {A : Nat → Prop} {u U : State} {H : Heap} (hvm : u.vm.Alike U.vm) (h : vx_Zq C n d A u H) : vx_Zq C n d A U H := ⟨va_Zq.moved hvm h.1, vx_L.moved hvm h.2⟩
theorem vx_Zq.kept {C n d : String} {A : Nat → Prop} {U : State} {H H1 : Heap} (h : vx_Zq C n d A U H) (hq : ∀ a : Nat, a < H.size → ¬ A a → H1[a]? = H[a]?) : vx_Zq C n d A U H1 := ⟨va_Zq.kept h.1 hq, vx_L.kept h.2 hq⟩
theorem vx_Zq.narrow {C n d : String} {A B : Nat → Prop} {U : State} {H : Heap} (h : vx_Zq C n d A U H) (hAB : ∀ q, B q → A q) : vx_Zq C n d B U H := ⟨va_Zq.narrow h.1 hAB, vx_L.narrow h.2 hAB⟩
theorem vx_Zqof {args : Array Value} {s : State} {C n d : String} {A : Nat → Prop} (hl : (Cond.laysStatic C n d).before args s = true) (hini : (Cond.initialized C).before args s = true) (h : (Cond.isRef (.static C n d)).before args s = true) (hA : ∀ a : Nat, a < s.heap.size → ¬ A a) : vx_Zq C n d A s s.heap := by
  refine ⟨va_Zqof hl hini h hA, ?_⟩
  obtain ⟨c, k, i, f, a, cell, h1, h2, h3, h4, h5, h6, h7, h8, h9⟩ := Cond.laysStatic_spec hl
  exact ⟨c, k, i, f, a, cell, h1, h2, h3, h4, h5, h6, h7, h8, h9, hA a (Array.getElem?_eq_some_iff.mp h5).1⟩
theorem vx_isRef {C n d : String} {v : Value} {A : Nat → Prop} {s : State} {args : Array Value} (h : va_Z C n d v A s s.heap) (hv : v.isRef = true) : (Cond.isRef (.static C n d)).before args s = true := by
  obtain ⟨cf, kf, fi, f, a, cell, h1, h2, h3, h4, h5, h6, h7, -⟩ := h
  have he : (Term.static C n d).eval args s none [] s = some v := by
    simp [Term.eval, State.fieldNamed?, h1, h2, h4, h5, h6, h7]
  simp only [Cond.before, Cond.holds, Cond.value, he]
  cases v <;> simp_all [Value.isRef]
theorem vx_isRefq {C n d : String} {A : Nat → Prop} {s : State} {args : Array Value} (h : va_Zq C n d A s s.heap) : (Cond.isRef (.static C n d)).before args s = true := by
  rcases h with h | ⟨t, h⟩
  · exact vx_isRef h rfl
  · exact vx_isRef h rfl
/-- the same frame, seen from here: as if the method were called anew in this heap -/
theorem vx_rebase {T : State} (X : Stand p l e R s m args below meth c T locs cells slots) {R' : Room} (hf : R'.frames ≤ R.frames) (hl : R'.locals ≤ R.locals) (hc : cells + R'.cells ≤ R.cells) (hs : slots + R'.slots ≤ R.slots) :
    Stand p l e R' ((T.setVm s.vm).setFrames (.invoking m args :: below)) m args below meth c T [] 0 0 := by
  have htop : (T.setVm s.vm).topJava?.isSome := X.here.top
  have hF : ((T.setVm s.vm).setFrames (.invoking m args :: below)).frames = .invoking m args :: below := State.frames_setFrames _ (State.cur_lt_of_top htop)
  obtain ⟨g₀, hg0⟩ := Option.isSome_iff_exists.mp htop
  obtain ⟨r, hr⟩ := State.topJava?_eq_some.mp hg0
  have hl9 : e.platform.stackLimits (T.setVm s.vm).me = e.platform.stackLimits s.me := X.limits
  have hb9 : (T.setVm s.vm).me.stackBytes = s.me.stackBytes := X.bytes
  refine ⟨X.admits, X.cas, X.clock, hF, ?_, X.hears, X.method, X.code, X.here, X.tail, X.warmed, ?_, ?_, ?_⟩
  · have h := X.room
    have hU : ((T.setVm s.vm).setFrames (.invoking m args :: below)).localsInUse = s.localsInUse := by
      rw [State.localsInUse_invoking hF (meth := meth) (c := c) X.method X.code, State.localsInUse_invoking X.frames X.method X.code]
    simp only [State.hasRoom, Bool.and_eq_true, decide_eq_true_eq] at h ⊢
    obtain ⟨⟨⟨⟨h1, h2, h3, h4, h5, h6⟩, h7⟩, h8⟩, h9⟩ := h
    rw [X.frames, List.length_cons] at h2 h3
    have q1 := X.heapSize
    have q2 := X.used
    simp only [hF, hU, List.length_cons, State.stackLimits_setFrames, State.stackBytes_setFrames, hl9, hb9]
    refine ⟨⟨⟨⟨by omega, by omega, by omega, by omega, by omega, h6⟩, ?_⟩, ?_⟩, X.book⟩
    · show T.heap.size + R'.cells ≤ e.platform.maxCells
      omega
    · show T.slotsUsed + R'.slots ≤ e.platform.maxSlots
      omega
  · rw [State.stackLimits_setFrames]; rfl
  · rw [State.stackBytes_setFrames]; rfl
  · refine ⟨?_, Nat.le_refl _, Nat.le_refl _, ?_, ?_, fun a c9 h9 => ⟨c9, h9, rfl, rfl, fun _ _ => rfl⟩⟩
    · obtain ⟨t, ht, -⟩ := State.frames_cons hr
      show T.setVm s.vm = { ((T.setVm s.vm).setFrames (.invoking m args :: below)).setFrames (T.setVm s.vm).frames with heap := T.heap, slotsUsed := T.slotsUsed }
      rw [State.setFrames_setFrames, State.setFrames_self ht]
      rfl
    · show T.slotsUsed = T.slotsUsed + ((T.heap.toList.drop T.heap.size).map (·.slots.size)).sum
      rw [List.drop_eq_nil_of_le (Nat.le_of_eq Array.length_toList)]
      rfl
    · show ((T.heap.toList.drop T.heap.size).map (·.slots.size)).sum ≤ 0
      rw [List.drop_eq_nil_of_le (Nat.le_of_eq Array.length_toList)]
      exact Nat.le_refl _
/-- 'throw new E()': new; dup; invokespecial; athrow -/
theorem vx_throw0 {cc : ByteArray} {pc : Nat} (hexec : p.tables.exec = Jvm.exec) (hb : c.code = cc) (hl : l.stackTraces = false) {own cls : String} {names : List String} {ik ic mc ms : Nat} {A : Nat → Prop}
    (hown : s.vm.findClass own = some m.cls) (hcls : Bundle.fit cls = true) (hnames : ∀ n ∈ names, Bundle.fit n = true)
    (hk : (Cond.classLink own ik cls).before args s = true) (hini : (Cond.initialized cls).before args s = true) (hat : ∀ w ∈ vx_at0 own ic cls names, w.before args s = true)
    (hgood : ∀ w ∈ Cond.classLink own ik cls :: Cond.initialized cls :: vx_at0 own ic cls names, vx_ot w = true)
    (hU : vx_Zq Bundle.tN "UNASSIGNED_STACK" Bundle.steD A s s.heap) (hN : vx_Zq Bundle.tN "SUPPRESSED_SENTINEL" Bundle.listD A s s.heap) (hS : va_S A s.heap H locs) (hsize : ls.size = c.maxLocals)
    (d0 : decode cc pc = .ok (.new ik, 3)) (d3 : decode cc (pc + 3) = .ok (.dup, 1)) (d4 : decode cc (pc + 4) = .ok (.invokespecial ic, 3)) (d7 : decode cc (pc + 7) = .ok (.athrow, 1))
    (hout : ∀ x ∈ c.exceptionTable.toList, covers x (pc + 7) = false)
    (hRframes : names.length + 3 < R.frames) (hRlocals : (rest.map fun v => v.category).sum + (13 * (names.length + 1) + 42) ≤ R.locals) (hRcells : cells + 1 ≤ R.cells) (hRslots : slots + 6 ≤ R.slots) (hlocks : meth.locks = false)
    (hx : ∀ t : State, s.vm.Alike t.vm → H.size ≤ t.heap.size → (∀ q : Nat, q < H.size → t.heap[q]? = H[q]?) → XC cls s t)
    (hf : ∀ z ∈ locs, free z.base) (hc : cells + 1 ≤ mc) (hs : slots + 6 ≤ ms) :
    W p l e R s m args below meth c H locs cells slots (vx_MQ below Qc XC args s mc ms free) (F0 m pc ls rest) := by
  intro T hT X
  have htr : e.platform.stackTraces = false := (show e.platform.stackTraces = l.stackTraces by rw [X.admits.platform]).trans hl
  have Y := vx_rebase X (R' := { frames := R.frames, locals := R.locals, cells := 1, slots := 6 }) (Nat.le_refl _) (Nat.le_refl _) hRcells hRslots
  obtain ⟨s', hA⟩ : ∃ z, z = (T.setVm s.vm).setFrames (.invoking m args :: below) := ⟨_, rfl⟩
  rw [← hA] at Y
  have hvm : s'.vm = s.vm := by rw [hA]; rfl
  have hhp : s'.heap = H := by rw [hA]; exact hT
  have hW0 : s.WarmedH s'.vm := by rw [hvm]; exact State.WarmedH.refl s
  have hat' : ∀ w ∈ vx_at0 own ic cls names, w.before args s' = true := fun w hw => vx_ot_at hW0 hvm.symm (hgood w (List.mem_cons_of_mem _ (List.mem_cons_of_mem _ hw))) (hat w hw)
  have hk' : (Cond.classLink own ik cls).before args s' = true := vx_ot_at hW0 hvm.symm (hgood _ List.mem_cons_self) hk
  have hini' : (Cond.initialized cls).before args s' = true := vx_ot_at hW0 hvm.symm (hgood _ (List.mem_cons_of_mem _ List.mem_cons_self)) hini
  have hU' : vx_Zq Bundle.tN "UNASSIGNED_STACK" Bundle.steD A s' s'.heap := by rw [hhp]; exact vx_Zq.moved hW0.alike (hU.kept hS.2.1)
  have hN' : vx_Zq Bundle.tN "SUPPRESSED_SENTINEL" Bundle.listD A s' s'.heap := by rw [hhp]; exact vx_Zq.moved hW0.alike (hN.kept hS.2.1)
  have h : ∀ w ∈ Bundle.ownAtoms0 own ic cls names, w.before args s' = true := vx_own hat' (vx_isRefq hU'.1) (vx_isRefq hN'.1) hU'.2.word hN'.2.word
  have hown' : s'.vm.findClass own = some m.cls := by rw [hvm]; exact hown
  have hins : (Cond.instantiable cls 6).before args s' = true := h _ (by simp [Bundle.ownAtoms0])
  obtain ⟨vm₁, cX, kX, hfX, hkX, -, -, X₁, st1⟩ := Y.newCold hexec (own := own) (C := cls) (index := ik) (n := 6) hown' hk' hins hini'
    (g := F0 m pc ls rest) rfl (by rw [hb]; exact d0) (Nat.le_refl _) (Nat.le_refl _)
  generalize hT1 : (T.setVm vm₁).pushCell { cls := cX, slots := kX.instanceTypes.map defaultValue, vm := .none } = T1 at X₁ st1
  have hcat : (Value.ref T.heap.size).category = 1 := rfl
  have hcellA : T1.heap[T.heap.size]? = some (freshCell cX kX) := by rw [← hT1]; exact State.heap_pushCell_size _ _
  have d3' : decode c.code (pc + 3) = .ok (.dup, 1) := by rw [hb]; exact d3
  obtain ⟨U, hsteps, hrun, hend, hW, hsame, ce, hce, hO⟩ := X₁.ctorThrow0 hexec htr (own := own) (cls := cls) (names := names) (ic := ic) hown' hcls hnames h (fun x hx => nomatch hx) hfX hkX hcellA (by rw [hhp, hT]; exact Nat.le_refl _)
    (g := { method := m, pc := pc + 4, locals := ls, stack := .ref T.heap.size :: .ref T.heap.size :: rest, locked := none }) rfl hsize rfl rfl (rest := rest) rfl
    (by rw [hb]; exact d4) (by rw [hb]; exact d7) hout hRframes (by simp only [List.map_cons, List.sum_cons, hcat]; omega) hlocks
  obtain ⟨f1, f2⟩ := vx_frame hsame
  rw [hhp] at f1 f2
  have hWs : s.WarmedH U.vm := State.WarmedH.trans hW0 hW
  have hcl : s.vm.findClass cls = some ce.cls := by
    have h9 := hO.cls
    rw [hvm] at h9
    exact h9
  have hall : s.sameButNew ({ U with vm := s.vm } : State) locs mc ms := by
    subst hA
    obtain ⟨e1, e2⟩ := hsame
    rw [State.setFrames_setFrames] at e1
    have h2 : (T.setVm s.vm).sameButNew ({ U with vm := s.vm } : State) [] (0 + 1) (0 + 6) := ⟨e1, e2⟩
    have h3 := X.same.trans h2
    rw [List.append_nil] at h3
    exact h3.mono hc hs
  refine ⟨U, ?_, .threw T.heap.size, hrun, hend, Or.inr ⟨T.heap.size, rfl, cls, ce, locs, hx U hWs.alike f1 (fun q hq => f2 q hq (fun z hz => nomatch hz)), hce, hO.vm, hcl, hWs, hall, hf⟩⟩
  refine st1 _ ?_
  show Steps p.tables e below (T1.setTop { method := m, pc := pc + 3, locals := ls, stack := .ref T.heap.size :: rest, locked := none }) _
  jvm_step X₁.here [X₁.here.top, hexec, d3', Value.category]
  exact hsteps
/-- 'throw new E("text")': new; dup; ldc; invokespecial; athrow -/
theorem vx_throwS {cc : ByteArray} {pc : Nat} (hexec : p.tables.exec = Jvm.exec) (hb : c.code = cc) (hl : l.stackTraces = false) {own cls text : String} {names : List String} {ik is ic mc ms sa : Nat} {A : Nat → Prop}
    (hown : s.vm.findClass own = some m.cls) (hcls : Bundle.fit cls = true) (hnames : ∀ n ∈ names, Bundle.fit n = true)
    (hk : (Cond.classLink own ik cls).before args s = true) (hini : (Cond.initialized cls).before args s = true) (hstr : vk_R own is text sa s) (hat : ∀ w ∈ vx_atS own ic cls names, w.before args s = true)
    (hgood : ∀ w ∈ Cond.classLink own ik cls :: Cond.initialized cls :: vx_atS own ic cls names, vx_ot w = true)
    (hU : vx_Zq Bundle.tN "UNASSIGNED_STACK" Bundle.steD A s s.heap) (hN : vx_Zq Bundle.tN "SUPPRESSED_SENTINEL" Bundle.listD A s s.heap) (hS : va_S A s.heap H locs) (hsize : ls.size = c.maxLocals)
    (d0 : decode cc pc = .ok (.new ik, 3)) (d3 : decode cc (pc + 3) = .ok (.dup, 1)) (d4 : decode cc (pc + 4) = .ok (.ldc is, 2)) (d6 : decode cc (pc + 6) = .ok (.invokespecial ic, 3)) (d9 : decode cc (pc + 9) = .ok (.athrow, 1))
    (hout : ∀ x ∈ c.exceptionTable.toList, covers x (pc + 9) = false)
    (hRframes : names.length + 3 < R.frames) (hRlocals : (rest.map fun v => v.category).sum + (13 * (names.length + 1) + 43) ≤ R.locals) (hRcells : cells + 1 ≤ R.cells) (hRslots : slots + 6 ≤ R.slots) (hlocks : meth.locks = false)
    (hx : ∀ t : State, s.vm.Alike t.vm → H.size ≤ t.heap.size → (∀ q : Nat, q < H.size → t.heap[q]? = H[q]?) → XC cls s t)
    (hf : ∀ z ∈ locs, free z.base) (hc : cells + 1 ≤ mc) (hs : slots + 6 ≤ ms) :
    W p l e R s m args below meth c H locs cells slots (vx_MQ below Qc XC args s mc ms free) (F0 m pc ls rest) := by
  intro T hT X
  have htr : e.platform.stackTraces = false := (show e.platform.stackTraces = l.stackTraces by rw [X.admits.platform]).trans hl
  have Y := vx_rebase X (R' := { frames := R.frames, locals := R.locals, cells := 1, slots := 6 }) (Nat.le_refl _) (Nat.le_refl _) hRcells hRslots
  obtain ⟨s', hA⟩ : ∃ z, z = (T.setVm s.vm).setFrames (.invoking m args :: below) := ⟨_, rfl⟩
  rw [← hA] at Y
  have hvm : s'.vm = s.vm := by rw [hA]; rfl
  have hhp : s'.heap = H := by rw [hA]; exact hT
  have hW0 : s.WarmedH s'.vm := by rw [hvm]; exact State.WarmedH.refl s
  have hat' : ∀ w ∈ vx_atS own ic cls names, w.before args s' = true := fun w hw => vx_ot_at hW0 hvm.symm (hgood w (List.mem_cons_of_mem _ (List.mem_cons_of_mem _ hw))) (hat w hw)
  have hk' : (Cond.classLink own ik cls).before args s' = true := vx_ot_at hW0 hvm.symm (hgood _ List.mem_cons_self) hk
  have hini' : (Cond.initialized cls).before args s' = true := vx_ot_at hW0 hvm.symm (hgood _ (List.mem_cons_of_mem _ List.mem_cons_self)) hini
  have hU' : vx_Zq Bundle.tN "UNASSIGNED_STACK" Bundle.steD A s' s'.heap := by rw [hhp]; exact vx_Zq.moved hW0.alike (hU.kept hS.2.1)
  have hN' : vx_Zq Bundle.tN "SUPPRESSED_SENTINEL" Bundle.listD A s' s'.heap := by rw [hhp]; exact vx_Zq.moved hW0.alike (hN.kept hS.2.1)
  have h : ∀ w ∈ Bundle.ownAtoms own ic cls names, w.before args s' = true := vx_own hat' (vx_isRefq hU'.1) (vx_isRefq hN'.1) hU'.2.word hN'.2.word
  have hown' : s'.vm.findClass own = some m.cls := by rw [hvm]; exact hown
  have hins : (Cond.instantiable cls 6).before args s' = true := h _ (by simp [Bundle.ownAtoms])
  obtain ⟨vm₁, cX, kX, hfX, hkX, -, -, X₁, st1⟩ := Y.newCold hexec (own := own) (C := cls) (index := ik) (n := 6) hown' hk' hins hini'
    (g := F0 m pc ls rest) rfl (by rw [hb]; exact d0) (Nat.le_refl _) (Nat.le_refl _)
  generalize hT1 : (T.setVm vm₁).pushCell { cls := cX, slots := kX.instanceTypes.map defaultValue, vm := .none } = T1 at X₁ st1
  have hcat : (Value.ref T.heap.size).category = 1 := rfl
  have hcellA : T1.heap[T.heap.size]? = some (freshCell cX kX) := by rw [← hT1]; exact State.heap_pushCell_size _ _
  have d3' : decode c.code (pc + 3) = .ok (.dup, 1) := by rw [hb]; exact d3
  have d4' : decode c.code (pc + 4) = .ok (.ldc is, 2) := by rw [hb]; exact d4
  have hstr' : vk_R own is text sa s' := vk_R.warm hW0 hstr
  obtain ⟨U, hsteps, hrun, hend, hW, hsame, ce, hce, hO⟩ := X₁.ctorThrowS hexec htr (own := own) (cls := cls) (names := names) (ic := ic) hown' hcls hnames h (fun x hx => nomatch hx) hfX hkX hcellA (by rw [hhp, hT]; exact Nat.le_refl _) (msg := .ref sa) rfl
    (g := { method := m, pc := pc + 6, locals := ls, stack := .ref sa :: .ref T.heap.size :: .ref T.heap.size :: rest, locked := none }) rfl hsize rfl rfl (rest := rest) rfl
    (by rw [hb]; exact d6) (by rw [hb]; exact d9) hout hRframes (by simp only [List.map_cons, List.sum_cons, hcat]; omega) hlocks
  obtain ⟨f1, f2⟩ := vx_frame hsame
  rw [hhp] at f1 f2
  have hWs : s.WarmedH U.vm := State.WarmedH.trans hW0 hW
  have hcl : s.vm.findClass cls = some ce.cls := by
    have h9 := hO.cls
    rw [hvm] at h9
    exact h9
  have hall : s.sameButNew ({ U with vm := s.vm } : State) locs mc ms := by
    subst hA
    obtain ⟨e1, e2⟩ := hsame
    rw [State.setFrames_setFrames] at e1
    have h2 : (T.setVm s.vm).sameButNew ({ U with vm := s.vm } : State) [] (0 + 1) (0 + 6) := ⟨e1, e2⟩
    have h3 := X.same.trans h2
    rw [List.append_nil] at h3
    exact h3.mono hc hs
  refine ⟨U, ?_, .threw T.heap.size, hrun, hend, Or.inr ⟨T.heap.size, rfl, cls, ce, locs, hx U hWs.alike f1 (fun q hq => f2 q hq (fun z hz => nomatch hz)), hce, hO.vm, hcl, hWs, hall, hf⟩⟩
  refine st1 _ ?_
  show Steps p.tables e below (T1.setTop { method := m, pc := pc + 3, locals := ls, stack := .ref T.heap.size :: rest, locked := none }) _
  jvm_step X₁.here [X₁.here.top, hexec, d3', Value.category]
  exact X₁.ldcString hexec (own := own) (text := text) (index := is) (a := sa) hown' hstr'.1 hstr'.2
    (g := { method := m, pc := pc + 4, locals := ls, stack := .ref T.heap.size :: .ref T.heap.size :: rest, locked := none }) rfl d4' _ hsteps
/-- 'throw new E("text")', the text by a wide index -/
theorem vx_throwSW {cc : ByteArray} {pc : Nat} (hexec : p.tables.exec = Jvm.exec) (hb : c.code = cc) (hl : l.stackTraces = false) {own cls text : String} {names : List String} {ik is ic mc ms sa : Nat} {A : Nat → Prop}
    (hown : s.vm.findClass own = some m.cls) (hcls : Bundle.fit cls = true) (hnames : ∀ n ∈ names, Bundle.fit n = true)
    (hk : (Cond.classLink own ik cls).before args s = true) (hini : (Cond.initialized cls).before args s = true) (hstr : vk_R own is text sa s) (hat : ∀ w ∈ vx_atS own ic cls names, w.before args s = true)
    (hgood : ∀ w ∈ Cond.classLink own ik cls :: Cond.initialized cls :: vx_atS own ic cls names, vx_ot w = true)
    (hU : vx_Zq Bundle.tN "UNASSIGNED_STACK" Bundle.steD A s s.heap) (hN : vx_Zq Bundle.tN "SUPPRESSED_SENTINEL" Bundle.listD A s s.heap) (hS : va_S A s.heap H locs) (hsize : ls.size = c.maxLocals)
    (d0 : decode cc pc = .ok (.new ik, 3)) (d3 : decode cc (pc + 3) = .ok (.dup, 1)) (d4 : decode cc (pc + 4) = .ok (.ldc_w is, 3)) (d7 : decode cc (pc + 7) = .ok (.invokespecial ic, 3)) (d10 : decode cc (pc + 10) = .ok (.athrow, 1))
    (hout : ∀ x ∈ c.exceptionTable.toList, covers x (pc + 10) = false)
    (hRframes : names.length + 3 < R.frames) (hRlocals : (rest.map fun v => v.category).sum + (13 * (names.length + 1) + 43) ≤ R.locals) (hRcells : cells + 1 ≤ R.cells) (hRslots : slots + 6 ≤ R.slots) (hlocks : meth.locks = false)
    (hx : ∀ t : State, s.vm.Alike t.vm → H.size ≤ t.heap.size → (∀ q : Nat, q < H.size → t.heap[q]? = H[q]?) → XC cls s t)
    (hf : ∀ z ∈ locs, free z.base) (hc : cells + 1 ≤ mc) (hs : slots + 6 ≤ ms) :
    W p l e R s m args below meth c H locs cells slots (vx_MQ below Qc XC args s mc ms free) (F0 m pc ls rest) := by
  intro T hT X
  have htr : e.platform.stackTraces = false := (show e.platform.stackTraces = l.stackTraces by rw [X.admits.platform]).trans hl
  have Y := vx_rebase X (R' := { frames := R.frames, locals := R.locals, cells := 1, slots := 6 }) (Nat.le_refl _) (Nat.le_refl _) hRcells hRslots
  obtain ⟨s', hA⟩ : ∃ z, z = (T.setVm s.vm).setFrames (.invoking m args :: below) := ⟨_, rfl⟩
  rw [← hA] at Y
  have hvm : s'.vm = s.vm := by rw [hA]; rfl
  have hhp : s'.heap = H := by rw [hA]; exact hT
  have hW0 : s.WarmedH s'.vm := by rw [hvm]; exact State.WarmedH.refl s
  have hat' : ∀ w ∈ vx_atS own ic cls names, w.before args s' = true := fun w hw => vx_ot_at hW0 hvm.symm (hgood w (List.mem_cons_of_mem _ (List.mem_cons_of_mem _ hw))) (hat w hw)
  have hk' : (Cond.classLink own ik cls).before args s' = true := vx_ot_at hW0 hvm.symm (hgood _ List.mem_cons_self) hk
  have hini' : (Cond.initialized cls).before args s' = true := vx_ot_at hW0 hvm.symm (hgood _ (List.mem_cons_of_mem _ List.mem_cons_self)) hini
  have hU' : vx_Zq Bundle.tN "UNASSIGNED_STACK" Bundle.steD A s' s'.heap := by rw [hhp]; exact vx_Zq.moved hW0.alike (hU.kept hS.2.1)
  have hN' : vx_Zq Bundle.tN "SUPPRESSED_SENTINEL" Bundle.listD A s' s'.heap := by rw [hhp]; exact vx_Zq.moved hW0.alike (hN.kept hS.2.1)
  have h : ∀ w ∈ Bundle.ownAtoms own ic cls names, w.before args s' = true := vx_own hat' (vx_isRefq hU'.1) (vx_isRefq hN'.1) hU'.2.word hN'.2.word
  have hown' : s'.vm.findClass own = some m.cls := by rw [hvm]; exact hown
  have hins : (Cond.instantiable cls 6).before args s' = true := h _ (by simp [Bundle.ownAtoms])
  obtain ⟨vm₁, cX, kX, hfX, hkX, -, -, X₁, st1⟩ := Y.newCold hexec (own := own) (C := cls) (index := ik) (n := 6) hown' hk' hins hini'
    (g := F0 m pc ls rest) rfl (by rw [hb]; exact d0) (Nat.le_refl _) (Nat.le_refl _)
  generalize hT1 : (T.setVm vm₁).pushCell { cls := cX, slots := kX.instanceTypes.map defaultValue, vm := .none } = T1 at X₁ st1
  have hcat : (Value.ref T.heap.size).category = 1 := rfl
  have hcellA : T1.heap[T.heap.size]? = some (freshCell cX kX) := by rw [← hT1]; exact State.heap_pushCell_size _ _
  have d3' : decode c.code (pc + 3) = .ok (.dup, 1) := by rw [hb]; exact d3
  have d4' : decode c.code (pc + 4) = .ok (.ldc_w is, 3) := by rw [hb]; exact d4
  have hstr' : vk_R own is text sa s' := vk_R.warm hW0 hstr
  obtain ⟨U, hsteps, hrun, hend, hW, hsame, ce, hce, hO⟩ := X₁.ctorThrowS hexec htr (own := own) (cls := cls) (names := names) (ic := ic) hown' hcls hnames h (fun x hx => nomatch hx) hfX hkX hcellA (by rw [hhp, hT]; exact Nat.le_refl _) (msg := .ref sa) rfl
    (g := { method := m, pc := pc + 7, locals := ls, stack := .ref sa :: .ref T.heap.size :: .ref T.heap.size :: rest, locked := none }) rfl hsize rfl rfl (rest := rest) rfl
    (by rw [hb]; exact d7) (by rw [hb]; exact d10) hout hRframes (by simp only [List.map_cons, List.sum_cons, hcat]; omega) hlocks
  obtain ⟨f1, f2⟩ := vx_frame hsame
  rw [hhp] at f1 f2
  have hWs : s.WarmedH U.vm := State.WarmedH.trans hW0 hW
  have hcl : s.vm.findClass cls = some ce.cls := by
    have h9 := hO.cls
    rw [hvm] at h9
    exact h9
  have hall : s.sameButNew ({ U with vm := s.vm } : State) locs mc ms := by
    subst hA
    obtain ⟨e1, e2⟩ := hsame
    rw [State.setFrames_setFrames] at e1
    have h2 : (T.setVm s.vm).sameButNew ({ U with vm := s.vm } : State) [] (0 + 1) (0 + 6) := ⟨e1, e2⟩
    have h3 := X.same.trans h2
    rw [List.append_nil] at h3
    exact h3.mono hc hs
  refine ⟨U, ?_, .threw T.heap.size, hrun, hend, Or.inr ⟨T.heap.size, rfl, cls, ce, locs, hx U hWs.alike f1 (fun q hq => f2 q hq (fun z hz => nomatch hz)), hce, hO.vm, hcl, hWs, hall, hf⟩⟩
  refine st1 _ ?_
  show Steps p.tables e below (T1.setTop { method := m, pc := pc + 3, locals := ls, stack := .ref T.heap.size :: rest, locked := none }) _
  jvm_step X₁.here [X₁.here.top, hexec, d3', Value.category]
  exact X₁.ldcStringW hexec (own := own) (text := text) (index := is) (a := sa) hown' hstr'.1 hstr'.2
    (g := { method := m, pc := pc + 4, locals := ls, stack := .ref T.heap.size :: .ref T.heap.size :: rest, locked := none }) rfl d4' _ hsteps
end Ends
section Bodies
variable {l : Launch}
theorem vx_ofW {y : MethodName} {ws ws' : List Cond} {rm : Room} {Pc : Array Value → State → Prop} {Qc : Array Value → State → Outcome → State → Prop} {XC : String → State → State → Prop} {mc ms : Nat} {free : Addr → Prop} {cc : ByteArray} {maxL : Nat} {ret : Option FieldType}
    (hy : plainName y.cls = true) (hw : ws = Cond.code y cc maxL ret :: ws')
    (body : ∀ p e s m args below meth c s₁, BodyLoose p l y (headSpec ws rm) cc maxL ret e s m args below meth c s₁ → c.maxLocals = maxL → (∀ x ∈ c.exceptionTable.toList, False) → Pc args s →
      W p l e (headSpec ws rm).room s m args below meth c s.heap [] 0 0 (vx_MQ below Qc XC args s mc ms free) (entryFrame m args maxL)) : vx_Met l y ws rm Pc Qc XC mc ms free := by
  refine MetFree.of_bodyS (code := cc) (maxLocals := maxL) (ret := ret) hy ?_ ?_
  · intro args s m h hn
    obtain ⟨meth, c, h1, h2, h3, h4, h5, h6, -, -⟩ := Cond.code_spec hn (atoms_spec (ws := ws) h _ (by rw [hw]; exact List.mem_cons_self))
    exact ⟨meth, c, h1, h2, h3, h4, h5, h6⟩
  · intro p e s m args below meth c s₁ B hml hP _
    have hh0 : s₁.heap = s.heap := by rw [B.state]; rfl
    have ht : ∀ x ∈ c.exceptionTable.toList, False := by
      obtain ⟨meth9, c9, h1, h2, -, -, -, -, h7, -⟩ := Cond.code_spec B.named (atoms_spec (ws := ws) B.pre _ (by rw [hw]; exact List.mem_cons_self))
      cases Option.some.inj (h1.symm.trans B.method)
      cases Option.some.inj (h2.symm.trans (Stand.of_body B).code)
      intro x hx
      rw [Array.isEmpty_iff.mp h7] at hx
      cases hx
    obtain ⟨t, a1, o, b1, b2, b3⟩ := body p e s m args below meth c s₁ B hml ht hP s₁ hh0 (Stand.of_body B)
    exact ⟨t, o, a1, b1, b2, b3⟩
/-- the table of a body with handlers -/
theorem vx_table {p : Program} {x y : MethodName} {S : Spec} {cc bytes : ByteArray} {maxL maxL' : Nat} {ret ret' : Option FieldType} {e : Env} {s s₁ : State} {m : MethodId} {args : Array Value} {below : List Frame} {meth : Method} {c : Code} {hh : List (Nat × Nat × Nat × Nat)}
    (B : BodyLoose p l y S cc maxL ret e s m args below meth c s₁) (h : (Cond.codeWith y bytes maxL' ret' hh).before args s = true) : c.exceptionTable.toList = tableOf hh := by
  obtain ⟨m9, meth9, c9, hn9, h1, h2, -, -, h6, -⟩ := Cond.codeWith_spec h
  cases Option.some.inj (hn9.symm.trans B.named)
  cases Option.some.inj (h1.symm.trans B.method)
  cases Option.some.inj (h2.symm.trans (Stand.of_body B).code)
  rw [← h6, table_eq]
end Bodies
end VXA
/-! ===== END ===== -/
/-! ===== BEGIN a static call of a method with an exception table ===== -/
section VXS
variable {p : Program} {l : Launch} {e : Env} {R : Room} {s : State} {m : MethodId} {args : Array Value} {below : List Frame} {meth : Method} {c : Code} {T : State} {H : Heap} {locs : List Loc} {cells slots : Nat}
abbrev vx_CSW (R : Room) (s : State) (args : Array Value) (own : String) (index : Nat) (y : MethodName) (bytes : ByteArray) (maxL : Nat) (ret : Option FieldType) (hh : List (Nat × Nat × Nat × Nat)) (ws : List Cond) (rm : Room) (mc ms n : Nat) : Prop :=
  (rm.cells = mc ∧ rm.slots = ms ∧ rm.frames + 1 ≤ R.frames ∧ 8 + (maxL + 11) + rm.locals ≤ R.locals ∧ (∀ w ∈ ws, ∀ (a' : Array Value) (U : State), s.WarmedH U.vm → w.before a' U = true) ∧ Cond.codeWith y bytes maxL ret hh ∈ ws) ∧
  (Cond.codeWith y bytes maxL ret hh).before args s = true ∧ (Cond.initialized y.cls).before args s = true ∧ (y.cls ≠ "java/lang/invoke/MethodHandle" ∧ y.cls ≠ "java/lang/invoke/VarHandle") ∧
  (∀ sig, parseMethodDescriptor y.desc = some sig → n = sig.parameters.length) ∧ (Cond.methodLink own index y).before args s = true ∧ (Cond.static y).before args s = true
theorem vx_cwSW {own : String} {index maxL mc ms : Nat} {y : MethodName} {bytes : ByteArray} {ret : Option FieldType} {hh : List (Nat × Nat × Nat × Nat)} {Ts ws ws' : List Cond} {rm : Room} (n : Nat) (ht : ∀ w ∈ Ts, w.before args s = true) (hT : GoodIn Ts (va_wsS own index y ws)) (hw : ws = Cond.codeWith y bytes maxL ret hh :: ws') (hrc : rm.cells = mc) (hrs : rm.slots = ms)
    (hd : y.cls ≠ "java/lang/invoke/MethodHandle" ∧ y.cls ≠ "java/lang/invoke/VarHandle" ∧ (parseMethodDescriptor y.desc).map (fun d => d.parameters.length) = some n) (hR : rm.frames + 1 ≤ R.frames ∧ 8 + (maxL + 11) + rm.locals ≤ R.locals) :
    vx_CSW R s args own index y bytes maxL ret hh ws rm mc ms n := by
  have ok : ∀ w ∈ va_wsS own index y ws, w.before args s = true := fun w h => ht w (hT w h).1
  have hG : GoodIn Ts ws := fun w h => hT w (by unfold va_wsS; exact List.mem_append_right _ h)
  have hc : Cond.codeWith y bytes maxL ret hh ∈ ws := by rw [hw]; exact List.mem_cons_self
  refine ⟨⟨hrc, hrs, hR.1, hR.2, pay_in ht hG, hc⟩, ht _ (hG _ hc).1, ok _ (by simp [va_wsS]), ⟨hd.1, hd.2.1⟩, fun sig h => ?_, ok _ (by simp [va_wsS]), ok _ (by simp [va_wsS])⟩
  have h2 := hd.2.2
  rw [h] at h2
  exact (Option.some.inj h2).symm
theorem vx_callSW (X : Stand p l e R s m args below meth c T locs cells slots) (hexec : p.tables.exec = Jvm.exec) {own : String} {index : Nat} {y : MethodName} {bytes : ByteArray} {maxL : Nat} {ret : Option FieldType} {hh : List (Nat × Nat × Nat × Nat)}
    (hown : s.vm.findClass own = some m.cls) (hlink : (Cond.methodLink own index y).before args s = true) (hstat : (Cond.static y).before args s = true) (hinit : (Cond.initialized y.cls).before args s = true)
    (hcode : (Cond.codeWith y bytes maxL ret hh).before args s = true) (hy : y.cls ≠ "java/lang/invoke/MethodHandle" ∧ y.cls ≠ "java/lang/invoke/VarHandle")
    {W9 : Nat} {Pre : Pt → Array Value → Prop} {Post : Pt → Array Value → Option Value → Pt → Prop} (hK : Back l R p e below s args y 3 W9 Pre Post)
    {g : JFrame} (hg : g.method = m) (hsize : g.locals.size = c.maxLocals) {argsL rest : List Value} (hlen : ∀ sig, parseMethodDescriptor y.desc = some sig → argsL.length = sig.parameters.length)
    (hstack : g.stack = argsL.reverse ++ rest) (hW : 2 * g.monitorRoom + (rest.map fun v => v.category).sum ≤ W9) (hdg : decode c.code g.pc = .ok (.invokestatic index, 3))
    (hpre : ∀ vm₁, s.WarmedH vm₁ → Pre ⟨T.setVm vm₁, locs, cells, slots⟩ argsL.toArray) :
    ∃ (v : Option Value) (vm₁ : Vm) (B : Pt), s.WarmedH vm₁ ∧ Stand p l e R s m args below meth c B.U B.locs B.cells B.slots ∧ Post ⟨T.setVm vm₁, locs, cells, slots⟩ argsL.toArray v B ∧
      ∀ target, Steps p.tables e below (B.U.setTop { g with pc := g.pc + 3, stack := v.toList ++ rest }) target → Steps p.tables e below (T.setTop g) target := by
  obtain ⟨mk, methM, cM, hnamed, hmethM, -, -, -, -, -, -, hsigM⟩ := Cond.codeWith_spec hcode
  have hstatic : methM.isStatic = true := Cond.static_spec hnamed hmethM hstat
  obtain ⟨kP, hkP, -⟩ := className_of_methodNamed hnamed
  have hinitP : kP.init = .initialized := Cond.initialized_spec (findClass_of_methodNamed hnamed) hkP hinit
  obtain ⟨vm₁, X₁, hstep₁⟩ := X.invokestatic hexec hown hlink hnamed hmethM hstatic hkP hinitP hy (g := g) hg (argsL := argsL) (rest := rest) (hlen _ hsigM) hstack hdg
  obtain ⟨v, B, X', hpost, hsteps⟩ := hK m meth c ⟨T.setVm vm₁, locs, cells, slots⟩ { g with stack := rest } (.invokestatic index) mk argsL.toArray X₁ hg hsize hdg hW (X₁.named hnamed) (hpre vm₁ X₁.warmed)
  exact ⟨v, vm₁, B, X₁.warmed, X', hpost, fun target h => hstep₁ _ fun acts => by rw [doInvoke_state]; exact hsteps.trans h⟩
theorem vx_runSW {y : MethodName} {bytes cc : ByteArray} {maxL nL mc ms n index : Nat} {ret : Option FieldType} {hh : List (Nat × Nat × Nat × Nat)} {ws : List Cond} {rm : Room} {Pc : Array Value → State → Prop} {Qc : Array Value → State → Outcome → State → Prop} {free : Addr → Prop} {Ts : List Cond} {own : String} {As rest : List Value} {g : JFrame}
    (S : CallFix p m c cc nL s args Ts own) (hM : Met l y ws rm Pc Qc mc ms free) (cw : vx_CSW R s args own index y bytes maxL ret hh ws rm mc ms n) (hp : PreS s H Pc As)
    (hg : g.method = m) (hn : As.length = n) (hsize : g.locals.size = nL) (hstack : g.stack = As.reverse ++ rest) (hW : 2 * g.monitorRoom + (rest.map fun v => v.category).sum ≤ 8) (hdg : decode cc g.pc = .ok (.invokestatic index, 3)) (hf : cells + mc ≤ R.cells ∧ slots + ms ≤ R.slots) :
    va_Run p l e R s m args below meth c H locs cells slots mc ms g rest (Qc As.toArray) (free) := by
  obtain ⟨⟨hrc, hrs, hfr, hlo, hws, hcw⟩, hcode, hini, hy, hlen, hl, hstt⟩ := cw
  have hK : Back l R p e below s args y 3 8 (PreOf R mc ms Pc) (PostOf Qc mc ms free) := va_backW (hh := hh) (bytes := bytes) (maxL := maxL) (ret := ret) hM hp.1 hrc hrs hfr hlo hws hcw (fun a' U hW => word_at hW (Or.inl (by first | rfl | simp [Cond.onTables, Cond.keeps, Cond.steady])) hini)
  obtain ⟨hx, hb, hml, ho, -⟩ := S
  intro T hT X
  obtain ⟨v, vm₁, ⟨U', l2, c2, s2⟩, hW₁, X', ⟨g', mk, t, L, e1, e2, hq, h1, hL, h2, h3⟩, st⟩ := vx_callSW X hx (hh := hh) (bytes := bytes) (maxL := maxL) (ret := ret) ho hl hstt hini hcode hy hK hg (hsize.trans hml.symm) (argsL := As) (rest := rest) (fun sig h => hn.trans (hlen sig h)) hstack hW (by rw [hb]; exact hdg)
    (fun vm₁ hW₁ => ⟨hf.1, hf.2, hp.2 (T.setVm vm₁) hT hW₁⟩)
  dsimp only [Pt.U, Pt.locs, Pt.cells, Pt.slots] at X' e1 e2 h1 h2 h3 st
  subst h1; subst h2; subst h3
  exact ⟨v, (T.setVm vm₁).calling g' mk As.toArray, t, U', L, hT, X', hL, e1, e2, hq, st⟩
/-- not caught here, past rows that name other classes: it goes on to the caller -/
theorem vx_outP {p : Program} {l : Launch} {e : Env} {R : Room} {s : State} {m : MethodId} {args : Array Value} {below : List Frame} {meth : Method} {c : Code} {H : Heap} {locs : List Loc} {cells slots : Nat} {free : Addr → Prop} {ls : Array Slot} {rest : List Value} {Qc : Array Value → State → Outcome → State → Prop} {XC : String → State → State → Prop}
    {pc : Nat} {own E : String} {ce : Cell} {q : Addr} {mc ms : Nat} (hown : s.vm.findClass own = some m.cls) (hlocks : meth.locks = false)
    (hpass : ∀ z ∈ c.exceptionTable.toList, covers z pc = false ∨ (z.catchType ≠ 0 ∧ ∃ nm : String, (Cond.classLink own z.catchType nm).before args s = true ∧ va_Nc E nm s)) (hcell : H[q]? = some ce) (hv : ce.vm = .none) (hcl : s.vm.findClass E = some ce.cls)
    (hx : ∀ t : State, t.heap = H → s.vm.Alike t.vm → XC E s t) (hf : ∀ z ∈ locs, free z.base) (hc : cells ≤ mc) (hs : slots ≤ ms) :
    vx_W p l e R s m args below meth c H locs cells slots (vx_MQ below Qc XC args s mc ms free) (F0 m pc ls rest) q := by
  intro T hT X
  have hpl : e.platform.magicAccessors = ({} : Platform).magicAccessors := by rw [X.admits.platform]
  obtain ⟨vm', hW', X', st⟩ := Stand.outThrough X hlocks q (g := F0 m pc ls rest) rfl rfl rfl (cell := ce) (by rw [hT]; exact hcell) (by rw [hv]; rfl)
    (by obtain ⟨k9, h9, -⟩ := Vm.findClass_spec hcl; exact ⟨k9, h9⟩) (fun z hz => by
      rcases hpass z hz with h | ⟨hz0, nm, hl1, hn1⟩
      · exact Or.inl h
      · obtain ⟨c6, hc6, hcl6⟩ := Cond.classLink_spec hown hl1 e.platform hpl
        obtain ⟨a8, b8, h1, h2, h3⟩ := hn1
        cases Option.some.inj (h1.symm.trans hcl)
        cases Option.some.inj (h2.symm.trans hc6)
        exact Or.inr ⟨hz0, _, hcl6, h3⟩)
  obtain ⟨g₀, hfr⟩ := X'.frames_eq
  have hcell9 : ((T.setVm vm').setFrames (.throwing q :: below)).heap[q]? = some ce := by
    show T.heap[q]? = some ce
    rw [hT]; exact hcell
  have hend : Ended ((T.setVm vm').setFrames (.throwing q :: below)) below (.threw q) := State.frames_setFrames _ (State.cur_lt_of_frames hfr)
  refine ⟨(T.setVm vm').setFrames (.throwing q :: below), ?_, .threw q, X'.here.running, hend, Or.inr ⟨q, rfl, E, ce, locs, hx _ hT (X'.ends _).1.alike, hcell9, hv, hcl, (X'.ends _).1, (X'.ends _).2.mono hc hs, hf⟩⟩
  rw [X.pushThrowing_eq]
  exact st
/-- a thing of a world lies in the heap -/
theorem vx_lt {D : va_G} {cl : List vw_C} {ws : va_W} {H1 : Heap} (h : va_P D cl ws H1) {k : Nat} {q : Nat × va_E} (hk : ws[k]? = some q) : q.1 < H1.size := (h k q hk).lt
end VXS
/-! ===== END ===== -/
/-! ===== BEGIN methods with a table of their own: called by a name, returning or throwing ===== -/
section VXH
/-! vx_backW, vx_callVX, vx_callSX, vx_callVW, vx_runVW, vx_runVX, vx_runSX, vx_ofWH follow the same proofs as their sisters above (Free/Laws.lean, Shelf42/LK1.lean); vx_outP calls Shelf42/NT130.lean (outThrough). -/
section
variable {l : Launch} {R : Room} {p : Program} {e : Env} {below : List Frame} {s : State} {sargs : Array Value} {y : MethodName} {len W9 : Nat}
theorem vx_backW {ws : List Cond} {rm : Room} {Pc : Array Value → State → Prop} {Qc : Array Value → State → Outcome → State → Prop} {XC : String → State → State → Prop} {mc ms : Nat} {free : Addr → Prop} {bytes : ByteArray} {maxL : Nat} {ret : Option FieldType} {hh : List (Nat × Nat × Nat × Nat)}
    (hM : vx_Met l y ws rm Pc Qc XC mc ms free) (hblind : FrameBlind Pc) (hrc : rm.cells = mc) (hrs : rm.slots = ms)
    (hframes : rm.frames + 1 ≤ R.frames) (hlocals : W9 + (maxL + 11) + rm.locals ≤ R.locals)
    (hws : ∀ w ∈ ws, ∀ a' U, s.WarmedH U.vm → w.before a' U = true) (hcode : Cond.codeWith y bytes maxL ret hh ∈ ws) (hinit : ∀ a' U, s.WarmedH U.vm → (Cond.initialized y.cls).before a' U = true) :
    vx_Back l R p e below s sargs y len W9 (PreOf R mc ms Pc) (PostOf Qc mc ms free) (vx_Post XC mc ms free) := by
  intro m meth c A g ig mk a X hg hsize hdg hW hn hp
  have h1 : (headSpec ws rm).pre.before a A.U = true := atoms_intro fun w hw => hws w hw _ _ X.warmed
  have h2 : (Cond.codeWith y bytes maxL ret hh).before a A.U = true := hws _ hcode _ _ X.warmed
  have h3 : (Cond.initialized y.cls).before a A.U = true := hinit _ _ X.warmed
  have h4 : A.cells + (headSpec ws rm).room.cells ≤ R.cells := by rw [show (headSpec ws rm).room.cells = mc from hrc]; exact hp.1
  have h5 : A.slots + (headSpec ws rm).room.slots ≤ R.slots := by rw [show (headSpec ws rm).room.slots = ms from hrs]; exact hp.2.1
  have hPc : Pc a (A.U.calling g mk a) := hblind _ _ _ _ hp.2.2
  obtain ⟨U, Ls, c0, s0⟩ := A
  dsimp only [Pt.U, Pt.locs, Pt.cells, Pt.slots] at h1 h2 h3 h4 h5 X hn hPc ⊢
  obtain ⟨m9, methY, cY, hn9, hmY, hcY, -, hlY, -⟩ := Cond.codeWith_spec h2
  cases Option.some.inj (hn9.symm.trans hn)
  obtain ⟨kY, hkY, -⟩ := className_of_methodNamed hn
  have hinitY : kY.init = .initialized := Cond.initialized_spec (findClass_of_methodNamed hn) hkY h3
  have h : At U g.method c below := by rw [hg]; exact X.here
  have hlocals9 : W9 + (maxL + 11) + (headSpec ws rm).room.locals ≤ R.locals := hlocals
  have happ : (headSpec ws rm).appliesLoose y e.platform (U.calling g mk a) = true :=
    Spec.appliesLoose_calling (g := g) h hdg hn hkY hinitY
      (X.room_calling (g := g) (R' := (headSpec ws rm).room) hsize hmY hcY hframes (by rw [hlY]; omega) h4 h5) h1
  obtain ⟨mid, hmid⟩ := h.above
  have hfr : (U.setTop g).frames = (.java g :: mid) ++ below := by rw [State.frames_setTop' g h.top, hmid]; rfl
  obtain ⟨o, s₂, hsteps, -, hend, hq⟩ := Steps.callFree hM p X.admits X.cas X.clock (acts := []) hfr happ hPc trivial
  have hq' : vx_Q Qc XC mc ms free a (U.calling g mk a) o s₂ := hq
  rw [State.frames_setTop' g h.top] at hend
  obtain ⟨g₀, hg0⟩ := Option.isSome_iff_exists.mp h.top
  obtain ⟨r, hr⟩ := State.topJava?_eq_some.mp hg0
  have hr' : (({ U with heap := s₂.heap, slotsUsed := s₂.slotsUsed } : State).setVm s₂.vm).frames = .java g₀ :: r := hr
  rcases hq' with ⟨hqc, L, hfe, hL⟩ | ⟨q, rfl, E, ce, L, hx, hce, hcv, hcl, hW₂, hsm, hL⟩
  · obtain ⟨⟨v, rfl⟩, hW₂, e2, q2, q3, q4, q5, q6⟩ := id hfe
    have e3 : s₂ = ({ (U.calling g mk a).setFrames s₂.frames with heap := s₂.heap, slotsUsed := s₂.slotsUsed } : State).setVm s₂.vm := by
      have : s₂ = ({ s₂ with vm := (U.calling g mk a).vm } : State).setVm s₂.vm := rfl
      rw [e2] at this
      exact this
    obtain ⟨c₂, i₂, len₂, hc₂, hd₂, hf₂⟩ := hend
    have hW' : U.WarmedH s₂.vm := hW₂
    have hcc : c₂ = c := by
      have h1 : s₂.code? g.method = U.code? g.method := by
        rw [State.code?_eq, State.code?_eq, hW'.alike.method?]
      exact Option.some.inj (hc₂.symm.trans (h1.trans h.code))
    subst hcc
    have hlen : len₂ = len := by rw [hdg] at hd₂; cases hd₂; rfl
    subst hlen
    have hs₂ : s₂ = (({ U with heap := s₂.heap, slotsUsed := s₂.slotsUsed } : State).setVm s₂.vm).setTop { g with pc := g.pc + len₂, stack := v.toList ++ g.stack } := by
      refine e3.trans ?_
      rw [hf₂, State.calling_eq h.top, State.setFrames_setFrames, State.setTop_of_frames _ hr', hr]
      rfl
    have hsame : U.sameButNew ({ U with heap := s₂.heap, slotsUsed := s₂.slotsUsed } : State) L mc ms := by
      refine ⟨?_, q2, q3, q4, q5, q6⟩
      obtain ⟨t, ht, -⟩ := State.frames_cons hr
      show ({ U with heap := s₂.heap, slotsUsed := s₂.slotsUsed } : State) = { U.setFrames U.frames with heap := s₂.heap, slotsUsed := s₂.slotsUsed }
      rw [State.setFrames_self ht]
    subst hg
    refine Or.inl ⟨v, ⟨(({ U with heap := s₂.heap, slotsUsed := s₂.slotsUsed } : State).setVm s₂.vm), Ls ++ L, c0 + mc, s0 + ms⟩,
      ⟨X.admits, X.cas, X.clock, X.frames, X.room, X.hears, X.method, X.code, (X.here.setHeapUsed s₂.heap s₂.slotsUsed).setVm hW'.alike, X.tail, State.WarmedH.trans X.warmed hW', X.limits, X.bytes, X.same.trans (hsame.setVm s.vm)⟩,
      ⟨g, mk, s₂, L, rfl, rfl, hqc, rfl, hL, rfl, rfl⟩, ?_⟩
    show Steps p.tables e below _ ((({ U with heap := s₂.heap, slotsUsed := s₂.slotsUsed } : State).setVm s₂.vm).setTop { g with pc := g.pc + len₂, stack := v.toList ++ g.stack })
    rw [← hs₂]
    exact hsteps
  · obtain ⟨e2, q2, q3, q4, q5, q6⟩ := id hsm
    have e3 : s₂ = ({ (U.calling g mk a).setFrames s₂.frames with heap := s₂.heap, slotsUsed := s₂.slotsUsed } : State).setVm s₂.vm := by
      have : s₂ = ({ s₂ with vm := (U.calling g mk a).vm } : State).setVm s₂.vm := rfl
      rw [e2] at this
      exact this
    have hf₂ : s₂.frames = .throwing q :: .java g :: U.frames.tail := hend
    have hW' : U.WarmedH s₂.vm := hW₂
    have hs₂ : s₂ = ((({ U with heap := s₂.heap, slotsUsed := s₂.slotsUsed } : State).setVm s₂.vm).setTop g).pushFrame (.throwing q) := by
      refine e3.trans ?_
      rw [hf₂, State.calling_eq h.top, State.setFrames_setFrames, State.pushFrame, State.frames_setTop _ hr', State.setTop_of_frames _ hr', State.setFrames_setFrames, hr]
      rfl
    have hsame : U.sameButNew ({ U with heap := s₂.heap, slotsUsed := s₂.slotsUsed } : State) L mc ms := by
      refine ⟨?_, q2, q3, q4, q5, q6⟩
      obtain ⟨t, ht, -⟩ := State.frames_cons hr
      show ({ U with heap := s₂.heap, slotsUsed := s₂.slotsUsed } : State) = { U.setFrames U.frames with heap := s₂.heap, slotsUsed := s₂.slotsUsed }
      rw [State.setFrames_self ht]
    subst hg
    refine Or.inr ⟨q, ⟨(({ U with heap := s₂.heap, slotsUsed := s₂.slotsUsed } : State).setVm s₂.vm), Ls ++ L, c0 + mc, s0 + ms⟩,
      ⟨X.admits, X.cas, X.clock, X.frames, X.room, X.hears, X.method, X.code, (X.here.setHeapUsed s₂.heap s₂.slotsUsed).setVm hW'.alike, X.tail, State.WarmedH.trans X.warmed hW', X.limits, X.bytes, X.same.trans (hsame.setVm s.vm)⟩,
      ⟨g, mk, s₂, L, E, ce, rfl, rfl, hx, hce, hcv, hcl, rfl, hL, rfl, rfl⟩, ?_⟩
    show Steps p.tables e below _ (((({ U with heap := s₂.heap, slotsUsed := s₂.slotsUsed } : State).setVm s₂.vm).setTop g).pushFrame (.throwing q))
    rw [← hs₂]
    exact hsteps
end
variable {p : Program} {l : Launch} {e : Env} {R : Room} {s : State} {m : MethodId} {args : Array Value} {below : List Frame} {meth : Method} {c : Code} {T : State} {H : Heap} {locs : List Loc} {cells slots : Nat}
theorem vx_callVX (X : Stand p l e R s m args below meth c T locs cells slots) (hexec : p.tables.exec = Jvm.exec) {own C : String} {index : Nat} {y : MethodName} {bytes : ByteArray} {maxL : Nat} {ret : Option FieldType} {hh : List (Nat × Nat × Nat × Nat)}
    (hown : s.vm.findClass own = some m.cls) (hlink : (Cond.methodLink own index y).before args s = true) (hinst : (Cond.instanceMethod y).before args s = true) (hsel : (Cond.selects C y y).before args s = true)
    (hcode : (Cond.codeWith y bytes maxL ret hh).before args s = true) (hy : y.cls ≠ "java/lang/invoke/MethodHandle" ∧ y.cls ≠ "java/lang/invoke/VarHandle")
    {W9 : Nat} {Pre : Pt → Array Value → Prop} {Post : Pt → Array Value → Option Value → Pt → Prop} {PostX : Pt → Array Value → Addr → Pt → Prop} (hK : vx_Back l R p e below s args y 3 W9 Pre Post PostX)
    {b : Addr} {cellB : Cell} (hcell : T.heap[b]? = some cellB) (hobj : cellB.vm.isStatics = false) (hcls : s.vm.findClass C = some cellB.cls)
    {g : JFrame} (hg : g.method = m) (hsize : g.locals.size = c.maxLocals) {argsL rest : List Value} (hlen : ∀ sig, parseMethodDescriptor y.desc = some sig → argsL.length = sig.parameters.length)
    (hstack : g.stack = argsL.reverse ++ .ref b :: rest) (hW : 2 * g.monitorRoom + (rest.map fun v => v.category).sum ≤ W9) (hdg : decode c.code g.pc = .ok (.invokevirtual index, 3))
    (hpre : ∀ vm₁, s.WarmedH vm₁ → Pre ⟨T.setVm vm₁, locs, cells, slots⟩ (Value.ref b :: argsL).toArray) :
    (∃ (v : Option Value) (vm₁ : Vm) (B : Pt), s.WarmedH vm₁ ∧ Stand p l e R s m args below meth c B.U B.locs B.cells B.slots ∧ Post ⟨T.setVm vm₁, locs, cells, slots⟩ (Value.ref b :: argsL).toArray v B ∧
      ∀ target, Steps p.tables e below (B.U.setTop { g with pc := g.pc + 3, stack := v.toList ++ rest }) target → Steps p.tables e below (T.setTop g) target) ∨
    (∃ (q : Addr) (vm₁ : Vm) (B : Pt), s.WarmedH vm₁ ∧ Stand p l e R s m args below meth c B.U B.locs B.cells B.slots ∧ PostX ⟨T.setVm vm₁, locs, cells, slots⟩ (Value.ref b :: argsL).toArray q B ∧
      Steps p.tables e below (T.setTop g) ((B.U.setTop { g with stack := rest }).pushFrame (.throwing q))) := by
  obtain ⟨mk, methM, hnamed, hmethM, hstM, habM⟩ := Cond.instanceMethod_spec hinst
  obtain ⟨m8, methM', cM, hn8, hmethM', -, -, -, -, -, -, hsigM⟩ := Cond.codeWith_spec hcode
  cases Option.some.inj (hn8.symm.trans hnamed)
  cases hmethM.symm.trans hmethM'
  obtain ⟨c2, r2, m2, q1, q2, q3, q4, kP, hkP, hkPi⟩ := Cond.selects_spec hsel
  cases hcls.symm.trans q1
  cases (State.methodFound?_of_named hnamed hy).symm.trans q2
  cases hnamed.symm.trans q3
  have hselP : selectMethod e.platform s.vm cellB.cls mk = .method mk := by rw [Launch.admits_selectMethod X.admits]; exact q4
  obtain ⟨vm₁, X₁, hstep₁⟩ := X.invokevirtual hexec hown hlink hnamed hmethM hstM hkP hkPi hy (a := b) (cell := cellB) hcell
    (fun z h => by rw [h] at hobj; cases hobj) hselP hmethM habM hkP hkPi (g := g) hg (argsL := argsL) (rest := rest) (hlen _ hsigM) hstack hdg
  rcases hK m meth c ⟨T.setVm vm₁, locs, cells, slots⟩ { g with stack := rest } (.invokevirtual index) mk (Value.ref b :: argsL).toArray X₁ hg hsize hdg hW (X₁.named hnamed) (hpre vm₁ X₁.warmed) with ⟨v, B, X', hpost, hsteps⟩ | ⟨q, B, X', hpost, hsteps⟩
  · exact Or.inl ⟨v, vm₁, B, X₁.warmed, X', hpost, fun target h => hstep₁ _ fun acts => by rw [doInvoke_state]; exact hsteps.trans h⟩
  · exact Or.inr ⟨q, vm₁, B, X₁.warmed, X', hpost, hstep₁ _ fun acts => by rw [doInvoke_state]; exact hsteps⟩
theorem vx_callSX (X : Stand p l e R s m args below meth c T locs cells slots) (hexec : p.tables.exec = Jvm.exec) {own : String} {index : Nat} {y : MethodName} {bytes : ByteArray} {maxL : Nat} {ret : Option FieldType} {hh : List (Nat × Nat × Nat × Nat)}
    (hown : s.vm.findClass own = some m.cls) (hlink : (Cond.methodLink own index y).before args s = true) (hstat : (Cond.static y).before args s = true) (hinit : (Cond.initialized y.cls).before args s = true)
    (hcode : (Cond.codeWith y bytes maxL ret hh).before args s = true) (hy : y.cls ≠ "java/lang/invoke/MethodHandle" ∧ y.cls ≠ "java/lang/invoke/VarHandle")
    {W9 : Nat} {Pre : Pt → Array Value → Prop} {Post : Pt → Array Value → Option Value → Pt → Prop} {PostX : Pt → Array Value → Addr → Pt → Prop} (hK : vx_Back l R p e below s args y 3 W9 Pre Post PostX)
    {g : JFrame} (hg : g.method = m) (hsize : g.locals.size = c.maxLocals) {argsL rest : List Value} (hlen : ∀ sig, parseMethodDescriptor y.desc = some sig → argsL.length = sig.parameters.length)
    (hstack : g.stack = argsL.reverse ++ rest) (hW : 2 * g.monitorRoom + (rest.map fun v => v.category).sum ≤ W9) (hdg : decode c.code g.pc = .ok (.invokestatic index, 3))
    (hpre : ∀ vm₁, s.WarmedH vm₁ → Pre ⟨T.setVm vm₁, locs, cells, slots⟩ argsL.toArray) :
    (∃ (v : Option Value) (vm₁ : Vm) (B : Pt), s.WarmedH vm₁ ∧ Stand p l e R s m args below meth c B.U B.locs B.cells B.slots ∧ Post ⟨T.setVm vm₁, locs, cells, slots⟩ argsL.toArray v B ∧
      ∀ target, Steps p.tables e below (B.U.setTop { g with pc := g.pc + 3, stack := v.toList ++ rest }) target → Steps p.tables e below (T.setTop g) target) ∨
    (∃ (q : Addr) (vm₁ : Vm) (B : Pt), s.WarmedH vm₁ ∧ Stand p l e R s m args below meth c B.U B.locs B.cells B.slots ∧ PostX ⟨T.setVm vm₁, locs, cells, slots⟩ argsL.toArray q B ∧
      Steps p.tables e below (T.setTop g) ((B.U.setTop { g with stack := rest }).pushFrame (.throwing q))) := by
  obtain ⟨mk, methM, cM, hnamed, hmethM, -, -, -, -, -, -, hsigM⟩ := Cond.codeWith_spec hcode
  have hstatic : methM.isStatic = true := Cond.static_spec hnamed hmethM hstat
  obtain ⟨kP, hkP, -⟩ := className_of_methodNamed hnamed
  have hinitP : kP.init = .initialized := Cond.initialized_spec (findClass_of_methodNamed hnamed) hkP hinit
  obtain ⟨vm₁, X₁, hstep₁⟩ := X.invokestatic hexec hown hlink hnamed hmethM hstatic hkP hinitP hy (g := g) hg (argsL := argsL) (rest := rest) (hlen _ hsigM) hstack hdg
  rcases hK m meth c ⟨T.setVm vm₁, locs, cells, slots⟩ { g with stack := rest } (.invokestatic index) mk argsL.toArray X₁ hg hsize hdg hW (X₁.named hnamed) (hpre vm₁ X₁.warmed) with ⟨v, B, X', hpost, hsteps⟩ | ⟨q, B, X', hpost, hsteps⟩
  · exact Or.inl ⟨v, vm₁, B, X₁.warmed, X', hpost, fun target h => hstep₁ _ fun acts => by rw [doInvoke_state]; exact hsteps.trans h⟩
  · exact Or.inr ⟨q, vm₁, B, X₁.warmed, X', hpost, hstep₁ _ fun acts => by rw [doInvoke_state]; exact hsteps⟩
theorem vx_callVW (X : Stand p l e R s m args below meth c T locs cells slots) (hexec : p.tables.exec = Jvm.exec) {own C : String} {index : Nat} {y : MethodName} {bytes : ByteArray} {maxL : Nat} {ret : Option FieldType} {hh : List (Nat × Nat × Nat × Nat)}
    (hown : s.vm.findClass own = some m.cls) (hlink : (Cond.methodLink own index y).before args s = true) (hinst : (Cond.instanceMethod y).before args s = true) (hsel : (Cond.selects C y y).before args s = true)
    (hcode : (Cond.codeWith y bytes maxL ret hh).before args s = true) (hy : y.cls ≠ "java/lang/invoke/MethodHandle" ∧ y.cls ≠ "java/lang/invoke/VarHandle")
    {W9 : Nat} {Pre : Pt → Array Value → Prop} {Post : Pt → Array Value → Option Value → Pt → Prop} (hK : Back l R p e below s args y 3 W9 Pre Post)
    {b : Addr} {cellB : Cell} (hcell : T.heap[b]? = some cellB) (hobj : cellB.vm.isStatics = false) (hcls : s.vm.findClass C = some cellB.cls)
    {g : JFrame} (hg : g.method = m) (hsize : g.locals.size = c.maxLocals) {argsL rest : List Value} (hlen : ∀ sig, parseMethodDescriptor y.desc = some sig → argsL.length = sig.parameters.length)
    (hstack : g.stack = argsL.reverse ++ .ref b :: rest) (hW : 2 * g.monitorRoom + (rest.map fun v => v.category).sum ≤ W9) (hdg : decode c.code g.pc = .ok (.invokevirtual index, 3))
    (hpre : ∀ vm₁, s.WarmedH vm₁ → Pre ⟨T.setVm vm₁, locs, cells, slots⟩ (Value.ref b :: argsL).toArray) :
    ∃ (v : Option Value) (vm₁ : Vm) (B : Pt), s.WarmedH vm₁ ∧ Stand p l e R s m args below meth c B.U B.locs B.cells B.slots ∧ Post ⟨T.setVm vm₁, locs, cells, slots⟩ (Value.ref b :: argsL).toArray v B ∧
      ∀ target, Steps p.tables e below (B.U.setTop { g with pc := g.pc + 3, stack := v.toList ++ rest }) target → Steps p.tables e below (T.setTop g) target := by
  obtain ⟨mk, methM, hnamed, hmethM, hstM, habM⟩ := Cond.instanceMethod_spec hinst
  obtain ⟨m8, methM', cM, hn8, hmethM', -, -, -, -, -, -, hsigM⟩ := Cond.codeWith_spec hcode
  cases Option.some.inj (hn8.symm.trans hnamed)
  cases hmethM.symm.trans hmethM'
  obtain ⟨c2, r2, m2, q1, q2, q3, q4, kP, hkP, hkPi⟩ := Cond.selects_spec hsel
  cases hcls.symm.trans q1
  cases (State.methodFound?_of_named hnamed hy).symm.trans q2
  cases hnamed.symm.trans q3
  have hselP : selectMethod e.platform s.vm cellB.cls mk = .method mk := by rw [Launch.admits_selectMethod X.admits]; exact q4
  obtain ⟨vm₁, X₁, hstep₁⟩ := X.invokevirtual hexec hown hlink hnamed hmethM hstM hkP hkPi hy (a := b) (cell := cellB) hcell
    (fun z h => by rw [h] at hobj; cases hobj) hselP hmethM habM hkP hkPi (g := g) hg (argsL := argsL) (rest := rest) (hlen _ hsigM) hstack hdg
  obtain ⟨v, B, X', hpost, hsteps⟩ := hK m meth c ⟨T.setVm vm₁, locs, cells, slots⟩ { g with stack := rest } (.invokevirtual index) mk (Value.ref b :: argsL).toArray X₁ hg hsize hdg hW (X₁.named hnamed) (hpre vm₁ X₁.warmed)
  exact ⟨v, vm₁, B, X₁.warmed, X', hpost, fun target h => hstep₁ _ fun acts => by rw [doInvoke_state]; exact hsteps.trans h⟩
abbrev vx_CVW (R : Room) (s : State) (args : Array Value) (own C : String) (index : Nat) (y : MethodName) (bytes : ByteArray) (maxL : Nat) (ret : Option FieldType) (hh : List (Nat × Nat × Nat × Nat)) (ws : List Cond) (rm : Room) (mc ms n : Nat) : Prop :=
  (rm.cells = mc ∧ rm.slots = ms ∧ rm.frames + 1 ≤ R.frames ∧ 8 + (maxL + 11) + rm.locals ≤ R.locals ∧ (∀ w ∈ ws, ∀ (a' : Array Value) (U : State), s.WarmedH U.vm → w.before a' U = true) ∧ Cond.codeWith y bytes maxL ret hh ∈ ws) ∧
  (Cond.codeWith y bytes maxL ret hh).before args s = true ∧ (Cond.initialized y.cls).before args s = true ∧ (y.cls ≠ "java/lang/invoke/MethodHandle" ∧ y.cls ≠ "java/lang/invoke/VarHandle") ∧
  (∀ sig, parseMethodDescriptor y.desc = some sig → n = sig.parameters.length) ∧ (Cond.methodLink own index y).before args s = true ∧ (Cond.instanceMethod y).before args s = true ∧ (Cond.selects C y y).before args s = true
theorem vx_cwVW {own C : String} {index maxL mc ms : Nat} {y : MethodName} {bytes : ByteArray} {ret : Option FieldType} {hh : List (Nat × Nat × Nat × Nat)} {Ts ws ws' : List Cond} {rm : Room} (n : Nat) (ht : ∀ w ∈ Ts, w.before args s = true) (hT : GoodIn Ts (wsV own index C y ws)) (hw : ws = Cond.codeWith y bytes maxL ret hh :: ws') (hrc : rm.cells = mc) (hrs : rm.slots = ms)
    (hd : y.cls = C ∧ y.cls ≠ "java/lang/invoke/MethodHandle" ∧ y.cls ≠ "java/lang/invoke/VarHandle" ∧ (parseMethodDescriptor y.desc).map (fun d => d.parameters.length) = some n) (hR : rm.frames + 1 ≤ R.frames ∧ 8 + (maxL + 11) + rm.locals ≤ R.locals) :
    vx_CVW R s args own C index y bytes maxL ret hh ws rm mc ms n := by
  obtain ⟨hC, hd⟩ := hd
  subst hC
  have ok : ∀ w ∈ wsV own index y.cls y ws, w.before args s = true := fun w h => ht w (hT w h).1
  have hG : GoodIn Ts ws := fun w h => hT w (by unfold wsV; exact List.mem_append_right _ h)
  have hc : Cond.codeWith y bytes maxL ret hh ∈ ws := by rw [hw]; exact List.mem_cons_self
  refine ⟨⟨hrc, hrs, hR.1, hR.2, pay_in ht hG, hc⟩, ht _ (hG _ hc).1, ok _ (by simp [wsV]), ⟨hd.1, hd.2.1⟩, fun sig h => ?_, ok _ (by simp [wsV]), ok _ (by simp [wsV]), ok _ (by simp [wsV])⟩
  have h2 := hd.2.2
  rw [h] at h2
  exact (Option.some.inj h2).symm
theorem vx_runVW {y : MethodName} {bytes cc : ByteArray} {maxL nL mc ms n index : Nat} {ret : Option FieldType} {hh : List (Nat × Nat × Nat × Nat)} {ws : List Cond} {rm : Room} {Pc : Array Value → State → Prop} {Qc : Array Value → State → Outcome → State → Prop} {free : Addr → Prop} {Ts : List Cond} {own C : String} {b : Addr} {As rest : List Value} {g : JFrame}
    (S : CallFix p m c cc nL s args Ts own) (hM : Met l y ws rm Pc Qc mc ms free) (cw : vx_CVW R s args own C index y bytes maxL ret hh ws rm mc ms n) (hp : PreV s H C b Pc As)
    (hg : g.method = m) (hn : As.length = n) (hsize : g.locals.size = nL) (hstack : g.stack = As.reverse ++ .ref b :: rest) (hW : 2 * g.monitorRoom + (rest.map fun v => v.category).sum ≤ 8) (hdg : decode cc g.pc = .ok (.invokevirtual index, 3)) (hf : cells + mc ≤ R.cells ∧ slots + ms ≤ R.slots) :
    va_Run p l e R s m args below meth c H locs cells slots mc ms g rest (Qc (Value.ref b :: As).toArray) free := by
  obtain ⟨⟨hrc, hrs, hfr, hlo, hws, hcw⟩, hcode, hini, hy, hlen, hl, hin, hse⟩ := cw
  have hK : Back l R p e below s args y 3 8 (PreOf R mc ms Pc) (PostOf Qc mc ms free) := va_backW (hh := hh) (bytes := bytes) (maxL := maxL) (ret := ret) hM hp.1 hrc hrs hfr hlo hws hcw (fun a' U hW => word_at hW (Or.inl (by first | rfl | simp [Cond.onTables, Cond.keeps, Cond.steady])) hini)
  obtain ⟨hx, hb, hml, ho, -⟩ := S
  obtain ⟨-, ⟨cellB, hcB, hoB, hclB⟩, hPc⟩ := hp
  intro T hT X
  obtain ⟨v, vm₁, ⟨U', l2, c2, s2⟩, hW₁, X', ⟨g', mk, t, L, e1, e2, hq, h1, hL, h2, h3⟩, st⟩ := vx_callVW X hx (C := C) (hh := hh) (bytes := bytes) (maxL := maxL) (ret := ret) ho hl hin hse hcode hy hK (by rw [hT]; exact hcB) hoB hclB hg (hsize.trans hml.symm) (argsL := As) (rest := rest) (fun sig h => hn.trans (hlen sig h)) hstack hW (by rw [hb]; exact hdg)
    (fun vm₁ hW₁ => ⟨hf.1, hf.2, hPc (T.setVm vm₁) hT hW₁⟩)
  dsimp only [Pt.U, Pt.locs, Pt.cells, Pt.slots] at X' e1 e2 h1 h2 h3 st
  subst h1; subst h2; subst h3
  exact ⟨v, (T.setVm vm₁).calling g' mk (Value.ref b :: As).toArray, t, U', L, hT, X', hL, e1, e2, hq, st⟩
section
variable {y : MethodName} {bytes cc : ByteArray} {maxL nL mc ms n index : Nat} {ret : Option FieldType} {ws : List Cond} {rm : Room} {Pc : Array Value → State → Prop} {Qc : Array Value → State → Outcome → State → Prop} {XC : String → State → State → Prop} {free : Addr → Prop} {Ts : List Cond} {own C : String} {b : Addr} {As rest : List Value} {g : JFrame}
theorem vx_runVX {hh : List (Nat × Nat × Nat × Nat)} (S : CallFix p m c cc nL s args Ts own) (hM : vx_Met l y ws rm Pc Qc XC mc ms free) (cw : vx_CVW R s args own C index y bytes maxL ret hh ws rm mc ms n) (hp : PreV s H C b Pc As)
    (hg : g.method = m) (hn : As.length = n) (hsize : g.locals.size = nL) (hstack : g.stack = As.reverse ++ .ref b :: rest) (hW : 2 * g.monitorRoom + (rest.map fun v => v.category).sum ≤ 8) (hdg : decode cc g.pc = .ok (.invokevirtual index, 3)) (hf : cells + mc ≤ R.cells ∧ slots + ms ≤ R.slots) :
    vx_Run p l e R s m args below meth c H locs cells slots mc ms g rest (Qc (Value.ref b :: As).toArray) XC free := by
  obtain ⟨⟨hrc, hrs, hfr, hlo, hws, hcw⟩, hcode, hini, hy, hlen, hl, hin, hse⟩ := cw
  have hK : vx_Back l R p e below s args y 3 8 (PreOf R mc ms Pc) (PostOf Qc mc ms free) (vx_Post XC mc ms free) := vx_backW (hh := hh) (bytes := bytes) (maxL := maxL) (ret := ret) hM hp.1 hrc hrs hfr hlo hws hcw (fun a' U hW => word_at hW (Or.inl (by first | rfl | simp [Cond.onTables, Cond.keeps, Cond.steady])) hini)
  obtain ⟨hx, hb, hml, ho, -⟩ := S
  obtain ⟨-, ⟨cellB, hcB, hoB, hclB⟩, hPc⟩ := hp
  intro T hT X
  rcases vx_callVX X hx (C := C) (hh := hh) (bytes := bytes) (maxL := maxL) (ret := ret) ho hl hin hse hcode hy hK (by rw [hT]; exact hcB) hoB hclB hg (hsize.trans hml.symm) (argsL := As) (rest := rest) (fun sig h => hn.trans (hlen sig h)) hstack hW (by rw [hb]; exact hdg)
    (fun vm₁ hW₁ => ⟨hf.1, hf.2, hPc (T.setVm vm₁) hT hW₁⟩) with ⟨v, vm₁, ⟨U', l2, c2, s2⟩, hW₁, X', ⟨g', mk, t, L, e1, e2, hq, h1, hL, h2, h3⟩, st⟩ | ⟨q, vm₁, ⟨U', l2, c2, s2⟩, hW₁, X', ⟨g', mk, t, L, E, ce, e1, e2, hq, hce, hcv, hcl, h1, hL, h2, h3⟩, st⟩
  · dsimp only [Pt.U, Pt.locs, Pt.cells, Pt.slots] at X' e1 e2 h1 h2 h3 st
    subst h1; subst h2; subst h3
    exact Or.inl ⟨v, (T.setVm vm₁).calling g' mk (Value.ref b :: As).toArray, t, U', L, hT, X', hL, e1, e2, hq, st⟩
  · dsimp only [Pt.U, Pt.locs, Pt.cells, Pt.slots] at X' e1 e2 h1 h2 h3 st hcl
    subst h1; subst h2; subst h3
    exact Or.inr ⟨q, (T.setVm vm₁).calling g' mk (Value.ref b :: As).toArray, t, U', L, E, ce, hT, X', hL, e1, e2, hq, hce, hcv, vx_cls hW₁ hcl, st⟩
theorem vx_runSX {hh : List (Nat × Nat × Nat × Nat)} (S : CallFix p m c cc nL s args Ts own) (hM : vx_Met l y ws rm Pc Qc XC mc ms free) (cw : vx_CSW R s args own index y bytes maxL ret hh ws rm mc ms n) (hp : PreS s H Pc As)
    (hg : g.method = m) (hn : As.length = n) (hsize : g.locals.size = nL) (hstack : g.stack = As.reverse ++ rest) (hW : 2 * g.monitorRoom + (rest.map fun v => v.category).sum ≤ 8) (hdg : decode cc g.pc = .ok (.invokestatic index, 3)) (hf : cells + mc ≤ R.cells ∧ slots + ms ≤ R.slots) :
    vx_Run p l e R s m args below meth c H locs cells slots mc ms g rest (Qc As.toArray) XC free := by
  obtain ⟨⟨hrc, hrs, hfr, hlo, hws, hcw⟩, hcode, hini, hy, hlen, hl, hstt⟩ := cw
  have hK : vx_Back l R p e below s args y 3 8 (PreOf R mc ms Pc) (PostOf Qc mc ms free) (vx_Post XC mc ms free) := vx_backW (hh := hh) (bytes := bytes) (maxL := maxL) (ret := ret) hM hp.1 hrc hrs hfr hlo hws hcw (fun a' U hW => word_at hW (Or.inl (by first | rfl | simp [Cond.onTables, Cond.keeps, Cond.steady])) hini)
  obtain ⟨hx, hb, hml, ho, -⟩ := S
  intro T hT X
  rcases vx_callSX X hx (hh := hh) (bytes := bytes) (maxL := maxL) (ret := ret) ho hl hstt hini hcode hy hK hg (hsize.trans hml.symm) (argsL := As) (rest := rest) (fun sig h => hn.trans (hlen sig h)) hstack hW (by rw [hb]; exact hdg)
    (fun vm₁ hW₁ => ⟨hf.1, hf.2, hp.2 (T.setVm vm₁) hT hW₁⟩) with ⟨v, vm₁, ⟨U', l2, c2, s2⟩, hW₁, X', ⟨g', mk, t, L, e1, e2, hq, h1, hL, h2, h3⟩, st⟩ | ⟨q, vm₁, ⟨U', l2, c2, s2⟩, hW₁, X', ⟨g', mk, t, L, E, ce, e1, e2, hq, hce, hcv, hcl, h1, hL, h2, h3⟩, st⟩
  · dsimp only [Pt.U, Pt.locs, Pt.cells, Pt.slots] at X' e1 e2 h1 h2 h3 st
    subst h1; subst h2; subst h3
    exact Or.inl ⟨v, (T.setVm vm₁).calling g' mk As.toArray, t, U', L, hT, X', hL, e1, e2, hq, st⟩
  · dsimp only [Pt.U, Pt.locs, Pt.cells, Pt.slots] at X' e1 e2 h1 h2 h3 st hcl
    subst h1; subst h2; subst h3
    exact Or.inr ⟨q, (T.setVm vm₁).calling g' mk As.toArray, t, U', L, E, ce, hT, X', hL, e1, e2, hq, hce, hcv, vx_cls hW₁ hcl, st⟩
end
end VXH
theorem vx_ofWH {l : Launch} {y : MethodName} {ws ws' : List Cond} {rm : Room} {Pc : Array Value → State → Prop} {Qc : Array Value → State → Outcome → State → Prop} {XC : String → State → State → Prop} {mc ms : Nat} {free : Addr → Prop} {cc : ByteArray} {maxL : Nat} {ret : Option FieldType} {hh : List (Nat × Nat × Nat × Nat)}
    (hy : plainName y.cls = true) (hw : ws = Cond.codeWith y cc maxL ret hh :: ws')
    (body : ∀ p e s m args below meth c s₁, BodyLoose p l y (headSpec ws rm) cc maxL ret e s m args below meth c s₁ → c.maxLocals = maxL → Pc args s →
      W p l e (headSpec ws rm).room s m args below meth c s.heap [] 0 0 (vx_MQ below Qc XC args s mc ms free) (entryFrame m args maxL)) : vx_Met l y ws rm Pc Qc XC mc ms free := by
  refine MetFree.of_bodyS (code := cc) (maxLocals := maxL) (ret := ret) hy ?_ ?_
  · intro args s m h hn
    obtain ⟨m9, meth, c, hn9, h1, h2, h3, h4, -, h5, h6, -⟩ := Cond.codeWith_spec (atoms_spec (ws := ws) h _ (by rw [hw]; exact List.mem_cons_self))
    cases hn.symm.trans hn9
    exact ⟨meth, c, h1, h2, h3, h4, h5, h6⟩
  · intro p e s m args below meth c s₁ B hml hP _
    have hh0 : s₁.heap = s.heap := by rw [B.state]; rfl
    obtain ⟨t, a1, o, b1, b2, b3⟩ := body p e s m args below meth c s₁ B hml hP s₁ hh0 (Stand.of_body B)
    exact ⟨t, o, a1, b1, b2, b3⟩
/-! ===== END ===== -/
end
section
/-! ===== BEGIN printed: names, fields, word lists, decode rows ===== -/
def RX0 : String := "FireWards$City"
def TX0 : u_T := fun k => match k with
  | 0 => ("FireWards$City", "size", "I", true)
  | 1 => ("FireWards$City", "x", "[I", true)
  | 2 => ("FireWards$City", "y", "[I", true)
  | 3 => ("FireWards$City", "beside", "[I", true)
  | 4 => ("FireWards$City", "state", "[I", true)
  | 5 => ("FireWards$City", "wood", "[I", true)
  | 6 => ("FireWards$City", "ward", "[I", true)
  | 7 => ("FireWards$City", "fuel", "[I", true)
  | 8 => ("FireWards$City", "warmth", "[I", true)
  | 9 => ("FireWards$City", "wet", "[I", true)
  | 10 => ("FireWards$City", "roof", "[I", true)
  | 11 => ("FireWards$City", "dug", "[Z", true)
  | _ => ("FireWards$City", "blows", "I", false)
def tyX0 : Nat → FieldType := fun k => match k with
  | 0 => .int
  | 1 => .array .int
  | 2 => .array .int
  | 3 => .array .int
  | 4 => .array .int
  | 5 => .array .int
  | 6 => .array .int
  | 7 => .array .int
  | 8 => .array .int
  | 9 => .array .int
  | 10 => .array .int
  | 11 => .array .boolean
  | _ => .int
abbrev wsX00 : List Cond := u_ws RX0 TX0 13
theorem nmX0 : ∀ a, a < 13 → ∀ b, b < 13 → a ≠ b → (TX0 a).2.1 ≠ (TX0 b).2.1 := by decide +kernel
theorem tyX0_ok : ∀ k, k < 13 → parseFieldDescriptor (TX0 k).2.2.1 = some (tyX0 k) := by decide +kernel
abbrev cX0_init : ByteArray := prog_2_method_1_code
def yX0_init : MethodName := ⟨RX0, "<init>", "(II)V"⟩
abbrev cX0_has : ByteArray := prog_2_method_2_code
def yX0_has : MethodName := ⟨RX0, "has", "(I)Z"⟩
abbrev cX0_far : ByteArray := prog_2_method_3_code
def yX0_far : MethodName := ⟨RX0, "far", "(II)I"⟩
abbrev cX0_areBeside : ByteArray := prog_2_method_4_code
def yX0_areBeside : MethodName := ⟨RX0, "areBeside", "(II)Z"⟩
abbrev cX0_build : ByteArray := prog_2_method_5_code
def yX0_build : MethodName := ⟨RX0, "build", "(III)Z"⟩
abbrev cX0_tally : ByteArray := prog_2_method_6_code
def yX0_tally : MethodName := ⟨RX0, "tally", "(I)I"⟩
abbrev cX0_burns : ByteArray := prog_2_method_7_code
def yX0_burns : MethodName := ⟨RX0, "burns", "(I)Z"⟩
abbrev cX0_burningBeside : ByteArray := prog_2_method_8_code
def yX0_burningBeside : MethodName := ⟨RX0, "burningBeside", "(I)Z"⟩
abbrev cX0_wellNear : ByteArray := prog_2_method_9_code
def yX0_wellNear : MethodName := ⟨RX0, "wellNear", "(I)Z"⟩
abbrev cX0_warmUp : ByteArray := prog_2_method_10_code
def yX0_warmUp : MethodName := ⟨RX0, "warmUp", "([I)I"⟩
abbrev cX0_heatAt : ByteArray := prog_2_method_11_code
def yX0_heatAt : MethodName := ⟨RX0, "heatAt", "(I)I"⟩
abbrev cX0_windFrom : ByteArray := prog_2_method_12_code
def yX0_windFrom : MethodName := ⟨RX0, "windFrom", "(I)I"⟩
def RX1 : String := "FireWards$Crews"
def TX1 : u_T := fun k => match k with
  | 0 => ("FireWards$Crews", "ward", "[I", true)
  | 1 => ("FireWards$Crews", "men", "[I", true)
  | 2 => ("FireWards$Crews", "place", "[I", true)
  | 3 => ("FireWards$Crews", "goal", "[I", true)
  | 4 => ("FireWards$Crews", "pulls", "[Z", true)
  | 5 => ("FireWards$Crews", "paid", "[I", true)
  | 6 => ("FireWards$Crews", "quarrels", "[I", true)
  | 7 => ("FireWards$Crews", "saved", "[I", true)
  | _ => ("FireWards$Crews", "size", "I", false)
def tyX1 : Nat → FieldType := fun k => match k with
  | 0 => .array .int
  | 1 => .array .int
  | 2 => .array .int
  | 3 => .array .int
  | 4 => .array .boolean
  | 5 => .array .int
  | 6 => .array .int
  | 7 => .array .int
  | _ => .int
abbrev wsX10 : List Cond := u_ws RX1 TX1 9
theorem nmX1 : ∀ a, a < 9 → ∀ b, b < 9 → a ≠ b → (TX1 a).2.1 ≠ (TX1 b).2.1 := by decide +kernel
theorem tyX1_ok : ∀ k, k < 9 → parseFieldDescriptor (TX1 k).2.2.1 = some (tyX1 k) := by decide +kernel
abbrev cX1_init : ByteArray := prog_3_method_1_code
def yX1_init : MethodName := ⟨RX1, "<init>", "()V"⟩
abbrev cX1_has : ByteArray := prog_3_method_2_code
def yX1_has : MethodName := ⟨RX1, "has", "(I)Z"⟩
abbrev cX1_enlist : ByteArray := prog_3_method_3_code
def yX1_enlist : MethodName := ⟨RX1, "enlist", "(III)I"⟩
abbrev cX1_forget : ByteArray := prog_3_method_4_code
def yX1_forget : MethodName := ⟨RX1, "forget", "(I)V"⟩
abbrev cX1_bound : ByteArray := prog_3_method_5_code
def yX1_bound : MethodName := ⟨RX1, "bound", "(I)I"⟩
abbrev cX1_allQuarrels : ByteArray := prog_3_method_6_code
def yX1_allQuarrels : MethodName := ⟨RX1, "allQuarrels", "()I"⟩
def RX2 : String := "FireWards$FireBreak"
def TX2 : u_T := fun k => match k with
  | 0 => ("FireWards$FireBreak", "kept", "[I", true)
  | 1 => ("FireWards$FireBreak", "keptSize", "I", false)
  | 2 => ("FireWards$FireBreak", "city", "LFireWards$City;", true)
  | 3 => ("FireWards$FireBreak", "size", "I", true)
  | 4 => ("FireWards$FireBreak", "stands", "[Z", true)
  | 5 => ("FireWards$FireBreak", "menaced", "[Z", true)
  | 6 => ("FireWards$FireBreak", "carries", "[Z", true)
  | 7 => ("FireWards$FireBreak", "before", "[I", true)
  | 8 => ("FireWards$FireBreak", "after", "[I", true)
  | 9 => ("FireWards$FireBreak", "cameFrom", "[I", true)
  | 10 => ("FireWards$FireBreak", "queue", "[I", true)
  | 11 => ("FireWards$FireBreak", "queued", "I", false)
  | _ => ("FireWards$FireBreak", "told", "I", false)
def tyX2 : Nat → FieldType := fun k => match k with
  | 0 => .array .int
  | 1 => .int
  | 2 => .object "FireWards$City"
  | 3 => .int
  | 4 => .array .boolean
  | 5 => .array .boolean
  | 6 => .array .boolean
  | 7 => .array .int
  | 8 => .array .int
  | 9 => .array .int
  | 10 => .array .int
  | 11 => .int
  | _ => .int
abbrev wsX20 : List Cond := u_ws RX2 TX2 13
theorem nmX2 : ∀ a, a < 13 → ∀ b, b < 13 → a ≠ b → (TX2 a).2.1 ≠ (TX2 b).2.1 := by decide +kernel
theorem tyX2_ok : ∀ k, k < 13 → parseFieldDescriptor (TX2 k).2.2.1 = some (tyX2 k) := by decide +kernel
abbrev cX2_init : ByteArray := prog_4_method_1_code
def yX2_init : MethodName := ⟨RX2, "<init>", "(LFireWards$City;)V"⟩
abbrev cX2_plan : ByteArray := prog_4_method_2_code
def yX2_plan : MethodName := ⟨RX2, "plan", "(I)V"⟩
abbrev cX2_addRow : ByteArray := prog_4_method_3_code
def yX2_addRow : MethodName := ⟨RX2, "addRow", "()Z"⟩
abbrev cX2_turn : ByteArray := prog_4_method_4_code
def yX2_turn : MethodName := ⟨RX2, "turn", "(II)V"⟩
abbrev cX2_search : ByteArray := prog_4_method_5_code
def yX2_search : MethodName := ⟨RX2, "search", "(I)I"⟩
abbrev cX2_goOnFromEntry : ByteArray := prog_4_method_6_code
def yX2_goOnFromEntry : MethodName := ⟨RX2, "goOnFromEntry", "(I)V"⟩
abbrev cX2_goOnFromExit : ByteArray := prog_4_method_7_code
def yX2_goOnFromExit : MethodName := ⟨RX2, "goOnFromExit", "(I)Z"⟩
abbrev cX2_see : ByteArray := prog_4_method_8_code
def yX2_see : MethodName := ⟨RX2, "see", "(II)V"⟩
abbrev cX2_isInSomeBreak : ByteArray := prog_4_method_9_code
def yX2_isInSomeBreak : MethodName := ⟨RX2, "isInSomeBreak", "(I)Z"⟩
abbrev cX2_keep : ByteArray := prog_4_method_10_code
def yX2_keep : MethodName := ⟨RX2, "keep", "(I)V"⟩
def RX3 : String := "FireWards$Judge"
def TX3 : u_T := fun k => match k with
  | 0 => ("FireWards$Judge", "calls", "Z", false)
  | 1 => ("FireWards$Judge", "pays", "I", false)
  | 2 => ("FireWards$Judge", "known", "[I", true)
  | 3 => ("FireWards$Judge", "waiting", "[I", true)
  | _ => ("FireWards$Judge", "top", "I", false)
def tyX3 : Nat → FieldType := fun k => match k with
  | 0 => .boolean
  | 1 => .int
  | 2 => .array .int
  | 3 => .array .int
  | _ => .int
abbrev wsX30 : List Cond := u_ws RX3 TX3 5
theorem nmX3 : ∀ a, a < 5 → ∀ b, b < 5 → a ≠ b → (TX3 a).2.1 ≠ (TX3 b).2.1 := by decide +kernel
theorem tyX3_ok : ∀ k, k < 5 → parseFieldDescriptor (TX3 k).2.2.1 = some (tyX3 k) := by decide +kernel
abbrev cX3_init : ByteArray := prog_5_method_1_code
def yX3_init : MethodName := ⟨RX3, "<init>", "()V"⟩
abbrev cX3_learn : ByteArray := prog_5_method_2_code
def yX3_learn : MethodName := ⟨RX3, "learn", "(II)V"⟩
abbrev cX3_apply : ByteArray := prog_5_method_3_code
def yX3_apply : MethodName := ⟨RX3, "apply", "(LFireWards$LawBook;I)V"⟩
abbrev cX3_take : ByteArray := prog_5_method_4_code
def yX3_take : MethodName := ⟨RX3, "take", "(I)V"⟩
abbrev cX3_join : ByteArray := prog_5_method_5_code
def yX3_join : MethodName := ⟨RX3, "join", "(III)I"⟩
abbrev cX3_push : ByteArray := prog_5_method_6_code
def yX3_push : MethodName := ⟨RX3, "push", "(I)V"⟩
abbrev cX3_pop : ByteArray := prog_5_method_7_code
def yX3_pop : MethodName := ⟨RX3, "pop", "()I"⟩
def RX4 : String := "FireWards$LawBook"
def TX4 : u_T := fun k => match k with
  | 0 => ("FireWards$LawBook", "code", "[I", true)
  | 1 => ("FireWards$LawBook", "end", "[I", true)
  | 2 => ("FireWards$LawBook", "day", "[I", true)
  | _ => ("FireWards$LawBook", "size", "I", false)
def tyX4 : Nat → FieldType := fun k => match k with
  | 0 => .array .int
  | 1 => .array .int
  | 2 => .array .int
  | _ => .int
abbrev wsX40 : List Cond := u_ws RX4 TX4 4
theorem nmX4 : ∀ a, a < 4 → ∀ b, b < 4 → a ≠ b → (TX4 a).2.1 ≠ (TX4 b).2.1 := by decide +kernel
theorem tyX4_ok : ∀ k, k < 4 → parseFieldDescriptor (TX4 k).2.2.1 = some (tyX4 k) := by decide +kernel
abbrev cX4_init : ByteArray := prog_6_method_1_code
def yX4_init : MethodName := ⟨RX4, "<init>", "()V"⟩
abbrev cX4_enter : ByteArray := prog_6_method_2_code
def yX4_enter : MethodName := ⟨RX4, "enter", "([III)I"⟩
abbrev cX4_begin : ByteArray := prog_6_method_3_code
def yX4_begin : MethodName := ⟨RX4, "begin", "(I)I"⟩
abbrev cX4_inForce : ByteArray := prog_6_method_4_code
def yX4_inForce : MethodName := ⟨RX4, "inForce", "(I)I"⟩
def RX5 : String := "FireWards$LawReader"
def TX5 : u_T := fun k => match k with
  | 0 => ("FireWards$LawReader", "code", "[I", true)
  | 1 => ("FireWards$LawReader", "size", "I", false)
  | 2 => ("FireWards$LawReader", "wrong", "I", false)
  | 3 => ("FireWards$LawReader", "tokens", "LFireWards$Tokens;", true)
  | 4 => ("FireWards$LawReader", "at", "I", false)
  | _ => ("FireWards$LawReader", "now", "I", false)
def tyX5 : Nat → FieldType := fun k => match k with
  | 0 => .array .int
  | 1 => .int
  | 2 => .int
  | 3 => .object "FireWards$Tokens"
  | 4 => .int
  | _ => .int
abbrev wsX50 : List Cond := u_ws RX5 TX5 6
theorem nmX5 : ∀ a, a < 6 → ∀ b, b < 6 → a ≠ b → (TX5 a).2.1 ≠ (TX5 b).2.1 := by decide +kernel
theorem tyX5_ok : ∀ k, k < 6 → parseFieldDescriptor (TX5 k).2.2.1 = some (tyX5 k) := by decide +kernel
abbrev cX5_init : ByteArray := prog_7_method_1_code
def yX5_init : MethodName := ⟨RX5, "<init>", "([B)V"⟩
abbrev cX5_reads : ByteArray := prog_7_method_2_code
def yX5_reads : MethodName := ⟨RX5, "reads", "(I)Z"⟩
abbrev cX5_place : ByteArray := prog_7_method_3_code
def yX5_place : MethodName := ⟨RX5, "place", "()I"⟩
abbrev cX5_readRule : ByteArray := prog_7_method_4_code
def yX5_readRule : MethodName := ⟨RX5, "readRule", "(I)Z"⟩
abbrev cX5_readExpr : ByteArray := prog_7_method_5_code
def yX5_readExpr : MethodName := ⟨RX5, "readExpr", "(I)Z"⟩
abbrev cX5_readTest : ByteArray := prog_7_method_6_code
def yX5_readTest : MethodName := ⟨RX5, "readTest", "(I)Z"⟩
abbrev cX5_readSum : ByteArray := prog_7_method_7_code
def yX5_readSum : MethodName := ⟨RX5, "readSum", "(I)Z"⟩
abbrev cX5_readPart : ByteArray := prog_7_method_8_code
def yX5_readPart : MethodName := ⟨RX5, "readPart", "(I)Z"⟩
abbrev cX5_isNumberOrName : ByteArray := prog_7_method_9_code
def yX5_isNumberOrName : MethodName := ⟨RX5, "isNumberOrName", "()Z"⟩
abbrev cX5_beginsPart : ByteArray := prog_7_method_10_code
def yX5_beginsPart : MethodName := ⟨RX5, "beginsPart", "()Z"⟩
abbrev cX5_faultOfPart : ByteArray := prog_7_method_11_code
def yX5_faultOfPart : MethodName := ⟨RX5, "faultOfPart", "()I"⟩
abbrev cX5_fail : ByteArray := prog_7_method_12_code
def yX5_fail : MethodName := ⟨RX5, "fail", "(I)Z"⟩
abbrev cX5_emit : ByteArray := prog_7_method_13_code
def yX5_emit : MethodName := ⟨RX5, "emit", "(I)V"⟩
abbrev cX5_advance : ByteArray := prog_7_method_14_code
def yX5_advance : MethodName := ⟨RX5, "advance", "()V"⟩
def RX6 : String := "FireWards$Tape"
def TX6 : u_T := fun k => match k with
  | 0 => ("FireWards$Tape", "bytes", "[B", true)
  | _ => ("FireWards$Tape", "size", "I", false)
def tyX6 : Nat → FieldType := fun k => match k with
  | 0 => .array .byte
  | _ => .int
abbrev wsX60 : List Cond := u_ws RX6 TX6 2
theorem nmX6 : ∀ a, a < 2 → ∀ b, b < 2 → a ≠ b → (TX6 a).2.1 ≠ (TX6 b).2.1 := by decide +kernel
theorem tyX6_ok : ∀ k, k < 2 → parseFieldDescriptor (TX6 k).2.2.1 = some (tyX6 k) := by decide +kernel
abbrev cX6_init : ByteArray := prog_8_method_1_code
def yX6_init : MethodName := ⟨RX6, "<init>", "()V"⟩
abbrev cX6_put : ByteArray := prog_8_method_2_code
def yX6_put : MethodName := ⟨RX6, "put", "(I)V"⟩
def RX7 : String := "FireWards$Tokens"
def TX7 : u_T := fun k => match k with
  | 0 => ("FireWards$Tokens", "token", "[I", true)
  | 1 => ("FireWards$Tokens", "place", "[I", true)
  | 2 => ("FireWards$Tokens", "size", "I", false)
  | 3 => ("FireWards$Tokens", "text", "[B", true)
  | 4 => ("FireWards$Tokens", "length", "I", false)
  | _ => ("FireWards$Tokens", "next", "I", false)
def tyX7 : Nat → FieldType := fun k => match k with
  | 0 => .array .int
  | 1 => .array .int
  | 2 => .int
  | 3 => .array .byte
  | 4 => .int
  | _ => .int
abbrev wsX70 : List Cond := u_ws RX7 TX7 6
theorem nmX7 : ∀ a, a < 6 → ∀ b, b < 6 → a ≠ b → (TX7 a).2.1 ≠ (TX7 b).2.1 := by decide +kernel
theorem tyX7_ok : ∀ k, k < 6 → parseFieldDescriptor (TX7 k).2.2.1 = some (tyX7 k) := by decide +kernel
abbrev cX7_init : ByteArray := prog_9_method_1_code
def yX7_init : MethodName := ⟨RX7, "<init>", "([B)V"⟩
abbrev cX7_scan : ByteArray := prog_9_method_2_code
def yX7_scan : MethodName := ⟨RX7, "scan", "(I)V"⟩
abbrev cX7_add : ByteArray := prog_9_method_3_code
def yX7_add : MethodName := ⟨RX7, "add", "(II)V"⟩
abbrev cX7_takeToken : ByteArray := prog_9_method_4_code
def yX7_takeToken : MethodName := ⟨RX7, "takeToken", "(I)I"⟩
abbrev cX7_letterAt : ByteArray := prog_9_method_5_code
def yX7_letterAt : MethodName := ⟨RX7, "letterAt", "(I)Z"⟩
abbrev cX7_digitAt : ByteArray := prog_9_method_6_code
def yX7_digitAt : MethodName := ⟨RX7, "digitAt", "(I)Z"⟩
abbrev cX7_takeNumber : ByteArray := prog_9_method_7_code
def yX7_takeNumber : MethodName := ⟨RX7, "takeNumber", "(I)I"⟩
abbrev cX7_takeWord : ByteArray := prog_9_method_8_code
def yX7_takeWord : MethodName := ⟨RX7, "takeWord", "(I)I"⟩
abbrev cX7_keyword : ByteArray := prog_9_method_9_code
def yX7_keyword : MethodName := ⟨RX7, "keyword", "(I)I"⟩
abbrev cX7_nameWord : ByteArray := prog_9_method_10_code
def yX7_nameWord : MethodName := ⟨RX7, "nameWord", "(I)I"⟩
abbrev cX7_wordIs : ByteArray := prog_9_method_11_code
def yX7_wordIs : MethodName := ⟨RX7, "wordIs", "(Ljava/lang/String;I)Z"⟩
abbrev cX7_signAt : ByteArray := prog_9_method_12_code
def yX7_signAt : MethodName := ⟨RX7, "signAt", "(I)I"⟩
def RX8 : String := "FireWards$Ways"
def TX8 : u_T := fun k => match k with
  | 0 => ("FireWards$Ways", "city", "LFireWards$City;", true)
  | 1 => ("FireWards$Ways", "steps", "[I", true)
  | 2 => ("FireWards$Ways", "queue", "[I", true)
  | _ => ("FireWards$Ways", "queued", "I", false)
def tyX8 : Nat → FieldType := fun k => match k with
  | 0 => .object "FireWards$City"
  | 1 => .array .int
  | 2 => .array .int
  | _ => .int
abbrev wsX80 : List Cond := u_ws RX8 TX8 4
theorem nmX8 : ∀ a, a < 4 → ∀ b, b < 4 → a ≠ b → (TX8 a).2.1 ≠ (TX8 b).2.1 := by decide +kernel
theorem tyX8_ok : ∀ k, k < 4 → parseFieldDescriptor (TX8 k).2.2.1 = some (tyX8 k) := by decide +kernel
abbrev cX8_init : ByteArray := prog_10_method_1_code
def yX8_init : MethodName := ⟨RX8, "<init>", "(LFireWards$City;)V"⟩
abbrev cX8_stepTowards : ByteArray := prog_10_method_2_code
def yX8_stepTowards : MethodName := ⟨RX8, "stepTowards", "(II)I"⟩
abbrev cX8_reckonSteps : ByteArray := prog_10_method_3_code
def yX8_reckonSteps : MethodName := ⟨RX8, "reckonSteps", "(I)V"⟩
abbrev cX8_spread : ByteArray := prog_10_method_4_code
def yX8_spread : MethodName := ⟨RX8, "spread", "(III)V"⟩
def RX9 : String := "FireWards"
def TX9 : u_T := fun k => match k with
  | 0 => ("FireWards", "city", "LFireWards$City;", true)
  | 1 => ("FireWards", "crews", "LFireWards$Crews;", true)
  | 2 => ("FireWards", "tape", "LFireWards$Tape;", true)
  | 3 => ("FireWards", "reader", "LFireWards$LawReader;", true)
  | 4 => ("FireWards", "book", "LFireWards$LawBook;", true)
  | 5 => ("FireWards", "judge", "LFireWards$Judge;", true)
  | 6 => ("FireWards", "ways", "LFireWards$Ways;", true)
  | 7 => ("FireWards", "dam", "LFireWards$FireBreak;", true)
  | 8 => ("FireWards", "fresh", "[I", true)
  | 9 => ("FireWards", "freshSize", "I", false)
  | 10 => ("FireWards", "faultPlace", "I", false)
  | _ => ("FireWards", "hour", "I", false)
def tyX9 : Nat → FieldType := fun k => match k with
  | 0 => .object "FireWards$City"
  | 1 => .object "FireWards$Crews"
  | 2 => .object "FireWards$Tape"
  | 3 => .object "FireWards$LawReader"
  | 4 => .object "FireWards$LawBook"
  | 5 => .object "FireWards$Judge"
  | 6 => .object "FireWards$Ways"
  | 7 => .object "FireWards$FireBreak"
  | 8 => .array .int
  | 9 => .int
  | 10 => .int
  | _ => .int
abbrev wsX90 : List Cond := u_ws RX9 TX9 12
theorem nmX9 : ∀ a, a < 12 → ∀ b, b < 12 → a ≠ b → (TX9 a).2.1 ≠ (TX9 b).2.1 := by decide +kernel
theorem tyX9_ok : ∀ k, k < 12 → parseFieldDescriptor (TX9 k).2.2.1 = some (tyX9 k) := by decide +kernel
abbrev cX9_init : ByteArray := prog_1_method_1_code
def yX9_init : MethodName := ⟨RX9, "<init>", "(II)V"⟩
abbrev cX9_house : ByteArray := prog_1_method_2_code
def yX9_house : MethodName := ⟨RX9, "house", "(III)Z"⟩
abbrev cX9_well : ByteArray := prog_1_method_3_code
def yX9_well : MethodName := ⟨RX9, "well", "(IZ)Z"⟩
abbrev cX9_wind : ByteArray := prog_1_method_4_code
def yX9_wind : MethodName := ⟨RX9, "wind", "(I)I"⟩
abbrev cX9_company : ByteArray := prog_1_method_5_code
def yX9_company : MethodName := ⟨RX9, "company", "(III)I"⟩
abbrev cX9_feed : ByteArray := prog_1_method_6_code
def yX9_feed : MethodName := ⟨RX9, "feed", "(IIIII)I"⟩
abbrev cX9_law : ByteArray := prog_1_method_7_code
def yX9_law : MethodName := ⟨RX9, "law", "(II)I"⟩
abbrev cX9_fault : ByteArray := prog_1_method_8_code
def yX9_fault : MethodName := ⟨RX9, "fault", "()I"⟩
abbrev cX9_light : ByteArray := prog_1_method_9_code
def yX9_light : MethodName := ⟨RX9, "light", "(I)I"⟩
abbrev cX9_send : ByteArray := prog_1_method_10_code
def yX9_send : MethodName := ⟨RX9, "send", "(II)Z"⟩
abbrev cX9_pull : ByteArray := prog_1_method_11_code
def yX9_pull : MethodName := ⟨RX9, "pull", "(II)Z"⟩
abbrev cX9_hours : ByteArray := prog_1_method_12_code
def yX9_hours : MethodName := ⟨RX9, "hours", "(I)I"⟩
abbrev cX9_cell : ByteArray := prog_1_method_13_code
def yX9_cell : MethodName := ⟨RX9, "cell", "(II)I"⟩
abbrev cX9_of : ByteArray := prog_1_method_14_code
def yX9_of : MethodName := ⟨RX9, "of", "(II)I"⟩
abbrev cX9_breaks : ByteArray := prog_1_method_15_code
def yX9_breaks : MethodName := ⟨RX9, "breaks", "(I)I"⟩
abbrev cX9_breaker : ByteArray := prog_1_method_16_code
def yX9_breaker : MethodName := ⟨RX9, "breaker", "(I)I"⟩
abbrev cX9_count : ByteArray := prog_1_method_17_code
def yX9_count : MethodName := ⟨RX9, "count", "(I)I"⟩
abbrev cX9_needCell : ByteArray := prog_1_method_18_code
def yX9_needCell : MethodName := ⟨RX9, "needCell", "(I)V"⟩
abbrev cX9_needCrew : ByteArray := prog_1_method_19_code
def yX9_needCrew : MethodName := ⟨RX9, "needCrew", "(I)V"⟩
abbrev cX9_isWard : ByteArray := prog_1_method_20_code
def yX9_isWard : MethodName := ⟨RX9, "isWard", "(I)Z"⟩
abbrev cX9_order : ByteArray := prog_1_method_21_code
def yX9_order : MethodName := ⟨RX9, "order", "(III)Z"⟩
abbrev cX9_passHour : ByteArray := prog_1_method_22_code
def yX9_passHour : MethodName := ⟨RX9, "passHour", "()V"⟩
abbrev cX9_crewsGo : ByteArray := prog_1_method_23_code
def yX9_crewsGo : MethodName := ⟨RX9, "crewsGo", "()V"⟩
abbrev cX9_giveRoofs : ByteArray := prog_1_method_24_code
def yX9_giveRoofs : MethodName := ⟨RX9, "giveRoofs", "()V"⟩
abbrev cX9_giveRoof : ByteArray := prog_1_method_25_code
def yX9_giveRoof : MethodName := ⟨RX9, "giveRoof", "(I)V"⟩
abbrev cX9_crewsWork : ByteArray := prog_1_method_26_code
def yX9_crewsWork : MethodName := ⟨RX9, "crewsWork", "()V"⟩
abbrev cX9_pullAt : ByteArray := prog_1_method_27_code
def yX9_pullAt : MethodName := ⟨RX9, "pullAt", "(II)V"⟩
abbrev cX9_fireEats : ByteArray := prog_1_method_28_code
def yX9_fireEats : MethodName := ⟨RX9, "fireEats", "()V"⟩
abbrev cX9_putOut : ByteArray := prog_1_method_29_code
def yX9_putOut : MethodName := ⟨RX9, "putOut", "(I)V"⟩
abbrev cX9_leave : ByteArray := prog_1_method_30_code
def yX9_leave : MethodName := ⟨RX9, "leave", "(I)V"⟩
abbrev cX9_ringBells : ByteArray := prog_1_method_31_code
def yX9_ringBells : MethodName := ⟨RX9, "ringBells", "()V"⟩
abbrev cX9_ringBell : ByteArray := prog_1_method_32_code
def yX9_ringBell : MethodName := ⟨RX9, "ringBell", "(III)V"⟩
abbrev cX9_isCalled : ByteArray := prog_1_method_33_code
def yX9_isCalled : MethodName := ⟨RX9, "isCalled", "(IIII)Z"⟩
abbrev cX9_payFor : ByteArray := prog_1_method_34_code
def yX9_payFor : MethodName := ⟨RX9, "payFor", "(II)I"⟩
abbrev cX9_inform : ByteArray := prog_1_method_35_code
def yX9_inform : MethodName := ⟨RX9, "inform", "(III)V"⟩
def RX10 : String := "FireWardsModel"
def TX10 : u_T := fun k => match k with
  | 0 => ("FireWardsModel", "names", "[Ljava/lang/String;", true)
  | 1 => ("FireWardsModel", "code", "I", false)
  | 2 => ("FireWardsModel", "wide", "I", true)
  | 3 => ("FireWardsModel", "high", "I", true)
  | 4 => ("FireWardsModel", "now", "I", false)
  | 5 => ("FireWardsModel", "windTo", "I", false)
  | 6 => ("FireWardsModel", "companies", "I", false)
  | 7 => ("FireWardsModel", "laws", "I", false)
  | 8 => ("FireWardsModel", "taped", "I", false)
  | 9 => ("FireWardsModel", "faultPlace", "I", false)
  | 10 => ("FireWardsModel", "quarrels", "I", false)
  | 11 => ("FireWardsModel", "state", "[I", true)
  | 12 => ("FireWardsModel", "wood", "[I", true)
  | 13 => ("FireWardsModel", "ward", "[I", true)
  | 14 => ("FireWardsModel", "fuel", "[I", true)
  | 15 => ("FireWardsModel", "warmth", "[I", true)
  | 16 => ("FireWardsModel", "wet", "[I", true)
  | 17 => ("FireWardsModel", "roof", "[I", true)
  | 18 => ("FireWardsModel", "hasWell", "[Z", true)
  | 19 => ("FireWardsModel", "own", "[I", true)
  | 20 => ("FireWardsModel", "men", "[I", true)
  | 21 => ("FireWardsModel", "stands", "[I", true)
  | 22 => ("FireWardsModel", "goal", "[I", true)
  | 23 => ("FireWardsModel", "paid", "[I", true)
  | 24 => ("FireWardsModel", "quarrelled", "[I", true)
  | 25 => ("FireWardsModel", "putOut", "[I", true)
  | 26 => ("FireWardsModel", "pulls", "[Z", true)
  | 27 => ("FireWardsModel", "tape", "[I", true)
  | 28 => ("FireWardsModel", "lawDay", "[I", true)
  | 29 => ("FireWardsModel", "ruleMany", "[I", true)
  | 30 => ("FireWardsModel", "ruleFrom", "[I", true)
  | 31 => ("FireWardsModel", "codeRow", "[I", true)
  | 32 => ("FireWardsModel", "stack", "[I", true)
  | 33 => ("FireWardsModel", "isPay", "[Z", true)
  | 34 => ("FireWardsModel", "codes", "I", false)
  | 35 => ("FireWardsModel", "at", "I", false)
  | 36 => ("FireWardsModel", "read", "I", false)
  | 37 => ("FireWardsModel", "token", "I", false)
  | 38 => ("FireWardsModel", "sign", "I", false)
  | 39 => ("FireWardsModel", "begins", "I", false)
  | 40 => ("FireWardsModel", "ends", "I", false)
  | 41 => ("FireWardsModel", "bad", "I", false)
  | 42 => ("FireWardsModel", "badPlace", "I", false)
  | 43 => ("FireWardsModel", "top", "I", false)
  | 44 => ("FireWardsModel", "steps", "[I", true)
  | 45 => ("FireWardsModel", "next", "[I", true)
  | 46 => ("FireWardsModel", "began", "[Z", true)
  | 47 => ("FireWardsModel", "isGone", "[Z", true)
  | 48 => ("FireWardsModel", "cutRow", "[I", true)
  | 49 => ("FireWardsModel", "flow", "[I", true)
  | 50 => ("FireWardsModel", "from", "[I", true)
  | 51 => ("FireWardsModel", "queue", "[I", true)
  | 52 => ("FireWardsModel", "cuts", "I", false)
  | 53 => ("FireWardsModel", "onward", "[I", true)
  | 54 => ("FireWardsModel", "ahead", "[I", true)
  | _ => ("FireWardsModel", "way", "[I", true)
def tyX10 : Nat → FieldType := fun k => match k with
  | 0 => .array (.object "java/lang/String")
  | 1 => .int
  | 2 => .int
  | 3 => .int
  | 4 => .int
  | 5 => .int
  | 6 => .int
  | 7 => .int
  | 8 => .int
  | 9 => .int
  | 10 => .int
  | 11 => .array .int
  | 12 => .array .int
  | 13 => .array .int
  | 14 => .array .int
  | 15 => .array .int
  | 16 => .array .int
  | 17 => .array .int
  | 18 => .array .boolean
  | 19 => .array .int
  | 20 => .array .int
  | 21 => .array .int
  | 22 => .array .int
  | 23 => .array .int
  | 24 => .array .int
  | 25 => .array .int
  | 26 => .array .boolean
  | 27 => .array .int
  | 28 => .array .int
  | 29 => .array .int
  | 30 => .array .int
  | 31 => .array .int
  | 32 => .array .int
  | 33 => .array .boolean
  | 34 => .int
  | 35 => .int
  | 36 => .int
  | 37 => .int
  | 38 => .int
  | 39 => .int
  | 40 => .int
  | 41 => .int
  | 42 => .int
  | 43 => .int
  | 44 => .array .int
  | 45 => .array .int
  | 46 => .array .boolean
  | 47 => .array .boolean
  | 48 => .array .int
  | 49 => .array .int
  | 50 => .array .int
  | 51 => .array .int
  | 52 => .int
  | 53 => .array .int
  | 54 => .array .int
  | _ => .array .int
abbrev wsX100 : List Cond := u_ws RX10 TX10 56
theorem nmX10 : ∀ a, a < 56 → ∀ b, b < 56 → a ≠ b → (TX10 a).2.1 ≠ (TX10 b).2.1 := by decide +kernel
theorem tyX10_ok : ∀ k, k < 56 → parseFieldDescriptor (TX10 k).2.2.1 = some (tyX10 k) := by decide +kernel
abbrev cX10_init : ByteArray := prog_12_method_1_code
def yX10_init : MethodName := ⟨RX10, "<init>", "(II)V"⟩
abbrev cX10_thrown : ByteArray := prog_12_method_2_code
def yX10_thrown : MethodName := ⟨RX10, "thrown", "()I"⟩
abbrev cX10_fail : ByteArray := prog_12_method_3_code
def yX10_fail : MethodName := ⟨RX10, "fail", "()I"⟩
abbrev cX10_isCell : ByteArray := prog_12_method_4_code
def yX10_isCell : MethodName := ⟨RX10, "isCell", "(I)Z"⟩
abbrev cX10_isCompany : ByteArray := prog_12_method_5_code
def yX10_isCompany : MethodName := ⟨RX10, "isCompany", "(I)Z"⟩
abbrev cX10_beside : ByteArray := prog_12_method_6_code
def yX10_beside : MethodName := ⟨RX10, "beside", "(II)I"⟩
abbrev cX10_far : ByteArray := prog_12_method_7_code
def yX10_far : MethodName := ⟨RX10, "far", "(II)I"⟩
abbrev cX10_house : ByteArray := prog_12_method_8_code
def yX10_house : MethodName := ⟨RX10, "house", "(III)Z"⟩
abbrev cX10_well : ByteArray := prog_12_method_9_code
def yX10_well : MethodName := ⟨RX10, "well", "(IZ)Z"⟩
abbrev cX10_wind : ByteArray := prog_12_method_10_code
def yX10_wind : MethodName := ⟨RX10, "wind", "(I)I"⟩
abbrev cX10_company : ByteArray := prog_12_method_11_code
def yX10_company : MethodName := ⟨RX10, "company", "(III)I"⟩
abbrev cX10_feed : ByteArray := prog_12_method_12_code
def yX10_feed : MethodName := ⟨RX10, "feed", "(IIIII)I"⟩
abbrev cX10_byteAt : ByteArray := prog_12_method_13_code
def yX10_byteAt : MethodName := ⟨RX10, "byteAt", "(I)I"⟩
abbrev cX10_isLetter : ByteArray := prog_12_method_14_code
def yX10_isLetter : MethodName := ⟨RX10, "isLetter", "(I)Z"⟩
abbrev cX10_isDigit : ByteArray := prog_12_method_15_code
def yX10_isDigit : MethodName := ⟨RX10, "isDigit", "(I)Z"⟩
abbrev cX10_step : ByteArray := prog_12_method_16_code
def yX10_step : MethodName := ⟨RX10, "step", "()V"⟩
abbrev cX10_isWord : ByteArray := prog_12_method_17_code
def yX10_isWord : MethodName := ⟨RX10, "isWord", "(Ljava/lang/String;)Z"⟩
abbrev cX10_isSign : ByteArray := prog_12_method_18_code
def yX10_isSign : MethodName := ⟨RX10, "isSign", "(I)Z"⟩
abbrev cX10_wrong : ByteArray := prog_12_method_19_code
def yX10_wrong : MethodName := ⟨RX10, "wrong", "(I)V"⟩
abbrev cX10_emit : ByteArray := prog_12_method_20_code
def yX10_emit : MethodName := ⟨RX10, "emit", "(I)V"⟩
abbrev cX10_readLaw : ByteArray := prog_12_method_21_code
def yX10_readLaw : MethodName := ⟨RX10, "readLaw", "()V"⟩
abbrev cX10_readExpression : ByteArray := prog_12_method_22_code
def yX10_readExpression : MethodName := ⟨RX10, "readExpression", "(I)V"⟩
abbrev cX10_readTest : ByteArray := prog_12_method_23_code
def yX10_readTest : MethodName := ⟨RX10, "readTest", "(I)V"⟩
abbrev cX10_readSum : ByteArray := prog_12_method_24_code
def yX10_readSum : MethodName := ⟨RX10, "readSum", "(I)V"⟩
abbrev cX10_readPart : ByteArray := prog_12_method_25_code
def yX10_readPart : MethodName := ⟨RX10, "readPart", "(I)V"⟩
abbrev cX10_law : ByteArray := prog_12_method_26_code
def yX10_law : MethodName := ⟨RX10, "law", "(II)I"⟩
abbrev cX10_fault : ByteArray := prog_12_method_27_code
def yX10_fault : MethodName := ⟨RX10, "fault", "()I"⟩
abbrev cX10_force : ByteArray := prog_12_method_28_code
def yX10_force : MethodName := ⟨RX10, "force", "()I"⟩
abbrev cX10_many : ByteArray := prog_12_method_29_code
def yX10_many : MethodName := ⟨RX10, "many", "(I)I"⟩
abbrev cX10_value : ByteArray := prog_12_method_30_code
def yX10_value : MethodName := ⟨RX10, "value", "(III)I"⟩
abbrev cX10_two : ByteArray := prog_12_method_31_code
def yX10_two : MethodName := ⟨RX10, "two", "(III)I"⟩
abbrev cX10_told : ByteArray := prog_12_method_32_code
def yX10_told : MethodName := ⟨RX10, "told", "(IIII)I"⟩
abbrev cX10_ruled : ByteArray := prog_12_method_33_code
def yX10_ruled : MethodName := ⟨RX10, "ruled", "(ZII)I"⟩
abbrev cX10_isCalled : ByteArray := prog_12_method_34_code
def yX10_isCalled : MethodName := ⟨RX10, "isCalled", "(II)Z"⟩
abbrev cX10_payOf : ByteArray := prog_12_method_35_code
def yX10_payOf : MethodName := ⟨RX10, "payOf", "(II)I"⟩
abbrev cX10_noGoal : ByteArray := prog_12_method_36_code
def yX10_noGoal : MethodName := ⟨RX10, "noGoal", "(IZ)V"⟩
abbrev cX10_ring : ByteArray := prog_12_method_37_code
def yX10_ring : MethodName := ⟨RX10, "ring", "(I)V"⟩
abbrev cX10_light : ByteArray := prog_12_method_38_code
def yX10_light : MethodName := ⟨RX10, "light", "(I)I"⟩
abbrev cX10_aim : ByteArray := prog_12_method_39_code
def yX10_aim : MethodName := ⟨RX10, "aim", "(IIZ)Z"⟩
abbrev cX10_send : ByteArray := prog_12_method_40_code
def yX10_send : MethodName := ⟨RX10, "send", "(II)Z"⟩
abbrev cX10_pull : ByteArray := prog_12_method_41_code
def yX10_pull : MethodName := ⟨RX10, "pull", "(II)Z"⟩
abbrev cX10_isBeside : ByteArray := prog_12_method_42_code
def yX10_isBeside : MethodName := ⟨RX10, "isBeside", "(II)Z"⟩
abbrev cX10_isOpen : ByteArray := prog_12_method_43_code
def yX10_isOpen : MethodName := ⟨RX10, "isOpen", "(II)Z"⟩
abbrev cX10_reckon : ByteArray := prog_12_method_44_code
def yX10_reckon : MethodName := ⟨RX10, "reckon", "(I)V"⟩
abbrev cX10_go : ByteArray := prog_12_method_45_code
def yX10_go : MethodName := ⟨RX10, "go", "(I)V"⟩
abbrev cX10_roofs : ByteArray := prog_12_method_46_code
def yX10_roofs : MethodName := ⟨RX10, "roofs", "()V"⟩
abbrev cX10_isByWell : ByteArray := prog_12_method_47_code
def yX10_isByWell : MethodName := ⟨RX10, "isByWell", "(I)Z"⟩
abbrev cX10_work : ByteArray := prog_12_method_48_code
def yX10_work : MethodName := ⟨RX10, "work", "(I)V"⟩
abbrev cX10_burn : ByteArray := prog_12_method_49_code
def yX10_burn : MethodName := ⟨RX10, "burn", "(I)V"⟩
abbrev cX10_warm : ByteArray := prog_12_method_50_code
def yX10_warm : MethodName := ⟨RX10, "warm", "()V"⟩
abbrev cX10_hours : ByteArray := prog_12_method_51_code
def yX10_hours : MethodName := ⟨RX10, "hours", "(I)I"⟩
abbrev cX10_cell : ByteArray := prog_12_method_52_code
def yX10_cell : MethodName := ⟨RX10, "cell", "(II)I"⟩
abbrev cX10_of : ByteArray := prog_12_method_53_code
def yX10_of : MethodName := ⟨RX10, "of", "(II)I"⟩
abbrev cX10_isSource : ByteArray := prog_12_method_54_code
def yX10_isSource : MethodName := ⟨RX10, "isSource", "(I)Z"⟩
abbrev cX10_stays : ByteArray := prog_12_method_55_code
def yX10_stays : MethodName := ⟨RX10, "stays", "(I)Z"⟩
abbrev cX10_oneMore : ByteArray := prog_12_method_56_code
def yX10_oneMore : MethodName := ⟨RX10, "oneMore", "(I)Z"⟩
abbrev cX10_trace : ByteArray := prog_12_method_57_code
def yX10_trace : MethodName := ⟨RX10, "trace", "(II)V"⟩
abbrev cX10_least : ByteArray := prog_12_method_58_code
def yX10_least : MethodName := ⟨RX10, "least", "(I)I"⟩
abbrev cX10_breaks : ByteArray := prog_12_method_59_code
def yX10_breaks : MethodName := ⟨RX10, "breaks", "(I)I"⟩
abbrev cX10_breaker : ByteArray := prog_12_method_60_code
def yX10_breaker : MethodName := ⟨RX10, "breaker", "(I)I"⟩
abbrev cX10_count : ByteArray := prog_12_method_61_code
def yX10_count : MethodName := ⟨RX10, "count", "(I)I"⟩
def RJ9 : String := "java/lang/Math"
def TJ9 : u_T := fun k => match k with
  | _ => ("", "", "", false)
def tyJ9 : Nat → FieldType := fun k => match k with
  | _ => .int
abbrev wsJ90 : List Cond := u_ws RJ9 TJ9 0
theorem nmJ9 : ∀ a, a < 0 → ∀ b, b < 0 → a ≠ b → (TJ9 a).2.1 ≠ (TJ9 b).2.1 := by decide +kernel
theorem tyJ9_ok : ∀ k, k < 0 → parseFieldDescriptor (TJ9 k).2.2.1 = some (tyJ9 k) := by decide +kernel
abbrev cJ9_abs_0f7a4 : ByteArray := prog_15_method_59_code
def yJ9_abs_0f7a4 : MethodName := ⟨RJ9, "abs", "(I)I"⟩
abbrev cJ9_max_7cf53 : ByteArray := prog_15_method_65_code
def yJ9_max_7cf53 : MethodName := ⟨RJ9, "max", "(II)I"⟩
abbrev cJ9_min_7cf53 : ByteArray := prog_15_method_69_code
def yJ9_min_7cf53 : MethodName := ⟨RJ9, "min", "(II)I"⟩
def RJ0 : String := "java/lang/String"
def TJ0 : u_T := fun k => match k with
  | _ => ("", "", "", false)
def tyJ0 : Nat → FieldType := fun k => match k with
  | _ => .int
abbrev wsJ00 : List Cond := u_ws RJ0 TJ0 0
theorem nmJ0 : ∀ a, a < 0 → ∀ b, b < 0 → a ≠ b → (TJ0 a).2.1 ≠ (TJ0 b).2.1 := by decide +kernel
theorem tyJ0_ok : ∀ k, k < 0 → parseFieldDescriptor (TJ0 k).2.2.1 = some (tyJ0 k) := by decide +kernel
abbrev cJ0_length_8abf5 : ByteArray := prog_17_method_54_code
def yJ0_length_8abf5 : MethodName := ⟨RJ0, "length", "()I"⟩
abbrev cJ0_charAt_5068e : ByteArray := prog_17_method_56_code
def yJ0_charAt_5068e : MethodName := ⟨RJ0, "charAt", "(I)C"⟩
abbrev cJ0_coder_7d493 : ByteArray := prog_17_method_152_code
def yJ0_coder_7d493 : MethodName := ⟨RJ0, "coder", "()B"⟩
abbrev cJ0_isLatin1_aae02 : ByteArray := prog_17_method_154_code
def yJ0_isLatin1_aae02 : MethodName := ⟨RJ0, "isLatin1", "()Z"⟩
abbrev cJ0_checkIndex_df160 : ByteArray := prog_17_method_155_code
def yJ0_checkIndex_df160 : MethodName := ⟨RJ0, "checkIndex", "(II)V"⟩
def RJ1 : String := "java/lang/StringLatin1"
def TJ1 : u_T := fun k => match k with
  | _ => ("", "", "", false)
def tyJ1 : Nat → FieldType := fun k => match k with
  | _ => .int
abbrev wsJ10 : List Cond := u_ws RJ1 TJ1 0
theorem nmJ1 : ∀ a, a < 0 → ∀ b, b < 0 → a ≠ b → (TJ1 a).2.1 ≠ (TJ1 b).2.1 := by decide +kernel
theorem tyJ1_ok : ∀ k, k < 0 → parseFieldDescriptor (TJ1 k).2.2.1 = some (tyJ1 k) := by decide +kernel
abbrev cJ1_charAt_3b067 : ByteArray := prog_18_method_2_code
def yJ1_charAt_3b067 : MethodName := ⟨RJ1, "charAt", "([BI)C"⟩
def RJ2 : String := "java/lang/StringUTF16"
def TJ2 : u_T := fun k => match k with
  | _ => ("", "", "", false)
def tyJ2 : Nat → FieldType := fun k => match k with
  | _ => .int
abbrev wsJ20 : List Cond := u_ws RJ2 TJ2 0
theorem nmJ2 : ∀ a, a < 0 → ∀ b, b < 0 → a ≠ b → (TJ2 a).2.1 ≠ (TJ2 b).2.1 := by decide +kernel
theorem tyJ2_ok : ∀ k, k < 0 → parseFieldDescriptor (TJ2 k).2.2.1 = some (tyJ2 k) := by decide +kernel
abbrev cJ2_getChar_3b067 : ByteArray := prog_19_method_5_code
def yJ2_getChar_3b067 : MethodName := ⟨RJ2, "getChar", "([BI)C"⟩
abbrev cJ2_length_9d52b : ByteArray := prog_19_method_6_code
def yJ2_length_9d52b : MethodName := ⟨RJ2, "length", "([B)I"⟩
abbrev cJ2_charAt_3b067 : ByteArray := prog_19_method_83_code
def yJ2_charAt_3b067 : MethodName := ⟨RJ2, "charAt", "([BI)C"⟩
abbrev cJ2_checkIndex_2214a : ByteArray := prog_19_method_91_code
def yJ2_checkIndex_2214a : MethodName := ⟨RJ2, "checkIndex", "(I[B)V"⟩
def RJ10 : String := "java/lang/System"
def TJ10 : u_T := fun k => match k with
  | _ => ("", "", "", false)
def tyJ10 : Nat → FieldType := fun k => match k with
  | _ => .int
abbrev wsJ100 : List Cond := u_ws RJ10 TJ10 0
theorem nmJ10 : ∀ a, a < 0 → ∀ b, b < 0 → a ≠ b → (TJ10 a).2.1 ≠ (TJ10 b).2.1 := by decide +kernel
theorem tyJ10_ok : ∀ k, k < 0 → parseFieldDescriptor (TJ10 k).2.2.1 = some (tyJ10 k) := by decide +kernel
def RJ7 : String := "java/util/Arrays"
def TJ7 : u_T := fun k => match k with
  | _ => ("", "", "", false)
def tyJ7 : Nat → FieldType := fun k => match k with
  | _ => .int
abbrev wsJ70 : List Cond := u_ws RJ7 TJ7 0
theorem nmJ7 : ∀ a, a < 0 → ∀ b, b < 0 → a ≠ b → (TJ7 a).2.1 ≠ (TJ7 b).2.1 := by decide +kernel
theorem tyJ7_ok : ∀ k, k < 0 → parseFieldDescriptor (TJ7 k).2.2.1 = some (tyJ7 k) := by decide +kernel
abbrev cJ7_fill_53178 : ByteArray := prog_22_method_103_code
def yJ7_fill_53178 : MethodName := ⟨RJ7, "fill", "([II)V"⟩
def RJ3 : String := "jdk/internal/util/Preconditions"
def TJ3 : u_T := fun k => match k with
  | _ => ("", "", "", false)
def tyJ3 : Nat → FieldType := fun k => match k with
  | _ => .int
abbrev wsJ30 : List Cond := u_ws RJ3 TJ3 0
theorem nmJ3 : ∀ a, a < 0 → ∀ b, b < 0 → a ≠ b → (TJ3 a).2.1 ≠ (TJ3 b).2.1 := by decide +kernel
theorem tyJ3_ok : ∀ k, k < 0 → parseFieldDescriptor (TJ3 k).2.2.1 = some (tyJ3 k) := by decide +kernel
abbrev cJ3_checkIndex_8e157 : ByteArray := prog_24_method_11_code
def yJ3_checkIndex_8e157 : MethodName := ⟨RJ3, "checkIndex", "(IILjava/util/function/BiFunction;)I"⟩
def RL : String := "FireWardsLaw"
abbrev cL_cell : ByteArray := method_2_code
def yL_cell : MethodName := ⟨RL, "cell", "([II)I"⟩
abbrev cL_house : ByteArray := method_3_code
def yL_house : MethodName := ⟨RL, "house", "(LFireWards;III[J)I"⟩
abbrev cL_well : ByteArray := method_4_code
def yL_well : MethodName := ⟨RL, "well", "(LFireWards;IZ[J)I"⟩
abbrev cL_wind : ByteArray := method_5_code
def yL_wind : MethodName := ⟨RL, "wind", "(LFireWards;I[J)I"⟩
abbrev cL_company : ByteArray := method_6_code
def yL_company : MethodName := ⟨RL, "company", "(LFireWards;III[J)I"⟩
abbrev cL_law : ByteArray := method_7_code
def yL_law : MethodName := ⟨RL, "law", "(LFireWards;II[J)I"⟩
abbrev cL_light : ByteArray := method_8_code
def yL_light : MethodName := ⟨RL, "light", "(LFireWards;I[J)I"⟩
abbrev cL_send : ByteArray := method_9_code
def yL_send : MethodName := ⟨RL, "send", "(LFireWards;II[J)I"⟩
abbrev cL_pull : ByteArray := method_10_code
def yL_pull : MethodName := ⟨RL, "pull", "(LFireWards;II[J)I"⟩
abbrev cL_hours : ByteArray := method_11_code
def yL_hours : MethodName := ⟨RL, "hours", "(LFireWards;I[J)I"⟩
abbrev cL_cell_ : ByteArray := method_12_code
def yL_cell_ : MethodName := ⟨RL, "cell", "(LFireWards;II[J)I"⟩
abbrev cL_of : ByteArray := method_13_code
def yL_of : MethodName := ⟨RL, "of", "(LFireWards;II[J)I"⟩
abbrev cL_breaks : ByteArray := method_14_code
def yL_breaks : MethodName := ⟨RL, "breaks", "(LFireWards;I[J)I"⟩
abbrev cL_breaker : ByteArray := method_15_code
def yL_breaker : MethodName := ⟨RL, "breaker", "(LFireWards;I[J)I"⟩
abbrev cL_count : ByteArray := method_16_code
def yL_count : MethodName := ⟨RL, "count", "(LFireWards;I[J)I"⟩
abbrev cL_law_ : ByteArray := code
def yL_law_ : MethodName := ⟨RL, "law", "([I)Z"⟩
abbrev vwCl : List vw_C := [(RX0, TX0, 13), (RX1, TX1, 9), (RX2, TX2, 13), (RX3, TX3, 5), (RX4, TX4, 4), (RX5, TX5, 6), (RX6, TX6, 2), (RX7, TX7, 6), (RX8, TX8, 4), (RX9, TX9, 12), (RX10, TX10, 56)]
end
section
/-! AN INTERPRETER over handles, of which the machine is proved once: cells are numbered in the order of their making, references are those numbers; 1000000 is the script, 1000001 + i the i-th string constant. -/
/-- an abstract cell: an array (kind, length, contents) or an object (number of its class, fields) -/
abbrev ai_C : Type := (Nat × vp_A) ⊕ (Nat × List Value)
abbrev ai_H : Type := List ai_C
/-- pc, locals, stack, heap, is the heap's size known, cells and slots made -/
abbrev ai_F : Type := Nat × List (Nat × Value) × List Value × ai_H × Bool × Nat × Nat
/-- returned: value, heap, is its size known, cells, slots; or thrown: the class's name, heap, cells, slots -/
abbrev ai_O : Type := (Option Value × ai_H × Bool × Nat × Nat) ⊕ (String × ai_H × Nat × Nat)
/-- an instruction: pc, what it is, where it may jump to -/
abbrev ai_I : Type := Nat × Instr × List Nat
/-- the links of a class by pool number: fields (class, place, kind), classes made, strings, methods (number, arguments), exceptions -/
abbrev ai_L : Type := List (Nat × Nat × Nat × Nat) × List (Nat × Nat) × List (Nat × Nat) × List (Nat × Nat × Nat) × List (Nat × String)
def ai_as {β : Type} : List (Nat × β) → Nat → Option β
  | [], _ => none
  | (j, b) :: r, i => if j = i then some b else ai_as r i
/-- a local is stored -/
def ai_sl : List (Nat × Value) → Nat → Value → List (Nat × Value)
  | [], i, v => [(i, v)]
  | (j, w) :: r, i, v => if j = i then (i, v) :: r.filter (fun q => !(q.1 == i)) else (j, w) :: ai_sl r i v
def ai_c1 (lv : List (Nat × Value)) : Bool := lv.all (fun q => q.2.category == 1)
def ai_sz (k : Nat) (z : Nat) : Option vp_A := match k with
  | 0 => some (z, .inl (fun _ => 0))
  | 1 => some (z, .inl (fun _ => 0))
  | 2 => some (z, .inl (fun _ => 0))
  | 3 => some (z, .inr (.inl (fun _ => 0)))
  | _ => none
def ai_kd : ArrayType → Nat := fun a => if a = .int then 0 else if a = .boolean then 1 else if a = .byte then 2 else if a = .long then 3 else 9
def ai_ty : Nat → FieldType := fun k => match k with
  | 0 => .int
  | 1 => .boolean
  | 2 => .byte
  | 3 => .long
  | _ => .object "java/lang/String"
/-- an index within -/
def ai_in (i : Int32) (n : Nat) : Bool := !(decide (i < 0)) && decide (i.toNatClampNeg < n)
def ai_def (ci : Nat) : List Value := match ci with
  | 0 => [.int 0, .null, .null, .null, .null, .null, .null, .null, .null, .null, .null, .null, .int 0]
  | 1 => [.null, .null, .null, .null, .null, .null, .null, .null, .int 0]
  | 2 => [.null, .int 0, .null, .int 0, .null, .null, .null, .null, .null, .null, .null, .int 0, .int 0]
  | 3 => [.int 0, .int 0, .null, .null, .int 0]
  | 4 => [.null, .null, .null, .int 0]
  | 5 => [.null, .int 0, .int 0, .null, .int 0, .int 0]
  | 6 => [.null, .int 0]
  | 7 => [.null, .null, .int 0, .null, .int 0, .int 0]
  | 8 => [.null, .null, .null, .int 0]
  | 9 => [.null, .null, .null, .null, .null, .null, .null, .null, .null, .int 0, .int 0, .int 0]
  | _ => (List.range 56).map (fun k => defaultValue (tyX10 k))
def ai_push (v : Value) (n : Nat) : ai_F → Option ai_F
  | (pc, lv, st, r) => some (pc + n, lv, v :: st, r)
def ai_ld (n i : Nat) : ai_F → Option ai_F
  | (pc, lv, st, r) => match ai_as lv i with
    | some (.int x) => some (pc + n, lv, .int x :: st, r)
    | _ => none
def ai_lda (n i : Nat) : ai_F → Option ai_F
  | (pc, lv, st, r) => match ai_as lv i with
    | some (.ref x) => some (pc + n, lv, .ref x :: st, r)
    | _ => none
def ai_sto (nL n i : Nat) : ai_F → Option ai_F
  | (pc, lv, .int x :: st, r) => if i < nL ∧ ai_c1 lv = true then some (pc + n, ai_sl lv i (.int x), st, r) else none
  | _ => none
def ai_sta (nL n i : Nat) : ai_F → Option ai_F
  | (pc, lv, .ref x :: st, r) => if i < nL ∧ ai_c1 lv = true then some (pc + n, ai_sl lv i (.ref x), st, r) else none
  | _ => none
def ai_inc (nL i : Nat) (d : Int) : ai_F → Option ai_F
  | (pc, lv, st, r) => match ai_as lv i with
    | some (.int x) => if i < nL ∧ ai_c1 lv = true then some (pc + 3, ai_sl lv i (.int (x + Int32.ofInt d)), st, r) else none
    | _ => none
def ai_bin (f : Int32 → Int32 → Int32) : ai_F → Option ai_F
  | (pc, lv, .int y :: .int x :: st, r) => some (pc + 1, lv, .int (f x y) :: st, r)
  | _ => none
def ai_dv (f : Int32 → Int32 → Int32) : ai_F → Option ai_F
  | (pc, lv, .int y :: .int x :: st, r) => if y = 0 then none else some (pc + 1, lv, .int (f x y) :: st, r)
  | _ => none
def ai_cp (o : ClassFile.Cond) (x y : Int32) : Bool := match o with
  | .eq => decide (x = y)
  | .ne => !decide (x = y)
  | .lt => decide (x < y)
  | .ge => decide (y ≤ x)
  | .gt => decide (y < x)
  | .le => decide (x ≤ y)
def ai_if (o : ClassFile.Cond) (tg : List Nat) : ai_F → Option ai_F
  | (pc, lv, .int x :: st, r) => match tg with
    | [t] => if ai_cp o x 0 = true then some (t, lv, st, r) else some (pc + 3, lv, st, r)
    | _ => none
  | _ => none
def ai_ic (o : ClassFile.Cond) (tg : List Nat) : ai_F → Option ai_F
  | (pc, lv, .int y :: .int x :: st, r) => match tg with
    | [t] => if ai_cp o x y = true then some (t, lv, st, r) else some (pc + 3, lv, st, r)
    | _ => none
  | _ => none
def ai_go (tg : List Nat) : ai_F → Option ai_F
  | (_, lv, st, r) => match tg with
    | [t] => some (t, lv, st, r)
    | _ => none
def ai_tb (lo hi : Int) (tg : List Nat) : ai_F → Option ai_F
  | (_, lv, .int x :: st, r) => if x.toInt < lo ∨ hi < x.toInt then (match tg[0]? with
    | some t => some (t, lv, st, r)
    | none => none) else match tg[(x.toInt - lo).toNat + 1]? with
    | some t => some (t, lv, st, r)
    | none => none
  | _ => none
def ai_i2l : ai_F → Option ai_F
  | (pc, lv, .int x :: st, r) => some (pc + 1, lv, .long x.toInt64 :: st, r)
  | _ => none
def ai_i2b : ai_F → Option ai_F
  | (pc, lv, .int x :: st, r) => some (pc + 1, lv, .int x.toInt8.toInt32 :: st, r)
  | _ => none
def ai_lcmp : ai_F → Option ai_F
  | (pc, lv, .long y :: .long x :: st, r) => some (pc + 1, lv, .int (lg_cmp x y) :: st, r)
  | _ => none
def ai_dup : ai_F → Option ai_F
  | (pc, lv, v :: st, r) => if v.category = 1 then some (pc + 1, lv, v :: v :: st, r) else none
  | _ => none
def ai_dup2 : ai_F → Option ai_F
  | (pc, lv, v :: w :: st, r) => if v.category = 1 ∧ w.category = 1 then some (pc + 1, lv, v :: w :: v :: w :: st, r) else none
  | _ => none
def ai_pop : ai_F → Option ai_F
  | (pc, lv, v :: st, r) => if v.category = 1 then some (pc + 1, lv, st, r) else none
  | _ => none
def ai_get (K : ai_L) (ix : Nat) : ai_F → Option ai_F
  | (pc, lv, .ref a :: st, h, r) => match ai_as K.1 ix with
    | some (ci, k, _) => match h[a]? with
      | some (.inr (cj, fs)) => if ci = cj then (match fs[k]? with
        | some v => some (pc + 3, lv, v :: st, h, r)
        | none => none) else none
      | _ => none
    | none => none
  | _ => none
/-- may the value stand in a field of the kind: 0 an int, 1 a boolean, 2 a reference -/
def ai_vk (kd : Nat) (v : Value) : Bool := match kd, v with
  | 0, .int _ => true
  | 1, .int x => decide (x = 0) || decide (x = 1)
  | 2, .ref _ => true
  | _, _ => false
def ai_put (K : ai_L) (ix : Nat) : ai_F → Option ai_F
  | (pc, lv, v :: .ref a :: st, h, r) => match ai_as K.1 ix with
    | some (ci, k, kd) => match h[a]? with
      | some (.inr (cj, fs)) => if ci = cj ∧ k < fs.length ∧ ai_vk kd v = true then some (pc + 3, lv, st, h.set a (.inr (cj, fs.set k v)), r) else none
      | _ => none
    | none => none
  | _ => none
def ai_ial (X : Nat × (Nat → Int32)) : ai_F → Option ai_F
  | (pc, lv, .int i :: .ref a :: st, h, r) => if a = 1000000 then (if ai_in i X.1 = true then some (pc + 1, lv, .int (X.2 i.toNatClampNeg) :: st, h, r) else none) else match h[a]? with
    | some (.inl (0, n, .inl f)) => if ai_in i n = true then some (pc + 1, lv, .int (f i.toNatClampNeg) :: st, h, r) else none
    | _ => none
  | _ => none
def ai_bal : ai_F → Option ai_F
  | (pc, lv, .int i :: .ref a :: st, h, r) => match h[a]? with
    | some (.inl (1, n, .inl f)) => if ai_in i n = true then some (pc + 1, lv, .int (f i.toNatClampNeg) :: st, h, r) else none
    | some (.inl (2, n, .inl f)) => if ai_in i n = true then some (pc + 1, lv, .int (f i.toNatClampNeg) :: st, h, r) else none
    | _ => none
  | _ => none
def ai_lal : ai_F → Option ai_F
  | (pc, lv, .int i :: .ref a :: st, h, r) => match h[a]? with
    | some (.inl (3, n, .inr (.inl f))) => if ai_in i n = true then some (pc + 1, lv, .long (f i.toNatClampNeg) :: st, h, r) else none
    | _ => none
  | _ => none
def ai_ias : ai_F → Option ai_F
  | (pc, lv, .int x :: .int i :: .ref a :: st, h, r) => match h[a]? with
    | some (.inl (0, n, .inl f)) => if ai_in i n = true then some (pc + 1, lv, st, h.set a (.inl (0, n, .inl (upd f i.toNatClampNeg x))), r) else none
    | _ => none
  | _ => none
def ai_bas : ai_F → Option ai_F
  | (pc, lv, .int x :: .int i :: .ref a :: st, h, r) => match h[a]? with
    | some (.inl (1, n, .inl f)) => if ai_in i n = true then some (pc + 1, lv, st, h.set a (.inl (1, n, .inl (upd f i.toNatClampNeg (vp_nar .boolean x)))), r) else none
    | some (.inl (2, n, .inl f)) => if ai_in i n = true then some (pc + 1, lv, st, h.set a (.inl (2, n, .inl (upd f i.toNatClampNeg (vp_nar .byte x)))), r) else none
    | _ => none
  | _ => none
def ai_las : ai_F → Option ai_F
  | (pc, lv, .long x :: .int i :: .ref a :: st, h, r) => match h[a]? with
    | some (.inl (3, n, .inr (.inl f))) => if ai_in i n = true then some (pc + 1, lv, st, h.set a (.inl (3, n, .inr (.inl (vp_updL f i.toNatClampNeg x)))), r) else none
    | _ => none
  | _ => none
def ai_len (X : Nat × (Nat → Int32)) : ai_F → Option ai_F
  | (pc, lv, .ref a :: st, h, r) => if a = 1000000 then some (pc + 1, lv, .int (Int32.ofNat X.1) :: st, h, r) else match h[a]? with
    | some (.inl (k, x)) => if k < 5 then some (pc + 1, lv, .int (Int32.ofNat x.1) :: st, h, r) else none
    | _ => none
  | _ => none
def ai_new (K : ai_L) (ix : Nat) : ai_F → Option ai_F
  | (pc, lv, st, h, ex, nc, ns) => match ai_as K.2.1 ix with
    | some ci => if ex = true ∧ h.length < 1000000 then some (pc + 3, lv, .ref h.length :: st, h ++ [.inr (ci, ai_def ci)], true, nc + 1, ns + (ai_def ci).length) else none
    | none => none
def ai_nwa (t : ArrayType) : ai_F → Option ai_F
  | (pc, lv, .int n :: st, h, ex, nc, ns) => match ai_sz (ai_kd t) n.toNatClampNeg with
    | some x => if ex = true ∧ h.length < 1000000 ∧ ¬ n < 0 ∧ n.toNatClampNeg ≤ 60000000 then some (pc + 2, lv, .ref h.length :: st, h ++ [.inl (ai_kd t, x)], true, nc + 1, ns + n.toNatClampNeg) else none
    | none => none
  | _ => none
def ai_nws : ai_F → Option ai_F
  | (pc, lv, .int n :: st, h, ex, nc, ns) => if ex = true ∧ h.length < 1000000 ∧ ¬ n < 0 ∧ n.toNatClampNeg ≤ 60000000 then some (pc + 3, lv, .ref h.length :: st, h ++ [.inl (4, n.toNatClampNeg, .inr (.inr (.inr (.inr (fun _ => none)))))], true, nc + 1, ns + n.toNatClampNeg) else none
  | _ => none
def ai_ldc (K : ai_L) (ix : Nat) : ai_F → Option ai_F
  | (pc, lv, st, r) => match ai_as K.2.2.1 ix with
    | some i => some (pc + 2, lv, .ref (1000001 + i) :: st, r)
    | none => none
def ai_aas (NS : Nat) : ai_F → Option ai_F
  | (pc, lv, .ref v :: .int i :: .ref a :: st, h, r) => match h[a]? with
    | some (.inl (4, n, .inr (.inr (.inr (.inr f))))) => if ai_in i n = true ∧ 1000001 ≤ v ∧ v < 1000001 + NS then some (pc + 1, lv, st, h.set a (.inl (4, n, .inr (.inr (.inr (.inr (va_up f i.toNatClampNeg (some v))))))), r) else none
    | _ => none
  | _ => none
def ai_aal : ai_F → Option ai_F
  | (pc, lv, .int i :: .ref a :: st, h, r) => match h[a]? with
    | some (.inl (4, n, .inr (.inr (.inr (.inr f))))) => if ai_in i n = true then some (pc + 1, lv, va_rf (f i.toNatClampNeg) :: st, h, r) else none
    | _ => none
  | _ => none
def ai_sum (st : List Value) : Nat := (st.map fun v => v.category).sum
/-- Object's constructor -/
def ai_obj (K : ai_L) (ix : Nat) : ai_F → Option ai_F
  | (pc, lv, .ref _ :: st, r) => match ai_as K.2.2.2.1 ix with
    | some (q, _) => if q = 0 ∧ ai_sum st ≤ 8 then some (pc + 3, lv, st, r) else none
    | none => none
  | _ => none
/-- System.arraycopy of ints -/
def ai_cpy (K : ai_L) (ix : Nat) : ai_F → Option ai_F
  | (pc, lv, .int n :: .int dp :: .ref a :: .int sp :: .ref a0 :: st, h, r) => match ai_as K.2.2.2.1 ix with
    | some (q, _) => match h[a0]? with
      | some (.inl (0, n0, .inl f)) => match h[a]? with
        | some (.inl (0, n1, .inl g)) => if q = 0 ∧ ¬ sp < 0 ∧ ¬ dp < 0 ∧ ¬ n < 0 ∧ sp.toNatClampNeg + n.toNatClampNeg ≤ n0 ∧ dp.toNatClampNeg + n.toNatClampNeg ≤ n1 ∧ ai_sum st ≤ 8 then some (pc + 3, lv, st, h.set a (.inl (0, n1, .inl (va_cpy f g sp.toNatClampNeg dp.toNatClampNeg n.toNatClampNeg))), r) else none
        | _ => none
      | _ => none
    | none => none
  | _ => none
def ai_mm (f : Int32 → Int32 → Int32) : ai_F → Option ai_F
  | (pc, lv, .int y :: .int x :: st, r) => if ai_sum st ≤ 8 then some (pc + 3, lv, .int (f x y) :: st, r) else none
  | _ => none
def ai_ab : ai_F → Option ai_F
  | (pc, lv, .int x :: st, r) => if ai_sum st ≤ 8 then some (pc + 3, lv, .int (if 0 ≤ x then x else 0 - x) :: st, r) else none
  | _ => none
/-- the JDK's own static methods that are steps here: 2 Math.min, 3 Math.max, 1 Math.abs, else System.arraycopy -/
def ai_nat (K : ai_L) (ix : Nat) (fr : ai_F) : Option ai_F := match ai_as K.2.2.2.1 ix with
  | some (0, 2) => ai_mm (fun x y => if y < x then y else x) fr
  | some (0, 3) => ai_mm (fun x y => if x < y then y else x) fr
  | some (0, 1) => ai_ab fr
  | _ => ai_cpy K ix fr
/-- one step of an instruction that calls nothing and stays in the method -/
def ai_st (K : ai_L) (X : Nat × (Nat → Int32)) (nL NS : Nat) (i : Instr) (tg : List Nat) : ai_F → Option ai_F := match i with
  | .iconst n => ai_push (.int (Int32.ofInt n)) 1
  | .bipush n => ai_push (.int (Int8.ofInt n).toInt32) 2
  | .sipush n => ai_push (.int (Int16.ofInt n).toInt32) 3
  | .lconst n => ai_push (.long (Int64.ofNat n)) 1
  | .iload_n k => ai_ld 1 k
  | .iload k => ai_ld 2 k
  | .aload_n k => ai_lda 1 k
  | .aload k => ai_lda 2 k
  | .istore_n k => ai_sto nL 1 k
  | .istore k => ai_sto nL 2 k
  | .astore_n k => ai_sta nL 1 k
  | .astore k => ai_sta nL 2 k
  | .iinc k d => ai_inc nL k d
  | .iadd => ai_bin (fun x y => x + y)
  | .isub => ai_bin (fun x y => x - y)
  | .imul => ai_bin (fun x y => x * y)
  | .iand => ai_bin (fun x y => x &&& y)
  | .ishr => ai_bin (fun x y => x >>> (y &&& 31))
  | .idiv => ai_dv (fun x y => x / y)
  | .irem => ai_dv (fun x y => x - x / y * y)
  | .i2l => ai_i2l
  | .i2b => ai_i2b
  | .lcmp => ai_lcmp
  | .dup => ai_dup
  | .dup2 => ai_dup2
  | .pop => ai_pop
  | .ifCond o _ => ai_if o tg
  | .if_icmp o _ => ai_ic o tg
  | .goto _ => ai_go tg
  | .tableswitch _ lo hi _ => ai_tb lo hi tg
  | .getfield ix => ai_get K ix
  | .putfield ix => ai_put K ix
  | .iaload => ai_ial X
  | .baload => ai_bal
  | .laload => ai_lal
  | .iastore => ai_ias
  | .bastore => ai_bas
  | .lastore => ai_las
  | .arraylength => ai_len X
  | .new ix => ai_new K ix
  | .newarray t => ai_nwa t
  | .anewarray _ => ai_nws
  | .ldc ix => ai_ldc K ix
  | .aastore => ai_aas NS
  | .aaload => ai_aal
  | .invokespecial ix => ai_obj K ix
  | .invokestatic ix => ai_nat K ix
  | _ => fun _ => none
/-- the world that the handles speak of -/
def ai_v (ad : Nat → Nat) : Value → Value
  | .ref a => .ref (ad a)
  | v => v
def ai_a (ad : Nat → Nat) : vp_A → vp_A
  | (n, .inr (.inr (.inr (.inr f)))) => (n, .inr (.inr (.inr (.inr (fun j => (f j).map ad)))))
  | (n, .inl f) => (n, .inl f)
  | (n, .inr (.inl f)) => (n, .inr (.inl f))
  | (n, .inr (.inr (.inl f))) => (n, .inr (.inr (.inl f)))
  | (n, .inr (.inr (.inr (.inl f)))) => (n, .inr (.inr (.inr (.inl f))))
def ai_ce (ad : Nat → Nat) (dA : Nat → ClassId) : ai_C → va_E
  | .inl (k, x) => .inl (dA k, ai_a ad x)
  | .inr (ci, fs) => .inr (ci, fs.map (ai_v ad))
def ai_w (ad : Nat → Nat) (dA : Nat → ClassId) (z0 : Nat) (h : ai_H) : va_W := h.mapIdx (fun k x => (z0 + k, ai_ce ad dA x))
def ai_tys (dA : Nat → ClassId) : List (ClassId × FieldType) := [(dA 0, .int), (dA 1, .boolean), (dA 2, .byte), (dA 3, .long), (dA 4, .object "java/lang/String")]
/-- the heap holds the handles' cells from z0 on, and is as it was below -/
def ai_R (D : va_G) (ad : Nat → Nat) (dA : Nat → ClassId) (z0 : Nat) (Hb : Heap) (h : ai_H) (H : Heap) : Prop :=
  va_P D vwCl (ai_w ad dA z0 h) H ∧ h.length ≤ 1000000 ∧ z0 ≤ H.size ∧ ∀ q, q < z0 → H[q]? = Hb[q]?
def ai_lv (ad : Nat → Nat) (lv : List (Nat × Value)) : List (Nat × Value) := lv.map (fun q => (q.1, ai_v ad q.2))
/-- the machine goes on well from this frame; n0: how many cells there were at the method's entry -/
def ai_W (p : Program) (l : Launch) (e : Env) (R : Room) (s : State) (m : MethodId) (args : Array Value) (below : List Frame) (meth : Method) (c : Code) (Q : State → Prop) (nL : Nat) (D : va_G) (ad : Nat → Nat) (dA : Nat → ClassId) (z0 : Nat) (Hb : Heap) (n0 : Nat) (fr : ai_F) : Prop := match fr with
  | (pc, lv, st, h, ex, nc, ns) => ∀ (H : Heap) (locs : List Loc) (ls : Array Slot), ai_R D ad dA z0 Hb h H → (ex = true → h.length = n0 + nc ∧ s.heap.size = z0 + n0) → va_S (fun q : Nat => z0 ≤ q) s.heap H locs → lv_has ls nL (ai_lv ad lv) → W p l e R s m args below meth c H locs nc ns Q (F0 m pc ls (st.map (ai_v ad)))
theorem ai_w_get {ad : Nat → Nat} {dA : Nat → ClassId} {z0 : Nat} {h : ai_H} {k : Nat} {x : ai_C} (hk : h[k]? = some x) : (ai_w ad dA z0 h)[k]? = some (z0 + k, ai_ce ad dA x) := by
  simp [ai_w, hk]
theorem ai_w_set {ad : Nat → Nat} {dA : Nat → ClassId} {z0 : Nat} {h : ai_H} {k : Nat} {x : ai_C} : ai_w ad dA z0 (h.set k x) = (ai_w ad dA z0 h).set k (z0 + k, ai_ce ad dA x) := by
  simp [ai_w, List.mapIdx_set]
theorem ai_w_push {ad : Nat → Nat} {dA : Nat → ClassId} {z0 : Nat} {h : ai_H} {x : ai_C} : ai_w ad dA z0 (h ++ [x]) = ai_w ad dA z0 h ++ [(z0 + h.length, ai_ce ad dA x)] := by
  simp [ai_w]
theorem ai_w_D {ad : Nat → Nat} {dA : Nat → ClassId} {z0 : Nat} {h : ai_H} : va_D (fun q : Nat => z0 ≤ q) (ai_w ad dA z0 h) := by
  have key : ∀ (k : Nat) (q : Nat × va_E), (ai_w ad dA z0 h)[k]? = some q → q.1 = z0 + k := by
    intro k q hq
    simp only [ai_w, List.getElem?_mapIdx, Option.map_eq_some_iff] at hq
    obtain ⟨x, -, rfl⟩ := hq
    rfl
  refine ⟨fun i j x y hi hj e => ?_, fun k q hq => ?_⟩
  · have h1 := key i x hi
    have h2 := key j y hj
    omega
  · show z0 ≤ q.1
    rw [key k q hq]
    omega
theorem ai_v_cat (ad : Nat → Nat) (v : Value) : (ai_v ad v).category = v.category := by cases v <;> rfl
theorem ai_as_mem {β : Type} : ∀ {l : List (Nat × β)} {i : Nat} {v : β}, ai_as l i = some v → (i, v) ∈ l
  | [], i, v, h => by simp [ai_as] at h
  | (j, b) :: r, i, v, h => by
    simp only [ai_as] at h
    split at h
    · rename_i hj
      cases h
      rw [hj]
      exact List.mem_cons_self
    · exact List.mem_cons_of_mem _ (ai_as_mem h)
theorem ai_sl_mem : ∀ {l : List (Nat × Value)} {i : Nat} {v : Value} {q : Nat × Value}, q ∈ ai_sl l i v → q = (i, v) ∨ (q ∈ l ∧ q.1 ≠ i)
  | [], i, v, q, h => by
    simp only [ai_sl, List.mem_singleton] at h
    exact Or.inl h
  | (j, w) :: r, i, v, q, h => by
    simp only [ai_sl] at h
    split at h
    · rename_i hj
      rcases List.mem_cons.mp h with h | h
      · exact Or.inl h
      · have h2 := List.mem_filter.mp h
        refine Or.inr ⟨List.mem_cons_of_mem _ h2.1, fun e => ?_⟩
        simp [e] at h2
    · rename_i hj
      rcases List.mem_cons.mp h with h | h
      · subst h
        exact Or.inr ⟨List.mem_cons_self, hj⟩
      · rcases ai_sl_mem h with h | h
        · exact Or.inl h
        · exact Or.inr ⟨List.mem_cons_of_mem _ h.1, h.2⟩
end
section
/-! THE MACHINE KEEPS THE INTERPRETER'S STEPS: instructions that call nothing -/
def ai_TB : List Cond := lw_tbl.filter goodWord
theorem lv_mono {ls : Array Slot} {nL : Nat} {l l' : List (Nat × Value)} (h : lv_has ls nL l) (hm : ∀ q ∈ l', q ∈ l) : lv_has ls nL l' := ⟨h.1, h.2.1, fun q hq => h.2.2 q (hm q hq)⟩
theorem ai_lv_at {ad : Nat → Nat} {ls : Array Slot} {nL : Nat} {lv : List (Nat × Value)} {i : Nat} {v : Value} (h : lv_has ls nL (ai_lv ad lv)) (hi : ai_as lv i = some v) : ls[i]? = some (.val (ai_v ad v)) :=
  h.2.2 (i, ai_v ad v) (List.mem_map.mpr ⟨(i, v), ai_as_mem hi, rfl⟩)
theorem ai_sl_sub {ad : Nat → Nat} {lv : List (Nat × Value)} {i : Nat} {v : Value} (h1 : ai_c1 lv = true) : ∀ q ∈ ai_lv ad (ai_sl lv i v), q ∈ (i, ai_v ad v) :: (ai_lv ad lv).filter (fun q => !(q.1 == i) && !(q.1 + 1 == i && q.2.category == 2)) := by
  intro q hq
  obtain ⟨q0, h2, rfl⟩ := List.mem_map.mp hq
  rcases ai_sl_mem h2 with rfl | ⟨h3, h4⟩
  · exact List.mem_cons_self
  · refine List.mem_cons_of_mem _ (List.mem_filter.mpr ⟨List.mem_map.mpr ⟨q0, h3, rfl⟩, ?_⟩)
    have h5 := List.all_eq_true.mp h1 q0 h3
    have h6 : q0.2.category = 1 := by simpa using h5
    simp [h4, ai_v_cat, h6]
theorem ai_in_of {i : Int32} {n : Nat} (h : ai_in i n = true) : vp_in i n := by
  simp only [ai_in, Bool.and_eq_true, Bool.not_eq_true', decide_eq_false_iff_not, decide_eq_true_eq] at h
  rintro (q | q)
  · exact h.1 q
  · exact absurd h.2 (Nat.not_lt.mpr q)
theorem ai_R.len {D : va_G} {ad : Nat → Nat} {dA : Nat → ClassId} {z0 : Nat} {Hb : Heap} {h : ai_H} {H : Heap} (hR : ai_R D ad dA z0 Hb h H) : z0 + h.length ≤ H.size := by
  obtain ⟨hP, -, hz, -⟩ := hR
  cases hl : h.length with
  | zero => exact hz
  | succ n =>
    have hn : n < h.length := by omega
    have := (hP n _ (ai_w_get (List.getElem?_eq_getElem hn))).lt
    simp only at this
    omega
section AIS
variable {p : Program} {l : Launch} {e : Env} {R : Room} {s : State} {m : MethodId} {args : Array Value} {below : List Frame} {meth : Method} {c : Code} {Q : State → Prop} {nL : Nat} {D : va_G} {ad : Nat → Nat} {dA : Nat → ClassId} {z0 : Nat} {Hb : Heap} {n0 : Nat} {cc : ByteArray}
theorem as_exact {H : Heap} {locs : List Loc} {nc ns : Nat} {h : ai_H} {g : JFrame} (hR : ai_R D ad dA z0 Hb h H) (hx : h.length = n0 + nc ∧ s.heap.size = z0 + n0) (k : H.size = z0 + h.length → W p l e R s m args below meth c H locs nc ns Q g) : W p l e R s m args below meth c H locs nc ns Q g := by
  intro T hT X
  refine k ?_ T hT X
  have h1 : T.heap.size ≤ s.heap.size + nc := X.same.2.2.1
  have h2 := hR.len
  rw [hT] at h1
  omega
theorem as_iconst (hx : p.tables.exec = Jvm.exec) (hb : c.code = cc) {n : Int} {fr fr' : ai_F} (hd : decode cc fr.1 = .ok (.iconst n, 1)) (h : ai_push (.int (Int32.ofInt n)) 1 fr = some fr') (K : ai_W p l e R s m args below meth c Q nL D ad dA z0 Hb n0 fr') : ai_W p l e R s m args below meth c Q nL D ad dA z0 Hb n0 fr := by
  obtain ⟨pc, lv, st, h0, ex, nc, ns⟩ := fr
  cases h
  intro H locs ls hR hE hS hl
  exact lv_iconst hx hb hd rfl (K H locs ls hR hE hS hl)
theorem as_bipush (hx : p.tables.exec = Jvm.exec) (hb : c.code = cc) {n : Int} {fr fr' : ai_F} (hd : decode cc fr.1 = .ok (.bipush n, 2)) (h : ai_push (.int (Int8.ofInt n).toInt32) 2 fr = some fr') (K : ai_W p l e R s m args below meth c Q nL D ad dA z0 Hb n0 fr') : ai_W p l e R s m args below meth c Q nL D ad dA z0 Hb n0 fr := by
  obtain ⟨pc, lv, st, h0, ex, nc, ns⟩ := fr
  cases h
  intro H locs ls hR hE hS hl
  exact lv_bipush hx hb hd rfl (K H locs ls hR hE hS hl)
theorem as_sipush (hx : p.tables.exec = Jvm.exec) (hb : c.code = cc) {n : Int} {fr fr' : ai_F} (hd : decode cc fr.1 = .ok (.sipush n, 3)) (h : ai_push (.int (Int16.ofInt n).toInt32) 3 fr = some fr') (K : ai_W p l e R s m args below meth c Q nL D ad dA z0 Hb n0 fr') : ai_W p l e R s m args below meth c Q nL D ad dA z0 Hb n0 fr := by
  obtain ⟨pc, lv, st, h0, ex, nc, ns⟩ := fr
  cases h
  intro H locs ls hR hE hS hl
  exact lv_sipush hx hb hd rfl (K H locs ls hR hE hS hl)
theorem as_lconst (hx : p.tables.exec = Jvm.exec) (hb : c.code = cc) {n : Fin 2} {fr fr' : ai_F} (hd : decode cc fr.1 = .ok (.lconst n, 1)) (h : ai_push (.long (Int64.ofNat n)) 1 fr = some fr') (K : ai_W p l e R s m args below meth c Q nL D ad dA z0 Hb n0 fr') : ai_W p l e R s m args below meth c Q nL D ad dA z0 Hb n0 fr := by
  obtain ⟨pc, lv, st, h0, ex, nc, ns⟩ := fr
  cases h
  intro H locs ls hR hE hS hl
  exact lv_lconst hx hb hd rfl (K H locs ls hR hE hS hl)
theorem as_iload_n (hx : p.tables.exec = Jvm.exec) (hb : c.code = cc) {k : Fin 4} {fr fr' : ai_F} (hd : decode cc fr.1 = .ok (.iload_n k, 1)) (h : ai_ld 1 k fr = some fr') (K : ai_W p l e R s m args below meth c Q nL D ad dA z0 Hb n0 fr') : ai_W p l e R s m args below meth c Q nL D ad dA z0 Hb n0 fr := by
  obtain ⟨pc, lv, st, h0, ex, nc, ns⟩ := fr
  simp only [ai_ld] at h
  split at h
  · rename_i x hx1
    cases h
    intro H locs ls hR hE hS hl
    exact lv_iload_n hx hb hd rfl (ai_lv_at hl hx1) (K H locs ls hR hE hS hl)
  · cases h
theorem as_iload (hx : p.tables.exec = Jvm.exec) (hb : c.code = cc) {k : Nat} {fr fr' : ai_F} (hd : decode cc fr.1 = .ok (.iload k, 2)) (h : ai_ld 2 k fr = some fr') (K : ai_W p l e R s m args below meth c Q nL D ad dA z0 Hb n0 fr') : ai_W p l e R s m args below meth c Q nL D ad dA z0 Hb n0 fr := by
  obtain ⟨pc, lv, st, h0, ex, nc, ns⟩ := fr
  simp only [ai_ld] at h
  split at h
  · rename_i x hx1
    cases h
    intro H locs ls hR hE hS hl
    exact lv_iload hx hb hd (ai_lv_at hl hx1) (K H locs ls hR hE hS hl)
  · cases h
theorem as_aload_n (hx : p.tables.exec = Jvm.exec) (hb : c.code = cc) {k : Fin 4} {fr fr' : ai_F} (hd : decode cc fr.1 = .ok (.aload_n k, 1)) (h : ai_lda 1 k fr = some fr') (K : ai_W p l e R s m args below meth c Q nL D ad dA z0 Hb n0 fr') : ai_W p l e R s m args below meth c Q nL D ad dA z0 Hb n0 fr := by
  obtain ⟨pc, lv, st, h0, ex, nc, ns⟩ := fr
  simp only [ai_lda] at h
  split at h
  · rename_i x hx1
    cases h
    intro H locs ls hR hE hS hl
    exact lv_aload_n hx hb hd rfl (ai_lv_at hl hx1) (K H locs ls hR hE hS hl)
  · cases h
theorem as_aload (hx : p.tables.exec = Jvm.exec) (hb : c.code = cc) {k : Nat} {fr fr' : ai_F} (hd : decode cc fr.1 = .ok (.aload k, 2)) (h : ai_lda 2 k fr = some fr') (K : ai_W p l e R s m args below meth c Q nL D ad dA z0 Hb n0 fr') : ai_W p l e R s m args below meth c Q nL D ad dA z0 Hb n0 fr := by
  obtain ⟨pc, lv, st, h0, ex, nc, ns⟩ := fr
  simp only [ai_lda] at h
  split at h
  · rename_i x hx1
    cases h
    intro H locs ls hR hE hS hl
    exact lv_aload hx hb hd (ai_lv_at hl hx1) (K H locs ls hR hE hS hl)
  · cases h
theorem as_istore_n (hx : p.tables.exec = Jvm.exec) (hb : c.code = cc) {k : Fin 4} {fr fr' : ai_F} (hd : decode cc fr.1 = .ok (.istore_n k, 1)) (h : ai_sto nL 1 k fr = some fr') (K : ai_W p l e R s m args below meth c Q nL D ad dA z0 Hb n0 fr') : ai_W p l e R s m args below meth c Q nL D ad dA z0 Hb n0 fr := by
  obtain ⟨pc, lv, st, h0, ex, nc, ns⟩ := fr
  unfold ai_sto at h
  split at h
  · rename_i heq
    split at h
    · rename_i hc
      simp only [Prod.mk.injEq] at heq
      obtain ⟨rfl, rfl, rfl, rfl⟩ := heq
      cases h
      intro H locs ls hR hE hS hl
      exact lv_istore_n hx hb hd rfl hl hc.1 rfl (fun ls' hl' => K H locs ls' hR hE hS (lv_mono hl' (ai_sl_sub hc.2)))
    · cases h
  · cases h
theorem as_istore (hx : p.tables.exec = Jvm.exec) (hb : c.code = cc) {k : Nat} {fr fr' : ai_F} (hd : decode cc fr.1 = .ok (.istore k, 2)) (h : ai_sto nL 2 k fr = some fr') (K : ai_W p l e R s m args below meth c Q nL D ad dA z0 Hb n0 fr') : ai_W p l e R s m args below meth c Q nL D ad dA z0 Hb n0 fr := by
  obtain ⟨pc, lv, st, h0, ex, nc, ns⟩ := fr
  unfold ai_sto at h
  split at h
  · rename_i heq
    split at h
    · rename_i hc
      simp only [Prod.mk.injEq] at heq
      obtain ⟨rfl, rfl, rfl, rfl⟩ := heq
      cases h
      intro H locs ls hR hE hS hl
      exact lv_istore hx hb hd hl hc.1 rfl (fun ls' hl' => K H locs ls' hR hE hS (lv_mono hl' (ai_sl_sub hc.2)))
    · cases h
  · cases h
theorem as_astore_n (hx : p.tables.exec = Jvm.exec) (hb : c.code = cc) {k : Fin 4} {fr fr' : ai_F} (hd : decode cc fr.1 = .ok (.astore_n k, 1)) (h : ai_sta nL 1 k fr = some fr') (K : ai_W p l e R s m args below meth c Q nL D ad dA z0 Hb n0 fr') : ai_W p l e R s m args below meth c Q nL D ad dA z0 Hb n0 fr := by
  obtain ⟨pc, lv, st, h0, ex, nc, ns⟩ := fr
  unfold ai_sta at h
  split at h
  · rename_i heq
    split at h
    · rename_i hc
      simp only [Prod.mk.injEq] at heq
      obtain ⟨rfl, rfl, rfl, rfl⟩ := heq
      cases h
      intro H locs ls hR hE hS hl
      exact lv_astore_n hx hb hd rfl hl hc.1 rfl (fun ls' hl' => K H locs ls' hR hE hS (lv_mono hl' (ai_sl_sub hc.2)))
    · cases h
  · cases h
theorem as_astore (hx : p.tables.exec = Jvm.exec) (hb : c.code = cc) {k : Nat} {fr fr' : ai_F} (hd : decode cc fr.1 = .ok (.astore k, 2)) (h : ai_sta nL 2 k fr = some fr') (K : ai_W p l e R s m args below meth c Q nL D ad dA z0 Hb n0 fr') : ai_W p l e R s m args below meth c Q nL D ad dA z0 Hb n0 fr := by
  obtain ⟨pc, lv, st, h0, ex, nc, ns⟩ := fr
  unfold ai_sta at h
  split at h
  · rename_i heq
    split at h
    · rename_i hc
      simp only [Prod.mk.injEq] at heq
      obtain ⟨rfl, rfl, rfl, rfl⟩ := heq
      cases h
      intro H locs ls hR hE hS hl
      exact lv_astore hx hb hd hl hc.1 rfl (fun ls' hl' => K H locs ls' hR hE hS (lv_mono hl' (ai_sl_sub hc.2)))
    · cases h
  · cases h
theorem as_iinc (hx : p.tables.exec = Jvm.exec) (hb : c.code = cc) {k : Nat} {d : Int} {fr fr' : ai_F} (hd : decode cc fr.1 = .ok (.iinc k d, 3)) (h : ai_inc nL k d fr = some fr') (K : ai_W p l e R s m args below meth c Q nL D ad dA z0 Hb n0 fr') : ai_W p l e R s m args below meth c Q nL D ad dA z0 Hb n0 fr := by
  obtain ⟨pc, lv, st, h0, ex, nc, ns⟩ := fr
  simp only [ai_inc] at h
  split at h
  · rename_i x hx1
    split at h
    · rename_i hc
      cases h
      intro H locs ls hR hE hS hl
      obtain ⟨j, hj⟩ := List.getElem?_of_mem (List.mem_map.mpr ⟨(k, .int x), ai_as_mem hx1, rfl⟩ : (k, ai_v ad (.int x)) ∈ ai_lv ad lv)
      exact lv_iinc hx hb hd hl hj rfl hc.1 rfl (fun ls' hl' => K H locs ls' hR hE hS (lv_mono hl' (ai_sl_sub hc.2)))
    · cases h
  · cases h
theorem as_iadd (hx : p.tables.exec = Jvm.exec) (hb : c.code = cc) {fr fr' : ai_F} (hd : decode cc fr.1 = .ok (.iadd, 1)) (h : ai_bin (fun x y => x + y) fr = some fr') (K : ai_W p l e R s m args below meth c Q nL D ad dA z0 Hb n0 fr') : ai_W p l e R s m args below meth c Q nL D ad dA z0 Hb n0 fr := by
  obtain ⟨pc, lv, st, h0, ex, nc, ns⟩ := fr
  unfold ai_bin at h
  split at h
  · rename_i heq
    simp only [Prod.mk.injEq] at heq
    obtain ⟨rfl, rfl, rfl, rfl⟩ := heq
    cases h
    intro H locs ls hR hE hS hl
    exact lv_iadd hx hb hd (K H locs ls hR hE hS hl)
  · cases h
theorem as_isub (hx : p.tables.exec = Jvm.exec) (hb : c.code = cc) {fr fr' : ai_F} (hd : decode cc fr.1 = .ok (.isub, 1)) (h : ai_bin (fun x y => x - y) fr = some fr') (K : ai_W p l e R s m args below meth c Q nL D ad dA z0 Hb n0 fr') : ai_W p l e R s m args below meth c Q nL D ad dA z0 Hb n0 fr := by
  obtain ⟨pc, lv, st, h0, ex, nc, ns⟩ := fr
  unfold ai_bin at h
  split at h
  · rename_i heq
    simp only [Prod.mk.injEq] at heq
    obtain ⟨rfl, rfl, rfl, rfl⟩ := heq
    cases h
    intro H locs ls hR hE hS hl
    exact lv_isub hx hb hd (K H locs ls hR hE hS hl)
  · cases h
theorem as_imul (hx : p.tables.exec = Jvm.exec) (hb : c.code = cc) {fr fr' : ai_F} (hd : decode cc fr.1 = .ok (.imul, 1)) (h : ai_bin (fun x y => x * y) fr = some fr') (K : ai_W p l e R s m args below meth c Q nL D ad dA z0 Hb n0 fr') : ai_W p l e R s m args below meth c Q nL D ad dA z0 Hb n0 fr := by
  obtain ⟨pc, lv, st, h0, ex, nc, ns⟩ := fr
  unfold ai_bin at h
  split at h
  · rename_i heq
    simp only [Prod.mk.injEq] at heq
    obtain ⟨rfl, rfl, rfl, rfl⟩ := heq
    cases h
    intro H locs ls hR hE hS hl
    exact lv_imul hx hb hd (K H locs ls hR hE hS hl)
  · cases h
theorem as_iand (hx : p.tables.exec = Jvm.exec) (hb : c.code = cc) {fr fr' : ai_F} (hd : decode cc fr.1 = .ok (.iand, 1)) (h : ai_bin (fun x y => x &&& y) fr = some fr') (K : ai_W p l e R s m args below meth c Q nL D ad dA z0 Hb n0 fr') : ai_W p l e R s m args below meth c Q nL D ad dA z0 Hb n0 fr := by
  obtain ⟨pc, lv, st, h0, ex, nc, ns⟩ := fr
  unfold ai_bin at h
  split at h
  · rename_i heq
    simp only [Prod.mk.injEq] at heq
    obtain ⟨rfl, rfl, rfl, rfl⟩ := heq
    cases h
    intro H locs ls hR hE hS hl
    exact lv_iand hx hb hd (K H locs ls hR hE hS hl)
  · cases h
theorem as_ishr (hx : p.tables.exec = Jvm.exec) (hb : c.code = cc) {fr fr' : ai_F} (hd : decode cc fr.1 = .ok (.ishr, 1)) (h : ai_bin (fun x y => x >>> (y &&& 31)) fr = some fr') (K : ai_W p l e R s m args below meth c Q nL D ad dA z0 Hb n0 fr') : ai_W p l e R s m args below meth c Q nL D ad dA z0 Hb n0 fr := by
  obtain ⟨pc, lv, st, h0, ex, nc, ns⟩ := fr
  unfold ai_bin at h
  split at h
  · rename_i heq
    simp only [Prod.mk.injEq] at heq
    obtain ⟨rfl, rfl, rfl, rfl⟩ := heq
    cases h
    intro H locs ls hR hE hS hl
    exact lv_ishr hx hb hd (K H locs ls hR hE hS hl)
  · cases h
theorem as_idiv (hx : p.tables.exec = Jvm.exec) (hb : c.code = cc) {fr fr' : ai_F} (hd : decode cc fr.1 = .ok (.idiv, 1)) (h : ai_dv (fun x y => x / y) fr = some fr') (K : ai_W p l e R s m args below meth c Q nL D ad dA z0 Hb n0 fr') : ai_W p l e R s m args below meth c Q nL D ad dA z0 Hb n0 fr := by
  obtain ⟨pc, lv, st, h0, ex, nc, ns⟩ := fr
  unfold ai_dv at h
  split at h
  · rename_i heq
    simp only [Prod.mk.injEq] at heq
    obtain ⟨rfl, rfl, rfl, rfl⟩ := heq
    split at h
    · cases h
    · rename_i hc
      cases h
      intro H locs ls hR hE hS hl
      exact lv_idiv hx hb hd hc (K H locs ls hR hE hS hl)
  · cases h
theorem as_irem (hx : p.tables.exec = Jvm.exec) (hb : c.code = cc) {fr fr' : ai_F} (hd : decode cc fr.1 = .ok (.irem, 1)) (h : ai_dv (fun x y => x - x / y * y) fr = some fr') (K : ai_W p l e R s m args below meth c Q nL D ad dA z0 Hb n0 fr') : ai_W p l e R s m args below meth c Q nL D ad dA z0 Hb n0 fr := by
  obtain ⟨pc, lv, st, h0, ex, nc, ns⟩ := fr
  unfold ai_dv at h
  split at h
  · rename_i heq
    simp only [Prod.mk.injEq] at heq
    obtain ⟨rfl, rfl, rfl, rfl⟩ := heq
    split at h
    · cases h
    · rename_i hc
      cases h
      intro H locs ls hR hE hS hl
      exact lv_irem hx hb hd hc (K H locs ls hR hE hS hl)
  · cases h
theorem as_i2l (hx : p.tables.exec = Jvm.exec) (hb : c.code = cc) {fr fr' : ai_F} (hd : decode cc fr.1 = .ok (.i2l, 1)) (h : ai_i2l fr = some fr') (K : ai_W p l e R s m args below meth c Q nL D ad dA z0 Hb n0 fr') : ai_W p l e R s m args below meth c Q nL D ad dA z0 Hb n0 fr := by
  obtain ⟨pc, lv, st, h0, ex, nc, ns⟩ := fr
  unfold ai_i2l at h
  split at h
  · rename_i heq
    simp only [Prod.mk.injEq] at heq
    obtain ⟨rfl, rfl, rfl, rfl⟩ := heq
    cases h
    intro H locs ls hR hE hS hl
    exact lv_i2l hx hb hd rfl (K H locs ls hR hE hS hl)
  · cases h
theorem as_i2b (hx : p.tables.exec = Jvm.exec) (hb : c.code = cc) {fr fr' : ai_F} (hd : decode cc fr.1 = .ok (.i2b, 1)) (h : ai_i2b fr = some fr') (K : ai_W p l e R s m args below meth c Q nL D ad dA z0 Hb n0 fr') : ai_W p l e R s m args below meth c Q nL D ad dA z0 Hb n0 fr := by
  obtain ⟨pc, lv, st, h0, ex, nc, ns⟩ := fr
  unfold ai_i2b at h
  split at h
  · rename_i heq
    simp only [Prod.mk.injEq] at heq
    obtain ⟨rfl, rfl, rfl, rfl⟩ := heq
    cases h
    intro H locs ls hR hE hS hl
    exact lv_i2b hx hb hd rfl (K H locs ls hR hE hS hl)
  · cases h
theorem as_lcmp (hx : p.tables.exec = Jvm.exec) (hb : c.code = cc) {fr fr' : ai_F} (hd : decode cc fr.1 = .ok (.lcmp, 1)) (h : ai_lcmp fr = some fr') (K : ai_W p l e R s m args below meth c Q nL D ad dA z0 Hb n0 fr') : ai_W p l e R s m args below meth c Q nL D ad dA z0 Hb n0 fr := by
  obtain ⟨pc, lv, st, h0, ex, nc, ns⟩ := fr
  unfold ai_lcmp at h
  split at h
  · rename_i heq
    simp only [Prod.mk.injEq] at heq
    obtain ⟨rfl, rfl, rfl, rfl⟩ := heq
    cases h
    intro H locs ls hR hE hS hl
    exact W.lcmp hx hb hd (K H locs ls hR hE hS hl)
  · cases h
theorem as_dup (hx : p.tables.exec = Jvm.exec) (hb : c.code = cc) {fr fr' : ai_F} (hd : decode cc fr.1 = .ok (.dup, 1)) (h : ai_dup fr = some fr') (K : ai_W p l e R s m args below meth c Q nL D ad dA z0 Hb n0 fr') : ai_W p l e R s m args below meth c Q nL D ad dA z0 Hb n0 fr := by
  obtain ⟨pc, lv, st, h0, ex, nc, ns⟩ := fr
  unfold ai_dup at h
  split at h
  · rename_i heq
    simp only [Prod.mk.injEq] at heq
    obtain ⟨rfl, rfl, rfl, rfl⟩ := heq
    split at h
    · rename_i hc
      cases h
      intro H locs ls hR hE hS hl
      exact lv_dup hx hb hd ((ai_v_cat ad _).trans hc) (K H locs ls hR hE hS hl)
    · cases h
  · cases h
theorem as_dup2 (hx : p.tables.exec = Jvm.exec) (hb : c.code = cc) {fr fr' : ai_F} (hd : decode cc fr.1 = .ok (.dup2, 1)) (h : ai_dup2 fr = some fr') (K : ai_W p l e R s m args below meth c Q nL D ad dA z0 Hb n0 fr') : ai_W p l e R s m args below meth c Q nL D ad dA z0 Hb n0 fr := by
  obtain ⟨pc, lv, st, h0, ex, nc, ns⟩ := fr
  unfold ai_dup2 at h
  split at h
  · rename_i heq
    simp only [Prod.mk.injEq] at heq
    obtain ⟨rfl, rfl, rfl, rfl⟩ := heq
    split at h
    · rename_i hc
      cases h
      intro H locs ls hR hE hS hl
      exact lv_dup2_11 hx hb hd ((ai_v_cat ad _).trans hc.1) ((ai_v_cat ad _).trans hc.2) (K H locs ls hR hE hS hl)
    · cases h
  · cases h
theorem as_pop (hx : p.tables.exec = Jvm.exec) (hb : c.code = cc) {fr fr' : ai_F} (hd : decode cc fr.1 = .ok (.pop, 1)) (h : ai_pop fr = some fr') (K : ai_W p l e R s m args below meth c Q nL D ad dA z0 Hb n0 fr') : ai_W p l e R s m args below meth c Q nL D ad dA z0 Hb n0 fr := by
  obtain ⟨pc, lv, st, h0, ex, nc, ns⟩ := fr
  unfold ai_pop at h
  split at h
  · rename_i heq
    simp only [Prod.mk.injEq] at heq
    obtain ⟨rfl, rfl, rfl, rfl⟩ := heq
    split at h
    · rename_i hc
      cases h
      intro H locs ls hR hE hS hl
      exact lv_pop hx hb hd ((ai_v_cat ad _).trans hc) (K H locs ls hR hE hS hl)
    · cases h
  · cases h
theorem as_if_eq (hx : p.tables.exec = Jvm.exec) (hb : c.code = cc) {off : Int} {tg : List Nat} {fr fr' : ai_F} (hd : decode cc fr.1 = .ok (.ifCond .eq off, 3)) (ht : ∀ t, tg = [t] → (fr.1 : Int) + off = (t : Int)) (h : ai_if .eq tg fr = some fr') (K : ai_W p l e R s m args below meth c Q nL D ad dA z0 Hb n0 fr') : ai_W p l e R s m args below meth c Q nL D ad dA z0 Hb n0 fr := by
  obtain ⟨pc, lv, st, h0, ex, nc, ns⟩ := fr
  unfold ai_if at h
  split at h
  · rename_i heq
    simp only [Prod.mk.injEq] at heq
    obtain ⟨rfl, rfl, rfl, rfl⟩ := heq
    split at h
    · rename_i t
      have ht1 : (pc : Int) + off = (t : Int) := ht t rfl
      intro H locs ls hR hE hS hl
      refine lv_if_eq hx hb hd ht1 (fun q => ?_) (fun q => ?_)
      · rw [if_pos (by simp [ai_cp, q])] at h
        cases h
        exact K H locs ls hR hE hS hl
      · rw [if_neg (by simp [ai_cp, q])] at h
        cases h
        exact K H locs ls hR hE hS hl
    · cases h
  · cases h
theorem as_ic_eq (hx : p.tables.exec = Jvm.exec) (hb : c.code = cc) {off : Int} {tg : List Nat} {fr fr' : ai_F} (hd : decode cc fr.1 = .ok (.if_icmp .eq off, 3)) (ht : ∀ t, tg = [t] → (fr.1 : Int) + off = (t : Int)) (h : ai_ic .eq tg fr = some fr') (K : ai_W p l e R s m args below meth c Q nL D ad dA z0 Hb n0 fr') : ai_W p l e R s m args below meth c Q nL D ad dA z0 Hb n0 fr := by
  obtain ⟨pc, lv, st, h0, ex, nc, ns⟩ := fr
  unfold ai_ic at h
  split at h
  · rename_i heq
    simp only [Prod.mk.injEq] at heq
    obtain ⟨rfl, rfl, rfl, rfl⟩ := heq
    split at h
    · rename_i t
      have ht1 : (pc : Int) + off = (t : Int) := ht t rfl
      intro H locs ls hR hE hS hl
      refine lv_icmp_eq hx hb hd ht1 (fun q => ?_) (fun q => ?_)
      · rw [if_pos (by simp [ai_cp, q])] at h
        cases h
        exact K H locs ls hR hE hS hl
      · rw [if_neg (by simp [ai_cp, q])] at h
        cases h
        exact K H locs ls hR hE hS hl
    · cases h
  · cases h
theorem as_if_ne (hx : p.tables.exec = Jvm.exec) (hb : c.code = cc) {off : Int} {tg : List Nat} {fr fr' : ai_F} (hd : decode cc fr.1 = .ok (.ifCond .ne off, 3)) (ht : ∀ t, tg = [t] → (fr.1 : Int) + off = (t : Int)) (h : ai_if .ne tg fr = some fr') (K : ai_W p l e R s m args below meth c Q nL D ad dA z0 Hb n0 fr') : ai_W p l e R s m args below meth c Q nL D ad dA z0 Hb n0 fr := by
  obtain ⟨pc, lv, st, h0, ex, nc, ns⟩ := fr
  unfold ai_if at h
  split at h
  · rename_i heq
    simp only [Prod.mk.injEq] at heq
    obtain ⟨rfl, rfl, rfl, rfl⟩ := heq
    split at h
    · rename_i t
      have ht1 : (pc : Int) + off = (t : Int) := ht t rfl
      intro H locs ls hR hE hS hl
      refine lv_if_ne hx hb hd ht1 (fun q => ?_) (fun q => ?_)
      · rw [if_pos (by simp [ai_cp, q])] at h
        cases h
        exact K H locs ls hR hE hS hl
      · rw [if_neg (by simp [ai_cp, q])] at h
        cases h
        exact K H locs ls hR hE hS hl
    · cases h
  · cases h
theorem as_ic_ne (hx : p.tables.exec = Jvm.exec) (hb : c.code = cc) {off : Int} {tg : List Nat} {fr fr' : ai_F} (hd : decode cc fr.1 = .ok (.if_icmp .ne off, 3)) (ht : ∀ t, tg = [t] → (fr.1 : Int) + off = (t : Int)) (h : ai_ic .ne tg fr = some fr') (K : ai_W p l e R s m args below meth c Q nL D ad dA z0 Hb n0 fr') : ai_W p l e R s m args below meth c Q nL D ad dA z0 Hb n0 fr := by
  obtain ⟨pc, lv, st, h0, ex, nc, ns⟩ := fr
  unfold ai_ic at h
  split at h
  · rename_i heq
    simp only [Prod.mk.injEq] at heq
    obtain ⟨rfl, rfl, rfl, rfl⟩ := heq
    split at h
    · rename_i t
      have ht1 : (pc : Int) + off = (t : Int) := ht t rfl
      intro H locs ls hR hE hS hl
      refine lv_icmp_ne hx hb hd ht1 (fun q => ?_) (fun q => ?_)
      · rw [if_pos (by simp [ai_cp, q])] at h
        cases h
        exact K H locs ls hR hE hS hl
      · rw [if_neg (by simp [ai_cp, q])] at h
        cases h
        exact K H locs ls hR hE hS hl
    · cases h
  · cases h
theorem as_if_lt (hx : p.tables.exec = Jvm.exec) (hb : c.code = cc) {off : Int} {tg : List Nat} {fr fr' : ai_F} (hd : decode cc fr.1 = .ok (.ifCond .lt off, 3)) (ht : ∀ t, tg = [t] → (fr.1 : Int) + off = (t : Int)) (h : ai_if .lt tg fr = some fr') (K : ai_W p l e R s m args below meth c Q nL D ad dA z0 Hb n0 fr') : ai_W p l e R s m args below meth c Q nL D ad dA z0 Hb n0 fr := by
  obtain ⟨pc, lv, st, h0, ex, nc, ns⟩ := fr
  unfold ai_if at h
  split at h
  · rename_i heq
    simp only [Prod.mk.injEq] at heq
    obtain ⟨rfl, rfl, rfl, rfl⟩ := heq
    split at h
    · rename_i t
      have ht1 : (pc : Int) + off = (t : Int) := ht t rfl
      intro H locs ls hR hE hS hl
      refine lv_if_lt hx hb hd ht1 (fun q => ?_) (fun q => ?_)
      · rw [if_pos (by simp [ai_cp, q])] at h
        cases h
        exact K H locs ls hR hE hS hl
      · rw [if_neg (by simp [ai_cp, q])] at h
        cases h
        exact K H locs ls hR hE hS hl
    · cases h
  · cases h
theorem as_ic_lt (hx : p.tables.exec = Jvm.exec) (hb : c.code = cc) {off : Int} {tg : List Nat} {fr fr' : ai_F} (hd : decode cc fr.1 = .ok (.if_icmp .lt off, 3)) (ht : ∀ t, tg = [t] → (fr.1 : Int) + off = (t : Int)) (h : ai_ic .lt tg fr = some fr') (K : ai_W p l e R s m args below meth c Q nL D ad dA z0 Hb n0 fr') : ai_W p l e R s m args below meth c Q nL D ad dA z0 Hb n0 fr := by
  obtain ⟨pc, lv, st, h0, ex, nc, ns⟩ := fr
  unfold ai_ic at h
  split at h
  · rename_i heq
    simp only [Prod.mk.injEq] at heq
    obtain ⟨rfl, rfl, rfl, rfl⟩ := heq
    split at h
    · rename_i t
      have ht1 : (pc : Int) + off = (t : Int) := ht t rfl
      intro H locs ls hR hE hS hl
      refine lv_icmp_lt hx hb hd ht1 (fun q => ?_) (fun q => ?_)
      · rw [if_pos (by simp [ai_cp, q])] at h
        cases h
        exact K H locs ls hR hE hS hl
      · rw [if_neg (by simp [ai_cp, q])] at h
        cases h
        exact K H locs ls hR hE hS hl
    · cases h
  · cases h
theorem as_if_ge (hx : p.tables.exec = Jvm.exec) (hb : c.code = cc) {off : Int} {tg : List Nat} {fr fr' : ai_F} (hd : decode cc fr.1 = .ok (.ifCond .ge off, 3)) (ht : ∀ t, tg = [t] → (fr.1 : Int) + off = (t : Int)) (h : ai_if .ge tg fr = some fr') (K : ai_W p l e R s m args below meth c Q nL D ad dA z0 Hb n0 fr') : ai_W p l e R s m args below meth c Q nL D ad dA z0 Hb n0 fr := by
  obtain ⟨pc, lv, st, h0, ex, nc, ns⟩ := fr
  unfold ai_if at h
  split at h
  · rename_i heq
    simp only [Prod.mk.injEq] at heq
    obtain ⟨rfl, rfl, rfl, rfl⟩ := heq
    split at h
    · rename_i t
      have ht1 : (pc : Int) + off = (t : Int) := ht t rfl
      intro H locs ls hR hE hS hl
      refine lv_if_ge hx hb hd ht1 (fun q => ?_) (fun q => ?_)
      · rw [if_pos (by simp [ai_cp, q])] at h
        cases h
        exact K H locs ls hR hE hS hl
      · rw [if_neg (by simp [ai_cp, q])] at h
        cases h
        exact K H locs ls hR hE hS hl
    · cases h
  · cases h
theorem as_ic_ge (hx : p.tables.exec = Jvm.exec) (hb : c.code = cc) {off : Int} {tg : List Nat} {fr fr' : ai_F} (hd : decode cc fr.1 = .ok (.if_icmp .ge off, 3)) (ht : ∀ t, tg = [t] → (fr.1 : Int) + off = (t : Int)) (h : ai_ic .ge tg fr = some fr') (K : ai_W p l e R s m args below meth c Q nL D ad dA z0 Hb n0 fr') : ai_W p l e R s m args below meth c Q nL D ad dA z0 Hb n0 fr := by
  obtain ⟨pc, lv, st, h0, ex, nc, ns⟩ := fr
  unfold ai_ic at h
  split at h
  · rename_i heq
    simp only [Prod.mk.injEq] at heq
    obtain ⟨rfl, rfl, rfl, rfl⟩ := heq
    split at h
    · rename_i t
      have ht1 : (pc : Int) + off = (t : Int) := ht t rfl
      intro H locs ls hR hE hS hl
      refine lv_icmp_ge hx hb hd ht1 (fun q => ?_) (fun q => ?_)
      · rw [if_pos (by simp [ai_cp, q])] at h
        cases h
        exact K H locs ls hR hE hS hl
      · rw [if_neg (by simp [ai_cp, q])] at h
        cases h
        exact K H locs ls hR hE hS hl
    · cases h
  · cases h
theorem as_if_gt (hx : p.tables.exec = Jvm.exec) (hb : c.code = cc) {off : Int} {tg : List Nat} {fr fr' : ai_F} (hd : decode cc fr.1 = .ok (.ifCond .gt off, 3)) (ht : ∀ t, tg = [t] → (fr.1 : Int) + off = (t : Int)) (h : ai_if .gt tg fr = some fr') (K : ai_W p l e R s m args below meth c Q nL D ad dA z0 Hb n0 fr') : ai_W p l e R s m args below meth c Q nL D ad dA z0 Hb n0 fr := by
  obtain ⟨pc, lv, st, h0, ex, nc, ns⟩ := fr
  unfold ai_if at h
  split at h
  · rename_i heq
    simp only [Prod.mk.injEq] at heq
    obtain ⟨rfl, rfl, rfl, rfl⟩ := heq
    split at h
    · rename_i t
      have ht1 : (pc : Int) + off = (t : Int) := ht t rfl
      intro H locs ls hR hE hS hl
      refine lv_if_gt hx hb hd ht1 (fun q => ?_) (fun q => ?_)
      · rw [if_pos (by simp [ai_cp, q])] at h
        cases h
        exact K H locs ls hR hE hS hl
      · rw [if_neg (by simp [ai_cp, q])] at h
        cases h
        exact K H locs ls hR hE hS hl
    · cases h
  · cases h
theorem as_ic_gt (hx : p.tables.exec = Jvm.exec) (hb : c.code = cc) {off : Int} {tg : List Nat} {fr fr' : ai_F} (hd : decode cc fr.1 = .ok (.if_icmp .gt off, 3)) (ht : ∀ t, tg = [t] → (fr.1 : Int) + off = (t : Int)) (h : ai_ic .gt tg fr = some fr') (K : ai_W p l e R s m args below meth c Q nL D ad dA z0 Hb n0 fr') : ai_W p l e R s m args below meth c Q nL D ad dA z0 Hb n0 fr := by
  obtain ⟨pc, lv, st, h0, ex, nc, ns⟩ := fr
  unfold ai_ic at h
  split at h
  · rename_i heq
    simp only [Prod.mk.injEq] at heq
    obtain ⟨rfl, rfl, rfl, rfl⟩ := heq
    split at h
    · rename_i t
      have ht1 : (pc : Int) + off = (t : Int) := ht t rfl
      intro H locs ls hR hE hS hl
      refine lv_icmp_gt hx hb hd ht1 (fun q => ?_) (fun q => ?_)
      · rw [if_pos (by simp [ai_cp, q])] at h
        cases h
        exact K H locs ls hR hE hS hl
      · rw [if_neg (by simp [ai_cp, q])] at h
        cases h
        exact K H locs ls hR hE hS hl
    · cases h
  · cases h
theorem as_if_le (hx : p.tables.exec = Jvm.exec) (hb : c.code = cc) {off : Int} {tg : List Nat} {fr fr' : ai_F} (hd : decode cc fr.1 = .ok (.ifCond .le off, 3)) (ht : ∀ t, tg = [t] → (fr.1 : Int) + off = (t : Int)) (h : ai_if .le tg fr = some fr') (K : ai_W p l e R s m args below meth c Q nL D ad dA z0 Hb n0 fr') : ai_W p l e R s m args below meth c Q nL D ad dA z0 Hb n0 fr := by
  obtain ⟨pc, lv, st, h0, ex, nc, ns⟩ := fr
  unfold ai_if at h
  split at h
  · rename_i heq
    simp only [Prod.mk.injEq] at heq
    obtain ⟨rfl, rfl, rfl, rfl⟩ := heq
    split at h
    · rename_i t
      have ht1 : (pc : Int) + off = (t : Int) := ht t rfl
      intro H locs ls hR hE hS hl
      refine lv_if_le hx hb hd ht1 (fun q => ?_) (fun q => ?_)
      · rw [if_pos (by simp [ai_cp, q])] at h
        cases h
        exact K H locs ls hR hE hS hl
      · rw [if_neg (by simp [ai_cp, q])] at h
        cases h
        exact K H locs ls hR hE hS hl
    · cases h
  · cases h
theorem as_ic_le (hx : p.tables.exec = Jvm.exec) (hb : c.code = cc) {off : Int} {tg : List Nat} {fr fr' : ai_F} (hd : decode cc fr.1 = .ok (.if_icmp .le off, 3)) (ht : ∀ t, tg = [t] → (fr.1 : Int) + off = (t : Int)) (h : ai_ic .le tg fr = some fr') (K : ai_W p l e R s m args below meth c Q nL D ad dA z0 Hb n0 fr') : ai_W p l e R s m args below meth c Q nL D ad dA z0 Hb n0 fr := by
  obtain ⟨pc, lv, st, h0, ex, nc, ns⟩ := fr
  unfold ai_ic at h
  split at h
  · rename_i heq
    simp only [Prod.mk.injEq] at heq
    obtain ⟨rfl, rfl, rfl, rfl⟩ := heq
    split at h
    · rename_i t
      have ht1 : (pc : Int) + off = (t : Int) := ht t rfl
      intro H locs ls hR hE hS hl
      refine lv_icmp_le hx hb hd ht1 (fun q => ?_) (fun q => ?_)
      · rw [if_pos (by simp [ai_cp, q])] at h
        cases h
        exact K H locs ls hR hE hS hl
      · rw [if_neg (by simp [ai_cp, q])] at h
        cases h
        exact K H locs ls hR hE hS hl
    · cases h
  · cases h
theorem as_goto (hx : p.tables.exec = Jvm.exec) (hb : c.code = cc) {off : Int} {tg : List Nat} {fr fr' : ai_F} (hd : decode cc fr.1 = .ok (.goto off, 3)) (ht : ∀ t, tg = [t] → (fr.1 : Int) + off = (t : Int)) (h : ai_go tg fr = some fr') (K : ai_W p l e R s m args below meth c Q nL D ad dA z0 Hb n0 fr') : ai_W p l e R s m args below meth c Q nL D ad dA z0 Hb n0 fr := by
  obtain ⟨pc, lv, st, h0, ex, nc, ns⟩ := fr
  simp only [ai_go] at h
  split at h
  · rename_i t
    cases h
    intro H locs ls hR hE hS hl
    exact lv_goto hx hb hd (ht t rfl) (K H locs ls hR hE hS hl)
  · cases h
theorem as_table (hx : p.tables.exec = Jvm.exec) (hb : c.code = cc) {dflt lo hi : Int} {offs : Array Int} {len : Nat} {tg : List Nat} {fr fr' : ai_F} (hd : decode cc fr.1 = .ok (.tableswitch dflt lo hi offs, len)) (h0t : ∀ t : Nat, tg[0]? = some t → (fr.1 : Int) + dflt = (t : Int)) (ht : ∀ (j t : Nat), tg[j + 1]? = some t → ∃ off, offs[j]? = some off ∧ (fr.1 : Int) + off = (t : Int)) (h : ai_tb lo hi tg fr = some fr') (K : ai_W p l e R s m args below meth c Q nL D ad dA z0 Hb n0 fr') : ai_W p l e R s m args below meth c Q nL D ad dA z0 Hb n0 fr := by
  obtain ⟨pc, lv, st, h0, ex, nc, ns⟩ := fr
  unfold ai_tb at h
  split at h
  · rename_i heq
    simp only [Prod.mk.injEq] at heq
    obtain ⟨rfl, rfl, rfl, rfl⟩ := heq
    split at h
    · rename_i hc
      split at h
      · rename_i t h1
        cases h
        intro H locs ls hR hE hS hl
        exact lv_tableOut hx hb hd hc (h0t t h1) (K H locs ls hR hE hS hl)
      · cases h
    · rename_i hc
      split at h
      · rename_i t h1
        cases h
        obtain ⟨off, h2, h3⟩ := ht _ t h1
        intro H locs ls hR hE hS hl
        exact lv_tableIn hx hb hd (fun q => hc (Or.inl q)) (fun q => hc (Or.inr q)) h2 h3 (K H locs ls hR hE hS hl)
      · cases h
  · cases h
end AIS
end
section
/-! instructions that read and write the heap -/
def ai_fty (ci : Nat) : Nat → FieldType := match ci with
  | 0 => tyX0
  | 1 => tyX1
  | 2 => tyX2
  | 3 => tyX3
  | 4 => tyX4
  | 5 => tyX5
  | 6 => tyX6
  | 7 => tyX7
  | 8 => tyX8
  | 9 => tyX9
  | _ => tyX10
def ai_good (w : Cond) : Bool := decide (w ∈ lw_tbl) && goodWord w
theorem ai_good_in {w : Cond} (h : ai_good w = true) : w ∈ ai_TB := by
  simp only [ai_good, Bool.and_eq_true, decide_eq_true_eq] at h
  exact List.mem_filter.mpr h
theorem ai_goods {l : List Cond} (h : l.all ai_good = true) : ∀ w ∈ l, w ∈ ai_TB := fun w hw => ai_good_in (List.all_eq_true.mp h w hw)
/-- what the tables say of a class of the worlds -/
def ai_clo (ci : Nat) (q : vw_C) : Prop := (∀ w ∈ u_ws q.1 q.2.1 q.2.2, w ∈ ai_TB) ∧ (∀ k, k < q.2.2 → parseFieldDescriptor (q.2.1 k).2.2.1 = some (ai_fty ci k)) ∧ (∀ a, a < q.2.2 → ∀ b, b < q.2.2 → a ≠ b → (q.2.1 a).2.1 ≠ (q.2.1 b).2.1) ∧ (ai_def ci).length = q.2.2 ∧ (∀ j, j < q.2.2 → defaultValue (ai_fty ci j) = vp_V (ai_def ci) j) ∧ Cond.instantiable q.1 q.2.2 ∈ ai_TB ∧ Cond.initialized q.1 ∈ ai_TB
set_option maxRecDepth 100000 in
theorem ai_clo0 : ai_clo 0 (RX0, TX0, 13) := ⟨ai_goods (by decide +kernel), tyX0_ok, nmX0, rfl, by decide +kernel, ai_good_in (by decide +kernel), ai_good_in (by decide +kernel)⟩
set_option maxRecDepth 100000 in
theorem ai_clo1 : ai_clo 1 (RX1, TX1, 9) := ⟨ai_goods (by decide +kernel), tyX1_ok, nmX1, rfl, by decide +kernel, ai_good_in (by decide +kernel), ai_good_in (by decide +kernel)⟩
set_option maxRecDepth 100000 in
theorem ai_clo2 : ai_clo 2 (RX2, TX2, 13) := ⟨ai_goods (by decide +kernel), tyX2_ok, nmX2, rfl, by decide +kernel, ai_good_in (by decide +kernel), ai_good_in (by decide +kernel)⟩
set_option maxRecDepth 100000 in
theorem ai_clo3 : ai_clo 3 (RX3, TX3, 5) := ⟨ai_goods (by decide +kernel), tyX3_ok, nmX3, rfl, by decide +kernel, ai_good_in (by decide +kernel), ai_good_in (by decide +kernel)⟩
set_option maxRecDepth 100000 in
theorem ai_clo4 : ai_clo 4 (RX4, TX4, 4) := ⟨ai_goods (by decide +kernel), tyX4_ok, nmX4, rfl, by decide +kernel, ai_good_in (by decide +kernel), ai_good_in (by decide +kernel)⟩
set_option maxRecDepth 100000 in
theorem ai_clo5 : ai_clo 5 (RX5, TX5, 6) := ⟨ai_goods (by decide +kernel), tyX5_ok, nmX5, rfl, by decide +kernel, ai_good_in (by decide +kernel), ai_good_in (by decide +kernel)⟩
set_option maxRecDepth 100000 in
theorem ai_clo6 : ai_clo 6 (RX6, TX6, 2) := ⟨ai_goods (by decide +kernel), tyX6_ok, nmX6, rfl, by decide +kernel, ai_good_in (by decide +kernel), ai_good_in (by decide +kernel)⟩
set_option maxRecDepth 100000 in
theorem ai_clo7 : ai_clo 7 (RX7, TX7, 6) := ⟨ai_goods (by decide +kernel), tyX7_ok, nmX7, rfl, by decide +kernel, ai_good_in (by decide +kernel), ai_good_in (by decide +kernel)⟩
set_option maxRecDepth 100000 in
theorem ai_clo8 : ai_clo 8 (RX8, TX8, 4) := ⟨ai_goods (by decide +kernel), tyX8_ok, nmX8, rfl, by decide +kernel, ai_good_in (by decide +kernel), ai_good_in (by decide +kernel)⟩
set_option maxRecDepth 100000 in
theorem ai_clo9 : ai_clo 9 (RX9, TX9, 12) := ⟨ai_goods (by decide +kernel), tyX9_ok, nmX9, rfl, by decide +kernel, ai_good_in (by decide +kernel), ai_good_in (by decide +kernel)⟩
set_option maxRecDepth 100000 in
theorem ai_clo10 : ai_clo 10 (RX10, TX10, 56) := ⟨ai_goods (by decide +kernel), tyX10_ok, nmX10, by decide +kernel, by decide +kernel, ai_good_in (by decide +kernel), ai_good_in (by decide +kernel)⟩
theorem ai_cls {ci : Nat} {q : vw_C} (h : vwCl[ci]? = some q) : ai_clo ci q := by
  match ci, h with
  | 0, h => cases h; exact ai_clo0
  | 1, h => cases h; exact ai_clo1
  | 2, h => cases h; exact ai_clo2
  | 3, h => cases h; exact ai_clo3
  | 4, h => cases h; exact ai_clo4
  | 5, h => cases h; exact ai_clo5
  | 6, h => cases h; exact ai_clo6
  | 7, h => cases h; exact ai_clo7
  | 8, h => cases h; exact ai_clo8
  | 9, h => cases h; exact ai_clo9
  | 10, h => cases h; exact ai_clo10
  | n + 11, h => simp [vwCl] at h
end
section
/-! instructions that read and write the heap -/
/-- a field's link is good: to read, and (ini: in a constructor) to write -/
def ai_fr (own : String) (ix ci k : Nat) : Prop := ∃ (C : String) (T : u_T) (N : Nat), vwCl[ci]? = some (C, T, N) ∧ k < N ∧ Cond.fieldLink own ix (T k).1 (T k).2.1 (T k).2.2.1 ∈ ai_TB
def ai_fk (kd : Nat) (ty : FieldType) : Bool := match kd, ty with
  | 0, .int => true
  | 1, .boolean => true
  | 2, .array _ => true
  | 2, .object _ => true
  | _, _ => false
def ai_fw (own : String) (ini : Bool) (ix ci k kd : Nat) : Prop := ∃ (C : String) (T : u_T) (N : Nat), vwCl[ci]? = some (C, T, N) ∧ k < N ∧ Cond.fieldLink own ix (T k).1 (T k).2.1 (T k).2.2.1 ∈ ai_TB ∧ ai_fk kd (ai_fty ci k) = true ∧ ((T k).2.2.2 = false ∨ (ini = true ∧ (T k).1 = own ∧ (T k).2.2.2 = true))
theorem ai_vk_ok {kd : Nat} {ty : FieldType} {v : Value} (ad : Nat → Nat) (h1 : ai_fk kd ty = true) (h2 : ai_vk kd v = true) : narrow ty (ai_v ad v) = ai_v ad v ∧ fits ty (ai_v ad v) = true := by
  unfold ai_fk at h1
  split at h1
  · cases v <;> first | (exact ⟨rfl, rfl⟩) | (simp [ai_vk] at h2)
  · cases v with
    | int x =>
      have h3 : x = 0 ∨ x = 1 := by simpa [ai_vk] using h2
      rcases h3 with h3 | h3
      · subst h3
        exact ⟨rfl, rfl⟩
      · subst h3
        exact ⟨rfl, rfl⟩
    | _ => simp [ai_vk] at h2
  · cases v <;> first | (exact ⟨rfl, rfl⟩) | (simp [ai_vk] at h2)
  · cases v <;> first | (exact ⟨rfl, rfl⟩) | (simp [ai_vk] at h2)
  · cases h1
theorem ai_def_obj {ad : Nat → Nat} (ci : Nat) : (ai_def ci).map (ai_v ad) = ai_def ci := by
  unfold ai_def
  split <;> rfl
theorem ai_wr {D : va_G} {ad : Nat → Nat} {dA : Nat → ClassId} {z0 : Nat} {Hb : Heap} {s : State} {h1 : ai_H} {H1 : Heap} {locs : List Loc} (hZ : z0 ≤ s.heap.size ∧ ∀ q, q < z0 → s.heap[q]? = Hb[q]?) (hP : va_P D vwCl (ai_w ad dA z0 h1) H1) (hl : h1.length ≤ 1000000) (hS : va_S (fun q : Nat => z0 ≤ q) s.heap H1 locs) : ai_R D ad dA z0 Hb h1 H1 :=
  ⟨hP, hl, Nat.le_trans hZ.1 hS.1, fun q hq => (hS.2.1 q (Nat.lt_of_lt_of_le hq hZ.1) (Nat.not_le.mpr hq)).trans (hZ.2 q hq)⟩
section AIH
variable {p : Program} {l : Launch} {e : Env} {R : Room} {s : State} {m : MethodId} {args : Array Value} {below : List Frame} {meth : Method} {c : Code} {Q : State → Prop} {nL : Nat} {D : va_G} {ad : Nat → Nat} {dA : Nat → ClassId} {z0 : Nat} {Hb : Heap} {n0 : Nat} {cc : ByteArray}
theorem as_get (hx : p.tables.exec = Jvm.exec) (hb : c.code = cc) (hts : ∀ w ∈ ai_TB, w.before args s = true) (hK : va_K D vwCl (ai_tys dA) s) (had : ∀ k, k < 1000000 → ad k = z0 + k) (hZ : z0 ≤ s.heap.size ∧ ∀ q, q < z0 → s.heap[q]? = Hb[q]?) {own : String} (hown : s.vm.findClass own = some m.cls) {KL : ai_L} {ix : Nat} (hF : ∀ ci k kd, ai_as KL.1 ix = some (ci, k, kd) → ai_fr own ix ci k) {fr fr' : ai_F} (hd : decode cc fr.1 = .ok (.getfield ix, 3)) (h : ai_get KL ix fr = some fr') (K : ai_W p l e R s m args below meth c Q nL D ad dA z0 Hb n0 fr') : ai_W p l e R s m args below meth c Q nL D ad dA z0 Hb n0 fr := by
  obtain ⟨pc, lv, st, h0, ex, nc, ns⟩ := fr
  unfold ai_get at h
  split at h
  · rename_i a st1 h1 r heq
    simp only [Prod.mk.injEq] at heq
    obtain ⟨rfl, rfl, rfl, rfl, rfl⟩ := heq
    split at h
    · rename_i ci k kd hf
      split at h
      · rename_i cj fs hh
        split at h
        · rename_i hc
          subst hc
          split at h
          · rename_i v hv
            cases h
            obtain ⟨C, T, N, hc, hk, hw⟩ := hF ci k kd hf
            intro H locs ls hR hE hS hl
            have ha : a < h0.length := (List.getElem?_eq_some_iff.mp hh).1
            have hae : ad a = z0 + a := had a (Nat.lt_of_lt_of_le ha hR.2.1)
            have hwg := ai_w_get (ad := ad) (dA := dA) (z0 := z0) hh
            rw [← hae] at hwg
            exact va_get (D := D) (ci := ci) (v := ai_v ad v) (C := C) (T := T) (N := N) hx hb hts (ai_cls hc).1 hown hK hR.1 a hwg hc k hk (hts _ hw) (fun _ h9 => h9) (by simp [hv]) hd (K H locs ls hR hE hS hl)
          · cases h
        · cases h
      · cases h
    · cases h
  · cases h
theorem as_put (hx : p.tables.exec = Jvm.exec) (hb : c.code = cc) (hts : ∀ w ∈ ai_TB, w.before args s = true) (hK : va_K D vwCl (ai_tys dA) s) (had : ∀ k, k < 1000000 → ad k = z0 + k) (hZ : z0 ≤ s.heap.size ∧ ∀ q, q < z0 → s.heap[q]? = Hb[q]?) {own : String} (hown : s.vm.findClass own = some m.cls) {ini : Bool} (hini : ini = true → meth.name = "<init>") {KL : ai_L} {ix : Nat} (hF : ∀ ci k kd, ai_as KL.1 ix = some (ci, k, kd) → ai_fw own ini ix ci k kd) {fr fr' : ai_F} (hd : decode cc fr.1 = .ok (.putfield ix, 3)) (h : ai_put KL ix fr = some fr') (K : ai_W p l e R s m args below meth c Q nL D ad dA z0 Hb n0 fr') : ai_W p l e R s m args below meth c Q nL D ad dA z0 Hb n0 fr := by
  obtain ⟨pc, lv, st, h0, ex, nc, ns⟩ := fr
  unfold ai_put at h
  split at h
  · rename_i v a st1 h1 r heq
    simp only [Prod.mk.injEq] at heq
    obtain ⟨rfl, rfl, rfl, rfl, rfl⟩ := heq
    split at h
    · rename_i ci k kd hf
      split at h
      · rename_i cj fs hh
        split at h
        · rename_i hc0
          obtain ⟨rfl, hkl, hvk⟩ := hc0
          cases h
          obtain ⟨C, T, N, hc, hk, hw, hfk, hfin⟩ := hF ci k kd hf
          obtain ⟨g1, g2⟩ := ai_vk_ok ad hfk hvk
          intro H locs ls hR hE hS hl
          have ha : a < h0.length := (List.getElem?_eq_some_iff.mp hh).1
          have hae : ad a = z0 + a := had a (Nat.lt_of_lt_of_le ha hR.2.1)
          have hwg := ai_w_get (ad := ad) (dA := dA) (z0 := z0) hh
          rw [← hae] at hwg
          have hcl := ai_cls hc
          have kk : ∀ (H1 : Heap) (locs1 : List Loc), va_P D vwCl ((ai_w ad dA z0 h0).set a (ad a, .inr (ci, (fs.map (ai_v ad)).set k (ai_v ad v)))) H1 → va_D (fun q : Nat => z0 ≤ q) ((ai_w ad dA z0 h0).set a (ad a, .inr (ci, (fs.map (ai_v ad)).set k (ai_v ad v)))) → va_S (fun q : Nat => z0 ≤ q) s.heap H1 locs1 → W p l e R s m args below meth c H1 locs1 nc ns Q (F0 m (pc + 3) ls (st1.map (ai_v ad))) := by
            intro H1 locs1 hP1 _ hS1
            have he : (ai_w ad dA z0 h0).set a (ad a, .inr (ci, (fs.map (ai_v ad)).set k (ai_v ad v))) = ai_w ad dA z0 (h0.set a (.inr (ci, fs.set k v))) := by
              rw [ai_w_set, hae]
              simp [ai_ce, List.map_set]
            rw [he] at hP1
            exact K H1 locs1 ls (ai_wr hZ hP1 (by simpa using hR.2.1) hS1) (by simpa using hE) hS1 hl
          rcases hfin with h9 | ⟨i9, o9, h9⟩
          · exact va_put (D := D) (ci := ci) (v := ai_v ad v) (C := C) (T := T) (N := N) hx hb hts hcl.1 (ai_fty ci) hcl.2.1 hcl.2.2.1 hown hK hR.1 ai_w_D hS a hwg hc k hk (hts _ hw) (fun _ h9 => h9) h9 (hcl.2.1 k hk) g1 g2 (by simpa using hkl) hd kk
          · exact va_putF (D := D) (ci := ci) (v := ai_v ad v) (C := C) (T := T) (N := N) hx hb hts hcl.1 (ai_fty ci) hcl.2.1 hcl.2.2.1 hown hK hR.1 ai_w_D hS a hwg hc k hk (hts _ hw) (fun _ h9 => h9) h9 (hini i9) o9 (hcl.2.1 k hk) g1 g2 (by simpa using hkl) hd kk
        · cases h
      · cases h
    · cases h
  · cases h
theorem as_bal (hx : p.tables.exec = Jvm.exec) (hb : c.code = cc) (hts : ∀ w ∈ ai_TB, w.before args s = true) (hK : va_K D vwCl (ai_tys dA) s) (had : ∀ k, k < 1000000 → ad k = z0 + k) (hZ : z0 ≤ s.heap.size ∧ ∀ q, q < z0 → s.heap[q]? = Hb[q]?) {fr fr' : ai_F} (hd : decode cc fr.1 = .ok (.baload, 1)) (h : ai_bal fr = some fr') (K : ai_W p l e R s m args below meth c Q nL D ad dA z0 Hb n0 fr') : ai_W p l e R s m args below meth c Q nL D ad dA z0 Hb n0 fr := by
  obtain ⟨pc, lv, st, h0, ex, nc, ns⟩ := fr
  unfold ai_bal at h
  split at h
  · rename_i i a st1 h1 r heq
    simp only [Prod.mk.injEq] at heq
    obtain ⟨rfl, rfl, rfl, rfl, rfl⟩ := heq
    split at h
    · rename_i n f hh
      split at h
      · rename_i hi
        cases h
        intro H locs ls hR hE hS hl
        have ha : a < h0.length := (List.getElem?_eq_some_iff.mp hh).1
        have hae : ad a = z0 + a := had a (Nat.lt_of_lt_of_le ha hR.2.1)
        have hwg := ai_w_get (ad := ad) (dA := dA) (z0 := z0) hh
        rw [← hae] at hwg
        exact va_zald hx hb hK hR.1 a 1 hwg rfl (ai_in_of hi) hd (K H locs ls hR hE hS hl)
      · cases h
    · rename_i n f hh
      split at h
      · rename_i hi
        cases h
        intro H locs ls hR hE hS hl
        have ha : a < h0.length := (List.getElem?_eq_some_iff.mp hh).1
        have hae : ad a = z0 + a := had a (Nat.lt_of_lt_of_le ha hR.2.1)
        have hwg := ai_w_get (ad := ad) (dA := dA) (z0 := z0) hh
        rw [← hae] at hwg
        exact va_bald hx hb hK hR.1 a 2 hwg rfl (ai_in_of hi) hd (K H locs ls hR hE hS hl)
      · cases h
    · cases h
  · cases h
theorem as_lal (hx : p.tables.exec = Jvm.exec) (hb : c.code = cc) (hts : ∀ w ∈ ai_TB, w.before args s = true) (hK : va_K D vwCl (ai_tys dA) s) (had : ∀ k, k < 1000000 → ad k = z0 + k) (hZ : z0 ≤ s.heap.size ∧ ∀ q, q < z0 → s.heap[q]? = Hb[q]?) {fr fr' : ai_F} (hd : decode cc fr.1 = .ok (.laload, 1)) (h : ai_lal fr = some fr') (K : ai_W p l e R s m args below meth c Q nL D ad dA z0 Hb n0 fr') : ai_W p l e R s m args below meth c Q nL D ad dA z0 Hb n0 fr := by
  obtain ⟨pc, lv, st, h0, ex, nc, ns⟩ := fr
  unfold ai_lal at h
  split at h
  · rename_i i a st1 h1 r heq
    simp only [Prod.mk.injEq] at heq
    obtain ⟨rfl, rfl, rfl, rfl, rfl⟩ := heq
    split at h
    · rename_i n f hh
      split at h
      · rename_i hi
        cases h
        intro H locs ls hR hE hS hl
        have ha : a < h0.length := (List.getElem?_eq_some_iff.mp hh).1
        have hae : ad a = z0 + a := had a (Nat.lt_of_lt_of_le ha hR.2.1)
        have hwg := ai_w_get (ad := ad) (dA := dA) (z0 := z0) hh
        rw [← hae] at hwg
        exact va_lald hx hb hK hR.1 a 3 hwg rfl (ai_in_of hi) hd (K H locs ls hR hE hS hl)
      · cases h
    · cases h
  · cases h
theorem as_ias (hx : p.tables.exec = Jvm.exec) (hb : c.code = cc) (hts : ∀ w ∈ ai_TB, w.before args s = true) (hK : va_K D vwCl (ai_tys dA) s) (had : ∀ k, k < 1000000 → ad k = z0 + k) (hZ : z0 ≤ s.heap.size ∧ ∀ q, q < z0 → s.heap[q]? = Hb[q]?) {fr fr' : ai_F} (hd : decode cc fr.1 = .ok (.iastore, 1)) (h : ai_ias fr = some fr') (K : ai_W p l e R s m args below meth c Q nL D ad dA z0 Hb n0 fr') : ai_W p l e R s m args below meth c Q nL D ad dA z0 Hb n0 fr := by
  obtain ⟨pc, lv, st, h0, ex, nc, ns⟩ := fr
  unfold ai_ias at h
  split at h
  · rename_i x i a st1 h1 r heq
    simp only [Prod.mk.injEq] at heq
    obtain ⟨rfl, rfl, rfl, rfl, rfl⟩ := heq
    split at h
    · rename_i n f hh
      split at h
      · rename_i hi
        cases h
        intro H locs ls hR hE hS hl
        have ha : a < h0.length := (List.getElem?_eq_some_iff.mp hh).1
        have hae : ad a = z0 + a := had a (Nat.lt_of_lt_of_le ha hR.2.1)
        have hwg := ai_w_get (ad := ad) (dA := dA) (z0 := z0) hh
        rw [← hae] at hwg
        refine va_iast hx hb hK hR.1 ai_w_D hS a 0 hwg rfl (ai_in_of hi) hd (fun H1 locs1 hP1 _ hS1 => ?_)
        have he : (ai_w ad dA z0 h0).set a (ad a, .inl (dA 0, n, .inl (upd f i.toNatClampNeg x))) = ai_w ad dA z0 (h0.set a (.inl (0, n, .inl (upd f i.toNatClampNeg x)))) := by
          rw [ai_w_set, hae]
          rfl
        rw [he] at hP1
        exact K H1 locs1 ls (ai_wr hZ hP1 (by simpa using hR.2.1) hS1) (by simpa using hE) hS1 hl
      · cases h
    · cases h
  · cases h
theorem as_bas (hx : p.tables.exec = Jvm.exec) (hb : c.code = cc) (hts : ∀ w ∈ ai_TB, w.before args s = true) (hK : va_K D vwCl (ai_tys dA) s) (had : ∀ k, k < 1000000 → ad k = z0 + k) (hZ : z0 ≤ s.heap.size ∧ ∀ q, q < z0 → s.heap[q]? = Hb[q]?) {fr fr' : ai_F} (hd : decode cc fr.1 = .ok (.bastore, 1)) (h : ai_bas fr = some fr') (K : ai_W p l e R s m args below meth c Q nL D ad dA z0 Hb n0 fr') : ai_W p l e R s m args below meth c Q nL D ad dA z0 Hb n0 fr := by
  obtain ⟨pc, lv, st, h0, ex, nc, ns⟩ := fr
  unfold ai_bas at h
  split at h
  · rename_i x i a st1 h1 r heq
    simp only [Prod.mk.injEq] at heq
    obtain ⟨rfl, rfl, rfl, rfl, rfl⟩ := heq
    split at h
    · rename_i n f hh
      split at h
      · rename_i hi
        cases h
        intro H locs ls hR hE hS hl
        have ha : a < h0.length := (List.getElem?_eq_some_iff.mp hh).1
        have hae : ad a = z0 + a := had a (Nat.lt_of_lt_of_le ha hR.2.1)
        have hwg := ai_w_get (ad := ad) (dA := dA) (z0 := z0) hh
        rw [← hae] at hwg
        refine va_zast hx hb hK hR.1 ai_w_D hS a 1 hwg rfl (ai_in_of hi) hd (fun H1 locs1 hP1 _ hS1 => ?_)
        have he : (ai_w ad dA z0 h0).set a (ad a, .inl (dA 1, n, .inl (upd f i.toNatClampNeg (vp_nar .boolean x)))) = ai_w ad dA z0 (h0.set a (.inl (1, n, .inl (upd f i.toNatClampNeg (vp_nar .boolean x))))) := by
          rw [ai_w_set, hae]
          rfl
        rw [he] at hP1
        exact K H1 locs1 ls (ai_wr hZ hP1 (by simpa using hR.2.1) hS1) (by simpa using hE) hS1 hl
      · cases h
    · rename_i n f hh
      split at h
      · rename_i hi
        cases h
        intro H locs ls hR hE hS hl
        have ha : a < h0.length := (List.getElem?_eq_some_iff.mp hh).1
        have hae : ad a = z0 + a := had a (Nat.lt_of_lt_of_le ha hR.2.1)
        have hwg := ai_w_get (ad := ad) (dA := dA) (z0 := z0) hh
        rw [← hae] at hwg
        refine va_bast hx hb hK hR.1 ai_w_D hS a 2 hwg rfl (ai_in_of hi) hd (fun H1 locs1 hP1 _ hS1 => ?_)
        have he : (ai_w ad dA z0 h0).set a (ad a, .inl (dA 2, n, .inl (upd f i.toNatClampNeg (vp_nar .byte x)))) = ai_w ad dA z0 (h0.set a (.inl (2, n, .inl (upd f i.toNatClampNeg (vp_nar .byte x))))) := by
          rw [ai_w_set, hae]
          rfl
        rw [he] at hP1
        exact K H1 locs1 ls (ai_wr hZ hP1 (by simpa using hR.2.1) hS1) (by simpa using hE) hS1 hl
      · cases h
    · cases h
  · cases h
theorem as_las (hx : p.tables.exec = Jvm.exec) (hb : c.code = cc) (hts : ∀ w ∈ ai_TB, w.before args s = true) (hK : va_K D vwCl (ai_tys dA) s) (had : ∀ k, k < 1000000 → ad k = z0 + k) (hZ : z0 ≤ s.heap.size ∧ ∀ q, q < z0 → s.heap[q]? = Hb[q]?) {fr fr' : ai_F} (hd : decode cc fr.1 = .ok (.lastore, 1)) (h : ai_las fr = some fr') (K : ai_W p l e R s m args below meth c Q nL D ad dA z0 Hb n0 fr') : ai_W p l e R s m args below meth c Q nL D ad dA z0 Hb n0 fr := by
  obtain ⟨pc, lv, st, h0, ex, nc, ns⟩ := fr
  unfold ai_las at h
  split at h
  · rename_i x i a st1 h1 r heq
    simp only [Prod.mk.injEq] at heq
    obtain ⟨rfl, rfl, rfl, rfl, rfl⟩ := heq
    split at h
    · rename_i n f hh
      split at h
      · rename_i hi
        cases h
        intro H locs ls hR hE hS hl
        have ha : a < h0.length := (List.getElem?_eq_some_iff.mp hh).1
        have hae : ad a = z0 + a := had a (Nat.lt_of_lt_of_le ha hR.2.1)
        have hwg := ai_w_get (ad := ad) (dA := dA) (z0 := z0) hh
        rw [← hae] at hwg
        refine va_last hx hb hK hR.1 ai_w_D hS a 3 hwg rfl (ai_in_of hi) hd (fun H1 locs1 hP1 _ hS1 => ?_)
        have he : (ai_w ad dA z0 h0).set a (ad a, .inl (dA 3, n, .inr (.inl (vp_updL f i.toNatClampNeg x)))) = ai_w ad dA z0 (h0.set a (.inl (3, n, .inr (.inl (vp_updL f i.toNatClampNeg x))))) := by
          rw [ai_w_set, hae]
          rfl
        rw [he] at hP1
        exact K H1 locs1 ls (ai_wr hZ hP1 (by simpa using hR.2.1) hS1) (by simpa using hE) hS1 hl
      · cases h
    · cases h
  · cases h
end AIH
end
section
/-! the script, new cells, string constants, Object's constructor -/
section AIN
variable {p : Program} {l : Launch} {e : Env} {R : Room} {s : State} {m : MethodId} {args : Array Value} {below : List Frame} {meth : Method} {c : Code} {Q : State → Prop} {nL : Nat} {D : va_G} {ad : Nat → Nat} {dA : Nat → ClassId} {z0 : Nat} {Hb : Heap} {n0 : Nat} {cc : ByteArray}
theorem as_ial (hx : p.tables.exec = Jvm.exec) (hb : c.code = cc) (hts : ∀ w ∈ ai_TB, w.before args s = true) (hK : va_K D vwCl (ai_tys dA) s) (had : ∀ k, k < 1000000 → ad k = z0 + k) (hZ : z0 ≤ s.heap.size ∧ ∀ q, q < z0 → s.heap[q]? = Hb[q]?) {X : Nat × (Nat → Int32)} (hX : va_X (ad 1000000) X.1 X.2 s s.heap) (hX2 : ad 1000000 < z0) {fr fr' : ai_F} (hd : decode cc fr.1 = .ok (.iaload, 1)) (h : ai_ial X fr = some fr') (K : ai_W p l e R s m args below meth c Q nL D ad dA z0 Hb n0 fr') : ai_W p l e R s m args below meth c Q nL D ad dA z0 Hb n0 fr := by
  obtain ⟨pc, lv, st, h0, ex, nc, ns⟩ := fr
  unfold ai_ial at h
  split at h
  · rename_i i a st1 h1 r heq
    simp only [Prod.mk.injEq] at heq
    obtain ⟨rfl, rfl, rfl, rfl, rfl⟩ := heq
    split at h
    · rename_i hsc
      subst hsc
      split at h
      · rename_i hi
        cases h
        intro H locs ls hR hE hS hl
        exact va_sld hx hb hX (Nat.lt_of_lt_of_le hX2 hZ.1) (Nat.not_le.mpr hX2) hS (ai_in_of hi) hd (K H locs ls hR hE hS hl)
      · cases h
    · split at h
      · rename_i n f hh
        split at h
        · rename_i hi
          cases h
          intro H locs ls hR hE hS hl
          have ha : a < h0.length := (List.getElem?_eq_some_iff.mp hh).1
          have hae : ad a = z0 + a := had a (Nat.lt_of_lt_of_le ha hR.2.1)
          have hwg := ai_w_get (ad := ad) (dA := dA) (z0 := z0) hh
          rw [← hae] at hwg
          exact va_iald hx hb hK hR.1 a 0 hwg rfl (ai_in_of hi) hd (K H locs ls hR hE hS hl)
        · cases h
      · cases h
  · cases h
theorem as_len (hx : p.tables.exec = Jvm.exec) (hb : c.code = cc) (hts : ∀ w ∈ ai_TB, w.before args s = true) (hK : va_K D vwCl (ai_tys dA) s) (had : ∀ k, k < 1000000 → ad k = z0 + k) (hZ : z0 ≤ s.heap.size ∧ ∀ q, q < z0 → s.heap[q]? = Hb[q]?) {X : Nat × (Nat → Int32)} (hX : va_X (ad 1000000) X.1 X.2 s s.heap) (hX2 : ad 1000000 < z0) {fr fr' : ai_F} (hd : decode cc fr.1 = .ok (.arraylength, 1)) (h : ai_len X fr = some fr') (K : ai_W p l e R s m args below meth c Q nL D ad dA z0 Hb n0 fr') : ai_W p l e R s m args below meth c Q nL D ad dA z0 Hb n0 fr := by
  obtain ⟨pc, lv, st, h0, ex, nc, ns⟩ := fr
  unfold ai_len at h
  split at h
  · rename_i a st1 h1 r heq
    simp only [Prod.mk.injEq] at heq
    obtain ⟨rfl, rfl, rfl, rfl, rfl⟩ := heq
    split at h
    · rename_i hsc
      subst hsc
      cases h
      intro H locs ls hR hE hS hl
      exact va_slen hx hb hX (Nat.lt_of_lt_of_le hX2 hZ.1) (Nat.not_le.mpr hX2) hS hd (K H locs ls hR hE hS hl)
    · split at h
      · rename_i k x hh
        split at h
        · rename_i hk
          cases h
          intro H locs ls hR hE hS hl
          have ha : a < h0.length := (List.getElem?_eq_some_iff.mp hh).1
          have hae : ad a = z0 + a := had a (Nat.lt_of_lt_of_le ha hR.2.1)
          have hwg := ai_w_get (ad := ad) (dA := dA) (z0 := z0) hh
          rw [← hae] at hwg
          have ht : ∃ ty, (ai_tys dA)[k]? = some (dA k, ty) := by
            match k, hk with
            | 0, _ => exact ⟨_, rfl⟩
            | 1, _ => exact ⟨_, rfl⟩
            | 2, _ => exact ⟨_, rfl⟩
            | 3, _ => exact ⟨_, rfl⟩
            | 4, _ => exact ⟨_, rfl⟩
          obtain ⟨ty, ht⟩ := ht
          have hv : (ai_a ad x).1 = x.1 := by
            obtain ⟨n, f⟩ := x
            rcases f with f | f | f | f | f <;> rfl
          exact va_alen hx hb hK hR.1 a k hwg ht (by rw [hv]) hd (K H locs ls hR hE hS hl)
        · cases h
      · cases h
  · cases h
theorem as_obj (hx : p.tables.exec = Jvm.exec) (hb : c.code = cc) (hts : ∀ w ∈ ai_TB, w.before args s = true) (hK : va_K D vwCl (ai_tys dA) s) (had : ∀ k, k < 1000000 → ad k = z0 + k) (hZ : z0 ≤ s.heap.size ∧ ∀ q, q < z0 → s.heap[q]? = Hb[q]?) {own : String} (hown : s.vm.findClass own = some m.cls) (hml : c.maxLocals = nL) {KL : ai_L} {ix : Nat} (hF : ∀ n, ai_as KL.2.2.2.1 ix = some (0, n) → Cond.methodLink own ix Lib.objectInit ∈ ai_TB) (hO : Cond.instanceMethod Lib.objectInit ∈ ai_TB ∧ Cond.code Lib.objectInit ⟨#[0xb1]⟩ 1 none ∈ ai_TB) (hRm : 1 ≤ R.frames ∧ 40 ≤ R.locals) {fr fr' : ai_F} (hd : decode cc fr.1 = .ok (.invokespecial ix, 3)) (h : ai_obj KL ix fr = some fr') (K : ai_W p l e R s m args below meth c Q nL D ad dA z0 Hb n0 fr') : ai_W p l e R s m args below meth c Q nL D ad dA z0 Hb n0 fr := by
  obtain ⟨pc, lv, st, h0, ex, nc, ns⟩ := fr
  unfold ai_obj at h
  split at h
  · rename_i a st1 r heq
    simp only [Prod.mk.injEq] at heq
    obtain ⟨rfl, rfl, rfl, rfl⟩ := heq
    split at h
    · rename_i q n hf
      split at h
      · rename_i hq
        obtain ⟨rfl, hsum⟩ := hq
        cases h
        intro H locs ls hR hE hS hl
        have hs : ((st1.map (ai_v ad)).map fun v => v.category).sum = ai_sum st1 := by
          simp [ai_sum, Function.comp_def, ai_v_cat]
        have hm0 : (F0 m pc ls ((.ref a :: st1).map (ai_v ad))).monitorRoom = 0 := rfl
        refine W.objInit hx hb hown (hts _ (hF n hf)) (hts _ hO.1) (hts _ hO.2) rfl (by rw [hml]; exact hl.1) (a := ad a) (rest := st1.map (ai_v ad)) rfl hd hRm.1 (by rw [hm0, hs]; omega) ?_
        exact K H locs ls hR hE hS hl
      · cases h
    · cases h
  · cases h
theorem as_ldc (hx : p.tables.exec = Jvm.exec) (hb : c.code = cc) (hts : ∀ w ∈ ai_TB, w.before args s = true) (hK : va_K D vwCl (ai_tys dA) s) (had : ∀ k, k < 1000000 → ad k = z0 + k) (hZ : z0 ≤ s.heap.size ∧ ∀ q, q < z0 → s.heap[q]? = Hb[q]?) {own : String} (hown : s.vm.findClass own = some m.cls) {KL : ai_L} {ix : Nat} (hF : ∀ i, ai_as KL.2.2.1 ix = some i → ∃ tx, vk_R own ix tx (ad (1000001 + i)) s) {fr fr' : ai_F} (hd : decode cc fr.1 = .ok (.ldc ix, 2)) (h : ai_ldc KL ix fr = some fr') (K : ai_W p l e R s m args below meth c Q nL D ad dA z0 Hb n0 fr') : ai_W p l e R s m args below meth c Q nL D ad dA z0 Hb n0 fr := by
  obtain ⟨pc, lv, st, h0, ex, nc, ns⟩ := fr
  simp only [ai_ldc] at h
  split at h
  · rename_i i hi
    cases h
    obtain ⟨tx, hv⟩ := hF i hi
    intro H locs ls hR hE hS hl
    exact va_ldcS hx hb hown hv hd (K H locs ls hR hE hS hl)
  · cases h
theorem as_new (hx : p.tables.exec = Jvm.exec) (hb : c.code = cc) (hts : ∀ w ∈ ai_TB, w.before args s = true) (hK : va_K D vwCl (ai_tys dA) s) (had : ∀ k, k < 1000000 → ad k = z0 + k) (hZ : z0 ≤ s.heap.size ∧ ∀ q, q < z0 → s.heap[q]? = Hb[q]?) {own : String} (hown : s.vm.findClass own = some m.cls) {KL : ai_L} {ix : Nat} (hF : ∀ ci, ai_as KL.2.1 ix = some ci → ∃ q, vwCl[ci]? = some q ∧ Cond.classLink own ix q.1 ∈ ai_TB) {fr fr' : ai_F} (hd : decode cc fr.1 = .ok (.new ix, 3)) (h : ai_new KL ix fr = some fr') (hM : fr'.2.2.2.2.2.1 ≤ R.cells ∧ fr'.2.2.2.2.2.2 ≤ R.slots) (K : ai_W p l e R s m args below meth c Q nL D ad dA z0 Hb n0 fr') : ai_W p l e R s m args below meth c Q nL D ad dA z0 Hb n0 fr := by
  obtain ⟨pc, lv, st, h0, ex, nc, ns⟩ := fr
  simp only [ai_new] at h
  split at h
  · rename_i ci hi
    split at h
    · rename_i hc
      obtain ⟨hex, hlen⟩ := hc
      cases h
      obtain ⟨q, hq, hw⟩ := hF ci hi
      obtain ⟨c1, c2, c3, c4, c5, c6, c7⟩ := ai_cls hq
      intro H locs ls hR hE hS hl
      refine as_exact hR (hE hex) (fun hsz => ?_)
      refine va_new (ci := ci) (fs := ai_def ci) (C := q.1) (T := q.2.1) (N := q.2.2) hx hb hts c1 (ai_fty ci) c2 hown (hts _ hw) (hts _ c6) (hts _ c7) hK hR.1 ai_w_D hS (fun x hx9 => Nat.le_trans hZ.1 hx9) hq c5 hM.1 (by have h9 := hM.2; simp only [c4] at h9; exact h9) hd (fun a H1 hP1 hD1 hS1 => ?_)
      rw [c4] at K
      intro T hT X
      have g1 : H1.size ≤ s.heap.size + (nc + 1) := by rw [← hT]; exact X.same.2.2.1
      have g2 : a < H1.size := (hP1 (ai_w ad dA z0 h0).length (a, .inr (ci, ai_def ci)) (by simp)).lt
      have g3 : z0 ≤ a := hD1.2 (ai_w ad dA z0 h0).length (a, .inr (ci, ai_def ci)) (by simp)
      have g4 : (ai_w ad dA z0 h0).length = h0.length := by simp [ai_w]
      have g5 : a = z0 + h0.length := by
        rcases Nat.lt_or_ge a (z0 + h0.length) with g | g
        · exfalso
          have g6 : a - z0 < h0.length := by omega
          have g7 := ai_w_get (ad := ad) (dA := dA) (z0 := z0) (List.getElem?_eq_getElem g6)
          have g8 := hD1.1 (a - z0) (ai_w ad dA z0 h0).length _ (a, .inr (ci, ai_def ci)) (by rw [List.getElem?_append_left (by rw [g4]; exact g6)]; exact g7) (by simp) (by simp only; omega)
          omega
        · have := hE hex
          omega
      have g9 : ad h0.length = a := by rw [had _ hlen, g5]
      have he : ai_w ad dA z0 h0 ++ [(a, .inr (ci, ai_def ci))] = ai_w ad dA z0 (h0 ++ [.inr (ci, ai_def ci)]) := by
        rw [ai_w_push, g5]
        simp [ai_ce, ai_def_obj]
      rw [he] at hP1
      have kk := K H1 locs ls (ai_wr hZ hP1 (by simp; omega) hS1) (fun _ => by have := hE hex; simp; omega) hS1 hl
      rw [← g9] at *
      exact kk T hT X
    · cases h
  · cases h
end AIN
end
section
/-! new arrays, rows of strings -/
section AIQ
variable {p : Program} {l : Launch} {e : Env} {R : Room} {s : State} {m : MethodId} {args : Array Value} {below : List Frame} {meth : Method} {c : Code} {Q : State → Prop} {nL : Nat} {D : va_G} {ad : Nat → Nat} {dA : Nat → ClassId} {z0 : Nat} {Hb : Heap} {n0 : Nat} {cc : ByteArray}
/-- a new cell lies at the next handle's address -/
theorem as_at {h0 : ai_H} {nc : Nat} {a : Nat} {x : va_E} {H1 : Heap} {locs : List Loc} {ns : Nat} {T : State} (hE : h0.length = n0 + nc ∧ s.heap.size = z0 + n0) (hP1 : va_P D vwCl (ai_w ad dA z0 h0 ++ [(a, x)]) H1) (hD1 : va_D (fun q : Nat => z0 ≤ q) (ai_w ad dA z0 h0 ++ [(a, x)])) (hT : T.heap = H1) (X : Stand p l e R s m args below meth c T locs (nc + 1) ns) : a = z0 + h0.length := by
  have g1 : H1.size ≤ s.heap.size + (nc + 1) := by rw [← hT]; exact X.same.2.2.1
  have g2 : a < H1.size := (hP1 (ai_w ad dA z0 h0).length (a, x) (by simp)).lt
  have g3 : z0 ≤ a := hD1.2 (ai_w ad dA z0 h0).length (a, x) (by simp)
  have g4 : (ai_w ad dA z0 h0).length = h0.length := by simp [ai_w]
  rcases Nat.lt_or_ge a (z0 + h0.length) with g | g
  · exfalso
    have g6 : a - z0 < h0.length := by omega
    have g7 := ai_w_get (ad := ad) (dA := dA) (z0 := z0) (List.getElem?_eq_getElem g6)
    have g8 := hD1.1 (a - z0) (ai_w ad dA z0 h0).length _ (a, x) (by rw [List.getElem?_append_left (by rw [g4]; exact g6)]; exact g7) (by simp) (by simp only; omega)
    omega
  · omega
theorem ai_K_arr {cA : ClassId} {k : Nat} {ty : FieldType} (hty : (ai_tys dA)[k]? = some (dA k, ty)) (hK2 : va_K D vwCl (ai_tys dA ++ [(cA, ty)]) s) : cA = dA k := by
  have h1 := (hK2.2 5 (cA, ty) rfl).2
  have h2 := (hK2.2 k (dA k, ty) (by
    have hk : k < (ai_tys dA).length := (List.getElem?_eq_some_iff.mp hty).1
    rw [List.getElem?_append_left hk]; exact hty)).2
  cases ty with
  | object C =>
    obtain ⟨_, _, -, -, -, q1⟩ := h1
    obtain ⟨_, _, -, -, -, q2⟩ := h2
    exact Option.some.inj (q1.symm.trans q2)
  | _ => exact Option.some.inj (Eq.trans (Eq.symm h1) h2)
theorem as_nwa (hx : p.tables.exec = Jvm.exec) (hb : c.code = cc) (hts : ∀ w ∈ ai_TB, w.before args s = true) (hK : va_K D vwCl (ai_tys dA) s) (had : ∀ k, k < 1000000 → ad k = z0 + k) (hZ : z0 ≤ s.heap.size ∧ ∀ q, q < z0 → s.heap[q]? = Hb[q]?) {t : ArrayType} (hF : Cond.arrayClass (newarray.typeOf t) ∈ ai_TB) {fr fr' : ai_F} (hd : decode cc fr.1 = .ok (.newarray t, 2)) (h : ai_nwa t fr = some fr') (hM : fr'.2.2.2.2.2.1 ≤ R.cells ∧ fr'.2.2.2.2.2.2 ≤ R.slots) (K : ai_W p l e R s m args below meth c Q nL D ad dA z0 Hb n0 fr') : ai_W p l e R s m args below meth c Q nL D ad dA z0 Hb n0 fr := by
  obtain ⟨pc, lv, st, h0, ex, nc, ns⟩ := fr
  unfold ai_nwa at h
  split at h
  · rename_i n st1 h1 ex1 nc1 ns1 heq
    simp only [Prod.mk.injEq] at heq
    obtain ⟨rfl, rfl, rfl, rfl, rfl, rfl, rfl⟩ := heq
    split at h
    · rename_i x hx1
      split at h
      · rename_i hc
        obtain ⟨hex, hlen, hn, hbig⟩ := hc
        cases h
        intro H locs ls hR hE hS hl
        have key : ∃ k ty, ai_kd t = k ∧ newarray.typeOf t = ty ∧ (ai_tys dA)[k]? = some (dA k, ty) ∧ (∀ cA : ClassId, vp_cell cA x = arrV cA n.toNatClampNeg (fun _ => defaultValue ty)) ∧ n.toNatClampNeg * componentBytes ty ≤ 536870912 ∧ ai_a ad x = x := by
          cases t with
          | int => cases hx1; exact ⟨0, .int, rfl, rfl, rfl, fun _ => rfl, by simp only [componentBytes]; omega, rfl⟩
          | boolean => cases hx1; exact ⟨1, .boolean, rfl, rfl, rfl, fun _ => rfl, by simp only [componentBytes]; omega, rfl⟩
          | byte => cases hx1; exact ⟨2, .byte, rfl, rfl, rfl, fun _ => rfl, by simp only [componentBytes]; omega, rfl⟩
          | long => cases hx1; exact ⟨3, .long, rfl, rfl, rfl, fun _ => rfl, by simp only [componentBytes]; omega, rfl⟩
          | _ => cases hx1
        obtain ⟨k, ty, hk, hty, htk, hcell, hby, hax⟩ := key
        refine va_newa (ty := ty) (a0 := x) (N' := n.toNatClampNeg) hx hb (hts _ hF) hty hK hR.1 ai_w_D hS (fun x9 hx9 => Nat.le_trans hZ.1 hx9) hcell hn rfl hby hM.1 hM.2 hd (fun a cA H1 hK1 hP1 hD1 hS1 => ?_)
        have hcA := ai_K_arr htk hK1
        subst hcA
        intro T hT X
        have g5 := as_at (hE hex) hP1 hD1 hT X
        have g9 : ad h0.length = a := by rw [had _ hlen, g5]
        have he : ai_w ad dA z0 h0 ++ [(a, .inl (dA k, x))] = ai_w ad dA z0 (h0 ++ [.inl (ai_kd t, x)]) := by
          rw [ai_w_push, g5]
          simp [ai_ce, hk, hax]
        rw [he] at hP1
        have kk := K H1 locs ls (ai_wr hZ hP1 (by simp; omega) hS1) (fun _ => by have := hE hex; simp; omega) hS1 hl
        rw [← g9]
        exact kk T hT X
      · cases h
    · cases h
  · cases h
theorem as_nws (hx : p.tables.exec = Jvm.exec) (hb : c.code = cc) (hts : ∀ w ∈ ai_TB, w.before args s = true) (hK : va_K D vwCl (ai_tys dA) s) (had : ∀ k, k < 1000000 → ad k = z0 + k) (hZ : z0 ≤ s.heap.size ∧ ∀ q, q < z0 → s.heap[q]? = Hb[q]?) {own : String} (hown : s.vm.findClass own = some m.cls) {ix : Nat} (hF : Cond.classLink own ix "java/lang/String" ∈ ai_TB) (hAO : va_AO "java/lang/String" s) {fr fr' : ai_F} (hd : decode cc fr.1 = .ok (.anewarray ix, 3)) (h : ai_nws fr = some fr') (hM : fr'.2.2.2.2.2.1 ≤ R.cells ∧ fr'.2.2.2.2.2.2 ≤ R.slots) (K : ai_W p l e R s m args below meth c Q nL D ad dA z0 Hb n0 fr') : ai_W p l e R s m args below meth c Q nL D ad dA z0 Hb n0 fr := by
  obtain ⟨pc, lv, st, h0, ex, nc, ns⟩ := fr
  unfold ai_nws at h
  split at h
  · rename_i n st1 h1 ex1 nc1 ns1 heq
    simp only [Prod.mk.injEq] at heq
    obtain ⟨rfl, rfl, rfl, rfl, rfl, rfl, rfl⟩ := heq
    split at h
    · rename_i hc
      obtain ⟨hex, hlen, hn, hbig⟩ := hc
      cases h
      intro H locs ls hR hE hS hl
      refine va_newq (C := "java/lang/String") (N' := n.toNatClampNeg) hx hb hown (hts _ hF) hAO hK hR.1 ai_w_D hS (fun x9 hx9 => Nat.le_trans hZ.1 hx9) hn rfl (by omega) hM.1 hM.2 hd (fun a cA H1 hK1 hP1 hD1 hS1 => ?_)
      have hcA := ai_K_arr (k := 4) rfl hK1
      subst hcA
      intro T hT X
      have g5 := as_at (hE hex) hP1 hD1 hT X
      have g9 : ad h0.length = a := by rw [had _ hlen, g5]
      have he : ai_w ad dA z0 h0 ++ [(a, .inl (dA 4, n.toNatClampNeg, .inr (.inr (.inr (.inr (fun _ => none))))))] = ai_w ad dA z0 (h0 ++ [.inl (4, n.toNatClampNeg, .inr (.inr (.inr (.inr (fun _ => none)))))]) := by
        rw [ai_w_push, g5]
        rfl
      rw [he] at hP1
      have kk := K H1 locs ls (ai_wr hZ hP1 (by simp; omega) hS1) (fun _ => by have := hE hex; simp; omega) hS1 hl
      rw [← g9]
      exact kk T hT X
    · cases h
  · cases h
theorem as_aas (hx : p.tables.exec = Jvm.exec) (hb : c.code = cc) (hts : ∀ w ∈ ai_TB, w.before args s = true) (hK : va_K D vwCl (ai_tys dA) s) (had : ∀ k, k < 1000000 → ad k = z0 + k) (hZ : z0 ≤ s.heap.size ∧ ∀ q, q < z0 → s.heap[q]? = Hb[q]?) {NS : Nat} (hF : ∀ v, 1000001 ≤ v → v < 1000001 + NS → va_O "java/lang/String" (ad v) (fun q : Nat => z0 ≤ q) s s.heap) {fr fr' : ai_F} (hd : decode cc fr.1 = .ok (.aastore, 1)) (h : ai_aas NS fr = some fr') (K : ai_W p l e R s m args below meth c Q nL D ad dA z0 Hb n0 fr') : ai_W p l e R s m args below meth c Q nL D ad dA z0 Hb n0 fr := by
  obtain ⟨pc, lv, st, h0, ex, nc, ns⟩ := fr
  unfold ai_aas at h
  split at h
  · rename_i v i a st1 h1 r heq
    simp only [Prod.mk.injEq] at heq
    obtain ⟨rfl, rfl, rfl, rfl, rfl⟩ := heq
    split at h
    · rename_i n f hh
      split at h
      · rename_i hi
        cases h
        intro H locs ls hR hE hS hl
        have ha : a < h0.length := (List.getElem?_eq_some_iff.mp hh).1
        have hae : ad a = z0 + a := had a (Nat.lt_of_lt_of_le ha hR.2.1)
        have hwg := ai_w_get (ad := ad) (dA := dA) (z0 := z0) hh
        rw [← hae] at hwg
        obtain ⟨cell, q1, q2, q3, q4⟩ := hF v hi.2.1 hi.2.2
        have hany : va_Any "java/lang/String" s H (ad v) := by
          obtain ⟨kC, hkC, -⟩ := Vm.findClass_spec q3
          refine ⟨cell, ?_, q2, ⟨kC, hkC⟩, fun comp hcomp => ?_⟩
          · rw [hS.2.1 (ad v) (Array.getElem?_eq_some_iff.mp q1).1 q4]
            exact q1
          · cases Option.some.inj (q3.symm.trans hcomp)
            exact va_asg _ _
        refine va_astqM hx hb hK hR.1 ai_w_D hS a 4 hwg rfl hany (ai_in_of hi.1) hd (fun H1 locs1 hP1 _ hS1 => ?_)
        have he : (ai_w ad dA z0 h0).set a (ad a, .inl (dA 4, n, .inr (.inr (.inr (.inr (va_up (fun j => (f j).map ad) i.toNatClampNeg (some (ad v)))))))) = ai_w ad dA z0 (h0.set a (.inl (4, n, .inr (.inr (.inr (.inr (va_up f i.toNatClampNeg (some v)))))))) := by
          rw [ai_w_set, hae]
          have : (fun j => (va_up f i.toNatClampNeg (some v) j).map ad) = va_up (fun j => (f j).map ad) i.toNatClampNeg (some (ad v)) := by
            funext j
            unfold va_up
            split <;> rfl
          simp [ai_ce, ai_a, this]
        rw [he] at hP1
        exact K H1 locs1 ls (ai_wr hZ hP1 (by simpa using hR.2.1) hS1) (by simpa using hE) hS1 hl
      · cases h
    · cases h
  · cases h
theorem as_aal (hx : p.tables.exec = Jvm.exec) (hb : c.code = cc) (hts : ∀ w ∈ ai_TB, w.before args s = true) (hK : va_K D vwCl (ai_tys dA) s) (had : ∀ k, k < 1000000 → ad k = z0 + k) (hZ : z0 ≤ s.heap.size ∧ ∀ q, q < z0 → s.heap[q]? = Hb[q]?) {fr fr' : ai_F} (hd : decode cc fr.1 = .ok (.aaload, 1)) (h : ai_aal fr = some fr') (K : ai_W p l e R s m args below meth c Q nL D ad dA z0 Hb n0 fr') : ai_W p l e R s m args below meth c Q nL D ad dA z0 Hb n0 fr := by
  obtain ⟨pc, lv, st, h0, ex, nc, ns⟩ := fr
  unfold ai_aal at h
  split at h
  · rename_i i a st1 h1 r heq
    simp only [Prod.mk.injEq] at heq
    obtain ⟨rfl, rfl, rfl, rfl, rfl⟩ := heq
    split at h
    · rename_i n f hh
      split at h
      · rename_i hi
        cases h
        intro H locs ls hR hE hS hl
        have ha : a < h0.length := (List.getElem?_eq_some_iff.mp hh).1
        have hae : ad a = z0 + a := had a (Nat.lt_of_lt_of_le ha hR.2.1)
        have hwg := ai_w_get (ad := ad) (dA := dA) (z0 := z0) hh
        rw [← hae] at hwg
        have hv : va_rf ((f i.toNatClampNeg).map ad) = ai_v ad (va_rf (f i.toNatClampNeg)) := by
          cases f i.toNatClampNeg <;> rfl
        refine va_aldq (C := "java/lang/String") hx hb hK hR.1 a 4 hwg rfl (ai_in_of hi) hd ?_
        show W p l e R s m args below meth c H locs nc ns Q (F0 m (pc + 1) ls (va_rf ((f i.toNatClampNeg).map ad) :: st1.map (ai_v ad)))
        rw [hv]
        exact K H locs ls hR hE hS hl
      · cases h
    · cases h
  · cases h
theorem ai_nfw : nativeFrameWords "java/lang/System" "arraycopy" 5 ≤ 100 := by decide +kernel
theorem as_cpy (hx : p.tables.exec = Jvm.exec) (hb : c.code = cc) (hts : ∀ w ∈ ai_TB, w.before args s = true) (hK : va_K D vwCl (ai_tys dA) s) (had : ∀ k, k < 1000000 → ad k = z0 + k) (hZ : z0 ≤ s.heap.size ∧ ∀ q, q < z0 → s.heap[q]? = Hb[q]?) {own : String} (hown : s.vm.findClass own = some m.cls) (hml : c.maxLocals = nL) {KL : ai_L} {ix : Nat} (hF : Cond.methodLink own ix arraycopyName ∈ ai_TB) (hO : Cond.native arraycopyName ∈ ai_TB ∧ Cond.static arraycopyName ∈ ai_TB ∧ Cond.initialized "java/lang/System" ∈ ai_TB) (hRm : 1 ≤ R.frames ∧ 120 ≤ R.locals) {fr fr' : ai_F} (hd : decode cc fr.1 = .ok (.invokestatic ix, 3)) (h : ai_cpy KL ix fr = some fr') (K : ai_W p l e R s m args below meth c Q nL D ad dA z0 Hb n0 fr') : ai_W p l e R s m args below meth c Q nL D ad dA z0 Hb n0 fr := by
  obtain ⟨pc, lv, st, h0, ex, nc, ns⟩ := fr
  unfold ai_cpy at h
  split at h
  · rename_i n dp a sp a0 st1 h1 r heq
    simp only [Prod.mk.injEq] at heq
    obtain ⟨rfl, rfl, rfl, rfl, rfl⟩ := heq
    split at h
    · rename_i q n9 hf
      split at h
      · rename_i n0 f hh0
        split at h
        · rename_i n1 g hh1
          split at h
          · rename_i hc
            obtain ⟨rfl, c1, c2, c3, c4, c5, c6⟩ := hc
            cases h
            intro H locs ls hR hE hS hl
            have ha0 : a0 < h0.length := (List.getElem?_eq_some_iff.mp hh0).1
            have hae0 : ad a0 = z0 + a0 := had a0 (Nat.lt_of_lt_of_le ha0 hR.2.1)
            have hw0 := ai_w_get (ad := ad) (dA := dA) (z0 := z0) hh0
            rw [← hae0] at hw0
            have ha : a < h0.length := (List.getElem?_eq_some_iff.mp hh1).1
            have hae : ad a = z0 + a := had a (Nat.lt_of_lt_of_le ha hR.2.1)
            have hw1 := ai_w_get (ad := ad) (dA := dA) (z0 := z0) hh1
            rw [← hae] at hw1
            have hs : ((st1.map (ai_v ad)).map fun v => v.category).sum = ai_sum st1 := by
              simp [ai_sum, Function.comp_def, ai_v_cat]
            have hnf := ai_nfw
            refine va_copyi (ty := .int) hx hb (by rw [hml]; exact hl.1.symm) hown (hts _ hF) (hts _ hO.1) (hts _ hO.2.1) (hts _ hO.2.2) hK hR.1 ai_w_D hS a0 a 0 0 hw0 hw1 rfl rfl rfl c1 c2 c3 c4 c5 (fun _ _ => rfl) hRm.1 (by rw [hs]; omega) hd (fun H1 locs1 hP1 _ hS1 => ?_)
            have he : (ai_w ad dA z0 h0).set a (ad a, .inl (dA 0, n1, .inl (va_cpy f g sp.toNatClampNeg dp.toNatClampNeg n.toNatClampNeg))) = ai_w ad dA z0 (h0.set a (.inl (0, n1, .inl (va_cpy f g sp.toNatClampNeg dp.toNatClampNeg n.toNatClampNeg)))) := by
              rw [ai_w_set, hae]
              rfl
            rw [he] at hP1
            exact K H1 locs1 ls (ai_wr hZ hP1 (by simpa using hR.2.1) hS1) (by simpa using hE) hS1 hl
          · cases h
        · cases h
      · cases h
    · cases h
  · cases h
theorem as_min (hx : p.tables.exec = Jvm.exec) (hb : c.code = cc) (hts : ∀ w ∈ ai_TB, w.before args s = true) {own : String} (hown : s.vm.findClass own = some m.cls) (hml : c.maxLocals = nL) {ix : Nat} (hF : Cond.methodLink own ix Lib.Math.min.name ∈ ai_TB) (hO : Cond.static Lib.Math.min.name ∈ ai_TB ∧ Cond.initialized "java/lang/Math" ∈ ai_TB ∧ Cond.code Lib.Math.min.name Lib.Math.min.code 2 (some .int) ∈ ai_TB) (hRm : 1 ≤ R.frames ∧ 120 ≤ R.locals) {fr fr' : ai_F} (hd : decode cc fr.1 = .ok (.invokestatic ix, 3)) (h : ai_mm (fun x y => if y < x then y else x) fr = some fr') (hM : fr'.2.2.2.2.2.1 ≤ R.cells ∧ fr'.2.2.2.2.2.2 ≤ R.slots) (K : ai_W p l e R s m args below meth c Q nL D ad dA z0 Hb n0 fr') : ai_W p l e R s m args below meth c Q nL D ad dA z0 Hb n0 fr := by
  obtain ⟨pc, lv, st, h0, ex, nc, ns⟩ := fr
  unfold ai_mm at h
  split at h
  · rename_i heq
    split at h
    · rename_i hc
      simp only [Prod.mk.injEq] at heq
      obtain ⟨rfl, rfl, rfl, rfl⟩ := heq
      cases h
      intro H locs ls hR hE hS hl
      refine va_mmin hx hb (by rw [hml]; exact hl.1.symm) hown (hts _ hF) (hts _ hO.1) (hts _ hO.2.1) (hts _ hO.2.2) hRm.1 ?_ hM.1 hM.2 hd (K H locs ls hR hE hS hl)
      rw [show ∀ z : List Value, ((z.map (ai_v ad)).map fun v => v.category).sum = ai_sum z from fun z => by simp [ai_sum, Function.comp_def, ai_v_cat]]
      omega
    · cases h
  · cases h
theorem as_max (hx : p.tables.exec = Jvm.exec) (hb : c.code = cc) (hts : ∀ w ∈ ai_TB, w.before args s = true) {own : String} (hown : s.vm.findClass own = some m.cls) (hml : c.maxLocals = nL) {ix : Nat} (hF : Cond.methodLink own ix Lib.Math.max.name ∈ ai_TB) (hO : Cond.static Lib.Math.max.name ∈ ai_TB ∧ Cond.initialized "java/lang/Math" ∈ ai_TB ∧ Cond.code Lib.Math.max.name Lib.Math.max.code 2 (some .int) ∈ ai_TB) (hRm : 1 ≤ R.frames ∧ 120 ≤ R.locals) {fr fr' : ai_F} (hd : decode cc fr.1 = .ok (.invokestatic ix, 3)) (h : ai_mm (fun x y => if x < y then y else x) fr = some fr') (hM : fr'.2.2.2.2.2.1 ≤ R.cells ∧ fr'.2.2.2.2.2.2 ≤ R.slots) (K : ai_W p l e R s m args below meth c Q nL D ad dA z0 Hb n0 fr') : ai_W p l e R s m args below meth c Q nL D ad dA z0 Hb n0 fr := by
  obtain ⟨pc, lv, st, h0, ex, nc, ns⟩ := fr
  unfold ai_mm at h
  split at h
  · rename_i heq
    split at h
    · rename_i hc
      simp only [Prod.mk.injEq] at heq
      obtain ⟨rfl, rfl, rfl, rfl⟩ := heq
      cases h
      intro H locs ls hR hE hS hl
      refine va_mmax hx hb (by rw [hml]; exact hl.1.symm) hown (hts _ hF) (hts _ hO.1) (hts _ hO.2.1) (hts _ hO.2.2) hRm.1 ?_ hM.1 hM.2 hd (K H locs ls hR hE hS hl)
      rw [show ∀ z : List Value, ((z.map (ai_v ad)).map fun v => v.category).sum = ai_sum z from fun z => by simp [ai_sum, Function.comp_def, ai_v_cat]]
      omega
    · cases h
  · cases h
theorem as_abs (hx : p.tables.exec = Jvm.exec) (hb : c.code = cc) (hts : ∀ w ∈ ai_TB, w.before args s = true) {own : String} (hown : s.vm.findClass own = some m.cls) (hml : c.maxLocals = nL) {ix : Nat} (hF : Cond.methodLink own ix Lib.Math.abs.name ∈ ai_TB) (hO : Cond.static Lib.Math.abs.name ∈ ai_TB ∧ Cond.initialized "java/lang/Math" ∈ ai_TB ∧ Cond.code Lib.Math.abs.name Lib.Math.abs.code 1 (some .int) ∈ ai_TB) (hRm : 1 ≤ R.frames ∧ 120 ≤ R.locals) {fr fr' : ai_F} (hd : decode cc fr.1 = .ok (.invokestatic ix, 3)) (h : ai_ab fr = some fr') (hM : fr'.2.2.2.2.2.1 ≤ R.cells ∧ fr'.2.2.2.2.2.2 ≤ R.slots) (K : ai_W p l e R s m args below meth c Q nL D ad dA z0 Hb n0 fr') : ai_W p l e R s m args below meth c Q nL D ad dA z0 Hb n0 fr := by
  obtain ⟨pc, lv, st, h0, ex, nc, ns⟩ := fr
  unfold ai_ab at h
  split at h
  · rename_i heq
    split at h
    · rename_i hc
      simp only [Prod.mk.injEq] at heq
      obtain ⟨rfl, rfl, rfl, rfl⟩ := heq
      cases h
      intro H locs ls hR hE hS hl
      refine va_mabs hx hb (by rw [hml]; exact hl.1.symm) hown (hts _ hF) (hts _ hO.1) (hts _ hO.2.1) (hts _ hO.2.2) hRm.1 ?_ hM.1 hM.2 hd (K H locs ls hR hE hS hl)
      rw [show ∀ z : List Value, ((z.map (ai_v ad)).map fun v => v.category).sum = ai_sum z from fun z => by simp [ai_sum, Function.comp_def, ai_v_cat]]
      omega
    · cases h
  · cases h
end AIQ
end
section
/-! METHODS AND CALLS: what a run of a method is -/
/-- a method: number of its class, name, bytes, locals, what it returns, handlers, instructions -/
abbrev ai_M : Type := Nat × MethodName × ByteArray × Nat × Option FieldType × List (Nat × Nat × Nat × Nat) × List ai_I
abbrev ai_M.cn (M : ai_M) : Nat := M.1
abbrev ai_M.nm (M : ai_M) : MethodName := M.2.1
abbrev ai_M.by' (M : ai_M) : ByteArray := M.2.2.1
abbrev ai_M.ml (M : ai_M) : Nat := M.2.2.2.1
abbrev ai_M.rt (M : ai_M) : Option FieldType := M.2.2.2.2.1
abbrev ai_M.hh (M : ai_M) : List (Nat × Nat × Nat × Nat) := M.2.2.2.2.2.1
abbrev ai_M.co (M : ai_M) : List ai_I := M.2.2.2.2.2.2
def ai_oc : ai_O → Nat
  | .inl (_, _, _, nc, _) => nc
  | .inr (_, _, nc, _) => nc
def ai_os : ai_O → Nat
  | .inl (_, _, _, _, ns) => ns
  | .inr (_, _, _, ns) => ns
/-- an end by return -/
def ai_rt (rt : Option FieldType) (i : Instr) (fr : ai_F) : Option ai_O := match fr with
  | (_, _, st, h, ex, nc, ns) => match i, st, rt with
    | .ireturn, [.int v], some .int => some (.inl (some (.int v), h, ex, nc, ns))
    | .ireturn, [.int v], some .boolean => if v = 0 ∨ v = 1 then some (.inl (some (.int v), h, ex, nc, ns)) else none
    | .return_, [], none => some (.inl (none, h, ex, nc, ns))
    | _, _, _ => none
/-- an end by 'throw new E("..")', where nothing of this method catches -/
def ai_th (K : ai_L) (hh : List (Nat × Nat × Nat × Nat)) (i : Instr) (fr : ai_F) : Option ai_O := match fr with
  | (_, _, st, h, _, nc, ns) => match i, hh with
    | .new ix, [] => match ai_as K.2.2.2.2 ix with
      | some E => if ai_sum st ≤ 8 then some (.inr (E, h, nc + 1, ns + 6)) else none
      | none => none
    | _, _ => none
/-- a call: the method's number, its arguments, what is left of the stack -/
def ai_ca (K : ai_L) (i : Instr) (st : List Value) (h : ai_H) : Option (Nat × List Value × List Value) := match i with
  | .invokestatic ix => match ai_as K.2.2.2.1 ix with
    | some (q, n) => if n ≤ st.length ∧ ai_sum (st.drop n) ≤ 8 then some (q, (st.take n).reverse, st.drop n) else none
    | none => none
  | .invokevirtual ix => match ai_as K.2.2.2.1 ix with
    | some (q, n) => match st.drop n with
      | .ref b :: rest => match h[b]? with
        | some (.inr _) => if ai_sum rest ≤ 8 then some (q, .ref b :: (st.take n).reverse, rest) else none
        | _ => none
      | _ => none
    | none => none
  | .invokespecial ix => match ai_as K.2.2.2.1 ix with
    | some (q, n) => match st.drop n with
      | .ref b :: rest => if ai_sum rest ≤ 8 then some (q, .ref b :: (st.take n).reverse, rest) else none
      | _ => none
    | none => none
  | _ => none
/-- the class of a virtual call's receiver -/
def ai_rc (i : Instr) (As : List Value) (h : ai_H) (cn : Nat) : Prop := match i, As with
  | .invokevirtual _, .ref b :: _ => ∃ fs, h[b]? = some (.inr (cn, fs))
  | .invokevirtual _, _ => False
  | _, _ => True
/-- a constructor throws nothing -/
def ai_ni (i : Instr) (o : ai_O) : Prop := match i, o with
  | .invokespecial _, .inr _ => False
  | _, _ => True
/-- behind a call that returned -/
def ai_af (fr : ai_F) (rest : List Value) (v : Option Value) (h' : ai_H) (ex' : Bool) (nc' ns' : Nat) : ai_F := match fr with
  | (pc, lv, _, _, ex, nc, ns) => (pc + 3, lv, v.toList ++ rest, h', ex && ex', nc + nc', ns + ns')
/-- a run of a method, from a frame to its end, in n steps; calls come to what cl says -/
def ai_Rn (ms : List ai_M) (lk : Nat → ai_L) (X : Nat × (Nat → Int32)) (NS : Nat) (cl : Nat → List Value → ai_H → Bool → ai_O → Prop) (M : ai_M) : Nat → ai_F → ai_O → Prop
  | 0, _, _ => False
  | n + 1, fr, o => ∃ i tg, ai_as M.co fr.1 = some (i, tg) ∧
    ((∃ fr', ai_st (lk M.cn) X M.ml NS i tg fr = some fr' ∧ ai_Rn ms lk X NS cl M n fr' o) ∨ ai_rt M.rt i fr = some o ∨ ai_th (lk M.cn) M.hh i fr = some o ∨
      ∃ q As rest o1 M1, ai_ca (lk M.cn) i fr.2.2.1 fr.2.2.2.1 = some (q, As, rest) ∧ q ≠ 0 ∧ ms[q]? = some M1 ∧ ai_rc i As fr.2.2.2.1 M1.cn ∧ ai_ni i o1 ∧ cl q As fr.2.2.2.1 fr.2.2.2.2.1 o1 ∧ match o1 with
        | .inl (v, h', ex', nc', ns') => ai_Rn ms lk X NS cl M n (ai_af fr rest v h' ex' nc' ns') o
        | .inr (E, h', nc', ns') => (M.hh = [] ∧ o = .inr (E, h', fr.2.2.2.2.2.1 + nc', fr.2.2.2.2.2.2 + ns')) ∨ ∃ st en hp ix, M.hh = [(st, en, hp, ix)] ∧ st ≤ fr.1 ∧ fr.1 < en ∧ ai_as (lk M.cn).2.2.2.2 ix = some E ∧ o = .inl (some (.int 1), h', false, fr.2.2.2.2.2.1 + nc', fr.2.2.2.2.2.2 + ns'))
/-- a call's outcome, d calls deep -/
def ai_Ev (ms : List ai_M) (lk : Nat → ai_L) (X : Nat × (Nat → Int32)) (NS : Nat) : Nat → Nat → List Value → ai_H → Bool → ai_O → Prop
  | 0, _, _, _, _, _ => False
  | d + 1, q, As, h, ex, o => ∃ M n, ms[q]? = some M ∧ (lg_sl As).length ≤ M.ml ∧ ai_Rn ms lk X NS (ai_Ev ms lk X NS d) M n (0, lv_args 0 As, [], h, ex, 0, 0) o
set_option maxHeartbeats 4000000 in
/-- the counts only grow -/
theorem ai_st_mono {K : ai_L} {X : Nat × (Nat → Int32)} {nL NS : Nat} {i : Instr} {tg : List Nat} {fr fr' : ai_F} (h : ai_st K X nL NS i tg fr = some fr') : fr.2.2.2.2.2.1 ≤ fr'.2.2.2.2.2.1 ∧ fr.2.2.2.2.2.2 ≤ fr'.2.2.2.2.2.2 := by
  unfold ai_st at h
  split at h <;> first | (cases h; done) | skip
  all_goals (first | unfold ai_push at h | unfold ai_ld at h | unfold ai_lda at h | unfold ai_sto at h | unfold ai_sta at h | unfold ai_inc at h | unfold ai_bin at h | unfold ai_dv at h | unfold ai_i2l at h | unfold ai_i2b at h | unfold ai_lcmp at h | unfold ai_dup at h | unfold ai_dup2 at h | unfold ai_pop at h | unfold ai_if at h | unfold ai_ic at h | unfold ai_go at h | unfold ai_tb at h | unfold ai_get at h | unfold ai_put at h | unfold ai_ial at h | unfold ai_bal at h | unfold ai_lal at h | unfold ai_ias at h | unfold ai_bas at h | unfold ai_las at h | unfold ai_len at h | unfold ai_new at h | unfold ai_nwa at h | unfold ai_nws at h | unfold ai_ldc at h | unfold ai_aas at h | unfold ai_aal at h | unfold ai_obj at h | unfold ai_nat ai_mm ai_ab ai_cpy at h)
  all_goals (repeat' (split at h))
  all_goals (first | (cases h; done) | (cases h; exact ⟨Nat.le_refl _, Nat.le_refl _⟩) | (cases h; exact ⟨Nat.le_succ _, Nat.le_add_right _ _⟩))
set_option maxHeartbeats 4000000 in
/-- where the size is known, cells and heap grow together -/
theorem ai_st_len {K : ai_L} {X : Nat × (Nat → Int32)} {nL NS : Nat} {i : Instr} {tg : List Nat} {fr fr' : ai_F} (h : ai_st K X nL NS i tg fr = some fr') : fr'.2.2.2.2.1 = true → fr.2.2.2.2.1 = true ∧ fr'.2.2.2.1.length + fr.2.2.2.2.2.1 = fr.2.2.2.1.length + fr'.2.2.2.2.2.1 := by
  unfold ai_st at h
  split at h <;> first | (cases h; done) | skip
  all_goals (first | unfold ai_push at h | unfold ai_ld at h | unfold ai_lda at h | unfold ai_sto at h | unfold ai_sta at h | unfold ai_inc at h | unfold ai_bin at h | unfold ai_dv at h | unfold ai_i2l at h | unfold ai_i2b at h | unfold ai_lcmp at h | unfold ai_dup at h | unfold ai_dup2 at h | unfold ai_pop at h | unfold ai_if at h | unfold ai_ic at h | unfold ai_go at h | unfold ai_tb at h | unfold ai_get at h | unfold ai_put at h | unfold ai_ial at h | unfold ai_bal at h | unfold ai_lal at h | unfold ai_ias at h | unfold ai_bas at h | unfold ai_las at h | unfold ai_len at h | unfold ai_new at h | unfold ai_nwa at h | unfold ai_nws at h | unfold ai_ldc at h | unfold ai_aas at h | unfold ai_aal at h | unfold ai_obj at h | unfold ai_nat ai_mm ai_ab ai_cpy at h)
  all_goals (repeat' (split at h))
  all_goals (first | (cases h; done) | (cases h; exact fun q => ⟨q, rfl⟩) | (cases h; exact fun q => ⟨q, by simp⟩) | (rename_i hc; cases h; exact fun _ => ⟨hc.1, by simp only [List.length_append, List.length_cons, List.length_nil]; omega⟩))
end
section
/-! 'throw new E("..")' where E's constructor calls its parent's by another pool number than 7: after the library's own law (ctorThrowS), with its chain of constructors begun by chainSX -/
section VYA
variable {p : Program} {l : Launch} {e : Env} {R : Room} {s : State} {m₀ : MethodId} {args : Array Value} {below : List Frame} {meth : Method} {c : Code} {W : State} {locs : List Loc} {cells slots : Nat}
set_option maxHeartbeats 1000000 in
theorem vy_ctor (X : Stand p l e R s m₀ args below meth c W locs cells slots) (hexec : p.tables.exec = Jvm.exec) (htr : e.platform.stackTraces = false) {own cls : String} {names : List String} {ic : Nat}
    {ix : Nat} {rx : ByteArray} (x0 : decode rx 0 = .ok (.aload_n 0, 1)) (x1 : decode rx 1 = .ok (.aload_n 1, 1)) (x2 : decode rx 2 = .ok (.invokespecial ix, 3)) (x5 : decode rx 5 = .ok (.return_, 1))
    (hown : s.vm.findClass own = some m₀.cls) (hcls : Bundle.fit cls = true) (hnames : ∀ n ∈ names, Bundle.fit n = true)
    (h : ∀ a ∈ Bundle.ownAtomsX own ic cls ix rx names, a.before args s = true)
    (hlocs : ∀ x ∈ locs, ∀ cell, s.heap[x.base]? = some cell → cell.vm.isStatics = false)
    {a : Addr} {cX : ClassId} {kX : Class} (hfoundX : s.vm.findClass cls = some cX) (hkX : s.vm.classes[cX]? = some kX) (hcell : W.heap[a]? = some (freshCell cX kX)) (hnew : s.heap.size ≤ a)
    {msg : Value} (hmsg : msg.isRef = true)
    {g : JFrame} (hg : g.method = m₀) (hsize : g.locals.size = c.maxLocals) (hlocked : g.locked = none) (hentered : g.entered = []) {rest : List Value} (hstack : g.stack = msg :: .ref a :: .ref a :: rest)
    (hd6 : decode c.code g.pc = .ok (.invokespecial ic, 3)) (hd9 : decode c.code (g.pc + 3) = .ok (.athrow, 1)) (hout : ∀ x ∈ c.exceptionTable.toList, covers x (g.pc + 3) = false)
    (hRframes : names.length + 3 < R.frames) (hRlocals : 2 * g.monitorRoom + ((Value.ref a :: rest).map fun v => v.category).sum + (13 * (names.length + 1) + 42) ≤ R.locals) (hlocks : meth.locks = false) :
    ∃ U : State, Steps p.tables e below (W.setTop g) U ∧ U.status = .running ∧ Ended U below (.threw a) ∧ s.WarmedH U.vm ∧ s.sameButNew ({ U with vm := s.vm } : State) locs cells slots ∧
      ∃ ce, U.heap[a]? = some ce ∧ s.vm.findClass cls = some ce.cls ∧ ce.vm = .none := by
  have howns : e.platform.frameOwnsMonitors = true := by rw [X.admits.platform]
  have hfin : e.platform.finalization = false := by rw [X.admits.platform]
  have hpl : e.platform.magicAccessors = ({} : Platform).magicAccessors := by rw [X.admits.platform]
  have a' : ∀ x, x ∈ Bundle.ownAtomsX own ic cls ix rx names → x.holds args s none s [] = true := fun x hx => h x hx
  obtain ⟨T, Z0, L, -, Y⟩ := ThrowableC.of_atoms (args := args) howns hfin hpl (fun x hx => h x (by simp [Bundle.ownAtomsX, hx]))
  obtain ⟨Z, M, LZ, LM, hnZ⟩ := Init0T.ofS_atoms (args := args) hpl L Y (fun x hx => h x (by simp [Bundle.ownAtomsX, hx]))
  obtain ⟨P1, Ps, hlen, L1, hL, hP1m, hlink1, hlink⟩ := Bundle.chainSX (args := args) hpl hnZ x0 x1 x2 x5 names cls hcls hnames (fun x hx => h x (by simp [Bundle.ownAtomsX, hx]))
  have hfound : s.vm.findClass cls = some P1.m.cls := findClass_of_methodNamed hP1m
  cases Option.some.inj (hfoundX.symm.trans hfound)
  obtain ⟨c1, kX', hc1, hk, hord, -, -, hn6⟩ := Cond.instantiable_spec (a' (.instantiable cls 6) (by simp [Bundle.ownAtomsX]))
  cases Option.some.inj (hc1.symm.trans hfound)
  cases Option.some.inj (hkX.symm.trans hk)
  have hsel0 : selectMethod e.platform s.vm P1.m.cls T.fill0 = .method T.fill0 := by
    obtain ⟨c2, r2, m2, q1, q2, q3, q4, -⟩ := Cond.selects_spec (a' (.selects cls Bundle.tFill0 Bundle.tFill0) (by simp [Bundle.ownAtomsX]))
    cases Option.some.inj (q1.symm.trans hfound)
    cases Option.some.inj (q2.symm.trans (State.methodFound?_of_named Y.fill0 (by decide)))
    cases Option.some.inj (q3.symm.trans Y.fill0)
    rw [Launch.admits_selectMethod X.admits]; exact q4
  have hselF : selectMethod e.platform s.vm P1.m.cls T.fill = .method T.fill := by
    obtain ⟨c2, r2, m2, q1, q2, q3, q4, -⟩ := Cond.selects_spec (a' (.selects cls Bundle.tFill Bundle.tFill) (by simp [Bundle.ownAtomsX]))
    cases Option.some.inj (q1.symm.trans hfound)
    cases Option.some.inj (q2.symm.trans (State.methodFound?_of_named Y.fill (by decide)))
    cases Option.some.inj (q3.symm.trans Y.fill)
    rw [Launch.admits_selectMethod X.admits]; exact q4
  obtain ⟨cellS0, hcS0, hiss⟩ := Y.statics
  obtain ⟨u0, hu0⟩ := Cond.staticRefV Y.unassigned L.unassignedStatic L.statics hcS0 hiss (a' (.isRef (.static Bundle.tN "UNASSIGNED_STACK" Bundle.steD)) (by simp [Bundle.ownAtomsX]))
  obtain ⟨sen, hsen⟩ := Cond.staticRefV Y.sentinel L.sentinelStatic L.statics hcS0 hiss (a' (.isRef (.static Bundle.tN "SUPPRESSED_SENTINEL" Bundle.listD)) (by simp [Bundle.ownAtomsX]))
  obtain ⟨ci198, i198, fB, hk198, hg198, ha198, hsB, -, hnB, htB, hffB⟩ := Cond.ownField (t := .object "java/lang/Object") Y.found L.cls (by decide +kernel) (a' (.fieldLink Bundle.tN 198 Bundle.tN "backtrace" "Ljava/lang/Object;") (by simp [Bundle.ownAtomsX])) (a' (.lays Bundle.tN Bundle.tN "backtrace" "Ljava/lang/Object;") (by simp [Bundle.ownAtomsX])) e.platform hpl
  obtain ⟨cellS, hcS', heS, -, hkeep⟩ := X.same.2.2.2.2.2 T.aS cellS0 hcS0
  have hcellS : W.heap[T.aS]? = some cellS := hcS'
  have hout' : ∀ i, (⟨T.aS, i⟩ : Loc) ∉ locs := fun i hmem => by
    have := hlocs _ hmem cellS0 hcS0
    rw [hiss] at this; cases this
  have hknownS : cellS.vm ≠ .unknown := by
    rw [heS]; intro hu
    rw [show cellS0.vm = .unknown from hu] at hiss
    cases hiss
  have hneS : T.aS ≠ a := Nat.ne_of_lt (Nat.lt_of_lt_of_le (Array.getElem?_eq_some_iff.mp hcS0).1 hnew)
  obtain ⟨iM, hffM⟩ := Y.msg
  obtain ⟨tyC, dC, hdC, hdnC⟩ := Cond.laysAt hfound hk Y.cause (a' (.lays cls Bundle.tN "cause" "Ljava/lang/Throwable;") (by simp [Bundle.ownAtomsX]))
  obtain ⟨tyS, dS, hdS, hdnS⟩ := Cond.laysAt hfound hk Y.stack (a' (.lays cls Bundle.tN "stackTrace" Bundle.steD) (by simp [Bundle.ownAtomsX]))
  obtain ⟨tyP, dP, hdP, hdnP⟩ := Cond.laysAt hfound hk Y.supp (a' (.lays cls Bundle.tN "suppressedExceptions" Bundle.listD) (by simp [Bundle.ownAtomsX]))
  obtain ⟨tyM, dM, hdM, hdnM⟩ := Cond.laysAt hfound hk hffM (a' (.lays cls Bundle.tN "detailMessage" "Ljava/lang/String;") (by simp [Bundle.ownAtomsX]))
  obtain ⟨tyB, dB, hdB, hdnB⟩ := Cond.laysAt hfound hk hffB (a' (.lays cls Bundle.tN "backtrace" "Ljava/lang/Object;") (by simp [Bundle.ownAtomsX]))
  have bC := Cond.laysApart hdB hdC hdnB hdnC (by rw [hnB, Y.causeName]; decide)
  have bS := Cond.laysApart hdB hdS hdnB hdnS (by rw [hnB, Y.stackName]; decide)
  have bP := Cond.laysApart hdB hdP hdnB hdnP (by rw [hnB, Y.suppName]; decide)
  have hskip : SkipFacts T e.platform s (fun u => u) u0 ((preparedCellV T.toThrowableT (freshCell P1.m.cls kX) a u0 sen).withEntry W.cur) :=
    ⟨{ ci198 := ci198, i198 := i198, fBack := fB }, ⟨hk198, hg198, ha198, hsB⟩, by
      have := fresh_default (c := P1.m.cls) tyB
      rw [htB] at this
      simpa [preparedCellV, Cell.setSlot, Cell.withEntry, Array.getElem?_setIfInBounds, bC, bS, bP, bC.symm, bS.symm, bP.symm, defaultValue] using this, fun _ _ => rfl⟩
  obtain ⟨tm, methC, cdC, kC, vm₁, hnC, -, -, -, -, -, -, -, hW₁, st1⟩ := Steps.initColdS (tb := p.tables) (e := e) (below := below) (s := s) (U := W) X.here hexec X.warmed hpl hown (t := Bundle.initS cls) rfl rfl (Bundle.fit_spec hcls).2
    (a' (.methodLink own ic (Bundle.initS cls)) (by simp [Bundle.ownAtomsX])) (h (.instanceMethod (Bundle.initS cls)) (by cases names <;> simp [Bundle.ownAtomsX, Bundle.chainSAtomsX, Bundle.passSAtoms])) (bytes := rx) (maxL := 2) (h (.code (Bundle.initS cls) rx 2 none) (by cases names <;> simp [Bundle.ownAtomsX, Bundle.chainSAtomsX, Bundle.passSAtoms]))
    (f := g) hg (a := a) (msg := msg) (rest := .ref a :: rest) hstack hd6
  cases Option.some.inj (hnC.symm.trans hP1m)
  have X₁ := X.noted hW₁
  obtain ⟨vm₂, X₂, st2⟩ := X₁.ctorMessageOffV hexec (g := { g with stack := .ref a :: rest }) hg hsize T L Z LZ M LM (P1 :: Ps)
    (fun P hP => by rcases List.mem_cons.mp hP with rfl | hP; exact L1; exact hL P hP) ⟨hlink1, hlink⟩ (u0 := u0) (sen := sen) (self := a) hmsg (cell := freshCell P1.m.cls kX) (cellS := cellS)
    hcell (fun _ => by simp) (by simp) rfl rfl hsel0 hselF hcellS hneS hknownS (by rw [hkeep _ (hout' _)]; exact hu0) (by rw [hkeep _ (hout' _)]; exact hsen)
    (Takes.of_laid hk hord tyC (by rw [Y.causeType]; rfl)) (Takes.of_laid hk hord tyS (by rw [Y.stackType]; exact fits_refV_array _ u0)) (Takes.of_laid hk hord tyP (by rw [Y.suppType]; exact fits_refV_object _ sen))
    (Takes.of_laid hk hord tyM (by rw [Y.msgType]; exact fits_refV_object _ ⟨msg, hmsg⟩)) Y.objLocals hskip htr [] hd6
    (by simp only [List.length_cons, hlen]; omega) (by simp only [List.length_cons, hlen]; exact hRlocals)
  obtain ⟨hwalk, hrun, hended, hWU, hsame⟩ := X₂.athrowLeaves hexec (g := { g with stack := .ref a :: rest, pc := g.pc + 3 }) hg hlocked hentered hout (a := a) (rest := rest) rfl hd9
  obtain ⟨c3, c4, hc3, hc4, hasg⟩ := Cond.castable_spec (a' (.castable cls cls) (by simp [Bundle.ownAtomsX]))
  cases Option.some.inj (hc3.symm.trans hfound)
  cases Option.some.inj (hc4.symm.trans hfound)
  have hlt : a < ((W.setVm vm₁).setVm vm₂).heap.size := (Array.getElem?_eq_some_iff.mp hcell).1
  have hU := heapAt_setCell_self (s := (W.setVm vm₁).setVm vm₂) (plainBareV T.toThrowableT (freshCell P1.m.cls kX) a u0 sen msg) hlt
  refine ⟨_, st1 _ (fun acts => ?_), hrun, hended, hWU, hsame.weaken (fun y hy hlt' => ?_) (Nat.le_refl _) (Nat.le_refl _), _, hU, hfound, rfl⟩
  · rw [doInvoke_state]
    exact st2 _ hwalk
  · rcases List.mem_append.mp hy with h1 | h1
    · exact h1
    · exfalso
      have hb : y.base = a := by
        simp only [List.mem_cons, List.not_mem_nil, or_false] at h1
        rcases h1 with rfl | rfl | rfl | rfl | rfl <;> rfl
      rw [hb] at hlt'
      exact Nat.not_lt.mpr hnew hlt'
end VYA
def vy_at (own : String) (ic : Nat) (X : String) (ix : Nat) (rx : ByteArray) (names : List String) : List Cond := (Bundle.ownAtomsX own ic X ix rx names).filter vx_no
section VYB
variable {p : Program} {l : Launch} {e : Env} {R : Room} {s : State} {m : MethodId} {args : Array Value} {below : List Frame} {meth : Method} {c : Code} {H : Heap} {locs : List Loc} {cells slots : Nat} {Q : State → Prop}
variable {mc ms : Nat} {free : Addr → Prop} {A0 A1 : Nat → Prop} {H0 : Heap} {a : Array Value} {ls : Array Slot} {st0 rest : List Value}
variable {Qc : Array Value → State → Outcome → State → Prop} {XC : String → State → State → Prop}
theorem vy_throw {cc : ByteArray} {pc : Nat} (hexec : p.tables.exec = Jvm.exec) (hb : c.code = cc) (hl : l.stackTraces = false) {own cls text : String} {names : List String} {ik is ic mc ms sa : Nat} {A : Nat → Prop} {ix : Nat} {rx : ByteArray} (x0 : decode rx 0 = .ok (.aload_n 0, 1)) (x1 : decode rx 1 = .ok (.aload_n 1, 1)) (x2 : decode rx 2 = .ok (.invokespecial ix, 3)) (x5 : decode rx 5 = .ok (.return_, 1))
    (hown : s.vm.findClass own = some m.cls) (hcls : Bundle.fit cls = true) (hnames : ∀ n ∈ names, Bundle.fit n = true)
    (hk : (Cond.classLink own ik cls).before args s = true) (hini : (Cond.initialized cls).before args s = true) (hstr : vk_R own is text sa s) (hat : ∀ w ∈ vy_at own ic cls ix rx names, w.before args s = true)
    (hgood : ∀ w ∈ Cond.classLink own ik cls :: Cond.initialized cls :: vy_at own ic cls ix rx names, vx_ot w = true)
    (hU : vx_Zq Bundle.tN "UNASSIGNED_STACK" Bundle.steD A s s.heap) (hN : vx_Zq Bundle.tN "SUPPRESSED_SENTINEL" Bundle.listD A s s.heap) (hS : va_S A s.heap H locs) (hsize : ls.size = c.maxLocals)
    (d0 : decode cc pc = .ok (.new ik, 3)) (d3 : decode cc (pc + 3) = .ok (.dup, 1)) (d4 : decode cc (pc + 4) = .ok (.ldc is, 2)) (d6 : decode cc (pc + 6) = .ok (.invokespecial ic, 3)) (d9 : decode cc (pc + 9) = .ok (.athrow, 1))
    (hout : ∀ x ∈ c.exceptionTable.toList, covers x (pc + 9) = false)
    (hRframes : names.length + 3 < R.frames) (hRlocals : (rest.map fun v => v.category).sum + (13 * (names.length + 1) + 43) ≤ R.locals) (hRcells : cells + 1 ≤ R.cells) (hRslots : slots + 6 ≤ R.slots) (hlocks : meth.locks = false)
    (hx : ∀ t : State, s.vm.Alike t.vm → H.size ≤ t.heap.size → (∀ q : Nat, q < H.size → t.heap[q]? = H[q]?) → XC cls s t)
    (hf : ∀ z ∈ locs, free z.base) (hc : cells + 1 ≤ mc) (hs : slots + 6 ≤ ms) :
    W p l e R s m args below meth c H locs cells slots (vx_MQ below Qc XC args s mc ms free) (F0 m pc ls rest) := by
  intro T hT X
  have htr : e.platform.stackTraces = false := (show e.platform.stackTraces = l.stackTraces by rw [X.admits.platform]).trans hl
  have Y := vx_rebase X (R' := { frames := R.frames, locals := R.locals, cells := 1, slots := 6 }) (Nat.le_refl _) (Nat.le_refl _) hRcells hRslots
  obtain ⟨s', hA⟩ : ∃ z, z = (T.setVm s.vm).setFrames (.invoking m args :: below) := ⟨_, rfl⟩
  rw [← hA] at Y
  have hvm : s'.vm = s.vm := by rw [hA]; rfl
  have hhp : s'.heap = H := by rw [hA]; exact hT
  have hW0 : s.WarmedH s'.vm := by rw [hvm]; exact State.WarmedH.refl s
  have hat' : ∀ w ∈ vy_at own ic cls ix rx names, w.before args s' = true := fun w hw => vx_ot_at hW0 hvm.symm (hgood w (List.mem_cons_of_mem _ (List.mem_cons_of_mem _ hw))) (hat w hw)
  have hk' : (Cond.classLink own ik cls).before args s' = true := vx_ot_at hW0 hvm.symm (hgood _ List.mem_cons_self) hk
  have hini' : (Cond.initialized cls).before args s' = true := vx_ot_at hW0 hvm.symm (hgood _ (List.mem_cons_of_mem _ List.mem_cons_self)) hini
  have hU' : vx_Zq Bundle.tN "UNASSIGNED_STACK" Bundle.steD A s' s'.heap := by rw [hhp]; exact vx_Zq.moved hW0.alike (hU.kept hS.2.1)
  have hN' : vx_Zq Bundle.tN "SUPPRESSED_SENTINEL" Bundle.listD A s' s'.heap := by rw [hhp]; exact vx_Zq.moved hW0.alike (hN.kept hS.2.1)
  have h : ∀ w ∈ Bundle.ownAtomsX own ic cls ix rx names, w.before args s' = true := vx_own hat' (vx_isRefq hU'.1) (vx_isRefq hN'.1) hU'.2.word hN'.2.word
  have hown' : s'.vm.findClass own = some m.cls := by rw [hvm]; exact hown
  have hins : (Cond.instantiable cls 6).before args s' = true := h _ (by simp [Bundle.ownAtomsX])
  obtain ⟨vm₁, cX, kX, hfX, hkX, -, -, X₁, st1⟩ := Y.newCold hexec (own := own) (C := cls) (index := ik) (n := 6) hown' hk' hins hini'
    (g := F0 m pc ls rest) rfl (by rw [hb]; exact d0) (Nat.le_refl _) (Nat.le_refl _)
  generalize hT1 : (T.setVm vm₁).pushCell { cls := cX, slots := kX.instanceTypes.map defaultValue, vm := .none } = T1 at X₁ st1
  have hcat : (Value.ref T.heap.size).category = 1 := rfl
  have hcellA : T1.heap[T.heap.size]? = some (freshCell cX kX) := by rw [← hT1]; exact State.heap_pushCell_size _ _
  have d3' : decode c.code (pc + 3) = .ok (.dup, 1) := by rw [hb]; exact d3
  have d4' : decode c.code (pc + 4) = .ok (.ldc is, 2) := by rw [hb]; exact d4
  have hstr' : vk_R own is text sa s' := vk_R.warm hW0 hstr
  obtain ⟨U, hsteps, hrun, hend, hW, hsame, ce, hce, hO, hOv⟩ := vy_ctor X₁ hexec htr (own := own) (cls := cls) (names := names) (ic := ic) x0 x1 x2 x5 hown' hcls hnames h (fun x hx => nomatch hx) hfX hkX hcellA (by rw [hhp, hT]; exact Nat.le_refl _) (msg := .ref sa) rfl
    (g := { method := m, pc := pc + 6, locals := ls, stack := .ref sa :: .ref T.heap.size :: .ref T.heap.size :: rest, locked := none }) rfl hsize rfl rfl (rest := rest) rfl
    (by rw [hb]; exact d6) (by rw [hb]; exact d9) hout hRframes (by simp only [List.map_cons, List.sum_cons, hcat]; omega) hlocks
  obtain ⟨f1, f2⟩ := vx_frame hsame
  rw [hhp] at f1 f2
  have hWs : s.WarmedH U.vm := State.WarmedH.trans hW0 hW
  have hcl : s.vm.findClass cls = some ce.cls := by
    have h9 := hO
    rw [hvm] at h9
    exact h9
  have hall : s.sameButNew ({ U with vm := s.vm } : State) locs mc ms := by
    subst hA
    obtain ⟨e1, e2⟩ := hsame
    rw [State.setFrames_setFrames] at e1
    have h2 : (T.setVm s.vm).sameButNew ({ U with vm := s.vm } : State) [] (0 + 1) (0 + 6) := ⟨e1, e2⟩
    have h3 := X.same.trans h2
    rw [List.append_nil] at h3
    exact h3.mono hc hs
  refine ⟨U, ?_, .threw T.heap.size, hrun, hend, Or.inr ⟨T.heap.size, rfl, cls, ce, locs, hx U hWs.alike f1 (fun q hq => f2 q hq (fun z hz => nomatch hz)), hce, hOv, hcl, hWs, hall, hf⟩⟩
  refine st1 _ ?_
  show Steps p.tables e below (T1.setTop { method := m, pc := pc + 3, locals := ls, stack := .ref T.heap.size :: rest, locked := none }) _
  jvm_step X₁.here [X₁.here.top, hexec, d3', Value.category]
  exact X₁.ldcString hexec (own := own) (text := text) (index := is) (a := sa) hown' hstr'.1 hstr'.2
    (g := { method := m, pc := pc + 4, locals := ls, stack := .ref T.heap.size :: .ref T.heap.size :: rest, locked := none }) rfl d4' _ hsteps
end VYB
end
section
/-! WHAT A METHOD'S TABLE MUST SAY, AND THE STEP OF EVERY INSTRUCTION THAT CALLS NOTHING -/
/-- a word, by its place in the tables -/
def ai_gp (p : Nat) (w : Cond) : Bool := decide (lw_tbl[p]? = some w) && goodWord w
theorem ai_gp_in {p : Nat} {w : Cond} (h : ai_gp p w = true) : w ∈ ai_TB := by
  simp only [ai_gp, Bool.and_eq_true, decide_eq_true_eq] at h
  exact List.mem_filter.mpr ⟨List.mem_of_getElem? h.1, h.2⟩
def ai_NW : List Cond := [.declares (Bundle.initS "java/lang/RuntimeException"), .declares (Bundle.initS "java/lang/Exception"), .declares (Bundle.initS "java/lang/Throwable"), .castable "java/util/NoSuchElementException" "java/util/NoSuchElementException", .castable "java/lang/IllegalArgumentException" "java/lang/IllegalArgumentException", .methodLinkNest "FireWards" 20 ⟨"FireWards$Crews", "<init>", "()V"⟩ "FireWards", .methodLinkNest "FireWards" 27 ⟨"FireWards$Tape", "<init>", "()V"⟩ "FireWards", .methodLinkNest "FireWards" 47 ⟨"FireWards$LawBook", "<init>", "()V"⟩ "FireWards", .methodLinkNest "FireWards" 54 ⟨"FireWards$Judge", "<init>", "()V"⟩ "FireWards"]
/-- what stays as it is while the law runs: classes, the script, string constants, Throwable's statics -/
def ai_Sx (lk : Nat → ai_L) (on : Nat → String) (X : Nat × (Nat → Int32)) (NS : Nat) (D : va_G) (ad : Nat → Nat) (dA : Nat → ClassId) (z0 : Nat) (Hb : Heap) (U : State) : Prop :=
  va_K D vwCl (ai_tys dA) U ∧ va_X (ad 1000000) X.1 X.2 U Hb ∧ (∀ cn ix i, ai_as (lk cn).2.2.1 ix = some i → ∃ tx, vk_R (on cn) ix tx (ad (1000001 + i)) U) ∧ (∀ v, 1000001 ≤ v → v < 1000001 + NS → va_O "java/lang/String" (ad v) (fun q : Nat => z0 ≤ q) U Hb) ∧ va_AO "java/lang/String" U ∧
  vx_Zq Bundle.tN "UNASSIGNED_STACK" Bundle.steD (fun q : Nat => z0 ≤ q) U Hb ∧ vx_Zq Bundle.tN "SUPPRESSED_SENTINEL" Bundle.listD (fun q : Nat => z0 ≤ q) U Hb ∧ ∀ w ∈ ai_NW, va_Nw w U
theorem ai_Sx.warm {lk : Nat → ai_L} {on : Nat → String} {X : Nat × (Nat → Int32)} {NS : Nat} {D : va_G} {ad : Nat → Nat} {dA : Nat → ClassId} {z0 : Nat} {Hb : Heap} {s U : State} (hW : s.WarmedH U.vm) (h : ai_Sx lk on X NS D ad dA z0 Hb s) : ai_Sx lk on X NS D ad dA z0 Hb U := by
  obtain ⟨h1, h2, h3, h4, h5, h6, h7, h8⟩ := h
  refine ⟨va_K.moved hW.alike h1, va_X.moved hW.alike h2, fun cn ix i hi => ?_, fun v q1 q2 => va_O.moved hW.alike (h4 v q1 q2), va_AO.moved hW.alike h5, vx_Zq.moved hW.alike h6, vx_Zq.moved hW.alike h7, fun w hw => ?_⟩
  · obtain ⟨tx, h⟩ := h3 cn ix i hi
    exact ⟨tx, vk_R.warm hW h⟩
  · have h9 := h8 w hw
    simp only [ai_NW, List.mem_cons, List.not_mem_nil, or_false] at hw
    rcases hw with rfl | rfl | rfl | rfl | rfl | rfl | rfl | rfl | rfl
    · exact va_Nw.warmD hW h9
    · exact va_Nw.warmD hW h9
    · exact va_Nw.warmD hW h9
    · exact va_Nw.warmC hW h9
    · exact va_Nw.warmC hW h9
    · exact va_Nw.warmM hW h9
    · exact va_Nw.warmM hW h9
    · exact va_Nw.warmM hW h9
    · exact va_Nw.warmM hW h9
def ai_ln : Instr → Nat
  | .bipush _ => 2
  | .iload _ => 2
  | .aload _ => 2
  | .istore _ => 2
  | .astore _ => 2
  | .newarray _ => 2
  | .ldc _ => 2
  | .sipush _ => 3
  | .iinc _ _ => 3
  | .ifCond _ _ => 3
  | .if_icmp _ _ => 3
  | .goto _ => 3
  | .getfield _ => 3
  | .putfield _ => 3
  | .new _ => 3
  | .anewarray _ => 3
  | .invokespecial _ => 3
  | .invokevirtual _ => 3
  | .invokestatic _ => 3
  | _ => 1
def ai_dc (cc : ByteArray) (pc : Nat) (i : Instr) : Prop := match i with
  | .tableswitch d lo hi offs => ∃ n, decode cc pc = .ok (.tableswitch d lo hi offs, n)
  | j => decode cc pc = .ok (j, ai_ln j)
/-- the word of a method's code -/
def ai_cw (M : ai_M) : Cond := match M.hh with
  | [] => .code M.nm M.by' M.ml M.rt
  | hh => .codeWith M.nm M.by' M.ml M.rt hh
/-- a call's link, whatever its kind -/
def ai_cf (own : String) (ix n : Nat) (M : ai_M) : Prop := Cond.methodLink own ix M.nm ∈ ai_TB ∧ Cond.initialized M.nm.cls ∈ ai_TB ∧ ai_cw M ∈ ai_TB ∧ M.nm.cls ≠ "java/lang/invoke/MethodHandle" ∧ M.nm.cls ≠ "java/lang/invoke/VarHandle" ∧ (parseMethodDescriptor M.nm.desc).map (fun d => d.parameters.length) = some n ∧ M.ml ≤ 31
/-- a constructor's link: a plain one, or that of a private one of a nest mate -/
def ai_cg (own : String) (ix n : Nat) (M : ai_M) : Prop := (Cond.methodLink own ix M.nm ∈ ai_TB ∨ ∃ host, Cond.methodLinkNest own ix M.nm host ∈ ai_NW) ∧ Cond.initialized M.nm.cls ∈ ai_TB ∧ ai_cw M ∈ ai_TB ∧ M.nm.cls ≠ "java/lang/invoke/MethodHandle" ∧ M.nm.cls ≠ "java/lang/invoke/VarHandle" ∧ (parseMethodDescriptor M.nm.desc).map (fun d => d.parameters.length) = some n ∧ M.ml ≤ 31
/-- 'throw new E("..")' at pc -/
def ai_tf (K : ai_L) (own : String) (cc : ByteArray) (pc ik : Nat) (E : String) : Prop := ∃ (is ic i ix : Nat) (rx : ByteArray), decode cc pc = .ok (.new ik, 3) ∧ decode cc (pc + 3) = .ok (.dup, 1) ∧ decode cc (pc + 4) = .ok (.ldc is, 2) ∧ decode cc (pc + 6) = .ok (.invokespecial ic, 3) ∧ decode cc (pc + 9) = .ok (.athrow, 1) ∧ ai_as K.2.2.1 is = some i ∧
  decode rx 0 = .ok (.aload_n 0, 1) ∧ decode rx 1 = .ok (.aload_n 1, 1) ∧ decode rx 2 = .ok (.invokespecial ix, 3) ∧ decode rx 5 = .ok (.return_, 1) ∧ Bundle.fit E = true ∧ Cond.classLink own ik E ∈ ai_TB ∧ Cond.initialized E ∈ ai_TB ∧ (∀ w ∈ vy_at own ic E ix rx ["java/lang/RuntimeException", "java/lang/Exception"], w ∈ ai_TB ∨ w ∈ ai_NW) ∧ Cond.castable E E ∈ ai_NW
/-- which of the JDK's static methods a step is -/
def ai_nm (n : Nat) : MethodName := match n with
  | 2 => Lib.Math.min.name
  | 3 => Lib.Math.max.name
  | 1 => Lib.Math.abs.name
  | _ => arraycopyName
def ai_lf (ms : List ai_M) (lk : Nat → ai_L) (on : Nat → String) (M : ai_M) (pc : Nat) (i : Instr) (tg : List Nat) : Prop := match i with
  | .ifCond _ off => ∀ t : Nat, tg = [t] → (pc : Int) + off = (t : Int)
  | .if_icmp _ off => ∀ t : Nat, tg = [t] → (pc : Int) + off = (t : Int)
  | .goto off => ∀ t : Nat, tg = [t] → (pc : Int) + off = (t : Int)
  | .tableswitch dflt _ _ offs => (∀ t : Nat, tg[0]? = some t → (pc : Int) + dflt = (t : Int)) ∧ ∀ j t : Nat, tg[j + 1]? = some t → ∃ off, offs[j]? = some off ∧ (pc : Int) + off = (t : Int)
  | .getfield ix => ∀ ci k kd, ai_as (lk M.cn).1 ix = some (ci, k, kd) → ai_fr (on M.cn) ix ci k
  | .putfield ix => ∀ ci k kd, ai_as (lk M.cn).1 ix = some (ci, k, kd) → ai_fw (on M.cn) (decide (M.nm.name = "<init>")) ix ci k kd
  | .new ix => (∀ ci, ai_as (lk M.cn).2.1 ix = some ci → ∃ q, vwCl[ci]? = some q ∧ Cond.classLink (on M.cn) ix q.1 ∈ ai_TB) ∧ ∀ E, ai_as (lk M.cn).2.2.2.2 ix = some E → ai_tf (lk M.cn) (on M.cn) M.by' pc ix E
  | .newarray t => Cond.arrayClass (newarray.typeOf t) ∈ ai_TB
  | .anewarray ix => Cond.classLink (on M.cn) ix "java/lang/String" ∈ ai_TB
  | .invokespecial ix => (∀ n, ai_as (lk M.cn).2.2.2.1 ix = some (0, n) → Cond.methodLink (on M.cn) ix Lib.objectInit ∈ ai_TB) ∧ ∀ q n M1, ai_as (lk M.cn).2.2.2.1 ix = some (q, n) → q ≠ 0 → ms[q]? = some M1 → ai_cg (on M.cn) ix n M1 ∧ Cond.instanceMethod M1.nm ∈ ai_TB ∧ M1.nm.name = "<init>" ∧ M1.hh = [] ∧ M1.rt = none
  | .invokevirtual ix => ∀ q n M1, ai_as (lk M.cn).2.2.2.1 ix = some (q, n) → q ≠ 0 → ms[q]? = some M1 → ai_cf (on M.cn) ix n M1 ∧ Cond.instanceMethod M1.nm ∈ ai_TB ∧ Cond.selects M1.nm.cls M1.nm M1.nm ∈ ai_TB ∧ M1.hh = [] ∧ ∃ T N, vwCl[M1.cn]? = some (M1.nm.cls, T, N)
  | .invokestatic ix => (∀ n, ai_as (lk M.cn).2.2.2.1 ix = some (0, n) → Cond.methodLink (on M.cn) ix (ai_nm n) ∈ ai_TB) ∧ ∀ q n M1, ai_as (lk M.cn).2.2.2.1 ix = some (q, n) → q ≠ 0 → ms[q]? = some M1 → ai_cf (on M.cn) ix n M1 ∧ Cond.static M1.nm ∈ ai_TB
  | _ => True
/-- a method's rows are those of its bytes -/
def ai_okM (ms : List ai_M) (lk : Nat → ai_L) (on : Nat → String) (M : ai_M) : Prop := plainName M.nm.cls = true ∧ on M.cn = M.nm.cls ∧ (∀ pc i tg, ai_as M.co pc = some (i, tg) → ai_dc M.by' pc i ∧ ai_lf ms lk on M pc i tg) ∧
  (M.hh = [] ∨ (M.rt = some .int ∧ ∃ st en hp ix k, M.hh = [(st, en, hp, ix)] ∧ k < M.ml ∧ ((decode M.by' hp = .ok (.astore k, 2) ∧ decode M.by' (hp + 2) = .ok (.iconst 1, 1) ∧ decode M.by' (hp + 3) = .ok (.ireturn, 1)) ∨ (∃ k4 : Fin 4, k = k4 ∧ decode M.by' hp = .ok (.astore_n k4, 1) ∧ decode M.by' (hp + 1) = .ok (.iconst 1, 1) ∧ decode M.by' (hp + 2) = .ok (.ireturn, 1))) ∧ ix ≠ 0 ∧ ∀ E, ai_as (lk M.cn).2.2.2.2 ix = some E → Cond.classLink (on M.cn) ix E ∈ ai_TB ∧ Cond.castable E E ∈ ai_NW))
set_option maxRecDepth 100000 in
theorem ai_objW : Cond.instanceMethod Lib.objectInit ∈ ai_TB ∧ Cond.code Lib.objectInit ⟨#[0xb1]⟩ 1 none ∈ ai_TB := ⟨ai_gp_in (p := 123) (by decide +kernel), ai_gp_in (p := 124) (by decide +kernel)⟩
set_option maxRecDepth 100000 in
theorem ai_cpyW : Cond.native arraycopyName ∈ ai_TB ∧ Cond.static arraycopyName ∈ ai_TB ∧ Cond.initialized "java/lang/System" ∈ ai_TB := ⟨ai_gp_in (p := 782) (by decide +kernel), ai_gp_in (p := 781) (by decide +kernel), ai_gp_in (p := 116) (by decide +kernel)⟩
set_option maxRecDepth 100000 in
theorem ai_minW : Cond.static Lib.Math.min.name ∈ ai_TB ∧ Cond.initialized "java/lang/Math" ∈ ai_TB ∧ Cond.code Lib.Math.min.name Lib.Math.min.code 2 (some .int) ∈ ai_TB := ⟨ai_gp_in (p := 621) (by decide +kernel), ai_gp_in (p := 111) (by decide +kernel), ai_gp_in (p := 622) (by decide +kernel)⟩
set_option maxRecDepth 100000 in
theorem ai_maxW : Cond.static Lib.Math.max.name ∈ ai_TB ∧ Cond.initialized "java/lang/Math" ∈ ai_TB ∧ Cond.code Lib.Math.max.name Lib.Math.max.code 2 (some .int) ∈ ai_TB := ⟨ai_gp_in (p := 968) (by decide +kernel), ai_gp_in (p := 111) (by decide +kernel), ai_gp_in (p := 969) (by decide +kernel)⟩
set_option maxRecDepth 100000 in
theorem ai_absW : Cond.static Lib.Math.abs.name ∈ ai_TB ∧ Cond.initialized "java/lang/Math" ∈ ai_TB ∧ Cond.code Lib.Math.abs.name Lib.Math.abs.code 1 (some .int) ∈ ai_TB := ⟨ai_gp_in (p := 827) (by decide +kernel), ai_gp_in (p := 111) (by decide +kernel), ai_gp_in (p := 828) (by decide +kernel)⟩
/-- where a method's body stands -/
def ai_Cx (lk : Nat → ai_L) (on : Nat → String) (X : Nat × (Nat → Int32)) (NS : Nat) (D : va_G) (ad : Nat → Nat) (dA : Nat → ClassId) (z0 : Nat) (Hb : Heap) (R : Room) (M : ai_M) (p : Program) (s : State) (m : MethodId) (args : Array Value) (meth : Method) (c : Code) : Prop :=
  p.tables.exec = Jvm.exec ∧ c.code = M.by' ∧ c.maxLocals = M.ml ∧ meth.sig.returnType = M.rt ∧ meth.locks = false ∧ s.vm.findClass (on M.cn) = some m.cls ∧ (M.nm.name = "<init>" → meth.name = "<init>") ∧ (∀ w ∈ ai_TB, w.before args s = true) ∧ (∀ k, k < 1000000 → ad k = z0 + k) ∧ (z0 ≤ s.heap.size ∧ ∀ q, q < z0 → s.heap[q]? = Hb[q]?) ∧ ad 1000000 < z0 ∧ ai_Sx lk on X NS D ad dA z0 Hb s ∧ 10 ≤ R.frames ∧ 200 ≤ R.locals ∧ c.exceptionTable.toList = tableOf M.hh
section AIT
variable {p : Program} {l : Launch} {e : Env} {R : Room} {s : State} {m : MethodId} {args : Array Value} {below : List Frame} {meth : Method} {c : Code} {Q : State → Prop} {D : va_G} {ad : Nat → Nat} {dA : Nat → ClassId} {z0 : Nat} {Hb : Heap} {n0 : Nat}
variable {ms : List ai_M} {lk : Nat → ai_L} {on : Nat → String} {X : Nat × (Nat → Int32)} {NS : Nat} {M : ai_M}
theorem as_step (C : ai_Cx lk on X NS D ad dA z0 Hb R M p s m args meth c) {i : Instr} {tg : List Nat} {fr fr' : ai_F} (hd : ai_dc M.by' fr.1 i) (hf : ai_lf ms lk on M fr.1 i tg) (h : ai_st (lk M.cn) X M.ml NS i tg fr = some fr') (hM : fr'.2.2.2.2.2.1 ≤ R.cells ∧ fr'.2.2.2.2.2.2 ≤ R.slots) (K : ai_W p l e R s m args below meth c Q M.ml D ad dA z0 Hb n0 fr') : ai_W p l e R s m args below meth c Q M.ml D ad dA z0 Hb n0 fr := by
  obtain ⟨hx, hb, hml, hrt, hlk, hown, hini, hts, had, hZ, hX2, ⟨hK, hX, hstr, hstO, hAO, hU, hN, hNW⟩, hRf, hRl, htab⟩ := C
  have hX' : va_X (ad 1000000) X.1 X.2 s s.heap := hX.kept (hZ.2 _ hX2)
  have hstO' : ∀ v, 1000001 ≤ v → v < 1000001 + NS → va_O "java/lang/String" (ad v) (fun q : Nat => z0 ≤ q) s s.heap := fun v q1 q2 => (hstO v q1 q2).kept (fun a h1 h2 => hZ.2 a (Nat.not_le.mp h2))
  cases i with
  | iconst n => exact as_iconst hx hb hd h K
  | bipush n => exact as_bipush hx hb hd h K
  | sipush n => exact as_sipush hx hb hd h K
  | lconst n => exact as_lconst hx hb hd h K
  | iload_n k => exact as_iload_n hx hb hd h K
  | iload k => exact as_iload hx hb hd h K
  | aload_n k => exact as_aload_n hx hb hd h K
  | aload k => exact as_aload hx hb hd h K
  | istore_n k => exact as_istore_n hx hb hd h K
  | istore k => exact as_istore hx hb hd h K
  | astore_n k => exact as_astore_n hx hb hd h K
  | astore k => exact as_astore hx hb hd h K
  | iinc k d => exact as_iinc hx hb hd h K
  | iadd => exact as_iadd hx hb hd h K
  | isub => exact as_isub hx hb hd h K
  | imul => exact as_imul hx hb hd h K
  | iand => exact as_iand hx hb hd h K
  | ishr => exact as_ishr hx hb hd h K
  | idiv => exact as_idiv hx hb hd h K
  | irem => exact as_irem hx hb hd h K
  | i2l => exact as_i2l hx hb hd h K
  | i2b => exact as_i2b hx hb hd h K
  | lcmp => exact as_lcmp hx hb hd h K
  | dup => exact as_dup hx hb hd h K
  | dup2 => exact as_dup2 hx hb hd h K
  | pop => exact as_pop hx hb hd h K
  | ifCond o off => cases o with
    | eq => exact as_if_eq hx hb hd hf h K
    | ne => exact as_if_ne hx hb hd hf h K
    | lt => exact as_if_lt hx hb hd hf h K
    | ge => exact as_if_ge hx hb hd hf h K
    | gt => exact as_if_gt hx hb hd hf h K
    | le => exact as_if_le hx hb hd hf h K
  | if_icmp o off => cases o with
    | eq => exact as_ic_eq hx hb hd hf h K
    | ne => exact as_ic_ne hx hb hd hf h K
    | lt => exact as_ic_lt hx hb hd hf h K
    | ge => exact as_ic_ge hx hb hd hf h K
    | gt => exact as_ic_gt hx hb hd hf h K
    | le => exact as_ic_le hx hb hd hf h K
  | goto off => exact as_goto hx hb hd hf h K
  | tableswitch dflt lo hi offs =>
    obtain ⟨n, hd⟩ := hd
    exact as_table hx hb hd hf.1 hf.2 h K
  | getfield ix => exact as_get hx hb hts hK had hZ hown hf hd h K
  | putfield ix => exact as_put hx hb hts hK had hZ hown (fun q => hini (of_decide_eq_true q)) hf hd h K
  | iaload => exact as_ial hx hb hts hK had hZ hX' hX2 hd h K
  | baload => exact as_bal hx hb hts hK had hZ hd h K
  | laload => exact as_lal hx hb hts hK had hZ hd h K
  | iastore => exact as_ias hx hb hts hK had hZ hd h K
  | bastore => exact as_bas hx hb hts hK had hZ hd h K
  | lastore => exact as_las hx hb hts hK had hZ hd h K
  | arraylength => exact as_len hx hb hts hK had hZ hX' hX2 hd h K
  | new ix => exact as_new hx hb hts hK had hZ hown hf.1 hd h hM K
  | newarray t => exact as_nwa hx hb hts hK had hZ hf hd h hM K
  | anewarray ix => exact as_nws hx hb hts hK had hZ hown hf hAO hd h hM K
  | ldc ix => exact as_ldc hx hb hts hK had hZ hown (fun i hi => hstr M.cn ix i hi) hd h K
  | aastore => exact as_aas hx hb hts hK had hZ hstO' hd h K
  | aaload => exact as_aal hx hb hts hK had hZ hd h K
  | invokespecial ix => exact as_obj hx hb hts hK had hZ hown hml hf.1 ai_objW ⟨by omega, by omega⟩ hd h K
  | invokestatic ix =>
    change ai_nat (lk M.cn) ix fr = some fr' at h
    unfold ai_nat at h
    split at h
    · rename_i hq
      exact as_min hx hb hts hown hml (hf.1 2 hq) ai_minW ⟨by omega, by omega⟩ hd h hM K
    · rename_i hq
      exact as_max hx hb hts hown hml (hf.1 3 hq) ai_maxW ⟨by omega, by omega⟩ hd h hM K
    · rename_i hq
      exact as_abs hx hb hts hown hml (hf.1 1 hq) ai_absW ⟨by omega, by omega⟩ hd h hM K
    · rename_i h2 h3 h1
      have hq : ∃ n, ai_as (lk M.cn).2.2.2.1 ix = some (0, n) := by
        unfold ai_cpy at h
        split at h
        · split at h
          · rename_i q n9 hq9
            split at h
            · split at h
              · split at h
                · rename_i hc
                  obtain ⟨rfl, -⟩ := hc
                  exact ⟨n9, hq9⟩
                · cases h
              · cases h
            · cases h
          · cases h
        · cases h
      obtain ⟨n, hn⟩ := hq
      have hw := hf.1 n hn
      have hnm : ai_nm n = arraycopyName := by
        unfold ai_nm
        split
        · exact absurd hn h2
        · exact absurd hn h3
        · exact absurd hn h1
        · rfl
      rw [hnm] at hw
      exact as_cpy hx hb hts hK had hZ hown hml hw ai_cpyW ⟨by omega, by omega⟩ hd h K
  | _ => cases h
end AIT
end
section
/-! CALLS, ENDS, AND THE CONTRACT OF EVERY METHOD -/
def ai_rm (d C S : Nat) : Room := { frames := 10 + d, cells := C, slots := S, locals := 200 + 50 * d }
def ai_Q (D : va_G) (ad : Nat → Nat) (dA : Nat → ClassId) (z0 : Nat) (Hb : Heap) (o : ai_O) : Array Value → State → Outcome → State → Prop := fun _ st oc t => match o with
  | .inl (v, h', _, _, _) => oc = .returned (v.map (ai_v ad)) ∧ ai_R D ad dA z0 Hb h' t.heap ∧ va_F (fun q : Nat => z0 ≤ q) st t
  | .inr _ => False
def ai_XC (D : va_G) (ad : Nat → Nat) (dA : Nat → ClassId) (z0 : Nat) (Hb : Heap) (o : ai_O) : String → State → State → Prop := fun E st t => match o with
  | .inl _ => False
  | .inr (E', h', _, _) => E = E' ∧ ai_R D ad dA z0 Hb h' t.heap ∧ va_F (fun q : Nat => z0 ≤ q) st t
def ai_Pc (lk : Nat → ai_L) (on : Nat → String) (X : Nat × (Nat → Int32)) (NS : Nat) (D : va_G) (ad : Nat → Nat) (dA : Nat → ClassId) (z0 : Nat) (Hb : Heap) (As : List Value) (h : ai_H) (ex : Bool) : Array Value → State → Prop := va_Pc (As.map (ai_v ad)) (fun U => ai_R D ad dA z0 Hb h U.heap ∧ (ex = true → U.heap.size = z0 + h.length) ∧ ai_Sx lk on X NS D ad dA z0 Hb U)
/-- the contract of the method q at these arguments and this heap -/
def ai_Ct (l : Launch) (ms : List ai_M) (lk : Nat → ai_L) (on : Nat → String) (X : Nat × (Nat → Int32)) (NS : Nat) (D : va_G) (ad : Nat → Nat) (dA : Nat → ClassId) (z0 : Nat) (Hb : Heap) (d q : Nat) (As : List Value) (h : ai_H) (ex : Bool) (o : ai_O) : Prop :=
  ∀ M, ms[q]? = some M → vx_Met l M.nm (ai_cw M :: ai_TB) (ai_rm d (ai_oc o) (ai_os o)) (ai_Pc lk on X NS D ad dA z0 Hb As h ex) (ai_Q D ad dA z0 Hb o) (ai_XC D ad dA z0 Hb o) (ai_oc o) (ai_os o) (fun q : Nat => z0 ≤ q)
/-- what a run says of the heap's length -/
def ai_pf (h : ai_H) (ex : Bool) (o : ai_O) : Prop := match o with
  | .inl (_, h', ex', nc, _) => ex' = true → ex = true ∧ h'.length = h.length + nc
  | .inr _ => True
theorem ai_GI {ws : List Cond} (h : ∀ w ∈ ws, w ∈ ai_TB) : GoodIn ai_TB ws := fun w hw => ⟨h w hw, good_of_word (List.mem_filter.mp (h w hw)).2⟩
theorem ai_blind {lk : Nat → ai_L} {on : Nat → String} {X : Nat × (Nat → Int32)} {NS : Nat} {D : va_G} {ad : Nat → Nat} {dA : Nat → ClassId} {z0 : Nat} {Hb : Heap} {As : List Value} {h : ai_H} {ex : Bool} : FrameBlind (ai_Pc lk on X NS D ad dA z0 Hb As h ex) :=
  fun a U g mk q => ⟨q.1, q.2.1, q.2.2.1, ai_Sx.warm (s := U) (U := U.calling g mk a) (State.WarmedH.refl U) q.2.2.2⟩
theorem ai_NW_on {w : Cond} (h : w ∈ ai_NW) : w.onTables = true := by
  simp only [ai_NW, List.mem_cons, List.not_mem_nil, or_false] at h
  rcases h with rfl | rfl | rfl | rfl | rfl | rfl | rfl | rfl | rfl <;> rfl
section AIU
variable {p : Program} {l : Launch} {e : Env} {R : Room} {s : State} {m : MethodId} {args : Array Value} {below : List Frame} {meth : Method} {c : Code} {Q : State → Prop} {D : va_G} {ad : Nat → Nat} {dA : Nat → ClassId} {z0 : Nat} {Hb : Heap} {n0 : Nat}
variable {ms : List ai_M} {lk : Nat → ai_L} {on : Nat → String} {X : Nat × (Nat → Int32)} {NS : Nat} {M : ai_M} {H : Heap} {locs : List Loc} {nc ns pc : Nat} {ls : Array Slot} {st0 rest : List Value} {a : Array Value}
/-- behind a call that returned -/
theorem as_ret {v : Option Value} {h' : ai_H} {ex' : Bool} {nc' ns' : Nat} (hr : vx_Run p l e R s m args below meth c H locs nc ns nc' ns' (F0 m pc ls st0) rest (ai_Q D ad dA z0 Hb (.inl (v, h', ex', nc', ns')) a) (ai_XC D ad dA z0 Hb (.inl (v, h', ex', nc', ns'))) (fun q : Nat => z0 ≤ q)) (hS : va_S (fun q : Nat => z0 ≤ q) s.heap H locs)
    (kk : ∀ (H1 : Heap) (locs1 : List Loc), ai_R D ad dA z0 Hb h' H1 → va_S (fun q : Nat => z0 ≤ q) s.heap H1 locs1 → W p l e R s m args below meth c H1 locs1 (nc + nc') (ns + ns') Q (F0 m (pc + 3) ls ((v.map (ai_v ad)).toList ++ rest))) : W p l e R s m args below meth c H locs nc ns Q (F0 m pc ls st0) := by
  intro T hT X9
  rcases hr T hT X9 with ⟨v1, st1, t, T', L, h0, X', hL, e1, e2, hq, st⟩ | ⟨q, st1, t, T', L, E, ce, h0, X', hL, e1, e2, hq, hce, hcv, hcl, st⟩
  · obtain ⟨hv, hR', hF⟩ := hq
    cases hv
    obtain ⟨k1, k2, k3⟩ := vx_keep h0 e1 hS (fun q _ h => h) (fun q h => h) hL hF
    obtain ⟨t2, a1, b1⟩ := kk T'.heap (locs ++ L) (by rw [e1]; exact hR') k3 T' rfl X'
    exact ⟨t2, st t2 a1, b1⟩
  · exact absurd hq (fun h => h)
/-- behind a call that threw -/
theorem as_thr {E : String} {h' : ai_H} {nc' ns' : Nat} (hr : vx_Run p l e R s m args below meth c H locs nc ns nc' ns' (F0 m pc ls st0) rest (ai_Q D ad dA z0 Hb (.inr (E, h', nc', ns')) a) (ai_XC D ad dA z0 Hb (.inr (E, h', nc', ns'))) (fun q : Nat => z0 ≤ q)) (hS : va_S (fun q : Nat => z0 ≤ q) s.heap H locs)
    (kx : ∀ (ce : Cell) (q9 : Addr) (H1 : Heap) (locs1 : List Loc), ai_R D ad dA z0 Hb h' H1 → va_S (fun q : Nat => z0 ≤ q) s.heap H1 locs1 → H1[q9]? = some ce → ce.vm = .none → s.vm.findClass E = some ce.cls → vx_W p l e R s m args below meth c H1 locs1 (nc + nc') (ns + ns') Q (F0 m pc ls rest) q9) : W p l e R s m args below meth c H locs nc ns Q (F0 m pc ls st0) := by
  intro T hT X9
  rcases hr T hT X9 with ⟨v1, st1, t, T', L, h0, X', hL, e1, e2, hq, st⟩ | ⟨q, st1, t, T', L, E1, ce, h0, X', hL, e1, e2, hq, hce, hcv, hcl, st⟩
  · exact absurd hq (fun h => h)
  · obtain ⟨rfl, hR', hF⟩ := hq
    obtain ⟨k1, k2, k3⟩ := vx_keep h0 e1 hS (fun q _ h => h) (fun q h => h) hL hF
    obtain ⟨t2, a1, b1⟩ := kx ce q T'.heap (locs ++ L) (by rw [e1]; exact hR') k3 (by rw [e1]; exact hce) hcv hcl T' rfl X'
    exact ⟨t2, st.trans a1, b1⟩
theorem ai_cw_nil {M1 : ai_M} (h : M1.hh = []) : ai_cw M1 = .code M1.nm M1.by' M1.ml M1.rt := by
  unfold ai_cw
  rw [h]
theorem ai_cw_cons {M1 : ai_M} (h : M1.hh ≠ []) : ai_cw M1 = .codeWith M1.nm M1.by' M1.ml M1.rt M1.hh := by
  unfold ai_cw
  split
  · rename_i h2
    exact absurd h2 h
  · rfl
theorem ai_sum_map (st : List Value) : ((st.map (ai_v ad)).map fun v => v.category).sum = ai_sum st := by
  simp [ai_sum, Function.comp_def, ai_v_cat]
theorem ai_take_rev (st : List Value) (n : Nat) : (((st.take n).reverse).map (ai_v ad)).reverse ++ (st.drop n).map (ai_v ad) = st.map (ai_v ad) := by
  rw [← List.map_reverse, List.reverse_reverse, ← List.map_append, List.take_append_drop]
/-- every call of the interpreter is one of the machine's -/
theorem as_call (C : ai_Cx lk on X NS D ad dA z0 Hb R M p s m args meth c) {i : Instr} {tg : List Nat} {lv : List (Nat × Value)} {st : List Value} {h : ai_H} {ex : Bool} (hd : ai_dc M.by' pc i) (hf : ai_lf ms lk on M pc i tg) {q : Nat} {As rest0 : List Value} {o1 : ai_O} {M1 : ai_M} {d : Nat} (hca : ai_ca (lk M.cn) i st h = some (q, As, rest0)) (hq0 : q ≠ 0) (hM1 : ms[q]? = some M1) (hrc : ai_rc i As h M1.cn) (hni : ai_ni i o1)
    (hCt : ai_Ct l ms lk on X NS D ad dA z0 Hb d q As h ex o1) (hRd : 10 + d + 1 ≤ R.frames ∧ 200 + 50 * (d + 1) ≤ R.locals) (hroom : nc + ai_oc o1 ≤ R.cells ∧ ns + ai_os o1 ≤ R.slots) (hR : ai_R D ad dA z0 Hb h H) (hsz : ex = true → H.size = z0 + h.length) (hl : lv_has ls M.ml (ai_lv ad lv)) :
    vx_Run p l e R s m args below meth c H locs nc ns (ai_oc o1) (ai_os o1) (F0 m pc ls (st.map (ai_v ad))) (rest0.map (ai_v ad)) (ai_Q D ad dA z0 Hb o1 (As.map (ai_v ad)).toArray) (ai_XC D ad dA z0 Hb o1) (fun q : Nat => z0 ≤ q) := by
  obtain ⟨hx, hb, hml, hrt, hlk, hown, hini, hts, had, hZ, hX2, hSx, hRf, hRl, htab⟩ := C
  have hK := hSx.1
  have hM := hCt M1 hM1
  have S : CallFix p m c M.by' M.ml s args ai_TB (on M.cn) := ⟨hx, hb, hml, hown, hts⟩
  have hpc : ∀ U : State, U.heap = H → s.WarmedH U.vm → ai_Pc lk on X NS D ad dA z0 Hb As h ex (As.map (ai_v ad)).toArray U := fun U hU hW => ⟨rfl, by rw [hU]; exact hR, fun q => by rw [hU]; exact hsz q, hSx.warm hW⟩
  have hfr : ∀ k, k ≤ 31 → (ai_rm d (ai_oc o1) (ai_os o1)).frames + 1 ≤ R.frames ∧ 8 + (k + 11) + (ai_rm d (ai_oc o1) (ai_os o1)).locals ≤ R.locals := fun k hk => by
    simp only [ai_rm]
    omega
  cases i with
  | invokestatic ix =>
    simp only [ai_ca] at hca
    split at hca
    · rename_i q1 n1 hml1
      split at hca
      · rename_i hlen
        simp only [Option.some.injEq, Prod.mk.injEq] at hca
        obtain ⟨rfl, rfl, rfl⟩ := hca
        obtain ⟨⟨w1, w2, w3, w4, w5, w6, w7⟩, w8⟩ := hf.2 _ _ M1 hml1 hq0 hM1
        have hG : GoodIn ai_TB (va_wsS (on M.cn) ix M1.nm (ai_cw M1 :: ai_TB)) := ai_GI (fun w hw => by
          simp only [va_wsS, List.cons_append, List.nil_append, List.mem_cons] at hw
          rcases hw with rfl | rfl | rfl | rfl | hw
          · exact w1
          · exact w8
          · exact w2
          · exact w3
          · exact hw)
        have hn : (((st.take n1).reverse).map (ai_v ad)).length = n1 := by simp; omega
        have hst : (F0 m pc ls (st.map (ai_v ad))).stack = (((st.take n1).reverse).map (ai_v ad)).reverse ++ (st.drop n1).map (ai_v ad) := (ai_take_rev st n1).symm
        by_cases hh : M1.hh = []
        · have cw := va_cwS (R := R) (rm := ai_rm d (ai_oc o1) (ai_os o1)) (mc := ai_oc o1) (ms := ai_os o1) n1 hts hG (by rw [ai_cw_nil hh]) rfl rfl ⟨w4, w5, w6⟩ (hfr _ w7)
          exact vx_runS S hM cw ⟨ai_blind, hpc⟩ rfl hn hl.1 hst (by rw [ai_sum_map]; show 2 * 0 + _ ≤ 8; omega) hd hroom
        · have cw := vx_cwSW (R := R) (rm := ai_rm d (ai_oc o1) (ai_os o1)) (mc := ai_oc o1) (ms := ai_os o1) n1 hts hG (by rw [ai_cw_cons hh]) rfl rfl ⟨w4, w5, w6⟩ (hfr _ w7)
          exact vx_runSX S hM cw ⟨ai_blind, hpc⟩ rfl hn hl.1 hst (by rw [ai_sum_map]; show 2 * 0 + _ ≤ 8; omega) hd hroom
      · cases hca
    · cases hca
  | invokevirtual ix =>
    simp only [ai_ca] at hca
    split at hca
    · rename_i q1 n1 hml1
      split at hca
      · rename_i b rest1 hdr
        split at hca
        · rename_i ob hob
          split at hca
          · rename_i hlen
            simp only [Option.some.injEq, Prod.mk.injEq] at hca
            obtain ⟨rfl, rfl, rfl⟩ := hca
            obtain ⟨⟨w1, w2, w3, w4, w5, w6, w7⟩, w8, w9, hh, T1, N1, hcl1⟩ := hf _ _ M1 hml1 hq0 hM1
            have hG : GoodIn ai_TB (wsV (on M.cn) ix M1.nm.cls M1.nm (ai_cw M1 :: ai_TB)) := ai_GI (fun w hw => by
              simp only [wsV, List.cons_append, List.nil_append, List.mem_cons] at hw
              rcases hw with rfl | rfl | rfl | rfl | rfl | hw
              · exact w1
              · exact w8
              · exact w9
              · exact w2
              · exact w3
              · exact hw)
            have hn0 : n1 < st.length := by
              rcases Nat.lt_or_ge n1 st.length with g | g
              · exact g
              · rw [List.drop_eq_nil_of_le g] at hdr
                cases hdr
            have hn : (((st.take n1).reverse).map (ai_v ad)).length = n1 := by simp; omega
            have hst : (F0 m pc ls (st.map (ai_v ad))).stack = (((st.take n1).reverse).map (ai_v ad)).reverse ++ .ref (ad b) :: rest1.map (ai_v ad) := by
              have g := ai_take_rev (ad := ad) st n1
              rw [hdr] at g
              exact g.symm
            obtain ⟨fs, hfs⟩ := hrc
            have ha : b < h.length := (List.getElem?_eq_some_iff.mp hfs).1
            have hae : ad b = z0 + b := had b (Nat.lt_of_lt_of_le ha hR.2.1)
            have hwg := ai_w_get (ad := ad) (dA := dA) (z0 := z0) hfs
            rw [← hae] at hwg
            have cw := cwV (R := R) (rm := ai_rm d (ai_oc o1) (ai_os o1)) (mc := ai_oc o1) (ms := ai_os o1) n1 hts hG (by rw [ai_cw_nil hh]) rfl rfl ⟨rfl, w4, w5, w6⟩ (hfr _ w7)
            exact vx_runV S hM cw ⟨ai_blind, va_recv hK hR.1 hcl1 hwg, hpc⟩ rfl hn hl.1 hst (by rw [ai_sum_map]; show 2 * 0 + _ ≤ 8; omega) hd hroom
          · cases hca
        · cases hca
      · cases hca
    · cases hca
  | invokespecial ix =>
    simp only [ai_ca] at hca
    split at hca
    · rename_i q1 n1 hml1
      split at hca
      · rename_i b rest1 hdr
        split at hca
        · rename_i hlen
          simp only [Option.some.injEq, Prod.mk.injEq] at hca
          obtain ⟨rfl, rfl, rfl⟩ := hca
          obtain ⟨⟨w1, w2, w3, w4, w5, w6, w7⟩, w8, w9, hh, hrt1⟩ := hf.2 _ _ M1 hml1 hq0 hM1
          have hG : GoodIn ai_TB (ai_cw M1 :: ai_TB) := ai_GI (fun w hw => by
            rcases List.mem_cons.mp hw with rfl | hw
            · exact w3
            · exact hw)
          have hn0 : n1 < st.length := by
            rcases Nat.lt_or_ge n1 st.length with g | g
            · exact g
            · rw [List.drop_eq_nil_of_le g] at hdr
              cases hdr
          have hn : (((st.take n1).reverse).map (ai_v ad)).length = n1 := by simp; omega
          have hst : (F0 m pc ls (st.map (ai_v ad))).stack = (((st.take n1).reverse).map (ai_v ad)).reverse ++ .ref (ad b) :: rest1.map (ai_v ad) := by
            have g := ai_take_rev (ad := ad) st n1
            rw [hdr] at g
            exact g.symm
          cases o1 with
          | inr x => exact absurd hni (fun h => h)
          | inl x =>
            obtain ⟨v, h', ex', nc', ns'⟩ := x
            have hM2 : Met l M1.nm (ai_cw M1 :: ai_TB) (ai_rm d nc' ns') (ai_Pc lk on X NS D ad dA z0 Hb (.ref b :: (st.take n1).reverse) h ex) (ai_Q D ad dA z0 Hb (.inl (v, h', ex', nc', ns'))) nc' ns' (fun q : Nat => z0 ≤ q) := by
              refine MetFree.mono hM (fun _ _ h => h) (fun _ _ _ _ _ h => h) (fun a9 s9 o9 t9 _ h9 => ?_)
              rcases h9 with h9 | ⟨q9, -, E9, ce9, L9, h9, -⟩
              · exact h9
              · exact absurd h9 (fun h => h)
            rcases w1 with w1 | ⟨host, w1⟩
            · have cw := cwI (R := R) (bytes := M1.by') (maxL := M1.ml) (ws' := ai_TB) (rm := ai_rm d nc' ns') (mc := nc') (ms := ns') n1 hts hG (by rw [ai_cw_nil hh, hrt1]) rfl rfl (hts _ w2) (hts _ w1) (hts _ w8) w9 ⟨w4, w5, w6⟩ (hfr _ w7)
              have hr := va_runI (l := l) (e := e) (below := below) (meth := meth) (H := H) (locs := locs) (cells := nc) (slots := ns) (b := ad b) (g := F0 m pc ls (st.map (ai_v ad))) (rest := rest1.map (ai_v ad)) S hM2 cw ⟨ai_blind, hpc⟩ rfl hn hl.1 hst (by rw [ai_sum_map]; show 2 * 0 + _ ≤ 8; omega) hd hroom
              intro T hT X9
              exact Or.inl (hr T hT X9)
            · have cw := va_cnB (R := R) (s := s) (args := args) (bytes := M1.by') (maxL := M1.ml) (ret := none) (ws' := ai_TB) (rm := ai_rm d nc' ns') (mc := nc') (ms := ns') n1 hts hG (by rw [ai_cw_nil hh, hrt1]) rfl rfl (hSx.2.2.2.2.2.2.2 _ w1) (hts _ w2) ⟨w4, w5, w6⟩ (hfr _ w7)
              have hr := va_runIN (l := l) (e := e) (below := below) (meth := meth) (H := H) (locs := locs) (cells := nc) (slots := ns) (b := ad b) (g := F0 m pc ls (st.map (ai_v ad))) (rest := rest1.map (ai_v ad)) S hM2 ⟨cw, w9, hts _ w8⟩ ⟨ai_blind, hpc⟩ rfl hn hl.1 hst (by rw [ai_sum_map]; show 2 * 0 + _ ≤ 8; omega) hd hroom
              intro T hT X9
              exact Or.inl (hr T hT X9)
        · cases hca
      · cases hca
    · cases hca
  | _ => cases hca
end AIU
end
section
/-! A RUN OF THE INTERPRETER IS A RUN OF THE MACHINE -/
/-- what a run says of counts and lengths -/
def ai_pg (fr : ai_F) (o : ai_O) : Prop := match o with
  | .inl (_, h', ex', nc', _) => ex' = true → fr.2.2.2.2.1 = true ∧ h'.length + fr.2.2.2.2.2.1 = fr.2.2.2.1.length + nc'
  | .inr _ => True
theorem ai_Rn_pure {ms : List ai_M} {lk : Nat → ai_L} {X : Nat × (Nat → Int32)} {NS : Nat} {M : ai_M} {cl : Nat → List Value → ai_H → Bool → ai_O → Prop} (hcl : ∀ q As h ex o1, cl q As h ex o1 → ai_pf h ex o1) : ∀ (n : Nat) (fr : ai_F) (o : ai_O), ai_Rn ms lk X NS cl M n fr o → fr.2.2.2.2.2.1 ≤ ai_oc o ∧ fr.2.2.2.2.2.2 ≤ ai_os o ∧ ai_pg fr o
  | 0, fr, o, h => absurd h (fun h => h)
  | n + 1, fr, o, h => by
    obtain ⟨i, tg, -, h⟩ := h
    rcases h with ⟨fr', h1, h2⟩ | h1 | h1 | ⟨q, As, rest, o1, M1, h1, hq0, h3, h4, h5, h6, h7⟩
    · obtain ⟨g1, g2, g3⟩ := ai_Rn_pure hcl n fr' o h2
      obtain ⟨m1, m2⟩ := ai_st_mono h1
      refine ⟨Nat.le_trans m1 g1, Nat.le_trans m2 g2, ?_⟩
      have hl := ai_st_len h1
      cases o with
      | inr x => trivial
      | inl x =>
        obtain ⟨v, h', ex', nc', ns'⟩ := x
        intro he
        obtain ⟨k1, k2⟩ := g3 he
        obtain ⟨k3, k4⟩ := hl k1
        exact ⟨k3, by omega⟩
    · obtain ⟨pc, lv, st, h0, ex, nc, ns⟩ := fr
      simp only [ai_rt] at h1
      split at h1
      · cases h1
        exact ⟨Nat.le_refl _, Nat.le_refl _, fun q => ⟨q, rfl⟩⟩
      · split at h1
        · cases h1
          exact ⟨Nat.le_refl _, Nat.le_refl _, fun q => ⟨q, rfl⟩⟩
        · cases h1
      · cases h1
        exact ⟨Nat.le_refl _, Nat.le_refl _, fun q => ⟨q, rfl⟩⟩
      · cases h1
    · obtain ⟨pc, lv, st, h0, ex, nc, ns⟩ := fr
      simp only [ai_th] at h1
      split at h1
      · split at h1
        · split at h1
          · cases h1
            exact ⟨Nat.le_succ _, Nat.le_add_right _ _, trivial⟩
          · cases h1
        · cases h1
      · cases h1
    · obtain ⟨pc, lv, st, h0, ex, nc, ns⟩ := fr
      have hp := hcl _ _ _ _ _ h6
      cases o1 with
      | inl x =>
        obtain ⟨v, h', ex', nc', ns'⟩ := x
        obtain ⟨g1, g2, g3⟩ := ai_Rn_pure hcl n _ o h7
        simp only [ai_af] at g1 g2
        refine ⟨by simp only; omega, by simp only; omega, ?_⟩
        cases o with
        | inr y => trivial
        | inl y =>
          obtain ⟨v2, h2, ex2, nc2, ns2⟩ := y
          intro he
          obtain ⟨k1, k2⟩ := g3 he
          simp only [ai_af, Bool.and_eq_true] at k1 k2
          obtain ⟨k3, k4⟩ := hp k1.2
          simp only at k4 ⊢
          exact ⟨k1.1, by omega⟩
      | inr x =>
        obtain ⟨E, h', nc', ns'⟩ := x
        rcases h7 with ⟨-, h7⟩ | ⟨st9, en9, hp9, ix9, -, -, -, -, h7⟩
        · subst h7
          exact ⟨Nat.le_add_right _ _, Nat.le_add_right _ _, trivial⟩
        · subst h7
          exact ⟨Nat.le_add_right _ _, Nat.le_add_right _ _, fun q => by cases q⟩
section AIX
variable {p : Program} {l : Launch} {e : Env} {R : Room} {s : State} {m : MethodId} {args : Array Value} {below : List Frame} {meth : Method} {c : Code} {D : va_G} {ad : Nat → Nat} {dA : Nat → ClassId} {z0 : Nat} {Hb : Heap} {n0 : Nat}
variable {ms : List ai_M} {lk : Nat → ai_L} {on : Nat → String} {X : Nat × (Nat → Int32)} {NS : Nat} {M : ai_M}
set_option maxHeartbeats 1000000 in
theorem as_run (C : ai_Cx lk on X NS D ad dA z0 Hb R M p s m args meth c) (hok : ai_okM ms lk on M) (htr : l.stackTraces = false) {cl : Nat → List Value → ai_H → Bool → ai_O → Prop} {d : Nat} (hcl : ∀ q As h ex o1, cl q As h ex o1 → ai_Ct l ms lk on X NS D ad dA z0 Hb d q As h ex o1 ∧ ai_pf h ex o1) (hRd : 10 + d + 1 ≤ R.frames ∧ 200 + 50 * (d + 1) ≤ R.locals) :
    ∀ (n : Nat) (fr : ai_F) (o : ai_O), ai_Rn ms lk X NS cl M n fr o → ai_oc o ≤ R.cells → ai_os o ≤ R.slots → ai_W p l e R s m args below meth c (vx_MQ below (ai_Q D ad dA z0 Hb o) (ai_XC D ad dA z0 Hb o) args s (ai_oc o) (ai_os o) (fun q : Nat => z0 ≤ q)) M.ml D ad dA z0 Hb n0 fr
  | 0, fr, o, h, _, _ => absurd h (fun h => h)
  | n + 1, fr, o, h, hoc, hos => by
    have hpure := ai_Rn_pure (fun q As h ex o1 q9 => (hcl q As h ex o1 q9).2) (n + 1) fr o h
    obtain ⟨i, tg, hi, h⟩ := h
    obtain ⟨hplain, hon, hrows, hhand⟩ := id hok
    obtain ⟨hd, hf⟩ := hrows _ _ _ hi
    rcases h with ⟨fr', h1, h2⟩ | h1 | h1 | ⟨q, As, rest, o1, M1, h1, hq0, h3, h4, h5, h6, h7⟩
    · have hp2 := ai_Rn_pure (fun q As h ex o1 q9 => (hcl q As h ex o1 q9).2) n fr' o h2
      exact as_step C hd hf h1 ⟨Nat.le_trans hp2.1 hoc, Nat.le_trans hp2.2.1 hos⟩ (as_run C hok htr hcl hRd n fr' o h2 hoc hos)
    · obtain ⟨hx, hb, hml, hrt, hlk, hown, hini, hts, had, hZ, hX2, hSx, hRf, hRl, htab⟩ := C
      obtain ⟨pc, lv, st, h0, ex, nc, ns⟩ := fr
      simp only [ai_rt] at h1
      split at h1
      · rename_i v hr9
        cases h1
        intro H locs ls hR hE hS hl
        exact vx_ret (W.iret hx hb (hrt.trans hr9) (fun t ht hW => ⟨rfl, by rw [ht]; exact hR, hS.F ht⟩) hS.2.2 hd hlk)
      · rename_i v hr9
        split at h1
        · rename_i hv
          cases h1
          intro H locs ls hR hE hS hl
          exact vx_ret (W.zret hx hb (hrt.trans hr9) (by rcases hv with rfl | rfl <;> rfl) (fun t ht hW => ⟨rfl, by rw [ht]; exact hR, hS.F ht⟩) hS.2.2 hd hlk)
        · cases h1
      · rename_i hr9
        cases h1
        intro H locs ls hR hE hS hl
        exact vx_ret (W.vret hx hb (hrt.trans hr9) (fun t ht hW => ⟨rfl, by rw [ht]; exact hR, hS.F ht⟩) hS.2.2 hd hlk)
      · cases h1
    · obtain ⟨hx, hb, hml, hrt, hlk, hown, hini, hts, had, hZ, hX2, ⟨hK, hX, hstr, hstO, hAO, hU, hN, hNW⟩, hRf, hRl, htab⟩ := C
      obtain ⟨pc, lv, st, h0, ex, nc, ns⟩ := fr
      simp only [ai_th] at h1
      split at h1
      · rename_i ix hh9
        split at h1
        · rename_i E hE9
          split at h1
          · rename_i hsum
            cases h1
            obtain ⟨is, ic, i9, ix9, rx, d0, d3, d4, d6, d9, hs9, x0, x1, x2, x5, hfit, hk9, hi9, hat, -⟩ := hf.2 E hE9
            obtain ⟨tx, hvk⟩ := hstr M.cn is i9 hs9
            intro H locs ls hR hE hS hl
            have kp : ∀ a : Nat, a < Hb.size → ¬ (fun q : Nat => z0 ≤ q) a → s.heap[a]? = Hb[a]? := fun a _ h2 => hZ.2 a (Nat.not_le.mp h2)
            refine vy_throw (names := ["java/lang/RuntimeException", "java/lang/Exception"]) (A := fun q : Nat => z0 ≤ q) hx hb htr x0 x1 x2 x5 hown hfit (by decide +kernel) (hts _ hk9) (hts _ hi9) hvk (fun w hw => ?_) (fun w hw => ?_) (hU.kept kp) (hN.kept kp) hS (by rw [hml]; exact hl.1) d0 d3 d4 d6 d9 (fun x hx9 => ?_) ?_ ?_ hoc hos hlk (fun t hvm hsz hq => ?_) hS.2.2 (Nat.le_refl _) (Nat.le_refl _)
            · rcases hat w hw with h | h
              · exact hts w h
              · exact va_Nw.use (ai_NW_on h) (hNW w h)
            · rcases List.mem_cons.mp hw with rfl | hw
              · rfl
              · rcases List.mem_cons.mp hw with rfl | hw
                · rfl
                · rcases hat w hw with h | h
                  · have := (List.mem_filter.mp h).2
                    simp [vx_ot, this]
                  · simp [vx_ot, ai_NW_on h]
            · rw [htab, hh9] at hx9
              cases hx9
            · simp only [List.length_cons, List.length_nil]
              omega
            · rw [ai_sum_map]
              simp only [List.length_cons, List.length_nil]
              omega
            · refine ⟨rfl, ⟨hR.1.kept (fun k x hx9 => hq x.1 ((hR.1 k x hx9).lt)), hR.2.1, Nat.le_trans hR.2.2.1 hsz, fun q9 h9 => ?_⟩, Nat.le_trans hS.1 hsz, fun q9 h9 h8 => ?_⟩
              · rw [hq q9 (Nat.lt_of_lt_of_le h9 hR.2.2.1)]
                exact hR.2.2.2 q9 h9
              · rw [hq q9 (Nat.lt_of_lt_of_le h9 hS.1)]
                exact hS.2.1 q9 h9 h8
          · cases h1
        · cases h1
      · cases h1
    · obtain ⟨hCt, hpf⟩ := hcl _ _ _ _ _ h6
      obtain ⟨pc, lv, st, h0, ex, nc, ns⟩ := fr
      simp only at h1 h4 h6 h7 hd hf hCt hpf
      have hroom : nc + ai_oc o1 ≤ R.cells ∧ ns + ai_os o1 ≤ R.slots := by
        cases o1 with
        | inl x =>
          obtain ⟨v, h', ex', nc', ns'⟩ := x
          have := ai_Rn_pure (fun q As h ex o1 q9 => (hcl q As h ex o1 q9).2) n _ o h7
          simp only [ai_af] at this
          exact ⟨Nat.le_trans this.1 hoc, Nat.le_trans this.2.1 hos⟩
        | inr x =>
          obtain ⟨E, h', nc', ns'⟩ := x
          rcases h7 with ⟨-, h7⟩ | ⟨st9, en9, hp9, ix9, -, -, -, -, h7⟩
          · subst h7
            exact ⟨hoc, hos⟩
          · subst h7
            exact ⟨hoc, hos⟩
      intro H locs ls hR hE hS hl
      have key : (ex = true → H.size = z0 + h0.length) → W p l e R s m args below meth c H locs nc ns (vx_MQ below (ai_Q D ad dA z0 Hb o) (ai_XC D ad dA z0 Hb o) args s (ai_oc o) (ai_os o) (fun q : Nat => z0 ≤ q)) (F0 m pc ls (st.map (ai_v ad))) := by
        intro hsz
        have hr := as_call (l := l) (e := e) (below := below) (locs := locs) (pc := pc) (ls := ls) (lv := lv) C hd hf h1 hq0 h3 h4 h5 hCt hRd hroom hR hsz hl
        cases o1 with
        | inl x =>
          obtain ⟨v, h', ex', nc', ns'⟩ := x
          refine as_ret hr hS (fun H1 locs1 hR1 hS1 => ?_)
          have kk := as_run C hok htr hcl hRd n _ o h7 hoc hos H1 locs1 ls hR1 (fun he => ?_) hS1 hl
          · simp only [List.map_append] at kk
            cases v <;> exact kk
          · simp only [Bool.and_eq_true] at he
            obtain ⟨k1, k2⟩ := hE he.1
            obtain ⟨k3, k4⟩ := hpf he.2
            exact ⟨by omega, k2⟩
        | inr x =>
          obtain ⟨E, h', nc', ns'⟩ := x
          obtain ⟨hx, hb, hml, hrt, hlk, hown, hini, hts, had, hZ, hX2, hSx, hRf, hRl, htab⟩ := C
          refine as_thr hr hS (fun ce q9 H1 locs1 hR1 hS1 g1 g2 g3 => ?_)
          rcases h7 with ⟨hh9, h7⟩ | ⟨st9, en9, hp9, ix9, hh9, hle, hlt, hE9, h7⟩
          · subst h7
            refine vx_out (E := E) (ce := ce) (fun x9 hx9 => ?_) hlk g1 g2 g3 (fun t ht hvm => ⟨rfl, by rw [ht]; exact hR1, hS1.F ht⟩) hS1.2.2 (Nat.le_refl _) (Nat.le_refl _)
            rw [htab, hh9] at hx9
            cases hx9
          · subst h7
            rcases hhand with hz | ⟨hrt9, st8, en8, hp8, ix8, k, hh8, hk, hcode, hix, hE8⟩
            · rw [hh9] at hz
              cases hz
            · rw [hh9] at hh8
              simp only [List.cons.injEq, Prod.mk.injEq, and_true] at hh8
              obtain ⟨rfl, rfl, rfl, rfl⟩ := hh8
              obtain ⟨e1, e2⟩ := hE8 E hE9
              refine vx_catch (E := E) (name := E) (ce := ce) hown [] ⟨st9, en9, hp9, ix9⟩ [] (by rw [htab, hh9]; rfl) (fun z hz => nomatch hz) (by simp [covers]; omega) hix (hts _ e1) (va_Nw.use (ai_NW_on e2) (hSx.2.2.2.2.2.2.2 _ e2)) g1 g2 g3 ?_
              rcases hcode with ⟨c1, c2, c3⟩ | ⟨k4, rfl, c1, c2, c3⟩
              · refine lv_astore hx hb c1 hl hk rfl (fun ls2 hl2 => ?_)
                refine lv_iconst (v := 1) hx hb c2 (by decide) ?_
                exact vx_ret (W.iret hx hb (hrt.trans hrt9) (fun t ht hW => ⟨rfl, by rw [ht]; exact hR1, hS1.F ht⟩) hS1.2.2 c3 hlk)
              · refine lv_astore_n hx hb c1 rfl hl hk rfl (fun ls2 hl2 => ?_)
                refine lv_iconst (v := 1) hx hb c2 (by decide) ?_
                exact vx_ret (W.iret hx hb (hrt.trans hrt9) (fun t ht hW => ⟨rfl, by rw [ht]; exact hR1, hS1.F ht⟩) hS1.2.2 c3 hlk)
      cases ex with
      | false => exact key (fun h => by cases h)
      | true => exact as_exact hR (hE rfl) (fun z => key (fun _ => z))
end AIX
end
section
/-! EVERY METHOD MEETS ITS CONTRACT, AT EVERY DEPTH -/
theorem ai_args_map {ad : Nat → Nat} : ∀ (As : List Value) (i : Nat), lv_args i (As.map (ai_v ad)) = ai_lv ad (lv_args i As)
  | [], i => rfl
  | v :: vs, i => by
    simp only [List.map_cons, lv_args, ai_v_cat]
    rw [ai_args_map vs]
    rfl
theorem ai_sl_len {ad : Nat → Nat} : ∀ (As : List Value), (lg_sl (As.map (ai_v ad))).length = (lg_sl As).length
  | [] => rfl
  | v :: vs => by
    have ih := ai_sl_len (ad := ad) vs
    simp only [lg_sl, List.map_cons, List.flatMap_cons, List.length_append, ai_v_cat] at ih ⊢
    rw [ih]
    split <;> rfl
section AIY
variable {l : Launch} {D : va_G} {ad : Nat → Nat} {dA : Nat → ClassId} {z0 : Nat} {Hb : Heap}
variable {ms : List ai_M} {lk : Nat → ai_L} {on : Nat → String} {X : Nat × (Nat → Int32)} {NS : Nat}
/-- the walk of a method's body, from its entry -/
theorem as_body {p : Program} {e : Env} {R : Room} {s : State} {m : MethodId} {below : List Frame} {meth : Method} {c : Code} {M : ai_M} (had : ∀ k, k < 1000000 → ad k = z0 + k) {As : List Value} {h : ai_H} {ex : Bool} (C : ai_Cx lk on X NS D ad dA z0 Hb R M p s m (As.map (ai_v ad)).toArray meth c) (hok : ai_okM ms lk on M) (htr : l.stackTraces = false) {cl : Nat → List Value → ai_H → Bool → ai_O → Prop} {d : Nat} (hcl : ∀ q As h ex o1, cl q As h ex o1 → ai_Ct l ms lk on X NS D ad dA z0 Hb d q As h ex o1 ∧ ai_pf h ex o1) (hRd : 10 + d + 1 ≤ R.frames ∧ 200 + 50 * (d + 1) ≤ R.locals)
    {n : Nat} {o : ai_O} (hn : ai_Rn ms lk X NS cl M n (0, lv_args 0 As, [], h, ex, 0, 0) o) (hlen : (lg_sl As).length ≤ M.ml) (hoc : ai_oc o ≤ R.cells) (hos : ai_os o ≤ R.slots) (hR : ai_R D ad dA z0 Hb h s.heap) (hsz : ex = true → s.heap.size = z0 + h.length) :
    W p l e R s m (As.map (ai_v ad)).toArray below meth c s.heap [] 0 0 (vx_MQ below (ai_Q D ad dA z0 Hb o) (ai_XC D ad dA z0 Hb o) (As.map (ai_v ad)).toArray s (ai_oc o) (ai_os o) (fun q : Nat => z0 ≤ q)) (entryFrame m (As.map (ai_v ad)).toArray M.ml) := by
  have hl := lv_entry (As.map (ai_v ad)) (n := M.ml) (by rw [ai_sl_len]; exact hlen)
  rw [lg_entry_eq]
  rw [ai_args_map] at hl
  exact as_run (n0 := h.length) C hok htr hcl hRd n _ o hn hoc hos s.heap [] _ hR (fun q => ⟨rfl, hsz q⟩) va_S.rf hl
theorem ai_sound (htr : l.stackTraces = false) (hoks : ∀ (q : Nat) (M : ai_M), ms[q]? = some M → ai_okM ms lk on M) (had : ∀ k, k < 1000000 → ad k = z0 + k) (hX2 : ad 1000000 < z0) :
    ∀ (d q : Nat) (As : List Value) (h : ai_H) (ex : Bool) (o : ai_O), ai_Ev ms lk X NS d q As h ex o → ai_Ct l ms lk on X NS D ad dA z0 Hb d q As h ex o ∧ ai_pf h ex o
  | 0, q, As, h, ex, o, hE => absurd hE (fun h => h)
  | d + 1, q, As, h, ex, o, hE => by
    have ih := ai_sound htr hoks had hX2 d
    obtain ⟨M, n, hM, hlen, hn⟩ := hE
    have hok := hoks q M hM
    have hp := ai_Rn_pure (fun q As h ex o1 q9 => (ih q As h ex o1 q9).2) n _ o hn
    refine ⟨fun M' hM' => ?_, ?_⟩
    · cases Option.some.inj (hM.symm.trans hM')
      have body : ∀ (p : Program) (e : Env) (s : State) (m : MethodId) (args : Array Value) (below : List Frame) (meth : Method) (c : Code) (s₁ : State), BodyLoose p l M.nm (headSpec (ai_cw M :: ai_TB) (ai_rm (d + 1) (ai_oc o) (ai_os o))) M.by' M.ml M.rt e s m args below meth c s₁ → c.maxLocals = M.ml → c.exceptionTable.toList = tableOf M.hh → ai_Pc lk on X NS D ad dA z0 Hb As h ex args s →
          W p l e (headSpec (ai_cw M :: ai_TB) (ai_rm (d + 1) (ai_oc o) (ai_os o))).room s m args below meth c s.heap [] 0 0 (vx_MQ below (ai_Q D ad dA z0 Hb o) (ai_XC D ad dA z0 Hb o) args s (ai_oc o) (ai_os o) (fun q : Nat => z0 ≤ q)) (entryFrame m args M.ml) := by
        intro p e s m args below meth c s₁ B hml htab hPc
        obtain ⟨rfl, hR, hsz, hSx⟩ := hPc
        have hts := atoms_spec (ws := ai_cw M :: ai_TB) B.pre
        refine as_body had ⟨B.exec, B.bytes, hml, B.returns, B.notSynchronized, ?_, fun q => ?_, fun w hw => hts w (List.mem_cons_of_mem _ hw), had, ⟨hR.2.2.1, hR.2.2.2⟩, hX2, hSx, ?_, ?_, htab⟩ hok htr ih ⟨?_, ?_⟩ hn hlen (Nat.le_refl _) (Nat.le_refl _) hR hsz
        · rw [hok.2.1]
          exact findClass_of_methodNamed B.named
        · rw [← q]
          exact (name_of_methodNamed B.named B.method).1
        · show 10 ≤ 10 + (d + 1)
          omega
        · show 200 ≤ 200 + 50 * (d + 1)
          omega
        · show 10 + d + 1 ≤ 10 + (d + 1)
          omega
        · show 200 + 50 * (d + 1) ≤ 200 + 50 * (d + 1)
          omega
      by_cases hh : M.hh = []
      · refine vx_ofW (cc := M.by') (maxL := M.ml) (ret := M.rt) (ws' := ai_TB) hok.1 (by rw [ai_cw_nil hh]) (fun p e s m args below meth c s₁ B hml ht hPc => body p e s m args below meth c s₁ B hml ?_ hPc)
        rw [hh]
        exact List.eq_nil_iff_forall_not_mem.mpr ht
      · refine vx_ofWH (cc := M.by') (maxL := M.ml) (ret := M.rt) (hh := M.hh) (ws' := ai_TB) hok.1 (by rw [ai_cw_cons hh]) (fun p e s m args below meth c s₁ B hml hPc => body p e s m args below meth c s₁ B hml ?_ hPc)
        have hts := atoms_spec (ws := ai_cw M :: ai_TB) B.pre
        have h1 := hts _ List.mem_cons_self
        rw [ai_cw_cons hh] at h1
        exact vx_table (x := M.nm) B h1
    · have h3 := hp.2.2
      cases o with
      | inr x => trivial
      | inl x =>
        obtain ⟨v, h', ex', nc', ns'⟩ := x
        intro he
        obtain ⟨k1, k2⟩ := h3 he
        exact ⟨k1, k2⟩
end AIY
end
section
/-! A CHECK THAT A PROGRAM DECIDES: a method's rows are those of its bytes -/
def ak_rx (E : String) : Nat × ByteArray := if E = "java/util/NoSuchElementException" then (13, ⟨#[0x2a, 0x2b, 0xb7, 0x00, 0x0d, 0xb1]⟩) else (7, ⟨#[0x2a, 0x2b, 0xb7, 0x00, 0x07, 0xb1]⟩)
def ak_dc (cc : ByteArray) (pc : Nat) (i : Instr) : Bool := match i with
  | .tableswitch d lo hi offs => match decode cc pc with
    | .ok (j, _) => decide (j = .tableswitch d lo hi offs)
    | _ => false
  | j => decide (decode cc pc = .ok (j, ai_ln j))
theorem ak_dc_ok {cc : ByteArray} {pc : Nat} {i : Instr} (h : ak_dc cc pc i = true) : ai_dc cc pc i := by
  unfold ak_dc at h
  split at h
  · split at h
    · rename_i j n hj
      have := of_decide_eq_true h
      subst this
      exact ⟨n, hj⟩
    · cases h
  · rename_i j hj
    have h2 := of_decide_eq_true h
    cases i <;> first | exact h2 | exact absurd rfl (hj _ _ _ _)
def ak_z {α : Type} (f : α → Nat → Bool) : List α → List Nat → Bool
  | [], _ => true
  | x :: r, p :: q => f x p && ak_z f r q
  | _ :: _, [] => false
theorem ak_z_ok {α : Type} {f : α → Nat → Bool} : ∀ {l : List α} {ps : List Nat}, ak_z f l ps = true → ∀ x ∈ l, ∃ p, f x p = true
  | [], _, _, x, hx => nomatch hx
  | y :: r, p :: q, h, x, hx => by
    simp only [ak_z, Bool.and_eq_true] at h
    rcases List.mem_cons.mp hx with rfl | hx
    · exact ⟨p, h.1⟩
    · exact ak_z_ok h.2 x hx
  | _ :: _, [], h, _, _ => by cases h
/-- a method by itself: as what it may be called (1 virtual, 2 a constructor, 3 static) -/
def ak_cM (kd : Nat) (ps : Nat × Nat × Nat × Nat) (M : ai_M) : Bool := ai_gp ps.1 (.initialized M.nm.cls) && ai_gp ps.2.1 (ai_cw M) && decide (M.nm.cls ≠ "java/lang/invoke/MethodHandle") && decide (M.nm.cls ≠ "java/lang/invoke/VarHandle") && decide (M.ml ≤ 31) && (match kd with
  | 1 => decide (M.nm.name ≠ "<init>") && ai_gp ps.2.2.1 (.instanceMethod M.nm) && ai_gp ps.2.2.2 (.selects M.nm.cls M.nm M.nm) && decide (M.hh = []) && (match vwCl[M.cn]? with
    | some q9 => decide (q9.1 = M.nm.cls)
    | none => false)
  | 2 => ai_gp ps.2.2.1 (.instanceMethod M.nm) && decide (M.nm.name = "<init>") && decide (M.hh = []) && decide (M.rt = none)
  | 3 => decide (M.nm.name ≠ "<init>") && ai_gp ps.2.2.1 (.static M.nm)
  | _ => true)
def ak_fr (own : String) (x : Nat × Nat × Nat × Nat) (p : Nat) : Bool := match vwCl[x.2.1]? with
  | some (_, T, N) => decide (x.2.2.1 < N) && ai_gp p (.fieldLink own x.1 (T x.2.2.1).1 (T x.2.2.1).2.1 (T x.2.2.1).2.2.1) && ai_fk x.2.2.2 (ai_fty x.2.1 x.2.2.1)
  | none => false
theorem ak_fr_ok {own : String} {ix ci k kd p : Nat} (h : ak_fr own (ix, ci, k, kd) p = true) : ai_fr own ix ci k ∧ ai_fk kd (ai_fty ci k) = true := by
  unfold ak_fr at h
  split at h
  · rename_i C T N hc
    simp only [Bool.and_eq_true, decide_eq_true_eq] at h
    exact ⟨⟨C, T, N, hc, h.1.1, ai_gp_in h.1.2⟩, h.2⟩
  · cases h
def ak_lm (ms : List ai_M) (own : String) (x : Nat × Nat × Nat) (p : Nat) : Bool := if x.2.1 = 0 then (if x.2.2 = 0 then ai_gp p (.methodLink own x.1 Lib.objectInit) else ai_gp p (.methodLink own x.1 (ai_nm x.2.2))) else match ms[x.2.1]? with
  | some M1 => (ai_gp p (.methodLink own x.1 M1.nm) || (decide (M1.nm.name = "<init>") && decide (Cond.methodLinkNest own x.1 M1.nm "FireWards" ∈ ai_NW))) && decide ((parseMethodDescriptor M1.nm.desc).map (fun d => d.parameters.length) = some x.2.2)
  | none => true
/-- the links of a class -/
def ak_K (ms : List ai_M) (own : String) (K : ai_L) (pf pk pm px : List Nat) : Bool := ak_z (ak_fr own) K.1 pf && ak_z (fun x p => match vwCl[x.2]? with
    | some q => ai_gp p (.classLink own x.1 q.1)
    | none => false) K.2.1 pk && ak_z (ak_lm ms own) K.2.2.2.1 pm && ak_z (fun x p => ai_gp p (.classLink own x.1 x.2)) K.2.2.2.2 px
/-- the words of a throw -/
def ak_ta (on : Nat → String) (x : Nat × Nat × String) (ps : List Nat) : Bool := ak_z (fun w p => ai_gp p w || decide (w ∈ ai_NW)) (vy_at (on x.1) x.2.1 x.2.2 (ak_rx x.2.2).1 (ak_rx x.2.2).2 ["java/lang/RuntimeException", "java/lang/Exception"]) ps && decide (decode (ak_rx x.2.2).2 0 = .ok (.aload_n 0, 1)) && decide (decode (ak_rx x.2.2).2 1 = .ok (.aload_n 1, 1)) && decide (decode (ak_rx x.2.2).2 2 = .ok (.invokespecial (ak_rx x.2.2).1, 3)) && decide (decode (ak_rx x.2.2).2 5 = .ok (.return_, 1)) && Bundle.fit x.2.2 && ai_gp (ps.getLastD 0) (.initialized x.2.2) && decide (Cond.castable x.2.2 x.2.2 ∈ ai_NW)
def ak_tf (ta : List (Nat × Nat × String)) (K : ai_L) (M : ai_M) (pc ik : Nat) (E : String) : Bool := match ai_as M.co (pc + 4) with
  | some (.ldc is, _) => match ai_as M.co (pc + 6) with
    | some (.invokespecial ic, _) => match ai_as K.2.2.1 is with
      | some _ => decide ((M.cn, ic, E) ∈ ta) && decide (decode M.by' pc = .ok (.new ik, 3)) && decide (decode M.by' (pc + 3) = .ok (.dup, 1)) && decide (decode M.by' (pc + 4) = .ok (.ldc is, 2)) && decide (decode M.by' (pc + 6) = .ok (.invokespecial ic, 3)) && decide (decode M.by' (pc + 9) = .ok (.athrow, 1))
      | none => false
    | _ => false
  | _ => false
theorem ak_tf_ok {ta : List (Nat × Nat × String)} {lk : Nat → ai_L} {on : Nat → String} {M : ai_M} {pc ik : Nat} {E : String} (hta : ∀ x ∈ ta, ∃ ps, ak_ta on x ps = true) (hcl : Cond.classLink (on M.cn) ik E ∈ ai_TB) (h : ak_tf ta (lk M.cn) M pc ik E = true) : ai_tf (lk M.cn) (on M.cn) M.by' pc ik E := by
  unfold ak_tf at h
  split at h
  · rename_i is _ h1
    split at h
    · rename_i ic _ h2
      split at h
      · rename_i i hi
        simp only [Bool.and_eq_true, decide_eq_true_eq] at h
        obtain ⟨⟨⟨⟨⟨g0, g1⟩, g2⟩, g3⟩, g4⟩, g5⟩ := h
        obtain ⟨ps, hx⟩ := hta _ g0
        simp only [ak_ta, Bool.and_eq_true, decide_eq_true_eq] at hx
        obtain ⟨⟨⟨⟨⟨⟨⟨g13, g6⟩, g7⟩, g8⟩, g9⟩, g10⟩, g12⟩, g14⟩ := hx
        refine ⟨is, ic, i, (ak_rx E).1, (ak_rx E).2, g1, g2, g3, g4, g5, hi, g6, g7, g8, g9, g10, hcl, ai_gp_in g12, fun w hw => ?_, g14⟩
        obtain ⟨p9, this⟩ := ak_z_ok g13 w hw
        simp only [Bool.or_eq_true, decide_eq_true_eq] at this
        exact this.imp ai_gp_in id
      · cases h
    · cases h
  · cases h
def ak_br (pc : Nat) (off : Int) (tg : List Nat) : Bool := match tg with
  | [t] => decide ((pc : Int) + off = (t : Int))
  | _ => true
theorem ak_br_ok {pc : Nat} {off : Int} {tg : List Nat} (h : ak_br pc off tg = true) : ∀ t : Nat, tg = [t] → (pc : Int) + off = (t : Int) := by
  intro t ht
  subst ht
  exact of_decide_eq_true h
def ak_ars (ps : Nat × Nat × Nat × Nat) : Bool := ai_gp ps.1 (.arrayClass .int) && ai_gp ps.2.1 (.arrayClass .boolean) && ai_gp ps.2.2.1 (.arrayClass .byte) && ai_gp ps.2.2.2 (.arrayClass .long)
theorem ak_arrs {ps : Nat × Nat × Nat × Nat} (h : ak_ars ps = true) : ∀ t : ArrayType, (t = .int ∨ t = .boolean ∨ t = .byte ∨ t = .long) → Cond.arrayClass (newarray.typeOf t) ∈ ai_TB := by
  simp only [ak_ars, Bool.and_eq_true] at h
  intro t ht
  rcases ht with rfl | rfl | rfl | rfl
  · exact ai_gp_in h.1.1.1
  · exact ai_gp_in h.1.1.2
  · exact ai_gp_in h.1.2
  · exact ai_gp_in h.2
def ak_lf (ta : List (Nat × Nat × String)) (kd : List Nat) (lk : Nat → ai_L) (on : Nat → String) (M : ai_M) (pc : Nat) (i : Instr) (tg : List Nat) : Bool := match i with
  | .ifCond _ off => ak_br pc off tg
  | .if_icmp _ off => ak_br pc off tg
  | .goto off => ak_br pc off tg
  | .tableswitch dflt _ _ offs => (match (tg[0]? : Option Nat) with
    | some t => decide ((pc : Int) + dflt = (t : Int))
    | none => true) && (List.range tg.length).all (fun j => match (tg[j + 1]? : Option Nat) with
      | some t => (match offs[j]? with
        | some off => decide ((pc : Int) + off = (t : Int))
        | none => false)
      | none => true)
  | .putfield ix => match ai_as (lk M.cn).1 ix with
    | some (ci, k, _) => (match vwCl[ci]? with
      | some (_, T, _) => decide ((T k).2.2.2 = false) || (decide (M.nm.name = "<init>") && decide ((T k).1 = on M.cn) && decide ((T k).2.2.2 = true))
      | none => false)
    | none => true
  | .new ix => match ai_as (lk M.cn).2.2.2.2 ix with
    | some E => ak_tf ta (lk M.cn) M pc ix E
    | none => true
  | .newarray t => decide (t = .int ∨ t = .boolean ∨ t = .byte ∨ t = .long)
  | .anewarray ix => decide (ai_as (lk M.cn).2.2.2.2 ix = some "java/lang/String")
  | .invokespecial ix => match ai_as (lk M.cn).2.2.2.1 ix with
    | some (q, n) => if q = 0 then decide (n = 0) else decide (kd[q]? = some 2)
    | none => true
  | .invokevirtual ix => match ai_as (lk M.cn).2.2.2.1 ix with
    | some (q, _) => decide (q = 0) || decide (kd[q]? = some 1)
    | none => true
  | .invokestatic ix => match ai_as (lk M.cn).2.2.2.1 ix with
    | some (q, n) => if q = 0 then decide (n ≠ 0) else decide (kd[q]? = some 3)
    | none => true
  | _ => true
theorem ak_cf_ok {ms : List ai_M} {kd : List Nat} {own : String} {K : ai_L} {pf pk pm px : List Nat} {ix q n k9 : Nat} {M1 : ai_M} (hK : ak_K ms own K pf pk pm px = true) (hC : ∀ (q : Nat) (M1 : ai_M), ms[q]? = some M1 → ∃ ps, ak_cM (kd.getD q 0) ps M1 = true) (hq : ai_as K.2.2.2.1 ix = some (q, n)) (hq0 : q ≠ 0) (hM1 : ms[q]? = some M1) (hk : kd[q]? = some k9) : ai_cg own ix n M1 ∧ (M1.nm.name ≠ "<init>" → ai_cf own ix n M1) ∧ ∃ ps, ak_cM k9 ps M1 = true := by
  simp only [ak_K, Bool.and_eq_true] at hK
  obtain ⟨p, h1⟩ := ak_z_ok hK.1.2 _ (ai_as_mem hq)
  simp only [ak_lm, if_neg hq0, hM1, Bool.and_eq_true, decide_eq_true_eq] at h1
  obtain ⟨ps, h2⟩ := hC q M1 hM1
  rw [show kd.getD q 0 = k9 by simp [hk]] at h2
  have h3 := h2
  simp only [ak_cM, Bool.and_eq_true, decide_eq_true_eq] at h3
  obtain ⟨⟨⟨⟨⟨g1, g2⟩, g3⟩, g4⟩, g5⟩, -⟩ := h3
  refine ⟨⟨?_, ai_gp_in g1, ai_gp_in g2, g3, g4, h1.2, g5⟩, fun hne => ⟨?_, ai_gp_in g1, ai_gp_in g2, g3, g4, h1.2, g5⟩, ps, h2⟩
  · have h4 := h1.1
    simp only [Bool.or_eq_true, Bool.and_eq_true, decide_eq_true_eq] at h4
    exact h4.imp ai_gp_in (fun h => ⟨_, h.2⟩)
  · have h4 := h1.1
    simp only [Bool.or_eq_true, Bool.and_eq_true, decide_eq_true_eq] at h4
    rcases h4 with h4 | h4
    · exact ai_gp_in h4
    · exact absurd h4.1 hne
theorem ak_lf_ok {ms : List ai_M} {ta : List (Nat × Nat × String)} {kd : List Nat} {lk : Nat → ai_L} {on : Nat → String} {M : ai_M} {pc : Nat} {i : Instr} {tg : List Nat} (hta : ∀ x ∈ ta, ∃ ps, ak_ta on x ps = true) (har : ∀ t : ArrayType, (t = .int ∨ t = .boolean ∨ t = .byte ∨ t = .long) → Cond.arrayClass (newarray.typeOf t) ∈ ai_TB) {pf pk pm px : List Nat} (hK : ak_K ms (on M.cn) (lk M.cn) pf pk pm px = true) (hC : ∀ (q : Nat) (M1 : ai_M), ms[q]? = some M1 → ∃ ps, ak_cM (kd.getD q 0) ps M1 = true) (h : ak_lf ta kd lk on M pc i tg = true) : ai_lf ms lk on M pc i tg := by
  have hK0 := hK
  simp only [ak_K, Bool.and_eq_true] at hK0
  cases i with
  | ifCond o off => exact ak_br_ok h
  | if_icmp o off => exact ak_br_ok h
  | goto off => exact ak_br_ok h
  | tableswitch dflt lo hi offs =>
    simp only [ak_lf, Bool.and_eq_true] at h
    refine ⟨fun t ht => ?_, fun j t ht => ?_⟩
    · have h1 := h.1
      rw [ht] at h1
      exact of_decide_eq_true h1
    · have hj : j < tg.length := by
        have := (List.getElem?_eq_some_iff.mp ht).1
        omega
      have h2 := List.all_eq_true.mp h.2 j (List.mem_range.mpr hj)
      rw [ht] at h2
      simp only at h2
      split at h2
      · rename_i off ho
        exact ⟨off, ho, of_decide_eq_true h2⟩
      · cases h2
  | getfield ix =>
    intro ci k kd9 hq
    obtain ⟨p, h1⟩ := ak_z_ok hK0.1.1.1 _ (ai_as_mem hq)
    exact (ak_fr_ok h1).1
  | putfield ix =>
    intro ci k kd9 hq
    obtain ⟨p, h1⟩ := ak_z_ok hK0.1.1.1 _ (ai_as_mem hq)
    obtain ⟨⟨C, T, N, g1, g2, g3⟩, g4⟩ := ak_fr_ok h1
    simp only [ak_lf, hq, g1, Bool.or_eq_true, Bool.and_eq_true, decide_eq_true_eq] at h
    refine ⟨C, T, N, g1, g2, g3, g4, ?_⟩
    rcases h with h | h
    · exact Or.inl h
    · exact Or.inr ⟨by simp [h.1.1], h.1.2, h.2⟩
  | new ix =>
    refine ⟨fun ci hq => ?_, fun E hq => ?_⟩
    · obtain ⟨p, h1⟩ := ak_z_ok hK0.1.1.2 _ (ai_as_mem hq)
      simp only at h1
      split at h1
      · rename_i q9 hq9
        exact ⟨q9, hq9, ai_gp_in h1⟩
      · cases h1
    · simp only [ak_lf, hq] at h
      obtain ⟨p, h1⟩ := ak_z_ok hK0.2 _ (ai_as_mem hq)
      exact ak_tf_ok hta (ai_gp_in h1) h
  | newarray t => exact har t (of_decide_eq_true h)
  | anewarray ix =>
    obtain ⟨p, h1⟩ := ak_z_ok hK0.2 _ (ai_as_mem (of_decide_eq_true h))
    exact ai_gp_in h1
  | invokespecial ix =>
    refine ⟨fun n hq => ?_, fun q n M1 hq hq0 hM1 => ?_⟩
    · simp only [ak_lf, hq] at h
      have hn : n = 0 := of_decide_eq_true h
      obtain ⟨p, h1⟩ := ak_z_ok hK0.1.2 _ (ai_as_mem hq)
      simp only [ak_lm, hn] at h1
      exact ai_gp_in h1
    · simp only [ak_lf, hq, if_neg hq0, decide_eq_true_eq] at h
      obtain ⟨g1, -, ps, g2⟩ := ak_cf_ok hK hC hq hq0 hM1 h
      simp only [ak_cM, Bool.and_eq_true, decide_eq_true_eq] at g2
      obtain ⟨-, ⟨⟨k1, k2⟩, k3⟩, k4⟩ := g2
      exact ⟨g1, ai_gp_in k1, k2, k3, k4⟩
  | invokevirtual ix =>
    intro q n M1 hq hq0 hM1
    simp only [ak_lf, hq, Bool.or_eq_true, decide_eq_true_eq] at h
    rcases h with h | h
    · exact absurd h hq0
    · obtain ⟨-, g1, ps, g2⟩ := ak_cf_ok hK hC hq hq0 hM1 h
      simp only [ak_cM, Bool.and_eq_true, decide_eq_true_eq] at g2
      obtain ⟨-, ⟨⟨⟨k0, k1⟩, k2⟩, k3⟩, k4⟩ := g2
      refine ⟨g1 k0, ai_gp_in k1, ai_gp_in k2, k3, ?_⟩
      split at k4
      · rename_i q9 hq9
        obtain ⟨C9, T9, N9⟩ := q9
        have := of_decide_eq_true k4
        simp only at this
        subst this
        exact ⟨T9, N9, hq9⟩
      · cases k4
  | invokestatic ix =>
    refine ⟨fun n hq => ?_, fun q n M1 hq hq0 hM1 => ?_⟩
    · simp only [ak_lf, hq] at h
      have hn : n ≠ 0 := of_decide_eq_true h
      obtain ⟨p, h1⟩ := ak_z_ok hK0.1.2 _ (ai_as_mem hq)
      simp only [ak_lm, if_neg hn] at h1
      exact ai_gp_in h1
    · simp only [ak_lf, hq, if_neg hq0, decide_eq_true_eq] at h
      obtain ⟨-, g1, ps, g2⟩ := ak_cf_ok hK hC hq hq0 hM1 h
      simp only [ak_cM, Bool.and_eq_true, decide_eq_true_eq] at g2
      exact ⟨g1 g2.2.1, ai_gp_in g2.2.2⟩
  | _ => trivial
def ak_hd (lk : Nat → ai_L) (on : Nat → String) (M : ai_M) : Bool := match M.hh with
  | [] => true
  | [(_, _, hp, ix)] => decide (M.rt = some .int) && decide (ix ≠ 0) && (match ai_as M.co hp with
      | some (.astore k, _) => decide (k < M.ml) && decide (decode M.by' hp = .ok (.astore k, 2)) && decide (decode M.by' (hp + 2) = .ok (.iconst 1, 1)) && decide (decode M.by' (hp + 3) = .ok (.ireturn, 1))
      | some (.astore_n k, _) => decide (k.val < M.ml) && decide (decode M.by' hp = .ok (.astore_n k, 1)) && decide (decode M.by' (hp + 1) = .ok (.iconst 1, 1)) && decide (decode M.by' (hp + 2) = .ok (.ireturn, 1))
      | _ => false) && (match ai_as (lk M.cn).2.2.2.2 ix with
      | some E => decide (Cond.castable E E ∈ ai_NW)
      | none => true)
  | _ => false
def ak_M (ta : List (Nat × Nat × String)) (kd : List Nat) (lk : Nat → ai_L) (on : Nat → String) (M : ai_M) : Bool := plainName M.nm.cls && decide (on M.cn = M.nm.cls) && M.co.all (fun x => ak_dc M.by' x.1 x.2.1 && ak_lf ta kd lk on M x.1 x.2.1 x.2.2) && ak_hd lk on M
theorem ak_M_ok {ms : List ai_M} {ta : List (Nat × Nat × String)} {kd : List Nat} {lk : Nat → ai_L} {on : Nat → String} {M : ai_M} (hta : ∀ x ∈ ta, ∃ ps, ak_ta on x ps = true) (har : ∀ t : ArrayType, (t = .int ∨ t = .boolean ∨ t = .byte ∨ t = .long) → Cond.arrayClass (newarray.typeOf t) ∈ ai_TB) (hC : ∀ (q : Nat) (M1 : ai_M), ms[q]? = some M1 → ∃ ps, ak_cM (kd.getD q 0) ps M1 = true) {pf pk pm px : List Nat} (hK : ak_K ms (on M.cn) (lk M.cn) pf pk pm px = true) (h : ak_M ta kd lk on M = true) : ai_okM ms lk on M := by
  have hK0 := hK
  simp only [ak_K, Bool.and_eq_true] at hK0
  simp only [ak_M, Bool.and_eq_true, decide_eq_true_eq] at h
  obtain ⟨⟨⟨h1, h2⟩, h3⟩, h4⟩ := h
  refine ⟨h1, h2, fun pc i tg hi => ?_, ?_⟩
  · have := List.all_eq_true.mp h3 _ (ai_as_mem hi)
    simp only [Bool.and_eq_true] at this
    exact ⟨ak_dc_ok this.1, ak_lf_ok hta har hK hC this.2⟩
  · unfold ak_hd at h4
    split at h4
    · rename_i hh
      exact Or.inl hh
    · rename_i st en hp ix hh
      simp only [Bool.and_eq_true, decide_eq_true_eq] at h4
      obtain ⟨⟨⟨g1, g2⟩, g3⟩, g4⟩ := h4
      right
      have gE : ∀ E, ai_as (lk M.cn).2.2.2.2 ix = some E → Cond.classLink (on M.cn) ix E ∈ ai_TB ∧ Cond.castable E E ∈ ai_NW := by
        intro E hE
        rw [hE] at g4
        obtain ⟨p, h1⟩ := ak_z_ok hK0.2 _ (ai_as_mem hE)
        exact ⟨ai_gp_in h1, of_decide_eq_true g4⟩
      split at g3
      · rename_i k _ hk
        simp only [Bool.and_eq_true, decide_eq_true_eq] at g3
        exact ⟨g1, st, en, hp, ix, k, hh, g3.1.1.1, Or.inl ⟨g3.1.1.2, g3.1.2, g3.2⟩, g2, gE⟩
      · rename_i k _ hk
        simp only [Bool.and_eq_true, decide_eq_true_eq] at g3
        exact ⟨g1, st, en, hp, ix, k, hh, g3.1.1.1, Or.inr ⟨k, rfl, g3.1.1.2, g3.1.2, g3.2⟩, g2, gE⟩
      · cases g3
    · cases h4
end
section
/-! THE TABLES: names of classes, links, methods -/
def an_on : Nat → String := fun k => match k with
  | 0 => RX0
  | 1 => RX1
  | 2 => RX2
  | 3 => RX3
  | 4 => RX4
  | 5 => RX5
  | 6 => RX6
  | 7 => RX7
  | 8 => RX8
  | 9 => RX9
  | 10 => RX10
  | 11 => RL
  | 12 => RJ7
  | _ => RJ9
def an_lk0 : ai_L := ([(9, 0, 0, 0), (15, 0, 1, 2), (19, 0, 2, 2), (22, 0, 3, 2), (25, 0, 4, 2), (28, 0, 5, 2), (31, 0, 6, 2), (34, 0, 7, 2), (37, 0, 8, 2), (40, 0, 9, 2), (43, 0, 10, 2), (46, 0, 11, 2), (79, 0, 12, 0)], [], [], [(3, 0, 0), (50, 80, 2), (66, 2, 1), (76, 0, 3)], [])
def an_lk1 : ai_L := ([(9, 1, 0, 2), (15, 1, 1, 2), (18, 1, 2, 2), (21, 1, 3, 2), (24, 1, 4, 2), (28, 1, 5, 2), (31, 1, 6, 2), (34, 1, 7, 2), (37, 1, 8, 0)], [], [], [(3, 0, 0)], [])
def an_lk2 : ai_L := ([(9, 2, 0, 2), (15, 2, 2, 2), (19, 0, 0, 0), (25, 2, 3, 0), (26, 2, 4, 2), (30, 2, 5, 2), (33, 2, 6, 2), (36, 2, 7, 2), (39, 2, 8, 2), (42, 2, 9, 2), (45, 2, 10, 2), (48, 2, 12, 0), (51, 2, 1, 0), (54, 0, 4, 2), (86, 2, 11, 0), (101, 0, 3, 2)], [], [], [(3, 0, 0), (80, 80, 2), (92, 2, 1)], [])
def an_lk3 : ai_L := ([(9, 3, 2, 2), (15, 3, 3, 2), (18, 3, 0, 1), (22, 3, 1, 0), (26, 3, 4, 0), (29, 4, 3, 0), (38, 4, 1, 2), (41, 4, 0, 2)], [], [], [(3, 0, 0), (34, 14, 1)], [])
def an_lk4 : ai_L := ([(9, 4, 0, 2), (15, 4, 1, 2), (18, 4, 2, 2), (21, 4, 3, 0)], [], [], [(3, 0, 0), (25, 14, 1), (29, 0, 5)], [])
def an_lk5 : ai_L := ([(9, 5, 0, 2), (20, 5, 3, 2), (28, 5, 4, 0), (32, 7, 0, 2), (35, 5, 5, 0), (38, 5, 1, 0), (41, 5, 2, 0), (48, 7, 1, 2), (83, 7, 2, 0)], [(15, 7)], [], [(3, 0, 0), (17, 20, 1), (24, 21, 1)], [])
def an_lk6 : ai_L := ([(9, 6, 0, 2), (15, 6, 1, 0)], [], [], [(3, 0, 0)], [])
def an_lk7 : ai_L := ([(9, 7, 0, 2), (15, 7, 1, 2), (18, 7, 3, 2), (28, 7, 4, 0), (32, 7, 5, 0), (35, 7, 2, 0)], [], [(68, 3), (74, 4), (76, 5), (78, 6), (80, 7), (82, 8), (84, 9), (86, 10), (88, 11), (90, 12), (92, 13), (94, 14), (96, 15)], [(3, 0, 0), (22, 0, 2), (42, 22, 2)], [])
def an_lk8 : ai_L := ([(9, 8, 0, 2), (15, 0, 0, 0), (21, 8, 1, 2), (25, 8, 2, 2), (32, 0, 3, 2), (45, 8, 3, 0), (52, 0, 4, 2)], [], [], [(3, 0, 0), (35, 2, 1), (39, 80, 2)], [])
def an_lk9 : ai_L := ([(14, 9, 0, 2), (21, 9, 1, 2), (28, 9, 2, 2), (34, 6, 0, 2), (41, 9, 3, 2), (48, 9, 4, 2), (55, 9, 5, 2), (64, 9, 6, 2), (71, 9, 7, 2), (75, 0, 0, 0), (79, 9, 8, 2), (83, 9, 10, 0), (98, 0, 4, 2), (101, 0, 11, 2), (112, 0, 12, 0), (119, 6, 1, 0), (125, 4, 3, 0), (133, 5, 2, 0), (136, 5, 0, 2), (139, 5, 1, 0), (144, 9, 9, 0), (157, 9, 11, 0), (165, 0, 5, 2), (168, 0, 6, 2), (171, 0, 7, 2), (174, 0, 8, 2), (177, 0, 9, 2), (180, 0, 10, 2), (191, 1, 0, 2), (192, 1, 1, 2), (195, 1, 2, 2), (197, 1, 3, 2), (200, 1, 4, 2), (203, 1, 5, 2), (206, 1, 6, 2), (209, 1, 7, 2), (220, 2, 1, 0), (225, 2, 0, 2), (231, 1, 8, 0), (308, 3, 0, 1), (312, 3, 1, 0)], [(7, 0), (18, 1), (25, 6), (32, 5), (45, 4), (52, 3), (59, 8), (68, 2)], [(107, 1), (123, 2), (160, 17), (185, 18), (212, 19), (223, 20), (238, 21), (243, 0), (246, 16)], [(1, 0, 0), (11, 1, 2), (20, 6, 0), (27, 18, 0), (38, 16, 1), (47, 12, 0), (54, 11, 0), (61, 23, 1), (70, 10, 1), (86, 41, 1), (90, 43, 1), (94, 3, 3), (115, 8, 3), (120, 19, 1), (126, 17, 1), (140, 13, 3), (147, 50, 0), (154, 44, 3), (162, 45, 0), (188, 42, 1), (228, 4, 1), (232, 9, 0), (235, 15, 1), (240, 2, 1), (245, 7, 1), (248, 46, 0), (251, 47, 0), (254, 48, 0), (257, 49, 0), (260, 5, 1)], [(105, "java/lang/IllegalArgumentException"), (183, "java/util/NoSuchElementException")])
def an_lk10 : ai_L := ([(25, 10, 0, 2), (31, 10, 9, 0), (35, 10, 11, 2), (39, 10, 12, 2), (41, 10, 13, 2), (43, 10, 14, 2), (45, 10, 15, 2), (48, 10, 16, 2), (51, 10, 17, 2), (54, 10, 18, 2), (58, 10, 19, 2), (60, 10, 20, 2), (62, 10, 21, 2), (65, 10, 22, 2), (68, 10, 23, 2), (71, 10, 24, 2), (74, 10, 25, 2), (77, 10, 26, 2), (80, 10, 27, 2), (83, 10, 28, 2), (86, 10, 29, 2), (89, 10, 30, 2), (92, 10, 31, 2), (95, 10, 32, 2), (98, 10, 33, 2), (101, 10, 44, 2), (104, 10, 45, 2), (107, 10, 46, 2), (110, 10, 47, 2), (113, 10, 48, 2), (116, 10, 49, 2), (119, 10, 50, 2), (122, 10, 51, 2), (125, 10, 53, 2), (128, 10, 54, 2), (131, 10, 55, 2), (134, 10, 2, 0), (137, 10, 3, 0), (140, 10, 1, 0), (143, 10, 6, 0), (160, 10, 5, 0), (163, 10, 8, 0), (166, 10, 36, 0), (169, 10, 35, 0), (175, 10, 39, 0), (178, 10, 38, 0), (181, 10, 37, 0), (190, 10, 40, 0), (200, 10, 41, 0), (203, 10, 42, 0), (206, 10, 7, 0), (209, 10, 34, 0), (254, 10, 4, 0), (263, 10, 43, 0), (314, 10, 10, 0), (357, 10, 52, 0)], [], [(9, 22), (11, 23), (13, 24), (15, 25), (17, 26), (19, 27), (21, 28), (23, 29), (215, 30), (221, 31), (236, 33), (238, 34), (243, 32)], [(1, 0, 0), (152, 54, 1), (156, 53, 0), (172, 61, 1), (212, 62, 0), (251, 63, 0), (260, 67, 1), (273, 66, 0), (295, 55, 1), (298, 69, 3), (323, 0, 3), (329, 72, 0), (338, 73, 0)], [(7, "java/lang/String")])
def an_lk11 : ai_L := ([], [(8, 9), (69, 10)], [], [(7, 25, 3), (15, 26, 2), (19, 27, 1), (25, 28, 3), (29, 30, 2), (33, 32, 1), (36, 33, 2), (40, 34, 2), (43, 35, 1), (46, 36, 2), (49, 37, 2), (52, 38, 1), (55, 39, 1), (58, 40, 1), (61, 81, 2), (66, 24, 2), (71, 51, 2), (72, 82, 5), (75, 56, 3), (76, 52, 0), (80, 83, 4), (83, 57, 2), (84, 84, 3), (87, 58, 1), (88, 85, 5), (90, 59, 3), (91, 29, 5), (95, 60, 5), (96, 86, 4), (99, 64, 2), (100, 31, 0), (103, 65, 0), (104, 87, 3), (106, 68, 1), (107, 88, 4), (109, 70, 2), (110, 89, 4), (112, 71, 2), (113, 90, 3), (115, 74, 1), (116, 91, 4), (118, 75, 2), (119, 92, 4), (121, 76, 2), (122, 93, 3), (124, 77, 1), (125, 94, 3), (127, 78, 1), (128, 95, 3), (130, 79, 1)], [(13, "java/util/NoSuchElementException"), (23, "java/lang/IllegalArgumentException")])
def an_lk12 : ai_L := ([], [], [], [], [])
def an_lk13 : ai_L := ([], [], [], [], [])
def an_lk : Nat → ai_L := fun k => match k with
  | 0 => an_lk0
  | 1 => an_lk1
  | 2 => an_lk2
  | 3 => an_lk3
  | 4 => an_lk4
  | 5 => an_lk5
  | 6 => an_lk6
  | 7 => an_lk7
  | 8 => an_lk8
  | 9 => an_lk9
  | 10 => an_lk10
  | 11 => an_lk11
  | 12 => an_lk12
  | _ => an_lk13
def an_X0_init : ai_M := (0, yX0_init, cX0_init, 6, none, [], [(0, .aload_n 0, []), (1, .invokespecial 3, []), (4, .aload_n 0, []), (5, .iload_n 1, []), (6, .iload_n 2, []), (7, .imul, []), (8, .putfield 9, []), (11, .aload_n 0, []), (12, .aload_n 0, []), (13, .getfield 9, []), (16, .newarray .int, []), (18, .putfield 15, []), (21, .aload_n 0, []), (22, .aload_n 0, []), (23, .getfield 9, []), (26, .newarray .int, []), (28, .putfield 19, []), (31, .aload_n 0, []), (32, .iconst 4, []), (33, .aload_n 0, []), (34, .getfield 9, []), (37, .imul, []), (38, .newarray .int, []), (40, .putfield 22, []), (43, .aload_n 0, []), (44, .aload_n 0, []), (45, .getfield 9, []), (48, .newarray .int, []), (50, .putfield 25, []), (53, .aload_n 0, []), (54, .aload_n 0, []), (55, .getfield 9, []), (58, .newarray .int, []), (60, .putfield 28, []), (63, .aload_n 0, []), (64, .aload_n 0, []), (65, .getfield 9, []), (68, .newarray .int, []), (70, .putfield 31, []), (73, .aload_n 0, []), (74, .aload_n 0, []), (75, .getfield 9, []), (78, .newarray .int, []), (80, .putfield 34, []), (83, .aload_n 0, []), (84, .aload_n 0, []), (85, .getfield 9, []), (88, .newarray .int, []), (90, .putfield 37, []), (93, .aload_n 0, []), (94, .aload_n 0, []), (95, .getfield 9, []), (98, .newarray .int, []), (100, .putfield 40, []), (103, .aload_n 0, []), (104, .aload_n 0, []), (105, .getfield 9, []), (108, .newarray .int, []), (110, .putfield 43, []), (113, .aload_n 0, []), (114, .aload_n 0, []), (115, .getfield 9, []), (118, .newarray .boolean, []), (120, .putfield 46, []), (123, .aload_n 0, []), (124, .getfield 25, []), (127, .iconst (-1), []), (128, .invokestatic 50, []), (131, .aload_n 0, []), (132, .getfield 43, []), (135, .iconst (-1), []), (136, .invokestatic 50, []), (139, .iconst 0, []), (140, .istore_n 3, []), (141, .iload_n 3, []), (142, .iload_n 2, []), (143, .if_icmp .ge 147, [290]), (146, .iconst 0, []), (147, .istore 4, []), (149, .iload 4, []), (151, .iload_n 1, []), (152, .if_icmp .ge 132, [284]), (155, .iload_n 3, []), (156, .iload_n 1, []), (157, .imul, []), (158, .iload 4, []), (160, .iadd, []), (161, .istore 5, []), (163, .aload_n 0, []), (164, .getfield 15, []), (167, .iload 5, []), (169, .iload 4, []), (171, .iastore, []), (172, .aload_n 0, []), (173, .getfield 19, []), (176, .iload 5, []), (178, .iload_n 3, []), (179, .iastore, []), (180, .aload_n 0, []), (181, .getfield 22, []), (184, .iconst 4, []), (185, .iload 5, []), (187, .imul, []), (188, .iload_n 3, []), (189, .ifCond .le 10, [199]), (192, .iload 5, []), (194, .iload_n 1, []), (195, .isub, []), (196, .goto 4, [200]), (199, .iconst (-1), []), (200, .iastore, []), (201, .aload_n 0, []), (202, .getfield 22, []), (205, .iconst 4, []), (206, .iload 5, []), (208, .imul, []), (209, .iconst 1, []), (210, .iadd, []), (211, .iload 4, []), (213, .ifCond .le 10, [223]), (216, .iload 5, []), (218, .iconst 1, []), (219, .isub, []), (220, .goto 4, [224]), (223, .iconst (-1), []), (224, .iastore, []), (225, .aload_n 0, []), (226, .getfield 22, []), (229, .iconst 4, []), (230, .iload 5, []), (232, .imul, []), (233, .iconst 2, []), (234, .iadd, []), (235, .iload 4, []), (237, .iconst 1, []), (238, .iadd, []), (239, .iload_n 1, []), (240, .if_icmp .ge 10, [250]), (243, .iload 5, []), (245, .iconst 1, []), (246, .iadd, []), (247, .goto 4, [251]), (250, .iconst (-1), []), (251, .iastore, []), (252, .aload_n 0, []), (253, .getfield 22, []), (256, .iconst 4, []), (257, .iload 5, []), (259, .imul, []), (260, .iconst 3, []), (261, .iadd, []), (262, .iload_n 3, []), (263, .iconst 1, []), (264, .iadd, []), (265, .iload_n 2, []), (266, .if_icmp .ge 10, [276]), (269, .iload 5, []), (271, .iload_n 1, []), (272, .iadd, []), (273, .goto 4, [277]), (276, .iconst (-1), []), (277, .iastore, []), (278, .iinc 4 1, []), (281, .goto (-132), [149]), (284, .iinc 3 1, []), (287, .goto (-146), [141]), (290, .return_, [])])
def an_X0_has : ai_M := (0, yX0_has, cX0_has, 2, (some .boolean), [], [(0, .iload_n 1, []), (1, .ifCond .lt 15, [16]), (4, .iload_n 1, []), (5, .aload_n 0, []), (6, .getfield 9, []), (9, .if_icmp .ge 7, [16]), (12, .iconst 1, []), (13, .goto 4, [17]), (16, .iconst 0, []), (17, .ireturn, [])])
def an_X0_build : ai_M := (0, yX0_build, cX0_build, 4, (some .boolean), [], [(0, .aload_n 0, []), (1, .getfield 46, []), (4, .iload_n 1, []), (5, .baload, []), (6, .ifCond .ne 22, [28]), (9, .aload_n 0, []), (10, .getfield 25, []), (13, .iload_n 1, []), (14, .iaload, []), (15, .ifCond .eq 13, [28]), (18, .aload_n 0, []), (19, .getfield 25, []), (22, .iload_n 1, []), (23, .iaload, []), (24, .iconst 1, []), (25, .if_icmp .ne 5, [30]), (28, .iconst 0, []), (29, .ireturn, []), (30, .aload_n 0, []), (31, .getfield 25, []), (34, .iload_n 1, []), (35, .iconst 0, []), (36, .iastore, []), (37, .aload_n 0, []), (38, .getfield 28, []), (41, .iload_n 1, []), (42, .iload_n 2, []), (43, .iastore, []), (44, .aload_n 0, []), (45, .getfield 31, []), (48, .iload_n 1, []), (49, .iload_n 3, []), (50, .iastore, []), (51, .aload_n 0, []), (52, .getfield 34, []), (55, .iload_n 1, []), (56, .iload_n 2, []), (57, .iastore, []), (58, .aload_n 0, []), (59, .getfield 37, []), (62, .iload_n 1, []), (63, .iconst 0, []), (64, .iastore, []), (65, .aload_n 0, []), (66, .getfield 40, []), (69, .iload_n 1, []), (70, .iconst 0, []), (71, .iastore, []), (72, .iconst 1, []), (73, .ireturn, [])])
def an_X0_tally : ai_M := (0, yX0_tally, cX0_tally, 4, (some .int), [], [(0, .iconst 0, []), (1, .istore_n 2, []), (2, .iconst 0, []), (3, .istore_n 3, []), (4, .iload_n 3, []), (5, .aload_n 0, []), (6, .getfield 9, []), (9, .if_icmp .ge 22, [31]), (12, .aload_n 0, []), (13, .getfield 25, []), (16, .iload_n 3, []), (17, .iaload, []), (18, .iload_n 1, []), (19, .if_icmp .ne 6, [25]), (22, .iinc 2 1, []), (25, .iinc 3 1, []), (28, .goto (-24), [4]), (31, .iload_n 2, []), (32, .ireturn, [])])
def an_X0_warmUp : ai_M := (0, yX0_warmUp, cX0_warmUp, 4, (some .int), [], [(0, .iconst 0, []), (1, .istore_n 2, []), (2, .iload_n 2, []), (3, .aload_n 0, []), (4, .getfield 9, []), (7, .if_icmp .ge 42, [49]), (10, .aload_n 0, []), (11, .getfield 25, []), (14, .iload_n 2, []), (15, .iaload, []), (16, .ifCond .ne 27, [43]), (19, .aload_n 0, []), (20, .getfield 37, []), (23, .iload_n 2, []), (24, .iconst 0, []), (25, .aload_n 0, []), (26, .getfield 37, []), (29, .iload_n 2, []), (30, .iaload, []), (31, .aload_n 0, []), (32, .iload_n 2, []), (33, .invokevirtual 73, []), (36, .iadd, []), (37, .iconst 1, []), (38, .isub, []), (39, .invokestatic 76, []), (42, .iastore, []), (43, .iinc 2 1, []), (46, .goto (-44), [2]), (49, .iconst 0, []), (50, .istore_n 2, []), (51, .iconst 0, []), (52, .istore_n 3, []), (53, .iload_n 3, []), (54, .aload_n 0, []), (55, .getfield 9, []), (58, .if_icmp .ge 48, [106]), (61, .iload_n 2, []), (62, .aload_n 1, []), (63, .arraylength, []), (64, .if_icmp .ge 42, [106]), (67, .aload_n 0, []), (68, .getfield 25, []), (71, .iload_n 3, []), (72, .iaload, []), (73, .ifCond .ne 27, [100]), (76, .aload_n 0, []), (77, .getfield 37, []), (80, .iload_n 3, []), (81, .iaload, []), (82, .iconst 5, []), (83, .if_icmp .lt 17, [100]), (86, .aload_n 0, []), (87, .getfield 25, []), (90, .iload_n 3, []), (91, .iconst 1, []), (92, .iastore, []), (93, .aload_n 1, []), (94, .iload_n 2, []), (95, .iload_n 3, []), (96, .iastore, []), (97, .iinc 2 1, []), (100, .iinc 3 1, []), (103, .goto (-50), [53]), (106, .iload_n 2, []), (107, .ireturn, [])])
def an_X1_init : ai_M := (1, yX1_init, cX1_init, 1, none, [], [(0, .aload_n 0, []), (1, .invokespecial 3, []), (4, .aload_n 0, []), (5, .bipush 8, []), (7, .newarray .int, []), (9, .putfield 9, []), (12, .aload_n 0, []), (13, .bipush 8, []), (15, .newarray .int, []), (17, .putfield 15, []), (20, .aload_n 0, []), (21, .bipush 8, []), (23, .newarray .int, []), (25, .putfield 18, []), (28, .aload_n 0, []), (29, .bipush 8, []), (31, .newarray .int, []), (33, .putfield 21, []), (36, .aload_n 0, []), (37, .bipush 8, []), (39, .newarray .boolean, []), (41, .putfield 24, []), (44, .aload_n 0, []), (45, .bipush 8, []), (47, .newarray .int, []), (49, .putfield 28, []), (52, .aload_n 0, []), (53, .bipush 8, []), (55, .newarray .int, []), (57, .putfield 31, []), (60, .aload_n 0, []), (61, .bipush 8, []), (63, .newarray .int, []), (65, .putfield 34, []), (68, .return_, [])])
def an_X1_has : ai_M := (1, yX1_has, cX1_has, 2, (some .boolean), [], [(0, .iload_n 1, []), (1, .ifCond .lt 15, [16]), (4, .iload_n 1, []), (5, .aload_n 0, []), (6, .getfield 37, []), (9, .if_icmp .ge 7, [16]), (12, .iconst 1, []), (13, .goto 4, [17]), (16, .iconst 0, []), (17, .ireturn, [])])
def an_X1_enlist : ai_M := (1, yX1_enlist, cX1_enlist, 4, (some .int), [], [(0, .aload_n 0, []), (1, .getfield 37, []), (4, .bipush 8, []), (6, .if_icmp .lt 5, [11]), (9, .iconst (-1), []), (10, .ireturn, []), (11, .aload_n 0, []), (12, .getfield 9, []), (15, .aload_n 0, []), (16, .getfield 37, []), (19, .iload_n 1, []), (20, .iastore, []), (21, .aload_n 0, []), (22, .getfield 15, []), (25, .aload_n 0, []), (26, .getfield 37, []), (29, .iload_n 2, []), (30, .iastore, []), (31, .aload_n 0, []), (32, .getfield 18, []), (35, .aload_n 0, []), (36, .getfield 37, []), (39, .iload_n 3, []), (40, .iastore, []), (41, .aload_n 0, []), (42, .getfield 21, []), (45, .aload_n 0, []), (46, .getfield 37, []), (49, .iconst (-1), []), (50, .iastore, []), (51, .aload_n 0, []), (52, .dup, []), (53, .getfield 37, []), (56, .iconst 1, []), (57, .iadd, []), (58, .putfield 37, []), (61, .aload_n 0, []), (62, .getfield 37, []), (65, .iconst 1, []), (66, .isub, []), (67, .ireturn, [])])
def an_X1_allQuarrels : ai_M := (1, yX1_allQuarrels, cX1_allQuarrels, 3, (some .int), [], [(0, .iconst 0, []), (1, .istore_n 1, []), (2, .iconst 0, []), (3, .istore_n 2, []), (4, .iload_n 2, []), (5, .aload_n 0, []), (6, .getfield 37, []), (9, .if_icmp .ge 18, [27]), (12, .iload_n 1, []), (13, .aload_n 0, []), (14, .getfield 31, []), (17, .iload_n 2, []), (18, .iaload, []), (19, .iadd, []), (20, .istore_n 1, []), (21, .iinc 2 1, []), (24, .goto (-20), [4]), (27, .iload_n 1, []), (28, .ireturn, [])])
def an_X2_init : ai_M := (2, yX2_init, cX2_init, 2, none, [], [(0, .aload_n 0, []), (1, .invokespecial 3, []), (4, .aload_n 0, []), (5, .iconst 4, []), (6, .newarray .int, []), (8, .putfield 9, []), (11, .aload_n 0, []), (12, .aload_n 1, []), (13, .putfield 15, []), (16, .aload_n 0, []), (17, .aload_n 1, []), (18, .getfield 19, []), (21, .putfield 25, []), (24, .aload_n 0, []), (25, .aload_n 0, []), (26, .getfield 25, []), (29, .newarray .boolean, []), (31, .putfield 26, []), (34, .aload_n 0, []), (35, .aload_n 0, []), (36, .getfield 25, []), (39, .newarray .boolean, []), (41, .putfield 30, []), (44, .aload_n 0, []), (45, .aload_n 0, []), (46, .getfield 25, []), (49, .newarray .boolean, []), (51, .putfield 33, []), (54, .aload_n 0, []), (55, .aload_n 0, []), (56, .getfield 25, []), (59, .newarray .int, []), (61, .putfield 36, []), (64, .aload_n 0, []), (65, .aload_n 0, []), (66, .getfield 25, []), (69, .newarray .int, []), (71, .putfield 39, []), (74, .aload_n 0, []), (75, .iconst 2, []), (76, .aload_n 0, []), (77, .getfield 25, []), (80, .imul, []), (81, .newarray .int, []), (83, .putfield 42, []), (86, .aload_n 0, []), (87, .iconst 2, []), (88, .aload_n 0, []), (89, .getfield 25, []), (92, .imul, []), (93, .newarray .int, []), (95, .putfield 45, []), (98, .return_, [])])
def an_X3_init : ai_M := (3, yX3_init, cX3_init, 1, none, [], [(0, .aload_n 0, []), (1, .invokespecial 3, []), (4, .aload_n 0, []), (5, .bipush 8, []), (7, .newarray .int, []), (9, .putfield 9, []), (12, .aload_n 0, []), (13, .bipush 20, []), (15, .newarray .int, []), (17, .putfield 15, []), (20, .return_, [])])
def an_X4_init : ai_M := (4, yX4_init, cX4_init, 1, none, [], [(0, .aload_n 0, []), (1, .invokespecial 3, []), (4, .aload_n 0, []), (5, .sipush 2400, []), (8, .newarray .int, []), (10, .putfield 9, []), (13, .aload_n 0, []), (14, .bipush 6, []), (16, .newarray .int, []), (18, .putfield 15, []), (21, .aload_n 0, []), (22, .bipush 6, []), (24, .newarray .int, []), (26, .putfield 18, []), (29, .return_, [])])
def an_X4_enter : ai_M := (4, yX4_enter, cX4_enter, 5, (some .int), [], [(0, .aload_n 0, []), (1, .aload_n 0, []), (2, .getfield 21, []), (5, .invokevirtual 25, []), (8, .istore 4, []), (10, .aload_n 0, []), (11, .getfield 21, []), (14, .bipush 6, []), (16, .if_icmp .ge 21, [37]), (19, .iload_n 2, []), (20, .aload_n 1, []), (21, .arraylength, []), (22, .if_icmp .gt 15, [37]), (25, .iload_n 2, []), (26, .aload_n 0, []), (27, .getfield 9, []), (30, .arraylength, []), (31, .iload 4, []), (33, .isub, []), (34, .if_icmp .le 6, [40]), (37, .bipush (-9), []), (39, .ireturn, []), (40, .aload_n 1, []), (41, .iconst 0, []), (42, .aload_n 0, []), (43, .getfield 9, []), (46, .iload 4, []), (48, .iload_n 2, []), (49, .invokestatic 29, []), (52, .aload_n 0, []), (53, .getfield 15, []), (56, .aload_n 0, []), (57, .getfield 21, []), (60, .iload 4, []), (62, .iload_n 2, []), (63, .iadd, []), (64, .iastore, []), (65, .aload_n 0, []), (66, .getfield 18, []), (69, .aload_n 0, []), (70, .getfield 21, []), (73, .iload_n 3, []), (74, .iastore, []), (75, .aload_n 0, []), (76, .dup, []), (77, .getfield 21, []), (80, .iconst 1, []), (81, .iadd, []), (82, .putfield 21, []), (85, .aload_n 0, []), (86, .getfield 21, []), (89, .iconst 1, []), (90, .isub, []), (91, .ireturn, [])])
def an_X4_begin : ai_M := (4, yX4_begin, cX4_begin, 2, (some .int), [], [(0, .iload_n 1, []), (1, .ifCond .le 23, [24]), (4, .iload_n 1, []), (5, .aload_n 0, []), (6, .getfield 15, []), (9, .arraylength, []), (10, .if_icmp .gt 14, [24]), (13, .aload_n 0, []), (14, .getfield 15, []), (17, .iload_n 1, []), (18, .iconst 1, []), (19, .isub, []), (20, .iaload, []), (21, .goto 4, [25]), (24, .iconst 0, []), (25, .ireturn, [])])
def an_X4_inForce : ai_M := (4, yX4_inForce, cX4_inForce, 4, (some .int), [], [(0, .iconst (-1), []), (1, .istore_n 2, []), (2, .iconst 0, []), (3, .istore_n 3, []), (4, .iload_n 3, []), (5, .aload_n 0, []), (6, .getfield 21, []), (9, .if_icmp .ge 41, [50]), (12, .aload_n 0, []), (13, .getfield 18, []), (16, .iload_n 3, []), (17, .iaload, []), (18, .iload_n 1, []), (19, .if_icmp .gt 25, [44]), (22, .iload_n 2, []), (23, .iconst (-1), []), (24, .if_icmp .eq 18, [42]), (27, .aload_n 0, []), (28, .getfield 18, []), (31, .iload_n 3, []), (32, .iaload, []), (33, .aload_n 0, []), (34, .getfield 18, []), (37, .iload_n 2, []), (38, .iaload, []), (39, .if_icmp .lt 5, [44]), (42, .iload_n 3, []), (43, .istore_n 2, []), (44, .iinc 3 1, []), (47, .goto (-43), [4]), (50, .iload_n 2, []), (51, .ireturn, [])])
def an_X5_init : ai_M := (5, yX5_init, cX5_init, 2, none, [], [(0, .aload_n 0, []), (1, .invokespecial 3, []), (4, .aload_n 0, []), (5, .sipush 400, []), (8, .newarray .int, []), (10, .putfield 9, []), (13, .aload_n 0, []), (14, .new 15, []), (17, .dup, []), (18, .aload_n 1, []), (19, .invokespecial 17, []), (22, .putfield 20, []), (25, .return_, [])])
def an_X5_reads : ai_M := (5, yX5_reads, cX5_reads, 3, (some .boolean), [], [(0, .aload_n 0, []), (1, .getfield 20, []), (4, .iload_n 1, []), (5, .invokevirtual 24, []), (8, .aload_n 0, []), (9, .iconst 0, []), (10, .putfield 28, []), (13, .aload_n 0, []), (14, .aload_n 0, []), (15, .getfield 20, []), (18, .getfield 32, []), (21, .iconst 0, []), (22, .iaload, []), (23, .putfield 35, []), (26, .aload_n 0, []), (27, .iconst 0, []), (28, .putfield 38, []), (31, .aload_n 0, []), (32, .iconst 0, []), (33, .putfield 41, []), (36, .iconst 0, []), (37, .istore_n 2, []), (38, .aload_n 0, []), (39, .getfield 35, []), (42, .iconst (-1), []), (43, .if_icmp .eq 25, [68]), (46, .iload_n 2, []), (47, .bipush 12, []), (49, .if_icmp .gt 19, [68]), (52, .aload_n 0, []), (53, .iload_n 2, []), (54, .invokevirtual 44, []), (57, .ifCond .ne 5, [62]), (60, .iconst 0, []), (61, .ireturn, []), (62, .iinc 2 1, []), (65, .goto (-27), [38]), (68, .iconst 1, []), (69, .ireturn, [])])
def an_X6_init : ai_M := (6, yX6_init, cX6_init, 1, none, [], [(0, .aload_n 0, []), (1, .invokespecial 3, []), (4, .aload_n 0, []), (5, .sipush 400, []), (8, .newarray .byte, []), (10, .putfield 9, []), (13, .return_, [])])
def an_X6_put : ai_M := (6, yX6_put, cX6_put, 3, none, [], [(0, .bipush 24, []), (2, .istore_n 2, []), (3, .iload_n 2, []), (4, .ifCond .lt 44, [48]), (7, .aload_n 0, []), (8, .getfield 15, []), (11, .aload_n 0, []), (12, .getfield 9, []), (15, .arraylength, []), (16, .if_icmp .ge 32, [48]), (19, .aload_n 0, []), (20, .getfield 9, []), (23, .aload_n 0, []), (24, .getfield 15, []), (27, .iload_n 1, []), (28, .iload_n 2, []), (29, .ishr, []), (30, .i2b, []), (31, .bastore, []), (32, .aload_n 0, []), (33, .dup, []), (34, .getfield 15, []), (37, .iconst 1, []), (38, .iadd, []), (39, .putfield 15, []), (42, .iinc 2 (-8), []), (45, .goto (-42), [3]), (48, .return_, [])])
def an_X7_init : ai_M := (7, yX7_init, cX7_init, 2, none, [], [(0, .aload_n 0, []), (1, .invokespecial 3, []), (4, .aload_n 0, []), (5, .sipush 401, []), (8, .newarray .int, []), (10, .putfield 9, []), (13, .aload_n 0, []), (14, .sipush 401, []), (17, .newarray .int, []), (19, .putfield 15, []), (22, .aload_n 0, []), (23, .aload_n 1, []), (24, .putfield 18, []), (27, .return_, [])])
def an_X7_scan : ai_M := (7, yX7_scan, cX7_scan, 4, none, [], [(0, .aload_n 0, []), (1, .iload_n 1, []), (2, .aload_n 0, []), (3, .getfield 18, []), (6, .arraylength, []), (7, .invokestatic 22, []), (10, .putfield 28, []), (13, .aload_n 0, []), (14, .iconst 0, []), (15, .putfield 32, []), (18, .aload_n 0, []), (19, .iconst 0, []), (20, .putfield 35, []), (23, .iconst 0, []), (24, .istore_n 2, []), (25, .iload_n 2, []), (26, .sipush 400, []), (29, .if_icmp .ge 90, [119]), (32, .aload_n 0, []), (33, .getfield 32, []), (36, .aload_n 0, []), (37, .getfield 28, []), (40, .if_icmp .ge 44, [84]), (43, .aload_n 0, []), (44, .getfield 18, []), (47, .aload_n 0, []), (48, .getfield 32, []), (51, .baload, []), (52, .bipush 32, []), (54, .if_icmp .eq 17, [71]), (57, .aload_n 0, []), (58, .getfield 18, []), (61, .aload_n 0, []), (62, .getfield 32, []), (65, .baload, []), (66, .bipush 10, []), (68, .if_icmp .ne 16, [84]), (71, .aload_n 0, []), (72, .dup, []), (73, .getfield 32, []), (76, .iconst 1, []), (77, .iadd, []), (78, .putfield 32, []), (81, .goto (-49), [32]), (84, .aload_n 0, []), (85, .getfield 32, []), (88, .aload_n 0, []), (89, .getfield 28, []), (92, .if_icmp .lt 6, [98]), (95, .goto 24, [119]), (98, .aload_n 0, []), (99, .getfield 32, []), (102, .istore_n 3, []), (103, .aload_n 0, []), (104, .iload_n 3, []), (105, .aload_n 0, []), (106, .iload_n 3, []), (107, .invokevirtual 38, []), (110, .invokevirtual 42, []), (113, .iinc 2 1, []), (116, .goto (-91), [25]), (119, .aload_n 0, []), (120, .aload_n 0, []), (121, .getfield 28, []), (124, .iconst (-1), []), (125, .invokevirtual 42, []), (128, .return_, [])])
def an_X7_add : ai_M := (7, yX7_add, cX7_add, 3, none, [], [(0, .aload_n 0, []), (1, .getfield 35, []), (4, .aload_n 0, []), (5, .getfield 9, []), (8, .arraylength, []), (9, .if_icmp .ge 33, [42]), (12, .aload_n 0, []), (13, .getfield 9, []), (16, .aload_n 0, []), (17, .getfield 35, []), (20, .iload_n 2, []), (21, .iastore, []), (22, .aload_n 0, []), (23, .getfield 15, []), (26, .aload_n 0, []), (27, .getfield 35, []), (30, .iload_n 1, []), (31, .iastore, []), (32, .aload_n 0, []), (33, .dup, []), (34, .getfield 35, []), (37, .iconst 1, []), (38, .iadd, []), (39, .putfield 35, []), (42, .return_, [])])
def an_X8_init : ai_M := (8, yX8_init, cX8_init, 2, none, [], [(0, .aload_n 0, []), (1, .invokespecial 3, []), (4, .aload_n 0, []), (5, .aload_n 1, []), (6, .putfield 9, []), (9, .aload_n 0, []), (10, .aload_n 1, []), (11, .getfield 15, []), (14, .newarray .int, []), (16, .putfield 21, []), (19, .aload_n 0, []), (20, .aload_n 1, []), (21, .getfield 15, []), (24, .newarray .int, []), (26, .putfield 25, []), (29, .return_, [])])
def an_X9_init : ai_M := (9, yX9_init, cX9_init, 3, none, [], [(0, .aload_n 0, []), (1, .invokespecial 1, []), (4, .aload_n 0, []), (5, .new 7, []), (8, .dup, []), (9, .iconst 1, []), (10, .iload_n 1, []), (11, .bipush 7, []), (13, .iand, []), (14, .iadd, []), (15, .iconst 1, []), (16, .iload_n 2, []), (17, .bipush 7, []), (19, .iand, []), (20, .iadd, []), (21, .invokespecial 11, []), (24, .putfield 14, []), (27, .aload_n 0, []), (28, .new 18, []), (31, .dup, []), (32, .invokespecial 20, []), (35, .putfield 21, []), (38, .aload_n 0, []), (39, .new 25, []), (42, .dup, []), (43, .invokespecial 27, []), (46, .putfield 28, []), (49, .aload_n 0, []), (50, .new 32, []), (53, .dup, []), (54, .aload_n 0, []), (55, .getfield 28, []), (58, .getfield 34, []), (61, .invokespecial 38, []), (64, .putfield 41, []), (67, .aload_n 0, []), (68, .new 45, []), (71, .dup, []), (72, .invokespecial 47, []), (75, .putfield 48, []), (78, .aload_n 0, []), (79, .new 52, []), (82, .dup, []), (83, .invokespecial 54, []), (86, .putfield 55, []), (89, .aload_n 0, []), (90, .new 59, []), (93, .dup, []), (94, .aload_n 0, []), (95, .getfield 14, []), (98, .invokespecial 61, []), (101, .putfield 64, []), (104, .aload_n 0, []), (105, .new 68, []), (108, .dup, []), (109, .aload_n 0, []), (110, .getfield 14, []), (113, .invokespecial 70, []), (116, .putfield 71, []), (119, .aload_n 0, []), (120, .aload_n 0, []), (121, .getfield 14, []), (124, .getfield 75, []), (127, .newarray .int, []), (129, .putfield 79, []), (132, .aload_n 0, []), (133, .iconst (-1), []), (134, .putfield 83, []), (137, .return_, [])])
def an_X9_house : ai_M := (9, yX9_house, cX9_house, 4, (some .boolean), [], [(0, .aload_n 0, []), (1, .iload_n 1, []), (2, .invokevirtual 86, []), (5, .iload_n 2, []), (6, .iconst 1, []), (7, .if_icmp .lt 16, [23]), (10, .iload_n 2, []), (11, .bipush 9, []), (13, .if_icmp .gt 10, [23]), (16, .iload_n 3, []), (17, .invokestatic 90, []), (20, .ifCond .ne 5, [25]), (23, .iconst 0, []), (24, .ireturn, []), (25, .aload_n 0, []), (26, .getfield 14, []), (29, .iload_n 1, []), (30, .iload_n 2, []), (31, .iload_n 3, []), (32, .invokevirtual 94, []), (35, .ireturn, [])])
def an_X9_well : ai_M := (9, yX9_well, cX9_well, 3, (some .boolean), [], [(0, .aload_n 0, []), (1, .iload_n 1, []), (2, .invokevirtual 86, []), (5, .aload_n 0, []), (6, .getfield 14, []), (9, .getfield 98, []), (12, .iload_n 1, []), (13, .iaload, []), (14, .iconst (-1), []), (15, .if_icmp .ne 16, [31]), (18, .aload_n 0, []), (19, .getfield 14, []), (22, .getfield 101, []), (25, .iload_n 1, []), (26, .baload, []), (27, .iload_n 2, []), (28, .if_icmp .ne 5, [33]), (31, .iconst 0, []), (32, .ireturn, []), (33, .aload_n 0, []), (34, .getfield 14, []), (37, .getfield 101, []), (40, .iload_n 1, []), (41, .iload_n 2, []), (42, .bastore, []), (43, .iconst 1, []), (44, .ireturn, [])])
def an_X9_wind : ai_M := (9, yX9_wind, cX9_wind, 3, (some .int), [], [(0, .iload_n 1, []), (1, .ifCond .lt 8, [9]), (4, .iload_n 1, []), (5, .iconst 4, []), (6, .if_icmp .le 13, [19]), (9, .new 105, []), (12, .dup, []), (13, .ldc 107, []), (15, .invokespecial 109, []), (18, .athrow, []), (19, .aload_n 0, []), (20, .getfield 14, []), (23, .getfield 112, []), (26, .istore_n 2, []), (27, .aload_n 0, []), (28, .getfield 14, []), (31, .iload_n 1, []), (32, .putfield 112, []), (35, .iload_n 2, []), (36, .ireturn, [])])
def an_X9_company : ai_M := (9, yX9_company, cX9_company, 4, (some .int), [], [(0, .aload_n 0, []), (1, .iload_n 3, []), (2, .invokevirtual 86, []), (5, .iload_n 1, []), (6, .invokestatic 90, []), (9, .ifCond .eq 14, [23]), (12, .iload_n 2, []), (13, .iconst 1, []), (14, .if_icmp .lt 9, [23]), (17, .iload_n 2, []), (18, .bipush 9, []), (20, .if_icmp .le 5, [25]), (23, .iconst (-1), []), (24, .ireturn, []), (25, .aload_n 0, []), (26, .getfield 21, []), (29, .iload_n 1, []), (30, .iload_n 2, []), (31, .iload_n 3, []), (32, .invokevirtual 115, []), (35, .ireturn, [])])
def an_X9_feed : ai_M := (9, yX9_feed, cX9_feed, 6, (some .int), [], [(0, .aload_n 0, []), (1, .getfield 28, []), (4, .getfield 119, []), (7, .bipush 20, []), (9, .iadd, []), (10, .sipush 400, []), (13, .if_icmp .le 5, [18]), (16, .iconst (-1), []), (17, .ireturn, []), (18, .aload_n 0, []), (19, .getfield 28, []), (22, .iload_n 1, []), (23, .invokevirtual 120, []), (26, .aload_n 0, []), (27, .getfield 28, []), (30, .iload_n 2, []), (31, .invokevirtual 120, []), (34, .aload_n 0, []), (35, .getfield 28, []), (38, .iload_n 3, []), (39, .invokevirtual 120, []), (42, .aload_n 0, []), (43, .getfield 28, []), (46, .iload 4, []), (48, .invokevirtual 120, []), (51, .aload_n 0, []), (52, .getfield 28, []), (55, .iload 5, []), (57, .invokevirtual 120, []), (60, .aload_n 0, []), (61, .getfield 28, []), (64, .getfield 119, []), (67, .ireturn, [])])
def an_X9_law : ai_M := (9, yX9_law, cX9_law, 3, (some .int), [], [(0, .iload_n 1, []), (1, .ifCond .lt 24, [25]), (4, .iload_n 1, []), (5, .aload_n 0, []), (6, .getfield 28, []), (9, .getfield 119, []), (12, .if_icmp .gt 13, [25]), (15, .iload_n 2, []), (16, .ifCond .lt 9, [25]), (19, .iload_n 2, []), (20, .bipush 100, []), (22, .if_icmp .le 13, [35]), (25, .new 105, []), (28, .dup, []), (29, .ldc 123, []), (31, .invokespecial 109, []), (34, .athrow, []), (35, .aload_n 0, []), (36, .getfield 28, []), (39, .iconst 0, []), (40, .putfield 119, []), (43, .aload_n 0, []), (44, .iconst (-1), []), (45, .putfield 83, []), (48, .aload_n 0, []), (49, .getfield 48, []), (52, .getfield 125, []), (55, .bipush 6, []), (57, .if_icmp .lt 6, [63]), (60, .bipush (-9), []), (62, .ireturn, []), (63, .aload_n 0, []), (64, .getfield 41, []), (67, .iload_n 1, []), (68, .invokevirtual 126, []), (71, .ifCond .ne 24, [95]), (74, .aload_n 0, []), (75, .aload_n 0, []), (76, .getfield 41, []), (79, .invokevirtual 129, []), (82, .putfield 83, []), (85, .iconst (-1), []), (86, .aload_n 0, []), (87, .getfield 41, []), (90, .getfield 133, []), (93, .isub, []), (94, .ireturn, []), (95, .aload_n 0, []), (96, .getfield 48, []), (99, .aload_n 0, []), (100, .getfield 41, []), (103, .getfield 136, []), (106, .aload_n 0, []), (107, .getfield 41, []), (110, .getfield 139, []), (113, .iload_n 2, []), (114, .invokevirtual 140, []), (117, .ireturn, [])])
def an_X9_fault : ai_M := (9, yX9_fault, cX9_fault, 1, (some .int), [], [(0, .aload_n 0, []), (1, .getfield 83, []), (4, .ireturn, [])])
def an_X9_light : ai_M := (9, yX9_light, cX9_light, 2, (some .int), [], [(0, .aload_n 0, []), (1, .iload_n 1, []), (2, .invokevirtual 86, []), (5, .aload_n 0, []), (6, .getfield 14, []), (9, .getfield 98, []), (12, .iload_n 1, []), (13, .iaload, []), (14, .ifCond .eq 5, [19]), (17, .iconst (-1), []), (18, .ireturn, []), (19, .aload_n 0, []), (20, .getfield 14, []), (23, .getfield 98, []), (26, .iload_n 1, []), (27, .iconst 1, []), (28, .iastore, []), (29, .aload_n 0, []), (30, .getfield 79, []), (33, .iconst 0, []), (34, .iload_n 1, []), (35, .iastore, []), (36, .aload_n 0, []), (37, .iconst 1, []), (38, .putfield 144, []), (41, .aload_n 0, []), (42, .invokevirtual 147, []), (45, .aload_n 0, []), (46, .getfield 21, []), (49, .iload_n 1, []), (50, .invokevirtual 150, []), (53, .ireturn, [])])
def an_X9_send : ai_M := (9, yX9_send, cX9_send, 3, (some .boolean), [], [(0, .aload_n 0, []), (1, .iload_n 1, []), (2, .iload_n 2, []), (3, .iconst 1, []), (4, .invokevirtual 154, []), (7, .ireturn, [])])
def an_X9_pull : ai_M := (9, yX9_pull, cX9_pull, 3, (some .boolean), [], [(0, .aload_n 0, []), (1, .iload_n 1, []), (2, .iload_n 2, []), (3, .iconst 0, []), (4, .invokevirtual 154, []), (7, .ireturn, [])])
def an_X9_hours : ai_M := (9, yX9_hours, cX9_hours, 3, (some .int), [], [(0, .iload_n 1, []), (1, .ifCond .lt 21, [22]), (4, .iload_n 1, []), (5, .bipush 100, []), (7, .if_icmp .gt 15, [22]), (10, .iload_n 1, []), (11, .sipush 2400, []), (14, .aload_n 0, []), (15, .getfield 157, []), (18, .isub, []), (19, .if_icmp .le 13, [32]), (22, .new 105, []), (25, .dup, []), (26, .ldc 160, []), (28, .invokespecial 109, []), (31, .athrow, []), (32, .iconst 0, []), (33, .istore_n 2, []), (34, .iload_n 2, []), (35, .iload_n 1, []), (36, .if_icmp .ge 13, [49]), (39, .aload_n 0, []), (40, .invokevirtual 162, []), (43, .iinc 2 1, []), (46, .goto (-12), [34]), (49, .aload_n 0, []), (50, .getfield 157, []), (53, .ireturn, [])])
def an_X9_cell : ai_M := (9, yX9_cell, cX9_cell, 3, (some .int), [], [(0, .aload_n 0, []), (1, .iload_n 1, []), (2, .invokevirtual 86, []), (5, .iload_n 2, []), (6, .tableswitch 134 0 7 #[46, 56, 66, 76, 86, 96, 106, 116], [140, 52, 62, 72, 82, 92, 102, 112, 122]), (52, .aload_n 0, []), (53, .getfield 14, []), (56, .getfield 98, []), (59, .iload_n 1, []), (60, .iaload, []), (61, .ireturn, []), (62, .aload_n 0, []), (63, .getfield 14, []), (66, .getfield 165, []), (69, .iload_n 1, []), (70, .iaload, []), (71, .ireturn, []), (72, .aload_n 0, []), (73, .getfield 14, []), (76, .getfield 168, []), (79, .iload_n 1, []), (80, .iaload, []), (81, .ireturn, []), (82, .aload_n 0, []), (83, .getfield 14, []), (86, .getfield 171, []), (89, .iload_n 1, []), (90, .iaload, []), (91, .ireturn, []), (92, .aload_n 0, []), (93, .getfield 14, []), (96, .getfield 174, []), (99, .iload_n 1, []), (100, .iaload, []), (101, .ireturn, []), (102, .aload_n 0, []), (103, .getfield 14, []), (106, .getfield 177, []), (109, .iload_n 1, []), (110, .iaload, []), (111, .ireturn, []), (112, .aload_n 0, []), (113, .getfield 14, []), (116, .getfield 180, []), (119, .iload_n 1, []), (120, .iaload, []), (121, .ireturn, []), (122, .aload_n 0, []), (123, .getfield 14, []), (126, .getfield 101, []), (129, .iload_n 1, []), (130, .baload, []), (131, .ifCond .eq 7, [138]), (134, .iconst 1, []), (135, .goto 4, [139]), (138, .iconst 0, []), (139, .ireturn, []), (140, .new 183, []), (143, .dup, []), (144, .ldc 185, []), (146, .invokespecial 187, []), (149, .athrow, [])])
def an_X9_of : ai_M := (9, yX9_of, cX9_of, 3, (some .int), [], [(0, .aload_n 0, []), (1, .iload_n 1, []), (2, .invokevirtual 188, []), (5, .iload_n 2, []), (6, .tableswitch 134 0 7 #[46, 56, 66, 76, 86, 104, 114, 124], [140, 52, 62, 72, 82, 92, 110, 120, 130]), (52, .aload_n 0, []), (53, .getfield 21, []), (56, .getfield 191, []), (59, .iload_n 1, []), (60, .iaload, []), (61, .ireturn, []), (62, .aload_n 0, []), (63, .getfield 21, []), (66, .getfield 192, []), (69, .iload_n 1, []), (70, .iaload, []), (71, .ireturn, []), (72, .aload_n 0, []), (73, .getfield 21, []), (76, .getfield 195, []), (79, .iload_n 1, []), (80, .iaload, []), (81, .ireturn, []), (82, .aload_n 0, []), (83, .getfield 21, []), (86, .getfield 197, []), (89, .iload_n 1, []), (90, .iaload, []), (91, .ireturn, []), (92, .aload_n 0, []), (93, .getfield 21, []), (96, .getfield 200, []), (99, .iload_n 1, []), (100, .baload, []), (101, .ifCond .eq 7, [108]), (104, .iconst 1, []), (105, .goto 4, [109]), (108, .iconst 0, []), (109, .ireturn, []), (110, .aload_n 0, []), (111, .getfield 21, []), (114, .getfield 203, []), (117, .iload_n 1, []), (118, .iaload, []), (119, .ireturn, []), (120, .aload_n 0, []), (121, .getfield 21, []), (124, .getfield 206, []), (127, .iload_n 1, []), (128, .iaload, []), (129, .ireturn, []), (130, .aload_n 0, []), (131, .getfield 21, []), (134, .getfield 209, []), (137, .iload_n 1, []), (138, .iaload, []), (139, .ireturn, []), (140, .new 183, []), (143, .dup, []), (144, .ldc 212, []), (146, .invokespecial 187, []), (149, .athrow, [])])
def an_X9_breaks : ai_M := (9, yX9_breaks, cX9_breaks, 2, (some .int), [], [(0, .aload_n 0, []), (1, .iload_n 1, []), (2, .invokevirtual 86, []), (5, .aload_n 0, []), (6, .getfield 14, []), (9, .getfield 98, []), (12, .iload_n 1, []), (13, .iaload, []), (14, .ifCond .ne 14, [28]), (17, .aload_n 0, []), (18, .getfield 14, []), (21, .iload_n 1, []), (22, .invokevirtual 214, []), (25, .ifCond .eq 5, [30]), (28, .iconst (-1), []), (29, .ireturn, []), (30, .aload_n 0, []), (31, .getfield 71, []), (34, .iload_n 1, []), (35, .invokevirtual 217, []), (38, .aload_n 0, []), (39, .getfield 71, []), (42, .getfield 220, []), (45, .ireturn, [])])
def an_X9_breaker : ai_M := (9, yX9_breaker, cX9_breaker, 2, (some .int), [], [(0, .iload_n 1, []), (1, .ifCond .lt 14, [15]), (4, .iload_n 1, []), (5, .aload_n 0, []), (6, .getfield 71, []), (9, .getfield 220, []), (12, .if_icmp .lt 13, [25]), (15, .new 183, []), (18, .dup, []), (19, .ldc 223, []), (21, .invokespecial 187, []), (24, .athrow, []), (25, .aload_n 0, []), (26, .getfield 71, []), (29, .getfield 225, []), (32, .iload_n 1, []), (33, .iaload, []), (34, .ireturn, [])])
def an_X9_count : ai_M := (9, yX9_count, cX9_count, 2, (some .int), [], [(0, .iload_n 1, []), (1, .tableswitch 143 0 9 #[55, 60, 69, 78, 87, 96, 104, 112, 120, 128], [144, 56, 61, 70, 79, 88, 97, 105, 113, 121, 129]), (56, .aload_n 0, []), (57, .getfield 157, []), (60, .ireturn, []), (61, .aload_n 0, []), (62, .getfield 14, []), (65, .iconst 1, []), (66, .invokevirtual 228, []), (69, .ireturn, []), (70, .aload_n 0, []), (71, .getfield 14, []), (74, .iconst 0, []), (75, .invokevirtual 228, []), (78, .ireturn, []), (79, .aload_n 0, []), (80, .getfield 14, []), (83, .iconst 2, []), (84, .invokevirtual 228, []), (87, .ireturn, []), (88, .aload_n 0, []), (89, .getfield 14, []), (92, .iconst 3, []), (93, .invokevirtual 228, []), (96, .ireturn, []), (97, .aload_n 0, []), (98, .getfield 21, []), (101, .getfield 231, []), (104, .ireturn, []), (105, .aload_n 0, []), (106, .getfield 48, []), (109, .getfield 125, []), (112, .ireturn, []), (113, .aload_n 0, []), (114, .getfield 21, []), (117, .invokevirtual 232, []), (120, .ireturn, []), (121, .aload_n 0, []), (122, .getfield 28, []), (125, .getfield 119, []), (128, .ireturn, []), (129, .aload_n 0, []), (130, .getfield 48, []), (133, .aload_n 0, []), (134, .getfield 157, []), (137, .bipush 24, []), (139, .idiv, []), (140, .invokevirtual 235, []), (143, .ireturn, []), (144, .new 183, []), (147, .dup, []), (148, .ldc 238, []), (150, .invokespecial 187, []), (153, .athrow, [])])
def an_X9_needCell : ai_M := (9, yX9_needCell, cX9_needCell, 2, none, [], [(0, .aload_n 0, []), (1, .getfield 14, []), (4, .iload_n 1, []), (5, .invokevirtual 240, []), (8, .ifCond .ne 13, [21]), (11, .new 183, []), (14, .dup, []), (15, .ldc 243, []), (17, .invokespecial 187, []), (20, .athrow, []), (21, .return_, [])])
def an_X9_needCrew : ai_M := (9, yX9_needCrew, cX9_needCrew, 2, none, [], [(0, .aload_n 0, []), (1, .getfield 21, []), (4, .iload_n 1, []), (5, .invokevirtual 245, []), (8, .ifCond .ne 13, [21]), (11, .new 183, []), (14, .dup, []), (15, .ldc 246, []), (17, .invokespecial 187, []), (20, .athrow, []), (21, .return_, [])])
def an_X9_isWard : ai_M := (9, yX9_isWard, cX9_isWard, 1, (some .boolean), [], [(0, .iload_n 0, []), (1, .ifCond .lt 13, [14]), (4, .iload_n 0, []), (5, .bipush 7, []), (7, .if_icmp .gt 7, [14]), (10, .iconst 1, []), (11, .goto 4, [15]), (14, .iconst 0, []), (15, .ireturn, [])])
def an_X9_order : ai_M := (9, yX9_order, cX9_order, 5, (some .boolean), [], [(0, .aload_n 0, []), (1, .iload_n 1, []), (2, .invokevirtual 188, []), (5, .aload_n 0, []), (6, .iload_n 2, []), (7, .invokevirtual 86, []), (10, .aload_n 0, []), (11, .getfield 14, []), (14, .getfield 98, []), (17, .iload_n 2, []), (18, .iaload, []), (19, .iload_n 3, []), (20, .if_icmp .ne 16, [36]), (23, .aload_n 0, []), (24, .getfield 21, []), (27, .getfield 197, []), (30, .iload_n 1, []), (31, .iaload, []), (32, .iload_n 2, []), (33, .if_icmp .ne 5, [38]), (36, .iconst 0, []), (37, .ireturn, []), (38, .aload_n 0, []), (39, .getfield 21, []), (42, .getfield 197, []), (45, .iload_n 1, []), (46, .iaload, []), (47, .istore 4, []), (49, .aload_n 0, []), (50, .getfield 14, []), (53, .iload 4, []), (55, .invokevirtual 240, []), (58, .ifCond .eq 28, [86]), (61, .aload_n 0, []), (62, .getfield 14, []), (65, .getfield 180, []), (68, .iload 4, []), (70, .iaload, []), (71, .iload_n 1, []), (72, .if_icmp .ne 14, [86]), (75, .aload_n 0, []), (76, .getfield 14, []), (79, .getfield 180, []), (82, .iload 4, []), (84, .iconst (-1), []), (85, .iastore, []), (86, .aload_n 0, []), (87, .getfield 21, []), (90, .getfield 197, []), (93, .iload_n 1, []), (94, .iload_n 2, []), (95, .iastore, []), (96, .aload_n 0, []), (97, .getfield 21, []), (100, .getfield 200, []), (103, .iload_n 1, []), (104, .iload_n 3, []), (105, .ifCond .ne 7, [112]), (108, .iconst 1, []), (109, .goto 4, [113]), (112, .iconst 0, []), (113, .bastore, []), (114, .iconst 1, []), (115, .ireturn, [])])
def an_X9_passHour : ai_M := (9, yX9_passHour, cX9_passHour, 1, none, [], [(0, .aload_n 0, []), (1, .invokevirtual 248, []), (4, .aload_n 0, []), (5, .invokevirtual 251, []), (8, .aload_n 0, []), (9, .invokevirtual 254, []), (12, .aload_n 0, []), (13, .invokevirtual 257, []), (16, .aload_n 0, []), (17, .aload_n 0, []), (18, .getfield 14, []), (21, .aload_n 0, []), (22, .getfield 79, []), (25, .invokevirtual 260, []), (28, .putfield 144, []), (31, .aload_n 0, []), (32, .invokevirtual 147, []), (35, .aload_n 0, []), (36, .dup, []), (37, .getfield 157, []), (40, .iconst 1, []), (41, .iadd, []), (42, .putfield 157, []), (45, .return_, [])])
def an_X9_crewsGo : ai_M := (9, yX9_crewsGo, cX9_crewsGo, 3, none, [], [(0, .iconst 0, []), (1, .istore_n 1, []), (2, .iload_n 1, []), (3, .aload_n 0, []), (4, .getfield 21, []), (7, .getfield 231, []), (10, .if_icmp .ge 70, [80]), (13, .aload_n 0, []), (14, .getfield 21, []), (17, .getfield 197, []), (20, .iload_n 1, []), (21, .iaload, []), (22, .istore_n 2, []), (23, .iload_n 2, []), (24, .iconst (-1), []), (25, .if_icmp .eq 49, [74]), (28, .aload_n 0, []), (29, .getfield 14, []), (32, .aload_n 0, []), (33, .getfield 21, []), (36, .getfield 195, []), (39, .iload_n 1, []), (40, .iaload, []), (41, .iload_n 2, []), (42, .invokevirtual 264, []), (45, .ifCond .ne 29, [74]), (48, .aload_n 0, []), (49, .getfield 21, []), (52, .getfield 195, []), (55, .iload_n 1, []), (56, .aload_n 0, []), (57, .getfield 64, []), (60, .aload_n 0, []), (61, .getfield 21, []), (64, .getfield 195, []), (67, .iload_n 1, []), (68, .iaload, []), (69, .iload_n 2, []), (70, .invokevirtual 268, []), (73, .iastore, []), (74, .iinc 1 1, []), (77, .goto (-75), [2]), (80, .return_, [])])
def an_X9_giveRoofs : ai_M := (9, yX9_giveRoofs, cX9_giveRoofs, 2, none, [], [(0, .iconst 0, []), (1, .istore_n 1, []), (2, .iload_n 1, []), (3, .aload_n 0, []), (4, .getfield 14, []), (7, .getfield 75, []), (10, .if_icmp .ge 40, [50]), (13, .aload_n 0, []), (14, .getfield 14, []), (17, .getfield 98, []), (20, .iload_n 1, []), (21, .iaload, []), (22, .iconst 1, []), (23, .if_icmp .ne 21, [44]), (26, .aload_n 0, []), (27, .getfield 14, []), (30, .getfield 180, []), (33, .iload_n 1, []), (34, .iaload, []), (35, .iconst (-1), []), (36, .if_icmp .ne 8, [44]), (39, .aload_n 0, []), (40, .iload_n 1, []), (41, .invokevirtual 272, []), (44, .iinc 1 1, []), (47, .goto (-45), [2]), (50, .return_, [])])
def an_X9_crewsWork : ai_M := (9, yX9_crewsWork, cX9_crewsWork, 4, none, [], [(0, .iconst 0, []), (1, .istore_n 1, []), (2, .iload_n 1, []), (3, .aload_n 0, []), (4, .getfield 21, []), (7, .getfield 231, []), (10, .if_icmp .ge 143, [153]), (13, .aload_n 0, []), (14, .getfield 21, []), (17, .getfield 197, []), (20, .iload_n 1, []), (21, .iaload, []), (22, .istore_n 2, []), (23, .aload_n 0, []), (24, .getfield 14, []), (27, .iload_n 2, []), (28, .invokevirtual 240, []), (31, .ifCond .eq 116, [147]), (34, .aload_n 0, []), (35, .getfield 14, []), (38, .aload_n 0, []), (39, .getfield 21, []), (42, .getfield 195, []), (45, .iload_n 1, []), (46, .iaload, []), (47, .iload_n 2, []), (48, .invokevirtual 264, []), (51, .ifCond .ne 6, [57]), (54, .goto 93, [147]), (57, .aload_n 0, []), (58, .getfield 21, []), (61, .getfield 200, []), (64, .iload_n 1, []), (65, .baload, []), (66, .ifCond .eq 20, [86]), (69, .aload_n 0, []), (70, .iload_n 2, []), (71, .aload_n 0, []), (72, .getfield 21, []), (75, .getfield 192, []), (78, .iload_n 1, []), (79, .iaload, []), (80, .invokevirtual 275, []), (83, .goto 64, [147]), (86, .aload_n 0, []), (87, .getfield 14, []), (90, .getfield 180, []), (93, .iload_n 2, []), (94, .iaload, []), (95, .iload_n 1, []), (96, .if_icmp .ne 51, [147]), (99, .aload_n 0, []), (100, .getfield 14, []), (103, .aload_n 0, []), (104, .getfield 21, []), (107, .getfield 195, []), (110, .iload_n 1, []), (111, .iaload, []), (112, .invokevirtual 278, []), (115, .ifCond .eq 7, [122]), (118, .iconst 2, []), (119, .goto 4, [123]), (122, .iconst 1, []), (123, .istore_n 3, []), (124, .aload_n 0, []), (125, .getfield 14, []), (128, .getfield 177, []), (131, .iload_n 2, []), (132, .dup2, []), (133, .iaload, []), (134, .iload_n 3, []), (135, .aload_n 0, []), (136, .getfield 21, []), (139, .getfield 192, []), (142, .iload_n 1, []), (143, .iaload, []), (144, .imul, []), (145, .iadd, []), (146, .iastore, []), (147, .iinc 1 1, []), (150, .goto (-148), [2]), (153, .return_, [])])
def an_X9_fireEats : ai_M := (9, yX9_fireEats, cX9_fireEats, 2, none, [], [(0, .iconst 0, []), (1, .istore_n 1, []), (2, .iload_n 1, []), (3, .aload_n 0, []), (4, .getfield 14, []), (7, .getfield 75, []), (10, .if_icmp .ge 96, [106]), (13, .aload_n 0, []), (14, .getfield 14, []), (17, .getfield 98, []), (20, .iload_n 1, []), (21, .iaload, []), (22, .iconst 1, []), (23, .if_icmp .eq 6, [29]), (26, .goto 74, [100]), (29, .aload_n 0, []), (30, .getfield 14, []), (33, .getfield 177, []), (36, .iload_n 1, []), (37, .iaload, []), (38, .iconst 4, []), (39, .aload_n 0, []), (40, .getfield 14, []), (43, .getfield 171, []), (46, .iload_n 1, []), (47, .iaload, []), (48, .imul, []), (49, .if_icmp .lt 11, [60]), (52, .aload_n 0, []), (53, .iload_n 1, []), (54, .invokevirtual 284, []), (57, .goto 43, [100]), (60, .aload_n 0, []), (61, .getfield 14, []), (64, .getfield 171, []), (67, .iload_n 1, []), (68, .dup2, []), (69, .iaload, []), (70, .iconst 1, []), (71, .isub, []), (72, .iastore, []), (73, .aload_n 0, []), (74, .getfield 14, []), (77, .getfield 171, []), (80, .iload_n 1, []), (81, .iaload, []), (82, .ifCond .gt 18, [100]), (85, .aload_n 0, []), (86, .getfield 14, []), (89, .getfield 98, []), (92, .iload_n 1, []), (93, .iconst 2, []), (94, .iastore, []), (95, .aload_n 0, []), (96, .iload_n 1, []), (97, .invokevirtual 287, []), (100, .iinc 1 1, []), (103, .goto (-101), [2]), (106, .return_, [])])
def an_X9_ringBells : ai_M := (9, yX9_ringBells, cX9_ringBells, 4, none, [], [(0, .aload_n 0, []), (1, .getfield 144, []), (4, .ifCond .ne 4, [8]), (7, .return_, []), (8, .iconst 0, []), (9, .istore_n 1, []), (10, .iload_n 1, []), (11, .aload_n 0, []), (12, .getfield 144, []), (15, .if_icmp .ge 31, [46]), (18, .iload_n 1, []), (19, .aload_n 0, []), (20, .getfield 79, []), (23, .arraylength, []), (24, .if_icmp .ge 22, [46]), (27, .aload_n 0, []), (28, .getfield 21, []), (31, .aload_n 0, []), (32, .getfield 79, []), (35, .iload_n 1, []), (36, .iaload, []), (37, .invokevirtual 281, []), (40, .iinc 1 1, []), (43, .goto (-33), [10]), (46, .aload_n 0, []), (47, .getfield 48, []), (50, .aload_n 0, []), (51, .getfield 157, []), (54, .bipush 24, []), (56, .idiv, []), (57, .invokevirtual 235, []), (60, .istore_n 1, []), (61, .aload_n 0, []), (62, .getfield 14, []), (65, .iconst 1, []), (66, .invokevirtual 228, []), (69, .istore_n 2, []), (70, .iconst 0, []), (71, .istore_n 3, []), (72, .iload_n 3, []), (73, .aload_n 0, []), (74, .getfield 144, []), (77, .if_icmp .ge 30, [107]), (80, .iload_n 3, []), (81, .aload_n 0, []), (82, .getfield 79, []), (85, .arraylength, []), (86, .if_icmp .ge 21, [107]), (89, .aload_n 0, []), (90, .aload_n 0, []), (91, .getfield 79, []), (94, .iload_n 3, []), (95, .iaload, []), (96, .iload_n 1, []), (97, .iload_n 2, []), (98, .invokevirtual 293, []), (101, .iinc 3 1, []), (104, .goto (-32), [72]), (107, .return_, [])])
def an_X10_init : ai_M := (10, yX10_init, cX10_init, 4, none, [], [(0, .aload_n 0, []), (1, .invokespecial 1, []), (4, .aload_n 0, []), (5, .bipush 8, []), (7, .anewarray 7, []), (10, .dup, []), (11, .iconst 0, []), (12, .ldc 9, []), (14, .aastore, []), (15, .dup, []), (16, .iconst 1, []), (17, .ldc 11, []), (19, .aastore, []), (20, .dup, []), (21, .iconst 2, []), (22, .ldc 13, []), (24, .aastore, []), (25, .dup, []), (26, .iconst 3, []), (27, .ldc 15, []), (29, .aastore, []), (30, .dup, []), (31, .iconst 4, []), (32, .ldc 17, []), (34, .aastore, []), (35, .dup, []), (36, .iconst 5, []), (37, .ldc 19, []), (39, .aastore, []), (40, .dup, []), (41, .bipush 6, []), (43, .ldc 21, []), (45, .aastore, []), (46, .dup, []), (47, .bipush 7, []), (49, .ldc 23, []), (51, .aastore, []), (52, .putfield 25, []), (55, .aload_n 0, []), (56, .iconst (-1), []), (57, .putfield 31, []), (60, .aload_n 0, []), (61, .bipush 64, []), (63, .newarray .int, []), (65, .putfield 35, []), (68, .aload_n 0, []), (69, .bipush 64, []), (71, .newarray .int, []), (73, .putfield 39, []), (76, .aload_n 0, []), (77, .bipush 64, []), (79, .newarray .int, []), (81, .putfield 41, []), (84, .aload_n 0, []), (85, .bipush 64, []), (87, .newarray .int, []), (89, .putfield 43, []), (92, .aload_n 0, []), (93, .bipush 64, []), (95, .newarray .int, []), (97, .putfield 45, []), (100, .aload_n 0, []), (101, .bipush 64, []), (103, .newarray .int, []), (105, .putfield 48, []), (108, .aload_n 0, []), (109, .bipush 64, []), (111, .newarray .int, []), (113, .putfield 51, []), (116, .aload_n 0, []), (117, .bipush 64, []), (119, .newarray .boolean, []), (121, .putfield 54, []), (124, .aload_n 0, []), (125, .bipush 8, []), (127, .newarray .int, []), (129, .putfield 58, []), (132, .aload_n 0, []), (133, .bipush 8, []), (135, .newarray .int, []), (137, .putfield 60, []), (140, .aload_n 0, []), (141, .bipush 8, []), (143, .newarray .int, []), (145, .putfield 62, []), (148, .aload_n 0, []), (149, .bipush 8, []), (151, .newarray .int, []), (153, .putfield 65, []), (156, .aload_n 0, []), (157, .bipush 8, []), (159, .newarray .int, []), (161, .putfield 68, []), (164, .aload_n 0, []), (165, .bipush 8, []), (167, .newarray .int, []), (169, .putfield 71, []), (172, .aload_n 0, []), (173, .bipush 8, []), (175, .newarray .int, []), (177, .putfield 74, []), (180, .aload_n 0, []), (181, .bipush 8, []), (183, .newarray .boolean, []), (185, .putfield 77, []), (188, .aload_n 0, []), (189, .sipush 400, []), (192, .newarray .int, []), (194, .putfield 80, []), (197, .aload_n 0, []), (198, .bipush 6, []), (200, .newarray .int, []), (202, .putfield 83, []), (205, .aload_n 0, []), (206, .bipush 6, []), (208, .newarray .int, []), (210, .putfield 86, []), (213, .aload_n 0, []), (214, .bipush 78, []), (216, .newarray .int, []), (218, .putfield 89, []), (221, .aload_n 0, []), (222, .sipush 4200, []), (225, .newarray .int, []), (227, .putfield 92, []), (230, .aload_n 0, []), (231, .sipush 150, []), (234, .newarray .int, []), (236, .putfield 95, []), (239, .aload_n 0, []), (240, .bipush 72, []), (242, .newarray .boolean, []), (244, .putfield 98, []), (247, .aload_n 0, []), (248, .bipush 64, []), (250, .newarray .int, []), (252, .putfield 101, []), (255, .aload_n 0, []), (256, .bipush 64, []), (258, .newarray .int, []), (260, .putfield 104, []), (263, .aload_n 0, []), (264, .bipush 64, []), (266, .newarray .boolean, []), (268, .putfield 107, []), (271, .aload_n 0, []), (272, .bipush 64, []), (274, .newarray .boolean, []), (276, .putfield 110, []), (279, .aload_n 0, []), (280, .bipush 64, []), (282, .newarray .int, []), (284, .putfield 113, []), (287, .aload_n 0, []), (288, .bipush 64, []), (290, .newarray .int, []), (292, .putfield 116, []), (295, .aload_n 0, []), (296, .sipush 128, []), (299, .newarray .int, []), (301, .putfield 119, []), (304, .aload_n 0, []), (305, .sipush 128, []), (308, .newarray .int, []), (310, .putfield 122, []), (313, .aload_n 0, []), (314, .bipush 64, []), (316, .newarray .int, []), (318, .putfield 125, []), (321, .aload_n 0, []), (322, .bipush 64, []), (324, .newarray .int, []), (326, .putfield 128, []), (329, .aload_n 0, []), (330, .sipush 128, []), (333, .newarray .int, []), (335, .putfield 131, []), (338, .aload_n 0, []), (339, .iconst 1, []), (340, .iload_n 1, []), (341, .bipush 7, []), (343, .iand, []), (344, .iadd, []), (345, .putfield 134, []), (348, .aload_n 0, []), (349, .iconst 1, []), (350, .iload_n 2, []), (351, .bipush 7, []), (353, .iand, []), (354, .iadd, []), (355, .putfield 137, []), (358, .iconst 0, []), (359, .istore_n 3, []), (360, .iload_n 3, []), (361, .bipush 64, []), (363, .if_icmp .ge 23, [386]), (366, .aload_n 0, []), (367, .getfield 35, []), (370, .iload_n 3, []), (371, .iconst (-1), []), (372, .iastore, []), (373, .aload_n 0, []), (374, .getfield 51, []), (377, .iload_n 3, []), (378, .iconst (-1), []), (379, .iastore, []), (380, .iinc 3 1, []), (383, .goto (-23), [360]), (386, .return_, [])])
def an_X10_thrown : ai_M := (10, yX10_thrown, cX10_thrown, 1, (some .int), [], [(0, .aload_n 0, []), (1, .getfield 140, []), (4, .ireturn, [])])
def an_X10_fail : ai_M := (10, yX10_fail, cX10_fail, 1, (some .int), [], [(0, .aload_n 0, []), (1, .iconst 1, []), (2, .putfield 140, []), (5, .iconst 0, []), (6, .ireturn, [])])
def an_X10_isCell : ai_M := (10, yX10_isCell, cX10_isCell, 2, (some .boolean), [], [(0, .iload_n 1, []), (1, .ifCond .lt 20, [21]), (4, .iload_n 1, []), (5, .aload_n 0, []), (6, .getfield 134, []), (9, .aload_n 0, []), (10, .getfield 137, []), (13, .imul, []), (14, .if_icmp .ge 7, [21]), (17, .iconst 1, []), (18, .goto 4, [22]), (21, .iconst 0, []), (22, .ireturn, [])])
def an_X10_isCompany : ai_M := (10, yX10_isCompany, cX10_isCompany, 2, (some .boolean), [], [(0, .iload_n 1, []), (1, .ifCond .lt 15, [16]), (4, .iload_n 1, []), (5, .aload_n 0, []), (6, .getfield 143, []), (9, .if_icmp .ge 7, [16]), (12, .iconst 1, []), (13, .goto 4, [17]), (16, .iconst 0, []), (17, .ireturn, [])])
def an_X10_house : ai_M := (10, yX10_house, cX10_house, 4, (some .boolean), [], [(0, .aload_n 0, []), (1, .iconst 0, []), (2, .putfield 140, []), (5, .aload_n 0, []), (6, .iload_n 1, []), (7, .invokevirtual 152, []), (10, .ifCond .ne 10, [20]), (13, .aload_n 0, []), (14, .invokevirtual 156, []), (17, .pop, []), (18, .iconst 0, []), (19, .ireturn, []), (20, .aload_n 0, []), (21, .getfield 54, []), (24, .iload_n 1, []), (25, .baload, []), (26, .ifCond .ne 43, [69]), (29, .aload_n 0, []), (30, .getfield 35, []), (33, .iload_n 1, []), (34, .iaload, []), (35, .ifCond .eq 34, [69]), (38, .aload_n 0, []), (39, .getfield 35, []), (42, .iload_n 1, []), (43, .iaload, []), (44, .iconst 1, []), (45, .if_icmp .eq 24, [69]), (48, .iload_n 2, []), (49, .iconst 1, []), (50, .if_icmp .lt 19, [69]), (53, .iload_n 2, []), (54, .bipush 9, []), (56, .if_icmp .gt 13, [69]), (59, .iload_n 3, []), (60, .ifCond .lt 9, [69]), (63, .iload_n 3, []), (64, .bipush 7, []), (66, .if_icmp .le 5, [71]), (69, .iconst 0, []), (70, .ireturn, []), (71, .aload_n 0, []), (72, .getfield 35, []), (75, .iload_n 1, []), (76, .iconst 0, []), (77, .iastore, []), (78, .aload_n 0, []), (79, .getfield 39, []), (82, .iload_n 1, []), (83, .iload_n 2, []), (84, .iastore, []), (85, .aload_n 0, []), (86, .getfield 41, []), (89, .iload_n 1, []), (90, .iload_n 3, []), (91, .iastore, []), (92, .aload_n 0, []), (93, .getfield 43, []), (96, .iload_n 1, []), (97, .iload_n 2, []), (98, .iastore, []), (99, .aload_n 0, []), (100, .getfield 45, []), (103, .iload_n 1, []), (104, .iconst 0, []), (105, .iastore, []), (106, .aload_n 0, []), (107, .getfield 48, []), (110, .iload_n 1, []), (111, .iconst 0, []), (112, .iastore, []), (113, .iconst 1, []), (114, .ireturn, [])])
def an_X10_well : ai_M := (10, yX10_well, cX10_well, 3, (some .boolean), [], [(0, .aload_n 0, []), (1, .iconst 0, []), (2, .putfield 140, []), (5, .aload_n 0, []), (6, .iload_n 1, []), (7, .invokevirtual 152, []), (10, .ifCond .ne 10, [20]), (13, .aload_n 0, []), (14, .invokevirtual 156, []), (17, .pop, []), (18, .iconst 0, []), (19, .ireturn, []), (20, .aload_n 0, []), (21, .getfield 35, []), (24, .iload_n 1, []), (25, .iaload, []), (26, .iconst (-1), []), (27, .if_icmp .ne 13, [40]), (30, .aload_n 0, []), (31, .getfield 54, []), (34, .iload_n 1, []), (35, .baload, []), (36, .iload_n 2, []), (37, .if_icmp .ne 5, [42]), (40, .iconst 0, []), (41, .ireturn, []), (42, .aload_n 0, []), (43, .getfield 54, []), (46, .iload_n 1, []), (47, .iload_n 2, []), (48, .bastore, []), (49, .iconst 1, []), (50, .ireturn, [])])
def an_X10_wind : ai_M := (10, yX10_wind, cX10_wind, 3, (some .int), [], [(0, .aload_n 0, []), (1, .iconst 0, []), (2, .putfield 140, []), (5, .iload_n 1, []), (6, .ifCond .lt 8, [14]), (9, .iload_n 1, []), (10, .iconst 4, []), (11, .if_icmp .le 8, [19]), (14, .aload_n 0, []), (15, .invokevirtual 156, []), (18, .ireturn, []), (19, .aload_n 0, []), (20, .getfield 160, []), (23, .istore_n 2, []), (24, .aload_n 0, []), (25, .iload_n 1, []), (26, .putfield 160, []), (29, .iload_n 2, []), (30, .ireturn, [])])
def an_X10_company : ai_M := (10, yX10_company, cX10_company, 4, (some .int), [], [(0, .aload_n 0, []), (1, .iconst 0, []), (2, .putfield 140, []), (5, .aload_n 0, []), (6, .iload_n 3, []), (7, .invokevirtual 152, []), (10, .ifCond .ne 8, [18]), (13, .aload_n 0, []), (14, .invokevirtual 156, []), (17, .ireturn, []), (18, .aload_n 0, []), (19, .getfield 143, []), (22, .bipush 8, []), (24, .if_icmp .eq 24, [48]), (27, .iload_n 1, []), (28, .ifCond .lt 20, [48]), (31, .iload_n 1, []), (32, .bipush 7, []), (34, .if_icmp .gt 14, [48]), (37, .iload_n 2, []), (38, .iconst 1, []), (39, .if_icmp .lt 9, [48]), (42, .iload_n 2, []), (43, .bipush 9, []), (45, .if_icmp .le 5, [50]), (48, .iconst (-1), []), (49, .ireturn, []), (50, .aload_n 0, []), (51, .getfield 58, []), (54, .aload_n 0, []), (55, .getfield 143, []), (58, .iload_n 1, []), (59, .iastore, []), (60, .aload_n 0, []), (61, .getfield 60, []), (64, .aload_n 0, []), (65, .getfield 143, []), (68, .iload_n 2, []), (69, .iastore, []), (70, .aload_n 0, []), (71, .getfield 62, []), (74, .aload_n 0, []), (75, .getfield 143, []), (78, .iload_n 3, []), (79, .iastore, []), (80, .aload_n 0, []), (81, .getfield 65, []), (84, .aload_n 0, []), (85, .getfield 143, []), (88, .iconst (-1), []), (89, .iastore, []), (90, .aload_n 0, []), (91, .dup, []), (92, .getfield 143, []), (95, .iconst 1, []), (96, .iadd, []), (97, .putfield 143, []), (100, .aload_n 0, []), (101, .getfield 143, []), (104, .iconst 1, []), (105, .isub, []), (106, .ireturn, [])])
def an_X10_feed : ai_M := (10, yX10_feed, cX10_feed, 8, (some .int), [], [(0, .aload_n 0, []), (1, .iconst 0, []), (2, .putfield 140, []), (5, .aload_n 0, []), (6, .getfield 163, []), (9, .bipush 20, []), (11, .iadd, []), (12, .sipush 400, []), (15, .if_icmp .le 5, [20]), (18, .iconst (-1), []), (19, .ireturn, []), (20, .iconst 0, []), (21, .istore 6, []), (23, .iload 6, []), (25, .bipush 20, []), (27, .if_icmp .ge 93, [120]), (30, .iload 6, []), (32, .iconst 4, []), (33, .if_icmp .ge 7, [40]), (36, .iload_n 1, []), (37, .goto 39, [76]), (40, .iload 6, []), (42, .bipush 8, []), (44, .if_icmp .ge 7, [51]), (47, .iload_n 2, []), (48, .goto 28, [76]), (51, .iload 6, []), (53, .bipush 12, []), (55, .if_icmp .ge 7, [62]), (58, .iload_n 3, []), (59, .goto 17, [76]), (62, .iload 6, []), (64, .bipush 16, []), (66, .if_icmp .ge 8, [74]), (69, .iload 4, []), (71, .goto 5, [76]), (74, .iload 5, []), (76, .istore 7, []), (78, .aload_n 0, []), (79, .getfield 80, []), (82, .aload_n 0, []), (83, .getfield 163, []), (86, .iload 7, []), (88, .bipush 24, []), (90, .bipush 8, []), (92, .iload 6, []), (94, .iconst 4, []), (95, .irem, []), (96, .imul, []), (97, .isub, []), (98, .ishr, []), (99, .sipush 255, []), (102, .iand, []), (103, .iastore, []), (104, .aload_n 0, []), (105, .dup, []), (106, .getfield 163, []), (109, .iconst 1, []), (110, .iadd, []), (111, .putfield 163, []), (114, .iinc 6 1, []), (117, .goto (-94), [23]), (120, .aload_n 0, []), (121, .getfield 163, []), (124, .ireturn, [])])
def an_X10_byteAt : ai_M := (10, yX10_byteAt, cX10_byteAt, 2, (some .int), [], [(0, .iload_n 1, []), (1, .aload_n 0, []), (2, .getfield 166, []), (5, .if_icmp .ge 12, [17]), (8, .aload_n 0, []), (9, .getfield 80, []), (12, .iload_n 1, []), (13, .iaload, []), (14, .goto 4, [18]), (17, .iconst (-1), []), (18, .ireturn, [])])
def an_X10_step : ai_M := (10, yX10_step, cX10_step, 3, none, [], [(0, .aload_n 0, []), (1, .aload_n 0, []), (2, .getfield 169, []), (5, .invokevirtual 172, []), (8, .bipush 32, []), (10, .if_icmp .eq 16, [26]), (13, .aload_n 0, []), (14, .aload_n 0, []), (15, .getfield 169, []), (18, .invokevirtual 172, []), (21, .bipush 10, []), (23, .if_icmp .ne 16, [39]), (26, .aload_n 0, []), (27, .dup, []), (28, .getfield 169, []), (31, .iconst 1, []), (32, .iadd, []), (33, .putfield 169, []), (36, .goto (-36), [0]), (39, .aload_n 0, []), (40, .aload_n 0, []), (41, .getfield 169, []), (44, .putfield 175, []), (47, .aload_n 0, []), (48, .iconst 0, []), (49, .putfield 178, []), (52, .aload_n 0, []), (53, .aload_n 0, []), (54, .getfield 169, []), (57, .invokevirtual 172, []), (60, .istore_n 1, []), (61, .iload_n 1, []), (62, .iconst (-1), []), (63, .if_icmp .ne 11, [74]), (66, .aload_n 0, []), (67, .iconst 0, []), (68, .putfield 181, []), (71, .goto 169, [240]), (74, .iload_n 1, []), (75, .invokestatic 184, []), (78, .ifCond .eq 38, [116]), (81, .aload_n 0, []), (82, .aload_n 0, []), (83, .getfield 169, []), (86, .invokevirtual 172, []), (89, .invokestatic 184, []), (92, .ifCond .eq 16, [108]), (95, .aload_n 0, []), (96, .dup, []), (97, .getfield 169, []), (100, .iconst 1, []), (101, .iadd, []), (102, .putfield 169, []), (105, .goto (-24), [81]), (108, .aload_n 0, []), (109, .iconst 1, []), (110, .putfield 181, []), (113, .goto 127, [240]), (116, .iload_n 1, []), (117, .invokestatic 187, []), (120, .ifCond .eq 38, [158]), (123, .aload_n 0, []), (124, .aload_n 0, []), (125, .getfield 169, []), (128, .invokevirtual 172, []), (131, .invokestatic 187, []), (134, .ifCond .eq 16, [150]), (137, .aload_n 0, []), (138, .dup, []), (139, .getfield 169, []), (142, .iconst 1, []), (143, .iadd, []), (144, .putfield 169, []), (147, .goto (-24), [123]), (150, .aload_n 0, []), (151, .iconst 2, []), (152, .putfield 181, []), (155, .goto 85, [240]), (158, .aload_n 0, []), (159, .dup, []), (160, .getfield 169, []), (163, .iconst 1, []), (164, .iadd, []), (165, .putfield 169, []), (168, .iload_n 1, []), (169, .bipush 40, []), (171, .if_icmp .eq 45, [216]), (174, .iload_n 1, []), (175, .bipush 41, []), (177, .if_icmp .eq 39, [216]), (180, .iload_n 1, []), (181, .bipush 59, []), (183, .if_icmp .eq 33, [216]), (186, .iload_n 1, []), (187, .bipush 43, []), (189, .if_icmp .eq 27, [216]), (192, .iload_n 1, []), (193, .bipush 45, []), (195, .if_icmp .eq 21, [216]), (198, .iload_n 1, []), (199, .bipush 42, []), (201, .if_icmp .eq 15, [216]), (204, .iload_n 1, []), (205, .bipush 60, []), (207, .if_icmp .eq 9, [216]), (210, .iload_n 1, []), (211, .bipush 61, []), (213, .if_icmp .ne 7, [220]), (216, .iconst 1, []), (217, .goto 4, [221]), (220, .iconst 0, []), (221, .istore_n 2, []), (222, .aload_n 0, []), (223, .iload_n 2, []), (224, .ifCond .eq 7, [231]), (227, .iconst 3, []), (228, .goto 4, [232]), (231, .iconst 4, []), (232, .putfield 181, []), (235, .aload_n 0, []), (236, .iload_n 1, []), (237, .putfield 178, []), (240, .aload_n 0, []), (241, .aload_n 0, []), (242, .getfield 169, []), (245, .putfield 190, []), (248, .return_, [])])
def an_X10_readLaw : ai_M := (10, yX10_readLaw, cX10_readLaw, 3, none, [], [(0, .aload_n 0, []), (1, .invokevirtual 212, []), (4, .iconst 0, []), (5, .istore_n 1, []), (6, .aload_n 0, []), (7, .getfield 200, []), (10, .ifCond .ne 137, [147]), (13, .aload_n 0, []), (14, .getfield 181, []), (17, .ifCond .eq 130, [147]), (20, .aload_n 0, []), (21, .ldc 215, []), (23, .invokevirtual 217, []), (26, .istore_n 2, []), (27, .iload_n 2, []), (28, .ifCond .ne 20, [48]), (31, .aload_n 0, []), (32, .ldc 221, []), (34, .invokevirtual 217, []), (37, .ifCond .ne 11, [48]), (40, .aload_n 0, []), (41, .iconst 1, []), (42, .invokevirtual 223, []), (45, .goto 14, [59]), (48, .iload_n 1, []), (49, .bipush 12, []), (51, .if_icmp .ne 8, [59]), (54, .aload_n 0, []), (55, .iconst 2, []), (56, .invokevirtual 223, []), (59, .aload_n 0, []), (60, .getfield 200, []), (63, .ifCond .eq 4, [67]), (66, .return_, []), (67, .aload_n 0, []), (68, .getfield 98, []), (71, .bipush 12, []), (73, .aload_n 0, []), (74, .getfield 206, []), (77, .imul, []), (78, .iload_n 1, []), (79, .iadd, []), (80, .iload_n 2, []), (81, .bastore, []), (82, .aload_n 0, []), (83, .getfield 89, []), (86, .bipush 13, []), (88, .aload_n 0, []), (89, .getfield 206, []), (92, .imul, []), (93, .iload_n 1, []), (94, .iadd, []), (95, .aload_n 0, []), (96, .getfield 209, []), (99, .iastore, []), (100, .iinc 1 1, []), (103, .aload_n 0, []), (104, .invokevirtual 212, []), (107, .aload_n 0, []), (108, .iconst 0, []), (109, .invokevirtual 227, []), (112, .aload_n 0, []), (113, .getfield 200, []), (116, .ifCond .ne 17, [133]), (119, .aload_n 0, []), (120, .bipush 59, []), (122, .invokevirtual 230, []), (125, .ifCond .ne 8, [133]), (128, .aload_n 0, []), (129, .iconst 1, []), (130, .invokevirtual 223, []), (133, .aload_n 0, []), (134, .getfield 200, []), (137, .ifCond .ne 7, [144]), (140, .aload_n 0, []), (141, .invokevirtual 212, []), (144, .goto (-138), [6]), (147, .aload_n 0, []), (148, .getfield 89, []), (151, .bipush 13, []), (153, .aload_n 0, []), (154, .getfield 206, []), (157, .imul, []), (158, .iload_n 1, []), (159, .iadd, []), (160, .aload_n 0, []), (161, .getfield 209, []), (164, .iastore, []), (165, .aload_n 0, []), (166, .getfield 86, []), (169, .aload_n 0, []), (170, .getfield 206, []), (173, .iload_n 1, []), (174, .iastore, []), (175, .return_, [])])
def an_X10_law : ai_M := (10, yX10_law, cX10_law, 3, (some .int), [], [(0, .aload_n 0, []), (1, .iconst 0, []), (2, .putfield 140, []), (5, .iload_n 1, []), (6, .ifCond .lt 21, [27]), (9, .iload_n 1, []), (10, .aload_n 0, []), (11, .getfield 163, []), (14, .if_icmp .gt 13, [27]), (17, .iload_n 2, []), (18, .ifCond .lt 9, [27]), (21, .iload_n 2, []), (22, .bipush 100, []), (24, .if_icmp .le 8, [32]), (27, .aload_n 0, []), (28, .invokevirtual 156, []), (31, .ireturn, []), (32, .aload_n 0, []), (33, .iconst 0, []), (34, .putfield 163, []), (37, .aload_n 0, []), (38, .iconst (-1), []), (39, .putfield 31, []), (42, .aload_n 0, []), (43, .getfield 206, []), (46, .bipush 6, []), (48, .if_icmp .ne 6, [54]), (51, .bipush (-9), []), (53, .ireturn, []), (54, .aload_n 0, []), (55, .iload_n 1, []), (56, .putfield 166, []), (59, .aload_n 0, []), (60, .iconst 0, []), (61, .putfield 169, []), (64, .aload_n 0, []), (65, .iconst 0, []), (66, .putfield 200, []), (69, .aload_n 0, []), (70, .iconst 0, []), (71, .putfield 209, []), (74, .aload_n 0, []), (75, .invokevirtual 251, []), (78, .aload_n 0, []), (79, .getfield 200, []), (82, .ifCond .eq 18, [100]), (85, .aload_n 0, []), (86, .aload_n 0, []), (87, .getfield 203, []), (90, .putfield 31, []), (93, .iconst (-1), []), (94, .aload_n 0, []), (95, .getfield 200, []), (98, .isub, []), (99, .ireturn, []), (100, .aload_n 0, []), (101, .getfield 83, []), (104, .aload_n 0, []), (105, .getfield 206, []), (108, .iload_n 2, []), (109, .iastore, []), (110, .aload_n 0, []), (111, .dup, []), (112, .getfield 206, []), (115, .iconst 1, []), (116, .iadd, []), (117, .putfield 206, []), (120, .aload_n 0, []), (121, .getfield 206, []), (124, .iconst 1, []), (125, .isub, []), (126, .ireturn, [])])
def an_X10_fault : ai_M := (10, yX10_fault, cX10_fault, 1, (some .int), [], [(0, .aload_n 0, []), (1, .iconst 0, []), (2, .putfield 140, []), (5, .aload_n 0, []), (6, .getfield 31, []), (9, .ireturn, [])])
def an_X10_force : ai_M := (10, yX10_force, cX10_force, 3, (some .int), [], [(0, .iconst (-1), []), (1, .istore_n 1, []), (2, .iconst 0, []), (3, .istore_n 2, []), (4, .iload_n 2, []), (5, .aload_n 0, []), (6, .getfield 206, []), (9, .if_icmp .ge 47, [56]), (12, .aload_n 0, []), (13, .getfield 83, []), (16, .iload_n 2, []), (17, .iaload, []), (18, .aload_n 0, []), (19, .getfield 254, []), (22, .bipush 24, []), (24, .idiv, []), (25, .if_icmp .gt 25, [50]), (28, .iload_n 1, []), (29, .iconst (-1), []), (30, .if_icmp .eq 18, [48]), (33, .aload_n 0, []), (34, .getfield 83, []), (37, .iload_n 2, []), (38, .iaload, []), (39, .aload_n 0, []), (40, .getfield 83, []), (43, .iload_n 1, []), (44, .iaload, []), (45, .if_icmp .lt 5, [50]), (48, .iload_n 2, []), (49, .istore_n 1, []), (50, .iinc 2 1, []), (53, .goto (-49), [4]), (56, .iload_n 1, []), (57, .ireturn, [])])
def an_X10_many : ai_M := (10, yX10_many, cX10_many, 4, (some .int), [], [(0, .iconst 0, []), (1, .istore_n 2, []), (2, .iconst 0, []), (3, .istore_n 3, []), (4, .iload_n 3, []), (5, .aload_n 0, []), (6, .getfield 134, []), (9, .aload_n 0, []), (10, .getfield 137, []), (13, .imul, []), (14, .if_icmp .ge 27, [41]), (17, .iload_n 2, []), (18, .aload_n 0, []), (19, .getfield 35, []), (22, .iload_n 3, []), (23, .iaload, []), (24, .iload_n 1, []), (25, .if_icmp .ne 7, [32]), (28, .iconst 1, []), (29, .goto 4, [33]), (32, .iconst 0, []), (33, .iadd, []), (34, .istore_n 2, []), (35, .iinc 3 1, []), (38, .goto (-34), [4]), (41, .iload_n 2, []), (42, .ireturn, [])])
def an_X10_light : ai_M := (10, yX10_light, cX10_light, 4, (some .int), [], [(0, .aload_n 0, []), (1, .iconst 0, []), (2, .putfield 140, []), (5, .aload_n 0, []), (6, .iload_n 1, []), (7, .invokevirtual 152, []), (10, .ifCond .ne 8, [18]), (13, .aload_n 0, []), (14, .invokevirtual 156, []), (17, .ireturn, []), (18, .aload_n 0, []), (19, .getfield 35, []), (22, .iload_n 1, []), (23, .iaload, []), (24, .ifCond .eq 5, [29]), (27, .iconst (-1), []), (28, .ireturn, []), (29, .aload_n 0, []), (30, .getfield 35, []), (33, .iload_n 1, []), (34, .iconst 1, []), (35, .iastore, []), (36, .aload_n 0, []), (37, .iload_n 1, []), (38, .iconst 1, []), (39, .invokevirtual 288, []), (42, .aload_n 0, []), (43, .iload_n 1, []), (44, .invokevirtual 292, []), (47, .iconst 0, []), (48, .istore_n 2, []), (49, .iconst 0, []), (50, .istore_n 3, []), (51, .iload_n 3, []), (52, .aload_n 0, []), (53, .getfield 143, []), (56, .if_icmp .ge 27, [83]), (59, .iload_n 2, []), (60, .aload_n 0, []), (61, .getfield 65, []), (64, .iload_n 3, []), (65, .iaload, []), (66, .iload_n 1, []), (67, .if_icmp .ne 7, [74]), (70, .iconst 1, []), (71, .goto 4, [75]), (74, .iconst 0, []), (75, .iadd, []), (76, .istore_n 2, []), (77, .iinc 3 1, []), (80, .goto (-29), [51]), (83, .iload_n 2, []), (84, .ireturn, [])])
def an_X10_aim : ai_M := (10, yX10_aim, cX10_aim, 5, (some .boolean), [], [(0, .aload_n 0, []), (1, .iconst 0, []), (2, .putfield 140, []), (5, .aload_n 0, []), (6, .iload_n 1, []), (7, .invokevirtual 295, []), (10, .ifCond .eq 11, [21]), (13, .aload_n 0, []), (14, .iload_n 2, []), (15, .invokevirtual 152, []), (18, .ifCond .ne 10, [28]), (21, .aload_n 0, []), (22, .invokevirtual 156, []), (25, .pop, []), (26, .iconst 0, []), (27, .ireturn, []), (28, .aload_n 0, []), (29, .getfield 35, []), (32, .iload_n 2, []), (33, .iaload, []), (34, .iload_n 3, []), (35, .ifCond .eq 7, [42]), (38, .iconst 0, []), (39, .goto 4, [43]), (42, .iconst 1, []), (43, .if_icmp .ne 23, [66]), (46, .aload_n 0, []), (47, .getfield 65, []), (50, .iload_n 1, []), (51, .iaload, []), (52, .iload_n 2, []), (53, .if_icmp .ne 15, [68]), (56, .aload_n 0, []), (57, .getfield 77, []), (60, .iload_n 1, []), (61, .baload, []), (62, .iload_n 3, []), (63, .if_icmp .ne 5, [68]), (66, .iconst 0, []), (67, .ireturn, []), (68, .iconst 0, []), (69, .istore 4, []), (71, .iload 4, []), (73, .bipush 64, []), (75, .if_icmp .ge 28, [103]), (78, .aload_n 0, []), (79, .getfield 51, []), (82, .iload 4, []), (84, .iaload, []), (85, .iload_n 1, []), (86, .if_icmp .ne 11, [97]), (89, .aload_n 0, []), (90, .getfield 51, []), (93, .iload 4, []), (95, .iconst (-1), []), (96, .iastore, []), (97, .iinc 4 1, []), (100, .goto (-29), [71]), (103, .aload_n 0, []), (104, .getfield 65, []), (107, .iload_n 1, []), (108, .iload_n 2, []), (109, .iastore, []), (110, .aload_n 0, []), (111, .getfield 77, []), (114, .iload_n 1, []), (115, .iload_n 3, []), (116, .bastore, []), (117, .iconst 1, []), (118, .ireturn, [])])
def an_X10_send : ai_M := (10, yX10_send, cX10_send, 3, (some .boolean), [], [(0, .aload_n 0, []), (1, .iload_n 1, []), (2, .iload_n 2, []), (3, .iconst 0, []), (4, .invokevirtual 298, []), (7, .ireturn, [])])
def an_X10_pull : ai_M := (10, yX10_pull, cX10_pull, 3, (some .boolean), [], [(0, .aload_n 0, []), (1, .iload_n 1, []), (2, .iload_n 2, []), (3, .iconst 1, []), (4, .invokevirtual 298, []), (7, .ireturn, [])])
def an_X10_roofs : ai_M := (10, yX10_roofs, cX10_roofs, 3, none, [], [(0, .iconst 0, []), (1, .istore_n 1, []), (2, .iload_n 1, []), (3, .aload_n 0, []), (4, .getfield 134, []), (7, .aload_n 0, []), (8, .getfield 137, []), (11, .imul, []), (12, .if_icmp .ge 124, [136]), (15, .aload_n 0, []), (16, .getfield 35, []), (19, .iload_n 1, []), (20, .iaload, []), (21, .iconst 1, []), (22, .if_icmp .ne 108, [130]), (25, .aload_n 0, []), (26, .getfield 51, []), (29, .iload_n 1, []), (30, .iaload, []), (31, .iconst (-1), []), (32, .if_icmp .eq 6, [38]), (35, .goto 95, [130]), (38, .iconst 0, []), (39, .istore_n 2, []), (40, .iload_n 2, []), (41, .aload_n 0, []), (42, .getfield 143, []), (45, .if_icmp .ge 85, [130]), (48, .aload_n 0, []), (49, .getfield 65, []), (52, .iload_n 2, []), (53, .iaload, []), (54, .iload_n 1, []), (55, .if_icmp .ne 69, [124]), (58, .aload_n 0, []), (59, .getfield 77, []), (62, .iload_n 2, []), (63, .baload, []), (64, .ifCond .ne 60, [124]), (67, .aload_n 0, []), (68, .aload_n 0, []), (69, .getfield 62, []), (72, .iload_n 2, []), (73, .iaload, []), (74, .iload_n 1, []), (75, .invokevirtual 305, []), (78, .ifCond .ne 6, [84]), (81, .goto 43, [124]), (84, .aload_n 0, []), (85, .getfield 51, []), (88, .iload_n 1, []), (89, .iaload, []), (90, .iconst (-1), []), (91, .if_icmp .ne 13, [104]), (94, .aload_n 0, []), (95, .getfield 51, []), (98, .iload_n 1, []), (99, .iload_n 2, []), (100, .iastore, []), (101, .goto 23, [124]), (104, .aload_n 0, []), (105, .getfield 71, []), (108, .iload_n 2, []), (109, .dup2, []), (110, .iaload, []), (111, .iconst 1, []), (112, .iadd, []), (113, .iastore, []), (114, .aload_n 0, []), (115, .dup, []), (116, .getfield 314, []), (119, .iconst 1, []), (120, .iadd, []), (121, .putfield 314, []), (124, .iinc 2 1, []), (127, .goto (-87), [40]), (130, .iinc 1 1, []), (133, .goto (-131), [2]), (136, .return_, [])])
def an_X10_warm : ai_M := (10, yX10_warm, cX10_warm, 6, none, [], [(0, .aload_n 0, []), (1, .getfield 134, []), (4, .aload_n 0, []), (5, .getfield 137, []), (8, .imul, []), (9, .istore_n 1, []), (10, .iconst 0, []), (11, .istore_n 2, []), (12, .iload_n 2, []), (13, .iload_n 1, []), (14, .if_icmp .ge 139, [153]), (17, .aload_n 0, []), (18, .getfield 104, []), (21, .iload_n 2, []), (22, .aload_n 0, []), (23, .getfield 45, []), (26, .iload_n 2, []), (27, .iaload, []), (28, .iastore, []), (29, .aload_n 0, []), (30, .getfield 35, []), (33, .iload_n 2, []), (34, .iaload, []), (35, .ifCond .eq 6, [41]), (38, .goto 109, [147]), (41, .iconst 0, []), (42, .istore_n 3, []), (43, .iload_n 3, []), (44, .iconst 4, []), (45, .if_icmp .ge 84, [129]), (48, .aload_n 0, []), (49, .iload_n 2, []), (50, .iload_n 3, []), (51, .invokevirtual 308, []), (54, .istore 4, []), (56, .iload 4, []), (58, .iconst (-1), []), (59, .if_icmp .eq 64, [123]), (62, .aload_n 0, []), (63, .getfield 35, []), (66, .iload 4, []), (68, .iaload, []), (69, .iconst 1, []), (70, .if_icmp .eq 6, [76]), (73, .goto 50, [123]), (76, .aload_n 0, []), (77, .getfield 104, []), (80, .iload_n 2, []), (81, .dup2, []), (82, .iaload, []), (83, .iconst 2, []), (84, .iadd, []), (85, .iastore, []), (86, .iload_n 3, []), (87, .iconst 2, []), (88, .if_icmp .ge 9, [97]), (91, .iload_n 3, []), (92, .iconst 2, []), (93, .iadd, []), (94, .goto 6, [100]), (97, .iload_n 3, []), (98, .iconst 2, []), (99, .isub, []), (100, .istore 5, []), (102, .aload_n 0, []), (103, .getfield 160, []), (106, .iload 5, []), (108, .iconst 1, []), (109, .iadd, []), (110, .if_icmp .ne 13, [123]), (113, .aload_n 0, []), (114, .getfield 104, []), (117, .iload_n 2, []), (118, .dup2, []), (119, .iaload, []), (120, .iconst 2, []), (121, .iadd, []), (122, .iastore, []), (123, .iinc 3 1, []), (126, .goto (-83), [43]), (129, .aload_n 0, []), (130, .getfield 104, []), (133, .iload_n 2, []), (134, .iconst 0, []), (135, .aload_n 0, []), (136, .getfield 104, []), (139, .iload_n 2, []), (140, .iaload, []), (141, .iconst 1, []), (142, .isub, []), (143, .invokestatic 323, []), (146, .iastore, []), (147, .iinc 2 1, []), (150, .goto (-138), [12]), (153, .iconst 0, []), (154, .istore_n 2, []), (155, .iload_n 2, []), (156, .iload_n 1, []), (157, .if_icmp .ge 51, [208]), (160, .aload_n 0, []), (161, .getfield 107, []), (164, .iload_n 2, []), (165, .aload_n 0, []), (166, .getfield 35, []), (169, .iload_n 2, []), (170, .iaload, []), (171, .ifCond .ne 17, [188]), (174, .aload_n 0, []), (175, .getfield 104, []), (178, .iload_n 2, []), (179, .iaload, []), (180, .iconst 5, []), (181, .if_icmp .lt 7, [188]), (184, .iconst 1, []), (185, .goto 4, [189]), (188, .iconst 0, []), (189, .bastore, []), (190, .aload_n 0, []), (191, .getfield 45, []), (194, .iload_n 2, []), (195, .aload_n 0, []), (196, .getfield 104, []), (199, .iload_n 2, []), (200, .iaload, []), (201, .iastore, []), (202, .iinc 2 1, []), (205, .goto (-50), [155]), (208, .iconst 0, []), (209, .istore_n 2, []), (210, .iload_n 2, []), (211, .iload_n 1, []), (212, .if_icmp .ge 25, [237]), (215, .aload_n 0, []), (216, .getfield 107, []), (219, .iload_n 2, []), (220, .baload, []), (221, .ifCond .eq 10, [231]), (224, .aload_n 0, []), (225, .getfield 35, []), (228, .iload_n 2, []), (229, .iconst 1, []), (230, .iastore, []), (231, .iinc 2 1, []), (234, .goto (-24), [210]), (237, .return_, [])])
def an_X10_hours : ai_M := (10, yX10_hours, cX10_hours, 5, (some .int), [], [(0, .aload_n 0, []), (1, .iconst 0, []), (2, .putfield 140, []), (5, .iload_n 1, []), (6, .ifCond .lt 21, [27]), (9, .iload_n 1, []), (10, .bipush 100, []), (12, .if_icmp .gt 15, [27]), (15, .aload_n 0, []), (16, .getfield 254, []), (19, .iload_n 1, []), (20, .iadd, []), (21, .sipush 2400, []), (24, .if_icmp .le 8, [32]), (27, .aload_n 0, []), (28, .invokevirtual 156, []), (31, .ireturn, []), (32, .aload_n 0, []), (33, .getfield 134, []), (36, .aload_n 0, []), (37, .getfield 137, []), (40, .imul, []), (41, .istore_n 2, []), (42, .iconst 0, []), (43, .istore_n 3, []), (44, .iload_n 3, []), (45, .iload_n 1, []), (46, .if_icmp .ge 170, [216]), (49, .iconst 0, []), (50, .istore 4, []), (52, .iload 4, []), (54, .aload_n 0, []), (55, .getfield 143, []), (58, .if_icmp .ge 15, [73]), (61, .aload_n 0, []), (62, .iload 4, []), (64, .invokevirtual 326, []), (67, .iinc 4 1, []), (70, .goto (-18), [52]), (73, .aload_n 0, []), (74, .invokevirtual 329, []), (77, .iconst 0, []), (78, .istore 4, []), (80, .iload 4, []), (82, .aload_n 0, []), (83, .getfield 143, []), (86, .if_icmp .ge 15, [101]), (89, .aload_n 0, []), (90, .iload 4, []), (92, .invokevirtual 332, []), (95, .iinc 4 1, []), (98, .goto (-18), [80]), (101, .iconst 0, []), (102, .istore 4, []), (104, .iload 4, []), (106, .iload_n 2, []), (107, .if_icmp .ge 26, [133]), (110, .aload_n 0, []), (111, .getfield 35, []), (114, .iload 4, []), (116, .iaload, []), (117, .iconst 1, []), (118, .if_icmp .ne 9, [127]), (121, .aload_n 0, []), (122, .iload 4, []), (124, .invokevirtual 335, []), (127, .iinc 4 1, []), (130, .goto (-26), [104]), (133, .aload_n 0, []), (134, .invokevirtual 338, []), (137, .iconst 0, []), (138, .istore 4, []), (140, .iload 4, []), (142, .iload_n 2, []), (143, .if_icmp .ge 26, [169]), (146, .aload_n 0, []), (147, .getfield 107, []), (150, .iload 4, []), (152, .baload, []), (153, .ifCond .eq 10, [163]), (156, .aload_n 0, []), (157, .iload 4, []), (159, .iconst 1, []), (160, .invokevirtual 288, []), (163, .iinc 4 1, []), (166, .goto (-26), [140]), (169, .iconst 0, []), (170, .istore 4, []), (172, .iload 4, []), (174, .iload_n 2, []), (175, .if_icmp .ge 25, [200]), (178, .aload_n 0, []), (179, .getfield 107, []), (182, .iload 4, []), (184, .baload, []), (185, .ifCond .eq 9, [194]), (188, .aload_n 0, []), (189, .iload 4, []), (191, .invokevirtual 292, []), (194, .iinc 4 1, []), (197, .goto (-25), [172]), (200, .aload_n 0, []), (201, .dup, []), (202, .getfield 254, []), (205, .iconst 1, []), (206, .iadd, []), (207, .putfield 254, []), (210, .iinc 3 1, []), (213, .goto (-169), [44]), (216, .aload_n 0, []), (217, .getfield 254, []), (220, .ireturn, [])])
def an_X10_cell : ai_M := (10, yX10_cell, cX10_cell, 3, (some .int), [], [(0, .aload_n 0, []), (1, .iconst 0, []), (2, .putfield 140, []), (5, .aload_n 0, []), (6, .iload_n 1, []), (7, .invokevirtual 152, []), (10, .ifCond .ne 8, [18]), (13, .aload_n 0, []), (14, .invokevirtual 156, []), (17, .ireturn, []), (18, .iload_n 2, []), (19, .tableswitch 109 0 7 #[45, 52, 59, 66, 73, 80, 87, 94], [128, 64, 71, 78, 85, 92, 99, 106, 113]), (64, .aload_n 0, []), (65, .getfield 35, []), (68, .iload_n 1, []), (69, .iaload, []), (70, .ireturn, []), (71, .aload_n 0, []), (72, .getfield 39, []), (75, .iload_n 1, []), (76, .iaload, []), (77, .ireturn, []), (78, .aload_n 0, []), (79, .getfield 41, []), (82, .iload_n 1, []), (83, .iaload, []), (84, .ireturn, []), (85, .aload_n 0, []), (86, .getfield 43, []), (89, .iload_n 1, []), (90, .iaload, []), (91, .ireturn, []), (92, .aload_n 0, []), (93, .getfield 45, []), (96, .iload_n 1, []), (97, .iaload, []), (98, .ireturn, []), (99, .aload_n 0, []), (100, .getfield 48, []), (103, .iload_n 1, []), (104, .iaload, []), (105, .ireturn, []), (106, .aload_n 0, []), (107, .getfield 51, []), (110, .iload_n 1, []), (111, .iaload, []), (112, .ireturn, []), (113, .aload_n 0, []), (114, .getfield 54, []), (117, .iload_n 1, []), (118, .baload, []), (119, .ifCond .eq 7, [126]), (122, .iconst 1, []), (123, .goto 4, [127]), (126, .iconst 0, []), (127, .ireturn, []), (128, .aload_n 0, []), (129, .invokevirtual 156, []), (132, .ireturn, [])])
def an_X10_of : ai_M := (10, yX10_of, cX10_of, 3, (some .int), [], [(0, .aload_n 0, []), (1, .iconst 0, []), (2, .putfield 140, []), (5, .aload_n 0, []), (6, .iload_n 1, []), (7, .invokevirtual 295, []), (10, .ifCond .ne 8, [18]), (13, .aload_n 0, []), (14, .invokevirtual 156, []), (17, .ireturn, []), (18, .iload_n 2, []), (19, .tableswitch 119 0 7 #[45, 52, 59, 66, 73, 98, 105, 112], [138, 64, 71, 78, 85, 92, 117, 124, 131]), (64, .aload_n 0, []), (65, .getfield 58, []), (68, .iload_n 1, []), (69, .iaload, []), (70, .ireturn, []), (71, .aload_n 0, []), (72, .getfield 60, []), (75, .iload_n 1, []), (76, .iaload, []), (77, .ireturn, []), (78, .aload_n 0, []), (79, .getfield 62, []), (82, .iload_n 1, []), (83, .iaload, []), (84, .ireturn, []), (85, .aload_n 0, []), (86, .getfield 65, []), (89, .iload_n 1, []), (90, .iaload, []), (91, .ireturn, []), (92, .aload_n 0, []), (93, .getfield 65, []), (96, .iload_n 1, []), (97, .iaload, []), (98, .iconst (-1), []), (99, .if_icmp .eq 16, [115]), (102, .aload_n 0, []), (103, .getfield 77, []), (106, .iload_n 1, []), (107, .baload, []), (108, .ifCond .eq 7, [115]), (111, .iconst 1, []), (112, .goto 4, [116]), (115, .iconst 0, []), (116, .ireturn, []), (117, .aload_n 0, []), (118, .getfield 68, []), (121, .iload_n 1, []), (122, .iaload, []), (123, .ireturn, []), (124, .aload_n 0, []), (125, .getfield 71, []), (128, .iload_n 1, []), (129, .iaload, []), (130, .ireturn, []), (131, .aload_n 0, []), (132, .getfield 74, []), (135, .iload_n 1, []), (136, .iaload, []), (137, .ireturn, []), (138, .aload_n 0, []), (139, .invokevirtual 156, []), (142, .ireturn, [])])
def an_X10_breaks : ai_M := (10, yX10_breaks, cX10_breaks, 4, (some .int), [], [(0, .aload_n 0, []), (1, .iconst 0, []), (2, .putfield 140, []), (5, .aload_n 0, []), (6, .iload_n 1, []), (7, .invokevirtual 152, []), (10, .ifCond .ne 8, [18]), (13, .aload_n 0, []), (14, .invokevirtual 156, []), (17, .ireturn, []), (18, .aload_n 0, []), (19, .getfield 35, []), (22, .iload_n 1, []), (23, .iaload, []), (24, .ifCond .ne 11, [35]), (27, .aload_n 0, []), (28, .iload_n 1, []), (29, .invokevirtual 344, []), (32, .ifCond .eq 5, [37]), (35, .iconst (-1), []), (36, .ireturn, []), (37, .iconst 0, []), (38, .istore_n 2, []), (39, .iload_n 2, []), (40, .bipush 64, []), (42, .if_icmp .ge 16, [58]), (45, .aload_n 0, []), (46, .getfield 110, []), (49, .iload_n 2, []), (50, .iconst 0, []), (51, .bastore, []), (52, .iinc 2 1, []), (55, .goto (-16), [39]), (58, .aload_n 0, []), (59, .iload_n 1, []), (60, .invokevirtual 354, []), (63, .istore_n 2, []), (64, .aload_n 0, []), (65, .iconst 0, []), (66, .putfield 357, []), (69, .iconst 0, []), (70, .istore_n 3, []), (71, .iload_n 3, []), (72, .aload_n 0, []), (73, .getfield 134, []), (76, .aload_n 0, []), (77, .getfield 137, []), (80, .imul, []), (81, .if_icmp .ge 81, [162]), (84, .iload_n 2, []), (85, .ifCond .le 77, [162]), (88, .aload_n 0, []), (89, .getfield 35, []), (92, .iload_n 3, []), (93, .iaload, []), (94, .ifCond .ne 62, [156]), (97, .iload_n 3, []), (98, .iload_n 1, []), (99, .if_icmp .ne 6, [105]), (102, .goto 54, [156]), (105, .aload_n 0, []), (106, .getfield 110, []), (109, .iload_n 3, []), (110, .iconst 1, []), (111, .bastore, []), (112, .aload_n 0, []), (113, .iload_n 1, []), (114, .invokevirtual 354, []), (117, .iload_n 2, []), (118, .iconst 1, []), (119, .isub, []), (120, .if_icmp .ne 29, [149]), (123, .aload_n 0, []), (124, .getfield 113, []), (127, .aload_n 0, []), (128, .getfield 357, []), (131, .iload_n 3, []), (132, .iastore, []), (133, .aload_n 0, []), (134, .dup, []), (135, .getfield 357, []), (138, .iconst 1, []), (139, .iadd, []), (140, .putfield 357, []), (143, .iinc 2 (-1), []), (146, .goto 10, [156]), (149, .aload_n 0, []), (150, .getfield 110, []), (153, .iload_n 3, []), (154, .iconst 0, []), (155, .bastore, []), (156, .iinc 3 1, []), (159, .goto (-88), [71]), (162, .aload_n 0, []), (163, .getfield 357, []), (166, .ireturn, [])])
def an_X10_breaker : ai_M := (10, yX10_breaker, cX10_breaker, 2, (some .int), [], [(0, .aload_n 0, []), (1, .iconst 0, []), (2, .putfield 140, []), (5, .iload_n 1, []), (6, .ifCond .lt 11, [17]), (9, .iload_n 1, []), (10, .aload_n 0, []), (11, .getfield 357, []), (14, .if_icmp .lt 10, [24]), (17, .aload_n 0, []), (18, .invokevirtual 156, []), (21, .goto 9, [30]), (24, .aload_n 0, []), (25, .getfield 113, []), (28, .iload_n 1, []), (29, .iaload, []), (30, .ireturn, [])])
def an_X10_count : ai_M := (10, yX10_count, cX10_count, 2, (some .int), [], [(0, .aload_n 0, []), (1, .iconst 0, []), (2, .putfield 140, []), (5, .iload_n 1, []), (6, .tableswitch 108 0 9 #[54, 59, 65, 71, 77, 83, 88, 93, 98, 103], [114, 60, 65, 71, 77, 83, 89, 94, 99, 104, 109]), (60, .aload_n 0, []), (61, .getfield 254, []), (64, .ireturn, []), (65, .aload_n 0, []), (66, .iconst 1, []), (67, .invokevirtual 260, []), (70, .ireturn, []), (71, .aload_n 0, []), (72, .iconst 0, []), (73, .invokevirtual 260, []), (76, .ireturn, []), (77, .aload_n 0, []), (78, .iconst 2, []), (79, .invokevirtual 260, []), (82, .ireturn, []), (83, .aload_n 0, []), (84, .iconst 3, []), (85, .invokevirtual 260, []), (88, .ireturn, []), (89, .aload_n 0, []), (90, .getfield 143, []), (93, .ireturn, []), (94, .aload_n 0, []), (95, .getfield 206, []), (98, .ireturn, []), (99, .aload_n 0, []), (100, .getfield 314, []), (103, .ireturn, []), (104, .aload_n 0, []), (105, .getfield 163, []), (108, .ireturn, []), (109, .aload_n 0, []), (110, .invokevirtual 273, []), (113, .ireturn, []), (114, .aload_n 0, []), (115, .invokevirtual 156, []), (118, .ireturn, [])])
def an_J7_fill_53178 : ai_M := (12, yJ7_fill_53178, cJ7_fill_53178, 4, none, [], [(0, .iconst 0, []), (1, .istore_n 2, []), (2, .aload_n 0, []), (3, .arraylength, []), (4, .istore_n 3, []), (5, .iload_n 2, []), (6, .iload_n 3, []), (7, .if_icmp .ge 13, [20]), (10, .aload_n 0, []), (11, .iload_n 2, []), (12, .iload_n 1, []), (13, .iastore, []), (14, .iinc 2 1, []), (17, .goto (-12), [5]), (20, .return_, [])])
def an_L_cell : ai_M := (11, yL_cell, cL_cell, 2, (some .int), [], [(0, .iload_n 1, []), (1, .aload_n 0, []), (2, .arraylength, []), (3, .if_icmp .ge 9, [12]), (6, .aload_n 0, []), (7, .iload_n 1, []), (8, .iaload, []), (9, .goto 4, [13]), (12, .iconst 0, []), (13, .ireturn, [])])
def an_L_house : ai_M := (11, yL_house, cL_house, 6, (some .int), [(0, 19, 22, 13)], [(0, .aload 4, []), (2, .iconst 0, []), (3, .aload_n 0, []), (4, .iload_n 1, []), (5, .iload_n 2, []), (6, .iload_n 3, []), (7, .invokevirtual 7, []), (10, .ifCond .eq 7, [17]), (13, .lconst 1, []), (14, .goto 4, [18]), (17, .lconst 0, []), (18, .lastore, []), (19, .goto 7, [26]), (22, .astore 5, []), (24, .iconst 1, []), (25, .ireturn, []), (26, .iconst 0, []), (27, .ireturn, [])])
def an_L_well : ai_M := (11, yL_well, cL_well, 5, (some .int), [(0, 17, 20, 13)], [(0, .aload_n 3, []), (1, .iconst 0, []), (2, .aload_n 0, []), (3, .iload_n 1, []), (4, .iload_n 2, []), (5, .invokevirtual 15, []), (8, .ifCond .eq 7, [15]), (11, .lconst 1, []), (12, .goto 4, [16]), (15, .lconst 0, []), (16, .lastore, []), (17, .goto 7, [24]), (20, .astore 4, []), (22, .iconst 1, []), (23, .ireturn, []), (24, .iconst 0, []), (25, .ireturn, [])])
def an_L_wind : ai_M := (11, yL_wind, cL_wind, 4, (some .int), [(0, 9, 12, 23)], [(0, .aload_n 2, []), (1, .iconst 0, []), (2, .aload_n 0, []), (3, .iload_n 1, []), (4, .invokevirtual 19, []), (7, .i2l, []), (8, .lastore, []), (9, .goto 6, [15]), (12, .astore_n 3, []), (13, .iconst 1, []), (14, .ireturn, []), (15, .iconst 0, []), (16, .ireturn, [])])
def an_L_company : ai_M := (11, yL_company, cL_company, 6, (some .int), [(0, 12, 15, 13)], [(0, .aload 4, []), (2, .iconst 0, []), (3, .aload_n 0, []), (4, .iload_n 1, []), (5, .iload_n 2, []), (6, .iload_n 3, []), (7, .invokevirtual 25, []), (10, .i2l, []), (11, .lastore, []), (12, .goto 7, [19]), (15, .astore 5, []), (17, .iconst 1, []), (18, .ireturn, []), (19, .iconst 0, []), (20, .ireturn, [])])
def an_L_law : ai_M := (11, yL_law, cL_law, 5, (some .int), [(0, 10, 13, 23)], [(0, .aload_n 3, []), (1, .iconst 0, []), (2, .aload_n 0, []), (3, .iload_n 1, []), (4, .iload_n 2, []), (5, .invokevirtual 29, []), (8, .i2l, []), (9, .lastore, []), (10, .goto 7, [17]), (13, .astore 4, []), (15, .iconst 1, []), (16, .ireturn, []), (17, .iconst 0, []), (18, .ireturn, [])])
def an_L_light : ai_M := (11, yL_light, cL_light, 4, (some .int), [(0, 9, 12, 13)], [(0, .aload_n 2, []), (1, .iconst 0, []), (2, .aload_n 0, []), (3, .iload_n 1, []), (4, .invokevirtual 33, []), (7, .i2l, []), (8, .lastore, []), (9, .goto 6, [15]), (12, .astore_n 3, []), (13, .iconst 1, []), (14, .ireturn, []), (15, .iconst 0, []), (16, .ireturn, [])])
def an_L_send : ai_M := (11, yL_send, cL_send, 5, (some .int), [(0, 17, 20, 13)], [(0, .aload_n 3, []), (1, .iconst 0, []), (2, .aload_n 0, []), (3, .iload_n 1, []), (4, .iload_n 2, []), (5, .invokevirtual 36, []), (8, .ifCond .eq 7, [15]), (11, .lconst 1, []), (12, .goto 4, [16]), (15, .lconst 0, []), (16, .lastore, []), (17, .goto 7, [24]), (20, .astore 4, []), (22, .iconst 1, []), (23, .ireturn, []), (24, .iconst 0, []), (25, .ireturn, [])])
def an_L_pull : ai_M := (11, yL_pull, cL_pull, 5, (some .int), [(0, 17, 20, 13)], [(0, .aload_n 3, []), (1, .iconst 0, []), (2, .aload_n 0, []), (3, .iload_n 1, []), (4, .iload_n 2, []), (5, .invokevirtual 40, []), (8, .ifCond .eq 7, [15]), (11, .lconst 1, []), (12, .goto 4, [16]), (15, .lconst 0, []), (16, .lastore, []), (17, .goto 7, [24]), (20, .astore 4, []), (22, .iconst 1, []), (23, .ireturn, []), (24, .iconst 0, []), (25, .ireturn, [])])
def an_L_hours : ai_M := (11, yL_hours, cL_hours, 4, (some .int), [(0, 9, 12, 23)], [(0, .aload_n 2, []), (1, .iconst 0, []), (2, .aload_n 0, []), (3, .iload_n 1, []), (4, .invokevirtual 43, []), (7, .i2l, []), (8, .lastore, []), (9, .goto 6, [15]), (12, .astore_n 3, []), (13, .iconst 1, []), (14, .ireturn, []), (15, .iconst 0, []), (16, .ireturn, [])])
def an_L_cell_ : ai_M := (11, yL_cell_, cL_cell_, 5, (some .int), [(0, 10, 13, 13)], [(0, .aload_n 3, []), (1, .iconst 0, []), (2, .aload_n 0, []), (3, .iload_n 1, []), (4, .iload_n 2, []), (5, .invokevirtual 46, []), (8, .i2l, []), (9, .lastore, []), (10, .goto 7, [17]), (13, .astore 4, []), (15, .iconst 1, []), (16, .ireturn, []), (17, .iconst 0, []), (18, .ireturn, [])])
def an_L_of : ai_M := (11, yL_of, cL_of, 5, (some .int), [(0, 10, 13, 13)], [(0, .aload_n 3, []), (1, .iconst 0, []), (2, .aload_n 0, []), (3, .iload_n 1, []), (4, .iload_n 2, []), (5, .invokevirtual 49, []), (8, .i2l, []), (9, .lastore, []), (10, .goto 7, [17]), (13, .astore 4, []), (15, .iconst 1, []), (16, .ireturn, []), (17, .iconst 0, []), (18, .ireturn, [])])
def an_L_breaks : ai_M := (11, yL_breaks, cL_breaks, 4, (some .int), [(0, 9, 12, 13)], [(0, .aload_n 2, []), (1, .iconst 0, []), (2, .aload_n 0, []), (3, .iload_n 1, []), (4, .invokevirtual 52, []), (7, .i2l, []), (8, .lastore, []), (9, .goto 6, [15]), (12, .astore_n 3, []), (13, .iconst 1, []), (14, .ireturn, []), (15, .iconst 0, []), (16, .ireturn, [])])
def an_L_breaker : ai_M := (11, yL_breaker, cL_breaker, 4, (some .int), [(0, 9, 12, 13)], [(0, .aload_n 2, []), (1, .iconst 0, []), (2, .aload_n 0, []), (3, .iload_n 1, []), (4, .invokevirtual 55, []), (7, .i2l, []), (8, .lastore, []), (9, .goto 6, [15]), (12, .astore_n 3, []), (13, .iconst 1, []), (14, .ireturn, []), (15, .iconst 0, []), (16, .ireturn, [])])
def an_L_count : ai_M := (11, yL_count, cL_count, 4, (some .int), [(0, 9, 12, 13)], [(0, .aload_n 2, []), (1, .iconst 0, []), (2, .aload_n 0, []), (3, .iload_n 1, []), (4, .invokevirtual 58, []), (7, .i2l, []), (8, .lastore, []), (9, .goto 6, [15]), (12, .astore_n 3, []), (13, .iconst 1, []), (14, .ireturn, []), (15, .iconst 0, []), (16, .ireturn, [])])
def an_ms : List ai_M := [an_X0_init, an_X0_init, an_X0_has, an_X0_build, an_X0_tally, an_X0_warmUp, an_X1_init, an_X1_has, an_X1_enlist, an_X1_allQuarrels, an_X2_init, an_X3_init, an_X4_init, an_X4_enter, an_X4_begin, an_X4_inForce, an_X5_init, an_X5_reads, an_X6_init, an_X6_put, an_X7_init, an_X7_scan, an_X7_add, an_X8_init, an_X9_init, an_X9_house, an_X9_well, an_X9_wind, an_X9_company, an_X9_feed, an_X9_law, an_X9_fault, an_X9_light, an_X9_send, an_X9_pull, an_X9_hours, an_X9_cell, an_X9_of, an_X9_breaks, an_X9_breaker, an_X9_count, an_X9_needCell, an_X9_needCrew, an_X9_isWard, an_X9_order, an_X9_passHour, an_X9_crewsGo, an_X9_giveRoofs, an_X9_crewsWork, an_X9_fireEats, an_X9_ringBells, an_X10_init, an_X10_thrown, an_X10_fail, an_X10_isCell, an_X10_isCompany, an_X10_house, an_X10_well, an_X10_wind, an_X10_company, an_X10_feed, an_X10_byteAt, an_X10_step, an_X10_readLaw, an_X10_law, an_X10_fault, an_X10_force, an_X10_many, an_X10_light, an_X10_aim, an_X10_send, an_X10_pull, an_X10_roofs, an_X10_warm, an_X10_hours, an_X10_cell, an_X10_of, an_X10_breaks, an_X10_breaker, an_X10_count, an_J7_fill_53178, an_L_cell, an_L_house, an_L_well, an_L_wind, an_L_company, an_L_law, an_L_light, an_L_send, an_L_pull, an_L_hours, an_L_cell_, an_L_of, an_L_breaks, an_L_breaker, an_L_count]
end
section
/-! the tables are those of the bytes -/
def an_kd : List Nat := [0, 2, 1, 1, 1, 1, 2, 1, 1, 1, 2, 2, 2, 1, 1, 1, 2, 1, 2, 1, 2, 1, 1, 2, 2, 1, 1, 1, 1, 1, 1, 1, 1, 1, 1, 1, 1, 1, 1, 1, 1, 1, 1, 3, 1, 1, 1, 1, 1, 1, 1, 2, 1, 1, 1, 1, 1, 1, 1, 1, 1, 1, 1, 1, 1, 1, 1, 1, 1, 1, 1, 1, 1, 1, 1, 1, 1, 1, 1, 1, 3, 3, 3, 3, 3, 3, 3, 3, 3, 3, 3, 3, 3, 3, 3, 3]
set_option maxRecDepth 100000 in
theorem an_K0 : ak_K an_ms RX0 an_lk0 [134, 138, 139, 140, 143, 147, 149, 151, 153, 155, 157, 159, 162] [] [130, 131, 963, 967] [] = true := by decide +kernel
set_option maxRecDepth 100000 in
theorem an_K1 : ak_K an_ms RX1 an_lk1 [198, 200, 202, 204, 206, 208, 210, 212, 214] [] [197] [] = true := by decide +kernel
set_option maxRecDepth 100000 in
theorem an_K2 : ak_K an_ms RX2 an_lk2 [379, 383, 136, 384, 385, 386, 387, 388, 389, 390, 391, 393, 381, 144, 392, 142] [] [378, 1010, 1015] [] = true := by decide +kernel
set_option maxRecDepth 100000 in
theorem an_K3 : ak_K an_ms RX3 an_lk3 [340, 341, 336, 338, 342, 319, 316, 314] [] [335, 833] [] = true := by decide +kernel
set_option maxRecDepth 100000 in
theorem an_K4 : ak_K an_ms RX4 an_lk4 [313, 315, 317, 318] [] [312, 776, 780] [] = true := by decide +kernel
set_option maxRecDepth 100000 in
theorem an_K5 : ak_K an_ms RX5 an_lk5 [285, 291, 292, 264, 293, 287, 289, 266, 268] [257] [256, 259, 616] [] = true := by decide +kernel
set_option maxRecDepth 100000 in
theorem an_K6 : ak_K an_ms RX6 an_lk6 [241, 243] [] [240] [] = true := by decide +kernel
set_option maxRecDepth 100000 in
theorem an_K7 : ak_K an_ms RX7 an_lk7 [263, 265, 269, 270, 271, 267] [] [262, 620, 720] [] = true := by decide +kernel
set_option maxRecDepth 100000 in
theorem an_K8 : ak_K an_ms RX8 an_lk8 [360, 135, 361, 362, 141, 363, 146] [] [359, 914, 909] [] = true := by decide +kernel
set_option maxRecDepth 100000 in
theorem an_K9 : ak_K an_ms RX9 an_lk9 [421, 422, 423, 242, 424, 425, 426, 427, 428, 137, 429, 431, 145, 160, 161, 244, 320, 290, 286, 288, 430, 432, 148, 150, 152, 154, 156, 158, 199, 201, 203, 205, 207, 209, 211, 213, 382, 380, 215, 337, 339] [125, 192, 235, 251, 307, 330, 354, 373] [122, 127, 99999, 99999, 253, 99999, 99999, 356, 375, 481, 555, 558, 600, 462, 612, 772, 790, 860, 888, 864, 802, 1051, 798, 485, 868, 892, 915, 923, 935, 951] [577, 489] = true := by decide +kernel
set_option maxRecDepth 100000 in
theorem an_K10 : ak_K an_ms RX10 an_lk10 [1072, 1081, 1083, 1084, 1085, 1086, 1087, 1088, 1089, 1090, 1091, 1092, 1093, 1094, 1095, 1096, 1097, 1098, 1099, 1100, 1101, 1102, 1103, 1104, 1105, 1116, 1117, 1118, 1119, 1120, 1121, 1122, 1123, 1125, 1126, 1127, 1074, 1075, 1073, 1078, 1077, 1080, 1108, 1107, 1111, 1110, 1109, 1112, 1113, 1114, 1079, 1106, 1076, 1115, 1082, 1124] [] [1061, 1249, 1253, 1285, 1281, 1277, 1375, 1354, 1390, 1386, 1446, 1422, 1442] [1062] = true := by decide +kernel
set_option maxRecDepth 100000 in
theorem an_K11 : ak_K an_ms RL an_lk11 [] [117, 1056] [477, 565, 573, 596, 607, 786, 856, 876, 883, 973, 981, 989, 1039, 1047, 470, 119, 1058, 473, 1245, 1241, 562, 1257, 569, 1261, 593, 1265, 458, 1269, 604, 1273, 466, 1334, 783, 1338, 853, 1382, 873, 1394, 880, 1398, 970, 1447, 978, 1451, 986, 1455, 1036, 1479, 1044, 1483] [476, 572] = true := by decide +kernel
set_option maxRecDepth 100000 in
theorem an_K12 : ak_K an_ms RJ7 an_lk12 [] [] [] [] = true := by decide +kernel
set_option maxRecDepth 100000 in
theorem an_c_X0_init : ak_cM 2 (95, 129, 128, 0) an_X0_init = true := by decide +kernel
set_option maxRecDepth 100000 in
theorem an_c_X0_has : ak_cM 1 (95, 488, 486, 487) an_X0_has = true := by decide +kernel
set_option maxRecDepth 100000 in
theorem an_c_X0_build : ak_cM 1 (95, 561, 559, 560) an_X0_build = true := by decide +kernel
set_option maxRecDepth 100000 in
theorem an_c_X0_tally : ak_cM 1 (95, 805, 803, 804) an_X0_tally = true := by decide +kernel
set_option maxRecDepth 100000 in
theorem an_c_X0_warmUp : ak_cM 1 (95, 954, 952, 953) an_X0_warmUp = true := by decide +kernel
set_option maxRecDepth 100000 in
theorem an_c_X1_init : ak_cM 2 (97, 196, 195, 0) an_X1_init = true := by decide +kernel
set_option maxRecDepth 100000 in
theorem an_c_X1_has : ak_cM 1 (97, 871, 869, 870) an_X1_has = true := by decide +kernel
set_option maxRecDepth 100000 in
theorem an_c_X1_enlist : ak_cM 1 (97, 603, 601, 602) an_X1_enlist = true := by decide +kernel
set_option maxRecDepth 100000 in
theorem an_c_X1_allQuarrels : ak_cM 1 (97, 1054, 1052, 1053) an_X1_allQuarrels = true := by decide +kernel
set_option maxRecDepth 100000 in
theorem an_c_X2_init : ak_cM 2 (104, 377, 376, 0) an_X2_init = true := by decide +kernel
set_option maxRecDepth 100000 in
theorem an_c_X3_init : ak_cM 2 (102, 334, 333, 0) an_X3_init = true := by decide +kernel
set_option maxRecDepth 100000 in
theorem an_c_X4_init : ak_cM 2 (101, 311, 310, 0) an_X4_init = true := by decide +kernel
set_option maxRecDepth 100000 in
theorem an_c_X4_enter : ak_cM 1 (101, 775, 773, 774) an_X4_enter = true := by decide +kernel
set_option maxRecDepth 100000 in
theorem an_c_X4_begin : ak_cM 1 (101, 779, 777, 778) an_X4_begin = true := by decide +kernel
set_option maxRecDepth 100000 in
theorem an_c_X4_inForce : ak_cM 1 (101, 801, 799, 800) an_X4_inForce = true := by decide +kernel
set_option maxRecDepth 100000 in
theorem an_c_X5_init : ak_cM 2 (99, 255, 254, 0) an_X5_init = true := by decide +kernel
set_option maxRecDepth 100000 in
theorem an_c_X5_reads : ak_cM 1 (99, 615, 613, 614) an_X5_reads = true := by decide +kernel
set_option maxRecDepth 100000 in
theorem an_c_X6_init : ak_cM 2 (98, 239, 238, 0) an_X6_init = true := by decide +kernel
set_option maxRecDepth 100000 in
theorem an_c_X6_put : ak_cM 1 (98, 465, 463, 464) an_X6_put = true := by decide +kernel
set_option maxRecDepth 100000 in
theorem an_c_X7_init : ak_cM 2 (100, 261, 260, 0) an_X7_init = true := by decide +kernel
set_option maxRecDepth 100000 in
theorem an_c_X7_scan : ak_cM 1 (100, 619, 617, 618) an_X7_scan = true := by decide +kernel
set_option maxRecDepth 100000 in
theorem an_c_X7_add : ak_cM 1 (100, 723, 722, 11) an_X7_add = true := by decide +kernel
set_option maxRecDepth 100000 in
theorem an_c_X8_init : ak_cM 2 (103, 358, 357, 0) an_X8_init = true := by decide +kernel
set_option maxRecDepth 100000 in
theorem an_c_X9_init : ak_cM 2 (94, 121, 120, 0) an_X9_init = true := by decide +kernel
set_option maxRecDepth 100000 in
theorem an_c_X9_house : ak_cM 1 (94, 480, 478, 479) an_X9_house = true := by decide +kernel
set_option maxRecDepth 100000 in
theorem an_c_X9_well : ak_cM 1 (94, 568, 566, 567) an_X9_well = true := by decide +kernel
set_option maxRecDepth 100000 in
theorem an_c_X9_wind : ak_cM 1 (94, 576, 574, 575) an_X9_wind = true := by decide +kernel
set_option maxRecDepth 100000 in
theorem an_c_X9_company : ak_cM 1 (94, 599, 597, 598) an_X9_company = true := by decide +kernel
set_option maxRecDepth 100000 in
theorem an_c_X9_feed : ak_cM 1 (94, 461, 459, 460) an_X9_feed = true := by decide +kernel
set_option maxRecDepth 100000 in
theorem an_c_X9_law : ak_cM 1 (94, 610, 608, 609) an_X9_law = true := by decide +kernel
set_option maxRecDepth 100000 in
theorem an_c_X9_fault : ak_cM 1 (94, 469, 467, 468) an_X9_fault = true := by decide +kernel
set_option maxRecDepth 100000 in
theorem an_c_X9_light : ak_cM 1 (94, 789, 787, 788) an_X9_light = true := by decide +kernel
set_option maxRecDepth 100000 in
theorem an_c_X9_send : ak_cM 1 (94, 859, 857, 858) an_X9_send = true := by decide +kernel
set_option maxRecDepth 100000 in
theorem an_c_X9_pull : ak_cM 1 (94, 879, 877, 878) an_X9_pull = true := by decide +kernel
set_option maxRecDepth 100000 in
theorem an_c_X9_hours : ak_cM 1 (94, 886, 884, 885) an_X9_hours = true := by decide +kernel
set_option maxRecDepth 100000 in
theorem an_c_X9_cell : ak_cM 1 (94, 976, 974, 975) an_X9_cell = true := by decide +kernel
set_option maxRecDepth 100000 in
theorem an_c_X9_of : ak_cM 1 (94, 984, 982, 983) an_X9_of = true := by decide +kernel
set_option maxRecDepth 100000 in
theorem an_c_X9_breaks : ak_cM 1 (94, 992, 990, 991) an_X9_breaks = true := by decide +kernel
set_option maxRecDepth 100000 in
theorem an_c_X9_breaker : ak_cM 1 (94, 1042, 1040, 1041) an_X9_breaker = true := by decide +kernel
set_option maxRecDepth 100000 in
theorem an_c_X9_count : ak_cM 1 (94, 1050, 1048, 1049) an_X9_count = true := by decide +kernel
set_option maxRecDepth 100000 in
theorem an_c_X9_needCell : ak_cM 1 (94, 484, 483, 0) an_X9_needCell = true := by decide +kernel
set_option maxRecDepth 100000 in
theorem an_c_X9_needCrew : ak_cM 1 (94, 867, 866, 31) an_X9_needCrew = true := by decide +kernel
set_option maxRecDepth 100000 in
theorem an_c_X9_isWard : ak_cM 3 (94, 557, 556, 0) an_X9_isWard = true := by decide +kernel
set_option maxRecDepth 100000 in
theorem an_c_X9_order : ak_cM 1 (94, 863, 862, 30) an_X9_order = true := by decide +kernel
set_option maxRecDepth 100000 in
theorem an_c_X9_passHour : ak_cM 1 (94, 891, 890, 32) an_X9_passHour = true := by decide +kernel
set_option maxRecDepth 100000 in
theorem an_c_X9_crewsGo : ak_cM 1 (94, 895, 894, 33) an_X9_crewsGo = true := by decide +kernel
set_option maxRecDepth 100000 in
theorem an_c_X9_giveRoofs : ak_cM 1 (94, 918, 917, 36) an_X9_giveRoofs = true := by decide +kernel
set_option maxRecDepth 100000 in
theorem an_c_X9_crewsWork : ak_cM 1 (94, 926, 925, 38) an_X9_crewsWork = true := by decide +kernel
set_option maxRecDepth 100000 in
theorem an_c_X9_fireEats : ak_cM 1 (94, 938, 937, 40) an_X9_fireEats = true := by decide +kernel
set_option maxRecDepth 100000 in
theorem an_c_X9_ringBells : ak_cM 1 (94, 793, 792, 23) an_X9_ringBells = true := by decide +kernel
set_option maxRecDepth 100000 in
theorem an_c_X10_init : ak_cM 2 (105, 1060, 1059, 0) an_X10_init = true := by decide +kernel
set_option maxRecDepth 100000 in
theorem an_c_X10_thrown : ak_cM 1 (105, 1244, 1242, 1243) an_X10_thrown = true := by decide +kernel
set_option maxRecDepth 100000 in
theorem an_c_X10_fail : ak_cM 1 (105, 1256, 1255, 54) an_X10_fail = true := by decide +kernel
set_option maxRecDepth 100000 in
theorem an_c_X10_isCell : ak_cM 1 (105, 1252, 1251, 53) an_X10_isCell = true := by decide +kernel
set_option maxRecDepth 100000 in
theorem an_c_X10_isCompany : ak_cM 1 (105, 1393, 1392, 76) an_X10_isCompany = true := by decide +kernel
set_option maxRecDepth 100000 in
theorem an_c_X10_house : ak_cM 1 (105, 1248, 1246, 1247) an_X10_house = true := by decide +kernel
set_option maxRecDepth 100000 in
theorem an_c_X10_well : ak_cM 1 (105, 1260, 1258, 1259) an_X10_well = true := by decide +kernel
set_option maxRecDepth 100000 in
theorem an_c_X10_wind : ak_cM 1 (105, 1264, 1262, 1263) an_X10_wind = true := by decide +kernel
set_option maxRecDepth 100000 in
theorem an_c_X10_company : ak_cM 1 (105, 1268, 1266, 1267) an_X10_company = true := by decide +kernel
set_option maxRecDepth 100000 in
theorem an_c_X10_feed : ak_cM 1 (105, 1272, 1270, 1271) an_X10_feed = true := by decide +kernel
set_option maxRecDepth 100000 in
theorem an_c_X10_byteAt : ak_cM 1 (105, 1288, 1287, 57) an_X10_byteAt = true := by decide +kernel
set_option maxRecDepth 100000 in
theorem an_c_X10_step : ak_cM 1 (105, 1284, 1283, 56) an_X10_step = true := by decide +kernel
set_option maxRecDepth 100000 in
theorem an_c_X10_readLaw : ak_cM 1 (105, 1280, 1279, 55) an_X10_readLaw = true := by decide +kernel
set_option maxRecDepth 100000 in
theorem an_c_X10_law : ak_cM 1 (105, 1276, 1274, 1275) an_X10_law = true := by decide +kernel
set_option maxRecDepth 100000 in
theorem an_c_X10_fault : ak_cM 1 (105, 1337, 1335, 1336) an_X10_fault = true := by decide +kernel
set_option maxRecDepth 100000 in
theorem an_c_X10_force : ak_cM 1 (105, 1357, 1356, 69) an_X10_force = true := by decide +kernel
set_option maxRecDepth 100000 in
theorem an_c_X10_many : ak_cM 1 (105, 1378, 1377, 74) an_X10_many = true := by decide +kernel
set_option maxRecDepth 100000 in
theorem an_c_X10_light : ak_cM 1 (105, 1341, 1339, 1340) an_X10_light = true := by decide +kernel
set_option maxRecDepth 100000 in
theorem an_c_X10_aim : ak_cM 1 (105, 1389, 1388, 75) an_X10_aim = true := by decide +kernel
set_option maxRecDepth 100000 in
theorem an_c_X10_send : ak_cM 1 (105, 1385, 1383, 1384) an_X10_send = true := by decide +kernel
set_option maxRecDepth 100000 in
theorem an_c_X10_pull : ak_cM 1 (105, 1397, 1395, 1396) an_X10_pull = true := by decide +kernel
set_option maxRecDepth 100000 in
theorem an_c_X10_roofs : ak_cM 1 (105, 1425, 1424, 82) an_X10_roofs = true := by decide +kernel
set_option maxRecDepth 100000 in
theorem an_c_X10_warm : ak_cM 1 (105, 1445, 1444, 87) an_X10_warm = true := by decide +kernel
set_option maxRecDepth 100000 in
theorem an_c_X10_hours : ak_cM 1 (105, 1401, 1399, 1400) an_X10_hours = true := by decide +kernel
set_option maxRecDepth 100000 in
theorem an_c_X10_cell : ak_cM 1 (105, 1450, 1448, 1449) an_X10_cell = true := by decide +kernel
set_option maxRecDepth 100000 in
theorem an_c_X10_of : ak_cM 1 (105, 1454, 1452, 1453) an_X10_of = true := by decide +kernel
set_option maxRecDepth 100000 in
theorem an_c_X10_breaks : ak_cM 1 (105, 1458, 1456, 1457) an_X10_breaks = true := by decide +kernel
set_option maxRecDepth 100000 in
theorem an_c_X10_breaker : ak_cM 1 (105, 1482, 1480, 1481) an_X10_breaker = true := by decide +kernel
set_option maxRecDepth 100000 in
theorem an_c_X10_count : ak_cM 1 (105, 1486, 1484, 1485) an_X10_count = true := by decide +kernel
set_option maxRecDepth 100000 in
theorem an_c_J7_fill_53178 : ak_cM 3 (96, 133, 132, 0) an_J7_fill_53178 = true := by decide +kernel
set_option maxRecDepth 100000 in
theorem an_c_L_cell : ak_cM 3 (93, 472, 471, 0) an_L_cell = true := by decide +kernel
set_option maxRecDepth 100000 in
theorem an_c_L_house : ak_cM 3 (93, 475, 474, 0) an_L_house = true := by decide +kernel
set_option maxRecDepth 100000 in
theorem an_c_L_well : ak_cM 3 (93, 564, 563, 0) an_L_well = true := by decide +kernel
set_option maxRecDepth 100000 in
theorem an_c_L_wind : ak_cM 3 (93, 571, 570, 0) an_L_wind = true := by decide +kernel
set_option maxRecDepth 100000 in
theorem an_c_L_company : ak_cM 3 (93, 595, 594, 0) an_L_company = true := by decide +kernel
set_option maxRecDepth 100000 in
theorem an_c_L_law : ak_cM 3 (93, 606, 605, 0) an_L_law = true := by decide +kernel
set_option maxRecDepth 100000 in
theorem an_c_L_light : ak_cM 3 (93, 785, 784, 0) an_L_light = true := by decide +kernel
set_option maxRecDepth 100000 in
theorem an_c_L_send : ak_cM 3 (93, 855, 854, 0) an_L_send = true := by decide +kernel
set_option maxRecDepth 100000 in
theorem an_c_L_pull : ak_cM 3 (93, 875, 874, 0) an_L_pull = true := by decide +kernel
set_option maxRecDepth 100000 in
theorem an_c_L_hours : ak_cM 3 (93, 882, 881, 0) an_L_hours = true := by decide +kernel
set_option maxRecDepth 100000 in
theorem an_c_L_cell_ : ak_cM 3 (93, 972, 971, 0) an_L_cell_ = true := by decide +kernel
set_option maxRecDepth 100000 in
theorem an_c_L_of : ak_cM 3 (93, 980, 979, 0) an_L_of = true := by decide +kernel
set_option maxRecDepth 100000 in
theorem an_c_L_breaks : ak_cM 3 (93, 988, 987, 0) an_L_breaks = true := by decide +kernel
set_option maxRecDepth 100000 in
theorem an_c_L_breaker : ak_cM 3 (93, 1038, 1037, 0) an_L_breaker = true := by decide +kernel
set_option maxRecDepth 100000 in
theorem an_c_L_count : ak_cM 3 (93, 1046, 1045, 0) an_L_count = true := by decide +kernel
def an_ta : List (Nat × Nat × String) := [(9, 109, "java/lang/IllegalArgumentException"), (9, 187, "java/util/NoSuchElementException")]
set_option maxRecDepth 100000 in
theorem an_ta0 : ak_ta an_on (9, 109, "java/lang/IllegalArgumentException") [106, 511, 520, 523, 526, 528, 512, 513, 123, 124, 514, 519, 524, 544, 501, 545, 503, 546, 505, 515, 517, 507, 540, 541, 543, 507, 588, 589, 590, 534, 0, 534, 535, 536, 537, 0, 537, 538, 539, 540, 0, 587, 578, 0, 580, 522, 581, 582, 583, 584, 510, 509, 585, 110] = true := by decide +kernel
set_option maxRecDepth 100000 in
theorem an_ta1 : ak_ta an_on (9, 187, "java/util/NoSuchElementException") [106, 511, 520, 523, 526, 528, 512, 513, 123, 124, 514, 519, 524, 544, 501, 545, 503, 546, 505, 515, 517, 507, 540, 541, 543, 507, 531, 532, 533, 534, 0, 534, 535, 536, 537, 0, 537, 538, 539, 540, 0, 530, 490, 0, 498, 499, 500, 502, 504, 506, 510, 509, 508, 109] = true := by decide +kernel
theorem an_tas : ∀ x ∈ an_ta, ∃ ps, ak_ta an_on x ps = true := by
  intro x hx
  simp only [an_ta, List.mem_cons, List.not_mem_nil, or_false] at hx
  rcases hx with rfl | rfl
  · exact ⟨_, an_ta0⟩
  · exact ⟨_, an_ta1⟩
set_option maxRecDepth 100000 in
theorem an_ars : ak_ars (190, 191, 250, 1487) = true := by decide +kernel
theorem an_c0 : ∃ ps, ak_cM (an_kd.getD 0 0) ps an_X0_init = true := ⟨(95, 129, 0, 0), by decide +kernel⟩
theorem an_cs : ∀ (q : Nat) (M1 : ai_M), an_ms[q]? = some M1 → ∃ ps, ak_cM (an_kd.getD q 0) ps M1 = true := by
  intro q M1 h
  match q, h with
  | 0, h => cases h; exact an_c0
  | 1, h => cases h; exact ⟨_, an_c_X0_init⟩
  | 2, h => cases h; exact ⟨_, an_c_X0_has⟩
  | 3, h => cases h; exact ⟨_, an_c_X0_build⟩
  | 4, h => cases h; exact ⟨_, an_c_X0_tally⟩
  | 5, h => cases h; exact ⟨_, an_c_X0_warmUp⟩
  | 6, h => cases h; exact ⟨_, an_c_X1_init⟩
  | 7, h => cases h; exact ⟨_, an_c_X1_has⟩
  | 8, h => cases h; exact ⟨_, an_c_X1_enlist⟩
  | 9, h => cases h; exact ⟨_, an_c_X1_allQuarrels⟩
  | 10, h => cases h; exact ⟨_, an_c_X2_init⟩
  | 11, h => cases h; exact ⟨_, an_c_X3_init⟩
  | 12, h => cases h; exact ⟨_, an_c_X4_init⟩
  | 13, h => cases h; exact ⟨_, an_c_X4_enter⟩
  | 14, h => cases h; exact ⟨_, an_c_X4_begin⟩
  | 15, h => cases h; exact ⟨_, an_c_X4_inForce⟩
  | 16, h => cases h; exact ⟨_, an_c_X5_init⟩
  | 17, h => cases h; exact ⟨_, an_c_X5_reads⟩
  | 18, h => cases h; exact ⟨_, an_c_X6_init⟩
  | 19, h => cases h; exact ⟨_, an_c_X6_put⟩
  | 20, h => cases h; exact ⟨_, an_c_X7_init⟩
  | 21, h => cases h; exact ⟨_, an_c_X7_scan⟩
  | 22, h => cases h; exact ⟨_, an_c_X7_add⟩
  | 23, h => cases h; exact ⟨_, an_c_X8_init⟩
  | 24, h => cases h; exact ⟨_, an_c_X9_init⟩
  | 25, h => cases h; exact ⟨_, an_c_X9_house⟩
  | 26, h => cases h; exact ⟨_, an_c_X9_well⟩
  | 27, h => cases h; exact ⟨_, an_c_X9_wind⟩
  | 28, h => cases h; exact ⟨_, an_c_X9_company⟩
  | 29, h => cases h; exact ⟨_, an_c_X9_feed⟩
  | 30, h => cases h; exact ⟨_, an_c_X9_law⟩
  | 31, h => cases h; exact ⟨_, an_c_X9_fault⟩
  | 32, h => cases h; exact ⟨_, an_c_X9_light⟩
  | 33, h => cases h; exact ⟨_, an_c_X9_send⟩
  | 34, h => cases h; exact ⟨_, an_c_X9_pull⟩
  | 35, h => cases h; exact ⟨_, an_c_X9_hours⟩
  | 36, h => cases h; exact ⟨_, an_c_X9_cell⟩
  | 37, h => cases h; exact ⟨_, an_c_X9_of⟩
  | 38, h => cases h; exact ⟨_, an_c_X9_breaks⟩
  | 39, h => cases h; exact ⟨_, an_c_X9_breaker⟩
  | 40, h => cases h; exact ⟨_, an_c_X9_count⟩
  | 41, h => cases h; exact ⟨_, an_c_X9_needCell⟩
  | 42, h => cases h; exact ⟨_, an_c_X9_needCrew⟩
  | 43, h => cases h; exact ⟨_, an_c_X9_isWard⟩
  | 44, h => cases h; exact ⟨_, an_c_X9_order⟩
  | 45, h => cases h; exact ⟨_, an_c_X9_passHour⟩
  | 46, h => cases h; exact ⟨_, an_c_X9_crewsGo⟩
  | 47, h => cases h; exact ⟨_, an_c_X9_giveRoofs⟩
  | 48, h => cases h; exact ⟨_, an_c_X9_crewsWork⟩
  | 49, h => cases h; exact ⟨_, an_c_X9_fireEats⟩
  | 50, h => cases h; exact ⟨_, an_c_X9_ringBells⟩
  | 51, h => cases h; exact ⟨_, an_c_X10_init⟩
  | 52, h => cases h; exact ⟨_, an_c_X10_thrown⟩
  | 53, h => cases h; exact ⟨_, an_c_X10_fail⟩
  | 54, h => cases h; exact ⟨_, an_c_X10_isCell⟩
  | 55, h => cases h; exact ⟨_, an_c_X10_isCompany⟩
  | 56, h => cases h; exact ⟨_, an_c_X10_house⟩
  | 57, h => cases h; exact ⟨_, an_c_X10_well⟩
  | 58, h => cases h; exact ⟨_, an_c_X10_wind⟩
  | 59, h => cases h; exact ⟨_, an_c_X10_company⟩
  | 60, h => cases h; exact ⟨_, an_c_X10_feed⟩
  | 61, h => cases h; exact ⟨_, an_c_X10_byteAt⟩
  | 62, h => cases h; exact ⟨_, an_c_X10_step⟩
  | 63, h => cases h; exact ⟨_, an_c_X10_readLaw⟩
  | 64, h => cases h; exact ⟨_, an_c_X10_law⟩
  | 65, h => cases h; exact ⟨_, an_c_X10_fault⟩
  | 66, h => cases h; exact ⟨_, an_c_X10_force⟩
  | 67, h => cases h; exact ⟨_, an_c_X10_many⟩
  | 68, h => cases h; exact ⟨_, an_c_X10_light⟩
  | 69, h => cases h; exact ⟨_, an_c_X10_aim⟩
  | 70, h => cases h; exact ⟨_, an_c_X10_send⟩
  | 71, h => cases h; exact ⟨_, an_c_X10_pull⟩
  | 72, h => cases h; exact ⟨_, an_c_X10_roofs⟩
  | 73, h => cases h; exact ⟨_, an_c_X10_warm⟩
  | 74, h => cases h; exact ⟨_, an_c_X10_hours⟩
  | 75, h => cases h; exact ⟨_, an_c_X10_cell⟩
  | 76, h => cases h; exact ⟨_, an_c_X10_of⟩
  | 77, h => cases h; exact ⟨_, an_c_X10_breaks⟩
  | 78, h => cases h; exact ⟨_, an_c_X10_breaker⟩
  | 79, h => cases h; exact ⟨_, an_c_X10_count⟩
  | 80, h => cases h; exact ⟨_, an_c_J7_fill_53178⟩
  | 81, h => cases h; exact ⟨_, an_c_L_cell⟩
  | 82, h => cases h; exact ⟨_, an_c_L_house⟩
  | 83, h => cases h; exact ⟨_, an_c_L_well⟩
  | 84, h => cases h; exact ⟨_, an_c_L_wind⟩
  | 85, h => cases h; exact ⟨_, an_c_L_company⟩
  | 86, h => cases h; exact ⟨_, an_c_L_law⟩
  | 87, h => cases h; exact ⟨_, an_c_L_light⟩
  | 88, h => cases h; exact ⟨_, an_c_L_send⟩
  | 89, h => cases h; exact ⟨_, an_c_L_pull⟩
  | 90, h => cases h; exact ⟨_, an_c_L_hours⟩
  | 91, h => cases h; exact ⟨_, an_c_L_cell_⟩
  | 92, h => cases h; exact ⟨_, an_c_L_of⟩
  | 93, h => cases h; exact ⟨_, an_c_L_breaks⟩
  | 94, h => cases h; exact ⟨_, an_c_L_breaker⟩
  | 95, h => cases h; exact ⟨_, an_c_L_count⟩
  | n + 96, h => simp [an_ms] at h
end
section
/-! each instruction is that of the bytes -/
set_option maxRecDepth 100000 in
theorem an_ok_X0_init : ak_M an_ta an_kd an_lk an_on an_X0_init = true := by decide +kernel
set_option maxRecDepth 100000 in
theorem an_ok_X0_has : ak_M an_ta an_kd an_lk an_on an_X0_has = true := by decide +kernel
set_option maxRecDepth 100000 in
theorem an_ok_X0_build : ak_M an_ta an_kd an_lk an_on an_X0_build = true := by decide +kernel
set_option maxRecDepth 100000 in
theorem an_ok_X0_tally : ak_M an_ta an_kd an_lk an_on an_X0_tally = true := by decide +kernel
set_option maxRecDepth 100000 in
theorem an_ok_X0_warmUp : ak_M an_ta an_kd an_lk an_on an_X0_warmUp = true := by decide +kernel
set_option maxRecDepth 100000 in
theorem an_ok_X1_init : ak_M an_ta an_kd an_lk an_on an_X1_init = true := by decide +kernel
set_option maxRecDepth 100000 in
theorem an_ok_X1_has : ak_M an_ta an_kd an_lk an_on an_X1_has = true := by decide +kernel
set_option maxRecDepth 100000 in
theorem an_ok_X1_enlist : ak_M an_ta an_kd an_lk an_on an_X1_enlist = true := by decide +kernel
set_option maxRecDepth 100000 in
theorem an_ok_X1_allQuarrels : ak_M an_ta an_kd an_lk an_on an_X1_allQuarrels = true := by decide +kernel
set_option maxRecDepth 100000 in
theorem an_ok_X2_init : ak_M an_ta an_kd an_lk an_on an_X2_init = true := by decide +kernel
set_option maxRecDepth 100000 in
theorem an_ok_X3_init : ak_M an_ta an_kd an_lk an_on an_X3_init = true := by decide +kernel
set_option maxRecDepth 100000 in
theorem an_ok_X4_init : ak_M an_ta an_kd an_lk an_on an_X4_init = true := by decide +kernel
set_option maxRecDepth 100000 in
theorem an_ok_X4_enter : ak_M an_ta an_kd an_lk an_on an_X4_enter = true := by decide +kernel
set_option maxRecDepth 100000 in
theorem an_ok_X4_begin : ak_M an_ta an_kd an_lk an_on an_X4_begin = true := by decide +kernel
set_option maxRecDepth 100000 in
theorem an_ok_X4_inForce : ak_M an_ta an_kd an_lk an_on an_X4_inForce = true := by decide +kernel
set_option maxRecDepth 100000 in
theorem an_ok_X5_init : ak_M an_ta an_kd an_lk an_on an_X5_init = true := by decide +kernel
set_option maxRecDepth 100000 in
theorem an_ok_X5_reads : ak_M an_ta an_kd an_lk an_on an_X5_reads = true := by decide +kernel
set_option maxRecDepth 100000 in
theorem an_ok_X6_init : ak_M an_ta an_kd an_lk an_on an_X6_init = true := by decide +kernel
set_option maxRecDepth 100000 in
theorem an_ok_X6_put : ak_M an_ta an_kd an_lk an_on an_X6_put = true := by decide +kernel
set_option maxRecDepth 100000 in
theorem an_ok_X7_init : ak_M an_ta an_kd an_lk an_on an_X7_init = true := by decide +kernel
set_option maxRecDepth 100000 in
theorem an_ok_X7_scan : ak_M an_ta an_kd an_lk an_on an_X7_scan = true := by decide +kernel
set_option maxRecDepth 100000 in
theorem an_ok_X7_add : ak_M an_ta an_kd an_lk an_on an_X7_add = true := by decide +kernel
set_option maxRecDepth 100000 in
theorem an_ok_X8_init : ak_M an_ta an_kd an_lk an_on an_X8_init = true := by decide +kernel
set_option maxRecDepth 100000 in
theorem an_ok_X9_init : ak_M an_ta an_kd an_lk an_on an_X9_init = true := by decide +kernel
set_option maxRecDepth 100000 in
theorem an_ok_X9_house : ak_M an_ta an_kd an_lk an_on an_X9_house = true := by decide +kernel
set_option maxRecDepth 100000 in
theorem an_ok_X9_well : ak_M an_ta an_kd an_lk an_on an_X9_well = true := by decide +kernel
set_option maxRecDepth 100000 in
theorem an_ok_X9_wind : ak_M an_ta an_kd an_lk an_on an_X9_wind = true := by decide +kernel
set_option maxRecDepth 100000 in
theorem an_ok_X9_company : ak_M an_ta an_kd an_lk an_on an_X9_company = true := by decide +kernel
set_option maxRecDepth 100000 in
theorem an_ok_X9_feed : ak_M an_ta an_kd an_lk an_on an_X9_feed = true := by decide +kernel
set_option maxRecDepth 100000 in
theorem an_ok_X9_law : ak_M an_ta an_kd an_lk an_on an_X9_law = true := by decide +kernel
set_option maxRecDepth 100000 in
theorem an_ok_X9_fault : ak_M an_ta an_kd an_lk an_on an_X9_fault = true := by decide +kernel
set_option maxRecDepth 100000 in
theorem an_ok_X9_light : ak_M an_ta an_kd an_lk an_on an_X9_light = true := by decide +kernel
set_option maxRecDepth 100000 in
theorem an_ok_X9_send : ak_M an_ta an_kd an_lk an_on an_X9_send = true := by decide +kernel
set_option maxRecDepth 100000 in
theorem an_ok_X9_pull : ak_M an_ta an_kd an_lk an_on an_X9_pull = true := by decide +kernel
set_option maxRecDepth 100000 in
theorem an_ok_X9_hours : ak_M an_ta an_kd an_lk an_on an_X9_hours = true := by decide +kernel
set_option maxRecDepth 100000 in
theorem an_ok_X9_cell : ak_M an_ta an_kd an_lk an_on an_X9_cell = true := by decide +kernel
set_option maxRecDepth 100000 in
theorem an_ok_X9_of : ak_M an_ta an_kd an_lk an_on an_X9_of = true := by decide +kernel
set_option maxRecDepth 100000 in
theorem an_ok_X9_breaks : ak_M an_ta an_kd an_lk an_on an_X9_breaks = true := by decide +kernel
set_option maxRecDepth 100000 in
theorem an_ok_X9_breaker : ak_M an_ta an_kd an_lk an_on an_X9_breaker = true := by decide +kernel
set_option maxRecDepth 100000 in
theorem an_ok_X9_count : ak_M an_ta an_kd an_lk an_on an_X9_count = true := by decide +kernel
set_option maxRecDepth 100000 in
theorem an_ok_X9_needCell : ak_M an_ta an_kd an_lk an_on an_X9_needCell = true := by decide +kernel
set_option maxRecDepth 100000 in
theorem an_ok_X9_needCrew : ak_M an_ta an_kd an_lk an_on an_X9_needCrew = true := by decide +kernel
set_option maxRecDepth 100000 in
theorem an_ok_X9_isWard : ak_M an_ta an_kd an_lk an_on an_X9_isWard = true := by decide +kernel
set_option maxRecDepth 100000 in
theorem an_ok_X9_order : ak_M an_ta an_kd an_lk an_on an_X9_order = true := by decide +kernel
set_option maxRecDepth 100000 in
theorem an_ok_X9_passHour : ak_M an_ta an_kd an_lk an_on an_X9_passHour = true := by decide +kernel
set_option maxRecDepth 100000 in
theorem an_ok_X9_crewsGo : ak_M an_ta an_kd an_lk an_on an_X9_crewsGo = true := by decide +kernel
set_option maxRecDepth 100000 in
theorem an_ok_X9_giveRoofs : ak_M an_ta an_kd an_lk an_on an_X9_giveRoofs = true := by decide +kernel
set_option maxRecDepth 100000 in
theorem an_ok_X9_crewsWork : ak_M an_ta an_kd an_lk an_on an_X9_crewsWork = true := by decide +kernel
set_option maxRecDepth 100000 in
theorem an_ok_X9_fireEats : ak_M an_ta an_kd an_lk an_on an_X9_fireEats = true := by decide +kernel
set_option maxRecDepth 100000 in
theorem an_ok_X9_ringBells : ak_M an_ta an_kd an_lk an_on an_X9_ringBells = true := by decide +kernel
set_option maxRecDepth 100000 in
theorem an_ok_X10_init : ak_M an_ta an_kd an_lk an_on an_X10_init = true := by decide +kernel
set_option maxRecDepth 100000 in
theorem an_ok_X10_thrown : ak_M an_ta an_kd an_lk an_on an_X10_thrown = true := by decide +kernel
set_option maxRecDepth 100000 in
theorem an_ok_X10_fail : ak_M an_ta an_kd an_lk an_on an_X10_fail = true := by decide +kernel
set_option maxRecDepth 100000 in
theorem an_ok_X10_isCell : ak_M an_ta an_kd an_lk an_on an_X10_isCell = true := by decide +kernel
set_option maxRecDepth 100000 in
theorem an_ok_X10_isCompany : ak_M an_ta an_kd an_lk an_on an_X10_isCompany = true := by decide +kernel
set_option maxRecDepth 100000 in
theorem an_ok_X10_house : ak_M an_ta an_kd an_lk an_on an_X10_house = true := by decide +kernel
set_option maxRecDepth 100000 in
theorem an_ok_X10_well : ak_M an_ta an_kd an_lk an_on an_X10_well = true := by decide +kernel
set_option maxRecDepth 100000 in
theorem an_ok_X10_wind : ak_M an_ta an_kd an_lk an_on an_X10_wind = true := by decide +kernel
set_option maxRecDepth 100000 in
theorem an_ok_X10_company : ak_M an_ta an_kd an_lk an_on an_X10_company = true := by decide +kernel
set_option maxRecDepth 100000 in
theorem an_ok_X10_feed : ak_M an_ta an_kd an_lk an_on an_X10_feed = true := by decide +kernel
set_option maxRecDepth 100000 in
theorem an_ok_X10_byteAt : ak_M an_ta an_kd an_lk an_on an_X10_byteAt = true := by decide +kernel
set_option maxRecDepth 100000 in
theorem an_ok_X10_step : ak_M an_ta an_kd an_lk an_on an_X10_step = true := by decide +kernel
set_option maxRecDepth 100000 in
theorem an_ok_X10_readLaw : ak_M an_ta an_kd an_lk an_on an_X10_readLaw = true := by decide +kernel
set_option maxRecDepth 100000 in
theorem an_ok_X10_law : ak_M an_ta an_kd an_lk an_on an_X10_law = true := by decide +kernel
set_option maxRecDepth 100000 in
theorem an_ok_X10_fault : ak_M an_ta an_kd an_lk an_on an_X10_fault = true := by decide +kernel
set_option maxRecDepth 100000 in
theorem an_ok_X10_force : ak_M an_ta an_kd an_lk an_on an_X10_force = true := by decide +kernel
set_option maxRecDepth 100000 in
theorem an_ok_X10_many : ak_M an_ta an_kd an_lk an_on an_X10_many = true := by decide +kernel
set_option maxRecDepth 100000 in
theorem an_ok_X10_light : ak_M an_ta an_kd an_lk an_on an_X10_light = true := by decide +kernel
set_option maxRecDepth 100000 in
theorem an_ok_X10_aim : ak_M an_ta an_kd an_lk an_on an_X10_aim = true := by decide +kernel
set_option maxRecDepth 100000 in
theorem an_ok_X10_send : ak_M an_ta an_kd an_lk an_on an_X10_send = true := by decide +kernel
set_option maxRecDepth 100000 in
theorem an_ok_X10_pull : ak_M an_ta an_kd an_lk an_on an_X10_pull = true := by decide +kernel
set_option maxRecDepth 100000 in
theorem an_ok_X10_roofs : ak_M an_ta an_kd an_lk an_on an_X10_roofs = true := by decide +kernel
set_option maxRecDepth 100000 in
theorem an_ok_X10_warm : ak_M an_ta an_kd an_lk an_on an_X10_warm = true := by decide +kernel
set_option maxRecDepth 100000 in
theorem an_ok_X10_hours : ak_M an_ta an_kd an_lk an_on an_X10_hours = true := by decide +kernel
set_option maxRecDepth 100000 in
theorem an_ok_X10_cell : ak_M an_ta an_kd an_lk an_on an_X10_cell = true := by decide +kernel
set_option maxRecDepth 100000 in
theorem an_ok_X10_of : ak_M an_ta an_kd an_lk an_on an_X10_of = true := by decide +kernel
set_option maxRecDepth 100000 in
theorem an_ok_X10_breaks : ak_M an_ta an_kd an_lk an_on an_X10_breaks = true := by decide +kernel
set_option maxRecDepth 100000 in
theorem an_ok_X10_breaker : ak_M an_ta an_kd an_lk an_on an_X10_breaker = true := by decide +kernel
set_option maxRecDepth 100000 in
theorem an_ok_X10_count : ak_M an_ta an_kd an_lk an_on an_X10_count = true := by decide +kernel
set_option maxRecDepth 100000 in
theorem an_ok_J7_fill_53178 : ak_M an_ta an_kd an_lk an_on an_J7_fill_53178 = true := by decide +kernel
set_option maxRecDepth 100000 in
theorem an_ok_L_cell : ak_M an_ta an_kd an_lk an_on an_L_cell = true := by decide +kernel
set_option maxRecDepth 100000 in
theorem an_ok_L_house : ak_M an_ta an_kd an_lk an_on an_L_house = true := by decide +kernel
set_option maxRecDepth 100000 in
theorem an_ok_L_well : ak_M an_ta an_kd an_lk an_on an_L_well = true := by decide +kernel
set_option maxRecDepth 100000 in
theorem an_ok_L_wind : ak_M an_ta an_kd an_lk an_on an_L_wind = true := by decide +kernel
set_option maxRecDepth 100000 in
theorem an_ok_L_company : ak_M an_ta an_kd an_lk an_on an_L_company = true := by decide +kernel
set_option maxRecDepth 100000 in
theorem an_ok_L_law : ak_M an_ta an_kd an_lk an_on an_L_law = true := by decide +kernel
set_option maxRecDepth 100000 in
theorem an_ok_L_light : ak_M an_ta an_kd an_lk an_on an_L_light = true := by decide +kernel
set_option maxRecDepth 100000 in
theorem an_ok_L_send : ak_M an_ta an_kd an_lk an_on an_L_send = true := by decide +kernel
set_option maxRecDepth 100000 in
theorem an_ok_L_pull : ak_M an_ta an_kd an_lk an_on an_L_pull = true := by decide +kernel
set_option maxRecDepth 100000 in
theorem an_ok_L_hours : ak_M an_ta an_kd an_lk an_on an_L_hours = true := by decide +kernel
set_option maxRecDepth 100000 in
theorem an_ok_L_cell_ : ak_M an_ta an_kd an_lk an_on an_L_cell_ = true := by decide +kernel
set_option maxRecDepth 100000 in
theorem an_ok_L_of : ak_M an_ta an_kd an_lk an_on an_L_of = true := by decide +kernel
set_option maxRecDepth 100000 in
theorem an_ok_L_breaks : ak_M an_ta an_kd an_lk an_on an_L_breaks = true := by decide +kernel
set_option maxRecDepth 100000 in
theorem an_ok_L_breaker : ak_M an_ta an_kd an_lk an_on an_L_breaker = true := by decide +kernel
set_option maxRecDepth 100000 in
theorem an_ok_L_count : ak_M an_ta an_kd an_lk an_on an_L_count = true := by decide +kernel
theorem an_oks : ∀ (q : Nat) (M : ai_M), an_ms[q]? = some M → ai_okM an_ms an_lk an_on M := by
  intro q M h
  match q, h with
  | 0, h => cases h; exact ak_M_ok an_tas (ak_arrs an_ars) an_cs an_K0 an_ok_X0_init
  | 1, h => cases h; exact ak_M_ok an_tas (ak_arrs an_ars) an_cs an_K0 an_ok_X0_init
  | 2, h => cases h; exact ak_M_ok an_tas (ak_arrs an_ars) an_cs an_K0 an_ok_X0_has
  | 3, h => cases h; exact ak_M_ok an_tas (ak_arrs an_ars) an_cs an_K0 an_ok_X0_build
  | 4, h => cases h; exact ak_M_ok an_tas (ak_arrs an_ars) an_cs an_K0 an_ok_X0_tally
  | 5, h => cases h; exact ak_M_ok an_tas (ak_arrs an_ars) an_cs an_K0 an_ok_X0_warmUp
  | 6, h => cases h; exact ak_M_ok an_tas (ak_arrs an_ars) an_cs an_K1 an_ok_X1_init
  | 7, h => cases h; exact ak_M_ok an_tas (ak_arrs an_ars) an_cs an_K1 an_ok_X1_has
  | 8, h => cases h; exact ak_M_ok an_tas (ak_arrs an_ars) an_cs an_K1 an_ok_X1_enlist
  | 9, h => cases h; exact ak_M_ok an_tas (ak_arrs an_ars) an_cs an_K1 an_ok_X1_allQuarrels
  | 10, h => cases h; exact ak_M_ok an_tas (ak_arrs an_ars) an_cs an_K2 an_ok_X2_init
  | 11, h => cases h; exact ak_M_ok an_tas (ak_arrs an_ars) an_cs an_K3 an_ok_X3_init
  | 12, h => cases h; exact ak_M_ok an_tas (ak_arrs an_ars) an_cs an_K4 an_ok_X4_init
  | 13, h => cases h; exact ak_M_ok an_tas (ak_arrs an_ars) an_cs an_K4 an_ok_X4_enter
  | 14, h => cases h; exact ak_M_ok an_tas (ak_arrs an_ars) an_cs an_K4 an_ok_X4_begin
  | 15, h => cases h; exact ak_M_ok an_tas (ak_arrs an_ars) an_cs an_K4 an_ok_X4_inForce
  | 16, h => cases h; exact ak_M_ok an_tas (ak_arrs an_ars) an_cs an_K5 an_ok_X5_init
  | 17, h => cases h; exact ak_M_ok an_tas (ak_arrs an_ars) an_cs an_K5 an_ok_X5_reads
  | 18, h => cases h; exact ak_M_ok an_tas (ak_arrs an_ars) an_cs an_K6 an_ok_X6_init
  | 19, h => cases h; exact ak_M_ok an_tas (ak_arrs an_ars) an_cs an_K6 an_ok_X6_put
  | 20, h => cases h; exact ak_M_ok an_tas (ak_arrs an_ars) an_cs an_K7 an_ok_X7_init
  | 21, h => cases h; exact ak_M_ok an_tas (ak_arrs an_ars) an_cs an_K7 an_ok_X7_scan
  | 22, h => cases h; exact ak_M_ok an_tas (ak_arrs an_ars) an_cs an_K7 an_ok_X7_add
  | 23, h => cases h; exact ak_M_ok an_tas (ak_arrs an_ars) an_cs an_K8 an_ok_X8_init
  | 24, h => cases h; exact ak_M_ok an_tas (ak_arrs an_ars) an_cs an_K9 an_ok_X9_init
  | 25, h => cases h; exact ak_M_ok an_tas (ak_arrs an_ars) an_cs an_K9 an_ok_X9_house
  | 26, h => cases h; exact ak_M_ok an_tas (ak_arrs an_ars) an_cs an_K9 an_ok_X9_well
  | 27, h => cases h; exact ak_M_ok an_tas (ak_arrs an_ars) an_cs an_K9 an_ok_X9_wind
  | 28, h => cases h; exact ak_M_ok an_tas (ak_arrs an_ars) an_cs an_K9 an_ok_X9_company
  | 29, h => cases h; exact ak_M_ok an_tas (ak_arrs an_ars) an_cs an_K9 an_ok_X9_feed
  | 30, h => cases h; exact ak_M_ok an_tas (ak_arrs an_ars) an_cs an_K9 an_ok_X9_law
  | 31, h => cases h; exact ak_M_ok an_tas (ak_arrs an_ars) an_cs an_K9 an_ok_X9_fault
  | 32, h => cases h; exact ak_M_ok an_tas (ak_arrs an_ars) an_cs an_K9 an_ok_X9_light
  | 33, h => cases h; exact ak_M_ok an_tas (ak_arrs an_ars) an_cs an_K9 an_ok_X9_send
  | 34, h => cases h; exact ak_M_ok an_tas (ak_arrs an_ars) an_cs an_K9 an_ok_X9_pull
  | 35, h => cases h; exact ak_M_ok an_tas (ak_arrs an_ars) an_cs an_K9 an_ok_X9_hours
  | 36, h => cases h; exact ak_M_ok an_tas (ak_arrs an_ars) an_cs an_K9 an_ok_X9_cell
  | 37, h => cases h; exact ak_M_ok an_tas (ak_arrs an_ars) an_cs an_K9 an_ok_X9_of
  | 38, h => cases h; exact ak_M_ok an_tas (ak_arrs an_ars) an_cs an_K9 an_ok_X9_breaks
  | 39, h => cases h; exact ak_M_ok an_tas (ak_arrs an_ars) an_cs an_K9 an_ok_X9_breaker
  | 40, h => cases h; exact ak_M_ok an_tas (ak_arrs an_ars) an_cs an_K9 an_ok_X9_count
  | 41, h => cases h; exact ak_M_ok an_tas (ak_arrs an_ars) an_cs an_K9 an_ok_X9_needCell
  | 42, h => cases h; exact ak_M_ok an_tas (ak_arrs an_ars) an_cs an_K9 an_ok_X9_needCrew
  | 43, h => cases h; exact ak_M_ok an_tas (ak_arrs an_ars) an_cs an_K9 an_ok_X9_isWard
  | 44, h => cases h; exact ak_M_ok an_tas (ak_arrs an_ars) an_cs an_K9 an_ok_X9_order
  | 45, h => cases h; exact ak_M_ok an_tas (ak_arrs an_ars) an_cs an_K9 an_ok_X9_passHour
  | 46, h => cases h; exact ak_M_ok an_tas (ak_arrs an_ars) an_cs an_K9 an_ok_X9_crewsGo
  | 47, h => cases h; exact ak_M_ok an_tas (ak_arrs an_ars) an_cs an_K9 an_ok_X9_giveRoofs
  | 48, h => cases h; exact ak_M_ok an_tas (ak_arrs an_ars) an_cs an_K9 an_ok_X9_crewsWork
  | 49, h => cases h; exact ak_M_ok an_tas (ak_arrs an_ars) an_cs an_K9 an_ok_X9_fireEats
  | 50, h => cases h; exact ak_M_ok an_tas (ak_arrs an_ars) an_cs an_K9 an_ok_X9_ringBells
  | 51, h => cases h; exact ak_M_ok an_tas (ak_arrs an_ars) an_cs an_K10 an_ok_X10_init
  | 52, h => cases h; exact ak_M_ok an_tas (ak_arrs an_ars) an_cs an_K10 an_ok_X10_thrown
  | 53, h => cases h; exact ak_M_ok an_tas (ak_arrs an_ars) an_cs an_K10 an_ok_X10_fail
  | 54, h => cases h; exact ak_M_ok an_tas (ak_arrs an_ars) an_cs an_K10 an_ok_X10_isCell
  | 55, h => cases h; exact ak_M_ok an_tas (ak_arrs an_ars) an_cs an_K10 an_ok_X10_isCompany
  | 56, h => cases h; exact ak_M_ok an_tas (ak_arrs an_ars) an_cs an_K10 an_ok_X10_house
  | 57, h => cases h; exact ak_M_ok an_tas (ak_arrs an_ars) an_cs an_K10 an_ok_X10_well
  | 58, h => cases h; exact ak_M_ok an_tas (ak_arrs an_ars) an_cs an_K10 an_ok_X10_wind
  | 59, h => cases h; exact ak_M_ok an_tas (ak_arrs an_ars) an_cs an_K10 an_ok_X10_company
  | 60, h => cases h; exact ak_M_ok an_tas (ak_arrs an_ars) an_cs an_K10 an_ok_X10_feed
  | 61, h => cases h; exact ak_M_ok an_tas (ak_arrs an_ars) an_cs an_K10 an_ok_X10_byteAt
  | 62, h => cases h; exact ak_M_ok an_tas (ak_arrs an_ars) an_cs an_K10 an_ok_X10_step
  | 63, h => cases h; exact ak_M_ok an_tas (ak_arrs an_ars) an_cs an_K10 an_ok_X10_readLaw
  | 64, h => cases h; exact ak_M_ok an_tas (ak_arrs an_ars) an_cs an_K10 an_ok_X10_law
  | 65, h => cases h; exact ak_M_ok an_tas (ak_arrs an_ars) an_cs an_K10 an_ok_X10_fault
  | 66, h => cases h; exact ak_M_ok an_tas (ak_arrs an_ars) an_cs an_K10 an_ok_X10_force
  | 67, h => cases h; exact ak_M_ok an_tas (ak_arrs an_ars) an_cs an_K10 an_ok_X10_many
  | 68, h => cases h; exact ak_M_ok an_tas (ak_arrs an_ars) an_cs an_K10 an_ok_X10_light
  | 69, h => cases h; exact ak_M_ok an_tas (ak_arrs an_ars) an_cs an_K10 an_ok_X10_aim
  | 70, h => cases h; exact ak_M_ok an_tas (ak_arrs an_ars) an_cs an_K10 an_ok_X10_send
  | 71, h => cases h; exact ak_M_ok an_tas (ak_arrs an_ars) an_cs an_K10 an_ok_X10_pull
  | 72, h => cases h; exact ak_M_ok an_tas (ak_arrs an_ars) an_cs an_K10 an_ok_X10_roofs
  | 73, h => cases h; exact ak_M_ok an_tas (ak_arrs an_ars) an_cs an_K10 an_ok_X10_warm
  | 74, h => cases h; exact ak_M_ok an_tas (ak_arrs an_ars) an_cs an_K10 an_ok_X10_hours
  | 75, h => cases h; exact ak_M_ok an_tas (ak_arrs an_ars) an_cs an_K10 an_ok_X10_cell
  | 76, h => cases h; exact ak_M_ok an_tas (ak_arrs an_ars) an_cs an_K10 an_ok_X10_of
  | 77, h => cases h; exact ak_M_ok an_tas (ak_arrs an_ars) an_cs an_K10 an_ok_X10_breaks
  | 78, h => cases h; exact ak_M_ok an_tas (ak_arrs an_ars) an_cs an_K10 an_ok_X10_breaker
  | 79, h => cases h; exact ak_M_ok an_tas (ak_arrs an_ars) an_cs an_K10 an_ok_X10_count
  | 80, h => cases h; exact ak_M_ok an_tas (ak_arrs an_ars) an_cs an_K12 an_ok_J7_fill_53178
  | 81, h => cases h; exact ak_M_ok an_tas (ak_arrs an_ars) an_cs an_K11 an_ok_L_cell
  | 82, h => cases h; exact ak_M_ok an_tas (ak_arrs an_ars) an_cs an_K11 an_ok_L_house
  | 83, h => cases h; exact ak_M_ok an_tas (ak_arrs an_ars) an_cs an_K11 an_ok_L_well
  | 84, h => cases h; exact ak_M_ok an_tas (ak_arrs an_ars) an_cs an_K11 an_ok_L_wind
  | 85, h => cases h; exact ak_M_ok an_tas (ak_arrs an_ars) an_cs an_K11 an_ok_L_company
  | 86, h => cases h; exact ak_M_ok an_tas (ak_arrs an_ars) an_cs an_K11 an_ok_L_law
  | 87, h => cases h; exact ak_M_ok an_tas (ak_arrs an_ars) an_cs an_K11 an_ok_L_light
  | 88, h => cases h; exact ak_M_ok an_tas (ak_arrs an_ars) an_cs an_K11 an_ok_L_send
  | 89, h => cases h; exact ak_M_ok an_tas (ak_arrs an_ars) an_cs an_K11 an_ok_L_pull
  | 90, h => cases h; exact ak_M_ok an_tas (ak_arrs an_ars) an_cs an_K11 an_ok_L_hours
  | 91, h => cases h; exact ak_M_ok an_tas (ak_arrs an_ars) an_cs an_K11 an_ok_L_cell_
  | 92, h => cases h; exact ak_M_ok an_tas (ak_arrs an_ars) an_cs an_K11 an_ok_L_of
  | 93, h => cases h; exact ak_M_ok an_tas (ak_arrs an_ars) an_cs an_K11 an_ok_L_breaks
  | 94, h => cases h; exact ak_M_ok an_tas (ak_arrs an_ars) an_cs an_K11 an_ok_L_breaker
  | 95, h => cases h; exact ak_M_ok an_tas (ak_arrs an_ars) an_cs an_K11 an_ok_L_count
  | n + 96, h => simp [an_ms] at h
end
section
/-! THE LAW'S OWN ENTRY -/
def an_lc0 : List ai_I := [(0, .new 8, []), (3, .dup, []), (4, .aload_n 0, []), (5, .iconst 0, []), (6, .invokestatic 61, []), (9, .aload_n 0, []), (10, .iconst 1, []), (11, .invokestatic 61, []), (14, .invokespecial 66, []), (17, .astore_n 1, []), (18, .new 69, []), (21, .dup, []), (22, .aload_n 0, []), (23, .iconst 0, []), (24, .invokestatic 61, []), (27, .aload_n 0, []), (28, .iconst 1, []), (29, .invokestatic 61, []), (32, .invokespecial 71, []), (35, .astore_n 2, []), (36, .iconst 1, []), (37, .newarray .long, []), (39, .astore_n 3, []), (40, .iconst 2, []), (41, .istore 4, []), (43, .iload 4, []), (45, .aload_n 0, []), (46, .arraylength, []), (47, .bipush 6, []), (49, .isub, []), (50, .if_icmp .gt 1130, [1180]), (53, .aload_n 0, []), (54, .iload 4, []), (56, .iaload, []), (57, .bipush 15, []), (59, .iand, []), (60, .tableswitch 1114 0 15 #[80, 167, 258, 314, 394, 467, 535, 548, 604, 679, 754, 810, 878, 946, 1002, 1058], [1174, 140, 227, 318, 374, 454, 527, 595, 608, 664, 739, 814, 870, 938, 1006, 1062, 1118]), (140, .aload_n 1, []), (141, .aload_n 0, []), (142, .iload 4, [])]
def an_lc1 : List ai_I := [(144, .iconst 1, []), (145, .iadd, []), (146, .iaload, []), (147, .aload_n 0, []), (148, .iload 4, []), (150, .iconst 2, []), (151, .iadd, []), (152, .iaload, []), (153, .aload_n 0, []), (154, .iload 4, []), (156, .iconst 3, []), (157, .iadd, []), (158, .iaload, []), (159, .aload_n 3, []), (160, .invokestatic 72, []), (163, .istore 5, []), (165, .aload_n 2, []), (166, .aload_n 0, []), (167, .iload 4, []), (169, .iconst 1, []), (170, .iadd, []), (171, .iaload, []), (172, .aload_n 0, []), (173, .iload 4, []), (175, .iconst 2, []), (176, .iadd, []), (177, .iaload, []), (178, .aload_n 0, []), (179, .iload 4, []), (181, .iconst 3, []), (182, .iadd, []), (183, .iaload, []), (184, .invokevirtual 75, []), (187, .istore 6, []), (189, .aload_n 2, []), (190, .invokevirtual 76, []), (193, .iload 5, []), (195, .if_icmp .eq 5, [200]), (198, .iconst 0, []), (199, .ireturn, [])]
def an_lc2 : List ai_I := [(200, .iload 5, []), (202, .ifCond .ne 22, [224]), (205, .aload_n 3, []), (206, .iconst 0, []), (207, .laload, []), (208, .iload 6, []), (210, .ifCond .eq 7, [217]), (213, .lconst 1, []), (214, .goto 4, [218]), (217, .lconst 0, []), (218, .lcmp, []), (219, .ifCond .eq 5, [224]), (222, .iconst 0, []), (223, .ireturn, []), (224, .goto 950, [1174]), (227, .aload_n 1, []), (228, .aload_n 0, []), (229, .iload 4, []), (231, .iconst 1, []), (232, .iadd, []), (233, .iaload, []), (234, .aload_n 0, []), (235, .iload 4, []), (237, .iconst 2, []), (238, .iadd, []), (239, .iaload, []), (240, .ifCond .eq 7, [247]), (243, .iconst 1, []), (244, .goto 4, [248]), (247, .iconst 0, []), (248, .aload_n 3, []), (249, .invokestatic 80, []), (252, .istore 5, []), (254, .aload_n 2, []), (255, .aload_n 0, []), (256, .iload 4, []), (258, .iconst 1, []), (259, .iadd, []), (260, .iaload, []), (261, .aload_n 0, [])]
def an_lc3 : List ai_I := [(262, .iload 4, []), (264, .iconst 2, []), (265, .iadd, []), (266, .iaload, []), (267, .ifCond .eq 7, [274]), (270, .iconst 1, []), (271, .goto 4, [275]), (274, .iconst 0, []), (275, .invokevirtual 83, []), (278, .istore 6, []), (280, .aload_n 2, []), (281, .invokevirtual 76, []), (284, .iload 5, []), (286, .if_icmp .eq 5, [291]), (289, .iconst 0, []), (290, .ireturn, []), (291, .iload 5, []), (293, .ifCond .ne 22, [315]), (296, .aload_n 3, []), (297, .iconst 0, []), (298, .laload, []), (299, .iload 6, []), (301, .ifCond .eq 7, [308]), (304, .lconst 1, []), (305, .goto 4, [309]), (308, .lconst 0, []), (309, .lcmp, []), (310, .ifCond .eq 5, [315]), (313, .iconst 0, []), (314, .ireturn, []), (315, .goto 859, [1174]), (318, .aload_n 1, []), (319, .aload_n 0, []), (320, .iload 4, []), (322, .iconst 1, []), (323, .iadd, []), (324, .iaload, []), (325, .aload_n 3, []), (326, .invokestatic 84, []), (329, .istore 5, [])]
def an_lc4 : List ai_I := [(331, .aload_n 2, []), (332, .aload_n 0, []), (333, .iload 4, []), (335, .iconst 1, []), (336, .iadd, []), (337, .iaload, []), (338, .invokevirtual 87, []), (341, .istore 6, []), (343, .aload_n 2, []), (344, .invokevirtual 76, []), (347, .iload 5, []), (349, .if_icmp .eq 5, [354]), (352, .iconst 0, []), (353, .ireturn, []), (354, .iload 5, []), (356, .ifCond .ne 15, [371]), (359, .aload_n 3, []), (360, .iconst 0, []), (361, .laload, []), (362, .iload 6, []), (364, .i2l, []), (365, .lcmp, []), (366, .ifCond .eq 5, [371]), (369, .iconst 0, []), (370, .ireturn, []), (371, .goto 803, [1174]), (374, .aload_n 1, []), (375, .aload_n 0, []), (376, .iload 4, []), (378, .iconst 1, []), (379, .iadd, []), (380, .iaload, []), (381, .aload_n 0, []), (382, .iload 4, []), (384, .iconst 2, []), (385, .iadd, []), (386, .iaload, []), (387, .aload_n 0, []), (388, .iload 4, []), (390, .iconst 3, [])]
def an_lc5 : List ai_I := [(391, .iadd, []), (392, .iaload, []), (393, .aload_n 3, []), (394, .invokestatic 88, []), (397, .istore 5, []), (399, .aload_n 2, []), (400, .aload_n 0, []), (401, .iload 4, []), (403, .iconst 1, []), (404, .iadd, []), (405, .iaload, []), (406, .aload_n 0, []), (407, .iload 4, []), (409, .iconst 2, []), (410, .iadd, []), (411, .iaload, []), (412, .aload_n 0, []), (413, .iload 4, []), (415, .iconst 3, []), (416, .iadd, []), (417, .iaload, []), (418, .invokevirtual 90, []), (421, .istore 6, []), (423, .aload_n 2, []), (424, .invokevirtual 76, []), (427, .iload 5, []), (429, .if_icmp .eq 5, [434]), (432, .iconst 0, []), (433, .ireturn, []), (434, .iload 5, []), (436, .ifCond .ne 15, [451]), (439, .aload_n 3, []), (440, .iconst 0, []), (441, .laload, []), (442, .iload 6, []), (444, .i2l, []), (445, .lcmp, []), (446, .ifCond .eq 5, [451]), (449, .iconst 0, []), (450, .ireturn, [])]
def an_lc6 : List ai_I := [(451, .goto 723, [1174]), (454, .aload_n 1, []), (455, .aload_n 0, []), (456, .iload 4, []), (458, .iconst 1, []), (459, .iadd, []), (460, .iaload, []), (461, .aload_n 0, []), (462, .iload 4, []), (464, .iconst 2, []), (465, .iadd, []), (466, .iaload, []), (467, .aload_n 0, []), (468, .iload 4, []), (470, .iconst 3, []), (471, .iadd, []), (472, .iaload, []), (473, .aload_n 0, []), (474, .iload 4, []), (476, .iconst 4, []), (477, .iadd, []), (478, .iaload, []), (479, .aload_n 0, []), (480, .iload 4, []), (482, .iconst 5, []), (483, .iadd, []), (484, .iaload, []), (485, .invokevirtual 91, []), (488, .aload_n 2, []), (489, .aload_n 0, []), (490, .iload 4, []), (492, .iconst 1, []), (493, .iadd, []), (494, .iaload, []), (495, .aload_n 0, []), (496, .iload 4, []), (498, .iconst 2, []), (499, .iadd, []), (500, .iaload, []), (501, .aload_n 0, [])]
def an_lc7 : List ai_I := [(502, .iload 4, []), (504, .iconst 3, []), (505, .iadd, []), (506, .iaload, []), (507, .aload_n 0, []), (508, .iload 4, []), (510, .iconst 4, []), (511, .iadd, []), (512, .iaload, []), (513, .aload_n 0, []), (514, .iload 4, []), (516, .iconst 5, []), (517, .iadd, []), (518, .iaload, []), (519, .invokevirtual 95, []), (522, .if_icmp .eq 652, [1174]), (525, .iconst 0, []), (526, .ireturn, []), (527, .aload_n 1, []), (528, .aload_n 0, []), (529, .iload 4, []), (531, .iconst 1, []), (532, .iadd, []), (533, .iaload, []), (534, .aload_n 0, []), (535, .iload 4, []), (537, .iconst 2, []), (538, .iadd, []), (539, .iaload, []), (540, .aload_n 3, []), (541, .invokestatic 96, []), (544, .istore 5, []), (546, .aload_n 2, []), (547, .aload_n 0, []), (548, .iload 4, []), (550, .iconst 1, []), (551, .iadd, []), (552, .iaload, []), (553, .aload_n 0, []), (554, .iload 4, [])]
def an_lc8 : List ai_I := [(556, .iconst 2, []), (557, .iadd, []), (558, .iaload, []), (559, .invokevirtual 99, []), (562, .istore 6, []), (564, .aload_n 2, []), (565, .invokevirtual 76, []), (568, .iload 5, []), (570, .if_icmp .eq 5, [575]), (573, .iconst 0, []), (574, .ireturn, []), (575, .iload 5, []), (577, .ifCond .ne 15, [592]), (580, .aload_n 3, []), (581, .iconst 0, []), (582, .laload, []), (583, .iload 6, []), (585, .i2l, []), (586, .lcmp, []), (587, .ifCond .eq 5, [592]), (590, .iconst 0, []), (591, .ireturn, []), (592, .goto 582, [1174]), (595, .aload_n 1, []), (596, .invokevirtual 100, []), (599, .aload_n 2, []), (600, .invokevirtual 103, []), (603, .if_icmp .eq 571, [1174]), (606, .iconst 0, []), (607, .ireturn, []), (608, .aload_n 1, []), (609, .aload_n 0, []), (610, .iload 4, []), (612, .iconst 1, []), (613, .iadd, []), (614, .iaload, []), (615, .aload_n 3, []), (616, .invokestatic 104, []), (619, .istore 5, []), (621, .aload_n 2, [])]
def an_lc9 : List ai_I := [(622, .aload_n 0, []), (623, .iload 4, []), (625, .iconst 1, []), (626, .iadd, []), (627, .iaload, []), (628, .invokevirtual 106, []), (631, .istore 6, []), (633, .aload_n 2, []), (634, .invokevirtual 76, []), (637, .iload 5, []), (639, .if_icmp .eq 5, [644]), (642, .iconst 0, []), (643, .ireturn, []), (644, .iload 5, []), (646, .ifCond .ne 15, [661]), (649, .aload_n 3, []), (650, .iconst 0, []), (651, .laload, []), (652, .iload 6, []), (654, .i2l, []), (655, .lcmp, []), (656, .ifCond .eq 5, [661]), (659, .iconst 0, []), (660, .ireturn, []), (661, .goto 513, [1174]), (664, .aload_n 1, []), (665, .aload_n 0, []), (666, .iload 4, []), (668, .iconst 1, []), (669, .iadd, []), (670, .iaload, []), (671, .aload_n 0, []), (672, .iload 4, []), (674, .iconst 2, []), (675, .iadd, []), (676, .iaload, []), (677, .aload_n 3, []), (678, .invokestatic 107, []), (681, .istore 5, []), (683, .aload_n 2, [])]
def an_lc10 : List ai_I := [(684, .aload_n 0, []), (685, .iload 4, []), (687, .iconst 1, []), (688, .iadd, []), (689, .iaload, []), (690, .aload_n 0, []), (691, .iload 4, []), (693, .iconst 2, []), (694, .iadd, []), (695, .iaload, []), (696, .invokevirtual 109, []), (699, .istore 6, []), (701, .aload_n 2, []), (702, .invokevirtual 76, []), (705, .iload 5, []), (707, .if_icmp .eq 5, [712]), (710, .iconst 0, []), (711, .ireturn, []), (712, .iload 5, []), (714, .ifCond .ne 22, [736]), (717, .aload_n 3, []), (718, .iconst 0, []), (719, .laload, []), (720, .iload 6, []), (722, .ifCond .eq 7, [729]), (725, .lconst 1, []), (726, .goto 4, [730]), (729, .lconst 0, []), (730, .lcmp, []), (731, .ifCond .eq 5, [736]), (734, .iconst 0, []), (735, .ireturn, []), (736, .goto 438, [1174]), (739, .aload_n 1, []), (740, .aload_n 0, []), (741, .iload 4, []), (743, .iconst 1, []), (744, .iadd, []), (745, .iaload, []), (746, .aload_n 0, [])]
def an_lc11 : List ai_I := [(747, .iload 4, []), (749, .iconst 2, []), (750, .iadd, []), (751, .iaload, []), (752, .aload_n 3, []), (753, .invokestatic 110, []), (756, .istore 5, []), (758, .aload_n 2, []), (759, .aload_n 0, []), (760, .iload 4, []), (762, .iconst 1, []), (763, .iadd, []), (764, .iaload, []), (765, .aload_n 0, []), (766, .iload 4, []), (768, .iconst 2, []), (769, .iadd, []), (770, .iaload, []), (771, .invokevirtual 112, []), (774, .istore 6, []), (776, .aload_n 2, []), (777, .invokevirtual 76, []), (780, .iload 5, []), (782, .if_icmp .eq 5, [787]), (785, .iconst 0, []), (786, .ireturn, []), (787, .iload 5, []), (789, .ifCond .ne 22, [811]), (792, .aload_n 3, []), (793, .iconst 0, []), (794, .laload, []), (795, .iload 6, []), (797, .ifCond .eq 7, [804]), (800, .lconst 1, []), (801, .goto 4, [805]), (804, .lconst 0, []), (805, .lcmp, []), (806, .ifCond .eq 5, [811]), (809, .iconst 0, []), (810, .ireturn, [])]
def an_lc12 : List ai_I := [(811, .goto 363, [1174]), (814, .aload_n 1, []), (815, .aload_n 0, []), (816, .iload 4, []), (818, .iconst 1, []), (819, .iadd, []), (820, .iaload, []), (821, .aload_n 3, []), (822, .invokestatic 113, []), (825, .istore 5, []), (827, .aload_n 2, []), (828, .aload_n 0, []), (829, .iload 4, []), (831, .iconst 1, []), (832, .iadd, []), (833, .iaload, []), (834, .invokevirtual 115, []), (837, .istore 6, []), (839, .aload_n 2, []), (840, .invokevirtual 76, []), (843, .iload 5, []), (845, .if_icmp .eq 5, [850]), (848, .iconst 0, []), (849, .ireturn, []), (850, .iload 5, []), (852, .ifCond .ne 15, [867]), (855, .aload_n 3, []), (856, .iconst 0, []), (857, .laload, []), (858, .iload 6, []), (860, .i2l, []), (861, .lcmp, []), (862, .ifCond .eq 5, [867]), (865, .iconst 0, []), (866, .ireturn, []), (867, .goto 307, [1174]), (870, .aload_n 1, []), (871, .aload_n 0, []), (872, .iload 4, []), (874, .iconst 1, [])]
def an_lc13 : List ai_I := [(875, .iadd, []), (876, .iaload, []), (877, .aload_n 0, []), (878, .iload 4, []), (880, .iconst 2, []), (881, .iadd, []), (882, .iaload, []), (883, .aload_n 3, []), (884, .invokestatic 116, []), (887, .istore 5, []), (889, .aload_n 2, []), (890, .aload_n 0, []), (891, .iload 4, []), (893, .iconst 1, []), (894, .iadd, []), (895, .iaload, []), (896, .aload_n 0, []), (897, .iload 4, []), (899, .iconst 2, []), (900, .iadd, []), (901, .iaload, []), (902, .invokevirtual 118, []), (905, .istore 6, []), (907, .aload_n 2, []), (908, .invokevirtual 76, []), (911, .iload 5, []), (913, .if_icmp .eq 5, [918]), (916, .iconst 0, []), (917, .ireturn, []), (918, .iload 5, []), (920, .ifCond .ne 15, [935]), (923, .aload_n 3, []), (924, .iconst 0, []), (925, .laload, []), (926, .iload 6, []), (928, .i2l, []), (929, .lcmp, []), (930, .ifCond .eq 5, [935]), (933, .iconst 0, []), (934, .ireturn, [])]
def an_lc14 : List ai_I := [(935, .goto 239, [1174]), (938, .aload_n 1, []), (939, .aload_n 0, []), (940, .iload 4, []), (942, .iconst 1, []), (943, .iadd, []), (944, .iaload, []), (945, .aload_n 0, []), (946, .iload 4, []), (948, .iconst 2, []), (949, .iadd, []), (950, .iaload, []), (951, .aload_n 3, []), (952, .invokestatic 119, []), (955, .istore 5, []), (957, .aload_n 2, []), (958, .aload_n 0, []), (959, .iload 4, []), (961, .iconst 1, []), (962, .iadd, []), (963, .iaload, []), (964, .aload_n 0, []), (965, .iload 4, []), (967, .iconst 2, []), (968, .iadd, []), (969, .iaload, []), (970, .invokevirtual 121, []), (973, .istore 6, []), (975, .aload_n 2, []), (976, .invokevirtual 76, []), (979, .iload 5, []), (981, .if_icmp .eq 5, [986]), (984, .iconst 0, []), (985, .ireturn, []), (986, .iload 5, []), (988, .ifCond .ne 15, [1003]), (991, .aload_n 3, []), (992, .iconst 0, []), (993, .laload, []), (994, .iload 6, [])]
def an_lc15 : List ai_I := [(996, .i2l, []), (997, .lcmp, []), (998, .ifCond .eq 5, [1003]), (1001, .iconst 0, []), (1002, .ireturn, []), (1003, .goto 171, [1174]), (1006, .aload_n 1, []), (1007, .aload_n 0, []), (1008, .iload 4, []), (1010, .iconst 1, []), (1011, .iadd, []), (1012, .iaload, []), (1013, .aload_n 3, []), (1014, .invokestatic 122, []), (1017, .istore 5, []), (1019, .aload_n 2, []), (1020, .aload_n 0, []), (1021, .iload 4, []), (1023, .iconst 1, []), (1024, .iadd, []), (1025, .iaload, []), (1026, .invokevirtual 124, []), (1029, .istore 6, []), (1031, .aload_n 2, []), (1032, .invokevirtual 76, []), (1035, .iload 5, []), (1037, .if_icmp .eq 5, [1042]), (1040, .iconst 0, []), (1041, .ireturn, []), (1042, .iload 5, []), (1044, .ifCond .ne 15, [1059]), (1047, .aload_n 3, []), (1048, .iconst 0, []), (1049, .laload, []), (1050, .iload 6, []), (1052, .i2l, []), (1053, .lcmp, []), (1054, .ifCond .eq 5, [1059]), (1057, .iconst 0, []), (1058, .ireturn, [])]
def an_lc16 : List ai_I := [(1059, .goto 115, [1174]), (1062, .aload_n 1, []), (1063, .aload_n 0, []), (1064, .iload 4, []), (1066, .iconst 1, []), (1067, .iadd, []), (1068, .iaload, []), (1069, .aload_n 3, []), (1070, .invokestatic 125, []), (1073, .istore 5, []), (1075, .aload_n 2, []), (1076, .aload_n 0, []), (1077, .iload 4, []), (1079, .iconst 1, []), (1080, .iadd, []), (1081, .iaload, []), (1082, .invokevirtual 127, []), (1085, .istore 6, []), (1087, .aload_n 2, []), (1088, .invokevirtual 76, []), (1091, .iload 5, []), (1093, .if_icmp .eq 5, [1098]), (1096, .iconst 0, []), (1097, .ireturn, []), (1098, .iload 5, []), (1100, .ifCond .ne 15, [1115]), (1103, .aload_n 3, []), (1104, .iconst 0, []), (1105, .laload, []), (1106, .iload 6, []), (1108, .i2l, []), (1109, .lcmp, []), (1110, .ifCond .eq 5, [1115]), (1113, .iconst 0, []), (1114, .ireturn, []), (1115, .goto 59, [1174]), (1118, .aload_n 1, []), (1119, .aload_n 0, []), (1120, .iload 4, []), (1122, .iconst 1, [])]
def an_lc17 : List ai_I := [(1123, .iadd, []), (1124, .iaload, []), (1125, .aload_n 3, []), (1126, .invokestatic 128, []), (1129, .istore 5, []), (1131, .aload_n 2, []), (1132, .aload_n 0, []), (1133, .iload 4, []), (1135, .iconst 1, []), (1136, .iadd, []), (1137, .iaload, []), (1138, .invokevirtual 130, []), (1141, .istore 6, []), (1143, .aload_n 2, []), (1144, .invokevirtual 76, []), (1147, .iload 5, []), (1149, .if_icmp .eq 5, [1154]), (1152, .iconst 0, []), (1153, .ireturn, []), (1154, .iload 5, []), (1156, .ifCond .ne 15, [1171]), (1159, .aload_n 3, []), (1160, .iconst 0, []), (1161, .laload, []), (1162, .iload 6, []), (1164, .i2l, []), (1165, .lcmp, []), (1166, .ifCond .eq 5, [1171]), (1169, .iconst 0, []), (1170, .ireturn, []), (1171, .goto 3, [1174]), (1174, .iinc 4 6, []), (1177, .goto (-1134), [43]), (1180, .iconst 1, []), (1181, .ireturn, [])]
def an_law : ai_M := (11, yL_law_, cL_law_, 7, some .boolean, [], an_lc0 ++ (an_lc1 ++ (an_lc2 ++ (an_lc3 ++ (an_lc4 ++ (an_lc5 ++ (an_lc6 ++ (an_lc7 ++ (an_lc8 ++ (an_lc9 ++ (an_lc10 ++ (an_lc11 ++ (an_lc12 ++ (an_lc13 ++ (an_lc14 ++ (an_lc15 ++ (an_lc16 ++ (an_lc17))))))))))))))))))
set_option maxRecDepth 100000 in
theorem an_lo0 : an_lc0.all (fun x => ak_dc an_law.by' x.1 x.2.1 && ak_lf an_ta an_kd an_lk an_on an_law x.1 x.2.1 x.2.2) = true := by decide +kernel
set_option maxRecDepth 100000 in
theorem an_lo1 : an_lc1.all (fun x => ak_dc an_law.by' x.1 x.2.1 && ak_lf an_ta an_kd an_lk an_on an_law x.1 x.2.1 x.2.2) = true := by decide +kernel
set_option maxRecDepth 100000 in
theorem an_lo2 : an_lc2.all (fun x => ak_dc an_law.by' x.1 x.2.1 && ak_lf an_ta an_kd an_lk an_on an_law x.1 x.2.1 x.2.2) = true := by decide +kernel
set_option maxRecDepth 100000 in
theorem an_lo3 : an_lc3.all (fun x => ak_dc an_law.by' x.1 x.2.1 && ak_lf an_ta an_kd an_lk an_on an_law x.1 x.2.1 x.2.2) = true := by decide +kernel
set_option maxRecDepth 100000 in
theorem an_lo4 : an_lc4.all (fun x => ak_dc an_law.by' x.1 x.2.1 && ak_lf an_ta an_kd an_lk an_on an_law x.1 x.2.1 x.2.2) = true := by decide +kernel
set_option maxRecDepth 100000 in
theorem an_lo5 : an_lc5.all (fun x => ak_dc an_law.by' x.1 x.2.1 && ak_lf an_ta an_kd an_lk an_on an_law x.1 x.2.1 x.2.2) = true := by decide +kernel
set_option maxRecDepth 100000 in
theorem an_lo6 : an_lc6.all (fun x => ak_dc an_law.by' x.1 x.2.1 && ak_lf an_ta an_kd an_lk an_on an_law x.1 x.2.1 x.2.2) = true := by decide +kernel
set_option maxRecDepth 100000 in
theorem an_lo7 : an_lc7.all (fun x => ak_dc an_law.by' x.1 x.2.1 && ak_lf an_ta an_kd an_lk an_on an_law x.1 x.2.1 x.2.2) = true := by decide +kernel
set_option maxRecDepth 100000 in
theorem an_lo8 : an_lc8.all (fun x => ak_dc an_law.by' x.1 x.2.1 && ak_lf an_ta an_kd an_lk an_on an_law x.1 x.2.1 x.2.2) = true := by decide +kernel
set_option maxRecDepth 100000 in
theorem an_lo9 : an_lc9.all (fun x => ak_dc an_law.by' x.1 x.2.1 && ak_lf an_ta an_kd an_lk an_on an_law x.1 x.2.1 x.2.2) = true := by decide +kernel
set_option maxRecDepth 100000 in
theorem an_lo10 : an_lc10.all (fun x => ak_dc an_law.by' x.1 x.2.1 && ak_lf an_ta an_kd an_lk an_on an_law x.1 x.2.1 x.2.2) = true := by decide +kernel
set_option maxRecDepth 100000 in
theorem an_lo11 : an_lc11.all (fun x => ak_dc an_law.by' x.1 x.2.1 && ak_lf an_ta an_kd an_lk an_on an_law x.1 x.2.1 x.2.2) = true := by decide +kernel
set_option maxRecDepth 100000 in
theorem an_lo12 : an_lc12.all (fun x => ak_dc an_law.by' x.1 x.2.1 && ak_lf an_ta an_kd an_lk an_on an_law x.1 x.2.1 x.2.2) = true := by decide +kernel
set_option maxRecDepth 100000 in
theorem an_lo13 : an_lc13.all (fun x => ak_dc an_law.by' x.1 x.2.1 && ak_lf an_ta an_kd an_lk an_on an_law x.1 x.2.1 x.2.2) = true := by decide +kernel
set_option maxRecDepth 100000 in
theorem an_lo14 : an_lc14.all (fun x => ak_dc an_law.by' x.1 x.2.1 && ak_lf an_ta an_kd an_lk an_on an_law x.1 x.2.1 x.2.2) = true := by decide +kernel
set_option maxRecDepth 100000 in
theorem an_lo15 : an_lc15.all (fun x => ak_dc an_law.by' x.1 x.2.1 && ak_lf an_ta an_kd an_lk an_on an_law x.1 x.2.1 x.2.2) = true := by decide +kernel
set_option maxRecDepth 100000 in
theorem an_lo16 : an_lc16.all (fun x => ak_dc an_law.by' x.1 x.2.1 && ak_lf an_ta an_kd an_lk an_on an_law x.1 x.2.1 x.2.2) = true := by decide +kernel
set_option maxRecDepth 100000 in
theorem an_lo17 : an_lc17.all (fun x => ak_dc an_law.by' x.1 x.2.1 && ak_lf an_ta an_kd an_lk an_on an_law x.1 x.2.1 x.2.2) = true := by decide +kernel
theorem an_ok_law : ak_M an_ta an_kd an_lk an_on an_law = true := by
  have h : an_law.co.all (fun x => ak_dc an_law.by' x.1 x.2.1 && ak_lf an_ta an_kd an_lk an_on an_law x.1 x.2.1 x.2.2) = true := by
    show (an_lc0 ++ (an_lc1 ++ (an_lc2 ++ (an_lc3 ++ (an_lc4 ++ (an_lc5 ++ (an_lc6 ++ (an_lc7 ++ (an_lc8 ++ (an_lc9 ++ (an_lc10 ++ (an_lc11 ++ (an_lc12 ++ (an_lc13 ++ (an_lc14 ++ (an_lc15 ++ (an_lc16 ++ (an_lc17)))))))))))))))))).all _ = true
    simp only [List.all_append, an_lo0, an_lo1, an_lo2, an_lo3, an_lo4, an_lo5, an_lo6, an_lo7, an_lo8, an_lo9, an_lo10, an_lo11, an_lo12, an_lo13, an_lo14, an_lo15, an_lo16, an_lo17, Bool.and_self]
  unfold ak_M
  rw [h]
  decide +kernel
theorem an_okl : ai_okM an_ms an_lk an_on an_law := ak_M_ok an_tas (ak_arrs an_ars) an_cs an_K11 an_ok_law
end
section
/-! WHAT HOLDS AS THE LAW BEGINS -/
def an_strs : List (Nat × Nat × String) := [(9, 243, "no such cell"), (9, 107, "no such wind"), (9, 123, "no such text or day"), (7, 68, "call"), (7, 74, "pay"), (7, 76, "and"), (7, 78, "or"), (7, 80, "not"), (7, 82, "ward"), (7, 84, "wood"), (7, 86, "fuel"), (7, 88, "own"), (7, 90, "men"), (7, 92, "far"), (7, 94, "hour"), (7, 96, "fires"), (9, 246, "no such company"), (9, 160, "not so many hours"), (9, 185, "no such thing of a cell"), (9, 212, "no such thing of a company"), (9, 223, "no such house of a break"), (9, 238, "no such count"), (10, 9, "ward"), (10, 11, "wood"), (10, 13, "fuel"), (10, 15, "own"), (10, 17, "men"), (10, 19, "far"), (10, 21, "hour"), (10, 23, "fires"), (10, 215, "pay"), (10, 221, "call"), (10, 243, "not"), (10, 236, "and"), (10, 238, "or")]
def ap_at (p : Nat) (w : Cond) : Bool := decide (lw_tbl[p]? = some w)
theorem ap_at_in {p : Nat} {w : Cond} (h : ap_at p w = true) : w ∈ lw_tbl := List.mem_of_getElem? (of_decide_eq_true h)
def ap_gv : List Cond := flatC (Jvm.Cond.and given_1 narrow_1)
def ap_gt (p : Nat) (w : Cond) : Bool := decide (ap_gv[p]? = some w)
theorem ap_gt_in {p : Nat} {w : Cond} (h : ap_gt p w = true) : w ∈ ap_gv := List.mem_of_getElem? (of_decide_eq_true h)
def ap_st (x : Nat × Nat × String) (p : Nat × Nat) : Bool := ap_at p.1 (.stringRef (an_on x.1) x.2.1 x.2.2) && ap_gt p.2 (.exactly (.string (an_on x.1) x.2.1) "java/lang/String")
def ap_zs : List (Nat × Nat × String) → List (Nat × Nat) → Bool
  | [], _ => true
  | x :: r, p :: q => ap_st x p && ap_zs r q
  | _ :: _, [] => false
theorem ap_zs_ok : ∀ {l : List (Nat × Nat × String)} {ps : List (Nat × Nat)}, ap_zs l ps = true → ∀ x ∈ l, Cond.stringRef (an_on x.1) x.2.1 x.2.2 ∈ lw_tbl ∧ Cond.exactly (.string (an_on x.1) x.2.1) "java/lang/String" ∈ ap_gv
  | [], _, _, x, hx => nomatch hx
  | y :: r, p :: q, h, x, hx => by
    simp only [ap_zs, ap_st, Bool.and_eq_true] at h
    rcases List.mem_cons.mp hx with rfl | hx
    · exact ⟨ap_at_in h.1.1, ap_gt_in h.1.2⟩
    · exact ap_zs_ok h.2 x hx
  | _ :: _, [], h, _, _ => by cases h
set_option maxRecDepth 100000 in
theorem an_strs_ok : ap_zs an_strs [(529, 35), (586, 51), (611, 67), (639, 90), (692, 98), (693, 105), (694, 112), (695, 118), (700, 125), (701, 133), (702, 141), (703, 149), (704, 156), (705, 163), (706, 170), (707, 178), (872, 187), (887, 206), (977, 227), (985, 254), (1043, 284), (1055, 312), (1064, 329), (1065, 338), (1066, 347), (1067, 356), (1068, 364), (1069, 372), (1070, 380), (1071, 389), (1295, 399), (1302, 407), (1319, 416), (1332, 424), (1333, 432)] = true := by decide +kernel
/-- the strings that the links name are those of the list -/
def ap_sl : Bool := (List.range 14).all (fun cn => (an_lk cn).2.2.1.all (fun x => match an_strs[x.2]? with
  | some (c, ix, _) => decide (c = cn) && decide (ix = x.1)
  | none => false))
theorem an_sl_ok : ap_sl = true := by decide +kernel
theorem an_lk_big : ∀ n, an_lk (n + 14) = an_lk 13 := fun _ => rfl
theorem an_on_big : ∀ n, an_on (n + 14) = an_on 13 := fun _ => rfl
set_option maxRecDepth 100000 in
theorem an_w1 : Cond.laysStatic Bundle.tN "UNASSIGNED_STACK" Bundle.steD ∈ lw_tbl := ap_at_in (p := 516) (by decide +kernel)
set_option maxRecDepth 100000 in
theorem an_w2 : Cond.laysStatic Bundle.tN "SUPPRESSED_SENTINEL" Bundle.listD ∈ lw_tbl := ap_at_in (p := 518) (by decide +kernel)
set_option maxRecDepth 100000 in
theorem an_w3 : Cond.initialized Bundle.tN ∈ lw_tbl := ap_at_in (p := 106) (by decide +kernel)
set_option maxRecDepth 100000 in
theorem an_w4 : Cond.isRef (.static Bundle.tN "UNASSIGNED_STACK" Bundle.steD) ∈ ap_gv := ap_gt_in (p := 4) (by decide +kernel)
set_option maxRecDepth 100000 in
theorem an_w5 : Cond.isRef (.static Bundle.tN "SUPPRESSED_SENTINEL" Bundle.listD) ∈ ap_gv := ap_gt_in (p := 5) (by decide +kernel)
set_option maxRecDepth 100000 in
theorem an_w6 : Cond.arrayOver (.object "java/lang/String") ∈ lw_tbl := ap_at_in (p := 1063) (by decide +kernel)
set_option maxRecDepth 100000 in
theorem an_w7 : ∀ w ∈ ai_NW, w ∈ lw_tbl := by
  intro w hw
  simp only [ai_NW, List.mem_cons, List.not_mem_nil, or_false] at hw
  rcases hw with rfl | rfl | rfl | rfl | rfl | rfl | rfl | rfl | rfl
  · exact ap_at_in (p := 493) (by decide +kernel)
  · exact ap_at_in (p := 495) (by decide +kernel)
  · exact ap_at_in (p := 497) (by decide +kernel)
  · exact ap_at_in (p := 491) (by decide +kernel)
  · exact ap_at_in (p := 579) (by decide +kernel)
  · exact ap_at_in (p := 194) (by decide +kernel)
  · exact ap_at_in (p := 237) (by decide +kernel)
  · exact ap_at_in (p := 309) (by decide +kernel)
  · exact ap_at_in (p := 332) (by decide +kernel)
end
section
/-! the world of the handles as the law begins, and the law's walk out of a run of the interpreter -/
def R_law : String := "FireWardsLaw"
def lw_P (b : Addr) (xs : List Int32) (args : Array Value) (s : State) : Prop := args = #[.ref b] ∧ s.IntsAt b xs ∧ xs.length ≤ 8 ∧ (Jvm.Cond.and given_1 narrow_1).before args s = true
def lw_Q (_ : Array Value) (s : State) (o : Outcome) (t : State) : Prop := o = .returned (some (.int 1)) ∧ Framed s o t [] 600002 7302198
def lw_Z (below : List Frame) (a : Array Value) (s : State) : State → Prop := fun t => ∃ o, t.status = .running ∧ Ended t below o ∧ lw_Q a s o t
def lw_At (p : Program) (s : State) (m : MethodId) (meth : Method) (c : Code) (b L : Nat) (xs : Nat → Int32) : Prop :=
  p.tables.exec = Jvm.exec ∧ c.code = code ∧ meth.sig.returnType = ret ∧ c.maxLocals = 7 ∧ s.vm.findClass R_law = some m.cls ∧ (∀ w ∈ lw_tbl, w.before #[Value.ref b] s = true) ∧ va_X b L xs s s.heap ∧ b < s.heap.size ∧ meth.locks = false ∧ (Jvm.Cond.and given_1 narrow_1).before #[Value.ref b] s = true
theorem ap_arr {s : State} {args : Array Value} {ty : FieldType} (hp : ∀ C, ty ≠ .object C) (h : (Cond.arrayClass ty).before args s = true) : ∃ cA : ClassId, ArrOfT s cA ty ∧ va_RA s cA ty := by
  obtain ⟨cA, kA, comp, h1, h2, h3⟩ := Cond.arrayClass_spec h
  refine ⟨cA, fun n z => ⟨fun k h => (by cases h), kA, h2, comp, h3⟩, ?_⟩
  cases ty with
  | object C => exact absurd rfl (hp C)
  | _ => exact h1
set_option maxHeartbeats 1000000 in
theorem an_begin {p : Program} {s : State} {m : MethodId} {meth : Method} {c : Code} {b L : Nat} {xs : Nat → Int32} (C0 : lw_At p s m meth c b L xs) (htab : c.exceptionTable.toList = []) : ∃ (D : va_G) (ad : Nat → Nat) (dA : Nat → ClassId), ad 1000000 = b ∧ (∀ k, k < 1000000 → ad k = s.heap.size + k) ∧ ai_Cx an_lk an_on (L, xs) 35 D ad dA s.heap.size s.heap room_1 an_law p s m #[Value.ref b] meth c := by
  obtain ⟨hx, hb, hr, hml, hown, hts, hX, hbl, hlocks, hgv⟩ := C0
  have hg : ∀ w ∈ ap_gv, w.before #[Value.ref b] s = true := flat_of_before _ hgv
  have htb : ∀ w ∈ ai_TB, w.before #[Value.ref b] s = true := fun w hw => hts w (List.mem_filter.mp hw).1
  have hA : ∀ a : Nat, a < s.heap.size → ¬ (fun q : Nat => s.heap.size ≤ q) a := fun a ha => Nat.not_le.mpr ha
  have hcl : ∀ k : Nat, ∃ x : ClassId × (Nat → Nat), ∀ q, vwCl[k]? = some q → u_Kn s q.1 q.2.1 q.2.2 x.1 x.2 := by
    intro k
    cases hq : vwCl[k]? with
    | none => exact ⟨(0, fun _ => 0), fun q h => by cases h⟩
    | some q =>
      obtain ⟨c1, c2, c3, c4, c5, c6, c7⟩ := ai_cls hq
      obtain ⟨cC, iS, h⟩ := u_known htb c1 (htb _ c6)
      exact ⟨(cC, iS), fun q' h' => by cases h'; exact h⟩
  obtain ⟨fc, hfc⟩ := Classical.axiomOfChoice hcl
  have har := ak_arrs an_ars
  obtain ⟨a0, ha0⟩ := ap_arr (ty := .int) (fun C h => by cases h) (htb _ (har .int (by simp)))
  obtain ⟨a1, ha1⟩ := ap_arr (ty := .boolean) (fun C h => by cases h) (htb _ (har .boolean (by simp)))
  obtain ⟨a2, ha2⟩ := ap_arr (ty := .byte) (fun C h => by cases h) (htb _ (har .byte (by simp)))
  obtain ⟨a3, ha3⟩ := ap_arr (ty := .long) (fun C h => by cases h) (htb _ (har .long (by simp)))
  obtain ⟨a4, ha4⟩ : ∃ cA : ClassId, ArrOfT s cA (.object "java/lang/String") ∧ va_RA s cA (.object "java/lang/String") := by
    obtain ⟨comp, cA, kA, h1, h2, h3, h4, h5⟩ := Cond.arrayOver_spec (hts _ an_w6)
    exact ⟨cA, fun n z => ⟨fun k h => (by cases h), kA, h3, comp, h4⟩, kA, comp, h3, h4, h1, h5⟩
  have hst : ∀ i : Nat, ∃ a : Nat, ∀ x, an_strs[i]? = some x → vk_R (an_on x.1) x.2.1 x.2.2 a s ∧ va_O "java/lang/String" a (fun q : Nat => s.heap.size ≤ q) s s.heap := by
    intro i
    cases hq : an_strs[i]? with
    | none => exact ⟨0, fun x h => by cases h⟩
    | some x =>
      obtain ⟨w1, w2⟩ := ap_zs_ok an_strs_ok x (List.mem_of_getElem? hq)
      obtain ⟨a, cc9, cell, k, e1, e2, e3, e4, e5, e6, -⟩ := Cond.exactly_spec (hg _ w2)
      exact ⟨a, fun x' h' => by cases h'; exact ⟨vk_R.of (hts _ w1) e1, cell, e3, e5, by rw [e6]; exact e2, hA a (Array.getElem?_eq_some_iff.mp e3).1⟩⟩
  obtain ⟨sad, hsad⟩ := Classical.axiomOfChoice hst
  refine ⟨(fun k => (fc k).1, fun k => (fc k).2), fun k => if k < 1000000 then s.heap.size + k else if k = 1000000 then b else sad (k - 1000001), fun k => if k = 0 then a0 else if k = 1 then a1 else if k = 2 then a2 else if k = 3 then a3 else a4, rfl, fun k hk => if_pos hk, ?_⟩
  refine ⟨hx, hb, hml, hr, hlocks, hown, fun h => absurd h (by decide), htb, fun k hk => if_pos hk, ⟨Nat.le_refl _, fun _ _ => rfl⟩, hbl, ⟨⟨fun k q hq => hfc k q hq, fun k q hk => ?_⟩, hX, fun cn ix i hi => ?_, fun v q1 q2 => ?_, hts _ an_w6, vx_Zqof (hts _ an_w1) (hts _ an_w3) (hg _ an_w4) hA, vx_Zqof (hts _ an_w2) (hts _ an_w3) (hg _ an_w5) hA, fun w hw => va_Nw.of (ai_NW_on hw) (hts w (an_w7 w hw))⟩, by decide, by decide, by rw [htab]; rfl⟩
  · match k, hk with
    | 0, hk => cases hk; exact ha0
    | 1, hk => cases hk; exact ha1
    | 2, hk => cases hk; exact ha2
    | 3, hk => cases hk; exact ha3
    | 4, hk => cases hk; exact ha4
    | k + 5, hk => simp [ai_tys] at hk
  · have key : ∀ cn, cn < 14 → ∀ ix i, ai_as (an_lk cn).2.2.1 ix = some i → ∃ tx, an_strs[i]? = some (cn, ix, tx) := by
      intro cn hcn ix i hi
      have h1 := List.all_eq_true.mp an_sl_ok cn (List.mem_range.mpr hcn)
      have h2 := List.all_eq_true.mp h1 _ (ai_as_mem hi)
      simp only at h2
      split at h2
      · rename_i c9 ix9 tx9 h3
        simp only [Bool.and_eq_true, decide_eq_true_eq] at h2
        obtain ⟨rfl, rfl⟩ := h2
        exact ⟨tx9, h3⟩
      · cases h2
    have ev : ∀ i : Nat, (if 1000001 + i < 1000000 then s.heap.size + (1000001 + i) else if 1000001 + i = 1000000 then b else sad (1000001 + i - 1000001)) = sad i := by
      intro i
      rw [if_neg (by omega), if_neg (by omega), show 1000001 + i - 1000001 = i by omega]
    rcases Nat.lt_or_ge cn 14 with hc | hc
    · obtain ⟨tx, h⟩ := key cn hc ix i hi
      exact ⟨tx, by dsimp only; rw [ev]; exact (hsad i _ h).1⟩
    · obtain ⟨n9, rfl⟩ : ∃ n9, cn = n9 + 14 := ⟨cn - 14, by omega⟩
      rw [an_lk_big] at hi
      obtain ⟨tx, h⟩ := key 13 (by omega) ix i hi
      exact ⟨tx, by dsimp only; rw [ev, an_on_big]; exact (hsad i _ h).1⟩
  · obtain ⟨i, rfl⟩ : ∃ i, v = 1000001 + i := ⟨v - 1000001, by omega⟩
    have hi : i < an_strs.length := by
      show i < 35
      omega
    dsimp only
    rw [if_neg (by omega), if_neg (by omega), show 1000001 + i - 1000001 = i by omega]
    exact (hsad i _ (List.getElem?_eq_getElem hi)).2
/-- THE LAW, from its entry, out of a run of the interpreter -/
theorem an_whole {p : Program} {e : Env} {s : State} {m : MethodId} {below : List Frame} {meth : Method} {c : Code} (l : Launch) (htr : l.stackTraces = false) {b L : Nat} {xs : Nat → Int32} (C0 : lw_At p s m meth c b L xs) (htab : c.exceptionTable.toList = []) {d n nc ns : Nat} {h' : ai_H} {ex' : Bool} (hd : d ≤ 1000) (hnc : nc ≤ 600002) (hns : ns ≤ 7302198)
    (hn : ai_Rn an_ms an_lk (L, xs) 35 (ai_Ev an_ms an_lk (L, xs) 35 d) an_law n (0, [(0, .ref 1000000)], [], [], true, 0, 0) (.inl (some (.int 1), h', ex', nc, ns))) : W p l e room_1 s m #[Value.ref b] below meth c s.heap [] 0 0 (lw_Z below #[Value.ref b] s) (entryFrame m ([Value.ref b] : List Value).toArray 7) := by
  obtain ⟨D, ad, dA, hab, had, C⟩ := an_begin C0 htab
  have hbl : b < s.heap.size := C0.2.2.2.2.2.2.2.1
  have hcl := ai_sound (l := l) (D := D) (ad := ad) (dA := dA) (z0 := s.heap.size) (Hb := s.heap) (X := (L, xs)) (NS := 35) htr an_oks had (by rw [hab]; exact hbl) d
  have hC : ai_Cx an_lk an_on (L, xs) 35 D ad dA s.heap.size s.heap room_1 an_law p s m (([.ref 1000000] : List Value).map (ai_v ad)).toArray meth c := by
    have : (([.ref 1000000] : List Value).map (ai_v ad)).toArray = #[Value.ref b] := by
      simp [ai_v, hab]
    rw [this]
    exact C
  have hR0 : ai_R D ad dA s.heap.size s.heap [] s.heap := ⟨fun k q hq => by simp [ai_w] at hq, by decide, Nat.le_refl _, fun _ _ => rfl⟩
  have hw := as_body (l := l) (e := e) (below := below) (h := []) (ex := true) had hC an_okl htr hcl ⟨by show 10 + d + 1 ≤ 2048; omega, by show 200 + 50 * (d + 1) ≤ 84000; omega⟩ hn (by decide) (by show nc ≤ 600002; exact hnc) (by show ns ≤ 7302198; exact hns) hR0 (fun _ => rfl)
  have ha : (([.ref 1000000] : List Value).map (ai_v ad)).toArray = #[Value.ref b] := by
    simp [ai_v, hab]
  rw [ha] at hw
  intro T hT X9
  obtain ⟨t, a1, o, b1, b2, b3⟩ := hw T hT X9
  refine ⟨t, a1, o, b1, b2, ?_⟩
  rcases b3 with ⟨⟨hv, -, -⟩, L9, ⟨f1, f2, f3⟩, f4⟩ | ⟨q9, -, E9, ce9, L9, h9, -⟩
  · refine ⟨hv, ?_⟩
    subst hv
    exact ⟨⟨_, rfl⟩, f2, f3.weaken (fun y hy hlt => absurd (f4 y hy) (Nat.not_le.mpr hlt)) hnc hns⟩
  · exact absurd h9 (fun h => h)
end
section
/-! RUNS OF THE INTERPRETER, put together out of stretches -/
def ag_Go (X : Nat × (Nat → Int32)) (d : Nat) (M : ai_M) (fr : ai_F) (o : ai_O) : Prop := ∃ n, ai_Rn an_ms an_lk X 35 (ai_Ev an_ms an_lk X 35 d) M n fr o
def ag_n (X : Nat × (Nat → Int32)) (M : ai_M) : Nat → ai_F → Option ai_F
  | 0, fr => some fr
  | k + 1, fr => match ai_as M.co fr.1 with
    | some (i, tg) => (match ai_st (an_lk M.cn) X M.ml 35 i tg fr with
      | some fr' => ag_n X M k fr'
      | none => none)
    | none => none
section AGO
variable {X : Nat × (Nat → Int32)} {d : Nat} {M : ai_M} {o : ai_O}
theorem go_st {fr fr' : ai_F} {i : Instr} {tg : List Nat} (h1 : ai_as M.co fr.1 = some (i, tg)) (h2 : ai_st (an_lk M.cn) X M.ml 35 i tg fr = some fr') (k : ag_Go X d M fr' o) : ag_Go X d M fr o := by
  obtain ⟨n, hn⟩ := k
  exact ⟨n + 1, i, tg, h1, Or.inl ⟨fr', h2, hn⟩⟩
theorem go_n : ∀ (k : Nat) {fr fr' : ai_F}, ag_n X M k fr = some fr' → ag_Go X d M fr' o → ag_Go X d M fr o
  | 0, fr, fr', h, g => by
    cases h
    exact g
  | k + 1, fr, fr', h, g => by
    simp only [ag_n] at h
    split at h
    · rename_i i tg h1
      split at h
      · rename_i fr2 h2
        exact go_st h1 h2 (go_n k h g)
      · cases h
    · cases h
theorem go_rt {fr : ai_F} {i : Instr} {tg : List Nat} (h1 : ai_as M.co fr.1 = some (i, tg)) (h2 : ai_rt M.rt i fr = some o) : ag_Go X d M fr o := ⟨1, i, tg, h1, Or.inr (Or.inl h2)⟩
theorem go_th {fr : ai_F} {i : Instr} {tg : List Nat} (h1 : ai_as M.co fr.1 = some (i, tg)) (h2 : ai_th (an_lk M.cn) M.hh i fr = some o) : ag_Go X d M fr o := ⟨1, i, tg, h1, Or.inr (Or.inr (Or.inl h2))⟩
theorem go_call {fr : ai_F} {i : Instr} {tg : List Nat} (h1 : ai_as M.co fr.1 = some (i, tg)) {q : Nat} {As rest : List Value} {M1 : ai_M} {v : Option Value} {h' : ai_H} {ex' : Bool} {nc' ns' : Nat} (hca : ai_ca (an_lk M.cn) i fr.2.2.1 fr.2.2.2.1 = some (q, As, rest)) (hq0 : q ≠ 0) (hM1 : an_ms[q]? = some M1) (hrc : ai_rc i As fr.2.2.2.1 M1.cn) (hni : ai_ni i (.inl (v, h', ex', nc', ns'))) (hcl : ai_Ev an_ms an_lk X 35 d q As fr.2.2.2.1 fr.2.2.2.2.1 (.inl (v, h', ex', nc', ns'))) (k : ag_Go X d M (ai_af fr rest v h' ex' nc' ns') o) : ag_Go X d M fr o := by
  obtain ⟨n, hn⟩ := k
  exact ⟨n + 1, i, tg, h1, Or.inr (Or.inr (Or.inr ⟨q, As, rest, _, M1, hca, hq0, hM1, hrc, hni, hcl, hn⟩))⟩
theorem go_thr {fr : ai_F} {i : Instr} {tg : List Nat} (h1 : ai_as M.co fr.1 = some (i, tg)) {q : Nat} {As rest : List Value} {M1 : ai_M} {E : String} {h' : ai_H} {nc' ns' : Nat} (hca : ai_ca (an_lk M.cn) i fr.2.2.1 fr.2.2.2.1 = some (q, As, rest)) (hq0 : q ≠ 0) (hM1 : an_ms[q]? = some M1) (hrc : ai_rc i As fr.2.2.2.1 M1.cn) (hni : ai_ni i (.inr (E, h', nc', ns'))) (hcl : ai_Ev an_ms an_lk X 35 d q As fr.2.2.2.1 fr.2.2.2.2.1 (.inr (E, h', nc', ns'))) (hh : M.hh = []) : ag_Go X d M fr (.inr (E, h', fr.2.2.2.2.2.1 + nc', fr.2.2.2.2.2.2 + ns')) :=
  ⟨1, i, tg, h1, Or.inr (Or.inr (Or.inr ⟨q, As, rest, _, M1, hca, hq0, hM1, hrc, hni, hcl, Or.inl ⟨hh, rfl⟩⟩))⟩
theorem go_cat {fr : ai_F} {i : Instr} {tg : List Nat} (h1 : ai_as M.co fr.1 = some (i, tg)) {q : Nat} {As rest : List Value} {M1 : ai_M} {E : String} {h' : ai_H} {nc' ns' : Nat} (hca : ai_ca (an_lk M.cn) i fr.2.2.1 fr.2.2.2.1 = some (q, As, rest)) (hq0 : q ≠ 0) (hM1 : an_ms[q]? = some M1) (hrc : ai_rc i As fr.2.2.2.1 M1.cn) (hni : ai_ni i (.inr (E, h', nc', ns'))) (hcl : ai_Ev an_ms an_lk X 35 d q As fr.2.2.2.1 fr.2.2.2.2.1 (.inr (E, h', nc', ns'))) {st en hp ix : Nat} (hh : M.hh = [(st, en, hp, ix)]) (h2 : st ≤ fr.1) (h3 : fr.1 < en) (h4 : ai_as (an_lk M.cn).2.2.2.2 ix = some E) : ag_Go X d M fr (.inl (some (.int 1), h', false, fr.2.2.2.2.2.1 + nc', fr.2.2.2.2.2.2 + ns')) :=
  ⟨1, i, tg, h1, Or.inr (Or.inr (Or.inr ⟨q, As, rest, _, M1, hca, hq0, hM1, hrc, hni, hcl, Or.inr ⟨st, en, hp, ix, hh, h2, h3, h4, rfl⟩⟩))⟩
theorem ev_of {q : Nat} {As : List Value} {h : ai_H} {ex : Bool} (hM : an_ms[q]? = some M) (hlen : (lg_sl As).length ≤ M.ml) (k : ag_Go X d M (0, lv_args 0 As, [], h, ex, 0, 0) o) : ai_Ev an_ms an_lk X 35 (d + 1) q As h ex o := by
  obtain ⟨n, hn⟩ := k
  exact ⟨M, n, hM, hlen, hn⟩
theorem go_eq {fr fr' : ai_F} (h : fr = fr') (k : ag_Go X d M fr' o) : ag_Go X d M fr o := h ▸ k
variable {pc : Nat} {lv : List (Nat × Value)} {st : List Value} {r : ai_H × Bool × Nat × Nat} {h : ai_H} {z : Bool × Nat × Nat} {t : Nat} {off : Int} {x y : Int32}
theorem go_ic_eq (h1 : ai_as M.co pc = some (.if_icmp .eq off, [t])) (kt : x = y → ag_Go X d M (t, lv, st, r) o) (kf : ¬ x = y → ag_Go X d M (pc + 3, lv, st, r) o) : ag_Go X d M (pc, lv, .int y :: .int x :: st, r) o := by
  by_cases q : x = y
  · refine go_st (fr' := (t, lv, st, r)) h1 ?_ (kt q)
    simp [ai_st, ai_ic, ai_cp, q]
  · refine go_st (fr' := (pc + 3, lv, st, r)) h1 ?_ (kf q)
    simp [ai_st, ai_ic, ai_cp, q]
theorem go_if_eq (h1 : ai_as M.co pc = some (.ifCond .eq off, [t])) (kt : x = 0 → ag_Go X d M (t, lv, st, r) o) (kf : ¬ x = 0 → ag_Go X d M (pc + 3, lv, st, r) o) : ag_Go X d M (pc, lv, .int x :: st, r) o := by
  by_cases q : x = 0
  · refine go_st (fr' := (t, lv, st, r)) h1 ?_ (kt q)
    simp [ai_st, ai_if, ai_cp, q]
  · refine go_st (fr' := (pc + 3, lv, st, r)) h1 ?_ (kf q)
    simp [ai_st, ai_if, ai_cp, q]
theorem go_ic_ne (h1 : ai_as M.co pc = some (.if_icmp .ne off, [t])) (kt : ¬ x = y → ag_Go X d M (t, lv, st, r) o) (kf : x = y → ag_Go X d M (pc + 3, lv, st, r) o) : ag_Go X d M (pc, lv, .int y :: .int x :: st, r) o := by
  by_cases q : ¬ x = y
  · refine go_st (fr' := (t, lv, st, r)) h1 ?_ (kt q)
    simp [ai_st, ai_ic, ai_cp, q]
  · refine go_st (fr' := (pc + 3, lv, st, r)) h1 ?_ (kf (Classical.not_not.mp q))
    simp [ai_st, ai_ic, ai_cp, q]
theorem go_if_ne (h1 : ai_as M.co pc = some (.ifCond .ne off, [t])) (kt : ¬ x = 0 → ag_Go X d M (t, lv, st, r) o) (kf : x = 0 → ag_Go X d M (pc + 3, lv, st, r) o) : ag_Go X d M (pc, lv, .int x :: st, r) o := by
  by_cases q : ¬ x = 0
  · refine go_st (fr' := (t, lv, st, r)) h1 ?_ (kt q)
    simp [ai_st, ai_if, ai_cp, q]
  · refine go_st (fr' := (pc + 3, lv, st, r)) h1 ?_ (kf (Classical.not_not.mp q))
    simp [ai_st, ai_if, ai_cp, q]
theorem go_ic_lt (h1 : ai_as M.co pc = some (.if_icmp .lt off, [t])) (kt : x < y → ag_Go X d M (t, lv, st, r) o) (kf : ¬ x < y → ag_Go X d M (pc + 3, lv, st, r) o) : ag_Go X d M (pc, lv, .int y :: .int x :: st, r) o := by
  by_cases q : x < y
  · refine go_st (fr' := (t, lv, st, r)) h1 ?_ (kt q)
    simp [ai_st, ai_ic, ai_cp, q]
  · refine go_st (fr' := (pc + 3, lv, st, r)) h1 ?_ (kf q)
    simp [ai_st, ai_ic, ai_cp, q]
theorem go_if_lt (h1 : ai_as M.co pc = some (.ifCond .lt off, [t])) (kt : x < 0 → ag_Go X d M (t, lv, st, r) o) (kf : ¬ x < 0 → ag_Go X d M (pc + 3, lv, st, r) o) : ag_Go X d M (pc, lv, .int x :: st, r) o := by
  by_cases q : x < 0
  · refine go_st (fr' := (t, lv, st, r)) h1 ?_ (kt q)
    simp [ai_st, ai_if, ai_cp, q]
  · refine go_st (fr' := (pc + 3, lv, st, r)) h1 ?_ (kf q)
    simp [ai_st, ai_if, ai_cp, q]
theorem go_ic_ge (h1 : ai_as M.co pc = some (.if_icmp .ge off, [t])) (kt : y ≤ x → ag_Go X d M (t, lv, st, r) o) (kf : ¬ y ≤ x → ag_Go X d M (pc + 3, lv, st, r) o) : ag_Go X d M (pc, lv, .int y :: .int x :: st, r) o := by
  by_cases q : y ≤ x
  · refine go_st (fr' := (t, lv, st, r)) h1 ?_ (kt q)
    simp [ai_st, ai_ic, ai_cp, q]
  · refine go_st (fr' := (pc + 3, lv, st, r)) h1 ?_ (kf q)
    simp [ai_st, ai_ic, ai_cp, q]
theorem go_if_ge (h1 : ai_as M.co pc = some (.ifCond .ge off, [t])) (kt : 0 ≤ x → ag_Go X d M (t, lv, st, r) o) (kf : ¬ 0 ≤ x → ag_Go X d M (pc + 3, lv, st, r) o) : ag_Go X d M (pc, lv, .int x :: st, r) o := by
  by_cases q : 0 ≤ x
  · refine go_st (fr' := (t, lv, st, r)) h1 ?_ (kt q)
    simp [ai_st, ai_if, ai_cp, q]
  · refine go_st (fr' := (pc + 3, lv, st, r)) h1 ?_ (kf q)
    simp [ai_st, ai_if, ai_cp, q]
theorem go_ic_gt (h1 : ai_as M.co pc = some (.if_icmp .gt off, [t])) (kt : y < x → ag_Go X d M (t, lv, st, r) o) (kf : ¬ y < x → ag_Go X d M (pc + 3, lv, st, r) o) : ag_Go X d M (pc, lv, .int y :: .int x :: st, r) o := by
  by_cases q : y < x
  · refine go_st (fr' := (t, lv, st, r)) h1 ?_ (kt q)
    simp [ai_st, ai_ic, ai_cp, q]
  · refine go_st (fr' := (pc + 3, lv, st, r)) h1 ?_ (kf q)
    simp [ai_st, ai_ic, ai_cp, q]
theorem go_if_gt (h1 : ai_as M.co pc = some (.ifCond .gt off, [t])) (kt : 0 < x → ag_Go X d M (t, lv, st, r) o) (kf : ¬ 0 < x → ag_Go X d M (pc + 3, lv, st, r) o) : ag_Go X d M (pc, lv, .int x :: st, r) o := by
  by_cases q : 0 < x
  · refine go_st (fr' := (t, lv, st, r)) h1 ?_ (kt q)
    simp [ai_st, ai_if, ai_cp, q]
  · refine go_st (fr' := (pc + 3, lv, st, r)) h1 ?_ (kf q)
    simp [ai_st, ai_if, ai_cp, q]
theorem go_ic_le (h1 : ai_as M.co pc = some (.if_icmp .le off, [t])) (kt : x ≤ y → ag_Go X d M (t, lv, st, r) o) (kf : ¬ x ≤ y → ag_Go X d M (pc + 3, lv, st, r) o) : ag_Go X d M (pc, lv, .int y :: .int x :: st, r) o := by
  by_cases q : x ≤ y
  · refine go_st (fr' := (t, lv, st, r)) h1 ?_ (kt q)
    simp [ai_st, ai_ic, ai_cp, q]
  · refine go_st (fr' := (pc + 3, lv, st, r)) h1 ?_ (kf q)
    simp [ai_st, ai_ic, ai_cp, q]
theorem go_if_le (h1 : ai_as M.co pc = some (.ifCond .le off, [t])) (kt : x ≤ 0 → ag_Go X d M (t, lv, st, r) o) (kf : ¬ x ≤ 0 → ag_Go X d M (pc + 3, lv, st, r) o) : ag_Go X d M (pc, lv, .int x :: st, r) o := by
  by_cases q : x ≤ 0
  · refine go_st (fr' := (t, lv, st, r)) h1 ?_ (kt q)
    simp [ai_st, ai_if, ai_cp, q]
  · refine go_st (fr' := (pc + 3, lv, st, r)) h1 ?_ (kf q)
    simp [ai_st, ai_if, ai_cp, q]
theorem go_ial {a n : Nat} {f : Nat → Int32} {i : Int32} {tg : List Nat} (h1 : ai_as M.co pc = some (.iaload, tg)) (ha : a ≠ 1000000) (hh : h[a]? = some (.inl (0, n, .inl f))) (hi : ai_in i n = true) (k : ag_Go X d M (pc + 1, lv, .int (f i.toNatClampNeg) :: st, h, z) o) : ag_Go X d M (pc, lv, .int i :: .ref a :: st, h, z) o :=
  go_st h1 (by simp only [ai_st, ai_ial, if_neg ha, hh, if_pos hi]) k
theorem go_scr {i : Int32} {tg : List Nat} (h1 : ai_as M.co pc = some (.iaload, tg)) (hi : ai_in i X.1 = true) (k : ag_Go X d M (pc + 1, lv, .int (X.2 i.toNatClampNeg) :: st, h, z) o) : ag_Go X d M (pc, lv, .int i :: .ref 1000000 :: st, h, z) o :=
  go_st h1 (by simp [ai_st, ai_ial, hi]) k
theorem go_zal {a n : Nat} {f : Nat → Int32} {i : Int32} {tg : List Nat} (h1 : ai_as M.co pc = some (.baload, tg)) (hh : h[a]? = some (.inl (1, n, .inl f))) (hi : ai_in i n = true) (k : ag_Go X d M (pc + 1, lv, .int (f i.toNatClampNeg) :: st, h, z) o) : ag_Go X d M (pc, lv, .int i :: .ref a :: st, h, z) o :=
  go_st h1 (by simp only [ai_st, ai_bal, hh, if_pos hi]) k
theorem go_ias {a n : Nat} {f : Nat → Int32} {i : Int32} {tg : List Nat} (h1 : ai_as M.co pc = some (.iastore, tg)) (hh : h[a]? = some (.inl (0, n, .inl f))) (hi : ai_in i n = true) (k : ag_Go X d M (pc + 1, lv, st, h.set a (.inl (0, n, .inl (upd f i.toNatClampNeg x))), z) o) : ag_Go X d M (pc, lv, .int x :: .int i :: .ref a :: st, h, z) o :=
  go_st h1 (by simp only [ai_st, ai_ias, hh, if_pos hi]) k
theorem go_zas {a n : Nat} {f : Nat → Int32} {i : Int32} {tg : List Nat} (h1 : ai_as M.co pc = some (.bastore, tg)) (hh : h[a]? = some (.inl (1, n, .inl f))) (hi : ai_in i n = true) (k : ag_Go X d M (pc + 1, lv, st, h.set a (.inl (1, n, .inl (upd f i.toNatClampNeg (vp_nar .boolean x)))), z) o) : ag_Go X d M (pc, lv, .int x :: .int i :: .ref a :: st, h, z) o :=
  go_st h1 (by simp only [ai_st, ai_bas, hh, if_pos hi]) k
theorem go_bas {a n : Nat} {f : Nat → Int32} {i : Int32} {tg : List Nat} (h1 : ai_as M.co pc = some (.bastore, tg)) (hh : h[a]? = some (.inl (2, n, .inl f))) (hi : ai_in i n = true) (k : ag_Go X d M (pc + 1, lv, st, h.set a (.inl (2, n, .inl (upd f i.toNatClampNeg (vp_nar .byte x)))), z) o) : ag_Go X d M (pc, lv, .int x :: .int i :: .ref a :: st, h, z) o :=
  go_st h1 (by simp only [ai_st, ai_bas, hh, if_pos hi]) k
/-- a new row of a known length -/
theorem go_nwa {T : ArrayType} {a : vp_A} {N nc ns : Nat} {v : Int32} {tg : List Nat} (h1 : ai_as M.co pc = some (.newarray T, tg)) (hv : v = nI N) (hN : N < 2 ^ 25) (ha : ai_sz (ai_kd T) N = some a) (hl : h.length < 1000000) (k : ag_Go X d M (pc + 2, lv, .ref h.length :: st, h ++ [.inl (ai_kd T, a)], true, nc + 1, ns + N) o) : ag_Go X d M (pc, lv, .int v :: st, h, true, nc, ns) o := by
  have e1 : (nI N).toNatClampNeg = N := nI_clamp (by omega)
  subst hv
  refine go_st h1 ?_ k
  simp only [ai_st, ai_nwa, e1, ha]
  rw [if_pos ⟨trivial, hl, nI_pos (by omega), by omega⟩]
theorem go_get {a ix ci k kd : Nat} {fs : List Value} {v : Value} {tg : List Nat} (h1 : ai_as M.co pc = some (.getfield ix, tg)) (hl : ai_as (an_lk M.cn).1 ix = some (ci, k, kd)) (hh : h[a]? = some (.inr (ci, fs))) (hv : fs[k]? = some v) (g : ag_Go X d M (pc + 3, lv, v :: st, h, z) o) : ag_Go X d M (pc, lv, .ref a :: st, h, z) o :=
  go_st h1 (by simp only [ai_st, ai_get, hl, hh, if_true, hv]) g
theorem go_put {a ix ci k kd : Nat} {fs : List Value} {v : Value} {tg : List Nat} (h1 : ai_as M.co pc = some (.putfield ix, tg)) (hl : ai_as (an_lk M.cn).1 ix = some (ci, k, kd)) (hh : h[a]? = some (.inr (ci, fs))) (hk : k < fs.length) (hv : ai_vk kd v = true) (g : ag_Go X d M (pc + 3, lv, st, h.set a (.inr (ci, fs.set k v)), z) o) : ag_Go X d M (pc, lv, v :: .ref a :: st, h, z) o :=
  go_st h1 (by simp only [ai_st, ai_put, hl, hh, hk, hv, and_self, if_true]) g
theorem go_len {a k : Nat} {x : vp_A} {tg : List Nat} (h1 : ai_as M.co pc = some (.arraylength, tg)) (ha : a ≠ 1000000) (hh : h[a]? = some (.inl (k, x))) (hk : k < 5) (g : ag_Go X d M (pc + 1, lv, .int (Int32.ofNat x.1) :: st, h, z) o) : ag_Go X d M (pc, lv, .ref a :: st, h, z) o :=
  go_st h1 (by simp only [ai_st, ai_len, if_neg ha, hh, if_pos hk]) g
end AGO
end
section
/-! small methods -/
theorem pv_X0_has {X : Nat × (Nat → Int32)} {h : ai_H} {a : Nat} {S : Int32} {fs : List Value} (hh : h[a]? = some (.inr (0, .int S :: fs))) (k : Int32) (ex : Bool) (d : Nat) : ai_Ev an_ms an_lk X 35 (d + 1) 2 [.ref a, .int k] h ex (.inl (some (.int (if 0 ≤ k ∧ k < S then 1 else 0)), h, ex, 0, 0)) := by
  refine ev_of (M := an_X0_has) rfl (Nat.le_of_ble_eq_true rfl) ?_
  refine go_n 1 (fr' := (1, [(0, .ref a), (1, .int k)], [.int k], h, ex, 0, 0)) rfl ?_
  refine go_if_lt (t := 16) rfl (fun q => ?_) (fun q => ?_)
  · refine go_n 1 (fr' := (17, [(0, .ref a), (1, .int k)], [.int 0], h, ex, 0, 0)) rfl ?_
    refine go_rt (i := .ireturn) (tg := []) rfl ?_
    rw [if_neg (fun w => Int32.not_lt.mpr w.1 q)]
    rfl
  · refine go_n 2 (fr' := (6, [(0, .ref a), (1, .int k)], [.ref a, .int k], h, ex, 0, 0)) rfl ?_
    refine go_get rfl rfl hh rfl ?_
    refine go_ic_ge (t := 16) rfl (fun q2 => ?_) (fun q2 => ?_)
    · refine go_n 1 (fr' := (17, [(0, .ref a), (1, .int k)], [.int 0], h, ex, 0, 0)) rfl ?_
      refine go_rt (i := .ireturn) (tg := []) rfl ?_
      rw [if_neg (fun w => Int32.not_lt.mpr q2 w.2)]
      rfl
    · refine go_n 2 (fr' := (17, [(0, .ref a), (1, .int k)], [.int 1], h, ex, 0, 0)) rfl ?_
      refine go_rt (i := .ireturn) (tg := []) rfl ?_
      rw [if_pos ⟨Int32.not_lt.mp q, Int32.not_le.mp q2⟩]
      rfl
end
section
/-! the constructors -/
set_option maxRecDepth 10000 in
theorem pv_X1_init {X : Nat × (Nat → Int32)} {c0 c1 c2 c3 c4 c5 c6 c7 c8 c9 c10 c11 c12 : ai_C} (d : Nat) : ai_Ev an_ms an_lk X 35 (d + 1) 6 [.ref 13] [c0, c1, c2, c3, c4, c5, c6, c7, c8, c9, c10, c11, c12, .inr (1, [.null, .null, .null, .null, .null, .null, .null, .null, .int 0])] true (.inl (none, [c0, c1, c2, c3, c4, c5, c6, c7, c8, c9, c10, c11, c12, .inr (1, [.ref 14, .ref 15, .ref 16, .ref 17, .ref 18, .ref 19, .ref 20, .ref 21, .int 0]), .inl (0, 8, .inl (fun _ => 0)), .inl (0, 8, .inl (fun _ => 0)), .inl (0, 8, .inl (fun _ => 0)), .inl (0, 8, .inl (fun _ => 0)), .inl (1, 8, .inl (fun _ => 0)), .inl (0, 8, .inl (fun _ => 0)), .inl (0, 8, .inl (fun _ => 0)), .inl (0, 8, .inl (fun _ => 0))], true, 8, 64)) := by
  refine ev_of (M := an_X1_init) rfl (Nat.le_of_ble_eq_true rfl) ?_
  refine go_n 4 (fr' := (7, [(0, .ref 13)], [.int 8, .ref 13], [c0, c1, c2, c3, c4, c5, c6, c7, c8, c9, c10, c11, c12, .inr (1, [.null, .null, .null, .null, .null, .null, .null, .null, .int 0])], true, 0, 0)) rfl ?_
  refine go_nwa (N := 8) rfl rfl (by decide) rfl (Nat.le_of_ble_eq_true rfl) ?_
  refine go_put rfl rfl rfl (Nat.le_of_ble_eq_true rfl) rfl ?_
  refine go_n 2 (fr' := (15, [(0, .ref 13)], [.int 8, .ref 13], [c0, c1, c2, c3, c4, c5, c6, c7, c8, c9, c10, c11, c12, .inr (1, [.ref 14, .null, .null, .null, .null, .null, .null, .null, .int 0]), .inl (0, 8, .inl (fun _ => 0))], true, 1, 8)) rfl ?_
  refine go_nwa (N := 8) rfl rfl (by decide) rfl (Nat.le_of_ble_eq_true rfl) ?_
  refine go_put rfl rfl rfl (Nat.le_of_ble_eq_true rfl) rfl ?_
  refine go_n 2 (fr' := (23, [(0, .ref 13)], [.int 8, .ref 13], [c0, c1, c2, c3, c4, c5, c6, c7, c8, c9, c10, c11, c12, .inr (1, [.ref 14, .ref 15, .null, .null, .null, .null, .null, .null, .int 0]), .inl (0, 8, .inl (fun _ => 0)), .inl (0, 8, .inl (fun _ => 0))], true, 2, 16)) rfl ?_
  refine go_nwa (N := 8) rfl rfl (by decide) rfl (Nat.le_of_ble_eq_true rfl) ?_
  refine go_put rfl rfl rfl (Nat.le_of_ble_eq_true rfl) rfl ?_
  refine go_n 2 (fr' := (31, [(0, .ref 13)], [.int 8, .ref 13], [c0, c1, c2, c3, c4, c5, c6, c7, c8, c9, c10, c11, c12, .inr (1, [.ref 14, .ref 15, .ref 16, .null, .null, .null, .null, .null, .int 0]), .inl (0, 8, .inl (fun _ => 0)), .inl (0, 8, .inl (fun _ => 0)), .inl (0, 8, .inl (fun _ => 0))], true, 3, 24)) rfl ?_
  refine go_nwa (N := 8) rfl rfl (by decide) rfl (Nat.le_of_ble_eq_true rfl) ?_
  refine go_put rfl rfl rfl (Nat.le_of_ble_eq_true rfl) rfl ?_
  refine go_n 2 (fr' := (39, [(0, .ref 13)], [.int 8, .ref 13], [c0, c1, c2, c3, c4, c5, c6, c7, c8, c9, c10, c11, c12, .inr (1, [.ref 14, .ref 15, .ref 16, .ref 17, .null, .null, .null, .null, .int 0]), .inl (0, 8, .inl (fun _ => 0)), .inl (0, 8, .inl (fun _ => 0)), .inl (0, 8, .inl (fun _ => 0)), .inl (0, 8, .inl (fun _ => 0))], true, 4, 32)) rfl ?_
  refine go_nwa (N := 8) rfl rfl (by decide) rfl (Nat.le_of_ble_eq_true rfl) ?_
  refine go_put rfl rfl rfl (Nat.le_of_ble_eq_true rfl) rfl ?_
  refine go_n 2 (fr' := (47, [(0, .ref 13)], [.int 8, .ref 13], [c0, c1, c2, c3, c4, c5, c6, c7, c8, c9, c10, c11, c12, .inr (1, [.ref 14, .ref 15, .ref 16, .ref 17, .ref 18, .null, .null, .null, .int 0]), .inl (0, 8, .inl (fun _ => 0)), .inl (0, 8, .inl (fun _ => 0)), .inl (0, 8, .inl (fun _ => 0)), .inl (0, 8, .inl (fun _ => 0)), .inl (1, 8, .inl (fun _ => 0))], true, 5, 40)) rfl ?_
  refine go_nwa (N := 8) rfl rfl (by decide) rfl (Nat.le_of_ble_eq_true rfl) ?_
  refine go_put rfl rfl rfl (Nat.le_of_ble_eq_true rfl) rfl ?_
  refine go_n 2 (fr' := (55, [(0, .ref 13)], [.int 8, .ref 13], [c0, c1, c2, c3, c4, c5, c6, c7, c8, c9, c10, c11, c12, .inr (1, [.ref 14, .ref 15, .ref 16, .ref 17, .ref 18, .ref 19, .null, .null, .int 0]), .inl (0, 8, .inl (fun _ => 0)), .inl (0, 8, .inl (fun _ => 0)), .inl (0, 8, .inl (fun _ => 0)), .inl (0, 8, .inl (fun _ => 0)), .inl (1, 8, .inl (fun _ => 0)), .inl (0, 8, .inl (fun _ => 0))], true, 6, 48)) rfl ?_
  refine go_nwa (N := 8) rfl rfl (by decide) rfl (Nat.le_of_ble_eq_true rfl) ?_
  refine go_put rfl rfl rfl (Nat.le_of_ble_eq_true rfl) rfl ?_
  refine go_n 2 (fr' := (63, [(0, .ref 13)], [.int 8, .ref 13], [c0, c1, c2, c3, c4, c5, c6, c7, c8, c9, c10, c11, c12, .inr (1, [.ref 14, .ref 15, .ref 16, .ref 17, .ref 18, .ref 19, .ref 20, .null, .int 0]), .inl (0, 8, .inl (fun _ => 0)), .inl (0, 8, .inl (fun _ => 0)), .inl (0, 8, .inl (fun _ => 0)), .inl (0, 8, .inl (fun _ => 0)), .inl (1, 8, .inl (fun _ => 0)), .inl (0, 8, .inl (fun _ => 0)), .inl (0, 8, .inl (fun _ => 0))], true, 7, 56)) rfl ?_
  refine go_nwa (N := 8) rfl rfl (by decide) rfl (Nat.le_of_ble_eq_true rfl) ?_
  refine go_put rfl rfl rfl (Nat.le_of_ble_eq_true rfl) rfl ?_
  refine go_rt (i := .return_) (tg := []) rfl ?_
  rfl
set_option maxRecDepth 10000 in
theorem pv_X6_init {X : Nat × (Nat → Int32)} {c0 c1 c2 c3 c4 c5 c6 c7 c8 c9 c10 c11 c12 c13 c14 c15 c16 c17 c18 c19 c20 c21 : ai_C} (d : Nat) : ai_Ev an_ms an_lk X 35 (d + 1) 18 [.ref 22] [c0, c1, c2, c3, c4, c5, c6, c7, c8, c9, c10, c11, c12, c13, c14, c15, c16, c17, c18, c19, c20, c21, .inr (6, [.null, .int 0])] true (.inl (none, [c0, c1, c2, c3, c4, c5, c6, c7, c8, c9, c10, c11, c12, c13, c14, c15, c16, c17, c18, c19, c20, c21, .inr (6, [.ref 23, .int 0]), .inl (2, 400, .inl (fun _ => 0))], true, 1, 400)) := by
  refine ev_of (M := an_X6_init) rfl (Nat.le_of_ble_eq_true rfl) ?_
  refine go_n 4 (fr' := (8, [(0, .ref 22)], [.int 400, .ref 22], [c0, c1, c2, c3, c4, c5, c6, c7, c8, c9, c10, c11, c12, c13, c14, c15, c16, c17, c18, c19, c20, c21, .inr (6, [.null, .int 0])], true, 0, 0)) rfl ?_
  refine go_nwa (N := 400) rfl rfl (by decide) rfl (Nat.le_of_ble_eq_true rfl) ?_
  refine go_put rfl rfl rfl (Nat.le_of_ble_eq_true rfl) rfl ?_
  refine go_rt (i := .return_) (tg := []) rfl ?_
  rfl
set_option maxRecDepth 10000 in
theorem pv_X7_init {X : Nat × (Nat → Int32)} {c0 c1 c2 c3 c4 c5 c6 c7 c8 c9 c10 c11 c12 c13 c14 c15 c16 c17 c18 c19 c20 c21 c22 c23 c24 c25 : ai_C} (d : Nat) : ai_Ev an_ms an_lk X 35 (d + 1) 20 [.ref 26, .ref 23] [c0, c1, c2, c3, c4, c5, c6, c7, c8, c9, c10, c11, c12, c13, c14, c15, c16, c17, c18, c19, c20, c21, c22, c23, c24, c25, .inr (7, [.null, .null, .int 0, .null, .int 0, .int 0])] true (.inl (none, [c0, c1, c2, c3, c4, c5, c6, c7, c8, c9, c10, c11, c12, c13, c14, c15, c16, c17, c18, c19, c20, c21, c22, c23, c24, c25, .inr (7, [.ref 27, .ref 28, .int 0, .ref 23, .int 0, .int 0]), .inl (0, 401, .inl (fun _ => 0)), .inl (0, 401, .inl (fun _ => 0))], true, 2, 802)) := by
  refine ev_of (M := an_X7_init) rfl (Nat.le_of_ble_eq_true rfl) ?_
  refine go_n 4 (fr' := (8, [(0, .ref 26), (1, .ref 23)], [.int 401, .ref 26], [c0, c1, c2, c3, c4, c5, c6, c7, c8, c9, c10, c11, c12, c13, c14, c15, c16, c17, c18, c19, c20, c21, c22, c23, c24, c25, .inr (7, [.null, .null, .int 0, .null, .int 0, .int 0])], true, 0, 0)) rfl ?_
  refine go_nwa (N := 401) rfl rfl (by decide) rfl (Nat.le_of_ble_eq_true rfl) ?_
  refine go_put rfl rfl rfl (Nat.le_of_ble_eq_true rfl) rfl ?_
  refine go_n 2 (fr' := (17, [(0, .ref 26), (1, .ref 23)], [.int 401, .ref 26], [c0, c1, c2, c3, c4, c5, c6, c7, c8, c9, c10, c11, c12, c13, c14, c15, c16, c17, c18, c19, c20, c21, c22, c23, c24, c25, .inr (7, [.ref 27, .null, .int 0, .null, .int 0, .int 0]), .inl (0, 401, .inl (fun _ => 0))], true, 1, 401)) rfl ?_
  refine go_nwa (N := 401) rfl rfl (by decide) rfl (Nat.le_of_ble_eq_true rfl) ?_
  refine go_put rfl rfl rfl (Nat.le_of_ble_eq_true rfl) rfl ?_
  refine go_n 2 (fr' := (24, [(0, .ref 26), (1, .ref 23)], [.ref 23, .ref 26], [c0, c1, c2, c3, c4, c5, c6, c7, c8, c9, c10, c11, c12, c13, c14, c15, c16, c17, c18, c19, c20, c21, c22, c23, c24, c25, .inr (7, [.ref 27, .ref 28, .int 0, .null, .int 0, .int 0]), .inl (0, 401, .inl (fun _ => 0)), .inl (0, 401, .inl (fun _ => 0))], true, 2, 802)) rfl ?_
  refine go_put rfl rfl rfl (Nat.le_of_ble_eq_true rfl) rfl ?_
  refine go_rt (i := .return_) (tg := []) rfl ?_
  rfl
set_option maxRecDepth 10000 in
theorem pv_X5_init {X : Nat × (Nat → Int32)} {c0 c1 c2 c3 c4 c5 c6 c7 c8 c9 c10 c11 c12 c13 c14 c15 c16 c17 c18 c19 c20 c21 c22 c23 : ai_C} (d : Nat) : ai_Ev an_ms an_lk X 35 (d + 2) 16 [.ref 24, .ref 23] [c0, c1, c2, c3, c4, c5, c6, c7, c8, c9, c10, c11, c12, c13, c14, c15, c16, c17, c18, c19, c20, c21, c22, c23, .inr (5, [.null, .int 0, .int 0, .null, .int 0, .int 0])] true (.inl (none, [c0, c1, c2, c3, c4, c5, c6, c7, c8, c9, c10, c11, c12, c13, c14, c15, c16, c17, c18, c19, c20, c21, c22, c23, .inr (5, [.ref 25, .int 0, .int 0, .ref 26, .int 0, .int 0]), .inl (0, 400, .inl (fun _ => 0)), .inr (7, [.ref 27, .ref 28, .int 0, .ref 23, .int 0, .int 0]), .inl (0, 401, .inl (fun _ => 0)), .inl (0, 401, .inl (fun _ => 0))], true, 4, 1208)) := by
  refine ev_of (M := an_X5_init) rfl (Nat.le_of_ble_eq_true rfl) ?_
  refine go_n 4 (fr' := (8, [(0, .ref 24), (1, .ref 23)], [.int 400, .ref 24], [c0, c1, c2, c3, c4, c5, c6, c7, c8, c9, c10, c11, c12, c13, c14, c15, c16, c17, c18, c19, c20, c21, c22, c23, .inr (5, [.null, .int 0, .int 0, .null, .int 0, .int 0])], true, 0, 0)) rfl ?_
  refine go_nwa (N := 400) rfl rfl (by decide) rfl (Nat.le_of_ble_eq_true rfl) ?_
  refine go_put rfl rfl rfl (Nat.le_of_ble_eq_true rfl) rfl ?_
  refine go_n 4 (fr' := (19, [(0, .ref 24), (1, .ref 23)], [.ref 23, .ref 26, .ref 26, .ref 24], [c0, c1, c2, c3, c4, c5, c6, c7, c8, c9, c10, c11, c12, c13, c14, c15, c16, c17, c18, c19, c20, c21, c22, c23, .inr (5, [.ref 25, .int 0, .int 0, .null, .int 0, .int 0]), .inl (0, 400, .inl (fun _ => 0)), .inr (7, [.null, .null, .int 0, .null, .int 0, .int 0])], true, 2, 406)) rfl ?_
  refine go_call (q := 20) (M1 := an_X7_init) rfl rfl (by decide) rfl trivial trivial (pv_X7_init d) ?_
  refine go_eq (fr' := (22, [(0, .ref 24), (1, .ref 23)], [.ref 26, .ref 24], [c0, c1, c2, c3, c4, c5, c6, c7, c8, c9, c10, c11, c12, c13, c14, c15, c16, c17, c18, c19, c20, c21, c22, c23, .inr (5, [.ref 25, .int 0, .int 0, .null, .int 0, .int 0]), .inl (0, 400, .inl (fun _ => 0)), .inr (7, [.ref 27, .ref 28, .int 0, .ref 23, .int 0, .int 0]), .inl (0, 401, .inl (fun _ => 0)), .inl (0, 401, .inl (fun _ => 0))], true, 4, 1208)) rfl ?_
  refine go_put rfl rfl rfl (Nat.le_of_ble_eq_true rfl) rfl ?_
  refine go_rt (i := .return_) (tg := []) rfl ?_
  rfl
set_option maxRecDepth 10000 in
theorem pv_X4_init {X : Nat × (Nat → Int32)} {c0 c1 c2 c3 c4 c5 c6 c7 c8 c9 c10 c11 c12 c13 c14 c15 c16 c17 c18 c19 c20 c21 c22 c23 c24 c25 c26 c27 c28 : ai_C} (d : Nat) : ai_Ev an_ms an_lk X 35 (d + 1) 12 [.ref 29] [c0, c1, c2, c3, c4, c5, c6, c7, c8, c9, c10, c11, c12, c13, c14, c15, c16, c17, c18, c19, c20, c21, c22, c23, c24, c25, c26, c27, c28, .inr (4, [.null, .null, .null, .int 0])] true (.inl (none, [c0, c1, c2, c3, c4, c5, c6, c7, c8, c9, c10, c11, c12, c13, c14, c15, c16, c17, c18, c19, c20, c21, c22, c23, c24, c25, c26, c27, c28, .inr (4, [.ref 30, .ref 31, .ref 32, .int 0]), .inl (0, 2400, .inl (fun _ => 0)), .inl (0, 6, .inl (fun _ => 0)), .inl (0, 6, .inl (fun _ => 0))], true, 3, 2412)) := by
  refine ev_of (M := an_X4_init) rfl (Nat.le_of_ble_eq_true rfl) ?_
  refine go_n 4 (fr' := (8, [(0, .ref 29)], [.int 2400, .ref 29], [c0, c1, c2, c3, c4, c5, c6, c7, c8, c9, c10, c11, c12, c13, c14, c15, c16, c17, c18, c19, c20, c21, c22, c23, c24, c25, c26, c27, c28, .inr (4, [.null, .null, .null, .int 0])], true, 0, 0)) rfl ?_
  refine go_nwa (N := 2400) rfl rfl (by decide) rfl (Nat.le_of_ble_eq_true rfl) ?_
  refine go_put rfl rfl rfl (Nat.le_of_ble_eq_true rfl) rfl ?_
  refine go_n 2 (fr' := (16, [(0, .ref 29)], [.int 6, .ref 29], [c0, c1, c2, c3, c4, c5, c6, c7, c8, c9, c10, c11, c12, c13, c14, c15, c16, c17, c18, c19, c20, c21, c22, c23, c24, c25, c26, c27, c28, .inr (4, [.ref 30, .null, .null, .int 0]), .inl (0, 2400, .inl (fun _ => 0))], true, 1, 2400)) rfl ?_
  refine go_nwa (N := 6) rfl rfl (by decide) rfl (Nat.le_of_ble_eq_true rfl) ?_
  refine go_put rfl rfl rfl (Nat.le_of_ble_eq_true rfl) rfl ?_
  refine go_n 2 (fr' := (24, [(0, .ref 29)], [.int 6, .ref 29], [c0, c1, c2, c3, c4, c5, c6, c7, c8, c9, c10, c11, c12, c13, c14, c15, c16, c17, c18, c19, c20, c21, c22, c23, c24, c25, c26, c27, c28, .inr (4, [.ref 30, .ref 31, .null, .int 0]), .inl (0, 2400, .inl (fun _ => 0)), .inl (0, 6, .inl (fun _ => 0))], true, 2, 2406)) rfl ?_
  refine go_nwa (N := 6) rfl rfl (by decide) rfl (Nat.le_of_ble_eq_true rfl) ?_
  refine go_put rfl rfl rfl (Nat.le_of_ble_eq_true rfl) rfl ?_
  refine go_rt (i := .return_) (tg := []) rfl ?_
  rfl
set_option maxRecDepth 10000 in
theorem pv_X3_init {X : Nat × (Nat → Int32)} {c0 c1 c2 c3 c4 c5 c6 c7 c8 c9 c10 c11 c12 c13 c14 c15 c16 c17 c18 c19 c20 c21 c22 c23 c24 c25 c26 c27 c28 c29 c30 c31 c32 : ai_C} (d : Nat) : ai_Ev an_ms an_lk X 35 (d + 1) 11 [.ref 33] [c0, c1, c2, c3, c4, c5, c6, c7, c8, c9, c10, c11, c12, c13, c14, c15, c16, c17, c18, c19, c20, c21, c22, c23, c24, c25, c26, c27, c28, c29, c30, c31, c32, .inr (3, [.int 0, .int 0, .null, .null, .int 0])] true (.inl (none, [c0, c1, c2, c3, c4, c5, c6, c7, c8, c9, c10, c11, c12, c13, c14, c15, c16, c17, c18, c19, c20, c21, c22, c23, c24, c25, c26, c27, c28, c29, c30, c31, c32, .inr (3, [.int 0, .int 0, .ref 34, .ref 35, .int 0]), .inl (0, 8, .inl (fun _ => 0)), .inl (0, 20, .inl (fun _ => 0))], true, 2, 28)) := by
  refine ev_of (M := an_X3_init) rfl (Nat.le_of_ble_eq_true rfl) ?_
  refine go_n 4 (fr' := (7, [(0, .ref 33)], [.int 8, .ref 33], [c0, c1, c2, c3, c4, c5, c6, c7, c8, c9, c10, c11, c12, c13, c14, c15, c16, c17, c18, c19, c20, c21, c22, c23, c24, c25, c26, c27, c28, c29, c30, c31, c32, .inr (3, [.int 0, .int 0, .null, .null, .int 0])], true, 0, 0)) rfl ?_
  refine go_nwa (N := 8) rfl rfl (by decide) rfl (Nat.le_of_ble_eq_true rfl) ?_
  refine go_put rfl rfl rfl (Nat.le_of_ble_eq_true rfl) rfl ?_
  refine go_n 2 (fr' := (15, [(0, .ref 33)], [.int 20, .ref 33], [c0, c1, c2, c3, c4, c5, c6, c7, c8, c9, c10, c11, c12, c13, c14, c15, c16, c17, c18, c19, c20, c21, c22, c23, c24, c25, c26, c27, c28, c29, c30, c31, c32, .inr (3, [.int 0, .int 0, .ref 34, .null, .int 0]), .inl (0, 8, .inl (fun _ => 0))], true, 1, 8)) rfl ?_
  refine go_nwa (N := 20) rfl rfl (by decide) rfl (Nat.le_of_ble_eq_true rfl) ?_
  refine go_put rfl rfl rfl (Nat.le_of_ble_eq_true rfl) rfl ?_
  refine go_rt (i := .return_) (tg := []) rfl ?_
  rfl
set_option maxRecDepth 10000 in
theorem pv_X8_init {X : Nat × (Nat → Int32)} {c0 c2 c3 c4 c5 c6 c7 c8 c9 c10 c11 c12 c13 c14 c15 c16 c17 c18 c19 c20 c21 c22 c23 c24 c25 c26 c27 c28 c29 c30 c31 c32 c33 c34 c35 : ai_C} {z : Int32} {fs : List Value} {S : Nat} (hz : z = nI S) (hS : S ≤ 64) (d : Nat) : ai_Ev an_ms an_lk X 35 (d + 1) 23 [.ref 36, .ref 1] [c0, .inr (0, .int z :: fs), c2, c3, c4, c5, c6, c7, c8, c9, c10, c11, c12, c13, c14, c15, c16, c17, c18, c19, c20, c21, c22, c23, c24, c25, c26, c27, c28, c29, c30, c31, c32, c33, c34, c35, .inr (8, [.null, .null, .null, .int 0])] true (.inl (none, [c0, .inr (0, .int z :: fs), c2, c3, c4, c5, c6, c7, c8, c9, c10, c11, c12, c13, c14, c15, c16, c17, c18, c19, c20, c21, c22, c23, c24, c25, c26, c27, c28, c29, c30, c31, c32, c33, c34, c35, .inr (8, [.ref 1, .ref 37, .ref 38, .int 0]), .inl (0, S, .inl (fun _ => 0)), .inl (0, S, .inl (fun _ => 0))], true, 2, ((0 + S) + S))) := by
  refine ev_of (M := an_X8_init) rfl (Nat.le_of_ble_eq_true rfl) ?_
  refine go_n 4 (fr' := (6, [(0, .ref 36), (1, .ref 1)], [.ref 1, .ref 36], [c0, .inr (0, .int z :: fs), c2, c3, c4, c5, c6, c7, c8, c9, c10, c11, c12, c13, c14, c15, c16, c17, c18, c19, c20, c21, c22, c23, c24, c25, c26, c27, c28, c29, c30, c31, c32, c33, c34, c35, .inr (8, [.null, .null, .null, .int 0])], true, 0, 0)) rfl ?_
  refine go_put rfl rfl rfl (Nat.le_of_ble_eq_true rfl) rfl ?_
  refine go_n 2 (fr' := (11, [(0, .ref 36), (1, .ref 1)], [.ref 1, .ref 36], [c0, .inr (0, .int z :: fs), c2, c3, c4, c5, c6, c7, c8, c9, c10, c11, c12, c13, c14, c15, c16, c17, c18, c19, c20, c21, c22, c23, c24, c25, c26, c27, c28, c29, c30, c31, c32, c33, c34, c35, .inr (8, [.ref 1, .null, .null, .int 0])], true, 0, 0)) rfl ?_
  refine go_get rfl rfl rfl rfl ?_
  refine go_nwa (N := S) rfl hz (by omega) rfl (Nat.le_of_ble_eq_true rfl) ?_
  refine go_put rfl rfl rfl (Nat.le_of_ble_eq_true rfl) rfl ?_
  refine go_n 2 (fr' := (21, [(0, .ref 36), (1, .ref 1)], [.ref 1, .ref 36], [c0, .inr (0, .int z :: fs), c2, c3, c4, c5, c6, c7, c8, c9, c10, c11, c12, c13, c14, c15, c16, c17, c18, c19, c20, c21, c22, c23, c24, c25, c26, c27, c28, c29, c30, c31, c32, c33, c34, c35, .inr (8, [.ref 1, .ref 37, .null, .int 0]), .inl (0, S, .inl (fun _ => 0))], true, 1, (0 + S))) rfl ?_
  refine go_get rfl rfl rfl rfl ?_
  refine go_nwa (N := S) rfl hz (by omega) rfl (Nat.le_of_ble_eq_true rfl) ?_
  refine go_put rfl rfl rfl (Nat.le_of_ble_eq_true rfl) rfl ?_
  refine go_rt (i := .return_) (tg := []) rfl ?_
  rfl
set_option maxRecDepth 10000 in
theorem pv_X2_init {X : Nat × (Nat → Int32)} {c0 c2 c3 c4 c5 c6 c7 c8 c9 c10 c11 c12 c13 c14 c15 c16 c17 c18 c19 c20 c21 c22 c23 c24 c25 c26 c27 c28 c29 c30 c31 c32 c33 c34 c35 c36 c37 c38 : ai_C} {z : Int32} {fs : List Value} {S : Nat} (hz : z = nI S) (hS : S ≤ 64) (d : Nat) : ai_Ev an_ms an_lk X 35 (d + 1) 10 [.ref 39, .ref 1] [c0, .inr (0, .int z :: fs), c2, c3, c4, c5, c6, c7, c8, c9, c10, c11, c12, c13, c14, c15, c16, c17, c18, c19, c20, c21, c22, c23, c24, c25, c26, c27, c28, c29, c30, c31, c32, c33, c34, c35, c36, c37, c38, .inr (2, [.null, .int 0, .null, .int 0, .null, .null, .null, .null, .null, .null, .null, .int 0, .int 0])] true (.inl (none, [c0, .inr (0, .int z :: fs), c2, c3, c4, c5, c6, c7, c8, c9, c10, c11, c12, c13, c14, c15, c16, c17, c18, c19, c20, c21, c22, c23, c24, c25, c26, c27, c28, c29, c30, c31, c32, c33, c34, c35, c36, c37, c38, .inr (2, [.ref 40, .int 0, .ref 1, .int z, .ref 41, .ref 42, .ref 43, .ref 44, .ref 45, .ref 46, .ref 47, .int 0, .int 0]), .inl (0, 4, .inl (fun _ => 0)), .inl (1, S, .inl (fun _ => 0)), .inl (1, S, .inl (fun _ => 0)), .inl (1, S, .inl (fun _ => 0)), .inl (0, S, .inl (fun _ => 0)), .inl (0, S, .inl (fun _ => 0)), .inl (0, (2 * S), .inl (fun _ => 0)), .inl (0, (2 * S), .inl (fun _ => 0))], true, 8, (((((((4 + S) + S) + S) + S) + S) + (2 * S)) + (2 * S)))) := by
  refine ev_of (M := an_X2_init) rfl (Nat.le_of_ble_eq_true rfl) ?_
  refine go_n 4 (fr' := (6, [(0, .ref 39), (1, .ref 1)], [.int 4, .ref 39], [c0, .inr (0, .int z :: fs), c2, c3, c4, c5, c6, c7, c8, c9, c10, c11, c12, c13, c14, c15, c16, c17, c18, c19, c20, c21, c22, c23, c24, c25, c26, c27, c28, c29, c30, c31, c32, c33, c34, c35, c36, c37, c38, .inr (2, [.null, .int 0, .null, .int 0, .null, .null, .null, .null, .null, .null, .null, .int 0, .int 0])], true, 0, 0)) rfl ?_
  refine go_nwa (N := 4) rfl rfl (by decide) rfl (Nat.le_of_ble_eq_true rfl) ?_
  refine go_put rfl rfl rfl (Nat.le_of_ble_eq_true rfl) rfl ?_
  refine go_n 2 (fr' := (13, [(0, .ref 39), (1, .ref 1)], [.ref 1, .ref 39], [c0, .inr (0, .int z :: fs), c2, c3, c4, c5, c6, c7, c8, c9, c10, c11, c12, c13, c14, c15, c16, c17, c18, c19, c20, c21, c22, c23, c24, c25, c26, c27, c28, c29, c30, c31, c32, c33, c34, c35, c36, c37, c38, .inr (2, [.ref 40, .int 0, .null, .int 0, .null, .null, .null, .null, .null, .null, .null, .int 0, .int 0]), .inl (0, 4, .inl (fun _ => 0))], true, 1, 4)) rfl ?_
  refine go_put rfl rfl rfl (Nat.le_of_ble_eq_true rfl) rfl ?_
  refine go_n 2 (fr' := (18, [(0, .ref 39), (1, .ref 1)], [.ref 1, .ref 39], [c0, .inr (0, .int z :: fs), c2, c3, c4, c5, c6, c7, c8, c9, c10, c11, c12, c13, c14, c15, c16, c17, c18, c19, c20, c21, c22, c23, c24, c25, c26, c27, c28, c29, c30, c31, c32, c33, c34, c35, c36, c37, c38, .inr (2, [.ref 40, .int 0, .ref 1, .int 0, .null, .null, .null, .null, .null, .null, .null, .int 0, .int 0]), .inl (0, 4, .inl (fun _ => 0))], true, 1, 4)) rfl ?_
  refine go_get rfl rfl rfl rfl ?_
  refine go_put rfl rfl rfl (Nat.le_of_ble_eq_true rfl) rfl ?_
  refine go_n 2 (fr' := (26, [(0, .ref 39), (1, .ref 1)], [.ref 39, .ref 39], [c0, .inr (0, .int z :: fs), c2, c3, c4, c5, c6, c7, c8, c9, c10, c11, c12, c13, c14, c15, c16, c17, c18, c19, c20, c21, c22, c23, c24, c25, c26, c27, c28, c29, c30, c31, c32, c33, c34, c35, c36, c37, c38, .inr (2, [.ref 40, .int 0, .ref 1, .int z, .null, .null, .null, .null, .null, .null, .null, .int 0, .int 0]), .inl (0, 4, .inl (fun _ => 0))], true, 1, 4)) rfl ?_
  refine go_get rfl rfl rfl rfl ?_
  refine go_nwa (N := S) rfl hz (by omega) rfl (Nat.le_of_ble_eq_true rfl) ?_
  refine go_put rfl rfl rfl (Nat.le_of_ble_eq_true rfl) rfl ?_
  refine go_n 2 (fr' := (36, [(0, .ref 39), (1, .ref 1)], [.ref 39, .ref 39], [c0, .inr (0, .int z :: fs), c2, c3, c4, c5, c6, c7, c8, c9, c10, c11, c12, c13, c14, c15, c16, c17, c18, c19, c20, c21, c22, c23, c24, c25, c26, c27, c28, c29, c30, c31, c32, c33, c34, c35, c36, c37, c38, .inr (2, [.ref 40, .int 0, .ref 1, .int z, .ref 41, .null, .null, .null, .null, .null, .null, .int 0, .int 0]), .inl (0, 4, .inl (fun _ => 0)), .inl (1, S, .inl (fun _ => 0))], true, 2, (4 + S))) rfl ?_
  refine go_get rfl rfl rfl rfl ?_
  refine go_nwa (N := S) rfl hz (by omega) rfl (Nat.le_of_ble_eq_true rfl) ?_
  refine go_put rfl rfl rfl (Nat.le_of_ble_eq_true rfl) rfl ?_
  refine go_n 2 (fr' := (46, [(0, .ref 39), (1, .ref 1)], [.ref 39, .ref 39], [c0, .inr (0, .int z :: fs), c2, c3, c4, c5, c6, c7, c8, c9, c10, c11, c12, c13, c14, c15, c16, c17, c18, c19, c20, c21, c22, c23, c24, c25, c26, c27, c28, c29, c30, c31, c32, c33, c34, c35, c36, c37, c38, .inr (2, [.ref 40, .int 0, .ref 1, .int z, .ref 41, .ref 42, .null, .null, .null, .null, .null, .int 0, .int 0]), .inl (0, 4, .inl (fun _ => 0)), .inl (1, S, .inl (fun _ => 0)), .inl (1, S, .inl (fun _ => 0))], true, 3, ((4 + S) + S))) rfl ?_
  refine go_get rfl rfl rfl rfl ?_
  refine go_nwa (N := S) rfl hz (by omega) rfl (Nat.le_of_ble_eq_true rfl) ?_
  refine go_put rfl rfl rfl (Nat.le_of_ble_eq_true rfl) rfl ?_
  refine go_n 2 (fr' := (56, [(0, .ref 39), (1, .ref 1)], [.ref 39, .ref 39], [c0, .inr (0, .int z :: fs), c2, c3, c4, c5, c6, c7, c8, c9, c10, c11, c12, c13, c14, c15, c16, c17, c18, c19, c20, c21, c22, c23, c24, c25, c26, c27, c28, c29, c30, c31, c32, c33, c34, c35, c36, c37, c38, .inr (2, [.ref 40, .int 0, .ref 1, .int z, .ref 41, .ref 42, .ref 43, .null, .null, .null, .null, .int 0, .int 0]), .inl (0, 4, .inl (fun _ => 0)), .inl (1, S, .inl (fun _ => 0)), .inl (1, S, .inl (fun _ => 0)), .inl (1, S, .inl (fun _ => 0))], true, 4, (((4 + S) + S) + S))) rfl ?_
  refine go_get rfl rfl rfl rfl ?_
  refine go_nwa (N := S) rfl hz (by omega) rfl (Nat.le_of_ble_eq_true rfl) ?_
  refine go_put rfl rfl rfl (Nat.le_of_ble_eq_true rfl) rfl ?_
  refine go_n 2 (fr' := (66, [(0, .ref 39), (1, .ref 1)], [.ref 39, .ref 39], [c0, .inr (0, .int z :: fs), c2, c3, c4, c5, c6, c7, c8, c9, c10, c11, c12, c13, c14, c15, c16, c17, c18, c19, c20, c21, c22, c23, c24, c25, c26, c27, c28, c29, c30, c31, c32, c33, c34, c35, c36, c37, c38, .inr (2, [.ref 40, .int 0, .ref 1, .int z, .ref 41, .ref 42, .ref 43, .ref 44, .null, .null, .null, .int 0, .int 0]), .inl (0, 4, .inl (fun _ => 0)), .inl (1, S, .inl (fun _ => 0)), .inl (1, S, .inl (fun _ => 0)), .inl (1, S, .inl (fun _ => 0)), .inl (0, S, .inl (fun _ => 0))], true, 5, ((((4 + S) + S) + S) + S))) rfl ?_
  refine go_get rfl rfl rfl rfl ?_
  refine go_nwa (N := S) rfl hz (by omega) rfl (Nat.le_of_ble_eq_true rfl) ?_
  refine go_put rfl rfl rfl (Nat.le_of_ble_eq_true rfl) rfl ?_
  refine go_n 3 (fr' := (77, [(0, .ref 39), (1, .ref 1)], [.ref 39, .int 2, .ref 39], [c0, .inr (0, .int z :: fs), c2, c3, c4, c5, c6, c7, c8, c9, c10, c11, c12, c13, c14, c15, c16, c17, c18, c19, c20, c21, c22, c23, c24, c25, c26, c27, c28, c29, c30, c31, c32, c33, c34, c35, c36, c37, c38, .inr (2, [.ref 40, .int 0, .ref 1, .int z, .ref 41, .ref 42, .ref 43, .ref 44, .ref 45, .null, .null, .int 0, .int 0]), .inl (0, 4, .inl (fun _ => 0)), .inl (1, S, .inl (fun _ => 0)), .inl (1, S, .inl (fun _ => 0)), .inl (1, S, .inl (fun _ => 0)), .inl (0, S, .inl (fun _ => 0)), .inl (0, S, .inl (fun _ => 0))], true, 6, (((((4 + S) + S) + S) + S) + S))) rfl ?_
  refine go_get rfl rfl rfl rfl ?_
  refine go_n 1 (fr' := (81, [(0, .ref 39), (1, .ref 1)], [.int (2 * z), .ref 39], [c0, .inr (0, .int z :: fs), c2, c3, c4, c5, c6, c7, c8, c9, c10, c11, c12, c13, c14, c15, c16, c17, c18, c19, c20, c21, c22, c23, c24, c25, c26, c27, c28, c29, c30, c31, c32, c33, c34, c35, c36, c37, c38, .inr (2, [.ref 40, .int 0, .ref 1, .int z, .ref 41, .ref 42, .ref 43, .ref 44, .ref 45, .null, .null, .int 0, .int 0]), .inl (0, 4, .inl (fun _ => 0)), .inl (1, S, .inl (fun _ => 0)), .inl (1, S, .inl (fun _ => 0)), .inl (1, S, .inl (fun _ => 0)), .inl (0, S, .inl (fun _ => 0)), .inl (0, S, .inl (fun _ => 0))], true, 6, (((((4 + S) + S) + S) + S) + S))) rfl ?_
  refine go_nwa (N := (2 * S)) rfl (by rw [hz, show (2 : Int32) = nI 2 from rfl, pk_mul]) (by omega) rfl (Nat.le_of_ble_eq_true rfl) ?_
  refine go_put rfl rfl rfl (Nat.le_of_ble_eq_true rfl) rfl ?_
  refine go_n 3 (fr' := (89, [(0, .ref 39), (1, .ref 1)], [.ref 39, .int 2, .ref 39], [c0, .inr (0, .int z :: fs), c2, c3, c4, c5, c6, c7, c8, c9, c10, c11, c12, c13, c14, c15, c16, c17, c18, c19, c20, c21, c22, c23, c24, c25, c26, c27, c28, c29, c30, c31, c32, c33, c34, c35, c36, c37, c38, .inr (2, [.ref 40, .int 0, .ref 1, .int z, .ref 41, .ref 42, .ref 43, .ref 44, .ref 45, .ref 46, .null, .int 0, .int 0]), .inl (0, 4, .inl (fun _ => 0)), .inl (1, S, .inl (fun _ => 0)), .inl (1, S, .inl (fun _ => 0)), .inl (1, S, .inl (fun _ => 0)), .inl (0, S, .inl (fun _ => 0)), .inl (0, S, .inl (fun _ => 0)), .inl (0, (2 * S), .inl (fun _ => 0))], true, 7, ((((((4 + S) + S) + S) + S) + S) + (2 * S)))) rfl ?_
  refine go_get rfl rfl rfl rfl ?_
  refine go_n 1 (fr' := (93, [(0, .ref 39), (1, .ref 1)], [.int (2 * z), .ref 39], [c0, .inr (0, .int z :: fs), c2, c3, c4, c5, c6, c7, c8, c9, c10, c11, c12, c13, c14, c15, c16, c17, c18, c19, c20, c21, c22, c23, c24, c25, c26, c27, c28, c29, c30, c31, c32, c33, c34, c35, c36, c37, c38, .inr (2, [.ref 40, .int 0, .ref 1, .int z, .ref 41, .ref 42, .ref 43, .ref 44, .ref 45, .ref 46, .null, .int 0, .int 0]), .inl (0, 4, .inl (fun _ => 0)), .inl (1, S, .inl (fun _ => 0)), .inl (1, S, .inl (fun _ => 0)), .inl (1, S, .inl (fun _ => 0)), .inl (0, S, .inl (fun _ => 0)), .inl (0, S, .inl (fun _ => 0)), .inl (0, (2 * S), .inl (fun _ => 0))], true, 7, ((((((4 + S) + S) + S) + S) + S) + (2 * S)))) rfl ?_
  refine go_nwa (N := (2 * S)) rfl (by rw [hz, show (2 : Int32) = nI 2 from rfl, pk_mul]) (by omega) rfl (Nat.le_of_ble_eq_true rfl) ?_
  refine go_put rfl rfl rfl (Nat.le_of_ble_eq_true rfl) rfl ?_
  refine go_rt (i := .return_) (tg := []) rfl ?_
  rfl
end
section
/-! City's constructor -/
theorem ai_in_nI {m n : Nat} (h : m < n) (hn : n < 2 ^ 31) : ai_in (nI m) n = true := by
  have h1 := nI_clamp (n := m) (by omega)
  have h2 := nI_pos (n := m) (by omega)
  simp [ai_in, h1, h2, h]
theorem ai_set_at {h : ai_H} {a : Nat} {x y : ai_C} (hh : h[a]? = some y) : (h.set a x)[a]? = some x := by
  have : a < h.length := (List.getElem?_eq_some_iff.mp hh).1
  simp [this]
theorem pv_fill {X : Nat × (Nat → Int32)} {h : ai_H} {a n : Nat} {f : Nat → Int32} (hh : h[a]? = some (.inl (0, n, .inl f))) (ha : a ≠ 1000000) (hn : n < 2 ^ 30) (v : Int32) (ex : Bool) (d : Nat) : ∃ g : Nat → Int32, (∀ j, j < n → g j = v) ∧ ai_Ev an_ms an_lk X 35 (d + 1) 80 [.ref a, .int v] h ex (.inl (none, h.set a (.inl (0, n, .inl g)), ex, 0, 0)) := by
  refine ⟨fun j => if j < n then v else f j, fun j hj => if_pos hj, ?_⟩
  have loop : ∀ m i : Nat, i + m = n → ∀ o, ag_Go X d an_J7_fill_53178 (20, [(0, .ref a), (1, .int v), (2, .int (nI n)), (3, .int (nI n))], [], h.set a (.inl (0, n, .inl (fun j => if j < n then v else f j))), ex, 0, 0) o → ag_Go X d an_J7_fill_53178 (5, [(0, .ref a), (1, .int v), (2, .int (nI i)), (3, .int (nI n))], [], h.set a (.inl (0, n, .inl (fun j => if j < i then v else f j))), ex, 0, 0) o := by
    intro m
    induction m with
    | zero =>
      intro i hi o k
      have : i = n := by omega
      subst this
      refine go_n 2 (fr' := (7, [(0, .ref a), (1, .int v), (2, .int (nI i)), (3, .int (nI i))], [.int (nI i), .int (nI i)], _, ex, 0, 0)) rfl ?_
      exact go_ic_ge (t := 20) rfl (fun _ => k) (fun q => absurd (Int32.le_refl _) q)
    | succ m ih =>
      intro i hi o k
      refine go_n 2 (fr' := (7, [(0, .ref a), (1, .int v), (2, .int (nI i)), (3, .int (nI n))], [.int (nI n), .int (nI i)], _, ex, 0, 0)) rfl ?_
      refine go_ic_ge (t := 20) rfl (fun q => absurd q (nI_ge (by omega) (by omega))) (fun q => ?_)
      refine go_n 3 (fr' := (13, [(0, .ref a), (1, .int v), (2, .int (nI i)), (3, .int (nI n))], [.int v, .int (nI i), .ref a], _, ex, 0, 0)) rfl ?_
      refine go_ias rfl (ai_set_at hh) (ai_in_nI (by omega) (by omega)) ?_
      refine go_n 2 (fr' := (5, [(0, .ref a), (1, .int v), (2, .int (nI i + 1)), (3, .int (nI n))], [], _, ex, 0, 0)) rfl ?_
      have e1 : upd (fun j => if j < i then v else f j) (nI i).toNatClampNeg v = fun j => if j < i + 1 then v else f j := by
        rw [nI_clamp (by omega)]
        funext j
        unfold upd
        by_cases h1 : j = i
        · simp [h1]
        · simp only [h1, if_false]
          by_cases h2 : j < i
          · rw [if_pos h2, if_pos (by omega)]
          · rw [if_neg h2, if_neg (by omega)]
      rw [List.set_set, e1, nI_1]
      exact ih (i + 1) (by omega) o k
  refine ev_of (M := an_J7_fill_53178) rfl (Nat.le_of_ble_eq_true rfl) ?_
  refine go_n 3 (fr' := (3, [(0, .ref a), (1, .int v), (2, .int (nI 0))], [.ref a], h, ex, 0, 0)) rfl ?_
  refine go_len rfl ha hh (by decide) ?_
  refine go_n 1 (fr' := (5, [(0, .ref a), (1, .int v), (2, .int (nI 0)), (3, .int (nI n))], [], h, ex, 0, 0)) rfl ?_
  have e0 : h = h.set a (.inl (0, n, .inl (fun j => if j < 0 then v else f j))) := by
    have e2 : (fun j => if j < 0 then v else f j) = f := by
      funext j
      simp
    rw [e2]
    obtain ⟨hl, he⟩ := List.getElem?_eq_some_iff.mp hh
    rw [← he]
    exact (List.set_getElem_self hl).symm
  refine go_eq (congrArg (fun w => (5, [(0, Value.ref a), (1, Value.int v), (2, Value.int (nI 0)), (3, Value.int (nI n))], ([] : List Value), w, ex, 0, 0)) e0) ?_
  refine loop n 0 (by omega) _ ?_
  exact go_rt (i := .return_) (tg := []) rfl rfl
abbrev ah_c (c0 : ai_C) (S : Nat) (z : Int32) (f1 f2 f3 g1 g2 : Nat → Int32) : ai_H := [c0, .inr (0, [.int z, .ref 2, .ref 3, .ref 4, .ref 5, .ref 6, .ref 7, .ref 8, .ref 9, .ref 10, .ref 11, .ref 12, .int 0]), .inl (0, S, .inl f1), .inl (0, S, .inl f2), .inl (0, 4 * S, .inl f3), .inl (0, S, .inl g1), .inl (0, S, .inl (fun _ => 0)), .inl (0, S, .inl (fun _ => 0)), .inl (0, S, .inl (fun _ => 0)), .inl (0, S, .inl (fun _ => 0)), .inl (0, S, .inl (fun _ => 0)), .inl (0, S, .inl g2), .inl (1, S, .inl (fun _ => 0))]
set_option maxRecDepth 10000 in
/-- one cell of the city is laid -/
theorem ci_cell {X : Nat × (Nat → Int32)} {d : Nat} {c0 : ai_C} {S : Nat} {z : Int32} {g1 g2 : Nat → Int32} {nc ns : Nat} {a b r c : Nat} (hS : S = a * b) (hS2 : S ≤ 64) (hr : r < b) (hc : c < a) (f1 f2 f3 : Nat → Int32) (t : List (Nat × Value)) (ht : t = [] ∨ ∃ y, t = [(5, .int y)]) : ∃ (f1' f2' f3' : Nat → Int32) (y : Int32), ∀ o, ag_Go X d an_X0_init (149, [(0, .ref 1), (1, .int (nI a)), (2, .int (nI b)), (3, .int (nI r)), (4, .int (nI (c + 1))), (5, .int y)], [], ah_c c0 S z f1' f2' f3' g1 g2, true, nc, ns) o → ag_Go X d an_X0_init (155, [(0, .ref 1), (1, .int (nI a)), (2, .int (nI b)), (3, .int (nI r)), (4, .int (nI c))] ++ t, [], ah_c c0 S z f1 f2 f3 g1 g2, true, nc, ns) o := by
  obtain ⟨e, he⟩ : ∃ e, e = nI r * nI a + nI c := ⟨_, rfl⟩
  have hk : r * a + c < S := by
    rw [hS]
    have h1 : (r + 1) * a ≤ b * a := Nat.mul_le_mul_right a hr
    rw [Nat.add_mul, Nat.one_mul] at h1
    rw [Nat.mul_comm a b]
    omega
  have hek : e = nI (r * a + c) := by rw [he, pk_mul, nI_add]
  have hin : ai_in e S = true := by rw [hek]; exact ai_in_nI hk (by omega)
  have hin4 : ∀ j, j < 4 → ai_in (4 * e + nI j) (4 * S) = true := by
    intro j hj
    rw [hek, show (4 : Int32) = nI 4 from rfl, pk_mul, nI_add]
    exact ai_in_nI (by omega) (by omega)
  have hin40 : ai_in (4 * e) (4 * S) = true := by
    rw [hek, show (4 : Int32) = nI 4 from rfl, pk_mul]
    exact ai_in_nI (by omega) (by omega)
  obtain ⟨v0, hv0⟩ : ∃ v : Int32, v = if nI r ≤ 0 then -1 else e - nI a := ⟨_, rfl⟩
  obtain ⟨v1, hv1⟩ : ∃ v : Int32, v = if nI c ≤ 0 then -1 else e - 1 := ⟨_, rfl⟩
  obtain ⟨v2, hv2⟩ : ∃ v : Int32, v = if nI a ≤ nI c + 1 then -1 else e + 1 := ⟨_, rfl⟩
  obtain ⟨v3, hv3⟩ : ∃ v : Int32, v = if nI b ≤ nI r + 1 then -1 else e + nI a := ⟨_, rfl⟩
  refine ⟨(upd f1 e.toNatClampNeg (nI c)), (upd f2 e.toNatClampNeg (nI r)), (upd (upd (upd (upd f3 (4 * e).toNatClampNeg v0) (4 * e + 1).toNatClampNeg v1) (4 * e + 2).toNatClampNeg v2) (4 * e + 3).toNatClampNeg v3), e, fun o k => ?_⟩
  have k163 : ag_Go X d an_X0_init (163, [(0, .ref 1), (1, .int (nI a)), (2, .int (nI b)), (3, .int (nI r)), (4, .int (nI c)), (5, .int e)], [], ah_c c0 S z f1 f2 f3 g1 g2, true, nc, ns) o := ?_
  · rcases ht with rfl | ⟨y, rfl⟩
    · exact go_n 6 (by rw [he]; rfl) k163
    · exact go_n 6 (by rw [he]; rfl) k163
  refine go_n 1 (fr' := (164, [(0, .ref 1), (1, .int (nI a)), (2, .int (nI b)), (3, .int (nI r)), (4, .int (nI c)), (5, .int e)], [.ref 1], ah_c c0 S z f1 f2 f3 g1 g2, true, nc, ns)) rfl ?_
  refine go_get rfl rfl rfl rfl ?_
  refine go_n 2 (fr' := (171, [(0, .ref 1), (1, .int (nI a)), (2, .int (nI b)), (3, .int (nI r)), (4, .int (nI c)), (5, .int e)], [.int (nI c), .int e, .ref 2], ah_c c0 S z f1 f2 f3 g1 g2, true, nc, ns)) rfl ?_
  refine go_ias rfl rfl hin ?_
  refine go_eq (fr' := (172, [(0, .ref 1), (1, .int (nI a)), (2, .int (nI b)), (3, .int (nI r)), (4, .int (nI c)), (5, .int e)], [], ah_c c0 S z (upd f1 e.toNatClampNeg (nI c)) f2 f3 g1 g2, true, nc, ns)) rfl ?_
  refine go_n 1 (fr' := (173, [(0, .ref 1), (1, .int (nI a)), (2, .int (nI b)), (3, .int (nI r)), (4, .int (nI c)), (5, .int e)], [.ref 1], ah_c c0 S z (upd f1 e.toNatClampNeg (nI c)) f2 f3 g1 g2, true, nc, ns)) rfl ?_
  refine go_get rfl rfl rfl rfl ?_
  refine go_n 2 (fr' := (179, [(0, .ref 1), (1, .int (nI a)), (2, .int (nI b)), (3, .int (nI r)), (4, .int (nI c)), (5, .int e)], [.int (nI r), .int e, .ref 3], ah_c c0 S z (upd f1 e.toNatClampNeg (nI c)) f2 f3 g1 g2, true, nc, ns)) rfl ?_
  refine go_ias rfl rfl hin ?_
  refine go_eq (fr' := (180, [(0, .ref 1), (1, .int (nI a)), (2, .int (nI b)), (3, .int (nI r)), (4, .int (nI c)), (5, .int e)], [], ah_c c0 S z (upd f1 e.toNatClampNeg (nI c)) (upd f2 e.toNatClampNeg (nI r)) f3 g1 g2, true, nc, ns)) rfl ?_
  refine go_n 1 (fr' := (181, [(0, .ref 1), (1, .int (nI a)), (2, .int (nI b)), (3, .int (nI r)), (4, .int (nI c)), (5, .int e)], [.ref 1], ah_c c0 S z (upd f1 e.toNatClampNeg (nI c)) (upd f2 e.toNatClampNeg (nI r)) f3 g1 g2, true, nc, ns)) rfl ?_
  refine go_get rfl rfl rfl rfl ?_
  have k200 : ag_Go X d an_X0_init (200, [(0, .ref 1), (1, .int (nI a)), (2, .int (nI b)), (3, .int (nI r)), (4, .int (nI c)), (5, .int e)], [.int v0, .int (4 * e), .ref 4], ah_c c0 S z (upd f1 e.toNatClampNeg (nI c)) (upd f2 e.toNatClampNeg (nI r)) f3 g1 g2, true, nc, ns) o := ?_
  · refine go_n 4 (fr' := (189, [(0, .ref 1), (1, .int (nI a)), (2, .int (nI b)), (3, .int (nI r)), (4, .int (nI c)), (5, .int e)], [.int (nI r), .int (4 * e), .ref 4], ah_c c0 S z (upd f1 e.toNatClampNeg (nI c)) (upd f2 e.toNatClampNeg (nI r)) f3 g1 g2, true, nc, ns)) rfl ?_
    refine go_if_le (t := 199) rfl (fun w => ?_) (fun w => ?_)
    · rw [if_pos w] at hv0
      exact go_n 1 (by rw [hv0]; rfl) k200
    · rw [if_neg w] at hv0
      exact go_n 4 (by rw [hv0]; rfl) k200
  refine go_ias rfl rfl hin40 ?_
  refine go_eq (fr' := (201, [(0, .ref 1), (1, .int (nI a)), (2, .int (nI b)), (3, .int (nI r)), (4, .int (nI c)), (5, .int e)], [], ah_c c0 S z (upd f1 e.toNatClampNeg (nI c)) (upd f2 e.toNatClampNeg (nI r)) (upd f3 (4 * e).toNatClampNeg v0) g1 g2, true, nc, ns)) rfl ?_
  refine go_n 1 (fr' := (202, [(0, .ref 1), (1, .int (nI a)), (2, .int (nI b)), (3, .int (nI r)), (4, .int (nI c)), (5, .int e)], [.ref 1], ah_c c0 S z (upd f1 e.toNatClampNeg (nI c)) (upd f2 e.toNatClampNeg (nI r)) (upd f3 (4 * e).toNatClampNeg v0) g1 g2, true, nc, ns)) rfl ?_
  refine go_get rfl rfl rfl rfl ?_
  have k224 : ag_Go X d an_X0_init (224, [(0, .ref 1), (1, .int (nI a)), (2, .int (nI b)), (3, .int (nI r)), (4, .int (nI c)), (5, .int e)], [.int v1, .int (4 * e + 1), .ref 4], ah_c c0 S z (upd f1 e.toNatClampNeg (nI c)) (upd f2 e.toNatClampNeg (nI r)) (upd f3 (4 * e).toNatClampNeg v0) g1 g2, true, nc, ns) o := ?_
  · refine go_n 6 (fr' := (213, [(0, .ref 1), (1, .int (nI a)), (2, .int (nI b)), (3, .int (nI r)), (4, .int (nI c)), (5, .int e)], [.int (nI c), .int (4 * e + 1), .ref 4], ah_c c0 S z (upd f1 e.toNatClampNeg (nI c)) (upd f2 e.toNatClampNeg (nI r)) (upd f3 (4 * e).toNatClampNeg v0) g1 g2, true, nc, ns)) rfl ?_
    refine go_if_le (t := 223) rfl (fun w => ?_) (fun w => ?_)
    · rw [if_pos w] at hv1
      exact go_n 1 (by rw [hv1]; rfl) k224
    · rw [if_neg w] at hv1
      exact go_n 4 (by rw [hv1]; rfl) k224
  refine go_ias rfl rfl (hin4 1 (by decide)) ?_
  refine go_eq (fr' := (225, [(0, .ref 1), (1, .int (nI a)), (2, .int (nI b)), (3, .int (nI r)), (4, .int (nI c)), (5, .int e)], [], ah_c c0 S z (upd f1 e.toNatClampNeg (nI c)) (upd f2 e.toNatClampNeg (nI r)) (upd (upd f3 (4 * e).toNatClampNeg v0) (4 * e + 1).toNatClampNeg v1) g1 g2, true, nc, ns)) rfl ?_
  refine go_n 1 (fr' := (226, [(0, .ref 1), (1, .int (nI a)), (2, .int (nI b)), (3, .int (nI r)), (4, .int (nI c)), (5, .int e)], [.ref 1], ah_c c0 S z (upd f1 e.toNatClampNeg (nI c)) (upd f2 e.toNatClampNeg (nI r)) (upd (upd f3 (4 * e).toNatClampNeg v0) (4 * e + 1).toNatClampNeg v1) g1 g2, true, nc, ns)) rfl ?_
  refine go_get rfl rfl rfl rfl ?_
  have k251 : ag_Go X d an_X0_init (251, [(0, .ref 1), (1, .int (nI a)), (2, .int (nI b)), (3, .int (nI r)), (4, .int (nI c)), (5, .int e)], [.int v2, .int (4 * e + 2), .ref 4], ah_c c0 S z (upd f1 e.toNatClampNeg (nI c)) (upd f2 e.toNatClampNeg (nI r)) (upd (upd f3 (4 * e).toNatClampNeg v0) (4 * e + 1).toNatClampNeg v1) g1 g2, true, nc, ns) o := ?_
  · refine go_n 9 (fr' := (240, [(0, .ref 1), (1, .int (nI a)), (2, .int (nI b)), (3, .int (nI r)), (4, .int (nI c)), (5, .int e)], [.int (nI a), .int (nI c + 1), .int (4 * e + 2), .ref 4], ah_c c0 S z (upd f1 e.toNatClampNeg (nI c)) (upd f2 e.toNatClampNeg (nI r)) (upd (upd f3 (4 * e).toNatClampNeg v0) (4 * e + 1).toNatClampNeg v1) g1 g2, true, nc, ns)) rfl ?_
    refine go_ic_ge (t := 250) rfl (fun w => ?_) (fun w => ?_)
    · rw [if_pos w] at hv2
      exact go_n 1 (by rw [hv2]; rfl) k251
    · rw [if_neg w] at hv2
      exact go_n 4 (by rw [hv2]; rfl) k251
  refine go_ias rfl rfl (hin4 2 (by decide)) ?_
  refine go_eq (fr' := (252, [(0, .ref 1), (1, .int (nI a)), (2, .int (nI b)), (3, .int (nI r)), (4, .int (nI c)), (5, .int e)], [], ah_c c0 S z (upd f1 e.toNatClampNeg (nI c)) (upd f2 e.toNatClampNeg (nI r)) (upd (upd (upd f3 (4 * e).toNatClampNeg v0) (4 * e + 1).toNatClampNeg v1) (4 * e + 2).toNatClampNeg v2) g1 g2, true, nc, ns)) rfl ?_
  refine go_n 1 (fr' := (253, [(0, .ref 1), (1, .int (nI a)), (2, .int (nI b)), (3, .int (nI r)), (4, .int (nI c)), (5, .int e)], [.ref 1], ah_c c0 S z (upd f1 e.toNatClampNeg (nI c)) (upd f2 e.toNatClampNeg (nI r)) (upd (upd (upd f3 (4 * e).toNatClampNeg v0) (4 * e + 1).toNatClampNeg v1) (4 * e + 2).toNatClampNeg v2) g1 g2, true, nc, ns)) rfl ?_
  refine go_get rfl rfl rfl rfl ?_
  have k277 : ag_Go X d an_X0_init (277, [(0, .ref 1), (1, .int (nI a)), (2, .int (nI b)), (3, .int (nI r)), (4, .int (nI c)), (5, .int e)], [.int v3, .int (4 * e + 3), .ref 4], ah_c c0 S z (upd f1 e.toNatClampNeg (nI c)) (upd f2 e.toNatClampNeg (nI r)) (upd (upd (upd f3 (4 * e).toNatClampNeg v0) (4 * e + 1).toNatClampNeg v1) (4 * e + 2).toNatClampNeg v2) g1 g2, true, nc, ns) o := ?_
  · refine go_n 9 (fr' := (266, [(0, .ref 1), (1, .int (nI a)), (2, .int (nI b)), (3, .int (nI r)), (4, .int (nI c)), (5, .int e)], [.int (nI b), .int (nI r + 1), .int (4 * e + 3), .ref 4], ah_c c0 S z (upd f1 e.toNatClampNeg (nI c)) (upd f2 e.toNatClampNeg (nI r)) (upd (upd (upd f3 (4 * e).toNatClampNeg v0) (4 * e + 1).toNatClampNeg v1) (4 * e + 2).toNatClampNeg v2) g1 g2, true, nc, ns)) rfl ?_
    refine go_ic_ge (t := 276) rfl (fun w => ?_) (fun w => ?_)
    · rw [if_pos w] at hv3
      exact go_n 1 (by rw [hv3]; rfl) k277
    · rw [if_neg w] at hv3
      exact go_n 4 (by rw [hv3]; rfl) k277
  refine go_ias rfl rfl (hin4 3 (by decide)) ?_
  refine go_eq (fr' := (278, [(0, .ref 1), (1, .int (nI a)), (2, .int (nI b)), (3, .int (nI r)), (4, .int (nI c)), (5, .int e)], [], ah_c c0 S z (upd f1 e.toNatClampNeg (nI c)) (upd f2 e.toNatClampNeg (nI r)) (upd (upd (upd (upd f3 (4 * e).toNatClampNeg v0) (4 * e + 1).toNatClampNeg v1) (4 * e + 2).toNatClampNeg v2) (4 * e + 3).toNatClampNeg v3) g1 g2, true, nc, ns)) rfl ?_
  refine go_n 2 (fr' := (149, [(0, .ref 1), (1, .int (nI a)), (2, .int (nI b)), (3, .int (nI r)), (4, .int (nI c + 1)), (5, .int e)], [], ah_c c0 S z (upd f1 e.toNatClampNeg (nI c)) (upd f2 e.toNatClampNeg (nI r)) (upd (upd (upd (upd f3 (4 * e).toNatClampNeg v0) (4 * e + 1).toNatClampNeg v1) (4 * e + 2).toNatClampNeg v2) (4 * e + 3).toNatClampNeg v3) g1 g2, true, nc, ns)) rfl ?_
  rw [nI_1]
  exact k
end
section
/-! City's constructor: its loops, and the whole of it -/
theorem ci_row {X : Nat × (Nat → Int32)} {d : Nat} {c0 : ai_C} {S : Nat} {z : Int32} {g1 g2 : Nat → Int32} {nc ns : Nat} {a b r : Nat} (hS : S = a * b) (hS2 : S ≤ 64) (hr : r < b) (ha8 : a ≤ 8) : ∀ (m c : Nat), c + m = a → ∀ (f1 f2 f3 : Nat → Int32) (t : List (Nat × Value)), (t = [] ∨ ∃ y, t = [(5, .int y)]) → (m = 0 → ∃ y, t = [(5, .int y)]) → ∃ (f1' f2' f3' : Nat → Int32) (y : Int32), ∀ o, ag_Go X d an_X0_init (284, [(0, .ref 1), (1, .int (nI a)), (2, .int (nI b)), (3, .int (nI r)), (4, .int (nI a)), (5, .int y)], [], ah_c c0 S z f1' f2' f3' g1 g2, true, nc, ns) o → ag_Go X d an_X0_init (149, [(0, .ref 1), (1, .int (nI a)), (2, .int (nI b)), (3, .int (nI r)), (4, .int (nI c))] ++ t, [], ah_c c0 S z f1 f2 f3 g1 g2, true, nc, ns) o := by
  intro m
  induction m with
  | zero =>
    intro c hc f1 f2 f3 t ht h0
    obtain ⟨y, rfl⟩ := h0 rfl
    have : c = a := by omega
    subst this
    refine ⟨f1, f2, f3, y, fun o k => ?_⟩
    refine go_n 2 (fr' := (152, [(0, .ref 1), (1, .int (nI c)), (2, .int (nI b)), (3, .int (nI r)), (4, .int (nI c)), (5, .int y)], [.int (nI c), .int (nI c)], ah_c c0 S z f1 f2 f3 g1 g2, true, nc, ns)) rfl ?_
    exact go_ic_ge (t := 284) rfl (fun _ => k) (fun q => absurd (Int32.le_refl _) q)
  | succ m ih =>
    intro c hc f1 f2 f3 t ht h0
    obtain ⟨f1a, f2a, f3a, y, hcell⟩ := ci_cell (X := X) (d := d) (c0 := c0) (z := z) (g1 := g1) (g2 := g2) (nc := nc) (ns := ns) hS hS2 hr (show c < a by omega) f1 f2 f3 t ht
    obtain ⟨f1b, f2b, f3b, y2, hrest⟩ := ih (c + 1) (by omega) f1a f2a f3a [(5, .int y)] (Or.inr ⟨y, rfl⟩) (fun _ => ⟨y, rfl⟩)
    refine ⟨f1b, f2b, f3b, y2, fun o k => ?_⟩
    have k1 := hcell o (hrest o k)
    rcases ht with rfl | ⟨y9, rfl⟩
    · refine go_n 2 (fr' := (152, [(0, .ref 1), (1, .int (nI a)), (2, .int (nI b)), (3, .int (nI r)), (4, .int (nI c))], [.int (nI a), .int (nI c)], ah_c c0 S z f1 f2 f3 g1 g2, true, nc, ns)) rfl ?_
      exact go_ic_ge (t := 284) rfl (fun q => absurd q (nI_ge (by omega) (by omega))) (fun _ => k1)
    · refine go_n 2 (fr' := (152, [(0, .ref 1), (1, .int (nI a)), (2, .int (nI b)), (3, .int (nI r)), (4, .int (nI c)), (5, .int y9)], [.int (nI a), .int (nI c)], ah_c c0 S z f1 f2 f3 g1 g2, true, nc, ns)) rfl ?_
      exact go_ic_ge (t := 284) rfl (fun q => absurd q (nI_ge (by omega) (by omega))) (fun _ => k1)
theorem ci_all {X : Nat × (Nat → Int32)} {d : Nat} {c0 : ai_C} {S : Nat} {z : Int32} {g1 g2 : Nat → Int32} {nc ns : Nat} {a b : Nat} (hS : S = a * b) (hS2 : S ≤ 64) (ha : 1 ≤ a) (ha8 : a ≤ 8) (hb8 : b ≤ 8) : ∀ (m r : Nat), r + m = b → ∀ (f1 f2 f3 : Nat → Int32) (t : List (Nat × Value)), (t = [] ∨ ∃ x y, t = [(4, .int x), (5, .int y)]) → ∃ (f1' f2' f3' : Nat → Int32) (t' : List (Nat × Value)), ∀ o, ag_Go X d an_X0_init (290, [(0, .ref 1), (1, .int (nI a)), (2, .int (nI b)), (3, .int (nI b))] ++ t', [], ah_c c0 S z f1' f2' f3' g1 g2, true, nc, ns) o → ag_Go X d an_X0_init (141, [(0, .ref 1), (1, .int (nI a)), (2, .int (nI b)), (3, .int (nI r))] ++ t, [], ah_c c0 S z f1 f2 f3 g1 g2, true, nc, ns) o := by
  intro m
  induction m with
  | zero =>
    intro r hr f1 f2 f3 t ht
    have : r = b := by omega
    subst this
    refine ⟨f1, f2, f3, t, fun o k => ?_⟩
    refine go_n 2 (fr' := (143, [(0, .ref 1), (1, .int (nI a)), (2, .int (nI r)), (3, .int (nI r))] ++ t, [.int (nI r), .int (nI r)], ah_c c0 S z f1 f2 f3 g1 g2, true, nc, ns)) rfl ?_
    exact go_ic_ge (t := 290) rfl (fun _ => k) (fun q => absurd (Int32.le_refl _) q)
  | succ m ih =>
    intro r hr f1 f2 f3 t ht
    have row : ∀ t5 : List (Nat × Value), (t5 = [] ∨ ∃ y, t5 = [(5, .int y)]) → ∃ (f1' f2' f3' : Nat → Int32) (t' : List (Nat × Value)), ∀ o, ag_Go X d an_X0_init (290, [(0, .ref 1), (1, .int (nI a)), (2, .int (nI b)), (3, .int (nI b))] ++ t', [], ah_c c0 S z f1' f2' f3' g1 g2, true, nc, ns) o → ag_Go X d an_X0_init (149, [(0, .ref 1), (1, .int (nI a)), (2, .int (nI b)), (3, .int (nI r)), (4, .int (nI 0))] ++ t5, [], ah_c c0 S z f1 f2 f3 g1 g2, true, nc, ns) o := by
      intro t5 ht5
      obtain ⟨f1a, f2a, f3a, y, hrow⟩ := ci_row (X := X) (d := d) (c0 := c0) (z := z) (g1 := g1) (g2 := g2) (nc := nc) (ns := ns) hS hS2 (show r < b by omega) ha8 a 0 (by omega) f1 f2 f3 t5 ht5 (fun h => by omega)
      obtain ⟨f1b, f2b, f3b, t', hrest⟩ := ih (r + 1) (by omega) f1a f2a f3a [(4, .int (nI a)), (5, .int y)] (Or.inr ⟨_, _, rfl⟩)
      refine ⟨f1b, f2b, f3b, t', fun o k => hrow o ?_⟩
      refine go_n 2 (fr' := (141, [(0, .ref 1), (1, .int (nI a)), (2, .int (nI b)), (3, .int (nI r + 1)), (4, .int (nI a)), (5, .int y)], [], ah_c c0 S z f1a f2a f3a g1 g2, true, nc, ns)) rfl ?_
      rw [nI_1]
      exact hrest o k
    rcases ht with rfl | ⟨x9, y9, rfl⟩
    · obtain ⟨f1b, f2b, f3b, t', hrest⟩ := row [] (Or.inl rfl)
      refine ⟨f1b, f2b, f3b, t', fun o k => ?_⟩
      refine go_n 2 (fr' := (143, [(0, .ref 1), (1, .int (nI a)), (2, .int (nI b)), (3, .int (nI r))], [.int (nI b), .int (nI r)], ah_c c0 S z f1 f2 f3 g1 g2, true, nc, ns)) rfl ?_
      refine go_ic_ge (t := 290) rfl (fun q => absurd q (nI_ge (by omega) (by omega))) (fun _ => ?_)
      exact go_n 2 rfl (hrest o k)
    · obtain ⟨f1b, f2b, f3b, t', hrest⟩ := row [(5, .int y9)] (Or.inr ⟨y9, rfl⟩)
      refine ⟨f1b, f2b, f3b, t', fun o k => ?_⟩
      refine go_n 2 (fr' := (143, [(0, .ref 1), (1, .int (nI a)), (2, .int (nI b)), (3, .int (nI r)), (4, .int x9), (5, .int y9)], [.int (nI b), .int (nI r)], ah_c c0 S z f1 f2 f3 g1 g2, true, nc, ns)) rfl ?_
      refine go_ic_ge (t := 290) rfl (fun q => absurd q (nI_ge (by omega) (by omega))) (fun _ => ?_)
      exact go_n 2 rfl (hrest o k)
set_option maxRecDepth 10000 in
/-- City(width, height): the rows of the cells, all ground, no roof taken -/
theorem pv_X0_init {X : Nat × (Nat → Int32)} {c0 : ai_C} {S a b : Nat} (hS : S = a * b) (hS2 : S ≤ 64) (ha : 1 ≤ a) (ha8 : a ≤ 8) (hb8 : b ≤ 8) (d : Nat) : ∃ (z : Int32) (f1 f2 f3 g1 g2 : Nat → Int32), z = nI S ∧ (∀ j, j < S → g1 j = -1) ∧ (∀ j, j < S → g2 j = -1) ∧ ai_Ev an_ms an_lk X 35 (d + 2) 1 [.ref 1, .int (nI a), .int (nI b)] [c0, .inr (0, [.int 0, .null, .null, .null, .null, .null, .null, .null, .null, .null, .null, .null, .int 0])] true (.inl (none, ah_c c0 S z f1 f2 f3 g1 g2, true, 11, (((((((((((((0 + S) + S) + (4 * S)) + S) + S) + S) + S) + S) + S) + S) + S) + 0) + 0))) := by
  obtain ⟨z, hzz⟩ : ∃ z, z = nI a * nI b := ⟨_, rfl⟩
  have hz : z = nI S := by rw [hzz, hS, pk_mul]
  obtain ⟨g1, hg1, e1⟩ := pv_fill (X := X) (h := [c0, .inr (0, [.int z, .ref 2, .ref 3, .ref 4, .ref 5, .ref 6, .ref 7, .ref 8, .ref 9, .ref 10, .ref 11, .ref 12, .int 0]), .inl (0, S, .inl (fun _ => 0)), .inl (0, S, .inl (fun _ => 0)), .inl (0, (4 * S), .inl (fun _ => 0)), .inl (0, S, .inl (fun _ => 0)), .inl (0, S, .inl (fun _ => 0)), .inl (0, S, .inl (fun _ => 0)), .inl (0, S, .inl (fun _ => 0)), .inl (0, S, .inl (fun _ => 0)), .inl (0, S, .inl (fun _ => 0)), .inl (0, S, .inl (fun _ => 0)), .inl (1, S, .inl (fun _ => 0))]) (a := 5) (n := S) (f := fun _ => 0) rfl (by decide) (by omega) (-1) true d
  obtain ⟨g2, hg2, e2⟩ := pv_fill (X := X) (h := [c0, .inr (0, [.int z, .ref 2, .ref 3, .ref 4, .ref 5, .ref 6, .ref 7, .ref 8, .ref 9, .ref 10, .ref 11, .ref 12, .int 0]), .inl (0, S, .inl (fun _ => 0)), .inl (0, S, .inl (fun _ => 0)), .inl (0, (4 * S), .inl (fun _ => 0)), .inl (0, S, .inl g1), .inl (0, S, .inl (fun _ => 0)), .inl (0, S, .inl (fun _ => 0)), .inl (0, S, .inl (fun _ => 0)), .inl (0, S, .inl (fun _ => 0)), .inl (0, S, .inl (fun _ => 0)), .inl (0, S, .inl (fun _ => 0)), .inl (1, S, .inl (fun _ => 0))]) (a := 11) (n := S) (f := fun _ => 0) rfl (by decide) (by omega) (-1) true d
  obtain ⟨f1, f2, f3, t', hl⟩ := ci_all (X := X) (d := d + 1) (c0 := c0) (z := z) (g1 := g1) (g2 := g2) (nc := 11) (ns := (((((((((((((0 + S) + S) + (4 * S)) + S) + S) + S) + S) + S) + S) + S) + S) + 0) + 0)) hS hS2 ha ha8 hb8 b 0 (by omega) (fun _ => 0) (fun _ => 0) (fun _ => 0) [] (Or.inl rfl)
  refine ⟨z, f1, f2, f3, g1, g2, hz, hg1, hg2, ?_⟩
  refine ev_of (M := an_X0_init) rfl (Nat.le_of_ble_eq_true rfl) ?_
  refine go_n 6 (fr' := (8, [(0, .ref 1), (1, .int (nI a)), (2, .int (nI b))], [.int z, .ref 1], [c0, .inr (0, [.int 0, .null, .null, .null, .null, .null, .null, .null, .null, .null, .null, .null, .int 0])], true, 0, 0)) (by rw [hzz]; rfl) ?_
  refine go_put rfl rfl rfl (Nat.le_of_ble_eq_true rfl) rfl ?_
  refine go_n 2 (fr' := (13, [(0, .ref 1), (1, .int (nI a)), (2, .int (nI b))], [.ref 1, .ref 1], [c0, .inr (0, [.int z, .null, .null, .null, .null, .null, .null, .null, .null, .null, .null, .null, .int 0])], true, 0, 0)) rfl ?_
  refine go_get rfl rfl rfl rfl ?_
  refine go_nwa (N := S) rfl hz (by omega) rfl (Nat.le_of_ble_eq_true rfl) ?_
  refine go_put rfl rfl rfl (Nat.le_of_ble_eq_true rfl) rfl ?_
  refine go_n 2 (fr' := (23, [(0, .ref 1), (1, .int (nI a)), (2, .int (nI b))], [.ref 1, .ref 1], [c0, .inr (0, [.int z, .ref 2, .null, .null, .null, .null, .null, .null, .null, .null, .null, .null, .int 0]), .inl (0, S, .inl (fun _ => 0))], true, 1, (0 + S))) rfl ?_
  refine go_get rfl rfl rfl rfl ?_
  refine go_nwa (N := S) rfl hz (by omega) rfl (Nat.le_of_ble_eq_true rfl) ?_
  refine go_put rfl rfl rfl (Nat.le_of_ble_eq_true rfl) rfl ?_
  refine go_n 3 (fr' := (34, [(0, .ref 1), (1, .int (nI a)), (2, .int (nI b))], [.ref 1, .int 4, .ref 1], [c0, .inr (0, [.int z, .ref 2, .ref 3, .null, .null, .null, .null, .null, .null, .null, .null, .null, .int 0]), .inl (0, S, .inl (fun _ => 0)), .inl (0, S, .inl (fun _ => 0))], true, 2, ((0 + S) + S))) rfl ?_
  refine go_get rfl rfl rfl rfl ?_
  refine go_n 1 (fr' := (38, [(0, .ref 1), (1, .int (nI a)), (2, .int (nI b))], [.int (4 * z), .ref 1], [c0, .inr (0, [.int z, .ref 2, .ref 3, .null, .null, .null, .null, .null, .null, .null, .null, .null, .int 0]), .inl (0, S, .inl (fun _ => 0)), .inl (0, S, .inl (fun _ => 0))], true, 2, ((0 + S) + S))) rfl ?_
  refine go_nwa (N := (4 * S)) rfl (by rw [hz, show (4 : Int32) = nI 4 from rfl, pk_mul]) (by omega) rfl (Nat.le_of_ble_eq_true rfl) ?_
  refine go_put rfl rfl rfl (Nat.le_of_ble_eq_true rfl) rfl ?_
  refine go_n 2 (fr' := (45, [(0, .ref 1), (1, .int (nI a)), (2, .int (nI b))], [.ref 1, .ref 1], [c0, .inr (0, [.int z, .ref 2, .ref 3, .ref 4, .null, .null, .null, .null, .null, .null, .null, .null, .int 0]), .inl (0, S, .inl (fun _ => 0)), .inl (0, S, .inl (fun _ => 0)), .inl (0, (4 * S), .inl (fun _ => 0))], true, 3, (((0 + S) + S) + (4 * S)))) rfl ?_
  refine go_get rfl rfl rfl rfl ?_
  refine go_nwa (N := S) rfl hz (by omega) rfl (Nat.le_of_ble_eq_true rfl) ?_
  refine go_put rfl rfl rfl (Nat.le_of_ble_eq_true rfl) rfl ?_
  refine go_n 2 (fr' := (55, [(0, .ref 1), (1, .int (nI a)), (2, .int (nI b))], [.ref 1, .ref 1], [c0, .inr (0, [.int z, .ref 2, .ref 3, .ref 4, .ref 5, .null, .null, .null, .null, .null, .null, .null, .int 0]), .inl (0, S, .inl (fun _ => 0)), .inl (0, S, .inl (fun _ => 0)), .inl (0, (4 * S), .inl (fun _ => 0)), .inl (0, S, .inl (fun _ => 0))], true, 4, ((((0 + S) + S) + (4 * S)) + S))) rfl ?_
  refine go_get rfl rfl rfl rfl ?_
  refine go_nwa (N := S) rfl hz (by omega) rfl (Nat.le_of_ble_eq_true rfl) ?_
  refine go_put rfl rfl rfl (Nat.le_of_ble_eq_true rfl) rfl ?_
  refine go_n 2 (fr' := (65, [(0, .ref 1), (1, .int (nI a)), (2, .int (nI b))], [.ref 1, .ref 1], [c0, .inr (0, [.int z, .ref 2, .ref 3, .ref 4, .ref 5, .ref 6, .null, .null, .null, .null, .null, .null, .int 0]), .inl (0, S, .inl (fun _ => 0)), .inl (0, S, .inl (fun _ => 0)), .inl (0, (4 * S), .inl (fun _ => 0)), .inl (0, S, .inl (fun _ => 0)), .inl (0, S, .inl (fun _ => 0))], true, 5, (((((0 + S) + S) + (4 * S)) + S) + S))) rfl ?_
  refine go_get rfl rfl rfl rfl ?_
  refine go_nwa (N := S) rfl hz (by omega) rfl (Nat.le_of_ble_eq_true rfl) ?_
  refine go_put rfl rfl rfl (Nat.le_of_ble_eq_true rfl) rfl ?_
  refine go_n 2 (fr' := (75, [(0, .ref 1), (1, .int (nI a)), (2, .int (nI b))], [.ref 1, .ref 1], [c0, .inr (0, [.int z, .ref 2, .ref 3, .ref 4, .ref 5, .ref 6, .ref 7, .null, .null, .null, .null, .null, .int 0]), .inl (0, S, .inl (fun _ => 0)), .inl (0, S, .inl (fun _ => 0)), .inl (0, (4 * S), .inl (fun _ => 0)), .inl (0, S, .inl (fun _ => 0)), .inl (0, S, .inl (fun _ => 0)), .inl (0, S, .inl (fun _ => 0))], true, 6, ((((((0 + S) + S) + (4 * S)) + S) + S) + S))) rfl ?_
  refine go_get rfl rfl rfl rfl ?_
  refine go_nwa (N := S) rfl hz (by omega) rfl (Nat.le_of_ble_eq_true rfl) ?_
  refine go_put rfl rfl rfl (Nat.le_of_ble_eq_true rfl) rfl ?_
  refine go_n 2 (fr' := (85, [(0, .ref 1), (1, .int (nI a)), (2, .int (nI b))], [.ref 1, .ref 1], [c0, .inr (0, [.int z, .ref 2, .ref 3, .ref 4, .ref 5, .ref 6, .ref 7, .ref 8, .null, .null, .null, .null, .int 0]), .inl (0, S, .inl (fun _ => 0)), .inl (0, S, .inl (fun _ => 0)), .inl (0, (4 * S), .inl (fun _ => 0)), .inl (0, S, .inl (fun _ => 0)), .inl (0, S, .inl (fun _ => 0)), .inl (0, S, .inl (fun _ => 0)), .inl (0, S, .inl (fun _ => 0))], true, 7, (((((((0 + S) + S) + (4 * S)) + S) + S) + S) + S))) rfl ?_
  refine go_get rfl rfl rfl rfl ?_
  refine go_nwa (N := S) rfl hz (by omega) rfl (Nat.le_of_ble_eq_true rfl) ?_
  refine go_put rfl rfl rfl (Nat.le_of_ble_eq_true rfl) rfl ?_
  refine go_n 2 (fr' := (95, [(0, .ref 1), (1, .int (nI a)), (2, .int (nI b))], [.ref 1, .ref 1], [c0, .inr (0, [.int z, .ref 2, .ref 3, .ref 4, .ref 5, .ref 6, .ref 7, .ref 8, .ref 9, .null, .null, .null, .int 0]), .inl (0, S, .inl (fun _ => 0)), .inl (0, S, .inl (fun _ => 0)), .inl (0, (4 * S), .inl (fun _ => 0)), .inl (0, S, .inl (fun _ => 0)), .inl (0, S, .inl (fun _ => 0)), .inl (0, S, .inl (fun _ => 0)), .inl (0, S, .inl (fun _ => 0)), .inl (0, S, .inl (fun _ => 0))], true, 8, ((((((((0 + S) + S) + (4 * S)) + S) + S) + S) + S) + S))) rfl ?_
  refine go_get rfl rfl rfl rfl ?_
  refine go_nwa (N := S) rfl hz (by omega) rfl (Nat.le_of_ble_eq_true rfl) ?_
  refine go_put rfl rfl rfl (Nat.le_of_ble_eq_true rfl) rfl ?_
  refine go_n 2 (fr' := (105, [(0, .ref 1), (1, .int (nI a)), (2, .int (nI b))], [.ref 1, .ref 1], [c0, .inr (0, [.int z, .ref 2, .ref 3, .ref 4, .ref 5, .ref 6, .ref 7, .ref 8, .ref 9, .ref 10, .null, .null, .int 0]), .inl (0, S, .inl (fun _ => 0)), .inl (0, S, .inl (fun _ => 0)), .inl (0, (4 * S), .inl (fun _ => 0)), .inl (0, S, .inl (fun _ => 0)), .inl (0, S, .inl (fun _ => 0)), .inl (0, S, .inl (fun _ => 0)), .inl (0, S, .inl (fun _ => 0)), .inl (0, S, .inl (fun _ => 0)), .inl (0, S, .inl (fun _ => 0))], true, 9, (((((((((0 + S) + S) + (4 * S)) + S) + S) + S) + S) + S) + S))) rfl ?_
  refine go_get rfl rfl rfl rfl ?_
  refine go_nwa (N := S) rfl hz (by omega) rfl (Nat.le_of_ble_eq_true rfl) ?_
  refine go_put rfl rfl rfl (Nat.le_of_ble_eq_true rfl) rfl ?_
  refine go_n 2 (fr' := (115, [(0, .ref 1), (1, .int (nI a)), (2, .int (nI b))], [.ref 1, .ref 1], [c0, .inr (0, [.int z, .ref 2, .ref 3, .ref 4, .ref 5, .ref 6, .ref 7, .ref 8, .ref 9, .ref 10, .ref 11, .null, .int 0]), .inl (0, S, .inl (fun _ => 0)), .inl (0, S, .inl (fun _ => 0)), .inl (0, (4 * S), .inl (fun _ => 0)), .inl (0, S, .inl (fun _ => 0)), .inl (0, S, .inl (fun _ => 0)), .inl (0, S, .inl (fun _ => 0)), .inl (0, S, .inl (fun _ => 0)), .inl (0, S, .inl (fun _ => 0)), .inl (0, S, .inl (fun _ => 0)), .inl (0, S, .inl (fun _ => 0))], true, 10, ((((((((((0 + S) + S) + (4 * S)) + S) + S) + S) + S) + S) + S) + S))) rfl ?_
  refine go_get rfl rfl rfl rfl ?_
  refine go_nwa (N := S) rfl hz (by omega) rfl (Nat.le_of_ble_eq_true rfl) ?_
  refine go_put rfl rfl rfl (Nat.le_of_ble_eq_true rfl) rfl ?_
  refine go_n 1 (fr' := (124, [(0, .ref 1), (1, .int (nI a)), (2, .int (nI b))], [.ref 1], [c0, .inr (0, [.int z, .ref 2, .ref 3, .ref 4, .ref 5, .ref 6, .ref 7, .ref 8, .ref 9, .ref 10, .ref 11, .ref 12, .int 0]), .inl (0, S, .inl (fun _ => 0)), .inl (0, S, .inl (fun _ => 0)), .inl (0, (4 * S), .inl (fun _ => 0)), .inl (0, S, .inl (fun _ => 0)), .inl (0, S, .inl (fun _ => 0)), .inl (0, S, .inl (fun _ => 0)), .inl (0, S, .inl (fun _ => 0)), .inl (0, S, .inl (fun _ => 0)), .inl (0, S, .inl (fun _ => 0)), .inl (0, S, .inl (fun _ => 0)), .inl (1, S, .inl (fun _ => 0))], true, 11, (((((((((((0 + S) + S) + (4 * S)) + S) + S) + S) + S) + S) + S) + S) + S))) rfl ?_
  refine go_get rfl rfl rfl rfl ?_
  refine go_n 1 (fr' := (128, [(0, .ref 1), (1, .int (nI a)), (2, .int (nI b))], [.int (-1), .ref 5], [c0, .inr (0, [.int z, .ref 2, .ref 3, .ref 4, .ref 5, .ref 6, .ref 7, .ref 8, .ref 9, .ref 10, .ref 11, .ref 12, .int 0]), .inl (0, S, .inl (fun _ => 0)), .inl (0, S, .inl (fun _ => 0)), .inl (0, (4 * S), .inl (fun _ => 0)), .inl (0, S, .inl (fun _ => 0)), .inl (0, S, .inl (fun _ => 0)), .inl (0, S, .inl (fun _ => 0)), .inl (0, S, .inl (fun _ => 0)), .inl (0, S, .inl (fun _ => 0)), .inl (0, S, .inl (fun _ => 0)), .inl (0, S, .inl (fun _ => 0)), .inl (1, S, .inl (fun _ => 0))], true, 11, (((((((((((0 + S) + S) + (4 * S)) + S) + S) + S) + S) + S) + S) + S) + S))) rfl ?_
  refine go_call (q := 80) (M1 := an_J7_fill_53178) rfl rfl (by decide) rfl trivial trivial (e1) ?_
  refine go_eq (fr' := (131, [(0, .ref 1), (1, .int (nI a)), (2, .int (nI b))], [], [c0, .inr (0, [.int z, .ref 2, .ref 3, .ref 4, .ref 5, .ref 6, .ref 7, .ref 8, .ref 9, .ref 10, .ref 11, .ref 12, .int 0]), .inl (0, S, .inl (fun _ => 0)), .inl (0, S, .inl (fun _ => 0)), .inl (0, (4 * S), .inl (fun _ => 0)), .inl (0, S, .inl g1), .inl (0, S, .inl (fun _ => 0)), .inl (0, S, .inl (fun _ => 0)), .inl (0, S, .inl (fun _ => 0)), .inl (0, S, .inl (fun _ => 0)), .inl (0, S, .inl (fun _ => 0)), .inl (0, S, .inl (fun _ => 0)), .inl (1, S, .inl (fun _ => 0))], true, 11, ((((((((((((0 + S) + S) + (4 * S)) + S) + S) + S) + S) + S) + S) + S) + S) + 0))) rfl ?_
  refine go_n 1 (fr' := (132, [(0, .ref 1), (1, .int (nI a)), (2, .int (nI b))], [.ref 1], [c0, .inr (0, [.int z, .ref 2, .ref 3, .ref 4, .ref 5, .ref 6, .ref 7, .ref 8, .ref 9, .ref 10, .ref 11, .ref 12, .int 0]), .inl (0, S, .inl (fun _ => 0)), .inl (0, S, .inl (fun _ => 0)), .inl (0, (4 * S), .inl (fun _ => 0)), .inl (0, S, .inl g1), .inl (0, S, .inl (fun _ => 0)), .inl (0, S, .inl (fun _ => 0)), .inl (0, S, .inl (fun _ => 0)), .inl (0, S, .inl (fun _ => 0)), .inl (0, S, .inl (fun _ => 0)), .inl (0, S, .inl (fun _ => 0)), .inl (1, S, .inl (fun _ => 0))], true, 11, ((((((((((((0 + S) + S) + (4 * S)) + S) + S) + S) + S) + S) + S) + S) + S) + 0))) rfl ?_
  refine go_get rfl rfl rfl rfl ?_
  refine go_n 1 (fr' := (136, [(0, .ref 1), (1, .int (nI a)), (2, .int (nI b))], [.int (-1), .ref 11], [c0, .inr (0, [.int z, .ref 2, .ref 3, .ref 4, .ref 5, .ref 6, .ref 7, .ref 8, .ref 9, .ref 10, .ref 11, .ref 12, .int 0]), .inl (0, S, .inl (fun _ => 0)), .inl (0, S, .inl (fun _ => 0)), .inl (0, (4 * S), .inl (fun _ => 0)), .inl (0, S, .inl g1), .inl (0, S, .inl (fun _ => 0)), .inl (0, S, .inl (fun _ => 0)), .inl (0, S, .inl (fun _ => 0)), .inl (0, S, .inl (fun _ => 0)), .inl (0, S, .inl (fun _ => 0)), .inl (0, S, .inl (fun _ => 0)), .inl (1, S, .inl (fun _ => 0))], true, 11, ((((((((((((0 + S) + S) + (4 * S)) + S) + S) + S) + S) + S) + S) + S) + S) + 0))) rfl ?_
  refine go_call (q := 80) (M1 := an_J7_fill_53178) rfl rfl (by decide) rfl trivial trivial (e2) ?_
  refine go_eq (fr' := (139, [(0, .ref 1), (1, .int (nI a)), (2, .int (nI b))], [], [c0, .inr (0, [.int z, .ref 2, .ref 3, .ref 4, .ref 5, .ref 6, .ref 7, .ref 8, .ref 9, .ref 10, .ref 11, .ref 12, .int 0]), .inl (0, S, .inl (fun _ => 0)), .inl (0, S, .inl (fun _ => 0)), .inl (0, (4 * S), .inl (fun _ => 0)), .inl (0, S, .inl g1), .inl (0, S, .inl (fun _ => 0)), .inl (0, S, .inl (fun _ => 0)), .inl (0, S, .inl (fun _ => 0)), .inl (0, S, .inl (fun _ => 0)), .inl (0, S, .inl (fun _ => 0)), .inl (0, S, .inl g2), .inl (1, S, .inl (fun _ => 0))], true, 11, (((((((((((((0 + S) + S) + (4 * S)) + S) + S) + S) + S) + S) + S) + S) + S) + 0) + 0))) rfl ?_
  refine go_n 2 (fr' := (141, [(0, .ref 1), (1, .int (nI a)), (2, .int (nI b)), (3, .int 0)], [], [c0, .inr (0, [.int z, .ref 2, .ref 3, .ref 4, .ref 5, .ref 6, .ref 7, .ref 8, .ref 9, .ref 10, .ref 11, .ref 12, .int 0]), .inl (0, S, .inl (fun _ => 0)), .inl (0, S, .inl (fun _ => 0)), .inl (0, (4 * S), .inl (fun _ => 0)), .inl (0, S, .inl g1), .inl (0, S, .inl (fun _ => 0)), .inl (0, S, .inl (fun _ => 0)), .inl (0, S, .inl (fun _ => 0)), .inl (0, S, .inl (fun _ => 0)), .inl (0, S, .inl (fun _ => 0)), .inl (0, S, .inl g2), .inl (1, S, .inl (fun _ => 0))], true, 11, (((((((((((((0 + S) + S) + (4 * S)) + S) + S) + S) + S) + S) + S) + S) + S) + 0) + 0))) rfl ?_
  refine go_eq (fr' := (141, [(0, .ref 1), (1, .int (nI a)), (2, .int (nI b)), (3, .int (nI 0))] ++ [], [], ah_c c0 S z (fun _ => 0) (fun _ => 0) (fun _ => 0) g1 g2, true, 11, (((((((((((((0 + S) + S) + (4 * S)) + S) + S) + S) + S) + S) + S) + S) + S) + 0) + 0))) rfl ?_
  exact hl _ (go_rt (i := .return_) (tg := []) rfl rfl)
end
section
/-! FireWards' constructor -/
/-- a new object's cells; u: the hour -/
abbrev ah_fw (S : Nat) (z : Int32) (f1 f2 f3 g1 g2 : Nat → Int32) (u : Int32) : ai_H := [.inr (9, [.ref 1, .ref 13, .ref 22, .ref 24, .ref 29, .ref 33, .ref 36, .ref 39, .ref 48, .int 0, .int (-1), .int u]), .inr (0, [.int z, .ref 2, .ref 3, .ref 4, .ref 5, .ref 6, .ref 7, .ref 8, .ref 9, .ref 10, .ref 11, .ref 12, .int 0]), .inl (0, S, .inl f1), .inl (0, S, .inl f2), .inl (0, 4 * S, .inl f3), .inl (0, S, .inl g1), .inl (0, S, .inl (fun _ => 0)), .inl (0, S, .inl (fun _ => 0)), .inl (0, S, .inl (fun _ => 0)), .inl (0, S, .inl (fun _ => 0)), .inl (0, S, .inl (fun _ => 0)), .inl (0, S, .inl g2), .inl (1, S, .inl (fun _ => 0)), .inr (1, [.ref 14, .ref 15, .ref 16, .ref 17, .ref 18, .ref 19, .ref 20, .ref 21, .int 0]), .inl (0, 8, .inl (fun _ => 0)), .inl (0, 8, .inl (fun _ => 0)), .inl (0, 8, .inl (fun _ => 0)), .inl (0, 8, .inl (fun _ => 0)), .inl (1, 8, .inl (fun _ => 0)), .inl (0, 8, .inl (fun _ => 0)), .inl (0, 8, .inl (fun _ => 0)), .inl (0, 8, .inl (fun _ => 0)), .inr (6, [.ref 23, .int 0]), .inl (2, 400, .inl (fun _ => 0)), .inr (5, [.ref 25, .int 0, .int 0, .ref 26, .int 0, .int 0]), .inl (0, 400, .inl (fun _ => 0)), .inr (7, [.ref 27, .ref 28, .int 0, .ref 23, .int 0, .int 0]), .inl (0, 401, .inl (fun _ => 0)), .inl (0, 401, .inl (fun _ => 0)), .inr (4, [.ref 30, .ref 31, .ref 32, .int 0]), .inl (0, 2400, .inl (fun _ => 0)), .inl (0, 6, .inl (fun _ => 0)), .inl (0, 6, .inl (fun _ => 0)), .inr (3, [.int 0, .int 0, .ref 34, .ref 35, .int 0]), .inl (0, 8, .inl (fun _ => 0)), .inl (0, 20, .inl (fun _ => 0)), .inr (8, [.ref 1, .ref 37, .ref 38, .int 0]), .inl (0, S, .inl (fun _ => 0)), .inl (0, S, .inl (fun _ => 0)), .inr (2, [.ref 40, .int 0, .ref 1, .int z, .ref 41, .ref 42, .ref 43, .ref 44, .ref 45, .ref 46, .ref 47, .int 0, .int 0]), .inl (0, 4, .inl (fun _ => 0)), .inl (1, S, .inl (fun _ => 0)), .inl (1, S, .inl (fun _ => 0)), .inl (1, S, .inl (fun _ => 0)), .inl (0, S, .inl (fun _ => 0)), .inl (0, S, .inl (fun _ => 0)), .inl (0, (2 * S), .inl (fun _ => 0)), .inl (0, (2 * S), .inl (fun _ => 0)), .inl (0, S, .inl (fun _ => 0))]
theorem ai_and7 (w : Int32) : ∃ a : Nat, 1 ≤ a ∧ a ≤ 8 ∧ 1 + (w &&& 7) = nI a := by
  obtain ⟨j, hj, e⟩ := pk_andE w (m := 7) 3 (by decide)
  refine ⟨1 + j, by omega, by omega, ?_⟩
  rw [e, show (1 : Int32) = nI 1 from rfl, nI_add]
set_option maxRecDepth 10000 in
set_option maxHeartbeats 4000000 in
theorem pv_X9_init {X : Nat × (Nat → Int32)} (w g : Int32) (d : Nat) : ∃ (a b S : Nat) (z : Int32) (f1 f2 f3 g1 g2 : Nat → Int32) (ns : Nat), 1 ≤ a ∧ a ≤ 8 ∧ 1 ≤ b ∧ b ≤ 8 ∧ 1 + (w &&& 7) = nI a ∧ 1 + (g &&& 7) = nI b ∧ S = a * b ∧ z = nI S ∧ (∀ j, j < S → g1 j = -1) ∧ (∀ j, j < S → g2 j = -1) ∧ ns ≤ 10000 ∧ ai_Ev an_ms an_lk X 35 (d + 3) 24 [.ref 0, .int w, .int g] [.inr (9, [.null, .null, .null, .null, .null, .null, .null, .null, .null, .int 0, .int 0, .int 0])] true (.inl (none, ah_fw S z f1 f2 f3 g1 g2 0, true, 48, ns)) := by
  obtain ⟨a, ha1, ha2, ea⟩ := ai_and7 w
  obtain ⟨b, hb1, hb2, eb⟩ := ai_and7 g
  obtain ⟨S, hS⟩ : ∃ S, S = a * b := ⟨_, rfl⟩
  have hS2 : S ≤ 64 := by
    rw [hS]
    exact Nat.mul_le_mul ha2 hb2
  obtain ⟨z, f1, f2, f3, g1, g2, hz, hg1, hg2, e0⟩ := pv_X0_init (X := X) (c0 := .inr (9, [.null, .null, .null, .null, .null, .null, .null, .null, .null, .int 0, .int 0, .int 0])) (S := S) (a := a) (b := b) hS (by omega) ha1 ha2 hb2 d
  refine ⟨a, b, S, z, f1, f2, f3, g1, g2, ((((((((((((((((13 + (((((((((((((0 + S) + S) + (4 * S)) + S) + S) + S) + S) + S) + S) + S) + S) + 0) + 0)) + 9) + 64) + 2) + 400) + 6) + 1208) + 4) + 2412) + 5) + 28) + 4) + ((0 + S) + S)) + 13) + (((((((4 + S) + S) + S) + S) + S) + (2 * S)) + (2 * S))) + S), ha1, ha2, hb1, hb2, ea, eb, hS, hz, hg1, hg2, by omega, ?_⟩
  refine ev_of (M := an_X9_init) rfl (Nat.le_of_ble_eq_true rfl) ?_
  refine go_n 15 (fr' := (21, [(0, .ref 0), (1, .int w), (2, .int g)], [.int (nI b), .int (nI a), .ref 1, .ref 1, .ref 0], [.inr (9, [.null, .null, .null, .null, .null, .null, .null, .null, .null, .int 0, .int 0, .int 0]), .inr (0, [.int 0, .null, .null, .null, .null, .null, .null, .null, .null, .null, .null, .null, .int 0])], true, 1, 13)) (by rw [← ea, ← eb]; rfl) ?_
  refine go_call (q := 1) (M1 := an_X0_init) rfl rfl (by decide) rfl trivial trivial (e0) ?_
  refine go_eq (fr' := (24, [(0, .ref 0), (1, .int w), (2, .int g)], [.ref 1, .ref 0], [.inr (9, [.null, .null, .null, .null, .null, .null, .null, .null, .null, .int 0, .int 0, .int 0]), .inr (0, [.int z, .ref 2, .ref 3, .ref 4, .ref 5, .ref 6, .ref 7, .ref 8, .ref 9, .ref 10, .ref 11, .ref 12, .int 0]), .inl (0, S, .inl f1), .inl (0, S, .inl f2), .inl (0, 4 * S, .inl f3), .inl (0, S, .inl g1), .inl (0, S, .inl (fun _ => 0)), .inl (0, S, .inl (fun _ => 0)), .inl (0, S, .inl (fun _ => 0)), .inl (0, S, .inl (fun _ => 0)), .inl (0, S, .inl (fun _ => 0)), .inl (0, S, .inl g2), .inl (1, S, .inl (fun _ => 0))], true, 12, (13 + (((((((((((((0 + S) + S) + (4 * S)) + S) + S) + S) + S) + S) + S) + S) + S) + 0) + 0)))) rfl ?_
  refine go_put rfl rfl rfl (Nat.le_of_ble_eq_true rfl) rfl ?_
  refine go_n 3 (fr' := (32, [(0, .ref 0), (1, .int w), (2, .int g)], [.ref 13, .ref 13, .ref 0], [.inr (9, [.ref 1, .null, .null, .null, .null, .null, .null, .null, .null, .int 0, .int 0, .int 0]), .inr (0, [.int z, .ref 2, .ref 3, .ref 4, .ref 5, .ref 6, .ref 7, .ref 8, .ref 9, .ref 10, .ref 11, .ref 12, .int 0]), .inl (0, S, .inl f1), .inl (0, S, .inl f2), .inl (0, 4 * S, .inl f3), .inl (0, S, .inl g1), .inl (0, S, .inl (fun _ => 0)), .inl (0, S, .inl (fun _ => 0)), .inl (0, S, .inl (fun _ => 0)), .inl (0, S, .inl (fun _ => 0)), .inl (0, S, .inl (fun _ => 0)), .inl (0, S, .inl g2), .inl (1, S, .inl (fun _ => 0)), .inr (1, [.null, .null, .null, .null, .null, .null, .null, .null, .int 0])], true, 13, ((13 + (((((((((((((0 + S) + S) + (4 * S)) + S) + S) + S) + S) + S) + S) + S) + S) + 0) + 0)) + 9))) rfl ?_
  refine go_call (q := 6) (M1 := an_X1_init) rfl rfl (by decide) rfl trivial trivial (pv_X1_init (d + 1)) ?_
  refine go_eq (fr' := (35, [(0, .ref 0), (1, .int w), (2, .int g)], [.ref 13, .ref 0], [.inr (9, [.ref 1, .null, .null, .null, .null, .null, .null, .null, .null, .int 0, .int 0, .int 0]), .inr (0, [.int z, .ref 2, .ref 3, .ref 4, .ref 5, .ref 6, .ref 7, .ref 8, .ref 9, .ref 10, .ref 11, .ref 12, .int 0]), .inl (0, S, .inl f1), .inl (0, S, .inl f2), .inl (0, 4 * S, .inl f3), .inl (0, S, .inl g1), .inl (0, S, .inl (fun _ => 0)), .inl (0, S, .inl (fun _ => 0)), .inl (0, S, .inl (fun _ => 0)), .inl (0, S, .inl (fun _ => 0)), .inl (0, S, .inl (fun _ => 0)), .inl (0, S, .inl g2), .inl (1, S, .inl (fun _ => 0)), .inr (1, [.ref 14, .ref 15, .ref 16, .ref 17, .ref 18, .ref 19, .ref 20, .ref 21, .int 0]), .inl (0, 8, .inl (fun _ => 0)), .inl (0, 8, .inl (fun _ => 0)), .inl (0, 8, .inl (fun _ => 0)), .inl (0, 8, .inl (fun _ => 0)), .inl (1, 8, .inl (fun _ => 0)), .inl (0, 8, .inl (fun _ => 0)), .inl (0, 8, .inl (fun _ => 0)), .inl (0, 8, .inl (fun _ => 0))], true, 21, (((13 + (((((((((((((0 + S) + S) + (4 * S)) + S) + S) + S) + S) + S) + S) + S) + S) + 0) + 0)) + 9) + 64))) rfl ?_
  refine go_put rfl rfl rfl (Nat.le_of_ble_eq_true rfl) rfl ?_
  refine go_n 3 (fr' := (43, [(0, .ref 0), (1, .int w), (2, .int g)], [.ref 22, .ref 22, .ref 0], [.inr (9, [.ref 1, .ref 13, .null, .null, .null, .null, .null, .null, .null, .int 0, .int 0, .int 0]), .inr (0, [.int z, .ref 2, .ref 3, .ref 4, .ref 5, .ref 6, .ref 7, .ref 8, .ref 9, .ref 10, .ref 11, .ref 12, .int 0]), .inl (0, S, .inl f1), .inl (0, S, .inl f2), .inl (0, 4 * S, .inl f3), .inl (0, S, .inl g1), .inl (0, S, .inl (fun _ => 0)), .inl (0, S, .inl (fun _ => 0)), .inl (0, S, .inl (fun _ => 0)), .inl (0, S, .inl (fun _ => 0)), .inl (0, S, .inl (fun _ => 0)), .inl (0, S, .inl g2), .inl (1, S, .inl (fun _ => 0)), .inr (1, [.ref 14, .ref 15, .ref 16, .ref 17, .ref 18, .ref 19, .ref 20, .ref 21, .int 0]), .inl (0, 8, .inl (fun _ => 0)), .inl (0, 8, .inl (fun _ => 0)), .inl (0, 8, .inl (fun _ => 0)), .inl (0, 8, .inl (fun _ => 0)), .inl (1, 8, .inl (fun _ => 0)), .inl (0, 8, .inl (fun _ => 0)), .inl (0, 8, .inl (fun _ => 0)), .inl (0, 8, .inl (fun _ => 0)), .inr (6, [.null, .int 0])], true, 22, ((((13 + (((((((((((((0 + S) + S) + (4 * S)) + S) + S) + S) + S) + S) + S) + S) + S) + 0) + 0)) + 9) + 64) + 2))) rfl ?_
  refine go_call (q := 18) (M1 := an_X6_init) rfl rfl (by decide) rfl trivial trivial (pv_X6_init (d + 1)) ?_
  refine go_eq (fr' := (46, [(0, .ref 0), (1, .int w), (2, .int g)], [.ref 22, .ref 0], [.inr (9, [.ref 1, .ref 13, .null, .null, .null, .null, .null, .null, .null, .int 0, .int 0, .int 0]), .inr (0, [.int z, .ref 2, .ref 3, .ref 4, .ref 5, .ref 6, .ref 7, .ref 8, .ref 9, .ref 10, .ref 11, .ref 12, .int 0]), .inl (0, S, .inl f1), .inl (0, S, .inl f2), .inl (0, 4 * S, .inl f3), .inl (0, S, .inl g1), .inl (0, S, .inl (fun _ => 0)), .inl (0, S, .inl (fun _ => 0)), .inl (0, S, .inl (fun _ => 0)), .inl (0, S, .inl (fun _ => 0)), .inl (0, S, .inl (fun _ => 0)), .inl (0, S, .inl g2), .inl (1, S, .inl (fun _ => 0)), .inr (1, [.ref 14, .ref 15, .ref 16, .ref 17, .ref 18, .ref 19, .ref 20, .ref 21, .int 0]), .inl (0, 8, .inl (fun _ => 0)), .inl (0, 8, .inl (fun _ => 0)), .inl (0, 8, .inl (fun _ => 0)), .inl (0, 8, .inl (fun _ => 0)), .inl (1, 8, .inl (fun _ => 0)), .inl (0, 8, .inl (fun _ => 0)), .inl (0, 8, .inl (fun _ => 0)), .inl (0, 8, .inl (fun _ => 0)), .inr (6, [.ref 23, .int 0]), .inl (2, 400, .inl (fun _ => 0))], true, 23, (((((13 + (((((((((((((0 + S) + S) + (4 * S)) + S) + S) + S) + S) + S) + S) + S) + S) + 0) + 0)) + 9) + 64) + 2) + 400))) rfl ?_
  refine go_put rfl rfl rfl (Nat.le_of_ble_eq_true rfl) rfl ?_
  refine go_n 4 (fr' := (55, [(0, .ref 0), (1, .int w), (2, .int g)], [.ref 0, .ref 24, .ref 24, .ref 0], [.inr (9, [.ref 1, .ref 13, .ref 22, .null, .null, .null, .null, .null, .null, .int 0, .int 0, .int 0]), .inr (0, [.int z, .ref 2, .ref 3, .ref 4, .ref 5, .ref 6, .ref 7, .ref 8, .ref 9, .ref 10, .ref 11, .ref 12, .int 0]), .inl (0, S, .inl f1), .inl (0, S, .inl f2), .inl (0, 4 * S, .inl f3), .inl (0, S, .inl g1), .inl (0, S, .inl (fun _ => 0)), .inl (0, S, .inl (fun _ => 0)), .inl (0, S, .inl (fun _ => 0)), .inl (0, S, .inl (fun _ => 0)), .inl (0, S, .inl (fun _ => 0)), .inl (0, S, .inl g2), .inl (1, S, .inl (fun _ => 0)), .inr (1, [.ref 14, .ref 15, .ref 16, .ref 17, .ref 18, .ref 19, .ref 20, .ref 21, .int 0]), .inl (0, 8, .inl (fun _ => 0)), .inl (0, 8, .inl (fun _ => 0)), .inl (0, 8, .inl (fun _ => 0)), .inl (0, 8, .inl (fun _ => 0)), .inl (1, 8, .inl (fun _ => 0)), .inl (0, 8, .inl (fun _ => 0)), .inl (0, 8, .inl (fun _ => 0)), .inl (0, 8, .inl (fun _ => 0)), .inr (6, [.ref 23, .int 0]), .inl (2, 400, .inl (fun _ => 0)), .inr (5, [.null, .int 0, .int 0, .null, .int 0, .int 0])], true, 24, ((((((13 + (((((((((((((0 + S) + S) + (4 * S)) + S) + S) + S) + S) + S) + S) + S) + S) + 0) + 0)) + 9) + 64) + 2) + 400) + 6))) rfl ?_
  refine go_get rfl rfl rfl rfl ?_
  refine go_get rfl rfl rfl rfl ?_
  refine go_call (q := 16) (M1 := an_X5_init) rfl rfl (by decide) rfl trivial trivial (pv_X5_init d) ?_
  refine go_eq (fr' := (64, [(0, .ref 0), (1, .int w), (2, .int g)], [.ref 24, .ref 0], [.inr (9, [.ref 1, .ref 13, .ref 22, .null, .null, .null, .null, .null, .null, .int 0, .int 0, .int 0]), .inr (0, [.int z, .ref 2, .ref 3, .ref 4, .ref 5, .ref 6, .ref 7, .ref 8, .ref 9, .ref 10, .ref 11, .ref 12, .int 0]), .inl (0, S, .inl f1), .inl (0, S, .inl f2), .inl (0, 4 * S, .inl f3), .inl (0, S, .inl g1), .inl (0, S, .inl (fun _ => 0)), .inl (0, S, .inl (fun _ => 0)), .inl (0, S, .inl (fun _ => 0)), .inl (0, S, .inl (fun _ => 0)), .inl (0, S, .inl (fun _ => 0)), .inl (0, S, .inl g2), .inl (1, S, .inl (fun _ => 0)), .inr (1, [.ref 14, .ref 15, .ref 16, .ref 17, .ref 18, .ref 19, .ref 20, .ref 21, .int 0]), .inl (0, 8, .inl (fun _ => 0)), .inl (0, 8, .inl (fun _ => 0)), .inl (0, 8, .inl (fun _ => 0)), .inl (0, 8, .inl (fun _ => 0)), .inl (1, 8, .inl (fun _ => 0)), .inl (0, 8, .inl (fun _ => 0)), .inl (0, 8, .inl (fun _ => 0)), .inl (0, 8, .inl (fun _ => 0)), .inr (6, [.ref 23, .int 0]), .inl (2, 400, .inl (fun _ => 0)), .inr (5, [.ref 25, .int 0, .int 0, .ref 26, .int 0, .int 0]), .inl (0, 400, .inl (fun _ => 0)), .inr (7, [.ref 27, .ref 28, .int 0, .ref 23, .int 0, .int 0]), .inl (0, 401, .inl (fun _ => 0)), .inl (0, 401, .inl (fun _ => 0))], true, 28, (((((((13 + (((((((((((((0 + S) + S) + (4 * S)) + S) + S) + S) + S) + S) + S) + S) + S) + 0) + 0)) + 9) + 64) + 2) + 400) + 6) + 1208))) rfl ?_
  refine go_put rfl rfl rfl (Nat.le_of_ble_eq_true rfl) rfl ?_
  refine go_n 3 (fr' := (72, [(0, .ref 0), (1, .int w), (2, .int g)], [.ref 29, .ref 29, .ref 0], [.inr (9, [.ref 1, .ref 13, .ref 22, .ref 24, .null, .null, .null, .null, .null, .int 0, .int 0, .int 0]), .inr (0, [.int z, .ref 2, .ref 3, .ref 4, .ref 5, .ref 6, .ref 7, .ref 8, .ref 9, .ref 10, .ref 11, .ref 12, .int 0]), .inl (0, S, .inl f1), .inl (0, S, .inl f2), .inl (0, 4 * S, .inl f3), .inl (0, S, .inl g1), .inl (0, S, .inl (fun _ => 0)), .inl (0, S, .inl (fun _ => 0)), .inl (0, S, .inl (fun _ => 0)), .inl (0, S, .inl (fun _ => 0)), .inl (0, S, .inl (fun _ => 0)), .inl (0, S, .inl g2), .inl (1, S, .inl (fun _ => 0)), .inr (1, [.ref 14, .ref 15, .ref 16, .ref 17, .ref 18, .ref 19, .ref 20, .ref 21, .int 0]), .inl (0, 8, .inl (fun _ => 0)), .inl (0, 8, .inl (fun _ => 0)), .inl (0, 8, .inl (fun _ => 0)), .inl (0, 8, .inl (fun _ => 0)), .inl (1, 8, .inl (fun _ => 0)), .inl (0, 8, .inl (fun _ => 0)), .inl (0, 8, .inl (fun _ => 0)), .inl (0, 8, .inl (fun _ => 0)), .inr (6, [.ref 23, .int 0]), .inl (2, 400, .inl (fun _ => 0)), .inr (5, [.ref 25, .int 0, .int 0, .ref 26, .int 0, .int 0]), .inl (0, 400, .inl (fun _ => 0)), .inr (7, [.ref 27, .ref 28, .int 0, .ref 23, .int 0, .int 0]), .inl (0, 401, .inl (fun _ => 0)), .inl (0, 401, .inl (fun _ => 0)), .inr (4, [.null, .null, .null, .int 0])], true, 29, ((((((((13 + (((((((((((((0 + S) + S) + (4 * S)) + S) + S) + S) + S) + S) + S) + S) + S) + 0) + 0)) + 9) + 64) + 2) + 400) + 6) + 1208) + 4))) rfl ?_
  refine go_call (q := 12) (M1 := an_X4_init) rfl rfl (by decide) rfl trivial trivial (pv_X4_init (d + 1)) ?_
  refine go_eq (fr' := (75, [(0, .ref 0), (1, .int w), (2, .int g)], [.ref 29, .ref 0], [.inr (9, [.ref 1, .ref 13, .ref 22, .ref 24, .null, .null, .null, .null, .null, .int 0, .int 0, .int 0]), .inr (0, [.int z, .ref 2, .ref 3, .ref 4, .ref 5, .ref 6, .ref 7, .ref 8, .ref 9, .ref 10, .ref 11, .ref 12, .int 0]), .inl (0, S, .inl f1), .inl (0, S, .inl f2), .inl (0, 4 * S, .inl f3), .inl (0, S, .inl g1), .inl (0, S, .inl (fun _ => 0)), .inl (0, S, .inl (fun _ => 0)), .inl (0, S, .inl (fun _ => 0)), .inl (0, S, .inl (fun _ => 0)), .inl (0, S, .inl (fun _ => 0)), .inl (0, S, .inl g2), .inl (1, S, .inl (fun _ => 0)), .inr (1, [.ref 14, .ref 15, .ref 16, .ref 17, .ref 18, .ref 19, .ref 20, .ref 21, .int 0]), .inl (0, 8, .inl (fun _ => 0)), .inl (0, 8, .inl (fun _ => 0)), .inl (0, 8, .inl (fun _ => 0)), .inl (0, 8, .inl (fun _ => 0)), .inl (1, 8, .inl (fun _ => 0)), .inl (0, 8, .inl (fun _ => 0)), .inl (0, 8, .inl (fun _ => 0)), .inl (0, 8, .inl (fun _ => 0)), .inr (6, [.ref 23, .int 0]), .inl (2, 400, .inl (fun _ => 0)), .inr (5, [.ref 25, .int 0, .int 0, .ref 26, .int 0, .int 0]), .inl (0, 400, .inl (fun _ => 0)), .inr (7, [.ref 27, .ref 28, .int 0, .ref 23, .int 0, .int 0]), .inl (0, 401, .inl (fun _ => 0)), .inl (0, 401, .inl (fun _ => 0)), .inr (4, [.ref 30, .ref 31, .ref 32, .int 0]), .inl (0, 2400, .inl (fun _ => 0)), .inl (0, 6, .inl (fun _ => 0)), .inl (0, 6, .inl (fun _ => 0))], true, 32, (((((((((13 + (((((((((((((0 + S) + S) + (4 * S)) + S) + S) + S) + S) + S) + S) + S) + S) + 0) + 0)) + 9) + 64) + 2) + 400) + 6) + 1208) + 4) + 2412))) rfl ?_
  refine go_put rfl rfl rfl (Nat.le_of_ble_eq_true rfl) rfl ?_
  refine go_n 3 (fr' := (83, [(0, .ref 0), (1, .int w), (2, .int g)], [.ref 33, .ref 33, .ref 0], [.inr (9, [.ref 1, .ref 13, .ref 22, .ref 24, .ref 29, .null, .null, .null, .null, .int 0, .int 0, .int 0]), .inr (0, [.int z, .ref 2, .ref 3, .ref 4, .ref 5, .ref 6, .ref 7, .ref 8, .ref 9, .ref 10, .ref 11, .ref 12, .int 0]), .inl (0, S, .inl f1), .inl (0, S, .inl f2), .inl (0, 4 * S, .inl f3), .inl (0, S, .inl g1), .inl (0, S, .inl (fun _ => 0)), .inl (0, S, .inl (fun _ => 0)), .inl (0, S, .inl (fun _ => 0)), .inl (0, S, .inl (fun _ => 0)), .inl (0, S, .inl (fun _ => 0)), .inl (0, S, .inl g2), .inl (1, S, .inl (fun _ => 0)), .inr (1, [.ref 14, .ref 15, .ref 16, .ref 17, .ref 18, .ref 19, .ref 20, .ref 21, .int 0]), .inl (0, 8, .inl (fun _ => 0)), .inl (0, 8, .inl (fun _ => 0)), .inl (0, 8, .inl (fun _ => 0)), .inl (0, 8, .inl (fun _ => 0)), .inl (1, 8, .inl (fun _ => 0)), .inl (0, 8, .inl (fun _ => 0)), .inl (0, 8, .inl (fun _ => 0)), .inl (0, 8, .inl (fun _ => 0)), .inr (6, [.ref 23, .int 0]), .inl (2, 400, .inl (fun _ => 0)), .inr (5, [.ref 25, .int 0, .int 0, .ref 26, .int 0, .int 0]), .inl (0, 400, .inl (fun _ => 0)), .inr (7, [.ref 27, .ref 28, .int 0, .ref 23, .int 0, .int 0]), .inl (0, 401, .inl (fun _ => 0)), .inl (0, 401, .inl (fun _ => 0)), .inr (4, [.ref 30, .ref 31, .ref 32, .int 0]), .inl (0, 2400, .inl (fun _ => 0)), .inl (0, 6, .inl (fun _ => 0)), .inl (0, 6, .inl (fun _ => 0)), .inr (3, [.int 0, .int 0, .null, .null, .int 0])], true, 33, ((((((((((13 + (((((((((((((0 + S) + S) + (4 * S)) + S) + S) + S) + S) + S) + S) + S) + S) + 0) + 0)) + 9) + 64) + 2) + 400) + 6) + 1208) + 4) + 2412) + 5))) rfl ?_
  refine go_call (q := 11) (M1 := an_X3_init) rfl rfl (by decide) rfl trivial trivial (pv_X3_init (d + 1)) ?_
  refine go_eq (fr' := (86, [(0, .ref 0), (1, .int w), (2, .int g)], [.ref 33, .ref 0], [.inr (9, [.ref 1, .ref 13, .ref 22, .ref 24, .ref 29, .null, .null, .null, .null, .int 0, .int 0, .int 0]), .inr (0, [.int z, .ref 2, .ref 3, .ref 4, .ref 5, .ref 6, .ref 7, .ref 8, .ref 9, .ref 10, .ref 11, .ref 12, .int 0]), .inl (0, S, .inl f1), .inl (0, S, .inl f2), .inl (0, 4 * S, .inl f3), .inl (0, S, .inl g1), .inl (0, S, .inl (fun _ => 0)), .inl (0, S, .inl (fun _ => 0)), .inl (0, S, .inl (fun _ => 0)), .inl (0, S, .inl (fun _ => 0)), .inl (0, S, .inl (fun _ => 0)), .inl (0, S, .inl g2), .inl (1, S, .inl (fun _ => 0)), .inr (1, [.ref 14, .ref 15, .ref 16, .ref 17, .ref 18, .ref 19, .ref 20, .ref 21, .int 0]), .inl (0, 8, .inl (fun _ => 0)), .inl (0, 8, .inl (fun _ => 0)), .inl (0, 8, .inl (fun _ => 0)), .inl (0, 8, .inl (fun _ => 0)), .inl (1, 8, .inl (fun _ => 0)), .inl (0, 8, .inl (fun _ => 0)), .inl (0, 8, .inl (fun _ => 0)), .inl (0, 8, .inl (fun _ => 0)), .inr (6, [.ref 23, .int 0]), .inl (2, 400, .inl (fun _ => 0)), .inr (5, [.ref 25, .int 0, .int 0, .ref 26, .int 0, .int 0]), .inl (0, 400, .inl (fun _ => 0)), .inr (7, [.ref 27, .ref 28, .int 0, .ref 23, .int 0, .int 0]), .inl (0, 401, .inl (fun _ => 0)), .inl (0, 401, .inl (fun _ => 0)), .inr (4, [.ref 30, .ref 31, .ref 32, .int 0]), .inl (0, 2400, .inl (fun _ => 0)), .inl (0, 6, .inl (fun _ => 0)), .inl (0, 6, .inl (fun _ => 0)), .inr (3, [.int 0, .int 0, .ref 34, .ref 35, .int 0]), .inl (0, 8, .inl (fun _ => 0)), .inl (0, 20, .inl (fun _ => 0))], true, 35, (((((((((((13 + (((((((((((((0 + S) + S) + (4 * S)) + S) + S) + S) + S) + S) + S) + S) + S) + 0) + 0)) + 9) + 64) + 2) + 400) + 6) + 1208) + 4) + 2412) + 5) + 28))) rfl ?_
  refine go_put rfl rfl rfl (Nat.le_of_ble_eq_true rfl) rfl ?_
  refine go_n 4 (fr' := (95, [(0, .ref 0), (1, .int w), (2, .int g)], [.ref 0, .ref 36, .ref 36, .ref 0], [.inr (9, [.ref 1, .ref 13, .ref 22, .ref 24, .ref 29, .ref 33, .null, .null, .null, .int 0, .int 0, .int 0]), .inr (0, [.int z, .ref 2, .ref 3, .ref 4, .ref 5, .ref 6, .ref 7, .ref 8, .ref 9, .ref 10, .ref 11, .ref 12, .int 0]), .inl (0, S, .inl f1), .inl (0, S, .inl f2), .inl (0, 4 * S, .inl f3), .inl (0, S, .inl g1), .inl (0, S, .inl (fun _ => 0)), .inl (0, S, .inl (fun _ => 0)), .inl (0, S, .inl (fun _ => 0)), .inl (0, S, .inl (fun _ => 0)), .inl (0, S, .inl (fun _ => 0)), .inl (0, S, .inl g2), .inl (1, S, .inl (fun _ => 0)), .inr (1, [.ref 14, .ref 15, .ref 16, .ref 17, .ref 18, .ref 19, .ref 20, .ref 21, .int 0]), .inl (0, 8, .inl (fun _ => 0)), .inl (0, 8, .inl (fun _ => 0)), .inl (0, 8, .inl (fun _ => 0)), .inl (0, 8, .inl (fun _ => 0)), .inl (1, 8, .inl (fun _ => 0)), .inl (0, 8, .inl (fun _ => 0)), .inl (0, 8, .inl (fun _ => 0)), .inl (0, 8, .inl (fun _ => 0)), .inr (6, [.ref 23, .int 0]), .inl (2, 400, .inl (fun _ => 0)), .inr (5, [.ref 25, .int 0, .int 0, .ref 26, .int 0, .int 0]), .inl (0, 400, .inl (fun _ => 0)), .inr (7, [.ref 27, .ref 28, .int 0, .ref 23, .int 0, .int 0]), .inl (0, 401, .inl (fun _ => 0)), .inl (0, 401, .inl (fun _ => 0)), .inr (4, [.ref 30, .ref 31, .ref 32, .int 0]), .inl (0, 2400, .inl (fun _ => 0)), .inl (0, 6, .inl (fun _ => 0)), .inl (0, 6, .inl (fun _ => 0)), .inr (3, [.int 0, .int 0, .ref 34, .ref 35, .int 0]), .inl (0, 8, .inl (fun _ => 0)), .inl (0, 20, .inl (fun _ => 0)), .inr (8, [.null, .null, .null, .int 0])], true, 36, ((((((((((((13 + (((((((((((((0 + S) + S) + (4 * S)) + S) + S) + S) + S) + S) + S) + S) + S) + 0) + 0)) + 9) + 64) + 2) + 400) + 6) + 1208) + 4) + 2412) + 5) + 28) + 4))) rfl ?_
  refine go_get rfl rfl rfl rfl ?_
  refine go_call (q := 23) (M1 := an_X8_init) rfl rfl (by decide) rfl trivial trivial (pv_X8_init hz (by omega) (d + 1)) ?_
  refine go_eq (fr' := (101, [(0, .ref 0), (1, .int w), (2, .int g)], [.ref 36, .ref 0], [.inr (9, [.ref 1, .ref 13, .ref 22, .ref 24, .ref 29, .ref 33, .null, .null, .null, .int 0, .int 0, .int 0]), .inr (0, [.int z, .ref 2, .ref 3, .ref 4, .ref 5, .ref 6, .ref 7, .ref 8, .ref 9, .ref 10, .ref 11, .ref 12, .int 0]), .inl (0, S, .inl f1), .inl (0, S, .inl f2), .inl (0, 4 * S, .inl f3), .inl (0, S, .inl g1), .inl (0, S, .inl (fun _ => 0)), .inl (0, S, .inl (fun _ => 0)), .inl (0, S, .inl (fun _ => 0)), .inl (0, S, .inl (fun _ => 0)), .inl (0, S, .inl (fun _ => 0)), .inl (0, S, .inl g2), .inl (1, S, .inl (fun _ => 0)), .inr (1, [.ref 14, .ref 15, .ref 16, .ref 17, .ref 18, .ref 19, .ref 20, .ref 21, .int 0]), .inl (0, 8, .inl (fun _ => 0)), .inl (0, 8, .inl (fun _ => 0)), .inl (0, 8, .inl (fun _ => 0)), .inl (0, 8, .inl (fun _ => 0)), .inl (1, 8, .inl (fun _ => 0)), .inl (0, 8, .inl (fun _ => 0)), .inl (0, 8, .inl (fun _ => 0)), .inl (0, 8, .inl (fun _ => 0)), .inr (6, [.ref 23, .int 0]), .inl (2, 400, .inl (fun _ => 0)), .inr (5, [.ref 25, .int 0, .int 0, .ref 26, .int 0, .int 0]), .inl (0, 400, .inl (fun _ => 0)), .inr (7, [.ref 27, .ref 28, .int 0, .ref 23, .int 0, .int 0]), .inl (0, 401, .inl (fun _ => 0)), .inl (0, 401, .inl (fun _ => 0)), .inr (4, [.ref 30, .ref 31, .ref 32, .int 0]), .inl (0, 2400, .inl (fun _ => 0)), .inl (0, 6, .inl (fun _ => 0)), .inl (0, 6, .inl (fun _ => 0)), .inr (3, [.int 0, .int 0, .ref 34, .ref 35, .int 0]), .inl (0, 8, .inl (fun _ => 0)), .inl (0, 20, .inl (fun _ => 0)), .inr (8, [.ref 1, .ref 37, .ref 38, .int 0]), .inl (0, S, .inl (fun _ => 0)), .inl (0, S, .inl (fun _ => 0))], true, 38, (((((((((((((13 + (((((((((((((0 + S) + S) + (4 * S)) + S) + S) + S) + S) + S) + S) + S) + S) + 0) + 0)) + 9) + 64) + 2) + 400) + 6) + 1208) + 4) + 2412) + 5) + 28) + 4) + ((0 + S) + S)))) rfl ?_
  refine go_put rfl rfl rfl (Nat.le_of_ble_eq_true rfl) rfl ?_
  refine go_n 4 (fr' := (110, [(0, .ref 0), (1, .int w), (2, .int g)], [.ref 0, .ref 39, .ref 39, .ref 0], [.inr (9, [.ref 1, .ref 13, .ref 22, .ref 24, .ref 29, .ref 33, .ref 36, .null, .null, .int 0, .int 0, .int 0]), .inr (0, [.int z, .ref 2, .ref 3, .ref 4, .ref 5, .ref 6, .ref 7, .ref 8, .ref 9, .ref 10, .ref 11, .ref 12, .int 0]), .inl (0, S, .inl f1), .inl (0, S, .inl f2), .inl (0, 4 * S, .inl f3), .inl (0, S, .inl g1), .inl (0, S, .inl (fun _ => 0)), .inl (0, S, .inl (fun _ => 0)), .inl (0, S, .inl (fun _ => 0)), .inl (0, S, .inl (fun _ => 0)), .inl (0, S, .inl (fun _ => 0)), .inl (0, S, .inl g2), .inl (1, S, .inl (fun _ => 0)), .inr (1, [.ref 14, .ref 15, .ref 16, .ref 17, .ref 18, .ref 19, .ref 20, .ref 21, .int 0]), .inl (0, 8, .inl (fun _ => 0)), .inl (0, 8, .inl (fun _ => 0)), .inl (0, 8, .inl (fun _ => 0)), .inl (0, 8, .inl (fun _ => 0)), .inl (1, 8, .inl (fun _ => 0)), .inl (0, 8, .inl (fun _ => 0)), .inl (0, 8, .inl (fun _ => 0)), .inl (0, 8, .inl (fun _ => 0)), .inr (6, [.ref 23, .int 0]), .inl (2, 400, .inl (fun _ => 0)), .inr (5, [.ref 25, .int 0, .int 0, .ref 26, .int 0, .int 0]), .inl (0, 400, .inl (fun _ => 0)), .inr (7, [.ref 27, .ref 28, .int 0, .ref 23, .int 0, .int 0]), .inl (0, 401, .inl (fun _ => 0)), .inl (0, 401, .inl (fun _ => 0)), .inr (4, [.ref 30, .ref 31, .ref 32, .int 0]), .inl (0, 2400, .inl (fun _ => 0)), .inl (0, 6, .inl (fun _ => 0)), .inl (0, 6, .inl (fun _ => 0)), .inr (3, [.int 0, .int 0, .ref 34, .ref 35, .int 0]), .inl (0, 8, .inl (fun _ => 0)), .inl (0, 20, .inl (fun _ => 0)), .inr (8, [.ref 1, .ref 37, .ref 38, .int 0]), .inl (0, S, .inl (fun _ => 0)), .inl (0, S, .inl (fun _ => 0)), .inr (2, [.null, .int 0, .null, .int 0, .null, .null, .null, .null, .null, .null, .null, .int 0, .int 0])], true, 39, ((((((((((((((13 + (((((((((((((0 + S) + S) + (4 * S)) + S) + S) + S) + S) + S) + S) + S) + S) + 0) + 0)) + 9) + 64) + 2) + 400) + 6) + 1208) + 4) + 2412) + 5) + 28) + 4) + ((0 + S) + S)) + 13))) rfl ?_
  refine go_get rfl rfl rfl rfl ?_
  refine go_call (q := 10) (M1 := an_X2_init) rfl rfl (by decide) rfl trivial trivial (pv_X2_init hz (by omega) (d + 1)) ?_
  refine go_eq (fr' := (116, [(0, .ref 0), (1, .int w), (2, .int g)], [.ref 39, .ref 0], [.inr (9, [.ref 1, .ref 13, .ref 22, .ref 24, .ref 29, .ref 33, .ref 36, .null, .null, .int 0, .int 0, .int 0]), .inr (0, [.int z, .ref 2, .ref 3, .ref 4, .ref 5, .ref 6, .ref 7, .ref 8, .ref 9, .ref 10, .ref 11, .ref 12, .int 0]), .inl (0, S, .inl f1), .inl (0, S, .inl f2), .inl (0, 4 * S, .inl f3), .inl (0, S, .inl g1), .inl (0, S, .inl (fun _ => 0)), .inl (0, S, .inl (fun _ => 0)), .inl (0, S, .inl (fun _ => 0)), .inl (0, S, .inl (fun _ => 0)), .inl (0, S, .inl (fun _ => 0)), .inl (0, S, .inl g2), .inl (1, S, .inl (fun _ => 0)), .inr (1, [.ref 14, .ref 15, .ref 16, .ref 17, .ref 18, .ref 19, .ref 20, .ref 21, .int 0]), .inl (0, 8, .inl (fun _ => 0)), .inl (0, 8, .inl (fun _ => 0)), .inl (0, 8, .inl (fun _ => 0)), .inl (0, 8, .inl (fun _ => 0)), .inl (1, 8, .inl (fun _ => 0)), .inl (0, 8, .inl (fun _ => 0)), .inl (0, 8, .inl (fun _ => 0)), .inl (0, 8, .inl (fun _ => 0)), .inr (6, [.ref 23, .int 0]), .inl (2, 400, .inl (fun _ => 0)), .inr (5, [.ref 25, .int 0, .int 0, .ref 26, .int 0, .int 0]), .inl (0, 400, .inl (fun _ => 0)), .inr (7, [.ref 27, .ref 28, .int 0, .ref 23, .int 0, .int 0]), .inl (0, 401, .inl (fun _ => 0)), .inl (0, 401, .inl (fun _ => 0)), .inr (4, [.ref 30, .ref 31, .ref 32, .int 0]), .inl (0, 2400, .inl (fun _ => 0)), .inl (0, 6, .inl (fun _ => 0)), .inl (0, 6, .inl (fun _ => 0)), .inr (3, [.int 0, .int 0, .ref 34, .ref 35, .int 0]), .inl (0, 8, .inl (fun _ => 0)), .inl (0, 20, .inl (fun _ => 0)), .inr (8, [.ref 1, .ref 37, .ref 38, .int 0]), .inl (0, S, .inl (fun _ => 0)), .inl (0, S, .inl (fun _ => 0)), .inr (2, [.ref 40, .int 0, .ref 1, .int z, .ref 41, .ref 42, .ref 43, .ref 44, .ref 45, .ref 46, .ref 47, .int 0, .int 0]), .inl (0, 4, .inl (fun _ => 0)), .inl (1, S, .inl (fun _ => 0)), .inl (1, S, .inl (fun _ => 0)), .inl (1, S, .inl (fun _ => 0)), .inl (0, S, .inl (fun _ => 0)), .inl (0, S, .inl (fun _ => 0)), .inl (0, (2 * S), .inl (fun _ => 0)), .inl (0, (2 * S), .inl (fun _ => 0))], true, 47, (((((((((((((((13 + (((((((((((((0 + S) + S) + (4 * S)) + S) + S) + S) + S) + S) + S) + S) + S) + 0) + 0)) + 9) + 64) + 2) + 400) + 6) + 1208) + 4) + 2412) + 5) + 28) + 4) + ((0 + S) + S)) + 13) + (((((((4 + S) + S) + S) + S) + S) + (2 * S)) + (2 * S))))) rfl ?_
  refine go_put rfl rfl rfl (Nat.le_of_ble_eq_true rfl) rfl ?_
  refine go_n 2 (fr' := (121, [(0, .ref 0), (1, .int w), (2, .int g)], [.ref 0, .ref 0], [.inr (9, [.ref 1, .ref 13, .ref 22, .ref 24, .ref 29, .ref 33, .ref 36, .ref 39, .null, .int 0, .int 0, .int 0]), .inr (0, [.int z, .ref 2, .ref 3, .ref 4, .ref 5, .ref 6, .ref 7, .ref 8, .ref 9, .ref 10, .ref 11, .ref 12, .int 0]), .inl (0, S, .inl f1), .inl (0, S, .inl f2), .inl (0, 4 * S, .inl f3), .inl (0, S, .inl g1), .inl (0, S, .inl (fun _ => 0)), .inl (0, S, .inl (fun _ => 0)), .inl (0, S, .inl (fun _ => 0)), .inl (0, S, .inl (fun _ => 0)), .inl (0, S, .inl (fun _ => 0)), .inl (0, S, .inl g2), .inl (1, S, .inl (fun _ => 0)), .inr (1, [.ref 14, .ref 15, .ref 16, .ref 17, .ref 18, .ref 19, .ref 20, .ref 21, .int 0]), .inl (0, 8, .inl (fun _ => 0)), .inl (0, 8, .inl (fun _ => 0)), .inl (0, 8, .inl (fun _ => 0)), .inl (0, 8, .inl (fun _ => 0)), .inl (1, 8, .inl (fun _ => 0)), .inl (0, 8, .inl (fun _ => 0)), .inl (0, 8, .inl (fun _ => 0)), .inl (0, 8, .inl (fun _ => 0)), .inr (6, [.ref 23, .int 0]), .inl (2, 400, .inl (fun _ => 0)), .inr (5, [.ref 25, .int 0, .int 0, .ref 26, .int 0, .int 0]), .inl (0, 400, .inl (fun _ => 0)), .inr (7, [.ref 27, .ref 28, .int 0, .ref 23, .int 0, .int 0]), .inl (0, 401, .inl (fun _ => 0)), .inl (0, 401, .inl (fun _ => 0)), .inr (4, [.ref 30, .ref 31, .ref 32, .int 0]), .inl (0, 2400, .inl (fun _ => 0)), .inl (0, 6, .inl (fun _ => 0)), .inl (0, 6, .inl (fun _ => 0)), .inr (3, [.int 0, .int 0, .ref 34, .ref 35, .int 0]), .inl (0, 8, .inl (fun _ => 0)), .inl (0, 20, .inl (fun _ => 0)), .inr (8, [.ref 1, .ref 37, .ref 38, .int 0]), .inl (0, S, .inl (fun _ => 0)), .inl (0, S, .inl (fun _ => 0)), .inr (2, [.ref 40, .int 0, .ref 1, .int z, .ref 41, .ref 42, .ref 43, .ref 44, .ref 45, .ref 46, .ref 47, .int 0, .int 0]), .inl (0, 4, .inl (fun _ => 0)), .inl (1, S, .inl (fun _ => 0)), .inl (1, S, .inl (fun _ => 0)), .inl (1, S, .inl (fun _ => 0)), .inl (0, S, .inl (fun _ => 0)), .inl (0, S, .inl (fun _ => 0)), .inl (0, (2 * S), .inl (fun _ => 0)), .inl (0, (2 * S), .inl (fun _ => 0))], true, 47, (((((((((((((((13 + (((((((((((((0 + S) + S) + (4 * S)) + S) + S) + S) + S) + S) + S) + S) + S) + 0) + 0)) + 9) + 64) + 2) + 400) + 6) + 1208) + 4) + 2412) + 5) + 28) + 4) + ((0 + S) + S)) + 13) + (((((((4 + S) + S) + S) + S) + S) + (2 * S)) + (2 * S))))) rfl ?_
  refine go_get rfl rfl rfl rfl ?_
  refine go_get rfl rfl rfl rfl ?_
  refine go_nwa (N := S) rfl hz (by omega) rfl (Nat.le_of_ble_eq_true rfl) ?_
  refine go_put rfl rfl rfl (Nat.le_of_ble_eq_true rfl) rfl ?_
  refine go_n 2 (fr' := (134, [(0, .ref 0), (1, .int w), (2, .int g)], [.int (-1), .ref 0], [.inr (9, [.ref 1, .ref 13, .ref 22, .ref 24, .ref 29, .ref 33, .ref 36, .ref 39, .ref 48, .int 0, .int 0, .int 0]), .inr (0, [.int z, .ref 2, .ref 3, .ref 4, .ref 5, .ref 6, .ref 7, .ref 8, .ref 9, .ref 10, .ref 11, .ref 12, .int 0]), .inl (0, S, .inl f1), .inl (0, S, .inl f2), .inl (0, 4 * S, .inl f3), .inl (0, S, .inl g1), .inl (0, S, .inl (fun _ => 0)), .inl (0, S, .inl (fun _ => 0)), .inl (0, S, .inl (fun _ => 0)), .inl (0, S, .inl (fun _ => 0)), .inl (0, S, .inl (fun _ => 0)), .inl (0, S, .inl g2), .inl (1, S, .inl (fun _ => 0)), .inr (1, [.ref 14, .ref 15, .ref 16, .ref 17, .ref 18, .ref 19, .ref 20, .ref 21, .int 0]), .inl (0, 8, .inl (fun _ => 0)), .inl (0, 8, .inl (fun _ => 0)), .inl (0, 8, .inl (fun _ => 0)), .inl (0, 8, .inl (fun _ => 0)), .inl (1, 8, .inl (fun _ => 0)), .inl (0, 8, .inl (fun _ => 0)), .inl (0, 8, .inl (fun _ => 0)), .inl (0, 8, .inl (fun _ => 0)), .inr (6, [.ref 23, .int 0]), .inl (2, 400, .inl (fun _ => 0)), .inr (5, [.ref 25, .int 0, .int 0, .ref 26, .int 0, .int 0]), .inl (0, 400, .inl (fun _ => 0)), .inr (7, [.ref 27, .ref 28, .int 0, .ref 23, .int 0, .int 0]), .inl (0, 401, .inl (fun _ => 0)), .inl (0, 401, .inl (fun _ => 0)), .inr (4, [.ref 30, .ref 31, .ref 32, .int 0]), .inl (0, 2400, .inl (fun _ => 0)), .inl (0, 6, .inl (fun _ => 0)), .inl (0, 6, .inl (fun _ => 0)), .inr (3, [.int 0, .int 0, .ref 34, .ref 35, .int 0]), .inl (0, 8, .inl (fun _ => 0)), .inl (0, 20, .inl (fun _ => 0)), .inr (8, [.ref 1, .ref 37, .ref 38, .int 0]), .inl (0, S, .inl (fun _ => 0)), .inl (0, S, .inl (fun _ => 0)), .inr (2, [.ref 40, .int 0, .ref 1, .int z, .ref 41, .ref 42, .ref 43, .ref 44, .ref 45, .ref 46, .ref 47, .int 0, .int 0]), .inl (0, 4, .inl (fun _ => 0)), .inl (1, S, .inl (fun _ => 0)), .inl (1, S, .inl (fun _ => 0)), .inl (1, S, .inl (fun _ => 0)), .inl (0, S, .inl (fun _ => 0)), .inl (0, S, .inl (fun _ => 0)), .inl (0, (2 * S), .inl (fun _ => 0)), .inl (0, (2 * S), .inl (fun _ => 0)), .inl (0, S, .inl (fun _ => 0))], true, 48, ((((((((((((((((13 + (((((((((((((0 + S) + S) + (4 * S)) + S) + S) + S) + S) + S) + S) + S) + S) + 0) + 0)) + 9) + 64) + 2) + 400) + 6) + 1208) + 4) + 2412) + 5) + 28) + 4) + ((0 + S) + S)) + 13) + (((((((4 + S) + S) + S) + S) + S) + (2 * S)) + (2 * S))) + S))) rfl ?_
  refine go_put rfl rfl rfl (Nat.le_of_ble_eq_true rfl) rfl ?_
  refine go_rt (i := .return_) (tg := []) rfl ?_
  rfl
end
section
/-! the reference's constructor -/
/-- the reference's cells; a, b: the sides; v: the hour; t: what was thrown -/
abbrev ah_m (a b : Nat) (s1 s2 : Nat → Int32) (v t : Int32) : ai_H := [.inr (10, [.ref 50, .int t, .int (nI a), .int (nI b), .int v, .int 0, .int 0, .int 0, .int 0, .int (-1), .int 0, .ref 51, .ref 52, .ref 53, .ref 54, .ref 55, .ref 56, .ref 57, .ref 58, .ref 59, .ref 60, .ref 61, .ref 62, .ref 63, .ref 64, .ref 65, .ref 66, .ref 67, .ref 68, .ref 69, .ref 70, .ref 71, .ref 72, .ref 73, .int 0, .int 0, .int 0, .int 0, .int 0, .int 0, .int 0, .int 0, .int 0, .int 0, .ref 74, .ref 75, .ref 76, .ref 77, .ref 78, .ref 79, .ref 80, .ref 81, .int 0, .ref 82, .ref 83, .ref 84]), .inl (4, 8, .inr (.inr (.inr (.inr (va_up (va_up (va_up (va_up (va_up (va_up (va_up (va_up (fun _ => none) 0 (some 1000023)) 1 (some 1000024)) 2 (some 1000025)) 3 (some 1000026)) 4 (some 1000027)) 5 (some 1000028)) 6 (some 1000029)) 7 (some 1000030)))))), .inl (0, 64, .inl s1), .inl (0, 64, .inl (fun _ => 0)), .inl (0, 64, .inl (fun _ => 0)), .inl (0, 64, .inl (fun _ => 0)), .inl (0, 64, .inl (fun _ => 0)), .inl (0, 64, .inl (fun _ => 0)), .inl (0, 64, .inl s2), .inl (1, 64, .inl (fun _ => 0)), .inl (0, 8, .inl (fun _ => 0)), .inl (0, 8, .inl (fun _ => 0)), .inl (0, 8, .inl (fun _ => 0)), .inl (0, 8, .inl (fun _ => 0)), .inl (0, 8, .inl (fun _ => 0)), .inl (0, 8, .inl (fun _ => 0)), .inl (0, 8, .inl (fun _ => 0)), .inl (1, 8, .inl (fun _ => 0)), .inl (0, 400, .inl (fun _ => 0)), .inl (0, 6, .inl (fun _ => 0)), .inl (0, 6, .inl (fun _ => 0)), .inl (0, 78, .inl (fun _ => 0)), .inl (0, 4200, .inl (fun _ => 0)), .inl (0, 150, .inl (fun _ => 0)), .inl (1, 72, .inl (fun _ => 0)), .inl (0, 64, .inl (fun _ => 0)), .inl (0, 64, .inl (fun _ => 0)), .inl (1, 64, .inl (fun _ => 0)), .inl (1, 64, .inl (fun _ => 0)), .inl (0, 64, .inl (fun _ => 0)), .inl (0, 64, .inl (fun _ => 0)), .inl (0, 128, .inl (fun _ => 0)), .inl (0, 128, .inl (fun _ => 0)), .inl (0, 64, .inl (fun _ => 0)), .inl (0, 64, .inl (fun _ => 0)), .inl (0, 128, .inl (fun _ => 0))]
set_option maxRecDepth 10000 in
set_option maxHeartbeats 4000000 in
theorem pv_X10_loop {X : Nat × (Nat → Int32)} {d : Nat} {c0 c1 c2 c3 c4 c5 c6 c7 c8 c9 c10 c11 c12 c13 c14 c15 c16 c17 c18 c19 c20 c21 c22 c23 c24 c25 c26 c27 c28 c29 c30 c31 c32 c33 c34 c35 c36 c37 c38 c39 c40 c41 c42 c43 c44 c45 c46 c47 c48 : ai_C} {a b : Nat} {w g : Int32} : ∀ m i : Nat, i + m = 64 → ∀ o, ag_Go X d an_X10_init (386, [(0, .ref 49), (1, .int w), (2, .int g), (3, .int (nI 64))], [], [c0, c1, c2, c3, c4, c5, c6, c7, c8, c9, c10, c11, c12, c13, c14, c15, c16, c17, c18, c19, c20, c21, c22, c23, c24, c25, c26, c27, c28, c29, c30, c31, c32, c33, c34, c35, c36, c37, c38, c39, c40, c41, c42, c43, c44, c45, c46, c47, c48] ++ ah_m a b (fun j => if j < 64 then -1 else 0) (fun j => if j < 64 then -1 else 0) 0 0, true, 35, 6392) o → ag_Go X d an_X10_init (360, [(0, .ref 49), (1, .int w), (2, .int g), (3, .int (nI i))], [], [c0, c1, c2, c3, c4, c5, c6, c7, c8, c9, c10, c11, c12, c13, c14, c15, c16, c17, c18, c19, c20, c21, c22, c23, c24, c25, c26, c27, c28, c29, c30, c31, c32, c33, c34, c35, c36, c37, c38, c39, c40, c41, c42, c43, c44, c45, c46, c47, c48] ++ ah_m a b (fun j => if j < i then -1 else 0) (fun j => if j < i then -1 else 0) 0 0, true, 35, 6392) o := by
  intro m
  induction m with
  | zero =>
    intro i hi o k
    have : i = 64 := by omega
    subst this
    refine go_n 2 (fr' := (363, [(0, .ref 49), (1, .int w), (2, .int g), (3, .int (nI 64))], [.int (nI 64), .int (nI 64)], [c0, c1, c2, c3, c4, c5, c6, c7, c8, c9, c10, c11, c12, c13, c14, c15, c16, c17, c18, c19, c20, c21, c22, c23, c24, c25, c26, c27, c28, c29, c30, c31, c32, c33, c34, c35, c36, c37, c38, c39, c40, c41, c42, c43, c44, c45, c46, c47, c48] ++ ah_m a b (fun j => if j < 64 then -1 else 0) (fun j => if j < 64 then -1 else 0) 0 0, true, 35, 6392)) rfl ?_
    exact go_ic_ge (t := 386) rfl (fun _ => k) (fun q => absurd (Int32.le_refl _) q)
  | succ m ih =>
    intro i hi o k
    have e1 : upd (fun j => if j < i then -1 else 0) (nI i).toNatClampNeg (-1) = fun j => if j < i + 1 then -1 else 0 := by
      rw [nI_clamp (by omega)]
      funext j
      unfold upd
      by_cases h1 : j = i
      · simp [h1]
      · simp only [h1, if_false]
        by_cases h2 : j < i
        · rw [if_pos h2, if_pos (by omega)]
        · rw [if_neg h2, if_neg (by omega)]
    refine go_n 2 (fr' := (363, [(0, .ref 49), (1, .int w), (2, .int g), (3, .int (nI i))], [.int (nI 64), .int (nI i)], [c0, c1, c2, c3, c4, c5, c6, c7, c8, c9, c10, c11, c12, c13, c14, c15, c16, c17, c18, c19, c20, c21, c22, c23, c24, c25, c26, c27, c28, c29, c30, c31, c32, c33, c34, c35, c36, c37, c38, c39, c40, c41, c42, c43, c44, c45, c46, c47, c48] ++ ah_m a b (fun j => if j < i then -1 else 0) (fun j => if j < i then -1 else 0) 0 0, true, 35, 6392)) rfl ?_
    refine go_ic_ge (t := 386) rfl (fun q => absurd q (nI_ge (by omega) (by omega))) (fun _ => ?_)
    refine go_n 1 (fr' := (367, [(0, .ref 49), (1, .int w), (2, .int g), (3, .int (nI i))], [.ref 49], [c0, c1, c2, c3, c4, c5, c6, c7, c8, c9, c10, c11, c12, c13, c14, c15, c16, c17, c18, c19, c20, c21, c22, c23, c24, c25, c26, c27, c28, c29, c30, c31, c32, c33, c34, c35, c36, c37, c38, c39, c40, c41, c42, c43, c44, c45, c46, c47, c48] ++ ah_m a b (fun j => if j < i then -1 else 0) (fun j => if j < i then -1 else 0) 0 0, true, 35, 6392)) rfl ?_
    refine go_get rfl rfl rfl rfl ?_
    refine go_n 2 (fr' := (372, [(0, .ref 49), (1, .int w), (2, .int g), (3, .int (nI i))], [.int (-1), .int (nI i), .ref 51], [c0, c1, c2, c3, c4, c5, c6, c7, c8, c9, c10, c11, c12, c13, c14, c15, c16, c17, c18, c19, c20, c21, c22, c23, c24, c25, c26, c27, c28, c29, c30, c31, c32, c33, c34, c35, c36, c37, c38, c39, c40, c41, c42, c43, c44, c45, c46, c47, c48] ++ ah_m a b (fun j => if j < i then -1 else 0) (fun j => if j < i then -1 else 0) 0 0, true, 35, 6392)) rfl ?_
    refine go_ias rfl rfl (ai_in_nI (by omega) (by omega)) ?_
    rw [e1]
    refine go_eq (fr' := (373, [(0, .ref 49), (1, .int w), (2, .int g), (3, .int (nI i))], [], [c0, c1, c2, c3, c4, c5, c6, c7, c8, c9, c10, c11, c12, c13, c14, c15, c16, c17, c18, c19, c20, c21, c22, c23, c24, c25, c26, c27, c28, c29, c30, c31, c32, c33, c34, c35, c36, c37, c38, c39, c40, c41, c42, c43, c44, c45, c46, c47, c48] ++ ah_m a b (fun j => if j < i + 1 then -1 else 0) (fun j => if j < i then -1 else 0) 0 0, true, 35, 6392)) rfl ?_
    refine go_n 1 (fr' := (374, [(0, .ref 49), (1, .int w), (2, .int g), (3, .int (nI i))], [.ref 49], [c0, c1, c2, c3, c4, c5, c6, c7, c8, c9, c10, c11, c12, c13, c14, c15, c16, c17, c18, c19, c20, c21, c22, c23, c24, c25, c26, c27, c28, c29, c30, c31, c32, c33, c34, c35, c36, c37, c38, c39, c40, c41, c42, c43, c44, c45, c46, c47, c48] ++ ah_m a b (fun j => if j < i + 1 then -1 else 0) (fun j => if j < i then -1 else 0) 0 0, true, 35, 6392)) rfl ?_
    refine go_get rfl rfl rfl rfl ?_
    refine go_n 2 (fr' := (379, [(0, .ref 49), (1, .int w), (2, .int g), (3, .int (nI i))], [.int (-1), .int (nI i), .ref 57], [c0, c1, c2, c3, c4, c5, c6, c7, c8, c9, c10, c11, c12, c13, c14, c15, c16, c17, c18, c19, c20, c21, c22, c23, c24, c25, c26, c27, c28, c29, c30, c31, c32, c33, c34, c35, c36, c37, c38, c39, c40, c41, c42, c43, c44, c45, c46, c47, c48] ++ ah_m a b (fun j => if j < i + 1 then -1 else 0) (fun j => if j < i then -1 else 0) 0 0, true, 35, 6392)) rfl ?_
    refine go_ias rfl rfl (ai_in_nI (by omega) (by omega)) ?_
    rw [e1]
    refine go_n 2 (fr' := (360, [(0, .ref 49), (1, .int w), (2, .int g), (3, .int (nI i + 1))], [], [c0, c1, c2, c3, c4, c5, c6, c7, c8, c9, c10, c11, c12, c13, c14, c15, c16, c17, c18, c19, c20, c21, c22, c23, c24, c25, c26, c27, c28, c29, c30, c31, c32, c33, c34, c35, c36, c37, c38, c39, c40, c41, c42, c43, c44, c45, c46, c47, c48] ++ ah_m a b (fun j => if j < i + 1 then -1 else 0) (fun j => if j < i + 1 then -1 else 0) 0 0, true, 35, 6392)) rfl ?_
    rw [nI_1]
    exact ih (i + 1) (by omega) o k
set_option maxRecDepth 10000 in
set_option maxHeartbeats 4000000 in
theorem pv_X10_init {X : Nat × (Nat → Int32)} {c0 c1 c2 c3 c4 c5 c6 c7 c8 c9 c10 c11 c12 c13 c14 c15 c16 c17 c18 c19 c20 c21 c22 c23 c24 c25 c26 c27 c28 c29 c30 c31 c32 c33 c34 c35 c36 c37 c38 c39 c40 c41 c42 c43 c44 c45 c46 c47 c48 : ai_C} {a b : Nat} {w g : Int32} (ea : 1 + (w &&& 7) = nI a) (eb : 1 + (g &&& 7) = nI b) (d : Nat) : ai_Ev an_ms an_lk X 35 (d + 1) 51 [.ref 49, .int w, .int g] [c0, c1, c2, c3, c4, c5, c6, c7, c8, c9, c10, c11, c12, c13, c14, c15, c16, c17, c18, c19, c20, c21, c22, c23, c24, c25, c26, c27, c28, c29, c30, c31, c32, c33, c34, c35, c36, c37, c38, c39, c40, c41, c42, c43, c44, c45, c46, c47, c48, .inr (10, [.null, .int 0, .int 0, .int 0, .int 0, .int 0, .int 0, .int 0, .int 0, .int 0, .int 0, .null, .null, .null, .null, .null, .null, .null, .null, .null, .null, .null, .null, .null, .null, .null, .null, .null, .null, .null, .null, .null, .null, .null, .int 0, .int 0, .int 0, .int 0, .int 0, .int 0, .int 0, .int 0, .int 0, .int 0, .null, .null, .null, .null, .null, .null, .null, .null, .int 0, .null, .null, .null])] true (.inl (none, [c0, c1, c2, c3, c4, c5, c6, c7, c8, c9, c10, c11, c12, c13, c14, c15, c16, c17, c18, c19, c20, c21, c22, c23, c24, c25, c26, c27, c28, c29, c30, c31, c32, c33, c34, c35, c36, c37, c38, c39, c40, c41, c42, c43, c44, c45, c46, c47, c48] ++ ah_m a b (fun j => if j < 64 then -1 else 0) (fun j => if j < 64 then -1 else 0) 0 0, true, 35, 6392)) := by
  refine ev_of (M := an_X10_init) rfl (Nat.le_of_ble_eq_true rfl) ?_
  refine go_n 37 (fr' := (52, [(0, .ref 49), (1, .int w), (2, .int g)], [.ref 50, .ref 49], [c0, c1, c2, c3, c4, c5, c6, c7, c8, c9, c10, c11, c12, c13, c14, c15, c16, c17, c18, c19, c20, c21, c22, c23, c24, c25, c26, c27, c28, c29, c30, c31, c32, c33, c34, c35, c36, c37, c38, c39, c40, c41, c42, c43, c44, c45, c46, c47, c48, .inr (10, [.null, .int 0, .int 0, .int 0, .int 0, .int 0, .int 0, .int 0, .int 0, .int 0, .int 0, .null, .null, .null, .null, .null, .null, .null, .null, .null, .null, .null, .null, .null, .null, .null, .null, .null, .null, .null, .null, .null, .null, .null, .int 0, .int 0, .int 0, .int 0, .int 0, .int 0, .int 0, .int 0, .int 0, .int 0, .null, .null, .null, .null, .null, .null, .null, .null, .int 0, .null, .null, .null]), .inl (4, 8, .inr (.inr (.inr (.inr (va_up (va_up (va_up (va_up (va_up (va_up (va_up (va_up (fun _ => none) 0 (some 1000023)) 1 (some 1000024)) 2 (some 1000025)) 3 (some 1000026)) 4 (some 1000027)) 5 (some 1000028)) 6 (some 1000029)) 7 (some 1000030))))))], true, 1, 8)) rfl ?_
  refine go_put rfl rfl rfl (Nat.le_of_ble_eq_true rfl) rfl ?_
  refine go_n 2 (fr' := (57, [(0, .ref 49), (1, .int w), (2, .int g)], [.int (-1), .ref 49], [c0, c1, c2, c3, c4, c5, c6, c7, c8, c9, c10, c11, c12, c13, c14, c15, c16, c17, c18, c19, c20, c21, c22, c23, c24, c25, c26, c27, c28, c29, c30, c31, c32, c33, c34, c35, c36, c37, c38, c39, c40, c41, c42, c43, c44, c45, c46, c47, c48, .inr (10, [.ref 50, .int 0, .int 0, .int 0, .int 0, .int 0, .int 0, .int 0, .int 0, .int 0, .int 0, .null, .null, .null, .null, .null, .null, .null, .null, .null, .null, .null, .null, .null, .null, .null, .null, .null, .null, .null, .null, .null, .null, .null, .int 0, .int 0, .int 0, .int 0, .int 0, .int 0, .int 0, .int 0, .int 0, .int 0, .null, .null, .null, .null, .null, .null, .null, .null, .int 0, .null, .null, .null]), .inl (4, 8, .inr (.inr (.inr (.inr (va_up (va_up (va_up (va_up (va_up (va_up (va_up (va_up (fun _ => none) 0 (some 1000023)) 1 (some 1000024)) 2 (some 1000025)) 3 (some 1000026)) 4 (some 1000027)) 5 (some 1000028)) 6 (some 1000029)) 7 (some 1000030))))))], true, 1, 8)) rfl ?_
  refine go_put rfl rfl rfl (Nat.le_of_ble_eq_true rfl) rfl ?_
  refine go_n 2 (fr' := (63, [(0, .ref 49), (1, .int w), (2, .int g)], [.int 64, .ref 49], [c0, c1, c2, c3, c4, c5, c6, c7, c8, c9, c10, c11, c12, c13, c14, c15, c16, c17, c18, c19, c20, c21, c22, c23, c24, c25, c26, c27, c28, c29, c30, c31, c32, c33, c34, c35, c36, c37, c38, c39, c40, c41, c42, c43, c44, c45, c46, c47, c48, .inr (10, [.ref 50, .int 0, .int 0, .int 0, .int 0, .int 0, .int 0, .int 0, .int 0, .int (-1), .int 0, .null, .null, .null, .null, .null, .null, .null, .null, .null, .null, .null, .null, .null, .null, .null, .null, .null, .null, .null, .null, .null, .null, .null, .int 0, .int 0, .int 0, .int 0, .int 0, .int 0, .int 0, .int 0, .int 0, .int 0, .null, .null, .null, .null, .null, .null, .null, .null, .int 0, .null, .null, .null]), .inl (4, 8, .inr (.inr (.inr (.inr (va_up (va_up (va_up (va_up (va_up (va_up (va_up (va_up (fun _ => none) 0 (some 1000023)) 1 (some 1000024)) 2 (some 1000025)) 3 (some 1000026)) 4 (some 1000027)) 5 (some 1000028)) 6 (some 1000029)) 7 (some 1000030))))))], true, 1, 8)) rfl ?_
  refine go_nwa (N := 64) rfl rfl (by decide) rfl (Nat.le_of_ble_eq_true rfl) ?_
  refine go_put rfl rfl rfl (Nat.le_of_ble_eq_true rfl) rfl ?_
  refine go_n 2 (fr' := (71, [(0, .ref 49), (1, .int w), (2, .int g)], [.int 64, .ref 49], [c0, c1, c2, c3, c4, c5, c6, c7, c8, c9, c10, c11, c12, c13, c14, c15, c16, c17, c18, c19, c20, c21, c22, c23, c24, c25, c26, c27, c28, c29, c30, c31, c32, c33, c34, c35, c36, c37, c38, c39, c40, c41, c42, c43, c44, c45, c46, c47, c48, .inr (10, [.ref 50, .int 0, .int 0, .int 0, .int 0, .int 0, .int 0, .int 0, .int 0, .int (-1), .int 0, .ref 51, .null, .null, .null, .null, .null, .null, .null, .null, .null, .null, .null, .null, .null, .null, .null, .null, .null, .null, .null, .null, .null, .null, .int 0, .int 0, .int 0, .int 0, .int 0, .int 0, .int 0, .int 0, .int 0, .int 0, .null, .null, .null, .null, .null, .null, .null, .null, .int 0, .null, .null, .null]), .inl (4, 8, .inr (.inr (.inr (.inr (va_up (va_up (va_up (va_up (va_up (va_up (va_up (va_up (fun _ => none) 0 (some 1000023)) 1 (some 1000024)) 2 (some 1000025)) 3 (some 1000026)) 4 (some 1000027)) 5 (some 1000028)) 6 (some 1000029)) 7 (some 1000030)))))), .inl (0, 64, .inl (fun _ => 0))], true, 2, 72)) rfl ?_
  refine go_nwa (N := 64) rfl rfl (by decide) rfl (Nat.le_of_ble_eq_true rfl) ?_
  refine go_put rfl rfl rfl (Nat.le_of_ble_eq_true rfl) rfl ?_
  refine go_n 2 (fr' := (79, [(0, .ref 49), (1, .int w), (2, .int g)], [.int 64, .ref 49], [c0, c1, c2, c3, c4, c5, c6, c7, c8, c9, c10, c11, c12, c13, c14, c15, c16, c17, c18, c19, c20, c21, c22, c23, c24, c25, c26, c27, c28, c29, c30, c31, c32, c33, c34, c35, c36, c37, c38, c39, c40, c41, c42, c43, c44, c45, c46, c47, c48, .inr (10, [.ref 50, .int 0, .int 0, .int 0, .int 0, .int 0, .int 0, .int 0, .int 0, .int (-1), .int 0, .ref 51, .ref 52, .null, .null, .null, .null, .null, .null, .null, .null, .null, .null, .null, .null, .null, .null, .null, .null, .null, .null, .null, .null, .null, .int 0, .int 0, .int 0, .int 0, .int 0, .int 0, .int 0, .int 0, .int 0, .int 0, .null, .null, .null, .null, .null, .null, .null, .null, .int 0, .null, .null, .null]), .inl (4, 8, .inr (.inr (.inr (.inr (va_up (va_up (va_up (va_up (va_up (va_up (va_up (va_up (fun _ => none) 0 (some 1000023)) 1 (some 1000024)) 2 (some 1000025)) 3 (some 1000026)) 4 (some 1000027)) 5 (some 1000028)) 6 (some 1000029)) 7 (some 1000030)))))), .inl (0, 64, .inl (fun _ => 0)), .inl (0, 64, .inl (fun _ => 0))], true, 3, 136)) rfl ?_
  refine go_nwa (N := 64) rfl rfl (by decide) rfl (Nat.le_of_ble_eq_true rfl) ?_
  refine go_put rfl rfl rfl (Nat.le_of_ble_eq_true rfl) rfl ?_
  refine go_n 2 (fr' := (87, [(0, .ref 49), (1, .int w), (2, .int g)], [.int 64, .ref 49], [c0, c1, c2, c3, c4, c5, c6, c7, c8, c9, c10, c11, c12, c13, c14, c15, c16, c17, c18, c19, c20, c21, c22, c23, c24, c25, c26, c27, c28, c29, c30, c31, c32, c33, c34, c35, c36, c37, c38, c39, c40, c41, c42, c43, c44, c45, c46, c47, c48, .inr (10, [.ref 50, .int 0, .int 0, .int 0, .int 0, .int 0, .int 0, .int 0, .int 0, .int (-1), .int 0, .ref 51, .ref 52, .ref 53, .null, .null, .null, .null, .null, .null, .null, .null, .null, .null, .null, .null, .null, .null, .null, .null, .null, .null, .null, .null, .int 0, .int 0, .int 0, .int 0, .int 0, .int 0, .int 0, .int 0, .int 0, .int 0, .null, .null, .null, .null, .null, .null, .null, .null, .int 0, .null, .null, .null]), .inl (4, 8, .inr (.inr (.inr (.inr (va_up (va_up (va_up (va_up (va_up (va_up (va_up (va_up (fun _ => none) 0 (some 1000023)) 1 (some 1000024)) 2 (some 1000025)) 3 (some 1000026)) 4 (some 1000027)) 5 (some 1000028)) 6 (some 1000029)) 7 (some 1000030)))))), .inl (0, 64, .inl (fun _ => 0)), .inl (0, 64, .inl (fun _ => 0)), .inl (0, 64, .inl (fun _ => 0))], true, 4, 200)) rfl ?_
  refine go_nwa (N := 64) rfl rfl (by decide) rfl (Nat.le_of_ble_eq_true rfl) ?_
  refine go_put rfl rfl rfl (Nat.le_of_ble_eq_true rfl) rfl ?_
  refine go_n 2 (fr' := (95, [(0, .ref 49), (1, .int w), (2, .int g)], [.int 64, .ref 49], [c0, c1, c2, c3, c4, c5, c6, c7, c8, c9, c10, c11, c12, c13, c14, c15, c16, c17, c18, c19, c20, c21, c22, c23, c24, c25, c26, c27, c28, c29, c30, c31, c32, c33, c34, c35, c36, c37, c38, c39, c40, c41, c42, c43, c44, c45, c46, c47, c48, .inr (10, [.ref 50, .int 0, .int 0, .int 0, .int 0, .int 0, .int 0, .int 0, .int 0, .int (-1), .int 0, .ref 51, .ref 52, .ref 53, .ref 54, .null, .null, .null, .null, .null, .null, .null, .null, .null, .null, .null, .null, .null, .null, .null, .null, .null, .null, .null, .int 0, .int 0, .int 0, .int 0, .int 0, .int 0, .int 0, .int 0, .int 0, .int 0, .null, .null, .null, .null, .null, .null, .null, .null, .int 0, .null, .null, .null]), .inl (4, 8, .inr (.inr (.inr (.inr (va_up (va_up (va_up (va_up (va_up (va_up (va_up (va_up (fun _ => none) 0 (some 1000023)) 1 (some 1000024)) 2 (some 1000025)) 3 (some 1000026)) 4 (some 1000027)) 5 (some 1000028)) 6 (some 1000029)) 7 (some 1000030)))))), .inl (0, 64, .inl (fun _ => 0)), .inl (0, 64, .inl (fun _ => 0)), .inl (0, 64, .inl (fun _ => 0)), .inl (0, 64, .inl (fun _ => 0))], true, 5, 264)) rfl ?_
  refine go_nwa (N := 64) rfl rfl (by decide) rfl (Nat.le_of_ble_eq_true rfl) ?_
  refine go_put rfl rfl rfl (Nat.le_of_ble_eq_true rfl) rfl ?_
  refine go_n 2 (fr' := (103, [(0, .ref 49), (1, .int w), (2, .int g)], [.int 64, .ref 49], [c0, c1, c2, c3, c4, c5, c6, c7, c8, c9, c10, c11, c12, c13, c14, c15, c16, c17, c18, c19, c20, c21, c22, c23, c24, c25, c26, c27, c28, c29, c30, c31, c32, c33, c34, c35, c36, c37, c38, c39, c40, c41, c42, c43, c44, c45, c46, c47, c48, .inr (10, [.ref 50, .int 0, .int 0, .int 0, .int 0, .int 0, .int 0, .int 0, .int 0, .int (-1), .int 0, .ref 51, .ref 52, .ref 53, .ref 54, .ref 55, .null, .null, .null, .null, .null, .null, .null, .null, .null, .null, .null, .null, .null, .null, .null, .null, .null, .null, .int 0, .int 0, .int 0, .int 0, .int 0, .int 0, .int 0, .int 0, .int 0, .int 0, .null, .null, .null, .null, .null, .null, .null, .null, .int 0, .null, .null, .null]), .inl (4, 8, .inr (.inr (.inr (.inr (va_up (va_up (va_up (va_up (va_up (va_up (va_up (va_up (fun _ => none) 0 (some 1000023)) 1 (some 1000024)) 2 (some 1000025)) 3 (some 1000026)) 4 (some 1000027)) 5 (some 1000028)) 6 (some 1000029)) 7 (some 1000030)))))), .inl (0, 64, .inl (fun _ => 0)), .inl (0, 64, .inl (fun _ => 0)), .inl (0, 64, .inl (fun _ => 0)), .inl (0, 64, .inl (fun _ => 0)), .inl (0, 64, .inl (fun _ => 0))], true, 6, 328)) rfl ?_
  refine go_nwa (N := 64) rfl rfl (by decide) rfl (Nat.le_of_ble_eq_true rfl) ?_
  refine go_put rfl rfl rfl (Nat.le_of_ble_eq_true rfl) rfl ?_
  refine go_n 2 (fr' := (111, [(0, .ref 49), (1, .int w), (2, .int g)], [.int 64, .ref 49], [c0, c1, c2, c3, c4, c5, c6, c7, c8, c9, c10, c11, c12, c13, c14, c15, c16, c17, c18, c19, c20, c21, c22, c23, c24, c25, c26, c27, c28, c29, c30, c31, c32, c33, c34, c35, c36, c37, c38, c39, c40, c41, c42, c43, c44, c45, c46, c47, c48, .inr (10, [.ref 50, .int 0, .int 0, .int 0, .int 0, .int 0, .int 0, .int 0, .int 0, .int (-1), .int 0, .ref 51, .ref 52, .ref 53, .ref 54, .ref 55, .ref 56, .null, .null, .null, .null, .null, .null, .null, .null, .null, .null, .null, .null, .null, .null, .null, .null, .null, .int 0, .int 0, .int 0, .int 0, .int 0, .int 0, .int 0, .int 0, .int 0, .int 0, .null, .null, .null, .null, .null, .null, .null, .null, .int 0, .null, .null, .null]), .inl (4, 8, .inr (.inr (.inr (.inr (va_up (va_up (va_up (va_up (va_up (va_up (va_up (va_up (fun _ => none) 0 (some 1000023)) 1 (some 1000024)) 2 (some 1000025)) 3 (some 1000026)) 4 (some 1000027)) 5 (some 1000028)) 6 (some 1000029)) 7 (some 1000030)))))), .inl (0, 64, .inl (fun _ => 0)), .inl (0, 64, .inl (fun _ => 0)), .inl (0, 64, .inl (fun _ => 0)), .inl (0, 64, .inl (fun _ => 0)), .inl (0, 64, .inl (fun _ => 0)), .inl (0, 64, .inl (fun _ => 0))], true, 7, 392)) rfl ?_
  refine go_nwa (N := 64) rfl rfl (by decide) rfl (Nat.le_of_ble_eq_true rfl) ?_
  refine go_put rfl rfl rfl (Nat.le_of_ble_eq_true rfl) rfl ?_
  refine go_n 2 (fr' := (119, [(0, .ref 49), (1, .int w), (2, .int g)], [.int 64, .ref 49], [c0, c1, c2, c3, c4, c5, c6, c7, c8, c9, c10, c11, c12, c13, c14, c15, c16, c17, c18, c19, c20, c21, c22, c23, c24, c25, c26, c27, c28, c29, c30, c31, c32, c33, c34, c35, c36, c37, c38, c39, c40, c41, c42, c43, c44, c45, c46, c47, c48, .inr (10, [.ref 50, .int 0, .int 0, .int 0, .int 0, .int 0, .int 0, .int 0, .int 0, .int (-1), .int 0, .ref 51, .ref 52, .ref 53, .ref 54, .ref 55, .ref 56, .ref 57, .null, .null, .null, .null, .null, .null, .null, .null, .null, .null, .null, .null, .null, .null, .null, .null, .int 0, .int 0, .int 0, .int 0, .int 0, .int 0, .int 0, .int 0, .int 0, .int 0, .null, .null, .null, .null, .null, .null, .null, .null, .int 0, .null, .null, .null]), .inl (4, 8, .inr (.inr (.inr (.inr (va_up (va_up (va_up (va_up (va_up (va_up (va_up (va_up (fun _ => none) 0 (some 1000023)) 1 (some 1000024)) 2 (some 1000025)) 3 (some 1000026)) 4 (some 1000027)) 5 (some 1000028)) 6 (some 1000029)) 7 (some 1000030)))))), .inl (0, 64, .inl (fun _ => 0)), .inl (0, 64, .inl (fun _ => 0)), .inl (0, 64, .inl (fun _ => 0)), .inl (0, 64, .inl (fun _ => 0)), .inl (0, 64, .inl (fun _ => 0)), .inl (0, 64, .inl (fun _ => 0)), .inl (0, 64, .inl (fun _ => 0))], true, 8, 456)) rfl ?_
  refine go_nwa (N := 64) rfl rfl (by decide) rfl (Nat.le_of_ble_eq_true rfl) ?_
  refine go_put rfl rfl rfl (Nat.le_of_ble_eq_true rfl) rfl ?_
  refine go_n 2 (fr' := (127, [(0, .ref 49), (1, .int w), (2, .int g)], [.int 8, .ref 49], [c0, c1, c2, c3, c4, c5, c6, c7, c8, c9, c10, c11, c12, c13, c14, c15, c16, c17, c18, c19, c20, c21, c22, c23, c24, c25, c26, c27, c28, c29, c30, c31, c32, c33, c34, c35, c36, c37, c38, c39, c40, c41, c42, c43, c44, c45, c46, c47, c48, .inr (10, [.ref 50, .int 0, .int 0, .int 0, .int 0, .int 0, .int 0, .int 0, .int 0, .int (-1), .int 0, .ref 51, .ref 52, .ref 53, .ref 54, .ref 55, .ref 56, .ref 57, .ref 58, .null, .null, .null, .null, .null, .null, .null, .null, .null, .null, .null, .null, .null, .null, .null, .int 0, .int 0, .int 0, .int 0, .int 0, .int 0, .int 0, .int 0, .int 0, .int 0, .null, .null, .null, .null, .null, .null, .null, .null, .int 0, .null, .null, .null]), .inl (4, 8, .inr (.inr (.inr (.inr (va_up (va_up (va_up (va_up (va_up (va_up (va_up (va_up (fun _ => none) 0 (some 1000023)) 1 (some 1000024)) 2 (some 1000025)) 3 (some 1000026)) 4 (some 1000027)) 5 (some 1000028)) 6 (some 1000029)) 7 (some 1000030)))))), .inl (0, 64, .inl (fun _ => 0)), .inl (0, 64, .inl (fun _ => 0)), .inl (0, 64, .inl (fun _ => 0)), .inl (0, 64, .inl (fun _ => 0)), .inl (0, 64, .inl (fun _ => 0)), .inl (0, 64, .inl (fun _ => 0)), .inl (0, 64, .inl (fun _ => 0)), .inl (1, 64, .inl (fun _ => 0))], true, 9, 520)) rfl ?_
  refine go_nwa (N := 8) rfl rfl (by decide) rfl (Nat.le_of_ble_eq_true rfl) ?_
  refine go_put rfl rfl rfl (Nat.le_of_ble_eq_true rfl) rfl ?_
  refine go_n 2 (fr' := (135, [(0, .ref 49), (1, .int w), (2, .int g)], [.int 8, .ref 49], [c0, c1, c2, c3, c4, c5, c6, c7, c8, c9, c10, c11, c12, c13, c14, c15, c16, c17, c18, c19, c20, c21, c22, c23, c24, c25, c26, c27, c28, c29, c30, c31, c32, c33, c34, c35, c36, c37, c38, c39, c40, c41, c42, c43, c44, c45, c46, c47, c48, .inr (10, [.ref 50, .int 0, .int 0, .int 0, .int 0, .int 0, .int 0, .int 0, .int 0, .int (-1), .int 0, .ref 51, .ref 52, .ref 53, .ref 54, .ref 55, .ref 56, .ref 57, .ref 58, .ref 59, .null, .null, .null, .null, .null, .null, .null, .null, .null, .null, .null, .null, .null, .null, .int 0, .int 0, .int 0, .int 0, .int 0, .int 0, .int 0, .int 0, .int 0, .int 0, .null, .null, .null, .null, .null, .null, .null, .null, .int 0, .null, .null, .null]), .inl (4, 8, .inr (.inr (.inr (.inr (va_up (va_up (va_up (va_up (va_up (va_up (va_up (va_up (fun _ => none) 0 (some 1000023)) 1 (some 1000024)) 2 (some 1000025)) 3 (some 1000026)) 4 (some 1000027)) 5 (some 1000028)) 6 (some 1000029)) 7 (some 1000030)))))), .inl (0, 64, .inl (fun _ => 0)), .inl (0, 64, .inl (fun _ => 0)), .inl (0, 64, .inl (fun _ => 0)), .inl (0, 64, .inl (fun _ => 0)), .inl (0, 64, .inl (fun _ => 0)), .inl (0, 64, .inl (fun _ => 0)), .inl (0, 64, .inl (fun _ => 0)), .inl (1, 64, .inl (fun _ => 0)), .inl (0, 8, .inl (fun _ => 0))], true, 10, 528)) rfl ?_
  refine go_nwa (N := 8) rfl rfl (by decide) rfl (Nat.le_of_ble_eq_true rfl) ?_
  refine go_put rfl rfl rfl (Nat.le_of_ble_eq_true rfl) rfl ?_
  refine go_n 2 (fr' := (143, [(0, .ref 49), (1, .int w), (2, .int g)], [.int 8, .ref 49], [c0, c1, c2, c3, c4, c5, c6, c7, c8, c9, c10, c11, c12, c13, c14, c15, c16, c17, c18, c19, c20, c21, c22, c23, c24, c25, c26, c27, c28, c29, c30, c31, c32, c33, c34, c35, c36, c37, c38, c39, c40, c41, c42, c43, c44, c45, c46, c47, c48, .inr (10, [.ref 50, .int 0, .int 0, .int 0, .int 0, .int 0, .int 0, .int 0, .int 0, .int (-1), .int 0, .ref 51, .ref 52, .ref 53, .ref 54, .ref 55, .ref 56, .ref 57, .ref 58, .ref 59, .ref 60, .null, .null, .null, .null, .null, .null, .null, .null, .null, .null, .null, .null, .null, .int 0, .int 0, .int 0, .int 0, .int 0, .int 0, .int 0, .int 0, .int 0, .int 0, .null, .null, .null, .null, .null, .null, .null, .null, .int 0, .null, .null, .null]), .inl (4, 8, .inr (.inr (.inr (.inr (va_up (va_up (va_up (va_up (va_up (va_up (va_up (va_up (fun _ => none) 0 (some 1000023)) 1 (some 1000024)) 2 (some 1000025)) 3 (some 1000026)) 4 (some 1000027)) 5 (some 1000028)) 6 (some 1000029)) 7 (some 1000030)))))), .inl (0, 64, .inl (fun _ => 0)), .inl (0, 64, .inl (fun _ => 0)), .inl (0, 64, .inl (fun _ => 0)), .inl (0, 64, .inl (fun _ => 0)), .inl (0, 64, .inl (fun _ => 0)), .inl (0, 64, .inl (fun _ => 0)), .inl (0, 64, .inl (fun _ => 0)), .inl (1, 64, .inl (fun _ => 0)), .inl (0, 8, .inl (fun _ => 0)), .inl (0, 8, .inl (fun _ => 0))], true, 11, 536)) rfl ?_
  refine go_nwa (N := 8) rfl rfl (by decide) rfl (Nat.le_of_ble_eq_true rfl) ?_
  refine go_put rfl rfl rfl (Nat.le_of_ble_eq_true rfl) rfl ?_
  refine go_n 2 (fr' := (151, [(0, .ref 49), (1, .int w), (2, .int g)], [.int 8, .ref 49], [c0, c1, c2, c3, c4, c5, c6, c7, c8, c9, c10, c11, c12, c13, c14, c15, c16, c17, c18, c19, c20, c21, c22, c23, c24, c25, c26, c27, c28, c29, c30, c31, c32, c33, c34, c35, c36, c37, c38, c39, c40, c41, c42, c43, c44, c45, c46, c47, c48, .inr (10, [.ref 50, .int 0, .int 0, .int 0, .int 0, .int 0, .int 0, .int 0, .int 0, .int (-1), .int 0, .ref 51, .ref 52, .ref 53, .ref 54, .ref 55, .ref 56, .ref 57, .ref 58, .ref 59, .ref 60, .ref 61, .null, .null, .null, .null, .null, .null, .null, .null, .null, .null, .null, .null, .int 0, .int 0, .int 0, .int 0, .int 0, .int 0, .int 0, .int 0, .int 0, .int 0, .null, .null, .null, .null, .null, .null, .null, .null, .int 0, .null, .null, .null]), .inl (4, 8, .inr (.inr (.inr (.inr (va_up (va_up (va_up (va_up (va_up (va_up (va_up (va_up (fun _ => none) 0 (some 1000023)) 1 (some 1000024)) 2 (some 1000025)) 3 (some 1000026)) 4 (some 1000027)) 5 (some 1000028)) 6 (some 1000029)) 7 (some 1000030)))))), .inl (0, 64, .inl (fun _ => 0)), .inl (0, 64, .inl (fun _ => 0)), .inl (0, 64, .inl (fun _ => 0)), .inl (0, 64, .inl (fun _ => 0)), .inl (0, 64, .inl (fun _ => 0)), .inl (0, 64, .inl (fun _ => 0)), .inl (0, 64, .inl (fun _ => 0)), .inl (1, 64, .inl (fun _ => 0)), .inl (0, 8, .inl (fun _ => 0)), .inl (0, 8, .inl (fun _ => 0)), .inl (0, 8, .inl (fun _ => 0))], true, 12, 544)) rfl ?_
  refine go_nwa (N := 8) rfl rfl (by decide) rfl (Nat.le_of_ble_eq_true rfl) ?_
  refine go_put rfl rfl rfl (Nat.le_of_ble_eq_true rfl) rfl ?_
  refine go_n 2 (fr' := (159, [(0, .ref 49), (1, .int w), (2, .int g)], [.int 8, .ref 49], [c0, c1, c2, c3, c4, c5, c6, c7, c8, c9, c10, c11, c12, c13, c14, c15, c16, c17, c18, c19, c20, c21, c22, c23, c24, c25, c26, c27, c28, c29, c30, c31, c32, c33, c34, c35, c36, c37, c38, c39, c40, c41, c42, c43, c44, c45, c46, c47, c48, .inr (10, [.ref 50, .int 0, .int 0, .int 0, .int 0, .int 0, .int 0, .int 0, .int 0, .int (-1), .int 0, .ref 51, .ref 52, .ref 53, .ref 54, .ref 55, .ref 56, .ref 57, .ref 58, .ref 59, .ref 60, .ref 61, .ref 62, .null, .null, .null, .null, .null, .null, .null, .null, .null, .null, .null, .int 0, .int 0, .int 0, .int 0, .int 0, .int 0, .int 0, .int 0, .int 0, .int 0, .null, .null, .null, .null, .null, .null, .null, .null, .int 0, .null, .null, .null]), .inl (4, 8, .inr (.inr (.inr (.inr (va_up (va_up (va_up (va_up (va_up (va_up (va_up (va_up (fun _ => none) 0 (some 1000023)) 1 (some 1000024)) 2 (some 1000025)) 3 (some 1000026)) 4 (some 1000027)) 5 (some 1000028)) 6 (some 1000029)) 7 (some 1000030)))))), .inl (0, 64, .inl (fun _ => 0)), .inl (0, 64, .inl (fun _ => 0)), .inl (0, 64, .inl (fun _ => 0)), .inl (0, 64, .inl (fun _ => 0)), .inl (0, 64, .inl (fun _ => 0)), .inl (0, 64, .inl (fun _ => 0)), .inl (0, 64, .inl (fun _ => 0)), .inl (1, 64, .inl (fun _ => 0)), .inl (0, 8, .inl (fun _ => 0)), .inl (0, 8, .inl (fun _ => 0)), .inl (0, 8, .inl (fun _ => 0)), .inl (0, 8, .inl (fun _ => 0))], true, 13, 552)) rfl ?_
  refine go_nwa (N := 8) rfl rfl (by decide) rfl (Nat.le_of_ble_eq_true rfl) ?_
  refine go_put rfl rfl rfl (Nat.le_of_ble_eq_true rfl) rfl ?_
  refine go_n 2 (fr' := (167, [(0, .ref 49), (1, .int w), (2, .int g)], [.int 8, .ref 49], [c0, c1, c2, c3, c4, c5, c6, c7, c8, c9, c10, c11, c12, c13, c14, c15, c16, c17, c18, c19, c20, c21, c22, c23, c24, c25, c26, c27, c28, c29, c30, c31, c32, c33, c34, c35, c36, c37, c38, c39, c40, c41, c42, c43, c44, c45, c46, c47, c48, .inr (10, [.ref 50, .int 0, .int 0, .int 0, .int 0, .int 0, .int 0, .int 0, .int 0, .int (-1), .int 0, .ref 51, .ref 52, .ref 53, .ref 54, .ref 55, .ref 56, .ref 57, .ref 58, .ref 59, .ref 60, .ref 61, .ref 62, .ref 63, .null, .null, .null, .null, .null, .null, .null, .null, .null, .null, .int 0, .int 0, .int 0, .int 0, .int 0, .int 0, .int 0, .int 0, .int 0, .int 0, .null, .null, .null, .null, .null, .null, .null, .null, .int 0, .null, .null, .null]), .inl (4, 8, .inr (.inr (.inr (.inr (va_up (va_up (va_up (va_up (va_up (va_up (va_up (va_up (fun _ => none) 0 (some 1000023)) 1 (some 1000024)) 2 (some 1000025)) 3 (some 1000026)) 4 (some 1000027)) 5 (some 1000028)) 6 (some 1000029)) 7 (some 1000030)))))), .inl (0, 64, .inl (fun _ => 0)), .inl (0, 64, .inl (fun _ => 0)), .inl (0, 64, .inl (fun _ => 0)), .inl (0, 64, .inl (fun _ => 0)), .inl (0, 64, .inl (fun _ => 0)), .inl (0, 64, .inl (fun _ => 0)), .inl (0, 64, .inl (fun _ => 0)), .inl (1, 64, .inl (fun _ => 0)), .inl (0, 8, .inl (fun _ => 0)), .inl (0, 8, .inl (fun _ => 0)), .inl (0, 8, .inl (fun _ => 0)), .inl (0, 8, .inl (fun _ => 0)), .inl (0, 8, .inl (fun _ => 0))], true, 14, 560)) rfl ?_
  refine go_nwa (N := 8) rfl rfl (by decide) rfl (Nat.le_of_ble_eq_true rfl) ?_
  refine go_put rfl rfl rfl (Nat.le_of_ble_eq_true rfl) rfl ?_
  refine go_n 2 (fr' := (175, [(0, .ref 49), (1, .int w), (2, .int g)], [.int 8, .ref 49], [c0, c1, c2, c3, c4, c5, c6, c7, c8, c9, c10, c11, c12, c13, c14, c15, c16, c17, c18, c19, c20, c21, c22, c23, c24, c25, c26, c27, c28, c29, c30, c31, c32, c33, c34, c35, c36, c37, c38, c39, c40, c41, c42, c43, c44, c45, c46, c47, c48, .inr (10, [.ref 50, .int 0, .int 0, .int 0, .int 0, .int 0, .int 0, .int 0, .int 0, .int (-1), .int 0, .ref 51, .ref 52, .ref 53, .ref 54, .ref 55, .ref 56, .ref 57, .ref 58, .ref 59, .ref 60, .ref 61, .ref 62, .ref 63, .ref 64, .null, .null, .null, .null, .null, .null, .null, .null, .null, .int 0, .int 0, .int 0, .int 0, .int 0, .int 0, .int 0, .int 0, .int 0, .int 0, .null, .null, .null, .null, .null, .null, .null, .null, .int 0, .null, .null, .null]), .inl (4, 8, .inr (.inr (.inr (.inr (va_up (va_up (va_up (va_up (va_up (va_up (va_up (va_up (fun _ => none) 0 (some 1000023)) 1 (some 1000024)) 2 (some 1000025)) 3 (some 1000026)) 4 (some 1000027)) 5 (some 1000028)) 6 (some 1000029)) 7 (some 1000030)))))), .inl (0, 64, .inl (fun _ => 0)), .inl (0, 64, .inl (fun _ => 0)), .inl (0, 64, .inl (fun _ => 0)), .inl (0, 64, .inl (fun _ => 0)), .inl (0, 64, .inl (fun _ => 0)), .inl (0, 64, .inl (fun _ => 0)), .inl (0, 64, .inl (fun _ => 0)), .inl (1, 64, .inl (fun _ => 0)), .inl (0, 8, .inl (fun _ => 0)), .inl (0, 8, .inl (fun _ => 0)), .inl (0, 8, .inl (fun _ => 0)), .inl (0, 8, .inl (fun _ => 0)), .inl (0, 8, .inl (fun _ => 0)), .inl (0, 8, .inl (fun _ => 0))], true, 15, 568)) rfl ?_
  refine go_nwa (N := 8) rfl rfl (by decide) rfl (Nat.le_of_ble_eq_true rfl) ?_
  refine go_put rfl rfl rfl (Nat.le_of_ble_eq_true rfl) rfl ?_
  refine go_n 2 (fr' := (183, [(0, .ref 49), (1, .int w), (2, .int g)], [.int 8, .ref 49], [c0, c1, c2, c3, c4, c5, c6, c7, c8, c9, c10, c11, c12, c13, c14, c15, c16, c17, c18, c19, c20, c21, c22, c23, c24, c25, c26, c27, c28, c29, c30, c31, c32, c33, c34, c35, c36, c37, c38, c39, c40, c41, c42, c43, c44, c45, c46, c47, c48, .inr (10, [.ref 50, .int 0, .int 0, .int 0, .int 0, .int 0, .int 0, .int 0, .int 0, .int (-1), .int 0, .ref 51, .ref 52, .ref 53, .ref 54, .ref 55, .ref 56, .ref 57, .ref 58, .ref 59, .ref 60, .ref 61, .ref 62, .ref 63, .ref 64, .ref 65, .null, .null, .null, .null, .null, .null, .null, .null, .int 0, .int 0, .int 0, .int 0, .int 0, .int 0, .int 0, .int 0, .int 0, .int 0, .null, .null, .null, .null, .null, .null, .null, .null, .int 0, .null, .null, .null]), .inl (4, 8, .inr (.inr (.inr (.inr (va_up (va_up (va_up (va_up (va_up (va_up (va_up (va_up (fun _ => none) 0 (some 1000023)) 1 (some 1000024)) 2 (some 1000025)) 3 (some 1000026)) 4 (some 1000027)) 5 (some 1000028)) 6 (some 1000029)) 7 (some 1000030)))))), .inl (0, 64, .inl (fun _ => 0)), .inl (0, 64, .inl (fun _ => 0)), .inl (0, 64, .inl (fun _ => 0)), .inl (0, 64, .inl (fun _ => 0)), .inl (0, 64, .inl (fun _ => 0)), .inl (0, 64, .inl (fun _ => 0)), .inl (0, 64, .inl (fun _ => 0)), .inl (1, 64, .inl (fun _ => 0)), .inl (0, 8, .inl (fun _ => 0)), .inl (0, 8, .inl (fun _ => 0)), .inl (0, 8, .inl (fun _ => 0)), .inl (0, 8, .inl (fun _ => 0)), .inl (0, 8, .inl (fun _ => 0)), .inl (0, 8, .inl (fun _ => 0)), .inl (0, 8, .inl (fun _ => 0))], true, 16, 576)) rfl ?_
  refine go_nwa (N := 8) rfl rfl (by decide) rfl (Nat.le_of_ble_eq_true rfl) ?_
  refine go_put rfl rfl rfl (Nat.le_of_ble_eq_true rfl) rfl ?_
  refine go_n 2 (fr' := (192, [(0, .ref 49), (1, .int w), (2, .int g)], [.int 400, .ref 49], [c0, c1, c2, c3, c4, c5, c6, c7, c8, c9, c10, c11, c12, c13, c14, c15, c16, c17, c18, c19, c20, c21, c22, c23, c24, c25, c26, c27, c28, c29, c30, c31, c32, c33, c34, c35, c36, c37, c38, c39, c40, c41, c42, c43, c44, c45, c46, c47, c48, .inr (10, [.ref 50, .int 0, .int 0, .int 0, .int 0, .int 0, .int 0, .int 0, .int 0, .int (-1), .int 0, .ref 51, .ref 52, .ref 53, .ref 54, .ref 55, .ref 56, .ref 57, .ref 58, .ref 59, .ref 60, .ref 61, .ref 62, .ref 63, .ref 64, .ref 65, .ref 66, .null, .null, .null, .null, .null, .null, .null, .int 0, .int 0, .int 0, .int 0, .int 0, .int 0, .int 0, .int 0, .int 0, .int 0, .null, .null, .null, .null, .null, .null, .null, .null, .int 0, .null, .null, .null]), .inl (4, 8, .inr (.inr (.inr (.inr (va_up (va_up (va_up (va_up (va_up (va_up (va_up (va_up (fun _ => none) 0 (some 1000023)) 1 (some 1000024)) 2 (some 1000025)) 3 (some 1000026)) 4 (some 1000027)) 5 (some 1000028)) 6 (some 1000029)) 7 (some 1000030)))))), .inl (0, 64, .inl (fun _ => 0)), .inl (0, 64, .inl (fun _ => 0)), .inl (0, 64, .inl (fun _ => 0)), .inl (0, 64, .inl (fun _ => 0)), .inl (0, 64, .inl (fun _ => 0)), .inl (0, 64, .inl (fun _ => 0)), .inl (0, 64, .inl (fun _ => 0)), .inl (1, 64, .inl (fun _ => 0)), .inl (0, 8, .inl (fun _ => 0)), .inl (0, 8, .inl (fun _ => 0)), .inl (0, 8, .inl (fun _ => 0)), .inl (0, 8, .inl (fun _ => 0)), .inl (0, 8, .inl (fun _ => 0)), .inl (0, 8, .inl (fun _ => 0)), .inl (0, 8, .inl (fun _ => 0)), .inl (1, 8, .inl (fun _ => 0))], true, 17, 584)) rfl ?_
  refine go_nwa (N := 400) rfl rfl (by decide) rfl (Nat.le_of_ble_eq_true rfl) ?_
  refine go_put rfl rfl rfl (Nat.le_of_ble_eq_true rfl) rfl ?_
  refine go_n 2 (fr' := (200, [(0, .ref 49), (1, .int w), (2, .int g)], [.int 6, .ref 49], [c0, c1, c2, c3, c4, c5, c6, c7, c8, c9, c10, c11, c12, c13, c14, c15, c16, c17, c18, c19, c20, c21, c22, c23, c24, c25, c26, c27, c28, c29, c30, c31, c32, c33, c34, c35, c36, c37, c38, c39, c40, c41, c42, c43, c44, c45, c46, c47, c48, .inr (10, [.ref 50, .int 0, .int 0, .int 0, .int 0, .int 0, .int 0, .int 0, .int 0, .int (-1), .int 0, .ref 51, .ref 52, .ref 53, .ref 54, .ref 55, .ref 56, .ref 57, .ref 58, .ref 59, .ref 60, .ref 61, .ref 62, .ref 63, .ref 64, .ref 65, .ref 66, .ref 67, .null, .null, .null, .null, .null, .null, .int 0, .int 0, .int 0, .int 0, .int 0, .int 0, .int 0, .int 0, .int 0, .int 0, .null, .null, .null, .null, .null, .null, .null, .null, .int 0, .null, .null, .null]), .inl (4, 8, .inr (.inr (.inr (.inr (va_up (va_up (va_up (va_up (va_up (va_up (va_up (va_up (fun _ => none) 0 (some 1000023)) 1 (some 1000024)) 2 (some 1000025)) 3 (some 1000026)) 4 (some 1000027)) 5 (some 1000028)) 6 (some 1000029)) 7 (some 1000030)))))), .inl (0, 64, .inl (fun _ => 0)), .inl (0, 64, .inl (fun _ => 0)), .inl (0, 64, .inl (fun _ => 0)), .inl (0, 64, .inl (fun _ => 0)), .inl (0, 64, .inl (fun _ => 0)), .inl (0, 64, .inl (fun _ => 0)), .inl (0, 64, .inl (fun _ => 0)), .inl (1, 64, .inl (fun _ => 0)), .inl (0, 8, .inl (fun _ => 0)), .inl (0, 8, .inl (fun _ => 0)), .inl (0, 8, .inl (fun _ => 0)), .inl (0, 8, .inl (fun _ => 0)), .inl (0, 8, .inl (fun _ => 0)), .inl (0, 8, .inl (fun _ => 0)), .inl (0, 8, .inl (fun _ => 0)), .inl (1, 8, .inl (fun _ => 0)), .inl (0, 400, .inl (fun _ => 0))], true, 18, 984)) rfl ?_
  refine go_nwa (N := 6) rfl rfl (by decide) rfl (Nat.le_of_ble_eq_true rfl) ?_
  refine go_put rfl rfl rfl (Nat.le_of_ble_eq_true rfl) rfl ?_
  refine go_n 2 (fr' := (208, [(0, .ref 49), (1, .int w), (2, .int g)], [.int 6, .ref 49], [c0, c1, c2, c3, c4, c5, c6, c7, c8, c9, c10, c11, c12, c13, c14, c15, c16, c17, c18, c19, c20, c21, c22, c23, c24, c25, c26, c27, c28, c29, c30, c31, c32, c33, c34, c35, c36, c37, c38, c39, c40, c41, c42, c43, c44, c45, c46, c47, c48, .inr (10, [.ref 50, .int 0, .int 0, .int 0, .int 0, .int 0, .int 0, .int 0, .int 0, .int (-1), .int 0, .ref 51, .ref 52, .ref 53, .ref 54, .ref 55, .ref 56, .ref 57, .ref 58, .ref 59, .ref 60, .ref 61, .ref 62, .ref 63, .ref 64, .ref 65, .ref 66, .ref 67, .ref 68, .null, .null, .null, .null, .null, .int 0, .int 0, .int 0, .int 0, .int 0, .int 0, .int 0, .int 0, .int 0, .int 0, .null, .null, .null, .null, .null, .null, .null, .null, .int 0, .null, .null, .null]), .inl (4, 8, .inr (.inr (.inr (.inr (va_up (va_up (va_up (va_up (va_up (va_up (va_up (va_up (fun _ => none) 0 (some 1000023)) 1 (some 1000024)) 2 (some 1000025)) 3 (some 1000026)) 4 (some 1000027)) 5 (some 1000028)) 6 (some 1000029)) 7 (some 1000030)))))), .inl (0, 64, .inl (fun _ => 0)), .inl (0, 64, .inl (fun _ => 0)), .inl (0, 64, .inl (fun _ => 0)), .inl (0, 64, .inl (fun _ => 0)), .inl (0, 64, .inl (fun _ => 0)), .inl (0, 64, .inl (fun _ => 0)), .inl (0, 64, .inl (fun _ => 0)), .inl (1, 64, .inl (fun _ => 0)), .inl (0, 8, .inl (fun _ => 0)), .inl (0, 8, .inl (fun _ => 0)), .inl (0, 8, .inl (fun _ => 0)), .inl (0, 8, .inl (fun _ => 0)), .inl (0, 8, .inl (fun _ => 0)), .inl (0, 8, .inl (fun _ => 0)), .inl (0, 8, .inl (fun _ => 0)), .inl (1, 8, .inl (fun _ => 0)), .inl (0, 400, .inl (fun _ => 0)), .inl (0, 6, .inl (fun _ => 0))], true, 19, 990)) rfl ?_
  refine go_nwa (N := 6) rfl rfl (by decide) rfl (Nat.le_of_ble_eq_true rfl) ?_
  refine go_put rfl rfl rfl (Nat.le_of_ble_eq_true rfl) rfl ?_
  refine go_n 2 (fr' := (216, [(0, .ref 49), (1, .int w), (2, .int g)], [.int 78, .ref 49], [c0, c1, c2, c3, c4, c5, c6, c7, c8, c9, c10, c11, c12, c13, c14, c15, c16, c17, c18, c19, c20, c21, c22, c23, c24, c25, c26, c27, c28, c29, c30, c31, c32, c33, c34, c35, c36, c37, c38, c39, c40, c41, c42, c43, c44, c45, c46, c47, c48, .inr (10, [.ref 50, .int 0, .int 0, .int 0, .int 0, .int 0, .int 0, .int 0, .int 0, .int (-1), .int 0, .ref 51, .ref 52, .ref 53, .ref 54, .ref 55, .ref 56, .ref 57, .ref 58, .ref 59, .ref 60, .ref 61, .ref 62, .ref 63, .ref 64, .ref 65, .ref 66, .ref 67, .ref 68, .ref 69, .null, .null, .null, .null, .int 0, .int 0, .int 0, .int 0, .int 0, .int 0, .int 0, .int 0, .int 0, .int 0, .null, .null, .null, .null, .null, .null, .null, .null, .int 0, .null, .null, .null]), .inl (4, 8, .inr (.inr (.inr (.inr (va_up (va_up (va_up (va_up (va_up (va_up (va_up (va_up (fun _ => none) 0 (some 1000023)) 1 (some 1000024)) 2 (some 1000025)) 3 (some 1000026)) 4 (some 1000027)) 5 (some 1000028)) 6 (some 1000029)) 7 (some 1000030)))))), .inl (0, 64, .inl (fun _ => 0)), .inl (0, 64, .inl (fun _ => 0)), .inl (0, 64, .inl (fun _ => 0)), .inl (0, 64, .inl (fun _ => 0)), .inl (0, 64, .inl (fun _ => 0)), .inl (0, 64, .inl (fun _ => 0)), .inl (0, 64, .inl (fun _ => 0)), .inl (1, 64, .inl (fun _ => 0)), .inl (0, 8, .inl (fun _ => 0)), .inl (0, 8, .inl (fun _ => 0)), .inl (0, 8, .inl (fun _ => 0)), .inl (0, 8, .inl (fun _ => 0)), .inl (0, 8, .inl (fun _ => 0)), .inl (0, 8, .inl (fun _ => 0)), .inl (0, 8, .inl (fun _ => 0)), .inl (1, 8, .inl (fun _ => 0)), .inl (0, 400, .inl (fun _ => 0)), .inl (0, 6, .inl (fun _ => 0)), .inl (0, 6, .inl (fun _ => 0))], true, 20, 996)) rfl ?_
  refine go_nwa (N := 78) rfl rfl (by decide) rfl (Nat.le_of_ble_eq_true rfl) ?_
  refine go_put rfl rfl rfl (Nat.le_of_ble_eq_true rfl) rfl ?_
  refine go_n 2 (fr' := (225, [(0, .ref 49), (1, .int w), (2, .int g)], [.int 4200, .ref 49], [c0, c1, c2, c3, c4, c5, c6, c7, c8, c9, c10, c11, c12, c13, c14, c15, c16, c17, c18, c19, c20, c21, c22, c23, c24, c25, c26, c27, c28, c29, c30, c31, c32, c33, c34, c35, c36, c37, c38, c39, c40, c41, c42, c43, c44, c45, c46, c47, c48, .inr (10, [.ref 50, .int 0, .int 0, .int 0, .int 0, .int 0, .int 0, .int 0, .int 0, .int (-1), .int 0, .ref 51, .ref 52, .ref 53, .ref 54, .ref 55, .ref 56, .ref 57, .ref 58, .ref 59, .ref 60, .ref 61, .ref 62, .ref 63, .ref 64, .ref 65, .ref 66, .ref 67, .ref 68, .ref 69, .ref 70, .null, .null, .null, .int 0, .int 0, .int 0, .int 0, .int 0, .int 0, .int 0, .int 0, .int 0, .int 0, .null, .null, .null, .null, .null, .null, .null, .null, .int 0, .null, .null, .null]), .inl (4, 8, .inr (.inr (.inr (.inr (va_up (va_up (va_up (va_up (va_up (va_up (va_up (va_up (fun _ => none) 0 (some 1000023)) 1 (some 1000024)) 2 (some 1000025)) 3 (some 1000026)) 4 (some 1000027)) 5 (some 1000028)) 6 (some 1000029)) 7 (some 1000030)))))), .inl (0, 64, .inl (fun _ => 0)), .inl (0, 64, .inl (fun _ => 0)), .inl (0, 64, .inl (fun _ => 0)), .inl (0, 64, .inl (fun _ => 0)), .inl (0, 64, .inl (fun _ => 0)), .inl (0, 64, .inl (fun _ => 0)), .inl (0, 64, .inl (fun _ => 0)), .inl (1, 64, .inl (fun _ => 0)), .inl (0, 8, .inl (fun _ => 0)), .inl (0, 8, .inl (fun _ => 0)), .inl (0, 8, .inl (fun _ => 0)), .inl (0, 8, .inl (fun _ => 0)), .inl (0, 8, .inl (fun _ => 0)), .inl (0, 8, .inl (fun _ => 0)), .inl (0, 8, .inl (fun _ => 0)), .inl (1, 8, .inl (fun _ => 0)), .inl (0, 400, .inl (fun _ => 0)), .inl (0, 6, .inl (fun _ => 0)), .inl (0, 6, .inl (fun _ => 0)), .inl (0, 78, .inl (fun _ => 0))], true, 21, 1074)) rfl ?_
  refine go_nwa (N := 4200) rfl rfl (by decide) rfl (Nat.le_of_ble_eq_true rfl) ?_
  refine go_put rfl rfl rfl (Nat.le_of_ble_eq_true rfl) rfl ?_
  refine go_n 2 (fr' := (234, [(0, .ref 49), (1, .int w), (2, .int g)], [.int 150, .ref 49], [c0, c1, c2, c3, c4, c5, c6, c7, c8, c9, c10, c11, c12, c13, c14, c15, c16, c17, c18, c19, c20, c21, c22, c23, c24, c25, c26, c27, c28, c29, c30, c31, c32, c33, c34, c35, c36, c37, c38, c39, c40, c41, c42, c43, c44, c45, c46, c47, c48, .inr (10, [.ref 50, .int 0, .int 0, .int 0, .int 0, .int 0, .int 0, .int 0, .int 0, .int (-1), .int 0, .ref 51, .ref 52, .ref 53, .ref 54, .ref 55, .ref 56, .ref 57, .ref 58, .ref 59, .ref 60, .ref 61, .ref 62, .ref 63, .ref 64, .ref 65, .ref 66, .ref 67, .ref 68, .ref 69, .ref 70, .ref 71, .null, .null, .int 0, .int 0, .int 0, .int 0, .int 0, .int 0, .int 0, .int 0, .int 0, .int 0, .null, .null, .null, .null, .null, .null, .null, .null, .int 0, .null, .null, .null]), .inl (4, 8, .inr (.inr (.inr (.inr (va_up (va_up (va_up (va_up (va_up (va_up (va_up (va_up (fun _ => none) 0 (some 1000023)) 1 (some 1000024)) 2 (some 1000025)) 3 (some 1000026)) 4 (some 1000027)) 5 (some 1000028)) 6 (some 1000029)) 7 (some 1000030)))))), .inl (0, 64, .inl (fun _ => 0)), .inl (0, 64, .inl (fun _ => 0)), .inl (0, 64, .inl (fun _ => 0)), .inl (0, 64, .inl (fun _ => 0)), .inl (0, 64, .inl (fun _ => 0)), .inl (0, 64, .inl (fun _ => 0)), .inl (0, 64, .inl (fun _ => 0)), .inl (1, 64, .inl (fun _ => 0)), .inl (0, 8, .inl (fun _ => 0)), .inl (0, 8, .inl (fun _ => 0)), .inl (0, 8, .inl (fun _ => 0)), .inl (0, 8, .inl (fun _ => 0)), .inl (0, 8, .inl (fun _ => 0)), .inl (0, 8, .inl (fun _ => 0)), .inl (0, 8, .inl (fun _ => 0)), .inl (1, 8, .inl (fun _ => 0)), .inl (0, 400, .inl (fun _ => 0)), .inl (0, 6, .inl (fun _ => 0)), .inl (0, 6, .inl (fun _ => 0)), .inl (0, 78, .inl (fun _ => 0)), .inl (0, 4200, .inl (fun _ => 0))], true, 22, 5274)) rfl ?_
  refine go_nwa (N := 150) rfl rfl (by decide) rfl (Nat.le_of_ble_eq_true rfl) ?_
  refine go_put rfl rfl rfl (Nat.le_of_ble_eq_true rfl) rfl ?_
  refine go_n 2 (fr' := (242, [(0, .ref 49), (1, .int w), (2, .int g)], [.int 72, .ref 49], [c0, c1, c2, c3, c4, c5, c6, c7, c8, c9, c10, c11, c12, c13, c14, c15, c16, c17, c18, c19, c20, c21, c22, c23, c24, c25, c26, c27, c28, c29, c30, c31, c32, c33, c34, c35, c36, c37, c38, c39, c40, c41, c42, c43, c44, c45, c46, c47, c48, .inr (10, [.ref 50, .int 0, .int 0, .int 0, .int 0, .int 0, .int 0, .int 0, .int 0, .int (-1), .int 0, .ref 51, .ref 52, .ref 53, .ref 54, .ref 55, .ref 56, .ref 57, .ref 58, .ref 59, .ref 60, .ref 61, .ref 62, .ref 63, .ref 64, .ref 65, .ref 66, .ref 67, .ref 68, .ref 69, .ref 70, .ref 71, .ref 72, .null, .int 0, .int 0, .int 0, .int 0, .int 0, .int 0, .int 0, .int 0, .int 0, .int 0, .null, .null, .null, .null, .null, .null, .null, .null, .int 0, .null, .null, .null]), .inl (4, 8, .inr (.inr (.inr (.inr (va_up (va_up (va_up (va_up (va_up (va_up (va_up (va_up (fun _ => none) 0 (some 1000023)) 1 (some 1000024)) 2 (some 1000025)) 3 (some 1000026)) 4 (some 1000027)) 5 (some 1000028)) 6 (some 1000029)) 7 (some 1000030)))))), .inl (0, 64, .inl (fun _ => 0)), .inl (0, 64, .inl (fun _ => 0)), .inl (0, 64, .inl (fun _ => 0)), .inl (0, 64, .inl (fun _ => 0)), .inl (0, 64, .inl (fun _ => 0)), .inl (0, 64, .inl (fun _ => 0)), .inl (0, 64, .inl (fun _ => 0)), .inl (1, 64, .inl (fun _ => 0)), .inl (0, 8, .inl (fun _ => 0)), .inl (0, 8, .inl (fun _ => 0)), .inl (0, 8, .inl (fun _ => 0)), .inl (0, 8, .inl (fun _ => 0)), .inl (0, 8, .inl (fun _ => 0)), .inl (0, 8, .inl (fun _ => 0)), .inl (0, 8, .inl (fun _ => 0)), .inl (1, 8, .inl (fun _ => 0)), .inl (0, 400, .inl (fun _ => 0)), .inl (0, 6, .inl (fun _ => 0)), .inl (0, 6, .inl (fun _ => 0)), .inl (0, 78, .inl (fun _ => 0)), .inl (0, 4200, .inl (fun _ => 0)), .inl (0, 150, .inl (fun _ => 0))], true, 23, 5424)) rfl ?_
  refine go_nwa (N := 72) rfl rfl (by decide) rfl (Nat.le_of_ble_eq_true rfl) ?_
  refine go_put rfl rfl rfl (Nat.le_of_ble_eq_true rfl) rfl ?_
  refine go_n 2 (fr' := (250, [(0, .ref 49), (1, .int w), (2, .int g)], [.int 64, .ref 49], [c0, c1, c2, c3, c4, c5, c6, c7, c8, c9, c10, c11, c12, c13, c14, c15, c16, c17, c18, c19, c20, c21, c22, c23, c24, c25, c26, c27, c28, c29, c30, c31, c32, c33, c34, c35, c36, c37, c38, c39, c40, c41, c42, c43, c44, c45, c46, c47, c48, .inr (10, [.ref 50, .int 0, .int 0, .int 0, .int 0, .int 0, .int 0, .int 0, .int 0, .int (-1), .int 0, .ref 51, .ref 52, .ref 53, .ref 54, .ref 55, .ref 56, .ref 57, .ref 58, .ref 59, .ref 60, .ref 61, .ref 62, .ref 63, .ref 64, .ref 65, .ref 66, .ref 67, .ref 68, .ref 69, .ref 70, .ref 71, .ref 72, .ref 73, .int 0, .int 0, .int 0, .int 0, .int 0, .int 0, .int 0, .int 0, .int 0, .int 0, .null, .null, .null, .null, .null, .null, .null, .null, .int 0, .null, .null, .null]), .inl (4, 8, .inr (.inr (.inr (.inr (va_up (va_up (va_up (va_up (va_up (va_up (va_up (va_up (fun _ => none) 0 (some 1000023)) 1 (some 1000024)) 2 (some 1000025)) 3 (some 1000026)) 4 (some 1000027)) 5 (some 1000028)) 6 (some 1000029)) 7 (some 1000030)))))), .inl (0, 64, .inl (fun _ => 0)), .inl (0, 64, .inl (fun _ => 0)), .inl (0, 64, .inl (fun _ => 0)), .inl (0, 64, .inl (fun _ => 0)), .inl (0, 64, .inl (fun _ => 0)), .inl (0, 64, .inl (fun _ => 0)), .inl (0, 64, .inl (fun _ => 0)), .inl (1, 64, .inl (fun _ => 0)), .inl (0, 8, .inl (fun _ => 0)), .inl (0, 8, .inl (fun _ => 0)), .inl (0, 8, .inl (fun _ => 0)), .inl (0, 8, .inl (fun _ => 0)), .inl (0, 8, .inl (fun _ => 0)), .inl (0, 8, .inl (fun _ => 0)), .inl (0, 8, .inl (fun _ => 0)), .inl (1, 8, .inl (fun _ => 0)), .inl (0, 400, .inl (fun _ => 0)), .inl (0, 6, .inl (fun _ => 0)), .inl (0, 6, .inl (fun _ => 0)), .inl (0, 78, .inl (fun _ => 0)), .inl (0, 4200, .inl (fun _ => 0)), .inl (0, 150, .inl (fun _ => 0)), .inl (1, 72, .inl (fun _ => 0))], true, 24, 5496)) rfl ?_
  refine go_nwa (N := 64) rfl rfl (by decide) rfl (Nat.le_of_ble_eq_true rfl) ?_
  refine go_put rfl rfl rfl (Nat.le_of_ble_eq_true rfl) rfl ?_
  refine go_n 2 (fr' := (258, [(0, .ref 49), (1, .int w), (2, .int g)], [.int 64, .ref 49], [c0, c1, c2, c3, c4, c5, c6, c7, c8, c9, c10, c11, c12, c13, c14, c15, c16, c17, c18, c19, c20, c21, c22, c23, c24, c25, c26, c27, c28, c29, c30, c31, c32, c33, c34, c35, c36, c37, c38, c39, c40, c41, c42, c43, c44, c45, c46, c47, c48, .inr (10, [.ref 50, .int 0, .int 0, .int 0, .int 0, .int 0, .int 0, .int 0, .int 0, .int (-1), .int 0, .ref 51, .ref 52, .ref 53, .ref 54, .ref 55, .ref 56, .ref 57, .ref 58, .ref 59, .ref 60, .ref 61, .ref 62, .ref 63, .ref 64, .ref 65, .ref 66, .ref 67, .ref 68, .ref 69, .ref 70, .ref 71, .ref 72, .ref 73, .int 0, .int 0, .int 0, .int 0, .int 0, .int 0, .int 0, .int 0, .int 0, .int 0, .ref 74, .null, .null, .null, .null, .null, .null, .null, .int 0, .null, .null, .null]), .inl (4, 8, .inr (.inr (.inr (.inr (va_up (va_up (va_up (va_up (va_up (va_up (va_up (va_up (fun _ => none) 0 (some 1000023)) 1 (some 1000024)) 2 (some 1000025)) 3 (some 1000026)) 4 (some 1000027)) 5 (some 1000028)) 6 (some 1000029)) 7 (some 1000030)))))), .inl (0, 64, .inl (fun _ => 0)), .inl (0, 64, .inl (fun _ => 0)), .inl (0, 64, .inl (fun _ => 0)), .inl (0, 64, .inl (fun _ => 0)), .inl (0, 64, .inl (fun _ => 0)), .inl (0, 64, .inl (fun _ => 0)), .inl (0, 64, .inl (fun _ => 0)), .inl (1, 64, .inl (fun _ => 0)), .inl (0, 8, .inl (fun _ => 0)), .inl (0, 8, .inl (fun _ => 0)), .inl (0, 8, .inl (fun _ => 0)), .inl (0, 8, .inl (fun _ => 0)), .inl (0, 8, .inl (fun _ => 0)), .inl (0, 8, .inl (fun _ => 0)), .inl (0, 8, .inl (fun _ => 0)), .inl (1, 8, .inl (fun _ => 0)), .inl (0, 400, .inl (fun _ => 0)), .inl (0, 6, .inl (fun _ => 0)), .inl (0, 6, .inl (fun _ => 0)), .inl (0, 78, .inl (fun _ => 0)), .inl (0, 4200, .inl (fun _ => 0)), .inl (0, 150, .inl (fun _ => 0)), .inl (1, 72, .inl (fun _ => 0)), .inl (0, 64, .inl (fun _ => 0))], true, 25, 5560)) rfl ?_
  refine go_nwa (N := 64) rfl rfl (by decide) rfl (Nat.le_of_ble_eq_true rfl) ?_
  refine go_put rfl rfl rfl (Nat.le_of_ble_eq_true rfl) rfl ?_
  refine go_n 2 (fr' := (266, [(0, .ref 49), (1, .int w), (2, .int g)], [.int 64, .ref 49], [c0, c1, c2, c3, c4, c5, c6, c7, c8, c9, c10, c11, c12, c13, c14, c15, c16, c17, c18, c19, c20, c21, c22, c23, c24, c25, c26, c27, c28, c29, c30, c31, c32, c33, c34, c35, c36, c37, c38, c39, c40, c41, c42, c43, c44, c45, c46, c47, c48, .inr (10, [.ref 50, .int 0, .int 0, .int 0, .int 0, .int 0, .int 0, .int 0, .int 0, .int (-1), .int 0, .ref 51, .ref 52, .ref 53, .ref 54, .ref 55, .ref 56, .ref 57, .ref 58, .ref 59, .ref 60, .ref 61, .ref 62, .ref 63, .ref 64, .ref 65, .ref 66, .ref 67, .ref 68, .ref 69, .ref 70, .ref 71, .ref 72, .ref 73, .int 0, .int 0, .int 0, .int 0, .int 0, .int 0, .int 0, .int 0, .int 0, .int 0, .ref 74, .ref 75, .null, .null, .null, .null, .null, .null, .int 0, .null, .null, .null]), .inl (4, 8, .inr (.inr (.inr (.inr (va_up (va_up (va_up (va_up (va_up (va_up (va_up (va_up (fun _ => none) 0 (some 1000023)) 1 (some 1000024)) 2 (some 1000025)) 3 (some 1000026)) 4 (some 1000027)) 5 (some 1000028)) 6 (some 1000029)) 7 (some 1000030)))))), .inl (0, 64, .inl (fun _ => 0)), .inl (0, 64, .inl (fun _ => 0)), .inl (0, 64, .inl (fun _ => 0)), .inl (0, 64, .inl (fun _ => 0)), .inl (0, 64, .inl (fun _ => 0)), .inl (0, 64, .inl (fun _ => 0)), .inl (0, 64, .inl (fun _ => 0)), .inl (1, 64, .inl (fun _ => 0)), .inl (0, 8, .inl (fun _ => 0)), .inl (0, 8, .inl (fun _ => 0)), .inl (0, 8, .inl (fun _ => 0)), .inl (0, 8, .inl (fun _ => 0)), .inl (0, 8, .inl (fun _ => 0)), .inl (0, 8, .inl (fun _ => 0)), .inl (0, 8, .inl (fun _ => 0)), .inl (1, 8, .inl (fun _ => 0)), .inl (0, 400, .inl (fun _ => 0)), .inl (0, 6, .inl (fun _ => 0)), .inl (0, 6, .inl (fun _ => 0)), .inl (0, 78, .inl (fun _ => 0)), .inl (0, 4200, .inl (fun _ => 0)), .inl (0, 150, .inl (fun _ => 0)), .inl (1, 72, .inl (fun _ => 0)), .inl (0, 64, .inl (fun _ => 0)), .inl (0, 64, .inl (fun _ => 0))], true, 26, 5624)) rfl ?_
  refine go_nwa (N := 64) rfl rfl (by decide) rfl (Nat.le_of_ble_eq_true rfl) ?_
  refine go_put rfl rfl rfl (Nat.le_of_ble_eq_true rfl) rfl ?_
  refine go_n 2 (fr' := (274, [(0, .ref 49), (1, .int w), (2, .int g)], [.int 64, .ref 49], [c0, c1, c2, c3, c4, c5, c6, c7, c8, c9, c10, c11, c12, c13, c14, c15, c16, c17, c18, c19, c20, c21, c22, c23, c24, c25, c26, c27, c28, c29, c30, c31, c32, c33, c34, c35, c36, c37, c38, c39, c40, c41, c42, c43, c44, c45, c46, c47, c48, .inr (10, [.ref 50, .int 0, .int 0, .int 0, .int 0, .int 0, .int 0, .int 0, .int 0, .int (-1), .int 0, .ref 51, .ref 52, .ref 53, .ref 54, .ref 55, .ref 56, .ref 57, .ref 58, .ref 59, .ref 60, .ref 61, .ref 62, .ref 63, .ref 64, .ref 65, .ref 66, .ref 67, .ref 68, .ref 69, .ref 70, .ref 71, .ref 72, .ref 73, .int 0, .int 0, .int 0, .int 0, .int 0, .int 0, .int 0, .int 0, .int 0, .int 0, .ref 74, .ref 75, .ref 76, .null, .null, .null, .null, .null, .int 0, .null, .null, .null]), .inl (4, 8, .inr (.inr (.inr (.inr (va_up (va_up (va_up (va_up (va_up (va_up (va_up (va_up (fun _ => none) 0 (some 1000023)) 1 (some 1000024)) 2 (some 1000025)) 3 (some 1000026)) 4 (some 1000027)) 5 (some 1000028)) 6 (some 1000029)) 7 (some 1000030)))))), .inl (0, 64, .inl (fun _ => 0)), .inl (0, 64, .inl (fun _ => 0)), .inl (0, 64, .inl (fun _ => 0)), .inl (0, 64, .inl (fun _ => 0)), .inl (0, 64, .inl (fun _ => 0)), .inl (0, 64, .inl (fun _ => 0)), .inl (0, 64, .inl (fun _ => 0)), .inl (1, 64, .inl (fun _ => 0)), .inl (0, 8, .inl (fun _ => 0)), .inl (0, 8, .inl (fun _ => 0)), .inl (0, 8, .inl (fun _ => 0)), .inl (0, 8, .inl (fun _ => 0)), .inl (0, 8, .inl (fun _ => 0)), .inl (0, 8, .inl (fun _ => 0)), .inl (0, 8, .inl (fun _ => 0)), .inl (1, 8, .inl (fun _ => 0)), .inl (0, 400, .inl (fun _ => 0)), .inl (0, 6, .inl (fun _ => 0)), .inl (0, 6, .inl (fun _ => 0)), .inl (0, 78, .inl (fun _ => 0)), .inl (0, 4200, .inl (fun _ => 0)), .inl (0, 150, .inl (fun _ => 0)), .inl (1, 72, .inl (fun _ => 0)), .inl (0, 64, .inl (fun _ => 0)), .inl (0, 64, .inl (fun _ => 0)), .inl (1, 64, .inl (fun _ => 0))], true, 27, 5688)) rfl ?_
  refine go_nwa (N := 64) rfl rfl (by decide) rfl (Nat.le_of_ble_eq_true rfl) ?_
  refine go_put rfl rfl rfl (Nat.le_of_ble_eq_true rfl) rfl ?_
  refine go_n 2 (fr' := (282, [(0, .ref 49), (1, .int w), (2, .int g)], [.int 64, .ref 49], [c0, c1, c2, c3, c4, c5, c6, c7, c8, c9, c10, c11, c12, c13, c14, c15, c16, c17, c18, c19, c20, c21, c22, c23, c24, c25, c26, c27, c28, c29, c30, c31, c32, c33, c34, c35, c36, c37, c38, c39, c40, c41, c42, c43, c44, c45, c46, c47, c48, .inr (10, [.ref 50, .int 0, .int 0, .int 0, .int 0, .int 0, .int 0, .int 0, .int 0, .int (-1), .int 0, .ref 51, .ref 52, .ref 53, .ref 54, .ref 55, .ref 56, .ref 57, .ref 58, .ref 59, .ref 60, .ref 61, .ref 62, .ref 63, .ref 64, .ref 65, .ref 66, .ref 67, .ref 68, .ref 69, .ref 70, .ref 71, .ref 72, .ref 73, .int 0, .int 0, .int 0, .int 0, .int 0, .int 0, .int 0, .int 0, .int 0, .int 0, .ref 74, .ref 75, .ref 76, .ref 77, .null, .null, .null, .null, .int 0, .null, .null, .null]), .inl (4, 8, .inr (.inr (.inr (.inr (va_up (va_up (va_up (va_up (va_up (va_up (va_up (va_up (fun _ => none) 0 (some 1000023)) 1 (some 1000024)) 2 (some 1000025)) 3 (some 1000026)) 4 (some 1000027)) 5 (some 1000028)) 6 (some 1000029)) 7 (some 1000030)))))), .inl (0, 64, .inl (fun _ => 0)), .inl (0, 64, .inl (fun _ => 0)), .inl (0, 64, .inl (fun _ => 0)), .inl (0, 64, .inl (fun _ => 0)), .inl (0, 64, .inl (fun _ => 0)), .inl (0, 64, .inl (fun _ => 0)), .inl (0, 64, .inl (fun _ => 0)), .inl (1, 64, .inl (fun _ => 0)), .inl (0, 8, .inl (fun _ => 0)), .inl (0, 8, .inl (fun _ => 0)), .inl (0, 8, .inl (fun _ => 0)), .inl (0, 8, .inl (fun _ => 0)), .inl (0, 8, .inl (fun _ => 0)), .inl (0, 8, .inl (fun _ => 0)), .inl (0, 8, .inl (fun _ => 0)), .inl (1, 8, .inl (fun _ => 0)), .inl (0, 400, .inl (fun _ => 0)), .inl (0, 6, .inl (fun _ => 0)), .inl (0, 6, .inl (fun _ => 0)), .inl (0, 78, .inl (fun _ => 0)), .inl (0, 4200, .inl (fun _ => 0)), .inl (0, 150, .inl (fun _ => 0)), .inl (1, 72, .inl (fun _ => 0)), .inl (0, 64, .inl (fun _ => 0)), .inl (0, 64, .inl (fun _ => 0)), .inl (1, 64, .inl (fun _ => 0)), .inl (1, 64, .inl (fun _ => 0))], true, 28, 5752)) rfl ?_
  refine go_nwa (N := 64) rfl rfl (by decide) rfl (Nat.le_of_ble_eq_true rfl) ?_
  refine go_put rfl rfl rfl (Nat.le_of_ble_eq_true rfl) rfl ?_
  refine go_n 2 (fr' := (290, [(0, .ref 49), (1, .int w), (2, .int g)], [.int 64, .ref 49], [c0, c1, c2, c3, c4, c5, c6, c7, c8, c9, c10, c11, c12, c13, c14, c15, c16, c17, c18, c19, c20, c21, c22, c23, c24, c25, c26, c27, c28, c29, c30, c31, c32, c33, c34, c35, c36, c37, c38, c39, c40, c41, c42, c43, c44, c45, c46, c47, c48, .inr (10, [.ref 50, .int 0, .int 0, .int 0, .int 0, .int 0, .int 0, .int 0, .int 0, .int (-1), .int 0, .ref 51, .ref 52, .ref 53, .ref 54, .ref 55, .ref 56, .ref 57, .ref 58, .ref 59, .ref 60, .ref 61, .ref 62, .ref 63, .ref 64, .ref 65, .ref 66, .ref 67, .ref 68, .ref 69, .ref 70, .ref 71, .ref 72, .ref 73, .int 0, .int 0, .int 0, .int 0, .int 0, .int 0, .int 0, .int 0, .int 0, .int 0, .ref 74, .ref 75, .ref 76, .ref 77, .ref 78, .null, .null, .null, .int 0, .null, .null, .null]), .inl (4, 8, .inr (.inr (.inr (.inr (va_up (va_up (va_up (va_up (va_up (va_up (va_up (va_up (fun _ => none) 0 (some 1000023)) 1 (some 1000024)) 2 (some 1000025)) 3 (some 1000026)) 4 (some 1000027)) 5 (some 1000028)) 6 (some 1000029)) 7 (some 1000030)))))), .inl (0, 64, .inl (fun _ => 0)), .inl (0, 64, .inl (fun _ => 0)), .inl (0, 64, .inl (fun _ => 0)), .inl (0, 64, .inl (fun _ => 0)), .inl (0, 64, .inl (fun _ => 0)), .inl (0, 64, .inl (fun _ => 0)), .inl (0, 64, .inl (fun _ => 0)), .inl (1, 64, .inl (fun _ => 0)), .inl (0, 8, .inl (fun _ => 0)), .inl (0, 8, .inl (fun _ => 0)), .inl (0, 8, .inl (fun _ => 0)), .inl (0, 8, .inl (fun _ => 0)), .inl (0, 8, .inl (fun _ => 0)), .inl (0, 8, .inl (fun _ => 0)), .inl (0, 8, .inl (fun _ => 0)), .inl (1, 8, .inl (fun _ => 0)), .inl (0, 400, .inl (fun _ => 0)), .inl (0, 6, .inl (fun _ => 0)), .inl (0, 6, .inl (fun _ => 0)), .inl (0, 78, .inl (fun _ => 0)), .inl (0, 4200, .inl (fun _ => 0)), .inl (0, 150, .inl (fun _ => 0)), .inl (1, 72, .inl (fun _ => 0)), .inl (0, 64, .inl (fun _ => 0)), .inl (0, 64, .inl (fun _ => 0)), .inl (1, 64, .inl (fun _ => 0)), .inl (1, 64, .inl (fun _ => 0)), .inl (0, 64, .inl (fun _ => 0))], true, 29, 5816)) rfl ?_
  refine go_nwa (N := 64) rfl rfl (by decide) rfl (Nat.le_of_ble_eq_true rfl) ?_
  refine go_put rfl rfl rfl (Nat.le_of_ble_eq_true rfl) rfl ?_
  refine go_n 2 (fr' := (299, [(0, .ref 49), (1, .int w), (2, .int g)], [.int 128, .ref 49], [c0, c1, c2, c3, c4, c5, c6, c7, c8, c9, c10, c11, c12, c13, c14, c15, c16, c17, c18, c19, c20, c21, c22, c23, c24, c25, c26, c27, c28, c29, c30, c31, c32, c33, c34, c35, c36, c37, c38, c39, c40, c41, c42, c43, c44, c45, c46, c47, c48, .inr (10, [.ref 50, .int 0, .int 0, .int 0, .int 0, .int 0, .int 0, .int 0, .int 0, .int (-1), .int 0, .ref 51, .ref 52, .ref 53, .ref 54, .ref 55, .ref 56, .ref 57, .ref 58, .ref 59, .ref 60, .ref 61, .ref 62, .ref 63, .ref 64, .ref 65, .ref 66, .ref 67, .ref 68, .ref 69, .ref 70, .ref 71, .ref 72, .ref 73, .int 0, .int 0, .int 0, .int 0, .int 0, .int 0, .int 0, .int 0, .int 0, .int 0, .ref 74, .ref 75, .ref 76, .ref 77, .ref 78, .ref 79, .null, .null, .int 0, .null, .null, .null]), .inl (4, 8, .inr (.inr (.inr (.inr (va_up (va_up (va_up (va_up (va_up (va_up (va_up (va_up (fun _ => none) 0 (some 1000023)) 1 (some 1000024)) 2 (some 1000025)) 3 (some 1000026)) 4 (some 1000027)) 5 (some 1000028)) 6 (some 1000029)) 7 (some 1000030)))))), .inl (0, 64, .inl (fun _ => 0)), .inl (0, 64, .inl (fun _ => 0)), .inl (0, 64, .inl (fun _ => 0)), .inl (0, 64, .inl (fun _ => 0)), .inl (0, 64, .inl (fun _ => 0)), .inl (0, 64, .inl (fun _ => 0)), .inl (0, 64, .inl (fun _ => 0)), .inl (1, 64, .inl (fun _ => 0)), .inl (0, 8, .inl (fun _ => 0)), .inl (0, 8, .inl (fun _ => 0)), .inl (0, 8, .inl (fun _ => 0)), .inl (0, 8, .inl (fun _ => 0)), .inl (0, 8, .inl (fun _ => 0)), .inl (0, 8, .inl (fun _ => 0)), .inl (0, 8, .inl (fun _ => 0)), .inl (1, 8, .inl (fun _ => 0)), .inl (0, 400, .inl (fun _ => 0)), .inl (0, 6, .inl (fun _ => 0)), .inl (0, 6, .inl (fun _ => 0)), .inl (0, 78, .inl (fun _ => 0)), .inl (0, 4200, .inl (fun _ => 0)), .inl (0, 150, .inl (fun _ => 0)), .inl (1, 72, .inl (fun _ => 0)), .inl (0, 64, .inl (fun _ => 0)), .inl (0, 64, .inl (fun _ => 0)), .inl (1, 64, .inl (fun _ => 0)), .inl (1, 64, .inl (fun _ => 0)), .inl (0, 64, .inl (fun _ => 0)), .inl (0, 64, .inl (fun _ => 0))], true, 30, 5880)) rfl ?_
  refine go_nwa (N := 128) rfl rfl (by decide) rfl (Nat.le_of_ble_eq_true rfl) ?_
  refine go_put rfl rfl rfl (Nat.le_of_ble_eq_true rfl) rfl ?_
  refine go_n 2 (fr' := (308, [(0, .ref 49), (1, .int w), (2, .int g)], [.int 128, .ref 49], [c0, c1, c2, c3, c4, c5, c6, c7, c8, c9, c10, c11, c12, c13, c14, c15, c16, c17, c18, c19, c20, c21, c22, c23, c24, c25, c26, c27, c28, c29, c30, c31, c32, c33, c34, c35, c36, c37, c38, c39, c40, c41, c42, c43, c44, c45, c46, c47, c48, .inr (10, [.ref 50, .int 0, .int 0, .int 0, .int 0, .int 0, .int 0, .int 0, .int 0, .int (-1), .int 0, .ref 51, .ref 52, .ref 53, .ref 54, .ref 55, .ref 56, .ref 57, .ref 58, .ref 59, .ref 60, .ref 61, .ref 62, .ref 63, .ref 64, .ref 65, .ref 66, .ref 67, .ref 68, .ref 69, .ref 70, .ref 71, .ref 72, .ref 73, .int 0, .int 0, .int 0, .int 0, .int 0, .int 0, .int 0, .int 0, .int 0, .int 0, .ref 74, .ref 75, .ref 76, .ref 77, .ref 78, .ref 79, .ref 80, .null, .int 0, .null, .null, .null]), .inl (4, 8, .inr (.inr (.inr (.inr (va_up (va_up (va_up (va_up (va_up (va_up (va_up (va_up (fun _ => none) 0 (some 1000023)) 1 (some 1000024)) 2 (some 1000025)) 3 (some 1000026)) 4 (some 1000027)) 5 (some 1000028)) 6 (some 1000029)) 7 (some 1000030)))))), .inl (0, 64, .inl (fun _ => 0)), .inl (0, 64, .inl (fun _ => 0)), .inl (0, 64, .inl (fun _ => 0)), .inl (0, 64, .inl (fun _ => 0)), .inl (0, 64, .inl (fun _ => 0)), .inl (0, 64, .inl (fun _ => 0)), .inl (0, 64, .inl (fun _ => 0)), .inl (1, 64, .inl (fun _ => 0)), .inl (0, 8, .inl (fun _ => 0)), .inl (0, 8, .inl (fun _ => 0)), .inl (0, 8, .inl (fun _ => 0)), .inl (0, 8, .inl (fun _ => 0)), .inl (0, 8, .inl (fun _ => 0)), .inl (0, 8, .inl (fun _ => 0)), .inl (0, 8, .inl (fun _ => 0)), .inl (1, 8, .inl (fun _ => 0)), .inl (0, 400, .inl (fun _ => 0)), .inl (0, 6, .inl (fun _ => 0)), .inl (0, 6, .inl (fun _ => 0)), .inl (0, 78, .inl (fun _ => 0)), .inl (0, 4200, .inl (fun _ => 0)), .inl (0, 150, .inl (fun _ => 0)), .inl (1, 72, .inl (fun _ => 0)), .inl (0, 64, .inl (fun _ => 0)), .inl (0, 64, .inl (fun _ => 0)), .inl (1, 64, .inl (fun _ => 0)), .inl (1, 64, .inl (fun _ => 0)), .inl (0, 64, .inl (fun _ => 0)), .inl (0, 64, .inl (fun _ => 0)), .inl (0, 128, .inl (fun _ => 0))], true, 31, 6008)) rfl ?_
  refine go_nwa (N := 128) rfl rfl (by decide) rfl (Nat.le_of_ble_eq_true rfl) ?_
  refine go_put rfl rfl rfl (Nat.le_of_ble_eq_true rfl) rfl ?_
  refine go_n 2 (fr' := (316, [(0, .ref 49), (1, .int w), (2, .int g)], [.int 64, .ref 49], [c0, c1, c2, c3, c4, c5, c6, c7, c8, c9, c10, c11, c12, c13, c14, c15, c16, c17, c18, c19, c20, c21, c22, c23, c24, c25, c26, c27, c28, c29, c30, c31, c32, c33, c34, c35, c36, c37, c38, c39, c40, c41, c42, c43, c44, c45, c46, c47, c48, .inr (10, [.ref 50, .int 0, .int 0, .int 0, .int 0, .int 0, .int 0, .int 0, .int 0, .int (-1), .int 0, .ref 51, .ref 52, .ref 53, .ref 54, .ref 55, .ref 56, .ref 57, .ref 58, .ref 59, .ref 60, .ref 61, .ref 62, .ref 63, .ref 64, .ref 65, .ref 66, .ref 67, .ref 68, .ref 69, .ref 70, .ref 71, .ref 72, .ref 73, .int 0, .int 0, .int 0, .int 0, .int 0, .int 0, .int 0, .int 0, .int 0, .int 0, .ref 74, .ref 75, .ref 76, .ref 77, .ref 78, .ref 79, .ref 80, .ref 81, .int 0, .null, .null, .null]), .inl (4, 8, .inr (.inr (.inr (.inr (va_up (va_up (va_up (va_up (va_up (va_up (va_up (va_up (fun _ => none) 0 (some 1000023)) 1 (some 1000024)) 2 (some 1000025)) 3 (some 1000026)) 4 (some 1000027)) 5 (some 1000028)) 6 (some 1000029)) 7 (some 1000030)))))), .inl (0, 64, .inl (fun _ => 0)), .inl (0, 64, .inl (fun _ => 0)), .inl (0, 64, .inl (fun _ => 0)), .inl (0, 64, .inl (fun _ => 0)), .inl (0, 64, .inl (fun _ => 0)), .inl (0, 64, .inl (fun _ => 0)), .inl (0, 64, .inl (fun _ => 0)), .inl (1, 64, .inl (fun _ => 0)), .inl (0, 8, .inl (fun _ => 0)), .inl (0, 8, .inl (fun _ => 0)), .inl (0, 8, .inl (fun _ => 0)), .inl (0, 8, .inl (fun _ => 0)), .inl (0, 8, .inl (fun _ => 0)), .inl (0, 8, .inl (fun _ => 0)), .inl (0, 8, .inl (fun _ => 0)), .inl (1, 8, .inl (fun _ => 0)), .inl (0, 400, .inl (fun _ => 0)), .inl (0, 6, .inl (fun _ => 0)), .inl (0, 6, .inl (fun _ => 0)), .inl (0, 78, .inl (fun _ => 0)), .inl (0, 4200, .inl (fun _ => 0)), .inl (0, 150, .inl (fun _ => 0)), .inl (1, 72, .inl (fun _ => 0)), .inl (0, 64, .inl (fun _ => 0)), .inl (0, 64, .inl (fun _ => 0)), .inl (1, 64, .inl (fun _ => 0)), .inl (1, 64, .inl (fun _ => 0)), .inl (0, 64, .inl (fun _ => 0)), .inl (0, 64, .inl (fun _ => 0)), .inl (0, 128, .inl (fun _ => 0)), .inl (0, 128, .inl (fun _ => 0))], true, 32, 6136)) rfl ?_
  refine go_nwa (N := 64) rfl rfl (by decide) rfl (Nat.le_of_ble_eq_true rfl) ?_
  refine go_put rfl rfl rfl (Nat.le_of_ble_eq_true rfl) rfl ?_
  refine go_n 2 (fr' := (324, [(0, .ref 49), (1, .int w), (2, .int g)], [.int 64, .ref 49], [c0, c1, c2, c3, c4, c5, c6, c7, c8, c9, c10, c11, c12, c13, c14, c15, c16, c17, c18, c19, c20, c21, c22, c23, c24, c25, c26, c27, c28, c29, c30, c31, c32, c33, c34, c35, c36, c37, c38, c39, c40, c41, c42, c43, c44, c45, c46, c47, c48, .inr (10, [.ref 50, .int 0, .int 0, .int 0, .int 0, .int 0, .int 0, .int 0, .int 0, .int (-1), .int 0, .ref 51, .ref 52, .ref 53, .ref 54, .ref 55, .ref 56, .ref 57, .ref 58, .ref 59, .ref 60, .ref 61, .ref 62, .ref 63, .ref 64, .ref 65, .ref 66, .ref 67, .ref 68, .ref 69, .ref 70, .ref 71, .ref 72, .ref 73, .int 0, .int 0, .int 0, .int 0, .int 0, .int 0, .int 0, .int 0, .int 0, .int 0, .ref 74, .ref 75, .ref 76, .ref 77, .ref 78, .ref 79, .ref 80, .ref 81, .int 0, .ref 82, .null, .null]), .inl (4, 8, .inr (.inr (.inr (.inr (va_up (va_up (va_up (va_up (va_up (va_up (va_up (va_up (fun _ => none) 0 (some 1000023)) 1 (some 1000024)) 2 (some 1000025)) 3 (some 1000026)) 4 (some 1000027)) 5 (some 1000028)) 6 (some 1000029)) 7 (some 1000030)))))), .inl (0, 64, .inl (fun _ => 0)), .inl (0, 64, .inl (fun _ => 0)), .inl (0, 64, .inl (fun _ => 0)), .inl (0, 64, .inl (fun _ => 0)), .inl (0, 64, .inl (fun _ => 0)), .inl (0, 64, .inl (fun _ => 0)), .inl (0, 64, .inl (fun _ => 0)), .inl (1, 64, .inl (fun _ => 0)), .inl (0, 8, .inl (fun _ => 0)), .inl (0, 8, .inl (fun _ => 0)), .inl (0, 8, .inl (fun _ => 0)), .inl (0, 8, .inl (fun _ => 0)), .inl (0, 8, .inl (fun _ => 0)), .inl (0, 8, .inl (fun _ => 0)), .inl (0, 8, .inl (fun _ => 0)), .inl (1, 8, .inl (fun _ => 0)), .inl (0, 400, .inl (fun _ => 0)), .inl (0, 6, .inl (fun _ => 0)), .inl (0, 6, .inl (fun _ => 0)), .inl (0, 78, .inl (fun _ => 0)), .inl (0, 4200, .inl (fun _ => 0)), .inl (0, 150, .inl (fun _ => 0)), .inl (1, 72, .inl (fun _ => 0)), .inl (0, 64, .inl (fun _ => 0)), .inl (0, 64, .inl (fun _ => 0)), .inl (1, 64, .inl (fun _ => 0)), .inl (1, 64, .inl (fun _ => 0)), .inl (0, 64, .inl (fun _ => 0)), .inl (0, 64, .inl (fun _ => 0)), .inl (0, 128, .inl (fun _ => 0)), .inl (0, 128, .inl (fun _ => 0)), .inl (0, 64, .inl (fun _ => 0))], true, 33, 6200)) rfl ?_
  refine go_nwa (N := 64) rfl rfl (by decide) rfl (Nat.le_of_ble_eq_true rfl) ?_
  refine go_put rfl rfl rfl (Nat.le_of_ble_eq_true rfl) rfl ?_
  refine go_n 2 (fr' := (333, [(0, .ref 49), (1, .int w), (2, .int g)], [.int 128, .ref 49], [c0, c1, c2, c3, c4, c5, c6, c7, c8, c9, c10, c11, c12, c13, c14, c15, c16, c17, c18, c19, c20, c21, c22, c23, c24, c25, c26, c27, c28, c29, c30, c31, c32, c33, c34, c35, c36, c37, c38, c39, c40, c41, c42, c43, c44, c45, c46, c47, c48, .inr (10, [.ref 50, .int 0, .int 0, .int 0, .int 0, .int 0, .int 0, .int 0, .int 0, .int (-1), .int 0, .ref 51, .ref 52, .ref 53, .ref 54, .ref 55, .ref 56, .ref 57, .ref 58, .ref 59, .ref 60, .ref 61, .ref 62, .ref 63, .ref 64, .ref 65, .ref 66, .ref 67, .ref 68, .ref 69, .ref 70, .ref 71, .ref 72, .ref 73, .int 0, .int 0, .int 0, .int 0, .int 0, .int 0, .int 0, .int 0, .int 0, .int 0, .ref 74, .ref 75, .ref 76, .ref 77, .ref 78, .ref 79, .ref 80, .ref 81, .int 0, .ref 82, .ref 83, .null]), .inl (4, 8, .inr (.inr (.inr (.inr (va_up (va_up (va_up (va_up (va_up (va_up (va_up (va_up (fun _ => none) 0 (some 1000023)) 1 (some 1000024)) 2 (some 1000025)) 3 (some 1000026)) 4 (some 1000027)) 5 (some 1000028)) 6 (some 1000029)) 7 (some 1000030)))))), .inl (0, 64, .inl (fun _ => 0)), .inl (0, 64, .inl (fun _ => 0)), .inl (0, 64, .inl (fun _ => 0)), .inl (0, 64, .inl (fun _ => 0)), .inl (0, 64, .inl (fun _ => 0)), .inl (0, 64, .inl (fun _ => 0)), .inl (0, 64, .inl (fun _ => 0)), .inl (1, 64, .inl (fun _ => 0)), .inl (0, 8, .inl (fun _ => 0)), .inl (0, 8, .inl (fun _ => 0)), .inl (0, 8, .inl (fun _ => 0)), .inl (0, 8, .inl (fun _ => 0)), .inl (0, 8, .inl (fun _ => 0)), .inl (0, 8, .inl (fun _ => 0)), .inl (0, 8, .inl (fun _ => 0)), .inl (1, 8, .inl (fun _ => 0)), .inl (0, 400, .inl (fun _ => 0)), .inl (0, 6, .inl (fun _ => 0)), .inl (0, 6, .inl (fun _ => 0)), .inl (0, 78, .inl (fun _ => 0)), .inl (0, 4200, .inl (fun _ => 0)), .inl (0, 150, .inl (fun _ => 0)), .inl (1, 72, .inl (fun _ => 0)), .inl (0, 64, .inl (fun _ => 0)), .inl (0, 64, .inl (fun _ => 0)), .inl (1, 64, .inl (fun _ => 0)), .inl (1, 64, .inl (fun _ => 0)), .inl (0, 64, .inl (fun _ => 0)), .inl (0, 64, .inl (fun _ => 0)), .inl (0, 128, .inl (fun _ => 0)), .inl (0, 128, .inl (fun _ => 0)), .inl (0, 64, .inl (fun _ => 0)), .inl (0, 64, .inl (fun _ => 0))], true, 34, 6264)) rfl ?_
  refine go_nwa (N := 128) rfl rfl (by decide) rfl (Nat.le_of_ble_eq_true rfl) ?_
  refine go_put rfl rfl rfl (Nat.le_of_ble_eq_true rfl) rfl ?_
  refine go_n 6 (fr' := (345, [(0, .ref 49), (1, .int w), (2, .int g)], [.int (nI a), .ref 49], [c0, c1, c2, c3, c4, c5, c6, c7, c8, c9, c10, c11, c12, c13, c14, c15, c16, c17, c18, c19, c20, c21, c22, c23, c24, c25, c26, c27, c28, c29, c30, c31, c32, c33, c34, c35, c36, c37, c38, c39, c40, c41, c42, c43, c44, c45, c46, c47, c48, .inr (10, [.ref 50, .int 0, .int 0, .int 0, .int 0, .int 0, .int 0, .int 0, .int 0, .int (-1), .int 0, .ref 51, .ref 52, .ref 53, .ref 54, .ref 55, .ref 56, .ref 57, .ref 58, .ref 59, .ref 60, .ref 61, .ref 62, .ref 63, .ref 64, .ref 65, .ref 66, .ref 67, .ref 68, .ref 69, .ref 70, .ref 71, .ref 72, .ref 73, .int 0, .int 0, .int 0, .int 0, .int 0, .int 0, .int 0, .int 0, .int 0, .int 0, .ref 74, .ref 75, .ref 76, .ref 77, .ref 78, .ref 79, .ref 80, .ref 81, .int 0, .ref 82, .ref 83, .ref 84]), .inl (4, 8, .inr (.inr (.inr (.inr (va_up (va_up (va_up (va_up (va_up (va_up (va_up (va_up (fun _ => none) 0 (some 1000023)) 1 (some 1000024)) 2 (some 1000025)) 3 (some 1000026)) 4 (some 1000027)) 5 (some 1000028)) 6 (some 1000029)) 7 (some 1000030)))))), .inl (0, 64, .inl (fun _ => 0)), .inl (0, 64, .inl (fun _ => 0)), .inl (0, 64, .inl (fun _ => 0)), .inl (0, 64, .inl (fun _ => 0)), .inl (0, 64, .inl (fun _ => 0)), .inl (0, 64, .inl (fun _ => 0)), .inl (0, 64, .inl (fun _ => 0)), .inl (1, 64, .inl (fun _ => 0)), .inl (0, 8, .inl (fun _ => 0)), .inl (0, 8, .inl (fun _ => 0)), .inl (0, 8, .inl (fun _ => 0)), .inl (0, 8, .inl (fun _ => 0)), .inl (0, 8, .inl (fun _ => 0)), .inl (0, 8, .inl (fun _ => 0)), .inl (0, 8, .inl (fun _ => 0)), .inl (1, 8, .inl (fun _ => 0)), .inl (0, 400, .inl (fun _ => 0)), .inl (0, 6, .inl (fun _ => 0)), .inl (0, 6, .inl (fun _ => 0)), .inl (0, 78, .inl (fun _ => 0)), .inl (0, 4200, .inl (fun _ => 0)), .inl (0, 150, .inl (fun _ => 0)), .inl (1, 72, .inl (fun _ => 0)), .inl (0, 64, .inl (fun _ => 0)), .inl (0, 64, .inl (fun _ => 0)), .inl (1, 64, .inl (fun _ => 0)), .inl (1, 64, .inl (fun _ => 0)), .inl (0, 64, .inl (fun _ => 0)), .inl (0, 64, .inl (fun _ => 0)), .inl (0, 128, .inl (fun _ => 0)), .inl (0, 128, .inl (fun _ => 0)), .inl (0, 64, .inl (fun _ => 0)), .inl (0, 64, .inl (fun _ => 0)), .inl (0, 128, .inl (fun _ => 0))], true, 35, 6392)) (by rw [← ea]; rfl) ?_
  refine go_put rfl rfl rfl (Nat.le_of_ble_eq_true rfl) rfl ?_
  refine go_n 6 (fr' := (355, [(0, .ref 49), (1, .int w), (2, .int g)], [.int (nI b), .ref 49], [c0, c1, c2, c3, c4, c5, c6, c7, c8, c9, c10, c11, c12, c13, c14, c15, c16, c17, c18, c19, c20, c21, c22, c23, c24, c25, c26, c27, c28, c29, c30, c31, c32, c33, c34, c35, c36, c37, c38, c39, c40, c41, c42, c43, c44, c45, c46, c47, c48, .inr (10, [.ref 50, .int 0, .int (nI a), .int 0, .int 0, .int 0, .int 0, .int 0, .int 0, .int (-1), .int 0, .ref 51, .ref 52, .ref 53, .ref 54, .ref 55, .ref 56, .ref 57, .ref 58, .ref 59, .ref 60, .ref 61, .ref 62, .ref 63, .ref 64, .ref 65, .ref 66, .ref 67, .ref 68, .ref 69, .ref 70, .ref 71, .ref 72, .ref 73, .int 0, .int 0, .int 0, .int 0, .int 0, .int 0, .int 0, .int 0, .int 0, .int 0, .ref 74, .ref 75, .ref 76, .ref 77, .ref 78, .ref 79, .ref 80, .ref 81, .int 0, .ref 82, .ref 83, .ref 84]), .inl (4, 8, .inr (.inr (.inr (.inr (va_up (va_up (va_up (va_up (va_up (va_up (va_up (va_up (fun _ => none) 0 (some 1000023)) 1 (some 1000024)) 2 (some 1000025)) 3 (some 1000026)) 4 (some 1000027)) 5 (some 1000028)) 6 (some 1000029)) 7 (some 1000030)))))), .inl (0, 64, .inl (fun _ => 0)), .inl (0, 64, .inl (fun _ => 0)), .inl (0, 64, .inl (fun _ => 0)), .inl (0, 64, .inl (fun _ => 0)), .inl (0, 64, .inl (fun _ => 0)), .inl (0, 64, .inl (fun _ => 0)), .inl (0, 64, .inl (fun _ => 0)), .inl (1, 64, .inl (fun _ => 0)), .inl (0, 8, .inl (fun _ => 0)), .inl (0, 8, .inl (fun _ => 0)), .inl (0, 8, .inl (fun _ => 0)), .inl (0, 8, .inl (fun _ => 0)), .inl (0, 8, .inl (fun _ => 0)), .inl (0, 8, .inl (fun _ => 0)), .inl (0, 8, .inl (fun _ => 0)), .inl (1, 8, .inl (fun _ => 0)), .inl (0, 400, .inl (fun _ => 0)), .inl (0, 6, .inl (fun _ => 0)), .inl (0, 6, .inl (fun _ => 0)), .inl (0, 78, .inl (fun _ => 0)), .inl (0, 4200, .inl (fun _ => 0)), .inl (0, 150, .inl (fun _ => 0)), .inl (1, 72, .inl (fun _ => 0)), .inl (0, 64, .inl (fun _ => 0)), .inl (0, 64, .inl (fun _ => 0)), .inl (1, 64, .inl (fun _ => 0)), .inl (1, 64, .inl (fun _ => 0)), .inl (0, 64, .inl (fun _ => 0)), .inl (0, 64, .inl (fun _ => 0)), .inl (0, 128, .inl (fun _ => 0)), .inl (0, 128, .inl (fun _ => 0)), .inl (0, 64, .inl (fun _ => 0)), .inl (0, 64, .inl (fun _ => 0)), .inl (0, 128, .inl (fun _ => 0))], true, 35, 6392)) (by rw [← eb]; rfl) ?_
  refine go_put rfl rfl rfl (Nat.le_of_ble_eq_true rfl) rfl ?_
  refine go_n 2 (fr' := (360, [(0, .ref 49), (1, .int w), (2, .int g), (3, .int 0)], [], [c0, c1, c2, c3, c4, c5, c6, c7, c8, c9, c10, c11, c12, c13, c14, c15, c16, c17, c18, c19, c20, c21, c22, c23, c24, c25, c26, c27, c28, c29, c30, c31, c32, c33, c34, c35, c36, c37, c38, c39, c40, c41, c42, c43, c44, c45, c46, c47, c48, .inr (10, [.ref 50, .int 0, .int (nI a), .int (nI b), .int 0, .int 0, .int 0, .int 0, .int 0, .int (-1), .int 0, .ref 51, .ref 52, .ref 53, .ref 54, .ref 55, .ref 56, .ref 57, .ref 58, .ref 59, .ref 60, .ref 61, .ref 62, .ref 63, .ref 64, .ref 65, .ref 66, .ref 67, .ref 68, .ref 69, .ref 70, .ref 71, .ref 72, .ref 73, .int 0, .int 0, .int 0, .int 0, .int 0, .int 0, .int 0, .int 0, .int 0, .int 0, .ref 74, .ref 75, .ref 76, .ref 77, .ref 78, .ref 79, .ref 80, .ref 81, .int 0, .ref 82, .ref 83, .ref 84]), .inl (4, 8, .inr (.inr (.inr (.inr (va_up (va_up (va_up (va_up (va_up (va_up (va_up (va_up (fun _ => none) 0 (some 1000023)) 1 (some 1000024)) 2 (some 1000025)) 3 (some 1000026)) 4 (some 1000027)) 5 (some 1000028)) 6 (some 1000029)) 7 (some 1000030)))))), .inl (0, 64, .inl (fun _ => 0)), .inl (0, 64, .inl (fun _ => 0)), .inl (0, 64, .inl (fun _ => 0)), .inl (0, 64, .inl (fun _ => 0)), .inl (0, 64, .inl (fun _ => 0)), .inl (0, 64, .inl (fun _ => 0)), .inl (0, 64, .inl (fun _ => 0)), .inl (1, 64, .inl (fun _ => 0)), .inl (0, 8, .inl (fun _ => 0)), .inl (0, 8, .inl (fun _ => 0)), .inl (0, 8, .inl (fun _ => 0)), .inl (0, 8, .inl (fun _ => 0)), .inl (0, 8, .inl (fun _ => 0)), .inl (0, 8, .inl (fun _ => 0)), .inl (0, 8, .inl (fun _ => 0)), .inl (1, 8, .inl (fun _ => 0)), .inl (0, 400, .inl (fun _ => 0)), .inl (0, 6, .inl (fun _ => 0)), .inl (0, 6, .inl (fun _ => 0)), .inl (0, 78, .inl (fun _ => 0)), .inl (0, 4200, .inl (fun _ => 0)), .inl (0, 150, .inl (fun _ => 0)), .inl (1, 72, .inl (fun _ => 0)), .inl (0, 64, .inl (fun _ => 0)), .inl (0, 64, .inl (fun _ => 0)), .inl (1, 64, .inl (fun _ => 0)), .inl (1, 64, .inl (fun _ => 0)), .inl (0, 64, .inl (fun _ => 0)), .inl (0, 64, .inl (fun _ => 0)), .inl (0, 128, .inl (fun _ => 0)), .inl (0, 128, .inl (fun _ => 0)), .inl (0, 64, .inl (fun _ => 0)), .inl (0, 64, .inl (fun _ => 0)), .inl (0, 128, .inl (fun _ => 0))], true, 35, 6392)) rfl ?_
  have e0 : (fun _ => 0 : Nat → Int32) = fun j => if j < 0 then -1 else 0 := by
    funext j
    simp
  refine go_eq (fr' := (360, [(0, .ref 49), (1, .int w), (2, .int g), (3, .int (nI 0))], [], [c0, c1, c2, c3, c4, c5, c6, c7, c8, c9, c10, c11, c12, c13, c14, c15, c16, c17, c18, c19, c20, c21, c22, c23, c24, c25, c26, c27, c28, c29, c30, c31, c32, c33, c34, c35, c36, c37, c38, c39, c40, c41, c42, c43, c44, c45, c46, c47, c48] ++ ah_m a b (fun _ => 0) (fun _ => 0) 0 0, true, 35, 6392)) rfl ?_
  refine go_eq (congrArg (fun q : Nat → Int32 => ((360, [(0, Value.ref 49), (1, Value.int w), (2, Value.int g), (3, Value.int (nI 0))], ([] : List Value), [c0, c1, c2, c3, c4, c5, c6, c7, c8, c9, c10, c11, c12, c13, c14, c15, c16, c17, c18, c19, c20, c21, c22, c23, c24, c25, c26, c27, c28, c29, c30, c31, c32, c33, c34, c35, c36, c37, c38, c39, c40, c41, c42, c43, c44, c45, c46, c47, c48] ++ ah_m a b q q 0 0, true, 35, 6392) : ai_F)) e0) ?_
  exact pv_X10_loop 64 0 (by omega) _ (go_rt (i := .return_) (tg := []) rfl rfl)
end
section
/-! the class's methods on a new object -/
set_option maxRecDepth 10000 in
theorem pv_needCell {X : Nat × (Nat → Int32)} {S : Nat} {z : Int32} {f1 f2 f3 g1 g2 : Nat → Int32} {u : Int32} {R : List ai_C} {k : Int32} (hk : 0 ≤ k ∧ k < z) (d : Nat) : ai_Ev an_ms an_lk X 35 (d + 2) 41 [.ref 0, .int k] (ah_fw S z f1 f2 f3 g1 g2 u ++ R) true (.inl (none, (ah_fw S z f1 f2 f3 g1 g2 u ++ R), true, 0, 0)) := by
  refine ev_of (M := an_X9_needCell) rfl (Nat.le_of_ble_eq_true rfl) ?_
  refine go_n 1 (fr' := (1, [(0, .ref 0), (1, .int k)], [.ref 0], (ah_fw S z f1 f2 f3 g1 g2 u ++ R), true, 0, 0)) rfl ?_
  refine go_get rfl rfl rfl rfl ?_
  refine go_n 1 (fr' := (5, [(0, .ref 0), (1, .int k)], [.int k, .ref 1], (ah_fw S z f1 f2 f3 g1 g2 u ++ R), true, 0, 0)) rfl ?_
  have e1 := pv_X0_has (X := X) (h := (ah_fw S z f1 f2 f3 g1 g2 u ++ R)) (a := 1) rfl k true d
  rw [if_pos hk] at e1
  refine go_call (q := 2) (M1 := an_X0_has) rfl rfl (by decide) rfl ⟨_, rfl⟩ trivial (e1) ?_
  refine go_eq (fr' := (8, [(0, .ref 0), (1, .int k)], [.int 1], (ah_fw S z f1 f2 f3 g1 g2 u ++ R), true, 0, 0)) rfl ?_
  refine go_n 1 (fr' := (21, [(0, .ref 0), (1, .int k)], [], (ah_fw S z f1 f2 f3 g1 g2 u ++ R), true, 0, 0)) rfl ?_
  refine go_rt (i := .return_) (tg := []) rfl ?_
  rfl
set_option maxRecDepth 10000 in
theorem pv_needCell_no {X : Nat × (Nat → Int32)} {S : Nat} {z : Int32} {f1 f2 f3 g1 g2 : Nat → Int32} {u : Int32} {R : List ai_C} {k : Int32} (hk : ¬ (0 ≤ k ∧ k < z)) (d : Nat) : ai_Ev an_ms an_lk X 35 (d + 2) 41 [.ref 0, .int k] (ah_fw S z f1 f2 f3 g1 g2 u ++ R) true (.inr ("java/util/NoSuchElementException", (ah_fw S z f1 f2 f3 g1 g2 u ++ R), 1, 6)) := by
  refine ev_of (M := an_X9_needCell) rfl (Nat.le_of_ble_eq_true rfl) ?_
  refine go_n 1 (fr' := (1, [(0, .ref 0), (1, .int k)], [.ref 0], (ah_fw S z f1 f2 f3 g1 g2 u ++ R), true, 0, 0)) rfl ?_
  refine go_get rfl rfl rfl rfl ?_
  refine go_n 1 (fr' := (5, [(0, .ref 0), (1, .int k)], [.int k, .ref 1], (ah_fw S z f1 f2 f3 g1 g2 u ++ R), true, 0, 0)) rfl ?_
  have e1 := pv_X0_has (X := X) (h := (ah_fw S z f1 f2 f3 g1 g2 u ++ R)) (a := 1) rfl k true d
  rw [if_neg hk] at e1
  refine go_call (q := 2) (M1 := an_X0_has) rfl rfl (by decide) rfl ⟨_, rfl⟩ trivial (e1) ?_
  refine go_eq (fr' := (8, [(0, .ref 0), (1, .int k)], [.int 0], (ah_fw S z f1 f2 f3 g1 g2 u ++ R), true, 0, 0)) rfl ?_
  refine go_n 1 (fr' := (11, [(0, .ref 0), (1, .int k)], [], (ah_fw S z f1 f2 f3 g1 g2 u ++ R), true, 0, 0)) rfl ?_
  exact go_th (i := .new 183) (tg := []) rfl rfl
set_option maxRecDepth 10000 in
theorem pv_wind {X : Nat × (Nat → Int32)} {S : Nat} {z : Int32} {f1 f2 f3 g1 g2 : Nat → Int32} {u : Int32} {R : List ai_C} {k : Int32} (h1 : ¬ k < 0) (h2 : k ≤ 4) (d : Nat) : ai_Ev an_ms an_lk X 35 (d + 1) 27 [.ref 0, .int k] (ah_fw S z f1 f2 f3 g1 g2 u ++ R) true (.inl (some (.int 0), ((ah_fw S z f1 f2 f3 g1 g2 u ++ R).set 1 (.inr (0, [.int z, .ref 2, .ref 3, .ref 4, .ref 5, .ref 6, .ref 7, .ref 8, .ref 9, .ref 10, .ref 11, .ref 12, .int k]))), true, 0, 0)) := by
  refine ev_of (M := an_X9_wind) rfl (Nat.le_of_ble_eq_true rfl) ?_
  refine go_n 1 (fr' := (1, [(0, .ref 0), (1, .int k)], [.int k], (ah_fw S z f1 f2 f3 g1 g2 u ++ R), true, 0, 0)) rfl ?_
  refine go_if_lt (t := 9) rfl (fun q1 => absurd q1 h1) (fun q1 => ?_)
  refine go_n 2 (fr' := (6, [(0, .ref 0), (1, .int k)], [.int 4, .int k], (ah_fw S z f1 f2 f3 g1 g2 u ++ R), true, 0, 0)) rfl ?_
  refine go_ic_le (t := 19) rfl (fun q2 => ?_) (fun q2 => absurd h2 q2)
  refine go_n 1 (fr' := (20, [(0, .ref 0), (1, .int k)], [.ref 0], (ah_fw S z f1 f2 f3 g1 g2 u ++ R), true, 0, 0)) rfl ?_
  refine go_get rfl rfl rfl rfl ?_
  refine go_get rfl rfl rfl rfl ?_
  refine go_n 2 (fr' := (28, [(0, .ref 0), (1, .int k), (2, .int 0)], [.ref 0], (ah_fw S z f1 f2 f3 g1 g2 u ++ R), true, 0, 0)) rfl ?_
  refine go_get rfl rfl rfl rfl ?_
  refine go_n 1 (fr' := (32, [(0, .ref 0), (1, .int k), (2, .int 0)], [.int k, .ref 1], (ah_fw S z f1 f2 f3 g1 g2 u ++ R), true, 0, 0)) rfl ?_
  refine go_put rfl rfl rfl (Nat.le_of_ble_eq_true rfl) rfl ?_
  refine go_n 1 (fr' := (36, [(0, .ref 0), (1, .int k), (2, .int 0)], [.int 0], ((ah_fw S z f1 f2 f3 g1 g2 u ++ R).set 1 (.inr (0, [.int z, .ref 2, .ref 3, .ref 4, .ref 5, .ref 6, .ref 7, .ref 8, .ref 9, .ref 10, .ref 11, .ref 12, .int k]))), true, 0, 0)) rfl ?_
  refine go_rt (i := .ireturn) (tg := []) rfl ?_
  rfl
set_option maxRecDepth 10000 in
theorem pv_wind_lo {X : Nat × (Nat → Int32)} {S : Nat} {z : Int32} {f1 f2 f3 g1 g2 : Nat → Int32} {u : Int32} {R : List ai_C} {k : Int32} (h1 : k < 0) (d : Nat) : ai_Ev an_ms an_lk X 35 (d + 1) 27 [.ref 0, .int k] (ah_fw S z f1 f2 f3 g1 g2 u ++ R) true (.inr ("java/lang/IllegalArgumentException", (ah_fw S z f1 f2 f3 g1 g2 u ++ R), 1, 6)) := by
  refine ev_of (M := an_X9_wind) rfl (Nat.le_of_ble_eq_true rfl) ?_
  refine go_n 1 (fr' := (1, [(0, .ref 0), (1, .int k)], [.int k], (ah_fw S z f1 f2 f3 g1 g2 u ++ R), true, 0, 0)) rfl ?_
  refine go_if_lt (t := 9) rfl (fun q1 => ?_) (fun q1 => absurd h1 q1)
  exact go_th (i := .new 105) (tg := []) rfl rfl
set_option maxRecDepth 10000 in
theorem pv_wind_hi {X : Nat × (Nat → Int32)} {S : Nat} {z : Int32} {f1 f2 f3 g1 g2 : Nat → Int32} {u : Int32} {R : List ai_C} {k : Int32} (h1 : ¬ k < 0) (h2 : ¬ k ≤ 4) (d : Nat) : ai_Ev an_ms an_lk X 35 (d + 1) 27 [.ref 0, .int k] (ah_fw S z f1 f2 f3 g1 g2 u ++ R) true (.inr ("java/lang/IllegalArgumentException", (ah_fw S z f1 f2 f3 g1 g2 u ++ R), 1, 6)) := by
  refine ev_of (M := an_X9_wind) rfl (Nat.le_of_ble_eq_true rfl) ?_
  refine go_n 1 (fr' := (1, [(0, .ref 0), (1, .int k)], [.int k], (ah_fw S z f1 f2 f3 g1 g2 u ++ R), true, 0, 0)) rfl ?_
  refine go_if_lt (t := 9) rfl (fun q1 => absurd q1 h1) (fun q1 => ?_)
  refine go_n 2 (fr' := (6, [(0, .ref 0), (1, .int k)], [.int 4, .int k], (ah_fw S z f1 f2 f3 g1 g2 u ++ R), true, 0, 0)) rfl ?_
  refine go_ic_le (t := 19) rfl (fun q2 => absurd q2 h2) (fun q2 => ?_)
  exact go_th (i := .new 105) (tg := []) rfl rfl
set_option maxRecDepth 10000 in
theorem pv_fault {X : Nat × (Nat → Int32)} {S : Nat} {z : Int32} {f1 f2 f3 g1 g2 : Nat → Int32} {u : Int32} {R : List ai_C}  (d : Nat) : ai_Ev an_ms an_lk X 35 (d + 1) 31 [.ref 0] (ah_fw S z f1 f2 f3 g1 g2 u ++ R) true (.inl (some (.int (-1)), (ah_fw S z f1 f2 f3 g1 g2 u ++ R), true, 0, 0)) := by
  refine ev_of (M := an_X9_fault) rfl (Nat.le_of_ble_eq_true rfl) ?_
  refine go_n 1 (fr' := (1, [(0, .ref 0)], [.ref 0], (ah_fw S z f1 f2 f3 g1 g2 u ++ R), true, 0, 0)) rfl ?_
  refine go_get rfl rfl rfl rfl ?_
  refine go_rt (i := .ireturn) (tg := []) rfl ?_
  rfl
theorem pv_X1_has_no {X : Nat × (Nat → Int32)} {h : ai_H} {a : Nat} {v0 v1 v2 v3 v4 v5 v6 v7 : Value} (hh : h[a]? = some (.inr (1, [v0, v1, v2, v3, v4, v5, v6, v7, .int 0]))) (k : Int32) (ex : Bool) (d : Nat) : ai_Ev an_ms an_lk X 35 (d + 1) 7 [.ref a, .int k] h ex (.inl (some (.int 0), h, ex, 0, 0)) := by
  refine ev_of (M := an_X1_has) rfl (Nat.le_of_ble_eq_true rfl) ?_
  refine go_n 1 (fr' := (1, [(0, .ref a), (1, .int k)], [.int k], h, ex, 0, 0)) rfl ?_
  refine go_if_lt (t := 16) rfl (fun q => ?_) (fun q => ?_)
  · refine go_n 1 (fr' := (17, [(0, .ref a), (1, .int k)], [.int 0], h, ex, 0, 0)) rfl ?_
    exact go_rt (i := .ireturn) (tg := []) rfl rfl
  · refine go_n 2 (fr' := (6, [(0, .ref a), (1, .int k)], [.ref a, .int k], h, ex, 0, 0)) rfl ?_
    refine go_get rfl rfl hh rfl ?_
    refine go_ic_ge (t := 16) rfl (fun q2 => ?_) (fun q2 => absurd (Int32.not_lt.mp q) q2)
    refine go_n 1 (fr' := (17, [(0, .ref a), (1, .int k)], [.int 0], h, ex, 0, 0)) rfl ?_
    exact go_rt (i := .ireturn) (tg := []) rfl rfl
set_option maxRecDepth 10000 in
theorem pv_needCrew_no {X : Nat × (Nat → Int32)} {S : Nat} {z : Int32} {f1 f2 f3 g1 g2 : Nat → Int32} {u : Int32} {R : List ai_C} {k : Int32} (d : Nat) : ai_Ev an_ms an_lk X 35 (d + 2) 42 [.ref 0, .int k] (ah_fw S z f1 f2 f3 g1 g2 u ++ R) true (.inr ("java/util/NoSuchElementException", (ah_fw S z f1 f2 f3 g1 g2 u ++ R), 1, 6)) := by
  refine ev_of (M := an_X9_needCrew) rfl (Nat.le_of_ble_eq_true rfl) ?_
  refine go_n 1 (fr' := (1, [(0, .ref 0), (1, .int k)], [.ref 0], (ah_fw S z f1 f2 f3 g1 g2 u ++ R), true, 0, 0)) rfl ?_
  refine go_get rfl rfl rfl rfl ?_
  refine go_n 1 (fr' := (5, [(0, .ref 0), (1, .int k)], [.int k, .ref 13], (ah_fw S z f1 f2 f3 g1 g2 u ++ R), true, 0, 0)) rfl ?_
  have e1 := pv_X1_has_no (X := X) (h := (ah_fw S z f1 f2 f3 g1 g2 u ++ R)) (a := 13) rfl k true d
  refine go_call (q := 7) (M1 := an_X1_has) rfl rfl (by decide) rfl ⟨_, rfl⟩ trivial (e1) ?_
  refine go_eq (fr' := (8, [(0, .ref 0), (1, .int k)], [.int 0], (ah_fw S z f1 f2 f3 g1 g2 u ++ R), true, 0, 0)) rfl ?_
  refine go_n 1 (fr' := (11, [(0, .ref 0), (1, .int k)], [], (ah_fw S z f1 f2 f3 g1 g2 u ++ R), true, 0, 0)) rfl ?_
  exact go_th (i := .new 183) (tg := []) rfl rfl
set_option maxRecDepth 10000 in
theorem pv_breaker_lo {X : Nat × (Nat → Int32)} {S : Nat} {z : Int32} {f1 f2 f3 g1 g2 : Nat → Int32} {u : Int32} {R : List ai_C} {k : Int32} (h1 : k < 0) (d : Nat) : ai_Ev an_ms an_lk X 35 (d + 1) 39 [.ref 0, .int k] (ah_fw S z f1 f2 f3 g1 g2 u ++ R) true (.inr ("java/util/NoSuchElementException", (ah_fw S z f1 f2 f3 g1 g2 u ++ R), 1, 6)) := by
  refine ev_of (M := an_X9_breaker) rfl (Nat.le_of_ble_eq_true rfl) ?_
  refine go_n 1 (fr' := (1, [(0, .ref 0), (1, .int k)], [.int k], (ah_fw S z f1 f2 f3 g1 g2 u ++ R), true, 0, 0)) rfl ?_
  refine go_if_lt (t := 15) rfl (fun q1 => ?_) (fun q1 => absurd h1 q1)
  exact go_th (i := .new 183) (tg := []) rfl rfl
set_option maxRecDepth 10000 in
theorem pv_breaker_hi {X : Nat × (Nat → Int32)} {S : Nat} {z : Int32} {f1 f2 f3 g1 g2 : Nat → Int32} {u : Int32} {R : List ai_C} {k : Int32} (h1 : ¬ k < 0) (d : Nat) : ai_Ev an_ms an_lk X 35 (d + 1) 39 [.ref 0, .int k] (ah_fw S z f1 f2 f3 g1 g2 u ++ R) true (.inr ("java/util/NoSuchElementException", (ah_fw S z f1 f2 f3 g1 g2 u ++ R), 1, 6)) := by
  refine ev_of (M := an_X9_breaker) rfl (Nat.le_of_ble_eq_true rfl) ?_
  refine go_n 1 (fr' := (1, [(0, .ref 0), (1, .int k)], [.int k], (ah_fw S z f1 f2 f3 g1 g2 u ++ R), true, 0, 0)) rfl ?_
  refine go_if_lt (t := 15) rfl (fun q1 => absurd q1 h1) (fun q1 => ?_)
  refine go_n 2 (fr' := (6, [(0, .ref 0), (1, .int k)], [.ref 0, .int k], (ah_fw S z f1 f2 f3 g1 g2 u ++ R), true, 0, 0)) rfl ?_
  refine go_get rfl rfl rfl rfl ?_
  refine go_get rfl rfl rfl rfl ?_
  refine go_ic_lt (t := 25) rfl (fun q2 => absurd q2 h1) (fun q2 => ?_)
  exact go_th (i := .new 183) (tg := []) rfl rfl
set_option maxRecDepth 10000 in
theorem pv_isWard {X : Nat × (Nat → Int32)} {S : Nat} {z : Int32} {f1 f2 f3 g1 g2 : Nat → Int32} {u : Int32} {R : List ai_C} {k : Int32} (h1 : ¬ k < 0) (h2 : ¬ 7 < k) (d : Nat) : ai_Ev an_ms an_lk X 35 (d + 1) 43 [.int k] (ah_fw S z f1 f2 f3 g1 g2 u ++ R) true (.inl (some (.int 1), (ah_fw S z f1 f2 f3 g1 g2 u ++ R), true, 0, 0)) := by
  refine ev_of (M := an_X9_isWard) rfl (Nat.le_of_ble_eq_true rfl) ?_
  refine go_n 1 (fr' := (1, [(0, .int k)], [.int k], (ah_fw S z f1 f2 f3 g1 g2 u ++ R), true, 0, 0)) rfl ?_
  refine go_if_lt (t := 14) rfl (fun q1 => absurd q1 h1) (fun q1 => ?_)
  refine go_n 2 (fr' := (7, [(0, .int k)], [.int 7, .int k], (ah_fw S z f1 f2 f3 g1 g2 u ++ R), true, 0, 0)) rfl ?_
  refine go_ic_gt (t := 14) rfl (fun q2 => absurd q2 h2) (fun q2 => ?_)
  refine go_n 2 (fr' := (15, [(0, .int k)], [.int 1], (ah_fw S z f1 f2 f3 g1 g2 u ++ R), true, 0, 0)) rfl ?_
  refine go_rt (i := .ireturn) (tg := []) rfl ?_
  rfl
set_option maxRecDepth 10000 in
theorem pv_isWard_lo {X : Nat × (Nat → Int32)} {S : Nat} {z : Int32} {f1 f2 f3 g1 g2 : Nat → Int32} {u : Int32} {R : List ai_C} {k : Int32} (h1 : k < 0) (d : Nat) : ai_Ev an_ms an_lk X 35 (d + 1) 43 [.int k] (ah_fw S z f1 f2 f3 g1 g2 u ++ R) true (.inl (some (.int 0), (ah_fw S z f1 f2 f3 g1 g2 u ++ R), true, 0, 0)) := by
  refine ev_of (M := an_X9_isWard) rfl (Nat.le_of_ble_eq_true rfl) ?_
  refine go_n 1 (fr' := (1, [(0, .int k)], [.int k], (ah_fw S z f1 f2 f3 g1 g2 u ++ R), true, 0, 0)) rfl ?_
  refine go_if_lt (t := 14) rfl (fun q1 => ?_) (fun q1 => absurd h1 q1)
  refine go_n 1 (fr' := (15, [(0, .int k)], [.int 0], (ah_fw S z f1 f2 f3 g1 g2 u ++ R), true, 0, 0)) rfl ?_
  refine go_rt (i := .ireturn) (tg := []) rfl ?_
  rfl
set_option maxRecDepth 10000 in
theorem pv_isWard_hi {X : Nat × (Nat → Int32)} {S : Nat} {z : Int32} {f1 f2 f3 g1 g2 : Nat → Int32} {u : Int32} {R : List ai_C} {k : Int32} (h1 : ¬ k < 0) (h2 : 7 < k) (d : Nat) : ai_Ev an_ms an_lk X 35 (d + 1) 43 [.int k] (ah_fw S z f1 f2 f3 g1 g2 u ++ R) true (.inl (some (.int 0), (ah_fw S z f1 f2 f3 g1 g2 u ++ R), true, 0, 0)) := by
  refine ev_of (M := an_X9_isWard) rfl (Nat.le_of_ble_eq_true rfl) ?_
  refine go_n 1 (fr' := (1, [(0, .int k)], [.int k], (ah_fw S z f1 f2 f3 g1 g2 u ++ R), true, 0, 0)) rfl ?_
  refine go_if_lt (t := 14) rfl (fun q1 => absurd q1 h1) (fun q1 => ?_)
  refine go_n 2 (fr' := (7, [(0, .int k)], [.int 7, .int k], (ah_fw S z f1 f2 f3 g1 g2 u ++ R), true, 0, 0)) rfl ?_
  refine go_ic_gt (t := 14) rfl (fun q2 => ?_) (fun q2 => absurd h2 q2)
  refine go_n 1 (fr' := (15, [(0, .int k)], [.int 0], (ah_fw S z f1 f2 f3 g1 g2 u ++ R), true, 0, 0)) rfl ?_
  refine go_rt (i := .ireturn) (tg := []) rfl ?_
  rfl
set_option maxRecDepth 10000 in
theorem pv_house_no {X : Nat × (Nat → Int32)} {S : Nat} {z : Int32} {f1 f2 f3 g1 g2 : Nat → Int32} {u : Int32} {R : List ai_C} {k p1 p2 : Int32} (hk : ¬ (0 ≤ k ∧ k < z)) (d : Nat) : ai_Ev an_ms an_lk X 35 (d + 3) 25 [.ref 0, .int k, .int p1, .int p2] (ah_fw S z f1 f2 f3 g1 g2 u ++ R) true (.inr ("java/util/NoSuchElementException", (ah_fw S z f1 f2 f3 g1 g2 u ++ R), 1, 6)) := by
  refine ev_of (M := an_X9_house) rfl (Nat.le_of_ble_eq_true rfl) ?_
  refine go_n 2 (fr' := (2, [(0, .ref 0), (1, .int k), (2, .int p1), (3, .int p2)], [.int k, .ref 0], (ah_fw S z f1 f2 f3 g1 g2 u ++ R), true, 0, 0)) rfl ?_
  exact go_thr (fr := (2, [(0, .ref 0), (1, .int k), (2, .int p1), (3, .int p2)], [.int k, .ref 0], (ah_fw S z f1 f2 f3 g1 g2 u ++ R), true, 0, 0)) (i := .invokevirtual 86) (tg := []) (q := 41) (As := [.ref 0, .int k]) (rest := []) (M1 := an_X9_needCell) rfl rfl (by decide) rfl ⟨_, rfl⟩ trivial (pv_needCell_no hk d) rfl
set_option maxRecDepth 10000 in
theorem pv_well_no {X : Nat × (Nat → Int32)} {S : Nat} {z : Int32} {f1 f2 f3 g1 g2 : Nat → Int32} {u : Int32} {R : List ai_C} {k p1 : Int32} (hk : ¬ (0 ≤ k ∧ k < z)) (d : Nat) : ai_Ev an_ms an_lk X 35 (d + 3) 26 [.ref 0, .int k, .int p1] (ah_fw S z f1 f2 f3 g1 g2 u ++ R) true (.inr ("java/util/NoSuchElementException", (ah_fw S z f1 f2 f3 g1 g2 u ++ R), 1, 6)) := by
  refine ev_of (M := an_X9_well) rfl (Nat.le_of_ble_eq_true rfl) ?_
  refine go_n 2 (fr' := (2, [(0, .ref 0), (1, .int k), (2, .int p1)], [.int k, .ref 0], (ah_fw S z f1 f2 f3 g1 g2 u ++ R), true, 0, 0)) rfl ?_
  exact go_thr (fr := (2, [(0, .ref 0), (1, .int k), (2, .int p1)], [.int k, .ref 0], (ah_fw S z f1 f2 f3 g1 g2 u ++ R), true, 0, 0)) (i := .invokevirtual 86) (tg := []) (q := 41) (As := [.ref 0, .int k]) (rest := []) (M1 := an_X9_needCell) rfl rfl (by decide) rfl ⟨_, rfl⟩ trivial (pv_needCell_no hk d) rfl
set_option maxRecDepth 10000 in
theorem pv_light_no {X : Nat × (Nat → Int32)} {S : Nat} {z : Int32} {f1 f2 f3 g1 g2 : Nat → Int32} {u : Int32} {R : List ai_C} {k : Int32} (hk : ¬ (0 ≤ k ∧ k < z)) (d : Nat) : ai_Ev an_ms an_lk X 35 (d + 3) 32 [.ref 0, .int k] (ah_fw S z f1 f2 f3 g1 g2 u ++ R) true (.inr ("java/util/NoSuchElementException", (ah_fw S z f1 f2 f3 g1 g2 u ++ R), 1, 6)) := by
  refine ev_of (M := an_X9_light) rfl (Nat.le_of_ble_eq_true rfl) ?_
  refine go_n 2 (fr' := (2, [(0, .ref 0), (1, .int k)], [.int k, .ref 0], (ah_fw S z f1 f2 f3 g1 g2 u ++ R), true, 0, 0)) rfl ?_
  exact go_thr (fr := (2, [(0, .ref 0), (1, .int k)], [.int k, .ref 0], (ah_fw S z f1 f2 f3 g1 g2 u ++ R), true, 0, 0)) (i := .invokevirtual 86) (tg := []) (q := 41) (As := [.ref 0, .int k]) (rest := []) (M1 := an_X9_needCell) rfl rfl (by decide) rfl ⟨_, rfl⟩ trivial (pv_needCell_no hk d) rfl
set_option maxRecDepth 10000 in
theorem pv_cell_no {X : Nat × (Nat → Int32)} {S : Nat} {z : Int32} {f1 f2 f3 g1 g2 : Nat → Int32} {u : Int32} {R : List ai_C} {k p1 : Int32} (hk : ¬ (0 ≤ k ∧ k < z)) (d : Nat) : ai_Ev an_ms an_lk X 35 (d + 3) 36 [.ref 0, .int k, .int p1] (ah_fw S z f1 f2 f3 g1 g2 u ++ R) true (.inr ("java/util/NoSuchElementException", (ah_fw S z f1 f2 f3 g1 g2 u ++ R), 1, 6)) := by
  refine ev_of (M := an_X9_cell) rfl (Nat.le_of_ble_eq_true rfl) ?_
  refine go_n 2 (fr' := (2, [(0, .ref 0), (1, .int k), (2, .int p1)], [.int k, .ref 0], (ah_fw S z f1 f2 f3 g1 g2 u ++ R), true, 0, 0)) rfl ?_
  exact go_thr (fr := (2, [(0, .ref 0), (1, .int k), (2, .int p1)], [.int k, .ref 0], (ah_fw S z f1 f2 f3 g1 g2 u ++ R), true, 0, 0)) (i := .invokevirtual 86) (tg := []) (q := 41) (As := [.ref 0, .int k]) (rest := []) (M1 := an_X9_needCell) rfl rfl (by decide) rfl ⟨_, rfl⟩ trivial (pv_needCell_no hk d) rfl
set_option maxRecDepth 10000 in
theorem pv_breaks_no {X : Nat × (Nat → Int32)} {S : Nat} {z : Int32} {f1 f2 f3 g1 g2 : Nat → Int32} {u : Int32} {R : List ai_C} {k : Int32} (hk : ¬ (0 ≤ k ∧ k < z)) (d : Nat) : ai_Ev an_ms an_lk X 35 (d + 3) 38 [.ref 0, .int k] (ah_fw S z f1 f2 f3 g1 g2 u ++ R) true (.inr ("java/util/NoSuchElementException", (ah_fw S z f1 f2 f3 g1 g2 u ++ R), 1, 6)) := by
  refine ev_of (M := an_X9_breaks) rfl (Nat.le_of_ble_eq_true rfl) ?_
  refine go_n 2 (fr' := (2, [(0, .ref 0), (1, .int k)], [.int k, .ref 0], (ah_fw S z f1 f2 f3 g1 g2 u ++ R), true, 0, 0)) rfl ?_
  exact go_thr (fr := (2, [(0, .ref 0), (1, .int k)], [.int k, .ref 0], (ah_fw S z f1 f2 f3 g1 g2 u ++ R), true, 0, 0)) (i := .invokevirtual 86) (tg := []) (q := 41) (As := [.ref 0, .int k]) (rest := []) (M1 := an_X9_needCell) rfl rfl (by decide) rfl ⟨_, rfl⟩ trivial (pv_needCell_no hk d) rfl
set_option maxRecDepth 10000 in
theorem pv_company_no {X : Nat × (Nat → Int32)} {S : Nat} {z : Int32} {f1 f2 f3 g1 g2 : Nat → Int32} {u : Int32} {R : List ai_C} {p1 p2 k : Int32} (hk : ¬ (0 ≤ k ∧ k < z)) (d : Nat) : ai_Ev an_ms an_lk X 35 (d + 3) 28 [.ref 0, .int p1, .int p2, .int k] (ah_fw S z f1 f2 f3 g1 g2 u ++ R) true (.inr ("java/util/NoSuchElementException", (ah_fw S z f1 f2 f3 g1 g2 u ++ R), 1, 6)) := by
  refine ev_of (M := an_X9_company) rfl (Nat.le_of_ble_eq_true rfl) ?_
  refine go_n 2 (fr' := (2, [(0, .ref 0), (1, .int p1), (2, .int p2), (3, .int k)], [.int k, .ref 0], (ah_fw S z f1 f2 f3 g1 g2 u ++ R), true, 0, 0)) rfl ?_
  exact go_thr (fr := (2, [(0, .ref 0), (1, .int p1), (2, .int p2), (3, .int k)], [.int k, .ref 0], (ah_fw S z f1 f2 f3 g1 g2 u ++ R), true, 0, 0)) (i := .invokevirtual 86) (tg := []) (q := 41) (As := [.ref 0, .int k]) (rest := []) (M1 := an_X9_needCell) rfl rfl (by decide) rfl ⟨_, rfl⟩ trivial (pv_needCell_no hk d) rfl
set_option maxRecDepth 10000 in
theorem pv_order_no {X : Nat × (Nat → Int32)} {S : Nat} {z : Int32} {f1 f2 f3 g1 g2 : Nat → Int32} {u : Int32} {R : List ai_C} {k p1 p2 : Int32} (d : Nat) : ai_Ev an_ms an_lk X 35 (d + 3) 44 [.ref 0, .int k, .int p1, .int p2] (ah_fw S z f1 f2 f3 g1 g2 u ++ R) true (.inr ("java/util/NoSuchElementException", (ah_fw S z f1 f2 f3 g1 g2 u ++ R), 1, 6)) := by
  refine ev_of (M := an_X9_order) rfl (Nat.le_of_ble_eq_true rfl) ?_
  refine go_n 2 (fr' := (2, [(0, .ref 0), (1, .int k), (2, .int p1), (3, .int p2)], [.int k, .ref 0], (ah_fw S z f1 f2 f3 g1 g2 u ++ R), true, 0, 0)) rfl ?_
  exact go_thr (fr := (2, [(0, .ref 0), (1, .int k), (2, .int p1), (3, .int p2)], [.int k, .ref 0], (ah_fw S z f1 f2 f3 g1 g2 u ++ R), true, 0, 0)) (i := .invokevirtual 188) (tg := []) (q := 42) (As := [.ref 0, .int k]) (rest := []) (M1 := an_X9_needCrew) rfl rfl (by decide) rfl ⟨_, rfl⟩ trivial (pv_needCrew_no d) rfl
set_option maxRecDepth 10000 in
theorem pv_of_no {X : Nat × (Nat → Int32)} {S : Nat} {z : Int32} {f1 f2 f3 g1 g2 : Nat → Int32} {u : Int32} {R : List ai_C} {k p1 : Int32} (d : Nat) : ai_Ev an_ms an_lk X 35 (d + 3) 37 [.ref 0, .int k, .int p1] (ah_fw S z f1 f2 f3 g1 g2 u ++ R) true (.inr ("java/util/NoSuchElementException", (ah_fw S z f1 f2 f3 g1 g2 u ++ R), 1, 6)) := by
  refine ev_of (M := an_X9_of) rfl (Nat.le_of_ble_eq_true rfl) ?_
  refine go_n 2 (fr' := (2, [(0, .ref 0), (1, .int k), (2, .int p1)], [.int k, .ref 0], (ah_fw S z f1 f2 f3 g1 g2 u ++ R), true, 0, 0)) rfl ?_
  exact go_thr (fr := (2, [(0, .ref 0), (1, .int k), (2, .int p1)], [.int k, .ref 0], (ah_fw S z f1 f2 f3 g1 g2 u ++ R), true, 0, 0)) (i := .invokevirtual 188) (tg := []) (q := 42) (As := [.ref 0, .int k]) (rest := []) (M1 := an_X9_needCrew) rfl rfl (by decide) rfl ⟨_, rfl⟩ trivial (pv_needCrew_no d) rfl
set_option maxRecDepth 10000 in
theorem pv_send_no {X : Nat × (Nat → Int32)} {S : Nat} {z : Int32} {f1 f2 f3 g1 g2 : Nat → Int32} {u : Int32} {R : List ai_C} {k p1 : Int32} (d : Nat) : ai_Ev an_ms an_lk X 35 (d + 4) 33 [.ref 0, .int k, .int p1] (ah_fw S z f1 f2 f3 g1 g2 u ++ R) true (.inr ("java/util/NoSuchElementException", (ah_fw S z f1 f2 f3 g1 g2 u ++ R), 1, 6)) := by
  refine ev_of (M := an_X9_send) rfl (Nat.le_of_ble_eq_true rfl) ?_
  refine go_n 4 (fr' := (4, [(0, .ref 0), (1, .int k), (2, .int p1)], [.int 1, .int p1, .int k, .ref 0], (ah_fw S z f1 f2 f3 g1 g2 u ++ R), true, 0, 0)) rfl ?_
  exact go_thr (fr := (4, [(0, .ref 0), (1, .int k), (2, .int p1)], [.int 1, .int p1, .int k, .ref 0], (ah_fw S z f1 f2 f3 g1 g2 u ++ R), true, 0, 0)) (i := .invokevirtual 154) (tg := []) (q := 44) (As := [.ref 0, .int k, .int p1, .int 1]) (rest := []) (M1 := an_X9_order) rfl rfl (by decide) rfl ⟨_, rfl⟩ trivial (pv_order_no d) rfl
set_option maxRecDepth 10000 in
theorem pv_pull_no {X : Nat × (Nat → Int32)} {S : Nat} {z : Int32} {f1 f2 f3 g1 g2 : Nat → Int32} {u : Int32} {R : List ai_C} {k p1 : Int32} (d : Nat) : ai_Ev an_ms an_lk X 35 (d + 4) 34 [.ref 0, .int k, .int p1] (ah_fw S z f1 f2 f3 g1 g2 u ++ R) true (.inr ("java/util/NoSuchElementException", (ah_fw S z f1 f2 f3 g1 g2 u ++ R), 1, 6)) := by
  refine ev_of (M := an_X9_pull) rfl (Nat.le_of_ble_eq_true rfl) ?_
  refine go_n 4 (fr' := (4, [(0, .ref 0), (1, .int k), (2, .int p1)], [.int 0, .int p1, .int k, .ref 0], (ah_fw S z f1 f2 f3 g1 g2 u ++ R), true, 0, 0)) rfl ?_
  exact go_thr (fr := (4, [(0, .ref 0), (1, .int k), (2, .int p1)], [.int 0, .int p1, .int k, .ref 0], (ah_fw S z f1 f2 f3 g1 g2 u ++ R), true, 0, 0)) (i := .invokevirtual 154) (tg := []) (q := 44) (As := [.ref 0, .int k, .int p1, .int 0]) (rest := []) (M1 := an_X9_order) rfl rfl (by decide) rfl ⟨_, rfl⟩ trivial (pv_order_no d) rfl
end
section
/-! the law up to its switch -/
theorem pv_L_cell {X : Nat × (Nat → Int32)} {h : ai_H} {j : Nat} (hj : j ≤ 8) (hL : X.1 ≤ 8) (ex : Bool) (d : Nat) : ai_Ev an_ms an_lk X 35 (d + 1) 81 [.ref 1000000, .int (nI j)] h ex (.inl (some (.int (if j < X.1 then X.2 j else 0)), h, ex, 0, 0)) := by
  refine ev_of (M := an_L_cell) rfl (Nat.le_of_ble_eq_true rfl) ?_
  refine go_n 3 (fr' := (3, [(0, .ref 1000000), (1, .int (nI j))], [.int (nI X.1), .int (nI j)], h, ex, 0, 0)) rfl ?_
  refine go_ic_ge (t := 12) rfl (fun q => ?_) (fun q => ?_)
  · refine go_n 1 (fr' := (13, [(0, .ref 1000000), (1, .int (nI j))], [.int 0], h, ex, 0, 0)) rfl ?_
    rw [if_neg (fun w => nI_ge w (by omega) q)]
    exact go_rt (i := .ireturn) (tg := []) rfl rfl
  · have hlt : j < X.1 := by
      rcases Nat.lt_or_ge j X.1 with w | w
      · exact w
      · exact absurd (nI_le w (by omega)) q
    refine go_n 2 (fr' := (8, [(0, .ref 1000000), (1, .int (nI j))], [.int (nI j), .ref 1000000], h, ex, 0, 0)) rfl ?_
    refine go_scr rfl (ai_in_nI hlt (by omega)) ?_
    rw [if_pos hlt, nI_clamp (by omega)]
    refine go_n 1 (fr' := (13, [(0, .ref 1000000), (1, .int (nI j))], [.int (X.2 j)], h, ex, 0, 0)) rfl ?_
    exact go_rt (i := .ireturn) (tg := []) rfl rfl
/-- the world of both objects and the answers' cell -/
abbrev ah_w (S : Nat) (z : Int32) (f1 f2 f3 g1 g2 : Nat → Int32) (u : Int32) (a b : Nat) (s1 s2 : Nat → Int32) (v t : Int32) (lo : Nat → Int64) : ai_H := ah_fw S z f1 f2 f3 g1 g2 u ++ (ah_m a b s1 s2 v t ++ [.inl (3, 1, .inr (.inl lo))])
set_option maxRecDepth 20000 in
set_option maxHeartbeats 4000000 in
/-- both objects are made; the law stands before its loop -/
theorem pl_begin {X : Nat × (Nat → Int32)} (hL : X.1 ≤ 8) (d : Nat) : ∃ (a b S : Nat) (z : Int32) (f1 f2 f3 g1 g2 : Nat → Int32) (ns : Nat), 1 ≤ a ∧ a ≤ 8 ∧ 1 ≤ b ∧ b ≤ 8 ∧ S = a * b ∧ z = nI S ∧ (∀ j, j < S → g1 j = -1) ∧ (∀ j, j < S → g2 j = -1) ∧ ns ≤ 20000 ∧ ∀ o, ag_Go X (d + 3) an_law (43, [(0, .ref 1000000), (1, .ref 0), (2, .ref 49), (3, .ref 85), (4, .int 2)], [], (ah_w S z f1 f2 f3 g1 g2 0 a b (fun j => if j < 64 then -1 else 0) (fun j => if j < 64 then -1 else 0) 0 0 (fun _ => 0)), true, 86, ns) o → ag_Go X (d + 3) an_law (0, [(0, .ref 1000000)], [], [], true, 0, 0) o := by
  obtain ⟨w, hw⟩ : ∃ w : Int32, w = if 0 < X.1 then X.2 0 else 0 := ⟨_, rfl⟩
  obtain ⟨g, hg⟩ : ∃ g : Int32, g = if 1 < X.1 then X.2 1 else 0 := ⟨_, rfl⟩
  have ew : ∀ h : ai_H, ai_Ev an_ms an_lk X 35 (d + 3) 81 [.ref 1000000, .int 0] h true (.inl (some (.int w), h, true, 0, 0)) := fun h => by
    rw [hw]
    exact pv_L_cell (j := 0) (by omega) hL true (d + 2)
  have eg : ∀ h : ai_H, ai_Ev an_ms an_lk X 35 (d + 3) 81 [.ref 1000000, .int 1] h true (.inl (some (.int g), h, true, 0, 0)) := fun h => by
    rw [hg]
    exact pv_L_cell (j := 1) (by omega) hL true (d + 2)
  obtain ⟨a, b, S, z, f1, f2, f3, g1, g2, n1, ha1, ha2, hb1, hb2, ea, eb, hS, hz, hg1, hg2, hn1, e9⟩ := pv_X9_init (X := X) w g d
  refine ⟨a, b, S, z, f1, f2, f3, g1, g2, ((12 + n1) + 56) + 6392 + 1, ha1, ha2, hb1, hb2, hS, hz, hg1, hg2, by omega, fun o k => ?_⟩
  refine go_n 4 (fr' := (6, [(0, .ref 1000000)], [.int 0, .ref 1000000, .ref 0, .ref 0], [.inr (9, [.null, .null, .null, .null, .null, .null, .null, .null, .null, .int 0, .int 0, .int 0])], true, 1, 12)) rfl ?_
  refine go_call (i := .invokestatic 61) (tg := []) (q := 81) (M1 := an_L_cell) rfl rfl (by decide) rfl trivial trivial (ew _) ?_
  refine go_eq (fr' := (9, [(0, .ref 1000000)], [.int w, .ref 0, .ref 0], [.inr (9, [.null, .null, .null, .null, .null, .null, .null, .null, .null, .int 0, .int 0, .int 0])], true, 1, 12)) rfl ?_
  refine go_n 2 (fr' := (11, [(0, .ref 1000000)], [.int 1, .ref 1000000, .int w, .ref 0, .ref 0], [.inr (9, [.null, .null, .null, .null, .null, .null, .null, .null, .null, .int 0, .int 0, .int 0])], true, 1, 12)) rfl ?_
  refine go_call (i := .invokestatic 61) (tg := []) (q := 81) (M1 := an_L_cell) rfl rfl (by decide) rfl trivial trivial (eg _) ?_
  refine go_eq (fr' := (14, [(0, .ref 1000000)], [.int g, .int w, .ref 0, .ref 0], [.inr (9, [.null, .null, .null, .null, .null, .null, .null, .null, .null, .int 0, .int 0, .int 0])], true, 1, 12)) rfl ?_
  refine go_call (i := .invokespecial 66) (tg := []) (q := 24) (M1 := an_X9_init) rfl rfl (by decide) rfl trivial trivial e9 ?_
  refine go_eq (fr' := (17, [(0, .ref 1000000)], [.ref 0], (ah_fw S z f1 f2 f3 g1 g2 0), true, 49, 12 + n1)) rfl ?_
  refine go_n 5 (fr' := (24, [(0, .ref 1000000), (1, .ref 0)], [.int 0, .ref 1000000, .ref 49, .ref 49], ((ah_fw S z f1 f2 f3 g1 g2 0) ++ [.inr (10, [.null, .int 0, .int 0, .int 0, .int 0, .int 0, .int 0, .int 0, .int 0, .int 0, .int 0, .null, .null, .null, .null, .null, .null, .null, .null, .null, .null, .null, .null, .null, .null, .null, .null, .null, .null, .null, .null, .null, .null, .null, .int 0, .int 0, .int 0, .int 0, .int 0, .int 0, .int 0, .int 0, .int 0, .int 0, .null, .null, .null, .null, .null, .null, .null, .null, .int 0, .null, .null, .null])]), true, 50, (12 + n1) + 56)) rfl ?_
  refine go_call (i := .invokestatic 61) (tg := []) (q := 81) (M1 := an_L_cell) rfl rfl (by decide) rfl trivial trivial (ew _) ?_
  refine go_eq (fr' := (27, [(0, .ref 1000000), (1, .ref 0)], [.int w, .ref 49, .ref 49], ((ah_fw S z f1 f2 f3 g1 g2 0) ++ [.inr (10, [.null, .int 0, .int 0, .int 0, .int 0, .int 0, .int 0, .int 0, .int 0, .int 0, .int 0, .null, .null, .null, .null, .null, .null, .null, .null, .null, .null, .null, .null, .null, .null, .null, .null, .null, .null, .null, .null, .null, .null, .null, .int 0, .int 0, .int 0, .int 0, .int 0, .int 0, .int 0, .int 0, .int 0, .int 0, .null, .null, .null, .null, .null, .null, .null, .null, .int 0, .null, .null, .null])]), true, 50, (12 + n1) + 56)) rfl ?_
  refine go_n 2 (fr' := (29, [(0, .ref 1000000), (1, .ref 0)], [.int 1, .ref 1000000, .int w, .ref 49, .ref 49], ((ah_fw S z f1 f2 f3 g1 g2 0) ++ [.inr (10, [.null, .int 0, .int 0, .int 0, .int 0, .int 0, .int 0, .int 0, .int 0, .int 0, .int 0, .null, .null, .null, .null, .null, .null, .null, .null, .null, .null, .null, .null, .null, .null, .null, .null, .null, .null, .null, .null, .null, .null, .null, .int 0, .int 0, .int 0, .int 0, .int 0, .int 0, .int 0, .int 0, .int 0, .int 0, .null, .null, .null, .null, .null, .null, .null, .null, .int 0, .null, .null, .null])]), true, 50, (12 + n1) + 56)) rfl ?_
  refine go_call (i := .invokestatic 61) (tg := []) (q := 81) (M1 := an_L_cell) rfl rfl (by decide) rfl trivial trivial (eg _) ?_
  refine go_eq (fr' := (32, [(0, .ref 1000000), (1, .ref 0)], [.int g, .int w, .ref 49, .ref 49], ((ah_fw S z f1 f2 f3 g1 g2 0) ++ [.inr (10, [.null, .int 0, .int 0, .int 0, .int 0, .int 0, .int 0, .int 0, .int 0, .int 0, .int 0, .null, .null, .null, .null, .null, .null, .null, .null, .null, .null, .null, .null, .null, .null, .null, .null, .null, .null, .null, .null, .null, .null, .null, .int 0, .int 0, .int 0, .int 0, .int 0, .int 0, .int 0, .int 0, .int 0, .int 0, .null, .null, .null, .null, .null, .null, .null, .null, .int 0, .null, .null, .null])]), true, 50, (12 + n1) + 56)) rfl ?_
  refine go_call (i := .invokespecial 71) (tg := []) (q := 51) (M1 := an_X10_init) rfl rfl (by decide) rfl trivial trivial (pv_X10_init ea eb (d + 2)) ?_
  refine go_eq (fr' := (35, [(0, .ref 1000000), (1, .ref 0)], [.ref 49], ((ah_fw S z f1 f2 f3 g1 g2 0) ++ ah_m a b (fun j => if j < 64 then -1 else 0) (fun j => if j < 64 then -1 else 0) 0 0), true, 85, ((12 + n1) + 56) + 6392)) rfl ?_
  refine go_n 2 (fr' := (37, [(0, .ref 1000000), (1, .ref 0), (2, .ref 49)], [.int 1], ((ah_fw S z f1 f2 f3 g1 g2 0) ++ ah_m a b (fun j => if j < 64 then -1 else 0) (fun j => if j < 64 then -1 else 0) 0 0), true, 85, ((12 + n1) + 56) + 6392)) rfl ?_
  refine go_nwa (N := 1) rfl rfl (by decide) rfl (Nat.le_of_ble_eq_true rfl) ?_
  refine go_n 3 (fr' := (43, [(0, .ref 1000000), (1, .ref 0), (2, .ref 49), (3, .ref 85), (4, .int 2)], [], (ah_w S z f1 f2 f3 g1 g2 0 a b (fun j => if j < 64 then -1 else 0) (fun j => if j < 64 then -1 else 0) 0 0 (fun _ => 0)), true, 86, (((12 + n1) + 56) + 6392) + 1)) rfl ?_
  exact k
end
section
/-! a call that leaves it open, as it was, whether the size is known -/
theorem go_callS {X : Nat × (Nat → Int32)} {d : Nat} {M : ai_M} {o : ai_O} {fr : ai_F} {i : Instr} {tg : List Nat} (h1 : ai_as M.co fr.1 = some (i, tg)) {q : Nat} {As rest : List Value} {M1 : ai_M} {v : Option Value} {h' : ai_H} {nc' ns' : Nat} (hca : ai_ca (an_lk M.cn) i fr.2.2.1 fr.2.2.2.1 = some (q, As, rest)) (hq0 : q ≠ 0) (hM1 : an_ms[q]? = some M1) (hrc : ai_rc i As fr.2.2.2.1 M1.cn) (hni : ai_ni i (.inl (v, h', fr.2.2.2.2.1, nc', ns'))) (hcl : ai_Ev an_ms an_lk X 35 d q As fr.2.2.2.1 fr.2.2.2.2.1 (.inl (v, h', fr.2.2.2.2.1, nc', ns'))) (k : ag_Go X d M (fr.1 + 3, fr.2.1, v.toList ++ rest, h', fr.2.2.2.2.1, fr.2.2.2.2.2.1 + nc', fr.2.2.2.2.2.2 + ns') o) : ag_Go X d M fr o := by
  refine go_call h1 hca hq0 hM1 hrc hni hcl ?_
  obtain ⟨pc, lv, st, h, ex, nc, ns⟩ := fr
  simp only [ai_af, Bool.and_self]
  exact k
end
section
/-! the reference's methods on a new object -/
set_option maxRecDepth 20000 in
theorem pm_thrown {X : Nat × (Nat → Int32)} {c0 c1 c2 c3 c4 c5 c6 c7 c8 c9 c10 c11 c12 c13 c14 c15 c16 c17 c18 c19 c20 c21 c22 c23 c24 c25 c26 c27 c28 c29 c30 c31 c32 c33 c34 c35 c36 c37 c38 c39 c40 c41 c42 c43 c44 c45 c46 c47 c48 : ai_C} {a b : Nat} {s1 s2 : Nat → Int32} {v t : Int32} {R : List ai_C} {ex : Bool}  (d : Nat) : ai_Ev an_ms an_lk X 35 (d + 1) 52 [.ref 49] ([c0, c1, c2, c3, c4, c5, c6, c7, c8, c9, c10, c11, c12, c13, c14, c15, c16, c17, c18, c19, c20, c21, c22, c23, c24, c25, c26, c27, c28, c29, c30, c31, c32, c33, c34, c35, c36, c37, c38, c39, c40, c41, c42, c43, c44, c45, c46, c47, c48] ++ (ah_m a b s1 s2 v t ++ R)) ex (.inl (some (.int t), ([c0, c1, c2, c3, c4, c5, c6, c7, c8, c9, c10, c11, c12, c13, c14, c15, c16, c17, c18, c19, c20, c21, c22, c23, c24, c25, c26, c27, c28, c29, c30, c31, c32, c33, c34, c35, c36, c37, c38, c39, c40, c41, c42, c43, c44, c45, c46, c47, c48] ++ (ah_m a b s1 s2 v t ++ R)), ex, 0, 0)) := by
  refine ev_of (M := an_X10_thrown) rfl (Nat.le_of_ble_eq_true rfl) ?_
  refine go_n 1 (fr' := (1, [(0, .ref 49)], [.ref 49], ([c0, c1, c2, c3, c4, c5, c6, c7, c8, c9, c10, c11, c12, c13, c14, c15, c16, c17, c18, c19, c20, c21, c22, c23, c24, c25, c26, c27, c28, c29, c30, c31, c32, c33, c34, c35, c36, c37, c38, c39, c40, c41, c42, c43, c44, c45, c46, c47, c48] ++ (ah_m a b s1 s2 v t ++ R)), ex, 0, 0)) rfl ?_
  refine go_get rfl rfl rfl rfl ?_
  refine go_rt (i := .ireturn) (tg := []) rfl ?_
  rfl
set_option maxRecDepth 20000 in
theorem pm_fail {X : Nat × (Nat → Int32)} {c0 c1 c2 c3 c4 c5 c6 c7 c8 c9 c10 c11 c12 c13 c14 c15 c16 c17 c18 c19 c20 c21 c22 c23 c24 c25 c26 c27 c28 c29 c30 c31 c32 c33 c34 c35 c36 c37 c38 c39 c40 c41 c42 c43 c44 c45 c46 c47 c48 : ai_C} {a b : Nat} {s1 s2 : Nat → Int32} {v t : Int32} {R : List ai_C} {ex : Bool}  (d : Nat) : ai_Ev an_ms an_lk X 35 (d + 1) 53 [.ref 49] ([c0, c1, c2, c3, c4, c5, c6, c7, c8, c9, c10, c11, c12, c13, c14, c15, c16, c17, c18, c19, c20, c21, c22, c23, c24, c25, c26, c27, c28, c29, c30, c31, c32, c33, c34, c35, c36, c37, c38, c39, c40, c41, c42, c43, c44, c45, c46, c47, c48] ++ (ah_m a b s1 s2 v t ++ R)) ex (.inl (some (.int 0), ([c0, c1, c2, c3, c4, c5, c6, c7, c8, c9, c10, c11, c12, c13, c14, c15, c16, c17, c18, c19, c20, c21, c22, c23, c24, c25, c26, c27, c28, c29, c30, c31, c32, c33, c34, c35, c36, c37, c38, c39, c40, c41, c42, c43, c44, c45, c46, c47, c48] ++ (ah_m a b s1 s2 v 1 ++ R)), ex, 0, 0)) := by
  refine ev_of (M := an_X10_fail) rfl (Nat.le_of_ble_eq_true rfl) ?_
  refine go_n 2 (fr' := (2, [(0, .ref 49)], [.int 1, .ref 49], ([c0, c1, c2, c3, c4, c5, c6, c7, c8, c9, c10, c11, c12, c13, c14, c15, c16, c17, c18, c19, c20, c21, c22, c23, c24, c25, c26, c27, c28, c29, c30, c31, c32, c33, c34, c35, c36, c37, c38, c39, c40, c41, c42, c43, c44, c45, c46, c47, c48] ++ (ah_m a b s1 s2 v t ++ R)), ex, 0, 0)) rfl ?_
  refine go_put rfl rfl rfl (Nat.le_of_ble_eq_true rfl) rfl ?_
  refine go_n 1 (fr' := (6, [(0, .ref 49)], [.int 0], (([c0, c1, c2, c3, c4, c5, c6, c7, c8, c9, c10, c11, c12, c13, c14, c15, c16, c17, c18, c19, c20, c21, c22, c23, c24, c25, c26, c27, c28, c29, c30, c31, c32, c33, c34, c35, c36, c37, c38, c39, c40, c41, c42, c43, c44, c45, c46, c47, c48] ++ (ah_m a b s1 s2 v t ++ R)).set 49 (.inr (10, [.ref 50, .int 1, .int (nI a), .int (nI b), .int v, .int 0, .int 0, .int 0, .int 0, .int (-1), .int 0, .ref 51, .ref 52, .ref 53, .ref 54, .ref 55, .ref 56, .ref 57, .ref 58, .ref 59, .ref 60, .ref 61, .ref 62, .ref 63, .ref 64, .ref 65, .ref 66, .ref 67, .ref 68, .ref 69, .ref 70, .ref 71, .ref 72, .ref 73, .int 0, .int 0, .int 0, .int 0, .int 0, .int 0, .int 0, .int 0, .int 0, .int 0, .ref 74, .ref 75, .ref 76, .ref 77, .ref 78, .ref 79, .ref 80, .ref 81, .int 0, .ref 82, .ref 83, .ref 84]))), ex, 0, 0)) rfl ?_
  refine go_rt (i := .ireturn) (tg := []) rfl ?_
  rfl
set_option maxRecDepth 20000 in
theorem pm_fault {X : Nat × (Nat → Int32)} {c0 c1 c2 c3 c4 c5 c6 c7 c8 c9 c10 c11 c12 c13 c14 c15 c16 c17 c18 c19 c20 c21 c22 c23 c24 c25 c26 c27 c28 c29 c30 c31 c32 c33 c34 c35 c36 c37 c38 c39 c40 c41 c42 c43 c44 c45 c46 c47 c48 : ai_C} {a b : Nat} {s1 s2 : Nat → Int32} {v t : Int32} {R : List ai_C} {ex : Bool}  (d : Nat) : ai_Ev an_ms an_lk X 35 (d + 1) 65 [.ref 49] ([c0, c1, c2, c3, c4, c5, c6, c7, c8, c9, c10, c11, c12, c13, c14, c15, c16, c17, c18, c19, c20, c21, c22, c23, c24, c25, c26, c27, c28, c29, c30, c31, c32, c33, c34, c35, c36, c37, c38, c39, c40, c41, c42, c43, c44, c45, c46, c47, c48] ++ (ah_m a b s1 s2 v t ++ R)) ex (.inl (some (.int (-1)), ([c0, c1, c2, c3, c4, c5, c6, c7, c8, c9, c10, c11, c12, c13, c14, c15, c16, c17, c18, c19, c20, c21, c22, c23, c24, c25, c26, c27, c28, c29, c30, c31, c32, c33, c34, c35, c36, c37, c38, c39, c40, c41, c42, c43, c44, c45, c46, c47, c48] ++ (ah_m a b s1 s2 v 0 ++ R)), ex, 0, 0)) := by
  refine ev_of (M := an_X10_fault) rfl (Nat.le_of_ble_eq_true rfl) ?_
  refine go_n 2 (fr' := (2, [(0, .ref 49)], [.int 0, .ref 49], ([c0, c1, c2, c3, c4, c5, c6, c7, c8, c9, c10, c11, c12, c13, c14, c15, c16, c17, c18, c19, c20, c21, c22, c23, c24, c25, c26, c27, c28, c29, c30, c31, c32, c33, c34, c35, c36, c37, c38, c39, c40, c41, c42, c43, c44, c45, c46, c47, c48] ++ (ah_m a b s1 s2 v t ++ R)), ex, 0, 0)) rfl ?_
  refine go_put rfl rfl rfl (Nat.le_of_ble_eq_true rfl) rfl ?_
  refine go_n 1 (fr' := (6, [(0, .ref 49)], [.ref 49], (([c0, c1, c2, c3, c4, c5, c6, c7, c8, c9, c10, c11, c12, c13, c14, c15, c16, c17, c18, c19, c20, c21, c22, c23, c24, c25, c26, c27, c28, c29, c30, c31, c32, c33, c34, c35, c36, c37, c38, c39, c40, c41, c42, c43, c44, c45, c46, c47, c48] ++ (ah_m a b s1 s2 v t ++ R)).set 49 (.inr (10, [.ref 50, .int 0, .int (nI a), .int (nI b), .int v, .int 0, .int 0, .int 0, .int 0, .int (-1), .int 0, .ref 51, .ref 52, .ref 53, .ref 54, .ref 55, .ref 56, .ref 57, .ref 58, .ref 59, .ref 60, .ref 61, .ref 62, .ref 63, .ref 64, .ref 65, .ref 66, .ref 67, .ref 68, .ref 69, .ref 70, .ref 71, .ref 72, .ref 73, .int 0, .int 0, .int 0, .int 0, .int 0, .int 0, .int 0, .int 0, .int 0, .int 0, .ref 74, .ref 75, .ref 76, .ref 77, .ref 78, .ref 79, .ref 80, .ref 81, .int 0, .ref 82, .ref 83, .ref 84]))), ex, 0, 0)) rfl ?_
  refine go_get rfl rfl rfl rfl ?_
  refine go_rt (i := .ireturn) (tg := []) rfl ?_
  rfl
set_option maxRecDepth 20000 in
theorem pm_isCompany {X : Nat × (Nat → Int32)} {c0 c1 c2 c3 c4 c5 c6 c7 c8 c9 c10 c11 c12 c13 c14 c15 c16 c17 c18 c19 c20 c21 c22 c23 c24 c25 c26 c27 c28 c29 c30 c31 c32 c33 c34 c35 c36 c37 c38 c39 c40 c41 c42 c43 c44 c45 c46 c47 c48 : ai_C} {a b : Nat} {s1 s2 : Nat → Int32} {v t : Int32} {R : List ai_C} {ex : Bool} {k : Int32} (d : Nat) : ai_Ev an_ms an_lk X 35 (d + 1) 55 [.ref 49, .int k] ([c0, c1, c2, c3, c4, c5, c6, c7, c8, c9, c10, c11, c12, c13, c14, c15, c16, c17, c18, c19, c20, c21, c22, c23, c24, c25, c26, c27, c28, c29, c30, c31, c32, c33, c34, c35, c36, c37, c38, c39, c40, c41, c42, c43, c44, c45, c46, c47, c48] ++ (ah_m a b s1 s2 v t ++ R)) ex (.inl (some (.int 0), ([c0, c1, c2, c3, c4, c5, c6, c7, c8, c9, c10, c11, c12, c13, c14, c15, c16, c17, c18, c19, c20, c21, c22, c23, c24, c25, c26, c27, c28, c29, c30, c31, c32, c33, c34, c35, c36, c37, c38, c39, c40, c41, c42, c43, c44, c45, c46, c47, c48] ++ (ah_m a b s1 s2 v t ++ R)), ex, 0, 0)) := by
  refine ev_of (M := an_X10_isCompany) rfl (Nat.le_of_ble_eq_true rfl) ?_
  refine go_n 1 (fr' := (1, [(0, .ref 49), (1, .int k)], [.int k], ([c0, c1, c2, c3, c4, c5, c6, c7, c8, c9, c10, c11, c12, c13, c14, c15, c16, c17, c18, c19, c20, c21, c22, c23, c24, c25, c26, c27, c28, c29, c30, c31, c32, c33, c34, c35, c36, c37, c38, c39, c40, c41, c42, c43, c44, c45, c46, c47, c48] ++ (ah_m a b s1 s2 v t ++ R)), ex, 0, 0)) rfl ?_
  refine go_if_lt (t := 16) rfl (fun q1 => ?_) (fun q1 => ?_)
  · refine go_n 1 (fr' := (17, [(0, .ref 49), (1, .int k)], [.int 0], ([c0, c1, c2, c3, c4, c5, c6, c7, c8, c9, c10, c11, c12, c13, c14, c15, c16, c17, c18, c19, c20, c21, c22, c23, c24, c25, c26, c27, c28, c29, c30, c31, c32, c33, c34, c35, c36, c37, c38, c39, c40, c41, c42, c43, c44, c45, c46, c47, c48] ++ (ah_m a b s1 s2 v t ++ R)), ex, 0, 0)) rfl ?_
    refine go_rt (i := .ireturn) (tg := []) rfl ?_
    rfl
  · refine go_n 2 (fr' := (6, [(0, .ref 49), (1, .int k)], [.ref 49, .int k], ([c0, c1, c2, c3, c4, c5, c6, c7, c8, c9, c10, c11, c12, c13, c14, c15, c16, c17, c18, c19, c20, c21, c22, c23, c24, c25, c26, c27, c28, c29, c30, c31, c32, c33, c34, c35, c36, c37, c38, c39, c40, c41, c42, c43, c44, c45, c46, c47, c48] ++ (ah_m a b s1 s2 v t ++ R)), ex, 0, 0)) rfl ?_
    refine go_get rfl rfl rfl rfl ?_
    refine go_ic_ge (t := 16) rfl (fun q2 => ?_) (fun q2 => absurd (Int32.not_lt.mp q1) q2)
    refine go_n 1 (fr' := (17, [(0, .ref 49), (1, .int k)], [.int 0], ([c0, c1, c2, c3, c4, c5, c6, c7, c8, c9, c10, c11, c12, c13, c14, c15, c16, c17, c18, c19, c20, c21, c22, c23, c24, c25, c26, c27, c28, c29, c30, c31, c32, c33, c34, c35, c36, c37, c38, c39, c40, c41, c42, c43, c44, c45, c46, c47, c48] ++ (ah_m a b s1 s2 v t ++ R)), ex, 0, 0)) rfl ?_
    refine go_rt (i := .ireturn) (tg := []) rfl ?_
    rfl
set_option maxRecDepth 20000 in
theorem pm_of {X : Nat × (Nat → Int32)} {c0 c1 c2 c3 c4 c5 c6 c7 c8 c9 c10 c11 c12 c13 c14 c15 c16 c17 c18 c19 c20 c21 c22 c23 c24 c25 c26 c27 c28 c29 c30 c31 c32 c33 c34 c35 c36 c37 c38 c39 c40 c41 c42 c43 c44 c45 c46 c47 c48 : ai_C} {a b : Nat} {s1 s2 : Nat → Int32} {v t : Int32} {R : List ai_C} {ex : Bool} {k p1 : Int32} (d : Nat) : ai_Ev an_ms an_lk X 35 (d + 2) 76 [.ref 49, .int k, .int p1] ([c0, c1, c2, c3, c4, c5, c6, c7, c8, c9, c10, c11, c12, c13, c14, c15, c16, c17, c18, c19, c20, c21, c22, c23, c24, c25, c26, c27, c28, c29, c30, c31, c32, c33, c34, c35, c36, c37, c38, c39, c40, c41, c42, c43, c44, c45, c46, c47, c48] ++ (ah_m a b s1 s2 v t ++ R)) ex (.inl (some (.int 0), ([c0, c1, c2, c3, c4, c5, c6, c7, c8, c9, c10, c11, c12, c13, c14, c15, c16, c17, c18, c19, c20, c21, c22, c23, c24, c25, c26, c27, c28, c29, c30, c31, c32, c33, c34, c35, c36, c37, c38, c39, c40, c41, c42, c43, c44, c45, c46, c47, c48] ++ (ah_m a b s1 s2 v 1 ++ R)), ex, 0, 0)) := by
  refine ev_of (M := an_X10_of) rfl (Nat.le_of_ble_eq_true rfl) ?_
  refine go_n 2 (fr' := (2, [(0, .ref 49), (1, .int k), (2, .int p1)], [.int 0, .ref 49], ([c0, c1, c2, c3, c4, c5, c6, c7, c8, c9, c10, c11, c12, c13, c14, c15, c16, c17, c18, c19, c20, c21, c22, c23, c24, c25, c26, c27, c28, c29, c30, c31, c32, c33, c34, c35, c36, c37, c38, c39, c40, c41, c42, c43, c44, c45, c46, c47, c48] ++ (ah_m a b s1 s2 v t ++ R)), ex, 0, 0)) rfl ?_
  refine go_put rfl rfl rfl (Nat.le_of_ble_eq_true rfl) rfl ?_
  refine go_n 2 (fr' := (7, [(0, .ref 49), (1, .int k), (2, .int p1)], [.int k, .ref 49], (([c0, c1, c2, c3, c4, c5, c6, c7, c8, c9, c10, c11, c12, c13, c14, c15, c16, c17, c18, c19, c20, c21, c22, c23, c24, c25, c26, c27, c28, c29, c30, c31, c32, c33, c34, c35, c36, c37, c38, c39, c40, c41, c42, c43, c44, c45, c46, c47, c48] ++ (ah_m a b s1 s2 v t ++ R)).set 49 (.inr (10, [.ref 50, .int 0, .int (nI a), .int (nI b), .int v, .int 0, .int 0, .int 0, .int 0, .int (-1), .int 0, .ref 51, .ref 52, .ref 53, .ref 54, .ref 55, .ref 56, .ref 57, .ref 58, .ref 59, .ref 60, .ref 61, .ref 62, .ref 63, .ref 64, .ref 65, .ref 66, .ref 67, .ref 68, .ref 69, .ref 70, .ref 71, .ref 72, .ref 73, .int 0, .int 0, .int 0, .int 0, .int 0, .int 0, .int 0, .int 0, .int 0, .int 0, .ref 74, .ref 75, .ref 76, .ref 77, .ref 78, .ref 79, .ref 80, .ref 81, .int 0, .ref 82, .ref 83, .ref 84]))), ex, 0, 0)) rfl ?_
  refine go_callS (q := 55) (M1 := an_X10_isCompany) rfl rfl (by decide) rfl ⟨_, rfl⟩ trivial (pm_isCompany d) ?_
  refine go_eq (fr' := (10, [(0, .ref 49), (1, .int k), (2, .int p1)], [.int 0], ([c0, c1, c2, c3, c4, c5, c6, c7, c8, c9, c10, c11, c12, c13, c14, c15, c16, c17, c18, c19, c20, c21, c22, c23, c24, c25, c26, c27, c28, c29, c30, c31, c32, c33, c34, c35, c36, c37, c38, c39, c40, c41, c42, c43, c44, c45, c46, c47, c48] ++ (ah_m a b s1 s2 v 0 ++ R)), ex, 0, 0)) rfl ?_
  refine go_n 2 (fr' := (14, [(0, .ref 49), (1, .int k), (2, .int p1)], [.ref 49], ([c0, c1, c2, c3, c4, c5, c6, c7, c8, c9, c10, c11, c12, c13, c14, c15, c16, c17, c18, c19, c20, c21, c22, c23, c24, c25, c26, c27, c28, c29, c30, c31, c32, c33, c34, c35, c36, c37, c38, c39, c40, c41, c42, c43, c44, c45, c46, c47, c48] ++ (ah_m a b s1 s2 v 0 ++ R)), ex, 0, 0)) rfl ?_
  refine go_callS (q := 53) (M1 := an_X10_fail) rfl rfl (by decide) rfl ⟨_, rfl⟩ trivial (pm_fail d) ?_
  refine go_eq (fr' := (17, [(0, .ref 49), (1, .int k), (2, .int p1)], [.int 0], ([c0, c1, c2, c3, c4, c5, c6, c7, c8, c9, c10, c11, c12, c13, c14, c15, c16, c17, c18, c19, c20, c21, c22, c23, c24, c25, c26, c27, c28, c29, c30, c31, c32, c33, c34, c35, c36, c37, c38, c39, c40, c41, c42, c43, c44, c45, c46, c47, c48] ++ (ah_m a b s1 s2 v 1 ++ R)), ex, 0, 0)) rfl ?_
  refine go_rt (i := .ireturn) (tg := []) rfl ?_
  rfl
set_option maxRecDepth 20000 in
theorem pm_aim {X : Nat × (Nat → Int32)} {c0 c1 c2 c3 c4 c5 c6 c7 c8 c9 c10 c11 c12 c13 c14 c15 c16 c17 c18 c19 c20 c21 c22 c23 c24 c25 c26 c27 c28 c29 c30 c31 c32 c33 c34 c35 c36 c37 c38 c39 c40 c41 c42 c43 c44 c45 c46 c47 c48 : ai_C} {a b : Nat} {s1 s2 : Nat → Int32} {v t : Int32} {R : List ai_C} {ex : Bool} {k p1 p2 : Int32} (d : Nat) : ai_Ev an_ms an_lk X 35 (d + 2) 69 [.ref 49, .int k, .int p1, .int p2] ([c0, c1, c2, c3, c4, c5, c6, c7, c8, c9, c10, c11, c12, c13, c14, c15, c16, c17, c18, c19, c20, c21, c22, c23, c24, c25, c26, c27, c28, c29, c30, c31, c32, c33, c34, c35, c36, c37, c38, c39, c40, c41, c42, c43, c44, c45, c46, c47, c48] ++ (ah_m a b s1 s2 v t ++ R)) ex (.inl (some (.int 0), ([c0, c1, c2, c3, c4, c5, c6, c7, c8, c9, c10, c11, c12, c13, c14, c15, c16, c17, c18, c19, c20, c21, c22, c23, c24, c25, c26, c27, c28, c29, c30, c31, c32, c33, c34, c35, c36, c37, c38, c39, c40, c41, c42, c43, c44, c45, c46, c47, c48] ++ (ah_m a b s1 s2 v 1 ++ R)), ex, 0, 0)) := by
  refine ev_of (M := an_X10_aim) rfl (Nat.le_of_ble_eq_true rfl) ?_
  refine go_n 2 (fr' := (2, [(0, .ref 49), (1, .int k), (2, .int p1), (3, .int p2)], [.int 0, .ref 49], ([c0, c1, c2, c3, c4, c5, c6, c7, c8, c9, c10, c11, c12, c13, c14, c15, c16, c17, c18, c19, c20, c21, c22, c23, c24, c25, c26, c27, c28, c29, c30, c31, c32, c33, c34, c35, c36, c37, c38, c39, c40, c41, c42, c43, c44, c45, c46, c47, c48] ++ (ah_m a b s1 s2 v t ++ R)), ex, 0, 0)) rfl ?_
  refine go_put rfl rfl rfl (Nat.le_of_ble_eq_true rfl) rfl ?_
  refine go_n 2 (fr' := (7, [(0, .ref 49), (1, .int k), (2, .int p1), (3, .int p2)], [.int k, .ref 49], (([c0, c1, c2, c3, c4, c5, c6, c7, c8, c9, c10, c11, c12, c13, c14, c15, c16, c17, c18, c19, c20, c21, c22, c23, c24, c25, c26, c27, c28, c29, c30, c31, c32, c33, c34, c35, c36, c37, c38, c39, c40, c41, c42, c43, c44, c45, c46, c47, c48] ++ (ah_m a b s1 s2 v t ++ R)).set 49 (.inr (10, [.ref 50, .int 0, .int (nI a), .int (nI b), .int v, .int 0, .int 0, .int 0, .int 0, .int (-1), .int 0, .ref 51, .ref 52, .ref 53, .ref 54, .ref 55, .ref 56, .ref 57, .ref 58, .ref 59, .ref 60, .ref 61, .ref 62, .ref 63, .ref 64, .ref 65, .ref 66, .ref 67, .ref 68, .ref 69, .ref 70, .ref 71, .ref 72, .ref 73, .int 0, .int 0, .int 0, .int 0, .int 0, .int 0, .int 0, .int 0, .int 0, .int 0, .ref 74, .ref 75, .ref 76, .ref 77, .ref 78, .ref 79, .ref 80, .ref 81, .int 0, .ref 82, .ref 83, .ref 84]))), ex, 0, 0)) rfl ?_
  refine go_callS (q := 55) (M1 := an_X10_isCompany) rfl rfl (by decide) rfl ⟨_, rfl⟩ trivial (pm_isCompany d) ?_
  refine go_eq (fr' := (10, [(0, .ref 49), (1, .int k), (2, .int p1), (3, .int p2)], [.int 0], ([c0, c1, c2, c3, c4, c5, c6, c7, c8, c9, c10, c11, c12, c13, c14, c15, c16, c17, c18, c19, c20, c21, c22, c23, c24, c25, c26, c27, c28, c29, c30, c31, c32, c33, c34, c35, c36, c37, c38, c39, c40, c41, c42, c43, c44, c45, c46, c47, c48] ++ (ah_m a b s1 s2 v 0 ++ R)), ex, 0, 0)) rfl ?_
  refine go_n 2 (fr' := (22, [(0, .ref 49), (1, .int k), (2, .int p1), (3, .int p2)], [.ref 49], ([c0, c1, c2, c3, c4, c5, c6, c7, c8, c9, c10, c11, c12, c13, c14, c15, c16, c17, c18, c19, c20, c21, c22, c23, c24, c25, c26, c27, c28, c29, c30, c31, c32, c33, c34, c35, c36, c37, c38, c39, c40, c41, c42, c43, c44, c45, c46, c47, c48] ++ (ah_m a b s1 s2 v 0 ++ R)), ex, 0, 0)) rfl ?_
  refine go_callS (q := 53) (M1 := an_X10_fail) rfl rfl (by decide) rfl ⟨_, rfl⟩ trivial (pm_fail d) ?_
  refine go_eq (fr' := (25, [(0, .ref 49), (1, .int k), (2, .int p1), (3, .int p2)], [.int 0], ([c0, c1, c2, c3, c4, c5, c6, c7, c8, c9, c10, c11, c12, c13, c14, c15, c16, c17, c18, c19, c20, c21, c22, c23, c24, c25, c26, c27, c28, c29, c30, c31, c32, c33, c34, c35, c36, c37, c38, c39, c40, c41, c42, c43, c44, c45, c46, c47, c48] ++ (ah_m a b s1 s2 v 1 ++ R)), ex, 0, 0)) rfl ?_
  refine go_n 2 (fr' := (27, [(0, .ref 49), (1, .int k), (2, .int p1), (3, .int p2)], [.int 0], ([c0, c1, c2, c3, c4, c5, c6, c7, c8, c9, c10, c11, c12, c13, c14, c15, c16, c17, c18, c19, c20, c21, c22, c23, c24, c25, c26, c27, c28, c29, c30, c31, c32, c33, c34, c35, c36, c37, c38, c39, c40, c41, c42, c43, c44, c45, c46, c47, c48] ++ (ah_m a b s1 s2 v 1 ++ R)), ex, 0, 0)) rfl ?_
  refine go_rt (i := .ireturn) (tg := []) rfl ?_
  rfl
set_option maxRecDepth 20000 in
theorem pm_send {X : Nat × (Nat → Int32)} {c0 c1 c2 c3 c4 c5 c6 c7 c8 c9 c10 c11 c12 c13 c14 c15 c16 c17 c18 c19 c20 c21 c22 c23 c24 c25 c26 c27 c28 c29 c30 c31 c32 c33 c34 c35 c36 c37 c38 c39 c40 c41 c42 c43 c44 c45 c46 c47 c48 : ai_C} {a b : Nat} {s1 s2 : Nat → Int32} {v t : Int32} {R : List ai_C} {ex : Bool} {k p1 : Int32} (d : Nat) : ai_Ev an_ms an_lk X 35 (d + 3) 70 [.ref 49, .int k, .int p1] ([c0, c1, c2, c3, c4, c5, c6, c7, c8, c9, c10, c11, c12, c13, c14, c15, c16, c17, c18, c19, c20, c21, c22, c23, c24, c25, c26, c27, c28, c29, c30, c31, c32, c33, c34, c35, c36, c37, c38, c39, c40, c41, c42, c43, c44, c45, c46, c47, c48] ++ (ah_m a b s1 s2 v t ++ R)) ex (.inl (some (.int 0), ([c0, c1, c2, c3, c4, c5, c6, c7, c8, c9, c10, c11, c12, c13, c14, c15, c16, c17, c18, c19, c20, c21, c22, c23, c24, c25, c26, c27, c28, c29, c30, c31, c32, c33, c34, c35, c36, c37, c38, c39, c40, c41, c42, c43, c44, c45, c46, c47, c48] ++ (ah_m a b s1 s2 v 1 ++ R)), ex, 0, 0)) := by
  refine ev_of (M := an_X10_send) rfl (Nat.le_of_ble_eq_true rfl) ?_
  refine go_n 4 (fr' := (4, [(0, .ref 49), (1, .int k), (2, .int p1)], [.int 0, .int p1, .int k, .ref 49], ([c0, c1, c2, c3, c4, c5, c6, c7, c8, c9, c10, c11, c12, c13, c14, c15, c16, c17, c18, c19, c20, c21, c22, c23, c24, c25, c26, c27, c28, c29, c30, c31, c32, c33, c34, c35, c36, c37, c38, c39, c40, c41, c42, c43, c44, c45, c46, c47, c48] ++ (ah_m a b s1 s2 v t ++ R)), ex, 0, 0)) rfl ?_
  refine go_callS (q := 69) (M1 := an_X10_aim) rfl rfl (by decide) rfl ⟨_, rfl⟩ trivial (pm_aim d) ?_
  refine go_eq (fr' := (7, [(0, .ref 49), (1, .int k), (2, .int p1)], [.int 0], ([c0, c1, c2, c3, c4, c5, c6, c7, c8, c9, c10, c11, c12, c13, c14, c15, c16, c17, c18, c19, c20, c21, c22, c23, c24, c25, c26, c27, c28, c29, c30, c31, c32, c33, c34, c35, c36, c37, c38, c39, c40, c41, c42, c43, c44, c45, c46, c47, c48] ++ (ah_m a b s1 s2 v 1 ++ R)), ex, 0, 0)) rfl ?_
  refine go_rt (i := .ireturn) (tg := []) rfl ?_
  rfl
set_option maxRecDepth 20000 in
theorem pm_pull {X : Nat × (Nat → Int32)} {c0 c1 c2 c3 c4 c5 c6 c7 c8 c9 c10 c11 c12 c13 c14 c15 c16 c17 c18 c19 c20 c21 c22 c23 c24 c25 c26 c27 c28 c29 c30 c31 c32 c33 c34 c35 c36 c37 c38 c39 c40 c41 c42 c43 c44 c45 c46 c47 c48 : ai_C} {a b : Nat} {s1 s2 : Nat → Int32} {v t : Int32} {R : List ai_C} {ex : Bool} {k p1 : Int32} (d : Nat) : ai_Ev an_ms an_lk X 35 (d + 3) 71 [.ref 49, .int k, .int p1] ([c0, c1, c2, c3, c4, c5, c6, c7, c8, c9, c10, c11, c12, c13, c14, c15, c16, c17, c18, c19, c20, c21, c22, c23, c24, c25, c26, c27, c28, c29, c30, c31, c32, c33, c34, c35, c36, c37, c38, c39, c40, c41, c42, c43, c44, c45, c46, c47, c48] ++ (ah_m a b s1 s2 v t ++ R)) ex (.inl (some (.int 0), ([c0, c1, c2, c3, c4, c5, c6, c7, c8, c9, c10, c11, c12, c13, c14, c15, c16, c17, c18, c19, c20, c21, c22, c23, c24, c25, c26, c27, c28, c29, c30, c31, c32, c33, c34, c35, c36, c37, c38, c39, c40, c41, c42, c43, c44, c45, c46, c47, c48] ++ (ah_m a b s1 s2 v 1 ++ R)), ex, 0, 0)) := by
  refine ev_of (M := an_X10_pull) rfl (Nat.le_of_ble_eq_true rfl) ?_
  refine go_n 4 (fr' := (4, [(0, .ref 49), (1, .int k), (2, .int p1)], [.int 1, .int p1, .int k, .ref 49], ([c0, c1, c2, c3, c4, c5, c6, c7, c8, c9, c10, c11, c12, c13, c14, c15, c16, c17, c18, c19, c20, c21, c22, c23, c24, c25, c26, c27, c28, c29, c30, c31, c32, c33, c34, c35, c36, c37, c38, c39, c40, c41, c42, c43, c44, c45, c46, c47, c48] ++ (ah_m a b s1 s2 v t ++ R)), ex, 0, 0)) rfl ?_
  refine go_callS (q := 69) (M1 := an_X10_aim) rfl rfl (by decide) rfl ⟨_, rfl⟩ trivial (pm_aim d) ?_
  refine go_eq (fr' := (7, [(0, .ref 49), (1, .int k), (2, .int p1)], [.int 0], ([c0, c1, c2, c3, c4, c5, c6, c7, c8, c9, c10, c11, c12, c13, c14, c15, c16, c17, c18, c19, c20, c21, c22, c23, c24, c25, c26, c27, c28, c29, c30, c31, c32, c33, c34, c35, c36, c37, c38, c39, c40, c41, c42, c43, c44, c45, c46, c47, c48] ++ (ah_m a b s1 s2 v 1 ++ R)), ex, 0, 0)) rfl ?_
  refine go_rt (i := .ireturn) (tg := []) rfl ?_
  rfl
set_option maxRecDepth 20000 in
theorem pm_breaker {X : Nat × (Nat → Int32)} {c0 c1 c2 c3 c4 c5 c6 c7 c8 c9 c10 c11 c12 c13 c14 c15 c16 c17 c18 c19 c20 c21 c22 c23 c24 c25 c26 c27 c28 c29 c30 c31 c32 c33 c34 c35 c36 c37 c38 c39 c40 c41 c42 c43 c44 c45 c46 c47 c48 : ai_C} {a b : Nat} {s1 s2 : Nat → Int32} {v t : Int32} {R : List ai_C} {ex : Bool} {k : Int32} (d : Nat) : ai_Ev an_ms an_lk X 35 (d + 2) 78 [.ref 49, .int k] ([c0, c1, c2, c3, c4, c5, c6, c7, c8, c9, c10, c11, c12, c13, c14, c15, c16, c17, c18, c19, c20, c21, c22, c23, c24, c25, c26, c27, c28, c29, c30, c31, c32, c33, c34, c35, c36, c37, c38, c39, c40, c41, c42, c43, c44, c45, c46, c47, c48] ++ (ah_m a b s1 s2 v t ++ R)) ex (.inl (some (.int 0), ([c0, c1, c2, c3, c4, c5, c6, c7, c8, c9, c10, c11, c12, c13, c14, c15, c16, c17, c18, c19, c20, c21, c22, c23, c24, c25, c26, c27, c28, c29, c30, c31, c32, c33, c34, c35, c36, c37, c38, c39, c40, c41, c42, c43, c44, c45, c46, c47, c48] ++ (ah_m a b s1 s2 v 1 ++ R)), ex, 0, 0)) := by
  refine ev_of (M := an_X10_breaker) rfl (Nat.le_of_ble_eq_true rfl) ?_
  refine go_n 2 (fr' := (2, [(0, .ref 49), (1, .int k)], [.int 0, .ref 49], ([c0, c1, c2, c3, c4, c5, c6, c7, c8, c9, c10, c11, c12, c13, c14, c15, c16, c17, c18, c19, c20, c21, c22, c23, c24, c25, c26, c27, c28, c29, c30, c31, c32, c33, c34, c35, c36, c37, c38, c39, c40, c41, c42, c43, c44, c45, c46, c47, c48] ++ (ah_m a b s1 s2 v t ++ R)), ex, 0, 0)) rfl ?_
  refine go_put rfl rfl rfl (Nat.le_of_ble_eq_true rfl) rfl ?_
  refine go_n 1 (fr' := (6, [(0, .ref 49), (1, .int k)], [.int k], (([c0, c1, c2, c3, c4, c5, c6, c7, c8, c9, c10, c11, c12, c13, c14, c15, c16, c17, c18, c19, c20, c21, c22, c23, c24, c25, c26, c27, c28, c29, c30, c31, c32, c33, c34, c35, c36, c37, c38, c39, c40, c41, c42, c43, c44, c45, c46, c47, c48] ++ (ah_m a b s1 s2 v t ++ R)).set 49 (.inr (10, [.ref 50, .int 0, .int (nI a), .int (nI b), .int v, .int 0, .int 0, .int 0, .int 0, .int (-1), .int 0, .ref 51, .ref 52, .ref 53, .ref 54, .ref 55, .ref 56, .ref 57, .ref 58, .ref 59, .ref 60, .ref 61, .ref 62, .ref 63, .ref 64, .ref 65, .ref 66, .ref 67, .ref 68, .ref 69, .ref 70, .ref 71, .ref 72, .ref 73, .int 0, .int 0, .int 0, .int 0, .int 0, .int 0, .int 0, .int 0, .int 0, .int 0, .ref 74, .ref 75, .ref 76, .ref 77, .ref 78, .ref 79, .ref 80, .ref 81, .int 0, .ref 82, .ref 83, .ref 84]))), ex, 0, 0)) rfl ?_
  refine go_if_lt (t := 17) rfl (fun q1 => ?_) (fun q1 => ?_)
  · refine go_n 1 (fr' := (18, [(0, .ref 49), (1, .int k)], [.ref 49], (([c0, c1, c2, c3, c4, c5, c6, c7, c8, c9, c10, c11, c12, c13, c14, c15, c16, c17, c18, c19, c20, c21, c22, c23, c24, c25, c26, c27, c28, c29, c30, c31, c32, c33, c34, c35, c36, c37, c38, c39, c40, c41, c42, c43, c44, c45, c46, c47, c48] ++ (ah_m a b s1 s2 v t ++ R)).set 49 (.inr (10, [.ref 50, .int 0, .int (nI a), .int (nI b), .int v, .int 0, .int 0, .int 0, .int 0, .int (-1), .int 0, .ref 51, .ref 52, .ref 53, .ref 54, .ref 55, .ref 56, .ref 57, .ref 58, .ref 59, .ref 60, .ref 61, .ref 62, .ref 63, .ref 64, .ref 65, .ref 66, .ref 67, .ref 68, .ref 69, .ref 70, .ref 71, .ref 72, .ref 73, .int 0, .int 0, .int 0, .int 0, .int 0, .int 0, .int 0, .int 0, .int 0, .int 0, .ref 74, .ref 75, .ref 76, .ref 77, .ref 78, .ref 79, .ref 80, .ref 81, .int 0, .ref 82, .ref 83, .ref 84]))), ex, 0, 0)) rfl ?_
    refine go_callS (q := 53) (M1 := an_X10_fail) rfl rfl (by decide) rfl ⟨_, rfl⟩ trivial (pm_fail d) ?_
    refine go_eq (fr' := (21, [(0, .ref 49), (1, .int k)], [.int 0], ([c0, c1, c2, c3, c4, c5, c6, c7, c8, c9, c10, c11, c12, c13, c14, c15, c16, c17, c18, c19, c20, c21, c22, c23, c24, c25, c26, c27, c28, c29, c30, c31, c32, c33, c34, c35, c36, c37, c38, c39, c40, c41, c42, c43, c44, c45, c46, c47, c48] ++ (ah_m a b s1 s2 v 1 ++ R)), ex, 0, 0)) rfl ?_
    refine go_n 1 (fr' := (30, [(0, .ref 49), (1, .int k)], [.int 0], ([c0, c1, c2, c3, c4, c5, c6, c7, c8, c9, c10, c11, c12, c13, c14, c15, c16, c17, c18, c19, c20, c21, c22, c23, c24, c25, c26, c27, c28, c29, c30, c31, c32, c33, c34, c35, c36, c37, c38, c39, c40, c41, c42, c43, c44, c45, c46, c47, c48] ++ (ah_m a b s1 s2 v 1 ++ R)), ex, 0, 0)) rfl ?_
    refine go_rt (i := .ireturn) (tg := []) rfl ?_
    rfl
  · refine go_n 2 (fr' := (11, [(0, .ref 49), (1, .int k)], [.ref 49, .int k], (([c0, c1, c2, c3, c4, c5, c6, c7, c8, c9, c10, c11, c12, c13, c14, c15, c16, c17, c18, c19, c20, c21, c22, c23, c24, c25, c26, c27, c28, c29, c30, c31, c32, c33, c34, c35, c36, c37, c38, c39, c40, c41, c42, c43, c44, c45, c46, c47, c48] ++ (ah_m a b s1 s2 v t ++ R)).set 49 (.inr (10, [.ref 50, .int 0, .int (nI a), .int (nI b), .int v, .int 0, .int 0, .int 0, .int 0, .int (-1), .int 0, .ref 51, .ref 52, .ref 53, .ref 54, .ref 55, .ref 56, .ref 57, .ref 58, .ref 59, .ref 60, .ref 61, .ref 62, .ref 63, .ref 64, .ref 65, .ref 66, .ref 67, .ref 68, .ref 69, .ref 70, .ref 71, .ref 72, .ref 73, .int 0, .int 0, .int 0, .int 0, .int 0, .int 0, .int 0, .int 0, .int 0, .int 0, .ref 74, .ref 75, .ref 76, .ref 77, .ref 78, .ref 79, .ref 80, .ref 81, .int 0, .ref 82, .ref 83, .ref 84]))), ex, 0, 0)) rfl ?_
    refine go_get rfl rfl rfl rfl ?_
    refine go_ic_lt (t := 24) rfl (fun q2 => absurd q2 (fun w => q1 w)) (fun q2 => ?_)
    refine go_n 1 (fr' := (18, [(0, .ref 49), (1, .int k)], [.ref 49], (([c0, c1, c2, c3, c4, c5, c6, c7, c8, c9, c10, c11, c12, c13, c14, c15, c16, c17, c18, c19, c20, c21, c22, c23, c24, c25, c26, c27, c28, c29, c30, c31, c32, c33, c34, c35, c36, c37, c38, c39, c40, c41, c42, c43, c44, c45, c46, c47, c48] ++ (ah_m a b s1 s2 v t ++ R)).set 49 (.inr (10, [.ref 50, .int 0, .int (nI a), .int (nI b), .int v, .int 0, .int 0, .int 0, .int 0, .int (-1), .int 0, .ref 51, .ref 52, .ref 53, .ref 54, .ref 55, .ref 56, .ref 57, .ref 58, .ref 59, .ref 60, .ref 61, .ref 62, .ref 63, .ref 64, .ref 65, .ref 66, .ref 67, .ref 68, .ref 69, .ref 70, .ref 71, .ref 72, .ref 73, .int 0, .int 0, .int 0, .int 0, .int 0, .int 0, .int 0, .int 0, .int 0, .int 0, .ref 74, .ref 75, .ref 76, .ref 77, .ref 78, .ref 79, .ref 80, .ref 81, .int 0, .ref 82, .ref 83, .ref 84]))), ex, 0, 0)) rfl ?_
    refine go_callS (q := 53) (M1 := an_X10_fail) rfl rfl (by decide) rfl ⟨_, rfl⟩ trivial (pm_fail d) ?_
    refine go_eq (fr' := (21, [(0, .ref 49), (1, .int k)], [.int 0], ([c0, c1, c2, c3, c4, c5, c6, c7, c8, c9, c10, c11, c12, c13, c14, c15, c16, c17, c18, c19, c20, c21, c22, c23, c24, c25, c26, c27, c28, c29, c30, c31, c32, c33, c34, c35, c36, c37, c38, c39, c40, c41, c42, c43, c44, c45, c46, c47, c48] ++ (ah_m a b s1 s2 v 1 ++ R)), ex, 0, 0)) rfl ?_
    refine go_n 1 (fr' := (30, [(0, .ref 49), (1, .int k)], [.int 0], ([c0, c1, c2, c3, c4, c5, c6, c7, c8, c9, c10, c11, c12, c13, c14, c15, c16, c17, c18, c19, c20, c21, c22, c23, c24, c25, c26, c27, c28, c29, c30, c31, c32, c33, c34, c35, c36, c37, c38, c39, c40, c41, c42, c43, c44, c45, c46, c47, c48] ++ (ah_m a b s1 s2 v 1 ++ R)), ex, 0, 0)) rfl ?_
    refine go_rt (i := .ireturn) (tg := []) rfl ?_
    rfl
end
section
/-! the end of the law's loop -/
set_option maxRecDepth 20000 in
theorem pl_end0 {xs : Nat → Int32} {h : ai_H} {ex : Bool} {nc ns : Nat} : ag_Go (8, xs) 12 an_law (1174, [(0, .ref 1000000), (1, .ref 0), (2, .ref 49), (3, .ref 85), (4, .int 2)], [], h, ex, nc, ns) (.inl (some (.int 1), h, ex, nc, ns)) := by
  refine go_n 7 (fr' := (50, [(0, .ref 1000000), (1, .ref 0), (2, .ref 49), (3, .ref 85), (4, .int 8)], [.int (nI 8 - 6), .int 8], h, ex, nc, ns)) rfl ?_
  refine go_ic_gt (t := 1180) rfl (fun _ => ?_) (fun q => absurd (by decide) q)
  refine go_n 1 (fr' := (1181, [(0, .ref 1000000), (1, .ref 0), (2, .ref 49), (3, .ref 85), (4, .int 8)], [.int 1], h, ex, nc, ns)) rfl ?_
  exact go_rt (i := .ireturn) (tg := []) rfl rfl
set_option maxRecDepth 20000 in
theorem pl_end2 {xs : Nat → Int32} {x5 x6 : Int32} {h : ai_H} {ex : Bool} {nc ns : Nat} : ag_Go (8, xs) 12 an_law (1174, [(0, .ref 1000000), (1, .ref 0), (2, .ref 49), (3, .ref 85), (4, .int 2), (5, .int x5), (6, .int x6)], [], h, ex, nc, ns) (.inl (some (.int 1), h, ex, nc, ns)) := by
  refine go_n 7 (fr' := (50, [(0, .ref 1000000), (1, .ref 0), (2, .ref 49), (3, .ref 85), (4, .int 8), (5, .int x5), (6, .int x6)], [.int (nI 8 - 6), .int 8], h, ex, nc, ns)) rfl ?_
  refine go_ic_gt (t := 1180) rfl (fun _ => ?_) (fun q => absurd (by decide) q)
  refine go_n 1 (fr' := (1181, [(0, .ref 1000000), (1, .ref 0), (2, .ref 49), (3, .ref 85), (4, .int 8), (5, .int x5), (6, .int x6)], [.int 1], h, ex, nc, ns)) rfl ?_
  exact go_rt (i := .ireturn) (tg := []) rfl rfl
end
section
/-! the law's helpers and cases: what a new object refuses -/
set_option maxRecDepth 10000 in
theorem pl_of_no {X : Nat × (Nat → Int32)} {S : Nat} {z : Int32} {f1 f2 f3 g1 g2 : Nat → Int32} {u : Int32} {R : List ai_C} {k p1 : Int32}  (d : Nat) : ai_Ev an_ms an_lk X 35 (d + 4) 92 [.ref 0, .int k, .int p1, .ref 85] (ah_fw S z f1 f2 f3 g1 g2 u ++ R) true (.inl (some (.int 1), (ah_fw S z f1 f2 f3 g1 g2 u ++ R), false, 1, 6)) := by
  refine ev_of (M := an_L_of) rfl (Nat.le_of_ble_eq_true rfl) ?_
  refine go_n 5 (fr' := (5, [(0, .ref 0), (1, .int k), (2, .int p1), (3, .ref 85)], [.int p1, .int k, .ref 0, .int 0, .ref 85], (ah_fw S z f1 f2 f3 g1 g2 u ++ R), true, 0, 0)) rfl ?_
  exact go_cat (fr := (5, [(0, .ref 0), (1, .int k), (2, .int p1), (3, .ref 85)], [.int p1, .int k, .ref 0, .int 0, .ref 85], (ah_fw S z f1 f2 f3 g1 g2 u ++ R), true, 0, 0)) (i := .invokevirtual 49) (tg := []) (q := 37) (As := [.ref 0, .int k, .int p1]) (rest := [.int 0, .ref 85]) (M1 := an_X9_of) rfl rfl (by decide) rfl ⟨_, rfl⟩ trivial (pv_of_no d) (st := 0) (en := 10) (hp := 13) (ix := 13) rfl (Nat.le_of_ble_eq_true rfl) (Nat.le_of_ble_eq_true rfl) rfl
set_option maxRecDepth 10000 in
theorem pl_send_no {X : Nat × (Nat → Int32)} {S : Nat} {z : Int32} {f1 f2 f3 g1 g2 : Nat → Int32} {u : Int32} {R : List ai_C} {k p1 : Int32}  (d : Nat) : ai_Ev an_ms an_lk X 35 (d + 5) 88 [.ref 0, .int k, .int p1, .ref 85] (ah_fw S z f1 f2 f3 g1 g2 u ++ R) true (.inl (some (.int 1), (ah_fw S z f1 f2 f3 g1 g2 u ++ R), false, 1, 6)) := by
  refine ev_of (M := an_L_send) rfl (Nat.le_of_ble_eq_true rfl) ?_
  refine go_n 5 (fr' := (5, [(0, .ref 0), (1, .int k), (2, .int p1), (3, .ref 85)], [.int p1, .int k, .ref 0, .int 0, .ref 85], (ah_fw S z f1 f2 f3 g1 g2 u ++ R), true, 0, 0)) rfl ?_
  exact go_cat (fr := (5, [(0, .ref 0), (1, .int k), (2, .int p1), (3, .ref 85)], [.int p1, .int k, .ref 0, .int 0, .ref 85], (ah_fw S z f1 f2 f3 g1 g2 u ++ R), true, 0, 0)) (i := .invokevirtual 36) (tg := []) (q := 33) (As := [.ref 0, .int k, .int p1]) (rest := [.int 0, .ref 85]) (M1 := an_X9_send) rfl rfl (by decide) rfl ⟨_, rfl⟩ trivial (pv_send_no d) (st := 0) (en := 17) (hp := 20) (ix := 13) rfl (Nat.le_of_ble_eq_true rfl) (Nat.le_of_ble_eq_true rfl) rfl
set_option maxRecDepth 10000 in
theorem pl_pull_no {X : Nat × (Nat → Int32)} {S : Nat} {z : Int32} {f1 f2 f3 g1 g2 : Nat → Int32} {u : Int32} {R : List ai_C} {k p1 : Int32}  (d : Nat) : ai_Ev an_ms an_lk X 35 (d + 5) 89 [.ref 0, .int k, .int p1, .ref 85] (ah_fw S z f1 f2 f3 g1 g2 u ++ R) true (.inl (some (.int 1), (ah_fw S z f1 f2 f3 g1 g2 u ++ R), false, 1, 6)) := by
  refine ev_of (M := an_L_pull) rfl (Nat.le_of_ble_eq_true rfl) ?_
  refine go_n 5 (fr' := (5, [(0, .ref 0), (1, .int k), (2, .int p1), (3, .ref 85)], [.int p1, .int k, .ref 0, .int 0, .ref 85], (ah_fw S z f1 f2 f3 g1 g2 u ++ R), true, 0, 0)) rfl ?_
  exact go_cat (fr := (5, [(0, .ref 0), (1, .int k), (2, .int p1), (3, .ref 85)], [.int p1, .int k, .ref 0, .int 0, .ref 85], (ah_fw S z f1 f2 f3 g1 g2 u ++ R), true, 0, 0)) (i := .invokevirtual 40) (tg := []) (q := 34) (As := [.ref 0, .int k, .int p1]) (rest := [.int 0, .ref 85]) (M1 := an_X9_pull) rfl rfl (by decide) rfl ⟨_, rfl⟩ trivial (pv_pull_no d) (st := 0) (en := 17) (hp := 20) (ix := 13) rfl (Nat.le_of_ble_eq_true rfl) (Nat.le_of_ble_eq_true rfl) rfl
set_option maxRecDepth 10000 in
theorem pl_breaker_lo {X : Nat × (Nat → Int32)} {S : Nat} {z : Int32} {f1 f2 f3 g1 g2 : Nat → Int32} {u : Int32} {R : List ai_C} {k : Int32} (h1 : k < 0) (d : Nat) : ai_Ev an_ms an_lk X 35 (d + 2) 94 [.ref 0, .int k, .ref 85] (ah_fw S z f1 f2 f3 g1 g2 u ++ R) true (.inl (some (.int 1), (ah_fw S z f1 f2 f3 g1 g2 u ++ R), false, 1, 6)) := by
  refine ev_of (M := an_L_breaker) rfl (Nat.le_of_ble_eq_true rfl) ?_
  refine go_n 4 (fr' := (4, [(0, .ref 0), (1, .int k), (2, .ref 85)], [.int k, .ref 0, .int 0, .ref 85], (ah_fw S z f1 f2 f3 g1 g2 u ++ R), true, 0, 0)) rfl ?_
  exact go_cat (fr := (4, [(0, .ref 0), (1, .int k), (2, .ref 85)], [.int k, .ref 0, .int 0, .ref 85], (ah_fw S z f1 f2 f3 g1 g2 u ++ R), true, 0, 0)) (i := .invokevirtual 55) (tg := []) (q := 39) (As := [.ref 0, .int k]) (rest := [.int 0, .ref 85]) (M1 := an_X9_breaker) rfl rfl (by decide) rfl ⟨_, rfl⟩ trivial (pv_breaker_lo h1 d) (st := 0) (en := 9) (hp := 12) (ix := 13) rfl (Nat.le_of_ble_eq_true rfl) (Nat.le_of_ble_eq_true rfl) rfl
set_option maxRecDepth 10000 in
theorem pl_breaker_hi {X : Nat × (Nat → Int32)} {S : Nat} {z : Int32} {f1 f2 f3 g1 g2 : Nat → Int32} {u : Int32} {R : List ai_C} {k : Int32} (h1 : ¬ k < 0) (d : Nat) : ai_Ev an_ms an_lk X 35 (d + 2) 94 [.ref 0, .int k, .ref 85] (ah_fw S z f1 f2 f3 g1 g2 u ++ R) true (.inl (some (.int 1), (ah_fw S z f1 f2 f3 g1 g2 u ++ R), false, 1, 6)) := by
  refine ev_of (M := an_L_breaker) rfl (Nat.le_of_ble_eq_true rfl) ?_
  refine go_n 4 (fr' := (4, [(0, .ref 0), (1, .int k), (2, .ref 85)], [.int k, .ref 0, .int 0, .ref 85], (ah_fw S z f1 f2 f3 g1 g2 u ++ R), true, 0, 0)) rfl ?_
  exact go_cat (fr := (4, [(0, .ref 0), (1, .int k), (2, .ref 85)], [.int k, .ref 0, .int 0, .ref 85], (ah_fw S z f1 f2 f3 g1 g2 u ++ R), true, 0, 0)) (i := .invokevirtual 55) (tg := []) (q := 39) (As := [.ref 0, .int k]) (rest := [.int 0, .ref 85]) (M1 := an_X9_breaker) rfl rfl (by decide) rfl ⟨_, rfl⟩ trivial (pv_breaker_hi h1 d) (st := 0) (en := 9) (hp := 12) (ix := 13) rfl (Nat.le_of_ble_eq_true rfl) (Nat.le_of_ble_eq_true rfl) rfl
set_option maxRecDepth 20000 in
theorem pl_fault {xs : Nat → Int32} {S : Nat} {z : Int32} {f1 f2 f3 g1 g2 : Nat → Int32} {a b : Nat} {ns : Nat}  : ag_Go (8, xs) 12 an_law (595, [(0, .ref 1000000), (1, .ref 0), (2, .ref 49), (3, .ref 85), (4, .int 2)], [], (ah_fw S z f1 f2 f3 g1 g2 0 ++ (ah_m a b (fun j => if j < 64 then -1 else 0) (fun j => if j < 64 then -1 else 0) 0 0 ++ [.inl (3, 1, .inr (.inl (fun _ => 0)))])), true, 86, ns) (.inl (some (.int 1), (ah_fw S z f1 f2 f3 g1 g2 0 ++ (ah_m a b (fun j => if j < 64 then -1 else 0) (fun j => if j < 64 then -1 else 0) 0 0 ++ [.inl (3, 1, .inr (.inl (fun _ => 0)))])), true, 86, ((ns + 0) + 0))) := by
  refine go_n 1 (fr' := (596, [(0, .ref 1000000), (1, .ref 0), (2, .ref 49), (3, .ref 85), (4, .int 2)], [.ref 0], (ah_fw S z f1 f2 f3 g1 g2 0 ++ (ah_m a b (fun j => if j < 64 then -1 else 0) (fun j => if j < 64 then -1 else 0) 0 0 ++ [.inl (3, 1, .inr (.inl (fun _ => 0)))])), true, 86, ns)) rfl ?_
  refine go_call (q := 31) (M1 := an_X9_fault) rfl rfl (by decide) rfl ⟨_, rfl⟩ trivial (pv_fault 11) ?_
  refine go_eq (fr' := (599, [(0, .ref 1000000), (1, .ref 0), (2, .ref 49), (3, .ref 85), (4, .int 2)], [.int (-1)], (ah_fw S z f1 f2 f3 g1 g2 0 ++ (ah_m a b (fun j => if j < 64 then -1 else 0) (fun j => if j < 64 then -1 else 0) 0 0 ++ [.inl (3, 1, .inr (.inl (fun _ => 0)))])), true, 86, (ns + 0))) rfl ?_
  refine go_n 1 (fr' := (600, [(0, .ref 1000000), (1, .ref 0), (2, .ref 49), (3, .ref 85), (4, .int 2)], [.ref 49, .int (-1)], (ah_fw S z f1 f2 f3 g1 g2 0 ++ (ah_m a b (fun j => if j < 64 then -1 else 0) (fun j => if j < 64 then -1 else 0) 0 0 ++ [.inl (3, 1, .inr (.inl (fun _ => 0)))])), true, 86, (ns + 0))) rfl ?_
  refine go_call (q := 65) (M1 := an_X10_fault) rfl rfl (by decide) rfl ⟨_, rfl⟩ trivial (pm_fault 11) ?_
  refine go_eq (fr' := (603, [(0, .ref 1000000), (1, .ref 0), (2, .ref 49), (3, .ref 85), (4, .int 2)], [.int (-1), .int (-1)], (ah_fw S z f1 f2 f3 g1 g2 0 ++ (ah_m a b (fun j => if j < 64 then -1 else 0) (fun j => if j < 64 then -1 else 0) 0 0 ++ [.inl (3, 1, .inr (.inl (fun _ => 0)))])), true, 86, ((ns + 0) + 0))) rfl ?_
  refine go_n 1 (fr' := (1174, [(0, .ref 1000000), (1, .ref 0), (2, .ref 49), (3, .ref 85), (4, .int 2)], [], (ah_fw S z f1 f2 f3 g1 g2 0 ++ (ah_m a b (fun j => if j < 64 then -1 else 0) (fun j => if j < 64 then -1 else 0) 0 0 ++ [.inl (3, 1, .inr (.inl (fun _ => 0)))])), true, 86, ((ns + 0) + 0))) rfl ?_
  exact pl_end0
set_option maxRecDepth 20000 in
theorem pl_of {xs : Nat → Int32} {S : Nat} {z : Int32} {f1 f2 f3 g1 g2 : Nat → Int32} {a b : Nat} {ns : Nat}  : ag_Go (8, xs) 12 an_law (938, [(0, .ref 1000000), (1, .ref 0), (2, .ref 49), (3, .ref 85), (4, .int 2)], [], (ah_fw S z f1 f2 f3 g1 g2 0 ++ (ah_m a b (fun j => if j < 64 then -1 else 0) (fun j => if j < 64 then -1 else 0) 0 0 ++ [.inl (3, 1, .inr (.inl (fun _ => 0)))])), true, 86, ns) (.inl (some (.int 1), (ah_fw S z f1 f2 f3 g1 g2 0 ++ (ah_m a b (fun j => if j < 64 then -1 else 0) (fun j => if j < 64 then -1 else 0) 0 1 ++ [.inl (3, 1, .inr (.inl (fun _ => 0)))])), false, 87, (((ns + 6) + 0) + 0))) := by
  refine go_n 12 (fr' := (952, [(0, .ref 1000000), (1, .ref 0), (2, .ref 49), (3, .ref 85), (4, .int 2)], [.ref 85, .int (xs 4), .int (xs 3), .ref 0], (ah_fw S z f1 f2 f3 g1 g2 0 ++ (ah_m a b (fun j => if j < 64 then -1 else 0) (fun j => if j < 64 then -1 else 0) 0 0 ++ [.inl (3, 1, .inr (.inl (fun _ => 0)))])), true, 86, ns)) rfl ?_
  refine go_call (q := 92) (M1 := an_L_of) rfl rfl (by decide) rfl trivial trivial (pl_of_no 8) ?_
  refine go_eq (fr' := (955, [(0, .ref 1000000), (1, .ref 0), (2, .ref 49), (3, .ref 85), (4, .int 2)], [.int 1], (ah_fw S z f1 f2 f3 g1 g2 0 ++ (ah_m a b (fun j => if j < 64 then -1 else 0) (fun j => if j < 64 then -1 else 0) 0 0 ++ [.inl (3, 1, .inr (.inl (fun _ => 0)))])), false, 87, (ns + 6))) rfl ?_
  refine go_n 12 (fr' := (970, [(0, .ref 1000000), (1, .ref 0), (2, .ref 49), (3, .ref 85), (4, .int 2), (5, .int 1)], [.int (xs 4), .int (xs 3), .ref 49], (ah_fw S z f1 f2 f3 g1 g2 0 ++ (ah_m a b (fun j => if j < 64 then -1 else 0) (fun j => if j < 64 then -1 else 0) 0 0 ++ [.inl (3, 1, .inr (.inl (fun _ => 0)))])), false, 87, (ns + 6))) rfl ?_
  refine go_callS (q := 76) (M1 := an_X10_of) rfl rfl (by decide) rfl ⟨_, rfl⟩ trivial (pm_of 10) ?_
  refine go_eq (fr' := (973, [(0, .ref 1000000), (1, .ref 0), (2, .ref 49), (3, .ref 85), (4, .int 2), (5, .int 1)], [.int 0], (ah_fw S z f1 f2 f3 g1 g2 0 ++ (ah_m a b (fun j => if j < 64 then -1 else 0) (fun j => if j < 64 then -1 else 0) 0 1 ++ [.inl (3, 1, .inr (.inl (fun _ => 0)))])), false, 87, ((ns + 6) + 0))) rfl ?_
  refine go_n 2 (fr' := (976, [(0, .ref 1000000), (1, .ref 0), (2, .ref 49), (3, .ref 85), (4, .int 2), (5, .int 1), (6, .int 0)], [.ref 49], (ah_fw S z f1 f2 f3 g1 g2 0 ++ (ah_m a b (fun j => if j < 64 then -1 else 0) (fun j => if j < 64 then -1 else 0) 0 1 ++ [.inl (3, 1, .inr (.inl (fun _ => 0)))])), false, 87, ((ns + 6) + 0))) rfl ?_
  refine go_callS (q := 52) (M1 := an_X10_thrown) rfl rfl (by decide) rfl ⟨_, rfl⟩ trivial (pm_thrown 11) ?_
  refine go_eq (fr' := (979, [(0, .ref 1000000), (1, .ref 0), (2, .ref 49), (3, .ref 85), (4, .int 2), (5, .int 1), (6, .int 0)], [.int 1], (ah_fw S z f1 f2 f3 g1 g2 0 ++ (ah_m a b (fun j => if j < 64 then -1 else 0) (fun j => if j < 64 then -1 else 0) 0 1 ++ [.inl (3, 1, .inr (.inl (fun _ => 0)))])), false, 87, (((ns + 6) + 0) + 0))) rfl ?_
  refine go_n 5 (fr' := (1174, [(0, .ref 1000000), (1, .ref 0), (2, .ref 49), (3, .ref 85), (4, .int 2), (5, .int 1), (6, .int 0)], [], (ah_fw S z f1 f2 f3 g1 g2 0 ++ (ah_m a b (fun j => if j < 64 then -1 else 0) (fun j => if j < 64 then -1 else 0) 0 1 ++ [.inl (3, 1, .inr (.inl (fun _ => 0)))])), false, 87, (((ns + 6) + 0) + 0))) rfl ?_
  exact pl_end2
set_option maxRecDepth 20000 in
theorem pl_send {xs : Nat → Int32} {S : Nat} {z : Int32} {f1 f2 f3 g1 g2 : Nat → Int32} {a b : Nat} {ns : Nat}  : ag_Go (8, xs) 12 an_law (664, [(0, .ref 1000000), (1, .ref 0), (2, .ref 49), (3, .ref 85), (4, .int 2)], [], (ah_fw S z f1 f2 f3 g1 g2 0 ++ (ah_m a b (fun j => if j < 64 then -1 else 0) (fun j => if j < 64 then -1 else 0) 0 0 ++ [.inl (3, 1, .inr (.inl (fun _ => 0)))])), true, 86, ns) (.inl (some (.int 1), (ah_fw S z f1 f2 f3 g1 g2 0 ++ (ah_m a b (fun j => if j < 64 then -1 else 0) (fun j => if j < 64 then -1 else 0) 0 1 ++ [.inl (3, 1, .inr (.inl (fun _ => 0)))])), false, 87, (((ns + 6) + 0) + 0))) := by
  refine go_n 12 (fr' := (678, [(0, .ref 1000000), (1, .ref 0), (2, .ref 49), (3, .ref 85), (4, .int 2)], [.ref 85, .int (xs 4), .int (xs 3), .ref 0], (ah_fw S z f1 f2 f3 g1 g2 0 ++ (ah_m a b (fun j => if j < 64 then -1 else 0) (fun j => if j < 64 then -1 else 0) 0 0 ++ [.inl (3, 1, .inr (.inl (fun _ => 0)))])), true, 86, ns)) rfl ?_
  refine go_call (q := 88) (M1 := an_L_send) rfl rfl (by decide) rfl trivial trivial (pl_send_no 7) ?_
  refine go_eq (fr' := (681, [(0, .ref 1000000), (1, .ref 0), (2, .ref 49), (3, .ref 85), (4, .int 2)], [.int 1], (ah_fw S z f1 f2 f3 g1 g2 0 ++ (ah_m a b (fun j => if j < 64 then -1 else 0) (fun j => if j < 64 then -1 else 0) 0 0 ++ [.inl (3, 1, .inr (.inl (fun _ => 0)))])), false, 87, (ns + 6))) rfl ?_
  refine go_n 12 (fr' := (696, [(0, .ref 1000000), (1, .ref 0), (2, .ref 49), (3, .ref 85), (4, .int 2), (5, .int 1)], [.int (xs 4), .int (xs 3), .ref 49], (ah_fw S z f1 f2 f3 g1 g2 0 ++ (ah_m a b (fun j => if j < 64 then -1 else 0) (fun j => if j < 64 then -1 else 0) 0 0 ++ [.inl (3, 1, .inr (.inl (fun _ => 0)))])), false, 87, (ns + 6))) rfl ?_
  refine go_callS (q := 70) (M1 := an_X10_send) rfl rfl (by decide) rfl ⟨_, rfl⟩ trivial (pm_send 9) ?_
  refine go_eq (fr' := (699, [(0, .ref 1000000), (1, .ref 0), (2, .ref 49), (3, .ref 85), (4, .int 2), (5, .int 1)], [.int 0], (ah_fw S z f1 f2 f3 g1 g2 0 ++ (ah_m a b (fun j => if j < 64 then -1 else 0) (fun j => if j < 64 then -1 else 0) 0 1 ++ [.inl (3, 1, .inr (.inl (fun _ => 0)))])), false, 87, ((ns + 6) + 0))) rfl ?_
  refine go_n 2 (fr' := (702, [(0, .ref 1000000), (1, .ref 0), (2, .ref 49), (3, .ref 85), (4, .int 2), (5, .int 1), (6, .int 0)], [.ref 49], (ah_fw S z f1 f2 f3 g1 g2 0 ++ (ah_m a b (fun j => if j < 64 then -1 else 0) (fun j => if j < 64 then -1 else 0) 0 1 ++ [.inl (3, 1, .inr (.inl (fun _ => 0)))])), false, 87, ((ns + 6) + 0))) rfl ?_
  refine go_callS (q := 52) (M1 := an_X10_thrown) rfl rfl (by decide) rfl ⟨_, rfl⟩ trivial (pm_thrown 11) ?_
  refine go_eq (fr' := (705, [(0, .ref 1000000), (1, .ref 0), (2, .ref 49), (3, .ref 85), (4, .int 2), (5, .int 1), (6, .int 0)], [.int 1], (ah_fw S z f1 f2 f3 g1 g2 0 ++ (ah_m a b (fun j => if j < 64 then -1 else 0) (fun j => if j < 64 then -1 else 0) 0 1 ++ [.inl (3, 1, .inr (.inl (fun _ => 0)))])), false, 87, (((ns + 6) + 0) + 0))) rfl ?_
  refine go_n 5 (fr' := (1174, [(0, .ref 1000000), (1, .ref 0), (2, .ref 49), (3, .ref 85), (4, .int 2), (5, .int 1), (6, .int 0)], [], (ah_fw S z f1 f2 f3 g1 g2 0 ++ (ah_m a b (fun j => if j < 64 then -1 else 0) (fun j => if j < 64 then -1 else 0) 0 1 ++ [.inl (3, 1, .inr (.inl (fun _ => 0)))])), false, 87, (((ns + 6) + 0) + 0))) rfl ?_
  exact pl_end2
set_option maxRecDepth 20000 in
theorem pl_pull {xs : Nat → Int32} {S : Nat} {z : Int32} {f1 f2 f3 g1 g2 : Nat → Int32} {a b : Nat} {ns : Nat}  : ag_Go (8, xs) 12 an_law (739, [(0, .ref 1000000), (1, .ref 0), (2, .ref 49), (3, .ref 85), (4, .int 2)], [], (ah_fw S z f1 f2 f3 g1 g2 0 ++ (ah_m a b (fun j => if j < 64 then -1 else 0) (fun j => if j < 64 then -1 else 0) 0 0 ++ [.inl (3, 1, .inr (.inl (fun _ => 0)))])), true, 86, ns) (.inl (some (.int 1), (ah_fw S z f1 f2 f3 g1 g2 0 ++ (ah_m a b (fun j => if j < 64 then -1 else 0) (fun j => if j < 64 then -1 else 0) 0 1 ++ [.inl (3, 1, .inr (.inl (fun _ => 0)))])), false, 87, (((ns + 6) + 0) + 0))) := by
  refine go_n 12 (fr' := (753, [(0, .ref 1000000), (1, .ref 0), (2, .ref 49), (3, .ref 85), (4, .int 2)], [.ref 85, .int (xs 4), .int (xs 3), .ref 0], (ah_fw S z f1 f2 f3 g1 g2 0 ++ (ah_m a b (fun j => if j < 64 then -1 else 0) (fun j => if j < 64 then -1 else 0) 0 0 ++ [.inl (3, 1, .inr (.inl (fun _ => 0)))])), true, 86, ns)) rfl ?_
  refine go_call (q := 89) (M1 := an_L_pull) rfl rfl (by decide) rfl trivial trivial (pl_pull_no 7) ?_
  refine go_eq (fr' := (756, [(0, .ref 1000000), (1, .ref 0), (2, .ref 49), (3, .ref 85), (4, .int 2)], [.int 1], (ah_fw S z f1 f2 f3 g1 g2 0 ++ (ah_m a b (fun j => if j < 64 then -1 else 0) (fun j => if j < 64 then -1 else 0) 0 0 ++ [.inl (3, 1, .inr (.inl (fun _ => 0)))])), false, 87, (ns + 6))) rfl ?_
  refine go_n 12 (fr' := (771, [(0, .ref 1000000), (1, .ref 0), (2, .ref 49), (3, .ref 85), (4, .int 2), (5, .int 1)], [.int (xs 4), .int (xs 3), .ref 49], (ah_fw S z f1 f2 f3 g1 g2 0 ++ (ah_m a b (fun j => if j < 64 then -1 else 0) (fun j => if j < 64 then -1 else 0) 0 0 ++ [.inl (3, 1, .inr (.inl (fun _ => 0)))])), false, 87, (ns + 6))) rfl ?_
  refine go_callS (q := 71) (M1 := an_X10_pull) rfl rfl (by decide) rfl ⟨_, rfl⟩ trivial (pm_pull 9) ?_
  refine go_eq (fr' := (774, [(0, .ref 1000000), (1, .ref 0), (2, .ref 49), (3, .ref 85), (4, .int 2), (5, .int 1)], [.int 0], (ah_fw S z f1 f2 f3 g1 g2 0 ++ (ah_m a b (fun j => if j < 64 then -1 else 0) (fun j => if j < 64 then -1 else 0) 0 1 ++ [.inl (3, 1, .inr (.inl (fun _ => 0)))])), false, 87, ((ns + 6) + 0))) rfl ?_
  refine go_n 2 (fr' := (777, [(0, .ref 1000000), (1, .ref 0), (2, .ref 49), (3, .ref 85), (4, .int 2), (5, .int 1), (6, .int 0)], [.ref 49], (ah_fw S z f1 f2 f3 g1 g2 0 ++ (ah_m a b (fun j => if j < 64 then -1 else 0) (fun j => if j < 64 then -1 else 0) 0 1 ++ [.inl (3, 1, .inr (.inl (fun _ => 0)))])), false, 87, ((ns + 6) + 0))) rfl ?_
  refine go_callS (q := 52) (M1 := an_X10_thrown) rfl rfl (by decide) rfl ⟨_, rfl⟩ trivial (pm_thrown 11) ?_
  refine go_eq (fr' := (780, [(0, .ref 1000000), (1, .ref 0), (2, .ref 49), (3, .ref 85), (4, .int 2), (5, .int 1), (6, .int 0)], [.int 1], (ah_fw S z f1 f2 f3 g1 g2 0 ++ (ah_m a b (fun j => if j < 64 then -1 else 0) (fun j => if j < 64 then -1 else 0) 0 1 ++ [.inl (3, 1, .inr (.inl (fun _ => 0)))])), false, 87, (((ns + 6) + 0) + 0))) rfl ?_
  refine go_n 5 (fr' := (1174, [(0, .ref 1000000), (1, .ref 0), (2, .ref 49), (3, .ref 85), (4, .int 2), (5, .int 1), (6, .int 0)], [], (ah_fw S z f1 f2 f3 g1 g2 0 ++ (ah_m a b (fun j => if j < 64 then -1 else 0) (fun j => if j < 64 then -1 else 0) 0 1 ++ [.inl (3, 1, .inr (.inl (fun _ => 0)))])), false, 87, (((ns + 6) + 0) + 0))) rfl ?_
  exact pl_end2
set_option maxRecDepth 20000 in
theorem pl_breaker_l {xs : Nat → Int32} {S : Nat} {z : Int32} {f1 f2 f3 g1 g2 : Nat → Int32} {a b : Nat} {ns : Nat} (h1 : xs 3 < 0) : ag_Go (8, xs) 12 an_law (1062, [(0, .ref 1000000), (1, .ref 0), (2, .ref 49), (3, .ref 85), (4, .int 2)], [], (ah_fw S z f1 f2 f3 g1 g2 0 ++ (ah_m a b (fun j => if j < 64 then -1 else 0) (fun j => if j < 64 then -1 else 0) 0 0 ++ [.inl (3, 1, .inr (.inl (fun _ => 0)))])), true, 86, ns) (.inl (some (.int 1), (ah_fw S z f1 f2 f3 g1 g2 0 ++ (ah_m a b (fun j => if j < 64 then -1 else 0) (fun j => if j < 64 then -1 else 0) 0 1 ++ [.inl (3, 1, .inr (.inl (fun _ => 0)))])), false, 87, (((ns + 6) + 0) + 0))) := by
  refine go_n 7 (fr' := (1070, [(0, .ref 1000000), (1, .ref 0), (2, .ref 49), (3, .ref 85), (4, .int 2)], [.ref 85, .int (xs 3), .ref 0], (ah_fw S z f1 f2 f3 g1 g2 0 ++ (ah_m a b (fun j => if j < 64 then -1 else 0) (fun j => if j < 64 then -1 else 0) 0 0 ++ [.inl (3, 1, .inr (.inl (fun _ => 0)))])), true, 86, ns)) rfl ?_
  refine go_call (q := 94) (M1 := an_L_breaker) rfl rfl (by decide) rfl trivial trivial (pl_breaker_lo h1 10) ?_
  refine go_eq (fr' := (1073, [(0, .ref 1000000), (1, .ref 0), (2, .ref 49), (3, .ref 85), (4, .int 2)], [.int 1], (ah_fw S z f1 f2 f3 g1 g2 0 ++ (ah_m a b (fun j => if j < 64 then -1 else 0) (fun j => if j < 64 then -1 else 0) 0 0 ++ [.inl (3, 1, .inr (.inl (fun _ => 0)))])), false, 87, (ns + 6))) rfl ?_
  refine go_n 7 (fr' := (1082, [(0, .ref 1000000), (1, .ref 0), (2, .ref 49), (3, .ref 85), (4, .int 2), (5, .int 1)], [.int (xs 3), .ref 49], (ah_fw S z f1 f2 f3 g1 g2 0 ++ (ah_m a b (fun j => if j < 64 then -1 else 0) (fun j => if j < 64 then -1 else 0) 0 0 ++ [.inl (3, 1, .inr (.inl (fun _ => 0)))])), false, 87, (ns + 6))) rfl ?_
  refine go_callS (q := 78) (M1 := an_X10_breaker) rfl rfl (by decide) rfl ⟨_, rfl⟩ trivial (pm_breaker 10) ?_
  refine go_eq (fr' := (1085, [(0, .ref 1000000), (1, .ref 0), (2, .ref 49), (3, .ref 85), (4, .int 2), (5, .int 1)], [.int 0], (ah_fw S z f1 f2 f3 g1 g2 0 ++ (ah_m a b (fun j => if j < 64 then -1 else 0) (fun j => if j < 64 then -1 else 0) 0 1 ++ [.inl (3, 1, .inr (.inl (fun _ => 0)))])), false, 87, ((ns + 6) + 0))) rfl ?_
  refine go_n 2 (fr' := (1088, [(0, .ref 1000000), (1, .ref 0), (2, .ref 49), (3, .ref 85), (4, .int 2), (5, .int 1), (6, .int 0)], [.ref 49], (ah_fw S z f1 f2 f3 g1 g2 0 ++ (ah_m a b (fun j => if j < 64 then -1 else 0) (fun j => if j < 64 then -1 else 0) 0 1 ++ [.inl (3, 1, .inr (.inl (fun _ => 0)))])), false, 87, ((ns + 6) + 0))) rfl ?_
  refine go_callS (q := 52) (M1 := an_X10_thrown) rfl rfl (by decide) rfl ⟨_, rfl⟩ trivial (pm_thrown 11) ?_
  refine go_eq (fr' := (1091, [(0, .ref 1000000), (1, .ref 0), (2, .ref 49), (3, .ref 85), (4, .int 2), (5, .int 1), (6, .int 0)], [.int 1], (ah_fw S z f1 f2 f3 g1 g2 0 ++ (ah_m a b (fun j => if j < 64 then -1 else 0) (fun j => if j < 64 then -1 else 0) 0 1 ++ [.inl (3, 1, .inr (.inl (fun _ => 0)))])), false, 87, (((ns + 6) + 0) + 0))) rfl ?_
  refine go_n 5 (fr' := (1174, [(0, .ref 1000000), (1, .ref 0), (2, .ref 49), (3, .ref 85), (4, .int 2), (5, .int 1), (6, .int 0)], [], (ah_fw S z f1 f2 f3 g1 g2 0 ++ (ah_m a b (fun j => if j < 64 then -1 else 0) (fun j => if j < 64 then -1 else 0) 0 1 ++ [.inl (3, 1, .inr (.inl (fun _ => 0)))])), false, 87, (((ns + 6) + 0) + 0))) rfl ?_
  exact pl_end2
set_option maxRecDepth 20000 in
theorem pl_breaker_h {xs : Nat → Int32} {S : Nat} {z : Int32} {f1 f2 f3 g1 g2 : Nat → Int32} {a b : Nat} {ns : Nat} (h1 : ¬ xs 3 < 0) : ag_Go (8, xs) 12 an_law (1062, [(0, .ref 1000000), (1, .ref 0), (2, .ref 49), (3, .ref 85), (4, .int 2)], [], (ah_fw S z f1 f2 f3 g1 g2 0 ++ (ah_m a b (fun j => if j < 64 then -1 else 0) (fun j => if j < 64 then -1 else 0) 0 0 ++ [.inl (3, 1, .inr (.inl (fun _ => 0)))])), true, 86, ns) (.inl (some (.int 1), (ah_fw S z f1 f2 f3 g1 g2 0 ++ (ah_m a b (fun j => if j < 64 then -1 else 0) (fun j => if j < 64 then -1 else 0) 0 1 ++ [.inl (3, 1, .inr (.inl (fun _ => 0)))])), false, 87, (((ns + 6) + 0) + 0))) := by
  refine go_n 7 (fr' := (1070, [(0, .ref 1000000), (1, .ref 0), (2, .ref 49), (3, .ref 85), (4, .int 2)], [.ref 85, .int (xs 3), .ref 0], (ah_fw S z f1 f2 f3 g1 g2 0 ++ (ah_m a b (fun j => if j < 64 then -1 else 0) (fun j => if j < 64 then -1 else 0) 0 0 ++ [.inl (3, 1, .inr (.inl (fun _ => 0)))])), true, 86, ns)) rfl ?_
  refine go_call (q := 94) (M1 := an_L_breaker) rfl rfl (by decide) rfl trivial trivial (pl_breaker_hi h1 10) ?_
  refine go_eq (fr' := (1073, [(0, .ref 1000000), (1, .ref 0), (2, .ref 49), (3, .ref 85), (4, .int 2)], [.int 1], (ah_fw S z f1 f2 f3 g1 g2 0 ++ (ah_m a b (fun j => if j < 64 then -1 else 0) (fun j => if j < 64 then -1 else 0) 0 0 ++ [.inl (3, 1, .inr (.inl (fun _ => 0)))])), false, 87, (ns + 6))) rfl ?_
  refine go_n 7 (fr' := (1082, [(0, .ref 1000000), (1, .ref 0), (2, .ref 49), (3, .ref 85), (4, .int 2), (5, .int 1)], [.int (xs 3), .ref 49], (ah_fw S z f1 f2 f3 g1 g2 0 ++ (ah_m a b (fun j => if j < 64 then -1 else 0) (fun j => if j < 64 then -1 else 0) 0 0 ++ [.inl (3, 1, .inr (.inl (fun _ => 0)))])), false, 87, (ns + 6))) rfl ?_
  refine go_callS (q := 78) (M1 := an_X10_breaker) rfl rfl (by decide) rfl ⟨_, rfl⟩ trivial (pm_breaker 10) ?_
  refine go_eq (fr' := (1085, [(0, .ref 1000000), (1, .ref 0), (2, .ref 49), (3, .ref 85), (4, .int 2), (5, .int 1)], [.int 0], (ah_fw S z f1 f2 f3 g1 g2 0 ++ (ah_m a b (fun j => if j < 64 then -1 else 0) (fun j => if j < 64 then -1 else 0) 0 1 ++ [.inl (3, 1, .inr (.inl (fun _ => 0)))])), false, 87, ((ns + 6) + 0))) rfl ?_
  refine go_n 2 (fr' := (1088, [(0, .ref 1000000), (1, .ref 0), (2, .ref 49), (3, .ref 85), (4, .int 2), (5, .int 1), (6, .int 0)], [.ref 49], (ah_fw S z f1 f2 f3 g1 g2 0 ++ (ah_m a b (fun j => if j < 64 then -1 else 0) (fun j => if j < 64 then -1 else 0) 0 1 ++ [.inl (3, 1, .inr (.inl (fun _ => 0)))])), false, 87, ((ns + 6) + 0))) rfl ?_
  refine go_callS (q := 52) (M1 := an_X10_thrown) rfl rfl (by decide) rfl ⟨_, rfl⟩ trivial (pm_thrown 11) ?_
  refine go_eq (fr' := (1091, [(0, .ref 1000000), (1, .ref 0), (2, .ref 49), (3, .ref 85), (4, .int 2), (5, .int 1), (6, .int 0)], [.int 1], (ah_fw S z f1 f2 f3 g1 g2 0 ++ (ah_m a b (fun j => if j < 64 then -1 else 0) (fun j => if j < 64 then -1 else 0) 0 1 ++ [.inl (3, 1, .inr (.inl (fun _ => 0)))])), false, 87, (((ns + 6) + 0) + 0))) rfl ?_
  refine go_n 5 (fr' := (1174, [(0, .ref 1000000), (1, .ref 0), (2, .ref 49), (3, .ref 85), (4, .int 2), (5, .int 1), (6, .int 0)], [], (ah_fw S z f1 f2 f3 g1 g2 0 ++ (ah_m a b (fun j => if j < 64 then -1 else 0) (fun j => if j < 64 then -1 else 0) 0 1 ++ [.inl (3, 1, .inr (.inl (fun _ => 0)))])), false, 87, (((ns + 6) + 0) + 0))) rfl ?_
  exact pl_end2
end
section
/-! the reference: a cell or none -/
set_option maxRecDepth 20000 in
theorem pm_isCell_no {X : Nat × (Nat → Int32)} {c0 c1 c2 c3 c4 c5 c6 c7 c8 c9 c10 c11 c12 c13 c14 c15 c16 c17 c18 c19 c20 c21 c22 c23 c24 c25 c26 c27 c28 c29 c30 c31 c32 c33 c34 c35 c36 c37 c38 c39 c40 c41 c42 c43 c44 c45 c46 c47 c48 : ai_C} {a b : Nat} {s1 s2 : Nat → Int32} {v t : Int32} {R : List ai_C} {ex : Bool} {k : Int32} (hk : ¬ (0 ≤ k ∧ k < nI a * nI b)) (d : Nat) : ai_Ev an_ms an_lk X 35 (d + 1) 54 [.ref 49, .int k] ([c0, c1, c2, c3, c4, c5, c6, c7, c8, c9, c10, c11, c12, c13, c14, c15, c16, c17, c18, c19, c20, c21, c22, c23, c24, c25, c26, c27, c28, c29, c30, c31, c32, c33, c34, c35, c36, c37, c38, c39, c40, c41, c42, c43, c44, c45, c46, c47, c48] ++ (ah_m a b s1 s2 v t ++ R)) ex (.inl (some (.int 0), ([c0, c1, c2, c3, c4, c5, c6, c7, c8, c9, c10, c11, c12, c13, c14, c15, c16, c17, c18, c19, c20, c21, c22, c23, c24, c25, c26, c27, c28, c29, c30, c31, c32, c33, c34, c35, c36, c37, c38, c39, c40, c41, c42, c43, c44, c45, c46, c47, c48] ++ (ah_m a b s1 s2 v t ++ R)), ex, 0, 0)) := by
  refine ev_of (M := an_X10_isCell) rfl (Nat.le_of_ble_eq_true rfl) ?_
  refine go_n 1 (fr' := (1, [(0, .ref 49), (1, .int k)], [.int k], ([c0, c1, c2, c3, c4, c5, c6, c7, c8, c9, c10, c11, c12, c13, c14, c15, c16, c17, c18, c19, c20, c21, c22, c23, c24, c25, c26, c27, c28, c29, c30, c31, c32, c33, c34, c35, c36, c37, c38, c39, c40, c41, c42, c43, c44, c45, c46, c47, c48] ++ (ah_m a b s1 s2 v t ++ R)), ex, 0, 0)) rfl ?_
  refine go_if_lt (t := 21) rfl (fun q1 => ?_) (fun q1 => ?_)
  · refine go_n 1 (fr' := (22, [(0, .ref 49), (1, .int k)], [.int 0], ([c0, c1, c2, c3, c4, c5, c6, c7, c8, c9, c10, c11, c12, c13, c14, c15, c16, c17, c18, c19, c20, c21, c22, c23, c24, c25, c26, c27, c28, c29, c30, c31, c32, c33, c34, c35, c36, c37, c38, c39, c40, c41, c42, c43, c44, c45, c46, c47, c48] ++ (ah_m a b s1 s2 v t ++ R)), ex, 0, 0)) rfl ?_
    refine go_rt (i := .ireturn) (tg := []) rfl ?_
    rfl
  · refine go_n 2 (fr' := (6, [(0, .ref 49), (1, .int k)], [.ref 49, .int k], ([c0, c1, c2, c3, c4, c5, c6, c7, c8, c9, c10, c11, c12, c13, c14, c15, c16, c17, c18, c19, c20, c21, c22, c23, c24, c25, c26, c27, c28, c29, c30, c31, c32, c33, c34, c35, c36, c37, c38, c39, c40, c41, c42, c43, c44, c45, c46, c47, c48] ++ (ah_m a b s1 s2 v t ++ R)), ex, 0, 0)) rfl ?_
    refine go_get rfl rfl rfl rfl ?_
    refine go_n 1 (fr' := (10, [(0, .ref 49), (1, .int k)], [.ref 49, .int (nI a), .int k], ([c0, c1, c2, c3, c4, c5, c6, c7, c8, c9, c10, c11, c12, c13, c14, c15, c16, c17, c18, c19, c20, c21, c22, c23, c24, c25, c26, c27, c28, c29, c30, c31, c32, c33, c34, c35, c36, c37, c38, c39, c40, c41, c42, c43, c44, c45, c46, c47, c48] ++ (ah_m a b s1 s2 v t ++ R)), ex, 0, 0)) rfl ?_
    refine go_get rfl rfl rfl rfl ?_
    refine go_n 1 (fr' := (14, [(0, .ref 49), (1, .int k)], [.int ((nI a) * (nI b)), .int k], ([c0, c1, c2, c3, c4, c5, c6, c7, c8, c9, c10, c11, c12, c13, c14, c15, c16, c17, c18, c19, c20, c21, c22, c23, c24, c25, c26, c27, c28, c29, c30, c31, c32, c33, c34, c35, c36, c37, c38, c39, c40, c41, c42, c43, c44, c45, c46, c47, c48] ++ (ah_m a b s1 s2 v t ++ R)), ex, 0, 0)) rfl ?_
    refine go_ic_ge (t := 21) rfl (fun q2 => ?_) (fun q2 => absurd (Int32.not_lt.mp (fun w => hk ⟨Int32.not_lt.mp q1, w⟩)) q2)
    refine go_n 1 (fr' := (22, [(0, .ref 49), (1, .int k)], [.int 0], ([c0, c1, c2, c3, c4, c5, c6, c7, c8, c9, c10, c11, c12, c13, c14, c15, c16, c17, c18, c19, c20, c21, c22, c23, c24, c25, c26, c27, c28, c29, c30, c31, c32, c33, c34, c35, c36, c37, c38, c39, c40, c41, c42, c43, c44, c45, c46, c47, c48] ++ (ah_m a b s1 s2 v t ++ R)), ex, 0, 0)) rfl ?_
    refine go_rt (i := .ireturn) (tg := []) rfl ?_
    rfl
set_option maxRecDepth 20000 in
theorem pm_isCell {X : Nat × (Nat → Int32)} {c0 c1 c2 c3 c4 c5 c6 c7 c8 c9 c10 c11 c12 c13 c14 c15 c16 c17 c18 c19 c20 c21 c22 c23 c24 c25 c26 c27 c28 c29 c30 c31 c32 c33 c34 c35 c36 c37 c38 c39 c40 c41 c42 c43 c44 c45 c46 c47 c48 : ai_C} {a b : Nat} {s1 s2 : Nat → Int32} {v t : Int32} {R : List ai_C} {ex : Bool} {k : Int32} (hk : 0 ≤ k ∧ k < nI a * nI b) (d : Nat) : ai_Ev an_ms an_lk X 35 (d + 1) 54 [.ref 49, .int k] ([c0, c1, c2, c3, c4, c5, c6, c7, c8, c9, c10, c11, c12, c13, c14, c15, c16, c17, c18, c19, c20, c21, c22, c23, c24, c25, c26, c27, c28, c29, c30, c31, c32, c33, c34, c35, c36, c37, c38, c39, c40, c41, c42, c43, c44, c45, c46, c47, c48] ++ (ah_m a b s1 s2 v t ++ R)) ex (.inl (some (.int 1), ([c0, c1, c2, c3, c4, c5, c6, c7, c8, c9, c10, c11, c12, c13, c14, c15, c16, c17, c18, c19, c20, c21, c22, c23, c24, c25, c26, c27, c28, c29, c30, c31, c32, c33, c34, c35, c36, c37, c38, c39, c40, c41, c42, c43, c44, c45, c46, c47, c48] ++ (ah_m a b s1 s2 v t ++ R)), ex, 0, 0)) := by
  refine ev_of (M := an_X10_isCell) rfl (Nat.le_of_ble_eq_true rfl) ?_
  refine go_n 1 (fr' := (1, [(0, .ref 49), (1, .int k)], [.int k], ([c0, c1, c2, c3, c4, c5, c6, c7, c8, c9, c10, c11, c12, c13, c14, c15, c16, c17, c18, c19, c20, c21, c22, c23, c24, c25, c26, c27, c28, c29, c30, c31, c32, c33, c34, c35, c36, c37, c38, c39, c40, c41, c42, c43, c44, c45, c46, c47, c48] ++ (ah_m a b s1 s2 v t ++ R)), ex, 0, 0)) rfl ?_
  refine go_if_lt (t := 21) rfl (fun q1 => absurd q1 (Int32.not_lt.mpr hk.1)) (fun q1 => ?_)
  refine go_n 2 (fr' := (6, [(0, .ref 49), (1, .int k)], [.ref 49, .int k], ([c0, c1, c2, c3, c4, c5, c6, c7, c8, c9, c10, c11, c12, c13, c14, c15, c16, c17, c18, c19, c20, c21, c22, c23, c24, c25, c26, c27, c28, c29, c30, c31, c32, c33, c34, c35, c36, c37, c38, c39, c40, c41, c42, c43, c44, c45, c46, c47, c48] ++ (ah_m a b s1 s2 v t ++ R)), ex, 0, 0)) rfl ?_
  refine go_get rfl rfl rfl rfl ?_
  refine go_n 1 (fr' := (10, [(0, .ref 49), (1, .int k)], [.ref 49, .int (nI a), .int k], ([c0, c1, c2, c3, c4, c5, c6, c7, c8, c9, c10, c11, c12, c13, c14, c15, c16, c17, c18, c19, c20, c21, c22, c23, c24, c25, c26, c27, c28, c29, c30, c31, c32, c33, c34, c35, c36, c37, c38, c39, c40, c41, c42, c43, c44, c45, c46, c47, c48] ++ (ah_m a b s1 s2 v t ++ R)), ex, 0, 0)) rfl ?_
  refine go_get rfl rfl rfl rfl ?_
  refine go_n 1 (fr' := (14, [(0, .ref 49), (1, .int k)], [.int ((nI a) * (nI b)), .int k], ([c0, c1, c2, c3, c4, c5, c6, c7, c8, c9, c10, c11, c12, c13, c14, c15, c16, c17, c18, c19, c20, c21, c22, c23, c24, c25, c26, c27, c28, c29, c30, c31, c32, c33, c34, c35, c36, c37, c38, c39, c40, c41, c42, c43, c44, c45, c46, c47, c48] ++ (ah_m a b s1 s2 v t ++ R)), ex, 0, 0)) rfl ?_
  refine go_ic_ge (t := 21) rfl (fun q2 => absurd q2 (Int32.not_le.mpr hk.2)) (fun q2 => ?_)
  refine go_n 2 (fr' := (22, [(0, .ref 49), (1, .int k)], [.int 1], ([c0, c1, c2, c3, c4, c5, c6, c7, c8, c9, c10, c11, c12, c13, c14, c15, c16, c17, c18, c19, c20, c21, c22, c23, c24, c25, c26, c27, c28, c29, c30, c31, c32, c33, c34, c35, c36, c37, c38, c39, c40, c41, c42, c43, c44, c45, c46, c47, c48] ++ (ah_m a b s1 s2 v t ++ R)), ex, 0, 0)) rfl ?_
  refine go_rt (i := .ireturn) (tg := []) rfl ?_
  rfl
set_option maxRecDepth 20000 in
theorem pm_house_no {X : Nat × (Nat → Int32)} {c0 c1 c2 c3 c4 c5 c6 c7 c8 c9 c10 c11 c12 c13 c14 c15 c16 c17 c18 c19 c20 c21 c22 c23 c24 c25 c26 c27 c28 c29 c30 c31 c32 c33 c34 c35 c36 c37 c38 c39 c40 c41 c42 c43 c44 c45 c46 c47 c48 : ai_C} {a b : Nat} {s1 s2 : Nat → Int32} {v t : Int32} {R : List ai_C} {ex : Bool} {k p1 p2 : Int32} (hk : ¬ (0 ≤ k ∧ k < nI a * nI b)) (d : Nat) : ai_Ev an_ms an_lk X 35 (d + 2) 56 [.ref 49, .int k, .int p1, .int p2] ([c0, c1, c2, c3, c4, c5, c6, c7, c8, c9, c10, c11, c12, c13, c14, c15, c16, c17, c18, c19, c20, c21, c22, c23, c24, c25, c26, c27, c28, c29, c30, c31, c32, c33, c34, c35, c36, c37, c38, c39, c40, c41, c42, c43, c44, c45, c46, c47, c48] ++ (ah_m a b s1 s2 v t ++ R)) ex (.inl (some (.int 0), ([c0, c1, c2, c3, c4, c5, c6, c7, c8, c9, c10, c11, c12, c13, c14, c15, c16, c17, c18, c19, c20, c21, c22, c23, c24, c25, c26, c27, c28, c29, c30, c31, c32, c33, c34, c35, c36, c37, c38, c39, c40, c41, c42, c43, c44, c45, c46, c47, c48] ++ (ah_m a b s1 s2 v 1 ++ R)), ex, 0, 0)) := by
  refine ev_of (M := an_X10_house) rfl (Nat.le_of_ble_eq_true rfl) ?_
  refine go_n 2 (fr' := (2, [(0, .ref 49), (1, .int k), (2, .int p1), (3, .int p2)], [.int 0, .ref 49], ([c0, c1, c2, c3, c4, c5, c6, c7, c8, c9, c10, c11, c12, c13, c14, c15, c16, c17, c18, c19, c20, c21, c22, c23, c24, c25, c26, c27, c28, c29, c30, c31, c32, c33, c34, c35, c36, c37, c38, c39, c40, c41, c42, c43, c44, c45, c46, c47, c48] ++ (ah_m a b s1 s2 v t ++ R)), ex, 0, 0)) rfl ?_
  refine go_put rfl rfl rfl (Nat.le_of_ble_eq_true rfl) rfl ?_
  refine go_n 2 (fr' := (7, [(0, .ref 49), (1, .int k), (2, .int p1), (3, .int p2)], [.int k, .ref 49], (([c0, c1, c2, c3, c4, c5, c6, c7, c8, c9, c10, c11, c12, c13, c14, c15, c16, c17, c18, c19, c20, c21, c22, c23, c24, c25, c26, c27, c28, c29, c30, c31, c32, c33, c34, c35, c36, c37, c38, c39, c40, c41, c42, c43, c44, c45, c46, c47, c48] ++ (ah_m a b s1 s2 v t ++ R)).set 49 (.inr (10, [.ref 50, .int 0, .int (nI a), .int (nI b), .int v, .int 0, .int 0, .int 0, .int 0, .int (-1), .int 0, .ref 51, .ref 52, .ref 53, .ref 54, .ref 55, .ref 56, .ref 57, .ref 58, .ref 59, .ref 60, .ref 61, .ref 62, .ref 63, .ref 64, .ref 65, .ref 66, .ref 67, .ref 68, .ref 69, .ref 70, .ref 71, .ref 72, .ref 73, .int 0, .int 0, .int 0, .int 0, .int 0, .int 0, .int 0, .int 0, .int 0, .int 0, .ref 74, .ref 75, .ref 76, .ref 77, .ref 78, .ref 79, .ref 80, .ref 81, .int 0, .ref 82, .ref 83, .ref 84]))), ex, 0, 0)) rfl ?_
  refine go_callS (q := 54) (M1 := an_X10_isCell) rfl rfl (by decide) rfl ⟨_, rfl⟩ trivial (pm_isCell_no hk d) ?_
  refine go_eq (fr' := (10, [(0, .ref 49), (1, .int k), (2, .int p1), (3, .int p2)], [.int 0], ([c0, c1, c2, c3, c4, c5, c6, c7, c8, c9, c10, c11, c12, c13, c14, c15, c16, c17, c18, c19, c20, c21, c22, c23, c24, c25, c26, c27, c28, c29, c30, c31, c32, c33, c34, c35, c36, c37, c38, c39, c40, c41, c42, c43, c44, c45, c46, c47, c48] ++ (ah_m a b s1 s2 v 0 ++ R)), ex, 0, 0)) rfl ?_
  refine go_n 2 (fr' := (14, [(0, .ref 49), (1, .int k), (2, .int p1), (3, .int p2)], [.ref 49], ([c0, c1, c2, c3, c4, c5, c6, c7, c8, c9, c10, c11, c12, c13, c14, c15, c16, c17, c18, c19, c20, c21, c22, c23, c24, c25, c26, c27, c28, c29, c30, c31, c32, c33, c34, c35, c36, c37, c38, c39, c40, c41, c42, c43, c44, c45, c46, c47, c48] ++ (ah_m a b s1 s2 v 0 ++ R)), ex, 0, 0)) rfl ?_
  refine go_callS (q := 53) (M1 := an_X10_fail) rfl rfl (by decide) rfl ⟨_, rfl⟩ trivial (pm_fail d) ?_
  refine go_eq (fr' := (17, [(0, .ref 49), (1, .int k), (2, .int p1), (3, .int p2)], [.int 0], ([c0, c1, c2, c3, c4, c5, c6, c7, c8, c9, c10, c11, c12, c13, c14, c15, c16, c17, c18, c19, c20, c21, c22, c23, c24, c25, c26, c27, c28, c29, c30, c31, c32, c33, c34, c35, c36, c37, c38, c39, c40, c41, c42, c43, c44, c45, c46, c47, c48] ++ (ah_m a b s1 s2 v 1 ++ R)), ex, 0, 0)) rfl ?_
  refine go_n 2 (fr' := (19, [(0, .ref 49), (1, .int k), (2, .int p1), (3, .int p2)], [.int 0], ([c0, c1, c2, c3, c4, c5, c6, c7, c8, c9, c10, c11, c12, c13, c14, c15, c16, c17, c18, c19, c20, c21, c22, c23, c24, c25, c26, c27, c28, c29, c30, c31, c32, c33, c34, c35, c36, c37, c38, c39, c40, c41, c42, c43, c44, c45, c46, c47, c48] ++ (ah_m a b s1 s2 v 1 ++ R)), ex, 0, 0)) rfl ?_
  refine go_rt (i := .ireturn) (tg := []) rfl ?_
  rfl
set_option maxRecDepth 20000 in
theorem pm_well_no {X : Nat × (Nat → Int32)} {c0 c1 c2 c3 c4 c5 c6 c7 c8 c9 c10 c11 c12 c13 c14 c15 c16 c17 c18 c19 c20 c21 c22 c23 c24 c25 c26 c27 c28 c29 c30 c31 c32 c33 c34 c35 c36 c37 c38 c39 c40 c41 c42 c43 c44 c45 c46 c47 c48 : ai_C} {a b : Nat} {s1 s2 : Nat → Int32} {v t : Int32} {R : List ai_C} {ex : Bool} {k p1 : Int32} (hk : ¬ (0 ≤ k ∧ k < nI a * nI b)) (d : Nat) : ai_Ev an_ms an_lk X 35 (d + 2) 57 [.ref 49, .int k, .int p1] ([c0, c1, c2, c3, c4, c5, c6, c7, c8, c9, c10, c11, c12, c13, c14, c15, c16, c17, c18, c19, c20, c21, c22, c23, c24, c25, c26, c27, c28, c29, c30, c31, c32, c33, c34, c35, c36, c37, c38, c39, c40, c41, c42, c43, c44, c45, c46, c47, c48] ++ (ah_m a b s1 s2 v t ++ R)) ex (.inl (some (.int 0), ([c0, c1, c2, c3, c4, c5, c6, c7, c8, c9, c10, c11, c12, c13, c14, c15, c16, c17, c18, c19, c20, c21, c22, c23, c24, c25, c26, c27, c28, c29, c30, c31, c32, c33, c34, c35, c36, c37, c38, c39, c40, c41, c42, c43, c44, c45, c46, c47, c48] ++ (ah_m a b s1 s2 v 1 ++ R)), ex, 0, 0)) := by
  refine ev_of (M := an_X10_well) rfl (Nat.le_of_ble_eq_true rfl) ?_
  refine go_n 2 (fr' := (2, [(0, .ref 49), (1, .int k), (2, .int p1)], [.int 0, .ref 49], ([c0, c1, c2, c3, c4, c5, c6, c7, c8, c9, c10, c11, c12, c13, c14, c15, c16, c17, c18, c19, c20, c21, c22, c23, c24, c25, c26, c27, c28, c29, c30, c31, c32, c33, c34, c35, c36, c37, c38, c39, c40, c41, c42, c43, c44, c45, c46, c47, c48] ++ (ah_m a b s1 s2 v t ++ R)), ex, 0, 0)) rfl ?_
  refine go_put rfl rfl rfl (Nat.le_of_ble_eq_true rfl) rfl ?_
  refine go_n 2 (fr' := (7, [(0, .ref 49), (1, .int k), (2, .int p1)], [.int k, .ref 49], (([c0, c1, c2, c3, c4, c5, c6, c7, c8, c9, c10, c11, c12, c13, c14, c15, c16, c17, c18, c19, c20, c21, c22, c23, c24, c25, c26, c27, c28, c29, c30, c31, c32, c33, c34, c35, c36, c37, c38, c39, c40, c41, c42, c43, c44, c45, c46, c47, c48] ++ (ah_m a b s1 s2 v t ++ R)).set 49 (.inr (10, [.ref 50, .int 0, .int (nI a), .int (nI b), .int v, .int 0, .int 0, .int 0, .int 0, .int (-1), .int 0, .ref 51, .ref 52, .ref 53, .ref 54, .ref 55, .ref 56, .ref 57, .ref 58, .ref 59, .ref 60, .ref 61, .ref 62, .ref 63, .ref 64, .ref 65, .ref 66, .ref 67, .ref 68, .ref 69, .ref 70, .ref 71, .ref 72, .ref 73, .int 0, .int 0, .int 0, .int 0, .int 0, .int 0, .int 0, .int 0, .int 0, .int 0, .ref 74, .ref 75, .ref 76, .ref 77, .ref 78, .ref 79, .ref 80, .ref 81, .int 0, .ref 82, .ref 83, .ref 84]))), ex, 0, 0)) rfl ?_
  refine go_callS (q := 54) (M1 := an_X10_isCell) rfl rfl (by decide) rfl ⟨_, rfl⟩ trivial (pm_isCell_no hk d) ?_
  refine go_eq (fr' := (10, [(0, .ref 49), (1, .int k), (2, .int p1)], [.int 0], ([c0, c1, c2, c3, c4, c5, c6, c7, c8, c9, c10, c11, c12, c13, c14, c15, c16, c17, c18, c19, c20, c21, c22, c23, c24, c25, c26, c27, c28, c29, c30, c31, c32, c33, c34, c35, c36, c37, c38, c39, c40, c41, c42, c43, c44, c45, c46, c47, c48] ++ (ah_m a b s1 s2 v 0 ++ R)), ex, 0, 0)) rfl ?_
  refine go_n 2 (fr' := (14, [(0, .ref 49), (1, .int k), (2, .int p1)], [.ref 49], ([c0, c1, c2, c3, c4, c5, c6, c7, c8, c9, c10, c11, c12, c13, c14, c15, c16, c17, c18, c19, c20, c21, c22, c23, c24, c25, c26, c27, c28, c29, c30, c31, c32, c33, c34, c35, c36, c37, c38, c39, c40, c41, c42, c43, c44, c45, c46, c47, c48] ++ (ah_m a b s1 s2 v 0 ++ R)), ex, 0, 0)) rfl ?_
  refine go_callS (q := 53) (M1 := an_X10_fail) rfl rfl (by decide) rfl ⟨_, rfl⟩ trivial (pm_fail d) ?_
  refine go_eq (fr' := (17, [(0, .ref 49), (1, .int k), (2, .int p1)], [.int 0], ([c0, c1, c2, c3, c4, c5, c6, c7, c8, c9, c10, c11, c12, c13, c14, c15, c16, c17, c18, c19, c20, c21, c22, c23, c24, c25, c26, c27, c28, c29, c30, c31, c32, c33, c34, c35, c36, c37, c38, c39, c40, c41, c42, c43, c44, c45, c46, c47, c48] ++ (ah_m a b s1 s2 v 1 ++ R)), ex, 0, 0)) rfl ?_
  refine go_n 2 (fr' := (19, [(0, .ref 49), (1, .int k), (2, .int p1)], [.int 0], ([c0, c1, c2, c3, c4, c5, c6, c7, c8, c9, c10, c11, c12, c13, c14, c15, c16, c17, c18, c19, c20, c21, c22, c23, c24, c25, c26, c27, c28, c29, c30, c31, c32, c33, c34, c35, c36, c37, c38, c39, c40, c41, c42, c43, c44, c45, c46, c47, c48] ++ (ah_m a b s1 s2 v 1 ++ R)), ex, 0, 0)) rfl ?_
  refine go_rt (i := .ireturn) (tg := []) rfl ?_
  rfl
set_option maxRecDepth 20000 in
theorem pm_light_no {X : Nat × (Nat → Int32)} {c0 c1 c2 c3 c4 c5 c6 c7 c8 c9 c10 c11 c12 c13 c14 c15 c16 c17 c18 c19 c20 c21 c22 c23 c24 c25 c26 c27 c28 c29 c30 c31 c32 c33 c34 c35 c36 c37 c38 c39 c40 c41 c42 c43 c44 c45 c46 c47 c48 : ai_C} {a b : Nat} {s1 s2 : Nat → Int32} {v t : Int32} {R : List ai_C} {ex : Bool} {k : Int32} (hk : ¬ (0 ≤ k ∧ k < nI a * nI b)) (d : Nat) : ai_Ev an_ms an_lk X 35 (d + 2) 68 [.ref 49, .int k] ([c0, c1, c2, c3, c4, c5, c6, c7, c8, c9, c10, c11, c12, c13, c14, c15, c16, c17, c18, c19, c20, c21, c22, c23, c24, c25, c26, c27, c28, c29, c30, c31, c32, c33, c34, c35, c36, c37, c38, c39, c40, c41, c42, c43, c44, c45, c46, c47, c48] ++ (ah_m a b s1 s2 v t ++ R)) ex (.inl (some (.int 0), ([c0, c1, c2, c3, c4, c5, c6, c7, c8, c9, c10, c11, c12, c13, c14, c15, c16, c17, c18, c19, c20, c21, c22, c23, c24, c25, c26, c27, c28, c29, c30, c31, c32, c33, c34, c35, c36, c37, c38, c39, c40, c41, c42, c43, c44, c45, c46, c47, c48] ++ (ah_m a b s1 s2 v 1 ++ R)), ex, 0, 0)) := by
  refine ev_of (M := an_X10_light) rfl (Nat.le_of_ble_eq_true rfl) ?_
  refine go_n 2 (fr' := (2, [(0, .ref 49), (1, .int k)], [.int 0, .ref 49], ([c0, c1, c2, c3, c4, c5, c6, c7, c8, c9, c10, c11, c12, c13, c14, c15, c16, c17, c18, c19, c20, c21, c22, c23, c24, c25, c26, c27, c28, c29, c30, c31, c32, c33, c34, c35, c36, c37, c38, c39, c40, c41, c42, c43, c44, c45, c46, c47, c48] ++ (ah_m a b s1 s2 v t ++ R)), ex, 0, 0)) rfl ?_
  refine go_put rfl rfl rfl (Nat.le_of_ble_eq_true rfl) rfl ?_
  refine go_n 2 (fr' := (7, [(0, .ref 49), (1, .int k)], [.int k, .ref 49], (([c0, c1, c2, c3, c4, c5, c6, c7, c8, c9, c10, c11, c12, c13, c14, c15, c16, c17, c18, c19, c20, c21, c22, c23, c24, c25, c26, c27, c28, c29, c30, c31, c32, c33, c34, c35, c36, c37, c38, c39, c40, c41, c42, c43, c44, c45, c46, c47, c48] ++ (ah_m a b s1 s2 v t ++ R)).set 49 (.inr (10, [.ref 50, .int 0, .int (nI a), .int (nI b), .int v, .int 0, .int 0, .int 0, .int 0, .int (-1), .int 0, .ref 51, .ref 52, .ref 53, .ref 54, .ref 55, .ref 56, .ref 57, .ref 58, .ref 59, .ref 60, .ref 61, .ref 62, .ref 63, .ref 64, .ref 65, .ref 66, .ref 67, .ref 68, .ref 69, .ref 70, .ref 71, .ref 72, .ref 73, .int 0, .int 0, .int 0, .int 0, .int 0, .int 0, .int 0, .int 0, .int 0, .int 0, .ref 74, .ref 75, .ref 76, .ref 77, .ref 78, .ref 79, .ref 80, .ref 81, .int 0, .ref 82, .ref 83, .ref 84]))), ex, 0, 0)) rfl ?_
  refine go_callS (q := 54) (M1 := an_X10_isCell) rfl rfl (by decide) rfl ⟨_, rfl⟩ trivial (pm_isCell_no hk d) ?_
  refine go_eq (fr' := (10, [(0, .ref 49), (1, .int k)], [.int 0], ([c0, c1, c2, c3, c4, c5, c6, c7, c8, c9, c10, c11, c12, c13, c14, c15, c16, c17, c18, c19, c20, c21, c22, c23, c24, c25, c26, c27, c28, c29, c30, c31, c32, c33, c34, c35, c36, c37, c38, c39, c40, c41, c42, c43, c44, c45, c46, c47, c48] ++ (ah_m a b s1 s2 v 0 ++ R)), ex, 0, 0)) rfl ?_
  refine go_n 2 (fr' := (14, [(0, .ref 49), (1, .int k)], [.ref 49], ([c0, c1, c2, c3, c4, c5, c6, c7, c8, c9, c10, c11, c12, c13, c14, c15, c16, c17, c18, c19, c20, c21, c22, c23, c24, c25, c26, c27, c28, c29, c30, c31, c32, c33, c34, c35, c36, c37, c38, c39, c40, c41, c42, c43, c44, c45, c46, c47, c48] ++ (ah_m a b s1 s2 v 0 ++ R)), ex, 0, 0)) rfl ?_
  refine go_callS (q := 53) (M1 := an_X10_fail) rfl rfl (by decide) rfl ⟨_, rfl⟩ trivial (pm_fail d) ?_
  refine go_eq (fr' := (17, [(0, .ref 49), (1, .int k)], [.int 0], ([c0, c1, c2, c3, c4, c5, c6, c7, c8, c9, c10, c11, c12, c13, c14, c15, c16, c17, c18, c19, c20, c21, c22, c23, c24, c25, c26, c27, c28, c29, c30, c31, c32, c33, c34, c35, c36, c37, c38, c39, c40, c41, c42, c43, c44, c45, c46, c47, c48] ++ (ah_m a b s1 s2 v 1 ++ R)), ex, 0, 0)) rfl ?_
  refine go_rt (i := .ireturn) (tg := []) rfl ?_
  rfl
set_option maxRecDepth 20000 in
theorem pm_cell_no {X : Nat × (Nat → Int32)} {c0 c1 c2 c3 c4 c5 c6 c7 c8 c9 c10 c11 c12 c13 c14 c15 c16 c17 c18 c19 c20 c21 c22 c23 c24 c25 c26 c27 c28 c29 c30 c31 c32 c33 c34 c35 c36 c37 c38 c39 c40 c41 c42 c43 c44 c45 c46 c47 c48 : ai_C} {a b : Nat} {s1 s2 : Nat → Int32} {v t : Int32} {R : List ai_C} {ex : Bool} {k p1 : Int32} (hk : ¬ (0 ≤ k ∧ k < nI a * nI b)) (d : Nat) : ai_Ev an_ms an_lk X 35 (d + 2) 75 [.ref 49, .int k, .int p1] ([c0, c1, c2, c3, c4, c5, c6, c7, c8, c9, c10, c11, c12, c13, c14, c15, c16, c17, c18, c19, c20, c21, c22, c23, c24, c25, c26, c27, c28, c29, c30, c31, c32, c33, c34, c35, c36, c37, c38, c39, c40, c41, c42, c43, c44, c45, c46, c47, c48] ++ (ah_m a b s1 s2 v t ++ R)) ex (.inl (some (.int 0), ([c0, c1, c2, c3, c4, c5, c6, c7, c8, c9, c10, c11, c12, c13, c14, c15, c16, c17, c18, c19, c20, c21, c22, c23, c24, c25, c26, c27, c28, c29, c30, c31, c32, c33, c34, c35, c36, c37, c38, c39, c40, c41, c42, c43, c44, c45, c46, c47, c48] ++ (ah_m a b s1 s2 v 1 ++ R)), ex, 0, 0)) := by
  refine ev_of (M := an_X10_cell) rfl (Nat.le_of_ble_eq_true rfl) ?_
  refine go_n 2 (fr' := (2, [(0, .ref 49), (1, .int k), (2, .int p1)], [.int 0, .ref 49], ([c0, c1, c2, c3, c4, c5, c6, c7, c8, c9, c10, c11, c12, c13, c14, c15, c16, c17, c18, c19, c20, c21, c22, c23, c24, c25, c26, c27, c28, c29, c30, c31, c32, c33, c34, c35, c36, c37, c38, c39, c40, c41, c42, c43, c44, c45, c46, c47, c48] ++ (ah_m a b s1 s2 v t ++ R)), ex, 0, 0)) rfl ?_
  refine go_put rfl rfl rfl (Nat.le_of_ble_eq_true rfl) rfl ?_
  refine go_n 2 (fr' := (7, [(0, .ref 49), (1, .int k), (2, .int p1)], [.int k, .ref 49], (([c0, c1, c2, c3, c4, c5, c6, c7, c8, c9, c10, c11, c12, c13, c14, c15, c16, c17, c18, c19, c20, c21, c22, c23, c24, c25, c26, c27, c28, c29, c30, c31, c32, c33, c34, c35, c36, c37, c38, c39, c40, c41, c42, c43, c44, c45, c46, c47, c48] ++ (ah_m a b s1 s2 v t ++ R)).set 49 (.inr (10, [.ref 50, .int 0, .int (nI a), .int (nI b), .int v, .int 0, .int 0, .int 0, .int 0, .int (-1), .int 0, .ref 51, .ref 52, .ref 53, .ref 54, .ref 55, .ref 56, .ref 57, .ref 58, .ref 59, .ref 60, .ref 61, .ref 62, .ref 63, .ref 64, .ref 65, .ref 66, .ref 67, .ref 68, .ref 69, .ref 70, .ref 71, .ref 72, .ref 73, .int 0, .int 0, .int 0, .int 0, .int 0, .int 0, .int 0, .int 0, .int 0, .int 0, .ref 74, .ref 75, .ref 76, .ref 77, .ref 78, .ref 79, .ref 80, .ref 81, .int 0, .ref 82, .ref 83, .ref 84]))), ex, 0, 0)) rfl ?_
  refine go_callS (q := 54) (M1 := an_X10_isCell) rfl rfl (by decide) rfl ⟨_, rfl⟩ trivial (pm_isCell_no hk d) ?_
  refine go_eq (fr' := (10, [(0, .ref 49), (1, .int k), (2, .int p1)], [.int 0], ([c0, c1, c2, c3, c4, c5, c6, c7, c8, c9, c10, c11, c12, c13, c14, c15, c16, c17, c18, c19, c20, c21, c22, c23, c24, c25, c26, c27, c28, c29, c30, c31, c32, c33, c34, c35, c36, c37, c38, c39, c40, c41, c42, c43, c44, c45, c46, c47, c48] ++ (ah_m a b s1 s2 v 0 ++ R)), ex, 0, 0)) rfl ?_
  refine go_n 2 (fr' := (14, [(0, .ref 49), (1, .int k), (2, .int p1)], [.ref 49], ([c0, c1, c2, c3, c4, c5, c6, c7, c8, c9, c10, c11, c12, c13, c14, c15, c16, c17, c18, c19, c20, c21, c22, c23, c24, c25, c26, c27, c28, c29, c30, c31, c32, c33, c34, c35, c36, c37, c38, c39, c40, c41, c42, c43, c44, c45, c46, c47, c48] ++ (ah_m a b s1 s2 v 0 ++ R)), ex, 0, 0)) rfl ?_
  refine go_callS (q := 53) (M1 := an_X10_fail) rfl rfl (by decide) rfl ⟨_, rfl⟩ trivial (pm_fail d) ?_
  refine go_eq (fr' := (17, [(0, .ref 49), (1, .int k), (2, .int p1)], [.int 0], ([c0, c1, c2, c3, c4, c5, c6, c7, c8, c9, c10, c11, c12, c13, c14, c15, c16, c17, c18, c19, c20, c21, c22, c23, c24, c25, c26, c27, c28, c29, c30, c31, c32, c33, c34, c35, c36, c37, c38, c39, c40, c41, c42, c43, c44, c45, c46, c47, c48] ++ (ah_m a b s1 s2 v 1 ++ R)), ex, 0, 0)) rfl ?_
  refine go_rt (i := .ireturn) (tg := []) rfl ?_
  rfl
set_option maxRecDepth 20000 in
theorem pm_breaks_no {X : Nat × (Nat → Int32)} {c0 c1 c2 c3 c4 c5 c6 c7 c8 c9 c10 c11 c12 c13 c14 c15 c16 c17 c18 c19 c20 c21 c22 c23 c24 c25 c26 c27 c28 c29 c30 c31 c32 c33 c34 c35 c36 c37 c38 c39 c40 c41 c42 c43 c44 c45 c46 c47 c48 : ai_C} {a b : Nat} {s1 s2 : Nat → Int32} {v t : Int32} {R : List ai_C} {ex : Bool} {k : Int32} (hk : ¬ (0 ≤ k ∧ k < nI a * nI b)) (d : Nat) : ai_Ev an_ms an_lk X 35 (d + 2) 77 [.ref 49, .int k] ([c0, c1, c2, c3, c4, c5, c6, c7, c8, c9, c10, c11, c12, c13, c14, c15, c16, c17, c18, c19, c20, c21, c22, c23, c24, c25, c26, c27, c28, c29, c30, c31, c32, c33, c34, c35, c36, c37, c38, c39, c40, c41, c42, c43, c44, c45, c46, c47, c48] ++ (ah_m a b s1 s2 v t ++ R)) ex (.inl (some (.int 0), ([c0, c1, c2, c3, c4, c5, c6, c7, c8, c9, c10, c11, c12, c13, c14, c15, c16, c17, c18, c19, c20, c21, c22, c23, c24, c25, c26, c27, c28, c29, c30, c31, c32, c33, c34, c35, c36, c37, c38, c39, c40, c41, c42, c43, c44, c45, c46, c47, c48] ++ (ah_m a b s1 s2 v 1 ++ R)), ex, 0, 0)) := by
  refine ev_of (M := an_X10_breaks) rfl (Nat.le_of_ble_eq_true rfl) ?_
  refine go_n 2 (fr' := (2, [(0, .ref 49), (1, .int k)], [.int 0, .ref 49], ([c0, c1, c2, c3, c4, c5, c6, c7, c8, c9, c10, c11, c12, c13, c14, c15, c16, c17, c18, c19, c20, c21, c22, c23, c24, c25, c26, c27, c28, c29, c30, c31, c32, c33, c34, c35, c36, c37, c38, c39, c40, c41, c42, c43, c44, c45, c46, c47, c48] ++ (ah_m a b s1 s2 v t ++ R)), ex, 0, 0)) rfl ?_
  refine go_put rfl rfl rfl (Nat.le_of_ble_eq_true rfl) rfl ?_
  refine go_n 2 (fr' := (7, [(0, .ref 49), (1, .int k)], [.int k, .ref 49], (([c0, c1, c2, c3, c4, c5, c6, c7, c8, c9, c10, c11, c12, c13, c14, c15, c16, c17, c18, c19, c20, c21, c22, c23, c24, c25, c26, c27, c28, c29, c30, c31, c32, c33, c34, c35, c36, c37, c38, c39, c40, c41, c42, c43, c44, c45, c46, c47, c48] ++ (ah_m a b s1 s2 v t ++ R)).set 49 (.inr (10, [.ref 50, .int 0, .int (nI a), .int (nI b), .int v, .int 0, .int 0, .int 0, .int 0, .int (-1), .int 0, .ref 51, .ref 52, .ref 53, .ref 54, .ref 55, .ref 56, .ref 57, .ref 58, .ref 59, .ref 60, .ref 61, .ref 62, .ref 63, .ref 64, .ref 65, .ref 66, .ref 67, .ref 68, .ref 69, .ref 70, .ref 71, .ref 72, .ref 73, .int 0, .int 0, .int 0, .int 0, .int 0, .int 0, .int 0, .int 0, .int 0, .int 0, .ref 74, .ref 75, .ref 76, .ref 77, .ref 78, .ref 79, .ref 80, .ref 81, .int 0, .ref 82, .ref 83, .ref 84]))), ex, 0, 0)) rfl ?_
  refine go_callS (q := 54) (M1 := an_X10_isCell) rfl rfl (by decide) rfl ⟨_, rfl⟩ trivial (pm_isCell_no hk d) ?_
  refine go_eq (fr' := (10, [(0, .ref 49), (1, .int k)], [.int 0], ([c0, c1, c2, c3, c4, c5, c6, c7, c8, c9, c10, c11, c12, c13, c14, c15, c16, c17, c18, c19, c20, c21, c22, c23, c24, c25, c26, c27, c28, c29, c30, c31, c32, c33, c34, c35, c36, c37, c38, c39, c40, c41, c42, c43, c44, c45, c46, c47, c48] ++ (ah_m a b s1 s2 v 0 ++ R)), ex, 0, 0)) rfl ?_
  refine go_n 2 (fr' := (14, [(0, .ref 49), (1, .int k)], [.ref 49], ([c0, c1, c2, c3, c4, c5, c6, c7, c8, c9, c10, c11, c12, c13, c14, c15, c16, c17, c18, c19, c20, c21, c22, c23, c24, c25, c26, c27, c28, c29, c30, c31, c32, c33, c34, c35, c36, c37, c38, c39, c40, c41, c42, c43, c44, c45, c46, c47, c48] ++ (ah_m a b s1 s2 v 0 ++ R)), ex, 0, 0)) rfl ?_
  refine go_callS (q := 53) (M1 := an_X10_fail) rfl rfl (by decide) rfl ⟨_, rfl⟩ trivial (pm_fail d) ?_
  refine go_eq (fr' := (17, [(0, .ref 49), (1, .int k)], [.int 0], ([c0, c1, c2, c3, c4, c5, c6, c7, c8, c9, c10, c11, c12, c13, c14, c15, c16, c17, c18, c19, c20, c21, c22, c23, c24, c25, c26, c27, c28, c29, c30, c31, c32, c33, c34, c35, c36, c37, c38, c39, c40, c41, c42, c43, c44, c45, c46, c47, c48] ++ (ah_m a b s1 s2 v 1 ++ R)), ex, 0, 0)) rfl ?_
  refine go_rt (i := .ireturn) (tg := []) rfl ?_
  rfl
set_option maxRecDepth 20000 in
theorem pm_company_no {X : Nat × (Nat → Int32)} {c0 c1 c2 c3 c4 c5 c6 c7 c8 c9 c10 c11 c12 c13 c14 c15 c16 c17 c18 c19 c20 c21 c22 c23 c24 c25 c26 c27 c28 c29 c30 c31 c32 c33 c34 c35 c36 c37 c38 c39 c40 c41 c42 c43 c44 c45 c46 c47 c48 : ai_C} {a b : Nat} {s1 s2 : Nat → Int32} {v t : Int32} {R : List ai_C} {ex : Bool} {p1 p2 k : Int32} (hk : ¬ (0 ≤ k ∧ k < nI a * nI b)) (d : Nat) : ai_Ev an_ms an_lk X 35 (d + 2) 59 [.ref 49, .int p1, .int p2, .int k] ([c0, c1, c2, c3, c4, c5, c6, c7, c8, c9, c10, c11, c12, c13, c14, c15, c16, c17, c18, c19, c20, c21, c22, c23, c24, c25, c26, c27, c28, c29, c30, c31, c32, c33, c34, c35, c36, c37, c38, c39, c40, c41, c42, c43, c44, c45, c46, c47, c48] ++ (ah_m a b s1 s2 v t ++ R)) ex (.inl (some (.int 0), ([c0, c1, c2, c3, c4, c5, c6, c7, c8, c9, c10, c11, c12, c13, c14, c15, c16, c17, c18, c19, c20, c21, c22, c23, c24, c25, c26, c27, c28, c29, c30, c31, c32, c33, c34, c35, c36, c37, c38, c39, c40, c41, c42, c43, c44, c45, c46, c47, c48] ++ (ah_m a b s1 s2 v 1 ++ R)), ex, 0, 0)) := by
  refine ev_of (M := an_X10_company) rfl (Nat.le_of_ble_eq_true rfl) ?_
  refine go_n 2 (fr' := (2, [(0, .ref 49), (1, .int p1), (2, .int p2), (3, .int k)], [.int 0, .ref 49], ([c0, c1, c2, c3, c4, c5, c6, c7, c8, c9, c10, c11, c12, c13, c14, c15, c16, c17, c18, c19, c20, c21, c22, c23, c24, c25, c26, c27, c28, c29, c30, c31, c32, c33, c34, c35, c36, c37, c38, c39, c40, c41, c42, c43, c44, c45, c46, c47, c48] ++ (ah_m a b s1 s2 v t ++ R)), ex, 0, 0)) rfl ?_
  refine go_put rfl rfl rfl (Nat.le_of_ble_eq_true rfl) rfl ?_
  refine go_n 2 (fr' := (7, [(0, .ref 49), (1, .int p1), (2, .int p2), (3, .int k)], [.int k, .ref 49], (([c0, c1, c2, c3, c4, c5, c6, c7, c8, c9, c10, c11, c12, c13, c14, c15, c16, c17, c18, c19, c20, c21, c22, c23, c24, c25, c26, c27, c28, c29, c30, c31, c32, c33, c34, c35, c36, c37, c38, c39, c40, c41, c42, c43, c44, c45, c46, c47, c48] ++ (ah_m a b s1 s2 v t ++ R)).set 49 (.inr (10, [.ref 50, .int 0, .int (nI a), .int (nI b), .int v, .int 0, .int 0, .int 0, .int 0, .int (-1), .int 0, .ref 51, .ref 52, .ref 53, .ref 54, .ref 55, .ref 56, .ref 57, .ref 58, .ref 59, .ref 60, .ref 61, .ref 62, .ref 63, .ref 64, .ref 65, .ref 66, .ref 67, .ref 68, .ref 69, .ref 70, .ref 71, .ref 72, .ref 73, .int 0, .int 0, .int 0, .int 0, .int 0, .int 0, .int 0, .int 0, .int 0, .int 0, .ref 74, .ref 75, .ref 76, .ref 77, .ref 78, .ref 79, .ref 80, .ref 81, .int 0, .ref 82, .ref 83, .ref 84]))), ex, 0, 0)) rfl ?_
  refine go_callS (q := 54) (M1 := an_X10_isCell) rfl rfl (by decide) rfl ⟨_, rfl⟩ trivial (pm_isCell_no hk d) ?_
  refine go_eq (fr' := (10, [(0, .ref 49), (1, .int p1), (2, .int p2), (3, .int k)], [.int 0], ([c0, c1, c2, c3, c4, c5, c6, c7, c8, c9, c10, c11, c12, c13, c14, c15, c16, c17, c18, c19, c20, c21, c22, c23, c24, c25, c26, c27, c28, c29, c30, c31, c32, c33, c34, c35, c36, c37, c38, c39, c40, c41, c42, c43, c44, c45, c46, c47, c48] ++ (ah_m a b s1 s2 v 0 ++ R)), ex, 0, 0)) rfl ?_
  refine go_n 2 (fr' := (14, [(0, .ref 49), (1, .int p1), (2, .int p2), (3, .int k)], [.ref 49], ([c0, c1, c2, c3, c4, c5, c6, c7, c8, c9, c10, c11, c12, c13, c14, c15, c16, c17, c18, c19, c20, c21, c22, c23, c24, c25, c26, c27, c28, c29, c30, c31, c32, c33, c34, c35, c36, c37, c38, c39, c40, c41, c42, c43, c44, c45, c46, c47, c48] ++ (ah_m a b s1 s2 v 0 ++ R)), ex, 0, 0)) rfl ?_
  refine go_callS (q := 53) (M1 := an_X10_fail) rfl rfl (by decide) rfl ⟨_, rfl⟩ trivial (pm_fail d) ?_
  refine go_eq (fr' := (17, [(0, .ref 49), (1, .int p1), (2, .int p2), (3, .int k)], [.int 0], ([c0, c1, c2, c3, c4, c5, c6, c7, c8, c9, c10, c11, c12, c13, c14, c15, c16, c17, c18, c19, c20, c21, c22, c23, c24, c25, c26, c27, c28, c29, c30, c31, c32, c33, c34, c35, c36, c37, c38, c39, c40, c41, c42, c43, c44, c45, c46, c47, c48] ++ (ah_m a b s1 s2 v 1 ++ R)), ex, 0, 0)) rfl ?_
  refine go_rt (i := .ireturn) (tg := []) rfl ?_
  rfl
end
section
/-! the law where a call names no cell -/
set_option maxRecDepth 10000 in
theorem pl_house_no {X : Nat × (Nat → Int32)} {S : Nat} {z : Int32} {f1 f2 f3 g1 g2 : Nat → Int32} {u : Int32} {R : List ai_C} {k p1 p2 : Int32} (hk : ¬ (0 ≤ k ∧ k < z)) (d : Nat) : ai_Ev an_ms an_lk X 35 (d + 4) 82 [.ref 0, .int k, .int p1, .int p2, .ref 85] (ah_fw S z f1 f2 f3 g1 g2 u ++ R) true (.inl (some (.int 1), (ah_fw S z f1 f2 f3 g1 g2 u ++ R), false, 1, 6)) := by
  refine ev_of (M := an_L_house) rfl (Nat.le_of_ble_eq_true rfl) ?_
  refine go_n 6 (fr' := (7, [(0, .ref 0), (1, .int k), (2, .int p1), (3, .int p2), (4, .ref 85)], [.int p2, .int p1, .int k, .ref 0, .int 0, .ref 85], (ah_fw S z f1 f2 f3 g1 g2 u ++ R), true, 0, 0)) rfl ?_
  exact go_cat (fr := (7, [(0, .ref 0), (1, .int k), (2, .int p1), (3, .int p2), (4, .ref 85)], [.int p2, .int p1, .int k, .ref 0, .int 0, .ref 85], (ah_fw S z f1 f2 f3 g1 g2 u ++ R), true, 0, 0)) (i := .invokevirtual 7) (tg := []) (q := 25) (As := [.ref 0, .int k, .int p1, .int p2]) (rest := [.int 0, .ref 85]) (M1 := an_X9_house) rfl rfl (by decide) rfl ⟨_, rfl⟩ trivial (pv_house_no hk d) (st := 0) (en := 19) (hp := 22) (ix := 13) rfl (Nat.le_of_ble_eq_true rfl) (Nat.le_of_ble_eq_true rfl) rfl
set_option maxRecDepth 10000 in
theorem pl_well_no {X : Nat × (Nat → Int32)} {S : Nat} {z : Int32} {f1 f2 f3 g1 g2 : Nat → Int32} {u : Int32} {R : List ai_C} {k p1 : Int32} (hk : ¬ (0 ≤ k ∧ k < z)) (d : Nat) : ai_Ev an_ms an_lk X 35 (d + 4) 83 [.ref 0, .int k, .int p1, .ref 85] (ah_fw S z f1 f2 f3 g1 g2 u ++ R) true (.inl (some (.int 1), (ah_fw S z f1 f2 f3 g1 g2 u ++ R), false, 1, 6)) := by
  refine ev_of (M := an_L_well) rfl (Nat.le_of_ble_eq_true rfl) ?_
  refine go_n 5 (fr' := (5, [(0, .ref 0), (1, .int k), (2, .int p1), (3, .ref 85)], [.int p1, .int k, .ref 0, .int 0, .ref 85], (ah_fw S z f1 f2 f3 g1 g2 u ++ R), true, 0, 0)) rfl ?_
  exact go_cat (fr := (5, [(0, .ref 0), (1, .int k), (2, .int p1), (3, .ref 85)], [.int p1, .int k, .ref 0, .int 0, .ref 85], (ah_fw S z f1 f2 f3 g1 g2 u ++ R), true, 0, 0)) (i := .invokevirtual 15) (tg := []) (q := 26) (As := [.ref 0, .int k, .int p1]) (rest := [.int 0, .ref 85]) (M1 := an_X9_well) rfl rfl (by decide) rfl ⟨_, rfl⟩ trivial (pv_well_no hk d) (st := 0) (en := 17) (hp := 20) (ix := 13) rfl (Nat.le_of_ble_eq_true rfl) (Nat.le_of_ble_eq_true rfl) rfl
set_option maxRecDepth 10000 in
theorem pl_light_no {X : Nat × (Nat → Int32)} {S : Nat} {z : Int32} {f1 f2 f3 g1 g2 : Nat → Int32} {u : Int32} {R : List ai_C} {k : Int32} (hk : ¬ (0 ≤ k ∧ k < z)) (d : Nat) : ai_Ev an_ms an_lk X 35 (d + 4) 87 [.ref 0, .int k, .ref 85] (ah_fw S z f1 f2 f3 g1 g2 u ++ R) true (.inl (some (.int 1), (ah_fw S z f1 f2 f3 g1 g2 u ++ R), false, 1, 6)) := by
  refine ev_of (M := an_L_light) rfl (Nat.le_of_ble_eq_true rfl) ?_
  refine go_n 4 (fr' := (4, [(0, .ref 0), (1, .int k), (2, .ref 85)], [.int k, .ref 0, .int 0, .ref 85], (ah_fw S z f1 f2 f3 g1 g2 u ++ R), true, 0, 0)) rfl ?_
  exact go_cat (fr := (4, [(0, .ref 0), (1, .int k), (2, .ref 85)], [.int k, .ref 0, .int 0, .ref 85], (ah_fw S z f1 f2 f3 g1 g2 u ++ R), true, 0, 0)) (i := .invokevirtual 33) (tg := []) (q := 32) (As := [.ref 0, .int k]) (rest := [.int 0, .ref 85]) (M1 := an_X9_light) rfl rfl (by decide) rfl ⟨_, rfl⟩ trivial (pv_light_no hk d) (st := 0) (en := 9) (hp := 12) (ix := 13) rfl (Nat.le_of_ble_eq_true rfl) (Nat.le_of_ble_eq_true rfl) rfl
set_option maxRecDepth 10000 in
theorem pl_breaks_no {X : Nat × (Nat → Int32)} {S : Nat} {z : Int32} {f1 f2 f3 g1 g2 : Nat → Int32} {u : Int32} {R : List ai_C} {k : Int32} (hk : ¬ (0 ≤ k ∧ k < z)) (d : Nat) : ai_Ev an_ms an_lk X 35 (d + 4) 93 [.ref 0, .int k, .ref 85] (ah_fw S z f1 f2 f3 g1 g2 u ++ R) true (.inl (some (.int 1), (ah_fw S z f1 f2 f3 g1 g2 u ++ R), false, 1, 6)) := by
  refine ev_of (M := an_L_breaks) rfl (Nat.le_of_ble_eq_true rfl) ?_
  refine go_n 4 (fr' := (4, [(0, .ref 0), (1, .int k), (2, .ref 85)], [.int k, .ref 0, .int 0, .ref 85], (ah_fw S z f1 f2 f3 g1 g2 u ++ R), true, 0, 0)) rfl ?_
  exact go_cat (fr := (4, [(0, .ref 0), (1, .int k), (2, .ref 85)], [.int k, .ref 0, .int 0, .ref 85], (ah_fw S z f1 f2 f3 g1 g2 u ++ R), true, 0, 0)) (i := .invokevirtual 52) (tg := []) (q := 38) (As := [.ref 0, .int k]) (rest := [.int 0, .ref 85]) (M1 := an_X9_breaks) rfl rfl (by decide) rfl ⟨_, rfl⟩ trivial (pv_breaks_no hk d) (st := 0) (en := 9) (hp := 12) (ix := 13) rfl (Nat.le_of_ble_eq_true rfl) (Nat.le_of_ble_eq_true rfl) rfl
set_option maxRecDepth 10000 in
theorem pl_cell__no {X : Nat × (Nat → Int32)} {S : Nat} {z : Int32} {f1 f2 f3 g1 g2 : Nat → Int32} {u : Int32} {R : List ai_C} {k p1 : Int32} (hk : ¬ (0 ≤ k ∧ k < z)) (d : Nat) : ai_Ev an_ms an_lk X 35 (d + 4) 91 [.ref 0, .int k, .int p1, .ref 85] (ah_fw S z f1 f2 f3 g1 g2 u ++ R) true (.inl (some (.int 1), (ah_fw S z f1 f2 f3 g1 g2 u ++ R), false, 1, 6)) := by
  refine ev_of (M := an_L_cell_) rfl (Nat.le_of_ble_eq_true rfl) ?_
  refine go_n 5 (fr' := (5, [(0, .ref 0), (1, .int k), (2, .int p1), (3, .ref 85)], [.int p1, .int k, .ref 0, .int 0, .ref 85], (ah_fw S z f1 f2 f3 g1 g2 u ++ R), true, 0, 0)) rfl ?_
  exact go_cat (fr := (5, [(0, .ref 0), (1, .int k), (2, .int p1), (3, .ref 85)], [.int p1, .int k, .ref 0, .int 0, .ref 85], (ah_fw S z f1 f2 f3 g1 g2 u ++ R), true, 0, 0)) (i := .invokevirtual 46) (tg := []) (q := 36) (As := [.ref 0, .int k, .int p1]) (rest := [.int 0, .ref 85]) (M1 := an_X9_cell) rfl rfl (by decide) rfl ⟨_, rfl⟩ trivial (pv_cell_no hk d) (st := 0) (en := 10) (hp := 13) (ix := 13) rfl (Nat.le_of_ble_eq_true rfl) (Nat.le_of_ble_eq_true rfl) rfl
set_option maxRecDepth 10000 in
theorem pl_company_no {X : Nat × (Nat → Int32)} {S : Nat} {z : Int32} {f1 f2 f3 g1 g2 : Nat → Int32} {u : Int32} {R : List ai_C} {p1 p2 k : Int32} (hk : ¬ (0 ≤ k ∧ k < z)) (d : Nat) : ai_Ev an_ms an_lk X 35 (d + 4) 85 [.ref 0, .int p1, .int p2, .int k, .ref 85] (ah_fw S z f1 f2 f3 g1 g2 u ++ R) true (.inl (some (.int 1), (ah_fw S z f1 f2 f3 g1 g2 u ++ R), false, 1, 6)) := by
  refine ev_of (M := an_L_company) rfl (Nat.le_of_ble_eq_true rfl) ?_
  refine go_n 6 (fr' := (7, [(0, .ref 0), (1, .int p1), (2, .int p2), (3, .int k), (4, .ref 85)], [.int k, .int p2, .int p1, .ref 0, .int 0, .ref 85], (ah_fw S z f1 f2 f3 g1 g2 u ++ R), true, 0, 0)) rfl ?_
  exact go_cat (fr := (7, [(0, .ref 0), (1, .int p1), (2, .int p2), (3, .int k), (4, .ref 85)], [.int k, .int p2, .int p1, .ref 0, .int 0, .ref 85], (ah_fw S z f1 f2 f3 g1 g2 u ++ R), true, 0, 0)) (i := .invokevirtual 25) (tg := []) (q := 28) (As := [.ref 0, .int p1, .int p2, .int k]) (rest := [.int 0, .ref 85]) (M1 := an_X9_company) rfl rfl (by decide) rfl ⟨_, rfl⟩ trivial (pv_company_no hk d) (st := 0) (en := 12) (hp := 15) (ix := 13) rfl (Nat.le_of_ble_eq_true rfl) (Nat.le_of_ble_eq_true rfl) rfl
set_option maxRecDepth 20000 in
theorem pl_house_n {xs : Nat → Int32} {S : Nat} {z : Int32} {f1 f2 f3 g1 g2 : Nat → Int32} {a b : Nat} {ns : Nat} (hk : ¬ (0 ≤ xs 3 ∧ xs 3 < z)) (hm : ¬ (0 ≤ xs 3 ∧ xs 3 < nI a * nI b)) : ag_Go (8, xs) 12 an_law (140, [(0, .ref 1000000), (1, .ref 0), (2, .ref 49), (3, .ref 85), (4, .int 2)], [], (ah_fw S z f1 f2 f3 g1 g2 0 ++ (ah_m a b (fun j => if j < 64 then -1 else 0) (fun j => if j < 64 then -1 else 0) 0 0 ++ [.inl (3, 1, .inr (.inl (fun _ => 0)))])), true, 86, ns) (.inl (some (.int 1), (ah_fw S z f1 f2 f3 g1 g2 0 ++ (ah_m a b (fun j => if j < 64 then -1 else 0) (fun j => if j < 64 then -1 else 0) 0 1 ++ [.inl (3, 1, .inr (.inl (fun _ => 0)))])), false, 87, (((ns + 6) + 0) + 0))) := by
  refine go_n 17 (fr' := (160, [(0, .ref 1000000), (1, .ref 0), (2, .ref 49), (3, .ref 85), (4, .int 2)], [.ref 85, .int (xs 5), .int (xs 4), .int (xs 3), .ref 0], (ah_fw S z f1 f2 f3 g1 g2 0 ++ (ah_m a b (fun j => if j < 64 then -1 else 0) (fun j => if j < 64 then -1 else 0) 0 0 ++ [.inl (3, 1, .inr (.inl (fun _ => 0)))])), true, 86, ns)) rfl ?_
  refine go_call (q := 82) (M1 := an_L_house) rfl rfl (by decide) rfl trivial trivial (pl_house_no hk 8) ?_
  refine go_eq (fr' := (163, [(0, .ref 1000000), (1, .ref 0), (2, .ref 49), (3, .ref 85), (4, .int 2)], [.int 1], (ah_fw S z f1 f2 f3 g1 g2 0 ++ (ah_m a b (fun j => if j < 64 then -1 else 0) (fun j => if j < 64 then -1 else 0) 0 0 ++ [.inl (3, 1, .inr (.inl (fun _ => 0)))])), false, 87, (ns + 6))) rfl ?_
  refine go_n 17 (fr' := (184, [(0, .ref 1000000), (1, .ref 0), (2, .ref 49), (3, .ref 85), (4, .int 2), (5, .int 1)], [.int (xs 5), .int (xs 4), .int (xs 3), .ref 49], (ah_fw S z f1 f2 f3 g1 g2 0 ++ (ah_m a b (fun j => if j < 64 then -1 else 0) (fun j => if j < 64 then -1 else 0) 0 0 ++ [.inl (3, 1, .inr (.inl (fun _ => 0)))])), false, 87, (ns + 6))) rfl ?_
  refine go_callS (q := 56) (M1 := an_X10_house) rfl rfl (by decide) rfl ⟨_, rfl⟩ trivial (pm_house_no hm 10) ?_
  refine go_eq (fr' := (187, [(0, .ref 1000000), (1, .ref 0), (2, .ref 49), (3, .ref 85), (4, .int 2), (5, .int 1)], [.int 0], (ah_fw S z f1 f2 f3 g1 g2 0 ++ (ah_m a b (fun j => if j < 64 then -1 else 0) (fun j => if j < 64 then -1 else 0) 0 1 ++ [.inl (3, 1, .inr (.inl (fun _ => 0)))])), false, 87, ((ns + 6) + 0))) rfl ?_
  refine go_n 2 (fr' := (190, [(0, .ref 1000000), (1, .ref 0), (2, .ref 49), (3, .ref 85), (4, .int 2), (5, .int 1), (6, .int 0)], [.ref 49], (ah_fw S z f1 f2 f3 g1 g2 0 ++ (ah_m a b (fun j => if j < 64 then -1 else 0) (fun j => if j < 64 then -1 else 0) 0 1 ++ [.inl (3, 1, .inr (.inl (fun _ => 0)))])), false, 87, ((ns + 6) + 0))) rfl ?_
  refine go_callS (q := 52) (M1 := an_X10_thrown) rfl rfl (by decide) rfl ⟨_, rfl⟩ trivial (pm_thrown 11) ?_
  refine go_eq (fr' := (193, [(0, .ref 1000000), (1, .ref 0), (2, .ref 49), (3, .ref 85), (4, .int 2), (5, .int 1), (6, .int 0)], [.int 1], (ah_fw S z f1 f2 f3 g1 g2 0 ++ (ah_m a b (fun j => if j < 64 then -1 else 0) (fun j => if j < 64 then -1 else 0) 0 1 ++ [.inl (3, 1, .inr (.inl (fun _ => 0)))])), false, 87, (((ns + 6) + 0) + 0))) rfl ?_
  refine go_n 5 (fr' := (1174, [(0, .ref 1000000), (1, .ref 0), (2, .ref 49), (3, .ref 85), (4, .int 2), (5, .int 1), (6, .int 0)], [], (ah_fw S z f1 f2 f3 g1 g2 0 ++ (ah_m a b (fun j => if j < 64 then -1 else 0) (fun j => if j < 64 then -1 else 0) 0 1 ++ [.inl (3, 1, .inr (.inl (fun _ => 0)))])), false, 87, (((ns + 6) + 0) + 0))) rfl ?_
  exact pl_end2
set_option maxRecDepth 20000 in
theorem pl_light_n {xs : Nat → Int32} {S : Nat} {z : Int32} {f1 f2 f3 g1 g2 : Nat → Int32} {a b : Nat} {ns : Nat} (hk : ¬ (0 ≤ xs 3 ∧ xs 3 < z)) (hm : ¬ (0 ≤ xs 3 ∧ xs 3 < nI a * nI b)) : ag_Go (8, xs) 12 an_law (608, [(0, .ref 1000000), (1, .ref 0), (2, .ref 49), (3, .ref 85), (4, .int 2)], [], (ah_fw S z f1 f2 f3 g1 g2 0 ++ (ah_m a b (fun j => if j < 64 then -1 else 0) (fun j => if j < 64 then -1 else 0) 0 0 ++ [.inl (3, 1, .inr (.inl (fun _ => 0)))])), true, 86, ns) (.inl (some (.int 1), (ah_fw S z f1 f2 f3 g1 g2 0 ++ (ah_m a b (fun j => if j < 64 then -1 else 0) (fun j => if j < 64 then -1 else 0) 0 1 ++ [.inl (3, 1, .inr (.inl (fun _ => 0)))])), false, 87, (((ns + 6) + 0) + 0))) := by
  refine go_n 7 (fr' := (616, [(0, .ref 1000000), (1, .ref 0), (2, .ref 49), (3, .ref 85), (4, .int 2)], [.ref 85, .int (xs 3), .ref 0], (ah_fw S z f1 f2 f3 g1 g2 0 ++ (ah_m a b (fun j => if j < 64 then -1 else 0) (fun j => if j < 64 then -1 else 0) 0 0 ++ [.inl (3, 1, .inr (.inl (fun _ => 0)))])), true, 86, ns)) rfl ?_
  refine go_call (q := 87) (M1 := an_L_light) rfl rfl (by decide) rfl trivial trivial (pl_light_no hk 8) ?_
  refine go_eq (fr' := (619, [(0, .ref 1000000), (1, .ref 0), (2, .ref 49), (3, .ref 85), (4, .int 2)], [.int 1], (ah_fw S z f1 f2 f3 g1 g2 0 ++ (ah_m a b (fun j => if j < 64 then -1 else 0) (fun j => if j < 64 then -1 else 0) 0 0 ++ [.inl (3, 1, .inr (.inl (fun _ => 0)))])), false, 87, (ns + 6))) rfl ?_
  refine go_n 7 (fr' := (628, [(0, .ref 1000000), (1, .ref 0), (2, .ref 49), (3, .ref 85), (4, .int 2), (5, .int 1)], [.int (xs 3), .ref 49], (ah_fw S z f1 f2 f3 g1 g2 0 ++ (ah_m a b (fun j => if j < 64 then -1 else 0) (fun j => if j < 64 then -1 else 0) 0 0 ++ [.inl (3, 1, .inr (.inl (fun _ => 0)))])), false, 87, (ns + 6))) rfl ?_
  refine go_callS (q := 68) (M1 := an_X10_light) rfl rfl (by decide) rfl ⟨_, rfl⟩ trivial (pm_light_no hm 10) ?_
  refine go_eq (fr' := (631, [(0, .ref 1000000), (1, .ref 0), (2, .ref 49), (3, .ref 85), (4, .int 2), (5, .int 1)], [.int 0], (ah_fw S z f1 f2 f3 g1 g2 0 ++ (ah_m a b (fun j => if j < 64 then -1 else 0) (fun j => if j < 64 then -1 else 0) 0 1 ++ [.inl (3, 1, .inr (.inl (fun _ => 0)))])), false, 87, ((ns + 6) + 0))) rfl ?_
  refine go_n 2 (fr' := (634, [(0, .ref 1000000), (1, .ref 0), (2, .ref 49), (3, .ref 85), (4, .int 2), (5, .int 1), (6, .int 0)], [.ref 49], (ah_fw S z f1 f2 f3 g1 g2 0 ++ (ah_m a b (fun j => if j < 64 then -1 else 0) (fun j => if j < 64 then -1 else 0) 0 1 ++ [.inl (3, 1, .inr (.inl (fun _ => 0)))])), false, 87, ((ns + 6) + 0))) rfl ?_
  refine go_callS (q := 52) (M1 := an_X10_thrown) rfl rfl (by decide) rfl ⟨_, rfl⟩ trivial (pm_thrown 11) ?_
  refine go_eq (fr' := (637, [(0, .ref 1000000), (1, .ref 0), (2, .ref 49), (3, .ref 85), (4, .int 2), (5, .int 1), (6, .int 0)], [.int 1], (ah_fw S z f1 f2 f3 g1 g2 0 ++ (ah_m a b (fun j => if j < 64 then -1 else 0) (fun j => if j < 64 then -1 else 0) 0 1 ++ [.inl (3, 1, .inr (.inl (fun _ => 0)))])), false, 87, (((ns + 6) + 0) + 0))) rfl ?_
  refine go_n 5 (fr' := (1174, [(0, .ref 1000000), (1, .ref 0), (2, .ref 49), (3, .ref 85), (4, .int 2), (5, .int 1), (6, .int 0)], [], (ah_fw S z f1 f2 f3 g1 g2 0 ++ (ah_m a b (fun j => if j < 64 then -1 else 0) (fun j => if j < 64 then -1 else 0) 0 1 ++ [.inl (3, 1, .inr (.inl (fun _ => 0)))])), false, 87, (((ns + 6) + 0) + 0))) rfl ?_
  exact pl_end2
set_option maxRecDepth 20000 in
theorem pl_breaks_n {xs : Nat → Int32} {S : Nat} {z : Int32} {f1 f2 f3 g1 g2 : Nat → Int32} {a b : Nat} {ns : Nat} (hk : ¬ (0 ≤ xs 3 ∧ xs 3 < z)) (hm : ¬ (0 ≤ xs 3 ∧ xs 3 < nI a * nI b)) : ag_Go (8, xs) 12 an_law (1006, [(0, .ref 1000000), (1, .ref 0), (2, .ref 49), (3, .ref 85), (4, .int 2)], [], (ah_fw S z f1 f2 f3 g1 g2 0 ++ (ah_m a b (fun j => if j < 64 then -1 else 0) (fun j => if j < 64 then -1 else 0) 0 0 ++ [.inl (3, 1, .inr (.inl (fun _ => 0)))])), true, 86, ns) (.inl (some (.int 1), (ah_fw S z f1 f2 f3 g1 g2 0 ++ (ah_m a b (fun j => if j < 64 then -1 else 0) (fun j => if j < 64 then -1 else 0) 0 1 ++ [.inl (3, 1, .inr (.inl (fun _ => 0)))])), false, 87, (((ns + 6) + 0) + 0))) := by
  refine go_n 7 (fr' := (1014, [(0, .ref 1000000), (1, .ref 0), (2, .ref 49), (3, .ref 85), (4, .int 2)], [.ref 85, .int (xs 3), .ref 0], (ah_fw S z f1 f2 f3 g1 g2 0 ++ (ah_m a b (fun j => if j < 64 then -1 else 0) (fun j => if j < 64 then -1 else 0) 0 0 ++ [.inl (3, 1, .inr (.inl (fun _ => 0)))])), true, 86, ns)) rfl ?_
  refine go_call (q := 93) (M1 := an_L_breaks) rfl rfl (by decide) rfl trivial trivial (pl_breaks_no hk 8) ?_
  refine go_eq (fr' := (1017, [(0, .ref 1000000), (1, .ref 0), (2, .ref 49), (3, .ref 85), (4, .int 2)], [.int 1], (ah_fw S z f1 f2 f3 g1 g2 0 ++ (ah_m a b (fun j => if j < 64 then -1 else 0) (fun j => if j < 64 then -1 else 0) 0 0 ++ [.inl (3, 1, .inr (.inl (fun _ => 0)))])), false, 87, (ns + 6))) rfl ?_
  refine go_n 7 (fr' := (1026, [(0, .ref 1000000), (1, .ref 0), (2, .ref 49), (3, .ref 85), (4, .int 2), (5, .int 1)], [.int (xs 3), .ref 49], (ah_fw S z f1 f2 f3 g1 g2 0 ++ (ah_m a b (fun j => if j < 64 then -1 else 0) (fun j => if j < 64 then -1 else 0) 0 0 ++ [.inl (3, 1, .inr (.inl (fun _ => 0)))])), false, 87, (ns + 6))) rfl ?_
  refine go_callS (q := 77) (M1 := an_X10_breaks) rfl rfl (by decide) rfl ⟨_, rfl⟩ trivial (pm_breaks_no hm 10) ?_
  refine go_eq (fr' := (1029, [(0, .ref 1000000), (1, .ref 0), (2, .ref 49), (3, .ref 85), (4, .int 2), (5, .int 1)], [.int 0], (ah_fw S z f1 f2 f3 g1 g2 0 ++ (ah_m a b (fun j => if j < 64 then -1 else 0) (fun j => if j < 64 then -1 else 0) 0 1 ++ [.inl (3, 1, .inr (.inl (fun _ => 0)))])), false, 87, ((ns + 6) + 0))) rfl ?_
  refine go_n 2 (fr' := (1032, [(0, .ref 1000000), (1, .ref 0), (2, .ref 49), (3, .ref 85), (4, .int 2), (5, .int 1), (6, .int 0)], [.ref 49], (ah_fw S z f1 f2 f3 g1 g2 0 ++ (ah_m a b (fun j => if j < 64 then -1 else 0) (fun j => if j < 64 then -1 else 0) 0 1 ++ [.inl (3, 1, .inr (.inl (fun _ => 0)))])), false, 87, ((ns + 6) + 0))) rfl ?_
  refine go_callS (q := 52) (M1 := an_X10_thrown) rfl rfl (by decide) rfl ⟨_, rfl⟩ trivial (pm_thrown 11) ?_
  refine go_eq (fr' := (1035, [(0, .ref 1000000), (1, .ref 0), (2, .ref 49), (3, .ref 85), (4, .int 2), (5, .int 1), (6, .int 0)], [.int 1], (ah_fw S z f1 f2 f3 g1 g2 0 ++ (ah_m a b (fun j => if j < 64 then -1 else 0) (fun j => if j < 64 then -1 else 0) 0 1 ++ [.inl (3, 1, .inr (.inl (fun _ => 0)))])), false, 87, (((ns + 6) + 0) + 0))) rfl ?_
  refine go_n 5 (fr' := (1174, [(0, .ref 1000000), (1, .ref 0), (2, .ref 49), (3, .ref 85), (4, .int 2), (5, .int 1), (6, .int 0)], [], (ah_fw S z f1 f2 f3 g1 g2 0 ++ (ah_m a b (fun j => if j < 64 then -1 else 0) (fun j => if j < 64 then -1 else 0) 0 1 ++ [.inl (3, 1, .inr (.inl (fun _ => 0)))])), false, 87, (((ns + 6) + 0) + 0))) rfl ?_
  exact pl_end2
set_option maxRecDepth 20000 in
theorem pl_cell_n {xs : Nat → Int32} {S : Nat} {z : Int32} {f1 f2 f3 g1 g2 : Nat → Int32} {a b : Nat} {ns : Nat} (hk : ¬ (0 ≤ xs 3 ∧ xs 3 < z)) (hm : ¬ (0 ≤ xs 3 ∧ xs 3 < nI a * nI b)) : ag_Go (8, xs) 12 an_law (870, [(0, .ref 1000000), (1, .ref 0), (2, .ref 49), (3, .ref 85), (4, .int 2)], [], (ah_fw S z f1 f2 f3 g1 g2 0 ++ (ah_m a b (fun j => if j < 64 then -1 else 0) (fun j => if j < 64 then -1 else 0) 0 0 ++ [.inl (3, 1, .inr (.inl (fun _ => 0)))])), true, 86, ns) (.inl (some (.int 1), (ah_fw S z f1 f2 f3 g1 g2 0 ++ (ah_m a b (fun j => if j < 64 then -1 else 0) (fun j => if j < 64 then -1 else 0) 0 1 ++ [.inl (3, 1, .inr (.inl (fun _ => 0)))])), false, 87, (((ns + 6) + 0) + 0))) := by
  refine go_n 12 (fr' := (884, [(0, .ref 1000000), (1, .ref 0), (2, .ref 49), (3, .ref 85), (4, .int 2)], [.ref 85, .int (xs 4), .int (xs 3), .ref 0], (ah_fw S z f1 f2 f3 g1 g2 0 ++ (ah_m a b (fun j => if j < 64 then -1 else 0) (fun j => if j < 64 then -1 else 0) 0 0 ++ [.inl (3, 1, .inr (.inl (fun _ => 0)))])), true, 86, ns)) rfl ?_
  refine go_call (q := 91) (M1 := an_L_cell_) rfl rfl (by decide) rfl trivial trivial (pl_cell__no hk 8) ?_
  refine go_eq (fr' := (887, [(0, .ref 1000000), (1, .ref 0), (2, .ref 49), (3, .ref 85), (4, .int 2)], [.int 1], (ah_fw S z f1 f2 f3 g1 g2 0 ++ (ah_m a b (fun j => if j < 64 then -1 else 0) (fun j => if j < 64 then -1 else 0) 0 0 ++ [.inl (3, 1, .inr (.inl (fun _ => 0)))])), false, 87, (ns + 6))) rfl ?_
  refine go_n 12 (fr' := (902, [(0, .ref 1000000), (1, .ref 0), (2, .ref 49), (3, .ref 85), (4, .int 2), (5, .int 1)], [.int (xs 4), .int (xs 3), .ref 49], (ah_fw S z f1 f2 f3 g1 g2 0 ++ (ah_m a b (fun j => if j < 64 then -1 else 0) (fun j => if j < 64 then -1 else 0) 0 0 ++ [.inl (3, 1, .inr (.inl (fun _ => 0)))])), false, 87, (ns + 6))) rfl ?_
  refine go_callS (q := 75) (M1 := an_X10_cell) rfl rfl (by decide) rfl ⟨_, rfl⟩ trivial (pm_cell_no hm 10) ?_
  refine go_eq (fr' := (905, [(0, .ref 1000000), (1, .ref 0), (2, .ref 49), (3, .ref 85), (4, .int 2), (5, .int 1)], [.int 0], (ah_fw S z f1 f2 f3 g1 g2 0 ++ (ah_m a b (fun j => if j < 64 then -1 else 0) (fun j => if j < 64 then -1 else 0) 0 1 ++ [.inl (3, 1, .inr (.inl (fun _ => 0)))])), false, 87, ((ns + 6) + 0))) rfl ?_
  refine go_n 2 (fr' := (908, [(0, .ref 1000000), (1, .ref 0), (2, .ref 49), (3, .ref 85), (4, .int 2), (5, .int 1), (6, .int 0)], [.ref 49], (ah_fw S z f1 f2 f3 g1 g2 0 ++ (ah_m a b (fun j => if j < 64 then -1 else 0) (fun j => if j < 64 then -1 else 0) 0 1 ++ [.inl (3, 1, .inr (.inl (fun _ => 0)))])), false, 87, ((ns + 6) + 0))) rfl ?_
  refine go_callS (q := 52) (M1 := an_X10_thrown) rfl rfl (by decide) rfl ⟨_, rfl⟩ trivial (pm_thrown 11) ?_
  refine go_eq (fr' := (911, [(0, .ref 1000000), (1, .ref 0), (2, .ref 49), (3, .ref 85), (4, .int 2), (5, .int 1), (6, .int 0)], [.int 1], (ah_fw S z f1 f2 f3 g1 g2 0 ++ (ah_m a b (fun j => if j < 64 then -1 else 0) (fun j => if j < 64 then -1 else 0) 0 1 ++ [.inl (3, 1, .inr (.inl (fun _ => 0)))])), false, 87, (((ns + 6) + 0) + 0))) rfl ?_
  refine go_n 5 (fr' := (1174, [(0, .ref 1000000), (1, .ref 0), (2, .ref 49), (3, .ref 85), (4, .int 2), (5, .int 1), (6, .int 0)], [], (ah_fw S z f1 f2 f3 g1 g2 0 ++ (ah_m a b (fun j => if j < 64 then -1 else 0) (fun j => if j < 64 then -1 else 0) 0 1 ++ [.inl (3, 1, .inr (.inl (fun _ => 0)))])), false, 87, (((ns + 6) + 0) + 0))) rfl ?_
  exact pl_end2
set_option maxRecDepth 20000 in
theorem pl_company_n {xs : Nat → Int32} {S : Nat} {z : Int32} {f1 f2 f3 g1 g2 : Nat → Int32} {a b : Nat} {ns : Nat} (hk : ¬ (0 ≤ xs 5 ∧ xs 5 < z)) (hm : ¬ (0 ≤ xs 5 ∧ xs 5 < nI a * nI b)) : ag_Go (8, xs) 12 an_law (374, [(0, .ref 1000000), (1, .ref 0), (2, .ref 49), (3, .ref 85), (4, .int 2)], [], (ah_fw S z f1 f2 f3 g1 g2 0 ++ (ah_m a b (fun j => if j < 64 then -1 else 0) (fun j => if j < 64 then -1 else 0) 0 0 ++ [.inl (3, 1, .inr (.inl (fun _ => 0)))])), true, 86, ns) (.inl (some (.int 1), (ah_fw S z f1 f2 f3 g1 g2 0 ++ (ah_m a b (fun j => if j < 64 then -1 else 0) (fun j => if j < 64 then -1 else 0) 0 1 ++ [.inl (3, 1, .inr (.inl (fun _ => 0)))])), false, 87, (((ns + 6) + 0) + 0))) := by
  refine go_n 17 (fr' := (394, [(0, .ref 1000000), (1, .ref 0), (2, .ref 49), (3, .ref 85), (4, .int 2)], [.ref 85, .int (xs 5), .int (xs 4), .int (xs 3), .ref 0], (ah_fw S z f1 f2 f3 g1 g2 0 ++ (ah_m a b (fun j => if j < 64 then -1 else 0) (fun j => if j < 64 then -1 else 0) 0 0 ++ [.inl (3, 1, .inr (.inl (fun _ => 0)))])), true, 86, ns)) rfl ?_
  refine go_call (q := 85) (M1 := an_L_company) rfl rfl (by decide) rfl trivial trivial (pl_company_no hk 8) ?_
  refine go_eq (fr' := (397, [(0, .ref 1000000), (1, .ref 0), (2, .ref 49), (3, .ref 85), (4, .int 2)], [.int 1], (ah_fw S z f1 f2 f3 g1 g2 0 ++ (ah_m a b (fun j => if j < 64 then -1 else 0) (fun j => if j < 64 then -1 else 0) 0 0 ++ [.inl (3, 1, .inr (.inl (fun _ => 0)))])), false, 87, (ns + 6))) rfl ?_
  refine go_n 17 (fr' := (418, [(0, .ref 1000000), (1, .ref 0), (2, .ref 49), (3, .ref 85), (4, .int 2), (5, .int 1)], [.int (xs 5), .int (xs 4), .int (xs 3), .ref 49], (ah_fw S z f1 f2 f3 g1 g2 0 ++ (ah_m a b (fun j => if j < 64 then -1 else 0) (fun j => if j < 64 then -1 else 0) 0 0 ++ [.inl (3, 1, .inr (.inl (fun _ => 0)))])), false, 87, (ns + 6))) rfl ?_
  refine go_callS (q := 59) (M1 := an_X10_company) rfl rfl (by decide) rfl ⟨_, rfl⟩ trivial (pm_company_no hm 10) ?_
  refine go_eq (fr' := (421, [(0, .ref 1000000), (1, .ref 0), (2, .ref 49), (3, .ref 85), (4, .int 2), (5, .int 1)], [.int 0], (ah_fw S z f1 f2 f3 g1 g2 0 ++ (ah_m a b (fun j => if j < 64 then -1 else 0) (fun j => if j < 64 then -1 else 0) 0 1 ++ [.inl (3, 1, .inr (.inl (fun _ => 0)))])), false, 87, ((ns + 6) + 0))) rfl ?_
  refine go_n 2 (fr' := (424, [(0, .ref 1000000), (1, .ref 0), (2, .ref 49), (3, .ref 85), (4, .int 2), (5, .int 1), (6, .int 0)], [.ref 49], (ah_fw S z f1 f2 f3 g1 g2 0 ++ (ah_m a b (fun j => if j < 64 then -1 else 0) (fun j => if j < 64 then -1 else 0) 0 1 ++ [.inl (3, 1, .inr (.inl (fun _ => 0)))])), false, 87, ((ns + 6) + 0))) rfl ?_
  refine go_callS (q := 52) (M1 := an_X10_thrown) rfl rfl (by decide) rfl ⟨_, rfl⟩ trivial (pm_thrown 11) ?_
  refine go_eq (fr' := (427, [(0, .ref 1000000), (1, .ref 0), (2, .ref 49), (3, .ref 85), (4, .int 2), (5, .int 1), (6, .int 0)], [.int 1], (ah_fw S z f1 f2 f3 g1 g2 0 ++ (ah_m a b (fun j => if j < 64 then -1 else 0) (fun j => if j < 64 then -1 else 0) 0 1 ++ [.inl (3, 1, .inr (.inl (fun _ => 0)))])), false, 87, (((ns + 6) + 0) + 0))) rfl ?_
  refine go_n 5 (fr' := (1174, [(0, .ref 1000000), (1, .ref 0), (2, .ref 49), (3, .ref 85), (4, .int 2), (5, .int 1), (6, .int 0)], [], (ah_fw S z f1 f2 f3 g1 g2 0 ++ (ah_m a b (fun j => if j < 64 then -1 else 0) (fun j => if j < 64 then -1 else 0) 0 1 ++ [.inl (3, 1, .inr (.inl (fun _ => 0)))])), false, 87, (((ns + 6) + 0) + 0))) rfl ?_
  exact pl_end2
end
section
/-! wind -/
theorem lg_self (x : Int64) : lg_cmp x x = 0 := by
  unfold lg_cmp
  rw [if_neg (Int64.lt_irrefl), if_pos rfl]
theorem pm_thrownG {X : Nat × (Nat → Int32)} {h : ai_H} {w : Value} {t : Int32} {fs : List Value} {ex : Bool} (hh : h[49]? = some (.inr (10, w :: .int t :: fs))) (d : Nat) : ai_Ev an_ms an_lk X 35 (d + 1) 52 [.ref 49] h ex (.inl (some (.int t), h, ex, 0, 0)) := by
  refine ev_of (M := an_X10_thrown) rfl (Nat.le_of_ble_eq_true rfl) ?_
  refine go_n 1 (fr' := (1, [(0, .ref 49)], [.ref 49], h, ex, 0, 0)) rfl ?_
  refine go_get rfl rfl hh rfl ?_
  exact go_rt (i := .ireturn) (tg := []) rfl rfl
set_option maxRecDepth 10000 in
theorem pl_wind_ok {X : Nat × (Nat → Int32)} {S : Nat} {z : Int32} {f1 f2 f3 g1 g2 : Nat → Int32} {u : Int32} {a b : Nat} {s1 s2 : Nat → Int32} {v t : Int32} {lo : Nat → Int64} {k : Int32} (h1 : ¬ k < 0) (h2 : k ≤ 4) (d : Nat) : ai_Ev an_ms an_lk X 35 (d + 2) 84 [.ref 0, .int k, .ref 85] (ah_fw S z f1 f2 f3 g1 g2 u ++ (ah_m a b s1 s2 v t ++ [.inl (3, 1, .inr (.inl lo))])) true (.inl (some (.int 0), (((((ah_fw S z f1 f2 f3 g1 g2 u ++ (ah_m a b s1 s2 v t ++ [.inl (3, 1, .inr (.inl lo))])) : ai_H).set 1 (.inr (0, [.int z, .ref 2, .ref 3, .ref 4, .ref 5, .ref 6, .ref 7, .ref 8, .ref 9, .ref 10, .ref 11, .ref 12, .int k]))) : ai_H).set 85 (.inl (3, 1, .inr (.inl (vp_updL lo 0 ((0 : Int32).toInt64)))))), true, 0, 0)) := by
  refine ev_of (M := an_L_wind) rfl (Nat.le_of_ble_eq_true rfl) ?_
  refine go_n 4 (fr' := (4, [(0, .ref 0), (1, .int k), (2, .ref 85)], [.int k, .ref 0, .int 0, .ref 85], (ah_fw S z f1 f2 f3 g1 g2 u ++ (ah_m a b s1 s2 v t ++ [.inl (3, 1, .inr (.inl lo))])), true, 0, 0)) rfl ?_
  refine go_call (q := 27) (M1 := an_X9_wind) rfl rfl (by decide) rfl ⟨_, rfl⟩ trivial (pv_wind h1 h2 d) ?_
  refine go_eq (fr' := (7, [(0, .ref 0), (1, .int k), (2, .ref 85)], [.int 0, .int 0, .ref 85], (((ah_fw S z f1 f2 f3 g1 g2 u ++ (ah_m a b s1 s2 v t ++ [.inl (3, 1, .inr (.inl lo))])) : ai_H).set 1 (.inr (0, [.int z, .ref 2, .ref 3, .ref 4, .ref 5, .ref 6, .ref 7, .ref 8, .ref 9, .ref 10, .ref 11, .ref 12, .int k]))), true, 0, 0)) rfl ?_
  refine go_n 4 (fr' := (16, [(0, .ref 0), (1, .int k), (2, .ref 85)], [.int 0], (((((ah_fw S z f1 f2 f3 g1 g2 u ++ (ah_m a b s1 s2 v t ++ [.inl (3, 1, .inr (.inl lo))])) : ai_H).set 1 (.inr (0, [.int z, .ref 2, .ref 3, .ref 4, .ref 5, .ref 6, .ref 7, .ref 8, .ref 9, .ref 10, .ref 11, .ref 12, .int k]))) : ai_H).set 85 (.inl (3, 1, .inr (.inl (vp_updL lo 0 ((0 : Int32).toInt64)))))), true, 0, 0)) rfl ?_
  refine go_rt (i := .ireturn) (tg := []) rfl ?_
  rfl
set_option maxRecDepth 10000 in
theorem pl_wind_lo {X : Nat × (Nat → Int32)} {S : Nat} {z : Int32} {f1 f2 f3 g1 g2 : Nat → Int32} {u : Int32} {R : List ai_C} {k : Int32} (h1 : k < 0) (d : Nat) : ai_Ev an_ms an_lk X 35 (d + 2) 84 [.ref 0, .int k, .ref 85] (ah_fw S z f1 f2 f3 g1 g2 u ++ R) true (.inl (some (.int 1), (ah_fw S z f1 f2 f3 g1 g2 u ++ R), false, 1, 6)) := by
  refine ev_of (M := an_L_wind) rfl (Nat.le_of_ble_eq_true rfl) ?_
  refine go_n 4 (fr' := (4, [(0, .ref 0), (1, .int k), (2, .ref 85)], [.int k, .ref 0, .int 0, .ref 85], (ah_fw S z f1 f2 f3 g1 g2 u ++ R), true, 0, 0)) rfl ?_
  exact go_cat (fr := (4, [(0, .ref 0), (1, .int k), (2, .ref 85)], [.int k, .ref 0, .int 0, .ref 85], (ah_fw S z f1 f2 f3 g1 g2 u ++ R), true, 0, 0)) (i := .invokevirtual 19) (tg := []) (q := 27) (As := [.ref 0, .int k]) (rest := [.int 0, .ref 85]) (M1 := an_X9_wind) rfl rfl (by decide) rfl ⟨_, rfl⟩ trivial (pv_wind_lo h1 d) (st := 0) (en := 9) (hp := 12) (ix := 23) rfl (Nat.le_of_ble_eq_true rfl) (Nat.le_of_ble_eq_true rfl) rfl
set_option maxRecDepth 10000 in
theorem pl_wind_hi {X : Nat × (Nat → Int32)} {S : Nat} {z : Int32} {f1 f2 f3 g1 g2 : Nat → Int32} {u : Int32} {R : List ai_C} {k : Int32} (h1 : ¬ k < 0) (h2 : ¬ k ≤ 4) (d : Nat) : ai_Ev an_ms an_lk X 35 (d + 2) 84 [.ref 0, .int k, .ref 85] (ah_fw S z f1 f2 f3 g1 g2 u ++ R) true (.inl (some (.int 1), (ah_fw S z f1 f2 f3 g1 g2 u ++ R), false, 1, 6)) := by
  refine ev_of (M := an_L_wind) rfl (Nat.le_of_ble_eq_true rfl) ?_
  refine go_n 4 (fr' := (4, [(0, .ref 0), (1, .int k), (2, .ref 85)], [.int k, .ref 0, .int 0, .ref 85], (ah_fw S z f1 f2 f3 g1 g2 u ++ R), true, 0, 0)) rfl ?_
  exact go_cat (fr := (4, [(0, .ref 0), (1, .int k), (2, .ref 85)], [.int k, .ref 0, .int 0, .ref 85], (ah_fw S z f1 f2 f3 g1 g2 u ++ R), true, 0, 0)) (i := .invokevirtual 19) (tg := []) (q := 27) (As := [.ref 0, .int k]) (rest := [.int 0, .ref 85]) (M1 := an_X9_wind) rfl rfl (by decide) rfl ⟨_, rfl⟩ trivial (pv_wind_hi h1 h2 d) (st := 0) (en := 9) (hp := 12) (ix := 23) rfl (Nat.le_of_ble_eq_true rfl) (Nat.le_of_ble_eq_true rfl) rfl
set_option maxRecDepth 20000 in
theorem pm_wind {X : Nat × (Nat → Int32)} {c0 c1 c2 c3 c4 c5 c6 c7 c8 c9 c10 c11 c12 c13 c14 c15 c16 c17 c18 c19 c20 c21 c22 c23 c24 c25 c26 c27 c28 c29 c30 c31 c32 c33 c34 c35 c36 c37 c38 c39 c40 c41 c42 c43 c44 c45 c46 c47 c48 : ai_C} {a b : Nat} {s1 s2 : Nat → Int32} {v t : Int32} {R : List ai_C} {ex : Bool} {k : Int32} (h1 : ¬ k < 0) (h2 : k ≤ 4) (d : Nat) : ai_Ev an_ms an_lk X 35 (d + 1) 58 [.ref 49, .int k] ([c0, c1, c2, c3, c4, c5, c6, c7, c8, c9, c10, c11, c12, c13, c14, c15, c16, c17, c18, c19, c20, c21, c22, c23, c24, c25, c26, c27, c28, c29, c30, c31, c32, c33, c34, c35, c36, c37, c38, c39, c40, c41, c42, c43, c44, c45, c46, c47, c48] ++ (ah_m a b s1 s2 v t ++ R)) ex (.inl (some (.int 0), (((([c0, c1, c2, c3, c4, c5, c6, c7, c8, c9, c10, c11, c12, c13, c14, c15, c16, c17, c18, c19, c20, c21, c22, c23, c24, c25, c26, c27, c28, c29, c30, c31, c32, c33, c34, c35, c36, c37, c38, c39, c40, c41, c42, c43, c44, c45, c46, c47, c48] ++ (ah_m a b s1 s2 v t ++ R)) : ai_H).set 49 (.inr (10, [.ref 50, .int 0, .int (nI a), .int (nI b), .int v, .int 0, .int 0, .int 0, .int 0, .int (-1), .int 0, .ref 51, .ref 52, .ref 53, .ref 54, .ref 55, .ref 56, .ref 57, .ref 58, .ref 59, .ref 60, .ref 61, .ref 62, .ref 63, .ref 64, .ref 65, .ref 66, .ref 67, .ref 68, .ref 69, .ref 70, .ref 71, .ref 72, .ref 73, .int 0, .int 0, .int 0, .int 0, .int 0, .int 0, .int 0, .int 0, .int 0, .int 0, .ref 74, .ref 75, .ref 76, .ref 77, .ref 78, .ref 79, .ref 80, .ref 81, .int 0, .ref 82, .ref 83, .ref 84]))).set 49 (.inr (10, [.ref 50, .int 0, .int (nI a), .int (nI b), .int v, .int k, .int 0, .int 0, .int 0, .int (-1), .int 0, .ref 51, .ref 52, .ref 53, .ref 54, .ref 55, .ref 56, .ref 57, .ref 58, .ref 59, .ref 60, .ref 61, .ref 62, .ref 63, .ref 64, .ref 65, .ref 66, .ref 67, .ref 68, .ref 69, .ref 70, .ref 71, .ref 72, .ref 73, .int 0, .int 0, .int 0, .int 0, .int 0, .int 0, .int 0, .int 0, .int 0, .int 0, .ref 74, .ref 75, .ref 76, .ref 77, .ref 78, .ref 79, .ref 80, .ref 81, .int 0, .ref 82, .ref 83, .ref 84]))), ex, 0, 0)) := by
  refine ev_of (M := an_X10_wind) rfl (Nat.le_of_ble_eq_true rfl) ?_
  refine go_n 2 (fr' := (2, [(0, .ref 49), (1, .int k)], [.int 0, .ref 49], ([c0, c1, c2, c3, c4, c5, c6, c7, c8, c9, c10, c11, c12, c13, c14, c15, c16, c17, c18, c19, c20, c21, c22, c23, c24, c25, c26, c27, c28, c29, c30, c31, c32, c33, c34, c35, c36, c37, c38, c39, c40, c41, c42, c43, c44, c45, c46, c47, c48] ++ (ah_m a b s1 s2 v t ++ R)), ex, 0, 0)) rfl ?_
  refine go_put rfl rfl rfl (Nat.le_of_ble_eq_true rfl) rfl ?_
  refine go_n 1 (fr' := (6, [(0, .ref 49), (1, .int k)], [.int k], ((([c0, c1, c2, c3, c4, c5, c6, c7, c8, c9, c10, c11, c12, c13, c14, c15, c16, c17, c18, c19, c20, c21, c22, c23, c24, c25, c26, c27, c28, c29, c30, c31, c32, c33, c34, c35, c36, c37, c38, c39, c40, c41, c42, c43, c44, c45, c46, c47, c48] ++ (ah_m a b s1 s2 v t ++ R)) : ai_H).set 49 (.inr (10, [.ref 50, .int 0, .int (nI a), .int (nI b), .int v, .int 0, .int 0, .int 0, .int 0, .int (-1), .int 0, .ref 51, .ref 52, .ref 53, .ref 54, .ref 55, .ref 56, .ref 57, .ref 58, .ref 59, .ref 60, .ref 61, .ref 62, .ref 63, .ref 64, .ref 65, .ref 66, .ref 67, .ref 68, .ref 69, .ref 70, .ref 71, .ref 72, .ref 73, .int 0, .int 0, .int 0, .int 0, .int 0, .int 0, .int 0, .int 0, .int 0, .int 0, .ref 74, .ref 75, .ref 76, .ref 77, .ref 78, .ref 79, .ref 80, .ref 81, .int 0, .ref 82, .ref 83, .ref 84]))), ex, 0, 0)) rfl ?_
  refine go_if_lt (t := 14) rfl (fun q1 => absurd q1 h1) (fun q1 => ?_)
  refine go_n 2 (fr' := (11, [(0, .ref 49), (1, .int k)], [.int 4, .int k], ((([c0, c1, c2, c3, c4, c5, c6, c7, c8, c9, c10, c11, c12, c13, c14, c15, c16, c17, c18, c19, c20, c21, c22, c23, c24, c25, c26, c27, c28, c29, c30, c31, c32, c33, c34, c35, c36, c37, c38, c39, c40, c41, c42, c43, c44, c45, c46, c47, c48] ++ (ah_m a b s1 s2 v t ++ R)) : ai_H).set 49 (.inr (10, [.ref 50, .int 0, .int (nI a), .int (nI b), .int v, .int 0, .int 0, .int 0, .int 0, .int (-1), .int 0, .ref 51, .ref 52, .ref 53, .ref 54, .ref 55, .ref 56, .ref 57, .ref 58, .ref 59, .ref 60, .ref 61, .ref 62, .ref 63, .ref 64, .ref 65, .ref 66, .ref 67, .ref 68, .ref 69, .ref 70, .ref 71, .ref 72, .ref 73, .int 0, .int 0, .int 0, .int 0, .int 0, .int 0, .int 0, .int 0, .int 0, .int 0, .ref 74, .ref 75, .ref 76, .ref 77, .ref 78, .ref 79, .ref 80, .ref 81, .int 0, .ref 82, .ref 83, .ref 84]))), ex, 0, 0)) rfl ?_
  refine go_ic_le (t := 19) rfl (fun q2 => ?_) (fun q2 => absurd h2 q2)
  refine go_n 1 (fr' := (20, [(0, .ref 49), (1, .int k)], [.ref 49], ((([c0, c1, c2, c3, c4, c5, c6, c7, c8, c9, c10, c11, c12, c13, c14, c15, c16, c17, c18, c19, c20, c21, c22, c23, c24, c25, c26, c27, c28, c29, c30, c31, c32, c33, c34, c35, c36, c37, c38, c39, c40, c41, c42, c43, c44, c45, c46, c47, c48] ++ (ah_m a b s1 s2 v t ++ R)) : ai_H).set 49 (.inr (10, [.ref 50, .int 0, .int (nI a), .int (nI b), .int v, .int 0, .int 0, .int 0, .int 0, .int (-1), .int 0, .ref 51, .ref 52, .ref 53, .ref 54, .ref 55, .ref 56, .ref 57, .ref 58, .ref 59, .ref 60, .ref 61, .ref 62, .ref 63, .ref 64, .ref 65, .ref 66, .ref 67, .ref 68, .ref 69, .ref 70, .ref 71, .ref 72, .ref 73, .int 0, .int 0, .int 0, .int 0, .int 0, .int 0, .int 0, .int 0, .int 0, .int 0, .ref 74, .ref 75, .ref 76, .ref 77, .ref 78, .ref 79, .ref 80, .ref 81, .int 0, .ref 82, .ref 83, .ref 84]))), ex, 0, 0)) rfl ?_
  refine go_get rfl rfl rfl rfl ?_
  refine go_n 3 (fr' := (26, [(0, .ref 49), (1, .int k), (2, .int 0)], [.int k, .ref 49], ((([c0, c1, c2, c3, c4, c5, c6, c7, c8, c9, c10, c11, c12, c13, c14, c15, c16, c17, c18, c19, c20, c21, c22, c23, c24, c25, c26, c27, c28, c29, c30, c31, c32, c33, c34, c35, c36, c37, c38, c39, c40, c41, c42, c43, c44, c45, c46, c47, c48] ++ (ah_m a b s1 s2 v t ++ R)) : ai_H).set 49 (.inr (10, [.ref 50, .int 0, .int (nI a), .int (nI b), .int v, .int 0, .int 0, .int 0, .int 0, .int (-1), .int 0, .ref 51, .ref 52, .ref 53, .ref 54, .ref 55, .ref 56, .ref 57, .ref 58, .ref 59, .ref 60, .ref 61, .ref 62, .ref 63, .ref 64, .ref 65, .ref 66, .ref 67, .ref 68, .ref 69, .ref 70, .ref 71, .ref 72, .ref 73, .int 0, .int 0, .int 0, .int 0, .int 0, .int 0, .int 0, .int 0, .int 0, .int 0, .ref 74, .ref 75, .ref 76, .ref 77, .ref 78, .ref 79, .ref 80, .ref 81, .int 0, .ref 82, .ref 83, .ref 84]))), ex, 0, 0)) rfl ?_
  refine go_put rfl rfl rfl (Nat.le_of_ble_eq_true rfl) rfl ?_
  refine go_n 1 (fr' := (30, [(0, .ref 49), (1, .int k), (2, .int 0)], [.int 0], ((((([c0, c1, c2, c3, c4, c5, c6, c7, c8, c9, c10, c11, c12, c13, c14, c15, c16, c17, c18, c19, c20, c21, c22, c23, c24, c25, c26, c27, c28, c29, c30, c31, c32, c33, c34, c35, c36, c37, c38, c39, c40, c41, c42, c43, c44, c45, c46, c47, c48] ++ (ah_m a b s1 s2 v t ++ R)) : ai_H).set 49 (.inr (10, [.ref 50, .int 0, .int (nI a), .int (nI b), .int v, .int 0, .int 0, .int 0, .int 0, .int (-1), .int 0, .ref 51, .ref 52, .ref 53, .ref 54, .ref 55, .ref 56, .ref 57, .ref 58, .ref 59, .ref 60, .ref 61, .ref 62, .ref 63, .ref 64, .ref 65, .ref 66, .ref 67, .ref 68, .ref 69, .ref 70, .ref 71, .ref 72, .ref 73, .int 0, .int 0, .int 0, .int 0, .int 0, .int 0, .int 0, .int 0, .int 0, .int 0, .ref 74, .ref 75, .ref 76, .ref 77, .ref 78, .ref 79, .ref 80, .ref 81, .int 0, .ref 82, .ref 83, .ref 84]))) : ai_H).set 49 (.inr (10, [.ref 50, .int 0, .int (nI a), .int (nI b), .int v, .int k, .int 0, .int 0, .int 0, .int (-1), .int 0, .ref 51, .ref 52, .ref 53, .ref 54, .ref 55, .ref 56, .ref 57, .ref 58, .ref 59, .ref 60, .ref 61, .ref 62, .ref 63, .ref 64, .ref 65, .ref 66, .ref 67, .ref 68, .ref 69, .ref 70, .ref 71, .ref 72, .ref 73, .int 0, .int 0, .int 0, .int 0, .int 0, .int 0, .int 0, .int 0, .int 0, .int 0, .ref 74, .ref 75, .ref 76, .ref 77, .ref 78, .ref 79, .ref 80, .ref 81, .int 0, .ref 82, .ref 83, .ref 84]))), ex, 0, 0)) rfl ?_
  refine go_rt (i := .ireturn) (tg := []) rfl ?_
  rfl
set_option maxRecDepth 20000 in
theorem pm_wind_lo {X : Nat × (Nat → Int32)} {c0 c1 c2 c3 c4 c5 c6 c7 c8 c9 c10 c11 c12 c13 c14 c15 c16 c17 c18 c19 c20 c21 c22 c23 c24 c25 c26 c27 c28 c29 c30 c31 c32 c33 c34 c35 c36 c37 c38 c39 c40 c41 c42 c43 c44 c45 c46 c47 c48 : ai_C} {a b : Nat} {s1 s2 : Nat → Int32} {v t : Int32} {R : List ai_C} {ex : Bool} {k : Int32} (h1 : k < 0) (d : Nat) : ai_Ev an_ms an_lk X 35 (d + 2) 58 [.ref 49, .int k] ([c0, c1, c2, c3, c4, c5, c6, c7, c8, c9, c10, c11, c12, c13, c14, c15, c16, c17, c18, c19, c20, c21, c22, c23, c24, c25, c26, c27, c28, c29, c30, c31, c32, c33, c34, c35, c36, c37, c38, c39, c40, c41, c42, c43, c44, c45, c46, c47, c48] ++ (ah_m a b s1 s2 v t ++ R)) ex (.inl (some (.int 0), ([c0, c1, c2, c3, c4, c5, c6, c7, c8, c9, c10, c11, c12, c13, c14, c15, c16, c17, c18, c19, c20, c21, c22, c23, c24, c25, c26, c27, c28, c29, c30, c31, c32, c33, c34, c35, c36, c37, c38, c39, c40, c41, c42, c43, c44, c45, c46, c47, c48] ++ (ah_m a b s1 s2 v 1 ++ R)), ex, 0, 0)) := by
  refine ev_of (M := an_X10_wind) rfl (Nat.le_of_ble_eq_true rfl) ?_
  refine go_n 2 (fr' := (2, [(0, .ref 49), (1, .int k)], [.int 0, .ref 49], ([c0, c1, c2, c3, c4, c5, c6, c7, c8, c9, c10, c11, c12, c13, c14, c15, c16, c17, c18, c19, c20, c21, c22, c23, c24, c25, c26, c27, c28, c29, c30, c31, c32, c33, c34, c35, c36, c37, c38, c39, c40, c41, c42, c43, c44, c45, c46, c47, c48] ++ (ah_m a b s1 s2 v t ++ R)), ex, 0, 0)) rfl ?_
  refine go_put rfl rfl rfl (Nat.le_of_ble_eq_true rfl) rfl ?_
  refine go_n 1 (fr' := (6, [(0, .ref 49), (1, .int k)], [.int k], ((([c0, c1, c2, c3, c4, c5, c6, c7, c8, c9, c10, c11, c12, c13, c14, c15, c16, c17, c18, c19, c20, c21, c22, c23, c24, c25, c26, c27, c28, c29, c30, c31, c32, c33, c34, c35, c36, c37, c38, c39, c40, c41, c42, c43, c44, c45, c46, c47, c48] ++ (ah_m a b s1 s2 v t ++ R)) : ai_H).set 49 (.inr (10, [.ref 50, .int 0, .int (nI a), .int (nI b), .int v, .int 0, .int 0, .int 0, .int 0, .int (-1), .int 0, .ref 51, .ref 52, .ref 53, .ref 54, .ref 55, .ref 56, .ref 57, .ref 58, .ref 59, .ref 60, .ref 61, .ref 62, .ref 63, .ref 64, .ref 65, .ref 66, .ref 67, .ref 68, .ref 69, .ref 70, .ref 71, .ref 72, .ref 73, .int 0, .int 0, .int 0, .int 0, .int 0, .int 0, .int 0, .int 0, .int 0, .int 0, .ref 74, .ref 75, .ref 76, .ref 77, .ref 78, .ref 79, .ref 80, .ref 81, .int 0, .ref 82, .ref 83, .ref 84]))), ex, 0, 0)) rfl ?_
  refine go_if_lt (t := 14) rfl (fun q1 => ?_) (fun q1 => absurd h1 q1)
  refine go_n 1 (fr' := (15, [(0, .ref 49), (1, .int k)], [.ref 49], ((([c0, c1, c2, c3, c4, c5, c6, c7, c8, c9, c10, c11, c12, c13, c14, c15, c16, c17, c18, c19, c20, c21, c22, c23, c24, c25, c26, c27, c28, c29, c30, c31, c32, c33, c34, c35, c36, c37, c38, c39, c40, c41, c42, c43, c44, c45, c46, c47, c48] ++ (ah_m a b s1 s2 v t ++ R)) : ai_H).set 49 (.inr (10, [.ref 50, .int 0, .int (nI a), .int (nI b), .int v, .int 0, .int 0, .int 0, .int 0, .int (-1), .int 0, .ref 51, .ref 52, .ref 53, .ref 54, .ref 55, .ref 56, .ref 57, .ref 58, .ref 59, .ref 60, .ref 61, .ref 62, .ref 63, .ref 64, .ref 65, .ref 66, .ref 67, .ref 68, .ref 69, .ref 70, .ref 71, .ref 72, .ref 73, .int 0, .int 0, .int 0, .int 0, .int 0, .int 0, .int 0, .int 0, .int 0, .int 0, .ref 74, .ref 75, .ref 76, .ref 77, .ref 78, .ref 79, .ref 80, .ref 81, .int 0, .ref 82, .ref 83, .ref 84]))), ex, 0, 0)) rfl ?_
  refine go_callS (q := 53) (M1 := an_X10_fail) rfl rfl (by decide) rfl ⟨_, rfl⟩ trivial (pm_fail d) ?_
  refine go_eq (fr' := (18, [(0, .ref 49), (1, .int k)], [.int 0], ([c0, c1, c2, c3, c4, c5, c6, c7, c8, c9, c10, c11, c12, c13, c14, c15, c16, c17, c18, c19, c20, c21, c22, c23, c24, c25, c26, c27, c28, c29, c30, c31, c32, c33, c34, c35, c36, c37, c38, c39, c40, c41, c42, c43, c44, c45, c46, c47, c48] ++ (ah_m a b s1 s2 v 1 ++ R)), ex, 0, 0)) rfl ?_
  refine go_rt (i := .ireturn) (tg := []) rfl ?_
  rfl
set_option maxRecDepth 20000 in
theorem pm_wind_hi {X : Nat × (Nat → Int32)} {c0 c1 c2 c3 c4 c5 c6 c7 c8 c9 c10 c11 c12 c13 c14 c15 c16 c17 c18 c19 c20 c21 c22 c23 c24 c25 c26 c27 c28 c29 c30 c31 c32 c33 c34 c35 c36 c37 c38 c39 c40 c41 c42 c43 c44 c45 c46 c47 c48 : ai_C} {a b : Nat} {s1 s2 : Nat → Int32} {v t : Int32} {R : List ai_C} {ex : Bool} {k : Int32} (h1 : ¬ k < 0) (h2 : ¬ k ≤ 4) (d : Nat) : ai_Ev an_ms an_lk X 35 (d + 2) 58 [.ref 49, .int k] ([c0, c1, c2, c3, c4, c5, c6, c7, c8, c9, c10, c11, c12, c13, c14, c15, c16, c17, c18, c19, c20, c21, c22, c23, c24, c25, c26, c27, c28, c29, c30, c31, c32, c33, c34, c35, c36, c37, c38, c39, c40, c41, c42, c43, c44, c45, c46, c47, c48] ++ (ah_m a b s1 s2 v t ++ R)) ex (.inl (some (.int 0), ([c0, c1, c2, c3, c4, c5, c6, c7, c8, c9, c10, c11, c12, c13, c14, c15, c16, c17, c18, c19, c20, c21, c22, c23, c24, c25, c26, c27, c28, c29, c30, c31, c32, c33, c34, c35, c36, c37, c38, c39, c40, c41, c42, c43, c44, c45, c46, c47, c48] ++ (ah_m a b s1 s2 v 1 ++ R)), ex, 0, 0)) := by
  refine ev_of (M := an_X10_wind) rfl (Nat.le_of_ble_eq_true rfl) ?_
  refine go_n 2 (fr' := (2, [(0, .ref 49), (1, .int k)], [.int 0, .ref 49], ([c0, c1, c2, c3, c4, c5, c6, c7, c8, c9, c10, c11, c12, c13, c14, c15, c16, c17, c18, c19, c20, c21, c22, c23, c24, c25, c26, c27, c28, c29, c30, c31, c32, c33, c34, c35, c36, c37, c38, c39, c40, c41, c42, c43, c44, c45, c46, c47, c48] ++ (ah_m a b s1 s2 v t ++ R)), ex, 0, 0)) rfl ?_
  refine go_put rfl rfl rfl (Nat.le_of_ble_eq_true rfl) rfl ?_
  refine go_n 1 (fr' := (6, [(0, .ref 49), (1, .int k)], [.int k], ((([c0, c1, c2, c3, c4, c5, c6, c7, c8, c9, c10, c11, c12, c13, c14, c15, c16, c17, c18, c19, c20, c21, c22, c23, c24, c25, c26, c27, c28, c29, c30, c31, c32, c33, c34, c35, c36, c37, c38, c39, c40, c41, c42, c43, c44, c45, c46, c47, c48] ++ (ah_m a b s1 s2 v t ++ R)) : ai_H).set 49 (.inr (10, [.ref 50, .int 0, .int (nI a), .int (nI b), .int v, .int 0, .int 0, .int 0, .int 0, .int (-1), .int 0, .ref 51, .ref 52, .ref 53, .ref 54, .ref 55, .ref 56, .ref 57, .ref 58, .ref 59, .ref 60, .ref 61, .ref 62, .ref 63, .ref 64, .ref 65, .ref 66, .ref 67, .ref 68, .ref 69, .ref 70, .ref 71, .ref 72, .ref 73, .int 0, .int 0, .int 0, .int 0, .int 0, .int 0, .int 0, .int 0, .int 0, .int 0, .ref 74, .ref 75, .ref 76, .ref 77, .ref 78, .ref 79, .ref 80, .ref 81, .int 0, .ref 82, .ref 83, .ref 84]))), ex, 0, 0)) rfl ?_
  refine go_if_lt (t := 14) rfl (fun q1 => absurd q1 h1) (fun q1 => ?_)
  refine go_n 2 (fr' := (11, [(0, .ref 49), (1, .int k)], [.int 4, .int k], ((([c0, c1, c2, c3, c4, c5, c6, c7, c8, c9, c10, c11, c12, c13, c14, c15, c16, c17, c18, c19, c20, c21, c22, c23, c24, c25, c26, c27, c28, c29, c30, c31, c32, c33, c34, c35, c36, c37, c38, c39, c40, c41, c42, c43, c44, c45, c46, c47, c48] ++ (ah_m a b s1 s2 v t ++ R)) : ai_H).set 49 (.inr (10, [.ref 50, .int 0, .int (nI a), .int (nI b), .int v, .int 0, .int 0, .int 0, .int 0, .int (-1), .int 0, .ref 51, .ref 52, .ref 53, .ref 54, .ref 55, .ref 56, .ref 57, .ref 58, .ref 59, .ref 60, .ref 61, .ref 62, .ref 63, .ref 64, .ref 65, .ref 66, .ref 67, .ref 68, .ref 69, .ref 70, .ref 71, .ref 72, .ref 73, .int 0, .int 0, .int 0, .int 0, .int 0, .int 0, .int 0, .int 0, .int 0, .int 0, .ref 74, .ref 75, .ref 76, .ref 77, .ref 78, .ref 79, .ref 80, .ref 81, .int 0, .ref 82, .ref 83, .ref 84]))), ex, 0, 0)) rfl ?_
  refine go_ic_le (t := 19) rfl (fun q2 => absurd q2 h2) (fun q2 => ?_)
  refine go_n 1 (fr' := (15, [(0, .ref 49), (1, .int k)], [.ref 49], ((([c0, c1, c2, c3, c4, c5, c6, c7, c8, c9, c10, c11, c12, c13, c14, c15, c16, c17, c18, c19, c20, c21, c22, c23, c24, c25, c26, c27, c28, c29, c30, c31, c32, c33, c34, c35, c36, c37, c38, c39, c40, c41, c42, c43, c44, c45, c46, c47, c48] ++ (ah_m a b s1 s2 v t ++ R)) : ai_H).set 49 (.inr (10, [.ref 50, .int 0, .int (nI a), .int (nI b), .int v, .int 0, .int 0, .int 0, .int 0, .int (-1), .int 0, .ref 51, .ref 52, .ref 53, .ref 54, .ref 55, .ref 56, .ref 57, .ref 58, .ref 59, .ref 60, .ref 61, .ref 62, .ref 63, .ref 64, .ref 65, .ref 66, .ref 67, .ref 68, .ref 69, .ref 70, .ref 71, .ref 72, .ref 73, .int 0, .int 0, .int 0, .int 0, .int 0, .int 0, .int 0, .int 0, .int 0, .int 0, .ref 74, .ref 75, .ref 76, .ref 77, .ref 78, .ref 79, .ref 80, .ref 81, .int 0, .ref 82, .ref 83, .ref 84]))), ex, 0, 0)) rfl ?_
  refine go_callS (q := 53) (M1 := an_X10_fail) rfl rfl (by decide) rfl ⟨_, rfl⟩ trivial (pm_fail d) ?_
  refine go_eq (fr' := (18, [(0, .ref 49), (1, .int k)], [.int 0], ([c0, c1, c2, c3, c4, c5, c6, c7, c8, c9, c10, c11, c12, c13, c14, c15, c16, c17, c18, c19, c20, c21, c22, c23, c24, c25, c26, c27, c28, c29, c30, c31, c32, c33, c34, c35, c36, c37, c38, c39, c40, c41, c42, c43, c44, c45, c46, c47, c48] ++ (ah_m a b s1 s2 v 1 ++ R)), ex, 0, 0)) rfl ?_
  refine go_rt (i := .ireturn) (tg := []) rfl ?_
  rfl
set_option maxRecDepth 20000 in
theorem pl_wind_l {xs : Nat → Int32} {S : Nat} {z : Int32} {f1 f2 f3 g1 g2 : Nat → Int32} {a b : Nat} {ns : Nat} (h1 : xs 3 < 0) : ag_Go (8, xs) 12 an_law (318, [(0, .ref 1000000), (1, .ref 0), (2, .ref 49), (3, .ref 85), (4, .int 2)], [], (ah_fw S z f1 f2 f3 g1 g2 0 ++ (ah_m a b (fun j => if j < 64 then -1 else 0) (fun j => if j < 64 then -1 else 0) 0 0 ++ [.inl (3, 1, .inr (.inl (fun _ => 0)))])), true, 86, ns) (.inl (some (.int 1), (ah_fw S z f1 f2 f3 g1 g2 0 ++ (ah_m a b (fun j => if j < 64 then -1 else 0) (fun j => if j < 64 then -1 else 0) 0 1 ++ [.inl (3, 1, .inr (.inl (fun _ => 0)))])), false, 87, (((ns + 6) + 0) + 0))) := by
  refine go_n 7 (fr' := (326, [(0, .ref 1000000), (1, .ref 0), (2, .ref 49), (3, .ref 85), (4, .int 2)], [.ref 85, .int (xs 3), .ref 0], (ah_fw S z f1 f2 f3 g1 g2 0 ++ (ah_m a b (fun j => if j < 64 then -1 else 0) (fun j => if j < 64 then -1 else 0) 0 0 ++ [.inl (3, 1, .inr (.inl (fun _ => 0)))])), true, 86, ns)) rfl ?_
  refine go_call (q := 84) (M1 := an_L_wind) rfl rfl (by decide) rfl trivial trivial (pl_wind_lo h1 10) ?_
  refine go_eq (fr' := (329, [(0, .ref 1000000), (1, .ref 0), (2, .ref 49), (3, .ref 85), (4, .int 2)], [.int 1], (ah_fw S z f1 f2 f3 g1 g2 0 ++ (ah_m a b (fun j => if j < 64 then -1 else 0) (fun j => if j < 64 then -1 else 0) 0 0 ++ [.inl (3, 1, .inr (.inl (fun _ => 0)))])), false, 87, (ns + 6))) rfl ?_
  refine go_n 7 (fr' := (338, [(0, .ref 1000000), (1, .ref 0), (2, .ref 49), (3, .ref 85), (4, .int 2), (5, .int 1)], [.int (xs 3), .ref 49], (ah_fw S z f1 f2 f3 g1 g2 0 ++ (ah_m a b (fun j => if j < 64 then -1 else 0) (fun j => if j < 64 then -1 else 0) 0 0 ++ [.inl (3, 1, .inr (.inl (fun _ => 0)))])), false, 87, (ns + 6))) rfl ?_
  refine go_callS (q := 58) (M1 := an_X10_wind) rfl rfl (by decide) rfl ⟨_, rfl⟩ trivial (pm_wind_lo h1 10) ?_
  refine go_eq (fr' := (341, [(0, .ref 1000000), (1, .ref 0), (2, .ref 49), (3, .ref 85), (4, .int 2), (5, .int 1)], [.int 0], (ah_fw S z f1 f2 f3 g1 g2 0 ++ (ah_m a b (fun j => if j < 64 then -1 else 0) (fun j => if j < 64 then -1 else 0) 0 1 ++ [.inl (3, 1, .inr (.inl (fun _ => 0)))])), false, 87, ((ns + 6) + 0))) rfl ?_
  refine go_n 2 (fr' := (344, [(0, .ref 1000000), (1, .ref 0), (2, .ref 49), (3, .ref 85), (4, .int 2), (5, .int 1), (6, .int 0)], [.ref 49], (ah_fw S z f1 f2 f3 g1 g2 0 ++ (ah_m a b (fun j => if j < 64 then -1 else 0) (fun j => if j < 64 then -1 else 0) 0 1 ++ [.inl (3, 1, .inr (.inl (fun _ => 0)))])), false, 87, ((ns + 6) + 0))) rfl ?_
  refine go_callS (q := 52) (M1 := an_X10_thrown) rfl rfl (by decide) rfl ⟨_, rfl⟩ trivial (pm_thrown 11) ?_
  refine go_eq (fr' := (347, [(0, .ref 1000000), (1, .ref 0), (2, .ref 49), (3, .ref 85), (4, .int 2), (5, .int 1), (6, .int 0)], [.int 1], (ah_fw S z f1 f2 f3 g1 g2 0 ++ (ah_m a b (fun j => if j < 64 then -1 else 0) (fun j => if j < 64 then -1 else 0) 0 1 ++ [.inl (3, 1, .inr (.inl (fun _ => 0)))])), false, 87, (((ns + 6) + 0) + 0))) rfl ?_
  refine go_n 5 (fr' := (1174, [(0, .ref 1000000), (1, .ref 0), (2, .ref 49), (3, .ref 85), (4, .int 2), (5, .int 1), (6, .int 0)], [], (ah_fw S z f1 f2 f3 g1 g2 0 ++ (ah_m a b (fun j => if j < 64 then -1 else 0) (fun j => if j < 64 then -1 else 0) 0 1 ++ [.inl (3, 1, .inr (.inl (fun _ => 0)))])), false, 87, (((ns + 6) + 0) + 0))) rfl ?_
  exact pl_end2
set_option maxRecDepth 20000 in
theorem pl_wind_h {xs : Nat → Int32} {S : Nat} {z : Int32} {f1 f2 f3 g1 g2 : Nat → Int32} {a b : Nat} {ns : Nat} (h1 : ¬ xs 3 < 0) (h2 : ¬ xs 3 ≤ 4) : ag_Go (8, xs) 12 an_law (318, [(0, .ref 1000000), (1, .ref 0), (2, .ref 49), (3, .ref 85), (4, .int 2)], [], (ah_fw S z f1 f2 f3 g1 g2 0 ++ (ah_m a b (fun j => if j < 64 then -1 else 0) (fun j => if j < 64 then -1 else 0) 0 0 ++ [.inl (3, 1, .inr (.inl (fun _ => 0)))])), true, 86, ns) (.inl (some (.int 1), (ah_fw S z f1 f2 f3 g1 g2 0 ++ (ah_m a b (fun j => if j < 64 then -1 else 0) (fun j => if j < 64 then -1 else 0) 0 1 ++ [.inl (3, 1, .inr (.inl (fun _ => 0)))])), false, 87, (((ns + 6) + 0) + 0))) := by
  refine go_n 7 (fr' := (326, [(0, .ref 1000000), (1, .ref 0), (2, .ref 49), (3, .ref 85), (4, .int 2)], [.ref 85, .int (xs 3), .ref 0], (ah_fw S z f1 f2 f3 g1 g2 0 ++ (ah_m a b (fun j => if j < 64 then -1 else 0) (fun j => if j < 64 then -1 else 0) 0 0 ++ [.inl (3, 1, .inr (.inl (fun _ => 0)))])), true, 86, ns)) rfl ?_
  refine go_call (q := 84) (M1 := an_L_wind) rfl rfl (by decide) rfl trivial trivial (pl_wind_hi h1 h2 10) ?_
  refine go_eq (fr' := (329, [(0, .ref 1000000), (1, .ref 0), (2, .ref 49), (3, .ref 85), (4, .int 2)], [.int 1], (ah_fw S z f1 f2 f3 g1 g2 0 ++ (ah_m a b (fun j => if j < 64 then -1 else 0) (fun j => if j < 64 then -1 else 0) 0 0 ++ [.inl (3, 1, .inr (.inl (fun _ => 0)))])), false, 87, (ns + 6))) rfl ?_
  refine go_n 7 (fr' := (338, [(0, .ref 1000000), (1, .ref 0), (2, .ref 49), (3, .ref 85), (4, .int 2), (5, .int 1)], [.int (xs 3), .ref 49], (ah_fw S z f1 f2 f3 g1 g2 0 ++ (ah_m a b (fun j => if j < 64 then -1 else 0) (fun j => if j < 64 then -1 else 0) 0 0 ++ [.inl (3, 1, .inr (.inl (fun _ => 0)))])), false, 87, (ns + 6))) rfl ?_
  refine go_callS (q := 58) (M1 := an_X10_wind) rfl rfl (by decide) rfl ⟨_, rfl⟩ trivial (pm_wind_hi h1 h2 10) ?_
  refine go_eq (fr' := (341, [(0, .ref 1000000), (1, .ref 0), (2, .ref 49), (3, .ref 85), (4, .int 2), (5, .int 1)], [.int 0], (ah_fw S z f1 f2 f3 g1 g2 0 ++ (ah_m a b (fun j => if j < 64 then -1 else 0) (fun j => if j < 64 then -1 else 0) 0 1 ++ [.inl (3, 1, .inr (.inl (fun _ => 0)))])), false, 87, ((ns + 6) + 0))) rfl ?_
  refine go_n 2 (fr' := (344, [(0, .ref 1000000), (1, .ref 0), (2, .ref 49), (3, .ref 85), (4, .int 2), (5, .int 1), (6, .int 0)], [.ref 49], (ah_fw S z f1 f2 f3 g1 g2 0 ++ (ah_m a b (fun j => if j < 64 then -1 else 0) (fun j => if j < 64 then -1 else 0) 0 1 ++ [.inl (3, 1, .inr (.inl (fun _ => 0)))])), false, 87, ((ns + 6) + 0))) rfl ?_
  refine go_callS (q := 52) (M1 := an_X10_thrown) rfl rfl (by decide) rfl ⟨_, rfl⟩ trivial (pm_thrown 11) ?_
  refine go_eq (fr' := (347, [(0, .ref 1000000), (1, .ref 0), (2, .ref 49), (3, .ref 85), (4, .int 2), (5, .int 1), (6, .int 0)], [.int 1], (ah_fw S z f1 f2 f3 g1 g2 0 ++ (ah_m a b (fun j => if j < 64 then -1 else 0) (fun j => if j < 64 then -1 else 0) 0 1 ++ [.inl (3, 1, .inr (.inl (fun _ => 0)))])), false, 87, (((ns + 6) + 0) + 0))) rfl ?_
  refine go_n 5 (fr' := (1174, [(0, .ref 1000000), (1, .ref 0), (2, .ref 49), (3, .ref 85), (4, .int 2), (5, .int 1), (6, .int 0)], [], (ah_fw S z f1 f2 f3 g1 g2 0 ++ (ah_m a b (fun j => if j < 64 then -1 else 0) (fun j => if j < 64 then -1 else 0) 0 1 ++ [.inl (3, 1, .inr (.inl (fun _ => 0)))])), false, 87, (((ns + 6) + 0) + 0))) rfl ?_
  exact pl_end2
set_option maxRecDepth 20000 in
theorem pl_wind {xs : Nat → Int32} {S : Nat} {z : Int32} {f1 f2 f3 g1 g2 : Nat → Int32} {a b : Nat} {ns : Nat} (h1 : ¬ xs 3 < 0) (h2 : xs 3 ≤ 4) : ag_Go (8, xs) 12 an_law (318, [(0, .ref 1000000), (1, .ref 0), (2, .ref 49), (3, .ref 85), (4, .int 2)], [], (ah_fw S z f1 f2 f3 g1 g2 0 ++ (ah_m a b (fun j => if j < 64 then -1 else 0) (fun j => if j < 64 then -1 else 0) 0 0 ++ [.inl (3, 1, .inr (.inl (fun _ => 0)))])), true, 86, ns) (.inl (some (.int 1), (((((([.inr (9, [.ref 1, .ref 13, .ref 22, .ref 24, .ref 29, .ref 33, .ref 36, .ref 39, .ref 48, .int 0, .int (-1), .int 0]), .inr (0, [.int z, .ref 2, .ref 3, .ref 4, .ref 5, .ref 6, .ref 7, .ref 8, .ref 9, .ref 10, .ref 11, .ref 12, .int (xs 3)]), .inl (0, S, .inl f1), .inl (0, S, .inl f2), .inl (0, 4 * S, .inl f3), .inl (0, S, .inl g1), .inl (0, S, .inl (fun _ => 0)), .inl (0, S, .inl (fun _ => 0)), .inl (0, S, .inl (fun _ => 0)), .inl (0, S, .inl (fun _ => 0)), .inl (0, S, .inl (fun _ => 0)), .inl (0, S, .inl g2), .inl (1, S, .inl (fun _ => 0)), .inr (1, [.ref 14, .ref 15, .ref 16, .ref 17, .ref 18, .ref 19, .ref 20, .ref 21, .int 0]), .inl (0, 8, .inl (fun _ => 0)), .inl (0, 8, .inl (fun _ => 0)), .inl (0, 8, .inl (fun _ => 0)), .inl (0, 8, .inl (fun _ => 0)), .inl (1, 8, .inl (fun _ => 0)), .inl (0, 8, .inl (fun _ => 0)), .inl (0, 8, .inl (fun _ => 0)), .inl (0, 8, .inl (fun _ => 0)), .inr (6, [.ref 23, .int 0]), .inl (2, 400, .inl (fun _ => 0)), .inr (5, [.ref 25, .int 0, .int 0, .ref 26, .int 0, .int 0]), .inl (0, 400, .inl (fun _ => 0)), .inr (7, [.ref 27, .ref 28, .int 0, .ref 23, .int 0, .int 0]), .inl (0, 401, .inl (fun _ => 0)), .inl (0, 401, .inl (fun _ => 0)), .inr (4, [.ref 30, .ref 31, .ref 32, .int 0]), .inl (0, 2400, .inl (fun _ => 0)), .inl (0, 6, .inl (fun _ => 0)), .inl (0, 6, .inl (fun _ => 0)), .inr (3, [.int 0, .int 0, .ref 34, .ref 35, .int 0]), .inl (0, 8, .inl (fun _ => 0)), .inl (0, 20, .inl (fun _ => 0)), .inr (8, [.ref 1, .ref 37, .ref 38, .int 0]), .inl (0, S, .inl (fun _ => 0)), .inl (0, S, .inl (fun _ => 0)), .inr (2, [.ref 40, .int 0, .ref 1, .int z, .ref 41, .ref 42, .ref 43, .ref 44, .ref 45, .ref 46, .ref 47, .int 0, .int 0]), .inl (0, 4, .inl (fun _ => 0)), .inl (1, S, .inl (fun _ => 0)), .inl (1, S, .inl (fun _ => 0)), .inl (1, S, .inl (fun _ => 0)), .inl (0, S, .inl (fun _ => 0)), .inl (0, S, .inl (fun _ => 0)), .inl (0, (2 * S), .inl (fun _ => 0)), .inl (0, (2 * S), .inl (fun _ => 0)), .inl (0, S, .inl (fun _ => 0))] : ai_H) ++ (ah_m a b (fun j => if j < 64 then -1 else 0) (fun j => if j < 64 then -1 else 0) 0 0 ++ [.inl (3, 1, .inr (.inl (vp_updL (fun _ => 0) 0 ((0 : Int32).toInt64))))])) : ai_H).set 49 (.inr (10, [.ref 50, .int 0, .int (nI a), .int (nI b), .int 0, .int 0, .int 0, .int 0, .int 0, .int (-1), .int 0, .ref 51, .ref 52, .ref 53, .ref 54, .ref 55, .ref 56, .ref 57, .ref 58, .ref 59, .ref 60, .ref 61, .ref 62, .ref 63, .ref 64, .ref 65, .ref 66, .ref 67, .ref 68, .ref 69, .ref 70, .ref 71, .ref 72, .ref 73, .int 0, .int 0, .int 0, .int 0, .int 0, .int 0, .int 0, .int 0, .int 0, .int 0, .ref 74, .ref 75, .ref 76, .ref 77, .ref 78, .ref 79, .ref 80, .ref 81, .int 0, .ref 82, .ref 83, .ref 84]))) : ai_H).set 49 (.inr (10, [.ref 50, .int 0, .int (nI a), .int (nI b), .int 0, .int (xs 3), .int 0, .int 0, .int 0, .int (-1), .int 0, .ref 51, .ref 52, .ref 53, .ref 54, .ref 55, .ref 56, .ref 57, .ref 58, .ref 59, .ref 60, .ref 61, .ref 62, .ref 63, .ref 64, .ref 65, .ref 66, .ref 67, .ref 68, .ref 69, .ref 70, .ref 71, .ref 72, .ref 73, .int 0, .int 0, .int 0, .int 0, .int 0, .int 0, .int 0, .int 0, .int 0, .int 0, .ref 74, .ref 75, .ref 76, .ref 77, .ref 78, .ref 79, .ref 80, .ref 81, .int 0, .ref 82, .ref 83, .ref 84]))), true, 86, (((ns + 0) + 0) + 0))) := by
  refine go_n 7 (fr' := (326, [(0, .ref 1000000), (1, .ref 0), (2, .ref 49), (3, .ref 85), (4, .int 2)], [.ref 85, .int (xs 3), .ref 0], (ah_fw S z f1 f2 f3 g1 g2 0 ++ (ah_m a b (fun j => if j < 64 then -1 else 0) (fun j => if j < 64 then -1 else 0) 0 0 ++ [.inl (3, 1, .inr (.inl (fun _ => 0)))])), true, 86, ns)) rfl ?_
  refine go_call (q := 84) (M1 := an_L_wind) rfl rfl (by decide) rfl trivial trivial (pl_wind_ok h1 h2 10) ?_
  refine go_eq (fr' := (329, [(0, .ref 1000000), (1, .ref 0), (2, .ref 49), (3, .ref 85), (4, .int 2)], [.int 0], (([.inr (9, [.ref 1, .ref 13, .ref 22, .ref 24, .ref 29, .ref 33, .ref 36, .ref 39, .ref 48, .int 0, .int (-1), .int 0]), .inr (0, [.int z, .ref 2, .ref 3, .ref 4, .ref 5, .ref 6, .ref 7, .ref 8, .ref 9, .ref 10, .ref 11, .ref 12, .int (xs 3)]), .inl (0, S, .inl f1), .inl (0, S, .inl f2), .inl (0, 4 * S, .inl f3), .inl (0, S, .inl g1), .inl (0, S, .inl (fun _ => 0)), .inl (0, S, .inl (fun _ => 0)), .inl (0, S, .inl (fun _ => 0)), .inl (0, S, .inl (fun _ => 0)), .inl (0, S, .inl (fun _ => 0)), .inl (0, S, .inl g2), .inl (1, S, .inl (fun _ => 0)), .inr (1, [.ref 14, .ref 15, .ref 16, .ref 17, .ref 18, .ref 19, .ref 20, .ref 21, .int 0]), .inl (0, 8, .inl (fun _ => 0)), .inl (0, 8, .inl (fun _ => 0)), .inl (0, 8, .inl (fun _ => 0)), .inl (0, 8, .inl (fun _ => 0)), .inl (1, 8, .inl (fun _ => 0)), .inl (0, 8, .inl (fun _ => 0)), .inl (0, 8, .inl (fun _ => 0)), .inl (0, 8, .inl (fun _ => 0)), .inr (6, [.ref 23, .int 0]), .inl (2, 400, .inl (fun _ => 0)), .inr (5, [.ref 25, .int 0, .int 0, .ref 26, .int 0, .int 0]), .inl (0, 400, .inl (fun _ => 0)), .inr (7, [.ref 27, .ref 28, .int 0, .ref 23, .int 0, .int 0]), .inl (0, 401, .inl (fun _ => 0)), .inl (0, 401, .inl (fun _ => 0)), .inr (4, [.ref 30, .ref 31, .ref 32, .int 0]), .inl (0, 2400, .inl (fun _ => 0)), .inl (0, 6, .inl (fun _ => 0)), .inl (0, 6, .inl (fun _ => 0)), .inr (3, [.int 0, .int 0, .ref 34, .ref 35, .int 0]), .inl (0, 8, .inl (fun _ => 0)), .inl (0, 20, .inl (fun _ => 0)), .inr (8, [.ref 1, .ref 37, .ref 38, .int 0]), .inl (0, S, .inl (fun _ => 0)), .inl (0, S, .inl (fun _ => 0)), .inr (2, [.ref 40, .int 0, .ref 1, .int z, .ref 41, .ref 42, .ref 43, .ref 44, .ref 45, .ref 46, .ref 47, .int 0, .int 0]), .inl (0, 4, .inl (fun _ => 0)), .inl (1, S, .inl (fun _ => 0)), .inl (1, S, .inl (fun _ => 0)), .inl (1, S, .inl (fun _ => 0)), .inl (0, S, .inl (fun _ => 0)), .inl (0, S, .inl (fun _ => 0)), .inl (0, (2 * S), .inl (fun _ => 0)), .inl (0, (2 * S), .inl (fun _ => 0)), .inl (0, S, .inl (fun _ => 0))] : ai_H) ++ (ah_m a b (fun j => if j < 64 then -1 else 0) (fun j => if j < 64 then -1 else 0) 0 0 ++ [.inl (3, 1, .inr (.inl (vp_updL (fun _ => 0) 0 ((0 : Int32).toInt64))))])), true, 86, (ns + 0))) rfl ?_
  refine go_n 7 (fr' := (338, [(0, .ref 1000000), (1, .ref 0), (2, .ref 49), (3, .ref 85), (4, .int 2), (5, .int 0)], [.int (xs 3), .ref 49], (([.inr (9, [.ref 1, .ref 13, .ref 22, .ref 24, .ref 29, .ref 33, .ref 36, .ref 39, .ref 48, .int 0, .int (-1), .int 0]), .inr (0, [.int z, .ref 2, .ref 3, .ref 4, .ref 5, .ref 6, .ref 7, .ref 8, .ref 9, .ref 10, .ref 11, .ref 12, .int (xs 3)]), .inl (0, S, .inl f1), .inl (0, S, .inl f2), .inl (0, 4 * S, .inl f3), .inl (0, S, .inl g1), .inl (0, S, .inl (fun _ => 0)), .inl (0, S, .inl (fun _ => 0)), .inl (0, S, .inl (fun _ => 0)), .inl (0, S, .inl (fun _ => 0)), .inl (0, S, .inl (fun _ => 0)), .inl (0, S, .inl g2), .inl (1, S, .inl (fun _ => 0)), .inr (1, [.ref 14, .ref 15, .ref 16, .ref 17, .ref 18, .ref 19, .ref 20, .ref 21, .int 0]), .inl (0, 8, .inl (fun _ => 0)), .inl (0, 8, .inl (fun _ => 0)), .inl (0, 8, .inl (fun _ => 0)), .inl (0, 8, .inl (fun _ => 0)), .inl (1, 8, .inl (fun _ => 0)), .inl (0, 8, .inl (fun _ => 0)), .inl (0, 8, .inl (fun _ => 0)), .inl (0, 8, .inl (fun _ => 0)), .inr (6, [.ref 23, .int 0]), .inl (2, 400, .inl (fun _ => 0)), .inr (5, [.ref 25, .int 0, .int 0, .ref 26, .int 0, .int 0]), .inl (0, 400, .inl (fun _ => 0)), .inr (7, [.ref 27, .ref 28, .int 0, .ref 23, .int 0, .int 0]), .inl (0, 401, .inl (fun _ => 0)), .inl (0, 401, .inl (fun _ => 0)), .inr (4, [.ref 30, .ref 31, .ref 32, .int 0]), .inl (0, 2400, .inl (fun _ => 0)), .inl (0, 6, .inl (fun _ => 0)), .inl (0, 6, .inl (fun _ => 0)), .inr (3, [.int 0, .int 0, .ref 34, .ref 35, .int 0]), .inl (0, 8, .inl (fun _ => 0)), .inl (0, 20, .inl (fun _ => 0)), .inr (8, [.ref 1, .ref 37, .ref 38, .int 0]), .inl (0, S, .inl (fun _ => 0)), .inl (0, S, .inl (fun _ => 0)), .inr (2, [.ref 40, .int 0, .ref 1, .int z, .ref 41, .ref 42, .ref 43, .ref 44, .ref 45, .ref 46, .ref 47, .int 0, .int 0]), .inl (0, 4, .inl (fun _ => 0)), .inl (1, S, .inl (fun _ => 0)), .inl (1, S, .inl (fun _ => 0)), .inl (1, S, .inl (fun _ => 0)), .inl (0, S, .inl (fun _ => 0)), .inl (0, S, .inl (fun _ => 0)), .inl (0, (2 * S), .inl (fun _ => 0)), .inl (0, (2 * S), .inl (fun _ => 0)), .inl (0, S, .inl (fun _ => 0))] : ai_H) ++ (ah_m a b (fun j => if j < 64 then -1 else 0) (fun j => if j < 64 then -1 else 0) 0 0 ++ [.inl (3, 1, .inr (.inl (vp_updL (fun _ => 0) 0 ((0 : Int32).toInt64))))])), true, 86, (ns + 0))) rfl ?_
  refine go_call (q := 58) (M1 := an_X10_wind) rfl rfl (by decide) rfl ⟨_, rfl⟩ trivial (pm_wind h1 h2 11) ?_
  refine go_eq (fr' := (341, [(0, .ref 1000000), (1, .ref 0), (2, .ref 49), (3, .ref 85), (4, .int 2), (5, .int 0)], [.int 0], (((((([.inr (9, [.ref 1, .ref 13, .ref 22, .ref 24, .ref 29, .ref 33, .ref 36, .ref 39, .ref 48, .int 0, .int (-1), .int 0]), .inr (0, [.int z, .ref 2, .ref 3, .ref 4, .ref 5, .ref 6, .ref 7, .ref 8, .ref 9, .ref 10, .ref 11, .ref 12, .int (xs 3)]), .inl (0, S, .inl f1), .inl (0, S, .inl f2), .inl (0, 4 * S, .inl f3), .inl (0, S, .inl g1), .inl (0, S, .inl (fun _ => 0)), .inl (0, S, .inl (fun _ => 0)), .inl (0, S, .inl (fun _ => 0)), .inl (0, S, .inl (fun _ => 0)), .inl (0, S, .inl (fun _ => 0)), .inl (0, S, .inl g2), .inl (1, S, .inl (fun _ => 0)), .inr (1, [.ref 14, .ref 15, .ref 16, .ref 17, .ref 18, .ref 19, .ref 20, .ref 21, .int 0]), .inl (0, 8, .inl (fun _ => 0)), .inl (0, 8, .inl (fun _ => 0)), .inl (0, 8, .inl (fun _ => 0)), .inl (0, 8, .inl (fun _ => 0)), .inl (1, 8, .inl (fun _ => 0)), .inl (0, 8, .inl (fun _ => 0)), .inl (0, 8, .inl (fun _ => 0)), .inl (0, 8, .inl (fun _ => 0)), .inr (6, [.ref 23, .int 0]), .inl (2, 400, .inl (fun _ => 0)), .inr (5, [.ref 25, .int 0, .int 0, .ref 26, .int 0, .int 0]), .inl (0, 400, .inl (fun _ => 0)), .inr (7, [.ref 27, .ref 28, .int 0, .ref 23, .int 0, .int 0]), .inl (0, 401, .inl (fun _ => 0)), .inl (0, 401, .inl (fun _ => 0)), .inr (4, [.ref 30, .ref 31, .ref 32, .int 0]), .inl (0, 2400, .inl (fun _ => 0)), .inl (0, 6, .inl (fun _ => 0)), .inl (0, 6, .inl (fun _ => 0)), .inr (3, [.int 0, .int 0, .ref 34, .ref 35, .int 0]), .inl (0, 8, .inl (fun _ => 0)), .inl (0, 20, .inl (fun _ => 0)), .inr (8, [.ref 1, .ref 37, .ref 38, .int 0]), .inl (0, S, .inl (fun _ => 0)), .inl (0, S, .inl (fun _ => 0)), .inr (2, [.ref 40, .int 0, .ref 1, .int z, .ref 41, .ref 42, .ref 43, .ref 44, .ref 45, .ref 46, .ref 47, .int 0, .int 0]), .inl (0, 4, .inl (fun _ => 0)), .inl (1, S, .inl (fun _ => 0)), .inl (1, S, .inl (fun _ => 0)), .inl (1, S, .inl (fun _ => 0)), .inl (0, S, .inl (fun _ => 0)), .inl (0, S, .inl (fun _ => 0)), .inl (0, (2 * S), .inl (fun _ => 0)), .inl (0, (2 * S), .inl (fun _ => 0)), .inl (0, S, .inl (fun _ => 0))] : ai_H) ++ (ah_m a b (fun j => if j < 64 then -1 else 0) (fun j => if j < 64 then -1 else 0) 0 0 ++ [.inl (3, 1, .inr (.inl (vp_updL (fun _ => 0) 0 ((0 : Int32).toInt64))))])) : ai_H).set 49 (.inr (10, [.ref 50, .int 0, .int (nI a), .int (nI b), .int 0, .int 0, .int 0, .int 0, .int 0, .int (-1), .int 0, .ref 51, .ref 52, .ref 53, .ref 54, .ref 55, .ref 56, .ref 57, .ref 58, .ref 59, .ref 60, .ref 61, .ref 62, .ref 63, .ref 64, .ref 65, .ref 66, .ref 67, .ref 68, .ref 69, .ref 70, .ref 71, .ref 72, .ref 73, .int 0, .int 0, .int 0, .int 0, .int 0, .int 0, .int 0, .int 0, .int 0, .int 0, .ref 74, .ref 75, .ref 76, .ref 77, .ref 78, .ref 79, .ref 80, .ref 81, .int 0, .ref 82, .ref 83, .ref 84]))) : ai_H).set 49 (.inr (10, [.ref 50, .int 0, .int (nI a), .int (nI b), .int 0, .int (xs 3), .int 0, .int 0, .int 0, .int (-1), .int 0, .ref 51, .ref 52, .ref 53, .ref 54, .ref 55, .ref 56, .ref 57, .ref 58, .ref 59, .ref 60, .ref 61, .ref 62, .ref 63, .ref 64, .ref 65, .ref 66, .ref 67, .ref 68, .ref 69, .ref 70, .ref 71, .ref 72, .ref 73, .int 0, .int 0, .int 0, .int 0, .int 0, .int 0, .int 0, .int 0, .int 0, .int 0, .ref 74, .ref 75, .ref 76, .ref 77, .ref 78, .ref 79, .ref 80, .ref 81, .int 0, .ref 82, .ref 83, .ref 84]))), true, 86, ((ns + 0) + 0))) rfl ?_
  refine go_n 2 (fr' := (344, [(0, .ref 1000000), (1, .ref 0), (2, .ref 49), (3, .ref 85), (4, .int 2), (5, .int 0), (6, .int 0)], [.ref 49], (((((([.inr (9, [.ref 1, .ref 13, .ref 22, .ref 24, .ref 29, .ref 33, .ref 36, .ref 39, .ref 48, .int 0, .int (-1), .int 0]), .inr (0, [.int z, .ref 2, .ref 3, .ref 4, .ref 5, .ref 6, .ref 7, .ref 8, .ref 9, .ref 10, .ref 11, .ref 12, .int (xs 3)]), .inl (0, S, .inl f1), .inl (0, S, .inl f2), .inl (0, 4 * S, .inl f3), .inl (0, S, .inl g1), .inl (0, S, .inl (fun _ => 0)), .inl (0, S, .inl (fun _ => 0)), .inl (0, S, .inl (fun _ => 0)), .inl (0, S, .inl (fun _ => 0)), .inl (0, S, .inl (fun _ => 0)), .inl (0, S, .inl g2), .inl (1, S, .inl (fun _ => 0)), .inr (1, [.ref 14, .ref 15, .ref 16, .ref 17, .ref 18, .ref 19, .ref 20, .ref 21, .int 0]), .inl (0, 8, .inl (fun _ => 0)), .inl (0, 8, .inl (fun _ => 0)), .inl (0, 8, .inl (fun _ => 0)), .inl (0, 8, .inl (fun _ => 0)), .inl (1, 8, .inl (fun _ => 0)), .inl (0, 8, .inl (fun _ => 0)), .inl (0, 8, .inl (fun _ => 0)), .inl (0, 8, .inl (fun _ => 0)), .inr (6, [.ref 23, .int 0]), .inl (2, 400, .inl (fun _ => 0)), .inr (5, [.ref 25, .int 0, .int 0, .ref 26, .int 0, .int 0]), .inl (0, 400, .inl (fun _ => 0)), .inr (7, [.ref 27, .ref 28, .int 0, .ref 23, .int 0, .int 0]), .inl (0, 401, .inl (fun _ => 0)), .inl (0, 401, .inl (fun _ => 0)), .inr (4, [.ref 30, .ref 31, .ref 32, .int 0]), .inl (0, 2400, .inl (fun _ => 0)), .inl (0, 6, .inl (fun _ => 0)), .inl (0, 6, .inl (fun _ => 0)), .inr (3, [.int 0, .int 0, .ref 34, .ref 35, .int 0]), .inl (0, 8, .inl (fun _ => 0)), .inl (0, 20, .inl (fun _ => 0)), .inr (8, [.ref 1, .ref 37, .ref 38, .int 0]), .inl (0, S, .inl (fun _ => 0)), .inl (0, S, .inl (fun _ => 0)), .inr (2, [.ref 40, .int 0, .ref 1, .int z, .ref 41, .ref 42, .ref 43, .ref 44, .ref 45, .ref 46, .ref 47, .int 0, .int 0]), .inl (0, 4, .inl (fun _ => 0)), .inl (1, S, .inl (fun _ => 0)), .inl (1, S, .inl (fun _ => 0)), .inl (1, S, .inl (fun _ => 0)), .inl (0, S, .inl (fun _ => 0)), .inl (0, S, .inl (fun _ => 0)), .inl (0, (2 * S), .inl (fun _ => 0)), .inl (0, (2 * S), .inl (fun _ => 0)), .inl (0, S, .inl (fun _ => 0))] : ai_H) ++ (ah_m a b (fun j => if j < 64 then -1 else 0) (fun j => if j < 64 then -1 else 0) 0 0 ++ [.inl (3, 1, .inr (.inl (vp_updL (fun _ => 0) 0 ((0 : Int32).toInt64))))])) : ai_H).set 49 (.inr (10, [.ref 50, .int 0, .int (nI a), .int (nI b), .int 0, .int 0, .int 0, .int 0, .int 0, .int (-1), .int 0, .ref 51, .ref 52, .ref 53, .ref 54, .ref 55, .ref 56, .ref 57, .ref 58, .ref 59, .ref 60, .ref 61, .ref 62, .ref 63, .ref 64, .ref 65, .ref 66, .ref 67, .ref 68, .ref 69, .ref 70, .ref 71, .ref 72, .ref 73, .int 0, .int 0, .int 0, .int 0, .int 0, .int 0, .int 0, .int 0, .int 0, .int 0, .ref 74, .ref 75, .ref 76, .ref 77, .ref 78, .ref 79, .ref 80, .ref 81, .int 0, .ref 82, .ref 83, .ref 84]))) : ai_H).set 49 (.inr (10, [.ref 50, .int 0, .int (nI a), .int (nI b), .int 0, .int (xs 3), .int 0, .int 0, .int 0, .int (-1), .int 0, .ref 51, .ref 52, .ref 53, .ref 54, .ref 55, .ref 56, .ref 57, .ref 58, .ref 59, .ref 60, .ref 61, .ref 62, .ref 63, .ref 64, .ref 65, .ref 66, .ref 67, .ref 68, .ref 69, .ref 70, .ref 71, .ref 72, .ref 73, .int 0, .int 0, .int 0, .int 0, .int 0, .int 0, .int 0, .int 0, .int 0, .int 0, .ref 74, .ref 75, .ref 76, .ref 77, .ref 78, .ref 79, .ref 80, .ref 81, .int 0, .ref 82, .ref 83, .ref 84]))), true, 86, ((ns + 0) + 0))) rfl ?_
  refine go_call (q := 52) (M1 := an_X10_thrown) rfl rfl (by decide) rfl ⟨_, rfl⟩ trivial (pm_thrownG rfl 11) ?_
  refine go_eq (fr' := (347, [(0, .ref 1000000), (1, .ref 0), (2, .ref 49), (3, .ref 85), (4, .int 2), (5, .int 0), (6, .int 0)], [.int 0], (((((([.inr (9, [.ref 1, .ref 13, .ref 22, .ref 24, .ref 29, .ref 33, .ref 36, .ref 39, .ref 48, .int 0, .int (-1), .int 0]), .inr (0, [.int z, .ref 2, .ref 3, .ref 4, .ref 5, .ref 6, .ref 7, .ref 8, .ref 9, .ref 10, .ref 11, .ref 12, .int (xs 3)]), .inl (0, S, .inl f1), .inl (0, S, .inl f2), .inl (0, 4 * S, .inl f3), .inl (0, S, .inl g1), .inl (0, S, .inl (fun _ => 0)), .inl (0, S, .inl (fun _ => 0)), .inl (0, S, .inl (fun _ => 0)), .inl (0, S, .inl (fun _ => 0)), .inl (0, S, .inl (fun _ => 0)), .inl (0, S, .inl g2), .inl (1, S, .inl (fun _ => 0)), .inr (1, [.ref 14, .ref 15, .ref 16, .ref 17, .ref 18, .ref 19, .ref 20, .ref 21, .int 0]), .inl (0, 8, .inl (fun _ => 0)), .inl (0, 8, .inl (fun _ => 0)), .inl (0, 8, .inl (fun _ => 0)), .inl (0, 8, .inl (fun _ => 0)), .inl (1, 8, .inl (fun _ => 0)), .inl (0, 8, .inl (fun _ => 0)), .inl (0, 8, .inl (fun _ => 0)), .inl (0, 8, .inl (fun _ => 0)), .inr (6, [.ref 23, .int 0]), .inl (2, 400, .inl (fun _ => 0)), .inr (5, [.ref 25, .int 0, .int 0, .ref 26, .int 0, .int 0]), .inl (0, 400, .inl (fun _ => 0)), .inr (7, [.ref 27, .ref 28, .int 0, .ref 23, .int 0, .int 0]), .inl (0, 401, .inl (fun _ => 0)), .inl (0, 401, .inl (fun _ => 0)), .inr (4, [.ref 30, .ref 31, .ref 32, .int 0]), .inl (0, 2400, .inl (fun _ => 0)), .inl (0, 6, .inl (fun _ => 0)), .inl (0, 6, .inl (fun _ => 0)), .inr (3, [.int 0, .int 0, .ref 34, .ref 35, .int 0]), .inl (0, 8, .inl (fun _ => 0)), .inl (0, 20, .inl (fun _ => 0)), .inr (8, [.ref 1, .ref 37, .ref 38, .int 0]), .inl (0, S, .inl (fun _ => 0)), .inl (0, S, .inl (fun _ => 0)), .inr (2, [.ref 40, .int 0, .ref 1, .int z, .ref 41, .ref 42, .ref 43, .ref 44, .ref 45, .ref 46, .ref 47, .int 0, .int 0]), .inl (0, 4, .inl (fun _ => 0)), .inl (1, S, .inl (fun _ => 0)), .inl (1, S, .inl (fun _ => 0)), .inl (1, S, .inl (fun _ => 0)), .inl (0, S, .inl (fun _ => 0)), .inl (0, S, .inl (fun _ => 0)), .inl (0, (2 * S), .inl (fun _ => 0)), .inl (0, (2 * S), .inl (fun _ => 0)), .inl (0, S, .inl (fun _ => 0))] : ai_H) ++ (ah_m a b (fun j => if j < 64 then -1 else 0) (fun j => if j < 64 then -1 else 0) 0 0 ++ [.inl (3, 1, .inr (.inl (vp_updL (fun _ => 0) 0 ((0 : Int32).toInt64))))])) : ai_H).set 49 (.inr (10, [.ref 50, .int 0, .int (nI a), .int (nI b), .int 0, .int 0, .int 0, .int 0, .int 0, .int (-1), .int 0, .ref 51, .ref 52, .ref 53, .ref 54, .ref 55, .ref 56, .ref 57, .ref 58, .ref 59, .ref 60, .ref 61, .ref 62, .ref 63, .ref 64, .ref 65, .ref 66, .ref 67, .ref 68, .ref 69, .ref 70, .ref 71, .ref 72, .ref 73, .int 0, .int 0, .int 0, .int 0, .int 0, .int 0, .int 0, .int 0, .int 0, .int 0, .ref 74, .ref 75, .ref 76, .ref 77, .ref 78, .ref 79, .ref 80, .ref 81, .int 0, .ref 82, .ref 83, .ref 84]))) : ai_H).set 49 (.inr (10, [.ref 50, .int 0, .int (nI a), .int (nI b), .int 0, .int (xs 3), .int 0, .int 0, .int 0, .int (-1), .int 0, .ref 51, .ref 52, .ref 53, .ref 54, .ref 55, .ref 56, .ref 57, .ref 58, .ref 59, .ref 60, .ref 61, .ref 62, .ref 63, .ref 64, .ref 65, .ref 66, .ref 67, .ref 68, .ref 69, .ref 70, .ref 71, .ref 72, .ref 73, .int 0, .int 0, .int 0, .int 0, .int 0, .int 0, .int 0, .int 0, .int 0, .int 0, .ref 74, .ref 75, .ref 76, .ref 77, .ref 78, .ref 79, .ref 80, .ref 81, .int 0, .ref 82, .ref 83, .ref 84]))), true, 86, (((ns + 0) + 0) + 0))) rfl ?_
  refine go_n 10 (fr' := (366, [(0, .ref 1000000), (1, .ref 0), (2, .ref 49), (3, .ref 85), (4, .int 2), (5, .int 0), (6, .int 0)], [.int (lg_cmp ((0 : Int32).toInt64) ((0 : Int32).toInt64))], (((((([.inr (9, [.ref 1, .ref 13, .ref 22, .ref 24, .ref 29, .ref 33, .ref 36, .ref 39, .ref 48, .int 0, .int (-1), .int 0]), .inr (0, [.int z, .ref 2, .ref 3, .ref 4, .ref 5, .ref 6, .ref 7, .ref 8, .ref 9, .ref 10, .ref 11, .ref 12, .int (xs 3)]), .inl (0, S, .inl f1), .inl (0, S, .inl f2), .inl (0, 4 * S, .inl f3), .inl (0, S, .inl g1), .inl (0, S, .inl (fun _ => 0)), .inl (0, S, .inl (fun _ => 0)), .inl (0, S, .inl (fun _ => 0)), .inl (0, S, .inl (fun _ => 0)), .inl (0, S, .inl (fun _ => 0)), .inl (0, S, .inl g2), .inl (1, S, .inl (fun _ => 0)), .inr (1, [.ref 14, .ref 15, .ref 16, .ref 17, .ref 18, .ref 19, .ref 20, .ref 21, .int 0]), .inl (0, 8, .inl (fun _ => 0)), .inl (0, 8, .inl (fun _ => 0)), .inl (0, 8, .inl (fun _ => 0)), .inl (0, 8, .inl (fun _ => 0)), .inl (1, 8, .inl (fun _ => 0)), .inl (0, 8, .inl (fun _ => 0)), .inl (0, 8, .inl (fun _ => 0)), .inl (0, 8, .inl (fun _ => 0)), .inr (6, [.ref 23, .int 0]), .inl (2, 400, .inl (fun _ => 0)), .inr (5, [.ref 25, .int 0, .int 0, .ref 26, .int 0, .int 0]), .inl (0, 400, .inl (fun _ => 0)), .inr (7, [.ref 27, .ref 28, .int 0, .ref 23, .int 0, .int 0]), .inl (0, 401, .inl (fun _ => 0)), .inl (0, 401, .inl (fun _ => 0)), .inr (4, [.ref 30, .ref 31, .ref 32, .int 0]), .inl (0, 2400, .inl (fun _ => 0)), .inl (0, 6, .inl (fun _ => 0)), .inl (0, 6, .inl (fun _ => 0)), .inr (3, [.int 0, .int 0, .ref 34, .ref 35, .int 0]), .inl (0, 8, .inl (fun _ => 0)), .inl (0, 20, .inl (fun _ => 0)), .inr (8, [.ref 1, .ref 37, .ref 38, .int 0]), .inl (0, S, .inl (fun _ => 0)), .inl (0, S, .inl (fun _ => 0)), .inr (2, [.ref 40, .int 0, .ref 1, .int z, .ref 41, .ref 42, .ref 43, .ref 44, .ref 45, .ref 46, .ref 47, .int 0, .int 0]), .inl (0, 4, .inl (fun _ => 0)), .inl (1, S, .inl (fun _ => 0)), .inl (1, S, .inl (fun _ => 0)), .inl (1, S, .inl (fun _ => 0)), .inl (0, S, .inl (fun _ => 0)), .inl (0, S, .inl (fun _ => 0)), .inl (0, (2 * S), .inl (fun _ => 0)), .inl (0, (2 * S), .inl (fun _ => 0)), .inl (0, S, .inl (fun _ => 0))] : ai_H) ++ (ah_m a b (fun j => if j < 64 then -1 else 0) (fun j => if j < 64 then -1 else 0) 0 0 ++ [.inl (3, 1, .inr (.inl (vp_updL (fun _ => 0) 0 ((0 : Int32).toInt64))))])) : ai_H).set 49 (.inr (10, [.ref 50, .int 0, .int (nI a), .int (nI b), .int 0, .int 0, .int 0, .int 0, .int 0, .int (-1), .int 0, .ref 51, .ref 52, .ref 53, .ref 54, .ref 55, .ref 56, .ref 57, .ref 58, .ref 59, .ref 60, .ref 61, .ref 62, .ref 63, .ref 64, .ref 65, .ref 66, .ref 67, .ref 68, .ref 69, .ref 70, .ref 71, .ref 72, .ref 73, .int 0, .int 0, .int 0, .int 0, .int 0, .int 0, .int 0, .int 0, .int 0, .int 0, .ref 74, .ref 75, .ref 76, .ref 77, .ref 78, .ref 79, .ref 80, .ref 81, .int 0, .ref 82, .ref 83, .ref 84]))) : ai_H).set 49 (.inr (10, [.ref 50, .int 0, .int (nI a), .int (nI b), .int 0, .int (xs 3), .int 0, .int 0, .int 0, .int (-1), .int 0, .ref 51, .ref 52, .ref 53, .ref 54, .ref 55, .ref 56, .ref 57, .ref 58, .ref 59, .ref 60, .ref 61, .ref 62, .ref 63, .ref 64, .ref 65, .ref 66, .ref 67, .ref 68, .ref 69, .ref 70, .ref 71, .ref 72, .ref 73, .int 0, .int 0, .int 0, .int 0, .int 0, .int 0, .int 0, .int 0, .int 0, .int 0, .ref 74, .ref 75, .ref 76, .ref 77, .ref 78, .ref 79, .ref 80, .ref 81, .int 0, .ref 82, .ref 83, .ref 84]))), true, 86, (((ns + 0) + 0) + 0))) rfl ?_
  refine go_if_eq (t := 371) rfl (fun q1 => ?_) (fun q1 => absurd (lg_self _) q1)
  refine go_n 1 (fr' := (1174, [(0, .ref 1000000), (1, .ref 0), (2, .ref 49), (3, .ref 85), (4, .int 2), (5, .int 0), (6, .int 0)], [], (((((([.inr (9, [.ref 1, .ref 13, .ref 22, .ref 24, .ref 29, .ref 33, .ref 36, .ref 39, .ref 48, .int 0, .int (-1), .int 0]), .inr (0, [.int z, .ref 2, .ref 3, .ref 4, .ref 5, .ref 6, .ref 7, .ref 8, .ref 9, .ref 10, .ref 11, .ref 12, .int (xs 3)]), .inl (0, S, .inl f1), .inl (0, S, .inl f2), .inl (0, 4 * S, .inl f3), .inl (0, S, .inl g1), .inl (0, S, .inl (fun _ => 0)), .inl (0, S, .inl (fun _ => 0)), .inl (0, S, .inl (fun _ => 0)), .inl (0, S, .inl (fun _ => 0)), .inl (0, S, .inl (fun _ => 0)), .inl (0, S, .inl g2), .inl (1, S, .inl (fun _ => 0)), .inr (1, [.ref 14, .ref 15, .ref 16, .ref 17, .ref 18, .ref 19, .ref 20, .ref 21, .int 0]), .inl (0, 8, .inl (fun _ => 0)), .inl (0, 8, .inl (fun _ => 0)), .inl (0, 8, .inl (fun _ => 0)), .inl (0, 8, .inl (fun _ => 0)), .inl (1, 8, .inl (fun _ => 0)), .inl (0, 8, .inl (fun _ => 0)), .inl (0, 8, .inl (fun _ => 0)), .inl (0, 8, .inl (fun _ => 0)), .inr (6, [.ref 23, .int 0]), .inl (2, 400, .inl (fun _ => 0)), .inr (5, [.ref 25, .int 0, .int 0, .ref 26, .int 0, .int 0]), .inl (0, 400, .inl (fun _ => 0)), .inr (7, [.ref 27, .ref 28, .int 0, .ref 23, .int 0, .int 0]), .inl (0, 401, .inl (fun _ => 0)), .inl (0, 401, .inl (fun _ => 0)), .inr (4, [.ref 30, .ref 31, .ref 32, .int 0]), .inl (0, 2400, .inl (fun _ => 0)), .inl (0, 6, .inl (fun _ => 0)), .inl (0, 6, .inl (fun _ => 0)), .inr (3, [.int 0, .int 0, .ref 34, .ref 35, .int 0]), .inl (0, 8, .inl (fun _ => 0)), .inl (0, 20, .inl (fun _ => 0)), .inr (8, [.ref 1, .ref 37, .ref 38, .int 0]), .inl (0, S, .inl (fun _ => 0)), .inl (0, S, .inl (fun _ => 0)), .inr (2, [.ref 40, .int 0, .ref 1, .int z, .ref 41, .ref 42, .ref 43, .ref 44, .ref 45, .ref 46, .ref 47, .int 0, .int 0]), .inl (0, 4, .inl (fun _ => 0)), .inl (1, S, .inl (fun _ => 0)), .inl (1, S, .inl (fun _ => 0)), .inl (1, S, .inl (fun _ => 0)), .inl (0, S, .inl (fun _ => 0)), .inl (0, S, .inl (fun _ => 0)), .inl (0, (2 * S), .inl (fun _ => 0)), .inl (0, (2 * S), .inl (fun _ => 0)), .inl (0, S, .inl (fun _ => 0))] : ai_H) ++ (ah_m a b (fun j => if j < 64 then -1 else 0) (fun j => if j < 64 then -1 else 0) 0 0 ++ [.inl (3, 1, .inr (.inl (vp_updL (fun _ => 0) 0 ((0 : Int32).toInt64))))])) : ai_H).set 49 (.inr (10, [.ref 50, .int 0, .int (nI a), .int (nI b), .int 0, .int 0, .int 0, .int 0, .int 0, .int (-1), .int 0, .ref 51, .ref 52, .ref 53, .ref 54, .ref 55, .ref 56, .ref 57, .ref 58, .ref 59, .ref 60, .ref 61, .ref 62, .ref 63, .ref 64, .ref 65, .ref 66, .ref 67, .ref 68, .ref 69, .ref 70, .ref 71, .ref 72, .ref 73, .int 0, .int 0, .int 0, .int 0, .int 0, .int 0, .int 0, .int 0, .int 0, .int 0, .ref 74, .ref 75, .ref 76, .ref 77, .ref 78, .ref 79, .ref 80, .ref 81, .int 0, .ref 82, .ref 83, .ref 84]))) : ai_H).set 49 (.inr (10, [.ref 50, .int 0, .int (nI a), .int (nI b), .int 0, .int (xs 3), .int 0, .int 0, .int 0, .int (-1), .int 0, .ref 51, .ref 52, .ref 53, .ref 54, .ref 55, .ref 56, .ref 57, .ref 58, .ref 59, .ref 60, .ref 61, .ref 62, .ref 63, .ref 64, .ref 65, .ref 66, .ref 67, .ref 68, .ref 69, .ref 70, .ref 71, .ref 72, .ref 73, .int 0, .int 0, .int 0, .int 0, .int 0, .int 0, .int 0, .int 0, .int 0, .int 0, .ref 74, .ref 75, .ref 76, .ref 77, .ref 78, .ref 79, .ref 80, .ref 81, .int 0, .ref 82, .ref 83, .ref 84]))), true, 86, (((ns + 0) + 0) + 0))) rfl ?_
  exact pl_end2
end
section
/-! light and breaks at ground -/
set_option maxRecDepth 10000 in
theorem pv_light_g {X : Nat × (Nat → Int32)} {S : Nat} {z : Int32} {f1 f2 f3 g1 g2 : Nat → Int32} {u : Int32} {R : List ai_C} {k : Int32} (hk : 0 ≤ k ∧ k < z) (hi : ai_in k S = true) (hs : g1 k.toNatClampNeg = -1) (d : Nat) : ai_Ev an_ms an_lk X 35 (d + 3) 32 [.ref 0, .int k] (ah_fw S z f1 f2 f3 g1 g2 u ++ R) true (.inl (some (.int (-1)), (ah_fw S z f1 f2 f3 g1 g2 u ++ R), true, 0, 0)) := by
  refine ev_of (M := an_X9_light) rfl (Nat.le_of_ble_eq_true rfl) ?_
  refine go_n 2 (fr' := (2, [(0, .ref 0), (1, .int k)], [.int k, .ref 0], (ah_fw S z f1 f2 f3 g1 g2 u ++ R), true, 0, 0)) rfl ?_
  refine go_call (q := 41) (M1 := an_X9_needCell) rfl rfl (by decide) rfl ⟨_, rfl⟩ trivial (pv_needCell hk d) ?_
  refine go_eq (fr' := (5, [(0, .ref 0), (1, .int k)], [], (ah_fw S z f1 f2 f3 g1 g2 u ++ R), true, 0, 0)) rfl ?_
  refine go_n 1 (fr' := (6, [(0, .ref 0), (1, .int k)], [.ref 0], (ah_fw S z f1 f2 f3 g1 g2 u ++ R), true, 0, 0)) rfl ?_
  refine go_get rfl rfl rfl rfl ?_
  refine go_get rfl rfl rfl rfl ?_
  refine go_n 1 (fr' := (13, [(0, .ref 0), (1, .int k)], [.int k, .ref 5], (ah_fw S z f1 f2 f3 g1 g2 u ++ R), true, 0, 0)) rfl ?_
  refine go_ial rfl (by decide) rfl hi ?_
  refine go_if_eq (t := 19) rfl (fun q1 => absurd q1 (by rw [hs]; decide)) (fun q1 => ?_)
  refine go_n 1 (fr' := (18, [(0, .ref 0), (1, .int k)], [.int (-1)], (ah_fw S z f1 f2 f3 g1 g2 u ++ R), true, 0, 0)) rfl ?_
  refine go_rt (i := .ireturn) (tg := []) rfl ?_
  rfl
set_option maxRecDepth 10000 in
theorem pl_light_g {X : Nat × (Nat → Int32)} {S : Nat} {z : Int32} {f1 f2 f3 g1 g2 : Nat → Int32} {u : Int32} {a b : Nat} {s1 s2 : Nat → Int32} {v t : Int32} {lo : Nat → Int64} {k : Int32} (hk : 0 ≤ k ∧ k < z) (hi : ai_in k S = true) (hs : g1 k.toNatClampNeg = -1) (d : Nat) : ai_Ev an_ms an_lk X 35 (d + 4) 87 [.ref 0, .int k, .ref 85] (ah_fw S z f1 f2 f3 g1 g2 u ++ (ah_m a b s1 s2 v t ++ [.inl (3, 1, .inr (.inl lo))])) true (.inl (some (.int 0), (((ah_fw S z f1 f2 f3 g1 g2 u ++ (ah_m a b s1 s2 v t ++ [.inl (3, 1, .inr (.inl lo))])) : ai_H).set 85 (.inl (3, 1, .inr (.inl (vp_updL lo 0 (((-1) : Int32).toInt64)))))), true, 0, 0)) := by
  refine ev_of (M := an_L_light) rfl (Nat.le_of_ble_eq_true rfl) ?_
  refine go_n 4 (fr' := (4, [(0, .ref 0), (1, .int k), (2, .ref 85)], [.int k, .ref 0, .int 0, .ref 85], (ah_fw S z f1 f2 f3 g1 g2 u ++ (ah_m a b s1 s2 v t ++ [.inl (3, 1, .inr (.inl lo))])), true, 0, 0)) rfl ?_
  refine go_call (q := 32) (M1 := an_X9_light) rfl rfl (by decide) rfl ⟨_, rfl⟩ trivial (pv_light_g hk hi hs d) ?_
  refine go_eq (fr' := (7, [(0, .ref 0), (1, .int k), (2, .ref 85)], [.int (-1), .int 0, .ref 85], (ah_fw S z f1 f2 f3 g1 g2 u ++ (ah_m a b s1 s2 v t ++ [.inl (3, 1, .inr (.inl lo))])), true, 0, 0)) rfl ?_
  refine go_n 4 (fr' := (16, [(0, .ref 0), (1, .int k), (2, .ref 85)], [.int 0], (((ah_fw S z f1 f2 f3 g1 g2 u ++ (ah_m a b s1 s2 v t ++ [.inl (3, 1, .inr (.inl lo))])) : ai_H).set 85 (.inl (3, 1, .inr (.inl (vp_updL lo 0 (((-1) : Int32).toInt64)))))), true, 0, 0)) rfl ?_
  refine go_rt (i := .ireturn) (tg := []) rfl ?_
  rfl
set_option maxRecDepth 10000 in
theorem pv_breaks_g {X : Nat × (Nat → Int32)} {S : Nat} {z : Int32} {f1 f2 f3 g1 g2 : Nat → Int32} {u : Int32} {R : List ai_C} {k : Int32} (hk : 0 ≤ k ∧ k < z) (hi : ai_in k S = true) (hs : g1 k.toNatClampNeg = -1) (d : Nat) : ai_Ev an_ms an_lk X 35 (d + 3) 38 [.ref 0, .int k] (ah_fw S z f1 f2 f3 g1 g2 u ++ R) true (.inl (some (.int (-1)), (ah_fw S z f1 f2 f3 g1 g2 u ++ R), true, 0, 0)) := by
  refine ev_of (M := an_X9_breaks) rfl (Nat.le_of_ble_eq_true rfl) ?_
  refine go_n 2 (fr' := (2, [(0, .ref 0), (1, .int k)], [.int k, .ref 0], (ah_fw S z f1 f2 f3 g1 g2 u ++ R), true, 0, 0)) rfl ?_
  refine go_call (q := 41) (M1 := an_X9_needCell) rfl rfl (by decide) rfl ⟨_, rfl⟩ trivial (pv_needCell hk d) ?_
  refine go_eq (fr' := (5, [(0, .ref 0), (1, .int k)], [], (ah_fw S z f1 f2 f3 g1 g2 u ++ R), true, 0, 0)) rfl ?_
  refine go_n 1 (fr' := (6, [(0, .ref 0), (1, .int k)], [.ref 0], (ah_fw S z f1 f2 f3 g1 g2 u ++ R), true, 0, 0)) rfl ?_
  refine go_get rfl rfl rfl rfl ?_
  refine go_get rfl rfl rfl rfl ?_
  refine go_n 1 (fr' := (13, [(0, .ref 0), (1, .int k)], [.int k, .ref 5], (ah_fw S z f1 f2 f3 g1 g2 u ++ R), true, 0, 0)) rfl ?_
  refine go_ial rfl (by decide) rfl hi ?_
  refine go_if_ne (t := 28) rfl (fun q1 => ?_) (fun q1 => absurd q1 (by rw [hs]; decide))
  refine go_n 1 (fr' := (29, [(0, .ref 0), (1, .int k)], [.int (-1)], (ah_fw S z f1 f2 f3 g1 g2 u ++ R), true, 0, 0)) rfl ?_
  refine go_rt (i := .ireturn) (tg := []) rfl ?_
  rfl
set_option maxRecDepth 10000 in
theorem pl_breaks_g {X : Nat × (Nat → Int32)} {S : Nat} {z : Int32} {f1 f2 f3 g1 g2 : Nat → Int32} {u : Int32} {a b : Nat} {s1 s2 : Nat → Int32} {v t : Int32} {lo : Nat → Int64} {k : Int32} (hk : 0 ≤ k ∧ k < z) (hi : ai_in k S = true) (hs : g1 k.toNatClampNeg = -1) (d : Nat) : ai_Ev an_ms an_lk X 35 (d + 4) 93 [.ref 0, .int k, .ref 85] (ah_fw S z f1 f2 f3 g1 g2 u ++ (ah_m a b s1 s2 v t ++ [.inl (3, 1, .inr (.inl lo))])) true (.inl (some (.int 0), (((ah_fw S z f1 f2 f3 g1 g2 u ++ (ah_m a b s1 s2 v t ++ [.inl (3, 1, .inr (.inl lo))])) : ai_H).set 85 (.inl (3, 1, .inr (.inl (vp_updL lo 0 (((-1) : Int32).toInt64)))))), true, 0, 0)) := by
  refine ev_of (M := an_L_breaks) rfl (Nat.le_of_ble_eq_true rfl) ?_
  refine go_n 4 (fr' := (4, [(0, .ref 0), (1, .int k), (2, .ref 85)], [.int k, .ref 0, .int 0, .ref 85], (ah_fw S z f1 f2 f3 g1 g2 u ++ (ah_m a b s1 s2 v t ++ [.inl (3, 1, .inr (.inl lo))])), true, 0, 0)) rfl ?_
  refine go_call (q := 38) (M1 := an_X9_breaks) rfl rfl (by decide) rfl ⟨_, rfl⟩ trivial (pv_breaks_g hk hi hs d) ?_
  refine go_eq (fr' := (7, [(0, .ref 0), (1, .int k), (2, .ref 85)], [.int (-1), .int 0, .ref 85], (ah_fw S z f1 f2 f3 g1 g2 u ++ (ah_m a b s1 s2 v t ++ [.inl (3, 1, .inr (.inl lo))])), true, 0, 0)) rfl ?_
  refine go_n 4 (fr' := (16, [(0, .ref 0), (1, .int k), (2, .ref 85)], [.int 0], (((ah_fw S z f1 f2 f3 g1 g2 u ++ (ah_m a b s1 s2 v t ++ [.inl (3, 1, .inr (.inl lo))])) : ai_H).set 85 (.inl (3, 1, .inr (.inl (vp_updL lo 0 (((-1) : Int32).toInt64)))))), true, 0, 0)) rfl ?_
  refine go_rt (i := .ireturn) (tg := []) rfl ?_
  rfl
set_option maxRecDepth 20000 in
theorem pm_light_g {X : Nat × (Nat → Int32)} {c0 c1 c2 c3 c4 c5 c6 c7 c8 c9 c10 c11 c12 c13 c14 c15 c16 c17 c18 c19 c20 c21 c22 c23 c24 c25 c26 c27 c28 c29 c30 c31 c32 c33 c34 c35 c36 c37 c38 c39 c40 c41 c42 c43 c44 c45 c46 c47 c48 : ai_C} {a b : Nat} {s1 s2 : Nat → Int32} {v t : Int32} {R : List ai_C} {ex : Bool} {k : Int32} (hk : 0 ≤ k ∧ k < nI a * nI b) (hi : ai_in k 64 = true) (hs : s1 k.toNatClampNeg = -1) (d : Nat) : ai_Ev an_ms an_lk X 35 (d + 2) 68 [.ref 49, .int k] ([c0, c1, c2, c3, c4, c5, c6, c7, c8, c9, c10, c11, c12, c13, c14, c15, c16, c17, c18, c19, c20, c21, c22, c23, c24, c25, c26, c27, c28, c29, c30, c31, c32, c33, c34, c35, c36, c37, c38, c39, c40, c41, c42, c43, c44, c45, c46, c47, c48] ++ (ah_m a b s1 s2 v t ++ R)) ex (.inl (some (.int (-1)), ([c0, c1, c2, c3, c4, c5, c6, c7, c8, c9, c10, c11, c12, c13, c14, c15, c16, c17, c18, c19, c20, c21, c22, c23, c24, c25, c26, c27, c28, c29, c30, c31, c32, c33, c34, c35, c36, c37, c38, c39, c40, c41, c42, c43, c44, c45, c46, c47, c48] ++ (ah_m a b s1 s2 v 0 ++ R)), ex, 0, 0)) := by
  refine ev_of (M := an_X10_light) rfl (Nat.le_of_ble_eq_true rfl) ?_
  refine go_n 2 (fr' := (2, [(0, .ref 49), (1, .int k)], [.int 0, .ref 49], ([c0, c1, c2, c3, c4, c5, c6, c7, c8, c9, c10, c11, c12, c13, c14, c15, c16, c17, c18, c19, c20, c21, c22, c23, c24, c25, c26, c27, c28, c29, c30, c31, c32, c33, c34, c35, c36, c37, c38, c39, c40, c41, c42, c43, c44, c45, c46, c47, c48] ++ (ah_m a b s1 s2 v t ++ R)), ex, 0, 0)) rfl ?_
  refine go_put rfl rfl rfl (Nat.le_of_ble_eq_true rfl) rfl ?_
  refine go_n 2 (fr' := (7, [(0, .ref 49), (1, .int k)], [.int k, .ref 49], ((([c0, c1, c2, c3, c4, c5, c6, c7, c8, c9, c10, c11, c12, c13, c14, c15, c16, c17, c18, c19, c20, c21, c22, c23, c24, c25, c26, c27, c28, c29, c30, c31, c32, c33, c34, c35, c36, c37, c38, c39, c40, c41, c42, c43, c44, c45, c46, c47, c48] ++ (ah_m a b s1 s2 v t ++ R)) : ai_H).set 49 (.inr (10, [.ref 50, .int 0, .int (nI a), .int (nI b), .int v, .int 0, .int 0, .int 0, .int 0, .int (-1), .int 0, .ref 51, .ref 52, .ref 53, .ref 54, .ref 55, .ref 56, .ref 57, .ref 58, .ref 59, .ref 60, .ref 61, .ref 62, .ref 63, .ref 64, .ref 65, .ref 66, .ref 67, .ref 68, .ref 69, .ref 70, .ref 71, .ref 72, .ref 73, .int 0, .int 0, .int 0, .int 0, .int 0, .int 0, .int 0, .int 0, .int 0, .int 0, .ref 74, .ref 75, .ref 76, .ref 77, .ref 78, .ref 79, .ref 80, .ref 81, .int 0, .ref 82, .ref 83, .ref 84]))), ex, 0, 0)) rfl ?_
  refine go_callS (q := 54) (M1 := an_X10_isCell) rfl rfl (by decide) rfl ⟨_, rfl⟩ trivial (pm_isCell hk d) ?_
  refine go_eq (fr' := (10, [(0, .ref 49), (1, .int k)], [.int 1], ([c0, c1, c2, c3, c4, c5, c6, c7, c8, c9, c10, c11, c12, c13, c14, c15, c16, c17, c18, c19, c20, c21, c22, c23, c24, c25, c26, c27, c28, c29, c30, c31, c32, c33, c34, c35, c36, c37, c38, c39, c40, c41, c42, c43, c44, c45, c46, c47, c48] ++ (ah_m a b s1 s2 v 0 ++ R)), ex, 0, 0)) rfl ?_
  refine go_n 2 (fr' := (19, [(0, .ref 49), (1, .int k)], [.ref 49], ([c0, c1, c2, c3, c4, c5, c6, c7, c8, c9, c10, c11, c12, c13, c14, c15, c16, c17, c18, c19, c20, c21, c22, c23, c24, c25, c26, c27, c28, c29, c30, c31, c32, c33, c34, c35, c36, c37, c38, c39, c40, c41, c42, c43, c44, c45, c46, c47, c48] ++ (ah_m a b s1 s2 v 0 ++ R)), ex, 0, 0)) rfl ?_
  refine go_get rfl rfl rfl rfl ?_
  refine go_n 1 (fr' := (23, [(0, .ref 49), (1, .int k)], [.int k, .ref 51], ([c0, c1, c2, c3, c4, c5, c6, c7, c8, c9, c10, c11, c12, c13, c14, c15, c16, c17, c18, c19, c20, c21, c22, c23, c24, c25, c26, c27, c28, c29, c30, c31, c32, c33, c34, c35, c36, c37, c38, c39, c40, c41, c42, c43, c44, c45, c46, c47, c48] ++ (ah_m a b s1 s2 v 0 ++ R)), ex, 0, 0)) rfl ?_
  refine go_ial rfl (by decide) rfl hi ?_
  refine go_if_eq (t := 29) rfl (fun q1 => absurd q1 (by rw [hs]; decide)) (fun q1 => ?_)
  refine go_n 1 (fr' := (28, [(0, .ref 49), (1, .int k)], [.int (-1)], ([c0, c1, c2, c3, c4, c5, c6, c7, c8, c9, c10, c11, c12, c13, c14, c15, c16, c17, c18, c19, c20, c21, c22, c23, c24, c25, c26, c27, c28, c29, c30, c31, c32, c33, c34, c35, c36, c37, c38, c39, c40, c41, c42, c43, c44, c45, c46, c47, c48] ++ (ah_m a b s1 s2 v 0 ++ R)), ex, 0, 0)) rfl ?_
  refine go_rt (i := .ireturn) (tg := []) rfl ?_
  rfl
set_option maxRecDepth 20000 in
theorem pm_breaks_g {X : Nat × (Nat → Int32)} {c0 c1 c2 c3 c4 c5 c6 c7 c8 c9 c10 c11 c12 c13 c14 c15 c16 c17 c18 c19 c20 c21 c22 c23 c24 c25 c26 c27 c28 c29 c30 c31 c32 c33 c34 c35 c36 c37 c38 c39 c40 c41 c42 c43 c44 c45 c46 c47 c48 : ai_C} {a b : Nat} {s1 s2 : Nat → Int32} {v t : Int32} {R : List ai_C} {ex : Bool} {k : Int32} (hk : 0 ≤ k ∧ k < nI a * nI b) (hi : ai_in k 64 = true) (hs : s1 k.toNatClampNeg = -1) (d : Nat) : ai_Ev an_ms an_lk X 35 (d + 2) 77 [.ref 49, .int k] ([c0, c1, c2, c3, c4, c5, c6, c7, c8, c9, c10, c11, c12, c13, c14, c15, c16, c17, c18, c19, c20, c21, c22, c23, c24, c25, c26, c27, c28, c29, c30, c31, c32, c33, c34, c35, c36, c37, c38, c39, c40, c41, c42, c43, c44, c45, c46, c47, c48] ++ (ah_m a b s1 s2 v t ++ R)) ex (.inl (some (.int (-1)), ([c0, c1, c2, c3, c4, c5, c6, c7, c8, c9, c10, c11, c12, c13, c14, c15, c16, c17, c18, c19, c20, c21, c22, c23, c24, c25, c26, c27, c28, c29, c30, c31, c32, c33, c34, c35, c36, c37, c38, c39, c40, c41, c42, c43, c44, c45, c46, c47, c48] ++ (ah_m a b s1 s2 v 0 ++ R)), ex, 0, 0)) := by
  refine ev_of (M := an_X10_breaks) rfl (Nat.le_of_ble_eq_true rfl) ?_
  refine go_n 2 (fr' := (2, [(0, .ref 49), (1, .int k)], [.int 0, .ref 49], ([c0, c1, c2, c3, c4, c5, c6, c7, c8, c9, c10, c11, c12, c13, c14, c15, c16, c17, c18, c19, c20, c21, c22, c23, c24, c25, c26, c27, c28, c29, c30, c31, c32, c33, c34, c35, c36, c37, c38, c39, c40, c41, c42, c43, c44, c45, c46, c47, c48] ++ (ah_m a b s1 s2 v t ++ R)), ex, 0, 0)) rfl ?_
  refine go_put rfl rfl rfl (Nat.le_of_ble_eq_true rfl) rfl ?_
  refine go_n 2 (fr' := (7, [(0, .ref 49), (1, .int k)], [.int k, .ref 49], ((([c0, c1, c2, c3, c4, c5, c6, c7, c8, c9, c10, c11, c12, c13, c14, c15, c16, c17, c18, c19, c20, c21, c22, c23, c24, c25, c26, c27, c28, c29, c30, c31, c32, c33, c34, c35, c36, c37, c38, c39, c40, c41, c42, c43, c44, c45, c46, c47, c48] ++ (ah_m a b s1 s2 v t ++ R)) : ai_H).set 49 (.inr (10, [.ref 50, .int 0, .int (nI a), .int (nI b), .int v, .int 0, .int 0, .int 0, .int 0, .int (-1), .int 0, .ref 51, .ref 52, .ref 53, .ref 54, .ref 55, .ref 56, .ref 57, .ref 58, .ref 59, .ref 60, .ref 61, .ref 62, .ref 63, .ref 64, .ref 65, .ref 66, .ref 67, .ref 68, .ref 69, .ref 70, .ref 71, .ref 72, .ref 73, .int 0, .int 0, .int 0, .int 0, .int 0, .int 0, .int 0, .int 0, .int 0, .int 0, .ref 74, .ref 75, .ref 76, .ref 77, .ref 78, .ref 79, .ref 80, .ref 81, .int 0, .ref 82, .ref 83, .ref 84]))), ex, 0, 0)) rfl ?_
  refine go_callS (q := 54) (M1 := an_X10_isCell) rfl rfl (by decide) rfl ⟨_, rfl⟩ trivial (pm_isCell hk d) ?_
  refine go_eq (fr' := (10, [(0, .ref 49), (1, .int k)], [.int 1], ([c0, c1, c2, c3, c4, c5, c6, c7, c8, c9, c10, c11, c12, c13, c14, c15, c16, c17, c18, c19, c20, c21, c22, c23, c24, c25, c26, c27, c28, c29, c30, c31, c32, c33, c34, c35, c36, c37, c38, c39, c40, c41, c42, c43, c44, c45, c46, c47, c48] ++ (ah_m a b s1 s2 v 0 ++ R)), ex, 0, 0)) rfl ?_
  refine go_n 2 (fr' := (19, [(0, .ref 49), (1, .int k)], [.ref 49], ([c0, c1, c2, c3, c4, c5, c6, c7, c8, c9, c10, c11, c12, c13, c14, c15, c16, c17, c18, c19, c20, c21, c22, c23, c24, c25, c26, c27, c28, c29, c30, c31, c32, c33, c34, c35, c36, c37, c38, c39, c40, c41, c42, c43, c44, c45, c46, c47, c48] ++ (ah_m a b s1 s2 v 0 ++ R)), ex, 0, 0)) rfl ?_
  refine go_get rfl rfl rfl rfl ?_
  refine go_n 1 (fr' := (23, [(0, .ref 49), (1, .int k)], [.int k, .ref 51], ([c0, c1, c2, c3, c4, c5, c6, c7, c8, c9, c10, c11, c12, c13, c14, c15, c16, c17, c18, c19, c20, c21, c22, c23, c24, c25, c26, c27, c28, c29, c30, c31, c32, c33, c34, c35, c36, c37, c38, c39, c40, c41, c42, c43, c44, c45, c46, c47, c48] ++ (ah_m a b s1 s2 v 0 ++ R)), ex, 0, 0)) rfl ?_
  refine go_ial rfl (by decide) rfl hi ?_
  refine go_if_ne (t := 35) rfl (fun q1 => ?_) (fun q1 => absurd q1 (by rw [hs]; decide))
  refine go_n 1 (fr' := (36, [(0, .ref 49), (1, .int k)], [.int (-1)], ([c0, c1, c2, c3, c4, c5, c6, c7, c8, c9, c10, c11, c12, c13, c14, c15, c16, c17, c18, c19, c20, c21, c22, c23, c24, c25, c26, c27, c28, c29, c30, c31, c32, c33, c34, c35, c36, c37, c38, c39, c40, c41, c42, c43, c44, c45, c46, c47, c48] ++ (ah_m a b s1 s2 v 0 ++ R)), ex, 0, 0)) rfl ?_
  refine go_rt (i := .ireturn) (tg := []) rfl ?_
  rfl
set_option maxRecDepth 20000 in
theorem pl_light_r {xs : Nat → Int32} {S : Nat} {z : Int32} {f1 f2 f3 g1 g2 : Nat → Int32} {a b : Nat} {ns : Nat} (hk : 0 ≤ xs 3 ∧ xs 3 < z) (hi : ai_in (xs 3) S = true) (hs : g1 (xs 3).toNatClampNeg = -1) (hm : 0 ≤ xs 3 ∧ xs 3 < nI a * nI b) (hj : ai_in (xs 3) 64 = true) (hr : (if (xs 3).toNatClampNeg < 64 then (-1 : Int32) else 0) = -1) : ag_Go (8, xs) 12 an_law (608, [(0, .ref 1000000), (1, .ref 0), (2, .ref 49), (3, .ref 85), (4, .int 2)], [], (ah_fw S z f1 f2 f3 g1 g2 0 ++ (ah_m a b (fun j => if j < 64 then -1 else 0) (fun j => if j < 64 then -1 else 0) 0 0 ++ [.inl (3, 1, .inr (.inl (fun _ => 0)))])), true, 86, ns) (.inl (some (.int 1), (ah_fw S z f1 f2 f3 g1 g2 0 ++ (ah_m a b (fun j => if j < 64 then -1 else 0) (fun j => if j < 64 then -1 else 0) 0 0 ++ [.inl (3, 1, .inr (.inl (vp_updL (fun _ => 0) 0 (((-1) : Int32).toInt64))))])), true, 86, (((ns + 0) + 0) + 0))) := by
  refine go_n 7 (fr' := (616, [(0, .ref 1000000), (1, .ref 0), (2, .ref 49), (3, .ref 85), (4, .int 2)], [.ref 85, .int (xs 3), .ref 0], (ah_fw S z f1 f2 f3 g1 g2 0 ++ (ah_m a b (fun j => if j < 64 then -1 else 0) (fun j => if j < 64 then -1 else 0) 0 0 ++ [.inl (3, 1, .inr (.inl (fun _ => 0)))])), true, 86, ns)) rfl ?_
  refine go_call (q := 87) (M1 := an_L_light) rfl rfl (by decide) rfl trivial trivial (pl_light_g hk hi hs 8) ?_
  refine go_eq (fr' := (619, [(0, .ref 1000000), (1, .ref 0), (2, .ref 49), (3, .ref 85), (4, .int 2)], [.int 0], (ah_fw S z f1 f2 f3 g1 g2 0 ++ (ah_m a b (fun j => if j < 64 then -1 else 0) (fun j => if j < 64 then -1 else 0) 0 0 ++ [.inl (3, 1, .inr (.inl (vp_updL (fun _ => 0) 0 (((-1) : Int32).toInt64))))])), true, 86, (ns + 0))) rfl ?_
  refine go_n 7 (fr' := (628, [(0, .ref 1000000), (1, .ref 0), (2, .ref 49), (3, .ref 85), (4, .int 2), (5, .int 0)], [.int (xs 3), .ref 49], (ah_fw S z f1 f2 f3 g1 g2 0 ++ (ah_m a b (fun j => if j < 64 then -1 else 0) (fun j => if j < 64 then -1 else 0) 0 0 ++ [.inl (3, 1, .inr (.inl (vp_updL (fun _ => 0) 0 (((-1) : Int32).toInt64))))])), true, 86, (ns + 0))) rfl ?_
  refine go_call (q := 68) (M1 := an_X10_light) rfl rfl (by decide) rfl ⟨_, rfl⟩ trivial (pm_light_g hm hj hr 10) ?_
  refine go_eq (fr' := (631, [(0, .ref 1000000), (1, .ref 0), (2, .ref 49), (3, .ref 85), (4, .int 2), (5, .int 0)], [.int (-1)], (ah_fw S z f1 f2 f3 g1 g2 0 ++ (ah_m a b (fun j => if j < 64 then -1 else 0) (fun j => if j < 64 then -1 else 0) 0 0 ++ [.inl (3, 1, .inr (.inl (vp_updL (fun _ => 0) 0 (((-1) : Int32).toInt64))))])), true, 86, ((ns + 0) + 0))) rfl ?_
  refine go_n 2 (fr' := (634, [(0, .ref 1000000), (1, .ref 0), (2, .ref 49), (3, .ref 85), (4, .int 2), (5, .int 0), (6, .int (-1))], [.ref 49], (ah_fw S z f1 f2 f3 g1 g2 0 ++ (ah_m a b (fun j => if j < 64 then -1 else 0) (fun j => if j < 64 then -1 else 0) 0 0 ++ [.inl (3, 1, .inr (.inl (vp_updL (fun _ => 0) 0 (((-1) : Int32).toInt64))))])), true, 86, ((ns + 0) + 0))) rfl ?_
  refine go_call (q := 52) (M1 := an_X10_thrown) rfl rfl (by decide) rfl ⟨_, rfl⟩ trivial (pm_thrownG rfl 11) ?_
  refine go_eq (fr' := (637, [(0, .ref 1000000), (1, .ref 0), (2, .ref 49), (3, .ref 85), (4, .int 2), (5, .int 0), (6, .int (-1))], [.int 0], (ah_fw S z f1 f2 f3 g1 g2 0 ++ (ah_m a b (fun j => if j < 64 then -1 else 0) (fun j => if j < 64 then -1 else 0) 0 0 ++ [.inl (3, 1, .inr (.inl (vp_updL (fun _ => 0) 0 (((-1) : Int32).toInt64))))])), true, 86, (((ns + 0) + 0) + 0))) rfl ?_
  refine go_n 10 (fr' := (656, [(0, .ref 1000000), (1, .ref 0), (2, .ref 49), (3, .ref 85), (4, .int 2), (5, .int 0), (6, .int (-1))], [.int (lg_cmp (((-1) : Int32).toInt64) (((-1) : Int32).toInt64))], (ah_fw S z f1 f2 f3 g1 g2 0 ++ (ah_m a b (fun j => if j < 64 then -1 else 0) (fun j => if j < 64 then -1 else 0) 0 0 ++ [.inl (3, 1, .inr (.inl (vp_updL (fun _ => 0) 0 (((-1) : Int32).toInt64))))])), true, 86, (((ns + 0) + 0) + 0))) rfl ?_
  refine go_if_eq (t := 661) rfl (fun q1 => ?_) (fun q1 => absurd (lg_self _) q1)
  refine go_n 1 (fr' := (1174, [(0, .ref 1000000), (1, .ref 0), (2, .ref 49), (3, .ref 85), (4, .int 2), (5, .int 0), (6, .int (-1))], [], (ah_fw S z f1 f2 f3 g1 g2 0 ++ (ah_m a b (fun j => if j < 64 then -1 else 0) (fun j => if j < 64 then -1 else 0) 0 0 ++ [.inl (3, 1, .inr (.inl (vp_updL (fun _ => 0) 0 (((-1) : Int32).toInt64))))])), true, 86, (((ns + 0) + 0) + 0))) rfl ?_
  exact pl_end2
set_option maxRecDepth 20000 in
theorem pl_breaks_r {xs : Nat → Int32} {S : Nat} {z : Int32} {f1 f2 f3 g1 g2 : Nat → Int32} {a b : Nat} {ns : Nat} (hk : 0 ≤ xs 3 ∧ xs 3 < z) (hi : ai_in (xs 3) S = true) (hs : g1 (xs 3).toNatClampNeg = -1) (hm : 0 ≤ xs 3 ∧ xs 3 < nI a * nI b) (hj : ai_in (xs 3) 64 = true) (hr : (if (xs 3).toNatClampNeg < 64 then (-1 : Int32) else 0) = -1) : ag_Go (8, xs) 12 an_law (1006, [(0, .ref 1000000), (1, .ref 0), (2, .ref 49), (3, .ref 85), (4, .int 2)], [], (ah_fw S z f1 f2 f3 g1 g2 0 ++ (ah_m a b (fun j => if j < 64 then -1 else 0) (fun j => if j < 64 then -1 else 0) 0 0 ++ [.inl (3, 1, .inr (.inl (fun _ => 0)))])), true, 86, ns) (.inl (some (.int 1), (ah_fw S z f1 f2 f3 g1 g2 0 ++ (ah_m a b (fun j => if j < 64 then -1 else 0) (fun j => if j < 64 then -1 else 0) 0 0 ++ [.inl (3, 1, .inr (.inl (vp_updL (fun _ => 0) 0 (((-1) : Int32).toInt64))))])), true, 86, (((ns + 0) + 0) + 0))) := by
  refine go_n 7 (fr' := (1014, [(0, .ref 1000000), (1, .ref 0), (2, .ref 49), (3, .ref 85), (4, .int 2)], [.ref 85, .int (xs 3), .ref 0], (ah_fw S z f1 f2 f3 g1 g2 0 ++ (ah_m a b (fun j => if j < 64 then -1 else 0) (fun j => if j < 64 then -1 else 0) 0 0 ++ [.inl (3, 1, .inr (.inl (fun _ => 0)))])), true, 86, ns)) rfl ?_
  refine go_call (q := 93) (M1 := an_L_breaks) rfl rfl (by decide) rfl trivial trivial (pl_breaks_g hk hi hs 8) ?_
  refine go_eq (fr' := (1017, [(0, .ref 1000000), (1, .ref 0), (2, .ref 49), (3, .ref 85), (4, .int 2)], [.int 0], (ah_fw S z f1 f2 f3 g1 g2 0 ++ (ah_m a b (fun j => if j < 64 then -1 else 0) (fun j => if j < 64 then -1 else 0) 0 0 ++ [.inl (3, 1, .inr (.inl (vp_updL (fun _ => 0) 0 (((-1) : Int32).toInt64))))])), true, 86, (ns + 0))) rfl ?_
  refine go_n 7 (fr' := (1026, [(0, .ref 1000000), (1, .ref 0), (2, .ref 49), (3, .ref 85), (4, .int 2), (5, .int 0)], [.int (xs 3), .ref 49], (ah_fw S z f1 f2 f3 g1 g2 0 ++ (ah_m a b (fun j => if j < 64 then -1 else 0) (fun j => if j < 64 then -1 else 0) 0 0 ++ [.inl (3, 1, .inr (.inl (vp_updL (fun _ => 0) 0 (((-1) : Int32).toInt64))))])), true, 86, (ns + 0))) rfl ?_
  refine go_call (q := 77) (M1 := an_X10_breaks) rfl rfl (by decide) rfl ⟨_, rfl⟩ trivial (pm_breaks_g hm hj hr 10) ?_
  refine go_eq (fr' := (1029, [(0, .ref 1000000), (1, .ref 0), (2, .ref 49), (3, .ref 85), (4, .int 2), (5, .int 0)], [.int (-1)], (ah_fw S z f1 f2 f3 g1 g2 0 ++ (ah_m a b (fun j => if j < 64 then -1 else 0) (fun j => if j < 64 then -1 else 0) 0 0 ++ [.inl (3, 1, .inr (.inl (vp_updL (fun _ => 0) 0 (((-1) : Int32).toInt64))))])), true, 86, ((ns + 0) + 0))) rfl ?_
  refine go_n 2 (fr' := (1032, [(0, .ref 1000000), (1, .ref 0), (2, .ref 49), (3, .ref 85), (4, .int 2), (5, .int 0), (6, .int (-1))], [.ref 49], (ah_fw S z f1 f2 f3 g1 g2 0 ++ (ah_m a b (fun j => if j < 64 then -1 else 0) (fun j => if j < 64 then -1 else 0) 0 0 ++ [.inl (3, 1, .inr (.inl (vp_updL (fun _ => 0) 0 (((-1) : Int32).toInt64))))])), true, 86, ((ns + 0) + 0))) rfl ?_
  refine go_call (q := 52) (M1 := an_X10_thrown) rfl rfl (by decide) rfl ⟨_, rfl⟩ trivial (pm_thrownG rfl 11) ?_
  refine go_eq (fr' := (1035, [(0, .ref 1000000), (1, .ref 0), (2, .ref 49), (3, .ref 85), (4, .int 2), (5, .int 0), (6, .int (-1))], [.int 0], (ah_fw S z f1 f2 f3 g1 g2 0 ++ (ah_m a b (fun j => if j < 64 then -1 else 0) (fun j => if j < 64 then -1 else 0) 0 0 ++ [.inl (3, 1, .inr (.inl (vp_updL (fun _ => 0) 0 (((-1) : Int32).toInt64))))])), true, 86, (((ns + 0) + 0) + 0))) rfl ?_
  refine go_n 10 (fr' := (1054, [(0, .ref 1000000), (1, .ref 0), (2, .ref 49), (3, .ref 85), (4, .int 2), (5, .int 0), (6, .int (-1))], [.int (lg_cmp (((-1) : Int32).toInt64) (((-1) : Int32).toInt64))], (ah_fw S z f1 f2 f3 g1 g2 0 ++ (ah_m a b (fun j => if j < 64 then -1 else 0) (fun j => if j < 64 then -1 else 0) 0 0 ++ [.inl (3, 1, .inr (.inl (vp_updL (fun _ => 0) 0 (((-1) : Int32).toInt64))))])), true, 86, (((ns + 0) + 0) + 0))) rfl ?_
  refine go_if_eq (t := 1059) rfl (fun q1 => ?_) (fun q1 => absurd (lg_self _) q1)
  refine go_n 1 (fr' := (1174, [(0, .ref 1000000), (1, .ref 0), (2, .ref 49), (3, .ref 85), (4, .int 2), (5, .int 0), (6, .int (-1))], [], (ah_fw S z f1 f2 f3 g1 g2 0 ++ (ah_m a b (fun j => if j < 64 then -1 else 0) (fun j => if j < 64 then -1 else 0) 0 0 ++ [.inl (3, 1, .inr (.inl (vp_updL (fun _ => 0) 0 (((-1) : Int32).toInt64))))])), true, 86, (((ns + 0) + 0) + 0))) rfl ?_
  exact pl_end2
end
section
/-! a script too short for a call -/
theorem pl_small : ∀ n, n < 8 → nI n - 6 < 2 := by decide
set_option maxRecDepth 20000 in
theorem pl_short {xs : Nat → Int32} {L : Nat} (hL : L < 8) {h : ai_H} {ex : Bool} {nc ns : Nat} : ag_Go (L, xs) 12 an_law (43, [(0, .ref 1000000), (1, .ref 0), (2, .ref 49), (3, .ref 85), (4, .int 2)], [], h, ex, nc, ns) (.inl (some (.int 1), h, ex, nc, ns)) := by
  refine go_n 5 (fr' := (50, [(0, .ref 1000000), (1, .ref 0), (2, .ref 49), (3, .ref 85), (4, .int 2)], [.int (nI L - 6), .int 2], h, ex, nc, ns)) rfl ?_
  refine go_ic_gt (t := 1180) rfl (fun _ => ?_) (fun q => absurd (pl_small L hL) q)
  refine go_n 1 (fr' := (1181, [(0, .ref 1000000), (1, .ref 0), (2, .ref 49), (3, .ref 85), (4, .int 2)], [.int 1], h, ex, nc, ns)) rfl ?_
  exact go_rt (i := .ireturn) (tg := []) rfl rfl
end
