section
-- ===== PART A: goes FIRST, ahead of the names: the tables' words, and 'selects' of the private methods out of them =====
/-- a private method of a class that the tables say can be made, by its rows of tables_1 -/
def lw_okq (q : MethodName × Nat) : Prop := (q.1.cls ≠ "java/lang/invoke/MethodHandle" ∧ q.1.cls ≠ "java/lang/invoke/VarHandle") ∧ Cond.instantiable q.1.cls q.2 ∈ tables_1 ∧ Cond.privateMethod q.1 ∈ tables_1 ∧ Cond.instanceMethod q.1 ∈ tables_1
theorem lw_p0 : lw_okq (⟨"JoinGrants$History", "dropOldest", "()V"⟩, 2) := ⟨⟨by decide +kernel, by decide +kernel⟩, List.mem_of_getElem? (i := 116) (by decide +kernel), List.mem_of_getElem? (i := 215) (by decide +kernel), List.mem_of_getElem? (i := 216) (by decide +kernel)⟩
theorem lw_p1 : lw_okq (⟨"JoinGrants$Plan", "computedNeed", "()I"⟩, 5) := ⟨⟨by decide +kernel, by decide +kernel⟩, List.mem_of_getElem? (i := 40) (by decide +kernel), List.mem_of_getElem? (i := 247) (by decide +kernel), List.mem_of_getElem? (i := 248) (by decide +kernel)⟩
theorem lw_p2 : lw_okq (⟨"JoinGrants$Plan", "computedWant", "()I"⟩, 5) := ⟨⟨by decide +kernel, by decide +kernel⟩, List.mem_of_getElem? (i := 40) (by decide +kernel), List.mem_of_getElem? (i := 254) (by decide +kernel), List.mem_of_getElem? (i := 255) (by decide +kernel)⟩
theorem lw_p3 : lw_okq (⟨"JoinGrants$Pool", "firstInQueue", "()LJoinGrants$Join;"⟩, 7) := ⟨⟨by decide +kernel, by decide +kernel⟩, List.mem_of_getElem? (i := 18) (by decide +kernel), List.mem_of_getElem? (i := 265) (by decide +kernel), List.mem_of_getElem? (i := 266) (by decide +kernel)⟩
theorem lw_p4 : lw_okq (⟨"JoinGrants$Pool", "isAhead", "(LJoinGrants$Join;LJoinGrants$Join;)Z"⟩, 7) := ⟨⟨by decide +kernel, by decide +kernel⟩, List.mem_of_getElem? (i := 18) (by decide +kernel), List.mem_of_getElem? (i := 273) (by decide +kernel), List.mem_of_getElem? (i := 274) (by decide +kernel)⟩
theorem lw_p5 : lw_okq (⟨"JoinGrants$Pool", "start", "(LJoinGrants$Join;)Z"⟩, 7) := ⟨⟨by decide +kernel, by decide +kernel⟩, List.mem_of_getElem? (i := 18) (by decide +kernel), List.mem_of_getElem? (i := 289) (by decide +kernel), List.mem_of_getElem? (i := 290) (by decide +kernel)⟩
theorem lw_p6 : lw_okq (⟨"JoinGrants$Pool", "free", "()I"⟩, 7) := ⟨⟨by decide +kernel, by decide +kernel⟩, List.mem_of_getElem? (i := 18) (by decide +kernel), List.mem_of_getElem? (i := 293) (by decide +kernel), List.mem_of_getElem? (i := 294) (by decide +kernel)⟩
theorem lw_p7 : lw_okq (⟨"JoinGrants$Pool", "granted", "()I"⟩, 7) := ⟨⟨by decide +kernel, by decide +kernel⟩, List.mem_of_getElem? (i := 18) (by decide +kernel), List.mem_of_getElem? (i := 297) (by decide +kernel), List.mem_of_getElem? (i := 298) (by decide +kernel)⟩
theorem lw_p8 : lw_okq (⟨"JoinGrants$Pool", "canAskBack", "(I)Z"⟩, 7) := ⟨⟨by decide +kernel, by decide +kernel⟩, List.mem_of_getElem? (i := 18) (by decide +kernel), List.mem_of_getElem? (i := 321) (by decide +kernel), List.mem_of_getElem? (i := 322) (by decide +kernel)⟩
theorem lw_p9 : lw_okq (⟨"JoinGrants$Pool", "askBack", "(I)V"⟩, 7) := ⟨⟨by decide +kernel, by decide +kernel⟩, List.mem_of_getElem? (i := 18) (by decide +kernel), List.mem_of_getElem? (i := 333) (by decide +kernel), List.mem_of_getElem? (i := 334) (by decide +kernel)⟩
theorem lw_p10 : lw_okq (⟨"JoinGrants$Pool", "richest", "()LJoinGrants$Join;"⟩, 7) := ⟨⟨by decide +kernel, by decide +kernel⟩, List.mem_of_getElem? (i := 18) (by decide +kernel), List.mem_of_getElem? (i := 337) (by decide +kernel), List.mem_of_getElem? (i := 338) (by decide +kernel)⟩
theorem lw_p11 : lw_okq (⟨"JoinGrants$JoinText", "takes", "(C)Z"⟩, 10) := ⟨⟨by decide +kernel, by decide +kernel⟩, List.mem_of_getElem? (i := 132) (by decide +kernel), List.mem_of_getElem? (i := 353) (by decide +kernel), List.mem_of_getElem? (i := 354) (by decide +kernel)⟩
theorem lw_p12 : lw_okq (⟨"JoinGrants$JoinText", "takesWay", "(C)Z"⟩, 10) := ⟨⟨by decide +kernel, by decide +kernel⟩, List.mem_of_getElem? (i := 132) (by decide +kernel), List.mem_of_getElem? (i := 357) (by decide +kernel), List.mem_of_getElem? (i := 358) (by decide +kernel)⟩
theorem lw_p13 : lw_okq (⟨"JoinGrants$JoinText", "takesDigit", "(I)Z"⟩, 10) := ⟨⟨by decide +kernel, by decide +kernel⟩, List.mem_of_getElem? (i := 132) (by decide +kernel), List.mem_of_getElem? (i := 361) (by decide +kernel), List.mem_of_getElem? (i := 362) (by decide +kernel)⟩
theorem lw_p14 : lw_okq (⟨"JoinGrants$JoinText", "endJoin", "()V"⟩, 10) := ⟨⟨by decide +kernel, by decide +kernel⟩, List.mem_of_getElem? (i := 132) (by decide +kernel), List.mem_of_getElem? (i := 365) (by decide +kernel), List.mem_of_getElem? (i := 366) (by decide +kernel)⟩
theorem lw_p15 : lw_okq (⟨"JoinGrants$Pool", "rankOf", "(LJoinGrants$Join;)I"⟩, 7) := ⟨⟨by decide +kernel, by decide +kernel⟩, List.mem_of_getElem? (i := 18) (by decide +kernel), List.mem_of_getElem? (i := 529) (by decide +kernel), List.mem_of_getElem? (i := 530) (by decide +kernel)⟩
def lw_privs_1 : List (MethodName × Nat) := [(⟨"JoinGrants$History", "dropOldest", "()V"⟩, 2), (⟨"JoinGrants$Plan", "computedNeed", "()I"⟩, 5), (⟨"JoinGrants$Plan", "computedWant", "()I"⟩, 5), (⟨"JoinGrants$Pool", "firstInQueue", "()LJoinGrants$Join;"⟩, 7), (⟨"JoinGrants$Pool", "isAhead", "(LJoinGrants$Join;LJoinGrants$Join;)Z"⟩, 7), (⟨"JoinGrants$Pool", "start", "(LJoinGrants$Join;)Z"⟩, 7), (⟨"JoinGrants$Pool", "free", "()I"⟩, 7), (⟨"JoinGrants$Pool", "granted", "()I"⟩, 7), (⟨"JoinGrants$Pool", "canAskBack", "(I)Z"⟩, 7), (⟨"JoinGrants$Pool", "askBack", "(I)V"⟩, 7), (⟨"JoinGrants$Pool", "richest", "()LJoinGrants$Join;"⟩, 7), (⟨"JoinGrants$JoinText", "takes", "(C)Z"⟩, 10), (⟨"JoinGrants$JoinText", "takesWay", "(C)Z"⟩, 10), (⟨"JoinGrants$JoinText", "takesDigit", "(I)Z"⟩, 10), (⟨"JoinGrants$JoinText", "endJoin", "()V"⟩, 10), (⟨"JoinGrants$Pool", "rankOf", "(LJoinGrants$Join;)I"⟩, 7)]
theorem lw_r1 : ∀ q ∈ lw_privs_1, lw_okq q := List.forall_mem_cons.mpr ⟨lw_p0, List.forall_mem_cons.mpr ⟨lw_p1, List.forall_mem_cons.mpr ⟨lw_p2, List.forall_mem_cons.mpr ⟨lw_p3, List.forall_mem_cons.mpr ⟨lw_p4, List.forall_mem_cons.mpr ⟨lw_p5, List.forall_mem_cons.mpr ⟨lw_p6, List.forall_mem_cons.mpr ⟨lw_p7, List.forall_mem_cons.mpr ⟨lw_p8, List.forall_mem_cons.mpr ⟨lw_p9, List.forall_mem_cons.mpr ⟨lw_p10, List.forall_mem_cons.mpr ⟨lw_p11, List.forall_mem_cons.mpr ⟨lw_p12, List.forall_mem_cons.mpr ⟨lw_p13, List.forall_mem_cons.mpr ⟨lw_p14, List.forall_mem_cons.mpr ⟨lw_p15, fun _ h => absurd h List.not_mem_nil⟩⟩⟩⟩⟩⟩⟩⟩⟩⟩⟩⟩⟩⟩⟩⟩
theorem lw_p16 : lw_okq (⟨"JoinGrants$Pool", "spilling", "()I"⟩, 7) := ⟨⟨by decide +kernel, by decide +kernel⟩, List.mem_of_getElem? (i := 18) (by decide +kernel), List.mem_of_getElem? (i := 571) (by decide +kernel), List.mem_of_getElem? (i := 572) (by decide +kernel)⟩
theorem lw_p17 : lw_okq (⟨"JoinGrantsModel", "remember", "()V"⟩, 13) := ⟨⟨by decide +kernel, by decide +kernel⟩, List.mem_of_getElem? (i := 581) (by decide +kernel), List.mem_of_getElem? (i := 639) (by decide +kernel), List.mem_of_getElem? (i := 640) (by decide +kernel)⟩
theorem lw_p18 : lw_okq (⟨"JoinGrantsModel", "comes", "(III)V"⟩, 13) := ⟨⟨by decide +kernel, by decide +kernel⟩, List.mem_of_getElem? (i := 581) (by decide +kernel), List.mem_of_getElem? (i := 646) (by decide +kernel), List.mem_of_getElem? (i := 647) (by decide +kernel)⟩
theorem lw_p19 : lw_okq (⟨"JoinGrantsModel", "sets", "(III)V"⟩, 13) := ⟨⟨by decide +kernel, by decide +kernel⟩, List.mem_of_getElem? (i := 581) (by decide +kernel), List.mem_of_getElem? (i := 650) (by decide +kernel), List.mem_of_getElem? (i := 651) (by decide +kernel)⟩
theorem lw_p20 : lw_okq (⟨"JoinGrantsModel", "goesThrough", "()V"⟩, 13) := ⟨⟨by decide +kernel, by decide +kernel⟩, List.mem_of_getElem? (i := 581) (by decide +kernel), List.mem_of_getElem? (i := 654) (by decide +kernel), List.mem_of_getElem? (i := 655) (by decide +kernel)⟩
theorem lw_p21 : lw_okq (⟨"JoinGrantsModel", "ranked", "(I)I"⟩, 13) := ⟨⟨by decide +kernel, by decide +kernel⟩, List.mem_of_getElem? (i := 581) (by decide +kernel), List.mem_of_getElem? (i := 658) (by decide +kernel), List.mem_of_getElem? (i := 659) (by decide +kernel)⟩
theorem lw_p22 : lw_okq (⟨"JoinGrantsModel", "is", "(II)Z"⟩, 13) := ⟨⟨by decide +kernel, by decide +kernel⟩, List.mem_of_getElem? (i := 581) (by decide +kernel), List.mem_of_getElem? (i := 662) (by decide +kernel), List.mem_of_getElem? (i := 663) (by decide +kernel)⟩
theorem lw_p23 : lw_okq (⟨"JoinGrantsModel", "of", "(II)I"⟩, 13) := ⟨⟨by decide +kernel, by decide +kernel⟩, List.mem_of_getElem? (i := 581) (by decide +kernel), List.mem_of_getElem? (i := 666) (by decide +kernel), List.mem_of_getElem? (i := 667) (by decide +kernel)⟩
theorem lw_p24 : lw_okq (⟨"JoinGrantsModel", "rankOf", "(I)I"⟩, 13) := ⟨⟨by decide +kernel, by decide +kernel⟩, List.mem_of_getElem? (i := 581) (by decide +kernel), List.mem_of_getElem? (i := 670) (by decide +kernel), List.mem_of_getElem? (i := 671) (by decide +kernel)⟩
theorem lw_p25 : lw_okq (⟨"JoinGrantsModel", "isAhead", "(II)Z"⟩, 13) := ⟨⟨by decide +kernel, by decide +kernel⟩, List.mem_of_getElem? (i := 581) (by decide +kernel), List.mem_of_getElem? (i := 674) (by decide +kernel), List.mem_of_getElem? (i := 675) (by decide +kernel)⟩
theorem lw_p26 : lw_okq (⟨"JoinGrantsModel", "needs", "(I)I"⟩, 13) := ⟨⟨by decide +kernel, by decide +kernel⟩, List.mem_of_getElem? (i := 581) (by decide +kernel), List.mem_of_getElem? (i := 678) (by decide +kernel), List.mem_of_getElem? (i := 679) (by decide +kernel)⟩
theorem lw_p27 : lw_okq (⟨"JoinGrantsModel", "starts", "(I)Z"⟩, 13) := ⟨⟨by decide +kernel, by decide +kernel⟩, List.mem_of_getElem? (i := 581) (by decide +kernel), List.mem_of_getElem? (i := 688) (by decide +kernel), List.mem_of_getElem? (i := 689) (by decide +kernel)⟩
theorem lw_p28 : lw_okq (⟨"JoinGrantsModel", "free", "()I"⟩, 13) := ⟨⟨by decide +kernel, by decide +kernel⟩, List.mem_of_getElem? (i := 581) (by decide +kernel), List.mem_of_getElem? (i := 692) (by decide +kernel), List.mem_of_getElem? (i := 693) (by decide +kernel)⟩
theorem lw_p29 : lw_okq (⟨"JoinGrantsModel", "granted", "()I"⟩, 13) := ⟨⟨by decide +kernel, by decide +kernel⟩, List.mem_of_getElem? (i := 581) (by decide +kernel), List.mem_of_getElem? (i := 696) (by decide +kernel), List.mem_of_getElem? (i := 697) (by decide +kernel)⟩
theorem lw_p30 : lw_okq (⟨"JoinGrantsModel", "wants", "(I)I"⟩, 13) := ⟨⟨by decide +kernel, by decide +kernel⟩, List.mem_of_getElem? (i := 581) (by decide +kernel), List.mem_of_getElem? (i := 700) (by decide +kernel), List.mem_of_getElem? (i := 701) (by decide +kernel)⟩
theorem lw_p31 : lw_okq (⟨"JoinGrantsModel", "spares", "()I"⟩, 13) := ⟨⟨by decide +kernel, by decide +kernel⟩, List.mem_of_getElem? (i := 581) (by decide +kernel), List.mem_of_getElem? (i := 707) (by decide +kernel), List.mem_of_getElem? (i := 708) (by decide +kernel)⟩
def lw_privs_2 : List (MethodName × Nat) := [(⟨"JoinGrants$Pool", "spilling", "()I"⟩, 7), (⟨"JoinGrantsModel", "remember", "()V"⟩, 13), (⟨"JoinGrantsModel", "comes", "(III)V"⟩, 13), (⟨"JoinGrantsModel", "sets", "(III)V"⟩, 13), (⟨"JoinGrantsModel", "goesThrough", "()V"⟩, 13), (⟨"JoinGrantsModel", "ranked", "(I)I"⟩, 13), (⟨"JoinGrantsModel", "is", "(II)Z"⟩, 13), (⟨"JoinGrantsModel", "of", "(II)I"⟩, 13), (⟨"JoinGrantsModel", "rankOf", "(I)I"⟩, 13), (⟨"JoinGrantsModel", "isAhead", "(II)Z"⟩, 13), (⟨"JoinGrantsModel", "needs", "(I)I"⟩, 13), (⟨"JoinGrantsModel", "starts", "(I)Z"⟩, 13), (⟨"JoinGrantsModel", "free", "()I"⟩, 13), (⟨"JoinGrantsModel", "granted", "()I"⟩, 13), (⟨"JoinGrantsModel", "wants", "(I)I"⟩, 13), (⟨"JoinGrantsModel", "spares", "()I"⟩, 13)]
theorem lw_r2 : ∀ q ∈ lw_privs_2, lw_okq q := List.forall_mem_cons.mpr ⟨lw_p16, List.forall_mem_cons.mpr ⟨lw_p17, List.forall_mem_cons.mpr ⟨lw_p18, List.forall_mem_cons.mpr ⟨lw_p19, List.forall_mem_cons.mpr ⟨lw_p20, List.forall_mem_cons.mpr ⟨lw_p21, List.forall_mem_cons.mpr ⟨lw_p22, List.forall_mem_cons.mpr ⟨lw_p23, List.forall_mem_cons.mpr ⟨lw_p24, List.forall_mem_cons.mpr ⟨lw_p25, List.forall_mem_cons.mpr ⟨lw_p26, List.forall_mem_cons.mpr ⟨lw_p27, List.forall_mem_cons.mpr ⟨lw_p28, List.forall_mem_cons.mpr ⟨lw_p29, List.forall_mem_cons.mpr ⟨lw_p30, List.forall_mem_cons.mpr ⟨lw_p31, fun _ h => absurd h List.not_mem_nil⟩⟩⟩⟩⟩⟩⟩⟩⟩⟩⟩⟩⟩⟩⟩⟩
theorem lw_p32 : lw_okq (⟨"JoinGrantsModel", "extra", "(I)I"⟩, 13) := ⟨⟨by decide +kernel, by decide +kernel⟩, List.mem_of_getElem? (i := 581) (by decide +kernel), List.mem_of_getElem? (i := 711) (by decide +kernel), List.mem_of_getElem? (i := 712) (by decide +kernel)⟩
theorem lw_p33 : lw_okq (⟨"JoinGrantsModel", "asksBack", "(I)V"⟩, 13) := ⟨⟨by decide +kernel, by decide +kernel⟩, List.mem_of_getElem? (i := 581) (by decide +kernel), List.mem_of_getElem? (i := 715) (by decide +kernel), List.mem_of_getElem? (i := 716) (by decide +kernel)⟩
theorem lw_p34 : lw_okq (⟨"JoinGrantsModel", "givesBack", "(II)V"⟩, 13) := ⟨⟨by decide +kernel, by decide +kernel⟩, List.mem_of_getElem? (i := 581) (by decide +kernel), List.mem_of_getElem? (i := 719) (by decide +kernel), List.mem_of_getElem? (i := 720) (by decide +kernel)⟩
theorem lw_p35 : lw_okq (⟨"JoinGrantsModel", "works", "(II)I"⟩, 13) := ⟨⟨by decide +kernel, by decide +kernel⟩, List.mem_of_getElem? (i := 581) (by decide +kernel), List.mem_of_getElem? (i := 723) (by decide +kernel), List.mem_of_getElem? (i := 724) (by decide +kernel)⟩
theorem lw_p36 : lw_okq (⟨"JoinGrantsModel", "acted", "(I)I"⟩, 13) := ⟨⟨by decide +kernel, by decide +kernel⟩, List.mem_of_getElem? (i := 581) (by decide +kernel), List.mem_of_getElem? (i := 733) (by decide +kernel), List.mem_of_getElem? (i := 734) (by decide +kernel)⟩
theorem lw_p37 : lw_okq (⟨"JoinGrantsModel", "isJoin", "(I)Z"⟩, 13) := ⟨⟨by decide +kernel, by decide +kernel⟩, List.mem_of_getElem? (i := 581) (by decide +kernel), List.mem_of_getElem? (i := 741) (by decide +kernel), List.mem_of_getElem? (i := 742) (by decide +kernel)⟩
theorem lw_p38 : lw_okq (⟨"JoinGrantsModel", "ends", "(II)V"⟩, 13) := ⟨⟨by decide +kernel, by decide +kernel⟩, List.mem_of_getElem? (i := 581) (by decide +kernel), List.mem_of_getElem? (i := 745) (by decide +kernel), List.mem_of_getElem? (i := 746) (by decide +kernel)⟩
theorem lw_p39 : lw_okq (⟨"JoinGrantsModel", "steps", "()I"⟩, 13) := ⟨⟨by decide +kernel, by decide +kernel⟩, List.mem_of_getElem? (i := 581) (by decide +kernel), List.mem_of_getElem? (i := 758) (by decide +kernel), List.mem_of_getElem? (i := 759) (by decide +kernel)⟩
theorem lw_p40 : lw_okq (⟨"JoinGrantsModel", "fault", "()I"⟩, 13) := ⟨⟨by decide +kernel, by decide +kernel⟩, List.mem_of_getElem? (i := 581) (by decide +kernel), List.mem_of_getElem? (i := 784) (by decide +kernel), List.mem_of_getElem? (i := 785) (by decide +kernel)⟩
theorem lw_p41 : lw_okq (⟨"JoinGrantsModel", "readsJoin", "()Z"⟩, 13) := ⟨⟨by decide +kernel, by decide +kernel⟩, List.mem_of_getElem? (i := 581) (by decide +kernel), List.mem_of_getElem? (i := 788) (by decide +kernel), List.mem_of_getElem? (i := 789) (by decide +kernel)⟩
theorem lw_p42 : lw_okq (⟨"JoinGrantsModel", "takes", "(I)Z"⟩, 13) := ⟨⟨by decide +kernel, by decide +kernel⟩, List.mem_of_getElem? (i := 581) (by decide +kernel), List.mem_of_getElem? (i := 792) (by decide +kernel), List.mem_of_getElem? (i := 793) (by decide +kernel)⟩
theorem lw_p43 : lw_okq (⟨"JoinGrantsModel", "isHere", "(II)Z"⟩, 13) := ⟨⟨by decide +kernel, by decide +kernel⟩, List.mem_of_getElem? (i := 581) (by decide +kernel), List.mem_of_getElem? (i := 796) (by decide +kernel), List.mem_of_getElem? (i := 797) (by decide +kernel)⟩
theorem lw_p44 : lw_okq (⟨"JoinGrantsModel", "readsNumber", "()Z"⟩, 13) := ⟨⟨by decide +kernel, by decide +kernel⟩, List.mem_of_getElem? (i := 581) (by decide +kernel), List.mem_of_getElem? (i := 800) (by decide +kernel), List.mem_of_getElem? (i := 801) (by decide +kernel)⟩
theorem lw_p45 : lw_okq (⟨"JoinGrantsModel", "spills", "(I)Z"⟩, 13) := ⟨⟨by decide +kernel, by decide +kernel⟩, List.mem_of_getElem? (i := 581) (by decide +kernel), List.mem_of_getElem? (i := 820) (by decide +kernel), List.mem_of_getElem? (i := 821) (by decide +kernel)⟩
theorem lw_p46 : lw_okq (⟨"JoinGrantsModel", "manyWith", "(I)I"⟩, 13) := ⟨⟨by decide +kernel, by decide +kernel⟩, List.mem_of_getElem? (i := 581) (by decide +kernel), List.mem_of_getElem? (i := 850) (by decide +kernel), List.mem_of_getElem? (i := 851) (by decide +kernel)⟩
theorem lw_p47 : lw_okq (⟨"JoinGrantsModel", "spilling", "()I"⟩, 13) := ⟨⟨by decide +kernel, by decide +kernel⟩, List.mem_of_getElem? (i := 581) (by decide +kernel), List.mem_of_getElem? (i := 858) (by decide +kernel), List.mem_of_getElem? (i := 859) (by decide +kernel)⟩
def lw_privs_3 : List (MethodName × Nat) := [(⟨"JoinGrantsModel", "extra", "(I)I"⟩, 13), (⟨"JoinGrantsModel", "asksBack", "(I)V"⟩, 13), (⟨"JoinGrantsModel", "givesBack", "(II)V"⟩, 13), (⟨"JoinGrantsModel", "works", "(II)I"⟩, 13), (⟨"JoinGrantsModel", "acted", "(I)I"⟩, 13), (⟨"JoinGrantsModel", "isJoin", "(I)Z"⟩, 13), (⟨"JoinGrantsModel", "ends", "(II)V"⟩, 13), (⟨"JoinGrantsModel", "steps", "()I"⟩, 13), (⟨"JoinGrantsModel", "fault", "()I"⟩, 13), (⟨"JoinGrantsModel", "readsJoin", "()Z"⟩, 13), (⟨"JoinGrantsModel", "takes", "(I)Z"⟩, 13), (⟨"JoinGrantsModel", "isHere", "(II)Z"⟩, 13), (⟨"JoinGrantsModel", "readsNumber", "()Z"⟩, 13), (⟨"JoinGrantsModel", "spills", "(I)Z"⟩, 13), (⟨"JoinGrantsModel", "manyWith", "(I)I"⟩, 13), (⟨"JoinGrantsModel", "spilling", "()I"⟩, 13)]
theorem lw_r3 : ∀ q ∈ lw_privs_3, lw_okq q := List.forall_mem_cons.mpr ⟨lw_p32, List.forall_mem_cons.mpr ⟨lw_p33, List.forall_mem_cons.mpr ⟨lw_p34, List.forall_mem_cons.mpr ⟨lw_p35, List.forall_mem_cons.mpr ⟨lw_p36, List.forall_mem_cons.mpr ⟨lw_p37, List.forall_mem_cons.mpr ⟨lw_p38, List.forall_mem_cons.mpr ⟨lw_p39, List.forall_mem_cons.mpr ⟨lw_p40, List.forall_mem_cons.mpr ⟨lw_p41, List.forall_mem_cons.mpr ⟨lw_p42, List.forall_mem_cons.mpr ⟨lw_p43, List.forall_mem_cons.mpr ⟨lw_p44, List.forall_mem_cons.mpr ⟨lw_p45, List.forall_mem_cons.mpr ⟨lw_p46, List.forall_mem_cons.mpr ⟨lw_p47, fun _ h => absurd h List.not_mem_nil⟩⟩⟩⟩⟩⟩⟩⟩⟩⟩⟩⟩⟩⟩⟩⟩
def lw_privs : List (MethodName × Nat) := lw_privs_1 ++ (lw_privs_2 ++ (lw_privs_3))
def lw_tbl : List Cond := k2_sels lw_privs ++ tables_1
theorem lw_privs_ok : ∀ q ∈ lw_privs, lw_okq q := by
  show ∀ q ∈ lw_privs_1 ++ (lw_privs_2 ++ (lw_privs_3)), lw_okq q
  exact List.forall_mem_append.mpr ⟨lw_r1, List.forall_mem_append.mpr ⟨lw_r2, lw_r3⟩⟩
-- ===== end of PART A; then your names; then what follows =====
end
section
/-! ===== BEGIN words of one list among another's, by their places ===== -/
theorem goodIn_r {big : List Cond} (ws : List Cond) (ps : List Nat) (hp : ws = ps.filterMap (fun i => big[i]?)) (h : ws.all goodWord = true) : GoodIn big ws := by
  intro w hw
  have h1 := List.all_eq_true.mp h w hw
  rw [hp] at hw
  obtain ⟨i, -, hi⟩ := List.mem_filterMap.mp hw
  have hm : w ∈ big := by first | exact List.mem_of_getElem? hi | exact List.getElem?_mem hi
  exact ⟨hm, good_of_word h1⟩
theorem goodIn_app {big a b : List Cond} (ha : GoodIn big a) (hb : GoodIn big b) : GoodIn big (a ++ b) := fun w h => (List.mem_append.mp h).elim (ha w) (hb w)
theorem goodIn_ca {big a b : List Cond} {c : Cond} (ha : GoodIn big (c :: a)) (hb : GoodIn big b) : GoodIn big (c :: (a ++ b)) := fun w h => (List.mem_cons.mp h).elim (fun e => ha w (List.mem_cons.mpr (Or.inl e))) (fun h => (List.mem_append.mp h).elim (fun h => ha w (List.mem_cons.mpr (Or.inr h))) (hb w))
theorem goodIn_sub {big ws : List Cond} (hm : ∀ w ∈ ws, w ∈ big) (h : ws.all goodWord = true) : GoodIn big ws := fun w hw => ⟨hm w hw, good_of_word (List.all_eq_true.mp h w hw)⟩
/-! ===== END ===== -/

/-! ===== BEGIN printed: names, fields, word lists, decode rows ===== -/
def RX0 : String := "JoinGrants$History"
def TX0 : u_T := fun k => match k with
  | 0 => ("JoinGrants$History", "states", "[LJoinGrants$Pool;", true)
  | _ => ("JoinGrants$History", "size", "I", false)
def tyX0 : Nat → FieldType := fun k => match k with
  | 0 => .array (.object "JoinGrants$Pool")
  | _ => .int
abbrev wsX00 : List Cond := u_ws RX0 TX0 2
theorem nmX0 : ∀ a, a < 2 → ∀ b, b < 2 → a ≠ b → (TX0 a).2.1 ≠ (TX0 b).2.1 := by decide +kernel
theorem tyX0_ok : ∀ k, k < 2 → parseFieldDescriptor (TX0 k).2.2.1 = some (tyX0 k) := by decide +kernel
abbrev cX0_init : ByteArray := prog_2_method_1_code
def yX0_init : MethodName := ⟨RX0, "<init>", "()V"⟩
abbrev cX0_record : ByteArray := prog_2_method_2_code
def yX0_record : MethodName := ⟨RX0, "record", "(LJoinGrants$Pool;)V"⟩
abbrev cX0_dropOldest : ByteArray := prog_2_method_3_code
def yX0_dropOldest : MethodName := ⟨RX0, "dropOldest", "()V"⟩
abbrev cX0_takeBack : ByteArray := prog_2_method_4_code
def yX0_takeBack : MethodName := ⟨RX0, "takeBack", "(LJoinGrants$Pool;)Z"⟩
abbrev cX0_size : ByteArray := prog_2_method_5_code
def yX0_size : MethodName := ⟨RX0, "size", "()I"⟩
def RX1 : String := "JoinGrants$Join"
def TX1 : u_T := fun k => match k with
  | 0 => ("JoinGrants$Join", "number", "I", true)
  | 1 => ("JoinGrants$Join", "plan", "LJoinGrants$Plan;", true)
  | 2 => ("JoinGrants$Join", "state", "I", false)
  | 3 => ("JoinGrants$Join", "pages", "I", false)
  | 4 => ("JoinGrants$Join", "workLeft", "I", false)
  | 5 => ("JoinGrants$Join", "stepsWaited", "I", false)
  | 6 => ("JoinGrants$Join", "stepsWorked", "I", false)
  | _ => ("JoinGrants$Join", "givenBack", "I", false)
def tyX1 : Nat → FieldType := fun k => match k with
  | 0 => .int
  | 1 => .object "JoinGrants$Plan"
  | 2 => .int
  | 3 => .int
  | 4 => .int
  | 5 => .int
  | 6 => .int
  | _ => .int
abbrev wsX10 : List Cond := u_ws RX1 TX1 8
theorem nmX1 : ∀ a, a < 8 → ∀ b, b < 8 → a ≠ b → (TX1 a).2.1 ≠ (TX1 b).2.1 := by decide +kernel
theorem tyX1_ok : ∀ k, k < 8 → parseFieldDescriptor (TX1 k).2.2.1 = some (tyX1 k) := by decide +kernel
abbrev cX1_init : ByteArray := prog_3_method_1_code
def yX1_init : MethodName := ⟨RX1, "<init>", "(I)V"⟩
abbrev cX1_come : ByteArray := prog_3_method_2_code
def yX1_come : MethodName := ⟨RX1, "come", "(III)V"⟩
abbrev cX1_changeWay : ByteArray := prog_3_method_3_code
def yX1_changeWay : MethodName := ⟨RX1, "changeWay", "(I)V"⟩
abbrev cX1_start : ByteArray := prog_3_method_4_code
def yX1_start : MethodName := ⟨RX1, "start", "(I)V"⟩
abbrev cX1_end : ByteArray := prog_3_method_5_code
def yX1_end : MethodName := ⟨RX1, "end", "(I)V"⟩
abbrev cX1_giveBack : ByteArray := prog_3_method_6_code
def yX1_giveBack : MethodName := ⟨RX1, "giveBack", "(I)V"⟩
abbrev cX1_pass : ByteArray := prog_3_method_7_code
def yX1_pass : MethodName := ⟨RX1, "pass", "(II)I"⟩
abbrev cX1_stepsLeft : ByteArray := prog_3_method_8_code
def yX1_stepsLeft : MethodName := ⟨RX1, "stepsLeft", "(I)I"⟩
abbrev cX1_hasWorkedAll : ByteArray := prog_3_method_9_code
def yX1_hasWorkedAll : MethodName := ⟨RX1, "hasWorkedAll", "()Z"⟩
abbrev cX1_surplus : ByteArray := prog_3_method_10_code
def yX1_surplus : MethodName := ⟨RX1, "surplus", "()I"⟩
abbrev cX1_spills : ByteArray := prog_3_method_11_code
def yX1_spills : MethodName := ⟨RX1, "spills", "()Z"⟩
abbrev cX1_isIn : ByteArray := prog_3_method_12_code
def yX1_isIn : MethodName := ⟨RX1, "isIn", "(I)Z"⟩
abbrev cX1_number : ByteArray := prog_3_method_13_code
def yX1_number : MethodName := ⟨RX1, "number", "()I"⟩
abbrev cX1_way : ByteArray := prog_3_method_14_code
def yX1_way : MethodName := ⟨RX1, "way", "()I"⟩
abbrev cX1_need : ByteArray := prog_3_method_15_code
def yX1_need : MethodName := ⟨RX1, "need", "()I"⟩
abbrev cX1_want : ByteArray := prog_3_method_16_code
def yX1_want : MethodName := ⟨RX1, "want", "()I"⟩
abbrev cX1_pages : ByteArray := prog_3_method_17_code
def yX1_pages : MethodName := ⟨RX1, "pages", "()I"⟩
abbrev cX1_canTell : ByteArray := prog_3_method_18_code
def yX1_canTell : MethodName := ⟨RX1, "canTell", "(I)Z"⟩
abbrev cX1_tell : ByteArray := prog_3_method_19_code
def yX1_tell : MethodName := ⟨RX1, "tell", "(I)I"⟩
abbrev cX1_copyFrom : ByteArray := prog_3_method_20_code
def yX1_copyFrom : MethodName := ⟨RX1, "copyFrom", "(LJoinGrants$Join;)V"⟩
def RX2 : String := "JoinGrants$JoinText"
def TX2 : u_T := fun k => match k with
  | 0 => ("JoinGrants$JoinText", "characters", "[C", true)
  | 1 => ("JoinGrants$JoinText", "length", "I", false)
  | 2 => ("JoinGrants$JoinText", "ways", "[I", true)
  | 3 => ("JoinGrants$JoinText", "lefts", "[I", true)
  | 4 => ("JoinGrants$JoinText", "rights", "[I", true)
  | 5 => ("JoinGrants$JoinText", "joins", "I", false)
  | 6 => ("JoinGrants$JoinText", "place", "I", false)
  | 7 => ("JoinGrants$JoinText", "way", "I", false)
  | 8 => ("JoinGrants$JoinText", "left", "I", false)
  | _ => ("JoinGrants$JoinText", "number", "I", false)
def tyX2 : Nat → FieldType := fun k => match k with
  | 0 => .array .char
  | 1 => .int
  | 2 => .array .int
  | 3 => .array .int
  | 4 => .array .int
  | 5 => .int
  | 6 => .int
  | 7 => .int
  | 8 => .int
  | _ => .int
abbrev wsX20 : List Cond := u_ws RX2 TX2 10
theorem nmX2 : ∀ a, a < 10 → ∀ b, b < 10 → a ≠ b → (TX2 a).2.1 ≠ (TX2 b).2.1 := by decide +kernel
theorem tyX2_ok : ∀ k, k < 10 → parseFieldDescriptor (TX2 k).2.2.1 = some (tyX2 k) := by decide +kernel
abbrev cX2_init : ByteArray := prog_4_method_1_code
def yX2_init : MethodName := ⟨RX2, "<init>", "()V"⟩
abbrev cX2_append : ByteArray := prog_4_method_2_code
def yX2_append : MethodName := ⟨RX2, "append", "(C)Z"⟩
abbrev cX2_clear : ByteArray := prog_4_method_3_code
def yX2_clear : MethodName := ⟨RX2, "clear", "()V"⟩
abbrev cX2_length : ByteArray := prog_4_method_4_code
def yX2_length : MethodName := ⟨RX2, "length", "()I"⟩
abbrev cX2_read : ByteArray := prog_4_method_5_code
def yX2_read : MethodName := ⟨RX2, "read", "()I"⟩
abbrev cX2_takes : ByteArray := prog_4_method_6_code
def yX2_takes : MethodName := ⟨RX2, "takes", "(C)Z"⟩
abbrev cX2_takesWay : ByteArray := prog_4_method_7_code
def yX2_takesWay : MethodName := ⟨RX2, "takesWay", "(C)Z"⟩
abbrev cX2_takesDigit : ByteArray := prog_4_method_8_code
def yX2_takesDigit : MethodName := ⟨RX2, "takesDigit", "(I)Z"⟩
abbrev cX2_endJoin : ByteArray := prog_4_method_9_code
def yX2_endJoin : MethodName := ⟨RX2, "endJoin", "()V"⟩
abbrev cX2_joins : ByteArray := prog_4_method_10_code
def yX2_joins : MethodName := ⟨RX2, "joins", "()I"⟩
abbrev cX2_wayOf : ByteArray := prog_4_method_11_code
def yX2_wayOf : MethodName := ⟨RX2, "wayOf", "(I)I"⟩
abbrev cX2_leftOf : ByteArray := prog_4_method_12_code
def yX2_leftOf : MethodName := ⟨RX2, "leftOf", "(I)I"⟩
abbrev cX2_rightOf : ByteArray := prog_4_method_13_code
def yX2_rightOf : MethodName := ⟨RX2, "rightOf", "(I)I"⟩
def RX3 : String := "JoinGrants$Plan"
def TX3 : u_T := fun k => match k with
  | 0 => ("JoinGrants$Plan", "way", "I", false)
  | 1 => ("JoinGrants$Plan", "left", "I", false)
  | 2 => ("JoinGrants$Plan", "right", "I", false)
  | 3 => ("JoinGrants$Plan", "need", "I", false)
  | _ => ("JoinGrants$Plan", "want", "I", false)
def tyX3 : Nat → FieldType := fun k => match k with
  | 0 => .int
  | 1 => .int
  | 2 => .int
  | 3 => .int
  | _ => .int
abbrev wsX30 : List Cond := u_ws RX3 TX3 5
theorem nmX3 : ∀ a, a < 5 → ∀ b, b < 5 → a ≠ b → (TX3 a).2.1 ≠ (TX3 b).2.1 := by decide +kernel
theorem tyX3_ok : ∀ k, k < 5 → parseFieldDescriptor (TX3 k).2.2.1 = some (tyX3 k) := by decide +kernel
abbrev cX3_init : ByteArray := prog_5_method_1_code
def yX3_init : MethodName := ⟨RX3, "<init>", "()V"⟩
abbrev cX3_isWay : ByteArray := prog_5_method_2_code
def yX3_isWay : MethodName := ⟨RX3, "isWay", "(I)Z"⟩
abbrev cX3_fits : ByteArray := prog_5_method_3_code
def yX3_fits : MethodName := ⟨RX3, "fits", "(III)Z"⟩
abbrev cX3_isTable : ByteArray := prog_5_method_4_code
def yX3_isTable : MethodName := ⟨RX3, "isTable", "(I)Z"⟩
abbrev cX3_make : ByteArray := prog_5_method_5_code
def yX3_make : MethodName := ⟨RX3, "make", "(III)V"⟩
abbrev cX3_changeWay : ByteArray := prog_5_method_6_code
def yX3_changeWay : MethodName := ⟨RX3, "changeWay", "(I)V"⟩
abbrev cX3_computedNeed : ByteArray := prog_5_method_7_code
def yX3_computedNeed : MethodName := ⟨RX3, "computedNeed", "()I"⟩
abbrev cX3_computedWant : ByteArray := prog_5_method_8_code
def yX3_computedWant : MethodName := ⟨RX3, "computedWant", "()I"⟩
abbrev cX3_root : ByteArray := prog_5_method_9_code
def yX3_root : MethodName := ⟨RX3, "root", "(I)I"⟩
abbrev cX3_workWith : ByteArray := prog_5_method_10_code
def yX3_workWith : MethodName := ⟨RX3, "workWith", "(I)I"⟩
abbrev cX3_spillsWith : ByteArray := prog_5_method_11_code
def yX3_spillsWith : MethodName := ⟨RX3, "spillsWith", "(I)Z"⟩
abbrev cX3_copyFrom : ByteArray := prog_5_method_12_code
def yX3_copyFrom : MethodName := ⟨RX3, "copyFrom", "(LJoinGrants$Plan;)V"⟩
def RX4 : String := "JoinGrants$Pool"
def TX4 : u_T := fun k => match k with
  | 0 => ("JoinGrants$Pool", "settings", "[I", true)
  | 1 => ("JoinGrants$Pool", "joins", "[LJoinGrants$Join;", true)
  | 2 => ("JoinGrants$Pool", "joinsSoFar", "I", false)
  | 3 => ("JoinGrants$Pool", "mostGranted", "I", false)
  | 4 => ("JoinGrants$Pool", "steps", "I", false)
  | 5 => ("JoinGrants$Pool", "workDone", "I", false)
  | _ => ("JoinGrants$Pool", "askedBack", "I", false)
def tyX4 : Nat → FieldType := fun k => match k with
  | 0 => .array .int
  | 1 => .array (.object "JoinGrants$Join")
  | 2 => .int
  | 3 => .int
  | 4 => .int
  | 5 => .int
  | _ => .int
abbrev wsX40 : List Cond := u_ws RX4 TX4 7
theorem nmX4 : ∀ a, a < 7 → ∀ b, b < 7 → a ≠ b → (TX4 a).2.1 ≠ (TX4 b).2.1 := by decide +kernel
theorem tyX4_ok : ∀ k, k < 7 → parseFieldDescriptor (TX4 k).2.2.1 = some (tyX4 k) := by decide +kernel
abbrev cX4_init : ByteArray := prog_6_method_1_code
def yX4_init : MethodName := ⟨RX4, "<init>", "()V"⟩
abbrev cX4_allows : ByteArray := prog_6_method_2_code
def yX4_allows : MethodName := ⟨RX4, "allows", "(II)Z"⟩
abbrev cX4_setting : ByteArray := prog_6_method_3_code
def yX4_setting : MethodName := ⟨RX4, "setting", "(I)I"⟩
abbrev cX4_changeSetting : ByteArray := prog_6_method_4_code
def yX4_changeSetting : MethodName := ⟨RX4, "changeSetting", "(II)V"⟩
abbrev cX4_room : ByteArray := prog_6_method_5_code
def yX4_room : MethodName := ⟨RX4, "room", "()I"⟩
abbrev cX4_find : ByteArray := prog_6_method_6_code
def yX4_find : MethodName := ⟨RX4, "find", "(I)LJoinGrants$Join;"⟩
abbrev cX4_take : ByteArray := prog_6_method_7_code
def yX4_take : MethodName := ⟨RX4, "take", "(III)I"⟩
abbrev cX4_goThroughQueue : ByteArray := prog_6_method_8_code
def yX4_goThroughQueue : MethodName := ⟨RX4, "goThroughQueue", "()V"⟩
abbrev cX4_firstInQueue : ByteArray := prog_6_method_9_code
def yX4_firstInQueue : MethodName := ⟨RX4, "firstInQueue", "()LJoinGrants$Join;"⟩
abbrev cX4_start : ByteArray := prog_6_method_10_code
def yX4_start : MethodName := ⟨RX4, "start", "(LJoinGrants$Join;)Z"⟩
abbrev cX4_canAskBack : ByteArray := prog_6_method_11_code
def yX4_canAskBack : MethodName := ⟨RX4, "canAskBack", "(I)Z"⟩
abbrev cX4_askBack : ByteArray := prog_6_method_12_code
def yX4_askBack : MethodName := ⟨RX4, "askBack", "(I)V"⟩
abbrev cX4_richest : ByteArray := prog_6_method_13_code
def yX4_richest : MethodName := ⟨RX4, "richest", "()LJoinGrants$Join;"⟩
abbrev cX4_isAhead : ByteArray := prog_6_method_14_code
def yX4_isAhead : MethodName := ⟨RX4, "isAhead", "(LJoinGrants$Join;LJoinGrants$Join;)Z"⟩
abbrev cX4_rankOf : ByteArray := prog_6_method_15_code
def yX4_rankOf : MethodName := ⟨RX4, "rankOf", "(LJoinGrants$Join;)I"⟩
abbrev cX4_atRank : ByteArray := prog_6_method_16_code
def yX4_atRank : MethodName := ⟨RX4, "atRank", "(I)LJoinGrants$Join;"⟩
abbrev cX4_hindrance : ByteArray := prog_6_method_17_code
def yX4_hindrance : MethodName := ⟨RX4, "hindrance", "(LJoinGrants$Join;)I"⟩
abbrev cX4_leap : ByteArray := prog_6_method_18_code
def yX4_leap : MethodName := ⟨RX4, "leap", "(I)I"⟩
abbrev cX4_steps : ByteArray := prog_6_method_19_code
def yX4_steps : MethodName := ⟨RX4, "steps", "()I"⟩
abbrev cX4_granted : ByteArray := prog_6_method_20_code
def yX4_granted : MethodName := ⟨RX4, "granted", "()I"⟩
abbrev cX4_free : ByteArray := prog_6_method_21_code
def yX4_free : MethodName := ⟨RX4, "free", "()I"⟩
abbrev cX4_surplus : ByteArray := prog_6_method_22_code
def yX4_surplus : MethodName := ⟨RX4, "surplus", "()I"⟩
abbrev cX4_spilling : ByteArray := prog_6_method_23_code
def yX4_spilling : MethodName := ⟨RX4, "spilling", "()I"⟩
abbrev cX4_joinsIn : ByteArray := prog_6_method_24_code
def yX4_joinsIn : MethodName := ⟨RX4, "joinsIn", "(I)I"⟩
abbrev cX4_canTell : ByteArray := prog_6_method_25_code
def yX4_canTell : MethodName := ⟨RX4, "canTell", "(I)Z"⟩
abbrev cX4_tell : ByteArray := prog_6_method_26_code
def yX4_tell : MethodName := ⟨RX4, "tell", "(I)I"⟩
abbrev cX4_copyFrom : ByteArray := prog_6_method_27_code
def yX4_copyFrom : MethodName := ⟨RX4, "copyFrom", "(LJoinGrants$Pool;)V"⟩
def RX5 : String := "JoinGrants"
def TX5 : u_T := fun k => match k with
  | 0 => ("JoinGrants", "pool", "LJoinGrants$Pool;", true)
  | 1 => ("JoinGrants", "history", "LJoinGrants$History;", true)
  | 2 => ("JoinGrants", "text", "LJoinGrants$JoinText;", true)
  | 3 => ("JoinGrants", "snapshot", "LJoinGrants$Pool;", true)
  | 4 => ("JoinGrants", "snapshotTaken", "Z", false)
  | 5 => ("JoinGrants", "trialPool", "LJoinGrants$Pool;", true)
  | _ => ("JoinGrants", "trialPlan", "LJoinGrants$Plan;", true)
def tyX5 : Nat → FieldType := fun k => match k with
  | 0 => .object "JoinGrants$Pool"
  | 1 => .object "JoinGrants$History"
  | 2 => .object "JoinGrants$JoinText"
  | 3 => .object "JoinGrants$Pool"
  | 4 => .boolean
  | 5 => .object "JoinGrants$Pool"
  | _ => .object "JoinGrants$Plan"
abbrev wsX50 : List Cond := u_ws RX5 TX5 7
theorem nmX5 : ∀ a, a < 7 → ∀ b, b < 7 → a ≠ b → (TX5 a).2.1 ≠ (TX5 b).2.1 := by decide +kernel
theorem tyX5_ok : ∀ k, k < 7 → parseFieldDescriptor (TX5 k).2.2.1 = some (tyX5 k) := by decide +kernel
abbrev cX5_init : ByteArray := prog_1_method_1_code
def yX5_init : MethodName := ⟨RX5, "<init>", "()V"⟩
abbrev cX5_ask : ByteArray := prog_1_method_2_code
def yX5_ask : MethodName := ⟨RX5, "ask", "(III)I"⟩
abbrev cX5_askAll : ByteArray := prog_1_method_3_code
def yX5_askAll : MethodName := ⟨RX5, "askAll", "()I"⟩
abbrev cX5_cancel : ByteArray := prog_1_method_4_code
def yX5_cancel : MethodName := ⟨RX5, "cancel", "(I)I"⟩
abbrev cX5_change : ByteArray := prog_1_method_5_code
def yX5_change : MethodName := ⟨RX5, "change", "(II)I"⟩
abbrev cX5_step : ByteArray := prog_1_method_6_code
def yX5_step : MethodName := ⟨RX5, "step", "(I)I"⟩
abbrev cX5_set : ByteArray := prog_1_method_7_code
def yX5_set : MethodName := ⟨RX5, "set", "(II)I"⟩
abbrev cX5_type : ByteArray := prog_1_method_8_code
def yX5_type : MethodName := ⟨RX5, "type", "(C)I"⟩
abbrev cX5_clearText : ByteArray := prog_1_method_9_code
def yX5_clearText : MethodName := ⟨RX5, "clearText", "()I"⟩
abbrev cX5_undo : ByteArray := prog_1_method_10_code
def yX5_undo : MethodName := ⟨RX5, "undo", "()I"⟩
abbrev cX5_keep : ByteArray := prog_1_method_11_code
def yX5_keep : MethodName := ⟨RX5, "keep", "()I"⟩
abbrev cX5_restore : ByteArray := prog_1_method_12_code
def yX5_restore : MethodName := ⟨RX5, "restore", "()I"⟩
abbrev cX5_join : ByteArray := prog_1_method_13_code
def yX5_join : MethodName := ⟨RX5, "join", "(II)I"⟩
abbrev cX5_why : ByteArray := prog_1_method_14_code
def yX5_why : MethodName := ⟨RX5, "why", "(I)I"⟩
abbrev cX5_queue : ByteArray := prog_1_method_15_code
def yX5_queue : MethodName := ⟨RX5, "queue", "(I)I"⟩
abbrev cX5_work : ByteArray := prog_1_method_16_code
def yX5_work : MethodName := ⟨RX5, "work", "(IIII)I"⟩
abbrev cX5_bestWay : ByteArray := prog_1_method_17_code
def yX5_bestWay : MethodName := ⟨RX5, "bestWay", "(III)I"⟩
abbrev cX5_doneIn : ByteArray := prog_1_method_18_code
def yX5_doneIn : MethodName := ⟨RX5, "doneIn", "(I)I"⟩
abbrev cX5_count : ByteArray := prog_1_method_19_code
def yX5_count : MethodName := ⟨RX5, "count", "(I)I"⟩
abbrev cX5_spare : ByteArray := prog_1_method_20_code
def yX5_spare : MethodName := ⟨RX5, "spare", "()I"⟩
abbrev cX5_isPages : ByteArray := prog_1_method_21_code
def yX5_isPages : MethodName := ⟨RX5, "isPages", "(I)Z"⟩
def RX6 : String := "JoinGrantsModel"
def TX6 : u_T := fun k => match k with
  | 0 => ("JoinGrantsModel", "all", "[I", true)
  | 1 => ("JoinGrantsModel", "kept", "[I", true)
  | 2 => ("JoinGrantsModel", "tried", "[I", true)
  | 3 => ("JoinGrantsModel", "history", "[I", true)
  | 4 => ("JoinGrantsModel", "historyLong", "I", false)
  | 5 => ("JoinGrantsModel", "snapshot", "[I", true)
  | 6 => ("JoinGrantsModel", "isTaken", "I", false)
  | 7 => ("JoinGrantsModel", "text", "[I", true)
  | 8 => ("JoinGrantsModel", "textLong", "I", false)
  | 9 => ("JoinGrantsModel", "spot", "I", false)
  | 10 => ("JoinGrantsModel", "number", "I", false)
  | 11 => ("JoinGrantsModel", "read", "[I", true)
  | _ => ("JoinGrantsModel", "readMany", "I", false)
def tyX6 : Nat → FieldType := fun k => match k with
  | 0 => .array .int
  | 1 => .array .int
  | 2 => .array .int
  | 3 => .array .int
  | 4 => .int
  | 5 => .array .int
  | 6 => .int
  | 7 => .array .int
  | 8 => .int
  | 9 => .int
  | 10 => .int
  | 11 => .array .int
  | _ => .int
abbrev wsX60 : List Cond := u_ws RX6 TX6 13
theorem nmX6 : ∀ a, a < 13 → ∀ b, b < 13 → a ≠ b → (TX6 a).2.1 ≠ (TX6 b).2.1 := by decide +kernel
theorem tyX6_ok : ∀ k, k < 13 → parseFieldDescriptor (TX6 k).2.2.1 = some (tyX6 k) := by decide +kernel
abbrev cX6_init : ByteArray := prog_8_method_1_code
def yX6_init : MethodName := ⟨RX6, "<init>", "()V"⟩
abbrev cX6_in : ByteArray := prog_8_method_3_code
def yX6_in : MethodName := ⟨RX6, "in", "(JJJ)Z"⟩
abbrev cX6_copy : ByteArray := prog_8_method_4_code
def yX6_copy : MethodName := ⟨RX6, "copy", "([I[I)V"⟩
abbrev cX6_remember : ByteArray := prog_8_method_5_code
def yX6_remember : MethodName := ⟨RX6, "remember", "()V"⟩
abbrev cX6_acted : ByteArray := prog_8_method_6_code
def yX6_acted : MethodName := ⟨RX6, "acted", "(I)I"⟩
abbrev cX6_root : ByteArray := prog_8_method_7_code
def yX6_root : MethodName := ⟨RX6, "root", "(I)I"⟩
abbrev cX6_over : ByteArray := prog_8_method_8_code
def yX6_over : MethodName := ⟨RX6, "over", "(II)I"⟩
abbrev cX6_needsOf : ByteArray := prog_8_method_9_code
def yX6_needsOf : MethodName := ⟨RX6, "needsOf", "(III)I"⟩
abbrev cX6_wantsOf : ByteArray := prog_8_method_10_code
def yX6_wantsOf : MethodName := ⟨RX6, "wantsOf", "(III)I"⟩
abbrev cX6_workOf : ByteArray := prog_8_method_11_code
def yX6_workOf : MethodName := ⟨RX6, "workOf", "(IIII)I"⟩
abbrev cX6_of : ByteArray := prog_8_method_12_code
def yX6_of : MethodName := ⟨RX6, "of", "(II)I"⟩
abbrev cX6_sets : ByteArray := prog_8_method_13_code
def yX6_sets : MethodName := ⟨RX6, "sets", "(III)V"⟩
abbrev cX6_isJoin : ByteArray := prog_8_method_14_code
def yX6_isJoin : MethodName := ⟨RX6, "isJoin", "(I)Z"⟩
abbrev cX6_is : ByteArray := prog_8_method_15_code
def yX6_is : MethodName := ⟨RX6, "is", "(II)Z"⟩
abbrev cX6_needs : ByteArray := prog_8_method_16_code
def yX6_needs : MethodName := ⟨RX6, "needs", "(I)I"⟩
abbrev cX6_wants : ByteArray := prog_8_method_17_code
def yX6_wants : MethodName := ⟨RX6, "wants", "(I)I"⟩
abbrev cX6_works : ByteArray := prog_8_method_18_code
def yX6_works : MethodName := ⟨RX6, "works", "(II)I"⟩
abbrev cX6_granted : ByteArray := prog_8_method_19_code
def yX6_granted : MethodName := ⟨RX6, "granted", "()I"⟩
abbrev cX6_free : ByteArray := prog_8_method_20_code
def yX6_free : MethodName := ⟨RX6, "free", "()I"⟩
abbrev cX6_extra : ByteArray := prog_8_method_21_code
def yX6_extra : MethodName := ⟨RX6, "extra", "(I)I"⟩
abbrev cX6_spares : ByteArray := prog_8_method_22_code
def yX6_spares : MethodName := ⟨RX6, "spares", "()I"⟩
abbrev cX6_isAhead : ByteArray := prog_8_method_23_code
def yX6_isAhead : MethodName := ⟨RX6, "isAhead", "(II)Z"⟩
abbrev cX6_rankOf : ByteArray := prog_8_method_24_code
def yX6_rankOf : MethodName := ⟨RX6, "rankOf", "(I)I"⟩
abbrev cX6_ranked : ByteArray := prog_8_method_25_code
def yX6_ranked : MethodName := ⟨RX6, "ranked", "(I)I"⟩
abbrev cX6_givesBack : ByteArray := prog_8_method_26_code
def yX6_givesBack : MethodName := ⟨RX6, "givesBack", "(II)V"⟩
abbrev cX6_asksBack : ByteArray := prog_8_method_27_code
def yX6_asksBack : MethodName := ⟨RX6, "asksBack", "(I)V"⟩
abbrev cX6_starts : ByteArray := prog_8_method_28_code
def yX6_starts : MethodName := ⟨RX6, "starts", "(I)Z"⟩
abbrev cX6_goesThrough : ByteArray := prog_8_method_29_code
def yX6_goesThrough : MethodName := ⟨RX6, "goesThrough", "()V"⟩
abbrev cX6_ends : ByteArray := prog_8_method_30_code
def yX6_ends : MethodName := ⟨RX6, "ends", "(II)V"⟩
abbrev cX6_steps : ByteArray := prog_8_method_31_code
def yX6_steps : MethodName := ⟨RX6, "steps", "()I"⟩
abbrev cX6_isTable : ByteArray := prog_8_method_32_code
def yX6_isTable : MethodName := ⟨RX6, "isTable", "(I)Z"⟩
abbrev cX6_comes : ByteArray := prog_8_method_33_code
def yX6_comes : MethodName := ⟨RX6, "comes", "(III)V"⟩
abbrev cX6_ask : ByteArray := prog_8_method_34_code
def yX6_ask : MethodName := ⟨RX6, "ask", "(III)I"⟩
abbrev cX6_cancel : ByteArray := prog_8_method_35_code
def yX6_cancel : MethodName := ⟨RX6, "cancel", "(I)I"⟩
abbrev cX6_change : ByteArray := prog_8_method_36_code
def yX6_change : MethodName := ⟨RX6, "change", "(II)I"⟩
abbrev cX6_step : ByteArray := prog_8_method_37_code
def yX6_step : MethodName := ⟨RX6, "step", "(I)I"⟩
abbrev cX6_isSetting : ByteArray := prog_8_method_38_code
def yX6_isSetting : MethodName := ⟨RX6, "isSetting", "(II)Z"⟩
abbrev cX6_set : ByteArray := prog_8_method_39_code
def yX6_set : MethodName := ⟨RX6, "set", "(II)I"⟩
abbrev cX6_type : ByteArray := prog_8_method_40_code
def yX6_type : MethodName := ⟨RX6, "type", "(C)I"⟩
abbrev cX6_clearText : ByteArray := prog_8_method_41_code
def yX6_clearText : MethodName := ⟨RX6, "clearText", "()I"⟩
abbrev cX6_isHere : ByteArray := prog_8_method_42_code
def yX6_isHere : MethodName := ⟨RX6, "isHere", "(II)Z"⟩
abbrev cX6_takes : ByteArray := prog_8_method_43_code
def yX6_takes : MethodName := ⟨RX6, "takes", "(I)Z"⟩
abbrev cX6_readsNumber : ByteArray := prog_8_method_44_code
def yX6_readsNumber : MethodName := ⟨RX6, "readsNumber", "()Z"⟩
abbrev cX6_readsJoin : ByteArray := prog_8_method_45_code
def yX6_readsJoin : MethodName := ⟨RX6, "readsJoin", "()Z"⟩
abbrev cX6_fault : ByteArray := prog_8_method_46_code
def yX6_fault : MethodName := ⟨RX6, "fault", "()I"⟩
abbrev cX6_askAll : ByteArray := prog_8_method_47_code
def yX6_askAll : MethodName := ⟨RX6, "askAll", "()I"⟩
abbrev cX6_undo : ByteArray := prog_8_method_48_code
def yX6_undo : MethodName := ⟨RX6, "undo", "()I"⟩
abbrev cX6_keep : ByteArray := prog_8_method_49_code
def yX6_keep : MethodName := ⟨RX6, "keep", "()I"⟩
abbrev cX6_restore : ByteArray := prog_8_method_50_code
def yX6_restore : MethodName := ⟨RX6, "restore", "()I"⟩
abbrev cX6_spills : ByteArray := prog_8_method_51_code
def yX6_spills : MethodName := ⟨RX6, "spills", "(I)Z"⟩
abbrev cX6_join : ByteArray := prog_8_method_52_code
def yX6_join : MethodName := ⟨RX6, "join", "(II)I"⟩
abbrev cX6_why : ByteArray := prog_8_method_53_code
def yX6_why : MethodName := ⟨RX6, "why", "(I)I"⟩
abbrev cX6_queue : ByteArray := prog_8_method_54_code
def yX6_queue : MethodName := ⟨RX6, "queue", "(I)I"⟩
abbrev cX6_work : ByteArray := prog_8_method_55_code
def yX6_work : MethodName := ⟨RX6, "work", "(IIII)I"⟩
abbrev cX6_bestWay : ByteArray := prog_8_method_56_code
def yX6_bestWay : MethodName := ⟨RX6, "bestWay", "(III)I"⟩
abbrev cX6_doneIn : ByteArray := prog_8_method_57_code
def yX6_doneIn : MethodName := ⟨RX6, "doneIn", "(I)I"⟩
abbrev cX6_manyWith : ByteArray := prog_8_method_58_code
def yX6_manyWith : MethodName := ⟨RX6, "manyWith", "(I)I"⟩
abbrev cX6_spilling : ByteArray := prog_8_method_59_code
def yX6_spilling : MethodName := ⟨RX6, "spilling", "()I"⟩
abbrev cX6_count : ByteArray := prog_8_method_60_code
def yX6_count : MethodName := ⟨RX6, "count", "(I)I"⟩
abbrev cX6_spare : ByteArray := prog_8_method_61_code
def yX6_spare : MethodName := ⟨RX6, "spare", "()I"⟩
def RJx8e188 : String := "java/lang/Cloneable"
def TJx8e188 : u_T := fun k => match k with
  | _ => ("", "", "", false)
def tyJx8e188 : Nat → FieldType := fun k => match k with
  | _ => .int
abbrev wsJx8e1880 : List Cond := u_ws RJx8e188 TJx8e188 0
theorem nmJx8e188 : ∀ a, a < 0 → ∀ b, b < 0 → a ≠ b → (TJx8e188 a).2.1 ≠ (TJx8e188 b).2.1 := by decide +kernel
theorem tyJx8e188_ok : ∀ k, k < 0 → parseFieldDescriptor (TJx8e188 k).2.2.1 = some (tyJx8e188 k) := by decide +kernel
def RJ9 : String := "java/lang/Math"
def TJ9 : u_T := fun k => match k with
  | _ => ("", "", "", false)
def tyJ9 : Nat → FieldType := fun k => match k with
  | _ => .int
abbrev wsJ90 : List Cond := u_ws RJ9 TJ9 0
theorem nmJ9 : ∀ a, a < 0 → ∀ b, b < 0 → a ≠ b → (TJ9 a).2.1 ≠ (TJ9 b).2.1 := by decide +kernel
theorem tyJ9_ok : ∀ k, k < 0 → parseFieldDescriptor (TJ9 k).2.2.1 = some (tyJ9 k) := by decide +kernel
abbrev cJ9_max_7cf53 : ByteArray := prog_10_method_65_code
def yJ9_max_7cf53 : MethodName := ⟨RJ9, "max", "(II)I"⟩
abbrev cJ9_min_7cf53 : ByteArray := prog_10_method_69_code
def yJ9_min_7cf53 : MethodName := ⟨RJ9, "min", "(II)I"⟩
def RL : String := "JoinGrantsLaw"
abbrev cL_law : ByteArray := code
def yL_law : MethodName := ⟨RL, "law", "([I)Z"⟩
def wsX3_init : List Cond := .code yX3_init cX3_init 1 none :: ([.methodLink RX3 3 objectInit, .instanceMethod objectInit, .code objectInit ⟨#[0xb1]⟩ 1 none])
def wsX1_init : List Cond := .code yX1_init cX1_init 2 none :: ([.methodLink RX1 1 objectInit, .instanceMethod objectInit, .code objectInit ⟨#[0xb1]⟩ 1 none, .classLink RX1 7 RX3, .instantiable RX3 5, .initialized RX3, .fieldLink RX1 10 "JoinGrants$Join" "plan" "LJoinGrants$Plan;", .fieldLink RX1 16 "JoinGrants$Join" "state" "I", .fieldLink RX1 20 "JoinGrants$Join" "number" "I", .instanceMethod yX3_init, .code yX3_init cX3_init 1 none, .methodLink RX3 3 objectInit] ++ wsX30 ++ wsX10)
def wsX4_init_r1 : List Cond := [Cond.methodLink RX4 3 objectInit, Cond.instanceMethod objectInit, Cond.code objectInit ⟨#[0xb1]⟩ 1 none, Cond.fieldLink RX4 9 "JoinGrants$Pool" "FIRST" "[I", Cond.methodLink RX4 15 ⟨"[I", "clone", "()Ljava/lang/Object;"⟩, Cond.sameMethod "[I" "java/lang/Object" "clone" "()Ljava/lang/Object;", Cond.native ⟨"java/lang/Object", "clone", "()Ljava/lang/Object;"⟩, Cond.instanceMethod ⟨"java/lang/Object", "clone", "()Ljava/lang/Object;"⟩, Cond.selects "[I" ⟨"[I", "clone", "()Ljava/lang/Object;"⟩ ⟨"java/lang/Object", "clone", "()Ljava/lang/Object;"⟩, Cond.classLink RX4 16 "[I", Cond.fieldLink RX4 20 "JoinGrants$Pool" "settings" "[I", Cond.classLink RX4 23 RX1, Cond.fieldLink RX4 25 "JoinGrants$Pool" "joins" "[LJoinGrants$Join;", Cond.instantiable RX1 8, Cond.initialized RX1, Cond.methodLink RX4 29 yX1_init, Cond.instanceMethod yX1_init, Cond.code yX1_init cX1_init 2 none, Cond.methodLink RX1 1 objectInit, Cond.classLink RX1 7 RX3, Cond.instantiable RX3 5, Cond.initialized RX3, Cond.fieldLink RX1 10 "JoinGrants$Join" "plan" "LJoinGrants$Plan;", Cond.fieldLink RX1 16 "JoinGrants$Join" "state" "I"]
def wsX4_init_r2 : List Cond := [Cond.fieldLink RX1 20 "JoinGrants$Join" "number" "I", Cond.instanceMethod yX3_init, Cond.code yX3_init cX3_init 1 none, Cond.methodLink RX3 3 objectInit]
def wsX4_init : List Cond := .code yX4_init cX4_init 2 none :: ((wsX4_init_r1 ++ wsX4_init_r2) ++ wsX40 ++ wsX10 ++ wsX30)
def wsX0_init_r1 : List Cond := [Cond.methodLink RX0 1 objectInit, Cond.instanceMethod objectInit, Cond.code objectInit ⟨#[0xb1]⟩ 1 none, Cond.classLink RX0 9 RX4, Cond.fieldLink RX0 11 "JoinGrants$History" "states" "[LJoinGrants$Pool;", Cond.instantiable RX4 7, Cond.initialized RX4, Cond.methodLink RX0 15 yX4_init, Cond.instanceMethod yX4_init, Cond.code yX4_init cX4_init 2 none, Cond.methodLink RX4 3 objectInit, Cond.fieldLink RX4 9 "JoinGrants$Pool" "FIRST" "[I", Cond.methodLink RX4 15 ⟨"[I", "clone", "()Ljava/lang/Object;"⟩, Cond.sameMethod "[I" "java/lang/Object" "clone" "()Ljava/lang/Object;", Cond.native ⟨"java/lang/Object", "clone", "()Ljava/lang/Object;"⟩, Cond.instanceMethod ⟨"java/lang/Object", "clone", "()Ljava/lang/Object;"⟩, Cond.selects "[I" ⟨"[I", "clone", "()Ljava/lang/Object;"⟩ ⟨"java/lang/Object", "clone", "()Ljava/lang/Object;"⟩, Cond.classLink RX4 16 "[I", Cond.fieldLink RX4 20 "JoinGrants$Pool" "settings" "[I", Cond.classLink RX4 23 RX1, Cond.fieldLink RX4 25 "JoinGrants$Pool" "joins" "[LJoinGrants$Join;", Cond.instantiable RX1 8, Cond.initialized RX1, Cond.methodLink RX4 29 yX1_init]
def wsX0_init_r2 : List Cond := [Cond.instanceMethod yX1_init, Cond.code yX1_init cX1_init 2 none, Cond.methodLink RX1 1 objectInit, Cond.classLink RX1 7 RX3, Cond.instantiable RX3 5, Cond.initialized RX3, Cond.fieldLink RX1 10 "JoinGrants$Join" "plan" "LJoinGrants$Plan;", Cond.fieldLink RX1 16 "JoinGrants$Join" "state" "I", Cond.fieldLink RX1 20 "JoinGrants$Join" "number" "I", Cond.instanceMethod yX3_init, Cond.code yX3_init cX3_init 1 none, Cond.methodLink RX3 3 objectInit]
def wsX0_init : List Cond := .code yX0_init cX0_init 2 none :: ((wsX0_init_r1 ++ wsX0_init_r2) ++ wsX00 ++ wsX40 ++ wsX10 ++ wsX30)
def wsX0_dropOldest : List Cond := .code yX0_dropOldest cX0_dropOldest 3 none :: ([.fieldLink RX0 11 "JoinGrants$History" "states" "[LJoinGrants$Pool;", .fieldLink RX0 16 "JoinGrants$History" "size" "I"] ++ wsX00)
def wsX3_copyFrom : List Cond := .code yX3_copyFrom cX3_copyFrom 2 none :: ([.fieldLink RX3 29 "JoinGrants$Plan" "way" "I", .fieldLink RX3 18 "JoinGrants$Plan" "left" "I", .fieldLink RX3 22 "JoinGrants$Plan" "right" "I", .fieldLink RX3 36 "JoinGrants$Plan" "need" "I", .fieldLink RX3 48 "JoinGrants$Plan" "want" "I"] ++ wsX30)
def wsX1_copyFrom : List Cond := .code yX1_copyFrom cX1_copyFrom 2 none :: ([.fieldLink RX1 10 "JoinGrants$Join" "plan" "LJoinGrants$Plan;", .fieldLink RX1 16 "JoinGrants$Join" "state" "I", .fieldLink RX1 31 "JoinGrants$Join" "pages" "I", .fieldLink RX1 38 "JoinGrants$Join" "workLeft" "I", .fieldLink RX1 44 "JoinGrants$Join" "stepsWaited" "I", .fieldLink RX1 47 "JoinGrants$Join" "stepsWorked" "I", .fieldLink RX1 41 "JoinGrants$Join" "givenBack" "I", .methodLink RX1 79 yX3_copyFrom, .instanceMethod yX3_copyFrom, .selects RX3 yX3_copyFrom yX3_copyFrom, .initialized RX3, .code yX3_copyFrom cX3_copyFrom 2 none, .fieldLink RX3 29 "JoinGrants$Plan" "way" "I", .fieldLink RX3 18 "JoinGrants$Plan" "left" "I", .fieldLink RX3 22 "JoinGrants$Plan" "right" "I", .fieldLink RX3 36 "JoinGrants$Plan" "need" "I", .fieldLink RX3 48 "JoinGrants$Plan" "want" "I"] ++ wsX10 ++ wsX30)
def wsX4_copyFrom_r1 : List Cond := [Cond.fieldLink RX4 20 "JoinGrants$Pool" "settings" "[I", Cond.fieldLink RX4 25 "JoinGrants$Pool" "joins" "[LJoinGrants$Join;", Cond.fieldLink RX4 41 "JoinGrants$Pool" "joinsSoFar" "I", Cond.fieldLink RX4 92 "JoinGrants$Pool" "mostGranted" "I", Cond.fieldLink RX4 138 "JoinGrants$Pool" "steps" "I", Cond.fieldLink RX4 125 "JoinGrants$Pool" "workDone" "I", Cond.fieldLink RX4 115 "JoinGrants$Pool" "askedBack" "I", Cond.methodLink RX4 153 yX1_copyFrom, Cond.instanceMethod yX1_copyFrom, Cond.selects RX1 yX1_copyFrom yX1_copyFrom, Cond.initialized RX1, Cond.code yX1_copyFrom cX1_copyFrom 2 none, Cond.fieldLink RX1 10 "JoinGrants$Join" "plan" "LJoinGrants$Plan;", Cond.fieldLink RX1 16 "JoinGrants$Join" "state" "I", Cond.fieldLink RX1 31 "JoinGrants$Join" "pages" "I", Cond.fieldLink RX1 38 "JoinGrants$Join" "workLeft" "I", Cond.fieldLink RX1 44 "JoinGrants$Join" "stepsWaited" "I", Cond.fieldLink RX1 47 "JoinGrants$Join" "stepsWorked" "I", Cond.fieldLink RX1 41 "JoinGrants$Join" "givenBack" "I", Cond.methodLink RX1 79 yX3_copyFrom, Cond.instanceMethod yX3_copyFrom, Cond.selects RX3 yX3_copyFrom yX3_copyFrom, Cond.initialized RX3, Cond.code yX3_copyFrom cX3_copyFrom 2 none]
def wsX4_copyFrom_r2 : List Cond := [Cond.fieldLink RX3 29 "JoinGrants$Plan" "way" "I", Cond.fieldLink RX3 18 "JoinGrants$Plan" "left" "I", Cond.fieldLink RX3 22 "JoinGrants$Plan" "right" "I", Cond.fieldLink RX3 36 "JoinGrants$Plan" "need" "I", Cond.fieldLink RX3 48 "JoinGrants$Plan" "want" "I"]
def wsX4_copyFrom : List Cond := .code yX4_copyFrom cX4_copyFrom 3 none :: ((wsX4_copyFrom_r1 ++ wsX4_copyFrom_r2) ++ wsX40 ++ wsX10 ++ wsX30)
def wsX0_record_r1 : List Cond := [Cond.fieldLink RX0 16 "JoinGrants$History" "size" "I", Cond.fieldLink RX0 11 "JoinGrants$History" "states" "[LJoinGrants$Pool;", Cond.methodLink RX0 20 yX0_dropOldest, Cond.instanceMethod yX0_dropOldest, Cond.selects RX0 yX0_dropOldest yX0_dropOldest, Cond.initialized RX0, Cond.code yX0_dropOldest cX0_dropOldest 3 none, Cond.methodLink RX0 23 yX4_copyFrom, Cond.instanceMethod yX4_copyFrom, Cond.selects RX4 yX4_copyFrom yX4_copyFrom, Cond.initialized RX4, Cond.code yX4_copyFrom cX4_copyFrom 3 none, Cond.fieldLink RX4 20 "JoinGrants$Pool" "settings" "[I", Cond.fieldLink RX4 25 "JoinGrants$Pool" "joins" "[LJoinGrants$Join;", Cond.fieldLink RX4 41 "JoinGrants$Pool" "joinsSoFar" "I", Cond.fieldLink RX4 92 "JoinGrants$Pool" "mostGranted" "I", Cond.fieldLink RX4 138 "JoinGrants$Pool" "steps" "I", Cond.fieldLink RX4 125 "JoinGrants$Pool" "workDone" "I", Cond.fieldLink RX4 115 "JoinGrants$Pool" "askedBack" "I", Cond.methodLink RX4 153 yX1_copyFrom, Cond.instanceMethod yX1_copyFrom, Cond.selects RX1 yX1_copyFrom yX1_copyFrom, Cond.initialized RX1, Cond.code yX1_copyFrom cX1_copyFrom 2 none]
def wsX0_record_r2 : List Cond := [Cond.fieldLink RX1 10 "JoinGrants$Join" "plan" "LJoinGrants$Plan;", Cond.fieldLink RX1 16 "JoinGrants$Join" "state" "I", Cond.fieldLink RX1 31 "JoinGrants$Join" "pages" "I", Cond.fieldLink RX1 38 "JoinGrants$Join" "workLeft" "I", Cond.fieldLink RX1 44 "JoinGrants$Join" "stepsWaited" "I", Cond.fieldLink RX1 47 "JoinGrants$Join" "stepsWorked" "I", Cond.fieldLink RX1 41 "JoinGrants$Join" "givenBack" "I", Cond.methodLink RX1 79 yX3_copyFrom, Cond.instanceMethod yX3_copyFrom, Cond.selects RX3 yX3_copyFrom yX3_copyFrom, Cond.initialized RX3, Cond.code yX3_copyFrom cX3_copyFrom 2 none, Cond.fieldLink RX3 29 "JoinGrants$Plan" "way" "I", Cond.fieldLink RX3 18 "JoinGrants$Plan" "left" "I", Cond.fieldLink RX3 22 "JoinGrants$Plan" "right" "I", Cond.fieldLink RX3 36 "JoinGrants$Plan" "need" "I", Cond.fieldLink RX3 48 "JoinGrants$Plan" "want" "I"]
def wsX0_record : List Cond := .code yX0_record cX0_record 2 none :: ((wsX0_record_r1 ++ wsX0_record_r2) ++ wsX00 ++ wsX40 ++ wsX10 ++ wsX30)
def wsX0_takeBack_r1 : List Cond := [Cond.fieldLink RX0 16 "JoinGrants$History" "size" "I", Cond.fieldLink RX0 11 "JoinGrants$History" "states" "[LJoinGrants$Pool;", Cond.methodLink RX0 23 yX4_copyFrom, Cond.instanceMethod yX4_copyFrom, Cond.selects RX4 yX4_copyFrom yX4_copyFrom, Cond.initialized RX4, Cond.code yX4_copyFrom cX4_copyFrom 3 none, Cond.fieldLink RX4 20 "JoinGrants$Pool" "settings" "[I", Cond.fieldLink RX4 25 "JoinGrants$Pool" "joins" "[LJoinGrants$Join;", Cond.fieldLink RX4 41 "JoinGrants$Pool" "joinsSoFar" "I", Cond.fieldLink RX4 92 "JoinGrants$Pool" "mostGranted" "I", Cond.fieldLink RX4 138 "JoinGrants$Pool" "steps" "I", Cond.fieldLink RX4 125 "JoinGrants$Pool" "workDone" "I", Cond.fieldLink RX4 115 "JoinGrants$Pool" "askedBack" "I", Cond.methodLink RX4 153 yX1_copyFrom, Cond.instanceMethod yX1_copyFrom, Cond.selects RX1 yX1_copyFrom yX1_copyFrom, Cond.initialized RX1, Cond.code yX1_copyFrom cX1_copyFrom 2 none, Cond.fieldLink RX1 10 "JoinGrants$Join" "plan" "LJoinGrants$Plan;", Cond.fieldLink RX1 16 "JoinGrants$Join" "state" "I", Cond.fieldLink RX1 31 "JoinGrants$Join" "pages" "I", Cond.fieldLink RX1 38 "JoinGrants$Join" "workLeft" "I", Cond.fieldLink RX1 44 "JoinGrants$Join" "stepsWaited" "I"]
def wsX0_takeBack_r2 : List Cond := [Cond.fieldLink RX1 47 "JoinGrants$Join" "stepsWorked" "I", Cond.fieldLink RX1 41 "JoinGrants$Join" "givenBack" "I", Cond.methodLink RX1 79 yX3_copyFrom, Cond.instanceMethod yX3_copyFrom, Cond.selects RX3 yX3_copyFrom yX3_copyFrom, Cond.initialized RX3, Cond.code yX3_copyFrom cX3_copyFrom 2 none, Cond.fieldLink RX3 29 "JoinGrants$Plan" "way" "I", Cond.fieldLink RX3 18 "JoinGrants$Plan" "left" "I", Cond.fieldLink RX3 22 "JoinGrants$Plan" "right" "I", Cond.fieldLink RX3 36 "JoinGrants$Plan" "need" "I", Cond.fieldLink RX3 48 "JoinGrants$Plan" "want" "I"]
def wsX0_takeBack : List Cond := .code yX0_takeBack cX0_takeBack 2 (some .boolean) :: ((wsX0_takeBack_r1 ++ wsX0_takeBack_r2) ++ wsX00 ++ wsX40 ++ wsX10 ++ wsX30)
def wsX0_size : List Cond := .code yX0_size cX0_size 1 (some .int) :: ([.fieldLink RX0 16 "JoinGrants$History" "size" "I"] ++ wsX00)
def wsX3_root : List Cond := .code yX3_root cX3_root 2 (some .int) :: ([])
def wsX3_computedNeed : List Cond := .code yX3_computedNeed cX3_computedNeed 1 (some .int) :: ([.fieldLink RX3 29 "JoinGrants$Plan" "way" "I", .fieldLink RX3 22 "JoinGrants$Plan" "right" "I", .fieldLink RX3 18 "JoinGrants$Plan" "left" "I", .methodLink RX3 51 yX3_root, .static yX3_root, .initialized RX3, .code yX3_root cX3_root 2 (some .int)] ++ wsX30)
def wsX3_computedWant : List Cond := .code yX3_computedWant cX3_computedWant 1 (some .int) :: ([.fieldLink RX3 29 "JoinGrants$Plan" "way" "I", .fieldLink RX3 22 "JoinGrants$Plan" "right" "I", .fieldLink RX3 18 "JoinGrants$Plan" "left" "I"] ++ wsX30)
def wsX3_changeWay : List Cond := .code yX3_changeWay cX3_changeWay 2 none :: ([.fieldLink RX3 29 "JoinGrants$Plan" "way" "I", .fieldLink RX3 36 "JoinGrants$Plan" "need" "I", .methodLink RX3 42 Lib.Math.max.name, .static Lib.Math.max.name, .initialized "java/lang/Math", .code Lib.Math.max.name Lib.Math.max.code 2 (some .int), .fieldLink RX3 48 "JoinGrants$Plan" "want" "I", .methodLink RX3 32 yX3_computedNeed, .instanceMethod yX3_computedNeed, .selects RX3 yX3_computedNeed yX3_computedNeed, .initialized RX3, .code yX3_computedNeed cX3_computedNeed 1 (some .int), .fieldLink RX3 22 "JoinGrants$Plan" "right" "I", .fieldLink RX3 18 "JoinGrants$Plan" "left" "I", .methodLink RX3 51 yX3_root, .static yX3_root, .code yX3_root cX3_root 2 (some .int), .methodLink RX3 39 yX3_computedWant, .instanceMethod yX3_computedWant, .selects RX3 yX3_computedWant yX3_computedWant, .code yX3_computedWant cX3_computedWant 1 (some .int)] ++ wsX30)
def wsX3_make_r1 : List Cond := [Cond.fieldLink RX3 18 "JoinGrants$Plan" "left" "I", Cond.fieldLink RX3 22 "JoinGrants$Plan" "right" "I", Cond.methodLink RX3 25 yX3_changeWay, Cond.instanceMethod yX3_changeWay, Cond.selects RX3 yX3_changeWay yX3_changeWay, Cond.initialized RX3, Cond.code yX3_changeWay cX3_changeWay 2 none, Cond.fieldLink RX3 29 "JoinGrants$Plan" "way" "I", Cond.fieldLink RX3 36 "JoinGrants$Plan" "need" "I", Cond.methodLink RX3 42 Lib.Math.max.name, Cond.static Lib.Math.max.name, Cond.initialized "java/lang/Math", Cond.code Lib.Math.max.name Lib.Math.max.code 2 (some .int), Cond.fieldLink RX3 48 "JoinGrants$Plan" "want" "I", Cond.methodLink RX3 32 yX3_computedNeed, Cond.instanceMethod yX3_computedNeed, Cond.selects RX3 yX3_computedNeed yX3_computedNeed, Cond.code yX3_computedNeed cX3_computedNeed 1 (some .int), Cond.methodLink RX3 51 yX3_root, Cond.static yX3_root, Cond.code yX3_root cX3_root 2 (some .int), Cond.methodLink RX3 39 yX3_computedWant, Cond.instanceMethod yX3_computedWant, Cond.selects RX3 yX3_computedWant yX3_computedWant]
def wsX3_make_r2 : List Cond := [Cond.code yX3_computedWant cX3_computedWant 1 (some .int)]
def wsX3_make : List Cond := .code yX3_make cX3_make 4 none :: ((wsX3_make_r1 ++ wsX3_make_r2) ++ wsX30)
def wsX1_come_r1 : List Cond := [Cond.fieldLink RX1 10 "JoinGrants$Join" "plan" "LJoinGrants$Plan;", Cond.fieldLink RX1 16 "JoinGrants$Join" "state" "I", Cond.methodLink RX1 23 yX3_make, Cond.instanceMethod yX3_make, Cond.selects RX3 yX3_make yX3_make, Cond.initialized RX3, Cond.code yX3_make cX3_make 4 none, Cond.fieldLink RX3 18 "JoinGrants$Plan" "left" "I", Cond.fieldLink RX3 22 "JoinGrants$Plan" "right" "I", Cond.methodLink RX3 25 yX3_changeWay, Cond.instanceMethod yX3_changeWay, Cond.selects RX3 yX3_changeWay yX3_changeWay, Cond.code yX3_changeWay cX3_changeWay 2 none, Cond.fieldLink RX3 29 "JoinGrants$Plan" "way" "I", Cond.fieldLink RX3 36 "JoinGrants$Plan" "need" "I", Cond.methodLink RX3 42 Lib.Math.max.name, Cond.static Lib.Math.max.name, Cond.initialized "java/lang/Math", Cond.code Lib.Math.max.name Lib.Math.max.code 2 (some .int), Cond.fieldLink RX3 48 "JoinGrants$Plan" "want" "I", Cond.methodLink RX3 32 yX3_computedNeed, Cond.instanceMethod yX3_computedNeed, Cond.selects RX3 yX3_computedNeed yX3_computedNeed, Cond.code yX3_computedNeed cX3_computedNeed 1 (some .int)]
def wsX1_come_r2 : List Cond := [Cond.methodLink RX3 51 yX3_root, Cond.static yX3_root, Cond.code yX3_root cX3_root 2 (some .int), Cond.methodLink RX3 39 yX3_computedWant, Cond.instanceMethod yX3_computedWant, Cond.selects RX3 yX3_computedWant yX3_computedWant, Cond.code yX3_computedWant cX3_computedWant 1 (some .int)]
def wsX1_come : List Cond := .code yX1_come cX1_come 4 none :: ((wsX1_come_r1 ++ wsX1_come_r2) ++ wsX10 ++ wsX30)
def wsX1_changeWay_r1 : List Cond := [Cond.fieldLink RX1 10 "JoinGrants$Join" "plan" "LJoinGrants$Plan;", Cond.methodLink RX1 27 yX3_changeWay, Cond.instanceMethod yX3_changeWay, Cond.selects RX3 yX3_changeWay yX3_changeWay, Cond.initialized RX3, Cond.code yX3_changeWay cX3_changeWay 2 none, Cond.fieldLink RX3 29 "JoinGrants$Plan" "way" "I", Cond.fieldLink RX3 36 "JoinGrants$Plan" "need" "I", Cond.methodLink RX3 42 Lib.Math.max.name, Cond.static Lib.Math.max.name, Cond.initialized "java/lang/Math", Cond.code Lib.Math.max.name Lib.Math.max.code 2 (some .int), Cond.fieldLink RX3 48 "JoinGrants$Plan" "want" "I", Cond.methodLink RX3 32 yX3_computedNeed, Cond.instanceMethod yX3_computedNeed, Cond.selects RX3 yX3_computedNeed yX3_computedNeed, Cond.code yX3_computedNeed cX3_computedNeed 1 (some .int), Cond.fieldLink RX3 22 "JoinGrants$Plan" "right" "I", Cond.fieldLink RX3 18 "JoinGrants$Plan" "left" "I", Cond.methodLink RX3 51 yX3_root, Cond.static yX3_root, Cond.code yX3_root cX3_root 2 (some .int), Cond.methodLink RX3 39 yX3_computedWant, Cond.instanceMethod yX3_computedWant]
def wsX1_changeWay_r2 : List Cond := [Cond.selects RX3 yX3_computedWant yX3_computedWant, Cond.code yX3_computedWant cX3_computedWant 1 (some .int)]
def wsX1_changeWay : List Cond := .code yX1_changeWay cX1_changeWay 2 none :: ((wsX1_changeWay_r1 ++ wsX1_changeWay_r2) ++ wsX10 ++ wsX30)
def wsX3_workWith : List Cond := .code yX3_workWith cX3_workWith 5 (some .int) :: ([.fieldLink RX3 18 "JoinGrants$Plan" "left" "I", .fieldLink RX3 22 "JoinGrants$Plan" "right" "I", .fieldLink RX3 29 "JoinGrants$Plan" "way" "I", .fieldLink RX3 48 "JoinGrants$Plan" "want" "I"] ++ wsX30)
def wsX1_start : List Cond := .code yX1_start cX1_start 2 none :: ([.fieldLink RX1 16 "JoinGrants$Join" "state" "I", .fieldLink RX1 31 "JoinGrants$Join" "pages" "I", .fieldLink RX1 10 "JoinGrants$Join" "plan" "LJoinGrants$Plan;", .fieldLink RX1 38 "JoinGrants$Join" "workLeft" "I", .methodLink RX1 34 yX3_workWith, .instanceMethod yX3_workWith, .selects RX3 yX3_workWith yX3_workWith, .initialized RX3, .code yX3_workWith cX3_workWith 5 (some .int), .fieldLink RX3 18 "JoinGrants$Plan" "left" "I", .fieldLink RX3 22 "JoinGrants$Plan" "right" "I", .fieldLink RX3 29 "JoinGrants$Plan" "way" "I", .fieldLink RX3 48 "JoinGrants$Plan" "want" "I"] ++ wsX10 ++ wsX30)
def wsX1_end : List Cond := .code yX1_end cX1_end 2 none :: ([.fieldLink RX1 16 "JoinGrants$Join" "state" "I", .fieldLink RX1 31 "JoinGrants$Join" "pages" "I", .fieldLink RX1 38 "JoinGrants$Join" "workLeft" "I"] ++ wsX10)
def wsX1_giveBack : List Cond := .code yX1_giveBack cX1_giveBack 6 none :: ([.fieldLink RX1 10 "JoinGrants$Join" "plan" "LJoinGrants$Plan;", .fieldLink RX1 31 "JoinGrants$Join" "pages" "I", .fieldLink RX1 38 "JoinGrants$Join" "workLeft" "I", .fieldLink RX1 41 "JoinGrants$Join" "givenBack" "I", .methodLink RX1 34 yX3_workWith, .instanceMethod yX3_workWith, .selects RX3 yX3_workWith yX3_workWith, .initialized RX3, .code yX3_workWith cX3_workWith 5 (some .int), .fieldLink RX3 18 "JoinGrants$Plan" "left" "I", .fieldLink RX3 22 "JoinGrants$Plan" "right" "I", .fieldLink RX3 29 "JoinGrants$Plan" "way" "I", .fieldLink RX3 48 "JoinGrants$Plan" "want" "I"] ++ wsX10 ++ wsX30)
def wsX1_pass : List Cond := .code yX1_pass cX1_pass 4 (some .int) :: ([.fieldLink RX1 16 "JoinGrants$Join" "state" "I", .fieldLink RX1 44 "JoinGrants$Join" "stepsWaited" "I", .fieldLink RX1 47 "JoinGrants$Join" "stepsWorked" "I", .fieldLink RX1 38 "JoinGrants$Join" "workLeft" "I", .methodLink RX1 50 Lib.Math.min.name, .static Lib.Math.min.name, .initialized "java/lang/Math", .code Lib.Math.min.name Lib.Math.min.code 2 (some .int)] ++ wsX10)
def wsX1_stepsLeft : List Cond := .code yX1_stepsLeft cX1_stepsLeft 2 (some .int) :: ([.fieldLink RX1 38 "JoinGrants$Join" "workLeft" "I"] ++ wsX10)
def wsX1_hasWorkedAll : List Cond := .code yX1_hasWorkedAll cX1_hasWorkedAll 1 (some .boolean) :: ([.fieldLink RX1 16 "JoinGrants$Join" "state" "I", .fieldLink RX1 38 "JoinGrants$Join" "workLeft" "I"] ++ wsX10)
def wsX1_surplus : List Cond := .code yX1_surplus cX1_surplus 1 (some .int) :: ([.fieldLink RX1 16 "JoinGrants$Join" "state" "I", .fieldLink RX1 31 "JoinGrants$Join" "pages" "I", .fieldLink RX1 10 "JoinGrants$Join" "plan" "LJoinGrants$Plan;"] ++ wsX10 ++ wsX30)
def wsX3_spillsWith : List Cond := .code yX3_spillsWith cX3_spillsWith 2 (some .boolean) :: ([.fieldLink RX3 29 "JoinGrants$Plan" "way" "I", .fieldLink RX3 48 "JoinGrants$Plan" "want" "I"] ++ wsX30)
def wsX1_spills : List Cond := .code yX1_spills cX1_spills 1 (some .boolean) :: ([.fieldLink RX1 16 "JoinGrants$Join" "state" "I", .fieldLink RX1 10 "JoinGrants$Join" "plan" "LJoinGrants$Plan;", .fieldLink RX1 31 "JoinGrants$Join" "pages" "I", .methodLink RX1 59 yX3_spillsWith, .instanceMethod yX3_spillsWith, .selects RX3 yX3_spillsWith yX3_spillsWith, .initialized RX3, .code yX3_spillsWith cX3_spillsWith 2 (some .boolean), .fieldLink RX3 29 "JoinGrants$Plan" "way" "I", .fieldLink RX3 48 "JoinGrants$Plan" "want" "I"] ++ wsX10 ++ wsX30)
def wsX1_isIn : List Cond := .code yX1_isIn cX1_isIn 2 (some .boolean) :: ([.fieldLink RX1 16 "JoinGrants$Join" "state" "I"] ++ wsX10)
def wsX1_number : List Cond := .code yX1_number cX1_number 1 (some .int) :: ([.fieldLink RX1 20 "JoinGrants$Join" "number" "I"] ++ wsX10)
def wsX1_way : List Cond := .code yX1_way cX1_way 1 (some .int) :: ([.fieldLink RX1 10 "JoinGrants$Join" "plan" "LJoinGrants$Plan;"] ++ wsX10 ++ wsX30)
def wsX1_need : List Cond := .code yX1_need cX1_need 1 (some .int) :: ([.fieldLink RX1 10 "JoinGrants$Join" "plan" "LJoinGrants$Plan;"] ++ wsX10 ++ wsX30)
def wsX1_want : List Cond := .code yX1_want cX1_want 1 (some .int) :: ([.fieldLink RX1 10 "JoinGrants$Join" "plan" "LJoinGrants$Plan;"] ++ wsX10 ++ wsX30)
def wsX1_pages : List Cond := .code yX1_pages cX1_pages 1 (some .int) :: ([.fieldLink RX1 31 "JoinGrants$Join" "pages" "I"] ++ wsX10)
def wsX1_canTell : List Cond := .code yX1_canTell cX1_canTell 1 (some .boolean) :: ([])
def wsX1_tell : List Cond := .code yX1_tell cX1_tell 2 (some .int) :: ([.fieldLink RX1 10 "JoinGrants$Join" "plan" "LJoinGrants$Plan;", .fieldLink RX1 16 "JoinGrants$Join" "state" "I", .fieldLink RX1 31 "JoinGrants$Join" "pages" "I", .fieldLink RX1 38 "JoinGrants$Join" "workLeft" "I", .fieldLink RX1 44 "JoinGrants$Join" "stepsWaited" "I", .fieldLink RX1 47 "JoinGrants$Join" "stepsWorked" "I", .fieldLink RX1 41 "JoinGrants$Join" "givenBack" "I", .methodLink RX1 75 yX1_spills, .instanceMethod yX1_spills, .selects RX1 yX1_spills yX1_spills, .initialized RX1, .code yX1_spills cX1_spills 1 (some .boolean), .methodLink RX1 59 yX3_spillsWith, .instanceMethod yX3_spillsWith, .selects RX3 yX3_spillsWith yX3_spillsWith, .initialized RX3, .code yX3_spillsWith cX3_spillsWith 2 (some .boolean), .fieldLink RX3 29 "JoinGrants$Plan" "way" "I", .fieldLink RX3 48 "JoinGrants$Plan" "want" "I"] ++ wsX10 ++ wsX30)
def wsX2_init : List Cond := .code yX2_init cX2_init 1 none :: ([.methodLink RX2 1 objectInit, .instanceMethod objectInit, .code objectInit ⟨#[0xb1]⟩ 1 none, .arrayClass .char, .fieldLink RX2 9 "JoinGrants$JoinText" "characters" "[C", .arrayClass .int, .fieldLink RX2 13 "JoinGrants$JoinText" "ways" "[I", .fieldLink RX2 17 "JoinGrants$JoinText" "lefts" "[I", .fieldLink RX2 20 "JoinGrants$JoinText" "rights" "[I"] ++ wsX20)
def wsX2_append : List Cond := .code yX2_append cX2_append 2 (some .boolean) :: ([.fieldLink RX2 23 "JoinGrants$JoinText" "length" "I", .fieldLink RX2 9 "JoinGrants$JoinText" "characters" "[C"] ++ wsX20)
def wsX2_clear : List Cond := .code yX2_clear cX2_clear 1 none :: ([.fieldLink RX2 23 "JoinGrants$JoinText" "length" "I"] ++ wsX20)
def wsX2_length : List Cond := .code yX2_length cX2_length 1 (some .int) :: ([.fieldLink RX2 23 "JoinGrants$JoinText" "length" "I"] ++ wsX20)
def wsX2_takesWay : List Cond := .code yX2_takesWay cX2_takesWay 2 (some .boolean) :: ([.fieldLink RX2 55 "JoinGrants$JoinText" "way" "I", .fieldLink RX2 30 "JoinGrants$JoinText" "place" "I"] ++ wsX20)
def wsX2_takesDigit : List Cond := .code yX2_takesDigit cX2_takesDigit 3 (some .boolean) :: ([.fieldLink RX2 33 "JoinGrants$JoinText" "number" "I"] ++ wsX20)
def wsX2_endJoin : List Cond := .code yX2_endJoin cX2_endJoin 1 none :: ([.fieldLink RX2 27 "JoinGrants$JoinText" "joins" "I", .fieldLink RX2 13 "JoinGrants$JoinText" "ways" "[I", .fieldLink RX2 17 "JoinGrants$JoinText" "lefts" "[I", .fieldLink RX2 20 "JoinGrants$JoinText" "rights" "[I", .fieldLink RX2 55 "JoinGrants$JoinText" "way" "I", .fieldLink RX2 50 "JoinGrants$JoinText" "left" "I", .fieldLink RX2 33 "JoinGrants$JoinText" "number" "I", .fieldLink RX2 30 "JoinGrants$JoinText" "place" "I"] ++ wsX20)
def wsX2_takes : List Cond := .code yX2_takes cX2_takes 2 (some .boolean) :: ([.fieldLink RX2 30 "JoinGrants$JoinText" "place" "I", .fieldLink RX2 33 "JoinGrants$JoinText" "number" "I", .fieldLink RX2 50 "JoinGrants$JoinText" "left" "I", .methodLink RX2 43 yX2_takesWay, .instanceMethod yX2_takesWay, .selects RX2 yX2_takesWay yX2_takesWay, .initialized RX2, .code yX2_takesWay cX2_takesWay 2 (some .boolean), .fieldLink RX2 55 "JoinGrants$JoinText" "way" "I", .methodLink RX2 46 yX2_takesDigit, .instanceMethod yX2_takesDigit, .selects RX2 yX2_takesDigit yX2_takesDigit, .code yX2_takesDigit cX2_takesDigit 3 (some .boolean), .methodLink RX2 40 yX2_endJoin, .instanceMethod yX2_endJoin, .selects RX2 yX2_endJoin yX2_endJoin, .code yX2_endJoin cX2_endJoin 1 none, .fieldLink RX2 27 "JoinGrants$JoinText" "joins" "I", .fieldLink RX2 13 "JoinGrants$JoinText" "ways" "[I", .fieldLink RX2 17 "JoinGrants$JoinText" "lefts" "[I", .fieldLink RX2 20 "JoinGrants$JoinText" "rights" "[I"] ++ wsX20)
def wsX2_read_r1 : List Cond := [Cond.fieldLink RX2 27 "JoinGrants$JoinText" "joins" "I", Cond.fieldLink RX2 30 "JoinGrants$JoinText" "place" "I", Cond.fieldLink RX2 33 "JoinGrants$JoinText" "number" "I", Cond.fieldLink RX2 23 "JoinGrants$JoinText" "length" "I", Cond.fieldLink RX2 9 "JoinGrants$JoinText" "characters" "[C", Cond.methodLink RX2 36 yX2_takes, Cond.instanceMethod yX2_takes, Cond.selects RX2 yX2_takes yX2_takes, Cond.initialized RX2, Cond.code yX2_takes cX2_takes 2 (some .boolean), Cond.fieldLink RX2 50 "JoinGrants$JoinText" "left" "I", Cond.methodLink RX2 43 yX2_takesWay, Cond.instanceMethod yX2_takesWay, Cond.selects RX2 yX2_takesWay yX2_takesWay, Cond.code yX2_takesWay cX2_takesWay 2 (some .boolean), Cond.fieldLink RX2 55 "JoinGrants$JoinText" "way" "I", Cond.methodLink RX2 46 yX2_takesDigit, Cond.instanceMethod yX2_takesDigit, Cond.selects RX2 yX2_takesDigit yX2_takesDigit, Cond.code yX2_takesDigit cX2_takesDigit 3 (some .boolean), Cond.methodLink RX2 40 yX2_endJoin, Cond.instanceMethod yX2_endJoin, Cond.selects RX2 yX2_endJoin yX2_endJoin, Cond.code yX2_endJoin cX2_endJoin 1 none]
def wsX2_read_r2 : List Cond := [Cond.fieldLink RX2 13 "JoinGrants$JoinText" "ways" "[I", Cond.fieldLink RX2 17 "JoinGrants$JoinText" "lefts" "[I", Cond.fieldLink RX2 20 "JoinGrants$JoinText" "rights" "[I"]
def wsX2_read : List Cond := .code yX2_read cX2_read 2 (some .int) :: ((wsX2_read_r1 ++ wsX2_read_r2) ++ wsX20)
def wsX2_joins : List Cond := .code yX2_joins cX2_joins 1 (some .int) :: ([.fieldLink RX2 27 "JoinGrants$JoinText" "joins" "I"] ++ wsX20)
def wsX2_wayOf : List Cond := .code yX2_wayOf cX2_wayOf 2 (some .int) :: ([.fieldLink RX2 13 "JoinGrants$JoinText" "ways" "[I"] ++ wsX20)
def wsX2_leftOf : List Cond := .code yX2_leftOf cX2_leftOf 2 (some .int) :: ([.fieldLink RX2 17 "JoinGrants$JoinText" "lefts" "[I"] ++ wsX20)
def wsX2_rightOf : List Cond := .code yX2_rightOf cX2_rightOf 2 (some .int) :: ([.fieldLink RX2 20 "JoinGrants$JoinText" "rights" "[I"] ++ wsX20)
def wsX3_isWay : List Cond := .code yX3_isWay cX3_isWay 1 (some .boolean) :: ([])
def wsX3_isTable : List Cond := .code yX3_isTable cX3_isTable 1 (some .boolean) :: ([])
def wsX3_fits : List Cond := .code yX3_fits cX3_fits 3 (some .boolean) :: ([.methodLink RX3 11 yX3_isWay, .static yX3_isWay, .initialized RX3, .code yX3_isWay cX3_isWay 1 (some .boolean), .methodLink RX3 15 yX3_isTable, .static yX3_isTable, .code yX3_isTable cX3_isTable 1 (some .boolean)])
def wsX4_allows : List Cond := .code yX4_allows cX4_allows 2 (some .boolean) :: ([.fieldLink RX4 32 "JoinGrants$Pool" "LOWEST" "[I", .fieldLink RX4 35 "JoinGrants$Pool" "HIGHEST" "[I"])
def wsX4_setting : List Cond := .code yX4_setting cX4_setting 2 (some .int) :: ([.fieldLink RX4 20 "JoinGrants$Pool" "settings" "[I"] ++ wsX40)
def wsX4_isAhead : List Cond := .code yX4_isAhead cX4_isAhead 5 (some .boolean) :: ([.methodLink RX4 69 yX1_need, .instanceMethod yX1_need, .selects RX1 yX1_need yX1_need, .initialized RX1, .code yX1_need cX1_need 1 (some .int), .fieldLink RX1 10 "JoinGrants$Join" "plan" "LJoinGrants$Plan;", .methodLink RX4 101 yX4_setting, .instanceMethod yX4_setting, .selects RX4 yX4_setting yX4_setting, .initialized RX4, .code yX4_setting cX4_setting 2 (some .int), .fieldLink RX4 20 "JoinGrants$Pool" "settings" "[I", .methodLink RX4 49 yX1_number, .instanceMethod yX1_number, .selects RX1 yX1_number yX1_number, .code yX1_number cX1_number 1 (some .int), .fieldLink RX1 20 "JoinGrants$Join" "number" "I"] ++ wsX10 ++ wsX30 ++ wsX40)
def wsX4_firstInQueue_r1 : List Cond := [Cond.fieldLink RX4 25 "JoinGrants$Pool" "joins" "[LJoinGrants$Join;", Cond.methodLink RX4 61 yX1_isIn, Cond.instanceMethod yX1_isIn, Cond.selects RX1 yX1_isIn yX1_isIn, Cond.initialized RX1, Cond.code yX1_isIn cX1_isIn 2 (some .boolean), Cond.fieldLink RX1 16 "JoinGrants$Join" "state" "I", Cond.methodLink RX4 65 yX4_isAhead, Cond.instanceMethod yX4_isAhead, Cond.selects RX4 yX4_isAhead yX4_isAhead, Cond.initialized RX4, Cond.code yX4_isAhead cX4_isAhead 5 (some .boolean), Cond.methodLink RX4 69 yX1_need, Cond.instanceMethod yX1_need, Cond.selects RX1 yX1_need yX1_need, Cond.code yX1_need cX1_need 1 (some .int), Cond.fieldLink RX1 10 "JoinGrants$Join" "plan" "LJoinGrants$Plan;", Cond.methodLink RX4 101 yX4_setting, Cond.instanceMethod yX4_setting, Cond.selects RX4 yX4_setting yX4_setting, Cond.code yX4_setting cX4_setting 2 (some .int), Cond.fieldLink RX4 20 "JoinGrants$Pool" "settings" "[I", Cond.methodLink RX4 49 yX1_number, Cond.instanceMethod yX1_number]
def wsX4_firstInQueue_r2 : List Cond := [Cond.selects RX1 yX1_number yX1_number, Cond.code yX1_number cX1_number 1 (some .int), Cond.fieldLink RX1 20 "JoinGrants$Join" "number" "I"]
def wsX4_firstInQueue : List Cond := .code yX4_firstInQueue cX4_firstInQueue 6 (some (.object "JoinGrants$Join")) :: ((wsX4_firstInQueue_r1 ++ wsX4_firstInQueue_r2) ++ wsX40 ++ wsX10 ++ wsX30)
def wsX4_granted : List Cond := .code yX4_granted cX4_granted 6 (some .int) :: ([.fieldLink RX4 25 "JoinGrants$Pool" "joins" "[LJoinGrants$Join;", .methodLink RX4 141 yX1_pages, .instanceMethod yX1_pages, .selects RX1 yX1_pages yX1_pages, .initialized RX1, .code yX1_pages cX1_pages 1 (some .int), .fieldLink RX1 31 "JoinGrants$Join" "pages" "I"] ++ wsX40 ++ wsX10)
def wsX4_free : List Cond := .code yX4_free cX4_free 1 (some .int) :: ([.methodLink RX4 98 Lib.Math.max.name, .static Lib.Math.max.name, .initialized "java/lang/Math", .code Lib.Math.max.name Lib.Math.max.code 2 (some .int), .methodLink RX4 101 yX4_setting, .instanceMethod yX4_setting, .selects RX4 yX4_setting yX4_setting, .initialized RX4, .code yX4_setting cX4_setting 2 (some .int), .fieldLink RX4 20 "JoinGrants$Pool" "settings" "[I", .methodLink RX4 95 yX4_granted, .instanceMethod yX4_granted, .selects RX4 yX4_granted yX4_granted, .code yX4_granted cX4_granted 6 (some .int), .fieldLink RX4 25 "JoinGrants$Pool" "joins" "[LJoinGrants$Join;", .methodLink RX4 141 yX1_pages, .instanceMethod yX1_pages, .selects RX1 yX1_pages yX1_pages, .initialized RX1, .code yX1_pages cX1_pages 1 (some .int), .fieldLink RX1 31 "JoinGrants$Join" "pages" "I"] ++ wsX40 ++ wsX10)
def wsX4_surplus : List Cond := .code yX4_surplus cX4_surplus 6 (some .int) :: ([.fieldLink RX4 25 "JoinGrants$Pool" "joins" "[LJoinGrants$Join;", .methodLink RX4 111 yX1_surplus, .instanceMethod yX1_surplus, .selects RX1 yX1_surplus yX1_surplus, .initialized RX1, .code yX1_surplus cX1_surplus 1 (some .int), .fieldLink RX1 16 "JoinGrants$Join" "state" "I", .fieldLink RX1 31 "JoinGrants$Join" "pages" "I", .fieldLink RX1 10 "JoinGrants$Join" "plan" "LJoinGrants$Plan;"] ++ wsX40 ++ wsX10 ++ wsX30)
def wsX4_canAskBack_r1 : List Cond := [Cond.methodLink RX4 101 yX4_setting, Cond.instanceMethod yX4_setting, Cond.selects RX4 yX4_setting yX4_setting, Cond.initialized RX4, Cond.code yX4_setting cX4_setting 2 (some .int), Cond.fieldLink RX4 20 "JoinGrants$Pool" "settings" "[I", Cond.methodLink RX4 95 yX4_granted, Cond.instanceMethod yX4_granted, Cond.selects RX4 yX4_granted yX4_granted, Cond.code yX4_granted cX4_granted 6 (some .int), Cond.fieldLink RX4 25 "JoinGrants$Pool" "joins" "[LJoinGrants$Join;", Cond.methodLink RX4 141 yX1_pages, Cond.instanceMethod yX1_pages, Cond.selects RX1 yX1_pages yX1_pages, Cond.initialized RX1, Cond.code yX1_pages cX1_pages 1 (some .int), Cond.fieldLink RX1 31 "JoinGrants$Join" "pages" "I", Cond.methodLink RX4 105 yX4_surplus, Cond.instanceMethod yX4_surplus, Cond.selects RX4 yX4_surplus yX4_surplus, Cond.code yX4_surplus cX4_surplus 6 (some .int), Cond.methodLink RX4 111 yX1_surplus, Cond.instanceMethod yX1_surplus, Cond.selects RX1 yX1_surplus yX1_surplus]
def wsX4_canAskBack_r2 : List Cond := [Cond.code yX1_surplus cX1_surplus 1 (some .int), Cond.fieldLink RX1 16 "JoinGrants$Join" "state" "I", Cond.fieldLink RX1 10 "JoinGrants$Join" "plan" "LJoinGrants$Plan;"]
def wsX4_canAskBack : List Cond := .code yX4_canAskBack cX4_canAskBack 2 (some .boolean) :: ((wsX4_canAskBack_r1 ++ wsX4_canAskBack_r2) ++ wsX40 ++ wsX10 ++ wsX30)
def wsX4_richest : List Cond := .code yX4_richest cX4_richest 6 (some (.object "JoinGrants$Join")) :: ([.fieldLink RX4 25 "JoinGrants$Pool" "joins" "[LJoinGrants$Join;", .methodLink RX4 111 yX1_surplus, .instanceMethod yX1_surplus, .selects RX1 yX1_surplus yX1_surplus, .initialized RX1, .code yX1_surplus cX1_surplus 1 (some .int), .fieldLink RX1 16 "JoinGrants$Join" "state" "I", .fieldLink RX1 31 "JoinGrants$Join" "pages" "I", .fieldLink RX1 10 "JoinGrants$Join" "plan" "LJoinGrants$Plan;"] ++ wsX40 ++ wsX10 ++ wsX30)
def wsX4_askBack_r1 : List Cond := [Cond.fieldLink RX4 25 "JoinGrants$Pool" "joins" "[LJoinGrants$Join;", Cond.methodLink RX4 78 Lib.Math.min.name, Cond.static Lib.Math.min.name, Cond.initialized "java/lang/Math", Cond.code Lib.Math.min.name Lib.Math.min.code 2 (some .int), Cond.fieldLink RX4 115 "JoinGrants$Pool" "askedBack" "I", Cond.methodLink RX4 108 yX4_richest, Cond.instanceMethod yX4_richest, Cond.selects RX4 yX4_richest yX4_richest, Cond.initialized RX4, Cond.code yX4_richest cX4_richest 6 (some (.object "JoinGrants$Join")), Cond.methodLink RX4 111 yX1_surplus, Cond.instanceMethod yX1_surplus, Cond.selects RX1 yX1_surplus yX1_surplus, Cond.initialized RX1, Cond.code yX1_surplus cX1_surplus 1 (some .int), Cond.fieldLink RX1 16 "JoinGrants$Join" "state" "I", Cond.fieldLink RX1 31 "JoinGrants$Join" "pages" "I", Cond.fieldLink RX1 10 "JoinGrants$Join" "plan" "LJoinGrants$Plan;", Cond.methodLink RX4 112 yX1_giveBack, Cond.instanceMethod yX1_giveBack, Cond.selects RX1 yX1_giveBack yX1_giveBack, Cond.code yX1_giveBack cX1_giveBack 6 none, Cond.fieldLink RX1 38 "JoinGrants$Join" "workLeft" "I"]
def wsX4_askBack_r2 : List Cond := [Cond.fieldLink RX1 41 "JoinGrants$Join" "givenBack" "I", Cond.methodLink RX1 34 yX3_workWith, Cond.instanceMethod yX3_workWith, Cond.selects RX3 yX3_workWith yX3_workWith, Cond.initialized RX3, Cond.code yX3_workWith cX3_workWith 5 (some .int), Cond.fieldLink RX3 18 "JoinGrants$Plan" "left" "I", Cond.fieldLink RX3 22 "JoinGrants$Plan" "right" "I", Cond.fieldLink RX3 29 "JoinGrants$Plan" "way" "I", Cond.fieldLink RX3 48 "JoinGrants$Plan" "want" "I"]
def wsX4_askBack : List Cond := .code yX4_askBack cX4_askBack 6 none :: ((wsX4_askBack_r1 ++ wsX4_askBack_r2) ++ wsX40 ++ wsX10 ++ wsX30)
def wsX4_start_r1 : List Cond := [Cond.methodLink RX4 78 Lib.Math.min.name, Cond.static Lib.Math.min.name, Cond.initialized "java/lang/Math", Cond.code Lib.Math.min.name Lib.Math.min.code 2 (some .int), Cond.fieldLink RX4 92 "JoinGrants$Pool" "mostGranted" "I", Cond.methodLink RX4 98 Lib.Math.max.name, Cond.static Lib.Math.max.name, Cond.code Lib.Math.max.name Lib.Math.max.code 2 (some .int), Cond.methodLink RX4 69 yX1_need, Cond.instanceMethod yX1_need, Cond.selects RX1 yX1_need yX1_need, Cond.initialized RX1, Cond.code yX1_need cX1_need 1 (some .int), Cond.fieldLink RX1 10 "JoinGrants$Join" "plan" "LJoinGrants$Plan;", Cond.methodLink RX4 72 yX4_free, Cond.instanceMethod yX4_free, Cond.selects RX4 yX4_free yX4_free, Cond.initialized RX4, Cond.code yX4_free cX4_free 1 (some .int), Cond.methodLink RX4 101 yX4_setting, Cond.instanceMethod yX4_setting, Cond.selects RX4 yX4_setting yX4_setting, Cond.code yX4_setting cX4_setting 2 (some .int), Cond.fieldLink RX4 20 "JoinGrants$Pool" "settings" "[I"]
def wsX4_start_r2 : List Cond := [Cond.methodLink RX4 95 yX4_granted, Cond.instanceMethod yX4_granted, Cond.selects RX4 yX4_granted yX4_granted, Cond.code yX4_granted cX4_granted 6 (some .int), Cond.fieldLink RX4 25 "JoinGrants$Pool" "joins" "[LJoinGrants$Join;", Cond.methodLink RX4 141 yX1_pages, Cond.instanceMethod yX1_pages, Cond.selects RX1 yX1_pages yX1_pages, Cond.code yX1_pages cX1_pages 1 (some .int), Cond.fieldLink RX1 31 "JoinGrants$Join" "pages" "I", Cond.methodLink RX4 75 yX1_want, Cond.instanceMethod yX1_want, Cond.selects RX1 yX1_want yX1_want, Cond.code yX1_want cX1_want 1 (some .int), Cond.methodLink RX4 84 yX1_start, Cond.instanceMethod yX1_start, Cond.selects RX1 yX1_start yX1_start, Cond.code yX1_start cX1_start 2 none, Cond.fieldLink RX1 16 "JoinGrants$Join" "state" "I", Cond.fieldLink RX1 38 "JoinGrants$Join" "workLeft" "I", Cond.methodLink RX1 34 yX3_workWith, Cond.instanceMethod yX3_workWith, Cond.selects RX3 yX3_workWith yX3_workWith, Cond.initialized RX3]
def wsX4_start_r3 : List Cond := [Cond.code yX3_workWith cX3_workWith 5 (some .int), Cond.fieldLink RX3 18 "JoinGrants$Plan" "left" "I", Cond.fieldLink RX3 22 "JoinGrants$Plan" "right" "I", Cond.fieldLink RX3 29 "JoinGrants$Plan" "way" "I", Cond.fieldLink RX3 48 "JoinGrants$Plan" "want" "I", Cond.methodLink RX4 86 yX4_canAskBack, Cond.instanceMethod yX4_canAskBack, Cond.selects RX4 yX4_canAskBack yX4_canAskBack, Cond.code yX4_canAskBack cX4_canAskBack 2 (some .boolean), Cond.methodLink RX4 105 yX4_surplus, Cond.instanceMethod yX4_surplus, Cond.selects RX4 yX4_surplus yX4_surplus, Cond.code yX4_surplus cX4_surplus 6 (some .int), Cond.methodLink RX4 111 yX1_surplus, Cond.instanceMethod yX1_surplus, Cond.selects RX1 yX1_surplus yX1_surplus, Cond.code yX1_surplus cX1_surplus 1 (some .int), Cond.methodLink RX4 89 yX4_askBack, Cond.instanceMethod yX4_askBack, Cond.selects RX4 yX4_askBack yX4_askBack, Cond.code yX4_askBack cX4_askBack 6 none, Cond.fieldLink RX4 115 "JoinGrants$Pool" "askedBack" "I", Cond.methodLink RX4 108 yX4_richest, Cond.instanceMethod yX4_richest]
def wsX4_start_r4 : List Cond := [Cond.selects RX4 yX4_richest yX4_richest, Cond.code yX4_richest cX4_richest 6 (some (.object "JoinGrants$Join")), Cond.methodLink RX4 112 yX1_giveBack, Cond.instanceMethod yX1_giveBack, Cond.selects RX1 yX1_giveBack yX1_giveBack, Cond.code yX1_giveBack cX1_giveBack 6 none, Cond.fieldLink RX1 41 "JoinGrants$Join" "givenBack" "I"]
def wsX4_start : List Cond := .code yX4_start cX4_start 4 (some .boolean) :: ((wsX4_start_r1 ++ (wsX4_start_r2 ++ (wsX4_start_r3 ++ wsX4_start_r4))) ++ wsX40 ++ wsX10 ++ wsX30)
def wsX4_goThroughQueue_r1 : List Cond := [Cond.fieldLink RX4 25 "JoinGrants$Pool" "joins" "[LJoinGrants$Join;", Cond.methodLink RX4 53 yX4_firstInQueue, Cond.instanceMethod yX4_firstInQueue, Cond.selects RX4 yX4_firstInQueue yX4_firstInQueue, Cond.initialized RX4, Cond.code yX4_firstInQueue cX4_firstInQueue 6 (some (.object "JoinGrants$Join")), Cond.methodLink RX4 61 yX1_isIn, Cond.instanceMethod yX1_isIn, Cond.selects RX1 yX1_isIn yX1_isIn, Cond.initialized RX1, Cond.code yX1_isIn cX1_isIn 2 (some .boolean), Cond.fieldLink RX1 16 "JoinGrants$Join" "state" "I", Cond.methodLink RX4 65 yX4_isAhead, Cond.instanceMethod yX4_isAhead, Cond.selects RX4 yX4_isAhead yX4_isAhead, Cond.code yX4_isAhead cX4_isAhead 5 (some .boolean), Cond.methodLink RX4 69 yX1_need, Cond.instanceMethod yX1_need, Cond.selects RX1 yX1_need yX1_need, Cond.code yX1_need cX1_need 1 (some .int), Cond.fieldLink RX1 10 "JoinGrants$Join" "plan" "LJoinGrants$Plan;", Cond.methodLink RX4 101 yX4_setting, Cond.instanceMethod yX4_setting, Cond.selects RX4 yX4_setting yX4_setting]
def wsX4_goThroughQueue_r2 : List Cond := [Cond.code yX4_setting cX4_setting 2 (some .int), Cond.fieldLink RX4 20 "JoinGrants$Pool" "settings" "[I", Cond.methodLink RX4 49 yX1_number, Cond.instanceMethod yX1_number, Cond.selects RX1 yX1_number yX1_number, Cond.code yX1_number cX1_number 1 (some .int), Cond.fieldLink RX1 20 "JoinGrants$Join" "number" "I", Cond.methodLink RX4 57 yX4_start, Cond.instanceMethod yX4_start, Cond.selects RX4 yX4_start yX4_start, Cond.code yX4_start cX4_start 4 (some .boolean), Cond.methodLink RX4 78 Lib.Math.min.name, Cond.static Lib.Math.min.name, Cond.initialized "java/lang/Math", Cond.code Lib.Math.min.name Lib.Math.min.code 2 (some .int), Cond.fieldLink RX4 92 "JoinGrants$Pool" "mostGranted" "I", Cond.methodLink RX4 98 Lib.Math.max.name, Cond.static Lib.Math.max.name, Cond.code Lib.Math.max.name Lib.Math.max.code 2 (some .int), Cond.methodLink RX4 72 yX4_free, Cond.instanceMethod yX4_free, Cond.selects RX4 yX4_free yX4_free, Cond.code yX4_free cX4_free 1 (some .int), Cond.methodLink RX4 95 yX4_granted]
def wsX4_goThroughQueue_r3 : List Cond := [Cond.instanceMethod yX4_granted, Cond.selects RX4 yX4_granted yX4_granted, Cond.code yX4_granted cX4_granted 6 (some .int), Cond.methodLink RX4 141 yX1_pages, Cond.instanceMethod yX1_pages, Cond.selects RX1 yX1_pages yX1_pages, Cond.code yX1_pages cX1_pages 1 (some .int), Cond.fieldLink RX1 31 "JoinGrants$Join" "pages" "I", Cond.methodLink RX4 75 yX1_want, Cond.instanceMethod yX1_want, Cond.selects RX1 yX1_want yX1_want, Cond.code yX1_want cX1_want 1 (some .int), Cond.methodLink RX4 84 yX1_start, Cond.instanceMethod yX1_start, Cond.selects RX1 yX1_start yX1_start, Cond.code yX1_start cX1_start 2 none, Cond.fieldLink RX1 38 "JoinGrants$Join" "workLeft" "I", Cond.methodLink RX1 34 yX3_workWith, Cond.instanceMethod yX3_workWith, Cond.selects RX3 yX3_workWith yX3_workWith, Cond.initialized RX3, Cond.code yX3_workWith cX3_workWith 5 (some .int), Cond.fieldLink RX3 18 "JoinGrants$Plan" "left" "I", Cond.fieldLink RX3 22 "JoinGrants$Plan" "right" "I"]
def wsX4_goThroughQueue_r4 : List Cond := [Cond.fieldLink RX3 29 "JoinGrants$Plan" "way" "I", Cond.fieldLink RX3 48 "JoinGrants$Plan" "want" "I", Cond.methodLink RX4 86 yX4_canAskBack, Cond.instanceMethod yX4_canAskBack, Cond.selects RX4 yX4_canAskBack yX4_canAskBack, Cond.code yX4_canAskBack cX4_canAskBack 2 (some .boolean), Cond.methodLink RX4 105 yX4_surplus, Cond.instanceMethod yX4_surplus, Cond.selects RX4 yX4_surplus yX4_surplus, Cond.code yX4_surplus cX4_surplus 6 (some .int), Cond.methodLink RX4 111 yX1_surplus, Cond.instanceMethod yX1_surplus, Cond.selects RX1 yX1_surplus yX1_surplus, Cond.code yX1_surplus cX1_surplus 1 (some .int), Cond.methodLink RX4 89 yX4_askBack, Cond.instanceMethod yX4_askBack, Cond.selects RX4 yX4_askBack yX4_askBack, Cond.code yX4_askBack cX4_askBack 6 none, Cond.fieldLink RX4 115 "JoinGrants$Pool" "askedBack" "I", Cond.methodLink RX4 108 yX4_richest, Cond.instanceMethod yX4_richest, Cond.selects RX4 yX4_richest yX4_richest, Cond.code yX4_richest cX4_richest 6 (some (.object "JoinGrants$Join")), Cond.methodLink RX4 112 yX1_giveBack]
def wsX4_goThroughQueue_r5 : List Cond := [Cond.instanceMethod yX1_giveBack, Cond.selects RX1 yX1_giveBack yX1_giveBack, Cond.code yX1_giveBack cX1_giveBack 6 none, Cond.fieldLink RX1 41 "JoinGrants$Join" "givenBack" "I"]
def wsX4_goThroughQueue : List Cond := .code yX4_goThroughQueue cX4_goThroughQueue 3 none :: ((wsX4_goThroughQueue_r1 ++ (wsX4_goThroughQueue_r2 ++ (wsX4_goThroughQueue_r3 ++ (wsX4_goThroughQueue_r4 ++ wsX4_goThroughQueue_r5)))) ++ wsX40 ++ wsX10 ++ wsX30)
def wsX4_changeSetting_r1 : List Cond := [Cond.fieldLink RX4 20 "JoinGrants$Pool" "settings" "[I", Cond.methodLink RX4 38 yX4_goThroughQueue, Cond.instanceMethod yX4_goThroughQueue, Cond.selects RX4 yX4_goThroughQueue yX4_goThroughQueue, Cond.initialized RX4, Cond.code yX4_goThroughQueue cX4_goThroughQueue 3 none, Cond.fieldLink RX4 25 "JoinGrants$Pool" "joins" "[LJoinGrants$Join;", Cond.methodLink RX4 53 yX4_firstInQueue, Cond.instanceMethod yX4_firstInQueue, Cond.selects RX4 yX4_firstInQueue yX4_firstInQueue, Cond.code yX4_firstInQueue cX4_firstInQueue 6 (some (.object "JoinGrants$Join")), Cond.methodLink RX4 61 yX1_isIn, Cond.instanceMethod yX1_isIn, Cond.selects RX1 yX1_isIn yX1_isIn, Cond.initialized RX1, Cond.code yX1_isIn cX1_isIn 2 (some .boolean), Cond.fieldLink RX1 16 "JoinGrants$Join" "state" "I", Cond.methodLink RX4 65 yX4_isAhead, Cond.instanceMethod yX4_isAhead, Cond.selects RX4 yX4_isAhead yX4_isAhead, Cond.code yX4_isAhead cX4_isAhead 5 (some .boolean), Cond.methodLink RX4 69 yX1_need, Cond.instanceMethod yX1_need, Cond.selects RX1 yX1_need yX1_need]
def wsX4_changeSetting_r2 : List Cond := [Cond.code yX1_need cX1_need 1 (some .int), Cond.fieldLink RX1 10 "JoinGrants$Join" "plan" "LJoinGrants$Plan;", Cond.methodLink RX4 101 yX4_setting, Cond.instanceMethod yX4_setting, Cond.selects RX4 yX4_setting yX4_setting, Cond.code yX4_setting cX4_setting 2 (some .int), Cond.methodLink RX4 49 yX1_number, Cond.instanceMethod yX1_number, Cond.selects RX1 yX1_number yX1_number, Cond.code yX1_number cX1_number 1 (some .int), Cond.fieldLink RX1 20 "JoinGrants$Join" "number" "I", Cond.methodLink RX4 57 yX4_start, Cond.instanceMethod yX4_start, Cond.selects RX4 yX4_start yX4_start, Cond.code yX4_start cX4_start 4 (some .boolean), Cond.methodLink RX4 78 Lib.Math.min.name, Cond.static Lib.Math.min.name, Cond.initialized "java/lang/Math", Cond.code Lib.Math.min.name Lib.Math.min.code 2 (some .int), Cond.fieldLink RX4 92 "JoinGrants$Pool" "mostGranted" "I", Cond.methodLink RX4 98 Lib.Math.max.name, Cond.static Lib.Math.max.name, Cond.code Lib.Math.max.name Lib.Math.max.code 2 (some .int), Cond.methodLink RX4 72 yX4_free]
def wsX4_changeSetting_r3 : List Cond := [Cond.instanceMethod yX4_free, Cond.selects RX4 yX4_free yX4_free, Cond.code yX4_free cX4_free 1 (some .int), Cond.methodLink RX4 95 yX4_granted, Cond.instanceMethod yX4_granted, Cond.selects RX4 yX4_granted yX4_granted, Cond.code yX4_granted cX4_granted 6 (some .int), Cond.methodLink RX4 141 yX1_pages, Cond.instanceMethod yX1_pages, Cond.selects RX1 yX1_pages yX1_pages, Cond.code yX1_pages cX1_pages 1 (some .int), Cond.fieldLink RX1 31 "JoinGrants$Join" "pages" "I", Cond.methodLink RX4 75 yX1_want, Cond.instanceMethod yX1_want, Cond.selects RX1 yX1_want yX1_want, Cond.code yX1_want cX1_want 1 (some .int), Cond.methodLink RX4 84 yX1_start, Cond.instanceMethod yX1_start, Cond.selects RX1 yX1_start yX1_start, Cond.code yX1_start cX1_start 2 none, Cond.fieldLink RX1 38 "JoinGrants$Join" "workLeft" "I", Cond.methodLink RX1 34 yX3_workWith, Cond.instanceMethod yX3_workWith, Cond.selects RX3 yX3_workWith yX3_workWith]
def wsX4_changeSetting_r4 : List Cond := [Cond.initialized RX3, Cond.code yX3_workWith cX3_workWith 5 (some .int), Cond.fieldLink RX3 18 "JoinGrants$Plan" "left" "I", Cond.fieldLink RX3 22 "JoinGrants$Plan" "right" "I", Cond.fieldLink RX3 29 "JoinGrants$Plan" "way" "I", Cond.fieldLink RX3 48 "JoinGrants$Plan" "want" "I", Cond.methodLink RX4 86 yX4_canAskBack, Cond.instanceMethod yX4_canAskBack, Cond.selects RX4 yX4_canAskBack yX4_canAskBack, Cond.code yX4_canAskBack cX4_canAskBack 2 (some .boolean), Cond.methodLink RX4 105 yX4_surplus, Cond.instanceMethod yX4_surplus, Cond.selects RX4 yX4_surplus yX4_surplus, Cond.code yX4_surplus cX4_surplus 6 (some .int), Cond.methodLink RX4 111 yX1_surplus, Cond.instanceMethod yX1_surplus, Cond.selects RX1 yX1_surplus yX1_surplus, Cond.code yX1_surplus cX1_surplus 1 (some .int), Cond.methodLink RX4 89 yX4_askBack, Cond.instanceMethod yX4_askBack, Cond.selects RX4 yX4_askBack yX4_askBack, Cond.code yX4_askBack cX4_askBack 6 none, Cond.fieldLink RX4 115 "JoinGrants$Pool" "askedBack" "I", Cond.methodLink RX4 108 yX4_richest]
def wsX4_changeSetting_r5 : List Cond := [Cond.instanceMethod yX4_richest, Cond.selects RX4 yX4_richest yX4_richest, Cond.code yX4_richest cX4_richest 6 (some (.object "JoinGrants$Join")), Cond.methodLink RX4 112 yX1_giveBack, Cond.instanceMethod yX1_giveBack, Cond.selects RX1 yX1_giveBack yX1_giveBack, Cond.code yX1_giveBack cX1_giveBack 6 none, Cond.fieldLink RX1 41 "JoinGrants$Join" "givenBack" "I"]
def wsX4_changeSetting : List Cond := .code yX4_changeSetting cX4_changeSetting 3 none :: ((wsX4_changeSetting_r1 ++ (wsX4_changeSetting_r2 ++ (wsX4_changeSetting_r3 ++ (wsX4_changeSetting_r4 ++ wsX4_changeSetting_r5)))) ++ wsX40 ++ wsX10 ++ wsX30)
def wsX4_room : List Cond := .code yX4_room cX4_room 1 (some .int) :: ([.fieldLink RX4 25 "JoinGrants$Pool" "joins" "[LJoinGrants$Join;", .fieldLink RX4 41 "JoinGrants$Pool" "joinsSoFar" "I"] ++ wsX40)
def wsX4_find : List Cond := .code yX4_find cX4_find 2 (some (.object "JoinGrants$Join")) :: ([.fieldLink RX4 41 "JoinGrants$Pool" "joinsSoFar" "I", .fieldLink RX4 25 "JoinGrants$Pool" "joins" "[LJoinGrants$Join;"] ++ wsX40)
def wsX4_take_r1 : List Cond := [Cond.fieldLink RX4 41 "JoinGrants$Pool" "joinsSoFar" "I", Cond.fieldLink RX4 25 "JoinGrants$Pool" "joins" "[LJoinGrants$Join;", Cond.methodLink RX4 45 yX1_come, Cond.instanceMethod yX1_come, Cond.selects RX1 yX1_come yX1_come, Cond.initialized RX1, Cond.code yX1_come cX1_come 4 none, Cond.fieldLink RX1 10 "JoinGrants$Join" "plan" "LJoinGrants$Plan;", Cond.fieldLink RX1 16 "JoinGrants$Join" "state" "I", Cond.methodLink RX1 23 yX3_make, Cond.instanceMethod yX3_make, Cond.selects RX3 yX3_make yX3_make, Cond.initialized RX3, Cond.code yX3_make cX3_make 4 none, Cond.fieldLink RX3 18 "JoinGrants$Plan" "left" "I", Cond.fieldLink RX3 22 "JoinGrants$Plan" "right" "I", Cond.methodLink RX3 25 yX3_changeWay, Cond.instanceMethod yX3_changeWay, Cond.selects RX3 yX3_changeWay yX3_changeWay, Cond.code yX3_changeWay cX3_changeWay 2 none, Cond.fieldLink RX3 29 "JoinGrants$Plan" "way" "I", Cond.fieldLink RX3 36 "JoinGrants$Plan" "need" "I", Cond.methodLink RX3 42 Lib.Math.max.name, Cond.static Lib.Math.max.name]
def wsX4_take_r2 : List Cond := [Cond.initialized "java/lang/Math", Cond.code Lib.Math.max.name Lib.Math.max.code 2 (some .int), Cond.fieldLink RX3 48 "JoinGrants$Plan" "want" "I", Cond.methodLink RX3 32 yX3_computedNeed, Cond.instanceMethod yX3_computedNeed, Cond.selects RX3 yX3_computedNeed yX3_computedNeed, Cond.code yX3_computedNeed cX3_computedNeed 1 (some .int), Cond.methodLink RX3 51 yX3_root, Cond.static yX3_root, Cond.code yX3_root cX3_root 2 (some .int), Cond.methodLink RX3 39 yX3_computedWant, Cond.instanceMethod yX3_computedWant, Cond.selects RX3 yX3_computedWant yX3_computedWant, Cond.code yX3_computedWant cX3_computedWant 1 (some .int), Cond.methodLink RX4 38 yX4_goThroughQueue, Cond.instanceMethod yX4_goThroughQueue, Cond.selects RX4 yX4_goThroughQueue yX4_goThroughQueue, Cond.initialized RX4, Cond.code yX4_goThroughQueue cX4_goThroughQueue 3 none, Cond.methodLink RX4 53 yX4_firstInQueue, Cond.instanceMethod yX4_firstInQueue, Cond.selects RX4 yX4_firstInQueue yX4_firstInQueue, Cond.code yX4_firstInQueue cX4_firstInQueue 6 (some (.object "JoinGrants$Join")), Cond.methodLink RX4 61 yX1_isIn]
def wsX4_take_r3 : List Cond := [Cond.instanceMethod yX1_isIn, Cond.selects RX1 yX1_isIn yX1_isIn, Cond.code yX1_isIn cX1_isIn 2 (some .boolean), Cond.methodLink RX4 65 yX4_isAhead, Cond.instanceMethod yX4_isAhead, Cond.selects RX4 yX4_isAhead yX4_isAhead, Cond.code yX4_isAhead cX4_isAhead 5 (some .boolean), Cond.methodLink RX4 69 yX1_need, Cond.instanceMethod yX1_need, Cond.selects RX1 yX1_need yX1_need, Cond.code yX1_need cX1_need 1 (some .int), Cond.methodLink RX4 101 yX4_setting, Cond.instanceMethod yX4_setting, Cond.selects RX4 yX4_setting yX4_setting, Cond.code yX4_setting cX4_setting 2 (some .int), Cond.fieldLink RX4 20 "JoinGrants$Pool" "settings" "[I", Cond.methodLink RX4 49 yX1_number, Cond.instanceMethod yX1_number, Cond.selects RX1 yX1_number yX1_number, Cond.code yX1_number cX1_number 1 (some .int), Cond.fieldLink RX1 20 "JoinGrants$Join" "number" "I", Cond.methodLink RX4 57 yX4_start, Cond.instanceMethod yX4_start, Cond.selects RX4 yX4_start yX4_start]
def wsX4_take_r4 : List Cond := [Cond.code yX4_start cX4_start 4 (some .boolean), Cond.methodLink RX4 78 Lib.Math.min.name, Cond.static Lib.Math.min.name, Cond.code Lib.Math.min.name Lib.Math.min.code 2 (some .int), Cond.fieldLink RX4 92 "JoinGrants$Pool" "mostGranted" "I", Cond.methodLink RX4 98 Lib.Math.max.name, Cond.methodLink RX4 72 yX4_free, Cond.instanceMethod yX4_free, Cond.selects RX4 yX4_free yX4_free, Cond.code yX4_free cX4_free 1 (some .int), Cond.methodLink RX4 95 yX4_granted, Cond.instanceMethod yX4_granted, Cond.selects RX4 yX4_granted yX4_granted, Cond.code yX4_granted cX4_granted 6 (some .int), Cond.methodLink RX4 141 yX1_pages, Cond.instanceMethod yX1_pages, Cond.selects RX1 yX1_pages yX1_pages, Cond.code yX1_pages cX1_pages 1 (some .int), Cond.fieldLink RX1 31 "JoinGrants$Join" "pages" "I", Cond.methodLink RX4 75 yX1_want, Cond.instanceMethod yX1_want, Cond.selects RX1 yX1_want yX1_want, Cond.code yX1_want cX1_want 1 (some .int), Cond.methodLink RX4 84 yX1_start]
def wsX4_take_r5 : List Cond := [Cond.instanceMethod yX1_start, Cond.selects RX1 yX1_start yX1_start, Cond.code yX1_start cX1_start 2 none, Cond.fieldLink RX1 38 "JoinGrants$Join" "workLeft" "I", Cond.methodLink RX1 34 yX3_workWith, Cond.instanceMethod yX3_workWith, Cond.selects RX3 yX3_workWith yX3_workWith, Cond.code yX3_workWith cX3_workWith 5 (some .int), Cond.methodLink RX4 86 yX4_canAskBack, Cond.instanceMethod yX4_canAskBack, Cond.selects RX4 yX4_canAskBack yX4_canAskBack, Cond.code yX4_canAskBack cX4_canAskBack 2 (some .boolean), Cond.methodLink RX4 105 yX4_surplus, Cond.instanceMethod yX4_surplus, Cond.selects RX4 yX4_surplus yX4_surplus, Cond.code yX4_surplus cX4_surplus 6 (some .int), Cond.methodLink RX4 111 yX1_surplus, Cond.instanceMethod yX1_surplus, Cond.selects RX1 yX1_surplus yX1_surplus, Cond.code yX1_surplus cX1_surplus 1 (some .int), Cond.methodLink RX4 89 yX4_askBack, Cond.instanceMethod yX4_askBack, Cond.selects RX4 yX4_askBack yX4_askBack, Cond.code yX4_askBack cX4_askBack 6 none]
def wsX4_take_r6 : List Cond := [Cond.fieldLink RX4 115 "JoinGrants$Pool" "askedBack" "I", Cond.methodLink RX4 108 yX4_richest, Cond.instanceMethod yX4_richest, Cond.selects RX4 yX4_richest yX4_richest, Cond.code yX4_richest cX4_richest 6 (some (.object "JoinGrants$Join")), Cond.methodLink RX4 112 yX1_giveBack, Cond.instanceMethod yX1_giveBack, Cond.selects RX1 yX1_giveBack yX1_giveBack, Cond.code yX1_giveBack cX1_giveBack 6 none, Cond.fieldLink RX1 41 "JoinGrants$Join" "givenBack" "I"]
def wsX4_take : List Cond := .code yX4_take cX4_take 5 (some .int) :: ((wsX4_take_r1 ++ (wsX4_take_r2 ++ (wsX4_take_r3 ++ (wsX4_take_r4 ++ (wsX4_take_r5 ++ wsX4_take_r6))))) ++ wsX40 ++ wsX10 ++ wsX30)
def wsX4_rankOf_r1 : List Cond := [Cond.fieldLink RX4 25 "JoinGrants$Pool" "joins" "[LJoinGrants$Join;", Cond.methodLink RX4 61 yX1_isIn, Cond.instanceMethod yX1_isIn, Cond.selects RX1 yX1_isIn yX1_isIn, Cond.initialized RX1, Cond.code yX1_isIn cX1_isIn 2 (some .boolean), Cond.fieldLink RX1 16 "JoinGrants$Join" "state" "I", Cond.methodLink RX4 65 yX4_isAhead, Cond.instanceMethod yX4_isAhead, Cond.selects RX4 yX4_isAhead yX4_isAhead, Cond.initialized RX4, Cond.code yX4_isAhead cX4_isAhead 5 (some .boolean), Cond.methodLink RX4 69 yX1_need, Cond.instanceMethod yX1_need, Cond.selects RX1 yX1_need yX1_need, Cond.code yX1_need cX1_need 1 (some .int), Cond.fieldLink RX1 10 "JoinGrants$Join" "plan" "LJoinGrants$Plan;", Cond.methodLink RX4 101 yX4_setting, Cond.instanceMethod yX4_setting, Cond.selects RX4 yX4_setting yX4_setting, Cond.code yX4_setting cX4_setting 2 (some .int), Cond.fieldLink RX4 20 "JoinGrants$Pool" "settings" "[I", Cond.methodLink RX4 49 yX1_number, Cond.instanceMethod yX1_number]
def wsX4_rankOf_r2 : List Cond := [Cond.selects RX1 yX1_number yX1_number, Cond.code yX1_number cX1_number 1 (some .int), Cond.fieldLink RX1 20 "JoinGrants$Join" "number" "I"]
def wsX4_rankOf : List Cond := .code yX4_rankOf cX4_rankOf 7 (some .int) :: ((wsX4_rankOf_r1 ++ wsX4_rankOf_r2) ++ wsX40 ++ wsX10 ++ wsX30)
def wsX4_atRank_r1 : List Cond := [Cond.fieldLink RX4 25 "JoinGrants$Pool" "joins" "[LJoinGrants$Join;", Cond.methodLink RX4 61 yX1_isIn, Cond.instanceMethod yX1_isIn, Cond.selects RX1 yX1_isIn yX1_isIn, Cond.initialized RX1, Cond.code yX1_isIn cX1_isIn 2 (some .boolean), Cond.fieldLink RX1 16 "JoinGrants$Join" "state" "I", Cond.methodLink RX4 118 yX4_rankOf, Cond.instanceMethod yX4_rankOf, Cond.selects RX4 yX4_rankOf yX4_rankOf, Cond.initialized RX4, Cond.code yX4_rankOf cX4_rankOf 7 (some .int), Cond.methodLink RX4 65 yX4_isAhead, Cond.instanceMethod yX4_isAhead, Cond.selects RX4 yX4_isAhead yX4_isAhead, Cond.code yX4_isAhead cX4_isAhead 5 (some .boolean), Cond.methodLink RX4 69 yX1_need, Cond.instanceMethod yX1_need, Cond.selects RX1 yX1_need yX1_need, Cond.code yX1_need cX1_need 1 (some .int), Cond.fieldLink RX1 10 "JoinGrants$Join" "plan" "LJoinGrants$Plan;", Cond.methodLink RX4 101 yX4_setting, Cond.instanceMethod yX4_setting, Cond.selects RX4 yX4_setting yX4_setting]
def wsX4_atRank_r2 : List Cond := [Cond.code yX4_setting cX4_setting 2 (some .int), Cond.fieldLink RX4 20 "JoinGrants$Pool" "settings" "[I", Cond.methodLink RX4 49 yX1_number, Cond.instanceMethod yX1_number, Cond.selects RX1 yX1_number yX1_number, Cond.code yX1_number cX1_number 1 (some .int), Cond.fieldLink RX1 20 "JoinGrants$Join" "number" "I"]
def wsX4_atRank : List Cond := .code yX4_atRank cX4_atRank 6 (some (.object "JoinGrants$Join")) :: ((wsX4_atRank_r1 ++ wsX4_atRank_r2) ++ wsX40 ++ wsX10 ++ wsX30)
def wsX4_hindrance_r1 : List Cond := [Cond.methodLink RX4 61 yX1_isIn, Cond.instanceMethod yX1_isIn, Cond.selects RX1 yX1_isIn yX1_isIn, Cond.initialized RX1, Cond.code yX1_isIn cX1_isIn 2 (some .boolean), Cond.fieldLink RX1 16 "JoinGrants$Join" "state" "I", Cond.methodLink RX4 69 yX1_need, Cond.instanceMethod yX1_need, Cond.selects RX1 yX1_need yX1_need, Cond.code yX1_need cX1_need 1 (some .int), Cond.fieldLink RX1 10 "JoinGrants$Join" "plan" "LJoinGrants$Plan;", Cond.methodLink RX4 101 yX4_setting, Cond.instanceMethod yX4_setting, Cond.selects RX4 yX4_setting yX4_setting, Cond.initialized RX4, Cond.code yX4_setting cX4_setting 2 (some .int), Cond.fieldLink RX4 20 "JoinGrants$Pool" "settings" "[I", Cond.methodLink RX4 118 yX4_rankOf, Cond.instanceMethod yX4_rankOf, Cond.selects RX4 yX4_rankOf yX4_rankOf, Cond.code yX4_rankOf cX4_rankOf 7 (some .int), Cond.fieldLink RX4 25 "JoinGrants$Pool" "joins" "[LJoinGrants$Join;", Cond.methodLink RX4 65 yX4_isAhead, Cond.instanceMethod yX4_isAhead]
def wsX4_hindrance_r2 : List Cond := [Cond.selects RX4 yX4_isAhead yX4_isAhead, Cond.code yX4_isAhead cX4_isAhead 5 (some .boolean), Cond.methodLink RX4 49 yX1_number, Cond.instanceMethod yX1_number, Cond.selects RX1 yX1_number yX1_number, Cond.code yX1_number cX1_number 1 (some .int), Cond.fieldLink RX1 20 "JoinGrants$Join" "number" "I"]
def wsX4_hindrance : List Cond := .code yX4_hindrance cX4_hindrance 2 (some .int) :: ((wsX4_hindrance_r1 ++ wsX4_hindrance_r2) ++ wsX10 ++ wsX30 ++ wsX40)
def wsX4_leap_r1 : List Cond := [Cond.fieldLink RX4 25 "JoinGrants$Pool" "joins" "[LJoinGrants$Join;", Cond.methodLink RX4 78 Lib.Math.min.name, Cond.static Lib.Math.min.name, Cond.initialized "java/lang/Math", Cond.code Lib.Math.min.name Lib.Math.min.code 2 (some .int), Cond.fieldLink RX4 125 "JoinGrants$Pool" "workDone" "I", Cond.fieldLink RX4 138 "JoinGrants$Pool" "steps" "I", Cond.methodLink RX4 101 yX4_setting, Cond.instanceMethod yX4_setting, Cond.selects RX4 yX4_setting yX4_setting, Cond.initialized RX4, Cond.code yX4_setting cX4_setting 2 (some .int), Cond.fieldLink RX4 20 "JoinGrants$Pool" "settings" "[I", Cond.methodLink RX4 61 yX1_isIn, Cond.instanceMethod yX1_isIn, Cond.selects RX1 yX1_isIn yX1_isIn, Cond.initialized RX1, Cond.code yX1_isIn cX1_isIn 2 (some .boolean), Cond.fieldLink RX1 16 "JoinGrants$Join" "state" "I", Cond.methodLink RX4 122 yX1_stepsLeft, Cond.instanceMethod yX1_stepsLeft, Cond.selects RX1 yX1_stepsLeft yX1_stepsLeft, Cond.code yX1_stepsLeft cX1_stepsLeft 2 (some .int), Cond.fieldLink RX1 38 "JoinGrants$Join" "workLeft" "I"]
def wsX4_leap_r2 : List Cond := [Cond.methodLink RX4 128 yX1_pass, Cond.instanceMethod yX1_pass, Cond.selects RX1 yX1_pass yX1_pass, Cond.code yX1_pass cX1_pass 4 (some .int), Cond.fieldLink RX1 44 "JoinGrants$Join" "stepsWaited" "I", Cond.fieldLink RX1 47 "JoinGrants$Join" "stepsWorked" "I", Cond.methodLink RX1 50 Lib.Math.min.name, Cond.methodLink RX4 131 yX1_hasWorkedAll, Cond.instanceMethod yX1_hasWorkedAll, Cond.selects RX1 yX1_hasWorkedAll yX1_hasWorkedAll, Cond.code yX1_hasWorkedAll cX1_hasWorkedAll 1 (some .boolean), Cond.methodLink RX4 135 yX1_end, Cond.instanceMethod yX1_end, Cond.selects RX1 yX1_end yX1_end, Cond.code yX1_end cX1_end 2 none, Cond.fieldLink RX1 31 "JoinGrants$Join" "pages" "I", Cond.methodLink RX4 38 yX4_goThroughQueue, Cond.instanceMethod yX4_goThroughQueue, Cond.selects RX4 yX4_goThroughQueue yX4_goThroughQueue, Cond.code yX4_goThroughQueue cX4_goThroughQueue 3 none, Cond.methodLink RX4 53 yX4_firstInQueue, Cond.instanceMethod yX4_firstInQueue, Cond.selects RX4 yX4_firstInQueue yX4_firstInQueue, Cond.code yX4_firstInQueue cX4_firstInQueue 6 (some (.object "JoinGrants$Join"))]
def wsX4_leap_r3 : List Cond := [Cond.methodLink RX4 65 yX4_isAhead, Cond.instanceMethod yX4_isAhead, Cond.selects RX4 yX4_isAhead yX4_isAhead, Cond.code yX4_isAhead cX4_isAhead 5 (some .boolean), Cond.methodLink RX4 69 yX1_need, Cond.instanceMethod yX1_need, Cond.selects RX1 yX1_need yX1_need, Cond.code yX1_need cX1_need 1 (some .int), Cond.fieldLink RX1 10 "JoinGrants$Join" "plan" "LJoinGrants$Plan;", Cond.methodLink RX4 49 yX1_number, Cond.instanceMethod yX1_number, Cond.selects RX1 yX1_number yX1_number, Cond.code yX1_number cX1_number 1 (some .int), Cond.fieldLink RX1 20 "JoinGrants$Join" "number" "I", Cond.methodLink RX4 57 yX4_start, Cond.instanceMethod yX4_start, Cond.selects RX4 yX4_start yX4_start, Cond.code yX4_start cX4_start 4 (some .boolean), Cond.fieldLink RX4 92 "JoinGrants$Pool" "mostGranted" "I", Cond.methodLink RX4 98 Lib.Math.max.name, Cond.static Lib.Math.max.name, Cond.code Lib.Math.max.name Lib.Math.max.code 2 (some .int), Cond.methodLink RX4 72 yX4_free, Cond.instanceMethod yX4_free]
def wsX4_leap_r4 : List Cond := [Cond.selects RX4 yX4_free yX4_free, Cond.code yX4_free cX4_free 1 (some .int), Cond.methodLink RX4 95 yX4_granted, Cond.instanceMethod yX4_granted, Cond.selects RX4 yX4_granted yX4_granted, Cond.code yX4_granted cX4_granted 6 (some .int), Cond.methodLink RX4 141 yX1_pages, Cond.instanceMethod yX1_pages, Cond.selects RX1 yX1_pages yX1_pages, Cond.code yX1_pages cX1_pages 1 (some .int), Cond.methodLink RX4 75 yX1_want, Cond.instanceMethod yX1_want, Cond.selects RX1 yX1_want yX1_want, Cond.code yX1_want cX1_want 1 (some .int), Cond.methodLink RX4 84 yX1_start, Cond.instanceMethod yX1_start, Cond.selects RX1 yX1_start yX1_start, Cond.code yX1_start cX1_start 2 none, Cond.methodLink RX1 34 yX3_workWith, Cond.instanceMethod yX3_workWith, Cond.selects RX3 yX3_workWith yX3_workWith, Cond.initialized RX3, Cond.code yX3_workWith cX3_workWith 5 (some .int), Cond.fieldLink RX3 18 "JoinGrants$Plan" "left" "I"]
def wsX4_leap_r5 : List Cond := [Cond.fieldLink RX3 22 "JoinGrants$Plan" "right" "I", Cond.fieldLink RX3 29 "JoinGrants$Plan" "way" "I", Cond.fieldLink RX3 48 "JoinGrants$Plan" "want" "I", Cond.methodLink RX4 86 yX4_canAskBack, Cond.instanceMethod yX4_canAskBack, Cond.selects RX4 yX4_canAskBack yX4_canAskBack, Cond.code yX4_canAskBack cX4_canAskBack 2 (some .boolean), Cond.methodLink RX4 105 yX4_surplus, Cond.instanceMethod yX4_surplus, Cond.selects RX4 yX4_surplus yX4_surplus, Cond.code yX4_surplus cX4_surplus 6 (some .int), Cond.methodLink RX4 111 yX1_surplus, Cond.instanceMethod yX1_surplus, Cond.selects RX1 yX1_surplus yX1_surplus, Cond.code yX1_surplus cX1_surplus 1 (some .int), Cond.methodLink RX4 89 yX4_askBack, Cond.instanceMethod yX4_askBack, Cond.selects RX4 yX4_askBack yX4_askBack, Cond.code yX4_askBack cX4_askBack 6 none, Cond.fieldLink RX4 115 "JoinGrants$Pool" "askedBack" "I", Cond.methodLink RX4 108 yX4_richest, Cond.instanceMethod yX4_richest, Cond.selects RX4 yX4_richest yX4_richest, Cond.code yX4_richest cX4_richest 6 (some (.object "JoinGrants$Join"))]
def wsX4_leap_r6 : List Cond := [Cond.methodLink RX4 112 yX1_giveBack, Cond.instanceMethod yX1_giveBack, Cond.selects RX1 yX1_giveBack yX1_giveBack, Cond.code yX1_giveBack cX1_giveBack 6 none, Cond.fieldLink RX1 41 "JoinGrants$Join" "givenBack" "I"]
def wsX4_leap : List Cond := .code yX4_leap cX4_leap 9 (some .int) :: ((wsX4_leap_r1 ++ (wsX4_leap_r2 ++ (wsX4_leap_r3 ++ (wsX4_leap_r4 ++ (wsX4_leap_r5 ++ wsX4_leap_r6))))) ++ wsX40 ++ wsX10 ++ wsX30)
def wsX4_steps : List Cond := .code yX4_steps cX4_steps 1 (some .int) :: ([.fieldLink RX4 138 "JoinGrants$Pool" "steps" "I"] ++ wsX40)
def wsX4_spilling : List Cond := .code yX4_spilling cX4_spilling 6 (some .int) :: ([.fieldLink RX4 25 "JoinGrants$Pool" "joins" "[LJoinGrants$Join;", .methodLink RX4 144 yX1_spills, .instanceMethod yX1_spills, .selects RX1 yX1_spills yX1_spills, .initialized RX1, .code yX1_spills cX1_spills 1 (some .boolean), .fieldLink RX1 16 "JoinGrants$Join" "state" "I", .fieldLink RX1 10 "JoinGrants$Join" "plan" "LJoinGrants$Plan;", .fieldLink RX1 31 "JoinGrants$Join" "pages" "I", .methodLink RX1 59 yX3_spillsWith, .instanceMethod yX3_spillsWith, .selects RX3 yX3_spillsWith yX3_spillsWith, .initialized RX3, .code yX3_spillsWith cX3_spillsWith 2 (some .boolean), .fieldLink RX3 29 "JoinGrants$Plan" "way" "I", .fieldLink RX3 48 "JoinGrants$Plan" "want" "I"] ++ wsX40 ++ wsX10 ++ wsX30)
def wsX4_joinsIn : List Cond := .code yX4_joinsIn cX4_joinsIn 7 (some .int) :: ([.fieldLink RX4 25 "JoinGrants$Pool" "joins" "[LJoinGrants$Join;", .methodLink RX4 61 yX1_isIn, .instanceMethod yX1_isIn, .selects RX1 yX1_isIn yX1_isIn, .initialized RX1, .code yX1_isIn cX1_isIn 2 (some .boolean), .fieldLink RX1 16 "JoinGrants$Join" "state" "I"] ++ wsX40 ++ wsX10)
def wsX4_canTell : List Cond := .code yX4_canTell cX4_canTell 1 (some .boolean) :: ([])
def wsX4_tell_r1 : List Cond := [Cond.fieldLink RX4 41 "JoinGrants$Pool" "joinsSoFar" "I", Cond.fieldLink RX4 92 "JoinGrants$Pool" "mostGranted" "I", Cond.fieldLink RX4 138 "JoinGrants$Pool" "steps" "I", Cond.fieldLink RX4 125 "JoinGrants$Pool" "workDone" "I", Cond.fieldLink RX4 115 "JoinGrants$Pool" "askedBack" "I", Cond.methodLink RX4 147 yX4_joinsIn, Cond.instanceMethod yX4_joinsIn, Cond.selects RX4 yX4_joinsIn yX4_joinsIn, Cond.initialized RX4, Cond.code yX4_joinsIn cX4_joinsIn 7 (some .int), Cond.fieldLink RX4 25 "JoinGrants$Pool" "joins" "[LJoinGrants$Join;", Cond.methodLink RX4 61 yX1_isIn, Cond.instanceMethod yX1_isIn, Cond.selects RX1 yX1_isIn yX1_isIn, Cond.initialized RX1, Cond.code yX1_isIn cX1_isIn 2 (some .boolean), Cond.fieldLink RX1 16 "JoinGrants$Join" "state" "I", Cond.methodLink RX4 95 yX4_granted, Cond.instanceMethod yX4_granted, Cond.selects RX4 yX4_granted yX4_granted, Cond.code yX4_granted cX4_granted 6 (some .int), Cond.methodLink RX4 141 yX1_pages, Cond.instanceMethod yX1_pages, Cond.selects RX1 yX1_pages yX1_pages]
def wsX4_tell_r2 : List Cond := [Cond.code yX1_pages cX1_pages 1 (some .int), Cond.fieldLink RX1 31 "JoinGrants$Join" "pages" "I", Cond.methodLink RX4 72 yX4_free, Cond.instanceMethod yX4_free, Cond.selects RX4 yX4_free yX4_free, Cond.code yX4_free cX4_free 1 (some .int), Cond.methodLink RX4 98 Lib.Math.max.name, Cond.static Lib.Math.max.name, Cond.initialized "java/lang/Math", Cond.code Lib.Math.max.name Lib.Math.max.code 2 (some .int), Cond.methodLink RX4 101 yX4_setting, Cond.instanceMethod yX4_setting, Cond.selects RX4 yX4_setting yX4_setting, Cond.code yX4_setting cX4_setting 2 (some .int), Cond.fieldLink RX4 20 "JoinGrants$Pool" "settings" "[I", Cond.methodLink RX4 150 yX4_spilling, Cond.instanceMethod yX4_spilling, Cond.selects RX4 yX4_spilling yX4_spilling, Cond.code yX4_spilling cX4_spilling 6 (some .int), Cond.methodLink RX4 144 yX1_spills, Cond.instanceMethod yX1_spills, Cond.selects RX1 yX1_spills yX1_spills, Cond.code yX1_spills cX1_spills 1 (some .boolean), Cond.fieldLink RX1 10 "JoinGrants$Join" "plan" "LJoinGrants$Plan;"]
def wsX4_tell_r3 : List Cond := [Cond.methodLink RX1 59 yX3_spillsWith, Cond.instanceMethod yX3_spillsWith, Cond.selects RX3 yX3_spillsWith yX3_spillsWith, Cond.initialized RX3, Cond.code yX3_spillsWith cX3_spillsWith 2 (some .boolean), Cond.fieldLink RX3 29 "JoinGrants$Plan" "way" "I", Cond.fieldLink RX3 48 "JoinGrants$Plan" "want" "I"]
def wsX4_tell : List Cond := .code yX4_tell cX4_tell 2 (some .int) :: ((wsX4_tell_r1 ++ (wsX4_tell_r2 ++ wsX4_tell_r3)) ++ wsX40 ++ wsX10 ++ wsX30)
def wsX5_init_r1 : List Cond := [Cond.methodLink RX5 1 objectInit, Cond.instanceMethod objectInit, Cond.code objectInit ⟨#[0xb1]⟩ 1 none, Cond.classLink RX5 7 RX4, Cond.instantiable RX4 7, Cond.initialized RX4, Cond.fieldLink RX5 10 "JoinGrants" "pool" "LJoinGrants$Pool;", Cond.classLink RX5 16 RX0, Cond.instantiable RX0 2, Cond.initialized RX0, Cond.fieldLink RX5 19 "JoinGrants" "history" "LJoinGrants$History;", Cond.classLink RX5 23 RX2, Cond.instantiable RX2 10, Cond.initialized RX2, Cond.fieldLink RX5 26 "JoinGrants" "text" "LJoinGrants$JoinText;", Cond.fieldLink RX5 30 "JoinGrants" "snapshot" "LJoinGrants$Pool;", Cond.fieldLink RX5 33 "JoinGrants" "trialPool" "LJoinGrants$Pool;", Cond.classLink RX5 36 RX3, Cond.instantiable RX3 5, Cond.initialized RX3, Cond.fieldLink RX5 39 "JoinGrants" "trialPlan" "LJoinGrants$Plan;", Cond.fieldLink RX5 43 "JoinGrants" "snapshotTaken" "Z", Cond.methodLink RX5 9 yX4_init, Cond.instanceMethod yX4_init]
def wsX5_init_r2 : List Cond := [Cond.code yX4_init cX4_init 2 none, Cond.methodLink RX4 3 objectInit, Cond.fieldLink RX4 9 "JoinGrants$Pool" "FIRST" "[I", Cond.methodLink RX4 15 ⟨"[I", "clone", "()Ljava/lang/Object;"⟩, Cond.sameMethod "[I" "java/lang/Object" "clone" "()Ljava/lang/Object;", Cond.native ⟨"java/lang/Object", "clone", "()Ljava/lang/Object;"⟩, Cond.instanceMethod ⟨"java/lang/Object", "clone", "()Ljava/lang/Object;"⟩, Cond.selects "[I" ⟨"[I", "clone", "()Ljava/lang/Object;"⟩ ⟨"java/lang/Object", "clone", "()Ljava/lang/Object;"⟩, Cond.classLink RX4 16 "[I", Cond.fieldLink RX4 20 "JoinGrants$Pool" "settings" "[I", Cond.classLink RX4 23 RX1, Cond.fieldLink RX4 25 "JoinGrants$Pool" "joins" "[LJoinGrants$Join;", Cond.instantiable RX1 8, Cond.initialized RX1, Cond.methodLink RX4 29 yX1_init, Cond.instanceMethod yX1_init, Cond.code yX1_init cX1_init 2 none, Cond.methodLink RX1 1 objectInit, Cond.classLink RX1 7 RX3, Cond.fieldLink RX1 10 "JoinGrants$Join" "plan" "LJoinGrants$Plan;", Cond.fieldLink RX1 16 "JoinGrants$Join" "state" "I", Cond.fieldLink RX1 20 "JoinGrants$Join" "number" "I", Cond.instanceMethod yX3_init, Cond.code yX3_init cX3_init 1 none]
def wsX5_init_r3 : List Cond := [Cond.methodLink RX3 3 objectInit, Cond.methodLink RX5 18 yX0_init, Cond.instanceMethod yX0_init, Cond.code yX0_init cX0_init 2 none, Cond.methodLink RX0 1 objectInit, Cond.classLink RX0 9 RX4, Cond.fieldLink RX0 11 "JoinGrants$History" "states" "[LJoinGrants$Pool;", Cond.methodLink RX0 15 yX4_init, Cond.instanceMethod yX2_init, Cond.code yX2_init cX2_init 1 none, Cond.methodLink RX2 1 objectInit, Cond.arrayClass .char, Cond.fieldLink RX2 9 "JoinGrants$JoinText" "characters" "[C", Cond.arrayClass .int, Cond.fieldLink RX2 13 "JoinGrants$JoinText" "ways" "[I", Cond.fieldLink RX2 17 "JoinGrants$JoinText" "lefts" "[I", Cond.fieldLink RX2 20 "JoinGrants$JoinText" "rights" "[I"]
def wsX5_init : List Cond := .code yX5_init cX5_init 1 none :: ((wsX5_init_r1 ++ (wsX5_init_r2 ++ wsX5_init_r3)) ++ wsX40 ++ wsX50 ++ wsX00 ++ wsX20 ++ wsX30 ++ wsX10)
def wsX5_ask_r1 : List Cond := [Cond.fieldLink RX5 10 "JoinGrants" "pool" "LJoinGrants$Pool;", Cond.fieldLink RX5 19 "JoinGrants" "history" "LJoinGrants$History;", Cond.methodLink RX5 47 yX3_fits, Cond.static yX3_fits, Cond.initialized RX3, Cond.code yX3_fits cX3_fits 3 (some .boolean), Cond.methodLink RX3 11 yX3_isWay, Cond.static yX3_isWay, Cond.code yX3_isWay cX3_isWay 1 (some .boolean), Cond.methodLink RX3 15 yX3_isTable, Cond.static yX3_isTable, Cond.code yX3_isTable cX3_isTable 1 (some .boolean), Cond.methodLink RX5 51 yX4_room, Cond.instanceMethod yX4_room, Cond.selects RX4 yX4_room yX4_room, Cond.initialized RX4, Cond.code yX4_room cX4_room 1 (some .int), Cond.fieldLink RX4 25 "JoinGrants$Pool" "joins" "[LJoinGrants$Join;", Cond.fieldLink RX4 41 "JoinGrants$Pool" "joinsSoFar" "I", Cond.methodLink RX5 55 yX0_record, Cond.instanceMethod yX0_record, Cond.selects RX0 yX0_record yX0_record, Cond.initialized RX0, Cond.code yX0_record cX0_record 2 none]
def wsX5_ask_r2 : List Cond := [Cond.fieldLink RX0 16 "JoinGrants$History" "size" "I", Cond.fieldLink RX0 11 "JoinGrants$History" "states" "[LJoinGrants$Pool;", Cond.methodLink RX0 20 yX0_dropOldest, Cond.instanceMethod yX0_dropOldest, Cond.selects RX0 yX0_dropOldest yX0_dropOldest, Cond.code yX0_dropOldest cX0_dropOldest 3 none, Cond.methodLink RX0 23 yX4_copyFrom, Cond.instanceMethod yX4_copyFrom, Cond.selects RX4 yX4_copyFrom yX4_copyFrom, Cond.code yX4_copyFrom cX4_copyFrom 3 none, Cond.fieldLink RX4 20 "JoinGrants$Pool" "settings" "[I", Cond.fieldLink RX4 92 "JoinGrants$Pool" "mostGranted" "I", Cond.fieldLink RX4 138 "JoinGrants$Pool" "steps" "I", Cond.fieldLink RX4 125 "JoinGrants$Pool" "workDone" "I", Cond.fieldLink RX4 115 "JoinGrants$Pool" "askedBack" "I", Cond.methodLink RX4 153 yX1_copyFrom, Cond.instanceMethod yX1_copyFrom, Cond.selects RX1 yX1_copyFrom yX1_copyFrom, Cond.initialized RX1, Cond.code yX1_copyFrom cX1_copyFrom 2 none, Cond.fieldLink RX1 10 "JoinGrants$Join" "plan" "LJoinGrants$Plan;", Cond.fieldLink RX1 16 "JoinGrants$Join" "state" "I", Cond.fieldLink RX1 31 "JoinGrants$Join" "pages" "I", Cond.fieldLink RX1 38 "JoinGrants$Join" "workLeft" "I"]
def wsX5_ask_r3 : List Cond := [Cond.fieldLink RX1 44 "JoinGrants$Join" "stepsWaited" "I", Cond.fieldLink RX1 47 "JoinGrants$Join" "stepsWorked" "I", Cond.fieldLink RX1 41 "JoinGrants$Join" "givenBack" "I", Cond.methodLink RX1 79 yX3_copyFrom, Cond.instanceMethod yX3_copyFrom, Cond.selects RX3 yX3_copyFrom yX3_copyFrom, Cond.code yX3_copyFrom cX3_copyFrom 2 none, Cond.fieldLink RX3 29 "JoinGrants$Plan" "way" "I", Cond.fieldLink RX3 18 "JoinGrants$Plan" "left" "I", Cond.fieldLink RX3 22 "JoinGrants$Plan" "right" "I", Cond.fieldLink RX3 36 "JoinGrants$Plan" "need" "I", Cond.fieldLink RX3 48 "JoinGrants$Plan" "want" "I", Cond.methodLink RX5 59 yX4_take, Cond.instanceMethod yX4_take, Cond.selects RX4 yX4_take yX4_take, Cond.code yX4_take cX4_take 5 (some .int), Cond.methodLink RX4 45 yX1_come, Cond.instanceMethod yX1_come, Cond.selects RX1 yX1_come yX1_come, Cond.code yX1_come cX1_come 4 none, Cond.methodLink RX1 23 yX3_make, Cond.instanceMethod yX3_make, Cond.selects RX3 yX3_make yX3_make, Cond.code yX3_make cX3_make 4 none]
def wsX5_ask_r4 : List Cond := [Cond.methodLink RX3 25 yX3_changeWay, Cond.instanceMethod yX3_changeWay, Cond.selects RX3 yX3_changeWay yX3_changeWay, Cond.code yX3_changeWay cX3_changeWay 2 none, Cond.methodLink RX3 42 Lib.Math.max.name, Cond.static Lib.Math.max.name, Cond.initialized "java/lang/Math", Cond.code Lib.Math.max.name Lib.Math.max.code 2 (some .int), Cond.methodLink RX3 32 yX3_computedNeed, Cond.instanceMethod yX3_computedNeed, Cond.selects RX3 yX3_computedNeed yX3_computedNeed, Cond.code yX3_computedNeed cX3_computedNeed 1 (some .int), Cond.methodLink RX3 51 yX3_root, Cond.static yX3_root, Cond.code yX3_root cX3_root 2 (some .int), Cond.methodLink RX3 39 yX3_computedWant, Cond.instanceMethod yX3_computedWant, Cond.selects RX3 yX3_computedWant yX3_computedWant, Cond.code yX3_computedWant cX3_computedWant 1 (some .int), Cond.methodLink RX4 38 yX4_goThroughQueue, Cond.instanceMethod yX4_goThroughQueue, Cond.selects RX4 yX4_goThroughQueue yX4_goThroughQueue, Cond.code yX4_goThroughQueue cX4_goThroughQueue 3 none, Cond.methodLink RX4 53 yX4_firstInQueue]
def wsX5_ask_r5 : List Cond := [Cond.instanceMethod yX4_firstInQueue, Cond.selects RX4 yX4_firstInQueue yX4_firstInQueue, Cond.code yX4_firstInQueue cX4_firstInQueue 6 (some (.object "JoinGrants$Join")), Cond.methodLink RX4 61 yX1_isIn, Cond.instanceMethod yX1_isIn, Cond.selects RX1 yX1_isIn yX1_isIn, Cond.code yX1_isIn cX1_isIn 2 (some .boolean), Cond.methodLink RX4 65 yX4_isAhead, Cond.instanceMethod yX4_isAhead, Cond.selects RX4 yX4_isAhead yX4_isAhead, Cond.code yX4_isAhead cX4_isAhead 5 (some .boolean), Cond.methodLink RX4 69 yX1_need, Cond.instanceMethod yX1_need, Cond.selects RX1 yX1_need yX1_need, Cond.code yX1_need cX1_need 1 (some .int), Cond.methodLink RX4 101 yX4_setting, Cond.instanceMethod yX4_setting, Cond.selects RX4 yX4_setting yX4_setting, Cond.code yX4_setting cX4_setting 2 (some .int), Cond.methodLink RX4 49 yX1_number, Cond.instanceMethod yX1_number, Cond.selects RX1 yX1_number yX1_number, Cond.code yX1_number cX1_number 1 (some .int), Cond.fieldLink RX1 20 "JoinGrants$Join" "number" "I"]
def wsX5_ask_r6 : List Cond := [Cond.methodLink RX4 57 yX4_start, Cond.instanceMethod yX4_start, Cond.selects RX4 yX4_start yX4_start, Cond.code yX4_start cX4_start 4 (some .boolean), Cond.methodLink RX4 78 Lib.Math.min.name, Cond.static Lib.Math.min.name, Cond.code Lib.Math.min.name Lib.Math.min.code 2 (some .int), Cond.methodLink RX4 98 Lib.Math.max.name, Cond.methodLink RX4 72 yX4_free, Cond.instanceMethod yX4_free, Cond.selects RX4 yX4_free yX4_free, Cond.code yX4_free cX4_free 1 (some .int), Cond.methodLink RX4 95 yX4_granted, Cond.instanceMethod yX4_granted, Cond.selects RX4 yX4_granted yX4_granted, Cond.code yX4_granted cX4_granted 6 (some .int), Cond.methodLink RX4 141 yX1_pages, Cond.instanceMethod yX1_pages, Cond.selects RX1 yX1_pages yX1_pages, Cond.code yX1_pages cX1_pages 1 (some .int), Cond.methodLink RX4 75 yX1_want, Cond.instanceMethod yX1_want, Cond.selects RX1 yX1_want yX1_want, Cond.code yX1_want cX1_want 1 (some .int)]
def wsX5_ask_r7 : List Cond := [Cond.methodLink RX4 84 yX1_start, Cond.instanceMethod yX1_start, Cond.selects RX1 yX1_start yX1_start, Cond.code yX1_start cX1_start 2 none, Cond.methodLink RX1 34 yX3_workWith, Cond.instanceMethod yX3_workWith, Cond.selects RX3 yX3_workWith yX3_workWith, Cond.code yX3_workWith cX3_workWith 5 (some .int), Cond.methodLink RX4 86 yX4_canAskBack, Cond.instanceMethod yX4_canAskBack, Cond.selects RX4 yX4_canAskBack yX4_canAskBack, Cond.code yX4_canAskBack cX4_canAskBack 2 (some .boolean), Cond.methodLink RX4 105 yX4_surplus, Cond.instanceMethod yX4_surplus, Cond.selects RX4 yX4_surplus yX4_surplus, Cond.code yX4_surplus cX4_surplus 6 (some .int), Cond.methodLink RX4 111 yX1_surplus, Cond.instanceMethod yX1_surplus, Cond.selects RX1 yX1_surplus yX1_surplus, Cond.code yX1_surplus cX1_surplus 1 (some .int), Cond.methodLink RX4 89 yX4_askBack, Cond.instanceMethod yX4_askBack, Cond.selects RX4 yX4_askBack yX4_askBack, Cond.code yX4_askBack cX4_askBack 6 none]
def wsX5_ask_r8 : List Cond := [Cond.methodLink RX4 108 yX4_richest, Cond.instanceMethod yX4_richest, Cond.selects RX4 yX4_richest yX4_richest, Cond.code yX4_richest cX4_richest 6 (some (.object "JoinGrants$Join")), Cond.methodLink RX4 112 yX1_giveBack, Cond.instanceMethod yX1_giveBack, Cond.selects RX1 yX1_giveBack yX1_giveBack, Cond.code yX1_giveBack cX1_giveBack 6 none]
def wsX5_ask : List Cond := .code yX5_ask cX5_ask 4 (some .int) :: ((wsX5_ask_r1 ++ (wsX5_ask_r2 ++ (wsX5_ask_r3 ++ (wsX5_ask_r4 ++ (wsX5_ask_r5 ++ (wsX5_ask_r6 ++ (wsX5_ask_r7 ++ wsX5_ask_r8))))))) ++ wsX50 ++ wsX40 ++ wsX00 ++ wsX10 ++ wsX30)
def wsX5_askAll_r1 : List Cond := [Cond.fieldLink RX5 26 "JoinGrants" "text" "LJoinGrants$JoinText;", Cond.fieldLink RX5 10 "JoinGrants" "pool" "LJoinGrants$Pool;", Cond.fieldLink RX5 19 "JoinGrants" "history" "LJoinGrants$History;", Cond.methodLink RX5 63 yX2_read, Cond.instanceMethod yX2_read, Cond.selects RX2 yX2_read yX2_read, Cond.initialized RX2, Cond.code yX2_read cX2_read 2 (some .int), Cond.fieldLink RX2 27 "JoinGrants$JoinText" "joins" "I", Cond.fieldLink RX2 30 "JoinGrants$JoinText" "place" "I", Cond.fieldLink RX2 33 "JoinGrants$JoinText" "number" "I", Cond.fieldLink RX2 23 "JoinGrants$JoinText" "length" "I", Cond.fieldLink RX2 9 "JoinGrants$JoinText" "characters" "[C", Cond.methodLink RX2 36 yX2_takes, Cond.instanceMethod yX2_takes, Cond.selects RX2 yX2_takes yX2_takes, Cond.code yX2_takes cX2_takes 2 (some .boolean), Cond.fieldLink RX2 50 "JoinGrants$JoinText" "left" "I", Cond.methodLink RX2 43 yX2_takesWay, Cond.instanceMethod yX2_takesWay, Cond.selects RX2 yX2_takesWay yX2_takesWay, Cond.code yX2_takesWay cX2_takesWay 2 (some .boolean), Cond.fieldLink RX2 55 "JoinGrants$JoinText" "way" "I", Cond.methodLink RX2 46 yX2_takesDigit]
def wsX5_askAll_r2 : List Cond := [Cond.instanceMethod yX2_takesDigit, Cond.selects RX2 yX2_takesDigit yX2_takesDigit, Cond.code yX2_takesDigit cX2_takesDigit 3 (some .boolean), Cond.methodLink RX2 40 yX2_endJoin, Cond.instanceMethod yX2_endJoin, Cond.selects RX2 yX2_endJoin yX2_endJoin, Cond.code yX2_endJoin cX2_endJoin 1 none, Cond.fieldLink RX2 13 "JoinGrants$JoinText" "ways" "[I", Cond.fieldLink RX2 17 "JoinGrants$JoinText" "lefts" "[I", Cond.fieldLink RX2 20 "JoinGrants$JoinText" "rights" "[I", Cond.methodLink RX5 66 yX2_joins, Cond.instanceMethod yX2_joins, Cond.selects RX2 yX2_joins yX2_joins, Cond.code yX2_joins cX2_joins 1 (some .int), Cond.methodLink RX5 51 yX4_room, Cond.instanceMethod yX4_room, Cond.selects RX4 yX4_room yX4_room, Cond.initialized RX4, Cond.code yX4_room cX4_room 1 (some .int), Cond.fieldLink RX4 25 "JoinGrants$Pool" "joins" "[LJoinGrants$Join;", Cond.fieldLink RX4 41 "JoinGrants$Pool" "joinsSoFar" "I", Cond.methodLink RX5 55 yX0_record, Cond.instanceMethod yX0_record, Cond.selects RX0 yX0_record yX0_record]
def wsX5_askAll_r3 : List Cond := [Cond.initialized RX0, Cond.code yX0_record cX0_record 2 none, Cond.fieldLink RX0 16 "JoinGrants$History" "size" "I", Cond.fieldLink RX0 11 "JoinGrants$History" "states" "[LJoinGrants$Pool;", Cond.methodLink RX0 20 yX0_dropOldest, Cond.instanceMethod yX0_dropOldest, Cond.selects RX0 yX0_dropOldest yX0_dropOldest, Cond.code yX0_dropOldest cX0_dropOldest 3 none, Cond.methodLink RX0 23 yX4_copyFrom, Cond.instanceMethod yX4_copyFrom, Cond.selects RX4 yX4_copyFrom yX4_copyFrom, Cond.code yX4_copyFrom cX4_copyFrom 3 none, Cond.fieldLink RX4 20 "JoinGrants$Pool" "settings" "[I", Cond.fieldLink RX4 92 "JoinGrants$Pool" "mostGranted" "I", Cond.fieldLink RX4 138 "JoinGrants$Pool" "steps" "I", Cond.fieldLink RX4 125 "JoinGrants$Pool" "workDone" "I", Cond.fieldLink RX4 115 "JoinGrants$Pool" "askedBack" "I", Cond.methodLink RX4 153 yX1_copyFrom, Cond.instanceMethod yX1_copyFrom, Cond.selects RX1 yX1_copyFrom yX1_copyFrom, Cond.initialized RX1, Cond.code yX1_copyFrom cX1_copyFrom 2 none, Cond.fieldLink RX1 10 "JoinGrants$Join" "plan" "LJoinGrants$Plan;", Cond.fieldLink RX1 16 "JoinGrants$Join" "state" "I"]
def wsX5_askAll_r4 : List Cond := [Cond.fieldLink RX1 31 "JoinGrants$Join" "pages" "I", Cond.fieldLink RX1 38 "JoinGrants$Join" "workLeft" "I", Cond.fieldLink RX1 44 "JoinGrants$Join" "stepsWaited" "I", Cond.fieldLink RX1 47 "JoinGrants$Join" "stepsWorked" "I", Cond.fieldLink RX1 41 "JoinGrants$Join" "givenBack" "I", Cond.methodLink RX1 79 yX3_copyFrom, Cond.instanceMethod yX3_copyFrom, Cond.selects RX3 yX3_copyFrom yX3_copyFrom, Cond.initialized RX3, Cond.code yX3_copyFrom cX3_copyFrom 2 none, Cond.fieldLink RX3 29 "JoinGrants$Plan" "way" "I", Cond.fieldLink RX3 18 "JoinGrants$Plan" "left" "I", Cond.fieldLink RX3 22 "JoinGrants$Plan" "right" "I", Cond.fieldLink RX3 36 "JoinGrants$Plan" "need" "I", Cond.fieldLink RX3 48 "JoinGrants$Plan" "want" "I", Cond.methodLink RX5 69 yX2_wayOf, Cond.instanceMethod yX2_wayOf, Cond.selects RX2 yX2_wayOf yX2_wayOf, Cond.code yX2_wayOf cX2_wayOf 2 (some .int), Cond.methodLink RX5 73 yX2_leftOf, Cond.instanceMethod yX2_leftOf, Cond.selects RX2 yX2_leftOf yX2_leftOf, Cond.code yX2_leftOf cX2_leftOf 2 (some .int), Cond.methodLink RX5 76 yX2_rightOf]
def wsX5_askAll_r5 : List Cond := [Cond.instanceMethod yX2_rightOf, Cond.selects RX2 yX2_rightOf yX2_rightOf, Cond.code yX2_rightOf cX2_rightOf 2 (some .int), Cond.methodLink RX5 59 yX4_take, Cond.instanceMethod yX4_take, Cond.selects RX4 yX4_take yX4_take, Cond.code yX4_take cX4_take 5 (some .int), Cond.methodLink RX4 45 yX1_come, Cond.instanceMethod yX1_come, Cond.selects RX1 yX1_come yX1_come, Cond.code yX1_come cX1_come 4 none, Cond.methodLink RX1 23 yX3_make, Cond.instanceMethod yX3_make, Cond.selects RX3 yX3_make yX3_make, Cond.code yX3_make cX3_make 4 none, Cond.methodLink RX3 25 yX3_changeWay, Cond.instanceMethod yX3_changeWay, Cond.selects RX3 yX3_changeWay yX3_changeWay, Cond.code yX3_changeWay cX3_changeWay 2 none, Cond.methodLink RX3 42 Lib.Math.max.name, Cond.static Lib.Math.max.name, Cond.initialized "java/lang/Math", Cond.code Lib.Math.max.name Lib.Math.max.code 2 (some .int), Cond.methodLink RX3 32 yX3_computedNeed]
def wsX5_askAll_r6 : List Cond := [Cond.instanceMethod yX3_computedNeed, Cond.selects RX3 yX3_computedNeed yX3_computedNeed, Cond.code yX3_computedNeed cX3_computedNeed 1 (some .int), Cond.methodLink RX3 51 yX3_root, Cond.static yX3_root, Cond.code yX3_root cX3_root 2 (some .int), Cond.methodLink RX3 39 yX3_computedWant, Cond.instanceMethod yX3_computedWant, Cond.selects RX3 yX3_computedWant yX3_computedWant, Cond.code yX3_computedWant cX3_computedWant 1 (some .int), Cond.methodLink RX4 38 yX4_goThroughQueue, Cond.instanceMethod yX4_goThroughQueue, Cond.selects RX4 yX4_goThroughQueue yX4_goThroughQueue, Cond.code yX4_goThroughQueue cX4_goThroughQueue 3 none, Cond.methodLink RX4 53 yX4_firstInQueue, Cond.instanceMethod yX4_firstInQueue, Cond.selects RX4 yX4_firstInQueue yX4_firstInQueue, Cond.code yX4_firstInQueue cX4_firstInQueue 6 (some (.object "JoinGrants$Join")), Cond.methodLink RX4 61 yX1_isIn, Cond.instanceMethod yX1_isIn, Cond.selects RX1 yX1_isIn yX1_isIn, Cond.code yX1_isIn cX1_isIn 2 (some .boolean), Cond.methodLink RX4 65 yX4_isAhead, Cond.instanceMethod yX4_isAhead]
def wsX5_askAll_r7 : List Cond := [Cond.selects RX4 yX4_isAhead yX4_isAhead, Cond.code yX4_isAhead cX4_isAhead 5 (some .boolean), Cond.methodLink RX4 69 yX1_need, Cond.instanceMethod yX1_need, Cond.selects RX1 yX1_need yX1_need, Cond.code yX1_need cX1_need 1 (some .int), Cond.methodLink RX4 101 yX4_setting, Cond.instanceMethod yX4_setting, Cond.selects RX4 yX4_setting yX4_setting, Cond.code yX4_setting cX4_setting 2 (some .int), Cond.methodLink RX4 49 yX1_number, Cond.instanceMethod yX1_number, Cond.selects RX1 yX1_number yX1_number, Cond.code yX1_number cX1_number 1 (some .int), Cond.fieldLink RX1 20 "JoinGrants$Join" "number" "I", Cond.methodLink RX4 57 yX4_start, Cond.instanceMethod yX4_start, Cond.selects RX4 yX4_start yX4_start, Cond.code yX4_start cX4_start 4 (some .boolean), Cond.methodLink RX4 78 Lib.Math.min.name, Cond.static Lib.Math.min.name, Cond.code Lib.Math.min.name Lib.Math.min.code 2 (some .int), Cond.methodLink RX4 98 Lib.Math.max.name, Cond.methodLink RX4 72 yX4_free]
def wsX5_askAll_r8 : List Cond := [Cond.instanceMethod yX4_free, Cond.selects RX4 yX4_free yX4_free, Cond.code yX4_free cX4_free 1 (some .int), Cond.methodLink RX4 95 yX4_granted, Cond.instanceMethod yX4_granted, Cond.selects RX4 yX4_granted yX4_granted, Cond.code yX4_granted cX4_granted 6 (some .int), Cond.methodLink RX4 141 yX1_pages, Cond.instanceMethod yX1_pages, Cond.selects RX1 yX1_pages yX1_pages, Cond.code yX1_pages cX1_pages 1 (some .int), Cond.methodLink RX4 75 yX1_want, Cond.instanceMethod yX1_want, Cond.selects RX1 yX1_want yX1_want, Cond.code yX1_want cX1_want 1 (some .int), Cond.methodLink RX4 84 yX1_start, Cond.instanceMethod yX1_start, Cond.selects RX1 yX1_start yX1_start, Cond.code yX1_start cX1_start 2 none, Cond.methodLink RX1 34 yX3_workWith, Cond.instanceMethod yX3_workWith, Cond.selects RX3 yX3_workWith yX3_workWith, Cond.code yX3_workWith cX3_workWith 5 (some .int), Cond.methodLink RX4 86 yX4_canAskBack]
def wsX5_askAll_r9 : List Cond := [Cond.instanceMethod yX4_canAskBack, Cond.selects RX4 yX4_canAskBack yX4_canAskBack, Cond.code yX4_canAskBack cX4_canAskBack 2 (some .boolean), Cond.methodLink RX4 105 yX4_surplus, Cond.instanceMethod yX4_surplus, Cond.selects RX4 yX4_surplus yX4_surplus, Cond.code yX4_surplus cX4_surplus 6 (some .int), Cond.methodLink RX4 111 yX1_surplus, Cond.instanceMethod yX1_surplus, Cond.selects RX1 yX1_surplus yX1_surplus, Cond.code yX1_surplus cX1_surplus 1 (some .int), Cond.methodLink RX4 89 yX4_askBack, Cond.instanceMethod yX4_askBack, Cond.selects RX4 yX4_askBack yX4_askBack, Cond.code yX4_askBack cX4_askBack 6 none, Cond.methodLink RX4 108 yX4_richest, Cond.instanceMethod yX4_richest, Cond.selects RX4 yX4_richest yX4_richest, Cond.code yX4_richest cX4_richest 6 (some (.object "JoinGrants$Join")), Cond.methodLink RX4 112 yX1_giveBack, Cond.instanceMethod yX1_giveBack, Cond.selects RX1 yX1_giveBack yX1_giveBack, Cond.code yX1_giveBack cX1_giveBack 6 none]
def wsX5_askAll : List Cond := .code yX5_askAll cX5_askAll 4 (some .int) :: ((wsX5_askAll_r1 ++ (wsX5_askAll_r2 ++ (wsX5_askAll_r3 ++ (wsX5_askAll_r4 ++ (wsX5_askAll_r5 ++ (wsX5_askAll_r6 ++ (wsX5_askAll_r7 ++ (wsX5_askAll_r8 ++ wsX5_askAll_r9)))))))) ++ wsX50 ++ wsX20 ++ wsX40 ++ wsX00 ++ wsX10 ++ wsX30)
def wsX5_cancel_r1 : List Cond := [Cond.fieldLink RX5 10 "JoinGrants" "pool" "LJoinGrants$Pool;", Cond.fieldLink RX5 19 "JoinGrants" "history" "LJoinGrants$History;", Cond.methodLink RX5 79 yX4_find, Cond.instanceMethod yX4_find, Cond.selects RX4 yX4_find yX4_find, Cond.initialized RX4, Cond.code yX4_find cX4_find 2 (some (.object "JoinGrants$Join")), Cond.fieldLink RX4 41 "JoinGrants$Pool" "joinsSoFar" "I", Cond.fieldLink RX4 25 "JoinGrants$Pool" "joins" "[LJoinGrants$Join;", Cond.methodLink RX5 85 yX1_isIn, Cond.instanceMethod yX1_isIn, Cond.selects RX1 yX1_isIn yX1_isIn, Cond.initialized RX1, Cond.code yX1_isIn cX1_isIn 2 (some .boolean), Cond.fieldLink RX1 16 "JoinGrants$Join" "state" "I", Cond.methodLink RX5 55 yX0_record, Cond.instanceMethod yX0_record, Cond.selects RX0 yX0_record yX0_record, Cond.initialized RX0, Cond.code yX0_record cX0_record 2 none, Cond.fieldLink RX0 16 "JoinGrants$History" "size" "I", Cond.fieldLink RX0 11 "JoinGrants$History" "states" "[LJoinGrants$Pool;", Cond.methodLink RX0 20 yX0_dropOldest, Cond.instanceMethod yX0_dropOldest]
def wsX5_cancel_r2 : List Cond := [Cond.selects RX0 yX0_dropOldest yX0_dropOldest, Cond.code yX0_dropOldest cX0_dropOldest 3 none, Cond.methodLink RX0 23 yX4_copyFrom, Cond.instanceMethod yX4_copyFrom, Cond.selects RX4 yX4_copyFrom yX4_copyFrom, Cond.code yX4_copyFrom cX4_copyFrom 3 none, Cond.fieldLink RX4 20 "JoinGrants$Pool" "settings" "[I", Cond.fieldLink RX4 92 "JoinGrants$Pool" "mostGranted" "I", Cond.fieldLink RX4 138 "JoinGrants$Pool" "steps" "I", Cond.fieldLink RX4 125 "JoinGrants$Pool" "workDone" "I", Cond.fieldLink RX4 115 "JoinGrants$Pool" "askedBack" "I", Cond.methodLink RX4 153 yX1_copyFrom, Cond.instanceMethod yX1_copyFrom, Cond.selects RX1 yX1_copyFrom yX1_copyFrom, Cond.code yX1_copyFrom cX1_copyFrom 2 none, Cond.fieldLink RX1 10 "JoinGrants$Join" "plan" "LJoinGrants$Plan;", Cond.fieldLink RX1 31 "JoinGrants$Join" "pages" "I", Cond.fieldLink RX1 38 "JoinGrants$Join" "workLeft" "I", Cond.fieldLink RX1 44 "JoinGrants$Join" "stepsWaited" "I", Cond.fieldLink RX1 47 "JoinGrants$Join" "stepsWorked" "I", Cond.fieldLink RX1 41 "JoinGrants$Join" "givenBack" "I", Cond.methodLink RX1 79 yX3_copyFrom, Cond.instanceMethod yX3_copyFrom, Cond.selects RX3 yX3_copyFrom yX3_copyFrom]
def wsX5_cancel_r3 : List Cond := [Cond.initialized RX3, Cond.code yX3_copyFrom cX3_copyFrom 2 none, Cond.fieldLink RX3 29 "JoinGrants$Plan" "way" "I", Cond.fieldLink RX3 18 "JoinGrants$Plan" "left" "I", Cond.fieldLink RX3 22 "JoinGrants$Plan" "right" "I", Cond.fieldLink RX3 36 "JoinGrants$Plan" "need" "I", Cond.fieldLink RX3 48 "JoinGrants$Plan" "want" "I", Cond.methodLink RX5 89 yX1_pages, Cond.instanceMethod yX1_pages, Cond.selects RX1 yX1_pages yX1_pages, Cond.code yX1_pages cX1_pages 1 (some .int), Cond.methodLink RX5 92 yX1_end, Cond.instanceMethod yX1_end, Cond.selects RX1 yX1_end yX1_end, Cond.code yX1_end cX1_end 2 none, Cond.methodLink RX5 96 yX4_goThroughQueue, Cond.instanceMethod yX4_goThroughQueue, Cond.selects RX4 yX4_goThroughQueue yX4_goThroughQueue, Cond.code yX4_goThroughQueue cX4_goThroughQueue 3 none, Cond.methodLink RX4 53 yX4_firstInQueue, Cond.instanceMethod yX4_firstInQueue, Cond.selects RX4 yX4_firstInQueue yX4_firstInQueue, Cond.code yX4_firstInQueue cX4_firstInQueue 6 (some (.object "JoinGrants$Join")), Cond.methodLink RX4 61 yX1_isIn]
def wsX5_cancel_r4 : List Cond := [Cond.methodLink RX4 65 yX4_isAhead, Cond.instanceMethod yX4_isAhead, Cond.selects RX4 yX4_isAhead yX4_isAhead, Cond.code yX4_isAhead cX4_isAhead 5 (some .boolean), Cond.methodLink RX4 69 yX1_need, Cond.instanceMethod yX1_need, Cond.selects RX1 yX1_need yX1_need, Cond.code yX1_need cX1_need 1 (some .int), Cond.methodLink RX4 101 yX4_setting, Cond.instanceMethod yX4_setting, Cond.selects RX4 yX4_setting yX4_setting, Cond.code yX4_setting cX4_setting 2 (some .int), Cond.methodLink RX4 49 yX1_number, Cond.instanceMethod yX1_number, Cond.selects RX1 yX1_number yX1_number, Cond.code yX1_number cX1_number 1 (some .int), Cond.fieldLink RX1 20 "JoinGrants$Join" "number" "I", Cond.methodLink RX4 57 yX4_start, Cond.instanceMethod yX4_start, Cond.selects RX4 yX4_start yX4_start, Cond.code yX4_start cX4_start 4 (some .boolean), Cond.methodLink RX4 78 Lib.Math.min.name, Cond.static Lib.Math.min.name, Cond.initialized "java/lang/Math"]
def wsX5_cancel_r5 : List Cond := [Cond.code Lib.Math.min.name Lib.Math.min.code 2 (some .int), Cond.methodLink RX4 98 Lib.Math.max.name, Cond.static Lib.Math.max.name, Cond.code Lib.Math.max.name Lib.Math.max.code 2 (some .int), Cond.methodLink RX4 72 yX4_free, Cond.instanceMethod yX4_free, Cond.selects RX4 yX4_free yX4_free, Cond.code yX4_free cX4_free 1 (some .int), Cond.methodLink RX4 95 yX4_granted, Cond.instanceMethod yX4_granted, Cond.selects RX4 yX4_granted yX4_granted, Cond.code yX4_granted cX4_granted 6 (some .int), Cond.methodLink RX4 141 yX1_pages, Cond.methodLink RX4 75 yX1_want, Cond.instanceMethod yX1_want, Cond.selects RX1 yX1_want yX1_want, Cond.code yX1_want cX1_want 1 (some .int), Cond.methodLink RX4 84 yX1_start, Cond.instanceMethod yX1_start, Cond.selects RX1 yX1_start yX1_start, Cond.code yX1_start cX1_start 2 none, Cond.methodLink RX1 34 yX3_workWith, Cond.instanceMethod yX3_workWith, Cond.selects RX3 yX3_workWith yX3_workWith]
def wsX5_cancel_r6 : List Cond := [Cond.code yX3_workWith cX3_workWith 5 (some .int), Cond.methodLink RX4 86 yX4_canAskBack, Cond.instanceMethod yX4_canAskBack, Cond.selects RX4 yX4_canAskBack yX4_canAskBack, Cond.code yX4_canAskBack cX4_canAskBack 2 (some .boolean), Cond.methodLink RX4 105 yX4_surplus, Cond.instanceMethod yX4_surplus, Cond.selects RX4 yX4_surplus yX4_surplus, Cond.code yX4_surplus cX4_surplus 6 (some .int), Cond.methodLink RX4 111 yX1_surplus, Cond.instanceMethod yX1_surplus, Cond.selects RX1 yX1_surplus yX1_surplus, Cond.code yX1_surplus cX1_surplus 1 (some .int), Cond.methodLink RX4 89 yX4_askBack, Cond.instanceMethod yX4_askBack, Cond.selects RX4 yX4_askBack yX4_askBack, Cond.code yX4_askBack cX4_askBack 6 none, Cond.methodLink RX4 108 yX4_richest, Cond.instanceMethod yX4_richest, Cond.selects RX4 yX4_richest yX4_richest, Cond.code yX4_richest cX4_richest 6 (some (.object "JoinGrants$Join")), Cond.methodLink RX4 112 yX1_giveBack, Cond.instanceMethod yX1_giveBack, Cond.selects RX1 yX1_giveBack yX1_giveBack]
def wsX5_cancel_r7 : List Cond := [Cond.code yX1_giveBack cX1_giveBack 6 none]
def wsX5_cancel : List Cond := .code yX5_cancel cX5_cancel 4 (some .int) :: ((wsX5_cancel_r1 ++ (wsX5_cancel_r2 ++ (wsX5_cancel_r3 ++ (wsX5_cancel_r4 ++ (wsX5_cancel_r5 ++ (wsX5_cancel_r6 ++ wsX5_cancel_r7)))))) ++ wsX50 ++ wsX40 ++ wsX10 ++ wsX00 ++ wsX30)
def wsX5_change_r1 : List Cond := [Cond.fieldLink RX5 10 "JoinGrants" "pool" "LJoinGrants$Pool;", Cond.fieldLink RX5 19 "JoinGrants" "history" "LJoinGrants$History;", Cond.methodLink RX5 79 yX4_find, Cond.instanceMethod yX4_find, Cond.selects RX4 yX4_find yX4_find, Cond.initialized RX4, Cond.code yX4_find cX4_find 2 (some (.object "JoinGrants$Join")), Cond.fieldLink RX4 41 "JoinGrants$Pool" "joinsSoFar" "I", Cond.fieldLink RX4 25 "JoinGrants$Pool" "joins" "[LJoinGrants$Join;", Cond.methodLink RX5 99 yX3_isWay, Cond.static yX3_isWay, Cond.initialized RX3, Cond.code yX3_isWay cX3_isWay 1 (some .boolean), Cond.methodLink RX5 85 yX1_isIn, Cond.instanceMethod yX1_isIn, Cond.selects RX1 yX1_isIn yX1_isIn, Cond.initialized RX1, Cond.code yX1_isIn cX1_isIn 2 (some .boolean), Cond.fieldLink RX1 16 "JoinGrants$Join" "state" "I", Cond.methodLink RX5 102 yX1_way, Cond.instanceMethod yX1_way, Cond.selects RX1 yX1_way yX1_way, Cond.code yX1_way cX1_way 1 (some .int), Cond.fieldLink RX1 10 "JoinGrants$Join" "plan" "LJoinGrants$Plan;"]
def wsX5_change_r2 : List Cond := [Cond.methodLink RX5 55 yX0_record, Cond.instanceMethod yX0_record, Cond.selects RX0 yX0_record yX0_record, Cond.initialized RX0, Cond.code yX0_record cX0_record 2 none, Cond.fieldLink RX0 16 "JoinGrants$History" "size" "I", Cond.fieldLink RX0 11 "JoinGrants$History" "states" "[LJoinGrants$Pool;", Cond.methodLink RX0 20 yX0_dropOldest, Cond.instanceMethod yX0_dropOldest, Cond.selects RX0 yX0_dropOldest yX0_dropOldest, Cond.code yX0_dropOldest cX0_dropOldest 3 none, Cond.methodLink RX0 23 yX4_copyFrom, Cond.instanceMethod yX4_copyFrom, Cond.selects RX4 yX4_copyFrom yX4_copyFrom, Cond.code yX4_copyFrom cX4_copyFrom 3 none, Cond.fieldLink RX4 20 "JoinGrants$Pool" "settings" "[I", Cond.fieldLink RX4 92 "JoinGrants$Pool" "mostGranted" "I", Cond.fieldLink RX4 138 "JoinGrants$Pool" "steps" "I", Cond.fieldLink RX4 125 "JoinGrants$Pool" "workDone" "I", Cond.fieldLink RX4 115 "JoinGrants$Pool" "askedBack" "I", Cond.methodLink RX4 153 yX1_copyFrom, Cond.instanceMethod yX1_copyFrom, Cond.selects RX1 yX1_copyFrom yX1_copyFrom, Cond.code yX1_copyFrom cX1_copyFrom 2 none]
def wsX5_change_r3 : List Cond := [Cond.fieldLink RX1 31 "JoinGrants$Join" "pages" "I", Cond.fieldLink RX1 38 "JoinGrants$Join" "workLeft" "I", Cond.fieldLink RX1 44 "JoinGrants$Join" "stepsWaited" "I", Cond.fieldLink RX1 47 "JoinGrants$Join" "stepsWorked" "I", Cond.fieldLink RX1 41 "JoinGrants$Join" "givenBack" "I", Cond.methodLink RX1 79 yX3_copyFrom, Cond.instanceMethod yX3_copyFrom, Cond.selects RX3 yX3_copyFrom yX3_copyFrom, Cond.code yX3_copyFrom cX3_copyFrom 2 none, Cond.fieldLink RX3 29 "JoinGrants$Plan" "way" "I", Cond.fieldLink RX3 18 "JoinGrants$Plan" "left" "I", Cond.fieldLink RX3 22 "JoinGrants$Plan" "right" "I", Cond.fieldLink RX3 36 "JoinGrants$Plan" "need" "I", Cond.fieldLink RX3 48 "JoinGrants$Plan" "want" "I", Cond.methodLink RX5 105 yX1_changeWay, Cond.instanceMethod yX1_changeWay, Cond.selects RX1 yX1_changeWay yX1_changeWay, Cond.code yX1_changeWay cX1_changeWay 2 none, Cond.methodLink RX1 27 yX3_changeWay, Cond.instanceMethod yX3_changeWay, Cond.selects RX3 yX3_changeWay yX3_changeWay, Cond.code yX3_changeWay cX3_changeWay 2 none, Cond.methodLink RX3 42 Lib.Math.max.name, Cond.static Lib.Math.max.name]
def wsX5_change_r4 : List Cond := [Cond.initialized "java/lang/Math", Cond.code Lib.Math.max.name Lib.Math.max.code 2 (some .int), Cond.methodLink RX3 32 yX3_computedNeed, Cond.instanceMethod yX3_computedNeed, Cond.selects RX3 yX3_computedNeed yX3_computedNeed, Cond.code yX3_computedNeed cX3_computedNeed 1 (some .int), Cond.methodLink RX3 51 yX3_root, Cond.static yX3_root, Cond.code yX3_root cX3_root 2 (some .int), Cond.methodLink RX3 39 yX3_computedWant, Cond.instanceMethod yX3_computedWant, Cond.selects RX3 yX3_computedWant yX3_computedWant, Cond.code yX3_computedWant cX3_computedWant 1 (some .int), Cond.methodLink RX5 96 yX4_goThroughQueue, Cond.instanceMethod yX4_goThroughQueue, Cond.selects RX4 yX4_goThroughQueue yX4_goThroughQueue, Cond.code yX4_goThroughQueue cX4_goThroughQueue 3 none, Cond.methodLink RX4 53 yX4_firstInQueue, Cond.instanceMethod yX4_firstInQueue, Cond.selects RX4 yX4_firstInQueue yX4_firstInQueue, Cond.code yX4_firstInQueue cX4_firstInQueue 6 (some (.object "JoinGrants$Join")), Cond.methodLink RX4 61 yX1_isIn, Cond.methodLink RX4 65 yX4_isAhead, Cond.instanceMethod yX4_isAhead]
def wsX5_change_r5 : List Cond := [Cond.selects RX4 yX4_isAhead yX4_isAhead, Cond.code yX4_isAhead cX4_isAhead 5 (some .boolean), Cond.methodLink RX4 69 yX1_need, Cond.instanceMethod yX1_need, Cond.selects RX1 yX1_need yX1_need, Cond.code yX1_need cX1_need 1 (some .int), Cond.methodLink RX4 101 yX4_setting, Cond.instanceMethod yX4_setting, Cond.selects RX4 yX4_setting yX4_setting, Cond.code yX4_setting cX4_setting 2 (some .int), Cond.methodLink RX4 49 yX1_number, Cond.instanceMethod yX1_number, Cond.selects RX1 yX1_number yX1_number, Cond.code yX1_number cX1_number 1 (some .int), Cond.fieldLink RX1 20 "JoinGrants$Join" "number" "I", Cond.methodLink RX4 57 yX4_start, Cond.instanceMethod yX4_start, Cond.selects RX4 yX4_start yX4_start, Cond.code yX4_start cX4_start 4 (some .boolean), Cond.methodLink RX4 78 Lib.Math.min.name, Cond.static Lib.Math.min.name, Cond.code Lib.Math.min.name Lib.Math.min.code 2 (some .int), Cond.methodLink RX4 98 Lib.Math.max.name, Cond.methodLink RX4 72 yX4_free]
def wsX5_change_r6 : List Cond := [Cond.instanceMethod yX4_free, Cond.selects RX4 yX4_free yX4_free, Cond.code yX4_free cX4_free 1 (some .int), Cond.methodLink RX4 95 yX4_granted, Cond.instanceMethod yX4_granted, Cond.selects RX4 yX4_granted yX4_granted, Cond.code yX4_granted cX4_granted 6 (some .int), Cond.methodLink RX4 141 yX1_pages, Cond.instanceMethod yX1_pages, Cond.selects RX1 yX1_pages yX1_pages, Cond.code yX1_pages cX1_pages 1 (some .int), Cond.methodLink RX4 75 yX1_want, Cond.instanceMethod yX1_want, Cond.selects RX1 yX1_want yX1_want, Cond.code yX1_want cX1_want 1 (some .int), Cond.methodLink RX4 84 yX1_start, Cond.instanceMethod yX1_start, Cond.selects RX1 yX1_start yX1_start, Cond.code yX1_start cX1_start 2 none, Cond.methodLink RX1 34 yX3_workWith, Cond.instanceMethod yX3_workWith, Cond.selects RX3 yX3_workWith yX3_workWith, Cond.code yX3_workWith cX3_workWith 5 (some .int), Cond.methodLink RX4 86 yX4_canAskBack]
def wsX5_change_r7 : List Cond := [Cond.instanceMethod yX4_canAskBack, Cond.selects RX4 yX4_canAskBack yX4_canAskBack, Cond.code yX4_canAskBack cX4_canAskBack 2 (some .boolean), Cond.methodLink RX4 105 yX4_surplus, Cond.instanceMethod yX4_surplus, Cond.selects RX4 yX4_surplus yX4_surplus, Cond.code yX4_surplus cX4_surplus 6 (some .int), Cond.methodLink RX4 111 yX1_surplus, Cond.instanceMethod yX1_surplus, Cond.selects RX1 yX1_surplus yX1_surplus, Cond.code yX1_surplus cX1_surplus 1 (some .int), Cond.methodLink RX4 89 yX4_askBack, Cond.instanceMethod yX4_askBack, Cond.selects RX4 yX4_askBack yX4_askBack, Cond.code yX4_askBack cX4_askBack 6 none, Cond.methodLink RX4 108 yX4_richest, Cond.instanceMethod yX4_richest, Cond.selects RX4 yX4_richest yX4_richest, Cond.code yX4_richest cX4_richest 6 (some (.object "JoinGrants$Join")), Cond.methodLink RX4 112 yX1_giveBack, Cond.instanceMethod yX1_giveBack, Cond.selects RX1 yX1_giveBack yX1_giveBack, Cond.code yX1_giveBack cX1_giveBack 6 none]
def wsX5_change : List Cond := .code yX5_change cX5_change 5 (some .int) :: ((wsX5_change_r1 ++ (wsX5_change_r2 ++ (wsX5_change_r3 ++ (wsX5_change_r4 ++ (wsX5_change_r5 ++ (wsX5_change_r6 ++ wsX5_change_r7)))))) ++ wsX50 ++ wsX40 ++ wsX10 ++ wsX30 ++ wsX00)
def wsX5_step_r1 : List Cond := [Cond.fieldLink RX5 19 "JoinGrants" "history" "LJoinGrants$History;", Cond.fieldLink RX5 10 "JoinGrants" "pool" "LJoinGrants$Pool;", Cond.methodLink RX5 114 Lib.Math.max.name, Cond.static Lib.Math.max.name, Cond.initialized "java/lang/Math", Cond.code Lib.Math.max.name Lib.Math.max.code 2 (some .int), Cond.methodLink RX5 55 yX0_record, Cond.instanceMethod yX0_record, Cond.selects RX0 yX0_record yX0_record, Cond.initialized RX0, Cond.code yX0_record cX0_record 2 none, Cond.fieldLink RX0 16 "JoinGrants$History" "size" "I", Cond.fieldLink RX0 11 "JoinGrants$History" "states" "[LJoinGrants$Pool;", Cond.methodLink RX0 20 yX0_dropOldest, Cond.instanceMethod yX0_dropOldest, Cond.selects RX0 yX0_dropOldest yX0_dropOldest, Cond.code yX0_dropOldest cX0_dropOldest 3 none, Cond.methodLink RX0 23 yX4_copyFrom, Cond.instanceMethod yX4_copyFrom, Cond.selects RX4 yX4_copyFrom yX4_copyFrom, Cond.initialized RX4, Cond.code yX4_copyFrom cX4_copyFrom 3 none, Cond.fieldLink RX4 20 "JoinGrants$Pool" "settings" "[I", Cond.fieldLink RX4 25 "JoinGrants$Pool" "joins" "[LJoinGrants$Join;"]
def wsX5_step_r2 : List Cond := [Cond.fieldLink RX4 41 "JoinGrants$Pool" "joinsSoFar" "I", Cond.fieldLink RX4 92 "JoinGrants$Pool" "mostGranted" "I", Cond.fieldLink RX4 138 "JoinGrants$Pool" "steps" "I", Cond.fieldLink RX4 125 "JoinGrants$Pool" "workDone" "I", Cond.fieldLink RX4 115 "JoinGrants$Pool" "askedBack" "I", Cond.methodLink RX4 153 yX1_copyFrom, Cond.instanceMethod yX1_copyFrom, Cond.selects RX1 yX1_copyFrom yX1_copyFrom, Cond.initialized RX1, Cond.code yX1_copyFrom cX1_copyFrom 2 none, Cond.fieldLink RX1 10 "JoinGrants$Join" "plan" "LJoinGrants$Plan;", Cond.fieldLink RX1 16 "JoinGrants$Join" "state" "I", Cond.fieldLink RX1 31 "JoinGrants$Join" "pages" "I", Cond.fieldLink RX1 38 "JoinGrants$Join" "workLeft" "I", Cond.fieldLink RX1 44 "JoinGrants$Join" "stepsWaited" "I", Cond.fieldLink RX1 47 "JoinGrants$Join" "stepsWorked" "I", Cond.fieldLink RX1 41 "JoinGrants$Join" "givenBack" "I", Cond.methodLink RX1 79 yX3_copyFrom, Cond.instanceMethod yX3_copyFrom, Cond.selects RX3 yX3_copyFrom yX3_copyFrom, Cond.initialized RX3, Cond.code yX3_copyFrom cX3_copyFrom 2 none, Cond.fieldLink RX3 29 "JoinGrants$Plan" "way" "I", Cond.fieldLink RX3 18 "JoinGrants$Plan" "left" "I"]
def wsX5_step_r3 : List Cond := [Cond.fieldLink RX3 22 "JoinGrants$Plan" "right" "I", Cond.fieldLink RX3 36 "JoinGrants$Plan" "need" "I", Cond.fieldLink RX3 48 "JoinGrants$Plan" "want" "I", Cond.methodLink RX5 108 yX4_joinsIn, Cond.instanceMethod yX4_joinsIn, Cond.selects RX4 yX4_joinsIn yX4_joinsIn, Cond.code yX4_joinsIn cX4_joinsIn 7 (some .int), Cond.methodLink RX4 61 yX1_isIn, Cond.instanceMethod yX1_isIn, Cond.selects RX1 yX1_isIn yX1_isIn, Cond.code yX1_isIn cX1_isIn 2 (some .boolean), Cond.methodLink RX5 111 yX4_leap, Cond.instanceMethod yX4_leap, Cond.selects RX4 yX4_leap yX4_leap, Cond.code yX4_leap cX4_leap 9 (some .int), Cond.methodLink RX4 78 Lib.Math.min.name, Cond.static Lib.Math.min.name, Cond.code Lib.Math.min.name Lib.Math.min.code 2 (some .int), Cond.methodLink RX4 101 yX4_setting, Cond.instanceMethod yX4_setting, Cond.selects RX4 yX4_setting yX4_setting, Cond.code yX4_setting cX4_setting 2 (some .int), Cond.methodLink RX4 122 yX1_stepsLeft, Cond.instanceMethod yX1_stepsLeft]
def wsX5_step_r4 : List Cond := [Cond.selects RX1 yX1_stepsLeft yX1_stepsLeft, Cond.code yX1_stepsLeft cX1_stepsLeft 2 (some .int), Cond.methodLink RX4 128 yX1_pass, Cond.instanceMethod yX1_pass, Cond.selects RX1 yX1_pass yX1_pass, Cond.code yX1_pass cX1_pass 4 (some .int), Cond.methodLink RX1 50 Lib.Math.min.name, Cond.methodLink RX4 131 yX1_hasWorkedAll, Cond.instanceMethod yX1_hasWorkedAll, Cond.selects RX1 yX1_hasWorkedAll yX1_hasWorkedAll, Cond.code yX1_hasWorkedAll cX1_hasWorkedAll 1 (some .boolean), Cond.methodLink RX4 135 yX1_end, Cond.instanceMethod yX1_end, Cond.selects RX1 yX1_end yX1_end, Cond.code yX1_end cX1_end 2 none, Cond.methodLink RX4 38 yX4_goThroughQueue, Cond.instanceMethod yX4_goThroughQueue, Cond.selects RX4 yX4_goThroughQueue yX4_goThroughQueue, Cond.code yX4_goThroughQueue cX4_goThroughQueue 3 none, Cond.methodLink RX4 53 yX4_firstInQueue, Cond.instanceMethod yX4_firstInQueue, Cond.selects RX4 yX4_firstInQueue yX4_firstInQueue, Cond.code yX4_firstInQueue cX4_firstInQueue 6 (some (.object "JoinGrants$Join")), Cond.methodLink RX4 65 yX4_isAhead]
def wsX5_step_r5 : List Cond := [Cond.instanceMethod yX4_isAhead, Cond.selects RX4 yX4_isAhead yX4_isAhead, Cond.code yX4_isAhead cX4_isAhead 5 (some .boolean), Cond.methodLink RX4 69 yX1_need, Cond.instanceMethod yX1_need, Cond.selects RX1 yX1_need yX1_need, Cond.code yX1_need cX1_need 1 (some .int), Cond.methodLink RX4 49 yX1_number, Cond.instanceMethod yX1_number, Cond.selects RX1 yX1_number yX1_number, Cond.code yX1_number cX1_number 1 (some .int), Cond.fieldLink RX1 20 "JoinGrants$Join" "number" "I", Cond.methodLink RX4 57 yX4_start, Cond.instanceMethod yX4_start, Cond.selects RX4 yX4_start yX4_start, Cond.code yX4_start cX4_start 4 (some .boolean), Cond.methodLink RX4 98 Lib.Math.max.name, Cond.methodLink RX4 72 yX4_free, Cond.instanceMethod yX4_free, Cond.selects RX4 yX4_free yX4_free, Cond.code yX4_free cX4_free 1 (some .int), Cond.methodLink RX4 95 yX4_granted, Cond.instanceMethod yX4_granted, Cond.selects RX4 yX4_granted yX4_granted]
def wsX5_step_r6 : List Cond := [Cond.code yX4_granted cX4_granted 6 (some .int), Cond.methodLink RX4 141 yX1_pages, Cond.instanceMethod yX1_pages, Cond.selects RX1 yX1_pages yX1_pages, Cond.code yX1_pages cX1_pages 1 (some .int), Cond.methodLink RX4 75 yX1_want, Cond.instanceMethod yX1_want, Cond.selects RX1 yX1_want yX1_want, Cond.code yX1_want cX1_want 1 (some .int), Cond.methodLink RX4 84 yX1_start, Cond.instanceMethod yX1_start, Cond.selects RX1 yX1_start yX1_start, Cond.code yX1_start cX1_start 2 none, Cond.methodLink RX1 34 yX3_workWith, Cond.instanceMethod yX3_workWith, Cond.selects RX3 yX3_workWith yX3_workWith, Cond.code yX3_workWith cX3_workWith 5 (some .int), Cond.methodLink RX4 86 yX4_canAskBack, Cond.instanceMethod yX4_canAskBack, Cond.selects RX4 yX4_canAskBack yX4_canAskBack, Cond.code yX4_canAskBack cX4_canAskBack 2 (some .boolean), Cond.methodLink RX4 105 yX4_surplus, Cond.instanceMethod yX4_surplus, Cond.selects RX4 yX4_surplus yX4_surplus]
def wsX5_step_r7 : List Cond := [Cond.code yX4_surplus cX4_surplus 6 (some .int), Cond.methodLink RX4 111 yX1_surplus, Cond.instanceMethod yX1_surplus, Cond.selects RX1 yX1_surplus yX1_surplus, Cond.code yX1_surplus cX1_surplus 1 (some .int), Cond.methodLink RX4 89 yX4_askBack, Cond.instanceMethod yX4_askBack, Cond.selects RX4 yX4_askBack yX4_askBack, Cond.code yX4_askBack cX4_askBack 6 none, Cond.methodLink RX4 108 yX4_richest, Cond.instanceMethod yX4_richest, Cond.selects RX4 yX4_richest yX4_richest, Cond.code yX4_richest cX4_richest 6 (some (.object "JoinGrants$Join")), Cond.methodLink RX4 112 yX1_giveBack, Cond.instanceMethod yX1_giveBack, Cond.selects RX1 yX1_giveBack yX1_giveBack, Cond.code yX1_giveBack cX1_giveBack 6 none]
def wsX5_step : List Cond := .code yX5_step cX5_step 4 (some .int) :: ((wsX5_step_r1 ++ (wsX5_step_r2 ++ (wsX5_step_r3 ++ (wsX5_step_r4 ++ (wsX5_step_r5 ++ (wsX5_step_r6 ++ wsX5_step_r7)))))) ++ wsX50 ++ wsX00 ++ wsX40 ++ wsX10 ++ wsX30)
def wsX5_set_r1 : List Cond := [Cond.fieldLink RX5 10 "JoinGrants" "pool" "LJoinGrants$Pool;", Cond.fieldLink RX5 19 "JoinGrants" "history" "LJoinGrants$History;", Cond.methodLink RX5 120 yX4_allows, Cond.static yX4_allows, Cond.initialized RX4, Cond.code yX4_allows cX4_allows 2 (some .boolean), Cond.fieldLink RX4 32 "JoinGrants$Pool" "LOWEST" "[I", Cond.fieldLink RX4 35 "JoinGrants$Pool" "HIGHEST" "[I", Cond.methodLink RX5 124 yX4_setting, Cond.instanceMethod yX4_setting, Cond.selects RX4 yX4_setting yX4_setting, Cond.code yX4_setting cX4_setting 2 (some .int), Cond.fieldLink RX4 20 "JoinGrants$Pool" "settings" "[I", Cond.methodLink RX5 55 yX0_record, Cond.instanceMethod yX0_record, Cond.selects RX0 yX0_record yX0_record, Cond.initialized RX0, Cond.code yX0_record cX0_record 2 none, Cond.fieldLink RX0 16 "JoinGrants$History" "size" "I", Cond.fieldLink RX0 11 "JoinGrants$History" "states" "[LJoinGrants$Pool;", Cond.methodLink RX0 20 yX0_dropOldest, Cond.instanceMethod yX0_dropOldest, Cond.selects RX0 yX0_dropOldest yX0_dropOldest, Cond.code yX0_dropOldest cX0_dropOldest 3 none]
def wsX5_set_r2 : List Cond := [Cond.methodLink RX0 23 yX4_copyFrom, Cond.instanceMethod yX4_copyFrom, Cond.selects RX4 yX4_copyFrom yX4_copyFrom, Cond.code yX4_copyFrom cX4_copyFrom 3 none, Cond.fieldLink RX4 25 "JoinGrants$Pool" "joins" "[LJoinGrants$Join;", Cond.fieldLink RX4 41 "JoinGrants$Pool" "joinsSoFar" "I", Cond.fieldLink RX4 92 "JoinGrants$Pool" "mostGranted" "I", Cond.fieldLink RX4 138 "JoinGrants$Pool" "steps" "I", Cond.fieldLink RX4 125 "JoinGrants$Pool" "workDone" "I", Cond.fieldLink RX4 115 "JoinGrants$Pool" "askedBack" "I", Cond.methodLink RX4 153 yX1_copyFrom, Cond.instanceMethod yX1_copyFrom, Cond.selects RX1 yX1_copyFrom yX1_copyFrom, Cond.initialized RX1, Cond.code yX1_copyFrom cX1_copyFrom 2 none, Cond.fieldLink RX1 10 "JoinGrants$Join" "plan" "LJoinGrants$Plan;", Cond.fieldLink RX1 16 "JoinGrants$Join" "state" "I", Cond.fieldLink RX1 31 "JoinGrants$Join" "pages" "I", Cond.fieldLink RX1 38 "JoinGrants$Join" "workLeft" "I", Cond.fieldLink RX1 44 "JoinGrants$Join" "stepsWaited" "I", Cond.fieldLink RX1 47 "JoinGrants$Join" "stepsWorked" "I", Cond.fieldLink RX1 41 "JoinGrants$Join" "givenBack" "I", Cond.methodLink RX1 79 yX3_copyFrom, Cond.instanceMethod yX3_copyFrom]
def wsX5_set_r3 : List Cond := [Cond.selects RX3 yX3_copyFrom yX3_copyFrom, Cond.initialized RX3, Cond.code yX3_copyFrom cX3_copyFrom 2 none, Cond.fieldLink RX3 29 "JoinGrants$Plan" "way" "I", Cond.fieldLink RX3 18 "JoinGrants$Plan" "left" "I", Cond.fieldLink RX3 22 "JoinGrants$Plan" "right" "I", Cond.fieldLink RX3 36 "JoinGrants$Plan" "need" "I", Cond.fieldLink RX3 48 "JoinGrants$Plan" "want" "I", Cond.methodLink RX5 127 yX4_changeSetting, Cond.instanceMethod yX4_changeSetting, Cond.selects RX4 yX4_changeSetting yX4_changeSetting, Cond.code yX4_changeSetting cX4_changeSetting 3 none, Cond.methodLink RX4 38 yX4_goThroughQueue, Cond.instanceMethod yX4_goThroughQueue, Cond.selects RX4 yX4_goThroughQueue yX4_goThroughQueue, Cond.code yX4_goThroughQueue cX4_goThroughQueue 3 none, Cond.methodLink RX4 53 yX4_firstInQueue, Cond.instanceMethod yX4_firstInQueue, Cond.selects RX4 yX4_firstInQueue yX4_firstInQueue, Cond.code yX4_firstInQueue cX4_firstInQueue 6 (some (.object "JoinGrants$Join")), Cond.methodLink RX4 61 yX1_isIn, Cond.instanceMethod yX1_isIn, Cond.selects RX1 yX1_isIn yX1_isIn, Cond.code yX1_isIn cX1_isIn 2 (some .boolean)]
def wsX5_set_r4 : List Cond := [Cond.methodLink RX4 65 yX4_isAhead, Cond.instanceMethod yX4_isAhead, Cond.selects RX4 yX4_isAhead yX4_isAhead, Cond.code yX4_isAhead cX4_isAhead 5 (some .boolean), Cond.methodLink RX4 69 yX1_need, Cond.instanceMethod yX1_need, Cond.selects RX1 yX1_need yX1_need, Cond.code yX1_need cX1_need 1 (some .int), Cond.methodLink RX4 101 yX4_setting, Cond.methodLink RX4 49 yX1_number, Cond.instanceMethod yX1_number, Cond.selects RX1 yX1_number yX1_number, Cond.code yX1_number cX1_number 1 (some .int), Cond.fieldLink RX1 20 "JoinGrants$Join" "number" "I", Cond.methodLink RX4 57 yX4_start, Cond.instanceMethod yX4_start, Cond.selects RX4 yX4_start yX4_start, Cond.code yX4_start cX4_start 4 (some .boolean), Cond.methodLink RX4 78 Lib.Math.min.name, Cond.static Lib.Math.min.name, Cond.initialized "java/lang/Math", Cond.code Lib.Math.min.name Lib.Math.min.code 2 (some .int), Cond.methodLink RX4 98 Lib.Math.max.name, Cond.static Lib.Math.max.name]
def wsX5_set_r5 : List Cond := [Cond.code Lib.Math.max.name Lib.Math.max.code 2 (some .int), Cond.methodLink RX4 72 yX4_free, Cond.instanceMethod yX4_free, Cond.selects RX4 yX4_free yX4_free, Cond.code yX4_free cX4_free 1 (some .int), Cond.methodLink RX4 95 yX4_granted, Cond.instanceMethod yX4_granted, Cond.selects RX4 yX4_granted yX4_granted, Cond.code yX4_granted cX4_granted 6 (some .int), Cond.methodLink RX4 141 yX1_pages, Cond.instanceMethod yX1_pages, Cond.selects RX1 yX1_pages yX1_pages, Cond.code yX1_pages cX1_pages 1 (some .int), Cond.methodLink RX4 75 yX1_want, Cond.instanceMethod yX1_want, Cond.selects RX1 yX1_want yX1_want, Cond.code yX1_want cX1_want 1 (some .int), Cond.methodLink RX4 84 yX1_start, Cond.instanceMethod yX1_start, Cond.selects RX1 yX1_start yX1_start, Cond.code yX1_start cX1_start 2 none, Cond.methodLink RX1 34 yX3_workWith, Cond.instanceMethod yX3_workWith, Cond.selects RX3 yX3_workWith yX3_workWith]
def wsX5_set_r6 : List Cond := [Cond.code yX3_workWith cX3_workWith 5 (some .int), Cond.methodLink RX4 86 yX4_canAskBack, Cond.instanceMethod yX4_canAskBack, Cond.selects RX4 yX4_canAskBack yX4_canAskBack, Cond.code yX4_canAskBack cX4_canAskBack 2 (some .boolean), Cond.methodLink RX4 105 yX4_surplus, Cond.instanceMethod yX4_surplus, Cond.selects RX4 yX4_surplus yX4_surplus, Cond.code yX4_surplus cX4_surplus 6 (some .int), Cond.methodLink RX4 111 yX1_surplus, Cond.instanceMethod yX1_surplus, Cond.selects RX1 yX1_surplus yX1_surplus, Cond.code yX1_surplus cX1_surplus 1 (some .int), Cond.methodLink RX4 89 yX4_askBack, Cond.instanceMethod yX4_askBack, Cond.selects RX4 yX4_askBack yX4_askBack, Cond.code yX4_askBack cX4_askBack 6 none, Cond.methodLink RX4 108 yX4_richest, Cond.instanceMethod yX4_richest, Cond.selects RX4 yX4_richest yX4_richest, Cond.code yX4_richest cX4_richest 6 (some (.object "JoinGrants$Join")), Cond.methodLink RX4 112 yX1_giveBack, Cond.instanceMethod yX1_giveBack, Cond.selects RX1 yX1_giveBack yX1_giveBack]
def wsX5_set_r7 : List Cond := [Cond.code yX1_giveBack cX1_giveBack 6 none]
def wsX5_set : List Cond := .code yX5_set cX5_set 4 (some .int) :: ((wsX5_set_r1 ++ (wsX5_set_r2 ++ (wsX5_set_r3 ++ (wsX5_set_r4 ++ (wsX5_set_r5 ++ (wsX5_set_r6 ++ wsX5_set_r7)))))) ++ wsX50 ++ wsX40 ++ wsX00 ++ wsX10 ++ wsX30)
def wsX5_type : List Cond := .code yX5_type cX5_type 2 (some .int) :: ([.fieldLink RX5 26 "JoinGrants" "text" "LJoinGrants$JoinText;", .methodLink RX5 131 yX2_append, .instanceMethod yX2_append, .selects RX2 yX2_append yX2_append, .initialized RX2, .code yX2_append cX2_append 2 (some .boolean), .fieldLink RX2 23 "JoinGrants$JoinText" "length" "I", .fieldLink RX2 9 "JoinGrants$JoinText" "characters" "[C", .methodLink RX5 135 yX2_length, .instanceMethod yX2_length, .selects RX2 yX2_length yX2_length, .code yX2_length cX2_length 1 (some .int)] ++ wsX50 ++ wsX20)
def wsX5_clearText : List Cond := .code yX5_clearText cX5_clearText 2 (some .int) :: ([.fieldLink RX5 26 "JoinGrants" "text" "LJoinGrants$JoinText;", .methodLink RX5 135 yX2_length, .instanceMethod yX2_length, .selects RX2 yX2_length yX2_length, .initialized RX2, .code yX2_length cX2_length 1 (some .int), .fieldLink RX2 23 "JoinGrants$JoinText" "length" "I", .methodLink RX5 138 yX2_clear, .instanceMethod yX2_clear, .selects RX2 yX2_clear yX2_clear, .code yX2_clear cX2_clear 1 none] ++ wsX50 ++ wsX20)
def wsX5_undo_r1 : List Cond := [Cond.fieldLink RX5 19 "JoinGrants" "history" "LJoinGrants$History;", Cond.fieldLink RX5 10 "JoinGrants" "pool" "LJoinGrants$Pool;", Cond.methodLink RX5 141 yX0_takeBack, Cond.instanceMethod yX0_takeBack, Cond.selects RX0 yX0_takeBack yX0_takeBack, Cond.initialized RX0, Cond.code yX0_takeBack cX0_takeBack 2 (some .boolean), Cond.fieldLink RX0 16 "JoinGrants$History" "size" "I", Cond.fieldLink RX0 11 "JoinGrants$History" "states" "[LJoinGrants$Pool;", Cond.methodLink RX0 23 yX4_copyFrom, Cond.instanceMethod yX4_copyFrom, Cond.selects RX4 yX4_copyFrom yX4_copyFrom, Cond.initialized RX4, Cond.code yX4_copyFrom cX4_copyFrom 3 none, Cond.fieldLink RX4 20 "JoinGrants$Pool" "settings" "[I", Cond.fieldLink RX4 25 "JoinGrants$Pool" "joins" "[LJoinGrants$Join;", Cond.fieldLink RX4 41 "JoinGrants$Pool" "joinsSoFar" "I", Cond.fieldLink RX4 92 "JoinGrants$Pool" "mostGranted" "I", Cond.fieldLink RX4 138 "JoinGrants$Pool" "steps" "I", Cond.fieldLink RX4 125 "JoinGrants$Pool" "workDone" "I", Cond.fieldLink RX4 115 "JoinGrants$Pool" "askedBack" "I", Cond.methodLink RX4 153 yX1_copyFrom, Cond.instanceMethod yX1_copyFrom, Cond.selects RX1 yX1_copyFrom yX1_copyFrom]
def wsX5_undo_r2 : List Cond := [Cond.initialized RX1, Cond.code yX1_copyFrom cX1_copyFrom 2 none, Cond.fieldLink RX1 10 "JoinGrants$Join" "plan" "LJoinGrants$Plan;", Cond.fieldLink RX1 16 "JoinGrants$Join" "state" "I", Cond.fieldLink RX1 31 "JoinGrants$Join" "pages" "I", Cond.fieldLink RX1 38 "JoinGrants$Join" "workLeft" "I", Cond.fieldLink RX1 44 "JoinGrants$Join" "stepsWaited" "I", Cond.fieldLink RX1 47 "JoinGrants$Join" "stepsWorked" "I", Cond.fieldLink RX1 41 "JoinGrants$Join" "givenBack" "I", Cond.methodLink RX1 79 yX3_copyFrom, Cond.instanceMethod yX3_copyFrom, Cond.selects RX3 yX3_copyFrom yX3_copyFrom, Cond.initialized RX3, Cond.code yX3_copyFrom cX3_copyFrom 2 none, Cond.fieldLink RX3 29 "JoinGrants$Plan" "way" "I", Cond.fieldLink RX3 18 "JoinGrants$Plan" "left" "I", Cond.fieldLink RX3 22 "JoinGrants$Plan" "right" "I", Cond.fieldLink RX3 36 "JoinGrants$Plan" "need" "I", Cond.fieldLink RX3 48 "JoinGrants$Plan" "want" "I", Cond.methodLink RX5 145 yX0_size, Cond.instanceMethod yX0_size, Cond.selects RX0 yX0_size yX0_size, Cond.code yX0_size cX0_size 1 (some .int)]
def wsX5_undo : List Cond := .code yX5_undo cX5_undo 1 (some .int) :: ((wsX5_undo_r1 ++ wsX5_undo_r2) ++ wsX50 ++ wsX00 ++ wsX40 ++ wsX10 ++ wsX30)
def wsX5_keep_r1 : List Cond := [Cond.fieldLink RX5 30 "JoinGrants" "snapshot" "LJoinGrants$Pool;", Cond.fieldLink RX5 10 "JoinGrants" "pool" "LJoinGrants$Pool;", Cond.fieldLink RX5 43 "JoinGrants" "snapshotTaken" "Z", Cond.methodLink RX5 148 yX4_copyFrom, Cond.instanceMethod yX4_copyFrom, Cond.selects RX4 yX4_copyFrom yX4_copyFrom, Cond.initialized RX4, Cond.code yX4_copyFrom cX4_copyFrom 3 none, Cond.fieldLink RX4 20 "JoinGrants$Pool" "settings" "[I", Cond.fieldLink RX4 25 "JoinGrants$Pool" "joins" "[LJoinGrants$Join;", Cond.fieldLink RX4 41 "JoinGrants$Pool" "joinsSoFar" "I", Cond.fieldLink RX4 92 "JoinGrants$Pool" "mostGranted" "I", Cond.fieldLink RX4 138 "JoinGrants$Pool" "steps" "I", Cond.fieldLink RX4 125 "JoinGrants$Pool" "workDone" "I", Cond.fieldLink RX4 115 "JoinGrants$Pool" "askedBack" "I", Cond.methodLink RX4 153 yX1_copyFrom, Cond.instanceMethod yX1_copyFrom, Cond.selects RX1 yX1_copyFrom yX1_copyFrom, Cond.initialized RX1, Cond.code yX1_copyFrom cX1_copyFrom 2 none, Cond.fieldLink RX1 10 "JoinGrants$Join" "plan" "LJoinGrants$Plan;", Cond.fieldLink RX1 16 "JoinGrants$Join" "state" "I", Cond.fieldLink RX1 31 "JoinGrants$Join" "pages" "I", Cond.fieldLink RX1 38 "JoinGrants$Join" "workLeft" "I"]
def wsX5_keep_r2 : List Cond := [Cond.fieldLink RX1 44 "JoinGrants$Join" "stepsWaited" "I", Cond.fieldLink RX1 47 "JoinGrants$Join" "stepsWorked" "I", Cond.fieldLink RX1 41 "JoinGrants$Join" "givenBack" "I", Cond.methodLink RX1 79 yX3_copyFrom, Cond.instanceMethod yX3_copyFrom, Cond.selects RX3 yX3_copyFrom yX3_copyFrom, Cond.initialized RX3, Cond.code yX3_copyFrom cX3_copyFrom 2 none, Cond.fieldLink RX3 29 "JoinGrants$Plan" "way" "I", Cond.fieldLink RX3 18 "JoinGrants$Plan" "left" "I", Cond.fieldLink RX3 22 "JoinGrants$Plan" "right" "I", Cond.fieldLink RX3 36 "JoinGrants$Plan" "need" "I", Cond.fieldLink RX3 48 "JoinGrants$Plan" "want" "I", Cond.methodLink RX5 151 yX4_steps, Cond.instanceMethod yX4_steps, Cond.selects RX4 yX4_steps yX4_steps, Cond.code yX4_steps cX4_steps 1 (some .int)]
def wsX5_keep : List Cond := .code yX5_keep cX5_keep 1 (some .int) :: ((wsX5_keep_r1 ++ wsX5_keep_r2) ++ wsX50 ++ wsX40 ++ wsX10 ++ wsX30)
def wsX5_restore_r1 : List Cond := [Cond.fieldLink RX5 43 "JoinGrants" "snapshotTaken" "Z", Cond.fieldLink RX5 19 "JoinGrants" "history" "LJoinGrants$History;", Cond.fieldLink RX5 10 "JoinGrants" "pool" "LJoinGrants$Pool;", Cond.fieldLink RX5 30 "JoinGrants" "snapshot" "LJoinGrants$Pool;", Cond.methodLink RX5 55 yX0_record, Cond.instanceMethod yX0_record, Cond.selects RX0 yX0_record yX0_record, Cond.initialized RX0, Cond.code yX0_record cX0_record 2 none, Cond.fieldLink RX0 16 "JoinGrants$History" "size" "I", Cond.fieldLink RX0 11 "JoinGrants$History" "states" "[LJoinGrants$Pool;", Cond.methodLink RX0 20 yX0_dropOldest, Cond.instanceMethod yX0_dropOldest, Cond.selects RX0 yX0_dropOldest yX0_dropOldest, Cond.code yX0_dropOldest cX0_dropOldest 3 none, Cond.methodLink RX0 23 yX4_copyFrom, Cond.instanceMethod yX4_copyFrom, Cond.selects RX4 yX4_copyFrom yX4_copyFrom, Cond.initialized RX4, Cond.code yX4_copyFrom cX4_copyFrom 3 none, Cond.fieldLink RX4 20 "JoinGrants$Pool" "settings" "[I", Cond.fieldLink RX4 25 "JoinGrants$Pool" "joins" "[LJoinGrants$Join;", Cond.fieldLink RX4 41 "JoinGrants$Pool" "joinsSoFar" "I", Cond.fieldLink RX4 92 "JoinGrants$Pool" "mostGranted" "I"]
def wsX5_restore_r2 : List Cond := [Cond.fieldLink RX4 138 "JoinGrants$Pool" "steps" "I", Cond.fieldLink RX4 125 "JoinGrants$Pool" "workDone" "I", Cond.fieldLink RX4 115 "JoinGrants$Pool" "askedBack" "I", Cond.methodLink RX4 153 yX1_copyFrom, Cond.instanceMethod yX1_copyFrom, Cond.selects RX1 yX1_copyFrom yX1_copyFrom, Cond.initialized RX1, Cond.code yX1_copyFrom cX1_copyFrom 2 none, Cond.fieldLink RX1 10 "JoinGrants$Join" "plan" "LJoinGrants$Plan;", Cond.fieldLink RX1 16 "JoinGrants$Join" "state" "I", Cond.fieldLink RX1 31 "JoinGrants$Join" "pages" "I", Cond.fieldLink RX1 38 "JoinGrants$Join" "workLeft" "I", Cond.fieldLink RX1 44 "JoinGrants$Join" "stepsWaited" "I", Cond.fieldLink RX1 47 "JoinGrants$Join" "stepsWorked" "I", Cond.fieldLink RX1 41 "JoinGrants$Join" "givenBack" "I", Cond.methodLink RX1 79 yX3_copyFrom, Cond.instanceMethod yX3_copyFrom, Cond.selects RX3 yX3_copyFrom yX3_copyFrom, Cond.initialized RX3, Cond.code yX3_copyFrom cX3_copyFrom 2 none, Cond.fieldLink RX3 29 "JoinGrants$Plan" "way" "I", Cond.fieldLink RX3 18 "JoinGrants$Plan" "left" "I", Cond.fieldLink RX3 22 "JoinGrants$Plan" "right" "I", Cond.fieldLink RX3 36 "JoinGrants$Plan" "need" "I"]
def wsX5_restore_r3 : List Cond := [Cond.fieldLink RX3 48 "JoinGrants$Plan" "want" "I", Cond.methodLink RX5 148 yX4_copyFrom, Cond.methodLink RX5 151 yX4_steps, Cond.instanceMethod yX4_steps, Cond.selects RX4 yX4_steps yX4_steps, Cond.code yX4_steps cX4_steps 1 (some .int)]
def wsX5_restore : List Cond := .code yX5_restore cX5_restore 1 (some .int) :: ((wsX5_restore_r1 ++ (wsX5_restore_r2 ++ wsX5_restore_r3)) ++ wsX50 ++ wsX00 ++ wsX40 ++ wsX10 ++ wsX30)
def wsX5_join_r1 : List Cond := [Cond.fieldLink RX5 10 "JoinGrants" "pool" "LJoinGrants$Pool;", Cond.methodLink RX5 79 yX4_find, Cond.instanceMethod yX4_find, Cond.selects RX4 yX4_find yX4_find, Cond.initialized RX4, Cond.code yX4_find cX4_find 2 (some (.object "JoinGrants$Join")), Cond.fieldLink RX4 41 "JoinGrants$Pool" "joinsSoFar" "I", Cond.fieldLink RX4 25 "JoinGrants$Pool" "joins" "[LJoinGrants$Join;", Cond.methodLink RX5 154 yX1_canTell, Cond.static yX1_canTell, Cond.initialized RX1, Cond.code yX1_canTell cX1_canTell 1 (some .boolean), Cond.methodLink RX5 157 yX1_tell, Cond.instanceMethod yX1_tell, Cond.selects RX1 yX1_tell yX1_tell, Cond.code yX1_tell cX1_tell 2 (some .int), Cond.fieldLink RX1 10 "JoinGrants$Join" "plan" "LJoinGrants$Plan;", Cond.fieldLink RX1 16 "JoinGrants$Join" "state" "I", Cond.fieldLink RX1 31 "JoinGrants$Join" "pages" "I", Cond.fieldLink RX1 38 "JoinGrants$Join" "workLeft" "I", Cond.fieldLink RX1 44 "JoinGrants$Join" "stepsWaited" "I", Cond.fieldLink RX1 47 "JoinGrants$Join" "stepsWorked" "I", Cond.fieldLink RX1 41 "JoinGrants$Join" "givenBack" "I", Cond.methodLink RX1 75 yX1_spills]
def wsX5_join_r2 : List Cond := [Cond.instanceMethod yX1_spills, Cond.selects RX1 yX1_spills yX1_spills, Cond.code yX1_spills cX1_spills 1 (some .boolean), Cond.methodLink RX1 59 yX3_spillsWith, Cond.instanceMethod yX3_spillsWith, Cond.selects RX3 yX3_spillsWith yX3_spillsWith, Cond.initialized RX3, Cond.code yX3_spillsWith cX3_spillsWith 2 (some .boolean), Cond.fieldLink RX3 29 "JoinGrants$Plan" "way" "I", Cond.fieldLink RX3 48 "JoinGrants$Plan" "want" "I"]
def wsX5_join : List Cond := .code yX5_join cX5_join 4 (some .int) :: ((wsX5_join_r1 ++ wsX5_join_r2) ++ wsX50 ++ wsX40 ++ wsX10 ++ wsX30)
def wsX5_why_r1 : List Cond := [Cond.fieldLink RX5 10 "JoinGrants" "pool" "LJoinGrants$Pool;", Cond.methodLink RX5 79 yX4_find, Cond.instanceMethod yX4_find, Cond.selects RX4 yX4_find yX4_find, Cond.initialized RX4, Cond.code yX4_find cX4_find 2 (some (.object "JoinGrants$Join")), Cond.fieldLink RX4 41 "JoinGrants$Pool" "joinsSoFar" "I", Cond.fieldLink RX4 25 "JoinGrants$Pool" "joins" "[LJoinGrants$Join;", Cond.methodLink RX5 160 yX4_hindrance, Cond.instanceMethod yX4_hindrance, Cond.selects RX4 yX4_hindrance yX4_hindrance, Cond.code yX4_hindrance cX4_hindrance 2 (some .int), Cond.methodLink RX4 61 yX1_isIn, Cond.instanceMethod yX1_isIn, Cond.selects RX1 yX1_isIn yX1_isIn, Cond.initialized RX1, Cond.code yX1_isIn cX1_isIn 2 (some .boolean), Cond.fieldLink RX1 16 "JoinGrants$Join" "state" "I", Cond.methodLink RX4 69 yX1_need, Cond.instanceMethod yX1_need, Cond.selects RX1 yX1_need yX1_need, Cond.code yX1_need cX1_need 1 (some .int), Cond.fieldLink RX1 10 "JoinGrants$Join" "plan" "LJoinGrants$Plan;", Cond.methodLink RX4 101 yX4_setting]
def wsX5_why_r2 : List Cond := [Cond.instanceMethod yX4_setting, Cond.selects RX4 yX4_setting yX4_setting, Cond.code yX4_setting cX4_setting 2 (some .int), Cond.fieldLink RX4 20 "JoinGrants$Pool" "settings" "[I", Cond.methodLink RX4 118 yX4_rankOf, Cond.instanceMethod yX4_rankOf, Cond.selects RX4 yX4_rankOf yX4_rankOf, Cond.code yX4_rankOf cX4_rankOf 7 (some .int), Cond.methodLink RX4 65 yX4_isAhead, Cond.instanceMethod yX4_isAhead, Cond.selects RX4 yX4_isAhead yX4_isAhead, Cond.code yX4_isAhead cX4_isAhead 5 (some .boolean), Cond.methodLink RX4 49 yX1_number, Cond.instanceMethod yX1_number, Cond.selects RX1 yX1_number yX1_number, Cond.code yX1_number cX1_number 1 (some .int), Cond.fieldLink RX1 20 "JoinGrants$Join" "number" "I"]
def wsX5_why : List Cond := .code yX5_why cX5_why 3 (some .int) :: ((wsX5_why_r1 ++ wsX5_why_r2) ++ wsX50 ++ wsX40 ++ wsX10 ++ wsX30)
def wsX5_queue_r1 : List Cond := [Cond.fieldLink RX5 10 "JoinGrants" "pool" "LJoinGrants$Pool;", Cond.methodLink RX5 164 yX4_atRank, Cond.instanceMethod yX4_atRank, Cond.selects RX4 yX4_atRank yX4_atRank, Cond.initialized RX4, Cond.code yX4_atRank cX4_atRank 6 (some (.object "JoinGrants$Join")), Cond.fieldLink RX4 25 "JoinGrants$Pool" "joins" "[LJoinGrants$Join;", Cond.methodLink RX4 61 yX1_isIn, Cond.instanceMethod yX1_isIn, Cond.selects RX1 yX1_isIn yX1_isIn, Cond.initialized RX1, Cond.code yX1_isIn cX1_isIn 2 (some .boolean), Cond.fieldLink RX1 16 "JoinGrants$Join" "state" "I", Cond.methodLink RX4 118 yX4_rankOf, Cond.instanceMethod yX4_rankOf, Cond.selects RX4 yX4_rankOf yX4_rankOf, Cond.code yX4_rankOf cX4_rankOf 7 (some .int), Cond.methodLink RX4 65 yX4_isAhead, Cond.instanceMethod yX4_isAhead, Cond.selects RX4 yX4_isAhead yX4_isAhead, Cond.code yX4_isAhead cX4_isAhead 5 (some .boolean), Cond.methodLink RX4 69 yX1_need, Cond.instanceMethod yX1_need, Cond.selects RX1 yX1_need yX1_need]
def wsX5_queue_r2 : List Cond := [Cond.code yX1_need cX1_need 1 (some .int), Cond.fieldLink RX1 10 "JoinGrants$Join" "plan" "LJoinGrants$Plan;", Cond.methodLink RX4 101 yX4_setting, Cond.instanceMethod yX4_setting, Cond.selects RX4 yX4_setting yX4_setting, Cond.code yX4_setting cX4_setting 2 (some .int), Cond.fieldLink RX4 20 "JoinGrants$Pool" "settings" "[I", Cond.methodLink RX4 49 yX1_number, Cond.instanceMethod yX1_number, Cond.selects RX1 yX1_number yX1_number, Cond.code yX1_number cX1_number 1 (some .int), Cond.fieldLink RX1 20 "JoinGrants$Join" "number" "I", Cond.methodLink RX5 167 yX1_number]
def wsX5_queue : List Cond := .code yX5_queue cX5_queue 3 (some .int) :: ((wsX5_queue_r1 ++ wsX5_queue_r2) ++ wsX50 ++ wsX40 ++ wsX10 ++ wsX30)
def wsX5_isPages : List Cond := .code yX5_isPages cX5_isPages 1 (some .boolean) :: ([])
def wsX5_work_r1 : List Cond := [Cond.fieldLink RX5 39 "JoinGrants" "trialPlan" "LJoinGrants$Plan;", Cond.methodLink RX5 47 yX3_fits, Cond.static yX3_fits, Cond.initialized RX3, Cond.code yX3_fits cX3_fits 3 (some .boolean), Cond.methodLink RX3 11 yX3_isWay, Cond.static yX3_isWay, Cond.code yX3_isWay cX3_isWay 1 (some .boolean), Cond.methodLink RX3 15 yX3_isTable, Cond.static yX3_isTable, Cond.code yX3_isTable cX3_isTable 1 (some .boolean), Cond.methodLink RX5 170 yX5_isPages, Cond.static yX5_isPages, Cond.initialized RX5, Cond.code yX5_isPages cX5_isPages 1 (some .boolean), Cond.methodLink RX5 173 yX3_make, Cond.instanceMethod yX3_make, Cond.selects RX3 yX3_make yX3_make, Cond.code yX3_make cX3_make 4 none, Cond.fieldLink RX3 18 "JoinGrants$Plan" "left" "I", Cond.fieldLink RX3 22 "JoinGrants$Plan" "right" "I", Cond.methodLink RX3 25 yX3_changeWay, Cond.instanceMethod yX3_changeWay, Cond.selects RX3 yX3_changeWay yX3_changeWay]
def wsX5_work_r2 : List Cond := [Cond.code yX3_changeWay cX3_changeWay 2 none, Cond.fieldLink RX3 29 "JoinGrants$Plan" "way" "I", Cond.fieldLink RX3 36 "JoinGrants$Plan" "need" "I", Cond.methodLink RX3 42 Lib.Math.max.name, Cond.static Lib.Math.max.name, Cond.initialized "java/lang/Math", Cond.code Lib.Math.max.name Lib.Math.max.code 2 (some .int), Cond.fieldLink RX3 48 "JoinGrants$Plan" "want" "I", Cond.methodLink RX3 32 yX3_computedNeed, Cond.instanceMethod yX3_computedNeed, Cond.selects RX3 yX3_computedNeed yX3_computedNeed, Cond.code yX3_computedNeed cX3_computedNeed 1 (some .int), Cond.methodLink RX3 51 yX3_root, Cond.static yX3_root, Cond.code yX3_root cX3_root 2 (some .int), Cond.methodLink RX3 39 yX3_computedWant, Cond.instanceMethod yX3_computedWant, Cond.selects RX3 yX3_computedWant yX3_computedWant, Cond.code yX3_computedWant cX3_computedWant 1 (some .int), Cond.methodLink RX5 181 yX3_workWith, Cond.instanceMethod yX3_workWith, Cond.selects RX3 yX3_workWith yX3_workWith, Cond.code yX3_workWith cX3_workWith 5 (some .int)]
def wsX5_work : List Cond := .code yX5_work cX5_work 5 (some .int) :: ((wsX5_work_r1 ++ wsX5_work_r2) ++ wsX50 ++ wsX30)
def wsX5_bestWay_r1 : List Cond := [Cond.fieldLink RX5 39 "JoinGrants" "trialPlan" "LJoinGrants$Plan;", Cond.methodLink RX5 47 yX3_fits, Cond.static yX3_fits, Cond.initialized RX3, Cond.code yX3_fits cX3_fits 3 (some .boolean), Cond.methodLink RX3 11 yX3_isWay, Cond.static yX3_isWay, Cond.code yX3_isWay cX3_isWay 1 (some .boolean), Cond.methodLink RX3 15 yX3_isTable, Cond.static yX3_isTable, Cond.code yX3_isTable cX3_isTable 1 (some .boolean), Cond.methodLink RX5 170 yX5_isPages, Cond.static yX5_isPages, Cond.initialized RX5, Cond.code yX5_isPages cX5_isPages 1 (some .boolean), Cond.methodLink RX5 173 yX3_make, Cond.instanceMethod yX3_make, Cond.selects RX3 yX3_make yX3_make, Cond.code yX3_make cX3_make 4 none, Cond.fieldLink RX3 18 "JoinGrants$Plan" "left" "I", Cond.fieldLink RX3 22 "JoinGrants$Plan" "right" "I", Cond.methodLink RX3 25 yX3_changeWay, Cond.instanceMethod yX3_changeWay, Cond.selects RX3 yX3_changeWay yX3_changeWay]
def wsX5_bestWay_r2 : List Cond := [Cond.code yX3_changeWay cX3_changeWay 2 none, Cond.fieldLink RX3 29 "JoinGrants$Plan" "way" "I", Cond.fieldLink RX3 36 "JoinGrants$Plan" "need" "I", Cond.methodLink RX3 42 Lib.Math.max.name, Cond.static Lib.Math.max.name, Cond.initialized "java/lang/Math", Cond.code Lib.Math.max.name Lib.Math.max.code 2 (some .int), Cond.fieldLink RX3 48 "JoinGrants$Plan" "want" "I", Cond.methodLink RX3 32 yX3_computedNeed, Cond.instanceMethod yX3_computedNeed, Cond.selects RX3 yX3_computedNeed yX3_computedNeed, Cond.code yX3_computedNeed cX3_computedNeed 1 (some .int), Cond.methodLink RX3 51 yX3_root, Cond.static yX3_root, Cond.code yX3_root cX3_root 2 (some .int), Cond.methodLink RX3 39 yX3_computedWant, Cond.instanceMethod yX3_computedWant, Cond.selects RX3 yX3_computedWant yX3_computedWant, Cond.code yX3_computedWant cX3_computedWant 1 (some .int), Cond.methodLink RX5 181 yX3_workWith, Cond.instanceMethod yX3_workWith, Cond.selects RX3 yX3_workWith yX3_workWith, Cond.code yX3_workWith cX3_workWith 5 (some .int)]
def wsX5_bestWay : List Cond := .code yX5_bestWay cX5_bestWay 7 (some .int) :: ((wsX5_bestWay_r1 ++ wsX5_bestWay_r2) ++ wsX50 ++ wsX30)
def wsX5_doneIn_r1 : List Cond := [Cond.fieldLink RX5 33 "JoinGrants" "trialPool" "LJoinGrants$Pool;", Cond.fieldLink RX5 10 "JoinGrants" "pool" "LJoinGrants$Pool;", Cond.methodLink RX5 114 Lib.Math.max.name, Cond.static Lib.Math.max.name, Cond.initialized "java/lang/Math", Cond.code Lib.Math.max.name Lib.Math.max.code 2 (some .int), Cond.methodLink RX5 148 yX4_copyFrom, Cond.instanceMethod yX4_copyFrom, Cond.selects RX4 yX4_copyFrom yX4_copyFrom, Cond.initialized RX4, Cond.code yX4_copyFrom cX4_copyFrom 3 none, Cond.fieldLink RX4 20 "JoinGrants$Pool" "settings" "[I", Cond.fieldLink RX4 25 "JoinGrants$Pool" "joins" "[LJoinGrants$Join;", Cond.fieldLink RX4 41 "JoinGrants$Pool" "joinsSoFar" "I", Cond.fieldLink RX4 92 "JoinGrants$Pool" "mostGranted" "I", Cond.fieldLink RX4 138 "JoinGrants$Pool" "steps" "I", Cond.fieldLink RX4 125 "JoinGrants$Pool" "workDone" "I", Cond.fieldLink RX4 115 "JoinGrants$Pool" "askedBack" "I", Cond.methodLink RX4 153 yX1_copyFrom, Cond.instanceMethod yX1_copyFrom, Cond.selects RX1 yX1_copyFrom yX1_copyFrom, Cond.initialized RX1, Cond.code yX1_copyFrom cX1_copyFrom 2 none, Cond.fieldLink RX1 10 "JoinGrants$Join" "plan" "LJoinGrants$Plan;"]
def wsX5_doneIn_r2 : List Cond := [Cond.fieldLink RX1 16 "JoinGrants$Join" "state" "I", Cond.fieldLink RX1 31 "JoinGrants$Join" "pages" "I", Cond.fieldLink RX1 38 "JoinGrants$Join" "workLeft" "I", Cond.fieldLink RX1 44 "JoinGrants$Join" "stepsWaited" "I", Cond.fieldLink RX1 47 "JoinGrants$Join" "stepsWorked" "I", Cond.fieldLink RX1 41 "JoinGrants$Join" "givenBack" "I", Cond.methodLink RX1 79 yX3_copyFrom, Cond.instanceMethod yX3_copyFrom, Cond.selects RX3 yX3_copyFrom yX3_copyFrom, Cond.initialized RX3, Cond.code yX3_copyFrom cX3_copyFrom 2 none, Cond.fieldLink RX3 29 "JoinGrants$Plan" "way" "I", Cond.fieldLink RX3 18 "JoinGrants$Plan" "left" "I", Cond.fieldLink RX3 22 "JoinGrants$Plan" "right" "I", Cond.fieldLink RX3 36 "JoinGrants$Plan" "need" "I", Cond.fieldLink RX3 48 "JoinGrants$Plan" "want" "I", Cond.methodLink RX5 79 yX4_find, Cond.instanceMethod yX4_find, Cond.selects RX4 yX4_find yX4_find, Cond.code yX4_find cX4_find 2 (some (.object "JoinGrants$Join")), Cond.methodLink RX5 85 yX1_isIn, Cond.instanceMethod yX1_isIn, Cond.selects RX1 yX1_isIn yX1_isIn, Cond.code yX1_isIn cX1_isIn 2 (some .boolean)]
def wsX5_doneIn_r3 : List Cond := [Cond.methodLink RX5 111 yX4_leap, Cond.instanceMethod yX4_leap, Cond.selects RX4 yX4_leap yX4_leap, Cond.code yX4_leap cX4_leap 9 (some .int), Cond.methodLink RX4 78 Lib.Math.min.name, Cond.static Lib.Math.min.name, Cond.code Lib.Math.min.name Lib.Math.min.code 2 (some .int), Cond.methodLink RX4 101 yX4_setting, Cond.instanceMethod yX4_setting, Cond.selects RX4 yX4_setting yX4_setting, Cond.code yX4_setting cX4_setting 2 (some .int), Cond.methodLink RX4 61 yX1_isIn, Cond.methodLink RX4 122 yX1_stepsLeft, Cond.instanceMethod yX1_stepsLeft, Cond.selects RX1 yX1_stepsLeft yX1_stepsLeft, Cond.code yX1_stepsLeft cX1_stepsLeft 2 (some .int), Cond.methodLink RX4 128 yX1_pass, Cond.instanceMethod yX1_pass, Cond.selects RX1 yX1_pass yX1_pass, Cond.code yX1_pass cX1_pass 4 (some .int), Cond.methodLink RX1 50 Lib.Math.min.name, Cond.methodLink RX4 131 yX1_hasWorkedAll, Cond.instanceMethod yX1_hasWorkedAll, Cond.selects RX1 yX1_hasWorkedAll yX1_hasWorkedAll]
def wsX5_doneIn_r4 : List Cond := [Cond.code yX1_hasWorkedAll cX1_hasWorkedAll 1 (some .boolean), Cond.methodLink RX4 135 yX1_end, Cond.instanceMethod yX1_end, Cond.selects RX1 yX1_end yX1_end, Cond.code yX1_end cX1_end 2 none, Cond.methodLink RX4 38 yX4_goThroughQueue, Cond.instanceMethod yX4_goThroughQueue, Cond.selects RX4 yX4_goThroughQueue yX4_goThroughQueue, Cond.code yX4_goThroughQueue cX4_goThroughQueue 3 none, Cond.methodLink RX4 53 yX4_firstInQueue, Cond.instanceMethod yX4_firstInQueue, Cond.selects RX4 yX4_firstInQueue yX4_firstInQueue, Cond.code yX4_firstInQueue cX4_firstInQueue 6 (some (.object "JoinGrants$Join")), Cond.methodLink RX4 65 yX4_isAhead, Cond.instanceMethod yX4_isAhead, Cond.selects RX4 yX4_isAhead yX4_isAhead, Cond.code yX4_isAhead cX4_isAhead 5 (some .boolean), Cond.methodLink RX4 69 yX1_need, Cond.instanceMethod yX1_need, Cond.selects RX1 yX1_need yX1_need, Cond.code yX1_need cX1_need 1 (some .int), Cond.methodLink RX4 49 yX1_number, Cond.instanceMethod yX1_number, Cond.selects RX1 yX1_number yX1_number]
def wsX5_doneIn_r5 : List Cond := [Cond.code yX1_number cX1_number 1 (some .int), Cond.fieldLink RX1 20 "JoinGrants$Join" "number" "I", Cond.methodLink RX4 57 yX4_start, Cond.instanceMethod yX4_start, Cond.selects RX4 yX4_start yX4_start, Cond.code yX4_start cX4_start 4 (some .boolean), Cond.methodLink RX4 98 Lib.Math.max.name, Cond.methodLink RX4 72 yX4_free, Cond.instanceMethod yX4_free, Cond.selects RX4 yX4_free yX4_free, Cond.code yX4_free cX4_free 1 (some .int), Cond.methodLink RX4 95 yX4_granted, Cond.instanceMethod yX4_granted, Cond.selects RX4 yX4_granted yX4_granted, Cond.code yX4_granted cX4_granted 6 (some .int), Cond.methodLink RX4 141 yX1_pages, Cond.instanceMethod yX1_pages, Cond.selects RX1 yX1_pages yX1_pages, Cond.code yX1_pages cX1_pages 1 (some .int), Cond.methodLink RX4 75 yX1_want, Cond.instanceMethod yX1_want, Cond.selects RX1 yX1_want yX1_want, Cond.code yX1_want cX1_want 1 (some .int), Cond.methodLink RX4 84 yX1_start]
def wsX5_doneIn_r6 : List Cond := [Cond.instanceMethod yX1_start, Cond.selects RX1 yX1_start yX1_start, Cond.code yX1_start cX1_start 2 none, Cond.methodLink RX1 34 yX3_workWith, Cond.instanceMethod yX3_workWith, Cond.selects RX3 yX3_workWith yX3_workWith, Cond.code yX3_workWith cX3_workWith 5 (some .int), Cond.methodLink RX4 86 yX4_canAskBack, Cond.instanceMethod yX4_canAskBack, Cond.selects RX4 yX4_canAskBack yX4_canAskBack, Cond.code yX4_canAskBack cX4_canAskBack 2 (some .boolean), Cond.methodLink RX4 105 yX4_surplus, Cond.instanceMethod yX4_surplus, Cond.selects RX4 yX4_surplus yX4_surplus, Cond.code yX4_surplus cX4_surplus 6 (some .int), Cond.methodLink RX4 111 yX1_surplus, Cond.instanceMethod yX1_surplus, Cond.selects RX1 yX1_surplus yX1_surplus, Cond.code yX1_surplus cX1_surplus 1 (some .int), Cond.methodLink RX4 89 yX4_askBack, Cond.instanceMethod yX4_askBack, Cond.selects RX4 yX4_askBack yX4_askBack, Cond.code yX4_askBack cX4_askBack 6 none, Cond.methodLink RX4 108 yX4_richest]
def wsX5_doneIn_r7 : List Cond := [Cond.instanceMethod yX4_richest, Cond.selects RX4 yX4_richest yX4_richest, Cond.code yX4_richest cX4_richest 6 (some (.object "JoinGrants$Join")), Cond.methodLink RX4 112 yX1_giveBack, Cond.instanceMethod yX1_giveBack, Cond.selects RX1 yX1_giveBack yX1_giveBack, Cond.code yX1_giveBack cX1_giveBack 6 none]
def wsX5_doneIn : List Cond := .code yX5_doneIn cX5_doneIn 4 (some .int) :: ((wsX5_doneIn_r1 ++ (wsX5_doneIn_r2 ++ (wsX5_doneIn_r3 ++ (wsX5_doneIn_r4 ++ (wsX5_doneIn_r5 ++ (wsX5_doneIn_r6 ++ wsX5_doneIn_r7)))))) ++ wsX50 ++ wsX40 ++ wsX10 ++ wsX30)
def wsX5_count_r1 : List Cond := [Cond.fieldLink RX5 19 "JoinGrants" "history" "LJoinGrants$History;", Cond.fieldLink RX5 26 "JoinGrants" "text" "LJoinGrants$JoinText;", Cond.fieldLink RX5 10 "JoinGrants" "pool" "LJoinGrants$Pool;", Cond.methodLink RX5 145 yX0_size, Cond.instanceMethod yX0_size, Cond.selects RX0 yX0_size yX0_size, Cond.initialized RX0, Cond.code yX0_size cX0_size 1 (some .int), Cond.fieldLink RX0 16 "JoinGrants$History" "size" "I", Cond.methodLink RX5 135 yX2_length, Cond.instanceMethod yX2_length, Cond.selects RX2 yX2_length yX2_length, Cond.initialized RX2, Cond.code yX2_length cX2_length 1 (some .int), Cond.fieldLink RX2 23 "JoinGrants$JoinText" "length" "I", Cond.methodLink RX5 184 yX4_canTell, Cond.static yX4_canTell, Cond.initialized RX4, Cond.code yX4_canTell cX4_canTell 1 (some .boolean), Cond.methodLink RX5 185 yX4_tell, Cond.instanceMethod yX4_tell, Cond.selects RX4 yX4_tell yX4_tell, Cond.code yX4_tell cX4_tell 2 (some .int), Cond.fieldLink RX4 41 "JoinGrants$Pool" "joinsSoFar" "I"]
def wsX5_count_r2 : List Cond := [Cond.fieldLink RX4 92 "JoinGrants$Pool" "mostGranted" "I", Cond.fieldLink RX4 138 "JoinGrants$Pool" "steps" "I", Cond.fieldLink RX4 125 "JoinGrants$Pool" "workDone" "I", Cond.fieldLink RX4 115 "JoinGrants$Pool" "askedBack" "I", Cond.methodLink RX4 147 yX4_joinsIn, Cond.instanceMethod yX4_joinsIn, Cond.selects RX4 yX4_joinsIn yX4_joinsIn, Cond.code yX4_joinsIn cX4_joinsIn 7 (some .int), Cond.fieldLink RX4 25 "JoinGrants$Pool" "joins" "[LJoinGrants$Join;", Cond.methodLink RX4 61 yX1_isIn, Cond.instanceMethod yX1_isIn, Cond.selects RX1 yX1_isIn yX1_isIn, Cond.initialized RX1, Cond.code yX1_isIn cX1_isIn 2 (some .boolean), Cond.fieldLink RX1 16 "JoinGrants$Join" "state" "I", Cond.methodLink RX4 95 yX4_granted, Cond.instanceMethod yX4_granted, Cond.selects RX4 yX4_granted yX4_granted, Cond.code yX4_granted cX4_granted 6 (some .int), Cond.methodLink RX4 141 yX1_pages, Cond.instanceMethod yX1_pages, Cond.selects RX1 yX1_pages yX1_pages, Cond.code yX1_pages cX1_pages 1 (some .int), Cond.fieldLink RX1 31 "JoinGrants$Join" "pages" "I"]
def wsX5_count_r3 : List Cond := [Cond.methodLink RX4 72 yX4_free, Cond.instanceMethod yX4_free, Cond.selects RX4 yX4_free yX4_free, Cond.code yX4_free cX4_free 1 (some .int), Cond.methodLink RX4 98 Lib.Math.max.name, Cond.static Lib.Math.max.name, Cond.initialized "java/lang/Math", Cond.code Lib.Math.max.name Lib.Math.max.code 2 (some .int), Cond.methodLink RX4 101 yX4_setting, Cond.instanceMethod yX4_setting, Cond.selects RX4 yX4_setting yX4_setting, Cond.code yX4_setting cX4_setting 2 (some .int), Cond.fieldLink RX4 20 "JoinGrants$Pool" "settings" "[I", Cond.methodLink RX4 150 yX4_spilling, Cond.instanceMethod yX4_spilling, Cond.selects RX4 yX4_spilling yX4_spilling, Cond.code yX4_spilling cX4_spilling 6 (some .int), Cond.methodLink RX4 144 yX1_spills, Cond.instanceMethod yX1_spills, Cond.selects RX1 yX1_spills yX1_spills, Cond.code yX1_spills cX1_spills 1 (some .boolean), Cond.fieldLink RX1 10 "JoinGrants$Join" "plan" "LJoinGrants$Plan;", Cond.methodLink RX1 59 yX3_spillsWith, Cond.instanceMethod yX3_spillsWith]
def wsX5_count_r4 : List Cond := [Cond.selects RX3 yX3_spillsWith yX3_spillsWith, Cond.initialized RX3, Cond.code yX3_spillsWith cX3_spillsWith 2 (some .boolean), Cond.fieldLink RX3 29 "JoinGrants$Plan" "way" "I", Cond.fieldLink RX3 48 "JoinGrants$Plan" "want" "I"]
def wsX5_count : List Cond := .code yX5_count cX5_count 2 (some .int) :: ((wsX5_count_r1 ++ (wsX5_count_r2 ++ (wsX5_count_r3 ++ wsX5_count_r4))) ++ wsX50 ++ wsX00 ++ wsX20 ++ wsX40 ++ wsX10 ++ wsX30)
def wsX5_spare : List Cond := .code yX5_spare cX5_spare 1 (some .int) :: ([.fieldLink RX5 10 "JoinGrants" "pool" "LJoinGrants$Pool;", .methodLink RX5 186 yX4_surplus, .instanceMethod yX4_surplus, .selects RX4 yX4_surplus yX4_surplus, .initialized RX4, .code yX4_surplus cX4_surplus 6 (some .int), .fieldLink RX4 25 "JoinGrants$Pool" "joins" "[LJoinGrants$Join;", .methodLink RX4 111 yX1_surplus, .instanceMethod yX1_surplus, .selects RX1 yX1_surplus yX1_surplus, .initialized RX1, .code yX1_surplus cX1_surplus 1 (some .int), .fieldLink RX1 16 "JoinGrants$Join" "state" "I", .fieldLink RX1 31 "JoinGrants$Join" "pages" "I", .fieldLink RX1 10 "JoinGrants$Join" "plan" "LJoinGrants$Plan;"] ++ wsX50 ++ wsX40 ++ wsX10 ++ wsX30)
def wsX6_init : List Cond := .code yX6_init cX6_init 1 none :: ([.methodLink RX6 1 objectInit, .instanceMethod objectInit, .code objectInit ⟨#[0xb1]⟩ 1 none, .arrayClass .int, .fieldLink RX6 7 "JoinGrantsModel" "all" "[I", .fieldLink RX6 13 "JoinGrantsModel" "kept" "[I", .fieldLink RX6 16 "JoinGrantsModel" "tried" "[I", .fieldLink RX6 19 "JoinGrantsModel" "history" "[I", .fieldLink RX6 22 "JoinGrantsModel" "snapshot" "[I", .fieldLink RX6 25 "JoinGrantsModel" "text" "[I", .fieldLink RX6 28 "JoinGrantsModel" "read" "[I"] ++ wsX60)
def wsX6_in : List Cond := .code yX6_in cX6_in 6 (some .boolean) :: ([])
def wsX6_copy : List Cond := .code yX6_copy cX6_copy 3 none :: ([])
def wsX6_remember : List Cond := .code yX6_remember cX6_remember 1 none :: ([.fieldLink RX6 7 "JoinGrantsModel" "all" "[I", .fieldLink RX6 13 "JoinGrantsModel" "kept" "[I", .methodLink RX6 31 yX6_copy, .static yX6_copy, .initialized RX6, .code yX6_copy cX6_copy 3 none] ++ wsX60)
def wsX6_acted : List Cond := .code yX6_acted cX6_acted 3 (some .int) :: ([.fieldLink RX6 35 "JoinGrantsModel" "historyLong" "I", .fieldLink RX6 19 "JoinGrantsModel" "history" "[I", .fieldLink RX6 13 "JoinGrantsModel" "kept" "[I"] ++ wsX60)
def wsX6_root : List Cond := .code yX6_root cX6_root 2 (some .int) :: ([])
def wsX6_over : List Cond := .code yX6_over cX6_over 2 (some .int) :: ([])
def wsX6_needsOf : List Cond := .code yX6_needsOf cX6_needsOf 3 (some .int) :: ([.methodLink RX6 39 yX6_root, .static yX6_root, .initialized RX6, .code yX6_root cX6_root 2 (some .int)])
def wsX6_wantsOf : List Cond := .code yX6_wantsOf cX6_wantsOf 5 (some .int) :: ([.methodLink RX6 43 yX6_needsOf, .static yX6_needsOf, .initialized RX6, .code yX6_needsOf cX6_needsOf 3 (some .int), .methodLink RX6 39 yX6_root, .static yX6_root, .code yX6_root cX6_root 2 (some .int)])
def wsX6_workOf : List Cond := .code yX6_workOf cX6_workOf 7 (some .int) :: ([.methodLink RX6 47 yX6_over, .static yX6_over, .initialized RX6, .code yX6_over cX6_over 2 (some .int), .methodLink RX6 51 yX6_wantsOf, .static yX6_wantsOf, .code yX6_wantsOf cX6_wantsOf 5 (some .int), .methodLink RX6 43 yX6_needsOf, .static yX6_needsOf, .code yX6_needsOf cX6_needsOf 3 (some .int), .methodLink RX6 39 yX6_root, .static yX6_root, .code yX6_root cX6_root 2 (some .int)])
def wsX6_of : List Cond := .code yX6_of cX6_of 3 (some .int) :: ([.fieldLink RX6 7 "JoinGrantsModel" "all" "[I"] ++ wsX60)
def wsX6_sets : List Cond := .code yX6_sets cX6_sets 4 none :: ([.fieldLink RX6 7 "JoinGrantsModel" "all" "[I"] ++ wsX60)
def wsX6_isJoin : List Cond := .code yX6_isJoin cX6_isJoin 2 (some .boolean) :: ([.fieldLink RX6 7 "JoinGrantsModel" "all" "[I", .methodLink RX6 54 yX6_in, .static yX6_in, .initialized RX6, .code yX6_in cX6_in 6 (some .boolean)] ++ wsX60)
def wsX6_is : List Cond := .code yX6_is cX6_is 3 (some .boolean) :: ([.methodLink RX6 58 yX6_of, .instanceMethod yX6_of, .selects RX6 yX6_of yX6_of, .initialized RX6, .code yX6_of cX6_of 3 (some .int), .fieldLink RX6 7 "JoinGrantsModel" "all" "[I"] ++ wsX60)
def wsX6_needs : List Cond := .code yX6_needs cX6_needs 2 (some .int) :: ([.methodLink RX6 58 yX6_of, .instanceMethod yX6_of, .selects RX6 yX6_of yX6_of, .initialized RX6, .code yX6_of cX6_of 3 (some .int), .fieldLink RX6 7 "JoinGrantsModel" "all" "[I", .methodLink RX6 43 yX6_needsOf, .static yX6_needsOf, .code yX6_needsOf cX6_needsOf 3 (some .int), .methodLink RX6 39 yX6_root, .static yX6_root, .code yX6_root cX6_root 2 (some .int)] ++ wsX60)
def wsX6_wants : List Cond := .code yX6_wants cX6_wants 2 (some .int) :: ([.methodLink RX6 58 yX6_of, .instanceMethod yX6_of, .selects RX6 yX6_of yX6_of, .initialized RX6, .code yX6_of cX6_of 3 (some .int), .fieldLink RX6 7 "JoinGrantsModel" "all" "[I", .methodLink RX6 51 yX6_wantsOf, .static yX6_wantsOf, .code yX6_wantsOf cX6_wantsOf 5 (some .int), .methodLink RX6 43 yX6_needsOf, .static yX6_needsOf, .code yX6_needsOf cX6_needsOf 3 (some .int), .methodLink RX6 39 yX6_root, .static yX6_root, .code yX6_root cX6_root 2 (some .int)] ++ wsX60)
def wsX6_works : List Cond := .code yX6_works cX6_works 3 (some .int) :: ([.methodLink RX6 58 yX6_of, .instanceMethod yX6_of, .selects RX6 yX6_of yX6_of, .initialized RX6, .code yX6_of cX6_of 3 (some .int), .fieldLink RX6 7 "JoinGrantsModel" "all" "[I", .methodLink RX6 61 yX6_workOf, .static yX6_workOf, .code yX6_workOf cX6_workOf 7 (some .int), .methodLink RX6 47 yX6_over, .static yX6_over, .code yX6_over cX6_over 2 (some .int), .methodLink RX6 51 yX6_wantsOf, .static yX6_wantsOf, .code yX6_wantsOf cX6_wantsOf 5 (some .int), .methodLink RX6 43 yX6_needsOf, .static yX6_needsOf, .code yX6_needsOf cX6_needsOf 3 (some .int), .methodLink RX6 39 yX6_root, .static yX6_root, .code yX6_root cX6_root 2 (some .int)] ++ wsX60)
def wsX6_granted : List Cond := .code yX6_granted cX6_granted 3 (some .int) :: ([.fieldLink RX6 7 "JoinGrantsModel" "all" "[I", .methodLink RX6 58 yX6_of, .instanceMethod yX6_of, .selects RX6 yX6_of yX6_of, .initialized RX6, .code yX6_of cX6_of 3 (some .int)] ++ wsX60)
def wsX6_free : List Cond := .code yX6_free cX6_free 2 (some .int) :: ([.fieldLink RX6 7 "JoinGrantsModel" "all" "[I", .methodLink RX6 65 yX6_granted, .instanceMethod yX6_granted, .selects RX6 yX6_granted yX6_granted, .initialized RX6, .code yX6_granted cX6_granted 3 (some .int), .methodLink RX6 58 yX6_of, .instanceMethod yX6_of, .selects RX6 yX6_of yX6_of, .code yX6_of cX6_of 3 (some .int)] ++ wsX60)
def wsX6_extra : List Cond := .code yX6_extra cX6_extra 2 (some .int) :: ([.methodLink RX6 69 yX6_is, .instanceMethod yX6_is, .selects RX6 yX6_is yX6_is, .initialized RX6, .code yX6_is cX6_is 3 (some .boolean), .methodLink RX6 58 yX6_of, .instanceMethod yX6_of, .selects RX6 yX6_of yX6_of, .code yX6_of cX6_of 3 (some .int), .fieldLink RX6 7 "JoinGrantsModel" "all" "[I", .methodLink RX6 73 yX6_needs, .instanceMethod yX6_needs, .selects RX6 yX6_needs yX6_needs, .code yX6_needs cX6_needs 2 (some .int), .methodLink RX6 43 yX6_needsOf, .static yX6_needsOf, .code yX6_needsOf cX6_needsOf 3 (some .int), .methodLink RX6 39 yX6_root, .static yX6_root, .code yX6_root cX6_root 2 (some .int)] ++ wsX60)
def wsX6_spares : List Cond := .code yX6_spares cX6_spares 3 (some .int) :: ([.fieldLink RX6 7 "JoinGrantsModel" "all" "[I", .methodLink RX6 76 yX6_extra, .instanceMethod yX6_extra, .selects RX6 yX6_extra yX6_extra, .initialized RX6, .code yX6_extra cX6_extra 2 (some .int), .methodLink RX6 69 yX6_is, .instanceMethod yX6_is, .selects RX6 yX6_is yX6_is, .code yX6_is cX6_is 3 (some .boolean), .methodLink RX6 58 yX6_of, .instanceMethod yX6_of, .selects RX6 yX6_of yX6_of, .code yX6_of cX6_of 3 (some .int), .methodLink RX6 73 yX6_needs, .instanceMethod yX6_needs, .selects RX6 yX6_needs yX6_needs, .code yX6_needs cX6_needs 2 (some .int), .methodLink RX6 43 yX6_needsOf, .static yX6_needsOf, .code yX6_needsOf cX6_needsOf 3 (some .int), .methodLink RX6 39 yX6_root, .static yX6_root, .code yX6_root cX6_root 2 (some .int)] ++ wsX60)
def wsX6_isAhead : List Cond := .code yX6_isAhead cX6_isAhead 4 (some .boolean) :: ([.fieldLink RX6 7 "JoinGrantsModel" "all" "[I", .methodLink RX6 73 yX6_needs, .instanceMethod yX6_needs, .selects RX6 yX6_needs yX6_needs, .initialized RX6, .code yX6_needs cX6_needs 2 (some .int), .methodLink RX6 58 yX6_of, .instanceMethod yX6_of, .selects RX6 yX6_of yX6_of, .code yX6_of cX6_of 3 (some .int), .methodLink RX6 43 yX6_needsOf, .static yX6_needsOf, .code yX6_needsOf cX6_needsOf 3 (some .int), .methodLink RX6 39 yX6_root, .static yX6_root, .code yX6_root cX6_root 2 (some .int)] ++ wsX60)
def wsX6_rankOf : List Cond := .code yX6_rankOf cX6_rankOf 4 (some .int) :: ([.fieldLink RX6 7 "JoinGrantsModel" "all" "[I", .methodLink RX6 69 yX6_is, .instanceMethod yX6_is, .selects RX6 yX6_is yX6_is, .initialized RX6, .code yX6_is cX6_is 3 (some .boolean), .methodLink RX6 58 yX6_of, .instanceMethod yX6_of, .selects RX6 yX6_of yX6_of, .code yX6_of cX6_of 3 (some .int), .methodLink RX6 79 yX6_isAhead, .instanceMethod yX6_isAhead, .selects RX6 yX6_isAhead yX6_isAhead, .code yX6_isAhead cX6_isAhead 4 (some .boolean), .methodLink RX6 73 yX6_needs, .instanceMethod yX6_needs, .selects RX6 yX6_needs yX6_needs, .code yX6_needs cX6_needs 2 (some .int), .methodLink RX6 43 yX6_needsOf, .static yX6_needsOf, .code yX6_needsOf cX6_needsOf 3 (some .int), .methodLink RX6 39 yX6_root, .static yX6_root, .code yX6_root cX6_root 2 (some .int)] ++ wsX60)
def wsX6_ranked_r1 : List Cond := [Cond.fieldLink RX6 7 "JoinGrantsModel" "all" "[I", Cond.methodLink RX6 69 yX6_is, Cond.instanceMethod yX6_is, Cond.selects RX6 yX6_is yX6_is, Cond.initialized RX6, Cond.code yX6_is cX6_is 3 (some .boolean), Cond.methodLink RX6 58 yX6_of, Cond.instanceMethod yX6_of, Cond.selects RX6 yX6_of yX6_of, Cond.code yX6_of cX6_of 3 (some .int), Cond.methodLink RX6 82 yX6_rankOf, Cond.instanceMethod yX6_rankOf, Cond.selects RX6 yX6_rankOf yX6_rankOf, Cond.code yX6_rankOf cX6_rankOf 4 (some .int), Cond.methodLink RX6 79 yX6_isAhead, Cond.instanceMethod yX6_isAhead, Cond.selects RX6 yX6_isAhead yX6_isAhead, Cond.code yX6_isAhead cX6_isAhead 4 (some .boolean), Cond.methodLink RX6 73 yX6_needs, Cond.instanceMethod yX6_needs, Cond.selects RX6 yX6_needs yX6_needs, Cond.code yX6_needs cX6_needs 2 (some .int), Cond.methodLink RX6 43 yX6_needsOf, Cond.static yX6_needsOf]
def wsX6_ranked_r2 : List Cond := [Cond.code yX6_needsOf cX6_needsOf 3 (some .int), Cond.methodLink RX6 39 yX6_root, Cond.static yX6_root, Cond.code yX6_root cX6_root 2 (some .int)]
def wsX6_ranked : List Cond := .code yX6_ranked cX6_ranked 3 (some .int) :: ((wsX6_ranked_r1 ++ wsX6_ranked_r2) ++ wsX60)
def wsX6_givesBack_r1 : List Cond := [Cond.fieldLink RX6 7 "JoinGrantsModel" "all" "[I", Cond.methodLink RX6 58 yX6_of, Cond.instanceMethod yX6_of, Cond.selects RX6 yX6_of yX6_of, Cond.initialized RX6, Cond.code yX6_of cX6_of 3 (some .int), Cond.methodLink RX6 85 yX6_works, Cond.instanceMethod yX6_works, Cond.selects RX6 yX6_works yX6_works, Cond.code yX6_works cX6_works 3 (some .int), Cond.methodLink RX6 61 yX6_workOf, Cond.static yX6_workOf, Cond.code yX6_workOf cX6_workOf 7 (some .int), Cond.methodLink RX6 47 yX6_over, Cond.static yX6_over, Cond.code yX6_over cX6_over 2 (some .int), Cond.methodLink RX6 51 yX6_wantsOf, Cond.static yX6_wantsOf, Cond.code yX6_wantsOf cX6_wantsOf 5 (some .int), Cond.methodLink RX6 43 yX6_needsOf, Cond.static yX6_needsOf, Cond.code yX6_needsOf cX6_needsOf 3 (some .int), Cond.methodLink RX6 39 yX6_root, Cond.static yX6_root]
def wsX6_givesBack_r2 : List Cond := [Cond.code yX6_root cX6_root 2 (some .int), Cond.methodLink RX6 88 yX6_sets, Cond.instanceMethod yX6_sets, Cond.selects RX6 yX6_sets yX6_sets, Cond.code yX6_sets cX6_sets 4 none]
def wsX6_givesBack : List Cond := .code yX6_givesBack cX6_givesBack 7 none :: ((wsX6_givesBack_r1 ++ wsX6_givesBack_r2) ++ wsX60)
def wsX6_asksBack_r1 : List Cond := [Cond.fieldLink RX6 7 "JoinGrantsModel" "all" "[I", Cond.methodLink RX6 76 yX6_extra, Cond.instanceMethod yX6_extra, Cond.selects RX6 yX6_extra yX6_extra, Cond.initialized RX6, Cond.code yX6_extra cX6_extra 2 (some .int), Cond.methodLink RX6 69 yX6_is, Cond.instanceMethod yX6_is, Cond.selects RX6 yX6_is yX6_is, Cond.code yX6_is cX6_is 3 (some .boolean), Cond.methodLink RX6 58 yX6_of, Cond.instanceMethod yX6_of, Cond.selects RX6 yX6_of yX6_of, Cond.code yX6_of cX6_of 3 (some .int), Cond.methodLink RX6 73 yX6_needs, Cond.instanceMethod yX6_needs, Cond.selects RX6 yX6_needs yX6_needs, Cond.code yX6_needs cX6_needs 2 (some .int), Cond.methodLink RX6 43 yX6_needsOf, Cond.static yX6_needsOf, Cond.code yX6_needsOf cX6_needsOf 3 (some .int), Cond.methodLink RX6 39 yX6_root, Cond.static yX6_root, Cond.code yX6_root cX6_root 2 (some .int)]
def wsX6_asksBack_r2 : List Cond := [Cond.methodLink RX6 92 yX6_givesBack, Cond.instanceMethod yX6_givesBack, Cond.selects RX6 yX6_givesBack yX6_givesBack, Cond.code yX6_givesBack cX6_givesBack 7 none, Cond.methodLink RX6 85 yX6_works, Cond.instanceMethod yX6_works, Cond.selects RX6 yX6_works yX6_works, Cond.code yX6_works cX6_works 3 (some .int), Cond.methodLink RX6 61 yX6_workOf, Cond.static yX6_workOf, Cond.code yX6_workOf cX6_workOf 7 (some .int), Cond.methodLink RX6 47 yX6_over, Cond.static yX6_over, Cond.code yX6_over cX6_over 2 (some .int), Cond.methodLink RX6 51 yX6_wantsOf, Cond.static yX6_wantsOf, Cond.code yX6_wantsOf cX6_wantsOf 5 (some .int), Cond.methodLink RX6 88 yX6_sets, Cond.instanceMethod yX6_sets, Cond.selects RX6 yX6_sets yX6_sets, Cond.code yX6_sets cX6_sets 4 none]
def wsX6_asksBack : List Cond := .code yX6_asksBack cX6_asksBack 5 none :: ((wsX6_asksBack_r1 ++ wsX6_asksBack_r2) ++ wsX60)
def wsX6_starts_r1 : List Cond := [Cond.fieldLink RX6 7 "JoinGrantsModel" "all" "[I", Cond.methodLink RX6 96 yX6_free, Cond.instanceMethod yX6_free, Cond.selects RX6 yX6_free yX6_free, Cond.initialized RX6, Cond.code yX6_free cX6_free 2 (some .int), Cond.methodLink RX6 65 yX6_granted, Cond.instanceMethod yX6_granted, Cond.selects RX6 yX6_granted yX6_granted, Cond.code yX6_granted cX6_granted 3 (some .int), Cond.methodLink RX6 58 yX6_of, Cond.instanceMethod yX6_of, Cond.selects RX6 yX6_of yX6_of, Cond.code yX6_of cX6_of 3 (some .int), Cond.methodLink RX6 73 yX6_needs, Cond.instanceMethod yX6_needs, Cond.selects RX6 yX6_needs yX6_needs, Cond.code yX6_needs cX6_needs 2 (some .int), Cond.methodLink RX6 43 yX6_needsOf, Cond.static yX6_needsOf, Cond.code yX6_needsOf cX6_needsOf 3 (some .int), Cond.methodLink RX6 39 yX6_root, Cond.static yX6_root, Cond.code yX6_root cX6_root 2 (some .int)]
def wsX6_starts_r2 : List Cond := [Cond.methodLink RX6 99 yX6_wants, Cond.instanceMethod yX6_wants, Cond.selects RX6 yX6_wants yX6_wants, Cond.code yX6_wants cX6_wants 2 (some .int), Cond.methodLink RX6 51 yX6_wantsOf, Cond.static yX6_wantsOf, Cond.code yX6_wantsOf cX6_wantsOf 5 (some .int), Cond.methodLink RX6 102 yX6_spares, Cond.instanceMethod yX6_spares, Cond.selects RX6 yX6_spares yX6_spares, Cond.code yX6_spares cX6_spares 3 (some .int), Cond.methodLink RX6 76 yX6_extra, Cond.instanceMethod yX6_extra, Cond.selects RX6 yX6_extra yX6_extra, Cond.code yX6_extra cX6_extra 2 (some .int), Cond.methodLink RX6 69 yX6_is, Cond.instanceMethod yX6_is, Cond.selects RX6 yX6_is yX6_is, Cond.code yX6_is cX6_is 3 (some .boolean), Cond.methodLink RX6 105 yX6_asksBack, Cond.instanceMethod yX6_asksBack, Cond.selects RX6 yX6_asksBack yX6_asksBack, Cond.code yX6_asksBack cX6_asksBack 5 none, Cond.methodLink RX6 92 yX6_givesBack]
def wsX6_starts_r3 : List Cond := [Cond.instanceMethod yX6_givesBack, Cond.selects RX6 yX6_givesBack yX6_givesBack, Cond.code yX6_givesBack cX6_givesBack 7 none, Cond.methodLink RX6 85 yX6_works, Cond.instanceMethod yX6_works, Cond.selects RX6 yX6_works yX6_works, Cond.code yX6_works cX6_works 3 (some .int), Cond.methodLink RX6 61 yX6_workOf, Cond.static yX6_workOf, Cond.code yX6_workOf cX6_workOf 7 (some .int), Cond.methodLink RX6 47 yX6_over, Cond.static yX6_over, Cond.code yX6_over cX6_over 2 (some .int), Cond.methodLink RX6 88 yX6_sets, Cond.instanceMethod yX6_sets, Cond.selects RX6 yX6_sets yX6_sets, Cond.code yX6_sets cX6_sets 4 none]
def wsX6_starts : List Cond := .code yX6_starts cX6_starts 6 (some .boolean) :: ((wsX6_starts_r1 ++ (wsX6_starts_r2 ++ wsX6_starts_r3)) ++ wsX60)
def wsX6_goesThrough_r1 : List Cond := [Cond.methodLink RX6 109 yX6_ranked, Cond.instanceMethod yX6_ranked, Cond.selects RX6 yX6_ranked yX6_ranked, Cond.initialized RX6, Cond.code yX6_ranked cX6_ranked 3 (some .int), Cond.fieldLink RX6 7 "JoinGrantsModel" "all" "[I", Cond.methodLink RX6 69 yX6_is, Cond.instanceMethod yX6_is, Cond.selects RX6 yX6_is yX6_is, Cond.code yX6_is cX6_is 3 (some .boolean), Cond.methodLink RX6 58 yX6_of, Cond.instanceMethod yX6_of, Cond.selects RX6 yX6_of yX6_of, Cond.code yX6_of cX6_of 3 (some .int), Cond.methodLink RX6 82 yX6_rankOf, Cond.instanceMethod yX6_rankOf, Cond.selects RX6 yX6_rankOf yX6_rankOf, Cond.code yX6_rankOf cX6_rankOf 4 (some .int), Cond.methodLink RX6 79 yX6_isAhead, Cond.instanceMethod yX6_isAhead, Cond.selects RX6 yX6_isAhead yX6_isAhead, Cond.code yX6_isAhead cX6_isAhead 4 (some .boolean), Cond.methodLink RX6 73 yX6_needs, Cond.instanceMethod yX6_needs]
def wsX6_goesThrough_r2 : List Cond := [Cond.selects RX6 yX6_needs yX6_needs, Cond.code yX6_needs cX6_needs 2 (some .int), Cond.methodLink RX6 43 yX6_needsOf, Cond.static yX6_needsOf, Cond.code yX6_needsOf cX6_needsOf 3 (some .int), Cond.methodLink RX6 39 yX6_root, Cond.static yX6_root, Cond.code yX6_root cX6_root 2 (some .int), Cond.methodLink RX6 112 yX6_starts, Cond.instanceMethod yX6_starts, Cond.selects RX6 yX6_starts yX6_starts, Cond.code yX6_starts cX6_starts 6 (some .boolean), Cond.methodLink RX6 96 yX6_free, Cond.instanceMethod yX6_free, Cond.selects RX6 yX6_free yX6_free, Cond.code yX6_free cX6_free 2 (some .int), Cond.methodLink RX6 65 yX6_granted, Cond.instanceMethod yX6_granted, Cond.selects RX6 yX6_granted yX6_granted, Cond.code yX6_granted cX6_granted 3 (some .int), Cond.methodLink RX6 99 yX6_wants, Cond.instanceMethod yX6_wants, Cond.selects RX6 yX6_wants yX6_wants, Cond.code yX6_wants cX6_wants 2 (some .int)]
def wsX6_goesThrough_r3 : List Cond := [Cond.methodLink RX6 51 yX6_wantsOf, Cond.static yX6_wantsOf, Cond.code yX6_wantsOf cX6_wantsOf 5 (some .int), Cond.methodLink RX6 102 yX6_spares, Cond.instanceMethod yX6_spares, Cond.selects RX6 yX6_spares yX6_spares, Cond.code yX6_spares cX6_spares 3 (some .int), Cond.methodLink RX6 76 yX6_extra, Cond.instanceMethod yX6_extra, Cond.selects RX6 yX6_extra yX6_extra, Cond.code yX6_extra cX6_extra 2 (some .int), Cond.methodLink RX6 105 yX6_asksBack, Cond.instanceMethod yX6_asksBack, Cond.selects RX6 yX6_asksBack yX6_asksBack, Cond.code yX6_asksBack cX6_asksBack 5 none, Cond.methodLink RX6 92 yX6_givesBack, Cond.instanceMethod yX6_givesBack, Cond.selects RX6 yX6_givesBack yX6_givesBack, Cond.code yX6_givesBack cX6_givesBack 7 none, Cond.methodLink RX6 85 yX6_works, Cond.instanceMethod yX6_works, Cond.selects RX6 yX6_works yX6_works, Cond.code yX6_works cX6_works 3 (some .int), Cond.methodLink RX6 61 yX6_workOf]
def wsX6_goesThrough_r4 : List Cond := [Cond.static yX6_workOf, Cond.code yX6_workOf cX6_workOf 7 (some .int), Cond.methodLink RX6 47 yX6_over, Cond.static yX6_over, Cond.code yX6_over cX6_over 2 (some .int), Cond.methodLink RX6 88 yX6_sets, Cond.instanceMethod yX6_sets, Cond.selects RX6 yX6_sets yX6_sets, Cond.code yX6_sets cX6_sets 4 none]
def wsX6_goesThrough : List Cond := .code yX6_goesThrough cX6_goesThrough 2 none :: ((wsX6_goesThrough_r1 ++ (wsX6_goesThrough_r2 ++ (wsX6_goesThrough_r3 ++ wsX6_goesThrough_r4))) ++ wsX60)
def wsX6_ends : List Cond := .code yX6_ends cX6_ends 3 none :: ([.methodLink RX6 88 yX6_sets, .instanceMethod yX6_sets, .selects RX6 yX6_sets yX6_sets, .initialized RX6, .code yX6_sets cX6_sets 4 none, .fieldLink RX6 7 "JoinGrantsModel" "all" "[I"] ++ wsX60)
def wsX6_steps_r1 : List Cond := [Cond.fieldLink RX6 7 "JoinGrantsModel" "all" "[I", Cond.methodLink RX6 69 yX6_is, Cond.instanceMethod yX6_is, Cond.selects RX6 yX6_is yX6_is, Cond.initialized RX6, Cond.code yX6_is cX6_is 3 (some .boolean), Cond.methodLink RX6 58 yX6_of, Cond.instanceMethod yX6_of, Cond.selects RX6 yX6_of yX6_of, Cond.code yX6_of cX6_of 3 (some .int), Cond.methodLink RX6 88 yX6_sets, Cond.instanceMethod yX6_sets, Cond.selects RX6 yX6_sets yX6_sets, Cond.code yX6_sets cX6_sets 4 none, Cond.methodLink RX6 116 yX6_ends, Cond.instanceMethod yX6_ends, Cond.selects RX6 yX6_ends yX6_ends, Cond.code yX6_ends cX6_ends 3 none, Cond.methodLink RX6 119 yX6_goesThrough, Cond.instanceMethod yX6_goesThrough, Cond.selects RX6 yX6_goesThrough yX6_goesThrough, Cond.code yX6_goesThrough cX6_goesThrough 2 none, Cond.methodLink RX6 109 yX6_ranked, Cond.instanceMethod yX6_ranked]
def wsX6_steps_r2 : List Cond := [Cond.selects RX6 yX6_ranked yX6_ranked, Cond.code yX6_ranked cX6_ranked 3 (some .int), Cond.methodLink RX6 82 yX6_rankOf, Cond.instanceMethod yX6_rankOf, Cond.selects RX6 yX6_rankOf yX6_rankOf, Cond.code yX6_rankOf cX6_rankOf 4 (some .int), Cond.methodLink RX6 79 yX6_isAhead, Cond.instanceMethod yX6_isAhead, Cond.selects RX6 yX6_isAhead yX6_isAhead, Cond.code yX6_isAhead cX6_isAhead 4 (some .boolean), Cond.methodLink RX6 73 yX6_needs, Cond.instanceMethod yX6_needs, Cond.selects RX6 yX6_needs yX6_needs, Cond.code yX6_needs cX6_needs 2 (some .int), Cond.methodLink RX6 43 yX6_needsOf, Cond.static yX6_needsOf, Cond.code yX6_needsOf cX6_needsOf 3 (some .int), Cond.methodLink RX6 39 yX6_root, Cond.static yX6_root, Cond.code yX6_root cX6_root 2 (some .int), Cond.methodLink RX6 112 yX6_starts, Cond.instanceMethod yX6_starts, Cond.selects RX6 yX6_starts yX6_starts, Cond.code yX6_starts cX6_starts 6 (some .boolean)]
def wsX6_steps_r3 : List Cond := [Cond.methodLink RX6 96 yX6_free, Cond.instanceMethod yX6_free, Cond.selects RX6 yX6_free yX6_free, Cond.code yX6_free cX6_free 2 (some .int), Cond.methodLink RX6 65 yX6_granted, Cond.instanceMethod yX6_granted, Cond.selects RX6 yX6_granted yX6_granted, Cond.code yX6_granted cX6_granted 3 (some .int), Cond.methodLink RX6 99 yX6_wants, Cond.instanceMethod yX6_wants, Cond.selects RX6 yX6_wants yX6_wants, Cond.code yX6_wants cX6_wants 2 (some .int), Cond.methodLink RX6 51 yX6_wantsOf, Cond.static yX6_wantsOf, Cond.code yX6_wantsOf cX6_wantsOf 5 (some .int), Cond.methodLink RX6 102 yX6_spares, Cond.instanceMethod yX6_spares, Cond.selects RX6 yX6_spares yX6_spares, Cond.code yX6_spares cX6_spares 3 (some .int), Cond.methodLink RX6 76 yX6_extra, Cond.instanceMethod yX6_extra, Cond.selects RX6 yX6_extra yX6_extra, Cond.code yX6_extra cX6_extra 2 (some .int), Cond.methodLink RX6 105 yX6_asksBack]
def wsX6_steps_r4 : List Cond := [Cond.instanceMethod yX6_asksBack, Cond.selects RX6 yX6_asksBack yX6_asksBack, Cond.code yX6_asksBack cX6_asksBack 5 none, Cond.methodLink RX6 92 yX6_givesBack, Cond.instanceMethod yX6_givesBack, Cond.selects RX6 yX6_givesBack yX6_givesBack, Cond.code yX6_givesBack cX6_givesBack 7 none, Cond.methodLink RX6 85 yX6_works, Cond.instanceMethod yX6_works, Cond.selects RX6 yX6_works yX6_works, Cond.code yX6_works cX6_works 3 (some .int), Cond.methodLink RX6 61 yX6_workOf, Cond.static yX6_workOf, Cond.code yX6_workOf cX6_workOf 7 (some .int), Cond.methodLink RX6 47 yX6_over, Cond.static yX6_over, Cond.code yX6_over cX6_over 2 (some .int)]
def wsX6_steps : List Cond := .code yX6_steps cX6_steps 4 (some .int) :: ((wsX6_steps_r1 ++ (wsX6_steps_r2 ++ (wsX6_steps_r3 ++ wsX6_steps_r4))) ++ wsX60)
def wsX6_isTable : List Cond := .code yX6_isTable cX6_isTable 1 (some .boolean) :: ([.constantLong RX6 122 (200), .methodLink RX6 54 yX6_in, .static yX6_in, .initialized RX6, .code yX6_in cX6_in 6 (some .boolean)])
def wsX6_comes_r1 : List Cond := [Cond.fieldLink RX6 7 "JoinGrantsModel" "all" "[I", Cond.methodLink RX6 88 yX6_sets, Cond.instanceMethod yX6_sets, Cond.selects RX6 yX6_sets yX6_sets, Cond.initialized RX6, Cond.code yX6_sets cX6_sets 4 none, Cond.methodLink RX6 119 yX6_goesThrough, Cond.instanceMethod yX6_goesThrough, Cond.selects RX6 yX6_goesThrough yX6_goesThrough, Cond.code yX6_goesThrough cX6_goesThrough 2 none, Cond.methodLink RX6 109 yX6_ranked, Cond.instanceMethod yX6_ranked, Cond.selects RX6 yX6_ranked yX6_ranked, Cond.code yX6_ranked cX6_ranked 3 (some .int), Cond.methodLink RX6 69 yX6_is, Cond.instanceMethod yX6_is, Cond.selects RX6 yX6_is yX6_is, Cond.code yX6_is cX6_is 3 (some .boolean), Cond.methodLink RX6 58 yX6_of, Cond.instanceMethod yX6_of, Cond.selects RX6 yX6_of yX6_of, Cond.code yX6_of cX6_of 3 (some .int), Cond.methodLink RX6 82 yX6_rankOf, Cond.instanceMethod yX6_rankOf]
def wsX6_comes_r2 : List Cond := [Cond.selects RX6 yX6_rankOf yX6_rankOf, Cond.code yX6_rankOf cX6_rankOf 4 (some .int), Cond.methodLink RX6 79 yX6_isAhead, Cond.instanceMethod yX6_isAhead, Cond.selects RX6 yX6_isAhead yX6_isAhead, Cond.code yX6_isAhead cX6_isAhead 4 (some .boolean), Cond.methodLink RX6 73 yX6_needs, Cond.instanceMethod yX6_needs, Cond.selects RX6 yX6_needs yX6_needs, Cond.code yX6_needs cX6_needs 2 (some .int), Cond.methodLink RX6 43 yX6_needsOf, Cond.static yX6_needsOf, Cond.code yX6_needsOf cX6_needsOf 3 (some .int), Cond.methodLink RX6 39 yX6_root, Cond.static yX6_root, Cond.code yX6_root cX6_root 2 (some .int), Cond.methodLink RX6 112 yX6_starts, Cond.instanceMethod yX6_starts, Cond.selects RX6 yX6_starts yX6_starts, Cond.code yX6_starts cX6_starts 6 (some .boolean), Cond.methodLink RX6 96 yX6_free, Cond.instanceMethod yX6_free, Cond.selects RX6 yX6_free yX6_free, Cond.code yX6_free cX6_free 2 (some .int)]
def wsX6_comes_r3 : List Cond := [Cond.methodLink RX6 65 yX6_granted, Cond.instanceMethod yX6_granted, Cond.selects RX6 yX6_granted yX6_granted, Cond.code yX6_granted cX6_granted 3 (some .int), Cond.methodLink RX6 99 yX6_wants, Cond.instanceMethod yX6_wants, Cond.selects RX6 yX6_wants yX6_wants, Cond.code yX6_wants cX6_wants 2 (some .int), Cond.methodLink RX6 51 yX6_wantsOf, Cond.static yX6_wantsOf, Cond.code yX6_wantsOf cX6_wantsOf 5 (some .int), Cond.methodLink RX6 102 yX6_spares, Cond.instanceMethod yX6_spares, Cond.selects RX6 yX6_spares yX6_spares, Cond.code yX6_spares cX6_spares 3 (some .int), Cond.methodLink RX6 76 yX6_extra, Cond.instanceMethod yX6_extra, Cond.selects RX6 yX6_extra yX6_extra, Cond.code yX6_extra cX6_extra 2 (some .int), Cond.methodLink RX6 105 yX6_asksBack, Cond.instanceMethod yX6_asksBack, Cond.selects RX6 yX6_asksBack yX6_asksBack, Cond.code yX6_asksBack cX6_asksBack 5 none, Cond.methodLink RX6 92 yX6_givesBack]
def wsX6_comes_r4 : List Cond := [Cond.instanceMethod yX6_givesBack, Cond.selects RX6 yX6_givesBack yX6_givesBack, Cond.code yX6_givesBack cX6_givesBack 7 none, Cond.methodLink RX6 85 yX6_works, Cond.instanceMethod yX6_works, Cond.selects RX6 yX6_works yX6_works, Cond.code yX6_works cX6_works 3 (some .int), Cond.methodLink RX6 61 yX6_workOf, Cond.static yX6_workOf, Cond.code yX6_workOf cX6_workOf 7 (some .int), Cond.methodLink RX6 47 yX6_over, Cond.static yX6_over, Cond.code yX6_over cX6_over 2 (some .int)]
def wsX6_comes : List Cond := .code yX6_comes cX6_comes 5 none :: ((wsX6_comes_r1 ++ (wsX6_comes_r2 ++ (wsX6_comes_r3 ++ wsX6_comes_r4))) ++ wsX60)
def wsX6_ask_r1 : List Cond := [Cond.constantLong RX6 124 (2), Cond.fieldLink RX6 7 "JoinGrantsModel" "all" "[I", Cond.methodLink RX6 54 yX6_in, Cond.static yX6_in, Cond.initialized RX6, Cond.code yX6_in cX6_in 6 (some .boolean), Cond.methodLink RX6 126 yX6_isTable, Cond.static yX6_isTable, Cond.code yX6_isTable cX6_isTable 1 (some .boolean), Cond.constantLong RX6 122 (200), Cond.methodLink RX6 129 yX6_remember, Cond.instanceMethod yX6_remember, Cond.selects RX6 yX6_remember yX6_remember, Cond.code yX6_remember cX6_remember 1 none, Cond.fieldLink RX6 13 "JoinGrantsModel" "kept" "[I", Cond.methodLink RX6 31 yX6_copy, Cond.static yX6_copy, Cond.code yX6_copy cX6_copy 3 none, Cond.methodLink RX6 132 yX6_comes, Cond.instanceMethod yX6_comes, Cond.selects RX6 yX6_comes yX6_comes, Cond.code yX6_comes cX6_comes 5 none, Cond.methodLink RX6 88 yX6_sets, Cond.instanceMethod yX6_sets]
def wsX6_ask_r2 : List Cond := [Cond.selects RX6 yX6_sets yX6_sets, Cond.code yX6_sets cX6_sets 4 none, Cond.methodLink RX6 119 yX6_goesThrough, Cond.instanceMethod yX6_goesThrough, Cond.selects RX6 yX6_goesThrough yX6_goesThrough, Cond.code yX6_goesThrough cX6_goesThrough 2 none, Cond.methodLink RX6 109 yX6_ranked, Cond.instanceMethod yX6_ranked, Cond.selects RX6 yX6_ranked yX6_ranked, Cond.code yX6_ranked cX6_ranked 3 (some .int), Cond.methodLink RX6 69 yX6_is, Cond.instanceMethod yX6_is, Cond.selects RX6 yX6_is yX6_is, Cond.code yX6_is cX6_is 3 (some .boolean), Cond.methodLink RX6 58 yX6_of, Cond.instanceMethod yX6_of, Cond.selects RX6 yX6_of yX6_of, Cond.code yX6_of cX6_of 3 (some .int), Cond.methodLink RX6 82 yX6_rankOf, Cond.instanceMethod yX6_rankOf, Cond.selects RX6 yX6_rankOf yX6_rankOf, Cond.code yX6_rankOf cX6_rankOf 4 (some .int), Cond.methodLink RX6 79 yX6_isAhead, Cond.instanceMethod yX6_isAhead]
def wsX6_ask_r3 : List Cond := [Cond.selects RX6 yX6_isAhead yX6_isAhead, Cond.code yX6_isAhead cX6_isAhead 4 (some .boolean), Cond.methodLink RX6 73 yX6_needs, Cond.instanceMethod yX6_needs, Cond.selects RX6 yX6_needs yX6_needs, Cond.code yX6_needs cX6_needs 2 (some .int), Cond.methodLink RX6 43 yX6_needsOf, Cond.static yX6_needsOf, Cond.code yX6_needsOf cX6_needsOf 3 (some .int), Cond.methodLink RX6 39 yX6_root, Cond.static yX6_root, Cond.code yX6_root cX6_root 2 (some .int), Cond.methodLink RX6 112 yX6_starts, Cond.instanceMethod yX6_starts, Cond.selects RX6 yX6_starts yX6_starts, Cond.code yX6_starts cX6_starts 6 (some .boolean), Cond.methodLink RX6 96 yX6_free, Cond.instanceMethod yX6_free, Cond.selects RX6 yX6_free yX6_free, Cond.code yX6_free cX6_free 2 (some .int), Cond.methodLink RX6 65 yX6_granted, Cond.instanceMethod yX6_granted, Cond.selects RX6 yX6_granted yX6_granted, Cond.code yX6_granted cX6_granted 3 (some .int)]
def wsX6_ask_r4 : List Cond := [Cond.methodLink RX6 99 yX6_wants, Cond.instanceMethod yX6_wants, Cond.selects RX6 yX6_wants yX6_wants, Cond.code yX6_wants cX6_wants 2 (some .int), Cond.methodLink RX6 51 yX6_wantsOf, Cond.static yX6_wantsOf, Cond.code yX6_wantsOf cX6_wantsOf 5 (some .int), Cond.methodLink RX6 102 yX6_spares, Cond.instanceMethod yX6_spares, Cond.selects RX6 yX6_spares yX6_spares, Cond.code yX6_spares cX6_spares 3 (some .int), Cond.methodLink RX6 76 yX6_extra, Cond.instanceMethod yX6_extra, Cond.selects RX6 yX6_extra yX6_extra, Cond.code yX6_extra cX6_extra 2 (some .int), Cond.methodLink RX6 105 yX6_asksBack, Cond.instanceMethod yX6_asksBack, Cond.selects RX6 yX6_asksBack yX6_asksBack, Cond.code yX6_asksBack cX6_asksBack 5 none, Cond.methodLink RX6 92 yX6_givesBack, Cond.instanceMethod yX6_givesBack, Cond.selects RX6 yX6_givesBack yX6_givesBack, Cond.code yX6_givesBack cX6_givesBack 7 none, Cond.methodLink RX6 85 yX6_works]
def wsX6_ask_r5 : List Cond := [Cond.instanceMethod yX6_works, Cond.selects RX6 yX6_works yX6_works, Cond.code yX6_works cX6_works 3 (some .int), Cond.methodLink RX6 61 yX6_workOf, Cond.static yX6_workOf, Cond.code yX6_workOf cX6_workOf 7 (some .int), Cond.methodLink RX6 47 yX6_over, Cond.static yX6_over, Cond.code yX6_over cX6_over 2 (some .int), Cond.methodLink RX6 135 yX6_acted, Cond.instanceMethod yX6_acted, Cond.selects RX6 yX6_acted yX6_acted, Cond.code yX6_acted cX6_acted 3 (some .int), Cond.fieldLink RX6 35 "JoinGrantsModel" "historyLong" "I", Cond.fieldLink RX6 19 "JoinGrantsModel" "history" "[I"]
def wsX6_ask : List Cond := .code yX6_ask cX6_ask 4 (some .int) :: ((wsX6_ask_r1 ++ (wsX6_ask_r2 ++ (wsX6_ask_r3 ++ (wsX6_ask_r4 ++ wsX6_ask_r5)))) ++ wsX60)
def wsX6_cancel_r1 : List Cond := [Cond.methodLink RX6 138 yX6_isJoin, Cond.instanceMethod yX6_isJoin, Cond.selects RX6 yX6_isJoin yX6_isJoin, Cond.initialized RX6, Cond.code yX6_isJoin cX6_isJoin 2 (some .boolean), Cond.fieldLink RX6 7 "JoinGrantsModel" "all" "[I", Cond.methodLink RX6 54 yX6_in, Cond.static yX6_in, Cond.code yX6_in cX6_in 6 (some .boolean), Cond.methodLink RX6 58 yX6_of, Cond.instanceMethod yX6_of, Cond.selects RX6 yX6_of yX6_of, Cond.code yX6_of cX6_of 3 (some .int), Cond.methodLink RX6 129 yX6_remember, Cond.instanceMethod yX6_remember, Cond.selects RX6 yX6_remember yX6_remember, Cond.code yX6_remember cX6_remember 1 none, Cond.fieldLink RX6 13 "JoinGrantsModel" "kept" "[I", Cond.methodLink RX6 31 yX6_copy, Cond.static yX6_copy, Cond.code yX6_copy cX6_copy 3 none, Cond.methodLink RX6 116 yX6_ends, Cond.instanceMethod yX6_ends, Cond.selects RX6 yX6_ends yX6_ends]
def wsX6_cancel_r2 : List Cond := [Cond.code yX6_ends cX6_ends 3 none, Cond.methodLink RX6 88 yX6_sets, Cond.instanceMethod yX6_sets, Cond.selects RX6 yX6_sets yX6_sets, Cond.code yX6_sets cX6_sets 4 none, Cond.methodLink RX6 119 yX6_goesThrough, Cond.instanceMethod yX6_goesThrough, Cond.selects RX6 yX6_goesThrough yX6_goesThrough, Cond.code yX6_goesThrough cX6_goesThrough 2 none, Cond.methodLink RX6 109 yX6_ranked, Cond.instanceMethod yX6_ranked, Cond.selects RX6 yX6_ranked yX6_ranked, Cond.code yX6_ranked cX6_ranked 3 (some .int), Cond.methodLink RX6 69 yX6_is, Cond.instanceMethod yX6_is, Cond.selects RX6 yX6_is yX6_is, Cond.code yX6_is cX6_is 3 (some .boolean), Cond.methodLink RX6 82 yX6_rankOf, Cond.instanceMethod yX6_rankOf, Cond.selects RX6 yX6_rankOf yX6_rankOf, Cond.code yX6_rankOf cX6_rankOf 4 (some .int), Cond.methodLink RX6 79 yX6_isAhead, Cond.instanceMethod yX6_isAhead, Cond.selects RX6 yX6_isAhead yX6_isAhead]
def wsX6_cancel_r3 : List Cond := [Cond.code yX6_isAhead cX6_isAhead 4 (some .boolean), Cond.methodLink RX6 73 yX6_needs, Cond.instanceMethod yX6_needs, Cond.selects RX6 yX6_needs yX6_needs, Cond.code yX6_needs cX6_needs 2 (some .int), Cond.methodLink RX6 43 yX6_needsOf, Cond.static yX6_needsOf, Cond.code yX6_needsOf cX6_needsOf 3 (some .int), Cond.methodLink RX6 39 yX6_root, Cond.static yX6_root, Cond.code yX6_root cX6_root 2 (some .int), Cond.methodLink RX6 112 yX6_starts, Cond.instanceMethod yX6_starts, Cond.selects RX6 yX6_starts yX6_starts, Cond.code yX6_starts cX6_starts 6 (some .boolean), Cond.methodLink RX6 96 yX6_free, Cond.instanceMethod yX6_free, Cond.selects RX6 yX6_free yX6_free, Cond.code yX6_free cX6_free 2 (some .int), Cond.methodLink RX6 65 yX6_granted, Cond.instanceMethod yX6_granted, Cond.selects RX6 yX6_granted yX6_granted, Cond.code yX6_granted cX6_granted 3 (some .int), Cond.methodLink RX6 99 yX6_wants]
def wsX6_cancel_r4 : List Cond := [Cond.instanceMethod yX6_wants, Cond.selects RX6 yX6_wants yX6_wants, Cond.code yX6_wants cX6_wants 2 (some .int), Cond.methodLink RX6 51 yX6_wantsOf, Cond.static yX6_wantsOf, Cond.code yX6_wantsOf cX6_wantsOf 5 (some .int), Cond.methodLink RX6 102 yX6_spares, Cond.instanceMethod yX6_spares, Cond.selects RX6 yX6_spares yX6_spares, Cond.code yX6_spares cX6_spares 3 (some .int), Cond.methodLink RX6 76 yX6_extra, Cond.instanceMethod yX6_extra, Cond.selects RX6 yX6_extra yX6_extra, Cond.code yX6_extra cX6_extra 2 (some .int), Cond.methodLink RX6 105 yX6_asksBack, Cond.instanceMethod yX6_asksBack, Cond.selects RX6 yX6_asksBack yX6_asksBack, Cond.code yX6_asksBack cX6_asksBack 5 none, Cond.methodLink RX6 92 yX6_givesBack, Cond.instanceMethod yX6_givesBack, Cond.selects RX6 yX6_givesBack yX6_givesBack, Cond.code yX6_givesBack cX6_givesBack 7 none, Cond.methodLink RX6 85 yX6_works, Cond.instanceMethod yX6_works]
def wsX6_cancel_r5 : List Cond := [Cond.selects RX6 yX6_works yX6_works, Cond.code yX6_works cX6_works 3 (some .int), Cond.methodLink RX6 61 yX6_workOf, Cond.static yX6_workOf, Cond.code yX6_workOf cX6_workOf 7 (some .int), Cond.methodLink RX6 47 yX6_over, Cond.static yX6_over, Cond.code yX6_over cX6_over 2 (some .int), Cond.methodLink RX6 135 yX6_acted, Cond.instanceMethod yX6_acted, Cond.selects RX6 yX6_acted yX6_acted, Cond.code yX6_acted cX6_acted 3 (some .int), Cond.fieldLink RX6 35 "JoinGrantsModel" "historyLong" "I", Cond.fieldLink RX6 19 "JoinGrantsModel" "history" "[I"]
def wsX6_cancel : List Cond := .code yX6_cancel cX6_cancel 3 (some .int) :: ((wsX6_cancel_r1 ++ (wsX6_cancel_r2 ++ (wsX6_cancel_r3 ++ (wsX6_cancel_r4 ++ wsX6_cancel_r5)))) ++ wsX60)
def wsX6_change_r1 : List Cond := [Cond.constantLong RX6 124 (2), Cond.methodLink RX6 138 yX6_isJoin, Cond.instanceMethod yX6_isJoin, Cond.selects RX6 yX6_isJoin yX6_isJoin, Cond.initialized RX6, Cond.code yX6_isJoin cX6_isJoin 2 (some .boolean), Cond.fieldLink RX6 7 "JoinGrantsModel" "all" "[I", Cond.methodLink RX6 54 yX6_in, Cond.static yX6_in, Cond.code yX6_in cX6_in 6 (some .boolean), Cond.methodLink RX6 69 yX6_is, Cond.instanceMethod yX6_is, Cond.selects RX6 yX6_is yX6_is, Cond.code yX6_is cX6_is 3 (some .boolean), Cond.methodLink RX6 58 yX6_of, Cond.instanceMethod yX6_of, Cond.selects RX6 yX6_of yX6_of, Cond.code yX6_of cX6_of 3 (some .int), Cond.methodLink RX6 129 yX6_remember, Cond.instanceMethod yX6_remember, Cond.selects RX6 yX6_remember yX6_remember, Cond.code yX6_remember cX6_remember 1 none, Cond.fieldLink RX6 13 "JoinGrantsModel" "kept" "[I", Cond.methodLink RX6 31 yX6_copy]
def wsX6_change_r2 : List Cond := [Cond.static yX6_copy, Cond.code yX6_copy cX6_copy 3 none, Cond.methodLink RX6 88 yX6_sets, Cond.instanceMethod yX6_sets, Cond.selects RX6 yX6_sets yX6_sets, Cond.code yX6_sets cX6_sets 4 none, Cond.methodLink RX6 119 yX6_goesThrough, Cond.instanceMethod yX6_goesThrough, Cond.selects RX6 yX6_goesThrough yX6_goesThrough, Cond.code yX6_goesThrough cX6_goesThrough 2 none, Cond.methodLink RX6 109 yX6_ranked, Cond.instanceMethod yX6_ranked, Cond.selects RX6 yX6_ranked yX6_ranked, Cond.code yX6_ranked cX6_ranked 3 (some .int), Cond.methodLink RX6 82 yX6_rankOf, Cond.instanceMethod yX6_rankOf, Cond.selects RX6 yX6_rankOf yX6_rankOf, Cond.code yX6_rankOf cX6_rankOf 4 (some .int), Cond.methodLink RX6 79 yX6_isAhead, Cond.instanceMethod yX6_isAhead, Cond.selects RX6 yX6_isAhead yX6_isAhead, Cond.code yX6_isAhead cX6_isAhead 4 (some .boolean), Cond.methodLink RX6 73 yX6_needs, Cond.instanceMethod yX6_needs]
def wsX6_change_r3 : List Cond := [Cond.selects RX6 yX6_needs yX6_needs, Cond.code yX6_needs cX6_needs 2 (some .int), Cond.methodLink RX6 43 yX6_needsOf, Cond.static yX6_needsOf, Cond.code yX6_needsOf cX6_needsOf 3 (some .int), Cond.methodLink RX6 39 yX6_root, Cond.static yX6_root, Cond.code yX6_root cX6_root 2 (some .int), Cond.methodLink RX6 112 yX6_starts, Cond.instanceMethod yX6_starts, Cond.selects RX6 yX6_starts yX6_starts, Cond.code yX6_starts cX6_starts 6 (some .boolean), Cond.methodLink RX6 96 yX6_free, Cond.instanceMethod yX6_free, Cond.selects RX6 yX6_free yX6_free, Cond.code yX6_free cX6_free 2 (some .int), Cond.methodLink RX6 65 yX6_granted, Cond.instanceMethod yX6_granted, Cond.selects RX6 yX6_granted yX6_granted, Cond.code yX6_granted cX6_granted 3 (some .int), Cond.methodLink RX6 99 yX6_wants, Cond.instanceMethod yX6_wants, Cond.selects RX6 yX6_wants yX6_wants, Cond.code yX6_wants cX6_wants 2 (some .int)]
def wsX6_change_r4 : List Cond := [Cond.methodLink RX6 51 yX6_wantsOf, Cond.static yX6_wantsOf, Cond.code yX6_wantsOf cX6_wantsOf 5 (some .int), Cond.methodLink RX6 102 yX6_spares, Cond.instanceMethod yX6_spares, Cond.selects RX6 yX6_spares yX6_spares, Cond.code yX6_spares cX6_spares 3 (some .int), Cond.methodLink RX6 76 yX6_extra, Cond.instanceMethod yX6_extra, Cond.selects RX6 yX6_extra yX6_extra, Cond.code yX6_extra cX6_extra 2 (some .int), Cond.methodLink RX6 105 yX6_asksBack, Cond.instanceMethod yX6_asksBack, Cond.selects RX6 yX6_asksBack yX6_asksBack, Cond.code yX6_asksBack cX6_asksBack 5 none, Cond.methodLink RX6 92 yX6_givesBack, Cond.instanceMethod yX6_givesBack, Cond.selects RX6 yX6_givesBack yX6_givesBack, Cond.code yX6_givesBack cX6_givesBack 7 none, Cond.methodLink RX6 85 yX6_works, Cond.instanceMethod yX6_works, Cond.selects RX6 yX6_works yX6_works, Cond.code yX6_works cX6_works 3 (some .int), Cond.methodLink RX6 61 yX6_workOf]
def wsX6_change_r5 : List Cond := [Cond.static yX6_workOf, Cond.code yX6_workOf cX6_workOf 7 (some .int), Cond.methodLink RX6 47 yX6_over, Cond.static yX6_over, Cond.code yX6_over cX6_over 2 (some .int), Cond.methodLink RX6 135 yX6_acted, Cond.instanceMethod yX6_acted, Cond.selects RX6 yX6_acted yX6_acted, Cond.code yX6_acted cX6_acted 3 (some .int), Cond.fieldLink RX6 35 "JoinGrantsModel" "historyLong" "I", Cond.fieldLink RX6 19 "JoinGrantsModel" "history" "[I"]
def wsX6_change : List Cond := .code yX6_change cX6_change 4 (some .int) :: ((wsX6_change_r1 ++ (wsX6_change_r2 ++ (wsX6_change_r3 ++ (wsX6_change_r4 ++ wsX6_change_r5)))) ++ wsX60)
def wsX6_step_r1 : List Cond := [Cond.constantLong RX6 141 (1000), Cond.methodLink RX6 54 yX6_in, Cond.static yX6_in, Cond.initialized RX6, Cond.code yX6_in cX6_in 6 (some .boolean), Cond.methodLink RX6 129 yX6_remember, Cond.instanceMethod yX6_remember, Cond.selects RX6 yX6_remember yX6_remember, Cond.code yX6_remember cX6_remember 1 none, Cond.fieldLink RX6 7 "JoinGrantsModel" "all" "[I", Cond.fieldLink RX6 13 "JoinGrantsModel" "kept" "[I", Cond.methodLink RX6 31 yX6_copy, Cond.static yX6_copy, Cond.code yX6_copy cX6_copy 3 none, Cond.methodLink RX6 143 yX6_steps, Cond.instanceMethod yX6_steps, Cond.selects RX6 yX6_steps yX6_steps, Cond.code yX6_steps cX6_steps 4 (some .int), Cond.methodLink RX6 69 yX6_is, Cond.instanceMethod yX6_is, Cond.selects RX6 yX6_is yX6_is, Cond.code yX6_is cX6_is 3 (some .boolean), Cond.methodLink RX6 58 yX6_of, Cond.instanceMethod yX6_of]
def wsX6_step_r2 : List Cond := [Cond.selects RX6 yX6_of yX6_of, Cond.code yX6_of cX6_of 3 (some .int), Cond.methodLink RX6 88 yX6_sets, Cond.instanceMethod yX6_sets, Cond.selects RX6 yX6_sets yX6_sets, Cond.code yX6_sets cX6_sets 4 none, Cond.methodLink RX6 116 yX6_ends, Cond.instanceMethod yX6_ends, Cond.selects RX6 yX6_ends yX6_ends, Cond.code yX6_ends cX6_ends 3 none, Cond.methodLink RX6 119 yX6_goesThrough, Cond.instanceMethod yX6_goesThrough, Cond.selects RX6 yX6_goesThrough yX6_goesThrough, Cond.code yX6_goesThrough cX6_goesThrough 2 none, Cond.methodLink RX6 109 yX6_ranked, Cond.instanceMethod yX6_ranked, Cond.selects RX6 yX6_ranked yX6_ranked, Cond.code yX6_ranked cX6_ranked 3 (some .int), Cond.methodLink RX6 82 yX6_rankOf, Cond.instanceMethod yX6_rankOf, Cond.selects RX6 yX6_rankOf yX6_rankOf, Cond.code yX6_rankOf cX6_rankOf 4 (some .int), Cond.methodLink RX6 79 yX6_isAhead, Cond.instanceMethod yX6_isAhead]
def wsX6_step_r3 : List Cond := [Cond.selects RX6 yX6_isAhead yX6_isAhead, Cond.code yX6_isAhead cX6_isAhead 4 (some .boolean), Cond.methodLink RX6 73 yX6_needs, Cond.instanceMethod yX6_needs, Cond.selects RX6 yX6_needs yX6_needs, Cond.code yX6_needs cX6_needs 2 (some .int), Cond.methodLink RX6 43 yX6_needsOf, Cond.static yX6_needsOf, Cond.code yX6_needsOf cX6_needsOf 3 (some .int), Cond.methodLink RX6 39 yX6_root, Cond.static yX6_root, Cond.code yX6_root cX6_root 2 (some .int), Cond.methodLink RX6 112 yX6_starts, Cond.instanceMethod yX6_starts, Cond.selects RX6 yX6_starts yX6_starts, Cond.code yX6_starts cX6_starts 6 (some .boolean), Cond.methodLink RX6 96 yX6_free, Cond.instanceMethod yX6_free, Cond.selects RX6 yX6_free yX6_free, Cond.code yX6_free cX6_free 2 (some .int), Cond.methodLink RX6 65 yX6_granted, Cond.instanceMethod yX6_granted, Cond.selects RX6 yX6_granted yX6_granted, Cond.code yX6_granted cX6_granted 3 (some .int)]
def wsX6_step_r4 : List Cond := [Cond.methodLink RX6 99 yX6_wants, Cond.instanceMethod yX6_wants, Cond.selects RX6 yX6_wants yX6_wants, Cond.code yX6_wants cX6_wants 2 (some .int), Cond.methodLink RX6 51 yX6_wantsOf, Cond.static yX6_wantsOf, Cond.code yX6_wantsOf cX6_wantsOf 5 (some .int), Cond.methodLink RX6 102 yX6_spares, Cond.instanceMethod yX6_spares, Cond.selects RX6 yX6_spares yX6_spares, Cond.code yX6_spares cX6_spares 3 (some .int), Cond.methodLink RX6 76 yX6_extra, Cond.instanceMethod yX6_extra, Cond.selects RX6 yX6_extra yX6_extra, Cond.code yX6_extra cX6_extra 2 (some .int), Cond.methodLink RX6 105 yX6_asksBack, Cond.instanceMethod yX6_asksBack, Cond.selects RX6 yX6_asksBack yX6_asksBack, Cond.code yX6_asksBack cX6_asksBack 5 none, Cond.methodLink RX6 92 yX6_givesBack, Cond.instanceMethod yX6_givesBack, Cond.selects RX6 yX6_givesBack yX6_givesBack, Cond.code yX6_givesBack cX6_givesBack 7 none, Cond.methodLink RX6 85 yX6_works]
def wsX6_step_r5 : List Cond := [Cond.instanceMethod yX6_works, Cond.selects RX6 yX6_works yX6_works, Cond.code yX6_works cX6_works 3 (some .int), Cond.methodLink RX6 61 yX6_workOf, Cond.static yX6_workOf, Cond.code yX6_workOf cX6_workOf 7 (some .int), Cond.methodLink RX6 47 yX6_over, Cond.static yX6_over, Cond.code yX6_over cX6_over 2 (some .int), Cond.methodLink RX6 135 yX6_acted, Cond.instanceMethod yX6_acted, Cond.selects RX6 yX6_acted yX6_acted, Cond.code yX6_acted cX6_acted 3 (some .int), Cond.fieldLink RX6 35 "JoinGrantsModel" "historyLong" "I", Cond.fieldLink RX6 19 "JoinGrantsModel" "history" "[I"]
def wsX6_step : List Cond := .code yX6_step cX6_step 4 (some .int) :: ((wsX6_step_r1 ++ (wsX6_step_r2 ++ (wsX6_step_r3 ++ (wsX6_step_r4 ++ wsX6_step_r5)))) ++ wsX60)
def wsX6_isSetting : List Cond := .code yX6_isSetting cX6_isSetting 2 (some .boolean) :: ([.constantLong RX6 146 (20), .constantLong RX6 148 (500), .constantLong RX6 150 (50), .methodLink RX6 54 yX6_in, .static yX6_in, .initialized RX6, .code yX6_in cX6_in 6 (some .boolean)])
def wsX6_set_r1 : List Cond := [Cond.fieldLink RX6 7 "JoinGrantsModel" "all" "[I", Cond.methodLink RX6 152 yX6_isSetting, Cond.static yX6_isSetting, Cond.initialized RX6, Cond.code yX6_isSetting cX6_isSetting 2 (some .boolean), Cond.constantLong RX6 146 (20), Cond.constantLong RX6 148 (500), Cond.constantLong RX6 150 (50), Cond.methodLink RX6 54 yX6_in, Cond.static yX6_in, Cond.code yX6_in cX6_in 6 (some .boolean), Cond.methodLink RX6 129 yX6_remember, Cond.instanceMethod yX6_remember, Cond.selects RX6 yX6_remember yX6_remember, Cond.code yX6_remember cX6_remember 1 none, Cond.fieldLink RX6 13 "JoinGrantsModel" "kept" "[I", Cond.methodLink RX6 31 yX6_copy, Cond.static yX6_copy, Cond.code yX6_copy cX6_copy 3 none, Cond.methodLink RX6 119 yX6_goesThrough, Cond.instanceMethod yX6_goesThrough, Cond.selects RX6 yX6_goesThrough yX6_goesThrough, Cond.code yX6_goesThrough cX6_goesThrough 2 none, Cond.methodLink RX6 109 yX6_ranked]
def wsX6_set_r2 : List Cond := [Cond.instanceMethod yX6_ranked, Cond.selects RX6 yX6_ranked yX6_ranked, Cond.code yX6_ranked cX6_ranked 3 (some .int), Cond.methodLink RX6 69 yX6_is, Cond.instanceMethod yX6_is, Cond.selects RX6 yX6_is yX6_is, Cond.code yX6_is cX6_is 3 (some .boolean), Cond.methodLink RX6 58 yX6_of, Cond.instanceMethod yX6_of, Cond.selects RX6 yX6_of yX6_of, Cond.code yX6_of cX6_of 3 (some .int), Cond.methodLink RX6 82 yX6_rankOf, Cond.instanceMethod yX6_rankOf, Cond.selects RX6 yX6_rankOf yX6_rankOf, Cond.code yX6_rankOf cX6_rankOf 4 (some .int), Cond.methodLink RX6 79 yX6_isAhead, Cond.instanceMethod yX6_isAhead, Cond.selects RX6 yX6_isAhead yX6_isAhead, Cond.code yX6_isAhead cX6_isAhead 4 (some .boolean), Cond.methodLink RX6 73 yX6_needs, Cond.instanceMethod yX6_needs, Cond.selects RX6 yX6_needs yX6_needs, Cond.code yX6_needs cX6_needs 2 (some .int), Cond.methodLink RX6 43 yX6_needsOf]
def wsX6_set_r3 : List Cond := [Cond.static yX6_needsOf, Cond.code yX6_needsOf cX6_needsOf 3 (some .int), Cond.methodLink RX6 39 yX6_root, Cond.static yX6_root, Cond.code yX6_root cX6_root 2 (some .int), Cond.methodLink RX6 112 yX6_starts, Cond.instanceMethod yX6_starts, Cond.selects RX6 yX6_starts yX6_starts, Cond.code yX6_starts cX6_starts 6 (some .boolean), Cond.methodLink RX6 96 yX6_free, Cond.instanceMethod yX6_free, Cond.selects RX6 yX6_free yX6_free, Cond.code yX6_free cX6_free 2 (some .int), Cond.methodLink RX6 65 yX6_granted, Cond.instanceMethod yX6_granted, Cond.selects RX6 yX6_granted yX6_granted, Cond.code yX6_granted cX6_granted 3 (some .int), Cond.methodLink RX6 99 yX6_wants, Cond.instanceMethod yX6_wants, Cond.selects RX6 yX6_wants yX6_wants, Cond.code yX6_wants cX6_wants 2 (some .int), Cond.methodLink RX6 51 yX6_wantsOf, Cond.static yX6_wantsOf, Cond.code yX6_wantsOf cX6_wantsOf 5 (some .int)]
def wsX6_set_r4 : List Cond := [Cond.methodLink RX6 102 yX6_spares, Cond.instanceMethod yX6_spares, Cond.selects RX6 yX6_spares yX6_spares, Cond.code yX6_spares cX6_spares 3 (some .int), Cond.methodLink RX6 76 yX6_extra, Cond.instanceMethod yX6_extra, Cond.selects RX6 yX6_extra yX6_extra, Cond.code yX6_extra cX6_extra 2 (some .int), Cond.methodLink RX6 105 yX6_asksBack, Cond.instanceMethod yX6_asksBack, Cond.selects RX6 yX6_asksBack yX6_asksBack, Cond.code yX6_asksBack cX6_asksBack 5 none, Cond.methodLink RX6 92 yX6_givesBack, Cond.instanceMethod yX6_givesBack, Cond.selects RX6 yX6_givesBack yX6_givesBack, Cond.code yX6_givesBack cX6_givesBack 7 none, Cond.methodLink RX6 85 yX6_works, Cond.instanceMethod yX6_works, Cond.selects RX6 yX6_works yX6_works, Cond.code yX6_works cX6_works 3 (some .int), Cond.methodLink RX6 61 yX6_workOf, Cond.static yX6_workOf, Cond.code yX6_workOf cX6_workOf 7 (some .int), Cond.methodLink RX6 47 yX6_over]
def wsX6_set_r5 : List Cond := [Cond.static yX6_over, Cond.code yX6_over cX6_over 2 (some .int), Cond.methodLink RX6 88 yX6_sets, Cond.instanceMethod yX6_sets, Cond.selects RX6 yX6_sets yX6_sets, Cond.code yX6_sets cX6_sets 4 none, Cond.methodLink RX6 135 yX6_acted, Cond.instanceMethod yX6_acted, Cond.selects RX6 yX6_acted yX6_acted, Cond.code yX6_acted cX6_acted 3 (some .int), Cond.fieldLink RX6 35 "JoinGrantsModel" "historyLong" "I", Cond.fieldLink RX6 19 "JoinGrantsModel" "history" "[I"]
def wsX6_set : List Cond := .code yX6_set cX6_set 4 (some .int) :: ((wsX6_set_r1 ++ (wsX6_set_r2 ++ (wsX6_set_r3 ++ (wsX6_set_r4 ++ wsX6_set_r5)))) ++ wsX60)
def wsX6_type : List Cond := .code yX6_type cX6_type 2 (some .int) :: ([.fieldLink RX6 155 "JoinGrantsModel" "textLong" "I", .fieldLink RX6 25 "JoinGrantsModel" "text" "[I"] ++ wsX60)
def wsX6_clearText : List Cond := .code yX6_clearText cX6_clearText 2 (some .int) :: ([.fieldLink RX6 155 "JoinGrantsModel" "textLong" "I"] ++ wsX60)
def wsX6_isHere : List Cond := .code yX6_isHere cX6_isHere 3 (some .boolean) :: ([.fieldLink RX6 158 "JoinGrantsModel" "spot" "I", .fieldLink RX6 155 "JoinGrantsModel" "textLong" "I", .fieldLink RX6 25 "JoinGrantsModel" "text" "[I", .methodLink RX6 54 yX6_in, .static yX6_in, .initialized RX6, .code yX6_in cX6_in 6 (some .boolean)] ++ wsX60)
def wsX6_takes : List Cond := .code yX6_takes cX6_takes 3 (some .boolean) :: ([.fieldLink RX6 158 "JoinGrantsModel" "spot" "I", .methodLink RX6 161 yX6_isHere, .instanceMethod yX6_isHere, .selects RX6 yX6_isHere yX6_isHere, .initialized RX6, .code yX6_isHere cX6_isHere 3 (some .boolean), .fieldLink RX6 155 "JoinGrantsModel" "textLong" "I", .fieldLink RX6 25 "JoinGrantsModel" "text" "[I", .methodLink RX6 54 yX6_in, .static yX6_in, .code yX6_in cX6_in 6 (some .boolean)] ++ wsX60)
def wsX6_readsNumber : List Cond := .code yX6_readsNumber cX6_readsNumber 1 (some .boolean) :: ([.fieldLink RX6 25 "JoinGrantsModel" "text" "[I", .fieldLink RX6 158 "JoinGrantsModel" "spot" "I", .fieldLink RX6 164 "JoinGrantsModel" "number" "I", .methodLink RX6 161 yX6_isHere, .instanceMethod yX6_isHere, .selects RX6 yX6_isHere yX6_isHere, .initialized RX6, .code yX6_isHere cX6_isHere 3 (some .boolean), .fieldLink RX6 155 "JoinGrantsModel" "textLong" "I", .methodLink RX6 54 yX6_in, .static yX6_in, .code yX6_in cX6_in 6 (some .boolean)] ++ wsX60)
def wsX6_readsJoin : List Cond := .code yX6_readsJoin cX6_readsJoin 3 (some .boolean) :: ([.fieldLink RX6 164 "JoinGrantsModel" "number" "I", .fieldLink RX6 28 "JoinGrantsModel" "read" "[I", .fieldLink RX6 174 "JoinGrantsModel" "readMany" "I", .methodLink RX6 167 yX6_takes, .instanceMethod yX6_takes, .selects RX6 yX6_takes yX6_takes, .initialized RX6, .code yX6_takes cX6_takes 3 (some .boolean), .fieldLink RX6 158 "JoinGrantsModel" "spot" "I", .methodLink RX6 161 yX6_isHere, .instanceMethod yX6_isHere, .selects RX6 yX6_isHere yX6_isHere, .code yX6_isHere cX6_isHere 3 (some .boolean), .fieldLink RX6 155 "JoinGrantsModel" "textLong" "I", .fieldLink RX6 25 "JoinGrantsModel" "text" "[I", .methodLink RX6 54 yX6_in, .static yX6_in, .code yX6_in cX6_in 6 (some .boolean), .methodLink RX6 170 yX6_readsNumber, .instanceMethod yX6_readsNumber, .selects RX6 yX6_readsNumber yX6_readsNumber, .code yX6_readsNumber cX6_readsNumber 1 (some .boolean)] ++ wsX60)
def wsX6_fault_r1 : List Cond := [Cond.fieldLink RX6 158 "JoinGrantsModel" "spot" "I", Cond.fieldLink RX6 174 "JoinGrantsModel" "readMany" "I", Cond.fieldLink RX6 155 "JoinGrantsModel" "textLong" "I", Cond.methodLink RX6 177 yX6_readsJoin, Cond.instanceMethod yX6_readsJoin, Cond.selects RX6 yX6_readsJoin yX6_readsJoin, Cond.initialized RX6, Cond.code yX6_readsJoin cX6_readsJoin 3 (some .boolean), Cond.fieldLink RX6 164 "JoinGrantsModel" "number" "I", Cond.fieldLink RX6 28 "JoinGrantsModel" "read" "[I", Cond.methodLink RX6 167 yX6_takes, Cond.instanceMethod yX6_takes, Cond.selects RX6 yX6_takes yX6_takes, Cond.code yX6_takes cX6_takes 3 (some .boolean), Cond.methodLink RX6 161 yX6_isHere, Cond.instanceMethod yX6_isHere, Cond.selects RX6 yX6_isHere yX6_isHere, Cond.code yX6_isHere cX6_isHere 3 (some .boolean), Cond.fieldLink RX6 25 "JoinGrantsModel" "text" "[I", Cond.methodLink RX6 54 yX6_in, Cond.static yX6_in, Cond.code yX6_in cX6_in 6 (some .boolean), Cond.methodLink RX6 170 yX6_readsNumber, Cond.instanceMethod yX6_readsNumber]
def wsX6_fault_r2 : List Cond := [Cond.selects RX6 yX6_readsNumber yX6_readsNumber, Cond.code yX6_readsNumber cX6_readsNumber 1 (some .boolean)]
def wsX6_fault : List Cond := .code yX6_fault cX6_fault 2 (some .int) :: ((wsX6_fault_r1 ++ wsX6_fault_r2) ++ wsX60)
def wsX6_askAll_r1 : List Cond := [Cond.fieldLink RX6 7 "JoinGrantsModel" "all" "[I", Cond.fieldLink RX6 174 "JoinGrantsModel" "readMany" "I", Cond.fieldLink RX6 28 "JoinGrantsModel" "read" "[I", Cond.methodLink RX6 180 yX6_fault, Cond.instanceMethod yX6_fault, Cond.selects RX6 yX6_fault yX6_fault, Cond.initialized RX6, Cond.code yX6_fault cX6_fault 2 (some .int), Cond.fieldLink RX6 158 "JoinGrantsModel" "spot" "I", Cond.fieldLink RX6 155 "JoinGrantsModel" "textLong" "I", Cond.methodLink RX6 177 yX6_readsJoin, Cond.instanceMethod yX6_readsJoin, Cond.selects RX6 yX6_readsJoin yX6_readsJoin, Cond.code yX6_readsJoin cX6_readsJoin 3 (some .boolean), Cond.fieldLink RX6 164 "JoinGrantsModel" "number" "I", Cond.methodLink RX6 167 yX6_takes, Cond.instanceMethod yX6_takes, Cond.selects RX6 yX6_takes yX6_takes, Cond.code yX6_takes cX6_takes 3 (some .boolean), Cond.methodLink RX6 161 yX6_isHere, Cond.instanceMethod yX6_isHere, Cond.selects RX6 yX6_isHere yX6_isHere, Cond.code yX6_isHere cX6_isHere 3 (some .boolean), Cond.fieldLink RX6 25 "JoinGrantsModel" "text" "[I"]
def wsX6_askAll_r2 : List Cond := [Cond.methodLink RX6 54 yX6_in, Cond.static yX6_in, Cond.code yX6_in cX6_in 6 (some .boolean), Cond.methodLink RX6 170 yX6_readsNumber, Cond.instanceMethod yX6_readsNumber, Cond.selects RX6 yX6_readsNumber yX6_readsNumber, Cond.code yX6_readsNumber cX6_readsNumber 1 (some .boolean), Cond.methodLink RX6 129 yX6_remember, Cond.instanceMethod yX6_remember, Cond.selects RX6 yX6_remember yX6_remember, Cond.code yX6_remember cX6_remember 1 none, Cond.fieldLink RX6 13 "JoinGrantsModel" "kept" "[I", Cond.methodLink RX6 31 yX6_copy, Cond.static yX6_copy, Cond.code yX6_copy cX6_copy 3 none, Cond.methodLink RX6 132 yX6_comes, Cond.instanceMethod yX6_comes, Cond.selects RX6 yX6_comes yX6_comes, Cond.code yX6_comes cX6_comes 5 none, Cond.methodLink RX6 88 yX6_sets, Cond.instanceMethod yX6_sets, Cond.selects RX6 yX6_sets yX6_sets, Cond.code yX6_sets cX6_sets 4 none, Cond.methodLink RX6 119 yX6_goesThrough]
def wsX6_askAll_r3 : List Cond := [Cond.instanceMethod yX6_goesThrough, Cond.selects RX6 yX6_goesThrough yX6_goesThrough, Cond.code yX6_goesThrough cX6_goesThrough 2 none, Cond.methodLink RX6 109 yX6_ranked, Cond.instanceMethod yX6_ranked, Cond.selects RX6 yX6_ranked yX6_ranked, Cond.code yX6_ranked cX6_ranked 3 (some .int), Cond.methodLink RX6 69 yX6_is, Cond.instanceMethod yX6_is, Cond.selects RX6 yX6_is yX6_is, Cond.code yX6_is cX6_is 3 (some .boolean), Cond.methodLink RX6 58 yX6_of, Cond.instanceMethod yX6_of, Cond.selects RX6 yX6_of yX6_of, Cond.code yX6_of cX6_of 3 (some .int), Cond.methodLink RX6 82 yX6_rankOf, Cond.instanceMethod yX6_rankOf, Cond.selects RX6 yX6_rankOf yX6_rankOf, Cond.code yX6_rankOf cX6_rankOf 4 (some .int), Cond.methodLink RX6 79 yX6_isAhead, Cond.instanceMethod yX6_isAhead, Cond.selects RX6 yX6_isAhead yX6_isAhead, Cond.code yX6_isAhead cX6_isAhead 4 (some .boolean), Cond.methodLink RX6 73 yX6_needs]
def wsX6_askAll_r4 : List Cond := [Cond.instanceMethod yX6_needs, Cond.selects RX6 yX6_needs yX6_needs, Cond.code yX6_needs cX6_needs 2 (some .int), Cond.methodLink RX6 43 yX6_needsOf, Cond.static yX6_needsOf, Cond.code yX6_needsOf cX6_needsOf 3 (some .int), Cond.methodLink RX6 39 yX6_root, Cond.static yX6_root, Cond.code yX6_root cX6_root 2 (some .int), Cond.methodLink RX6 112 yX6_starts, Cond.instanceMethod yX6_starts, Cond.selects RX6 yX6_starts yX6_starts, Cond.code yX6_starts cX6_starts 6 (some .boolean), Cond.methodLink RX6 96 yX6_free, Cond.instanceMethod yX6_free, Cond.selects RX6 yX6_free yX6_free, Cond.code yX6_free cX6_free 2 (some .int), Cond.methodLink RX6 65 yX6_granted, Cond.instanceMethod yX6_granted, Cond.selects RX6 yX6_granted yX6_granted, Cond.code yX6_granted cX6_granted 3 (some .int), Cond.methodLink RX6 99 yX6_wants, Cond.instanceMethod yX6_wants, Cond.selects RX6 yX6_wants yX6_wants]
def wsX6_askAll_r5 : List Cond := [Cond.code yX6_wants cX6_wants 2 (some .int), Cond.methodLink RX6 51 yX6_wantsOf, Cond.static yX6_wantsOf, Cond.code yX6_wantsOf cX6_wantsOf 5 (some .int), Cond.methodLink RX6 102 yX6_spares, Cond.instanceMethod yX6_spares, Cond.selects RX6 yX6_spares yX6_spares, Cond.code yX6_spares cX6_spares 3 (some .int), Cond.methodLink RX6 76 yX6_extra, Cond.instanceMethod yX6_extra, Cond.selects RX6 yX6_extra yX6_extra, Cond.code yX6_extra cX6_extra 2 (some .int), Cond.methodLink RX6 105 yX6_asksBack, Cond.instanceMethod yX6_asksBack, Cond.selects RX6 yX6_asksBack yX6_asksBack, Cond.code yX6_asksBack cX6_asksBack 5 none, Cond.methodLink RX6 92 yX6_givesBack, Cond.instanceMethod yX6_givesBack, Cond.selects RX6 yX6_givesBack yX6_givesBack, Cond.code yX6_givesBack cX6_givesBack 7 none, Cond.methodLink RX6 85 yX6_works, Cond.instanceMethod yX6_works, Cond.selects RX6 yX6_works yX6_works, Cond.code yX6_works cX6_works 3 (some .int)]
def wsX6_askAll_r6 : List Cond := [Cond.methodLink RX6 61 yX6_workOf, Cond.static yX6_workOf, Cond.code yX6_workOf cX6_workOf 7 (some .int), Cond.methodLink RX6 47 yX6_over, Cond.static yX6_over, Cond.code yX6_over cX6_over 2 (some .int), Cond.methodLink RX6 135 yX6_acted, Cond.instanceMethod yX6_acted, Cond.selects RX6 yX6_acted yX6_acted, Cond.code yX6_acted cX6_acted 3 (some .int), Cond.fieldLink RX6 35 "JoinGrantsModel" "historyLong" "I", Cond.fieldLink RX6 19 "JoinGrantsModel" "history" "[I"]
def wsX6_askAll : List Cond := .code yX6_askAll cX6_askAll 3 (some .int) :: ((wsX6_askAll_r1 ++ (wsX6_askAll_r2 ++ (wsX6_askAll_r3 ++ (wsX6_askAll_r4 ++ (wsX6_askAll_r5 ++ wsX6_askAll_r6))))) ++ wsX60)
def wsX6_undo : List Cond := .code yX6_undo cX6_undo 2 (some .int) :: ([.fieldLink RX6 35 "JoinGrantsModel" "historyLong" "I", .fieldLink RX6 7 "JoinGrantsModel" "all" "[I", .fieldLink RX6 19 "JoinGrantsModel" "history" "[I"] ++ wsX60)
def wsX6_keep : List Cond := .code yX6_keep cX6_keep 1 (some .int) :: ([.fieldLink RX6 7 "JoinGrantsModel" "all" "[I", .fieldLink RX6 22 "JoinGrantsModel" "snapshot" "[I", .fieldLink RX6 183 "JoinGrantsModel" "isTaken" "I", .methodLink RX6 31 yX6_copy, .static yX6_copy, .initialized RX6, .code yX6_copy cX6_copy 3 none] ++ wsX60)
def wsX6_restore : List Cond := .code yX6_restore cX6_restore 1 (some .int) :: ([.fieldLink RX6 183 "JoinGrantsModel" "isTaken" "I", .fieldLink RX6 22 "JoinGrantsModel" "snapshot" "[I", .fieldLink RX6 7 "JoinGrantsModel" "all" "[I", .methodLink RX6 129 yX6_remember, .instanceMethod yX6_remember, .selects RX6 yX6_remember yX6_remember, .initialized RX6, .code yX6_remember cX6_remember 1 none, .fieldLink RX6 13 "JoinGrantsModel" "kept" "[I", .methodLink RX6 31 yX6_copy, .static yX6_copy, .code yX6_copy cX6_copy 3 none, .methodLink RX6 135 yX6_acted, .instanceMethod yX6_acted, .selects RX6 yX6_acted yX6_acted, .code yX6_acted cX6_acted 3 (some .int), .fieldLink RX6 35 "JoinGrantsModel" "historyLong" "I", .fieldLink RX6 19 "JoinGrantsModel" "history" "[I"] ++ wsX60)
def wsX6_spills : List Cond := .code yX6_spills cX6_spills 2 (some .boolean) :: ([.methodLink RX6 69 yX6_is, .instanceMethod yX6_is, .selects RX6 yX6_is yX6_is, .initialized RX6, .code yX6_is cX6_is 3 (some .boolean), .methodLink RX6 58 yX6_of, .instanceMethod yX6_of, .selects RX6 yX6_of yX6_of, .code yX6_of cX6_of 3 (some .int), .fieldLink RX6 7 "JoinGrantsModel" "all" "[I", .methodLink RX6 99 yX6_wants, .instanceMethod yX6_wants, .selects RX6 yX6_wants yX6_wants, .code yX6_wants cX6_wants 2 (some .int), .methodLink RX6 51 yX6_wantsOf, .static yX6_wantsOf, .code yX6_wantsOf cX6_wantsOf 5 (some .int), .methodLink RX6 43 yX6_needsOf, .static yX6_needsOf, .code yX6_needsOf cX6_needsOf 3 (some .int), .methodLink RX6 39 yX6_root, .static yX6_root, .code yX6_root cX6_root 2 (some .int)] ++ wsX60)
def wsX6_join_r1 : List Cond := [Cond.methodLink RX6 138 yX6_isJoin, Cond.instanceMethod yX6_isJoin, Cond.selects RX6 yX6_isJoin yX6_isJoin, Cond.initialized RX6, Cond.code yX6_isJoin cX6_isJoin 2 (some .boolean), Cond.fieldLink RX6 7 "JoinGrantsModel" "all" "[I", Cond.methodLink RX6 54 yX6_in, Cond.static yX6_in, Cond.code yX6_in cX6_in 6 (some .boolean), Cond.methodLink RX6 58 yX6_of, Cond.instanceMethod yX6_of, Cond.selects RX6 yX6_of yX6_of, Cond.code yX6_of cX6_of 3 (some .int), Cond.methodLink RX6 73 yX6_needs, Cond.instanceMethod yX6_needs, Cond.selects RX6 yX6_needs yX6_needs, Cond.code yX6_needs cX6_needs 2 (some .int), Cond.methodLink RX6 43 yX6_needsOf, Cond.static yX6_needsOf, Cond.code yX6_needsOf cX6_needsOf 3 (some .int), Cond.methodLink RX6 39 yX6_root, Cond.static yX6_root, Cond.code yX6_root cX6_root 2 (some .int), Cond.methodLink RX6 99 yX6_wants]
def wsX6_join_r2 : List Cond := [Cond.instanceMethod yX6_wants, Cond.selects RX6 yX6_wants yX6_wants, Cond.code yX6_wants cX6_wants 2 (some .int), Cond.methodLink RX6 51 yX6_wantsOf, Cond.static yX6_wantsOf, Cond.code yX6_wantsOf cX6_wantsOf 5 (some .int), Cond.methodLink RX6 186 yX6_spills, Cond.instanceMethod yX6_spills, Cond.selects RX6 yX6_spills yX6_spills, Cond.code yX6_spills cX6_spills 2 (some .boolean), Cond.methodLink RX6 69 yX6_is, Cond.instanceMethod yX6_is, Cond.selects RX6 yX6_is yX6_is, Cond.code yX6_is cX6_is 3 (some .boolean)]
def wsX6_join : List Cond := .code yX6_join cX6_join 3 (some .int) :: ((wsX6_join_r1 ++ wsX6_join_r2) ++ wsX60)
def wsX6_why_r1 : List Cond := [Cond.fieldLink RX6 7 "JoinGrantsModel" "all" "[I", Cond.methodLink RX6 138 yX6_isJoin, Cond.instanceMethod yX6_isJoin, Cond.selects RX6 yX6_isJoin yX6_isJoin, Cond.initialized RX6, Cond.code yX6_isJoin cX6_isJoin 2 (some .boolean), Cond.methodLink RX6 54 yX6_in, Cond.static yX6_in, Cond.code yX6_in cX6_in 6 (some .boolean), Cond.methodLink RX6 69 yX6_is, Cond.instanceMethod yX6_is, Cond.selects RX6 yX6_is yX6_is, Cond.code yX6_is cX6_is 3 (some .boolean), Cond.methodLink RX6 58 yX6_of, Cond.instanceMethod yX6_of, Cond.selects RX6 yX6_of yX6_of, Cond.code yX6_of cX6_of 3 (some .int), Cond.methodLink RX6 73 yX6_needs, Cond.instanceMethod yX6_needs, Cond.selects RX6 yX6_needs yX6_needs, Cond.code yX6_needs cX6_needs 2 (some .int), Cond.methodLink RX6 43 yX6_needsOf, Cond.static yX6_needsOf, Cond.code yX6_needsOf cX6_needsOf 3 (some .int)]
def wsX6_why_r2 : List Cond := [Cond.methodLink RX6 39 yX6_root, Cond.static yX6_root, Cond.code yX6_root cX6_root 2 (some .int), Cond.methodLink RX6 82 yX6_rankOf, Cond.instanceMethod yX6_rankOf, Cond.selects RX6 yX6_rankOf yX6_rankOf, Cond.code yX6_rankOf cX6_rankOf 4 (some .int), Cond.methodLink RX6 79 yX6_isAhead, Cond.instanceMethod yX6_isAhead, Cond.selects RX6 yX6_isAhead yX6_isAhead, Cond.code yX6_isAhead cX6_isAhead 4 (some .boolean)]
def wsX6_why : List Cond := .code yX6_why cX6_why 2 (some .int) :: ((wsX6_why_r1 ++ wsX6_why_r2) ++ wsX60)
def wsX6_queue_r1 : List Cond := [Cond.methodLink RX6 109 yX6_ranked, Cond.instanceMethod yX6_ranked, Cond.selects RX6 yX6_ranked yX6_ranked, Cond.initialized RX6, Cond.code yX6_ranked cX6_ranked 3 (some .int), Cond.fieldLink RX6 7 "JoinGrantsModel" "all" "[I", Cond.methodLink RX6 69 yX6_is, Cond.instanceMethod yX6_is, Cond.selects RX6 yX6_is yX6_is, Cond.code yX6_is cX6_is 3 (some .boolean), Cond.methodLink RX6 58 yX6_of, Cond.instanceMethod yX6_of, Cond.selects RX6 yX6_of yX6_of, Cond.code yX6_of cX6_of 3 (some .int), Cond.methodLink RX6 82 yX6_rankOf, Cond.instanceMethod yX6_rankOf, Cond.selects RX6 yX6_rankOf yX6_rankOf, Cond.code yX6_rankOf cX6_rankOf 4 (some .int), Cond.methodLink RX6 79 yX6_isAhead, Cond.instanceMethod yX6_isAhead, Cond.selects RX6 yX6_isAhead yX6_isAhead, Cond.code yX6_isAhead cX6_isAhead 4 (some .boolean), Cond.methodLink RX6 73 yX6_needs, Cond.instanceMethod yX6_needs]
def wsX6_queue_r2 : List Cond := [Cond.selects RX6 yX6_needs yX6_needs, Cond.code yX6_needs cX6_needs 2 (some .int), Cond.methodLink RX6 43 yX6_needsOf, Cond.static yX6_needsOf, Cond.code yX6_needsOf cX6_needsOf 3 (some .int), Cond.methodLink RX6 39 yX6_root, Cond.static yX6_root, Cond.code yX6_root cX6_root 2 (some .int)]
def wsX6_queue : List Cond := .code yX6_queue cX6_queue 2 (some .int) :: ((wsX6_queue_r1 ++ wsX6_queue_r2) ++ wsX60)
def wsX6_work_r1 : List Cond := [Cond.constantLong RX6 124 (2), Cond.constantLong RX6 189 (3), Cond.constantLong RX6 148 (500), Cond.methodLink RX6 54 yX6_in, Cond.static yX6_in, Cond.initialized RX6, Cond.code yX6_in cX6_in 6 (some .boolean), Cond.methodLink RX6 126 yX6_isTable, Cond.static yX6_isTable, Cond.code yX6_isTable cX6_isTable 1 (some .boolean), Cond.constantLong RX6 122 (200), Cond.methodLink RX6 43 yX6_needsOf, Cond.static yX6_needsOf, Cond.code yX6_needsOf cX6_needsOf 3 (some .int), Cond.methodLink RX6 39 yX6_root, Cond.static yX6_root, Cond.code yX6_root cX6_root 2 (some .int), Cond.methodLink RX6 61 yX6_workOf, Cond.static yX6_workOf, Cond.code yX6_workOf cX6_workOf 7 (some .int), Cond.methodLink RX6 47 yX6_over, Cond.static yX6_over, Cond.code yX6_over cX6_over 2 (some .int), Cond.methodLink RX6 51 yX6_wantsOf]
def wsX6_work_r2 : List Cond := [Cond.static yX6_wantsOf, Cond.code yX6_wantsOf cX6_wantsOf 5 (some .int)]
def wsX6_work : List Cond := .code yX6_work cX6_work 5 (some .int) :: ((wsX6_work_r1 ++ wsX6_work_r2))
def wsX6_bestWay_r1 : List Cond := [Cond.constantLong RX6 189 (3), Cond.constantLong RX6 148 (500), Cond.methodLink RX6 126 yX6_isTable, Cond.static yX6_isTable, Cond.initialized RX6, Cond.code yX6_isTable cX6_isTable 1 (some .boolean), Cond.constantLong RX6 122 (200), Cond.methodLink RX6 54 yX6_in, Cond.static yX6_in, Cond.code yX6_in cX6_in 6 (some .boolean), Cond.methodLink RX6 43 yX6_needsOf, Cond.static yX6_needsOf, Cond.code yX6_needsOf cX6_needsOf 3 (some .int), Cond.methodLink RX6 39 yX6_root, Cond.static yX6_root, Cond.code yX6_root cX6_root 2 (some .int), Cond.methodLink RX6 61 yX6_workOf, Cond.static yX6_workOf, Cond.code yX6_workOf cX6_workOf 7 (some .int), Cond.methodLink RX6 47 yX6_over, Cond.static yX6_over, Cond.code yX6_over cX6_over 2 (some .int), Cond.methodLink RX6 51 yX6_wantsOf, Cond.static yX6_wantsOf]
def wsX6_bestWay_r2 : List Cond := [Cond.code yX6_wantsOf cX6_wantsOf 5 (some .int)]
def wsX6_bestWay : List Cond := .code yX6_bestWay cX6_bestWay 7 (some .int) :: ((wsX6_bestWay_r1 ++ wsX6_bestWay_r2))
def wsX6_doneIn_r1 : List Cond := [Cond.fieldLink RX6 7 "JoinGrantsModel" "all" "[I", Cond.fieldLink RX6 16 "JoinGrantsModel" "tried" "[I", Cond.methodLink RX6 138 yX6_isJoin, Cond.instanceMethod yX6_isJoin, Cond.selects RX6 yX6_isJoin yX6_isJoin, Cond.initialized RX6, Cond.code yX6_isJoin cX6_isJoin 2 (some .boolean), Cond.methodLink RX6 54 yX6_in, Cond.static yX6_in, Cond.code yX6_in cX6_in 6 (some .boolean), Cond.methodLink RX6 69 yX6_is, Cond.instanceMethod yX6_is, Cond.selects RX6 yX6_is yX6_is, Cond.code yX6_is cX6_is 3 (some .boolean), Cond.methodLink RX6 58 yX6_of, Cond.instanceMethod yX6_of, Cond.selects RX6 yX6_of yX6_of, Cond.code yX6_of cX6_of 3 (some .int), Cond.methodLink RX6 31 yX6_copy, Cond.static yX6_copy, Cond.code yX6_copy cX6_copy 3 none, Cond.methodLink RX6 143 yX6_steps, Cond.instanceMethod yX6_steps, Cond.selects RX6 yX6_steps yX6_steps]
def wsX6_doneIn_r2 : List Cond := [Cond.code yX6_steps cX6_steps 4 (some .int), Cond.methodLink RX6 88 yX6_sets, Cond.instanceMethod yX6_sets, Cond.selects RX6 yX6_sets yX6_sets, Cond.code yX6_sets cX6_sets 4 none, Cond.methodLink RX6 116 yX6_ends, Cond.instanceMethod yX6_ends, Cond.selects RX6 yX6_ends yX6_ends, Cond.code yX6_ends cX6_ends 3 none, Cond.methodLink RX6 119 yX6_goesThrough, Cond.instanceMethod yX6_goesThrough, Cond.selects RX6 yX6_goesThrough yX6_goesThrough, Cond.code yX6_goesThrough cX6_goesThrough 2 none, Cond.methodLink RX6 109 yX6_ranked, Cond.instanceMethod yX6_ranked, Cond.selects RX6 yX6_ranked yX6_ranked, Cond.code yX6_ranked cX6_ranked 3 (some .int), Cond.methodLink RX6 82 yX6_rankOf, Cond.instanceMethod yX6_rankOf, Cond.selects RX6 yX6_rankOf yX6_rankOf, Cond.code yX6_rankOf cX6_rankOf 4 (some .int), Cond.methodLink RX6 79 yX6_isAhead, Cond.instanceMethod yX6_isAhead, Cond.selects RX6 yX6_isAhead yX6_isAhead]
def wsX6_doneIn_r3 : List Cond := [Cond.code yX6_isAhead cX6_isAhead 4 (some .boolean), Cond.methodLink RX6 73 yX6_needs, Cond.instanceMethod yX6_needs, Cond.selects RX6 yX6_needs yX6_needs, Cond.code yX6_needs cX6_needs 2 (some .int), Cond.methodLink RX6 43 yX6_needsOf, Cond.static yX6_needsOf, Cond.code yX6_needsOf cX6_needsOf 3 (some .int), Cond.methodLink RX6 39 yX6_root, Cond.static yX6_root, Cond.code yX6_root cX6_root 2 (some .int), Cond.methodLink RX6 112 yX6_starts, Cond.instanceMethod yX6_starts, Cond.selects RX6 yX6_starts yX6_starts, Cond.code yX6_starts cX6_starts 6 (some .boolean), Cond.methodLink RX6 96 yX6_free, Cond.instanceMethod yX6_free, Cond.selects RX6 yX6_free yX6_free, Cond.code yX6_free cX6_free 2 (some .int), Cond.methodLink RX6 65 yX6_granted, Cond.instanceMethod yX6_granted, Cond.selects RX6 yX6_granted yX6_granted, Cond.code yX6_granted cX6_granted 3 (some .int), Cond.methodLink RX6 99 yX6_wants]
def wsX6_doneIn_r4 : List Cond := [Cond.instanceMethod yX6_wants, Cond.selects RX6 yX6_wants yX6_wants, Cond.code yX6_wants cX6_wants 2 (some .int), Cond.methodLink RX6 51 yX6_wantsOf, Cond.static yX6_wantsOf, Cond.code yX6_wantsOf cX6_wantsOf 5 (some .int), Cond.methodLink RX6 102 yX6_spares, Cond.instanceMethod yX6_spares, Cond.selects RX6 yX6_spares yX6_spares, Cond.code yX6_spares cX6_spares 3 (some .int), Cond.methodLink RX6 76 yX6_extra, Cond.instanceMethod yX6_extra, Cond.selects RX6 yX6_extra yX6_extra, Cond.code yX6_extra cX6_extra 2 (some .int), Cond.methodLink RX6 105 yX6_asksBack, Cond.instanceMethod yX6_asksBack, Cond.selects RX6 yX6_asksBack yX6_asksBack, Cond.code yX6_asksBack cX6_asksBack 5 none, Cond.methodLink RX6 92 yX6_givesBack, Cond.instanceMethod yX6_givesBack, Cond.selects RX6 yX6_givesBack yX6_givesBack, Cond.code yX6_givesBack cX6_givesBack 7 none, Cond.methodLink RX6 85 yX6_works, Cond.instanceMethod yX6_works]
def wsX6_doneIn_r5 : List Cond := [Cond.selects RX6 yX6_works yX6_works, Cond.code yX6_works cX6_works 3 (some .int), Cond.methodLink RX6 61 yX6_workOf, Cond.static yX6_workOf, Cond.code yX6_workOf cX6_workOf 7 (some .int), Cond.methodLink RX6 47 yX6_over, Cond.static yX6_over, Cond.code yX6_over cX6_over 2 (some .int)]
def wsX6_doneIn : List Cond := .code yX6_doneIn cX6_doneIn 4 (some .int) :: ((wsX6_doneIn_r1 ++ (wsX6_doneIn_r2 ++ (wsX6_doneIn_r3 ++ (wsX6_doneIn_r4 ++ wsX6_doneIn_r5)))) ++ wsX60)
def wsX6_manyWith : List Cond := .code yX6_manyWith cX6_manyWith 4 (some .int) :: ([.fieldLink RX6 7 "JoinGrantsModel" "all" "[I", .methodLink RX6 69 yX6_is, .instanceMethod yX6_is, .selects RX6 yX6_is yX6_is, .initialized RX6, .code yX6_is cX6_is 3 (some .boolean), .methodLink RX6 58 yX6_of, .instanceMethod yX6_of, .selects RX6 yX6_of yX6_of, .code yX6_of cX6_of 3 (some .int)] ++ wsX60)
def wsX6_spilling_r1 : List Cond := [Cond.fieldLink RX6 7 "JoinGrantsModel" "all" "[I", Cond.methodLink RX6 186 yX6_spills, Cond.instanceMethod yX6_spills, Cond.selects RX6 yX6_spills yX6_spills, Cond.initialized RX6, Cond.code yX6_spills cX6_spills 2 (some .boolean), Cond.methodLink RX6 69 yX6_is, Cond.instanceMethod yX6_is, Cond.selects RX6 yX6_is yX6_is, Cond.code yX6_is cX6_is 3 (some .boolean), Cond.methodLink RX6 58 yX6_of, Cond.instanceMethod yX6_of, Cond.selects RX6 yX6_of yX6_of, Cond.code yX6_of cX6_of 3 (some .int), Cond.methodLink RX6 99 yX6_wants, Cond.instanceMethod yX6_wants, Cond.selects RX6 yX6_wants yX6_wants, Cond.code yX6_wants cX6_wants 2 (some .int), Cond.methodLink RX6 51 yX6_wantsOf, Cond.static yX6_wantsOf, Cond.code yX6_wantsOf cX6_wantsOf 5 (some .int), Cond.methodLink RX6 43 yX6_needsOf, Cond.static yX6_needsOf, Cond.code yX6_needsOf cX6_needsOf 3 (some .int)]
def wsX6_spilling_r2 : List Cond := [Cond.methodLink RX6 39 yX6_root, Cond.static yX6_root, Cond.code yX6_root cX6_root 2 (some .int)]
def wsX6_spilling : List Cond := .code yX6_spilling cX6_spilling 3 (some .int) :: ((wsX6_spilling_r1 ++ wsX6_spilling_r2) ++ wsX60)
def wsX6_count_r1 : List Cond := [Cond.constantLong RX6 191 (4), Cond.constantLong RX6 196 (7), Cond.constantLong RX6 198 (10), Cond.fieldLink RX6 7 "JoinGrantsModel" "all" "[I", Cond.constantLong RX6 200 (12), Cond.constantLong RX6 202 (15), Cond.fieldLink RX6 35 "JoinGrantsModel" "historyLong" "I", Cond.fieldLink RX6 155 "JoinGrantsModel" "textLong" "I", Cond.methodLink RX6 54 yX6_in, Cond.static yX6_in, Cond.initialized RX6, Cond.code yX6_in cX6_in 6 (some .boolean), Cond.methodLink RX6 193 yX6_manyWith, Cond.instanceMethod yX6_manyWith, Cond.selects RX6 yX6_manyWith yX6_manyWith, Cond.code yX6_manyWith cX6_manyWith 4 (some .int), Cond.methodLink RX6 69 yX6_is, Cond.instanceMethod yX6_is, Cond.selects RX6 yX6_is yX6_is, Cond.code yX6_is cX6_is 3 (some .boolean), Cond.methodLink RX6 58 yX6_of, Cond.instanceMethod yX6_of, Cond.selects RX6 yX6_of yX6_of, Cond.code yX6_of cX6_of 3 (some .int)]
def wsX6_count_r2 : List Cond := [Cond.methodLink RX6 65 yX6_granted, Cond.instanceMethod yX6_granted, Cond.selects RX6 yX6_granted yX6_granted, Cond.code yX6_granted cX6_granted 3 (some .int), Cond.methodLink RX6 96 yX6_free, Cond.instanceMethod yX6_free, Cond.selects RX6 yX6_free yX6_free, Cond.code yX6_free cX6_free 2 (some .int), Cond.methodLink RX6 204 yX6_spilling, Cond.instanceMethod yX6_spilling, Cond.selects RX6 yX6_spilling yX6_spilling, Cond.code yX6_spilling cX6_spilling 3 (some .int), Cond.methodLink RX6 186 yX6_spills, Cond.instanceMethod yX6_spills, Cond.selects RX6 yX6_spills yX6_spills, Cond.code yX6_spills cX6_spills 2 (some .boolean), Cond.methodLink RX6 99 yX6_wants, Cond.instanceMethod yX6_wants, Cond.selects RX6 yX6_wants yX6_wants, Cond.code yX6_wants cX6_wants 2 (some .int), Cond.methodLink RX6 51 yX6_wantsOf, Cond.static yX6_wantsOf, Cond.code yX6_wantsOf cX6_wantsOf 5 (some .int), Cond.methodLink RX6 43 yX6_needsOf]
def wsX6_count_r3 : List Cond := [Cond.static yX6_needsOf, Cond.code yX6_needsOf cX6_needsOf 3 (some .int), Cond.methodLink RX6 39 yX6_root, Cond.static yX6_root, Cond.code yX6_root cX6_root 2 (some .int)]
def wsX6_count : List Cond := .code yX6_count cX6_count 2 (some .int) :: ((wsX6_count_r1 ++ (wsX6_count_r2 ++ wsX6_count_r3)) ++ wsX60)
def wsX6_spare_r1 : List Cond := [Cond.methodLink RX6 102 yX6_spares, Cond.instanceMethod yX6_spares, Cond.selects RX6 yX6_spares yX6_spares, Cond.initialized RX6, Cond.code yX6_spares cX6_spares 3 (some .int), Cond.fieldLink RX6 7 "JoinGrantsModel" "all" "[I", Cond.methodLink RX6 76 yX6_extra, Cond.instanceMethod yX6_extra, Cond.selects RX6 yX6_extra yX6_extra, Cond.code yX6_extra cX6_extra 2 (some .int), Cond.methodLink RX6 69 yX6_is, Cond.instanceMethod yX6_is, Cond.selects RX6 yX6_is yX6_is, Cond.code yX6_is cX6_is 3 (some .boolean), Cond.methodLink RX6 58 yX6_of, Cond.instanceMethod yX6_of, Cond.selects RX6 yX6_of yX6_of, Cond.code yX6_of cX6_of 3 (some .int), Cond.methodLink RX6 73 yX6_needs, Cond.instanceMethod yX6_needs, Cond.selects RX6 yX6_needs yX6_needs, Cond.code yX6_needs cX6_needs 2 (some .int), Cond.methodLink RX6 43 yX6_needsOf, Cond.static yX6_needsOf]
def wsX6_spare_r2 : List Cond := [Cond.code yX6_needsOf cX6_needsOf 3 (some .int), Cond.methodLink RX6 39 yX6_root, Cond.static yX6_root, Cond.code yX6_root cX6_root 2 (some .int)]
def wsX6_spare : List Cond := .code yX6_spare cX6_spare 1 (some .int) :: ((wsX6_spare_r1 ++ wsX6_spare_r2) ++ wsX60)
def wsJ9_max_7cf53 : List Cond := .code yJ9_max_7cf53 cJ9_max_7cf53 2 (some .int) :: ([])
def wsJ9_min_7cf53 : List Cond := .code yJ9_min_7cf53 cJ9_min_7cf53 2 (some .int) :: ([])
def wsL_law_r1 : List Cond := [Cond.classLink RL 7 RX5, Cond.instantiable RX5 7, Cond.initialized RX5, Cond.classLink RL 10 RX6, Cond.instantiable RX6 13, Cond.initialized RX6, Cond.methodLink RL 9 yX5_init, Cond.instanceMethod yX5_init, Cond.code yX5_init cX5_init 1 none, Cond.methodLink RX5 1 objectInit, Cond.instanceMethod objectInit, Cond.code objectInit ⟨#[0xb1]⟩ 1 none, Cond.classLink RX5 7 RX4, Cond.instantiable RX4 7, Cond.initialized RX4, Cond.fieldLink RX5 10 "JoinGrants" "pool" "LJoinGrants$Pool;", Cond.classLink RX5 16 RX0, Cond.instantiable RX0 2, Cond.initialized RX0, Cond.fieldLink RX5 19 "JoinGrants" "history" "LJoinGrants$History;", Cond.classLink RX5 23 RX2, Cond.instantiable RX2 10, Cond.initialized RX2, Cond.fieldLink RX5 26 "JoinGrants" "text" "LJoinGrants$JoinText;"]
def wsL_law_r2 : List Cond := [Cond.fieldLink RX5 30 "JoinGrants" "snapshot" "LJoinGrants$Pool;", Cond.fieldLink RX5 33 "JoinGrants" "trialPool" "LJoinGrants$Pool;", Cond.classLink RX5 36 RX3, Cond.instantiable RX3 5, Cond.initialized RX3, Cond.fieldLink RX5 39 "JoinGrants" "trialPlan" "LJoinGrants$Plan;", Cond.fieldLink RX5 43 "JoinGrants" "snapshotTaken" "Z", Cond.methodLink RX5 9 yX4_init, Cond.instanceMethod yX4_init, Cond.code yX4_init cX4_init 2 none, Cond.methodLink RX4 3 objectInit, Cond.fieldLink RX4 9 "JoinGrants$Pool" "FIRST" "[I", Cond.methodLink RX4 15 ⟨"[I", "clone", "()Ljava/lang/Object;"⟩, Cond.sameMethod "[I" "java/lang/Object" "clone" "()Ljava/lang/Object;", Cond.native ⟨"java/lang/Object", "clone", "()Ljava/lang/Object;"⟩, Cond.instanceMethod ⟨"java/lang/Object", "clone", "()Ljava/lang/Object;"⟩, Cond.selects "[I" ⟨"[I", "clone", "()Ljava/lang/Object;"⟩ ⟨"java/lang/Object", "clone", "()Ljava/lang/Object;"⟩, Cond.classLink RX4 16 "[I", Cond.fieldLink RX4 20 "JoinGrants$Pool" "settings" "[I", Cond.classLink RX4 23 RX1, Cond.fieldLink RX4 25 "JoinGrants$Pool" "joins" "[LJoinGrants$Join;", Cond.instantiable RX1 8, Cond.initialized RX1, Cond.methodLink RX4 29 yX1_init]
def wsL_law_r3 : List Cond := [Cond.instanceMethod yX1_init, Cond.code yX1_init cX1_init 2 none, Cond.methodLink RX1 1 objectInit, Cond.classLink RX1 7 RX3, Cond.fieldLink RX1 10 "JoinGrants$Join" "plan" "LJoinGrants$Plan;", Cond.fieldLink RX1 16 "JoinGrants$Join" "state" "I", Cond.fieldLink RX1 20 "JoinGrants$Join" "number" "I", Cond.instanceMethod yX3_init, Cond.code yX3_init cX3_init 1 none, Cond.methodLink RX3 3 objectInit, Cond.methodLink RX5 18 yX0_init, Cond.instanceMethod yX0_init, Cond.code yX0_init cX0_init 2 none, Cond.methodLink RX0 1 objectInit, Cond.classLink RX0 9 RX4, Cond.fieldLink RX0 11 "JoinGrants$History" "states" "[LJoinGrants$Pool;", Cond.methodLink RX0 15 yX4_init, Cond.instanceMethod yX2_init, Cond.code yX2_init cX2_init 1 none, Cond.methodLink RX2 1 objectInit, Cond.arrayClass .char, Cond.fieldLink RX2 9 "JoinGrants$JoinText" "characters" "[C", Cond.arrayClass .int, Cond.fieldLink RX2 13 "JoinGrants$JoinText" "ways" "[I"]
def wsL_law_r4 : List Cond := [Cond.fieldLink RX2 17 "JoinGrants$JoinText" "lefts" "[I", Cond.fieldLink RX2 20 "JoinGrants$JoinText" "rights" "[I", Cond.methodLink RL 12 yX6_init, Cond.instanceMethod yX6_init, Cond.code yX6_init cX6_init 1 none, Cond.methodLink RX6 1 objectInit, Cond.fieldLink RX6 7 "JoinGrantsModel" "all" "[I", Cond.fieldLink RX6 13 "JoinGrantsModel" "kept" "[I", Cond.fieldLink RX6 16 "JoinGrantsModel" "tried" "[I", Cond.fieldLink RX6 19 "JoinGrantsModel" "history" "[I", Cond.fieldLink RX6 22 "JoinGrantsModel" "snapshot" "[I", Cond.fieldLink RX6 25 "JoinGrantsModel" "text" "[I", Cond.fieldLink RX6 28 "JoinGrantsModel" "read" "[I", Cond.methodLink RL 13 yX5_ask, Cond.instanceMethod yX5_ask, Cond.selects RX5 yX5_ask yX5_ask, Cond.code yX5_ask cX5_ask 4 (some .int), Cond.methodLink RX5 47 yX3_fits, Cond.static yX3_fits, Cond.code yX3_fits cX3_fits 3 (some .boolean), Cond.methodLink RX3 11 yX3_isWay, Cond.static yX3_isWay, Cond.code yX3_isWay cX3_isWay 1 (some .boolean), Cond.methodLink RX3 15 yX3_isTable]
def wsL_law_r5 : List Cond := [Cond.static yX3_isTable, Cond.code yX3_isTable cX3_isTable 1 (some .boolean), Cond.methodLink RX5 51 yX4_room, Cond.instanceMethod yX4_room, Cond.selects RX4 yX4_room yX4_room, Cond.code yX4_room cX4_room 1 (some .int), Cond.fieldLink RX4 41 "JoinGrants$Pool" "joinsSoFar" "I", Cond.methodLink RX5 55 yX0_record, Cond.instanceMethod yX0_record, Cond.selects RX0 yX0_record yX0_record, Cond.code yX0_record cX0_record 2 none, Cond.fieldLink RX0 16 "JoinGrants$History" "size" "I", Cond.methodLink RX0 20 yX0_dropOldest, Cond.instanceMethod yX0_dropOldest, Cond.selects RX0 yX0_dropOldest yX0_dropOldest, Cond.code yX0_dropOldest cX0_dropOldest 3 none, Cond.methodLink RX0 23 yX4_copyFrom, Cond.instanceMethod yX4_copyFrom, Cond.selects RX4 yX4_copyFrom yX4_copyFrom, Cond.code yX4_copyFrom cX4_copyFrom 3 none, Cond.fieldLink RX4 92 "JoinGrants$Pool" "mostGranted" "I", Cond.fieldLink RX4 138 "JoinGrants$Pool" "steps" "I", Cond.fieldLink RX4 125 "JoinGrants$Pool" "workDone" "I", Cond.fieldLink RX4 115 "JoinGrants$Pool" "askedBack" "I"]
def wsL_law_r6 : List Cond := [Cond.methodLink RX4 153 yX1_copyFrom, Cond.instanceMethod yX1_copyFrom, Cond.selects RX1 yX1_copyFrom yX1_copyFrom, Cond.code yX1_copyFrom cX1_copyFrom 2 none, Cond.fieldLink RX1 31 "JoinGrants$Join" "pages" "I", Cond.fieldLink RX1 38 "JoinGrants$Join" "workLeft" "I", Cond.fieldLink RX1 44 "JoinGrants$Join" "stepsWaited" "I", Cond.fieldLink RX1 47 "JoinGrants$Join" "stepsWorked" "I", Cond.fieldLink RX1 41 "JoinGrants$Join" "givenBack" "I", Cond.methodLink RX1 79 yX3_copyFrom, Cond.instanceMethod yX3_copyFrom, Cond.selects RX3 yX3_copyFrom yX3_copyFrom, Cond.code yX3_copyFrom cX3_copyFrom 2 none, Cond.fieldLink RX3 29 "JoinGrants$Plan" "way" "I", Cond.fieldLink RX3 18 "JoinGrants$Plan" "left" "I", Cond.fieldLink RX3 22 "JoinGrants$Plan" "right" "I", Cond.fieldLink RX3 36 "JoinGrants$Plan" "need" "I", Cond.fieldLink RX3 48 "JoinGrants$Plan" "want" "I", Cond.methodLink RX5 59 yX4_take, Cond.instanceMethod yX4_take, Cond.selects RX4 yX4_take yX4_take, Cond.code yX4_take cX4_take 5 (some .int), Cond.methodLink RX4 45 yX1_come, Cond.instanceMethod yX1_come]
def wsL_law_r7 : List Cond := [Cond.selects RX1 yX1_come yX1_come, Cond.code yX1_come cX1_come 4 none, Cond.methodLink RX1 23 yX3_make, Cond.instanceMethod yX3_make, Cond.selects RX3 yX3_make yX3_make, Cond.code yX3_make cX3_make 4 none, Cond.methodLink RX3 25 yX3_changeWay, Cond.instanceMethod yX3_changeWay, Cond.selects RX3 yX3_changeWay yX3_changeWay, Cond.code yX3_changeWay cX3_changeWay 2 none, Cond.methodLink RX3 42 Lib.Math.max.name, Cond.static Lib.Math.max.name, Cond.initialized "java/lang/Math", Cond.code Lib.Math.max.name Lib.Math.max.code 2 (some .int), Cond.methodLink RX3 32 yX3_computedNeed, Cond.instanceMethod yX3_computedNeed, Cond.selects RX3 yX3_computedNeed yX3_computedNeed, Cond.code yX3_computedNeed cX3_computedNeed 1 (some .int), Cond.methodLink RX3 51 yX3_root, Cond.static yX3_root, Cond.code yX3_root cX3_root 2 (some .int), Cond.methodLink RX3 39 yX3_computedWant, Cond.instanceMethod yX3_computedWant, Cond.selects RX3 yX3_computedWant yX3_computedWant]
def wsL_law_r8 : List Cond := [Cond.code yX3_computedWant cX3_computedWant 1 (some .int), Cond.methodLink RX4 38 yX4_goThroughQueue, Cond.instanceMethod yX4_goThroughQueue, Cond.selects RX4 yX4_goThroughQueue yX4_goThroughQueue, Cond.code yX4_goThroughQueue cX4_goThroughQueue 3 none, Cond.methodLink RX4 53 yX4_firstInQueue, Cond.instanceMethod yX4_firstInQueue, Cond.selects RX4 yX4_firstInQueue yX4_firstInQueue, Cond.code yX4_firstInQueue cX4_firstInQueue 6 (some (.object "JoinGrants$Join")), Cond.methodLink RX4 61 yX1_isIn, Cond.instanceMethod yX1_isIn, Cond.selects RX1 yX1_isIn yX1_isIn, Cond.code yX1_isIn cX1_isIn 2 (some .boolean), Cond.methodLink RX4 65 yX4_isAhead, Cond.instanceMethod yX4_isAhead, Cond.selects RX4 yX4_isAhead yX4_isAhead, Cond.code yX4_isAhead cX4_isAhead 5 (some .boolean), Cond.methodLink RX4 69 yX1_need, Cond.instanceMethod yX1_need, Cond.selects RX1 yX1_need yX1_need, Cond.code yX1_need cX1_need 1 (some .int), Cond.methodLink RX4 101 yX4_setting, Cond.instanceMethod yX4_setting, Cond.selects RX4 yX4_setting yX4_setting]
def wsL_law_r9 : List Cond := [Cond.code yX4_setting cX4_setting 2 (some .int), Cond.methodLink RX4 49 yX1_number, Cond.instanceMethod yX1_number, Cond.selects RX1 yX1_number yX1_number, Cond.code yX1_number cX1_number 1 (some .int), Cond.methodLink RX4 57 yX4_start, Cond.instanceMethod yX4_start, Cond.selects RX4 yX4_start yX4_start, Cond.code yX4_start cX4_start 4 (some .boolean), Cond.methodLink RX4 78 Lib.Math.min.name, Cond.static Lib.Math.min.name, Cond.code Lib.Math.min.name Lib.Math.min.code 2 (some .int), Cond.methodLink RX4 98 Lib.Math.max.name, Cond.methodLink RX4 72 yX4_free, Cond.instanceMethod yX4_free, Cond.selects RX4 yX4_free yX4_free, Cond.code yX4_free cX4_free 1 (some .int), Cond.methodLink RX4 95 yX4_granted, Cond.instanceMethod yX4_granted, Cond.selects RX4 yX4_granted yX4_granted, Cond.code yX4_granted cX4_granted 6 (some .int), Cond.methodLink RX4 141 yX1_pages, Cond.instanceMethod yX1_pages, Cond.selects RX1 yX1_pages yX1_pages]
def wsL_law_r10 : List Cond := [Cond.code yX1_pages cX1_pages 1 (some .int), Cond.methodLink RX4 75 yX1_want, Cond.instanceMethod yX1_want, Cond.selects RX1 yX1_want yX1_want, Cond.code yX1_want cX1_want 1 (some .int), Cond.methodLink RX4 84 yX1_start, Cond.instanceMethod yX1_start, Cond.selects RX1 yX1_start yX1_start, Cond.code yX1_start cX1_start 2 none, Cond.methodLink RX1 34 yX3_workWith, Cond.instanceMethod yX3_workWith, Cond.selects RX3 yX3_workWith yX3_workWith, Cond.code yX3_workWith cX3_workWith 5 (some .int), Cond.methodLink RX4 86 yX4_canAskBack, Cond.instanceMethod yX4_canAskBack, Cond.selects RX4 yX4_canAskBack yX4_canAskBack, Cond.code yX4_canAskBack cX4_canAskBack 2 (some .boolean), Cond.methodLink RX4 105 yX4_surplus, Cond.instanceMethod yX4_surplus, Cond.selects RX4 yX4_surplus yX4_surplus, Cond.code yX4_surplus cX4_surplus 6 (some .int), Cond.methodLink RX4 111 yX1_surplus, Cond.instanceMethod yX1_surplus, Cond.selects RX1 yX1_surplus yX1_surplus]
def wsL_law_r11 : List Cond := [Cond.code yX1_surplus cX1_surplus 1 (some .int), Cond.methodLink RX4 89 yX4_askBack, Cond.instanceMethod yX4_askBack, Cond.selects RX4 yX4_askBack yX4_askBack, Cond.code yX4_askBack cX4_askBack 6 none, Cond.methodLink RX4 108 yX4_richest, Cond.instanceMethod yX4_richest, Cond.selects RX4 yX4_richest yX4_richest, Cond.code yX4_richest cX4_richest 6 (some (.object "JoinGrants$Join")), Cond.methodLink RX4 112 yX1_giveBack, Cond.instanceMethod yX1_giveBack, Cond.selects RX1 yX1_giveBack yX1_giveBack, Cond.code yX1_giveBack cX1_giveBack 6 none, Cond.methodLink RL 17 yX6_ask, Cond.instanceMethod yX6_ask, Cond.selects RX6 yX6_ask yX6_ask, Cond.code yX6_ask cX6_ask 4 (some .int), Cond.constantLong RX6 124 (2), Cond.methodLink RX6 54 yX6_in, Cond.static yX6_in, Cond.code yX6_in cX6_in 6 (some .boolean), Cond.methodLink RX6 126 yX6_isTable, Cond.static yX6_isTable, Cond.code yX6_isTable cX6_isTable 1 (some .boolean)]
def wsL_law_r12 : List Cond := [Cond.constantLong RX6 122 (200), Cond.methodLink RX6 129 yX6_remember, Cond.instanceMethod yX6_remember, Cond.selects RX6 yX6_remember yX6_remember, Cond.code yX6_remember cX6_remember 1 none, Cond.methodLink RX6 31 yX6_copy, Cond.static yX6_copy, Cond.code yX6_copy cX6_copy 3 none, Cond.methodLink RX6 132 yX6_comes, Cond.instanceMethod yX6_comes, Cond.selects RX6 yX6_comes yX6_comes, Cond.code yX6_comes cX6_comes 5 none, Cond.methodLink RX6 88 yX6_sets, Cond.instanceMethod yX6_sets, Cond.selects RX6 yX6_sets yX6_sets, Cond.code yX6_sets cX6_sets 4 none, Cond.methodLink RX6 119 yX6_goesThrough, Cond.instanceMethod yX6_goesThrough, Cond.selects RX6 yX6_goesThrough yX6_goesThrough, Cond.code yX6_goesThrough cX6_goesThrough 2 none, Cond.methodLink RX6 109 yX6_ranked, Cond.instanceMethod yX6_ranked, Cond.selects RX6 yX6_ranked yX6_ranked, Cond.code yX6_ranked cX6_ranked 3 (some .int)]
def wsL_law_r13 : List Cond := [Cond.methodLink RX6 69 yX6_is, Cond.instanceMethod yX6_is, Cond.selects RX6 yX6_is yX6_is, Cond.code yX6_is cX6_is 3 (some .boolean), Cond.methodLink RX6 58 yX6_of, Cond.instanceMethod yX6_of, Cond.selects RX6 yX6_of yX6_of, Cond.code yX6_of cX6_of 3 (some .int), Cond.methodLink RX6 82 yX6_rankOf, Cond.instanceMethod yX6_rankOf, Cond.selects RX6 yX6_rankOf yX6_rankOf, Cond.code yX6_rankOf cX6_rankOf 4 (some .int), Cond.methodLink RX6 79 yX6_isAhead, Cond.instanceMethod yX6_isAhead, Cond.selects RX6 yX6_isAhead yX6_isAhead, Cond.code yX6_isAhead cX6_isAhead 4 (some .boolean), Cond.methodLink RX6 73 yX6_needs, Cond.instanceMethod yX6_needs, Cond.selects RX6 yX6_needs yX6_needs, Cond.code yX6_needs cX6_needs 2 (some .int), Cond.methodLink RX6 43 yX6_needsOf, Cond.static yX6_needsOf, Cond.code yX6_needsOf cX6_needsOf 3 (some .int), Cond.methodLink RX6 39 yX6_root]
def wsL_law_r14 : List Cond := [Cond.static yX6_root, Cond.code yX6_root cX6_root 2 (some .int), Cond.methodLink RX6 112 yX6_starts, Cond.instanceMethod yX6_starts, Cond.selects RX6 yX6_starts yX6_starts, Cond.code yX6_starts cX6_starts 6 (some .boolean), Cond.methodLink RX6 96 yX6_free, Cond.instanceMethod yX6_free, Cond.selects RX6 yX6_free yX6_free, Cond.code yX6_free cX6_free 2 (some .int), Cond.methodLink RX6 65 yX6_granted, Cond.instanceMethod yX6_granted, Cond.selects RX6 yX6_granted yX6_granted, Cond.code yX6_granted cX6_granted 3 (some .int), Cond.methodLink RX6 99 yX6_wants, Cond.instanceMethod yX6_wants, Cond.selects RX6 yX6_wants yX6_wants, Cond.code yX6_wants cX6_wants 2 (some .int), Cond.methodLink RX6 51 yX6_wantsOf, Cond.static yX6_wantsOf, Cond.code yX6_wantsOf cX6_wantsOf 5 (some .int), Cond.methodLink RX6 102 yX6_spares, Cond.instanceMethod yX6_spares, Cond.selects RX6 yX6_spares yX6_spares]
def wsL_law_r15 : List Cond := [Cond.code yX6_spares cX6_spares 3 (some .int), Cond.methodLink RX6 76 yX6_extra, Cond.instanceMethod yX6_extra, Cond.selects RX6 yX6_extra yX6_extra, Cond.code yX6_extra cX6_extra 2 (some .int), Cond.methodLink RX6 105 yX6_asksBack, Cond.instanceMethod yX6_asksBack, Cond.selects RX6 yX6_asksBack yX6_asksBack, Cond.code yX6_asksBack cX6_asksBack 5 none, Cond.methodLink RX6 92 yX6_givesBack, Cond.instanceMethod yX6_givesBack, Cond.selects RX6 yX6_givesBack yX6_givesBack, Cond.code yX6_givesBack cX6_givesBack 7 none, Cond.methodLink RX6 85 yX6_works, Cond.instanceMethod yX6_works, Cond.selects RX6 yX6_works yX6_works, Cond.code yX6_works cX6_works 3 (some .int), Cond.methodLink RX6 61 yX6_workOf, Cond.static yX6_workOf, Cond.code yX6_workOf cX6_workOf 7 (some .int), Cond.methodLink RX6 47 yX6_over, Cond.static yX6_over, Cond.code yX6_over cX6_over 2 (some .int), Cond.methodLink RX6 135 yX6_acted]
def wsL_law_r16 : List Cond := [Cond.instanceMethod yX6_acted, Cond.selects RX6 yX6_acted yX6_acted, Cond.code yX6_acted cX6_acted 3 (some .int), Cond.fieldLink RX6 35 "JoinGrantsModel" "historyLong" "I", Cond.methodLink RL 18 yX5_askAll, Cond.instanceMethod yX5_askAll, Cond.selects RX5 yX5_askAll yX5_askAll, Cond.code yX5_askAll cX5_askAll 4 (some .int), Cond.methodLink RX5 63 yX2_read, Cond.instanceMethod yX2_read, Cond.selects RX2 yX2_read yX2_read, Cond.code yX2_read cX2_read 2 (some .int), Cond.fieldLink RX2 27 "JoinGrants$JoinText" "joins" "I", Cond.fieldLink RX2 30 "JoinGrants$JoinText" "place" "I", Cond.fieldLink RX2 33 "JoinGrants$JoinText" "number" "I", Cond.fieldLink RX2 23 "JoinGrants$JoinText" "length" "I", Cond.methodLink RX2 36 yX2_takes, Cond.instanceMethod yX2_takes, Cond.selects RX2 yX2_takes yX2_takes, Cond.code yX2_takes cX2_takes 2 (some .boolean), Cond.fieldLink RX2 50 "JoinGrants$JoinText" "left" "I", Cond.methodLink RX2 43 yX2_takesWay, Cond.instanceMethod yX2_takesWay, Cond.selects RX2 yX2_takesWay yX2_takesWay]
def wsL_law_r17 : List Cond := [Cond.code yX2_takesWay cX2_takesWay 2 (some .boolean), Cond.fieldLink RX2 55 "JoinGrants$JoinText" "way" "I", Cond.methodLink RX2 46 yX2_takesDigit, Cond.instanceMethod yX2_takesDigit, Cond.selects RX2 yX2_takesDigit yX2_takesDigit, Cond.code yX2_takesDigit cX2_takesDigit 3 (some .boolean), Cond.methodLink RX2 40 yX2_endJoin, Cond.instanceMethod yX2_endJoin, Cond.selects RX2 yX2_endJoin yX2_endJoin, Cond.code yX2_endJoin cX2_endJoin 1 none, Cond.methodLink RX5 66 yX2_joins, Cond.instanceMethod yX2_joins, Cond.selects RX2 yX2_joins yX2_joins, Cond.code yX2_joins cX2_joins 1 (some .int), Cond.methodLink RX5 69 yX2_wayOf, Cond.instanceMethod yX2_wayOf, Cond.selects RX2 yX2_wayOf yX2_wayOf, Cond.code yX2_wayOf cX2_wayOf 2 (some .int), Cond.methodLink RX5 73 yX2_leftOf, Cond.instanceMethod yX2_leftOf, Cond.selects RX2 yX2_leftOf yX2_leftOf, Cond.code yX2_leftOf cX2_leftOf 2 (some .int), Cond.methodLink RX5 76 yX2_rightOf, Cond.instanceMethod yX2_rightOf]
def wsL_law_r18 : List Cond := [Cond.selects RX2 yX2_rightOf yX2_rightOf, Cond.code yX2_rightOf cX2_rightOf 2 (some .int), Cond.methodLink RL 22 yX6_askAll, Cond.instanceMethod yX6_askAll, Cond.selects RX6 yX6_askAll yX6_askAll, Cond.code yX6_askAll cX6_askAll 3 (some .int), Cond.fieldLink RX6 174 "JoinGrantsModel" "readMany" "I", Cond.methodLink RX6 180 yX6_fault, Cond.instanceMethod yX6_fault, Cond.selects RX6 yX6_fault yX6_fault, Cond.code yX6_fault cX6_fault 2 (some .int), Cond.fieldLink RX6 158 "JoinGrantsModel" "spot" "I", Cond.fieldLink RX6 155 "JoinGrantsModel" "textLong" "I", Cond.methodLink RX6 177 yX6_readsJoin, Cond.instanceMethod yX6_readsJoin, Cond.selects RX6 yX6_readsJoin yX6_readsJoin, Cond.code yX6_readsJoin cX6_readsJoin 3 (some .boolean), Cond.fieldLink RX6 164 "JoinGrantsModel" "number" "I", Cond.methodLink RX6 167 yX6_takes, Cond.instanceMethod yX6_takes, Cond.selects RX6 yX6_takes yX6_takes, Cond.code yX6_takes cX6_takes 3 (some .boolean), Cond.methodLink RX6 161 yX6_isHere, Cond.instanceMethod yX6_isHere]
def wsL_law_r19 : List Cond := [Cond.selects RX6 yX6_isHere yX6_isHere, Cond.code yX6_isHere cX6_isHere 3 (some .boolean), Cond.methodLink RX6 170 yX6_readsNumber, Cond.instanceMethod yX6_readsNumber, Cond.selects RX6 yX6_readsNumber yX6_readsNumber, Cond.code yX6_readsNumber cX6_readsNumber 1 (some .boolean), Cond.methodLink RL 23 yX5_cancel, Cond.instanceMethod yX5_cancel, Cond.selects RX5 yX5_cancel yX5_cancel, Cond.code yX5_cancel cX5_cancel 4 (some .int), Cond.methodLink RX5 79 yX4_find, Cond.instanceMethod yX4_find, Cond.selects RX4 yX4_find yX4_find, Cond.code yX4_find cX4_find 2 (some (.object "JoinGrants$Join")), Cond.methodLink RX5 85 yX1_isIn, Cond.methodLink RX5 89 yX1_pages, Cond.methodLink RX5 92 yX1_end, Cond.instanceMethod yX1_end, Cond.selects RX1 yX1_end yX1_end, Cond.code yX1_end cX1_end 2 none, Cond.methodLink RX5 96 yX4_goThroughQueue, Cond.methodLink RL 27 yX6_cancel, Cond.instanceMethod yX6_cancel, Cond.selects RX6 yX6_cancel yX6_cancel]
def wsL_law_r20 : List Cond := [Cond.code yX6_cancel cX6_cancel 3 (some .int), Cond.methodLink RX6 138 yX6_isJoin, Cond.instanceMethod yX6_isJoin, Cond.selects RX6 yX6_isJoin yX6_isJoin, Cond.code yX6_isJoin cX6_isJoin 2 (some .boolean), Cond.methodLink RX6 116 yX6_ends, Cond.instanceMethod yX6_ends, Cond.selects RX6 yX6_ends yX6_ends, Cond.code yX6_ends cX6_ends 3 none, Cond.methodLink RL 28 yX5_change, Cond.instanceMethod yX5_change, Cond.selects RX5 yX5_change yX5_change, Cond.code yX5_change cX5_change 5 (some .int), Cond.methodLink RX5 99 yX3_isWay, Cond.methodLink RX5 102 yX1_way, Cond.instanceMethod yX1_way, Cond.selects RX1 yX1_way yX1_way, Cond.code yX1_way cX1_way 1 (some .int), Cond.methodLink RX5 105 yX1_changeWay, Cond.instanceMethod yX1_changeWay, Cond.selects RX1 yX1_changeWay yX1_changeWay, Cond.code yX1_changeWay cX1_changeWay 2 none, Cond.methodLink RX1 27 yX3_changeWay, Cond.methodLink RL 32 yX6_change]
def wsL_law_r21 : List Cond := [Cond.instanceMethod yX6_change, Cond.selects RX6 yX6_change yX6_change, Cond.code yX6_change cX6_change 4 (some .int), Cond.methodLink RL 33 yX5_step, Cond.instanceMethod yX5_step, Cond.selects RX5 yX5_step yX5_step, Cond.code yX5_step cX5_step 4 (some .int), Cond.methodLink RX5 114 Lib.Math.max.name, Cond.methodLink RX5 108 yX4_joinsIn, Cond.instanceMethod yX4_joinsIn, Cond.selects RX4 yX4_joinsIn yX4_joinsIn, Cond.code yX4_joinsIn cX4_joinsIn 7 (some .int), Cond.methodLink RX5 111 yX4_leap, Cond.instanceMethod yX4_leap, Cond.selects RX4 yX4_leap yX4_leap, Cond.code yX4_leap cX4_leap 9 (some .int), Cond.methodLink RX4 122 yX1_stepsLeft, Cond.instanceMethod yX1_stepsLeft, Cond.selects RX1 yX1_stepsLeft yX1_stepsLeft, Cond.code yX1_stepsLeft cX1_stepsLeft 2 (some .int), Cond.methodLink RX4 128 yX1_pass, Cond.instanceMethod yX1_pass, Cond.selects RX1 yX1_pass yX1_pass, Cond.code yX1_pass cX1_pass 4 (some .int)]
def wsL_law_r22 : List Cond := [Cond.methodLink RX1 50 Lib.Math.min.name, Cond.methodLink RX4 131 yX1_hasWorkedAll, Cond.instanceMethod yX1_hasWorkedAll, Cond.selects RX1 yX1_hasWorkedAll yX1_hasWorkedAll, Cond.code yX1_hasWorkedAll cX1_hasWorkedAll 1 (some .boolean), Cond.methodLink RX4 135 yX1_end, Cond.methodLink RL 36 yX6_step, Cond.instanceMethod yX6_step, Cond.selects RX6 yX6_step yX6_step, Cond.code yX6_step cX6_step 4 (some .int), Cond.constantLong RX6 141 (1000), Cond.methodLink RX6 143 yX6_steps, Cond.instanceMethod yX6_steps, Cond.selects RX6 yX6_steps yX6_steps, Cond.code yX6_steps cX6_steps 4 (some .int), Cond.methodLink RL 37 yX5_set, Cond.instanceMethod yX5_set, Cond.selects RX5 yX5_set yX5_set, Cond.code yX5_set cX5_set 4 (some .int), Cond.methodLink RX5 120 yX4_allows, Cond.static yX4_allows, Cond.code yX4_allows cX4_allows 2 (some .boolean), Cond.fieldLink RX4 32 "JoinGrants$Pool" "LOWEST" "[I", Cond.fieldLink RX4 35 "JoinGrants$Pool" "HIGHEST" "[I"]
def wsL_law_r23 : List Cond := [Cond.methodLink RX5 124 yX4_setting, Cond.methodLink RX5 127 yX4_changeSetting, Cond.instanceMethod yX4_changeSetting, Cond.selects RX4 yX4_changeSetting yX4_changeSetting, Cond.code yX4_changeSetting cX4_changeSetting 3 none, Cond.methodLink RL 40 yX6_set, Cond.instanceMethod yX6_set, Cond.selects RX6 yX6_set yX6_set, Cond.code yX6_set cX6_set 4 (some .int), Cond.methodLink RX6 152 yX6_isSetting, Cond.static yX6_isSetting, Cond.code yX6_isSetting cX6_isSetting 2 (some .boolean), Cond.constantLong RX6 146 (20), Cond.constantLong RX6 148 (500), Cond.constantLong RX6 150 (50), Cond.methodLink RL 41 yX5_type, Cond.instanceMethod yX5_type, Cond.selects RX5 yX5_type yX5_type, Cond.code yX5_type cX5_type 2 (some .int), Cond.methodLink RX5 131 yX2_append, Cond.instanceMethod yX2_append, Cond.selects RX2 yX2_append yX2_append, Cond.code yX2_append cX2_append 2 (some .boolean), Cond.methodLink RX5 135 yX2_length]
def wsL_law_r24 : List Cond := [Cond.instanceMethod yX2_length, Cond.selects RX2 yX2_length yX2_length, Cond.code yX2_length cX2_length 1 (some .int), Cond.methodLink RL 45 yX6_type, Cond.instanceMethod yX6_type, Cond.selects RX6 yX6_type yX6_type, Cond.code yX6_type cX6_type 2 (some .int), Cond.methodLink RL 46 yX5_clearText, Cond.instanceMethod yX5_clearText, Cond.selects RX5 yX5_clearText yX5_clearText, Cond.code yX5_clearText cX5_clearText 2 (some .int), Cond.methodLink RX5 138 yX2_clear, Cond.instanceMethod yX2_clear, Cond.selects RX2 yX2_clear yX2_clear, Cond.code yX2_clear cX2_clear 1 none, Cond.methodLink RL 49 yX6_clearText, Cond.instanceMethod yX6_clearText, Cond.selects RX6 yX6_clearText yX6_clearText, Cond.code yX6_clearText cX6_clearText 2 (some .int), Cond.methodLink RL 50 yX5_undo, Cond.instanceMethod yX5_undo, Cond.selects RX5 yX5_undo yX5_undo, Cond.code yX5_undo cX5_undo 1 (some .int), Cond.methodLink RX5 141 yX0_takeBack]
def wsL_law_r25 : List Cond := [Cond.instanceMethod yX0_takeBack, Cond.selects RX0 yX0_takeBack yX0_takeBack, Cond.code yX0_takeBack cX0_takeBack 2 (some .boolean), Cond.methodLink RX5 145 yX0_size, Cond.instanceMethod yX0_size, Cond.selects RX0 yX0_size yX0_size, Cond.code yX0_size cX0_size 1 (some .int), Cond.methodLink RL 53 yX6_undo, Cond.instanceMethod yX6_undo, Cond.selects RX6 yX6_undo yX6_undo, Cond.code yX6_undo cX6_undo 2 (some .int), Cond.methodLink RL 54 yX5_keep, Cond.instanceMethod yX5_keep, Cond.selects RX5 yX5_keep yX5_keep, Cond.code yX5_keep cX5_keep 1 (some .int), Cond.methodLink RX5 148 yX4_copyFrom, Cond.methodLink RX5 151 yX4_steps, Cond.instanceMethod yX4_steps, Cond.selects RX4 yX4_steps yX4_steps, Cond.code yX4_steps cX4_steps 1 (some .int), Cond.methodLink RL 57 yX6_keep, Cond.instanceMethod yX6_keep, Cond.selects RX6 yX6_keep yX6_keep, Cond.code yX6_keep cX6_keep 1 (some .int)]
def wsL_law_r26 : List Cond := [Cond.fieldLink RX6 183 "JoinGrantsModel" "isTaken" "I", Cond.methodLink RL 58 yX5_restore, Cond.instanceMethod yX5_restore, Cond.selects RX5 yX5_restore yX5_restore, Cond.code yX5_restore cX5_restore 1 (some .int), Cond.methodLink RL 61 yX6_restore, Cond.instanceMethod yX6_restore, Cond.selects RX6 yX6_restore yX6_restore, Cond.code yX6_restore cX6_restore 1 (some .int), Cond.methodLink RL 62 yX5_join, Cond.instanceMethod yX5_join, Cond.selects RX5 yX5_join yX5_join, Cond.code yX5_join cX5_join 4 (some .int), Cond.methodLink RX5 154 yX1_canTell, Cond.static yX1_canTell, Cond.code yX1_canTell cX1_canTell 1 (some .boolean), Cond.methodLink RX5 157 yX1_tell, Cond.instanceMethod yX1_tell, Cond.selects RX1 yX1_tell yX1_tell, Cond.code yX1_tell cX1_tell 2 (some .int), Cond.methodLink RX1 75 yX1_spills, Cond.instanceMethod yX1_spills, Cond.selects RX1 yX1_spills yX1_spills, Cond.code yX1_spills cX1_spills 1 (some .boolean)]
def wsL_law_r27 : List Cond := [Cond.methodLink RX1 59 yX3_spillsWith, Cond.instanceMethod yX3_spillsWith, Cond.selects RX3 yX3_spillsWith yX3_spillsWith, Cond.code yX3_spillsWith cX3_spillsWith 2 (some .boolean), Cond.methodLink RL 65 yX6_join, Cond.instanceMethod yX6_join, Cond.selects RX6 yX6_join yX6_join, Cond.code yX6_join cX6_join 3 (some .int), Cond.methodLink RX6 186 yX6_spills, Cond.instanceMethod yX6_spills, Cond.selects RX6 yX6_spills yX6_spills, Cond.code yX6_spills cX6_spills 2 (some .boolean), Cond.methodLink RL 66 yX5_why, Cond.instanceMethod yX5_why, Cond.selects RX5 yX5_why yX5_why, Cond.code yX5_why cX5_why 3 (some .int), Cond.methodLink RX5 160 yX4_hindrance, Cond.instanceMethod yX4_hindrance, Cond.selects RX4 yX4_hindrance yX4_hindrance, Cond.code yX4_hindrance cX4_hindrance 2 (some .int), Cond.methodLink RX4 118 yX4_rankOf, Cond.instanceMethod yX4_rankOf, Cond.selects RX4 yX4_rankOf yX4_rankOf, Cond.code yX4_rankOf cX4_rankOf 7 (some .int)]
def wsL_law_r28 : List Cond := [Cond.methodLink RL 69 yX6_why, Cond.instanceMethod yX6_why, Cond.selects RX6 yX6_why yX6_why, Cond.code yX6_why cX6_why 2 (some .int), Cond.methodLink RL 70 yX5_queue, Cond.instanceMethod yX5_queue, Cond.selects RX5 yX5_queue yX5_queue, Cond.code yX5_queue cX5_queue 3 (some .int), Cond.methodLink RX5 164 yX4_atRank, Cond.instanceMethod yX4_atRank, Cond.selects RX4 yX4_atRank yX4_atRank, Cond.code yX4_atRank cX4_atRank 6 (some (.object "JoinGrants$Join")), Cond.methodLink RX5 167 yX1_number, Cond.methodLink RL 73 yX6_queue, Cond.instanceMethod yX6_queue, Cond.selects RX6 yX6_queue yX6_queue, Cond.code yX6_queue cX6_queue 2 (some .int), Cond.methodLink RL 74 yX5_work, Cond.instanceMethod yX5_work, Cond.selects RX5 yX5_work yX5_work, Cond.code yX5_work cX5_work 5 (some .int), Cond.methodLink RX5 170 yX5_isPages, Cond.static yX5_isPages, Cond.code yX5_isPages cX5_isPages 1 (some .boolean)]
def wsL_law_r29 : List Cond := [Cond.methodLink RX5 173 yX3_make, Cond.methodLink RX5 181 yX3_workWith, Cond.methodLink RL 78 yX6_work, Cond.instanceMethod yX6_work, Cond.selects RX6 yX6_work yX6_work, Cond.code yX6_work cX6_work 5 (some .int), Cond.constantLong RX6 189 (3), Cond.methodLink RL 79 yX5_bestWay, Cond.instanceMethod yX5_bestWay, Cond.selects RX5 yX5_bestWay yX5_bestWay, Cond.code yX5_bestWay cX5_bestWay 7 (some .int), Cond.methodLink RL 82 yX6_bestWay, Cond.instanceMethod yX6_bestWay, Cond.selects RX6 yX6_bestWay yX6_bestWay, Cond.code yX6_bestWay cX6_bestWay 7 (some .int), Cond.methodLink RL 83 yX5_doneIn, Cond.instanceMethod yX5_doneIn, Cond.selects RX5 yX5_doneIn yX5_doneIn, Cond.code yX5_doneIn cX5_doneIn 4 (some .int), Cond.methodLink RL 86 yX6_doneIn, Cond.instanceMethod yX6_doneIn, Cond.selects RX6 yX6_doneIn yX6_doneIn, Cond.code yX6_doneIn cX6_doneIn 4 (some .int), Cond.methodLink RL 87 yX5_count]
def wsL_law_r30 : List Cond := [Cond.instanceMethod yX5_count, Cond.selects RX5 yX5_count yX5_count, Cond.code yX5_count cX5_count 2 (some .int), Cond.methodLink RX5 184 yX4_canTell, Cond.static yX4_canTell, Cond.code yX4_canTell cX4_canTell 1 (some .boolean), Cond.methodLink RX5 185 yX4_tell, Cond.instanceMethod yX4_tell, Cond.selects RX4 yX4_tell yX4_tell, Cond.code yX4_tell cX4_tell 2 (some .int), Cond.methodLink RX4 147 yX4_joinsIn, Cond.methodLink RX4 150 yX4_spilling, Cond.instanceMethod yX4_spilling, Cond.selects RX4 yX4_spilling yX4_spilling, Cond.code yX4_spilling cX4_spilling 6 (some .int), Cond.methodLink RX4 144 yX1_spills, Cond.methodLink RL 90 yX6_count, Cond.instanceMethod yX6_count, Cond.selects RX6 yX6_count yX6_count, Cond.code yX6_count cX6_count 2 (some .int), Cond.constantLong RX6 191 (4), Cond.constantLong RX6 196 (7), Cond.constantLong RX6 198 (10), Cond.constantLong RX6 200 (12)]
def wsL_law_r31 : List Cond := [Cond.constantLong RX6 202 (15), Cond.methodLink RX6 193 yX6_manyWith, Cond.instanceMethod yX6_manyWith, Cond.selects RX6 yX6_manyWith yX6_manyWith, Cond.code yX6_manyWith cX6_manyWith 4 (some .int), Cond.methodLink RX6 204 yX6_spilling, Cond.instanceMethod yX6_spilling, Cond.selects RX6 yX6_spilling yX6_spilling, Cond.code yX6_spilling cX6_spilling 3 (some .int), Cond.methodLink RL 91 yX5_spare, Cond.instanceMethod yX5_spare, Cond.selects RX5 yX5_spare yX5_spare, Cond.code yX5_spare cX5_spare 1 (some .int), Cond.methodLink RX5 186 yX4_surplus, Cond.methodLink RL 94 yX6_spare, Cond.instanceMethod yX6_spare, Cond.selects RX6 yX6_spare yX6_spare, Cond.code yX6_spare cX6_spare 1 (some .int)]
def wsL_law : List Cond := (wsL_law_r1 ++ (wsL_law_r2 ++ (wsL_law_r3 ++ (wsL_law_r4 ++ (wsL_law_r5 ++ (wsL_law_r6 ++ (wsL_law_r7 ++ (wsL_law_r8 ++ (wsL_law_r9 ++ (wsL_law_r10 ++ (wsL_law_r11 ++ (wsL_law_r12 ++ (wsL_law_r13 ++ (wsL_law_r14 ++ (wsL_law_r15 ++ (wsL_law_r16 ++ (wsL_law_r17 ++ (wsL_law_r18 ++ (wsL_law_r19 ++ (wsL_law_r20 ++ (wsL_law_r21 ++ (wsL_law_r22 ++ (wsL_law_r23 ++ (wsL_law_r24 ++ (wsL_law_r25 ++ (wsL_law_r26 ++ (wsL_law_r27 ++ (wsL_law_r28 ++ (wsL_law_r29 ++ (wsL_law_r30 ++ wsL_law_r31)))))))))))))))))))))))))))))) ++ wsX50 ++ wsX60 ++ wsX40 ++ wsX00 ++ wsX20 ++ wsX30 ++ wsX10 ++ ([] : List Cond)
abbrev vwCl : List vw_C := [(RX0, TX0, 2), (RX1, TX1, 8), (RX2, TX2, 10), (RX3, TX3, 5), (RX4, TX4, 7), (RX5, TX5, 7), (RX6, TX6, 13)]
end
section
theorem dJ9_max_7cf53_0 : decode cJ9_max_7cf53 0 = .ok (.iload_n 0, 1) := by decide +kernel
theorem dJ9_max_7cf53_1 : decode cJ9_max_7cf53 1 = .ok (.iload_n 1, 1) := by decide +kernel
theorem dJ9_max_7cf53_2 : decode cJ9_max_7cf53 2 = .ok (.if_icmp .lt 7, 3) := by decide +kernel
theorem dJ9_max_7cf53_5 : decode cJ9_max_7cf53 5 = .ok (.iload_n 0, 1) := by decide +kernel
theorem dJ9_max_7cf53_6 : decode cJ9_max_7cf53 6 = .ok (.goto 4, 3) := by decide +kernel
theorem dJ9_max_7cf53_9 : decode cJ9_max_7cf53 9 = .ok (.iload_n 1, 1) := by decide +kernel
theorem dJ9_max_7cf53_10 : decode cJ9_max_7cf53 10 = .ok (.ireturn, 1) := by decide +kernel
theorem dJ9_min_7cf53_0 : decode cJ9_min_7cf53 0 = .ok (.iload_n 0, 1) := by decide +kernel
theorem dJ9_min_7cf53_1 : decode cJ9_min_7cf53 1 = .ok (.iload_n 1, 1) := by decide +kernel
theorem dJ9_min_7cf53_2 : decode cJ9_min_7cf53 2 = .ok (.if_icmp .gt 7, 3) := by decide +kernel
theorem dJ9_min_7cf53_5 : decode cJ9_min_7cf53 5 = .ok (.iload_n 0, 1) := by decide +kernel
theorem dJ9_min_7cf53_6 : decode cJ9_min_7cf53 6 = .ok (.goto 4, 3) := by decide +kernel
theorem dJ9_min_7cf53_9 : decode cJ9_min_7cf53 9 = .ok (.iload_n 1, 1) := by decide +kernel
theorem dJ9_min_7cf53_10 : decode cJ9_min_7cf53 10 = .ok (.ireturn, 1) := by decide +kernel
end
section
/-! ===== my own base: worlds up to their order, contracts in one form, calls in one row ===== -/
theorem xP_iff {D : va_G} {cl : List vw_C} {ws : va_W} {H : Heap} : va_P D cl ws H ↔ ∀ q ∈ ws, va_at D cl q H := by
  constructor
  · intro h q hq
    obtain ⟨i, hi⟩ := List.getElem?_of_mem hq
    exact h i q hi
  · intro h k q hk
    exact h q (List.mem_of_getElem? hk)
theorem xD_iff {A : Nat → Prop} {ws : va_W} : va_D A ws ↔ ws.Pairwise (fun p q => p.1 ≠ q.1) ∧ ∀ q ∈ ws, A q.1 := by
  constructor
  · intro h
    refine ⟨List.pairwise_iff_getElem.mpr ?_, ?_⟩
    · intro i j hi hj hij e
      have := h.1 i j ws[i] ws[j] (List.getElem?_eq_getElem hi) (List.getElem?_eq_getElem hj) e
      omega
    · intro q hq
      obtain ⟨i, hi⟩ := List.getElem?_of_mem hq
      exact h.2 i q hi
  · intro h
    have hp := List.pairwise_iff_getElem.mp h.1
    refine ⟨?_, fun k q hk => h.2 q (List.mem_of_getElem? hk)⟩
    intro i j p q hi hj e
    obtain ⟨li, rfl⟩ := List.getElem?_eq_some_iff.mp hi
    obtain ⟨lj, rfl⟩ := List.getElem?_eq_some_iff.mp hj
    rcases Nat.lt_trichotomy i j with h1 | h1 | h1
    · exact absurd e (hp i j li lj h1)
    · exact h1
    · exact absurd e.symm (hp j i lj li h1)
theorem xP_perm {D : va_G} {cl : List vw_C} {ws ws' : va_W} {H : Heap} (h : ws.Perm ws') (hP : va_P D cl ws H) : va_P D cl ws' H :=
  xP_iff.mpr fun q hq => xP_iff.mp hP q (h.mem_iff.mpr hq)
theorem xD_perm {A : Nat → Prop} {ws ws' : va_W} (h : ws.Perm ws') (hD : va_D A ws) : va_D A ws' := by
  have h1 := xD_iff.mp hD
  exact xD_iff.mpr ⟨(h.pairwise_iff (fun e z => e z.symm)).mp h1.1, fun q hq => h1.2 q (h.mem_iff.mpr hq)⟩
theorem xA_mem {ws : va_W} {sz q : Nat} : va_A ws sz q ↔ (∃ e, (q, e) ∈ ws) ∨ sz ≤ q := by
  constructor
  · rintro (⟨k, e, h⟩ | h)
    · exact Or.inl ⟨e, List.mem_of_getElem? h⟩
    · exact Or.inr h
  · rintro (⟨e, h⟩ | h)
    · obtain ⟨i, hi⟩ := List.getElem?_of_mem h
      exact Or.inl ⟨i, e, hi⟩
    · exact Or.inr h
/-- what a callee may change is the caller's to change -/
theorem xfree {A0 : Nat → Prop} {ws wc wr : va_W} {H0 H : Heap} {locs : List Loc} (hD : va_D A0 ws) (hS : va_S A0 H0 H locs) (hA : ∀ q, H0.size ≤ q → A0 q) (hp : ws.Perm (wc ++ wr)) : ∀ q, va_A wc H.size q → A0 q := by
  intro q h
  rcases xA_mem.mp h with ⟨e, h⟩ | h
  · exact (xD_iff.mp hD).2 (q, e) (hp.mem_iff.mpr (List.mem_append_left _ h))
  · exact hA q (Nat.le_trans hS.1 h)
/-- behind a call: the callee's cells as it left them, the caller's others as they were -/
theorem xjoin {A0 : Nat → Prop} {D : va_G} {cl : List vw_C} {ws wc wr w1 ws' : va_W} {H H1 : Heap} (hP : va_P D cl ws H) (hD : va_D A0 ws) (hp : ws.Perm (wc ++ wr))
    (hk : ∀ q : Nat, q < H.size → ¬ va_A wc H.size q → H1[q]? = H[q]?) (hF : ∀ q, va_A wc H.size q → A0 q) (hP1 : va_P D cl w1 H1) (hD1 : va_D (va_A wc H.size) w1) (hp' : (w1 ++ wr).Perm ws') : va_P D cl ws' H1 ∧ va_D A0 ws' := by
  have hP2 := xP_iff.mp (xP_perm hp hP)
  have hD2 := xD_iff.mp (xD_perm hp hD)
  have hpw := List.pairwise_append.mp hD2.1
  have hD1' := xD_iff.mp hD1
  have apart : ∀ q ∈ wr, q.1 < H.size ∧ ¬ va_A wc H.size q.1 := by
    intro q hq
    have hl := (hP2 q (List.mem_append_right _ hq)).lt
    refine ⟨hl, fun h => ?_⟩
    rcases xA_mem.mp h with ⟨e, h⟩ | h
    · exact hpw.2.2 (q.1, e) h q hq rfl
    · omega
  refine ⟨xP_perm hp' (xP_iff.mpr fun q hq => ?_), xD_perm hp' (xD_iff.mpr ⟨List.pairwise_append.mpr ⟨hD1'.1, hpw.2.1, fun a ha b hb e => ?_⟩, fun q hq => ?_⟩)⟩
  · rcases List.mem_append.mp hq with h | h
    · exact xP_iff.mp hP1 q h
    · obtain ⟨g1, g2⟩ := apart q h
      exact (hP2 q (List.mem_append_right _ h)).kept (hk q.1 g1 g2)
  · exact (apart b hb).2 (by rw [← e]; exact hD1'.2 a ha)
  · rcases List.mem_append.mp hq with h | h
    · exact hF _ (hD1'.2 q h)
    · exact hD2.2 q (List.mem_append_right _ h)
/-- the links between nest mates -/
def xN (U : State) : Prop := va_Nw (.methodLinkNest RX5 25 yX2_init RX5) U ∧ va_Nw (.methodLinkNest RX5 38 yX3_init RX5) U ∧ va_Nw (.methodLinkNest RX1 9 yX3_init RX5) U ∧
  (va_Nw (.fieldLinkNest RX1 56 RX3 "need" "I" RX5) U ∧ va_Nw (.fieldLinkNest RX1 63 RX3 "way" "I" RX5) U ∧ va_Nw (.fieldLinkNest RX1 66 RX3 "want" "I" RX5) U ∧ va_Nw (.fieldLinkNest RX1 69 RX3 "left" "I" RX5) U ∧ va_Nw (.fieldLinkNest RX1 72 RX3 "right" "I" RX5) U ∧ va_Nw (.fieldLinkNest RX5 177 RX3 "need" "I" RX5) U)
theorem xN.calling {U : State} (g : JFrame) (mk : MethodId) (a : Array Value) (h : xN U) : xN (U.calling g mk a) := by
  obtain ⟨a1, a2, a3, b1, b2, b3, b4, b5, b6⟩ := h
  exact ⟨va_Nw.same (u := U) rfl rfl a1, va_Nw.same (u := U) rfl rfl a2, va_Nw.same (u := U) rfl rfl a3, va_Nw.same (u := U) rfl rfl b1, va_Nw.same (u := U) rfl rfl b2, va_Nw.same (u := U) rfl rfl b3, va_Nw.same (u := U) rfl rfl b4, va_Nw.same (u := U) rfl rfl b5, va_Nw.same (u := U) rfl rfl b6⟩
theorem xN.warm {s U : State} (hW : s.WarmedH U.vm) (h : xN s) : xN U := by
  obtain ⟨a1, a2, a3, b1, b2, b3, b4, b5, b6⟩ := h
  exact ⟨va_Nw.warmM hW a1, va_Nw.warmM hW a2, va_Nw.warmM hW a3, va_Nw.warmF hW b1, va_Nw.warmF hW b2, va_Nw.warmF hW b3, va_Nw.warmF hW b4, va_Nw.warmF hW b5, va_Nw.warmF hW b6⟩
/-- the arrays' classes: int, char, Join, Pool -/
abbrev xT (k : Nat → ClassId) : List (ClassId × FieldType) := [(k 0, .int), (k 1, .char), (k 2, .object RX1), (k 3, .object RX4)]
/-- a contract's start and end: a world before, a world behind -/
def xPre (D : va_G) (k : Nat → ClassId) (w : va_W) (sz : Nat) (U : State) : Prop := U.heap.size = sz ∧ va_P D vwCl w U.heap ∧ va_K D vwCl (xT k) U ∧ va_D (fun _ => True) w ∧ xN U
def xPost (D : va_G) (w w' : va_W) (sz : Nat) (t : State) : Prop := va_P D vwCl w' t.heap ∧ va_D (va_A w sz) w'
abbrev xQi (D : va_G) (w w' : va_W) (Rv : Int32) (sz : Nat) : Array Value → State → Outcome → State → Prop := va_Qi (fun r (_ : Unit) => r = Rv) (fun _ t => xPost D w w' sz t) (va_A w sz)
abbrev xQv (D : va_G) (w w' : va_W) (sz : Nat) : Array Value → State → Outcome → State → Prop := va_Qv (fun (_ : Unit) => True) (fun _ t => xPost D w w' sz t) (va_A w sz)
abbrev xQq (D : va_G) (w w' : va_W) (Rv : Option Nat) (sz : Nat) : Array Value → State → Outcome → State → Prop := va_Qq (fun r (_ : Unit) => r = Rv) (fun _ t => xPost D w w' sz t) (va_A w sz)
abbrev xMi (l : Launch) (y : MethodName) (ws : List Cond) (rm : Room) (D : va_G) (k : Nat → ClassId) (vs : List Value) (w w' : va_W) (Rv : Int32) (mc ms : Nat) : Prop := ∀ sz, Met l y ws rm (va_Pc vs (xPre D k w sz)) (xQi D w w' Rv sz) mc ms (va_A w sz)
abbrev xMv (l : Launch) (y : MethodName) (ws : List Cond) (rm : Room) (D : va_G) (k : Nat → ClassId) (vs : List Value) (w w' : va_W) (mc ms : Nat) : Prop := ∀ sz, Met l y ws rm (va_Pc vs (xPre D k w sz)) (xQv D w w' sz) mc ms (va_A w sz)
abbrev xMq (l : Launch) (y : MethodName) (ws : List Cond) (rm : Room) (D : va_G) (k : Nat → ClassId) (vs : List Value) (w w' : va_W) (Rv : Option Nat) (mc ms : Nat) : Prop := ∀ sz, Met l y ws rm (va_Pc vs (xPre D k w sz)) (xQq D w w' Rv sz) mc ms (va_A w sz)
theorem xblind {D : va_G} {k : Nat → ClassId} {w : va_W} {sz : Nat} {vs : List Value} : FrameBlind (va_Pc vs (xPre D k w sz)) := by
  intro a U g mk q
  obtain ⟨q0, q1, q2, q3, q4, q5⟩ := q
  exact ⟨q0, q1, q2, va_K.moved (u := U) (U := U.calling g mk a) (Vm.Alike.refl U.vm) q3, q4, q5.calling g mk a⟩
theorem xpreS {s : State} {H : Heap} {D : va_G} {k : Nat → ClassId} {A0 : Nat → Prop} {ws wc wr : va_W} {As : List Value} (hN : xN s) (hK : va_K D vwCl (xT k) s) (hP : va_P D vwCl ws H) (hD : va_D A0 ws) (hp : ws.Perm (wc ++ wr)) : PreS s H (va_Pc As (xPre D k wc H.size)) As := by
  have hPc : va_P D vwCl wc H := xP_iff.mpr fun q hq => xP_iff.mp (xP_perm hp hP) q (List.mem_append_left _ hq)
  have hDc : va_D (fun _ => True) wc := xD_iff.mpr ⟨(List.pairwise_append.mp (xD_iff.mp (xD_perm hp hD)).1).1, fun _ _ => trivial⟩
  exact ⟨xblind, fun U hU hW => ⟨rfl, by rw [hU], by rw [hU]; exact hPc, va_K.moved hW.alike hK, hDc, hN.warm hW⟩⟩
theorem xpreV {s : State} {H : Heap} {D : va_G} {k : Nat → ClassId} {A0 : Nat → Prop} {ws wc wr : va_W} {As : List Value} {C : String} {b ci : Nat} {fs : List Value} {q : vw_C} (hN : xN s) (hK : va_K D vwCl (xT k) s) (hP : va_P D vwCl ws H) (hD : va_D A0 ws) (hp : ws.Perm (wc ++ wr))
    (k0 : Nat) (he : wc[k0]? = some (b, .inr (ci, fs))) (hc : vwCl[ci]? = some q) (hq : q.1 = C) : PreV s H C b (va_Pc (.ref b :: As) (xPre D k wc H.size)) As := by
  have hPc : va_P D vwCl wc H := xP_iff.mpr fun q hq => xP_iff.mp (xP_perm hp hP) q (List.mem_append_left _ hq)
  have h := xpreS (As := .ref b :: As) hN hK hP hD hp
  subst hq
  exact ⟨h.1, va_recv hK hPc hc he, h.2⟩
section XB
variable {p : Program} {l : Launch} {e : Env} {R : Room} {s : State} {m : MethodId} {args : Array Value} {below : List Frame} {meth : Method} {c : Code} {H : Heap} {locs : List Loc} {cells slots mc ms : Nat} {Q : State → Prop}
variable {cc : ByteArray} {pc : Nat} {ls : Array Slot} {st0 rest : List Value} {a : Array Value} {D : va_G} {A0 : Nat → Prop} {ws wc wr wc' ws' w w' : va_W}
theorem xreti {Rv : Int32} (hr : va_Run p l e R s m args below meth c H locs cells slots mc ms (F0 m pc ls st0) rest (xQi D wc wc' Rv H.size a) (va_A wc H.size)) (hP : va_P D vwCl ws H) (hD : va_D A0 ws) (hS : va_S A0 s.heap H locs) (hA : ∀ q, s.heap.size ≤ q → A0 q)
    (hp : ws.Perm (wc ++ wr)) (hp' : (wc' ++ wr).Perm ws') (kk : ∀ (H1 : Heap) (locs1 : List Loc), va_P D vwCl ws' H1 → va_D A0 ws' → va_S A0 s.heap H1 locs1 → W p l e R s m args below meth c H1 locs1 (cells + mc) (slots + ms) Q (F0 m (pc + 3) ls (.int Rv :: rest))) : W p l e R s m args below meth c H locs cells slots Q (F0 m pc ls st0) := by
  have hF := xfree hD hS hA hp
  refine va_calli hr hS (fun q _ h => hF q h) hF (fun r u t H1 locs1 ht _ hw hB _ hk1 hS1 => ?_)
  subst hw
  subst ht
  obtain ⟨h1, h2⟩ := xjoin hP hD hp hk1 hF hB.1 hB.2 hp'
  exact kk _ locs1 h1 h2 hS1
theorem xretv (hr : va_Run p l e R s m args below meth c H locs cells slots mc ms (F0 m pc ls st0) rest (xQv D wc wc' H.size a) (va_A wc H.size)) (hP : va_P D vwCl ws H) (hD : va_D A0 ws) (hS : va_S A0 s.heap H locs) (hA : ∀ q, s.heap.size ≤ q → A0 q)
    (hp : ws.Perm (wc ++ wr)) (hp' : (wc' ++ wr).Perm ws') (kk : ∀ (H1 : Heap) (locs1 : List Loc), va_P D vwCl ws' H1 → va_D A0 ws' → va_S A0 s.heap H1 locs1 → W p l e R s m args below meth c H1 locs1 (cells + mc) (slots + ms) Q (F0 m (pc + 3) ls rest)) : W p l e R s m args below meth c H locs cells slots Q (F0 m pc ls st0) := by
  have hF := xfree hD hS hA hp
  refine va_callv hr hS (fun q _ h => hF q h) hF (fun u t H1 locs1 ht _ hw hB _ hk1 hS1 => ?_)
  subst ht
  obtain ⟨h1, h2⟩ := xjoin hP hD hp hk1 hF hB.1 hB.2 hp'
  exact kk _ locs1 h1 h2 hS1
theorem xretq {Rv : Option Nat} (hr : va_Run p l e R s m args below meth c H locs cells slots mc ms (F0 m pc ls st0) rest (xQq D wc wc' Rv H.size a) (va_A wc H.size)) (hP : va_P D vwCl ws H) (hD : va_D A0 ws) (hS : va_S A0 s.heap H locs) (hA : ∀ q, s.heap.size ≤ q → A0 q)
    (hp : ws.Perm (wc ++ wr)) (hp' : (wc' ++ wr).Perm ws') (kk : ∀ (H1 : Heap) (locs1 : List Loc), va_P D vwCl ws' H1 → va_D A0 ws' → va_S A0 s.heap H1 locs1 → W p l e R s m args below meth c H1 locs1 (cells + mc) (slots + ms) Q (F0 m (pc + 3) ls (va_rf Rv :: rest))) : W p l e R s m args below meth c H locs cells slots Q (F0 m pc ls st0) := by
  have hF := xfree hD hS hA hp
  refine va_callq hr hS (fun q _ h => hF q h) hF (fun r u t H1 locs1 ht _ hw hB _ hk1 hS1 => ?_)
  subst hw
  subst ht
  obtain ⟨h1, h2⟩ := xjoin hP hD hp hk1 hF hB.1 hB.2 hp'
  exact kk _ locs1 h1 h2 hS1
theorem xiret {v Rv : Int32} (hx : p.tables.exec = Jvm.exec) (hb : c.code = cc) (hr : meth.sig.returnType = some .int) (hlocks : meth.locks = false) (hP : va_P D vwCl ws H) (hD : va_D (va_A w s.heap.size) ws) (hS : va_S (va_A w s.heap.size) s.heap H locs) (hv : v = Rv) (hw : ws = w')
    (hdg : decode cc pc = .ok (.ireturn, 1)) : W p l e R s m args below meth c H locs cells slots (MQ below (xQi D w w' Rv s.heap.size) args s cells slots (va_A w s.heap.size)) (F0 m pc ls [.int v]) := by
  subst hv; subst hw
  exact W.iret hx hb hr (fun t ht hW => ⟨⟨_, (), rfl, rfl, by rw [ht]; exact hP, hD⟩, hS.F ht⟩) hS.2.2 hdg hlocks
theorem xnarrow {v : Int32} (h : v = 0 ∨ v = 1) : narrow .boolean (.int v) = .int v := by
  rcases h with rfl | rfl <;> rfl
theorem xzret {v Rv : Int32} (hx : p.tables.exec = Jvm.exec) (hb : c.code = cc) (hr : meth.sig.returnType = some .boolean) (hlocks : meth.locks = false) (hP : va_P D vwCl ws H) (hD : va_D (va_A w s.heap.size) ws) (hS : va_S (va_A w s.heap.size) s.heap H locs) (h01 : v = 0 ∨ v = 1) (hv : v = Rv) (hw : ws = w')
    (hdg : decode cc pc = .ok (.ireturn, 1)) : W p l e R s m args below meth c H locs cells slots (MQ below (xQi D w w' Rv s.heap.size) args s cells slots (va_A w s.heap.size)) (F0 m pc ls [.int v]) := by
  subst hv; subst hw
  exact W.zret hx hb hr (xnarrow h01) (fun t ht hW => ⟨⟨_, (), rfl, rfl, by rw [ht]; exact hP, hD⟩, hS.F ht⟩) hS.2.2 hdg hlocks
theorem xvret (hx : p.tables.exec = Jvm.exec) (hb : c.code = cc) (hr : meth.sig.returnType = none) (hlocks : meth.locks = false) (hP : va_P D vwCl ws H) (hD : va_D (va_A w s.heap.size) ws) (hS : va_S (va_A w s.heap.size) s.heap H locs) (hw : ws = w')
    (hdg : decode cc pc = .ok (.return_, 1)) : W p l e R s m args below meth c H locs cells slots (MQ below (xQv D w w' s.heap.size) args s cells slots (va_A w s.heap.size)) (F0 m pc ls []) := by
  subst hw
  exact W.vret hx hb hr (fun t ht hW => ⟨⟨(), rfl, trivial, by rw [ht]; exact hP, hD⟩, hS.F ht⟩) hS.2.2 hdg hlocks
theorem xqret {v Rv : Option Nat} {n : String} (hx : p.tables.exec = Jvm.exec) (hb : c.code = cc) (hr : meth.sig.returnType = some (.object n)) (hlocks : meth.locks = false) (hP : va_P D vwCl ws H) (hD : va_D (va_A w s.heap.size) ws) (hS : va_S (va_A w s.heap.size) s.heap H locs) (hv : v = Rv) (hw : ws = w')
    (hdg : decode cc pc = .ok (.areturn, 1)) : W p l e R s m args below meth c H locs cells slots (MQ below (xQq D w w' Rv s.heap.size) args s cells slots (va_A w s.heap.size)) (F0 m pc ls [va_rf v]) := by
  subst hv; subst hw
  exact W.aret hx hb hr (Or.inl ⟨n, rfl⟩) (by cases v with | none => exact Or.inl rfl | some a => exact Or.inr ⟨a, rfl⟩) (fun t ht hW => ⟨⟨_, (), rfl, rfl, by rw [ht]; exact hP, hD⟩, hS.F ht⟩) hS.2.2 hdg hlocks
end XB
/-- a contract out of the walk of its body -/
theorem xMet {l : Launch} {y : MethodName} {ws ws0 : List Cond} {rm : Room} {cc : ByteArray} {maxL : Nat} {ret : Option FieldType} {D : va_G} {k : Nat → ClassId} {w : va_W} {mc ms : Nat} {vs : List Value} {Qc : Nat → Array Value → State → Outcome → State → Prop}
    (hy : plainName y.cls = true) (hw : ws = Cond.code y cc maxL ret :: ws0) (hvs : (lg_sl vs).length ≤ maxL)
    (body : ∀ (p : Program) (e : Env) (s : State) (m : MethodId) (below : List Frame) (meth : Method) (c : Code), p.tables.exec = Jvm.exec → c.code = cc → meth.sig.returnType = ret → c.maxLocals = maxL → s.vm.findClass y.cls = some m.cls → (∀ w ∈ ws, w.before vs.toArray s = true) → meth.locks = false → meth.name = y.name →
      xN s → va_K D vwCl (xT k) s → va_P D vwCl w s.heap → va_D (va_A w s.heap.size) w → ∀ ls : Array Slot, lv_has ls maxL (lv_args 0 vs) →
      W p l e rm s m vs.toArray below meth c s.heap [] 0 0 (MQ below (Qc s.heap.size) vs.toArray s mc ms (va_A w s.heap.size)) (F0 m 0 ls [])) : ∀ sz, Met l y ws rm (va_Pc vs (xPre D k w sz)) (Qc sz) mc ms (va_A w sz) := by
  intro sz
  refine Met.ofW (cc := cc) (maxL := maxL) (ret := ret) hy hw ?_
  intro p e s m args below meth c s₁ B hml hv
  obtain ⟨rfl, hsz, hP, hK, hD0, hN⟩ := hv
  subst hsz
  have hl := lv_entry vs (n := maxL) hvs
  rw [lg_entry_eq]
  exact body p e s m below meth c B.exec B.bytes B.returns hml (findClass_of_methodNamed B.named) (atoms_spec (ws := ws) B.pre) B.notSynchronized (name_of_methodNamed B.named B.method).1 hN hK hP hD0.self _ hl
/-! ===== families of blocks ===== -/
def famW (n : Nat) (g : Nat → va_W) : va_W := (List.range n).flatMap g
def famX (n : Nat) (g : Nat → va_W) (j : Nat) : va_W := ((List.range n).filter (fun i => decide (i ≠ j))).flatMap g
theorem fam_perm {n j : Nat} {g : Nat → va_W} (hj : j < n) : (famW n g).Perm (g j ++ famX n g j) := by
  have key : ∀ l : List Nat, l.Nodup → j ∈ l → (l.flatMap g).Perm (g j ++ (l.filter (fun i => decide (i ≠ j))).flatMap g) := by
    intro l
    induction l with
    | nil => intro _ h; cases h
    | cons a t ih =>
      intro hn hm
      have hn' := List.nodup_cons.mp hn
      by_cases ha : a = j
      · subst ha
        have hf : (t.filter (fun i => decide (i ≠ a))) = t := List.filter_eq_self.mpr fun x hx => by
          have : x ≠ a := fun e => hn'.1 (e ▸ hx)
          simpa using this
        rw [List.flatMap_cons, List.filter_cons_of_neg (by simp), hf]
      · have hm' : j ∈ t := (List.mem_cons.mp hm).resolve_left (fun e => ha e.symm)
        rw [List.flatMap_cons, List.filter_cons_of_pos (by simpa using ha), List.flatMap_cons]
        have h1 := ih hn'.2 hm'
        refine (List.Perm.append_left (g a) h1).trans ?_
        rw [← List.append_assoc, ← List.append_assoc]
        exact List.Perm.append_right _ List.perm_append_comm
  exact key _ List.nodup_range (List.mem_range.mpr hj)
theorem famX_congr {n j : Nat} {g g' : Nat → va_W} (h : ∀ i, i < n → i ≠ j → g i = g' i) : famX n g j = famX n g' j := by
  unfold famX
  have : ∀ l : List Nat, (∀ i ∈ l, i < n ∧ i ≠ j) → l.flatMap g = l.flatMap g' := by
    intro l
    induction l with
    | nil => intro _; rfl
    | cons a t ih =>
      intro hl
      rw [List.flatMap_cons, List.flatMap_cons, h a (hl a List.mem_cons_self).1 (hl a List.mem_cons_self).2, ih (fun i hi => hl i (List.mem_cons_of_mem _ hi))]
  refine this _ (fun i hi => ?_)
  have := List.mem_filter.mp hi
  exact ⟨List.mem_range.mp this.1, by simpa using this.2⟩
/-- one block taken out of a family behind a head, and put back changed -/
theorem fam_out {n j : Nat} {g : Nat → va_W} {hd : va_W} (hj : j < n) : (hd ++ famW n g).Perm (g j ++ (hd ++ famX n g j)) := by
  refine (List.Perm.append_left hd (fam_perm hj)).trans ?_
  rw [← List.append_assoc, ← List.append_assoc]
  exact List.Perm.append_right _ List.perm_append_comm
theorem fam_in {n j : Nat} {g g' : Nat → va_W} {hd : va_W} (hj : j < n) (h : ∀ i, i < n → i ≠ j → g i = g' i) : (g' j ++ (hd ++ famX n g j)).Perm (hd ++ famW n g') := by
  rw [famX_congr h]
  exact (fam_out hj).symm
theorem pm_all {ws : va_W} : ws.Perm (ws ++ []) := by rw [List.append_nil]
theorem pm_all' {ws : va_W} : (ws ++ []).Perm ws := by rw [List.append_nil]
theorem pm_none {ws : va_W} : ws.Perm ([] ++ ws) := List.Perm.refl _
theorem pm_2nd {x y : Nat × va_E} : [x, y].Perm ([y] ++ [x]) := List.Perm.swap y x []
theorem pm_2nd' {x y : Nat × va_E} : ([y] ++ [x]).Perm [x, y] := List.Perm.swap x y []
end
section
/-! ===== what a state is: rows of numbers, and the cells that hold them ===== -/
/-- a plan: way, left, right, need, want -/
def pW (q : Nat) (p : Nat → Int32) : va_W := [(q, .inr (3, [.int (p 0), .int (p 1), .int (p 2), .int (p 3), .int (p 4)]))]
/-- a join's own row: state, pages, workLeft, stepsWaited, stepsWorked, givenBack; its plan's follows -/
def jH (h q : Nat) (n : Int32) (v : Nat → Int32) : Nat × va_E := (h, .inr (1, [.int n, .ref q, .int (v 0), .int (v 1), .int (v 2), .int (v 3), .int (v 4), .int (v 5)]))
abbrev tl6 (v : Nat → Int32) : Nat → Int32 := fun k => v (6 + k)
abbrev hd6 (v p : Nat → Int32) : Nat → Int32 := fun k => if k < 6 then v k else p (k - 6)
def jW (h q : Nat) (n : Int32) (v : Nat → Int32) : va_W := [jH h q n v, (q, .inr (3, [.int (v 6), .int (v 7), .int (v 8), .int (v 9), .int (v 10)]))]
theorem pm_jp {h q : Nat} {n : Int32} {v : Nat → Int32} : (jW h q n v).Perm (pW q (tl6 v) ++ [jH h q n v]) := pm_2nd
theorem pm_jp' {h q : Nat} {n : Int32} {v p : Nat → Int32} : (pW q p ++ [jH h q n v]).Perm (jW h q n (hd6 v p)) := pm_2nd'
/-- a pool: settings; joinsSoFar, mostGranted, steps, workDone, askedBack; the joins' rows -/
abbrev PS : Type := (Nat → Int32) × (Nat → Int32) × (Nat → Nat → Int32)
def jA (pa : Nat → Nat) (j : Nat) : Nat := pa (2 * j + 3)
def qA (pa : Nat → Nat) (j : Nat) : Nat := pa (2 * j + 4)
def hdW (ck : Nat → ClassId) (pa : Nat → Nat) (P : PS) : va_W := [(pa 0, .inr (4, [.ref (pa 1), .ref (pa 2), .int (P.2.1 0), .int (P.2.1 1), .int (P.2.1 2), .int (P.2.1 3), .int (P.2.1 4)])), (pa 1, .inl (ck 0, 4, .inl P.1)), (pa 2, .inl (ck 2, 16, .inr (.inr (.inr (.inr (fun i => some (jA pa i)))))))]
def jsW (pa : Nat → Nat) (J : Nat → Nat → Int32) (j : Nat) : va_W := jW (jA pa j) (qA pa j) (nI j) (J j)
def poolW (ck : Nat → ClassId) (pa : Nat → Nat) (P : PS) : va_W := hdW ck pa P ++ famW 16 (jsW pa P.2.2)
theorem pm_pj {ck : Nat → ClassId} {pa : Nat → Nat} {P : PS} {j : Nat} (hj : j < 16) : (poolW ck pa P).Perm (jW (jA pa j) (qA pa j) (nI j) (P.2.2 j) ++ (hdW ck pa P ++ famX 16 (jsW pa P.2.2) j)) := fam_out (g := jsW pa P.2.2) hj
theorem pm_pj' {ck : Nat → ClassId} {pa : Nat → Nat} {P : PS} {j : Nat} {v : Nat → Int32} (hj : j < 16) : (jW (jA pa j) (qA pa j) (nI j) v ++ (hdW ck pa P ++ famX 16 (jsW pa P.2.2) j)).Perm (poolW ck pa (P.1, P.2.1, va_up P.2.2 j v)) := by
  have h := fam_in (n := 16) (j := j) (g := jsW pa P.2.2) (g' := jsW pa (va_up P.2.2 j v)) (hd := hdW ck pa P) hj (fun i _ hi => by unfold jsW va_up; rw [if_neg hi])
  have e : jsW pa (va_up P.2.2 j v) j = jW (jA pa j) (qA pa j) (nI j) v := by unfold jsW va_up; rw [if_pos rfl]
  rw [e] at h
  exact h
/-! pure facts for guards -/
theorem x_d2 {x : Int32} (h : (3 : Int32) ≤ x) : ¬ (x - 2) = 0 := by
  intro e
  have : x = 2 := by have := congrArg (· + (2 : Int32)) e; simpa using this
  subst this
  exact absurd h (by decide)
theorem x_d1 {x : Int32} (h : (3 : Int32) ≤ x) : ¬ (x - 1) = 0 := by
  intro e
  have : x = 1 := by have := congrArg (· + (1 : Int32)) e; simpa using this
  subst this
  exact absurd h (by decide)
theorem x_d0 {x : Int32} (h : (3 : Int32) ≤ x) : ¬ x = 0 := by
  intro e
  subst e
  exact absurd h (by decide)
theorem x_clt {x : Int32} : x.toNatClampNeg < 2 ^ 31 := by
  have h1 := x.toInt_lt
  have h2 : x.toNatClampNeg = x.toInt.toNat := rfl
  omega
theorem cl_le {x : Int32} {m : Nat} (h : x.toNatClampNeg ≤ m) (hm : m < 2 ^ 31) : x ≤ nI m := by
  rw [Int32.le_iff_toInt_le, nI_toInt hm]
  have h2 : x.toNatClampNeg = x.toInt.toNat := rfl
  omega
theorem cl_lt {x : Int32} {m : Nat} (h : m < x.toNatClampNeg) : ¬ x ≤ nI m := by
  have hm := Nat.lt_trans h (x_clt (x := x))
  rw [Int32.le_iff_toInt_le, nI_toInt hm]
  have h2 : x.toNatClampNeg = x.toInt.toNat := rfl
  omega
theorem x_lpos {x : Int64} (h : ¬ lg_cmp x 0 ≤ 0) : ¬ x = 0 := by
  intro e
  subst e
  exact absurd ((lg_cmp_le 0 0).mpr (by decide)) h
theorem x_p1 {x : Int32} (h : (1 : Int32) ≤ x) : ¬ x = 0 := by
  intro e
  subst e
  exact absurd h (by decide)
theorem pm_jjp {h q h2 q2 : Nat} {n n2 : Int32} {v v2 : Nat → Int32} : (jW h q n v ++ jW h2 q2 n2 v2).Perm ((pW q (tl6 v) ++ pW q2 (tl6 v2)) ++ [jH h q n v, jH h2 q2 n2 v2]) := by
  refine (show ([jH h q n v, (q, _), jH h2 q2 n2 v2, (q2, _)] : va_W).Perm [(q, _), (q2, _), jH h q n v, jH h2 q2 n2 v2] from ?_)
  refine (List.Perm.swap _ _ _).trans (List.Perm.cons _ ?_)
  refine (List.Perm.cons _ (List.Perm.swap _ _ _)).trans ?_
  exact List.Perm.swap _ _ _
theorem pm_jjp' {h q h2 q2 : Nat} {n n2 : Int32} {v v2 p : Nat → Int32} : ((pW q p ++ pW q2 (tl6 v2)) ++ [jH h q n v, jH h2 q2 n2 v2]).Perm (jW h q n (hd6 v p) ++ jW h2 q2 n2 v2) := by
  refine (show ([(q, _), (q2, _), jH h q n v, jH h2 q2 n2 v2] : va_W).Perm [jH h q n v, (q, _), jH h2 q2 n2 v2, (q2, _)] from ?_)
  refine ((List.Perm.cons _ (List.Perm.swap _ _ _)).trans ?_).trans (List.Perm.swap _ _ _)
  refine List.Perm.cons _ ?_
  exact List.Perm.cons _ (List.Perm.swap _ _ _)
section XL
variable {p : Program} {l : Launch} {e : Env} {R : Room} {s : State} {m : MethodId} {args : Array Value} {below : List Frame} {meth : Method} {c : Code} {H : Heap} {locs : List Loc} {cells slots : Nat} {Q : State → Prop}
variable {cc : ByteArray} {pc : Nat} {ls : Array Slot} {rest : List Value} {D : va_G} {cl : List vw_C} {A : Nat → Prop} {a : Nat} {tys : List (ClassId × FieldType)} {ws : va_W} {H0 : Heap}
theorem xiald {i : Int32} {j : Nat} (hij : i.toNatClampNeg = j) (hx : p.tables.exec = Jvm.exec) (hb : c.code = cc) (hK : va_K D cl tys s) (hP : va_P D cl ws H) (q0 t0 : Nat) {cA : ClassId} {n : Nat} {f : Nat → Int32} (ha : ws[q0]? = some (a, .inl (cA, n, .inl f))) (ht : tys[t0]? = some (cA, .int)) (hin : vp_in i n) (hdg : decode cc pc = .ok (.iaload, 1))
    (kk : W p l e R s m args below meth c H locs cells slots Q (F0 m (pc + 1) ls (.int (f j) :: rest))) : W p l e R s m args below meth c H locs cells slots Q (F0 m pc ls (.int i :: .ref a :: rest)) := by
  subst hij
  exact va_iald hx hb hK hP q0 t0 ha ht hin hdg kk
theorem xcald {i : Int32} {j : Nat} (hij : i.toNatClampNeg = j) (hx : p.tables.exec = Jvm.exec) (hb : c.code = cc) (hK : va_K D cl tys s) (hP : va_P D cl ws H) (q0 t0 : Nat) {cA : ClassId} {n : Nat} {f : Nat → Int32} (ha : ws[q0]? = some (a, .inl (cA, n, .inl f))) (ht : tys[t0]? = some (cA, .char)) (hin : vp_in i n) (hdg : decode cc pc = .ok (.caload, 1))
    (kk : W p l e R s m args below meth c H locs cells slots Q (F0 m (pc + 1) ls (.int (f j) :: rest))) : W p l e R s m args below meth c H locs cells slots Q (F0 m pc ls (.int i :: .ref a :: rest)) := by
  subst hij
  exact va_cald hx hb hK hP q0 t0 ha ht hin hdg kk
theorem xiast {i : Int32} {j : Nat} (hij : i.toNatClampNeg = j) (hx : p.tables.exec = Jvm.exec) (hb : c.code = cc) (hK : va_K D cl tys s) (hP : va_P D cl ws H) (hD : va_D A ws) (hS : va_S A H0 H locs) (q0 t0 : Nat) {cA : ClassId} {n : Nat} {f : Nat → Int32} (ha : ws[q0]? = some (a, .inl (cA, n, .inl f))) (ht : tys[t0]? = some (cA, .int)) {x : Int32} (hin : vp_in i n) (hdg : decode cc pc = .ok (.iastore, 1))
    (kk : ∀ (H1 : Heap) (locs1 : List Loc), va_P D cl (ws.set q0 (a, .inl (cA, n, .inl (upd f j x)))) H1 → va_D A (ws.set q0 (a, .inl (cA, n, .inl (upd f j x)))) → va_S A H0 H1 locs1 → W p l e R s m args below meth c H1 locs1 cells slots Q (F0 m (pc + 1) ls rest)) : W p l e R s m args below meth c H locs cells slots Q (F0 m pc ls (.int x :: .int i :: .ref a :: rest)) := by
  subst hij
  exact va_iast hx hb hK hP hD hS q0 t0 ha ht hin hdg kk
theorem xcast {i : Int32} {j : Nat} (hij : i.toNatClampNeg = j) (hx : p.tables.exec = Jvm.exec) (hb : c.code = cc) (hK : va_K D cl tys s) (hP : va_P D cl ws H) (hD : va_D A ws) (hS : va_S A H0 H locs) (q0 t0 : Nat) {cA : ClassId} {n : Nat} {f : Nat → Int32} (ha : ws[q0]? = some (a, .inl (cA, n, .inl f))) (ht : tys[t0]? = some (cA, .char)) {x : Int32} (hin : vp_in i n) (hdg : decode cc pc = .ok (.castore, 1))
    (kk : ∀ (H1 : Heap) (locs1 : List Loc), va_P D cl (ws.set q0 (a, .inl (cA, n, .inl (upd f j (vp_nar .char x))))) H1 → va_D A (ws.set q0 (a, .inl (cA, n, .inl (upd f j (vp_nar .char x))))) → va_S A H0 H1 locs1 → W p l e R s m args below meth c H1 locs1 cells slots Q (F0 m (pc + 1) ls rest)) : W p l e R s m args below meth c H locs cells slots Q (F0 m pc ls (.int x :: .int i :: .ref a :: rest)) := by
  subst hij
  exact va_cast hx hb hK hP hD hS q0 t0 ha ht hin hdg kk
theorem xaldq {i : Int32} {j b : Nat} (hij : i.toNatClampNeg = j) (hx : p.tables.exec = Jvm.exec) (hb : c.code = cc) (hK : va_K D cl tys s) (hP : va_P D cl ws H) (q0 t0 : Nat) {cA : ClassId} {C : String} {n : Nat} {f : Nat → Option Nat} (ha : ws[q0]? = some (a, .inl (cA, n, .inr (.inr (.inr (.inr f)))))) (ht : tys[t0]? = some (cA, .object C)) (hin : vp_in i n) (hf : f j = some b) (hdg : decode cc pc = .ok (.aaload, 1))
    (kk : W p l e R s m args below meth c H locs cells slots Q (F0 m (pc + 1) ls (.ref b :: rest))) : W p l e R s m args below meth c H locs cells slots Q (F0 m pc ls (.int i :: .ref a :: rest)) := by
  subst hij
  refine va_aldq hx hb hK hP q0 t0 ha ht hin hdg ?_
  rw [hf]
  exact kk
end XL
theorem xrf_none {o : Option Nat} {ad : Nat → Nat} (h : o = none) : va_rf (Option.map ad o) = .null := by subst h; rfl
theorem xrf_some {o : Option Nat} {ad : Nat → Nat} (h : ¬ o = none) : va_rf (Option.map ad o) = .ref (ad (o.getD 0)) := by
  cases o with
  | none => exact absurd rfl h
  | some j => rfl
theorem xgetD {o : Option Nat} {n : Nat} (h : ∀ j, o = some j → j < n) (hn : ¬ o = none) : o.getD 0 < n := by
  cases o with
  | none => exact absurd rfl hn
  | some j => exact h j rfl
theorem xin_g {x : Int32} {n : Nat} (hn : n < 2 ^ 31) (h0 : ¬ x < 0) (h1 : ¬ nI n ≤ x) : vp_in x n := by
  obtain ⟨j, hj, rfl⟩ := nI_of h0
  exact vp_in_nI (Nat.lt_of_not_le fun h => h1 (nI_le h hj)) hn
theorem xin_lt {x : Int32} {n : Nat} (h : vp_in x n) : x.toNatClampNeg < n := Nat.lt_of_not_le fun q => h (Or.inr q)
theorem xin_g' {x : Int32} {n : Nat} (hn : n < 2 ^ 31) (h0 : ¬ x < 0) (h1 : x < nI n) : vp_in x n := by
  obtain ⟨j, hj, rfl⟩ := nI_of h0
  exact vp_in_nI ((nI_ltI hj hn).mp h1) hn
/-- two pools side by side, the heads first -/
def twoW (ck : Nat → ClassId) (pa pb : Nat → Nat) (P O : PS) : va_W := hdW ck pa P ++ (hdW ck pb O ++ (famW 16 (jsW pa P.2.2) ++ famW 16 (jsW pb O.2.2)))
theorem pm_4 {a b c d : va_W} : (a ++ (b ++ (c ++ d))).Perm ((a ++ c) ++ (b ++ d)) := by
  refine (List.Perm.append_left a ?_).trans (by rw [List.append_assoc])
  rw [← List.append_assoc, ← List.append_assoc]
  exact List.Perm.append_right d List.perm_append_comm
theorem pm_5 {a b c d : va_W} : ((a ++ b) ++ (c ++ d)).Perm ((a ++ c) ++ (b ++ d)) := by
  rw [List.append_assoc]
  exact pm_4
theorem pm_two {ck : Nat → ClassId} {pa pb : Nat → Nat} {P O : PS} : (twoW ck pa pb P O).Perm (poolW ck pa P ++ poolW ck pb O) := pm_4
theorem pm_twoj {ck : Nat → ClassId} {pa pb : Nat → Nat} {P O : PS} {j : Nat} (hj : j < 16) : (twoW ck pa pb P O).Perm ((jW (jA pa j) (qA pa j) (nI j) (P.2.2 j) ++ jW (jA pb j) (qA pb j) (nI j) (O.2.2 j)) ++ ((hdW ck pa P ++ famX 16 (jsW pa P.2.2) j) ++ (hdW ck pb O ++ famX 16 (jsW pb O.2.2) j))) := by
  refine pm_two.trans ((List.Perm.append (pm_pj hj) (pm_pj hj)).trans ?_)
  rw [List.append_assoc]
  exact pm_4
theorem pm_twoj' {ck : Nat → ClassId} {pa pb : Nat → Nat} {P O : PS} {j : Nat} {v : Nat → Int32} (hj : j < 16) : ((jW (jA pa j) (qA pa j) (nI j) v ++ jW (jA pb j) (qA pb j) (nI j) (O.2.2 j)) ++ ((hdW ck pa P ++ famX 16 (jsW pa P.2.2) j) ++ (hdW ck pb O ++ famX 16 (jsW pb O.2.2) j))).Perm (twoW ck pa pb (P.1, P.2.1, va_up P.2.2 j v) O) := by
  exact pm_5.trans ((List.Perm.append (pm_pj' hj) (pm_pj hj).symm).trans pm_two.symm)
end
section
theorem dX3_init_0 : decode cX3_init 0 = .ok (.aload_n 0, 1) := by decide +kernel
theorem dX3_init_1 : decode cX3_init 1 = .ok (.invokespecial 3, 3) := by decide +kernel
theorem dX3_init_4 : decode cX3_init 4 = .ok (.return_, 1) := by decide +kernel
theorem dX3_isWay_0 : decode cX3_isWay 0 = .ok (.iload_n 0, 1) := by decide +kernel
theorem dX3_isWay_1 : decode cX3_isWay 1 = .ok (.ifCond .lt 12, 3) := by decide +kernel
theorem dX3_isWay_4 : decode cX3_isWay 4 = .ok (.iload_n 0, 1) := by decide +kernel
theorem dX3_isWay_5 : decode cX3_isWay 5 = .ok (.iconst 2, 1) := by decide +kernel
theorem dX3_isWay_6 : decode cX3_isWay 6 = .ok (.if_icmp .gt 7, 3) := by decide +kernel
theorem dX3_isWay_9 : decode cX3_isWay 9 = .ok (.iconst 1, 1) := by decide +kernel
theorem dX3_isWay_10 : decode cX3_isWay 10 = .ok (.goto 4, 3) := by decide +kernel
theorem dX3_isWay_13 : decode cX3_isWay 13 = .ok (.iconst 0, 1) := by decide +kernel
theorem dX3_isWay_14 : decode cX3_isWay 14 = .ok (.ireturn, 1) := by decide +kernel
set_option maxRecDepth 20000 in
theorem ggX3_fits_X3_isWay : GoodIn wsX3_fits wsX3_isWay := goodIn_r _ [4] (by decide +kernel) (by decide +kernel)
set_option maxRecDepth 20000 in
theorem gX3_fits_X3_isWay : GoodIn wsX3_fits (va_wsS RX3 11 yX3_isWay wsX3_isWay) := goodIn_app (goodIn_of _ (by decide +kernel)) ggX3_fits_X3_isWay
set_option maxRecDepth 20000 in
theorem ggX3_fits_X3_isTable : GoodIn wsX3_fits wsX3_isTable := goodIn_r _ [7] (by decide +kernel) (by decide +kernel)
set_option maxRecDepth 20000 in
theorem gX3_fits_X3_isTable : GoodIn wsX3_fits (va_wsS RX3 15 yX3_isTable wsX3_isTable) := goodIn_app (goodIn_of _ (by decide +kernel)) ggX3_fits_X3_isTable
theorem dX3_fits_0 : decode cX3_fits 0 = .ok (.iload_n 0, 1) := by decide +kernel
theorem dX3_fits_1 : decode cX3_fits 1 = .ok (.invokestatic 11, 3) := by decide +kernel
theorem dX3_fits_4 : decode cX3_fits 4 = .ok (.ifCond .eq 21, 3) := by decide +kernel
theorem dX3_fits_7 : decode cX3_fits 7 = .ok (.iload_n 1, 1) := by decide +kernel
theorem dX3_fits_8 : decode cX3_fits 8 = .ok (.invokestatic 15, 3) := by decide +kernel
theorem dX3_fits_11 : decode cX3_fits 11 = .ok (.ifCond .eq 14, 3) := by decide +kernel
theorem dX3_fits_14 : decode cX3_fits 14 = .ok (.iload_n 2, 1) := by decide +kernel
theorem dX3_fits_15 : decode cX3_fits 15 = .ok (.invokestatic 15, 3) := by decide +kernel
theorem dX3_fits_18 : decode cX3_fits 18 = .ok (.ifCond .eq 7, 3) := by decide +kernel
theorem dX3_fits_21 : decode cX3_fits 21 = .ok (.iconst 1, 1) := by decide +kernel
theorem dX3_fits_22 : decode cX3_fits 22 = .ok (.goto 4, 3) := by decide +kernel
theorem dX3_fits_25 : decode cX3_fits 25 = .ok (.iconst 0, 1) := by decide +kernel
theorem dX3_fits_26 : decode cX3_fits 26 = .ok (.ireturn, 1) := by decide +kernel
theorem dX3_isTable_0 : decode cX3_isTable 0 = .ok (.iload_n 0, 1) := by decide +kernel
theorem dX3_isTable_1 : decode cX3_isTable 1 = .ok (.iconst 1, 1) := by decide +kernel
theorem dX3_isTable_2 : decode cX3_isTable 2 = .ok (.if_icmp .lt 14, 3) := by decide +kernel
theorem dX3_isTable_5 : decode cX3_isTable 5 = .ok (.iload_n 0, 1) := by decide +kernel
theorem dX3_isTable_6 : decode cX3_isTable 6 = .ok (.sipush 200, 3) := by decide +kernel
theorem dX3_isTable_9 : decode cX3_isTable 9 = .ok (.if_icmp .gt 7, 3) := by decide +kernel
theorem dX3_isTable_12 : decode cX3_isTable 12 = .ok (.iconst 1, 1) := by decide +kernel
theorem dX3_isTable_13 : decode cX3_isTable 13 = .ok (.goto 4, 3) := by decide +kernel
theorem dX3_isTable_16 : decode cX3_isTable 16 = .ok (.iconst 0, 1) := by decide +kernel
theorem dX3_isTable_17 : decode cX3_isTable 17 = .ok (.ireturn, 1) := by decide +kernel
set_option maxRecDepth 20000 in
theorem ggX3_make_X3_changeWay : GoodIn wsX3_make wsX3_changeWay := goodIn_r _ [7, 8, 9, 10, 11, 12, 13, 14, 15, 16, 17, 6, 18, 2, 1, 19, 20, 21, 22, 23, 24, 25, 26, 27, 28, 29, 30] (by decide +kernel) (by decide +kernel)
set_option maxRecDepth 20000 in
theorem gX3_make_X3_changeWay : GoodIn wsX3_make (wsV RX3 25 RX3 yX3_changeWay wsX3_changeWay) := goodIn_app (goodIn_of _ (by decide +kernel)) ggX3_make_X3_changeWay
theorem dX3_make_0 : decode cX3_make 0 = .ok (.aload_n 0, 1) := by decide +kernel
theorem dX3_make_1 : decode cX3_make 1 = .ok (.iload_n 2, 1) := by decide +kernel
theorem dX3_make_2 : decode cX3_make 2 = .ok (.putfield 18, 3) := by decide +kernel
theorem dX3_make_5 : decode cX3_make 5 = .ok (.aload_n 0, 1) := by decide +kernel
theorem dX3_make_6 : decode cX3_make 6 = .ok (.iload_n 3, 1) := by decide +kernel
theorem dX3_make_7 : decode cX3_make 7 = .ok (.putfield 22, 3) := by decide +kernel
theorem dX3_make_10 : decode cX3_make 10 = .ok (.aload_n 0, 1) := by decide +kernel
theorem dX3_make_11 : decode cX3_make 11 = .ok (.iload_n 1, 1) := by decide +kernel
theorem dX3_make_12 : decode cX3_make 12 = .ok (.invokevirtual 25, 3) := by decide +kernel
theorem dX3_make_15 : decode cX3_make 15 = .ok (.return_, 1) := by decide +kernel
set_option maxRecDepth 20000 in
theorem ggX3_changeWay_X3_computedNeed : GoodIn wsX3_changeWay wsX3_computedNeed := goodIn_r _ [12, 1, 13, 14, 15, 16, 11, 17, 22, 23, 24, 25, 26] (by decide +kernel) (by decide +kernel)
set_option maxRecDepth 20000 in
theorem gX3_changeWay_X3_computedNeed : GoodIn wsX3_changeWay (wsV RX3 32 RX3 yX3_computedNeed wsX3_computedNeed) := goodIn_app (goodIn_of _ (by decide +kernel)) ggX3_changeWay_X3_computedNeed
set_option maxRecDepth 20000 in
theorem ggX3_changeWay_X3_computedWant : GoodIn wsX3_changeWay wsX3_computedWant := goodIn_r _ [21, 1, 13, 14, 22, 23, 24, 25, 26] (by decide +kernel) (by decide +kernel)
set_option maxRecDepth 20000 in
theorem gX3_changeWay_X3_computedWant : GoodIn wsX3_changeWay (wsV RX3 39 RX3 yX3_computedWant wsX3_computedWant) := goodIn_app (goodIn_of _ (by decide +kernel)) ggX3_changeWay_X3_computedWant
theorem dX3_changeWay_0 : decode cX3_changeWay 0 = .ok (.aload_n 0, 1) := by decide +kernel
theorem dX3_changeWay_1 : decode cX3_changeWay 1 = .ok (.iload_n 1, 1) := by decide +kernel
theorem dX3_changeWay_2 : decode cX3_changeWay 2 = .ok (.putfield 29, 3) := by decide +kernel
theorem dX3_changeWay_5 : decode cX3_changeWay 5 = .ok (.aload_n 0, 1) := by decide +kernel
theorem dX3_changeWay_6 : decode cX3_changeWay 6 = .ok (.aload_n 0, 1) := by decide +kernel
theorem dX3_changeWay_7 : decode cX3_changeWay 7 = .ok (.invokevirtual 32, 3) := by decide +kernel
theorem dX3_changeWay_10 : decode cX3_changeWay 10 = .ok (.putfield 36, 3) := by decide +kernel
theorem dX3_changeWay_13 : decode cX3_changeWay 13 = .ok (.aload_n 0, 1) := by decide +kernel
theorem dX3_changeWay_14 : decode cX3_changeWay 14 = .ok (.aload_n 0, 1) := by decide +kernel
theorem dX3_changeWay_15 : decode cX3_changeWay 15 = .ok (.getfield 36, 3) := by decide +kernel
theorem dX3_changeWay_18 : decode cX3_changeWay 18 = .ok (.aload_n 0, 1) := by decide +kernel
theorem dX3_changeWay_19 : decode cX3_changeWay 19 = .ok (.invokevirtual 39, 3) := by decide +kernel
theorem dX3_changeWay_22 : decode cX3_changeWay 22 = .ok (.invokestatic 42, 3) := by decide +kernel
theorem dX3_changeWay_25 : decode cX3_changeWay 25 = .ok (.putfield 48, 3) := by decide +kernel
theorem dX3_changeWay_28 : decode cX3_changeWay 28 = .ok (.return_, 1) := by decide +kernel
set_option maxRecDepth 20000 in
theorem ggX3_computedNeed_X3_root : GoodIn wsX3_computedNeed wsX3_root := goodIn_r _ [7] (by decide +kernel) (by decide +kernel)
set_option maxRecDepth 20000 in
theorem gX3_computedNeed_X3_root : GoodIn wsX3_computedNeed (va_wsS RX3 51 yX3_root wsX3_root) := goodIn_app (goodIn_of _ (by decide +kernel)) ggX3_computedNeed_X3_root
theorem dX3_computedNeed_0 : decode cX3_computedNeed 0 = .ok (.aload_n 0, 1) := by decide +kernel
theorem dX3_computedNeed_1 : decode cX3_computedNeed 1 = .ok (.getfield 29, 3) := by decide +kernel
theorem dX3_computedNeed_4 : decode cX3_computedNeed 4 = .ok (.lookupswitch 53 #[(1, 28), (2, 38)], 28) := by decide +kernel
theorem dX3_computedNeed_32 : decode cX3_computedNeed 32 = .ok (.aload_n 0, 1) := by decide +kernel
theorem dX3_computedNeed_33 : decode cX3_computedNeed 33 = .ok (.getfield 22, 3) := by decide +kernel
theorem dX3_computedNeed_36 : decode cX3_computedNeed 36 = .ok (.invokestatic 51, 3) := by decide +kernel
theorem dX3_computedNeed_39 : decode cX3_computedNeed 39 = .ok (.iconst 2, 1) := by decide +kernel
theorem dX3_computedNeed_40 : decode cX3_computedNeed 40 = .ok (.iadd, 1) := by decide +kernel
theorem dX3_computedNeed_41 : decode cX3_computedNeed 41 = .ok (.ireturn, 1) := by decide +kernel
theorem dX3_computedNeed_42 : decode cX3_computedNeed 42 = .ok (.aload_n 0, 1) := by decide +kernel
theorem dX3_computedNeed_43 : decode cX3_computedNeed 43 = .ok (.getfield 18, 3) := by decide +kernel
theorem dX3_computedNeed_46 : decode cX3_computedNeed 46 = .ok (.aload_n 0, 1) := by decide +kernel
theorem dX3_computedNeed_47 : decode cX3_computedNeed 47 = .ok (.getfield 22, 3) := by decide +kernel
theorem dX3_computedNeed_50 : decode cX3_computedNeed 50 = .ok (.iadd, 1) := by decide +kernel
theorem dX3_computedNeed_51 : decode cX3_computedNeed 51 = .ok (.invokestatic 51, 3) := by decide +kernel
theorem dX3_computedNeed_54 : decode cX3_computedNeed 54 = .ok (.iconst 2, 1) := by decide +kernel
theorem dX3_computedNeed_55 : decode cX3_computedNeed 55 = .ok (.iadd, 1) := by decide +kernel
theorem dX3_computedNeed_56 : decode cX3_computedNeed 56 = .ok (.ireturn, 1) := by decide +kernel
theorem dX3_computedNeed_57 : decode cX3_computedNeed 57 = .ok (.iconst 3, 1) := by decide +kernel
theorem dX3_computedNeed_58 : decode cX3_computedNeed 58 = .ok (.ireturn, 1) := by decide +kernel
theorem dX3_computedWant_0 : decode cX3_computedWant 0 = .ok (.aload_n 0, 1) := by decide +kernel
theorem dX3_computedWant_1 : decode cX3_computedWant 1 = .ok (.getfield 29, 3) := by decide +kernel
theorem dX3_computedWant_4 : decode cX3_computedWant 4 = .ok (.lookupswitch 56 #[(1, 28), (2, 42)], 28) := by decide +kernel
theorem dX3_computedWant_32 : decode cX3_computedWant 32 = .ok (.aload_n 0, 1) := by decide +kernel
theorem dX3_computedWant_33 : decode cX3_computedWant 33 = .ok (.getfield 22, 3) := by decide +kernel
theorem dX3_computedWant_36 : decode cX3_computedWant 36 = .ok (.aload_n 0, 1) := by decide +kernel
theorem dX3_computedWant_37 : decode cX3_computedWant 37 = .ok (.getfield 22, 3) := by decide +kernel
theorem dX3_computedWant_40 : decode cX3_computedWant 40 = .ok (.iconst 5, 1) := by decide +kernel
theorem dX3_computedWant_41 : decode cX3_computedWant 41 = .ok (.idiv, 1) := by decide +kernel
theorem dX3_computedWant_42 : decode cX3_computedWant 42 = .ok (.iadd, 1) := by decide +kernel
theorem dX3_computedWant_43 : decode cX3_computedWant 43 = .ok (.iconst 2, 1) := by decide +kernel
theorem dX3_computedWant_44 : decode cX3_computedWant 44 = .ok (.iadd, 1) := by decide +kernel
theorem dX3_computedWant_45 : decode cX3_computedWant 45 = .ok (.ireturn, 1) := by decide +kernel
theorem dX3_computedWant_46 : decode cX3_computedWant 46 = .ok (.aload_n 0, 1) := by decide +kernel
theorem dX3_computedWant_47 : decode cX3_computedWant 47 = .ok (.getfield 18, 3) := by decide +kernel
theorem dX3_computedWant_50 : decode cX3_computedWant 50 = .ok (.aload_n 0, 1) := by decide +kernel
theorem dX3_computedWant_51 : decode cX3_computedWant 51 = .ok (.getfield 22, 3) := by decide +kernel
theorem dX3_computedWant_54 : decode cX3_computedWant 54 = .ok (.iadd, 1) := by decide +kernel
theorem dX3_computedWant_55 : decode cX3_computedWant 55 = .ok (.iconst 2, 1) := by decide +kernel
theorem dX3_computedWant_56 : decode cX3_computedWant 56 = .ok (.idiv, 1) := by decide +kernel
theorem dX3_computedWant_57 : decode cX3_computedWant 57 = .ok (.iconst 3, 1) := by decide +kernel
theorem dX3_computedWant_58 : decode cX3_computedWant 58 = .ok (.iadd, 1) := by decide +kernel
theorem dX3_computedWant_59 : decode cX3_computedWant 59 = .ok (.ireturn, 1) := by decide +kernel
theorem dX3_computedWant_60 : decode cX3_computedWant 60 = .ok (.aload_n 0, 1) := by decide +kernel
theorem dX3_computedWant_61 : decode cX3_computedWant 61 = .ok (.getfield 22, 3) := by decide +kernel
theorem dX3_computedWant_64 : decode cX3_computedWant 64 = .ok (.iconst 2, 1) := by decide +kernel
theorem dX3_computedWant_65 : decode cX3_computedWant 65 = .ok (.iadd, 1) := by decide +kernel
theorem dX3_computedWant_66 : decode cX3_computedWant 66 = .ok (.ireturn, 1) := by decide +kernel
theorem dX3_root_0 : decode cX3_root 0 = .ok (.bipush 20, 2) := by decide +kernel
theorem dX3_root_2 : decode cX3_root 2 = .ok (.istore_n 1, 1) := by decide +kernel
theorem dX3_root_3 : decode cX3_root 3 = .ok (.iload_n 1, 1) := by decide +kernel
theorem dX3_root_4 : decode cX3_root 4 = .ok (.ifCond .le 18, 3) := by decide +kernel
theorem dX3_root_7 : decode cX3_root 7 = .ok (.iload_n 1, 1) := by decide +kernel
theorem dX3_root_8 : decode cX3_root 8 = .ok (.iload_n 1, 1) := by decide +kernel
theorem dX3_root_9 : decode cX3_root 9 = .ok (.imul, 1) := by decide +kernel
theorem dX3_root_10 : decode cX3_root 10 = .ok (.iload_n 0, 1) := by decide +kernel
theorem dX3_root_11 : decode cX3_root 11 = .ok (.if_icmp .gt 5, 3) := by decide +kernel
theorem dX3_root_14 : decode cX3_root 14 = .ok (.iload_n 1, 1) := by decide +kernel
theorem dX3_root_15 : decode cX3_root 15 = .ok (.ireturn, 1) := by decide +kernel
theorem dX3_root_16 : decode cX3_root 16 = .ok (.iinc 1 (-1), 3) := by decide +kernel
theorem dX3_root_19 : decode cX3_root 19 = .ok (.goto (-16), 3) := by decide +kernel
theorem dX3_root_22 : decode cX3_root 22 = .ok (.iconst 0, 1) := by decide +kernel
theorem dX3_root_23 : decode cX3_root 23 = .ok (.ireturn, 1) := by decide +kernel
theorem dX3_workWith_0 : decode cX3_workWith 0 = .ok (.iload_n 1, 1) := by decide +kernel
theorem dX3_workWith_1 : decode cX3_workWith 1 = .ok (.iconst 3, 1) := by decide +kernel
theorem dX3_workWith_2 : decode cX3_workWith 2 = .ok (.if_icmp .ge 5, 3) := by decide +kernel
theorem dX3_workWith_5 : decode cX3_workWith 5 = .ok (.iconst 0, 1) := by decide +kernel
theorem dX3_workWith_6 : decode cX3_workWith 6 = .ok (.ireturn, 1) := by decide +kernel
theorem dX3_workWith_7 : decode cX3_workWith 7 = .ok (.aload_n 0, 1) := by decide +kernel
theorem dX3_workWith_8 : decode cX3_workWith 8 = .ok (.getfield 18, 3) := by decide +kernel
theorem dX3_workWith_11 : decode cX3_workWith 11 = .ok (.aload_n 0, 1) := by decide +kernel
theorem dX3_workWith_12 : decode cX3_workWith 12 = .ok (.getfield 22, 3) := by decide +kernel
theorem dX3_workWith_15 : decode cX3_workWith 15 = .ok (.iadd, 1) := by decide +kernel
theorem dX3_workWith_16 : decode cX3_workWith 16 = .ok (.istore_n 2, 1) := by decide +kernel
theorem dX3_workWith_17 : decode cX3_workWith 17 = .ok (.aload_n 0, 1) := by decide +kernel
theorem dX3_workWith_18 : decode cX3_workWith 18 = .ok (.getfield 29, 3) := by decide +kernel
theorem dX3_workWith_21 : decode cX3_workWith 21 = .ok (.ifCond .ne 26, 3) := by decide +kernel
theorem dX3_workWith_24 : decode cX3_workWith 24 = .ok (.aload_n 0, 1) := by decide +kernel
theorem dX3_workWith_25 : decode cX3_workWith 25 = .ok (.getfield 18, 3) := by decide +kernel
theorem dX3_workWith_28 : decode cX3_workWith 28 = .ok (.aload_n 0, 1) := by decide +kernel
theorem dX3_workWith_29 : decode cX3_workWith 29 = .ok (.getfield 22, 3) := by decide +kernel
theorem dX3_workWith_32 : decode cX3_workWith 32 = .ok (.aload_n 0, 1) := by decide +kernel
theorem dX3_workWith_33 : decode cX3_workWith 33 = .ok (.getfield 18, 3) := by decide +kernel
theorem dX3_workWith_36 : decode cX3_workWith 36 = .ok (.iload_n 1, 1) := by decide +kernel
theorem dX3_workWith_37 : decode cX3_workWith 37 = .ok (.iadd, 1) := by decide +kernel
theorem dX3_workWith_38 : decode cX3_workWith 38 = .ok (.iconst 3, 1) := by decide +kernel
theorem dX3_workWith_39 : decode cX3_workWith 39 = .ok (.isub, 1) := by decide +kernel
theorem dX3_workWith_40 : decode cX3_workWith 40 = .ok (.iload_n 1, 1) := by decide +kernel
theorem dX3_workWith_41 : decode cX3_workWith 41 = .ok (.iconst 2, 1) := by decide +kernel
theorem dX3_workWith_42 : decode cX3_workWith 42 = .ok (.isub, 1) := by decide +kernel
theorem dX3_workWith_43 : decode cX3_workWith 43 = .ok (.idiv, 1) := by decide +kernel
theorem dX3_workWith_44 : decode cX3_workWith 44 = .ok (.imul, 1) := by decide +kernel
theorem dX3_workWith_45 : decode cX3_workWith 45 = .ok (.iadd, 1) := by decide +kernel
theorem dX3_workWith_46 : decode cX3_workWith 46 = .ok (.ireturn, 1) := by decide +kernel
theorem dX3_workWith_47 : decode cX3_workWith 47 = .ok (.aload_n 0, 1) := by decide +kernel
theorem dX3_workWith_48 : decode cX3_workWith 48 = .ok (.getfield 29, 3) := by decide +kernel
theorem dX3_workWith_51 : decode cX3_workWith 51 = .ok (.iconst 1, 1) := by decide +kernel
theorem dX3_workWith_52 : decode cX3_workWith 52 = .ok (.if_icmp .ne 19, 3) := by decide +kernel
theorem dX3_workWith_55 : decode cX3_workWith 55 = .ok (.iload_n 1, 1) := by decide +kernel
theorem dX3_workWith_56 : decode cX3_workWith 56 = .ok (.aload_n 0, 1) := by decide +kernel
theorem dX3_workWith_57 : decode cX3_workWith 57 = .ok (.getfield 48, 3) := by decide +kernel
theorem dX3_workWith_60 : decode cX3_workWith 60 = .ok (.if_icmp .lt 7, 3) := by decide +kernel
theorem dX3_workWith_63 : decode cX3_workWith 63 = .ok (.iload_n 2, 1) := by decide +kernel
theorem dX3_workWith_64 : decode cX3_workWith 64 = .ok (.goto 6, 3) := by decide +kernel
theorem dX3_workWith_67 : decode cX3_workWith 67 = .ok (.iconst 3, 1) := by decide +kernel
theorem dX3_workWith_68 : decode cX3_workWith 68 = .ok (.iload_n 2, 1) := by decide +kernel
theorem dX3_workWith_69 : decode cX3_workWith 69 = .ok (.imul, 1) := by decide +kernel
theorem dX3_workWith_70 : decode cX3_workWith 70 = .ok (.ireturn, 1) := by decide +kernel
theorem dX3_workWith_71 : decode cX3_workWith 71 = .ok (.iload_n 2, 1) := by decide +kernel
theorem dX3_workWith_72 : decode cX3_workWith 72 = .ok (.iload_n 1, 1) := by decide +kernel
theorem dX3_workWith_73 : decode cX3_workWith 73 = .ok (.iadd, 1) := by decide +kernel
theorem dX3_workWith_74 : decode cX3_workWith 74 = .ok (.iconst 1, 1) := by decide +kernel
theorem dX3_workWith_75 : decode cX3_workWith 75 = .ok (.isub, 1) := by decide +kernel
theorem dX3_workWith_76 : decode cX3_workWith 76 = .ok (.iload_n 1, 1) := by decide +kernel
theorem dX3_workWith_77 : decode cX3_workWith 77 = .ok (.idiv, 1) := by decide +kernel
theorem dX3_workWith_78 : decode cX3_workWith 78 = .ok (.istore_n 3, 1) := by decide +kernel
theorem dX3_workWith_79 : decode cX3_workWith 79 = .ok (.iconst 0, 1) := by decide +kernel
theorem dX3_workWith_80 : decode cX3_workWith 80 = .ok (.istore 4, 2) := by decide +kernel
theorem dX3_workWith_82 : decode cX3_workWith 82 = .ok (.iload_n 3, 1) := by decide +kernel
theorem dX3_workWith_83 : decode cX3_workWith 83 = .ok (.iconst 1, 1) := by decide +kernel
theorem dX3_workWith_84 : decode cX3_workWith 84 = .ok (.if_icmp .le 25, 3) := by decide +kernel
theorem dX3_workWith_87 : decode cX3_workWith 87 = .ok (.iload 4, 2) := by decide +kernel
theorem dX3_workWith_89 : decode cX3_workWith 89 = .ok (.iload_n 2, 1) := by decide +kernel
theorem dX3_workWith_90 : decode cX3_workWith 90 = .ok (.if_icmp .ge 19, 3) := by decide +kernel
theorem dX3_workWith_93 : decode cX3_workWith 93 = .ok (.iload_n 3, 1) := by decide +kernel
theorem dX3_workWith_94 : decode cX3_workWith 94 = .ok (.iload_n 1, 1) := by decide +kernel
theorem dX3_workWith_95 : decode cX3_workWith 95 = .ok (.iadd, 1) := by decide +kernel
theorem dX3_workWith_96 : decode cX3_workWith 96 = .ok (.iconst 2, 1) := by decide +kernel
theorem dX3_workWith_97 : decode cX3_workWith 97 = .ok (.isub, 1) := by decide +kernel
theorem dX3_workWith_98 : decode cX3_workWith 98 = .ok (.iload_n 1, 1) := by decide +kernel
theorem dX3_workWith_99 : decode cX3_workWith 99 = .ok (.iconst 1, 1) := by decide +kernel
theorem dX3_workWith_100 : decode cX3_workWith 100 = .ok (.isub, 1) := by decide +kernel
theorem dX3_workWith_101 : decode cX3_workWith 101 = .ok (.idiv, 1) := by decide +kernel
theorem dX3_workWith_102 : decode cX3_workWith 102 = .ok (.istore_n 3, 1) := by decide +kernel
theorem dX3_workWith_103 : decode cX3_workWith 103 = .ok (.iinc 4 1, 3) := by decide +kernel
theorem dX3_workWith_106 : decode cX3_workWith 106 = .ok (.goto (-24), 3) := by decide +kernel
theorem dX3_workWith_109 : decode cX3_workWith 109 = .ok (.iload_n 2, 1) := by decide +kernel
theorem dX3_workWith_110 : decode cX3_workWith 110 = .ok (.iconst 2, 1) := by decide +kernel
theorem dX3_workWith_111 : decode cX3_workWith 111 = .ok (.iload 4, 2) := by decide +kernel
theorem dX3_workWith_113 : decode cX3_workWith 113 = .ok (.imul, 1) := by decide +kernel
theorem dX3_workWith_114 : decode cX3_workWith 114 = .ok (.iconst 1, 1) := by decide +kernel
theorem dX3_workWith_115 : decode cX3_workWith 115 = .ok (.iadd, 1) := by decide +kernel
theorem dX3_workWith_116 : decode cX3_workWith 116 = .ok (.imul, 1) := by decide +kernel
theorem dX3_workWith_117 : decode cX3_workWith 117 = .ok (.ireturn, 1) := by decide +kernel
theorem dX3_spillsWith_0 : decode cX3_spillsWith 0 = .ok (.aload_n 0, 1) := by decide +kernel
theorem dX3_spillsWith_1 : decode cX3_spillsWith 1 = .ok (.getfield 29, 3) := by decide +kernel
theorem dX3_spillsWith_4 : decode cX3_spillsWith 4 = .ok (.ifCond .eq 15, 3) := by decide +kernel
theorem dX3_spillsWith_7 : decode cX3_spillsWith 7 = .ok (.iload_n 1, 1) := by decide +kernel
theorem dX3_spillsWith_8 : decode cX3_spillsWith 8 = .ok (.aload_n 0, 1) := by decide +kernel
theorem dX3_spillsWith_9 : decode cX3_spillsWith 9 = .ok (.getfield 48, 3) := by decide +kernel
theorem dX3_spillsWith_12 : decode cX3_spillsWith 12 = .ok (.if_icmp .ge 7, 3) := by decide +kernel
theorem dX3_spillsWith_15 : decode cX3_spillsWith 15 = .ok (.iconst 1, 1) := by decide +kernel
theorem dX3_spillsWith_16 : decode cX3_spillsWith 16 = .ok (.goto 4, 3) := by decide +kernel
theorem dX3_spillsWith_19 : decode cX3_spillsWith 19 = .ok (.iconst 0, 1) := by decide +kernel
theorem dX3_spillsWith_20 : decode cX3_spillsWith 20 = .ok (.ireturn, 1) := by decide +kernel
theorem dX3_copyFrom_0 : decode cX3_copyFrom 0 = .ok (.aload_n 0, 1) := by decide +kernel
theorem dX3_copyFrom_1 : decode cX3_copyFrom 1 = .ok (.aload_n 1, 1) := by decide +kernel
theorem dX3_copyFrom_2 : decode cX3_copyFrom 2 = .ok (.getfield 29, 3) := by decide +kernel
theorem dX3_copyFrom_5 : decode cX3_copyFrom 5 = .ok (.putfield 29, 3) := by decide +kernel
theorem dX3_copyFrom_8 : decode cX3_copyFrom 8 = .ok (.aload_n 0, 1) := by decide +kernel
theorem dX3_copyFrom_9 : decode cX3_copyFrom 9 = .ok (.aload_n 1, 1) := by decide +kernel
theorem dX3_copyFrom_10 : decode cX3_copyFrom 10 = .ok (.getfield 18, 3) := by decide +kernel
theorem dX3_copyFrom_13 : decode cX3_copyFrom 13 = .ok (.putfield 18, 3) := by decide +kernel
theorem dX3_copyFrom_16 : decode cX3_copyFrom 16 = .ok (.aload_n 0, 1) := by decide +kernel
theorem dX3_copyFrom_17 : decode cX3_copyFrom 17 = .ok (.aload_n 1, 1) := by decide +kernel
theorem dX3_copyFrom_18 : decode cX3_copyFrom 18 = .ok (.getfield 22, 3) := by decide +kernel
theorem dX3_copyFrom_21 : decode cX3_copyFrom 21 = .ok (.putfield 22, 3) := by decide +kernel
theorem dX3_copyFrom_24 : decode cX3_copyFrom 24 = .ok (.aload_n 0, 1) := by decide +kernel
theorem dX3_copyFrom_25 : decode cX3_copyFrom 25 = .ok (.aload_n 1, 1) := by decide +kernel
theorem dX3_copyFrom_26 : decode cX3_copyFrom 26 = .ok (.getfield 36, 3) := by decide +kernel
theorem dX3_copyFrom_29 : decode cX3_copyFrom 29 = .ok (.putfield 36, 3) := by decide +kernel
theorem dX3_copyFrom_32 : decode cX3_copyFrom 32 = .ok (.aload_n 0, 1) := by decide +kernel
theorem dX3_copyFrom_33 : decode cX3_copyFrom 33 = .ok (.aload_n 1, 1) := by decide +kernel
theorem dX3_copyFrom_34 : decode cX3_copyFrom 34 = .ok (.getfield 48, 3) := by decide +kernel
theorem dX3_copyFrom_37 : decode cX3_copyFrom 37 = .ok (.putfield 48, 3) := by decide +kernel
theorem dX3_copyFrom_40 : decode cX3_copyFrom 40 = .ok (.return_, 1) := by decide +kernel
end
section
def rmX3_isWay : Room := { frames := 0, cells := 0, slots := 0, locals := 0 }
def gX3_isWay (a1 : Int32) : Int32 := (if a1 < 0 then 0 else (if 2 < a1 then 0 else 1))
set_option maxHeartbeats 4000000 in
set_option maxRecDepth 100000 in
theorem mX3_isWay (l : Launch) (D : va_G) (ck : Nat → ClassId) (a1 : Int32) : xMi l yX3_isWay wsX3_isWay rmX3_isWay D ck [.int a1] ([]) ([]) (gX3_isWay a1) 0 0 := by
  refine xMet (by decide) rfl (Nat.le_of_ble_eq_true rfl) ?_
  intro zp ze s zm zb zt zc hx hb hr hml hown hts hlk hnm hN hK hP hD ls hl
  have hown : s.vm.findClass RX3 = some zm.cls := hown
  have hl : lv_has ls 1 [(0, .int a1)] := hl
  have hS : va_S (va_A ([]) s.heap.size) s.heap s.heap [] := va_S.rf
  have hA : ∀ zq : Nat, s.heap.size ≤ zq → va_A ([]) s.heap.size zq := fun zq h => Or.inr h
  refine lv_iload_n hx hb dX3_isWay_0 rfl (lv_at hl 0 rfl) ?_
  refine lv_if_lt (tgt := 13) hx hb dX3_isWay_1 (by decide) (fun c_1 => ?_) (fun c_1 => ?_)
  · --t
    refine lv_iconst (v := 0) hx hb dX3_isWay_13 (by decide) ?_
    exact xzret hx hb hr hlk hP hD hS (Or.inl rfl) (show gX3_isWay a1 = 0 from (Eq.trans (if_pos c_1) rfl)).symm rfl dX3_isWay_14
  · --f
    refine lv_iload_n hx hb dX3_isWay_4 rfl (lv_at hl 0 rfl) ?_
    refine lv_iconst (v := 2) hx hb dX3_isWay_5 (by decide) ?_
    refine lv_icmp_gt (tgt := 13) hx hb dX3_isWay_6 (by decide) (fun c_6 => ?_) (fun c_6 => ?_)
    · --t
      refine lv_iconst (v := 0) hx hb dX3_isWay_13 (by decide) ?_
      exact xzret hx hb hr hlk hP hD hS (Or.inl rfl) (show gX3_isWay a1 = 0 from (Eq.trans (if_neg c_1) (Eq.trans (if_pos c_6) rfl))).symm rfl dX3_isWay_14
    · --f
      refine lv_iconst (v := 1) hx hb dX3_isWay_9 (by decide) ?_
      refine lv_goto (tgt := 14) hx hb dX3_isWay_10 (by decide) ?_
      exact xzret hx hb hr hlk hP hD hS (Or.inr rfl) (show gX3_isWay a1 = 1 from (Eq.trans (if_neg c_1) (Eq.trans (if_neg c_6) rfl))).symm rfl dX3_isWay_14

def rmX3_isTable : Room := { frames := 0, cells := 0, slots := 0, locals := 0 }
def gX3_isTable (a1 : Int32) : Int32 := (if a1 < 1 then 0 else (if 200 < a1 then 0 else 1))
set_option maxHeartbeats 4000000 in
set_option maxRecDepth 100000 in
theorem mX3_isTable (l : Launch) (D : va_G) (ck : Nat → ClassId) (a1 : Int32) : xMi l yX3_isTable wsX3_isTable rmX3_isTable D ck [.int a1] ([]) ([]) (gX3_isTable a1) 0 0 := by
  refine xMet (by decide) rfl (Nat.le_of_ble_eq_true rfl) ?_
  intro zp ze s zm zb zt zc hx hb hr hml hown hts hlk hnm hN hK hP hD ls hl
  have hown : s.vm.findClass RX3 = some zm.cls := hown
  have hl : lv_has ls 1 [(0, .int a1)] := hl
  have hS : va_S (va_A ([]) s.heap.size) s.heap s.heap [] := va_S.rf
  have hA : ∀ zq : Nat, s.heap.size ≤ zq → va_A ([]) s.heap.size zq := fun zq h => Or.inr h
  refine lv_iload_n hx hb dX3_isTable_0 rfl (lv_at hl 0 rfl) ?_
  refine lv_iconst (v := 1) hx hb dX3_isTable_1 (by decide) ?_
  refine lv_icmp_lt (tgt := 16) hx hb dX3_isTable_2 (by decide) (fun c_2 => ?_) (fun c_2 => ?_)
  · --t
    refine lv_iconst (v := 0) hx hb dX3_isTable_16 (by decide) ?_
    exact xzret hx hb hr hlk hP hD hS (Or.inl rfl) (show gX3_isTable a1 = 0 from (Eq.trans (if_pos c_2) rfl)).symm rfl dX3_isTable_17
  · --f
    refine lv_iload_n hx hb dX3_isTable_5 rfl (lv_at hl 0 rfl) ?_
    refine lv_sipush (v := 200) hx hb dX3_isTable_6 (by decide) ?_
    refine lv_icmp_gt (tgt := 16) hx hb dX3_isTable_9 (by decide) (fun c_9 => ?_) (fun c_9 => ?_)
    · --t
      refine lv_iconst (v := 0) hx hb dX3_isTable_16 (by decide) ?_
      exact xzret hx hb hr hlk hP hD hS (Or.inl rfl) (show gX3_isTable a1 = 0 from (Eq.trans (if_neg c_2) (Eq.trans (if_pos c_9) rfl))).symm rfl dX3_isTable_17
    · --f
      refine lv_iconst (v := 1) hx hb dX3_isTable_12 (by decide) ?_
      refine lv_goto (tgt := 17) hx hb dX3_isTable_13 (by decide) ?_
      exact xzret hx hb hr hlk hP hD hS (Or.inr rfl) (show gX3_isTable a1 = 1 from (Eq.trans (if_neg c_2) (Eq.trans (if_neg c_9) rfl))).symm rfl dX3_isTable_17

def rmX3_fits : Room := { frames := 1, cells := 0, slots := 0, locals := 20 }
def gX3_fits (a1 : Int32) (a2 : Int32) (a3 : Int32) : Int32 := (if (gX3_isWay a1) = 0 then 0 else (if (gX3_isTable a2) = 0 then 0 else (if (gX3_isTable a3) = 0 then 0 else 1)))
set_option maxHeartbeats 4000000 in
set_option maxRecDepth 100000 in
theorem mX3_fits (l : Launch) (D : va_G) (ck : Nat → ClassId) (a1 : Int32) (a2 : Int32) (a3 : Int32) : xMi l yX3_fits wsX3_fits rmX3_fits D ck [.int a1, .int a2, .int a3] ([]) ([]) (gX3_fits a1 a2 a3) 0 0 := by
  refine xMet (by decide) rfl (Nat.le_of_ble_eq_true rfl) ?_
  intro zp ze s zm zb zt zc hx hb hr hml hown hts hlk hnm hN hK hP hD ls hl
  have hown : s.vm.findClass RX3 = some zm.cls := hown
  have hl : lv_has ls 3 [(0, .int a1), (1, .int a2), (2, .int a3)] := hl
  have hS : va_S (va_A ([]) s.heap.size) s.heap s.heap [] := va_S.rf
  have hA : ∀ zq : Nat, s.heap.size ≤ zq → va_A ([]) s.heap.size zq := fun zq h => Or.inr h
  refine lv_iload_n hx hb dX3_fits_0 rfl (lv_at hl 0 rfl) ?_
  refine xreti (va_runS (As := [.int a1]) (rest := []) ⟨hx, hb, hml, hown, hts⟩ (mX3_isWay l D ck a1 _) (va_cwS 1 hts gX3_fits_X3_isWay rfl rfl rfl (by decide +kernel) ⟨Nat.le_of_ble_eq_true rfl, Nat.le_of_ble_eq_true rfl⟩) (xpreS hN hK hP hD pm_none) rfl rfl hl.1 rfl (lv_room (Nat.le_of_ble_eq_true rfl)) dX3_fits_1 ⟨Nat.le_of_ble_eq_true rfl, Nat.le_of_ble_eq_true rfl⟩) hP hD hS hA pm_none pm_none (fun H locs hP hD hS => ?_)
  refine lv_if_eq (tgt := 25) hx hb dX3_fits_4 (by decide) (fun c_4 => ?_) (fun c_4 => ?_)
  · --t
    refine lv_iconst (v := 0) hx hb dX3_fits_25 (by decide) ?_
    exact xzret hx hb hr hlk hP hD hS (Or.inl rfl) (show gX3_fits a1 a2 a3 = 0 from (Eq.trans (if_pos c_4) rfl)).symm rfl dX3_fits_26
  · --f
    refine lv_iload_n hx hb dX3_fits_7 rfl (lv_at hl 1 rfl) ?_
    refine xreti (va_runS (As := [.int a2]) (rest := []) ⟨hx, hb, hml, hown, hts⟩ (mX3_isTable l D ck a2 _) (va_cwS 1 hts gX3_fits_X3_isTable rfl rfl rfl (by decide +kernel) ⟨Nat.le_of_ble_eq_true rfl, Nat.le_of_ble_eq_true rfl⟩) (xpreS hN hK hP hD pm_none) rfl rfl hl.1 rfl (lv_room (Nat.le_of_ble_eq_true rfl)) dX3_fits_8 ⟨Nat.le_of_ble_eq_true rfl, Nat.le_of_ble_eq_true rfl⟩) hP hD hS hA pm_none pm_none (fun H locs hP hD hS => ?_)
    refine lv_if_eq (tgt := 25) hx hb dX3_fits_11 (by decide) (fun c_11 => ?_) (fun c_11 => ?_)
    · --t
      refine lv_iconst (v := 0) hx hb dX3_fits_25 (by decide) ?_
      exact xzret hx hb hr hlk hP hD hS (Or.inl rfl) (show gX3_fits a1 a2 a3 = 0 from (Eq.trans (if_neg c_4) (Eq.trans (if_pos c_11) rfl))).symm rfl dX3_fits_26
    · --f
      refine lv_iload_n hx hb dX3_fits_14 rfl (lv_at hl 2 rfl) ?_
      refine xreti (va_runS (As := [.int a3]) (rest := []) ⟨hx, hb, hml, hown, hts⟩ (mX3_isTable l D ck a3 _) (va_cwS 1 hts gX3_fits_X3_isTable rfl rfl rfl (by decide +kernel) ⟨Nat.le_of_ble_eq_true rfl, Nat.le_of_ble_eq_true rfl⟩) (xpreS hN hK hP hD pm_none) rfl rfl hl.1 rfl (lv_room (Nat.le_of_ble_eq_true rfl)) dX3_fits_15 ⟨Nat.le_of_ble_eq_true rfl, Nat.le_of_ble_eq_true rfl⟩) hP hD hS hA pm_none pm_none (fun H locs hP hD hS => ?_)
      refine lv_if_eq (tgt := 25) hx hb dX3_fits_18 (by decide) (fun c_18 => ?_) (fun c_18 => ?_)
      · --t
        refine lv_iconst (v := 0) hx hb dX3_fits_25 (by decide) ?_
        exact xzret hx hb hr hlk hP hD hS (Or.inl rfl) (show gX3_fits a1 a2 a3 = 0 from (Eq.trans (if_neg c_4) (Eq.trans (if_neg c_11) (Eq.trans (if_pos c_18) rfl)))).symm rfl dX3_fits_26
      · --f
        refine lv_iconst (v := 1) hx hb dX3_fits_21 (by decide) ?_
        refine lv_goto (tgt := 26) hx hb dX3_fits_22 (by decide) ?_
        exact xzret hx hb hr hlk hP hD hS (Or.inr rfl) (show gX3_fits a1 a2 a3 = 1 from (Eq.trans (if_neg c_4) (Eq.trans (if_neg c_11) (Eq.trans (if_neg c_18) rfl)))).symm rfl dX3_fits_26

def rmX3_root : Room := { frames := 0, cells := 0, slots := 0, locals := 0 }
def gX3_root_L3 (a1 : Int32) : Nat → Int32
  | 0 => 0
  | f + 1 => (if a1 < ((nI (f + 1)) * (nI (f + 1))) then (gX3_root_L3 a1 f ) else (nI (f + 1)))
def gX3_root (a1 : Int32) : Int32 := (gX3_root_L3 a1 20 )
set_option maxHeartbeats 4000000 in
set_option maxRecDepth 100000 in
theorem mX3_root (l : Launch) (D : va_G) (ck : Nat → ClassId) (a1 : Int32) : xMi l yX3_root wsX3_root rmX3_root D ck [.int a1] ([]) ([]) (gX3_root a1) 0 0 := by
  refine xMet (by decide) rfl (Nat.le_of_ble_eq_true rfl) ?_
  intro zp ze s zm zb zt zc hx hb hr hml hown hts hlk hnm hN hK hP hD ls hl
  have hown : s.vm.findClass RX3 = some zm.cls := hown
  have hl : lv_has ls 2 [(0, .int a1)] := hl
  have hS : va_S (va_A ([]) s.heap.size) s.heap s.heap [] := va_S.rf
  have hA : ∀ zq : Nat, s.heap.size ≤ zq → va_A ([]) s.heap.size zq := fun zq h => Or.inr h
  refine lv_bipush (v := (nI 20)) hx hb dX3_root_0 (by decide) ?_
  refine lv_istore_n (lv' := [(1, .int (nI 20)), (0, .int a1)]) hx hb dX3_root_2 rfl hl (by decide) rfl (fun ls hl => ?_)
  have loop3 : ∀ (f : Nat) , f ≤ 20 → gX3_root a1 = gX3_root_L3 a1 f  → ∀ (H : Heap) (locs : List Loc) (ls : Array Slot), va_P D vwCl ([]) H → va_D (va_A ([]) s.heap.size) ([]) → va_S (va_A ([]) s.heap.size) s.heap H locs → lv_has ls 2 [(0, .int a1), (1, .int (nI f))] → W zp l ze rmX3_root s zm ([.int a1] : List Value).toArray zb zt zc H locs 0 0 (MQ zb (xQi D ([]) ([]) (gX3_root a1) s.heap.size) ([.int a1] : List Value).toArray s 0 0 (va_A ([]) s.heap.size)) (F0 zm 3 ls []) := by
    intro f
    induction f with
    | zero =>
      intro  hf hg H locs ls hP hD hS hl
      refine lv_iload_n hx hb dX3_root_3 rfl (lv_at hl 1 rfl) ?_
      refine lv_if_le (tgt := 22) hx hb dX3_root_4 (by decide) (fun c_4 => ?_) (fun c_4 => ?_)
      · --t
        refine lv_iconst (v := 0) hx hb dX3_root_22 (by decide) ?_
        exact xiret hx hb hr hlk hP hD hS (hg.trans (show gX3_root_L3 a1 0  = 0 from rfl)).symm rfl dX3_root_23
      · --f
        exact absurd (show nI 0 ≤ 0 by decide) c_4
    | succ f ih3 =>
      intro  hf hg H locs ls hP hD hS hl
      refine lv_iload_n hx hb dX3_root_3 rfl (lv_at hl 1 rfl) ?_
      refine lv_if_le (tgt := 22) hx hb dX3_root_4 (by decide) (fun c_4 => ?_) (fun c_4 => ?_)
      · --t
        exact absurd c_4 (nI_nle (Nat.succ_pos f) (by omega))
      · --f
        refine lv_iload_n hx hb dX3_root_7 rfl (lv_at hl 1 rfl) ?_
        refine lv_iload_n hx hb dX3_root_8 rfl (lv_at hl 1 rfl) ?_
        refine lv_imul hx hb dX3_root_9 ?_
        refine lv_iload_n hx hb dX3_root_10 rfl (lv_at hl 0 rfl) ?_
        refine lv_icmp_gt (tgt := 16) hx hb dX3_root_11 (by decide) (fun c_11 => ?_) (fun c_11 => ?_)
        · --t
          refine lv_iinc (v := (nI f)) (lv' := [(1, .int (nI f)), (0, .int a1)]) hx hb dX3_root_16 hl (k := 1) rfl (pk_m1 f) (by decide) rfl (fun ls hl => ?_)
          refine lv_goto (tgt := 3) hx hb dX3_root_19 (by decide) ?_
          exact ih3  (by omega) (hg.trans (show gX3_root_L3 a1 (f + 1)  = (gX3_root_L3 a1 f ) from (Eq.trans (if_pos c_11) rfl))) _ _ _ hP hD hS (lv_sub hl [1, 0] rfl)
        · --f
          refine lv_iload_n hx hb dX3_root_14 rfl (lv_at hl 1 rfl) ?_
          exact xiret hx hb hr hlk hP hD hS (hg.trans (show gX3_root_L3 a1 (f + 1)  = (nI (f + 1)) from (Eq.trans (if_neg c_11) rfl))).symm rfl dX3_root_15
  exact loop3 20  (by decide) (show gX3_root a1 = (gX3_root_L3 a1 20 ) from rfl) _ _ _ hP hD hS (lv_sub hl [1, 0] rfl)

def rmX3_computedNeed : Room := { frames := 1, cells := 0, slots := 0, locals := 21 }
def gX3_computedNeed (p : Nat → Int32) : Int32 := (if (p 0) = 1 then ((gX3_root (p 2)) + 2) else (if (p 0) = 2 then ((gX3_root ((p 1) + (p 2))) + 2) else 3))
set_option maxHeartbeats 4000000 in
set_option maxRecDepth 100000 in
theorem mX3_computedNeed (l : Launch) (D : va_G) (ck : Nat → ClassId) (q : Nat) (p : Nat → Int32) : xMi l yX3_computedNeed wsX3_computedNeed rmX3_computedNeed D ck [.ref q] (pW q p) (pW q p) (gX3_computedNeed p) 0 0 := by
  refine xMet (by decide) rfl (Nat.le_of_ble_eq_true rfl) ?_
  intro zp ze s zm zb zt zc hx hb hr hml hown hts hlk hnm hN hK hP hD ls hl
  have hown : s.vm.findClass RX3 = some zm.cls := hown
  have hl : lv_has ls 1 [(0, .ref q)] := hl
  have hS : va_S (va_A (pW q p) s.heap.size) s.heap s.heap [] := va_S.rf
  have hA : ∀ zq : Nat, s.heap.size ≤ zq → va_A (pW q p) s.heap.size zq := fun zq h => Or.inr h
  have hinX3 : ∀ w ∈ u_ws RX3 TX3 5, w ∈ wsX3_computedNeed := by decide +kernel
  refine lv_aload_n hx hb dX3_computedNeed_0 rfl (lv_at hl 0 rfl) ?_
  refine va_get (D := D) (ci := 3) (v := .int (p 0)) (C := RX3) (T := TX3) (N := 5) hx hb hts hinX3 hown hK hP 0 rfl rfl 0 (by decide) (hts (.fieldLink RX3 29 "JoinGrants$Plan" "way" "I") (List.mem_of_getElem? (i := 1) rfl)) (fun _ h9 => h9) rfl dX3_computedNeed_1 ?_
  by_cases c_4_1 : (p 0) = 1
  · --1
    refine lv_lookup (tgt := 32) (off := 28) hx hb dX3_computedNeed_4 (by decide) (by rw [c_4_1]; decide) (by decide) ?_
    refine lv_aload_n hx hb dX3_computedNeed_32 rfl (lv_at hl 0 rfl) ?_
    refine va_get (D := D) (ci := 3) (v := .int (p 2)) (C := RX3) (T := TX3) (N := 5) hx hb hts hinX3 hown hK hP 0 rfl rfl 2 (by decide) (hts (.fieldLink RX3 22 "JoinGrants$Plan" "right" "I") (List.mem_of_getElem? (i := 2) rfl)) (fun _ h9 => h9) rfl dX3_computedNeed_33 ?_
    refine xreti (va_runS (As := [.int (p 2)]) (rest := []) ⟨hx, hb, hml, hown, hts⟩ (mX3_root l D ck (p 2) _) (va_cwS 1 hts gX3_computedNeed_X3_root rfl rfl rfl (by decide +kernel) ⟨Nat.le_of_ble_eq_true rfl, Nat.le_of_ble_eq_true rfl⟩) (xpreS hN hK hP hD pm_none) rfl rfl hl.1 rfl (lv_room (Nat.le_of_ble_eq_true rfl)) dX3_computedNeed_36 ⟨Nat.le_of_ble_eq_true rfl, Nat.le_of_ble_eq_true rfl⟩) hP hD hS hA pm_none pm_none (fun H locs hP hD hS => ?_)
    refine lv_iconst (v := 2) hx hb dX3_computedNeed_39 (by decide) ?_
    refine lv_iadd hx hb dX3_computedNeed_40 ?_
    exact xiret hx hb hr hlk hP hD hS (show gX3_computedNeed p = ((gX3_root (p 2)) + 2) from (Eq.trans (if_pos c_4_1) rfl)).symm rfl dX3_computedNeed_41
  by_cases c_4_2 : (p 0) = 2
  · --2
    refine lv_lookup (tgt := 42) (off := 38) hx hb dX3_computedNeed_4 (by decide) (by rw [c_4_2]; decide) (by decide) ?_
    refine lv_aload_n hx hb dX3_computedNeed_42 rfl (lv_at hl 0 rfl) ?_
    refine va_get (D := D) (ci := 3) (v := .int (p 1)) (C := RX3) (T := TX3) (N := 5) hx hb hts hinX3 hown hK hP 0 rfl rfl 1 (by decide) (hts (.fieldLink RX3 18 "JoinGrants$Plan" "left" "I") (List.mem_of_getElem? (i := 3) rfl)) (fun _ h9 => h9) rfl dX3_computedNeed_43 ?_
    refine lv_aload_n hx hb dX3_computedNeed_46 rfl (lv_at hl 0 rfl) ?_
    refine va_get (D := D) (ci := 3) (v := .int (p 2)) (C := RX3) (T := TX3) (N := 5) hx hb hts hinX3 hown hK hP 0 rfl rfl 2 (by decide) (hts (.fieldLink RX3 22 "JoinGrants$Plan" "right" "I") (List.mem_of_getElem? (i := 2) rfl)) (fun _ h9 => h9) rfl dX3_computedNeed_47 ?_
    refine lv_iadd hx hb dX3_computedNeed_50 ?_
    refine xreti (va_runS (As := [.int ((p 1) + (p 2))]) (rest := []) ⟨hx, hb, hml, hown, hts⟩ (mX3_root l D ck ((p 1) + (p 2)) _) (va_cwS 1 hts gX3_computedNeed_X3_root rfl rfl rfl (by decide +kernel) ⟨Nat.le_of_ble_eq_true rfl, Nat.le_of_ble_eq_true rfl⟩) (xpreS hN hK hP hD pm_none) rfl rfl hl.1 rfl (lv_room (Nat.le_of_ble_eq_true rfl)) dX3_computedNeed_51 ⟨Nat.le_of_ble_eq_true rfl, Nat.le_of_ble_eq_true rfl⟩) hP hD hS hA pm_none pm_none (fun H locs hP hD hS => ?_)
    refine lv_iconst (v := 2) hx hb dX3_computedNeed_54 (by decide) ?_
    refine lv_iadd hx hb dX3_computedNeed_55 ?_
    exact xiret hx hb hr hlk hP hD hS (show gX3_computedNeed p = ((gX3_root ((p 1) + (p 2))) + 2) from (Eq.trans (if_neg c_4_1) (Eq.trans (if_pos c_4_2) rfl))).symm rfl dX3_computedNeed_56
  refine lv_lookup (tgt := 57) (off := 53) hx hb dX3_computedNeed_4 (by decide) ((lv_osw c_4_1 (by decide)).trans ((lv_osw c_4_2 (by decide)).trans rfl)) (by decide) ?_
  refine lv_iconst (v := 3) hx hb dX3_computedNeed_57 (by decide) ?_
  exact xiret hx hb hr hlk hP hD hS (show gX3_computedNeed p = 3 from (Eq.trans (if_neg c_4_1) (Eq.trans (if_neg c_4_2) rfl))).symm rfl dX3_computedNeed_58

def rmX3_computedWant : Room := { frames := 0, cells := 0, slots := 0, locals := 0 }
def gX3_computedWant (p : Nat → Int32) : Int32 := (if (p 0) = 1 then (((p 2) + ((p 2) / 5)) + 2) else (if (p 0) = 2 then ((((p 1) + (p 2)) / 2) + 3) else ((p 2) + 2)))
set_option maxHeartbeats 4000000 in
set_option maxRecDepth 100000 in
theorem mX3_computedWant (l : Launch) (D : va_G) (ck : Nat → ClassId) (q : Nat) (p : Nat → Int32) : xMi l yX3_computedWant wsX3_computedWant rmX3_computedWant D ck [.ref q] (pW q p) (pW q p) (gX3_computedWant p) 0 0 := by
  refine xMet (by decide) rfl (Nat.le_of_ble_eq_true rfl) ?_
  intro zp ze s zm zb zt zc hx hb hr hml hown hts hlk hnm hN hK hP hD ls hl
  have hown : s.vm.findClass RX3 = some zm.cls := hown
  have hl : lv_has ls 1 [(0, .ref q)] := hl
  have hS : va_S (va_A (pW q p) s.heap.size) s.heap s.heap [] := va_S.rf
  have hA : ∀ zq : Nat, s.heap.size ≤ zq → va_A (pW q p) s.heap.size zq := fun zq h => Or.inr h
  have hinX3 : ∀ w ∈ u_ws RX3 TX3 5, w ∈ wsX3_computedWant := by decide +kernel
  refine lv_aload_n hx hb dX3_computedWant_0 rfl (lv_at hl 0 rfl) ?_
  refine va_get (D := D) (ci := 3) (v := .int (p 0)) (C := RX3) (T := TX3) (N := 5) hx hb hts hinX3 hown hK hP 0 rfl rfl 0 (by decide) (hts (.fieldLink RX3 29 "JoinGrants$Plan" "way" "I") (List.mem_of_getElem? (i := 1) rfl)) (fun _ h9 => h9) rfl dX3_computedWant_1 ?_
  by_cases c_4_1 : (p 0) = 1
  · --1
    refine lv_lookup (tgt := 32) (off := 28) hx hb dX3_computedWant_4 (by decide) (by rw [c_4_1]; decide) (by decide) ?_
    refine lv_aload_n hx hb dX3_computedWant_32 rfl (lv_at hl 0 rfl) ?_
    refine va_get (D := D) (ci := 3) (v := .int (p 2)) (C := RX3) (T := TX3) (N := 5) hx hb hts hinX3 hown hK hP 0 rfl rfl 2 (by decide) (hts (.fieldLink RX3 22 "JoinGrants$Plan" "right" "I") (List.mem_of_getElem? (i := 2) rfl)) (fun _ h9 => h9) rfl dX3_computedWant_33 ?_
    refine lv_aload_n hx hb dX3_computedWant_36 rfl (lv_at hl 0 rfl) ?_
    refine va_get (D := D) (ci := 3) (v := .int (p 2)) (C := RX3) (T := TX3) (N := 5) hx hb hts hinX3 hown hK hP 0 rfl rfl 2 (by decide) (hts (.fieldLink RX3 22 "JoinGrants$Plan" "right" "I") (List.mem_of_getElem? (i := 2) rfl)) (fun _ h9 => h9) rfl dX3_computedWant_37 ?_
    refine lv_iconst (v := 5) hx hb dX3_computedWant_40 (by decide) ?_
    refine lv_idiv hx hb dX3_computedWant_41 (by decide) ?_
    refine lv_iadd hx hb dX3_computedWant_42 ?_
    refine lv_iconst (v := 2) hx hb dX3_computedWant_43 (by decide) ?_
    refine lv_iadd hx hb dX3_computedWant_44 ?_
    exact xiret hx hb hr hlk hP hD hS (show gX3_computedWant p = (((p 2) + ((p 2) / 5)) + 2) from (Eq.trans (if_pos c_4_1) rfl)).symm rfl dX3_computedWant_45
  by_cases c_4_2 : (p 0) = 2
  · --2
    refine lv_lookup (tgt := 46) (off := 42) hx hb dX3_computedWant_4 (by decide) (by rw [c_4_2]; decide) (by decide) ?_
    refine lv_aload_n hx hb dX3_computedWant_46 rfl (lv_at hl 0 rfl) ?_
    refine va_get (D := D) (ci := 3) (v := .int (p 1)) (C := RX3) (T := TX3) (N := 5) hx hb hts hinX3 hown hK hP 0 rfl rfl 1 (by decide) (hts (.fieldLink RX3 18 "JoinGrants$Plan" "left" "I") (List.mem_of_getElem? (i := 3) rfl)) (fun _ h9 => h9) rfl dX3_computedWant_47 ?_
    refine lv_aload_n hx hb dX3_computedWant_50 rfl (lv_at hl 0 rfl) ?_
    refine va_get (D := D) (ci := 3) (v := .int (p 2)) (C := RX3) (T := TX3) (N := 5) hx hb hts hinX3 hown hK hP 0 rfl rfl 2 (by decide) (hts (.fieldLink RX3 22 "JoinGrants$Plan" "right" "I") (List.mem_of_getElem? (i := 2) rfl)) (fun _ h9 => h9) rfl dX3_computedWant_51 ?_
    refine lv_iadd hx hb dX3_computedWant_54 ?_
    refine lv_iconst (v := 2) hx hb dX3_computedWant_55 (by decide) ?_
    refine lv_idiv hx hb dX3_computedWant_56 (by decide) ?_
    refine lv_iconst (v := 3) hx hb dX3_computedWant_57 (by decide) ?_
    refine lv_iadd hx hb dX3_computedWant_58 ?_
    exact xiret hx hb hr hlk hP hD hS (show gX3_computedWant p = ((((p 1) + (p 2)) / 2) + 3) from (Eq.trans (if_neg c_4_1) (Eq.trans (if_pos c_4_2) rfl))).symm rfl dX3_computedWant_59
  refine lv_lookup (tgt := 60) (off := 56) hx hb dX3_computedWant_4 (by decide) ((lv_osw c_4_1 (by decide)).trans ((lv_osw c_4_2 (by decide)).trans rfl)) (by decide) ?_
  refine lv_aload_n hx hb dX3_computedWant_60 rfl (lv_at hl 0 rfl) ?_
  refine va_get (D := D) (ci := 3) (v := .int (p 2)) (C := RX3) (T := TX3) (N := 5) hx hb hts hinX3 hown hK hP 0 rfl rfl 2 (by decide) (hts (.fieldLink RX3 22 "JoinGrants$Plan" "right" "I") (List.mem_of_getElem? (i := 2) rfl)) (fun _ h9 => h9) rfl dX3_computedWant_61 ?_
  refine lv_iconst (v := 2) hx hb dX3_computedWant_64 (by decide) ?_
  refine lv_iadd hx hb dX3_computedWant_65 ?_
  exact xiret hx hb hr hlk hP hD hS (show gX3_computedWant p = ((p 2) + 2) from (Eq.trans (if_neg c_4_1) (Eq.trans (if_neg c_4_2) rfl))).symm rfl dX3_computedWant_66

def rmX3_changeWay : Room := { frames := 2, cells := 0, slots := 0, locals := 41 }
def gX3_changeWay (p : Nat → Int32) (a1 : Int32) : (Nat → Int32) := (upd (upd (upd p 0 a1) 3 (gX3_computedNeed (upd p 0 a1) )) 4 (if (gX3_computedNeed (upd p 0 a1) ) < (gX3_computedWant (upd (upd p 0 a1) 3 (gX3_computedNeed (upd p 0 a1) )) ) then (gX3_computedWant (upd (upd p 0 a1) 3 (gX3_computedNeed (upd p 0 a1) )) ) else (gX3_computedNeed (upd p 0 a1) )))
set_option maxHeartbeats 4000000 in
set_option maxRecDepth 100000 in
theorem mX3_changeWay (l : Launch) (D : va_G) (ck : Nat → ClassId) (q : Nat) (p : Nat → Int32) (a1 : Int32) : xMv l yX3_changeWay wsX3_changeWay rmX3_changeWay D ck [.ref q, .int a1] (pW q p) (pW q (gX3_changeWay p a1)) 0 0 := by
  refine xMet (by decide) rfl (Nat.le_of_ble_eq_true rfl) ?_
  intro zp ze s zm zb zt zc hx hb hr hml hown hts hlk hnm hN hK hP hD ls hl
  have hown : s.vm.findClass RX3 = some zm.cls := hown
  have hl : lv_has ls 2 [(0, .ref q), (1, .int a1)] := hl
  have hS : va_S (va_A (pW q p) s.heap.size) s.heap s.heap [] := va_S.rf
  have hA : ∀ zq : Nat, s.heap.size ≤ zq → va_A (pW q p) s.heap.size zq := fun zq h => Or.inr h
  have hinX3 : ∀ w ∈ u_ws RX3 TX3 5, w ∈ wsX3_changeWay := by decide +kernel
  refine lv_aload_n hx hb dX3_changeWay_0 rfl (lv_at hl 0 rfl) ?_
  refine lv_iload_n hx hb dX3_changeWay_1 rfl (lv_at hl 1 rfl) ?_
  refine va_put (D := D) (ci := 3) (v := .int a1) (ty := .int) (C := RX3) (T := TX3) (N := 5) hx hb hts hinX3 tyX3 tyX3_ok nmX3 hown hK hP hD hS 0 rfl rfl 0 (by decide) (hts (.fieldLink RX3 29 "JoinGrants$Plan" "way" "I") (List.mem_of_getElem? (i := 1) rfl)) (fun _ h9 => h9) rfl (by decide +kernel) rfl rfl (Nat.le_of_ble_eq_true rfl) dX3_changeWay_2 (fun H locs hP hD hS => ?_)
  have hP : va_P D vwCl (pW q (upd p 0 a1)) H := hP
  have hD : va_D (va_A (pW q p) s.heap.size) (pW q (upd p 0 a1)) := hD
  refine lv_aload_n hx hb dX3_changeWay_5 rfl (lv_at hl 0 rfl) ?_
  refine lv_aload_n hx hb dX3_changeWay_6 rfl (lv_at hl 0 rfl) ?_
  refine xreti (va_runV (As := []) (rest := [.ref q]) ⟨hx, hb, hml, hown, hts⟩ (mX3_computedNeed l D ck q (upd p 0 a1)  _) (cwV 0 hts gX3_changeWay_X3_computedNeed rfl rfl rfl (by decide +kernel) ⟨Nat.le_of_ble_eq_true rfl, Nat.le_of_ble_eq_true rfl⟩) (xpreV hN hK hP hD pm_all 0 rfl rfl rfl) rfl rfl hl.1 rfl (lv_room (Nat.le_of_ble_eq_true rfl)) dX3_changeWay_7 ⟨Nat.le_of_ble_eq_true rfl, Nat.le_of_ble_eq_true rfl⟩) hP hD hS hA pm_all pm_all' (fun H locs hP hD hS => ?_)
  refine va_put (D := D) (ci := 3) (v := .int (gX3_computedNeed (upd p 0 a1) )) (ty := .int) (C := RX3) (T := TX3) (N := 5) hx hb hts hinX3 tyX3 tyX3_ok nmX3 hown hK hP hD hS 0 rfl rfl 3 (by decide) (hts (.fieldLink RX3 36 "JoinGrants$Plan" "need" "I") (List.mem_of_getElem? (i := 2) rfl)) (fun _ h9 => h9) rfl (by decide +kernel) rfl rfl (Nat.le_of_ble_eq_true rfl) dX3_changeWay_10 (fun H locs hP hD hS => ?_)
  have hP : va_P D vwCl (pW q (upd (upd p 0 a1) 3 (gX3_computedNeed (upd p 0 a1) ))) H := hP
  have hD : va_D (va_A (pW q p) s.heap.size) (pW q (upd (upd p 0 a1) 3 (gX3_computedNeed (upd p 0 a1) ))) := hD
  refine lv_aload_n hx hb dX3_changeWay_13 rfl (lv_at hl 0 rfl) ?_
  refine lv_aload_n hx hb dX3_changeWay_14 rfl (lv_at hl 0 rfl) ?_
  refine va_get (D := D) (ci := 3) (v := .int (gX3_computedNeed (upd p 0 a1) )) (C := RX3) (T := TX3) (N := 5) hx hb hts hinX3 hown hK hP 0 rfl rfl 3 (by decide) (hts (.fieldLink RX3 36 "JoinGrants$Plan" "need" "I") (List.mem_of_getElem? (i := 2) rfl)) (fun _ h9 => h9) rfl dX3_changeWay_15 ?_
  refine lv_aload_n hx hb dX3_changeWay_18 rfl (lv_at hl 0 rfl) ?_
  refine xreti (va_runV (As := []) (rest := [.int (gX3_computedNeed (upd p 0 a1) ), .ref q]) ⟨hx, hb, hml, hown, hts⟩ (mX3_computedWant l D ck q (upd (upd p 0 a1) 3 (gX3_computedNeed (upd p 0 a1) ))  _) (cwV 0 hts gX3_changeWay_X3_computedWant rfl rfl rfl (by decide +kernel) ⟨Nat.le_of_ble_eq_true rfl, Nat.le_of_ble_eq_true rfl⟩) (xpreV hN hK hP hD pm_all 0 rfl rfl rfl) rfl rfl hl.1 rfl (lv_room (Nat.le_of_ble_eq_true rfl)) dX3_changeWay_19 ⟨Nat.le_of_ble_eq_true rfl, Nat.le_of_ble_eq_true rfl⟩) hP hD hS hA pm_all pm_all' (fun H locs hP hD hS => ?_)
  refine va_mmax hx hb (hml.trans hl.1.symm) hown (hts (.methodLink RX3 42 Lib.Math.max.name) (List.mem_of_getElem? (i := 3) rfl)) (hts (.static Lib.Math.max.name) (List.mem_of_getElem? (i := 4) rfl)) (hts (.initialized "java/lang/Math") (List.mem_of_getElem? (i := 5) rfl)) (hts (.code Lib.Math.max.name Lib.Math.max.code 2 (some .int)) (List.mem_of_getElem? (i := 6) rfl)) (Nat.le_of_ble_eq_true rfl) (Nat.le_of_ble_eq_true rfl) (Nat.le_of_ble_eq_true rfl) (Nat.le_of_ble_eq_true rfl) dX3_changeWay_22 ?_
  refine va_put (D := D) (ci := 3) (v := .int (if (gX3_computedNeed (upd p 0 a1) ) < (gX3_computedWant (upd (upd p 0 a1) 3 (gX3_computedNeed (upd p 0 a1) )) ) then (gX3_computedWant (upd (upd p 0 a1) 3 (gX3_computedNeed (upd p 0 a1) )) ) else (gX3_computedNeed (upd p 0 a1) ))) (ty := .int) (C := RX3) (T := TX3) (N := 5) hx hb hts hinX3 tyX3 tyX3_ok nmX3 hown hK hP hD hS 0 rfl rfl 4 (by decide) (hts (.fieldLink RX3 48 "JoinGrants$Plan" "want" "I") (List.mem_of_getElem? (i := 7) rfl)) (fun _ h9 => h9) rfl (by decide +kernel) rfl rfl (Nat.le_of_ble_eq_true rfl) dX3_changeWay_25 (fun H locs hP hD hS => ?_)
  have hP : va_P D vwCl (pW q (upd (upd (upd p 0 a1) 3 (gX3_computedNeed (upd p 0 a1) )) 4 (if (gX3_computedNeed (upd p 0 a1) ) < (gX3_computedWant (upd (upd p 0 a1) 3 (gX3_computedNeed (upd p 0 a1) )) ) then (gX3_computedWant (upd (upd p 0 a1) 3 (gX3_computedNeed (upd p 0 a1) )) ) else (gX3_computedNeed (upd p 0 a1) )))) H := hP
  have hD : va_D (va_A (pW q p) s.heap.size) (pW q (upd (upd (upd p 0 a1) 3 (gX3_computedNeed (upd p 0 a1) )) 4 (if (gX3_computedNeed (upd p 0 a1) ) < (gX3_computedWant (upd (upd p 0 a1) 3 (gX3_computedNeed (upd p 0 a1) )) ) then (gX3_computedWant (upd (upd p 0 a1) 3 (gX3_computedNeed (upd p 0 a1) )) ) else (gX3_computedNeed (upd p 0 a1) )))) := hD
  exact xvret hx hb hr hlk hP hD hS (congrArg (fun z => pW q z) (show gX3_changeWay p a1 = (upd (upd (upd p 0 a1) 3 (gX3_computedNeed (upd p 0 a1) )) 4 (if (gX3_computedNeed (upd p 0 a1) ) < (gX3_computedWant (upd (upd p 0 a1) 3 (gX3_computedNeed (upd p 0 a1) )) ) then (gX3_computedWant (upd (upd p 0 a1) 3 (gX3_computedNeed (upd p 0 a1) )) ) else (gX3_computedNeed (upd p 0 a1) ))) from rfl)).symm dX3_changeWay_28

def rmX3_make : Room := { frames := 3, cells := 0, slots := 0, locals := 62 }
def gX3_make (p : Nat → Int32) (a1 : Int32) (a2 : Int32) (a3 : Int32) : (Nat → Int32) := (gX3_changeWay (upd (upd p 1 a2) 2 a3) a1)
set_option maxHeartbeats 4000000 in
set_option maxRecDepth 100000 in
theorem mX3_make (l : Launch) (D : va_G) (ck : Nat → ClassId) (q : Nat) (p : Nat → Int32) (a1 : Int32) (a2 : Int32) (a3 : Int32) : xMv l yX3_make wsX3_make rmX3_make D ck [.ref q, .int a1, .int a2, .int a3] (pW q p) (pW q (gX3_make p a1 a2 a3)) 0 0 := by
  refine xMet (by decide) rfl (Nat.le_of_ble_eq_true rfl) ?_
  intro zp ze s zm zb zt zc hx hb hr hml hown hts hlk hnm hN hK hP hD ls hl
  have hown : s.vm.findClass RX3 = some zm.cls := hown
  have hl : lv_has ls 4 [(0, .ref q), (1, .int a1), (2, .int a2), (3, .int a3)] := hl
  have hS : va_S (va_A (pW q p) s.heap.size) s.heap s.heap [] := va_S.rf
  have hA : ∀ zq : Nat, s.heap.size ≤ zq → va_A (pW q p) s.heap.size zq := fun zq h => Or.inr h
  have hinX3 : ∀ w ∈ u_ws RX3 TX3 5, w ∈ wsX3_make := by decide +kernel
  refine lv_aload_n hx hb dX3_make_0 rfl (lv_at hl 0 rfl) ?_
  refine lv_iload_n hx hb dX3_make_1 rfl (lv_at hl 2 rfl) ?_
  refine va_put (D := D) (ci := 3) (v := .int a2) (ty := .int) (C := RX3) (T := TX3) (N := 5) hx hb hts hinX3 tyX3 tyX3_ok nmX3 hown hK hP hD hS 0 rfl rfl 1 (by decide) (hts (.fieldLink RX3 18 "JoinGrants$Plan" "left" "I") (List.mem_of_getElem? (i := 1) rfl)) (fun _ h9 => h9) rfl (by decide +kernel) rfl rfl (Nat.le_of_ble_eq_true rfl) dX3_make_2 (fun H locs hP hD hS => ?_)
  have hP : va_P D vwCl (pW q (upd p 1 a2)) H := hP
  have hD : va_D (va_A (pW q p) s.heap.size) (pW q (upd p 1 a2)) := hD
  refine lv_aload_n hx hb dX3_make_5 rfl (lv_at hl 0 rfl) ?_
  refine lv_iload_n hx hb dX3_make_6 rfl (lv_at hl 3 rfl) ?_
  refine va_put (D := D) (ci := 3) (v := .int a3) (ty := .int) (C := RX3) (T := TX3) (N := 5) hx hb hts hinX3 tyX3 tyX3_ok nmX3 hown hK hP hD hS 0 rfl rfl 2 (by decide) (hts (.fieldLink RX3 22 "JoinGrants$Plan" "right" "I") (List.mem_of_getElem? (i := 2) rfl)) (fun _ h9 => h9) rfl (by decide +kernel) rfl rfl (Nat.le_of_ble_eq_true rfl) dX3_make_7 (fun H locs hP hD hS => ?_)
  have hP : va_P D vwCl (pW q (upd (upd p 1 a2) 2 a3)) H := hP
  have hD : va_D (va_A (pW q p) s.heap.size) (pW q (upd (upd p 1 a2) 2 a3)) := hD
  refine lv_aload_n hx hb dX3_make_10 rfl (lv_at hl 0 rfl) ?_
  refine lv_iload_n hx hb dX3_make_11 rfl (lv_at hl 1 rfl) ?_
  refine xretv (va_runV (As := [.int a1]) (rest := []) ⟨hx, hb, hml, hown, hts⟩ (mX3_changeWay l D ck q (upd (upd p 1 a2) 2 a3) a1 _) (cwV 1 hts gX3_make_X3_changeWay rfl rfl rfl (by decide +kernel) ⟨Nat.le_of_ble_eq_true rfl, Nat.le_of_ble_eq_true rfl⟩) (xpreV hN hK hP hD pm_all 0 rfl rfl rfl) rfl rfl hl.1 rfl (lv_room (Nat.le_of_ble_eq_true rfl)) dX3_make_12 ⟨Nat.le_of_ble_eq_true rfl, Nat.le_of_ble_eq_true rfl⟩) hP hD hS hA pm_all pm_all' (fun H locs hP hD hS => ?_)
  have hP : va_P D vwCl (pW q (gX3_changeWay (upd (upd p 1 a2) 2 a3) a1)) H := hP
  have hD : va_D (va_A (pW q p) s.heap.size) (pW q (gX3_changeWay (upd (upd p 1 a2) 2 a3) a1)) := hD
  exact xvret hx hb hr hlk hP hD hS (congrArg (fun z => pW q z) (show gX3_make p a1 a2 a3 = (gX3_changeWay (upd (upd p 1 a2) 2 a3) a1) from rfl)).symm dX3_make_15

def rmX3_spillsWith : Room := { frames := 0, cells := 0, slots := 0, locals := 0 }
def gX3_spillsWith (p : Nat → Int32) (a1 : Int32) : Int32 := (if (p 0) = 0 then 0 else (if (p 4) ≤ a1 then 0 else 1))
set_option maxHeartbeats 4000000 in
set_option maxRecDepth 100000 in
theorem mX3_spillsWith (l : Launch) (D : va_G) (ck : Nat → ClassId) (q : Nat) (p : Nat → Int32) (a1 : Int32) : xMi l yX3_spillsWith wsX3_spillsWith rmX3_spillsWith D ck [.ref q, .int a1] (pW q p) (pW q p) (gX3_spillsWith p a1) 0 0 := by
  refine xMet (by decide) rfl (Nat.le_of_ble_eq_true rfl) ?_
  intro zp ze s zm zb zt zc hx hb hr hml hown hts hlk hnm hN hK hP hD ls hl
  have hown : s.vm.findClass RX3 = some zm.cls := hown
  have hl : lv_has ls 2 [(0, .ref q), (1, .int a1)] := hl
  have hS : va_S (va_A (pW q p) s.heap.size) s.heap s.heap [] := va_S.rf
  have hA : ∀ zq : Nat, s.heap.size ≤ zq → va_A (pW q p) s.heap.size zq := fun zq h => Or.inr h
  have hinX3 : ∀ w ∈ u_ws RX3 TX3 5, w ∈ wsX3_spillsWith := by decide +kernel
  refine lv_aload_n hx hb dX3_spillsWith_0 rfl (lv_at hl 0 rfl) ?_
  refine va_get (D := D) (ci := 3) (v := .int (p 0)) (C := RX3) (T := TX3) (N := 5) hx hb hts hinX3 hown hK hP 0 rfl rfl 0 (by decide) (hts (.fieldLink RX3 29 "JoinGrants$Plan" "way" "I") (List.mem_of_getElem? (i := 1) rfl)) (fun _ h9 => h9) rfl dX3_spillsWith_1 ?_
  refine lv_if_eq (tgt := 19) hx hb dX3_spillsWith_4 (by decide) (fun c_4 => ?_) (fun c_4 => ?_)
  · --t
    refine lv_iconst (v := 0) hx hb dX3_spillsWith_19 (by decide) ?_
    exact xzret hx hb hr hlk hP hD hS (Or.inl rfl) (show gX3_spillsWith p a1 = 0 from (Eq.trans (if_pos c_4) rfl)).symm rfl dX3_spillsWith_20
  · --f
    refine lv_iload_n hx hb dX3_spillsWith_7 rfl (lv_at hl 1 rfl) ?_
    refine lv_aload_n hx hb dX3_spillsWith_8 rfl (lv_at hl 0 rfl) ?_
    refine va_get (D := D) (ci := 3) (v := .int (p 4)) (C := RX3) (T := TX3) (N := 5) hx hb hts hinX3 hown hK hP 0 rfl rfl 4 (by decide) (hts (.fieldLink RX3 48 "JoinGrants$Plan" "want" "I") (List.mem_of_getElem? (i := 2) rfl)) (fun _ h9 => h9) rfl dX3_spillsWith_9 ?_
    refine lv_icmp_ge (tgt := 19) hx hb dX3_spillsWith_12 (by decide) (fun c_12 => ?_) (fun c_12 => ?_)
    · --t
      refine lv_iconst (v := 0) hx hb dX3_spillsWith_19 (by decide) ?_
      exact xzret hx hb hr hlk hP hD hS (Or.inl rfl) (show gX3_spillsWith p a1 = 0 from (Eq.trans (if_neg c_4) (Eq.trans (if_pos c_12) rfl))).symm rfl dX3_spillsWith_20
    · --f
      refine lv_iconst (v := 1) hx hb dX3_spillsWith_15 (by decide) ?_
      refine lv_goto (tgt := 20) hx hb dX3_spillsWith_16 (by decide) ?_
      exact xzret hx hb hr hlk hP hD hS (Or.inr rfl) (show gX3_spillsWith p a1 = 1 from (Eq.trans (if_neg c_4) (Eq.trans (if_neg c_12) rfl))).symm rfl dX3_spillsWith_20

def rmX3_workWith : Room := { frames := 0, cells := 0, slots := 0, locals := 0 }
def gX3_workWith_L82 (p : Nat → Int32) (a1 : Int32) : Nat → Nat → Int32 → Int32
  | 0, m1, r1 => (if r1 ≤ 1 then (((p 1) + (p 2)) * ((2 * (nI m1)) + 1)) else (((p 1) + (p 2)) * ((2 * (nI m1)) + 1)))
  | f + 1, m1, r1 => (if r1 ≤ 1 then (((p 1) + (p 2)) * ((2 * (nI m1)) + 1)) else (gX3_workWith_L82 p a1 f (m1 + 1) (((r1 + a1) - 2) / (a1 - 1))))
def gX3_workWith (p : Nat → Int32) (a1 : Int32) : Int32 := (if 3 ≤ a1 then (if (p 0) = 0 then ((p 1) + ((p 2) * ((((p 1) + a1) - 3) / (a1 - 2)))) else (if (p 0) = 1 then (if a1 < (p 4) then (3 * ((p 1) + (p 2))) else ((p 1) + (p 2))) else (gX3_workWith_L82 p a1 ((p 1 + p 2).toNatClampNeg) 0 (((((p 1) + (p 2)) + a1) - 1) / a1)))) else 0)
set_option maxHeartbeats 4000000 in
set_option maxRecDepth 100000 in
theorem mX3_workWith (l : Launch) (D : va_G) (ck : Nat → ClassId) (q : Nat) (p : Nat → Int32) (a1 : Int32) : xMi l yX3_workWith wsX3_workWith rmX3_workWith D ck [.ref q, .int a1] (pW q p) (pW q p) (gX3_workWith p a1) 0 0 := by
  refine xMet (by decide) rfl (Nat.le_of_ble_eq_true rfl) ?_
  intro zp ze s zm zb zt zc hx hb hr hml hown hts hlk hnm hN hK hP hD ls hl
  have hown : s.vm.findClass RX3 = some zm.cls := hown
  have hl : lv_has ls 5 [(0, .ref q), (1, .int a1)] := hl
  have hS : va_S (va_A (pW q p) s.heap.size) s.heap s.heap [] := va_S.rf
  have hA : ∀ zq : Nat, s.heap.size ≤ zq → va_A (pW q p) s.heap.size zq := fun zq h => Or.inr h
  have hinX3 : ∀ w ∈ u_ws RX3 TX3 5, w ∈ wsX3_workWith := by decide +kernel
  refine lv_iload_n hx hb dX3_workWith_0 rfl (lv_at hl 1 rfl) ?_
  refine lv_iconst (v := 3) hx hb dX3_workWith_1 (by decide) ?_
  refine lv_icmp_ge (tgt := 7) hx hb dX3_workWith_2 (by decide) (fun c_2 => ?_) (fun c_2 => ?_)
  · --t
    refine lv_aload_n hx hb dX3_workWith_7 rfl (lv_at hl 0 rfl) ?_
    refine va_get (D := D) (ci := 3) (v := .int (p 1)) (C := RX3) (T := TX3) (N := 5) hx hb hts hinX3 hown hK hP 0 rfl rfl 1 (by decide) (hts (.fieldLink RX3 18 "JoinGrants$Plan" "left" "I") (List.mem_of_getElem? (i := 1) rfl)) (fun _ h9 => h9) rfl dX3_workWith_8 ?_
    refine lv_aload_n hx hb dX3_workWith_11 rfl (lv_at hl 0 rfl) ?_
    refine va_get (D := D) (ci := 3) (v := .int (p 2)) (C := RX3) (T := TX3) (N := 5) hx hb hts hinX3 hown hK hP 0 rfl rfl 2 (by decide) (hts (.fieldLink RX3 22 "JoinGrants$Plan" "right" "I") (List.mem_of_getElem? (i := 2) rfl)) (fun _ h9 => h9) rfl dX3_workWith_12 ?_
    refine lv_iadd hx hb dX3_workWith_15 ?_
    refine lv_istore_n (lv' := [(2, .int ((p 1) + (p 2))), (0, .ref q), (1, .int a1)]) hx hb dX3_workWith_16 rfl hl (by decide) rfl (fun ls hl => ?_)
    refine lv_aload_n hx hb dX3_workWith_17 rfl (lv_at hl 1 rfl) ?_
    refine va_get (D := D) (ci := 3) (v := .int (p 0)) (C := RX3) (T := TX3) (N := 5) hx hb hts hinX3 hown hK hP 0 rfl rfl 0 (by decide) (hts (.fieldLink RX3 29 "JoinGrants$Plan" "way" "I") (List.mem_of_getElem? (i := 3) rfl)) (fun _ h9 => h9) rfl dX3_workWith_18 ?_
    refine lv_if_ne (tgt := 47) hx hb dX3_workWith_21 (by decide) (fun c_21 => ?_) (fun c_21 => ?_)
    · --t
      refine lv_aload_n hx hb dX3_workWith_47 rfl (lv_at hl 1 rfl) ?_
      refine va_get (D := D) (ci := 3) (v := .int (p 0)) (C := RX3) (T := TX3) (N := 5) hx hb hts hinX3 hown hK hP 0 rfl rfl 0 (by decide) (hts (.fieldLink RX3 29 "JoinGrants$Plan" "way" "I") (List.mem_of_getElem? (i := 3) rfl)) (fun _ h9 => h9) rfl dX3_workWith_48 ?_
      refine lv_iconst (v := 1) hx hb dX3_workWith_51 (by decide) ?_
      refine lv_icmp_ne (tgt := 71) hx hb dX3_workWith_52 (by decide) (fun c_52 => ?_) (fun c_52 => ?_)
      · --t
        refine lv_iload_n hx hb dX3_workWith_71 rfl (lv_at hl 0 rfl) ?_
        refine lv_iload_n hx hb dX3_workWith_72 rfl (lv_at hl 2 rfl) ?_
        refine lv_iadd hx hb dX3_workWith_73 ?_
        refine lv_iconst (v := 1) hx hb dX3_workWith_74 (by decide) ?_
        refine lv_isub hx hb dX3_workWith_75 ?_
        refine lv_iload_n hx hb dX3_workWith_76 rfl (lv_at hl 2 rfl) ?_
        refine lv_idiv hx hb dX3_workWith_77 (x_d0 c_2) ?_
        refine lv_istore_n (lv' := [(3, .int (((((p 1) + (p 2)) + a1) - 1) / a1)), (2, .int ((p 1) + (p 2))), (0, .ref q), (1, .int a1)]) hx hb dX3_workWith_78 rfl hl (by decide) rfl (fun ls hl => ?_)
        refine lv_iconst (v := (nI 0)) hx hb dX3_workWith_79 (by decide) ?_
        refine lv_istore (lv' := [(4, .int (nI 0)), (3, .int (((((p 1) + (p 2)) + a1) - 1) / a1)), (2, .int ((p 1) + (p 2))), (0, .ref q), (1, .int a1)]) hx hb dX3_workWith_80 hl (by decide) rfl (fun ls hl => ?_)
        have loop82 : ∀ (f : Nat) (m1 : Nat) (r1 : Int32), m1 + f = (p 1 + p 2).toNatClampNeg → gX3_workWith p a1 = gX3_workWith_L82 p a1 f m1 r1 → ∀ (H : Heap) (locs : List Loc) (ls : Array Slot), va_P D vwCl (pW q p) H → va_D (va_A (pW q p) s.heap.size) (pW q p) → va_S (va_A (pW q p) s.heap.size) s.heap H locs → lv_has ls 5 [(0, .ref q), (1, .int a1), (2, .int ((p 1) + (p 2))), (3, .int r1), (4, .int (nI m1))] → W zp l ze rmX3_workWith s zm ([.ref q, .int a1] : List Value).toArray zb zt zc H locs 0 0 (MQ zb (xQi D (pW q p) (pW q p) (gX3_workWith p a1) s.heap.size) ([.ref q, .int a1] : List Value).toArray s 0 0 (va_A (pW q p) s.heap.size)) (F0 zm 82 ls []) := by
          intro f
          induction f with
          | zero =>
            intro m1 r1 hf hg H locs ls hP hD hS hl
            refine lv_iload_n hx hb dX3_workWith_82 rfl (lv_at hl 3 rfl) ?_
            refine lv_iconst (v := 1) hx hb dX3_workWith_83 (by decide) ?_
            refine lv_icmp_le (tgt := 109) hx hb dX3_workWith_84 (by decide) (fun c_84 => ?_) (fun c_84 => ?_)
            · --t
              refine lv_iload_n hx hb dX3_workWith_109 rfl (lv_at hl 2 rfl) ?_
              refine lv_iconst (v := 2) hx hb dX3_workWith_110 (by decide) ?_
              refine lv_iload hx hb dX3_workWith_111 (lv_at hl 4 rfl) ?_
              refine lv_imul hx hb dX3_workWith_113 ?_
              refine lv_iconst (v := 1) hx hb dX3_workWith_114 (by decide) ?_
              refine lv_iadd hx hb dX3_workWith_115 ?_
              refine lv_imul hx hb dX3_workWith_116 ?_
              exact xiret hx hb hr hlk hP hD hS (hg.trans (show gX3_workWith_L82 p a1 0 m1 r1 = (((p 1) + (p 2)) * ((2 * (nI m1)) + 1)) from (Eq.trans (if_pos c_84) rfl))).symm rfl dX3_workWith_117
            · --f
              refine lv_iload hx hb dX3_workWith_87 (lv_at hl 4 rfl) ?_
              refine lv_iload_n hx hb dX3_workWith_89 rfl (lv_at hl 2 rfl) ?_
              refine lv_icmp_ge (tgt := 109) hx hb dX3_workWith_90 (by decide) (fun c_90 => ?_) (fun c_90 => ?_)
              · --t
                refine lv_iload_n hx hb dX3_workWith_109 rfl (lv_at hl 2 rfl) ?_
                refine lv_iconst (v := 2) hx hb dX3_workWith_110 (by decide) ?_
                refine lv_iload hx hb dX3_workWith_111 (lv_at hl 4 rfl) ?_
                refine lv_imul hx hb dX3_workWith_113 ?_
                refine lv_iconst (v := 1) hx hb dX3_workWith_114 (by decide) ?_
                refine lv_iadd hx hb dX3_workWith_115 ?_
                refine lv_imul hx hb dX3_workWith_116 ?_
                exact xiret hx hb hr hlk hP hD hS (hg.trans (show gX3_workWith_L82 p a1 0 m1 r1 = (((p 1) + (p 2)) * ((2 * (nI m1)) + 1)) from (Eq.trans (if_neg c_84) rfl))).symm rfl dX3_workWith_117
              · --f
                exact absurd (cl_le (by omega) (Nat.lt_of_le_of_lt (by omega) (x_clt (x := p 1 + p 2)))) c_90
          | succ f ih82 =>
            intro m1 r1 hf hg H locs ls hP hD hS hl
            refine lv_iload_n hx hb dX3_workWith_82 rfl (lv_at hl 3 rfl) ?_
            refine lv_iconst (v := 1) hx hb dX3_workWith_83 (by decide) ?_
            refine lv_icmp_le (tgt := 109) hx hb dX3_workWith_84 (by decide) (fun c_84 => ?_) (fun c_84 => ?_)
            · --t
              refine lv_iload_n hx hb dX3_workWith_109 rfl (lv_at hl 2 rfl) ?_
              refine lv_iconst (v := 2) hx hb dX3_workWith_110 (by decide) ?_
              refine lv_iload hx hb dX3_workWith_111 (lv_at hl 4 rfl) ?_
              refine lv_imul hx hb dX3_workWith_113 ?_
              refine lv_iconst (v := 1) hx hb dX3_workWith_114 (by decide) ?_
              refine lv_iadd hx hb dX3_workWith_115 ?_
              refine lv_imul hx hb dX3_workWith_116 ?_
              exact xiret hx hb hr hlk hP hD hS (hg.trans (show gX3_workWith_L82 p a1 (f + 1) m1 r1 = (((p 1) + (p 2)) * ((2 * (nI m1)) + 1)) from (Eq.trans (if_pos c_84) rfl))).symm rfl dX3_workWith_117
            · --f
              refine lv_iload hx hb dX3_workWith_87 (lv_at hl 4 rfl) ?_
              refine lv_iload_n hx hb dX3_workWith_89 rfl (lv_at hl 2 rfl) ?_
              refine lv_icmp_ge (tgt := 109) hx hb dX3_workWith_90 (by decide) (fun c_90 => ?_) (fun c_90 => ?_)
              · --t
                exact absurd c_90 (cl_lt (by omega))
              · --f
                refine lv_iload_n hx hb dX3_workWith_93 rfl (lv_at hl 3 rfl) ?_
                refine lv_iload_n hx hb dX3_workWith_94 rfl (lv_at hl 1 rfl) ?_
                refine lv_iadd hx hb dX3_workWith_95 ?_
                refine lv_iconst (v := 2) hx hb dX3_workWith_96 (by decide) ?_
                refine lv_isub hx hb dX3_workWith_97 ?_
                refine lv_iload_n hx hb dX3_workWith_98 rfl (lv_at hl 1 rfl) ?_
                refine lv_iconst (v := 1) hx hb dX3_workWith_99 (by decide) ?_
                refine lv_isub hx hb dX3_workWith_100 ?_
                refine lv_idiv hx hb dX3_workWith_101 (x_d1 c_2) ?_
                refine lv_istore_n (lv' := [(3, .int (((r1 + a1) - 2) / (a1 - 1))), (0, .ref q), (1, .int a1), (2, .int ((p 1) + (p 2))), (4, .int (nI m1))]) hx hb dX3_workWith_102 rfl hl (by decide) rfl (fun ls hl => ?_)
                refine lv_iinc (v := (nI (m1 + 1))) (lv' := [(4, .int (nI (m1 + 1))), (3, .int (((r1 + a1) - 2) / (a1 - 1))), (0, .ref q), (1, .int a1), (2, .int ((p 1) + (p 2)))]) hx hb dX3_workWith_103 hl (k := 4) rfl (nI_1 m1) (by decide) rfl (fun ls hl => ?_)
                refine lv_goto (tgt := 82) hx hb dX3_workWith_106 (by decide) ?_
                exact ih82 (m1 + 1) (((r1 + a1) - 2) / (a1 - 1)) (by omega) (hg.trans (show gX3_workWith_L82 p a1 (f + 1) m1 r1 = (gX3_workWith_L82 p a1 f (m1 + 1) (((r1 + a1) - 2) / (a1 - 1))) from (Eq.trans (if_neg c_84) rfl))) _ _ _ hP hD hS (lv_sub hl [2, 3, 4, 1, 0] rfl)
        exact loop82 ((p 1 + p 2).toNatClampNeg) 0 (((((p 1) + (p 2)) + a1) - 1) / a1) (by omega) (show gX3_workWith p a1 = (gX3_workWith_L82 p a1 ((p 1 + p 2).toNatClampNeg) 0 (((((p 1) + (p 2)) + a1) - 1) / a1)) from (Eq.trans (if_pos c_2) (Eq.trans (if_neg c_21) (Eq.trans (if_neg c_52) rfl)))) _ _ _ hP hD hS (lv_sub hl [3, 4, 2, 1, 0] rfl)
      · --f
        refine lv_iload_n hx hb dX3_workWith_55 rfl (lv_at hl 2 rfl) ?_
        refine lv_aload_n hx hb dX3_workWith_56 rfl (lv_at hl 1 rfl) ?_
        refine va_get (D := D) (ci := 3) (v := .int (p 4)) (C := RX3) (T := TX3) (N := 5) hx hb hts hinX3 hown hK hP 0 rfl rfl 4 (by decide) (hts (.fieldLink RX3 48 "JoinGrants$Plan" "want" "I") (List.mem_of_getElem? (i := 4) rfl)) (fun _ h9 => h9) rfl dX3_workWith_57 ?_
        refine lv_icmp_lt (tgt := 67) hx hb dX3_workWith_60 (by decide) (fun c_60 => ?_) (fun c_60 => ?_)
        · --t
          refine lv_iconst (v := 3) hx hb dX3_workWith_67 (by decide) ?_
          refine lv_iload_n hx hb dX3_workWith_68 rfl (lv_at hl 0 rfl) ?_
          refine lv_imul hx hb dX3_workWith_69 ?_
          exact xiret hx hb hr hlk hP hD hS (show gX3_workWith p a1 = (3 * ((p 1) + (p 2))) from (Eq.trans (if_pos c_2) (Eq.trans (if_neg c_21) (Eq.trans (if_pos c_52) (Eq.trans (if_pos c_60) rfl))))).symm rfl dX3_workWith_70
        · --f
          refine lv_iload_n hx hb dX3_workWith_63 rfl (lv_at hl 0 rfl) ?_
          refine lv_goto (tgt := 70) hx hb dX3_workWith_64 (by decide) ?_
          exact xiret hx hb hr hlk hP hD hS (show gX3_workWith p a1 = ((p 1) + (p 2)) from (Eq.trans (if_pos c_2) (Eq.trans (if_neg c_21) (Eq.trans (if_pos c_52) (Eq.trans (if_neg c_60) rfl))))).symm rfl dX3_workWith_70
    · --f
      refine lv_aload_n hx hb dX3_workWith_24 rfl (lv_at hl 1 rfl) ?_
      refine va_get (D := D) (ci := 3) (v := .int (p 1)) (C := RX3) (T := TX3) (N := 5) hx hb hts hinX3 hown hK hP 0 rfl rfl 1 (by decide) (hts (.fieldLink RX3 18 "JoinGrants$Plan" "left" "I") (List.mem_of_getElem? (i := 1) rfl)) (fun _ h9 => h9) rfl dX3_workWith_25 ?_
      refine lv_aload_n hx hb dX3_workWith_28 rfl (lv_at hl 1 rfl) ?_
      refine va_get (D := D) (ci := 3) (v := .int (p 2)) (C := RX3) (T := TX3) (N := 5) hx hb hts hinX3 hown hK hP 0 rfl rfl 2 (by decide) (hts (.fieldLink RX3 22 "JoinGrants$Plan" "right" "I") (List.mem_of_getElem? (i := 2) rfl)) (fun _ h9 => h9) rfl dX3_workWith_29 ?_
      refine lv_aload_n hx hb dX3_workWith_32 rfl (lv_at hl 1 rfl) ?_
      refine va_get (D := D) (ci := 3) (v := .int (p 1)) (C := RX3) (T := TX3) (N := 5) hx hb hts hinX3 hown hK hP 0 rfl rfl 1 (by decide) (hts (.fieldLink RX3 18 "JoinGrants$Plan" "left" "I") (List.mem_of_getElem? (i := 1) rfl)) (fun _ h9 => h9) rfl dX3_workWith_33 ?_
      refine lv_iload_n hx hb dX3_workWith_36 rfl (lv_at hl 2 rfl) ?_
      refine lv_iadd hx hb dX3_workWith_37 ?_
      refine lv_iconst (v := 3) hx hb dX3_workWith_38 (by decide) ?_
      refine lv_isub hx hb dX3_workWith_39 ?_
      refine lv_iload_n hx hb dX3_workWith_40 rfl (lv_at hl 2 rfl) ?_
      refine lv_iconst (v := 2) hx hb dX3_workWith_41 (by decide) ?_
      refine lv_isub hx hb dX3_workWith_42 ?_
      refine lv_idiv hx hb dX3_workWith_43 (x_d2 c_2) ?_
      refine lv_imul hx hb dX3_workWith_44 ?_
      refine lv_iadd hx hb dX3_workWith_45 ?_
      exact xiret hx hb hr hlk hP hD hS (show gX3_workWith p a1 = ((p 1) + ((p 2) * ((((p 1) + a1) - 3) / (a1 - 2)))) from (Eq.trans (if_pos c_2) (Eq.trans (if_pos c_21) rfl))).symm rfl dX3_workWith_46
  · --f
    refine lv_iconst (v := 0) hx hb dX3_workWith_5 (by decide) ?_
    exact xiret hx hb hr hlk hP hD hS (show gX3_workWith p a1 = 0 from (Eq.trans (if_neg c_2) rfl)).symm rfl dX3_workWith_6
end
section
set_option maxRecDepth 20000 in
theorem ggX1_init_X3_init : GoodIn wsX1_init wsX3_init := goodIn_r _ [11, 12, 2, 3] (by decide +kernel) (by decide +kernel)
set_option maxRecDepth 20000 in
theorem gX1_init_X3_init_n9 : GoodIn wsX1_init (wsX3_init) := ggX1_init_X3_init
theorem dX1_init_0 : decode cX1_init 0 = .ok (.aload_n 0, 1) := by decide +kernel
theorem dX1_init_1 : decode cX1_init 1 = .ok (.invokespecial 1, 3) := by decide +kernel
theorem dX1_init_4 : decode cX1_init 4 = .ok (.aload_n 0, 1) := by decide +kernel
theorem dX1_init_5 : decode cX1_init 5 = .ok (.new 7, 3) := by decide +kernel
theorem dX1_init_8 : decode cX1_init 8 = .ok (.dup, 1) := by decide +kernel
theorem dX1_init_9 : decode cX1_init 9 = .ok (.invokespecial 9, 3) := by decide +kernel
theorem dX1_init_12 : decode cX1_init 12 = .ok (.putfield 10, 3) := by decide +kernel
theorem dX1_init_15 : decode cX1_init 15 = .ok (.aload_n 0, 1) := by decide +kernel
theorem dX1_init_16 : decode cX1_init 16 = .ok (.iconst (-1), 1) := by decide +kernel
theorem dX1_init_17 : decode cX1_init 17 = .ok (.putfield 16, 3) := by decide +kernel
theorem dX1_init_20 : decode cX1_init 20 = .ok (.aload_n 0, 1) := by decide +kernel
theorem dX1_init_21 : decode cX1_init 21 = .ok (.iload_n 1, 1) := by decide +kernel
theorem dX1_init_22 : decode cX1_init 22 = .ok (.putfield 20, 3) := by decide +kernel
theorem dX1_init_25 : decode cX1_init 25 = .ok (.return_, 1) := by decide +kernel
set_option maxRecDepth 20000 in
theorem ggX1_come_X3_make : GoodIn wsX1_come wsX3_make := goodIn_r _ [7, 8, 9, 10, 11, 12, 6, 13, 14, 15, 16, 17, 18, 19, 20, 21, 22, 23, 24, 25, 26, 27, 28, 29, 30, 31, 40, 41, 42, 43, 44] (by decide +kernel) (by decide +kernel)
set_option maxRecDepth 20000 in
theorem gX1_come_X3_make : GoodIn wsX1_come (wsV RX1 23 RX3 yX3_make wsX3_make) := goodIn_app (goodIn_of _ (by decide +kernel)) ggX1_come_X3_make
theorem dX1_come_0 : decode cX1_come 0 = .ok (.aload_n 0, 1) := by decide +kernel
theorem dX1_come_1 : decode cX1_come 1 = .ok (.getfield 10, 3) := by decide +kernel
theorem dX1_come_4 : decode cX1_come 4 = .ok (.iload_n 1, 1) := by decide +kernel
theorem dX1_come_5 : decode cX1_come 5 = .ok (.iload_n 2, 1) := by decide +kernel
theorem dX1_come_6 : decode cX1_come 6 = .ok (.iload_n 3, 1) := by decide +kernel
theorem dX1_come_7 : decode cX1_come 7 = .ok (.invokevirtual 23, 3) := by decide +kernel
theorem dX1_come_10 : decode cX1_come 10 = .ok (.aload_n 0, 1) := by decide +kernel
theorem dX1_come_11 : decode cX1_come 11 = .ok (.iconst 0, 1) := by decide +kernel
theorem dX1_come_12 : decode cX1_come 12 = .ok (.putfield 16, 3) := by decide +kernel
theorem dX1_come_15 : decode cX1_come 15 = .ok (.return_, 1) := by decide +kernel
set_option maxRecDepth 20000 in
theorem ggX1_changeWay_X3_changeWay : GoodIn wsX1_changeWay wsX3_changeWay := goodIn_r _ [6, 7, 8, 9, 10, 11, 12, 13, 14, 15, 16, 5, 17, 18, 19, 20, 21, 22, 23, 24, 25, 26, 35, 36, 37, 38, 39] (by decide +kernel) (by decide +kernel)
set_option maxRecDepth 20000 in
theorem gX1_changeWay_X3_changeWay : GoodIn wsX1_changeWay (wsV RX1 27 RX3 yX3_changeWay wsX3_changeWay) := goodIn_app (goodIn_of _ (by decide +kernel)) ggX1_changeWay_X3_changeWay
theorem dX1_changeWay_0 : decode cX1_changeWay 0 = .ok (.aload_n 0, 1) := by decide +kernel
theorem dX1_changeWay_1 : decode cX1_changeWay 1 = .ok (.getfield 10, 3) := by decide +kernel
theorem dX1_changeWay_4 : decode cX1_changeWay 4 = .ok (.iload_n 1, 1) := by decide +kernel
theorem dX1_changeWay_5 : decode cX1_changeWay 5 = .ok (.invokevirtual 27, 3) := by decide +kernel
theorem dX1_changeWay_8 : decode cX1_changeWay 8 = .ok (.return_, 1) := by decide +kernel
set_option maxRecDepth 20000 in
theorem ggX1_start_X3_workWith : GoodIn wsX1_start wsX3_workWith := goodIn_r _ [9, 10, 11, 12, 13, 22, 23, 24, 25, 26] (by decide +kernel) (by decide +kernel)
set_option maxRecDepth 20000 in
theorem gX1_start_X3_workWith : GoodIn wsX1_start (wsV RX1 34 RX3 yX3_workWith wsX3_workWith) := goodIn_app (goodIn_of _ (by decide +kernel)) ggX1_start_X3_workWith
theorem dX1_start_0 : decode cX1_start 0 = .ok (.aload_n 0, 1) := by decide +kernel
theorem dX1_start_1 : decode cX1_start 1 = .ok (.iconst 1, 1) := by decide +kernel
theorem dX1_start_2 : decode cX1_start 2 = .ok (.putfield 16, 3) := by decide +kernel
theorem dX1_start_5 : decode cX1_start 5 = .ok (.aload_n 0, 1) := by decide +kernel
theorem dX1_start_6 : decode cX1_start 6 = .ok (.iload_n 1, 1) := by decide +kernel
theorem dX1_start_7 : decode cX1_start 7 = .ok (.putfield 31, 3) := by decide +kernel
theorem dX1_start_10 : decode cX1_start 10 = .ok (.aload_n 0, 1) := by decide +kernel
theorem dX1_start_11 : decode cX1_start 11 = .ok (.aload_n 0, 1) := by decide +kernel
theorem dX1_start_12 : decode cX1_start 12 = .ok (.getfield 10, 3) := by decide +kernel
theorem dX1_start_15 : decode cX1_start 15 = .ok (.iload_n 1, 1) := by decide +kernel
theorem dX1_start_16 : decode cX1_start 16 = .ok (.invokevirtual 34, 3) := by decide +kernel
theorem dX1_start_19 : decode cX1_start 19 = .ok (.putfield 38, 3) := by decide +kernel
theorem dX1_start_22 : decode cX1_start 22 = .ok (.return_, 1) := by decide +kernel
theorem dX1_end_0 : decode cX1_end 0 = .ok (.aload_n 0, 1) := by decide +kernel
theorem dX1_end_1 : decode cX1_end 1 = .ok (.iload_n 1, 1) := by decide +kernel
theorem dX1_end_2 : decode cX1_end 2 = .ok (.putfield 16, 3) := by decide +kernel
theorem dX1_end_5 : decode cX1_end 5 = .ok (.aload_n 0, 1) := by decide +kernel
theorem dX1_end_6 : decode cX1_end 6 = .ok (.iconst 0, 1) := by decide +kernel
theorem dX1_end_7 : decode cX1_end 7 = .ok (.putfield 31, 3) := by decide +kernel
theorem dX1_end_10 : decode cX1_end 10 = .ok (.aload_n 0, 1) := by decide +kernel
theorem dX1_end_11 : decode cX1_end 11 = .ok (.iconst 0, 1) := by decide +kernel
theorem dX1_end_12 : decode cX1_end 12 = .ok (.putfield 38, 3) := by decide +kernel
theorem dX1_end_15 : decode cX1_end 15 = .ok (.return_, 1) := by decide +kernel
set_option maxRecDepth 20000 in
theorem ggX1_giveBack_X3_workWith : GoodIn wsX1_giveBack wsX3_workWith := goodIn_r _ [9, 10, 11, 12, 13, 22, 23, 24, 25, 26] (by decide +kernel) (by decide +kernel)
set_option maxRecDepth 20000 in
theorem gX1_giveBack_X3_workWith : GoodIn wsX1_giveBack (wsV RX1 34 RX3 yX3_workWith wsX3_workWith) := goodIn_app (goodIn_of _ (by decide +kernel)) ggX1_giveBack_X3_workWith
theorem dX1_giveBack_0 : decode cX1_giveBack 0 = .ok (.aload_n 0, 1) := by decide +kernel
theorem dX1_giveBack_1 : decode cX1_giveBack 1 = .ok (.getfield 10, 3) := by decide +kernel
theorem dX1_giveBack_4 : decode cX1_giveBack 4 = .ok (.aload_n 0, 1) := by decide +kernel
theorem dX1_giveBack_5 : decode cX1_giveBack 5 = .ok (.getfield 31, 3) := by decide +kernel
theorem dX1_giveBack_8 : decode cX1_giveBack 8 = .ok (.invokevirtual 34, 3) := by decide +kernel
theorem dX1_giveBack_11 : decode cX1_giveBack 11 = .ok (.i2l, 1) := by decide +kernel
theorem dX1_giveBack_12 : decode cX1_giveBack 12 = .ok (.lstore_n 2, 1) := by decide +kernel
theorem dX1_giveBack_13 : decode cX1_giveBack 13 = .ok (.aload_n 0, 1) := by decide +kernel
theorem dX1_giveBack_14 : decode cX1_giveBack 14 = .ok (.getfield 10, 3) := by decide +kernel
theorem dX1_giveBack_17 : decode cX1_giveBack 17 = .ok (.aload_n 0, 1) := by decide +kernel
theorem dX1_giveBack_18 : decode cX1_giveBack 18 = .ok (.getfield 31, 3) := by decide +kernel
theorem dX1_giveBack_21 : decode cX1_giveBack 21 = .ok (.iload_n 1, 1) := by decide +kernel
theorem dX1_giveBack_22 : decode cX1_giveBack 22 = .ok (.isub, 1) := by decide +kernel
theorem dX1_giveBack_23 : decode cX1_giveBack 23 = .ok (.invokevirtual 34, 3) := by decide +kernel
theorem dX1_giveBack_26 : decode cX1_giveBack 26 = .ok (.i2l, 1) := by decide +kernel
theorem dX1_giveBack_27 : decode cX1_giveBack 27 = .ok (.lstore 4, 2) := by decide +kernel
theorem dX1_giveBack_29 : decode cX1_giveBack 29 = .ok (.lload_n 2, 1) := by decide +kernel
theorem dX1_giveBack_30 : decode cX1_giveBack 30 = .ok (.lconst 0, 1) := by decide +kernel
theorem dX1_giveBack_31 : decode cX1_giveBack 31 = .ok (.lcmp, 1) := by decide +kernel
theorem dX1_giveBack_32 : decode cX1_giveBack 32 = .ok (.ifCond .le 24, 3) := by decide +kernel
theorem dX1_giveBack_35 : decode cX1_giveBack 35 = .ok (.aload_n 0, 1) := by decide +kernel
theorem dX1_giveBack_36 : decode cX1_giveBack 36 = .ok (.aload_n 0, 1) := by decide +kernel
theorem dX1_giveBack_37 : decode cX1_giveBack 37 = .ok (.getfield 38, 3) := by decide +kernel
theorem dX1_giveBack_40 : decode cX1_giveBack 40 = .ok (.i2l, 1) := by decide +kernel
theorem dX1_giveBack_41 : decode cX1_giveBack 41 = .ok (.lload 4, 2) := by decide +kernel
theorem dX1_giveBack_43 : decode cX1_giveBack 43 = .ok (.lmul, 1) := by decide +kernel
theorem dX1_giveBack_44 : decode cX1_giveBack 44 = .ok (.lload_n 2, 1) := by decide +kernel
theorem dX1_giveBack_45 : decode cX1_giveBack 45 = .ok (.ladd, 1) := by decide +kernel
theorem dX1_giveBack_46 : decode cX1_giveBack 46 = .ok (.lconst 1, 1) := by decide +kernel
theorem dX1_giveBack_47 : decode cX1_giveBack 47 = .ok (.lsub, 1) := by decide +kernel
theorem dX1_giveBack_48 : decode cX1_giveBack 48 = .ok (.lload_n 2, 1) := by decide +kernel
theorem dX1_giveBack_49 : decode cX1_giveBack 49 = .ok (.ldiv, 1) := by decide +kernel
theorem dX1_giveBack_50 : decode cX1_giveBack 50 = .ok (.l2i, 1) := by decide +kernel
theorem dX1_giveBack_51 : decode cX1_giveBack 51 = .ok (.iload_n 1, 1) := by decide +kernel
theorem dX1_giveBack_52 : decode cX1_giveBack 52 = .ok (.iadd, 1) := by decide +kernel
theorem dX1_giveBack_53 : decode cX1_giveBack 53 = .ok (.putfield 38, 3) := by decide +kernel
theorem dX1_giveBack_56 : decode cX1_giveBack 56 = .ok (.aload_n 0, 1) := by decide +kernel
theorem dX1_giveBack_57 : decode cX1_giveBack 57 = .ok (.dup, 1) := by decide +kernel
theorem dX1_giveBack_58 : decode cX1_giveBack 58 = .ok (.getfield 31, 3) := by decide +kernel
theorem dX1_giveBack_61 : decode cX1_giveBack 61 = .ok (.iload_n 1, 1) := by decide +kernel
theorem dX1_giveBack_62 : decode cX1_giveBack 62 = .ok (.isub, 1) := by decide +kernel
theorem dX1_giveBack_63 : decode cX1_giveBack 63 = .ok (.putfield 31, 3) := by decide +kernel
theorem dX1_giveBack_66 : decode cX1_giveBack 66 = .ok (.aload_n 0, 1) := by decide +kernel
theorem dX1_giveBack_67 : decode cX1_giveBack 67 = .ok (.dup, 1) := by decide +kernel
theorem dX1_giveBack_68 : decode cX1_giveBack 68 = .ok (.getfield 41, 3) := by decide +kernel
theorem dX1_giveBack_71 : decode cX1_giveBack 71 = .ok (.iload_n 1, 1) := by decide +kernel
theorem dX1_giveBack_72 : decode cX1_giveBack 72 = .ok (.iadd, 1) := by decide +kernel
theorem dX1_giveBack_73 : decode cX1_giveBack 73 = .ok (.putfield 41, 3) := by decide +kernel
theorem dX1_giveBack_76 : decode cX1_giveBack 76 = .ok (.return_, 1) := by decide +kernel
theorem dX1_pass_0 : decode cX1_pass 0 = .ok (.aload_n 0, 1) := by decide +kernel
theorem dX1_pass_1 : decode cX1_pass 1 = .ok (.getfield 16, 3) := by decide +kernel
theorem dX1_pass_4 : decode cX1_pass 4 = .ok (.ifCond .ne 13, 3) := by decide +kernel
theorem dX1_pass_7 : decode cX1_pass 7 = .ok (.aload_n 0, 1) := by decide +kernel
theorem dX1_pass_8 : decode cX1_pass 8 = .ok (.dup, 1) := by decide +kernel
theorem dX1_pass_9 : decode cX1_pass 9 = .ok (.getfield 44, 3) := by decide +kernel
theorem dX1_pass_12 : decode cX1_pass 12 = .ok (.iload_n 1, 1) := by decide +kernel
theorem dX1_pass_13 : decode cX1_pass 13 = .ok (.iadd, 1) := by decide +kernel
theorem dX1_pass_14 : decode cX1_pass 14 = .ok (.putfield 44, 3) := by decide +kernel
theorem dX1_pass_17 : decode cX1_pass 17 = .ok (.aload_n 0, 1) := by decide +kernel
theorem dX1_pass_18 : decode cX1_pass 18 = .ok (.getfield 16, 3) := by decide +kernel
theorem dX1_pass_21 : decode cX1_pass 21 = .ok (.iconst 1, 1) := by decide +kernel
theorem dX1_pass_22 : decode cX1_pass 22 = .ok (.if_icmp .eq 5, 3) := by decide +kernel
theorem dX1_pass_25 : decode cX1_pass 25 = .ok (.iconst 0, 1) := by decide +kernel
theorem dX1_pass_26 : decode cX1_pass 26 = .ok (.ireturn, 1) := by decide +kernel
theorem dX1_pass_27 : decode cX1_pass 27 = .ok (.aload_n 0, 1) := by decide +kernel
theorem dX1_pass_28 : decode cX1_pass 28 = .ok (.dup, 1) := by decide +kernel
theorem dX1_pass_29 : decode cX1_pass 29 = .ok (.getfield 47, 3) := by decide +kernel
theorem dX1_pass_32 : decode cX1_pass 32 = .ok (.iload_n 1, 1) := by decide +kernel
theorem dX1_pass_33 : decode cX1_pass 33 = .ok (.iadd, 1) := by decide +kernel
theorem dX1_pass_34 : decode cX1_pass 34 = .ok (.putfield 47, 3) := by decide +kernel
theorem dX1_pass_37 : decode cX1_pass 37 = .ok (.aload_n 0, 1) := by decide +kernel
theorem dX1_pass_38 : decode cX1_pass 38 = .ok (.getfield 38, 3) := by decide +kernel
theorem dX1_pass_41 : decode cX1_pass 41 = .ok (.iload_n 1, 1) := by decide +kernel
theorem dX1_pass_42 : decode cX1_pass 42 = .ok (.iload_n 2, 1) := by decide +kernel
theorem dX1_pass_43 : decode cX1_pass 43 = .ok (.imul, 1) := by decide +kernel
theorem dX1_pass_44 : decode cX1_pass 44 = .ok (.invokestatic 50, 3) := by decide +kernel
theorem dX1_pass_47 : decode cX1_pass 47 = .ok (.istore_n 3, 1) := by decide +kernel
theorem dX1_pass_48 : decode cX1_pass 48 = .ok (.aload_n 0, 1) := by decide +kernel
theorem dX1_pass_49 : decode cX1_pass 49 = .ok (.dup, 1) := by decide +kernel
theorem dX1_pass_50 : decode cX1_pass 50 = .ok (.getfield 38, 3) := by decide +kernel
theorem dX1_pass_53 : decode cX1_pass 53 = .ok (.iload_n 3, 1) := by decide +kernel
theorem dX1_pass_54 : decode cX1_pass 54 = .ok (.isub, 1) := by decide +kernel
theorem dX1_pass_55 : decode cX1_pass 55 = .ok (.putfield 38, 3) := by decide +kernel
theorem dX1_pass_58 : decode cX1_pass 58 = .ok (.iload_n 3, 1) := by decide +kernel
theorem dX1_pass_59 : decode cX1_pass 59 = .ok (.ireturn, 1) := by decide +kernel
theorem dX1_stepsLeft_0 : decode cX1_stepsLeft 0 = .ok (.iload_n 1, 1) := by decide +kernel
theorem dX1_stepsLeft_1 : decode cX1_stepsLeft 1 = .ok (.iconst 1, 1) := by decide +kernel
theorem dX1_stepsLeft_2 : decode cX1_stepsLeft 2 = .ok (.if_icmp .ge 7, 3) := by decide +kernel
theorem dX1_stepsLeft_5 : decode cX1_stepsLeft 5 = .ok (.iconst 1, 1) := by decide +kernel
theorem dX1_stepsLeft_6 : decode cX1_stepsLeft 6 = .ok (.goto 13, 3) := by decide +kernel
theorem dX1_stepsLeft_9 : decode cX1_stepsLeft 9 = .ok (.aload_n 0, 1) := by decide +kernel
theorem dX1_stepsLeft_10 : decode cX1_stepsLeft 10 = .ok (.getfield 38, 3) := by decide +kernel
theorem dX1_stepsLeft_13 : decode cX1_stepsLeft 13 = .ok (.iload_n 1, 1) := by decide +kernel
theorem dX1_stepsLeft_14 : decode cX1_stepsLeft 14 = .ok (.iadd, 1) := by decide +kernel
theorem dX1_stepsLeft_15 : decode cX1_stepsLeft 15 = .ok (.iconst 1, 1) := by decide +kernel
theorem dX1_stepsLeft_16 : decode cX1_stepsLeft 16 = .ok (.isub, 1) := by decide +kernel
theorem dX1_stepsLeft_17 : decode cX1_stepsLeft 17 = .ok (.iload_n 1, 1) := by decide +kernel
theorem dX1_stepsLeft_18 : decode cX1_stepsLeft 18 = .ok (.idiv, 1) := by decide +kernel
theorem dX1_stepsLeft_19 : decode cX1_stepsLeft 19 = .ok (.ireturn, 1) := by decide +kernel
theorem dX1_hasWorkedAll_0 : decode cX1_hasWorkedAll 0 = .ok (.aload_n 0, 1) := by decide +kernel
theorem dX1_hasWorkedAll_1 : decode cX1_hasWorkedAll 1 = .ok (.getfield 16, 3) := by decide +kernel
theorem dX1_hasWorkedAll_4 : decode cX1_hasWorkedAll 4 = .ok (.iconst 1, 1) := by decide +kernel
theorem dX1_hasWorkedAll_5 : decode cX1_hasWorkedAll 5 = .ok (.if_icmp .ne 14, 3) := by decide +kernel
theorem dX1_hasWorkedAll_8 : decode cX1_hasWorkedAll 8 = .ok (.aload_n 0, 1) := by decide +kernel
theorem dX1_hasWorkedAll_9 : decode cX1_hasWorkedAll 9 = .ok (.getfield 38, 3) := by decide +kernel
theorem dX1_hasWorkedAll_12 : decode cX1_hasWorkedAll 12 = .ok (.ifCond .ne 7, 3) := by decide +kernel
theorem dX1_hasWorkedAll_15 : decode cX1_hasWorkedAll 15 = .ok (.iconst 1, 1) := by decide +kernel
theorem dX1_hasWorkedAll_16 : decode cX1_hasWorkedAll 16 = .ok (.goto 4, 3) := by decide +kernel
theorem dX1_hasWorkedAll_19 : decode cX1_hasWorkedAll 19 = .ok (.iconst 0, 1) := by decide +kernel
theorem dX1_hasWorkedAll_20 : decode cX1_hasWorkedAll 20 = .ok (.ireturn, 1) := by decide +kernel
theorem dX1_surplus_0 : decode cX1_surplus 0 = .ok (.aload_n 0, 1) := by decide +kernel
theorem dX1_surplus_1 : decode cX1_surplus 1 = .ok (.getfield 16, 3) := by decide +kernel
theorem dX1_surplus_4 : decode cX1_surplus 4 = .ok (.iconst 1, 1) := by decide +kernel
theorem dX1_surplus_5 : decode cX1_surplus 5 = .ok (.if_icmp .ne 18, 3) := by decide +kernel
theorem dX1_surplus_8 : decode cX1_surplus 8 = .ok (.aload_n 0, 1) := by decide +kernel
theorem dX1_surplus_9 : decode cX1_surplus 9 = .ok (.getfield 31, 3) := by decide +kernel
theorem dX1_surplus_12 : decode cX1_surplus 12 = .ok (.aload_n 0, 1) := by decide +kernel
theorem dX1_surplus_13 : decode cX1_surplus 13 = .ok (.getfield 10, 3) := by decide +kernel
theorem dX1_surplus_16 : decode cX1_surplus 16 = .ok (.getfield 56, 3) := by decide +kernel
theorem dX1_surplus_19 : decode cX1_surplus 19 = .ok (.isub, 1) := by decide +kernel
theorem dX1_surplus_20 : decode cX1_surplus 20 = .ok (.goto 4, 3) := by decide +kernel
theorem dX1_surplus_23 : decode cX1_surplus 23 = .ok (.iconst 0, 1) := by decide +kernel
theorem dX1_surplus_24 : decode cX1_surplus 24 = .ok (.ireturn, 1) := by decide +kernel
set_option maxRecDepth 20000 in
theorem ggX1_spills_X3_spillsWith : GoodIn wsX1_spills wsX3_spillsWith := goodIn_r _ [8, 9, 10, 19, 20, 21, 22, 23] (by decide +kernel) (by decide +kernel)
set_option maxRecDepth 20000 in
theorem gX1_spills_X3_spillsWith : GoodIn wsX1_spills (wsV RX1 59 RX3 yX3_spillsWith wsX3_spillsWith) := goodIn_app (goodIn_of _ (by decide +kernel)) ggX1_spills_X3_spillsWith
theorem dX1_spills_0 : decode cX1_spills 0 = .ok (.aload_n 0, 1) := by decide +kernel
theorem dX1_spills_1 : decode cX1_spills 1 = .ok (.getfield 16, 3) := by decide +kernel
theorem dX1_spills_4 : decode cX1_spills 4 = .ok (.iconst 1, 1) := by decide +kernel
theorem dX1_spills_5 : decode cX1_spills 5 = .ok (.if_icmp .ne 21, 3) := by decide +kernel
theorem dX1_spills_8 : decode cX1_spills 8 = .ok (.aload_n 0, 1) := by decide +kernel
theorem dX1_spills_9 : decode cX1_spills 9 = .ok (.getfield 10, 3) := by decide +kernel
theorem dX1_spills_12 : decode cX1_spills 12 = .ok (.aload_n 0, 1) := by decide +kernel
theorem dX1_spills_13 : decode cX1_spills 13 = .ok (.getfield 31, 3) := by decide +kernel
theorem dX1_spills_16 : decode cX1_spills 16 = .ok (.invokevirtual 59, 3) := by decide +kernel
theorem dX1_spills_19 : decode cX1_spills 19 = .ok (.ifCond .eq 7, 3) := by decide +kernel
theorem dX1_spills_22 : decode cX1_spills 22 = .ok (.iconst 1, 1) := by decide +kernel
theorem dX1_spills_23 : decode cX1_spills 23 = .ok (.goto 4, 3) := by decide +kernel
theorem dX1_spills_26 : decode cX1_spills 26 = .ok (.iconst 0, 1) := by decide +kernel
theorem dX1_spills_27 : decode cX1_spills 27 = .ok (.ireturn, 1) := by decide +kernel
theorem dX1_isIn_0 : decode cX1_isIn 0 = .ok (.aload_n 0, 1) := by decide +kernel
theorem dX1_isIn_1 : decode cX1_isIn 1 = .ok (.getfield 16, 3) := by decide +kernel
theorem dX1_isIn_4 : decode cX1_isIn 4 = .ok (.iload_n 1, 1) := by decide +kernel
theorem dX1_isIn_5 : decode cX1_isIn 5 = .ok (.if_icmp .ne 7, 3) := by decide +kernel
theorem dX1_isIn_8 : decode cX1_isIn 8 = .ok (.iconst 1, 1) := by decide +kernel
theorem dX1_isIn_9 : decode cX1_isIn 9 = .ok (.goto 4, 3) := by decide +kernel
theorem dX1_isIn_12 : decode cX1_isIn 12 = .ok (.iconst 0, 1) := by decide +kernel
theorem dX1_isIn_13 : decode cX1_isIn 13 = .ok (.ireturn, 1) := by decide +kernel
theorem dX1_number_0 : decode cX1_number 0 = .ok (.aload_n 0, 1) := by decide +kernel
theorem dX1_number_1 : decode cX1_number 1 = .ok (.getfield 20, 3) := by decide +kernel
theorem dX1_number_4 : decode cX1_number 4 = .ok (.ireturn, 1) := by decide +kernel
theorem dX1_way_0 : decode cX1_way 0 = .ok (.aload_n 0, 1) := by decide +kernel
theorem dX1_way_1 : decode cX1_way 1 = .ok (.getfield 10, 3) := by decide +kernel
theorem dX1_way_4 : decode cX1_way 4 = .ok (.getfield 63, 3) := by decide +kernel
theorem dX1_way_7 : decode cX1_way 7 = .ok (.ireturn, 1) := by decide +kernel
theorem dX1_need_0 : decode cX1_need 0 = .ok (.aload_n 0, 1) := by decide +kernel
theorem dX1_need_1 : decode cX1_need 1 = .ok (.getfield 10, 3) := by decide +kernel
theorem dX1_need_4 : decode cX1_need 4 = .ok (.getfield 56, 3) := by decide +kernel
theorem dX1_need_7 : decode cX1_need 7 = .ok (.ireturn, 1) := by decide +kernel
theorem dX1_want_0 : decode cX1_want 0 = .ok (.aload_n 0, 1) := by decide +kernel
theorem dX1_want_1 : decode cX1_want 1 = .ok (.getfield 10, 3) := by decide +kernel
theorem dX1_want_4 : decode cX1_want 4 = .ok (.getfield 66, 3) := by decide +kernel
theorem dX1_want_7 : decode cX1_want 7 = .ok (.ireturn, 1) := by decide +kernel
theorem dX1_pages_0 : decode cX1_pages 0 = .ok (.aload_n 0, 1) := by decide +kernel
theorem dX1_pages_1 : decode cX1_pages 1 = .ok (.getfield 31, 3) := by decide +kernel
theorem dX1_pages_4 : decode cX1_pages 4 = .ok (.ireturn, 1) := by decide +kernel
theorem dX1_canTell_0 : decode cX1_canTell 0 = .ok (.iload_n 0, 1) := by decide +kernel
theorem dX1_canTell_1 : decode cX1_canTell 1 = .ok (.ifCond .lt 13, 3) := by decide +kernel
theorem dX1_canTell_4 : decode cX1_canTell 4 = .ok (.iload_n 0, 1) := by decide +kernel
theorem dX1_canTell_5 : decode cX1_canTell 5 = .ok (.bipush 11, 2) := by decide +kernel
theorem dX1_canTell_7 : decode cX1_canTell 7 = .ok (.if_icmp .gt 7, 3) := by decide +kernel
theorem dX1_canTell_10 : decode cX1_canTell 10 = .ok (.iconst 1, 1) := by decide +kernel
theorem dX1_canTell_11 : decode cX1_canTell 11 = .ok (.goto 4, 3) := by decide +kernel
theorem dX1_canTell_14 : decode cX1_canTell 14 = .ok (.iconst 0, 1) := by decide +kernel
theorem dX1_canTell_15 : decode cX1_canTell 15 = .ok (.ireturn, 1) := by decide +kernel
set_option maxRecDepth 20000 in
theorem ggX1_tell_X1_spills : GoodIn wsX1_tell wsX1_spills := goodIn_r _ [12, 2, 1, 3, 13, 14, 15, 16, 17, 18, 19, 20, 21, 22, 23, 24, 25, 26, 27, 28, 29, 30, 31, 32] (by decide +kernel) (by decide +kernel)
set_option maxRecDepth 20000 in
theorem gX1_tell_X1_spills : GoodIn wsX1_tell (wsV RX1 75 RX1 yX1_spills wsX1_spills) := goodIn_app (goodIn_of _ (by decide +kernel)) ggX1_tell_X1_spills
theorem dX1_tell_0 : decode cX1_tell 0 = .ok (.iload_n 1, 1) := by decide +kernel
theorem dX1_tell_1 : decode cX1_tell 1 = .ok (.tableswitch 129 0 10 #[59, 67, 75, 83, 88, 96, 104, 109, 114, 119, 124], 59) := by decide +kernel
theorem dX1_tell_60 : decode cX1_tell 60 = .ok (.aload_n 0, 1) := by decide +kernel
theorem dX1_tell_61 : decode cX1_tell 61 = .ok (.getfield 10, 3) := by decide +kernel
theorem dX1_tell_64 : decode cX1_tell 64 = .ok (.getfield 63, 3) := by decide +kernel
theorem dX1_tell_67 : decode cX1_tell 67 = .ok (.ireturn, 1) := by decide +kernel
theorem dX1_tell_68 : decode cX1_tell 68 = .ok (.aload_n 0, 1) := by decide +kernel
theorem dX1_tell_69 : decode cX1_tell 69 = .ok (.getfield 10, 3) := by decide +kernel
theorem dX1_tell_72 : decode cX1_tell 72 = .ok (.getfield 69, 3) := by decide +kernel
theorem dX1_tell_75 : decode cX1_tell 75 = .ok (.ireturn, 1) := by decide +kernel
theorem dX1_tell_76 : decode cX1_tell 76 = .ok (.aload_n 0, 1) := by decide +kernel
theorem dX1_tell_77 : decode cX1_tell 77 = .ok (.getfield 10, 3) := by decide +kernel
theorem dX1_tell_80 : decode cX1_tell 80 = .ok (.getfield 72, 3) := by decide +kernel
theorem dX1_tell_83 : decode cX1_tell 83 = .ok (.ireturn, 1) := by decide +kernel
theorem dX1_tell_84 : decode cX1_tell 84 = .ok (.aload_n 0, 1) := by decide +kernel
theorem dX1_tell_85 : decode cX1_tell 85 = .ok (.getfield 16, 3) := by decide +kernel
theorem dX1_tell_88 : decode cX1_tell 88 = .ok (.ireturn, 1) := by decide +kernel
theorem dX1_tell_89 : decode cX1_tell 89 = .ok (.aload_n 0, 1) := by decide +kernel
theorem dX1_tell_90 : decode cX1_tell 90 = .ok (.getfield 10, 3) := by decide +kernel
theorem dX1_tell_93 : decode cX1_tell 93 = .ok (.getfield 56, 3) := by decide +kernel
theorem dX1_tell_96 : decode cX1_tell 96 = .ok (.ireturn, 1) := by decide +kernel
theorem dX1_tell_97 : decode cX1_tell 97 = .ok (.aload_n 0, 1) := by decide +kernel
theorem dX1_tell_98 : decode cX1_tell 98 = .ok (.getfield 10, 3) := by decide +kernel
theorem dX1_tell_101 : decode cX1_tell 101 = .ok (.getfield 66, 3) := by decide +kernel
theorem dX1_tell_104 : decode cX1_tell 104 = .ok (.ireturn, 1) := by decide +kernel
theorem dX1_tell_105 : decode cX1_tell 105 = .ok (.aload_n 0, 1) := by decide +kernel
theorem dX1_tell_106 : decode cX1_tell 106 = .ok (.getfield 31, 3) := by decide +kernel
theorem dX1_tell_109 : decode cX1_tell 109 = .ok (.ireturn, 1) := by decide +kernel
theorem dX1_tell_110 : decode cX1_tell 110 = .ok (.aload_n 0, 1) := by decide +kernel
theorem dX1_tell_111 : decode cX1_tell 111 = .ok (.getfield 38, 3) := by decide +kernel
theorem dX1_tell_114 : decode cX1_tell 114 = .ok (.ireturn, 1) := by decide +kernel
theorem dX1_tell_115 : decode cX1_tell 115 = .ok (.aload_n 0, 1) := by decide +kernel
theorem dX1_tell_116 : decode cX1_tell 116 = .ok (.getfield 44, 3) := by decide +kernel
theorem dX1_tell_119 : decode cX1_tell 119 = .ok (.ireturn, 1) := by decide +kernel
theorem dX1_tell_120 : decode cX1_tell 120 = .ok (.aload_n 0, 1) := by decide +kernel
theorem dX1_tell_121 : decode cX1_tell 121 = .ok (.getfield 47, 3) := by decide +kernel
theorem dX1_tell_124 : decode cX1_tell 124 = .ok (.ireturn, 1) := by decide +kernel
theorem dX1_tell_125 : decode cX1_tell 125 = .ok (.aload_n 0, 1) := by decide +kernel
theorem dX1_tell_126 : decode cX1_tell 126 = .ok (.getfield 41, 3) := by decide +kernel
theorem dX1_tell_129 : decode cX1_tell 129 = .ok (.ireturn, 1) := by decide +kernel
theorem dX1_tell_130 : decode cX1_tell 130 = .ok (.aload_n 0, 1) := by decide +kernel
theorem dX1_tell_131 : decode cX1_tell 131 = .ok (.invokevirtual 75, 3) := by decide +kernel
theorem dX1_tell_134 : decode cX1_tell 134 = .ok (.ifCond .eq 7, 3) := by decide +kernel
theorem dX1_tell_137 : decode cX1_tell 137 = .ok (.iconst 1, 1) := by decide +kernel
theorem dX1_tell_138 : decode cX1_tell 138 = .ok (.goto 4, 3) := by decide +kernel
theorem dX1_tell_141 : decode cX1_tell 141 = .ok (.iconst 0, 1) := by decide +kernel
theorem dX1_tell_142 : decode cX1_tell 142 = .ok (.ireturn, 1) := by decide +kernel
set_option maxRecDepth 20000 in
theorem ggX1_copyFrom_X3_copyFrom : GoodIn wsX1_copyFrom wsX3_copyFrom := goodIn_r _ [12, 13, 14, 15, 16, 17, 26, 27, 28, 29, 30] (by decide +kernel) (by decide +kernel)
set_option maxRecDepth 20000 in
theorem gX1_copyFrom_X3_copyFrom : GoodIn wsX1_copyFrom (wsV RX1 79 RX3 yX3_copyFrom wsX3_copyFrom) := goodIn_app (goodIn_of _ (by decide +kernel)) ggX1_copyFrom_X3_copyFrom
theorem dX1_copyFrom_0 : decode cX1_copyFrom 0 = .ok (.aload_n 0, 1) := by decide +kernel
theorem dX1_copyFrom_1 : decode cX1_copyFrom 1 = .ok (.getfield 10, 3) := by decide +kernel
theorem dX1_copyFrom_4 : decode cX1_copyFrom 4 = .ok (.aload_n 1, 1) := by decide +kernel
theorem dX1_copyFrom_5 : decode cX1_copyFrom 5 = .ok (.getfield 10, 3) := by decide +kernel
theorem dX1_copyFrom_8 : decode cX1_copyFrom 8 = .ok (.invokevirtual 79, 3) := by decide +kernel
theorem dX1_copyFrom_11 : decode cX1_copyFrom 11 = .ok (.aload_n 0, 1) := by decide +kernel
theorem dX1_copyFrom_12 : decode cX1_copyFrom 12 = .ok (.aload_n 1, 1) := by decide +kernel
theorem dX1_copyFrom_13 : decode cX1_copyFrom 13 = .ok (.getfield 16, 3) := by decide +kernel
theorem dX1_copyFrom_16 : decode cX1_copyFrom 16 = .ok (.putfield 16, 3) := by decide +kernel
theorem dX1_copyFrom_19 : decode cX1_copyFrom 19 = .ok (.aload_n 0, 1) := by decide +kernel
theorem dX1_copyFrom_20 : decode cX1_copyFrom 20 = .ok (.aload_n 1, 1) := by decide +kernel
theorem dX1_copyFrom_21 : decode cX1_copyFrom 21 = .ok (.getfield 31, 3) := by decide +kernel
theorem dX1_copyFrom_24 : decode cX1_copyFrom 24 = .ok (.putfield 31, 3) := by decide +kernel
theorem dX1_copyFrom_27 : decode cX1_copyFrom 27 = .ok (.aload_n 0, 1) := by decide +kernel
theorem dX1_copyFrom_28 : decode cX1_copyFrom 28 = .ok (.aload_n 1, 1) := by decide +kernel
theorem dX1_copyFrom_29 : decode cX1_copyFrom 29 = .ok (.getfield 38, 3) := by decide +kernel
theorem dX1_copyFrom_32 : decode cX1_copyFrom 32 = .ok (.putfield 38, 3) := by decide +kernel
theorem dX1_copyFrom_35 : decode cX1_copyFrom 35 = .ok (.aload_n 0, 1) := by decide +kernel
theorem dX1_copyFrom_36 : decode cX1_copyFrom 36 = .ok (.aload_n 1, 1) := by decide +kernel
theorem dX1_copyFrom_37 : decode cX1_copyFrom 37 = .ok (.getfield 44, 3) := by decide +kernel
theorem dX1_copyFrom_40 : decode cX1_copyFrom 40 = .ok (.putfield 44, 3) := by decide +kernel
theorem dX1_copyFrom_43 : decode cX1_copyFrom 43 = .ok (.aload_n 0, 1) := by decide +kernel
theorem dX1_copyFrom_44 : decode cX1_copyFrom 44 = .ok (.aload_n 1, 1) := by decide +kernel
theorem dX1_copyFrom_45 : decode cX1_copyFrom 45 = .ok (.getfield 47, 3) := by decide +kernel
theorem dX1_copyFrom_48 : decode cX1_copyFrom 48 = .ok (.putfield 47, 3) := by decide +kernel
theorem dX1_copyFrom_51 : decode cX1_copyFrom 51 = .ok (.aload_n 0, 1) := by decide +kernel
theorem dX1_copyFrom_52 : decode cX1_copyFrom 52 = .ok (.aload_n 1, 1) := by decide +kernel
theorem dX1_copyFrom_53 : decode cX1_copyFrom 53 = .ok (.getfield 41, 3) := by decide +kernel
theorem dX1_copyFrom_56 : decode cX1_copyFrom 56 = .ok (.putfield 41, 3) := by decide +kernel
theorem dX1_copyFrom_59 : decode cX1_copyFrom 59 = .ok (.return_, 1) := by decide +kernel
end
section
def rmX3_copyFrom : Room := { frames := 0, cells := 0, slots := 0, locals := 0 }
def gX3_copyFrom (p p2 : Nat → Int32) : (Nat → Int32) := (upd (upd (upd (upd (upd p 0 (p2 0)) 1 (p2 1)) 2 (p2 2)) 3 (p2 3)) 4 (p2 4))
set_option maxHeartbeats 4000000 in
set_option maxRecDepth 100000 in
theorem mX3_copyFrom (l : Launch) (D : va_G) (ck : Nat → ClassId) (q : Nat) (p : Nat → Int32) (q2 : Nat) (p2 : Nat → Int32) : xMv l yX3_copyFrom wsX3_copyFrom rmX3_copyFrom D ck [.ref q, .ref q2] (pW q p ++ pW q2 p2) (pW q (gX3_copyFrom p p2) ++ pW q2 p2) 0 0 := by
  refine xMet (by decide) rfl (Nat.le_of_ble_eq_true rfl) ?_
  intro zp ze s zm zb zt zc hx hb hr hml hown hts hlk hnm hN hK hP hD ls hl
  have hown : s.vm.findClass RX3 = some zm.cls := hown
  have hl : lv_has ls 2 [(0, .ref q), (1, .ref q2)] := hl
  have hS : va_S (va_A (pW q p ++ pW q2 p2) s.heap.size) s.heap s.heap [] := va_S.rf
  have hA : ∀ zq : Nat, s.heap.size ≤ zq → va_A (pW q p ++ pW q2 p2) s.heap.size zq := fun zq h => Or.inr h
  have hinX3 : ∀ w ∈ u_ws RX3 TX3 5, w ∈ wsX3_copyFrom := by decide +kernel
  refine lv_aload_n hx hb dX3_copyFrom_0 rfl (lv_at hl 0 rfl) ?_
  refine lv_aload_n hx hb dX3_copyFrom_1 rfl (lv_at hl 1 rfl) ?_
  refine va_get (D := D) (ci := 3) (v := .int (p2 0)) (C := RX3) (T := TX3) (N := 5) hx hb hts hinX3 hown hK hP 1 rfl rfl 0 (by decide) (hts (.fieldLink RX3 29 "JoinGrants$Plan" "way" "I") (List.mem_of_getElem? (i := 1) rfl)) (fun _ h9 => h9) rfl dX3_copyFrom_2 ?_
  refine va_put (D := D) (ci := 3) (v := .int (p2 0)) (ty := .int) (C := RX3) (T := TX3) (N := 5) hx hb hts hinX3 tyX3 tyX3_ok nmX3 hown hK hP hD hS 0 rfl rfl 0 (by decide) (hts (.fieldLink RX3 29 "JoinGrants$Plan" "way" "I") (List.mem_of_getElem? (i := 1) rfl)) (fun _ h9 => h9) rfl (by decide +kernel) rfl rfl (Nat.le_of_ble_eq_true rfl) dX3_copyFrom_5 (fun H locs hP hD hS => ?_)
  have hP : va_P D vwCl (pW q (upd p 0 (p2 0)) ++ pW q2 p2) H := hP
  have hD : va_D (va_A (pW q p ++ pW q2 p2) s.heap.size) (pW q (upd p 0 (p2 0)) ++ pW q2 p2) := hD
  refine lv_aload_n hx hb dX3_copyFrom_8 rfl (lv_at hl 0 rfl) ?_
  refine lv_aload_n hx hb dX3_copyFrom_9 rfl (lv_at hl 1 rfl) ?_
  refine va_get (D := D) (ci := 3) (v := .int (p2 1)) (C := RX3) (T := TX3) (N := 5) hx hb hts hinX3 hown hK hP 1 rfl rfl 1 (by decide) (hts (.fieldLink RX3 18 "JoinGrants$Plan" "left" "I") (List.mem_of_getElem? (i := 2) rfl)) (fun _ h9 => h9) rfl dX3_copyFrom_10 ?_
  refine va_put (D := D) (ci := 3) (v := .int (p2 1)) (ty := .int) (C := RX3) (T := TX3) (N := 5) hx hb hts hinX3 tyX3 tyX3_ok nmX3 hown hK hP hD hS 0 rfl rfl 1 (by decide) (hts (.fieldLink RX3 18 "JoinGrants$Plan" "left" "I") (List.mem_of_getElem? (i := 2) rfl)) (fun _ h9 => h9) rfl (by decide +kernel) rfl rfl (Nat.le_of_ble_eq_true rfl) dX3_copyFrom_13 (fun H locs hP hD hS => ?_)
  have hP : va_P D vwCl (pW q (upd (upd p 0 (p2 0)) 1 (p2 1)) ++ pW q2 p2) H := hP
  have hD : va_D (va_A (pW q p ++ pW q2 p2) s.heap.size) (pW q (upd (upd p 0 (p2 0)) 1 (p2 1)) ++ pW q2 p2) := hD
  refine lv_aload_n hx hb dX3_copyFrom_16 rfl (lv_at hl 0 rfl) ?_
  refine lv_aload_n hx hb dX3_copyFrom_17 rfl (lv_at hl 1 rfl) ?_
  refine va_get (D := D) (ci := 3) (v := .int (p2 2)) (C := RX3) (T := TX3) (N := 5) hx hb hts hinX3 hown hK hP 1 rfl rfl 2 (by decide) (hts (.fieldLink RX3 22 "JoinGrants$Plan" "right" "I") (List.mem_of_getElem? (i := 3) rfl)) (fun _ h9 => h9) rfl dX3_copyFrom_18 ?_
  refine va_put (D := D) (ci := 3) (v := .int (p2 2)) (ty := .int) (C := RX3) (T := TX3) (N := 5) hx hb hts hinX3 tyX3 tyX3_ok nmX3 hown hK hP hD hS 0 rfl rfl 2 (by decide) (hts (.fieldLink RX3 22 "JoinGrants$Plan" "right" "I") (List.mem_of_getElem? (i := 3) rfl)) (fun _ h9 => h9) rfl (by decide +kernel) rfl rfl (Nat.le_of_ble_eq_true rfl) dX3_copyFrom_21 (fun H locs hP hD hS => ?_)
  have hP : va_P D vwCl (pW q (upd (upd (upd p 0 (p2 0)) 1 (p2 1)) 2 (p2 2)) ++ pW q2 p2) H := hP
  have hD : va_D (va_A (pW q p ++ pW q2 p2) s.heap.size) (pW q (upd (upd (upd p 0 (p2 0)) 1 (p2 1)) 2 (p2 2)) ++ pW q2 p2) := hD
  refine lv_aload_n hx hb dX3_copyFrom_24 rfl (lv_at hl 0 rfl) ?_
  refine lv_aload_n hx hb dX3_copyFrom_25 rfl (lv_at hl 1 rfl) ?_
  refine va_get (D := D) (ci := 3) (v := .int (p2 3)) (C := RX3) (T := TX3) (N := 5) hx hb hts hinX3 hown hK hP 1 rfl rfl 3 (by decide) (hts (.fieldLink RX3 36 "JoinGrants$Plan" "need" "I") (List.mem_of_getElem? (i := 4) rfl)) (fun _ h9 => h9) rfl dX3_copyFrom_26 ?_
  refine va_put (D := D) (ci := 3) (v := .int (p2 3)) (ty := .int) (C := RX3) (T := TX3) (N := 5) hx hb hts hinX3 tyX3 tyX3_ok nmX3 hown hK hP hD hS 0 rfl rfl 3 (by decide) (hts (.fieldLink RX3 36 "JoinGrants$Plan" "need" "I") (List.mem_of_getElem? (i := 4) rfl)) (fun _ h9 => h9) rfl (by decide +kernel) rfl rfl (Nat.le_of_ble_eq_true rfl) dX3_copyFrom_29 (fun H locs hP hD hS => ?_)
  have hP : va_P D vwCl (pW q (upd (upd (upd (upd p 0 (p2 0)) 1 (p2 1)) 2 (p2 2)) 3 (p2 3)) ++ pW q2 p2) H := hP
  have hD : va_D (va_A (pW q p ++ pW q2 p2) s.heap.size) (pW q (upd (upd (upd (upd p 0 (p2 0)) 1 (p2 1)) 2 (p2 2)) 3 (p2 3)) ++ pW q2 p2) := hD
  refine lv_aload_n hx hb dX3_copyFrom_32 rfl (lv_at hl 0 rfl) ?_
  refine lv_aload_n hx hb dX3_copyFrom_33 rfl (lv_at hl 1 rfl) ?_
  refine va_get (D := D) (ci := 3) (v := .int (p2 4)) (C := RX3) (T := TX3) (N := 5) hx hb hts hinX3 hown hK hP 1 rfl rfl 4 (by decide) (hts (.fieldLink RX3 48 "JoinGrants$Plan" "want" "I") (List.mem_of_getElem? (i := 5) rfl)) (fun _ h9 => h9) rfl dX3_copyFrom_34 ?_
  refine va_put (D := D) (ci := 3) (v := .int (p2 4)) (ty := .int) (C := RX3) (T := TX3) (N := 5) hx hb hts hinX3 tyX3 tyX3_ok nmX3 hown hK hP hD hS 0 rfl rfl 4 (by decide) (hts (.fieldLink RX3 48 "JoinGrants$Plan" "want" "I") (List.mem_of_getElem? (i := 5) rfl)) (fun _ h9 => h9) rfl (by decide +kernel) rfl rfl (Nat.le_of_ble_eq_true rfl) dX3_copyFrom_37 (fun H locs hP hD hS => ?_)
  have hP : va_P D vwCl (pW q (upd (upd (upd (upd (upd p 0 (p2 0)) 1 (p2 1)) 2 (p2 2)) 3 (p2 3)) 4 (p2 4)) ++ pW q2 p2) H := hP
  have hD : va_D (va_A (pW q p ++ pW q2 p2) s.heap.size) (pW q (upd (upd (upd (upd (upd p 0 (p2 0)) 1 (p2 1)) 2 (p2 2)) 3 (p2 3)) 4 (p2 4)) ++ pW q2 p2) := hD
  exact xvret hx hb hr hlk hP hD hS (congrArg (fun z => pW q z ++ pW q2 p2) (show gX3_copyFrom p p2 = (upd (upd (upd (upd (upd p 0 (p2 0)) 1 (p2 1)) 2 (p2 2)) 3 (p2 3)) 4 (p2 4)) from rfl)).symm dX3_copyFrom_40

def rmX1_come : Room := { frames := 4, cells := 0, slots := 0, locals := 85 }
def gX1_come (n : Int32) (v : Nat → Int32) (a1 : Int32) (a2 : Int32) (a3 : Int32) : (Nat → Int32) := (upd (hd6 v (gX3_make (tl6 v) a1 a2 a3)) 0 0)
set_option maxHeartbeats 4000000 in
set_option maxRecDepth 100000 in
theorem mX1_come (l : Launch) (D : va_G) (ck : Nat → ClassId) (h q : Nat) (n : Int32) (v : Nat → Int32) (a1 : Int32) (a2 : Int32) (a3 : Int32) : xMv l yX1_come wsX1_come rmX1_come D ck [.ref h, .int a1, .int a2, .int a3] (jW h q n v) (jW h q n (gX1_come n v a1 a2 a3)) 0 0 := by
  refine xMet (by decide) rfl (Nat.le_of_ble_eq_true rfl) ?_
  intro zp ze s zm zb zt zc hx hb hr hml hown hts hlk hnm hN hK hP hD ls hl
  have hown : s.vm.findClass RX1 = some zm.cls := hown
  have hl : lv_has ls 4 [(0, .ref h), (1, .int a1), (2, .int a2), (3, .int a3)] := hl
  have hS : va_S (va_A (jW h q n v) s.heap.size) s.heap s.heap [] := va_S.rf
  have hA : ∀ zq : Nat, s.heap.size ≤ zq → va_A (jW h q n v) s.heap.size zq := fun zq h => Or.inr h
  have hinX1 : ∀ w ∈ u_ws RX1 TX1 8, w ∈ wsX1_come := by decide +kernel
  refine lv_aload_n hx hb dX1_come_0 rfl (lv_at hl 0 rfl) ?_
  refine va_get (D := D) (ci := 1) (v := .ref q) (C := RX1) (T := TX1) (N := 8) hx hb hts hinX1 hown hK hP 0 rfl rfl 1 (by decide) (hts (.fieldLink RX1 10 "JoinGrants$Join" "plan" "LJoinGrants$Plan;") (List.mem_of_getElem? (i := 1) rfl)) (fun _ h9 => h9) rfl dX1_come_1 ?_
  refine lv_iload_n hx hb dX1_come_4 rfl (lv_at hl 1 rfl) ?_
  refine lv_iload_n hx hb dX1_come_5 rfl (lv_at hl 2 rfl) ?_
  refine lv_iload_n hx hb dX1_come_6 rfl (lv_at hl 3 rfl) ?_
  refine xretv (va_runV (As := [.int a1, .int a2, .int a3]) (rest := []) ⟨hx, hb, hml, hown, hts⟩ (mX3_make l D ck q (tl6 v) a1 a2 a3 _) (cwV 3 hts gX1_come_X3_make rfl rfl rfl (by decide +kernel) ⟨Nat.le_of_ble_eq_true rfl, Nat.le_of_ble_eq_true rfl⟩) (xpreV hN hK hP hD (pm_jp (v := v)) 0 rfl rfl rfl) rfl rfl hl.1 rfl (lv_room (Nat.le_of_ble_eq_true rfl)) dX1_come_7 ⟨Nat.le_of_ble_eq_true rfl, Nat.le_of_ble_eq_true rfl⟩) hP hD hS hA (pm_jp (v := v)) pm_jp' (fun H locs hP hD hS => ?_)
  have hP : va_P D vwCl (jW h q n (hd6 v (gX3_make (tl6 v) a1 a2 a3))) H := hP
  have hD : va_D (va_A (jW h q n v) s.heap.size) (jW h q n (hd6 v (gX3_make (tl6 v) a1 a2 a3))) := hD
  refine lv_aload_n hx hb dX1_come_10 rfl (lv_at hl 0 rfl) ?_
  refine lv_iconst (v := 0) hx hb dX1_come_11 (by decide) ?_
  refine va_put (D := D) (ci := 1) (v := .int 0) (ty := .int) (C := RX1) (T := TX1) (N := 8) hx hb hts hinX1 tyX1 tyX1_ok nmX1 hown hK hP hD hS 0 rfl rfl 2 (by decide) (hts (.fieldLink RX1 16 "JoinGrants$Join" "state" "I") (List.mem_of_getElem? (i := 2) rfl)) (fun _ h9 => h9) rfl (by decide +kernel) rfl rfl (Nat.le_of_ble_eq_true rfl) dX1_come_12 (fun H locs hP hD hS => ?_)
  have hP : va_P D vwCl (jW h q n (upd (hd6 v (gX3_make (tl6 v) a1 a2 a3)) 0 0)) H := hP
  have hD : va_D (va_A (jW h q n v) s.heap.size) (jW h q n (upd (hd6 v (gX3_make (tl6 v) a1 a2 a3)) 0 0)) := hD
  exact xvret hx hb hr hlk hP hD hS (congrArg (fun z => jW h q n z) (show gX1_come n v a1 a2 a3 = (upd (hd6 v (gX3_make (tl6 v) a1 a2 a3)) 0 0) from rfl)).symm dX1_come_15

def rmX1_changeWay : Room := { frames := 3, cells := 0, slots := 0, locals := 62 }
def gX1_changeWay (n : Int32) (v : Nat → Int32) (a1 : Int32) : (Nat → Int32) := (hd6 v (gX3_changeWay (tl6 v) a1))
set_option maxHeartbeats 4000000 in
set_option maxRecDepth 100000 in
theorem mX1_changeWay (l : Launch) (D : va_G) (ck : Nat → ClassId) (h q : Nat) (n : Int32) (v : Nat → Int32) (a1 : Int32) : xMv l yX1_changeWay wsX1_changeWay rmX1_changeWay D ck [.ref h, .int a1] (jW h q n v) (jW h q n (gX1_changeWay n v a1)) 0 0 := by
  refine xMet (by decide) rfl (Nat.le_of_ble_eq_true rfl) ?_
  intro zp ze s zm zb zt zc hx hb hr hml hown hts hlk hnm hN hK hP hD ls hl
  have hown : s.vm.findClass RX1 = some zm.cls := hown
  have hl : lv_has ls 2 [(0, .ref h), (1, .int a1)] := hl
  have hS : va_S (va_A (jW h q n v) s.heap.size) s.heap s.heap [] := va_S.rf
  have hA : ∀ zq : Nat, s.heap.size ≤ zq → va_A (jW h q n v) s.heap.size zq := fun zq h => Or.inr h
  have hinX1 : ∀ w ∈ u_ws RX1 TX1 8, w ∈ wsX1_changeWay := by decide +kernel
  refine lv_aload_n hx hb dX1_changeWay_0 rfl (lv_at hl 0 rfl) ?_
  refine va_get (D := D) (ci := 1) (v := .ref q) (C := RX1) (T := TX1) (N := 8) hx hb hts hinX1 hown hK hP 0 rfl rfl 1 (by decide) (hts (.fieldLink RX1 10 "JoinGrants$Join" "plan" "LJoinGrants$Plan;") (List.mem_of_getElem? (i := 1) rfl)) (fun _ h9 => h9) rfl dX1_changeWay_1 ?_
  refine lv_iload_n hx hb dX1_changeWay_4 rfl (lv_at hl 1 rfl) ?_
  refine xretv (va_runV (As := [.int a1]) (rest := []) ⟨hx, hb, hml, hown, hts⟩ (mX3_changeWay l D ck q (tl6 v) a1 _) (cwV 1 hts gX1_changeWay_X3_changeWay rfl rfl rfl (by decide +kernel) ⟨Nat.le_of_ble_eq_true rfl, Nat.le_of_ble_eq_true rfl⟩) (xpreV hN hK hP hD (pm_jp (v := v)) 0 rfl rfl rfl) rfl rfl hl.1 rfl (lv_room (Nat.le_of_ble_eq_true rfl)) dX1_changeWay_5 ⟨Nat.le_of_ble_eq_true rfl, Nat.le_of_ble_eq_true rfl⟩) hP hD hS hA (pm_jp (v := v)) pm_jp' (fun H locs hP hD hS => ?_)
  have hP : va_P D vwCl (jW h q n (hd6 v (gX3_changeWay (tl6 v) a1))) H := hP
  have hD : va_D (va_A (jW h q n v) s.heap.size) (jW h q n (hd6 v (gX3_changeWay (tl6 v) a1))) := hD
  exact xvret hx hb hr hlk hP hD hS (congrArg (fun z => jW h q n z) (show gX1_changeWay n v a1 = (hd6 v (gX3_changeWay (tl6 v) a1)) from rfl)).symm dX1_changeWay_8

def rmX1_start : Room := { frames := 1, cells := 0, slots := 0, locals := 24 }
def gX1_start (n : Int32) (v : Nat → Int32) (a1 : Int32) : (Nat → Int32) := (upd (upd (upd v 0 1) 1 a1) 2 (gX3_workWith (tl6 (upd (upd v 0 1) 1 a1)) a1))
set_option maxHeartbeats 4000000 in
set_option maxRecDepth 100000 in
theorem mX1_start (l : Launch) (D : va_G) (ck : Nat → ClassId) (h q : Nat) (n : Int32) (v : Nat → Int32) (a1 : Int32) : xMv l yX1_start wsX1_start rmX1_start D ck [.ref h, .int a1] (jW h q n v) (jW h q n (gX1_start n v a1)) 0 0 := by
  refine xMet (by decide) rfl (Nat.le_of_ble_eq_true rfl) ?_
  intro zp ze s zm zb zt zc hx hb hr hml hown hts hlk hnm hN hK hP hD ls hl
  have hown : s.vm.findClass RX1 = some zm.cls := hown
  have hl : lv_has ls 2 [(0, .ref h), (1, .int a1)] := hl
  have hS : va_S (va_A (jW h q n v) s.heap.size) s.heap s.heap [] := va_S.rf
  have hA : ∀ zq : Nat, s.heap.size ≤ zq → va_A (jW h q n v) s.heap.size zq := fun zq h => Or.inr h
  have hinX1 : ∀ w ∈ u_ws RX1 TX1 8, w ∈ wsX1_start := by decide +kernel
  refine lv_aload_n hx hb dX1_start_0 rfl (lv_at hl 0 rfl) ?_
  refine lv_iconst (v := 1) hx hb dX1_start_1 (by decide) ?_
  refine va_put (D := D) (ci := 1) (v := .int 1) (ty := .int) (C := RX1) (T := TX1) (N := 8) hx hb hts hinX1 tyX1 tyX1_ok nmX1 hown hK hP hD hS 0 rfl rfl 2 (by decide) (hts (.fieldLink RX1 16 "JoinGrants$Join" "state" "I") (List.mem_of_getElem? (i := 1) rfl)) (fun _ h9 => h9) rfl (by decide +kernel) rfl rfl (Nat.le_of_ble_eq_true rfl) dX1_start_2 (fun H locs hP hD hS => ?_)
  have hP : va_P D vwCl (jW h q n (upd v 0 1)) H := hP
  have hD : va_D (va_A (jW h q n v) s.heap.size) (jW h q n (upd v 0 1)) := hD
  refine lv_aload_n hx hb dX1_start_5 rfl (lv_at hl 0 rfl) ?_
  refine lv_iload_n hx hb dX1_start_6 rfl (lv_at hl 1 rfl) ?_
  refine va_put (D := D) (ci := 1) (v := .int a1) (ty := .int) (C := RX1) (T := TX1) (N := 8) hx hb hts hinX1 tyX1 tyX1_ok nmX1 hown hK hP hD hS 0 rfl rfl 3 (by decide) (hts (.fieldLink RX1 31 "JoinGrants$Join" "pages" "I") (List.mem_of_getElem? (i := 2) rfl)) (fun _ h9 => h9) rfl (by decide +kernel) rfl rfl (Nat.le_of_ble_eq_true rfl) dX1_start_7 (fun H locs hP hD hS => ?_)
  have hP : va_P D vwCl (jW h q n (upd (upd v 0 1) 1 a1)) H := hP
  have hD : va_D (va_A (jW h q n v) s.heap.size) (jW h q n (upd (upd v 0 1) 1 a1)) := hD
  refine lv_aload_n hx hb dX1_start_10 rfl (lv_at hl 0 rfl) ?_
  refine lv_aload_n hx hb dX1_start_11 rfl (lv_at hl 0 rfl) ?_
  refine va_get (D := D) (ci := 1) (v := .ref q) (C := RX1) (T := TX1) (N := 8) hx hb hts hinX1 hown hK hP 0 rfl rfl 1 (by decide) (hts (.fieldLink RX1 10 "JoinGrants$Join" "plan" "LJoinGrants$Plan;") (List.mem_of_getElem? (i := 3) rfl)) (fun _ h9 => h9) rfl dX1_start_12 ?_
  refine lv_iload_n hx hb dX1_start_15 rfl (lv_at hl 1 rfl) ?_
  refine xreti (va_runV (As := [.int a1]) (rest := [.ref h]) ⟨hx, hb, hml, hown, hts⟩ (mX3_workWith l D ck q (tl6 (upd (upd v 0 1) 1 a1)) a1 _) (cwV 1 hts gX1_start_X3_workWith rfl rfl rfl (by decide +kernel) ⟨Nat.le_of_ble_eq_true rfl, Nat.le_of_ble_eq_true rfl⟩) (xpreV hN hK hP hD (pm_jp (v := upd (upd v 0 1) 1 a1)) 0 rfl rfl rfl) rfl rfl hl.1 rfl (lv_room (Nat.le_of_ble_eq_true rfl)) dX1_start_16 ⟨Nat.le_of_ble_eq_true rfl, Nat.le_of_ble_eq_true rfl⟩) hP hD hS hA (pm_jp (v := upd (upd v 0 1) 1 a1)) (pm_jp (v := upd (upd v 0 1) 1 a1)).symm (fun H locs hP hD hS => ?_)
  refine va_put (D := D) (ci := 1) (v := .int (gX3_workWith (tl6 (upd (upd v 0 1) 1 a1)) a1)) (ty := .int) (C := RX1) (T := TX1) (N := 8) hx hb hts hinX1 tyX1 tyX1_ok nmX1 hown hK hP hD hS 0 rfl rfl 4 (by decide) (hts (.fieldLink RX1 38 "JoinGrants$Join" "workLeft" "I") (List.mem_of_getElem? (i := 4) rfl)) (fun _ h9 => h9) rfl (by decide +kernel) rfl rfl (Nat.le_of_ble_eq_true rfl) dX1_start_19 (fun H locs hP hD hS => ?_)
  have hP : va_P D vwCl (jW h q n (upd (upd (upd v 0 1) 1 a1) 2 (gX3_workWith (tl6 (upd (upd v 0 1) 1 a1)) a1))) H := hP
  have hD : va_D (va_A (jW h q n v) s.heap.size) (jW h q n (upd (upd (upd v 0 1) 1 a1) 2 (gX3_workWith (tl6 (upd (upd v 0 1) 1 a1)) a1))) := hD
  exact xvret hx hb hr hlk hP hD hS (congrArg (fun z => jW h q n z) (show gX1_start n v a1 = (upd (upd (upd v 0 1) 1 a1) 2 (gX3_workWith (tl6 (upd (upd v 0 1) 1 a1)) a1)) from rfl)).symm dX1_start_22

def rmX1_end : Room := { frames := 0, cells := 0, slots := 0, locals := 0 }
def gX1_end (n : Int32) (v : Nat → Int32) (a1 : Int32) : (Nat → Int32) := (upd (upd (upd v 0 a1) 1 0) 2 0)
set_option maxHeartbeats 4000000 in
set_option maxRecDepth 100000 in
theorem mX1_end (l : Launch) (D : va_G) (ck : Nat → ClassId) (h q : Nat) (n : Int32) (v : Nat → Int32) (a1 : Int32) : xMv l yX1_end wsX1_end rmX1_end D ck [.ref h, .int a1] (jW h q n v) (jW h q n (gX1_end n v a1)) 0 0 := by
  refine xMet (by decide) rfl (Nat.le_of_ble_eq_true rfl) ?_
  intro zp ze s zm zb zt zc hx hb hr hml hown hts hlk hnm hN hK hP hD ls hl
  have hown : s.vm.findClass RX1 = some zm.cls := hown
  have hl : lv_has ls 2 [(0, .ref h), (1, .int a1)] := hl
  have hS : va_S (va_A (jW h q n v) s.heap.size) s.heap s.heap [] := va_S.rf
  have hA : ∀ zq : Nat, s.heap.size ≤ zq → va_A (jW h q n v) s.heap.size zq := fun zq h => Or.inr h
  have hinX1 : ∀ w ∈ u_ws RX1 TX1 8, w ∈ wsX1_end := by decide +kernel
  refine lv_aload_n hx hb dX1_end_0 rfl (lv_at hl 0 rfl) ?_
  refine lv_iload_n hx hb dX1_end_1 rfl (lv_at hl 1 rfl) ?_
  refine va_put (D := D) (ci := 1) (v := .int a1) (ty := .int) (C := RX1) (T := TX1) (N := 8) hx hb hts hinX1 tyX1 tyX1_ok nmX1 hown hK hP hD hS 0 rfl rfl 2 (by decide) (hts (.fieldLink RX1 16 "JoinGrants$Join" "state" "I") (List.mem_of_getElem? (i := 1) rfl)) (fun _ h9 => h9) rfl (by decide +kernel) rfl rfl (Nat.le_of_ble_eq_true rfl) dX1_end_2 (fun H locs hP hD hS => ?_)
  have hP : va_P D vwCl (jW h q n (upd v 0 a1)) H := hP
  have hD : va_D (va_A (jW h q n v) s.heap.size) (jW h q n (upd v 0 a1)) := hD
  refine lv_aload_n hx hb dX1_end_5 rfl (lv_at hl 0 rfl) ?_
  refine lv_iconst (v := 0) hx hb dX1_end_6 (by decide) ?_
  refine va_put (D := D) (ci := 1) (v := .int 0) (ty := .int) (C := RX1) (T := TX1) (N := 8) hx hb hts hinX1 tyX1 tyX1_ok nmX1 hown hK hP hD hS 0 rfl rfl 3 (by decide) (hts (.fieldLink RX1 31 "JoinGrants$Join" "pages" "I") (List.mem_of_getElem? (i := 2) rfl)) (fun _ h9 => h9) rfl (by decide +kernel) rfl rfl (Nat.le_of_ble_eq_true rfl) dX1_end_7 (fun H locs hP hD hS => ?_)
  have hP : va_P D vwCl (jW h q n (upd (upd v 0 a1) 1 0)) H := hP
  have hD : va_D (va_A (jW h q n v) s.heap.size) (jW h q n (upd (upd v 0 a1) 1 0)) := hD
  refine lv_aload_n hx hb dX1_end_10 rfl (lv_at hl 0 rfl) ?_
  refine lv_iconst (v := 0) hx hb dX1_end_11 (by decide) ?_
  refine va_put (D := D) (ci := 1) (v := .int 0) (ty := .int) (C := RX1) (T := TX1) (N := 8) hx hb hts hinX1 tyX1 tyX1_ok nmX1 hown hK hP hD hS 0 rfl rfl 4 (by decide) (hts (.fieldLink RX1 38 "JoinGrants$Join" "workLeft" "I") (List.mem_of_getElem? (i := 3) rfl)) (fun _ h9 => h9) rfl (by decide +kernel) rfl rfl (Nat.le_of_ble_eq_true rfl) dX1_end_12 (fun H locs hP hD hS => ?_)
  have hP : va_P D vwCl (jW h q n (upd (upd (upd v 0 a1) 1 0) 2 0)) H := hP
  have hD : va_D (va_A (jW h q n v) s.heap.size) (jW h q n (upd (upd (upd v 0 a1) 1 0) 2 0)) := hD
  exact xvret hx hb hr hlk hP hD hS (congrArg (fun z => jW h q n z) (show gX1_end n v a1 = (upd (upd (upd v 0 a1) 1 0) 2 0) from rfl)).symm dX1_end_15

def rmX1_giveBack : Room := { frames := 1, cells := 0, slots := 0, locals := 24 }
def gX1_giveBack (n : Int32) (v : Nat → Int32) (a1 : Int32) : (Nat → Int32) := (if (lg_cmp (((gX3_workWith (tl6 v) (v 1))).toInt64) 0) ≤ 0 then (upd (upd v 1 ((v 1) - a1)) 5 ((v 5) + a1)) else (upd (upd (upd v 2 (((((((((v 2).toInt64) * (((gX3_workWith (tl6 v) ((v 1) - a1))).toInt64)) + (((gX3_workWith (tl6 v) (v 1))).toInt64)) - 1) / (((gX3_workWith (tl6 v) (v 1))).toInt64))).toInt32) + a1)) 1 ((v 1) - a1)) 5 ((v 5) + a1)))
set_option maxHeartbeats 4000000 in
set_option maxRecDepth 100000 in
theorem mX1_giveBack (l : Launch) (D : va_G) (ck : Nat → ClassId) (h q : Nat) (n : Int32) (v : Nat → Int32) (a1 : Int32) : xMv l yX1_giveBack wsX1_giveBack rmX1_giveBack D ck [.ref h, .int a1] (jW h q n v) (jW h q n (gX1_giveBack n v a1)) 0 0 := by
  refine xMet (by decide) rfl (Nat.le_of_ble_eq_true rfl) ?_
  intro zp ze s zm zb zt zc hx hb hr hml hown hts hlk hnm hN hK hP hD ls hl
  have hown : s.vm.findClass RX1 = some zm.cls := hown
  have hl : lv_has ls 6 [(0, .ref h), (1, .int a1)] := hl
  have hS : va_S (va_A (jW h q n v) s.heap.size) s.heap s.heap [] := va_S.rf
  have hA : ∀ zq : Nat, s.heap.size ≤ zq → va_A (jW h q n v) s.heap.size zq := fun zq h => Or.inr h
  have hinX1 : ∀ w ∈ u_ws RX1 TX1 8, w ∈ wsX1_giveBack := by decide +kernel
  refine lv_aload_n hx hb dX1_giveBack_0 rfl (lv_at hl 0 rfl) ?_
  refine va_get (D := D) (ci := 1) (v := .ref q) (C := RX1) (T := TX1) (N := 8) hx hb hts hinX1 hown hK hP 0 rfl rfl 1 (by decide) (hts (.fieldLink RX1 10 "JoinGrants$Join" "plan" "LJoinGrants$Plan;") (List.mem_of_getElem? (i := 1) rfl)) (fun _ h9 => h9) rfl dX1_giveBack_1 ?_
  refine lv_aload_n hx hb dX1_giveBack_4 rfl (lv_at hl 0 rfl) ?_
  refine va_get (D := D) (ci := 1) (v := .int (v 1)) (C := RX1) (T := TX1) (N := 8) hx hb hts hinX1 hown hK hP 0 rfl rfl 3 (by decide) (hts (.fieldLink RX1 31 "JoinGrants$Join" "pages" "I") (List.mem_of_getElem? (i := 2) rfl)) (fun _ h9 => h9) rfl dX1_giveBack_5 ?_
  refine xreti (va_runV (As := [.int (v 1)]) (rest := []) ⟨hx, hb, hml, hown, hts⟩ (mX3_workWith l D ck q (tl6 v) (v 1) _) (cwV 1 hts gX1_giveBack_X3_workWith rfl rfl rfl (by decide +kernel) ⟨Nat.le_of_ble_eq_true rfl, Nat.le_of_ble_eq_true rfl⟩) (xpreV hN hK hP hD (pm_jp (v := v)) 0 rfl rfl rfl) rfl rfl hl.1 rfl (lv_room (Nat.le_of_ble_eq_true rfl)) dX1_giveBack_8 ⟨Nat.le_of_ble_eq_true rfl, Nat.le_of_ble_eq_true rfl⟩) hP hD hS hA (pm_jp (v := v)) (pm_jp (v := v)).symm (fun H locs hP hD hS => ?_)
  refine lv_i2l (v := ((gX3_workWith (tl6 v) (v 1))).toInt64) hx hb dX1_giveBack_11 rfl ?_
  refine lv_lstore_n (lv' := [(2, .long (((gX3_workWith (tl6 v) (v 1))).toInt64)), (0, .ref h), (1, .int a1)]) hx hb dX1_giveBack_12 rfl hl (by decide) rfl (fun ls hl => ?_)
  refine lv_aload_n hx hb dX1_giveBack_13 rfl (lv_at hl 1 rfl) ?_
  refine va_get (D := D) (ci := 1) (v := .ref q) (C := RX1) (T := TX1) (N := 8) hx hb hts hinX1 hown hK hP 0 rfl rfl 1 (by decide) (hts (.fieldLink RX1 10 "JoinGrants$Join" "plan" "LJoinGrants$Plan;") (List.mem_of_getElem? (i := 1) rfl)) (fun _ h9 => h9) rfl dX1_giveBack_14 ?_
  refine lv_aload_n hx hb dX1_giveBack_17 rfl (lv_at hl 1 rfl) ?_
  refine va_get (D := D) (ci := 1) (v := .int (v 1)) (C := RX1) (T := TX1) (N := 8) hx hb hts hinX1 hown hK hP 0 rfl rfl 3 (by decide) (hts (.fieldLink RX1 31 "JoinGrants$Join" "pages" "I") (List.mem_of_getElem? (i := 2) rfl)) (fun _ h9 => h9) rfl dX1_giveBack_18 ?_
  refine lv_iload_n hx hb dX1_giveBack_21 rfl (lv_at hl 2 rfl) ?_
  refine lv_isub hx hb dX1_giveBack_22 ?_
  refine xreti (va_runV (As := [.int ((v 1) - a1)]) (rest := []) ⟨hx, hb, hml, hown, hts⟩ (mX3_workWith l D ck q (tl6 v) ((v 1) - a1) _) (cwV 1 hts gX1_giveBack_X3_workWith rfl rfl rfl (by decide +kernel) ⟨Nat.le_of_ble_eq_true rfl, Nat.le_of_ble_eq_true rfl⟩) (xpreV hN hK hP hD (pm_jp (v := v)) 0 rfl rfl rfl) rfl rfl hl.1 rfl (lv_room (Nat.le_of_ble_eq_true rfl)) dX1_giveBack_23 ⟨Nat.le_of_ble_eq_true rfl, Nat.le_of_ble_eq_true rfl⟩) hP hD hS hA (pm_jp (v := v)) (pm_jp (v := v)).symm (fun H locs hP hD hS => ?_)
  refine lv_i2l (v := ((gX3_workWith (tl6 v) ((v 1) - a1))).toInt64) hx hb dX1_giveBack_26 rfl ?_
  refine lv_lstore (lv' := [(4, .long (((gX3_workWith (tl6 v) ((v 1) - a1))).toInt64)), (2, .long (((gX3_workWith (tl6 v) (v 1))).toInt64)), (0, .ref h), (1, .int a1)]) hx hb dX1_giveBack_27 hl (by decide) rfl (fun ls hl => ?_)
  refine lv_lload_n hx hb dX1_giveBack_29 rfl (lv_at hl 1 rfl) ?_
  refine lv_lconst (v := 0) hx hb dX1_giveBack_30 (by decide) ?_
  refine W.lcmp hx hb dX1_giveBack_31 ?_
  refine lv_if_le (tgt := 56) hx hb dX1_giveBack_32 (by decide) (fun c_32 => ?_) (fun c_32 => ?_)
  · --t
    refine lv_aload_n hx hb dX1_giveBack_56 rfl (lv_at hl 2 rfl) ?_
    refine lv_dup hx hb dX1_giveBack_57 rfl ?_
    refine va_get (D := D) (ci := 1) (v := .int (v 1)) (C := RX1) (T := TX1) (N := 8) hx hb hts hinX1 hown hK hP 0 rfl rfl 3 (by decide) (hts (.fieldLink RX1 31 "JoinGrants$Join" "pages" "I") (List.mem_of_getElem? (i := 2) rfl)) (fun _ h9 => h9) rfl dX1_giveBack_58 ?_
    refine lv_iload_n hx hb dX1_giveBack_61 rfl (lv_at hl 3 rfl) ?_
    refine lv_isub hx hb dX1_giveBack_62 ?_
    refine va_put (D := D) (ci := 1) (v := .int ((v 1) - a1)) (ty := .int) (C := RX1) (T := TX1) (N := 8) hx hb hts hinX1 tyX1 tyX1_ok nmX1 hown hK hP hD hS 0 rfl rfl 3 (by decide) (hts (.fieldLink RX1 31 "JoinGrants$Join" "pages" "I") (List.mem_of_getElem? (i := 2) rfl)) (fun _ h9 => h9) rfl (by decide +kernel) rfl rfl (Nat.le_of_ble_eq_true rfl) dX1_giveBack_63 (fun H locs hP hD hS => ?_)
    have hP : va_P D vwCl (jW h q n (upd v 1 ((v 1) - a1))) H := hP
    have hD : va_D (va_A (jW h q n v) s.heap.size) (jW h q n (upd v 1 ((v 1) - a1))) := hD
    refine lv_aload_n hx hb dX1_giveBack_66 rfl (lv_at hl 2 rfl) ?_
    refine lv_dup hx hb dX1_giveBack_67 rfl ?_
    refine va_get (D := D) (ci := 1) (v := .int (v 5)) (C := RX1) (T := TX1) (N := 8) hx hb hts hinX1 hown hK hP 0 rfl rfl 7 (by decide) (hts (.fieldLink RX1 41 "JoinGrants$Join" "givenBack" "I") (List.mem_of_getElem? (i := 4) rfl)) (fun _ h9 => h9) rfl dX1_giveBack_68 ?_
    refine lv_iload_n hx hb dX1_giveBack_71 rfl (lv_at hl 3 rfl) ?_
    refine lv_iadd hx hb dX1_giveBack_72 ?_
    refine va_put (D := D) (ci := 1) (v := .int ((v 5) + a1)) (ty := .int) (C := RX1) (T := TX1) (N := 8) hx hb hts hinX1 tyX1 tyX1_ok nmX1 hown hK hP hD hS 0 rfl rfl 7 (by decide) (hts (.fieldLink RX1 41 "JoinGrants$Join" "givenBack" "I") (List.mem_of_getElem? (i := 4) rfl)) (fun _ h9 => h9) rfl (by decide +kernel) rfl rfl (Nat.le_of_ble_eq_true rfl) dX1_giveBack_73 (fun H locs hP hD hS => ?_)
    have hP : va_P D vwCl (jW h q n (upd (upd v 1 ((v 1) - a1)) 5 ((v 5) + a1))) H := hP
    have hD : va_D (va_A (jW h q n v) s.heap.size) (jW h q n (upd (upd v 1 ((v 1) - a1)) 5 ((v 5) + a1))) := hD
    exact xvret hx hb hr hlk hP hD hS (congrArg (fun z => jW h q n z) (show gX1_giveBack n v a1 = (upd (upd v 1 ((v 1) - a1)) 5 ((v 5) + a1)) from (Eq.trans (if_pos c_32) rfl))).symm dX1_giveBack_76
  · --f
    refine lv_aload_n hx hb dX1_giveBack_35 rfl (lv_at hl 2 rfl) ?_
    refine lv_aload_n hx hb dX1_giveBack_36 rfl (lv_at hl 2 rfl) ?_
    refine va_get (D := D) (ci := 1) (v := .int (v 2)) (C := RX1) (T := TX1) (N := 8) hx hb hts hinX1 hown hK hP 0 rfl rfl 4 (by decide) (hts (.fieldLink RX1 38 "JoinGrants$Join" "workLeft" "I") (List.mem_of_getElem? (i := 3) rfl)) (fun _ h9 => h9) rfl dX1_giveBack_37 ?_
    refine lv_i2l (v := (v 2).toInt64) hx hb dX1_giveBack_40 rfl ?_
    refine lv_lload hx hb dX1_giveBack_41 (lv_at hl 0 rfl) ?_
    refine lv_lmul hx hb dX1_giveBack_43 ?_
    refine lv_lload_n hx hb dX1_giveBack_44 rfl (lv_at hl 1 rfl) ?_
    refine lv_ladd hx hb dX1_giveBack_45 ?_
    refine lv_lconst (v := 1) hx hb dX1_giveBack_46 (by decide) ?_
    refine lv_lsub hx hb dX1_giveBack_47 ?_
    refine lv_lload_n hx hb dX1_giveBack_48 rfl (lv_at hl 1 rfl) ?_
    refine lv_ldiv hx hb dX1_giveBack_49 (x_lpos c_32) ?_
    refine lv_l2i (v := (((((((v 2).toInt64) * (((gX3_workWith (tl6 v) ((v 1) - a1))).toInt64)) + (((gX3_workWith (tl6 v) (v 1))).toInt64)) - 1) / (((gX3_workWith (tl6 v) (v 1))).toInt64))).toInt32) hx hb dX1_giveBack_50 rfl ?_
    refine lv_iload_n hx hb dX1_giveBack_51 rfl (lv_at hl 3 rfl) ?_
    refine lv_iadd hx hb dX1_giveBack_52 ?_
    refine va_put (D := D) (ci := 1) (v := .int (((((((((v 2).toInt64) * (((gX3_workWith (tl6 v) ((v 1) - a1))).toInt64)) + (((gX3_workWith (tl6 v) (v 1))).toInt64)) - 1) / (((gX3_workWith (tl6 v) (v 1))).toInt64))).toInt32) + a1)) (ty := .int) (C := RX1) (T := TX1) (N := 8) hx hb hts hinX1 tyX1 tyX1_ok nmX1 hown hK hP hD hS 0 rfl rfl 4 (by decide) (hts (.fieldLink RX1 38 "JoinGrants$Join" "workLeft" "I") (List.mem_of_getElem? (i := 3) rfl)) (fun _ h9 => h9) rfl (by decide +kernel) rfl rfl (Nat.le_of_ble_eq_true rfl) dX1_giveBack_53 (fun H locs hP hD hS => ?_)
    have hP : va_P D vwCl (jW h q n (upd v 2 (((((((((v 2).toInt64) * (((gX3_workWith (tl6 v) ((v 1) - a1))).toInt64)) + (((gX3_workWith (tl6 v) (v 1))).toInt64)) - 1) / (((gX3_workWith (tl6 v) (v 1))).toInt64))).toInt32) + a1))) H := hP
    have hD : va_D (va_A (jW h q n v) s.heap.size) (jW h q n (upd v 2 (((((((((v 2).toInt64) * (((gX3_workWith (tl6 v) ((v 1) - a1))).toInt64)) + (((gX3_workWith (tl6 v) (v 1))).toInt64)) - 1) / (((gX3_workWith (tl6 v) (v 1))).toInt64))).toInt32) + a1))) := hD
    refine lv_aload_n hx hb dX1_giveBack_56 rfl (lv_at hl 2 rfl) ?_
    refine lv_dup hx hb dX1_giveBack_57 rfl ?_
    refine va_get (D := D) (ci := 1) (v := .int (v 1)) (C := RX1) (T := TX1) (N := 8) hx hb hts hinX1 hown hK hP 0 rfl rfl 3 (by decide) (hts (.fieldLink RX1 31 "JoinGrants$Join" "pages" "I") (List.mem_of_getElem? (i := 2) rfl)) (fun _ h9 => h9) rfl dX1_giveBack_58 ?_
    refine lv_iload_n hx hb dX1_giveBack_61 rfl (lv_at hl 3 rfl) ?_
    refine lv_isub hx hb dX1_giveBack_62 ?_
    refine va_put (D := D) (ci := 1) (v := .int ((v 1) - a1)) (ty := .int) (C := RX1) (T := TX1) (N := 8) hx hb hts hinX1 tyX1 tyX1_ok nmX1 hown hK hP hD hS 0 rfl rfl 3 (by decide) (hts (.fieldLink RX1 31 "JoinGrants$Join" "pages" "I") (List.mem_of_getElem? (i := 2) rfl)) (fun _ h9 => h9) rfl (by decide +kernel) rfl rfl (Nat.le_of_ble_eq_true rfl) dX1_giveBack_63 (fun H locs hP hD hS => ?_)
    have hP : va_P D vwCl (jW h q n (upd (upd v 2 (((((((((v 2).toInt64) * (((gX3_workWith (tl6 v) ((v 1) - a1))).toInt64)) + (((gX3_workWith (tl6 v) (v 1))).toInt64)) - 1) / (((gX3_workWith (tl6 v) (v 1))).toInt64))).toInt32) + a1)) 1 ((v 1) - a1))) H := hP
    have hD : va_D (va_A (jW h q n v) s.heap.size) (jW h q n (upd (upd v 2 (((((((((v 2).toInt64) * (((gX3_workWith (tl6 v) ((v 1) - a1))).toInt64)) + (((gX3_workWith (tl6 v) (v 1))).toInt64)) - 1) / (((gX3_workWith (tl6 v) (v 1))).toInt64))).toInt32) + a1)) 1 ((v 1) - a1))) := hD
    refine lv_aload_n hx hb dX1_giveBack_66 rfl (lv_at hl 2 rfl) ?_
    refine lv_dup hx hb dX1_giveBack_67 rfl ?_
    refine va_get (D := D) (ci := 1) (v := .int (v 5)) (C := RX1) (T := TX1) (N := 8) hx hb hts hinX1 hown hK hP 0 rfl rfl 7 (by decide) (hts (.fieldLink RX1 41 "JoinGrants$Join" "givenBack" "I") (List.mem_of_getElem? (i := 4) rfl)) (fun _ h9 => h9) rfl dX1_giveBack_68 ?_
    refine lv_iload_n hx hb dX1_giveBack_71 rfl (lv_at hl 3 rfl) ?_
    refine lv_iadd hx hb dX1_giveBack_72 ?_
    refine va_put (D := D) (ci := 1) (v := .int ((v 5) + a1)) (ty := .int) (C := RX1) (T := TX1) (N := 8) hx hb hts hinX1 tyX1 tyX1_ok nmX1 hown hK hP hD hS 0 rfl rfl 7 (by decide) (hts (.fieldLink RX1 41 "JoinGrants$Join" "givenBack" "I") (List.mem_of_getElem? (i := 4) rfl)) (fun _ h9 => h9) rfl (by decide +kernel) rfl rfl (Nat.le_of_ble_eq_true rfl) dX1_giveBack_73 (fun H locs hP hD hS => ?_)
    have hP : va_P D vwCl (jW h q n (upd (upd (upd v 2 (((((((((v 2).toInt64) * (((gX3_workWith (tl6 v) ((v 1) - a1))).toInt64)) + (((gX3_workWith (tl6 v) (v 1))).toInt64)) - 1) / (((gX3_workWith (tl6 v) (v 1))).toInt64))).toInt32) + a1)) 1 ((v 1) - a1)) 5 ((v 5) + a1))) H := hP
    have hD : va_D (va_A (jW h q n v) s.heap.size) (jW h q n (upd (upd (upd v 2 (((((((((v 2).toInt64) * (((gX3_workWith (tl6 v) ((v 1) - a1))).toInt64)) + (((gX3_workWith (tl6 v) (v 1))).toInt64)) - 1) / (((gX3_workWith (tl6 v) (v 1))).toInt64))).toInt32) + a1)) 1 ((v 1) - a1)) 5 ((v 5) + a1))) := hD
    exact xvret hx hb hr hlk hP hD hS (congrArg (fun z => jW h q n z) (show gX1_giveBack n v a1 = (upd (upd (upd v 2 (((((((((v 2).toInt64) * (((gX3_workWith (tl6 v) ((v 1) - a1))).toInt64)) + (((gX3_workWith (tl6 v) (v 1))).toInt64)) - 1) / (((gX3_workWith (tl6 v) (v 1))).toInt64))).toInt32) + a1)) 1 ((v 1) - a1)) 5 ((v 5) + a1)) from (Eq.trans (if_neg c_32) rfl))).symm dX1_giveBack_76

def rmX1_pass : Room := { frames := 1, cells := 0, slots := 0, locals := 24 }
def gX1_pass (n : Int32) (v : Nat → Int32) (a1 : Int32) (a2 : Int32) : Int32 × (Nat → Int32) := (if (v 0) = 0 then (if (v 0) = 1 then ((if (a1 * a2) < (v 2) then (a1 * a2) else (v 2)), upd (upd (upd v 3 ((v 3) + a1)) 4 ((v 4) + a1)) 2 ((v 2) - (if (a1 * a2) < (v 2) then (a1 * a2) else (v 2)))) else (0, upd v 3 ((v 3) + a1))) else (if (v 0) = 1 then ((if (a1 * a2) < (v 2) then (a1 * a2) else (v 2)), upd (upd v 4 ((v 4) + a1)) 2 ((v 2) - (if (a1 * a2) < (v 2) then (a1 * a2) else (v 2)))) else (0, v)))
set_option maxHeartbeats 4000000 in
set_option maxRecDepth 100000 in
theorem mX1_pass (l : Launch) (D : va_G) (ck : Nat → ClassId) (h q : Nat) (n : Int32) (v : Nat → Int32) (a1 : Int32) (a2 : Int32) : xMi l yX1_pass wsX1_pass rmX1_pass D ck [.ref h, .int a1, .int a2] (jW h q n v) (jW h q n ((gX1_pass n v a1 a2).2)) ((gX1_pass n v a1 a2).1) 0 0 := by
  refine xMet (by decide) rfl (Nat.le_of_ble_eq_true rfl) ?_
  intro zp ze s zm zb zt zc hx hb hr hml hown hts hlk hnm hN hK hP hD ls hl
  have hown : s.vm.findClass RX1 = some zm.cls := hown
  have hl : lv_has ls 4 [(0, .ref h), (1, .int a1), (2, .int a2)] := hl
  have hS : va_S (va_A (jW h q n v) s.heap.size) s.heap s.heap [] := va_S.rf
  have hA : ∀ zq : Nat, s.heap.size ≤ zq → va_A (jW h q n v) s.heap.size zq := fun zq h => Or.inr h
  have hinX1 : ∀ w ∈ u_ws RX1 TX1 8, w ∈ wsX1_pass := by decide +kernel
  refine lv_aload_n hx hb dX1_pass_0 rfl (lv_at hl 0 rfl) ?_
  refine va_get (D := D) (ci := 1) (v := .int (v 0)) (C := RX1) (T := TX1) (N := 8) hx hb hts hinX1 hown hK hP 0 rfl rfl 2 (by decide) (hts (.fieldLink RX1 16 "JoinGrants$Join" "state" "I") (List.mem_of_getElem? (i := 1) rfl)) (fun _ h9 => h9) rfl dX1_pass_1 ?_
  refine lv_if_ne (tgt := 17) hx hb dX1_pass_4 (by decide) (fun c_4 => ?_) (fun c_4 => ?_)
  · --t
    refine lv_aload_n hx hb dX1_pass_17 rfl (lv_at hl 0 rfl) ?_
    refine va_get (D := D) (ci := 1) (v := .int (v 0)) (C := RX1) (T := TX1) (N := 8) hx hb hts hinX1 hown hK hP 0 rfl rfl 2 (by decide) (hts (.fieldLink RX1 16 "JoinGrants$Join" "state" "I") (List.mem_of_getElem? (i := 1) rfl)) (fun _ h9 => h9) rfl dX1_pass_18 ?_
    refine lv_iconst (v := 1) hx hb dX1_pass_21 (by decide) ?_
    refine lv_icmp_eq (tgt := 27) hx hb dX1_pass_22 (by decide) (fun c_22 => ?_) (fun c_22 => ?_)
    · --t
      refine lv_aload_n hx hb dX1_pass_27 rfl (lv_at hl 0 rfl) ?_
      refine lv_dup hx hb dX1_pass_28 rfl ?_
      refine va_get (D := D) (ci := 1) (v := .int (v 4)) (C := RX1) (T := TX1) (N := 8) hx hb hts hinX1 hown hK hP 0 rfl rfl 6 (by decide) (hts (.fieldLink RX1 47 "JoinGrants$Join" "stepsWorked" "I") (List.mem_of_getElem? (i := 3) rfl)) (fun _ h9 => h9) rfl dX1_pass_29 ?_
      refine lv_iload_n hx hb dX1_pass_32 rfl (lv_at hl 1 rfl) ?_
      refine lv_iadd hx hb dX1_pass_33 ?_
      refine va_put (D := D) (ci := 1) (v := .int ((v 4) + a1)) (ty := .int) (C := RX1) (T := TX1) (N := 8) hx hb hts hinX1 tyX1 tyX1_ok nmX1 hown hK hP hD hS 0 rfl rfl 6 (by decide) (hts (.fieldLink RX1 47 "JoinGrants$Join" "stepsWorked" "I") (List.mem_of_getElem? (i := 3) rfl)) (fun _ h9 => h9) rfl (by decide +kernel) rfl rfl (Nat.le_of_ble_eq_true rfl) dX1_pass_34 (fun H locs hP hD hS => ?_)
      have hP : va_P D vwCl (jW h q n (upd v 4 ((v 4) + a1))) H := hP
      have hD : va_D (va_A (jW h q n v) s.heap.size) (jW h q n (upd v 4 ((v 4) + a1))) := hD
      refine lv_aload_n hx hb dX1_pass_37 rfl (lv_at hl 0 rfl) ?_
      refine va_get (D := D) (ci := 1) (v := .int (v 2)) (C := RX1) (T := TX1) (N := 8) hx hb hts hinX1 hown hK hP 0 rfl rfl 4 (by decide) (hts (.fieldLink RX1 38 "JoinGrants$Join" "workLeft" "I") (List.mem_of_getElem? (i := 4) rfl)) (fun _ h9 => h9) rfl dX1_pass_38 ?_
      refine lv_iload_n hx hb dX1_pass_41 rfl (lv_at hl 1 rfl) ?_
      refine lv_iload_n hx hb dX1_pass_42 rfl (lv_at hl 2 rfl) ?_
      refine lv_imul hx hb dX1_pass_43 ?_
      refine va_mmin hx hb (hml.trans hl.1.symm) hown (hts (.methodLink RX1 50 Lib.Math.min.name) (List.mem_of_getElem? (i := 5) rfl)) (hts (.static Lib.Math.min.name) (List.mem_of_getElem? (i := 6) rfl)) (hts (.initialized "java/lang/Math") (List.mem_of_getElem? (i := 7) rfl)) (hts (.code Lib.Math.min.name Lib.Math.min.code 2 (some .int)) (List.mem_of_getElem? (i := 8) rfl)) (Nat.le_of_ble_eq_true rfl) (Nat.le_of_ble_eq_true rfl) (Nat.le_of_ble_eq_true rfl) (Nat.le_of_ble_eq_true rfl) dX1_pass_44 ?_
      refine lv_istore_n (lv' := [(3, .int (if (a1 * a2) < (v 2) then (a1 * a2) else (v 2))), (0, .ref h), (1, .int a1), (2, .int a2)]) hx hb dX1_pass_47 rfl hl (by decide) rfl (fun ls hl => ?_)
      refine lv_aload_n hx hb dX1_pass_48 rfl (lv_at hl 1 rfl) ?_
      refine lv_dup hx hb dX1_pass_49 rfl ?_
      refine va_get (D := D) (ci := 1) (v := .int (v 2)) (C := RX1) (T := TX1) (N := 8) hx hb hts hinX1 hown hK hP 0 rfl rfl 4 (by decide) (hts (.fieldLink RX1 38 "JoinGrants$Join" "workLeft" "I") (List.mem_of_getElem? (i := 4) rfl)) (fun _ h9 => h9) rfl dX1_pass_50 ?_
      refine lv_iload_n hx hb dX1_pass_53 rfl (lv_at hl 0 rfl) ?_
      refine lv_isub hx hb dX1_pass_54 ?_
      refine va_put (D := D) (ci := 1) (v := .int ((v 2) - (if (a1 * a2) < (v 2) then (a1 * a2) else (v 2)))) (ty := .int) (C := RX1) (T := TX1) (N := 8) hx hb hts hinX1 tyX1 tyX1_ok nmX1 hown hK hP hD hS 0 rfl rfl 4 (by decide) (hts (.fieldLink RX1 38 "JoinGrants$Join" "workLeft" "I") (List.mem_of_getElem? (i := 4) rfl)) (fun _ h9 => h9) rfl (by decide +kernel) rfl rfl (Nat.le_of_ble_eq_true rfl) dX1_pass_55 (fun H locs hP hD hS => ?_)
      have hP : va_P D vwCl (jW h q n (upd (upd v 4 ((v 4) + a1)) 2 ((v 2) - (if (a1 * a2) < (v 2) then (a1 * a2) else (v 2))))) H := hP
      have hD : va_D (va_A (jW h q n v) s.heap.size) (jW h q n (upd (upd v 4 ((v 4) + a1)) 2 ((v 2) - (if (a1 * a2) < (v 2) then (a1 * a2) else (v 2))))) := hD
      refine lv_iload_n hx hb dX1_pass_58 rfl (lv_at hl 0 rfl) ?_
      exact xiret hx hb hr hlk hP hD hS (congrArg (fun z => z.1) (show gX1_pass n v a1 a2 = ((if (a1 * a2) < (v 2) then (a1 * a2) else (v 2)), upd (upd v 4 ((v 4) + a1)) 2 ((v 2) - (if (a1 * a2) < (v 2) then (a1 * a2) else (v 2)))) from (Eq.trans (if_neg c_4) (Eq.trans (if_pos c_22) rfl)))).symm (congrArg (fun z => jW h q n z.2) (show gX1_pass n v a1 a2 = ((if (a1 * a2) < (v 2) then (a1 * a2) else (v 2)), upd (upd v 4 ((v 4) + a1)) 2 ((v 2) - (if (a1 * a2) < (v 2) then (a1 * a2) else (v 2)))) from (Eq.trans (if_neg c_4) (Eq.trans (if_pos c_22) rfl)))).symm dX1_pass_59
    · --f
      refine lv_iconst (v := 0) hx hb dX1_pass_25 (by decide) ?_
      exact xiret hx hb hr hlk hP hD hS (congrArg (fun z => z.1) (show gX1_pass n v a1 a2 = (0, v) from (Eq.trans (if_neg c_4) (Eq.trans (if_neg c_22) rfl)))).symm (congrArg (fun z => jW h q n z.2) (show gX1_pass n v a1 a2 = (0, v) from (Eq.trans (if_neg c_4) (Eq.trans (if_neg c_22) rfl)))).symm dX1_pass_26
  · --f
    refine lv_aload_n hx hb dX1_pass_7 rfl (lv_at hl 0 rfl) ?_
    refine lv_dup hx hb dX1_pass_8 rfl ?_
    refine va_get (D := D) (ci := 1) (v := .int (v 3)) (C := RX1) (T := TX1) (N := 8) hx hb hts hinX1 hown hK hP 0 rfl rfl 5 (by decide) (hts (.fieldLink RX1 44 "JoinGrants$Join" "stepsWaited" "I") (List.mem_of_getElem? (i := 2) rfl)) (fun _ h9 => h9) rfl dX1_pass_9 ?_
    refine lv_iload_n hx hb dX1_pass_12 rfl (lv_at hl 1 rfl) ?_
    refine lv_iadd hx hb dX1_pass_13 ?_
    refine va_put (D := D) (ci := 1) (v := .int ((v 3) + a1)) (ty := .int) (C := RX1) (T := TX1) (N := 8) hx hb hts hinX1 tyX1 tyX1_ok nmX1 hown hK hP hD hS 0 rfl rfl 5 (by decide) (hts (.fieldLink RX1 44 "JoinGrants$Join" "stepsWaited" "I") (List.mem_of_getElem? (i := 2) rfl)) (fun _ h9 => h9) rfl (by decide +kernel) rfl rfl (Nat.le_of_ble_eq_true rfl) dX1_pass_14 (fun H locs hP hD hS => ?_)
    have hP : va_P D vwCl (jW h q n (upd v 3 ((v 3) + a1))) H := hP
    have hD : va_D (va_A (jW h q n v) s.heap.size) (jW h q n (upd v 3 ((v 3) + a1))) := hD
    refine lv_aload_n hx hb dX1_pass_17 rfl (lv_at hl 0 rfl) ?_
    refine va_get (D := D) (ci := 1) (v := .int (v 0)) (C := RX1) (T := TX1) (N := 8) hx hb hts hinX1 hown hK hP 0 rfl rfl 2 (by decide) (hts (.fieldLink RX1 16 "JoinGrants$Join" "state" "I") (List.mem_of_getElem? (i := 1) rfl)) (fun _ h9 => h9) rfl dX1_pass_18 ?_
    refine lv_iconst (v := 1) hx hb dX1_pass_21 (by decide) ?_
    refine lv_icmp_eq (tgt := 27) hx hb dX1_pass_22 (by decide) (fun c_22 => ?_) (fun c_22 => ?_)
    · --t
      refine lv_aload_n hx hb dX1_pass_27 rfl (lv_at hl 0 rfl) ?_
      refine lv_dup hx hb dX1_pass_28 rfl ?_
      refine va_get (D := D) (ci := 1) (v := .int (v 4)) (C := RX1) (T := TX1) (N := 8) hx hb hts hinX1 hown hK hP 0 rfl rfl 6 (by decide) (hts (.fieldLink RX1 47 "JoinGrants$Join" "stepsWorked" "I") (List.mem_of_getElem? (i := 3) rfl)) (fun _ h9 => h9) rfl dX1_pass_29 ?_
      refine lv_iload_n hx hb dX1_pass_32 rfl (lv_at hl 1 rfl) ?_
      refine lv_iadd hx hb dX1_pass_33 ?_
      refine va_put (D := D) (ci := 1) (v := .int ((v 4) + a1)) (ty := .int) (C := RX1) (T := TX1) (N := 8) hx hb hts hinX1 tyX1 tyX1_ok nmX1 hown hK hP hD hS 0 rfl rfl 6 (by decide) (hts (.fieldLink RX1 47 "JoinGrants$Join" "stepsWorked" "I") (List.mem_of_getElem? (i := 3) rfl)) (fun _ h9 => h9) rfl (by decide +kernel) rfl rfl (Nat.le_of_ble_eq_true rfl) dX1_pass_34 (fun H locs hP hD hS => ?_)
      have hP : va_P D vwCl (jW h q n (upd (upd v 3 ((v 3) + a1)) 4 ((v 4) + a1))) H := hP
      have hD : va_D (va_A (jW h q n v) s.heap.size) (jW h q n (upd (upd v 3 ((v 3) + a1)) 4 ((v 4) + a1))) := hD
      refine lv_aload_n hx hb dX1_pass_37 rfl (lv_at hl 0 rfl) ?_
      refine va_get (D := D) (ci := 1) (v := .int (v 2)) (C := RX1) (T := TX1) (N := 8) hx hb hts hinX1 hown hK hP 0 rfl rfl 4 (by decide) (hts (.fieldLink RX1 38 "JoinGrants$Join" "workLeft" "I") (List.mem_of_getElem? (i := 4) rfl)) (fun _ h9 => h9) rfl dX1_pass_38 ?_
      refine lv_iload_n hx hb dX1_pass_41 rfl (lv_at hl 1 rfl) ?_
      refine lv_iload_n hx hb dX1_pass_42 rfl (lv_at hl 2 rfl) ?_
      refine lv_imul hx hb dX1_pass_43 ?_
      refine va_mmin hx hb (hml.trans hl.1.symm) hown (hts (.methodLink RX1 50 Lib.Math.min.name) (List.mem_of_getElem? (i := 5) rfl)) (hts (.static Lib.Math.min.name) (List.mem_of_getElem? (i := 6) rfl)) (hts (.initialized "java/lang/Math") (List.mem_of_getElem? (i := 7) rfl)) (hts (.code Lib.Math.min.name Lib.Math.min.code 2 (some .int)) (List.mem_of_getElem? (i := 8) rfl)) (Nat.le_of_ble_eq_true rfl) (Nat.le_of_ble_eq_true rfl) (Nat.le_of_ble_eq_true rfl) (Nat.le_of_ble_eq_true rfl) dX1_pass_44 ?_
      refine lv_istore_n (lv' := [(3, .int (if (a1 * a2) < (v 2) then (a1 * a2) else (v 2))), (0, .ref h), (1, .int a1), (2, .int a2)]) hx hb dX1_pass_47 rfl hl (by decide) rfl (fun ls hl => ?_)
      refine lv_aload_n hx hb dX1_pass_48 rfl (lv_at hl 1 rfl) ?_
      refine lv_dup hx hb dX1_pass_49 rfl ?_
      refine va_get (D := D) (ci := 1) (v := .int (v 2)) (C := RX1) (T := TX1) (N := 8) hx hb hts hinX1 hown hK hP 0 rfl rfl 4 (by decide) (hts (.fieldLink RX1 38 "JoinGrants$Join" "workLeft" "I") (List.mem_of_getElem? (i := 4) rfl)) (fun _ h9 => h9) rfl dX1_pass_50 ?_
      refine lv_iload_n hx hb dX1_pass_53 rfl (lv_at hl 0 rfl) ?_
      refine lv_isub hx hb dX1_pass_54 ?_
      refine va_put (D := D) (ci := 1) (v := .int ((v 2) - (if (a1 * a2) < (v 2) then (a1 * a2) else (v 2)))) (ty := .int) (C := RX1) (T := TX1) (N := 8) hx hb hts hinX1 tyX1 tyX1_ok nmX1 hown hK hP hD hS 0 rfl rfl 4 (by decide) (hts (.fieldLink RX1 38 "JoinGrants$Join" "workLeft" "I") (List.mem_of_getElem? (i := 4) rfl)) (fun _ h9 => h9) rfl (by decide +kernel) rfl rfl (Nat.le_of_ble_eq_true rfl) dX1_pass_55 (fun H locs hP hD hS => ?_)
      have hP : va_P D vwCl (jW h q n (upd (upd (upd v 3 ((v 3) + a1)) 4 ((v 4) + a1)) 2 ((v 2) - (if (a1 * a2) < (v 2) then (a1 * a2) else (v 2))))) H := hP
      have hD : va_D (va_A (jW h q n v) s.heap.size) (jW h q n (upd (upd (upd v 3 ((v 3) + a1)) 4 ((v 4) + a1)) 2 ((v 2) - (if (a1 * a2) < (v 2) then (a1 * a2) else (v 2))))) := hD
      refine lv_iload_n hx hb dX1_pass_58 rfl (lv_at hl 0 rfl) ?_
      exact xiret hx hb hr hlk hP hD hS (congrArg (fun z => z.1) (show gX1_pass n v a1 a2 = ((if (a1 * a2) < (v 2) then (a1 * a2) else (v 2)), upd (upd (upd v 3 ((v 3) + a1)) 4 ((v 4) + a1)) 2 ((v 2) - (if (a1 * a2) < (v 2) then (a1 * a2) else (v 2)))) from (Eq.trans (if_pos c_4) (Eq.trans (if_pos c_22) rfl)))).symm (congrArg (fun z => jW h q n z.2) (show gX1_pass n v a1 a2 = ((if (a1 * a2) < (v 2) then (a1 * a2) else (v 2)), upd (upd (upd v 3 ((v 3) + a1)) 4 ((v 4) + a1)) 2 ((v 2) - (if (a1 * a2) < (v 2) then (a1 * a2) else (v 2)))) from (Eq.trans (if_pos c_4) (Eq.trans (if_pos c_22) rfl)))).symm dX1_pass_59
    · --f
      refine lv_iconst (v := 0) hx hb dX1_pass_25 (by decide) ?_
      exact xiret hx hb hr hlk hP hD hS (congrArg (fun z => z.1) (show gX1_pass n v a1 a2 = (0, upd v 3 ((v 3) + a1)) from (Eq.trans (if_pos c_4) (Eq.trans (if_neg c_22) rfl)))).symm (congrArg (fun z => jW h q n z.2) (show gX1_pass n v a1 a2 = (0, upd v 3 ((v 3) + a1)) from (Eq.trans (if_pos c_4) (Eq.trans (if_neg c_22) rfl)))).symm dX1_pass_26

def rmX1_stepsLeft : Room := { frames := 0, cells := 0, slots := 0, locals := 0 }
def gX1_stepsLeft (n : Int32) (v : Nat → Int32) (a1 : Int32) : Int32 := (if 1 ≤ a1 then ((((v 2) + a1) - 1) / a1) else 1)
set_option maxHeartbeats 4000000 in
set_option maxRecDepth 100000 in
theorem mX1_stepsLeft (l : Launch) (D : va_G) (ck : Nat → ClassId) (h q : Nat) (n : Int32) (v : Nat → Int32) (a1 : Int32) : xMi l yX1_stepsLeft wsX1_stepsLeft rmX1_stepsLeft D ck [.ref h, .int a1] (jW h q n v) (jW h q n v) (gX1_stepsLeft n v a1) 0 0 := by
  refine xMet (by decide) rfl (Nat.le_of_ble_eq_true rfl) ?_
  intro zp ze s zm zb zt zc hx hb hr hml hown hts hlk hnm hN hK hP hD ls hl
  have hown : s.vm.findClass RX1 = some zm.cls := hown
  have hl : lv_has ls 2 [(0, .ref h), (1, .int a1)] := hl
  have hS : va_S (va_A (jW h q n v) s.heap.size) s.heap s.heap [] := va_S.rf
  have hA : ∀ zq : Nat, s.heap.size ≤ zq → va_A (jW h q n v) s.heap.size zq := fun zq h => Or.inr h
  have hinX1 : ∀ w ∈ u_ws RX1 TX1 8, w ∈ wsX1_stepsLeft := by decide +kernel
  refine lv_iload_n hx hb dX1_stepsLeft_0 rfl (lv_at hl 1 rfl) ?_
  refine lv_iconst (v := 1) hx hb dX1_stepsLeft_1 (by decide) ?_
  refine lv_icmp_ge (tgt := 9) hx hb dX1_stepsLeft_2 (by decide) (fun c_2 => ?_) (fun c_2 => ?_)
  · --t
    refine lv_aload_n hx hb dX1_stepsLeft_9 rfl (lv_at hl 0 rfl) ?_
    refine va_get (D := D) (ci := 1) (v := .int (v 2)) (C := RX1) (T := TX1) (N := 8) hx hb hts hinX1 hown hK hP 0 rfl rfl 4 (by decide) (hts (.fieldLink RX1 38 "JoinGrants$Join" "workLeft" "I") (List.mem_of_getElem? (i := 1) rfl)) (fun _ h9 => h9) rfl dX1_stepsLeft_10 ?_
    refine lv_iload_n hx hb dX1_stepsLeft_13 rfl (lv_at hl 1 rfl) ?_
    refine lv_iadd hx hb dX1_stepsLeft_14 ?_
    refine lv_iconst (v := 1) hx hb dX1_stepsLeft_15 (by decide) ?_
    refine lv_isub hx hb dX1_stepsLeft_16 ?_
    refine lv_iload_n hx hb dX1_stepsLeft_17 rfl (lv_at hl 1 rfl) ?_
    refine lv_idiv hx hb dX1_stepsLeft_18 (x_p1 c_2) ?_
    exact xiret hx hb hr hlk hP hD hS (show gX1_stepsLeft n v a1 = ((((v 2) + a1) - 1) / a1) from (Eq.trans (if_pos c_2) rfl)).symm rfl dX1_stepsLeft_19
  · --f
    refine lv_iconst (v := 1) hx hb dX1_stepsLeft_5 (by decide) ?_
    refine lv_goto (tgt := 19) hx hb dX1_stepsLeft_6 (by decide) ?_
    exact xiret hx hb hr hlk hP hD hS (show gX1_stepsLeft n v a1 = 1 from (Eq.trans (if_neg c_2) rfl)).symm rfl dX1_stepsLeft_19

def rmX1_hasWorkedAll : Room := { frames := 0, cells := 0, slots := 0, locals := 0 }
def gX1_hasWorkedAll (n : Int32) (v : Nat → Int32) : Int32 := (if (v 0) = 1 then (if (v 2) = 0 then 1 else 0) else 0)
set_option maxHeartbeats 4000000 in
set_option maxRecDepth 100000 in
theorem mX1_hasWorkedAll (l : Launch) (D : va_G) (ck : Nat → ClassId) (h q : Nat) (n : Int32) (v : Nat → Int32) : xMi l yX1_hasWorkedAll wsX1_hasWorkedAll rmX1_hasWorkedAll D ck [.ref h] (jW h q n v) (jW h q n v) (gX1_hasWorkedAll n v) 0 0 := by
  refine xMet (by decide) rfl (Nat.le_of_ble_eq_true rfl) ?_
  intro zp ze s zm zb zt zc hx hb hr hml hown hts hlk hnm hN hK hP hD ls hl
  have hown : s.vm.findClass RX1 = some zm.cls := hown
  have hl : lv_has ls 1 [(0, .ref h)] := hl
  have hS : va_S (va_A (jW h q n v) s.heap.size) s.heap s.heap [] := va_S.rf
  have hA : ∀ zq : Nat, s.heap.size ≤ zq → va_A (jW h q n v) s.heap.size zq := fun zq h => Or.inr h
  have hinX1 : ∀ w ∈ u_ws RX1 TX1 8, w ∈ wsX1_hasWorkedAll := by decide +kernel
  refine lv_aload_n hx hb dX1_hasWorkedAll_0 rfl (lv_at hl 0 rfl) ?_
  refine va_get (D := D) (ci := 1) (v := .int (v 0)) (C := RX1) (T := TX1) (N := 8) hx hb hts hinX1 hown hK hP 0 rfl rfl 2 (by decide) (hts (.fieldLink RX1 16 "JoinGrants$Join" "state" "I") (List.mem_of_getElem? (i := 1) rfl)) (fun _ h9 => h9) rfl dX1_hasWorkedAll_1 ?_
  refine lv_iconst (v := 1) hx hb dX1_hasWorkedAll_4 (by decide) ?_
  refine lv_icmp_ne (tgt := 19) hx hb dX1_hasWorkedAll_5 (by decide) (fun c_5 => ?_) (fun c_5 => ?_)
  · --t
    refine lv_iconst (v := 0) hx hb dX1_hasWorkedAll_19 (by decide) ?_
    exact xzret hx hb hr hlk hP hD hS (Or.inl rfl) (show gX1_hasWorkedAll n v = 0 from (Eq.trans (if_neg c_5) rfl)).symm rfl dX1_hasWorkedAll_20
  · --f
    refine lv_aload_n hx hb dX1_hasWorkedAll_8 rfl (lv_at hl 0 rfl) ?_
    refine va_get (D := D) (ci := 1) (v := .int (v 2)) (C := RX1) (T := TX1) (N := 8) hx hb hts hinX1 hown hK hP 0 rfl rfl 4 (by decide) (hts (.fieldLink RX1 38 "JoinGrants$Join" "workLeft" "I") (List.mem_of_getElem? (i := 2) rfl)) (fun _ h9 => h9) rfl dX1_hasWorkedAll_9 ?_
    refine lv_if_ne (tgt := 19) hx hb dX1_hasWorkedAll_12 (by decide) (fun c_12 => ?_) (fun c_12 => ?_)
    · --t
      refine lv_iconst (v := 0) hx hb dX1_hasWorkedAll_19 (by decide) ?_
      exact xzret hx hb hr hlk hP hD hS (Or.inl rfl) (show gX1_hasWorkedAll n v = 0 from (Eq.trans (if_pos c_5) (Eq.trans (if_neg c_12) rfl))).symm rfl dX1_hasWorkedAll_20
    · --f
      refine lv_iconst (v := 1) hx hb dX1_hasWorkedAll_15 (by decide) ?_
      refine lv_goto (tgt := 20) hx hb dX1_hasWorkedAll_16 (by decide) ?_
      exact xzret hx hb hr hlk hP hD hS (Or.inr rfl) (show gX1_hasWorkedAll n v = 1 from (Eq.trans (if_pos c_5) (Eq.trans (if_pos c_12) rfl))).symm rfl dX1_hasWorkedAll_20

def rmX1_surplus : Room := { frames := 0, cells := 0, slots := 0, locals := 0 }
def gX1_surplus (n : Int32) (v : Nat → Int32) : Int32 := (if (v 0) = 1 then ((v 1) - (v 9)) else 0)
set_option maxHeartbeats 4000000 in
set_option maxRecDepth 100000 in
theorem mX1_surplus (l : Launch) (D : va_G) (ck : Nat → ClassId) (h q : Nat) (n : Int32) (v : Nat → Int32) : xMi l yX1_surplus wsX1_surplus rmX1_surplus D ck [.ref h] (jW h q n v) (jW h q n v) (gX1_surplus n v) 0 0 := by
  refine xMet (by decide) rfl (Nat.le_of_ble_eq_true rfl) ?_
  intro zp ze s zm zb zt zc hx hb hr hml hown hts hlk hnm hN hK hP hD ls hl
  have hown : s.vm.findClass RX1 = some zm.cls := hown
  have hl : lv_has ls 1 [(0, .ref h)] := hl
  have hS : va_S (va_A (jW h q n v) s.heap.size) s.heap s.heap [] := va_S.rf
  have hA : ∀ zq : Nat, s.heap.size ≤ zq → va_A (jW h q n v) s.heap.size zq := fun zq h => Or.inr h
  have hinX1 : ∀ w ∈ u_ws RX1 TX1 8, w ∈ wsX1_surplus := by decide +kernel
  have hinX3 : ∀ w ∈ u_ws RX3 TX3 5, w ∈ wsX1_surplus := by decide +kernel
  refine lv_aload_n hx hb dX1_surplus_0 rfl (lv_at hl 0 rfl) ?_
  refine va_get (D := D) (ci := 1) (v := .int (v 0)) (C := RX1) (T := TX1) (N := 8) hx hb hts hinX1 hown hK hP 0 rfl rfl 2 (by decide) (hts (.fieldLink RX1 16 "JoinGrants$Join" "state" "I") (List.mem_of_getElem? (i := 1) rfl)) (fun _ h9 => h9) rfl dX1_surplus_1 ?_
  refine lv_iconst (v := 1) hx hb dX1_surplus_4 (by decide) ?_
  refine lv_icmp_ne (tgt := 23) hx hb dX1_surplus_5 (by decide) (fun c_5 => ?_) (fun c_5 => ?_)
  · --t
    refine lv_iconst (v := 0) hx hb dX1_surplus_23 (by decide) ?_
    exact xiret hx hb hr hlk hP hD hS (show gX1_surplus n v = 0 from (Eq.trans (if_neg c_5) rfl)).symm rfl dX1_surplus_24
  · --f
    refine lv_aload_n hx hb dX1_surplus_8 rfl (lv_at hl 0 rfl) ?_
    refine va_get (D := D) (ci := 1) (v := .int (v 1)) (C := RX1) (T := TX1) (N := 8) hx hb hts hinX1 hown hK hP 0 rfl rfl 3 (by decide) (hts (.fieldLink RX1 31 "JoinGrants$Join" "pages" "I") (List.mem_of_getElem? (i := 2) rfl)) (fun _ h9 => h9) rfl dX1_surplus_9 ?_
    refine lv_aload_n hx hb dX1_surplus_12 rfl (lv_at hl 0 rfl) ?_
    refine va_get (D := D) (ci := 1) (v := .ref q) (C := RX1) (T := TX1) (N := 8) hx hb hts hinX1 hown hK hP 0 rfl rfl 1 (by decide) (hts (.fieldLink RX1 10 "JoinGrants$Join" "plan" "LJoinGrants$Plan;") (List.mem_of_getElem? (i := 3) rfl)) (fun _ h9 => h9) rfl dX1_surplus_13 ?_
    refine va_getN (D := D) (ci := 3) (v := .int (v 9)) (C := RX3) (T := TX3) (N := 5) hx hb hts hinX3 hown hK hP 1 rfl rfl 3 (by decide) (va_Nw.use rfl hN.2.2.2.1) (fun _ h9 => h9) rfl dX1_surplus_16 ?_
    refine lv_isub hx hb dX1_surplus_19 ?_
    refine lv_goto (tgt := 24) hx hb dX1_surplus_20 (by decide) ?_
    exact xiret hx hb hr hlk hP hD hS (show gX1_surplus n v = ((v 1) - (v 9)) from (Eq.trans (if_pos c_5) rfl)).symm rfl dX1_surplus_24

def rmX1_spills : Room := { frames := 1, cells := 0, slots := 0, locals := 21 }
def gX1_spills (n : Int32) (v : Nat → Int32) : Int32 := (if (v 0) = 1 then (if (gX3_spillsWith (tl6 v) (v 1)) = 0 then 0 else 1) else 0)
set_option maxHeartbeats 4000000 in
set_option maxRecDepth 100000 in
theorem mX1_spills (l : Launch) (D : va_G) (ck : Nat → ClassId) (h q : Nat) (n : Int32) (v : Nat → Int32) : xMi l yX1_spills wsX1_spills rmX1_spills D ck [.ref h] (jW h q n v) (jW h q n v) (gX1_spills n v) 0 0 := by
  refine xMet (by decide) rfl (Nat.le_of_ble_eq_true rfl) ?_
  intro zp ze s zm zb zt zc hx hb hr hml hown hts hlk hnm hN hK hP hD ls hl
  have hown : s.vm.findClass RX1 = some zm.cls := hown
  have hl : lv_has ls 1 [(0, .ref h)] := hl
  have hS : va_S (va_A (jW h q n v) s.heap.size) s.heap s.heap [] := va_S.rf
  have hA : ∀ zq : Nat, s.heap.size ≤ zq → va_A (jW h q n v) s.heap.size zq := fun zq h => Or.inr h
  have hinX1 : ∀ w ∈ u_ws RX1 TX1 8, w ∈ wsX1_spills := by decide +kernel
  refine lv_aload_n hx hb dX1_spills_0 rfl (lv_at hl 0 rfl) ?_
  refine va_get (D := D) (ci := 1) (v := .int (v 0)) (C := RX1) (T := TX1) (N := 8) hx hb hts hinX1 hown hK hP 0 rfl rfl 2 (by decide) (hts (.fieldLink RX1 16 "JoinGrants$Join" "state" "I") (List.mem_of_getElem? (i := 1) rfl)) (fun _ h9 => h9) rfl dX1_spills_1 ?_
  refine lv_iconst (v := 1) hx hb dX1_spills_4 (by decide) ?_
  refine lv_icmp_ne (tgt := 26) hx hb dX1_spills_5 (by decide) (fun c_5 => ?_) (fun c_5 => ?_)
  · --t
    refine lv_iconst (v := 0) hx hb dX1_spills_26 (by decide) ?_
    exact xzret hx hb hr hlk hP hD hS (Or.inl rfl) (show gX1_spills n v = 0 from (Eq.trans (if_neg c_5) rfl)).symm rfl dX1_spills_27
  · --f
    refine lv_aload_n hx hb dX1_spills_8 rfl (lv_at hl 0 rfl) ?_
    refine va_get (D := D) (ci := 1) (v := .ref q) (C := RX1) (T := TX1) (N := 8) hx hb hts hinX1 hown hK hP 0 rfl rfl 1 (by decide) (hts (.fieldLink RX1 10 "JoinGrants$Join" "plan" "LJoinGrants$Plan;") (List.mem_of_getElem? (i := 2) rfl)) (fun _ h9 => h9) rfl dX1_spills_9 ?_
    refine lv_aload_n hx hb dX1_spills_12 rfl (lv_at hl 0 rfl) ?_
    refine va_get (D := D) (ci := 1) (v := .int (v 1)) (C := RX1) (T := TX1) (N := 8) hx hb hts hinX1 hown hK hP 0 rfl rfl 3 (by decide) (hts (.fieldLink RX1 31 "JoinGrants$Join" "pages" "I") (List.mem_of_getElem? (i := 3) rfl)) (fun _ h9 => h9) rfl dX1_spills_13 ?_
    refine xreti (va_runV (As := [.int (v 1)]) (rest := []) ⟨hx, hb, hml, hown, hts⟩ (mX3_spillsWith l D ck q (tl6 v) (v 1) _) (cwV 1 hts gX1_spills_X3_spillsWith rfl rfl rfl (by decide +kernel) ⟨Nat.le_of_ble_eq_true rfl, Nat.le_of_ble_eq_true rfl⟩) (xpreV hN hK hP hD (pm_jp (v := v)) 0 rfl rfl rfl) rfl rfl hl.1 rfl (lv_room (Nat.le_of_ble_eq_true rfl)) dX1_spills_16 ⟨Nat.le_of_ble_eq_true rfl, Nat.le_of_ble_eq_true rfl⟩) hP hD hS hA (pm_jp (v := v)) (pm_jp (v := v)).symm (fun H locs hP hD hS => ?_)
    refine lv_if_eq (tgt := 26) hx hb dX1_spills_19 (by decide) (fun c_19 => ?_) (fun c_19 => ?_)
    · --t
      refine lv_iconst (v := 0) hx hb dX1_spills_26 (by decide) ?_
      exact xzret hx hb hr hlk hP hD hS (Or.inl rfl) (show gX1_spills n v = 0 from (Eq.trans (if_pos c_5) (Eq.trans (if_pos c_19) rfl))).symm rfl dX1_spills_27
    · --f
      refine lv_iconst (v := 1) hx hb dX1_spills_22 (by decide) ?_
      refine lv_goto (tgt := 27) hx hb dX1_spills_23 (by decide) ?_
      exact xzret hx hb hr hlk hP hD hS (Or.inr rfl) (show gX1_spills n v = 1 from (Eq.trans (if_pos c_5) (Eq.trans (if_neg c_19) rfl))).symm rfl dX1_spills_27

def rmX1_isIn : Room := { frames := 0, cells := 0, slots := 0, locals := 0 }
def gX1_isIn (n : Int32) (v : Nat → Int32) (a1 : Int32) : Int32 := (if (v 0) = a1 then 1 else 0)
set_option maxHeartbeats 4000000 in
set_option maxRecDepth 100000 in
theorem mX1_isIn (l : Launch) (D : va_G) (ck : Nat → ClassId) (h q : Nat) (n : Int32) (v : Nat → Int32) (a1 : Int32) : xMi l yX1_isIn wsX1_isIn rmX1_isIn D ck [.ref h, .int a1] (jW h q n v) (jW h q n v) (gX1_isIn n v a1) 0 0 := by
  refine xMet (by decide) rfl (Nat.le_of_ble_eq_true rfl) ?_
  intro zp ze s zm zb zt zc hx hb hr hml hown hts hlk hnm hN hK hP hD ls hl
  have hown : s.vm.findClass RX1 = some zm.cls := hown
  have hl : lv_has ls 2 [(0, .ref h), (1, .int a1)] := hl
  have hS : va_S (va_A (jW h q n v) s.heap.size) s.heap s.heap [] := va_S.rf
  have hA : ∀ zq : Nat, s.heap.size ≤ zq → va_A (jW h q n v) s.heap.size zq := fun zq h => Or.inr h
  have hinX1 : ∀ w ∈ u_ws RX1 TX1 8, w ∈ wsX1_isIn := by decide +kernel
  refine lv_aload_n hx hb dX1_isIn_0 rfl (lv_at hl 0 rfl) ?_
  refine va_get (D := D) (ci := 1) (v := .int (v 0)) (C := RX1) (T := TX1) (N := 8) hx hb hts hinX1 hown hK hP 0 rfl rfl 2 (by decide) (hts (.fieldLink RX1 16 "JoinGrants$Join" "state" "I") (List.mem_of_getElem? (i := 1) rfl)) (fun _ h9 => h9) rfl dX1_isIn_1 ?_
  refine lv_iload_n hx hb dX1_isIn_4 rfl (lv_at hl 1 rfl) ?_
  refine lv_icmp_ne (tgt := 12) hx hb dX1_isIn_5 (by decide) (fun c_5 => ?_) (fun c_5 => ?_)
  · --t
    refine lv_iconst (v := 0) hx hb dX1_isIn_12 (by decide) ?_
    exact xzret hx hb hr hlk hP hD hS (Or.inl rfl) (show gX1_isIn n v a1 = 0 from (Eq.trans (if_neg c_5) rfl)).symm rfl dX1_isIn_13
  · --f
    refine lv_iconst (v := 1) hx hb dX1_isIn_8 (by decide) ?_
    refine lv_goto (tgt := 13) hx hb dX1_isIn_9 (by decide) ?_
    exact xzret hx hb hr hlk hP hD hS (Or.inr rfl) (show gX1_isIn n v a1 = 1 from (Eq.trans (if_pos c_5) rfl)).symm rfl dX1_isIn_13

def rmX1_number : Room := { frames := 0, cells := 0, slots := 0, locals := 0 }
def gX1_number (n : Int32) (v : Nat → Int32) : Int32 := n
set_option maxHeartbeats 4000000 in
set_option maxRecDepth 100000 in
theorem mX1_number (l : Launch) (D : va_G) (ck : Nat → ClassId) (h q : Nat) (n : Int32) (v : Nat → Int32) : xMi l yX1_number wsX1_number rmX1_number D ck [.ref h] (jW h q n v) (jW h q n v) (gX1_number n v) 0 0 := by
  refine xMet (by decide) rfl (Nat.le_of_ble_eq_true rfl) ?_
  intro zp ze s zm zb zt zc hx hb hr hml hown hts hlk hnm hN hK hP hD ls hl
  have hown : s.vm.findClass RX1 = some zm.cls := hown
  have hl : lv_has ls 1 [(0, .ref h)] := hl
  have hS : va_S (va_A (jW h q n v) s.heap.size) s.heap s.heap [] := va_S.rf
  have hA : ∀ zq : Nat, s.heap.size ≤ zq → va_A (jW h q n v) s.heap.size zq := fun zq h => Or.inr h
  have hinX1 : ∀ w ∈ u_ws RX1 TX1 8, w ∈ wsX1_number := by decide +kernel
  refine lv_aload_n hx hb dX1_number_0 rfl (lv_at hl 0 rfl) ?_
  refine va_get (D := D) (ci := 1) (v := .int n) (C := RX1) (T := TX1) (N := 8) hx hb hts hinX1 hown hK hP 0 rfl rfl 0 (by decide) (hts (.fieldLink RX1 20 "JoinGrants$Join" "number" "I") (List.mem_of_getElem? (i := 1) rfl)) (fun _ h9 => h9) rfl dX1_number_1 ?_
  exact xiret hx hb hr hlk hP hD hS (show gX1_number n v = n from rfl).symm rfl dX1_number_4

def rmX1_way : Room := { frames := 0, cells := 0, slots := 0, locals := 0 }
def gX1_way (n : Int32) (v : Nat → Int32) : Int32 := (v 6)
set_option maxHeartbeats 4000000 in
set_option maxRecDepth 100000 in
theorem mX1_way (l : Launch) (D : va_G) (ck : Nat → ClassId) (h q : Nat) (n : Int32) (v : Nat → Int32) : xMi l yX1_way wsX1_way rmX1_way D ck [.ref h] (jW h q n v) (jW h q n v) (gX1_way n v) 0 0 := by
  refine xMet (by decide) rfl (Nat.le_of_ble_eq_true rfl) ?_
  intro zp ze s zm zb zt zc hx hb hr hml hown hts hlk hnm hN hK hP hD ls hl
  have hown : s.vm.findClass RX1 = some zm.cls := hown
  have hl : lv_has ls 1 [(0, .ref h)] := hl
  have hS : va_S (va_A (jW h q n v) s.heap.size) s.heap s.heap [] := va_S.rf
  have hA : ∀ zq : Nat, s.heap.size ≤ zq → va_A (jW h q n v) s.heap.size zq := fun zq h => Or.inr h
  have hinX1 : ∀ w ∈ u_ws RX1 TX1 8, w ∈ wsX1_way := by decide +kernel
  have hinX3 : ∀ w ∈ u_ws RX3 TX3 5, w ∈ wsX1_way := by decide +kernel
  refine lv_aload_n hx hb dX1_way_0 rfl (lv_at hl 0 rfl) ?_
  refine va_get (D := D) (ci := 1) (v := .ref q) (C := RX1) (T := TX1) (N := 8) hx hb hts hinX1 hown hK hP 0 rfl rfl 1 (by decide) (hts (.fieldLink RX1 10 "JoinGrants$Join" "plan" "LJoinGrants$Plan;") (List.mem_of_getElem? (i := 1) rfl)) (fun _ h9 => h9) rfl dX1_way_1 ?_
  refine va_getN (D := D) (ci := 3) (v := .int (v 6)) (C := RX3) (T := TX3) (N := 5) hx hb hts hinX3 hown hK hP 1 rfl rfl 0 (by decide) (va_Nw.use rfl hN.2.2.2.2.1) (fun _ h9 => h9) rfl dX1_way_4 ?_
  exact xiret hx hb hr hlk hP hD hS (show gX1_way n v = (v 6) from rfl).symm rfl dX1_way_7

def rmX1_need : Room := { frames := 0, cells := 0, slots := 0, locals := 0 }
def gX1_need (n : Int32) (v : Nat → Int32) : Int32 := (v 9)
set_option maxHeartbeats 4000000 in
set_option maxRecDepth 100000 in
theorem mX1_need (l : Launch) (D : va_G) (ck : Nat → ClassId) (h q : Nat) (n : Int32) (v : Nat → Int32) : xMi l yX1_need wsX1_need rmX1_need D ck [.ref h] (jW h q n v) (jW h q n v) (gX1_need n v) 0 0 := by
  refine xMet (by decide) rfl (Nat.le_of_ble_eq_true rfl) ?_
  intro zp ze s zm zb zt zc hx hb hr hml hown hts hlk hnm hN hK hP hD ls hl
  have hown : s.vm.findClass RX1 = some zm.cls := hown
  have hl : lv_has ls 1 [(0, .ref h)] := hl
  have hS : va_S (va_A (jW h q n v) s.heap.size) s.heap s.heap [] := va_S.rf
  have hA : ∀ zq : Nat, s.heap.size ≤ zq → va_A (jW h q n v) s.heap.size zq := fun zq h => Or.inr h
  have hinX1 : ∀ w ∈ u_ws RX1 TX1 8, w ∈ wsX1_need := by decide +kernel
  have hinX3 : ∀ w ∈ u_ws RX3 TX3 5, w ∈ wsX1_need := by decide +kernel
  refine lv_aload_n hx hb dX1_need_0 rfl (lv_at hl 0 rfl) ?_
  refine va_get (D := D) (ci := 1) (v := .ref q) (C := RX1) (T := TX1) (N := 8) hx hb hts hinX1 hown hK hP 0 rfl rfl 1 (by decide) (hts (.fieldLink RX1 10 "JoinGrants$Join" "plan" "LJoinGrants$Plan;") (List.mem_of_getElem? (i := 1) rfl)) (fun _ h9 => h9) rfl dX1_need_1 ?_
  refine va_getN (D := D) (ci := 3) (v := .int (v 9)) (C := RX3) (T := TX3) (N := 5) hx hb hts hinX3 hown hK hP 1 rfl rfl 3 (by decide) (va_Nw.use rfl hN.2.2.2.1) (fun _ h9 => h9) rfl dX1_need_4 ?_
  exact xiret hx hb hr hlk hP hD hS (show gX1_need n v = (v 9) from rfl).symm rfl dX1_need_7

def rmX1_want : Room := { frames := 0, cells := 0, slots := 0, locals := 0 }
def gX1_want (n : Int32) (v : Nat → Int32) : Int32 := (v 10)
set_option maxHeartbeats 4000000 in
set_option maxRecDepth 100000 in
theorem mX1_want (l : Launch) (D : va_G) (ck : Nat → ClassId) (h q : Nat) (n : Int32) (v : Nat → Int32) : xMi l yX1_want wsX1_want rmX1_want D ck [.ref h] (jW h q n v) (jW h q n v) (gX1_want n v) 0 0 := by
  refine xMet (by decide) rfl (Nat.le_of_ble_eq_true rfl) ?_
  intro zp ze s zm zb zt zc hx hb hr hml hown hts hlk hnm hN hK hP hD ls hl
  have hown : s.vm.findClass RX1 = some zm.cls := hown
  have hl : lv_has ls 1 [(0, .ref h)] := hl
  have hS : va_S (va_A (jW h q n v) s.heap.size) s.heap s.heap [] := va_S.rf
  have hA : ∀ zq : Nat, s.heap.size ≤ zq → va_A (jW h q n v) s.heap.size zq := fun zq h => Or.inr h
  have hinX1 : ∀ w ∈ u_ws RX1 TX1 8, w ∈ wsX1_want := by decide +kernel
  have hinX3 : ∀ w ∈ u_ws RX3 TX3 5, w ∈ wsX1_want := by decide +kernel
  refine lv_aload_n hx hb dX1_want_0 rfl (lv_at hl 0 rfl) ?_
  refine va_get (D := D) (ci := 1) (v := .ref q) (C := RX1) (T := TX1) (N := 8) hx hb hts hinX1 hown hK hP 0 rfl rfl 1 (by decide) (hts (.fieldLink RX1 10 "JoinGrants$Join" "plan" "LJoinGrants$Plan;") (List.mem_of_getElem? (i := 1) rfl)) (fun _ h9 => h9) rfl dX1_want_1 ?_
  refine va_getN (D := D) (ci := 3) (v := .int (v 10)) (C := RX3) (T := TX3) (N := 5) hx hb hts hinX3 hown hK hP 1 rfl rfl 4 (by decide) (va_Nw.use rfl hN.2.2.2.2.2.1) (fun _ h9 => h9) rfl dX1_want_4 ?_
  exact xiret hx hb hr hlk hP hD hS (show gX1_want n v = (v 10) from rfl).symm rfl dX1_want_7

def rmX1_pages : Room := { frames := 0, cells := 0, slots := 0, locals := 0 }
def gX1_pages (n : Int32) (v : Nat → Int32) : Int32 := (v 1)
set_option maxHeartbeats 4000000 in
set_option maxRecDepth 100000 in
theorem mX1_pages (l : Launch) (D : va_G) (ck : Nat → ClassId) (h q : Nat) (n : Int32) (v : Nat → Int32) : xMi l yX1_pages wsX1_pages rmX1_pages D ck [.ref h] (jW h q n v) (jW h q n v) (gX1_pages n v) 0 0 := by
  refine xMet (by decide) rfl (Nat.le_of_ble_eq_true rfl) ?_
  intro zp ze s zm zb zt zc hx hb hr hml hown hts hlk hnm hN hK hP hD ls hl
  have hown : s.vm.findClass RX1 = some zm.cls := hown
  have hl : lv_has ls 1 [(0, .ref h)] := hl
  have hS : va_S (va_A (jW h q n v) s.heap.size) s.heap s.heap [] := va_S.rf
  have hA : ∀ zq : Nat, s.heap.size ≤ zq → va_A (jW h q n v) s.heap.size zq := fun zq h => Or.inr h
  have hinX1 : ∀ w ∈ u_ws RX1 TX1 8, w ∈ wsX1_pages := by decide +kernel
  refine lv_aload_n hx hb dX1_pages_0 rfl (lv_at hl 0 rfl) ?_
  refine va_get (D := D) (ci := 1) (v := .int (v 1)) (C := RX1) (T := TX1) (N := 8) hx hb hts hinX1 hown hK hP 0 rfl rfl 3 (by decide) (hts (.fieldLink RX1 31 "JoinGrants$Join" "pages" "I") (List.mem_of_getElem? (i := 1) rfl)) (fun _ h9 => h9) rfl dX1_pages_1 ?_
  exact xiret hx hb hr hlk hP hD hS (show gX1_pages n v = (v 1) from rfl).symm rfl dX1_pages_4

def rmX1_canTell : Room := { frames := 0, cells := 0, slots := 0, locals := 0 }
def gX1_canTell (a1 : Int32) : Int32 := (if a1 < 0 then 0 else (if 11 < a1 then 0 else 1))
set_option maxHeartbeats 4000000 in
set_option maxRecDepth 100000 in
theorem mX1_canTell (l : Launch) (D : va_G) (ck : Nat → ClassId) (a1 : Int32) : xMi l yX1_canTell wsX1_canTell rmX1_canTell D ck [.int a1] ([]) ([]) (gX1_canTell a1) 0 0 := by
  refine xMet (by decide) rfl (Nat.le_of_ble_eq_true rfl) ?_
  intro zp ze s zm zb zt zc hx hb hr hml hown hts hlk hnm hN hK hP hD ls hl
  have hown : s.vm.findClass RX1 = some zm.cls := hown
  have hl : lv_has ls 1 [(0, .int a1)] := hl
  have hS : va_S (va_A ([]) s.heap.size) s.heap s.heap [] := va_S.rf
  have hA : ∀ zq : Nat, s.heap.size ≤ zq → va_A ([]) s.heap.size zq := fun zq h => Or.inr h
  refine lv_iload_n hx hb dX1_canTell_0 rfl (lv_at hl 0 rfl) ?_
  refine lv_if_lt (tgt := 14) hx hb dX1_canTell_1 (by decide) (fun c_1 => ?_) (fun c_1 => ?_)
  · --t
    refine lv_iconst (v := 0) hx hb dX1_canTell_14 (by decide) ?_
    exact xzret hx hb hr hlk hP hD hS (Or.inl rfl) (show gX1_canTell a1 = 0 from (Eq.trans (if_pos c_1) rfl)).symm rfl dX1_canTell_15
  · --f
    refine lv_iload_n hx hb dX1_canTell_4 rfl (lv_at hl 0 rfl) ?_
    refine lv_bipush (v := 11) hx hb dX1_canTell_5 (by decide) ?_
    refine lv_icmp_gt (tgt := 14) hx hb dX1_canTell_7 (by decide) (fun c_7 => ?_) (fun c_7 => ?_)
    · --t
      refine lv_iconst (v := 0) hx hb dX1_canTell_14 (by decide) ?_
      exact xzret hx hb hr hlk hP hD hS (Or.inl rfl) (show gX1_canTell a1 = 0 from (Eq.trans (if_neg c_1) (Eq.trans (if_pos c_7) rfl))).symm rfl dX1_canTell_15
    · --f
      refine lv_iconst (v := 1) hx hb dX1_canTell_10 (by decide) ?_
      refine lv_goto (tgt := 15) hx hb dX1_canTell_11 (by decide) ?_
      exact xzret hx hb hr hlk hP hD hS (Or.inr rfl) (show gX1_canTell a1 = 1 from (Eq.trans (if_neg c_1) (Eq.trans (if_neg c_7) rfl))).symm rfl dX1_canTell_15

def rmX1_tell : Room := { frames := 2, cells := 0, slots := 0, locals := 41 }
def gX1_tell (n : Int32) (v : Nat → Int32) (a1 : Int32) : Int32 := (if a1 = 0 then (v 6) else (if a1 = 1 then (v 7) else (if a1 = 2 then (v 8) else (if a1 = 3 then (v 0) else (if a1 = 4 then (v 9) else (if a1 = 5 then (v 10) else (if a1 = 6 then (v 1) else (if a1 = 7 then (v 2) else (if a1 = 8 then (v 3) else (if a1 = 9 then (v 4) else (if a1 = 10 then (v 5) else (if (gX1_spills n v ) = 0 then 0 else 1))))))))))))
set_option maxHeartbeats 4000000 in
set_option maxRecDepth 100000 in
theorem mX1_tell (l : Launch) (D : va_G) (ck : Nat → ClassId) (h q : Nat) (n : Int32) (v : Nat → Int32) (a1 : Int32) : xMi l yX1_tell wsX1_tell rmX1_tell D ck [.ref h, .int a1] (jW h q n v) (jW h q n v) (gX1_tell n v a1) 0 0 := by
  refine xMet (by decide) rfl (Nat.le_of_ble_eq_true rfl) ?_
  intro zp ze s zm zb zt zc hx hb hr hml hown hts hlk hnm hN hK hP hD ls hl
  have hown : s.vm.findClass RX1 = some zm.cls := hown
  have hl : lv_has ls 2 [(0, .ref h), (1, .int a1)] := hl
  have hS : va_S (va_A (jW h q n v) s.heap.size) s.heap s.heap [] := va_S.rf
  have hA : ∀ zq : Nat, s.heap.size ≤ zq → va_A (jW h q n v) s.heap.size zq := fun zq h => Or.inr h
  have hinX1 : ∀ w ∈ u_ws RX1 TX1 8, w ∈ wsX1_tell := by decide +kernel
  have hinX3 : ∀ w ∈ u_ws RX3 TX3 5, w ∈ wsX1_tell := by decide +kernel
  refine lv_iload_n hx hb dX1_tell_0 rfl (lv_at hl 1 rfl) ?_
  by_cases c_1_0 : a1 = 0
  · --0
    refine lv_tableIn (tgt := 60) (off := 59) hx hb dX1_tell_1 (by rw [c_1_0]; decide) (by rw [c_1_0]; decide) (by rw [c_1_0]; decide) (by decide) ?_
    refine lv_aload_n hx hb dX1_tell_60 rfl (lv_at hl 0 rfl) ?_
    refine va_get (D := D) (ci := 1) (v := .ref q) (C := RX1) (T := TX1) (N := 8) hx hb hts hinX1 hown hK hP 0 rfl rfl 1 (by decide) (hts (.fieldLink RX1 10 "JoinGrants$Join" "plan" "LJoinGrants$Plan;") (List.mem_of_getElem? (i := 1) rfl)) (fun _ h9 => h9) rfl dX1_tell_61 ?_
    refine va_getN (D := D) (ci := 3) (v := .int (v 6)) (C := RX3) (T := TX3) (N := 5) hx hb hts hinX3 hown hK hP 1 rfl rfl 0 (by decide) (va_Nw.use rfl hN.2.2.2.2.1) (fun _ h9 => h9) rfl dX1_tell_64 ?_
    exact xiret hx hb hr hlk hP hD hS (show gX1_tell n v a1 = (v 6) from (Eq.trans (if_pos c_1_0) rfl)).symm rfl dX1_tell_67
  by_cases c_1_1 : a1 = 1
  · --1
    refine lv_tableIn (tgt := 68) (off := 67) hx hb dX1_tell_1 (by rw [c_1_1]; decide) (by rw [c_1_1]; decide) (by rw [c_1_1]; decide) (by decide) ?_
    refine lv_aload_n hx hb dX1_tell_68 rfl (lv_at hl 0 rfl) ?_
    refine va_get (D := D) (ci := 1) (v := .ref q) (C := RX1) (T := TX1) (N := 8) hx hb hts hinX1 hown hK hP 0 rfl rfl 1 (by decide) (hts (.fieldLink RX1 10 "JoinGrants$Join" "plan" "LJoinGrants$Plan;") (List.mem_of_getElem? (i := 1) rfl)) (fun _ h9 => h9) rfl dX1_tell_69 ?_
    refine va_getN (D := D) (ci := 3) (v := .int (v 7)) (C := RX3) (T := TX3) (N := 5) hx hb hts hinX3 hown hK hP 1 rfl rfl 1 (by decide) (va_Nw.use rfl hN.2.2.2.2.2.2.1) (fun _ h9 => h9) rfl dX1_tell_72 ?_
    exact xiret hx hb hr hlk hP hD hS (show gX1_tell n v a1 = (v 7) from (Eq.trans (if_neg c_1_0) (Eq.trans (if_pos c_1_1) rfl))).symm rfl dX1_tell_75
  by_cases c_1_2 : a1 = 2
  · --2
    refine lv_tableIn (tgt := 76) (off := 75) hx hb dX1_tell_1 (by rw [c_1_2]; decide) (by rw [c_1_2]; decide) (by rw [c_1_2]; decide) (by decide) ?_
    refine lv_aload_n hx hb dX1_tell_76 rfl (lv_at hl 0 rfl) ?_
    refine va_get (D := D) (ci := 1) (v := .ref q) (C := RX1) (T := TX1) (N := 8) hx hb hts hinX1 hown hK hP 0 rfl rfl 1 (by decide) (hts (.fieldLink RX1 10 "JoinGrants$Join" "plan" "LJoinGrants$Plan;") (List.mem_of_getElem? (i := 1) rfl)) (fun _ h9 => h9) rfl dX1_tell_77 ?_
    refine va_getN (D := D) (ci := 3) (v := .int (v 8)) (C := RX3) (T := TX3) (N := 5) hx hb hts hinX3 hown hK hP 1 rfl rfl 2 (by decide) (va_Nw.use rfl hN.2.2.2.2.2.2.2.1) (fun _ h9 => h9) rfl dX1_tell_80 ?_
    exact xiret hx hb hr hlk hP hD hS (show gX1_tell n v a1 = (v 8) from (Eq.trans (if_neg c_1_0) (Eq.trans (if_neg c_1_1) (Eq.trans (if_pos c_1_2) rfl)))).symm rfl dX1_tell_83
  by_cases c_1_3 : a1 = 3
  · --3
    refine lv_tableIn (tgt := 84) (off := 83) hx hb dX1_tell_1 (by rw [c_1_3]; decide) (by rw [c_1_3]; decide) (by rw [c_1_3]; decide) (by decide) ?_
    refine lv_aload_n hx hb dX1_tell_84 rfl (lv_at hl 0 rfl) ?_
    refine va_get (D := D) (ci := 1) (v := .int (v 0)) (C := RX1) (T := TX1) (N := 8) hx hb hts hinX1 hown hK hP 0 rfl rfl 2 (by decide) (hts (.fieldLink RX1 16 "JoinGrants$Join" "state" "I") (List.mem_of_getElem? (i := 2) rfl)) (fun _ h9 => h9) rfl dX1_tell_85 ?_
    exact xiret hx hb hr hlk hP hD hS (show gX1_tell n v a1 = (v 0) from (Eq.trans (if_neg c_1_0) (Eq.trans (if_neg c_1_1) (Eq.trans (if_neg c_1_2) (Eq.trans (if_pos c_1_3) rfl))))).symm rfl dX1_tell_88
  by_cases c_1_4 : a1 = 4
  · --4
    refine lv_tableIn (tgt := 89) (off := 88) hx hb dX1_tell_1 (by rw [c_1_4]; decide) (by rw [c_1_4]; decide) (by rw [c_1_4]; decide) (by decide) ?_
    refine lv_aload_n hx hb dX1_tell_89 rfl (lv_at hl 0 rfl) ?_
    refine va_get (D := D) (ci := 1) (v := .ref q) (C := RX1) (T := TX1) (N := 8) hx hb hts hinX1 hown hK hP 0 rfl rfl 1 (by decide) (hts (.fieldLink RX1 10 "JoinGrants$Join" "plan" "LJoinGrants$Plan;") (List.mem_of_getElem? (i := 1) rfl)) (fun _ h9 => h9) rfl dX1_tell_90 ?_
    refine va_getN (D := D) (ci := 3) (v := .int (v 9)) (C := RX3) (T := TX3) (N := 5) hx hb hts hinX3 hown hK hP 1 rfl rfl 3 (by decide) (va_Nw.use rfl hN.2.2.2.1) (fun _ h9 => h9) rfl dX1_tell_93 ?_
    exact xiret hx hb hr hlk hP hD hS (show gX1_tell n v a1 = (v 9) from (Eq.trans (if_neg c_1_0) (Eq.trans (if_neg c_1_1) (Eq.trans (if_neg c_1_2) (Eq.trans (if_neg c_1_3) (Eq.trans (if_pos c_1_4) rfl)))))).symm rfl dX1_tell_96
  by_cases c_1_5 : a1 = 5
  · --5
    refine lv_tableIn (tgt := 97) (off := 96) hx hb dX1_tell_1 (by rw [c_1_5]; decide) (by rw [c_1_5]; decide) (by rw [c_1_5]; decide) (by decide) ?_
    refine lv_aload_n hx hb dX1_tell_97 rfl (lv_at hl 0 rfl) ?_
    refine va_get (D := D) (ci := 1) (v := .ref q) (C := RX1) (T := TX1) (N := 8) hx hb hts hinX1 hown hK hP 0 rfl rfl 1 (by decide) (hts (.fieldLink RX1 10 "JoinGrants$Join" "plan" "LJoinGrants$Plan;") (List.mem_of_getElem? (i := 1) rfl)) (fun _ h9 => h9) rfl dX1_tell_98 ?_
    refine va_getN (D := D) (ci := 3) (v := .int (v 10)) (C := RX3) (T := TX3) (N := 5) hx hb hts hinX3 hown hK hP 1 rfl rfl 4 (by decide) (va_Nw.use rfl hN.2.2.2.2.2.1) (fun _ h9 => h9) rfl dX1_tell_101 ?_
    exact xiret hx hb hr hlk hP hD hS (show gX1_tell n v a1 = (v 10) from (Eq.trans (if_neg c_1_0) (Eq.trans (if_neg c_1_1) (Eq.trans (if_neg c_1_2) (Eq.trans (if_neg c_1_3) (Eq.trans (if_neg c_1_4) (Eq.trans (if_pos c_1_5) rfl))))))).symm rfl dX1_tell_104
  by_cases c_1_6 : a1 = 6
  · --6
    refine lv_tableIn (tgt := 105) (off := 104) hx hb dX1_tell_1 (by rw [c_1_6]; decide) (by rw [c_1_6]; decide) (by rw [c_1_6]; decide) (by decide) ?_
    refine lv_aload_n hx hb dX1_tell_105 rfl (lv_at hl 0 rfl) ?_
    refine va_get (D := D) (ci := 1) (v := .int (v 1)) (C := RX1) (T := TX1) (N := 8) hx hb hts hinX1 hown hK hP 0 rfl rfl 3 (by decide) (hts (.fieldLink RX1 31 "JoinGrants$Join" "pages" "I") (List.mem_of_getElem? (i := 3) rfl)) (fun _ h9 => h9) rfl dX1_tell_106 ?_
    exact xiret hx hb hr hlk hP hD hS (show gX1_tell n v a1 = (v 1) from (Eq.trans (if_neg c_1_0) (Eq.trans (if_neg c_1_1) (Eq.trans (if_neg c_1_2) (Eq.trans (if_neg c_1_3) (Eq.trans (if_neg c_1_4) (Eq.trans (if_neg c_1_5) (Eq.trans (if_pos c_1_6) rfl)))))))).symm rfl dX1_tell_109
  by_cases c_1_7 : a1 = 7
  · --7
    refine lv_tableIn (tgt := 110) (off := 109) hx hb dX1_tell_1 (by rw [c_1_7]; decide) (by rw [c_1_7]; decide) (by rw [c_1_7]; decide) (by decide) ?_
    refine lv_aload_n hx hb dX1_tell_110 rfl (lv_at hl 0 rfl) ?_
    refine va_get (D := D) (ci := 1) (v := .int (v 2)) (C := RX1) (T := TX1) (N := 8) hx hb hts hinX1 hown hK hP 0 rfl rfl 4 (by decide) (hts (.fieldLink RX1 38 "JoinGrants$Join" "workLeft" "I") (List.mem_of_getElem? (i := 4) rfl)) (fun _ h9 => h9) rfl dX1_tell_111 ?_
    exact xiret hx hb hr hlk hP hD hS (show gX1_tell n v a1 = (v 2) from (Eq.trans (if_neg c_1_0) (Eq.trans (if_neg c_1_1) (Eq.trans (if_neg c_1_2) (Eq.trans (if_neg c_1_3) (Eq.trans (if_neg c_1_4) (Eq.trans (if_neg c_1_5) (Eq.trans (if_neg c_1_6) (Eq.trans (if_pos c_1_7) rfl))))))))).symm rfl dX1_tell_114
  by_cases c_1_8 : a1 = 8
  · --8
    refine lv_tableIn (tgt := 115) (off := 114) hx hb dX1_tell_1 (by rw [c_1_8]; decide) (by rw [c_1_8]; decide) (by rw [c_1_8]; decide) (by decide) ?_
    refine lv_aload_n hx hb dX1_tell_115 rfl (lv_at hl 0 rfl) ?_
    refine va_get (D := D) (ci := 1) (v := .int (v 3)) (C := RX1) (T := TX1) (N := 8) hx hb hts hinX1 hown hK hP 0 rfl rfl 5 (by decide) (hts (.fieldLink RX1 44 "JoinGrants$Join" "stepsWaited" "I") (List.mem_of_getElem? (i := 5) rfl)) (fun _ h9 => h9) rfl dX1_tell_116 ?_
    exact xiret hx hb hr hlk hP hD hS (show gX1_tell n v a1 = (v 3) from (Eq.trans (if_neg c_1_0) (Eq.trans (if_neg c_1_1) (Eq.trans (if_neg c_1_2) (Eq.trans (if_neg c_1_3) (Eq.trans (if_neg c_1_4) (Eq.trans (if_neg c_1_5) (Eq.trans (if_neg c_1_6) (Eq.trans (if_neg c_1_7) (Eq.trans (if_pos c_1_8) rfl)))))))))).symm rfl dX1_tell_119
  by_cases c_1_9 : a1 = 9
  · --9
    refine lv_tableIn (tgt := 120) (off := 119) hx hb dX1_tell_1 (by rw [c_1_9]; decide) (by rw [c_1_9]; decide) (by rw [c_1_9]; decide) (by decide) ?_
    refine lv_aload_n hx hb dX1_tell_120 rfl (lv_at hl 0 rfl) ?_
    refine va_get (D := D) (ci := 1) (v := .int (v 4)) (C := RX1) (T := TX1) (N := 8) hx hb hts hinX1 hown hK hP 0 rfl rfl 6 (by decide) (hts (.fieldLink RX1 47 "JoinGrants$Join" "stepsWorked" "I") (List.mem_of_getElem? (i := 6) rfl)) (fun _ h9 => h9) rfl dX1_tell_121 ?_
    exact xiret hx hb hr hlk hP hD hS (show gX1_tell n v a1 = (v 4) from (Eq.trans (if_neg c_1_0) (Eq.trans (if_neg c_1_1) (Eq.trans (if_neg c_1_2) (Eq.trans (if_neg c_1_3) (Eq.trans (if_neg c_1_4) (Eq.trans (if_neg c_1_5) (Eq.trans (if_neg c_1_6) (Eq.trans (if_neg c_1_7) (Eq.trans (if_neg c_1_8) (Eq.trans (if_pos c_1_9) rfl))))))))))).symm rfl dX1_tell_124
  by_cases c_1_10 : a1 = 10
  · --10
    refine lv_tableIn (tgt := 125) (off := 124) hx hb dX1_tell_1 (by rw [c_1_10]; decide) (by rw [c_1_10]; decide) (by rw [c_1_10]; decide) (by decide) ?_
    refine lv_aload_n hx hb dX1_tell_125 rfl (lv_at hl 0 rfl) ?_
    refine va_get (D := D) (ci := 1) (v := .int (v 5)) (C := RX1) (T := TX1) (N := 8) hx hb hts hinX1 hown hK hP 0 rfl rfl 7 (by decide) (hts (.fieldLink RX1 41 "JoinGrants$Join" "givenBack" "I") (List.mem_of_getElem? (i := 7) rfl)) (fun _ h9 => h9) rfl dX1_tell_126 ?_
    exact xiret hx hb hr hlk hP hD hS (show gX1_tell n v a1 = (v 5) from (Eq.trans (if_neg c_1_0) (Eq.trans (if_neg c_1_1) (Eq.trans (if_neg c_1_2) (Eq.trans (if_neg c_1_3) (Eq.trans (if_neg c_1_4) (Eq.trans (if_neg c_1_5) (Eq.trans (if_neg c_1_6) (Eq.trans (if_neg c_1_7) (Eq.trans (if_neg c_1_8) (Eq.trans (if_neg c_1_9) (Eq.trans (if_pos c_1_10) rfl)))))))))))).symm rfl dX1_tell_129
  have z_c_1_0 : (a1).toInt ≠ 0 := fun e => c_1_0 (Int32.toInt_inj.mp e)
  have z_c_1_1 : (a1).toInt ≠ 1 := fun e => c_1_1 (Int32.toInt_inj.mp e)
  have z_c_1_2 : (a1).toInt ≠ 2 := fun e => c_1_2 (Int32.toInt_inj.mp e)
  have z_c_1_3 : (a1).toInt ≠ 3 := fun e => c_1_3 (Int32.toInt_inj.mp e)
  have z_c_1_4 : (a1).toInt ≠ 4 := fun e => c_1_4 (Int32.toInt_inj.mp e)
  have z_c_1_5 : (a1).toInt ≠ 5 := fun e => c_1_5 (Int32.toInt_inj.mp e)
  have z_c_1_6 : (a1).toInt ≠ 6 := fun e => c_1_6 (Int32.toInt_inj.mp e)
  have z_c_1_7 : (a1).toInt ≠ 7 := fun e => c_1_7 (Int32.toInt_inj.mp e)
  have z_c_1_8 : (a1).toInt ≠ 8 := fun e => c_1_8 (Int32.toInt_inj.mp e)
  have z_c_1_9 : (a1).toInt ≠ 9 := fun e => c_1_9 (Int32.toInt_inj.mp e)
  have z_c_1_10 : (a1).toInt ≠ 10 := fun e => c_1_10 (Int32.toInt_inj.mp e)
  refine lv_tableOut (tgt := 130) hx hb dX1_tell_1 (by omega) (by decide) ?_
  refine lv_aload_n hx hb dX1_tell_130 rfl (lv_at hl 0 rfl) ?_
  refine xreti (va_runV (As := []) (rest := []) ⟨hx, hb, hml, hown, hts⟩ (mX1_spills l D ck h q n v  _) (cwV 0 hts gX1_tell_X1_spills rfl rfl rfl (by decide +kernel) ⟨Nat.le_of_ble_eq_true rfl, Nat.le_of_ble_eq_true rfl⟩) (xpreV hN hK hP hD pm_all 0 rfl rfl rfl) rfl rfl hl.1 rfl (lv_room (Nat.le_of_ble_eq_true rfl)) dX1_tell_131 ⟨Nat.le_of_ble_eq_true rfl, Nat.le_of_ble_eq_true rfl⟩) hP hD hS hA pm_all pm_all' (fun H locs hP hD hS => ?_)
  refine lv_if_eq (tgt := 141) hx hb dX1_tell_134 (by decide) (fun c_134 => ?_) (fun c_134 => ?_)
  · --t
    refine lv_iconst (v := 0) hx hb dX1_tell_141 (by decide) ?_
    exact xiret hx hb hr hlk hP hD hS (show gX1_tell n v a1 = 0 from (Eq.trans (if_neg c_1_0) (Eq.trans (if_neg c_1_1) (Eq.trans (if_neg c_1_2) (Eq.trans (if_neg c_1_3) (Eq.trans (if_neg c_1_4) (Eq.trans (if_neg c_1_5) (Eq.trans (if_neg c_1_6) (Eq.trans (if_neg c_1_7) (Eq.trans (if_neg c_1_8) (Eq.trans (if_neg c_1_9) (Eq.trans (if_neg c_1_10) (Eq.trans (if_pos c_134) rfl))))))))))))).symm rfl dX1_tell_142
  · --f
    refine lv_iconst (v := 1) hx hb dX1_tell_137 (by decide) ?_
    refine lv_goto (tgt := 142) hx hb dX1_tell_138 (by decide) ?_
    exact xiret hx hb hr hlk hP hD hS (show gX1_tell n v a1 = 1 from (Eq.trans (if_neg c_1_0) (Eq.trans (if_neg c_1_1) (Eq.trans (if_neg c_1_2) (Eq.trans (if_neg c_1_3) (Eq.trans (if_neg c_1_4) (Eq.trans (if_neg c_1_5) (Eq.trans (if_neg c_1_6) (Eq.trans (if_neg c_1_7) (Eq.trans (if_neg c_1_8) (Eq.trans (if_neg c_1_9) (Eq.trans (if_neg c_1_10) (Eq.trans (if_neg c_134) rfl))))))))))))).symm rfl dX1_tell_142

def rmX1_copyFrom : Room := { frames := 1, cells := 0, slots := 0, locals := 21 }
def gX1_copyFrom (v v2 : Nat → Int32) : (Nat → Int32) := (upd (upd (upd (upd (upd (upd (hd6 v (gX3_copyFrom (tl6 v) (tl6 v2))) 0 (v2 0)) 1 (v2 1)) 2 (v2 2)) 3 (v2 3)) 4 (v2 4)) 5 (v2 5))
set_option maxHeartbeats 4000000 in
set_option maxRecDepth 100000 in
theorem mX1_copyFrom (l : Launch) (D : va_G) (ck : Nat → ClassId) (h q : Nat) (n : Int32) (h2 q2 : Nat) (n2 : Int32) (v v2 : Nat → Int32) : xMv l yX1_copyFrom wsX1_copyFrom rmX1_copyFrom D ck [.ref h, .ref h2] (jW h q n v ++ jW h2 q2 n2 v2) (jW h q n (gX1_copyFrom v v2) ++ jW h2 q2 n2 v2) 0 0 := by
  refine xMet (by decide) rfl (Nat.le_of_ble_eq_true rfl) ?_
  intro zp ze s zm zb zt zc hx hb hr hml hown hts hlk hnm hN hK hP hD ls hl
  have hown : s.vm.findClass RX1 = some zm.cls := hown
  have hl : lv_has ls 2 [(0, .ref h), (1, .ref h2)] := hl
  have hS : va_S (va_A (jW h q n v ++ jW h2 q2 n2 v2) s.heap.size) s.heap s.heap [] := va_S.rf
  have hA : ∀ zq : Nat, s.heap.size ≤ zq → va_A (jW h q n v ++ jW h2 q2 n2 v2) s.heap.size zq := fun zq h => Or.inr h
  have hinX1 : ∀ w ∈ u_ws RX1 TX1 8, w ∈ wsX1_copyFrom := by decide +kernel
  refine lv_aload_n hx hb dX1_copyFrom_0 rfl (lv_at hl 0 rfl) ?_
  refine va_get (D := D) (ci := 1) (v := .ref q) (C := RX1) (T := TX1) (N := 8) hx hb hts hinX1 hown hK hP 0 rfl rfl 1 (by decide) (hts (.fieldLink RX1 10 "JoinGrants$Join" "plan" "LJoinGrants$Plan;") (List.mem_of_getElem? (i := 1) rfl)) (fun _ h9 => h9) rfl dX1_copyFrom_1 ?_
  refine lv_aload_n hx hb dX1_copyFrom_4 rfl (lv_at hl 1 rfl) ?_
  refine va_get (D := D) (ci := 1) (v := .ref q2) (C := RX1) (T := TX1) (N := 8) hx hb hts hinX1 hown hK hP 2 rfl rfl 1 (by decide) (hts (.fieldLink RX1 10 "JoinGrants$Join" "plan" "LJoinGrants$Plan;") (List.mem_of_getElem? (i := 1) rfl)) (fun _ h9 => h9) rfl dX1_copyFrom_5 ?_
  refine xretv (va_runV (As := [.ref q2]) (rest := []) ⟨hx, hb, hml, hown, hts⟩ (mX3_copyFrom l D ck q (tl6 v) q2 (tl6 v2) _) (cwV 1 hts gX1_copyFrom_X3_copyFrom rfl rfl rfl (by decide +kernel) ⟨Nat.le_of_ble_eq_true rfl, Nat.le_of_ble_eq_true rfl⟩) (xpreV hN hK hP hD pm_jjp 0 rfl rfl rfl) rfl rfl hl.1 rfl (lv_room (Nat.le_of_ble_eq_true rfl)) dX1_copyFrom_8 ⟨Nat.le_of_ble_eq_true rfl, Nat.le_of_ble_eq_true rfl⟩) hP hD hS hA pm_jjp pm_jjp' (fun H locs hP hD hS => ?_)
  have hP : va_P D vwCl (jW h q n (hd6 v (gX3_copyFrom (tl6 v) (tl6 v2))) ++ jW h2 q2 n2 v2) H := hP
  have hD : va_D (va_A (jW h q n v ++ jW h2 q2 n2 v2) s.heap.size) (jW h q n (hd6 v (gX3_copyFrom (tl6 v) (tl6 v2))) ++ jW h2 q2 n2 v2) := hD
  refine lv_aload_n hx hb dX1_copyFrom_11 rfl (lv_at hl 0 rfl) ?_
  refine lv_aload_n hx hb dX1_copyFrom_12 rfl (lv_at hl 1 rfl) ?_
  refine va_get (D := D) (ci := 1) (v := .int (v2 0)) (C := RX1) (T := TX1) (N := 8) hx hb hts hinX1 hown hK hP 2 rfl rfl 2 (by decide) (hts (.fieldLink RX1 16 "JoinGrants$Join" "state" "I") (List.mem_of_getElem? (i := 2) rfl)) (fun _ h9 => h9) rfl dX1_copyFrom_13 ?_
  refine va_put (D := D) (ci := 1) (v := .int (v2 0)) (ty := .int) (C := RX1) (T := TX1) (N := 8) hx hb hts hinX1 tyX1 tyX1_ok nmX1 hown hK hP hD hS 0 rfl rfl 2 (by decide) (hts (.fieldLink RX1 16 "JoinGrants$Join" "state" "I") (List.mem_of_getElem? (i := 2) rfl)) (fun _ h9 => h9) rfl (by decide +kernel) rfl rfl (Nat.le_of_ble_eq_true rfl) dX1_copyFrom_16 (fun H locs hP hD hS => ?_)
  have hP : va_P D vwCl (jW h q n (upd (hd6 v (gX3_copyFrom (tl6 v) (tl6 v2))) 0 (v2 0)) ++ jW h2 q2 n2 v2) H := hP
  have hD : va_D (va_A (jW h q n v ++ jW h2 q2 n2 v2) s.heap.size) (jW h q n (upd (hd6 v (gX3_copyFrom (tl6 v) (tl6 v2))) 0 (v2 0)) ++ jW h2 q2 n2 v2) := hD
  refine lv_aload_n hx hb dX1_copyFrom_19 rfl (lv_at hl 0 rfl) ?_
  refine lv_aload_n hx hb dX1_copyFrom_20 rfl (lv_at hl 1 rfl) ?_
  refine va_get (D := D) (ci := 1) (v := .int (v2 1)) (C := RX1) (T := TX1) (N := 8) hx hb hts hinX1 hown hK hP 2 rfl rfl 3 (by decide) (hts (.fieldLink RX1 31 "JoinGrants$Join" "pages" "I") (List.mem_of_getElem? (i := 3) rfl)) (fun _ h9 => h9) rfl dX1_copyFrom_21 ?_
  refine va_put (D := D) (ci := 1) (v := .int (v2 1)) (ty := .int) (C := RX1) (T := TX1) (N := 8) hx hb hts hinX1 tyX1 tyX1_ok nmX1 hown hK hP hD hS 0 rfl rfl 3 (by decide) (hts (.fieldLink RX1 31 "JoinGrants$Join" "pages" "I") (List.mem_of_getElem? (i := 3) rfl)) (fun _ h9 => h9) rfl (by decide +kernel) rfl rfl (Nat.le_of_ble_eq_true rfl) dX1_copyFrom_24 (fun H locs hP hD hS => ?_)
  have hP : va_P D vwCl (jW h q n (upd (upd (hd6 v (gX3_copyFrom (tl6 v) (tl6 v2))) 0 (v2 0)) 1 (v2 1)) ++ jW h2 q2 n2 v2) H := hP
  have hD : va_D (va_A (jW h q n v ++ jW h2 q2 n2 v2) s.heap.size) (jW h q n (upd (upd (hd6 v (gX3_copyFrom (tl6 v) (tl6 v2))) 0 (v2 0)) 1 (v2 1)) ++ jW h2 q2 n2 v2) := hD
  refine lv_aload_n hx hb dX1_copyFrom_27 rfl (lv_at hl 0 rfl) ?_
  refine lv_aload_n hx hb dX1_copyFrom_28 rfl (lv_at hl 1 rfl) ?_
  refine va_get (D := D) (ci := 1) (v := .int (v2 2)) (C := RX1) (T := TX1) (N := 8) hx hb hts hinX1 hown hK hP 2 rfl rfl 4 (by decide) (hts (.fieldLink RX1 38 "JoinGrants$Join" "workLeft" "I") (List.mem_of_getElem? (i := 4) rfl)) (fun _ h9 => h9) rfl dX1_copyFrom_29 ?_
  refine va_put (D := D) (ci := 1) (v := .int (v2 2)) (ty := .int) (C := RX1) (T := TX1) (N := 8) hx hb hts hinX1 tyX1 tyX1_ok nmX1 hown hK hP hD hS 0 rfl rfl 4 (by decide) (hts (.fieldLink RX1 38 "JoinGrants$Join" "workLeft" "I") (List.mem_of_getElem? (i := 4) rfl)) (fun _ h9 => h9) rfl (by decide +kernel) rfl rfl (Nat.le_of_ble_eq_true rfl) dX1_copyFrom_32 (fun H locs hP hD hS => ?_)
  have hP : va_P D vwCl (jW h q n (upd (upd (upd (hd6 v (gX3_copyFrom (tl6 v) (tl6 v2))) 0 (v2 0)) 1 (v2 1)) 2 (v2 2)) ++ jW h2 q2 n2 v2) H := hP
  have hD : va_D (va_A (jW h q n v ++ jW h2 q2 n2 v2) s.heap.size) (jW h q n (upd (upd (upd (hd6 v (gX3_copyFrom (tl6 v) (tl6 v2))) 0 (v2 0)) 1 (v2 1)) 2 (v2 2)) ++ jW h2 q2 n2 v2) := hD
  refine lv_aload_n hx hb dX1_copyFrom_35 rfl (lv_at hl 0 rfl) ?_
  refine lv_aload_n hx hb dX1_copyFrom_36 rfl (lv_at hl 1 rfl) ?_
  refine va_get (D := D) (ci := 1) (v := .int (v2 3)) (C := RX1) (T := TX1) (N := 8) hx hb hts hinX1 hown hK hP 2 rfl rfl 5 (by decide) (hts (.fieldLink RX1 44 "JoinGrants$Join" "stepsWaited" "I") (List.mem_of_getElem? (i := 5) rfl)) (fun _ h9 => h9) rfl dX1_copyFrom_37 ?_
  refine va_put (D := D) (ci := 1) (v := .int (v2 3)) (ty := .int) (C := RX1) (T := TX1) (N := 8) hx hb hts hinX1 tyX1 tyX1_ok nmX1 hown hK hP hD hS 0 rfl rfl 5 (by decide) (hts (.fieldLink RX1 44 "JoinGrants$Join" "stepsWaited" "I") (List.mem_of_getElem? (i := 5) rfl)) (fun _ h9 => h9) rfl (by decide +kernel) rfl rfl (Nat.le_of_ble_eq_true rfl) dX1_copyFrom_40 (fun H locs hP hD hS => ?_)
  have hP : va_P D vwCl (jW h q n (upd (upd (upd (upd (hd6 v (gX3_copyFrom (tl6 v) (tl6 v2))) 0 (v2 0)) 1 (v2 1)) 2 (v2 2)) 3 (v2 3)) ++ jW h2 q2 n2 v2) H := hP
  have hD : va_D (va_A (jW h q n v ++ jW h2 q2 n2 v2) s.heap.size) (jW h q n (upd (upd (upd (upd (hd6 v (gX3_copyFrom (tl6 v) (tl6 v2))) 0 (v2 0)) 1 (v2 1)) 2 (v2 2)) 3 (v2 3)) ++ jW h2 q2 n2 v2) := hD
  refine lv_aload_n hx hb dX1_copyFrom_43 rfl (lv_at hl 0 rfl) ?_
  refine lv_aload_n hx hb dX1_copyFrom_44 rfl (lv_at hl 1 rfl) ?_
  refine va_get (D := D) (ci := 1) (v := .int (v2 4)) (C := RX1) (T := TX1) (N := 8) hx hb hts hinX1 hown hK hP 2 rfl rfl 6 (by decide) (hts (.fieldLink RX1 47 "JoinGrants$Join" "stepsWorked" "I") (List.mem_of_getElem? (i := 6) rfl)) (fun _ h9 => h9) rfl dX1_copyFrom_45 ?_
  refine va_put (D := D) (ci := 1) (v := .int (v2 4)) (ty := .int) (C := RX1) (T := TX1) (N := 8) hx hb hts hinX1 tyX1 tyX1_ok nmX1 hown hK hP hD hS 0 rfl rfl 6 (by decide) (hts (.fieldLink RX1 47 "JoinGrants$Join" "stepsWorked" "I") (List.mem_of_getElem? (i := 6) rfl)) (fun _ h9 => h9) rfl (by decide +kernel) rfl rfl (Nat.le_of_ble_eq_true rfl) dX1_copyFrom_48 (fun H locs hP hD hS => ?_)
  have hP : va_P D vwCl (jW h q n (upd (upd (upd (upd (upd (hd6 v (gX3_copyFrom (tl6 v) (tl6 v2))) 0 (v2 0)) 1 (v2 1)) 2 (v2 2)) 3 (v2 3)) 4 (v2 4)) ++ jW h2 q2 n2 v2) H := hP
  have hD : va_D (va_A (jW h q n v ++ jW h2 q2 n2 v2) s.heap.size) (jW h q n (upd (upd (upd (upd (upd (hd6 v (gX3_copyFrom (tl6 v) (tl6 v2))) 0 (v2 0)) 1 (v2 1)) 2 (v2 2)) 3 (v2 3)) 4 (v2 4)) ++ jW h2 q2 n2 v2) := hD
  refine lv_aload_n hx hb dX1_copyFrom_51 rfl (lv_at hl 0 rfl) ?_
  refine lv_aload_n hx hb dX1_copyFrom_52 rfl (lv_at hl 1 rfl) ?_
  refine va_get (D := D) (ci := 1) (v := .int (v2 5)) (C := RX1) (T := TX1) (N := 8) hx hb hts hinX1 hown hK hP 2 rfl rfl 7 (by decide) (hts (.fieldLink RX1 41 "JoinGrants$Join" "givenBack" "I") (List.mem_of_getElem? (i := 7) rfl)) (fun _ h9 => h9) rfl dX1_copyFrom_53 ?_
  refine va_put (D := D) (ci := 1) (v := .int (v2 5)) (ty := .int) (C := RX1) (T := TX1) (N := 8) hx hb hts hinX1 tyX1 tyX1_ok nmX1 hown hK hP hD hS 0 rfl rfl 7 (by decide) (hts (.fieldLink RX1 41 "JoinGrants$Join" "givenBack" "I") (List.mem_of_getElem? (i := 7) rfl)) (fun _ h9 => h9) rfl (by decide +kernel) rfl rfl (Nat.le_of_ble_eq_true rfl) dX1_copyFrom_56 (fun H locs hP hD hS => ?_)
  have hP : va_P D vwCl (jW h q n (upd (upd (upd (upd (upd (upd (hd6 v (gX3_copyFrom (tl6 v) (tl6 v2))) 0 (v2 0)) 1 (v2 1)) 2 (v2 2)) 3 (v2 3)) 4 (v2 4)) 5 (v2 5)) ++ jW h2 q2 n2 v2) H := hP
  have hD : va_D (va_A (jW h q n v ++ jW h2 q2 n2 v2) s.heap.size) (jW h q n (upd (upd (upd (upd (upd (upd (hd6 v (gX3_copyFrom (tl6 v) (tl6 v2))) 0 (v2 0)) 1 (v2 1)) 2 (v2 2)) 3 (v2 3)) 4 (v2 4)) 5 (v2 5)) ++ jW h2 q2 n2 v2) := hD
  exact xvret hx hb hr hlk hP hD hS (congrArg (fun z => jW h q n z ++ jW h2 q2 n2 v2) (show gX1_copyFrom v v2 = (upd (upd (upd (upd (upd (upd (hd6 v (gX3_copyFrom (tl6 v) (tl6 v2))) 0 (v2 0)) 1 (v2 1)) 2 (v2 2)) 3 (v2 3)) 4 (v2 4)) 5 (v2 5)) from rfl)).symm dX1_copyFrom_59
end
section
set_option maxRecDepth 20000 in
theorem ggX4_init_X1_init : GoodIn wsX4_init wsX1_init := goodIn_r _ [18, 19, 2, 3, 20, 21, 22, 23, 24, 25, 26, 27, 28, 44, 45, 46, 47, 48, 36, 37, 38, 39, 40, 41, 42, 43] (by decide +kernel) (by decide +kernel)
set_option maxRecDepth 20000 in
theorem gX4_init_X1_init : GoodIn wsX4_init (wsX1_init) := ggX4_init_X1_init
theorem dX4_init_0 : decode cX4_init 0 = .ok (.aload_n 0, 1) := by decide +kernel
theorem dX4_init_1 : decode cX4_init 1 = .ok (.invokespecial 3, 3) := by decide +kernel
theorem dX4_init_4 : decode cX4_init 4 = .ok (.aload_n 0, 1) := by decide +kernel
theorem dX4_init_5 : decode cX4_init 5 = .ok (.getstatic 9, 3) := by decide +kernel
theorem dX4_init_8 : decode cX4_init 8 = .ok (.invokevirtual 15, 3) := by decide +kernel
theorem dX4_init_11 : decode cX4_init 11 = .ok (.checkcast 16, 3) := by decide +kernel
theorem dX4_init_14 : decode cX4_init 14 = .ok (.putfield 20, 3) := by decide +kernel
theorem dX4_init_17 : decode cX4_init 17 = .ok (.aload_n 0, 1) := by decide +kernel
theorem dX4_init_18 : decode cX4_init 18 = .ok (.bipush 16, 2) := by decide +kernel
theorem dX4_init_20 : decode cX4_init 20 = .ok (.anewarray 23, 3) := by decide +kernel
theorem dX4_init_23 : decode cX4_init 23 = .ok (.putfield 25, 3) := by decide +kernel
theorem dX4_init_26 : decode cX4_init 26 = .ok (.iconst 0, 1) := by decide +kernel
theorem dX4_init_27 : decode cX4_init 27 = .ok (.istore_n 1, 1) := by decide +kernel
theorem dX4_init_28 : decode cX4_init 28 = .ok (.iload_n 1, 1) := by decide +kernel
theorem dX4_init_29 : decode cX4_init 29 = .ok (.aload_n 0, 1) := by decide +kernel
theorem dX4_init_30 : decode cX4_init 30 = .ok (.getfield 25, 3) := by decide +kernel
theorem dX4_init_33 : decode cX4_init 33 = .ok (.arraylength, 1) := by decide +kernel
theorem dX4_init_34 : decode cX4_init 34 = .ok (.if_icmp .ge 23, 3) := by decide +kernel
theorem dX4_init_37 : decode cX4_init 37 = .ok (.aload_n 0, 1) := by decide +kernel
theorem dX4_init_38 : decode cX4_init 38 = .ok (.getfield 25, 3) := by decide +kernel
theorem dX4_init_41 : decode cX4_init 41 = .ok (.iload_n 1, 1) := by decide +kernel
theorem dX4_init_42 : decode cX4_init 42 = .ok (.new 23, 3) := by decide +kernel
theorem dX4_init_45 : decode cX4_init 45 = .ok (.dup, 1) := by decide +kernel
theorem dX4_init_46 : decode cX4_init 46 = .ok (.iload_n 1, 1) := by decide +kernel
theorem dX4_init_47 : decode cX4_init 47 = .ok (.invokespecial 29, 3) := by decide +kernel
theorem dX4_init_50 : decode cX4_init 50 = .ok (.aastore, 1) := by decide +kernel
theorem dX4_init_51 : decode cX4_init 51 = .ok (.iinc 1 1, 3) := by decide +kernel
theorem dX4_init_54 : decode cX4_init 54 = .ok (.goto (-26), 3) := by decide +kernel
theorem dX4_init_57 : decode cX4_init 57 = .ok (.return_, 1) := by decide +kernel
theorem dX4_allows_0 : decode cX4_allows 0 = .ok (.iload_n 0, 1) := by decide +kernel
theorem dX4_allows_1 : decode cX4_allows 1 = .ok (.ifCond .lt 41, 3) := by decide +kernel
theorem dX4_allows_4 : decode cX4_allows 4 = .ok (.iload_n 0, 1) := by decide +kernel
theorem dX4_allows_5 : decode cX4_allows 5 = .ok (.getstatic 32, 3) := by decide +kernel
theorem dX4_allows_8 : decode cX4_allows 8 = .ok (.arraylength, 1) := by decide +kernel
theorem dX4_allows_9 : decode cX4_allows 9 = .ok (.if_icmp .ge 33, 3) := by decide +kernel
theorem dX4_allows_12 : decode cX4_allows 12 = .ok (.iload_n 0, 1) := by decide +kernel
theorem dX4_allows_13 : decode cX4_allows 13 = .ok (.getstatic 35, 3) := by decide +kernel
theorem dX4_allows_16 : decode cX4_allows 16 = .ok (.arraylength, 1) := by decide +kernel
theorem dX4_allows_17 : decode cX4_allows 17 = .ok (.if_icmp .ge 25, 3) := by decide +kernel
theorem dX4_allows_20 : decode cX4_allows 20 = .ok (.iload_n 1, 1) := by decide +kernel
theorem dX4_allows_21 : decode cX4_allows 21 = .ok (.getstatic 32, 3) := by decide +kernel
theorem dX4_allows_24 : decode cX4_allows 24 = .ok (.iload_n 0, 1) := by decide +kernel
theorem dX4_allows_25 : decode cX4_allows 25 = .ok (.iaload, 1) := by decide +kernel
theorem dX4_allows_26 : decode cX4_allows 26 = .ok (.if_icmp .lt 16, 3) := by decide +kernel
theorem dX4_allows_29 : decode cX4_allows 29 = .ok (.iload_n 1, 1) := by decide +kernel
theorem dX4_allows_30 : decode cX4_allows 30 = .ok (.getstatic 35, 3) := by decide +kernel
theorem dX4_allows_33 : decode cX4_allows 33 = .ok (.iload_n 0, 1) := by decide +kernel
theorem dX4_allows_34 : decode cX4_allows 34 = .ok (.iaload, 1) := by decide +kernel
theorem dX4_allows_35 : decode cX4_allows 35 = .ok (.if_icmp .gt 7, 3) := by decide +kernel
theorem dX4_allows_38 : decode cX4_allows 38 = .ok (.iconst 1, 1) := by decide +kernel
theorem dX4_allows_39 : decode cX4_allows 39 = .ok (.goto 4, 3) := by decide +kernel
theorem dX4_allows_42 : decode cX4_allows 42 = .ok (.iconst 0, 1) := by decide +kernel
theorem dX4_allows_43 : decode cX4_allows 43 = .ok (.ireturn, 1) := by decide +kernel
theorem dX4_setting_0 : decode cX4_setting 0 = .ok (.iload_n 1, 1) := by decide +kernel
theorem dX4_setting_1 : decode cX4_setting 1 = .ok (.ifCond .lt 21, 3) := by decide +kernel
theorem dX4_setting_4 : decode cX4_setting 4 = .ok (.iload_n 1, 1) := by decide +kernel
theorem dX4_setting_5 : decode cX4_setting 5 = .ok (.aload_n 0, 1) := by decide +kernel
theorem dX4_setting_6 : decode cX4_setting 6 = .ok (.getfield 20, 3) := by decide +kernel
theorem dX4_setting_9 : decode cX4_setting 9 = .ok (.arraylength, 1) := by decide +kernel
theorem dX4_setting_10 : decode cX4_setting 10 = .ok (.if_icmp .ge 12, 3) := by decide +kernel
theorem dX4_setting_13 : decode cX4_setting 13 = .ok (.aload_n 0, 1) := by decide +kernel
theorem dX4_setting_14 : decode cX4_setting 14 = .ok (.getfield 20, 3) := by decide +kernel
theorem dX4_setting_17 : decode cX4_setting 17 = .ok (.iload_n 1, 1) := by decide +kernel
theorem dX4_setting_18 : decode cX4_setting 18 = .ok (.iaload, 1) := by decide +kernel
theorem dX4_setting_19 : decode cX4_setting 19 = .ok (.goto 4, 3) := by decide +kernel
theorem dX4_setting_22 : decode cX4_setting 22 = .ok (.iconst 0, 1) := by decide +kernel
theorem dX4_setting_23 : decode cX4_setting 23 = .ok (.ireturn, 1) := by decide +kernel
set_option maxRecDepth 20000 in
theorem ggX4_changeSetting_X4_goThroughQueue : GoodIn wsX4_changeSetting wsX4_goThroughQueue := goodIn_r _ [6, 7, 8, 9, 10, 5, 11, 12, 13, 14, 15, 16, 17, 18, 19, 20, 21, 22, 23, 24, 25, 26, 27, 28, 29, 30, 1, 31, 32, 33, 34, 35, 36, 37, 38, 39, 40, 41, 42, 43, 44, 45, 46, 47, 48, 49, 50, 51, 52, 53, 54, 55, 56, 57, 58, 59, 60, 61, 62, 63, 64, 65, 66, 67, 68, 69, 70, 71, 72, 73, 74, 75, 76, 77, 78, 79, 80, 81, 82, 83, 84, 85, 86, 87, 88, 89, 90, 91, 92, 93, 94, 95, 96, 97, 98, 99, 100, 101, 102, 103, 104, 105, 106, 107, 108, 109, 110, 111, 112, 113, 114, 115, 116, 117, 118, 119, 120, 121, 122, 123, 124] (by decide +kernel) (by decide +kernel)
set_option maxRecDepth 20000 in
theorem gX4_changeSetting_X4_goThroughQueue : GoodIn wsX4_changeSetting (wsV RX4 38 RX4 yX4_goThroughQueue wsX4_goThroughQueue) := goodIn_app (goodIn_of _ (by decide +kernel)) ggX4_changeSetting_X4_goThroughQueue
theorem dX4_changeSetting_0 : decode cX4_changeSetting 0 = .ok (.iload_n 1, 1) := by decide +kernel
theorem dX4_changeSetting_1 : decode cX4_changeSetting 1 = .ok (.ifCond .lt 23, 3) := by decide +kernel
theorem dX4_changeSetting_4 : decode cX4_changeSetting 4 = .ok (.iload_n 1, 1) := by decide +kernel
theorem dX4_changeSetting_5 : decode cX4_changeSetting 5 = .ok (.aload_n 0, 1) := by decide +kernel
theorem dX4_changeSetting_6 : decode cX4_changeSetting 6 = .ok (.getfield 20, 3) := by decide +kernel
theorem dX4_changeSetting_9 : decode cX4_changeSetting 9 = .ok (.arraylength, 1) := by decide +kernel
theorem dX4_changeSetting_10 : decode cX4_changeSetting 10 = .ok (.if_icmp .ge 14, 3) := by decide +kernel
theorem dX4_changeSetting_13 : decode cX4_changeSetting 13 = .ok (.aload_n 0, 1) := by decide +kernel
theorem dX4_changeSetting_14 : decode cX4_changeSetting 14 = .ok (.getfield 20, 3) := by decide +kernel
theorem dX4_changeSetting_17 : decode cX4_changeSetting 17 = .ok (.iload_n 1, 1) := by decide +kernel
theorem dX4_changeSetting_18 : decode cX4_changeSetting 18 = .ok (.iload_n 2, 1) := by decide +kernel
theorem dX4_changeSetting_19 : decode cX4_changeSetting 19 = .ok (.iastore, 1) := by decide +kernel
theorem dX4_changeSetting_20 : decode cX4_changeSetting 20 = .ok (.aload_n 0, 1) := by decide +kernel
theorem dX4_changeSetting_21 : decode cX4_changeSetting 21 = .ok (.invokevirtual 38, 3) := by decide +kernel
theorem dX4_changeSetting_24 : decode cX4_changeSetting 24 = .ok (.return_, 1) := by decide +kernel
theorem dX4_room_0 : decode cX4_room 0 = .ok (.aload_n 0, 1) := by decide +kernel
theorem dX4_room_1 : decode cX4_room 1 = .ok (.getfield 25, 3) := by decide +kernel
theorem dX4_room_4 : decode cX4_room 4 = .ok (.arraylength, 1) := by decide +kernel
theorem dX4_room_5 : decode cX4_room 5 = .ok (.aload_n 0, 1) := by decide +kernel
theorem dX4_room_6 : decode cX4_room 6 = .ok (.getfield 41, 3) := by decide +kernel
theorem dX4_room_9 : decode cX4_room 9 = .ok (.isub, 1) := by decide +kernel
theorem dX4_room_10 : decode cX4_room 10 = .ok (.ireturn, 1) := by decide +kernel
theorem dX4_find_0 : decode cX4_find 0 = .ok (.iload_n 1, 1) := by decide +kernel
theorem dX4_find_1 : decode cX4_find 1 = .ok (.ifCond .lt 29, 3) := by decide +kernel
theorem dX4_find_4 : decode cX4_find 4 = .ok (.iload_n 1, 1) := by decide +kernel
theorem dX4_find_5 : decode cX4_find 5 = .ok (.aload_n 0, 1) := by decide +kernel
theorem dX4_find_6 : decode cX4_find 6 = .ok (.getfield 41, 3) := by decide +kernel
theorem dX4_find_9 : decode cX4_find 9 = .ok (.if_icmp .ge 21, 3) := by decide +kernel
theorem dX4_find_12 : decode cX4_find 12 = .ok (.iload_n 1, 1) := by decide +kernel
theorem dX4_find_13 : decode cX4_find 13 = .ok (.aload_n 0, 1) := by decide +kernel
theorem dX4_find_14 : decode cX4_find 14 = .ok (.getfield 25, 3) := by decide +kernel
theorem dX4_find_17 : decode cX4_find 17 = .ok (.arraylength, 1) := by decide +kernel
theorem dX4_find_18 : decode cX4_find 18 = .ok (.if_icmp .ge 12, 3) := by decide +kernel
theorem dX4_find_21 : decode cX4_find 21 = .ok (.aload_n 0, 1) := by decide +kernel
theorem dX4_find_22 : decode cX4_find 22 = .ok (.getfield 25, 3) := by decide +kernel
theorem dX4_find_25 : decode cX4_find 25 = .ok (.iload_n 1, 1) := by decide +kernel
theorem dX4_find_26 : decode cX4_find 26 = .ok (.aaload, 1) := by decide +kernel
theorem dX4_find_27 : decode cX4_find 27 = .ok (.goto 4, 3) := by decide +kernel
theorem dX4_find_30 : decode cX4_find 30 = .ok (.aconst_null, 1) := by decide +kernel
theorem dX4_find_31 : decode cX4_find 31 = .ok (.areturn, 1) := by decide +kernel
set_option maxRecDepth 20000 in
theorem ggX4_take_X1_come : GoodIn wsX4_take wsX1_come := goodIn_r _ [7, 8, 9, 10, 11, 12, 13, 14, 15, 16, 17, 18, 19, 20, 21, 22, 23, 24, 25, 26, 27, 28, 29, 30, 31, 32, 33, 34, 35, 36, 37, 38, 138, 139, 140, 141, 142, 143, 144, 145, 146, 147, 148, 149, 150] (by decide +kernel) (by decide +kernel)
set_option maxRecDepth 20000 in
theorem gX4_take_X1_come : GoodIn wsX4_take (wsV RX4 45 RX1 yX1_come wsX1_come) := goodIn_app (goodIn_of _ (by decide +kernel)) ggX4_take_X1_come
set_option maxRecDepth 20000 in
theorem ggX4_take_X4_goThroughQueue : GoodIn wsX4_take wsX4_goThroughQueue := goodIn_r _ [43, 2, 44, 45, 46, 42, 47, 48, 49, 50, 6, 51, 9, 52, 53, 54, 55, 56, 57, 58, 59, 8, 60, 61, 62, 63, 64, 65, 66, 67, 68, 69, 70, 71, 72, 73, 74, 75, 25, 76, 77, 78, 24, 26, 79, 80, 81, 82, 83, 84, 85, 86, 87, 88, 89, 90, 91, 92, 93, 94, 95, 96, 97, 98, 99, 100, 101, 102, 103, 13, 104, 15, 16, 21, 27, 105, 106, 107, 108, 109, 110, 111, 112, 113, 114, 115, 116, 117, 118, 119, 120, 121, 122, 123, 124, 125, 126, 127, 128, 129, 130, 131, 132, 133, 134, 135, 136, 137, 138, 139, 140, 141, 142, 143, 144, 145, 146, 147, 148, 149, 150] (by decide +kernel) (by decide +kernel)
set_option maxRecDepth 20000 in
theorem gX4_take_X4_goThroughQueue : GoodIn wsX4_take (wsV RX4 38 RX4 yX4_goThroughQueue wsX4_goThroughQueue) := goodIn_app (goodIn_of _ (by decide +kernel)) ggX4_take_X4_goThroughQueue
set_option maxRecDepth 20000 in
theorem ggX4_take_X1_number : GoodIn wsX4_take wsX1_number := goodIn_r _ [68, 69, 138, 139, 140, 141, 142, 143, 144, 145] (by decide +kernel) (by decide +kernel)
set_option maxRecDepth 20000 in
theorem gX4_take_X1_number : GoodIn wsX4_take (wsV RX4 49 RX1 yX1_number wsX1_number) := goodIn_app (goodIn_of _ (by decide +kernel)) ggX4_take_X1_number
theorem dX4_take_0 : decode cX4_take 0 = .ok (.aload_n 0, 1) := by decide +kernel
theorem dX4_take_1 : decode cX4_take 1 = .ok (.getfield 41, 3) := by decide +kernel
theorem dX4_take_4 : decode cX4_take 4 = .ok (.aload_n 0, 1) := by decide +kernel
theorem dX4_take_5 : decode cX4_take 5 = .ok (.getfield 25, 3) := by decide +kernel
theorem dX4_take_8 : decode cX4_take 8 = .ok (.arraylength, 1) := by decide +kernel
theorem dX4_take_9 : decode cX4_take 9 = .ok (.if_icmp .lt 6, 3) := by decide +kernel
theorem dX4_take_12 : decode cX4_take 12 = .ok (.bipush (-3), 2) := by decide +kernel
theorem dX4_take_14 : decode cX4_take 14 = .ok (.ireturn, 1) := by decide +kernel
theorem dX4_take_15 : decode cX4_take 15 = .ok (.aload_n 0, 1) := by decide +kernel
theorem dX4_take_16 : decode cX4_take 16 = .ok (.getfield 25, 3) := by decide +kernel
theorem dX4_take_19 : decode cX4_take 19 = .ok (.aload_n 0, 1) := by decide +kernel
theorem dX4_take_20 : decode cX4_take 20 = .ok (.getfield 41, 3) := by decide +kernel
theorem dX4_take_23 : decode cX4_take 23 = .ok (.aaload, 1) := by decide +kernel
theorem dX4_take_24 : decode cX4_take 24 = .ok (.astore 4, 2) := by decide +kernel
theorem dX4_take_26 : decode cX4_take 26 = .ok (.aload_n 0, 1) := by decide +kernel
theorem dX4_take_27 : decode cX4_take 27 = .ok (.dup, 1) := by decide +kernel
theorem dX4_take_28 : decode cX4_take 28 = .ok (.getfield 41, 3) := by decide +kernel
theorem dX4_take_31 : decode cX4_take 31 = .ok (.iconst 1, 1) := by decide +kernel
theorem dX4_take_32 : decode cX4_take 32 = .ok (.iadd, 1) := by decide +kernel
theorem dX4_take_33 : decode cX4_take 33 = .ok (.putfield 41, 3) := by decide +kernel
theorem dX4_take_36 : decode cX4_take 36 = .ok (.aload 4, 2) := by decide +kernel
theorem dX4_take_38 : decode cX4_take 38 = .ok (.iload_n 1, 1) := by decide +kernel
theorem dX4_take_39 : decode cX4_take 39 = .ok (.iload_n 2, 1) := by decide +kernel
theorem dX4_take_40 : decode cX4_take 40 = .ok (.iload_n 3, 1) := by decide +kernel
theorem dX4_take_41 : decode cX4_take 41 = .ok (.invokevirtual 45, 3) := by decide +kernel
theorem dX4_take_44 : decode cX4_take 44 = .ok (.aload_n 0, 1) := by decide +kernel
theorem dX4_take_45 : decode cX4_take 45 = .ok (.invokevirtual 38, 3) := by decide +kernel
theorem dX4_take_48 : decode cX4_take 48 = .ok (.aload 4, 2) := by decide +kernel
theorem dX4_take_50 : decode cX4_take 50 = .ok (.invokevirtual 49, 3) := by decide +kernel
theorem dX4_take_53 : decode cX4_take 53 = .ok (.ireturn, 1) := by decide +kernel
set_option maxRecDepth 20000 in
theorem ggX4_goThroughQueue_X4_firstInQueue : GoodIn wsX4_goThroughQueue wsX4_firstInQueue := goodIn_r _ [6, 1, 7, 8, 9, 10, 11, 12, 13, 14, 15, 5, 16, 17, 18, 19, 20, 21, 22, 23, 24, 25, 26, 27, 28, 29, 30, 31, 101, 102, 103, 104, 105, 106, 107, 108, 109, 110, 111, 112, 113, 114, 115, 116, 117, 118, 119, 120] (by decide +kernel) (by decide +kernel)
set_option maxRecDepth 20000 in
theorem gX4_goThroughQueue_X4_firstInQueue : GoodIn wsX4_goThroughQueue (wsV RX4 53 RX4 yX4_firstInQueue wsX4_firstInQueue) := goodIn_app (goodIn_of _ (by decide +kernel)) ggX4_goThroughQueue_X4_firstInQueue
set_option maxRecDepth 20000 in
theorem ggX4_goThroughQueue_X4_start : GoodIn wsX4_goThroughQueue wsX4_start := goodIn_r _ [35, 36, 37, 38, 39, 40, 41, 42, 43, 17, 18, 19, 10, 20, 21, 44, 45, 46, 5, 47, 22, 23, 24, 25, 26, 48, 49, 50, 51, 1, 52, 53, 54, 55, 56, 57, 58, 59, 60, 61, 62, 63, 64, 12, 65, 66, 67, 68, 69, 70, 71, 72, 73, 74, 75, 76, 77, 78, 79, 80, 81, 82, 83, 84, 85, 86, 87, 88, 89, 90, 91, 92, 93, 94, 95, 96, 97, 98, 99, 100, 101, 102, 103, 104, 105, 106, 107, 108, 109, 110, 111, 112, 113, 114, 115, 116, 117, 118, 119, 120] (by decide +kernel) (by decide +kernel)
set_option maxRecDepth 20000 in
theorem gX4_goThroughQueue_X4_start : GoodIn wsX4_goThroughQueue (wsV RX4 57 RX4 yX4_start wsX4_start) := goodIn_app (goodIn_of _ (by decide +kernel)) ggX4_goThroughQueue_X4_start
theorem dX4_goThroughQueue_0 : decode cX4_goThroughQueue 0 = .ok (.iconst 0, 1) := by decide +kernel
theorem dX4_goThroughQueue_1 : decode cX4_goThroughQueue 1 = .ok (.istore_n 1, 1) := by decide +kernel
theorem dX4_goThroughQueue_2 : decode cX4_goThroughQueue 2 = .ok (.iload_n 1, 1) := by decide +kernel
theorem dX4_goThroughQueue_3 : decode cX4_goThroughQueue 3 = .ok (.aload_n 0, 1) := by decide +kernel
theorem dX4_goThroughQueue_4 : decode cX4_goThroughQueue 4 = .ok (.getfield 25, 3) := by decide +kernel
theorem dX4_goThroughQueue_7 : decode cX4_goThroughQueue 7 = .ok (.arraylength, 1) := by decide +kernel
theorem dX4_goThroughQueue_8 : decode cX4_goThroughQueue 8 = .ok (.if_icmp .ge 27, 3) := by decide +kernel
theorem dX4_goThroughQueue_11 : decode cX4_goThroughQueue 11 = .ok (.aload_n 0, 1) := by decide +kernel
theorem dX4_goThroughQueue_12 : decode cX4_goThroughQueue 12 = .ok (.invokevirtual 53, 3) := by decide +kernel
theorem dX4_goThroughQueue_15 : decode cX4_goThroughQueue 15 = .ok (.astore_n 2, 1) := by decide +kernel
theorem dX4_goThroughQueue_16 : decode cX4_goThroughQueue 16 = .ok (.aload_n 2, 1) := by decide +kernel
theorem dX4_goThroughQueue_17 : decode cX4_goThroughQueue 17 = .ok (.ifnull 11, 3) := by decide +kernel
theorem dX4_goThroughQueue_20 : decode cX4_goThroughQueue 20 = .ok (.aload_n 0, 1) := by decide +kernel
theorem dX4_goThroughQueue_21 : decode cX4_goThroughQueue 21 = .ok (.aload_n 2, 1) := by decide +kernel
theorem dX4_goThroughQueue_22 : decode cX4_goThroughQueue 22 = .ok (.invokevirtual 57, 3) := by decide +kernel
theorem dX4_goThroughQueue_25 : decode cX4_goThroughQueue 25 = .ok (.ifCond .ne 4, 3) := by decide +kernel
theorem dX4_goThroughQueue_28 : decode cX4_goThroughQueue 28 = .ok (.return_, 1) := by decide +kernel
theorem dX4_goThroughQueue_29 : decode cX4_goThroughQueue 29 = .ok (.iinc 1 1, 3) := by decide +kernel
theorem dX4_goThroughQueue_32 : decode cX4_goThroughQueue 32 = .ok (.goto (-30), 3) := by decide +kernel
theorem dX4_goThroughQueue_35 : decode cX4_goThroughQueue 35 = .ok (.return_, 1) := by decide +kernel
set_option maxRecDepth 20000 in
theorem ggX4_firstInQueue_X1_isIn : GoodIn wsX4_firstInQueue wsX1_isIn := goodIn_r _ [6, 7, 35, 36, 37, 38, 39, 40, 41, 42] (by decide +kernel) (by decide +kernel)
set_option maxRecDepth 20000 in
theorem gX4_firstInQueue_X1_isIn : GoodIn wsX4_firstInQueue (wsV RX4 61 RX1 yX1_isIn wsX1_isIn) := goodIn_app (goodIn_of _ (by decide +kernel)) ggX4_firstInQueue_X1_isIn
set_option maxRecDepth 20000 in
theorem ggX4_firstInQueue_X4_isAhead : GoodIn wsX4_firstInQueue wsX4_isAhead := goodIn_r _ [12, 13, 14, 15, 5, 16, 17, 18, 19, 20, 11, 21, 22, 23, 24, 25, 26, 27, 35, 36, 37, 38, 39, 40, 41, 42, 43, 44, 45, 46, 47, 28, 29, 30, 31, 32, 33, 34] (by decide +kernel) (by decide +kernel)
set_option maxRecDepth 20000 in
theorem gX4_firstInQueue_X4_isAhead : GoodIn wsX4_firstInQueue (wsV RX4 65 RX4 yX4_isAhead wsX4_isAhead) := goodIn_app (goodIn_of _ (by decide +kernel)) ggX4_firstInQueue_X4_isAhead
theorem dX4_firstInQueue_0 : decode cX4_firstInQueue 0 = .ok (.aconst_null, 1) := by decide +kernel
theorem dX4_firstInQueue_1 : decode cX4_firstInQueue 1 = .ok (.astore_n 1, 1) := by decide +kernel
theorem dX4_firstInQueue_2 : decode cX4_firstInQueue 2 = .ok (.aload_n 0, 1) := by decide +kernel
theorem dX4_firstInQueue_3 : decode cX4_firstInQueue 3 = .ok (.getfield 25, 3) := by decide +kernel
theorem dX4_firstInQueue_6 : decode cX4_firstInQueue 6 = .ok (.astore_n 2, 1) := by decide +kernel
theorem dX4_firstInQueue_7 : decode cX4_firstInQueue 7 = .ok (.aload_n 2, 1) := by decide +kernel
theorem dX4_firstInQueue_8 : decode cX4_firstInQueue 8 = .ok (.arraylength, 1) := by decide +kernel
theorem dX4_firstInQueue_9 : decode cX4_firstInQueue 9 = .ok (.istore_n 3, 1) := by decide +kernel
theorem dX4_firstInQueue_10 : decode cX4_firstInQueue 10 = .ok (.iconst 0, 1) := by decide +kernel
theorem dX4_firstInQueue_11 : decode cX4_firstInQueue 11 = .ok (.istore 4, 2) := by decide +kernel
theorem dX4_firstInQueue_13 : decode cX4_firstInQueue 13 = .ok (.iload 4, 2) := by decide +kernel
theorem dX4_firstInQueue_15 : decode cX4_firstInQueue 15 = .ok (.iload_n 3, 1) := by decide +kernel
theorem dX4_firstInQueue_16 : decode cX4_firstInQueue 16 = .ok (.if_icmp .ge 41, 3) := by decide +kernel
theorem dX4_firstInQueue_19 : decode cX4_firstInQueue 19 = .ok (.aload_n 2, 1) := by decide +kernel
theorem dX4_firstInQueue_20 : decode cX4_firstInQueue 20 = .ok (.iload 4, 2) := by decide +kernel
theorem dX4_firstInQueue_22 : decode cX4_firstInQueue 22 = .ok (.aaload, 1) := by decide +kernel
theorem dX4_firstInQueue_23 : decode cX4_firstInQueue 23 = .ok (.astore 5, 2) := by decide +kernel
theorem dX4_firstInQueue_25 : decode cX4_firstInQueue 25 = .ok (.aload 5, 2) := by decide +kernel
theorem dX4_firstInQueue_27 : decode cX4_firstInQueue 27 = .ok (.iconst 0, 1) := by decide +kernel
theorem dX4_firstInQueue_28 : decode cX4_firstInQueue 28 = .ok (.invokevirtual 61, 3) := by decide +kernel
theorem dX4_firstInQueue_31 : decode cX4_firstInQueue 31 = .ok (.ifCond .eq 20, 3) := by decide +kernel
theorem dX4_firstInQueue_34 : decode cX4_firstInQueue 34 = .ok (.aload_n 1, 1) := by decide +kernel
theorem dX4_firstInQueue_35 : decode cX4_firstInQueue 35 = .ok (.ifnull 13, 3) := by decide +kernel
theorem dX4_firstInQueue_38 : decode cX4_firstInQueue 38 = .ok (.aload_n 0, 1) := by decide +kernel
theorem dX4_firstInQueue_39 : decode cX4_firstInQueue 39 = .ok (.aload 5, 2) := by decide +kernel
theorem dX4_firstInQueue_41 : decode cX4_firstInQueue 41 = .ok (.aload_n 1, 1) := by decide +kernel
theorem dX4_firstInQueue_42 : decode cX4_firstInQueue 42 = .ok (.invokevirtual 65, 3) := by decide +kernel
theorem dX4_firstInQueue_45 : decode cX4_firstInQueue 45 = .ok (.ifCond .eq 6, 3) := by decide +kernel
theorem dX4_firstInQueue_48 : decode cX4_firstInQueue 48 = .ok (.aload 5, 2) := by decide +kernel
theorem dX4_firstInQueue_50 : decode cX4_firstInQueue 50 = .ok (.astore_n 1, 1) := by decide +kernel
theorem dX4_firstInQueue_51 : decode cX4_firstInQueue 51 = .ok (.iinc 4 1, 3) := by decide +kernel
theorem dX4_firstInQueue_54 : decode cX4_firstInQueue 54 = .ok (.goto (-41), 3) := by decide +kernel
theorem dX4_firstInQueue_57 : decode cX4_firstInQueue 57 = .ok (.aload_n 1, 1) := by decide +kernel
theorem dX4_firstInQueue_58 : decode cX4_firstInQueue 58 = .ok (.areturn, 1) := by decide +kernel
set_option maxRecDepth 20000 in
theorem ggX4_start_X1_need : GoodIn wsX4_start wsX1_need := goodIn_r _ [13, 14, 87, 88, 89, 90, 91, 92, 93, 94, 95, 96, 97, 98, 99] (by decide +kernel) (by decide +kernel)
set_option maxRecDepth 20000 in
theorem gX4_start_X1_need : GoodIn wsX4_start (wsV RX4 69 RX1 yX1_need wsX1_need) := goodIn_app (goodIn_of _ (by decide +kernel)) ggX4_start_X1_need
set_option maxRecDepth 20000 in
theorem ggX4_start_X4_free : GoodIn wsX4_start wsX4_free := goodIn_r _ [19, 6, 7, 3, 8, 20, 21, 22, 18, 23, 24, 25, 26, 27, 28, 29, 30, 31, 32, 12, 33, 34, 80, 81, 82, 83, 84, 85, 86, 87, 88, 89, 90, 91, 92, 93, 94] (by decide +kernel) (by decide +kernel)
set_option maxRecDepth 20000 in
theorem gX4_start_X4_free : GoodIn wsX4_start (wsV RX4 72 RX4 yX4_free wsX4_free) := goodIn_app (goodIn_of _ (by decide +kernel)) ggX4_start_X4_free
set_option maxRecDepth 20000 in
theorem ggX4_start_X1_want : GoodIn wsX4_start wsX1_want := goodIn_r _ [38, 14, 87, 88, 89, 90, 91, 92, 93, 94, 95, 96, 97, 98, 99] (by decide +kernel) (by decide +kernel)
set_option maxRecDepth 20000 in
theorem gX4_start_X1_want : GoodIn wsX4_start (wsV RX4 75 RX1 yX1_want wsX1_want) := goodIn_app (goodIn_of _ (by decide +kernel)) ggX4_start_X1_want
set_option maxRecDepth 20000 in
theorem ggX4_start_X1_start : GoodIn wsX4_start wsX1_start := goodIn_r _ [42, 43, 34, 14, 44, 45, 46, 47, 48, 49, 50, 51, 52, 53, 87, 88, 89, 90, 91, 92, 93, 94, 95, 96, 97, 98, 99] (by decide +kernel) (by decide +kernel)
set_option maxRecDepth 20000 in
theorem gX4_start_X1_start : GoodIn wsX4_start (wsV RX4 84 RX1 yX1_start wsX1_start) := goodIn_app (goodIn_of _ (by decide +kernel)) ggX4_start_X1_start
set_option maxRecDepth 20000 in
theorem ggX4_start_X4_canAskBack : GoodIn wsX4_start wsX4_canAskBack := goodIn_r _ [57, 20, 21, 22, 18, 23, 24, 25, 26, 27, 28, 29, 30, 31, 32, 12, 33, 34, 58, 59, 60, 61, 62, 63, 64, 65, 43, 14, 80, 81, 82, 83, 84, 85, 86, 87, 88, 89, 90, 91, 92, 93, 94, 95, 96, 97, 98, 99] (by decide +kernel) (by decide +kernel)
set_option maxRecDepth 20000 in
theorem gX4_start_X4_canAskBack : GoodIn wsX4_start (wsV RX4 86 RX4 yX4_canAskBack wsX4_canAskBack) := goodIn_app (goodIn_of _ (by decide +kernel)) ggX4_start_X4_canAskBack
set_option maxRecDepth 20000 in
theorem ggX4_start_X4_askBack : GoodIn wsX4_start wsX4_askBack := goodIn_r _ [69, 29, 1, 2, 3, 4, 70, 71, 72, 73, 18, 74, 62, 63, 64, 12, 65, 43, 34, 14, 75, 76, 77, 78, 44, 79, 45, 46, 47, 48, 49, 50, 51, 52, 53, 80, 81, 82, 83, 84, 85, 86, 87, 88, 89, 90, 91, 92, 93, 94, 95, 96, 97, 98, 99] (by decide +kernel) (by decide +kernel)
set_option maxRecDepth 20000 in
theorem gX4_start_X4_askBack : GoodIn wsX4_start (wsV RX4 89 RX4 yX4_askBack wsX4_askBack) := goodIn_app (goodIn_of _ (by decide +kernel)) ggX4_start_X4_askBack
set_option maxRecDepth 20000 in
theorem ggX4_start_X4_granted : GoodIn wsX4_start wsX4_granted := goodIn_r _ [28, 29, 30, 31, 32, 12, 33, 34, 80, 81, 82, 83, 84, 85, 86, 87, 88, 89, 90, 91, 92, 93, 94] (by decide +kernel) (by decide +kernel)
set_option maxRecDepth 20000 in
theorem gX4_start_X4_granted : GoodIn wsX4_start (wsV RX4 95 RX4 yX4_granted wsX4_granted) := goodIn_app (goodIn_of _ (by decide +kernel)) ggX4_start_X4_granted
theorem dX4_start_0 : decode cX4_start 0 = .ok (.aload_n 1, 1) := by decide +kernel
theorem dX4_start_1 : decode cX4_start 1 = .ok (.invokevirtual 69, 3) := by decide +kernel
theorem dX4_start_4 : decode cX4_start 4 = .ok (.istore_n 2, 1) := by decide +kernel
theorem dX4_start_5 : decode cX4_start 5 = .ok (.iload_n 2, 1) := by decide +kernel
theorem dX4_start_6 : decode cX4_start 6 = .ok (.aload_n 0, 1) := by decide +kernel
theorem dX4_start_7 : decode cX4_start 7 = .ok (.invokevirtual 72, 3) := by decide +kernel
theorem dX4_start_10 : decode cX4_start 10 = .ok (.isub, 1) := by decide +kernel
theorem dX4_start_11 : decode cX4_start 11 = .ok (.istore_n 3, 1) := by decide +kernel
theorem dX4_start_12 : decode cX4_start 12 = .ok (.iload_n 3, 1) := by decide +kernel
theorem dX4_start_13 : decode cX4_start 13 = .ok (.ifCond .gt 21, 3) := by decide +kernel
theorem dX4_start_16 : decode cX4_start 16 = .ok (.aload_n 1, 1) := by decide +kernel
theorem dX4_start_17 : decode cX4_start 17 = .ok (.aload_n 0, 1) := by decide +kernel
theorem dX4_start_18 : decode cX4_start 18 = .ok (.invokevirtual 72, 3) := by decide +kernel
theorem dX4_start_21 : decode cX4_start 21 = .ok (.aload_n 1, 1) := by decide +kernel
theorem dX4_start_22 : decode cX4_start 22 = .ok (.invokevirtual 75, 3) := by decide +kernel
theorem dX4_start_25 : decode cX4_start 25 = .ok (.invokestatic 78, 3) := by decide +kernel
theorem dX4_start_28 : decode cX4_start 28 = .ok (.invokevirtual 84, 3) := by decide +kernel
theorem dX4_start_31 : decode cX4_start 31 = .ok (.goto 26, 3) := by decide +kernel
theorem dX4_start_34 : decode cX4_start 34 = .ok (.aload_n 0, 1) := by decide +kernel
theorem dX4_start_35 : decode cX4_start 35 = .ok (.iload_n 3, 1) := by decide +kernel
theorem dX4_start_36 : decode cX4_start 36 = .ok (.invokevirtual 86, 3) := by decide +kernel
theorem dX4_start_39 : decode cX4_start 39 = .ok (.ifCond .eq 16, 3) := by decide +kernel
theorem dX4_start_42 : decode cX4_start 42 = .ok (.aload_n 0, 1) := by decide +kernel
theorem dX4_start_43 : decode cX4_start 43 = .ok (.iload_n 3, 1) := by decide +kernel
theorem dX4_start_44 : decode cX4_start 44 = .ok (.invokevirtual 89, 3) := by decide +kernel
theorem dX4_start_47 : decode cX4_start 47 = .ok (.aload_n 1, 1) := by decide +kernel
theorem dX4_start_48 : decode cX4_start 48 = .ok (.iload_n 2, 1) := by decide +kernel
theorem dX4_start_49 : decode cX4_start 49 = .ok (.invokevirtual 84, 3) := by decide +kernel
theorem dX4_start_52 : decode cX4_start 52 = .ok (.goto 5, 3) := by decide +kernel
theorem dX4_start_55 : decode cX4_start 55 = .ok (.iconst 0, 1) := by decide +kernel
theorem dX4_start_56 : decode cX4_start 56 = .ok (.ireturn, 1) := by decide +kernel
theorem dX4_start_57 : decode cX4_start 57 = .ok (.aload_n 0, 1) := by decide +kernel
theorem dX4_start_58 : decode cX4_start 58 = .ok (.aload_n 0, 1) := by decide +kernel
theorem dX4_start_59 : decode cX4_start 59 = .ok (.getfield 92, 3) := by decide +kernel
theorem dX4_start_62 : decode cX4_start 62 = .ok (.aload_n 0, 1) := by decide +kernel
theorem dX4_start_63 : decode cX4_start 63 = .ok (.invokevirtual 95, 3) := by decide +kernel
theorem dX4_start_66 : decode cX4_start 66 = .ok (.invokestatic 98, 3) := by decide +kernel
theorem dX4_start_69 : decode cX4_start 69 = .ok (.putfield 92, 3) := by decide +kernel
theorem dX4_start_72 : decode cX4_start 72 = .ok (.iconst 1, 1) := by decide +kernel
theorem dX4_start_73 : decode cX4_start 73 = .ok (.ireturn, 1) := by decide +kernel
set_option maxRecDepth 20000 in
theorem ggX4_canAskBack_X4_setting : GoodIn wsX4_canAskBack wsX4_setting := goodIn_r _ [5, 6, 28, 29, 30, 31, 32, 33, 34] (by decide +kernel) (by decide +kernel)
set_option maxRecDepth 20000 in
theorem gX4_canAskBack_X4_setting : GoodIn wsX4_canAskBack (wsV RX4 101 RX4 yX4_setting wsX4_setting) := goodIn_app (goodIn_of _ (by decide +kernel)) ggX4_canAskBack_X4_setting
set_option maxRecDepth 20000 in
theorem ggX4_canAskBack_X4_granted : GoodIn wsX4_canAskBack wsX4_granted := goodIn_r _ [10, 11, 12, 13, 14, 15, 16, 17, 28, 29, 30, 31, 32, 33, 34, 35, 36, 37, 38, 39, 40, 41, 42] (by decide +kernel) (by decide +kernel)
set_option maxRecDepth 20000 in
theorem gX4_canAskBack_X4_granted : GoodIn wsX4_canAskBack (wsV RX4 95 RX4 yX4_granted wsX4_granted) := goodIn_app (goodIn_of _ (by decide +kernel)) ggX4_canAskBack_X4_granted
set_option maxRecDepth 20000 in
theorem ggX4_canAskBack_X4_surplus : GoodIn wsX4_canAskBack wsX4_surplus := goodIn_r _ [21, 11, 22, 23, 24, 15, 25, 26, 17, 27, 28, 29, 30, 31, 32, 33, 34, 35, 36, 37, 38, 39, 40, 41, 42, 43, 44, 45, 46, 47] (by decide +kernel) (by decide +kernel)
set_option maxRecDepth 20000 in
theorem gX4_canAskBack_X4_surplus : GoodIn wsX4_canAskBack (wsV RX4 105 RX4 yX4_surplus wsX4_surplus) := goodIn_app (goodIn_of _ (by decide +kernel)) ggX4_canAskBack_X4_surplus
theorem dX4_canAskBack_0 : decode cX4_canAskBack 0 = .ok (.aload_n 0, 1) := by decide +kernel
theorem dX4_canAskBack_1 : decode cX4_canAskBack 1 = .ok (.iconst 2, 1) := by decide +kernel
theorem dX4_canAskBack_2 : decode cX4_canAskBack 2 = .ok (.invokevirtual 101, 3) := by decide +kernel
theorem dX4_canAskBack_5 : decode cX4_canAskBack 5 = .ok (.iconst 1, 1) := by decide +kernel
theorem dX4_canAskBack_6 : decode cX4_canAskBack 6 = .ok (.if_icmp .ne 27, 3) := by decide +kernel
theorem dX4_canAskBack_9 : decode cX4_canAskBack 9 = .ok (.aload_n 0, 1) := by decide +kernel
theorem dX4_canAskBack_10 : decode cX4_canAskBack 10 = .ok (.invokevirtual 95, 3) := by decide +kernel
theorem dX4_canAskBack_13 : decode cX4_canAskBack 13 = .ok (.aload_n 0, 1) := by decide +kernel
theorem dX4_canAskBack_14 : decode cX4_canAskBack 14 = .ok (.iconst 0, 1) := by decide +kernel
theorem dX4_canAskBack_15 : decode cX4_canAskBack 15 = .ok (.invokevirtual 101, 3) := by decide +kernel
theorem dX4_canAskBack_18 : decode cX4_canAskBack 18 = .ok (.if_icmp .gt 15, 3) := by decide +kernel
theorem dX4_canAskBack_21 : decode cX4_canAskBack 21 = .ok (.aload_n 0, 1) := by decide +kernel
theorem dX4_canAskBack_22 : decode cX4_canAskBack 22 = .ok (.invokevirtual 105, 3) := by decide +kernel
theorem dX4_canAskBack_25 : decode cX4_canAskBack 25 = .ok (.iload_n 1, 1) := by decide +kernel
theorem dX4_canAskBack_26 : decode cX4_canAskBack 26 = .ok (.if_icmp .lt 7, 3) := by decide +kernel
theorem dX4_canAskBack_29 : decode cX4_canAskBack 29 = .ok (.iconst 1, 1) := by decide +kernel
theorem dX4_canAskBack_30 : decode cX4_canAskBack 30 = .ok (.goto 4, 3) := by decide +kernel
theorem dX4_canAskBack_33 : decode cX4_canAskBack 33 = .ok (.iconst 0, 1) := by decide +kernel
theorem dX4_canAskBack_34 : decode cX4_canAskBack 34 = .ok (.ireturn, 1) := by decide +kernel
set_option maxRecDepth 20000 in
theorem ggX4_askBack_X4_richest : GoodIn wsX4_askBack wsX4_richest := goodIn_r _ [11, 1, 12, 13, 14, 15, 16, 17, 18, 19, 35, 36, 37, 38, 39, 40, 41, 42, 43, 44, 45, 46, 47, 48, 49, 50, 51, 52, 53, 54] (by decide +kernel) (by decide +kernel)
set_option maxRecDepth 20000 in
theorem gX4_askBack_X4_richest : GoodIn wsX4_askBack (wsV RX4 108 RX4 yX4_richest wsX4_richest) := goodIn_app (goodIn_of _ (by decide +kernel)) ggX4_askBack_X4_richest
set_option maxRecDepth 20000 in
theorem ggX4_askBack_X1_surplus : GoodIn wsX4_askBack wsX1_surplus := goodIn_r _ [16, 17, 18, 19, 42, 43, 44, 45, 46, 47, 48, 49, 50, 51, 52, 53, 54] (by decide +kernel) (by decide +kernel)
set_option maxRecDepth 20000 in
theorem gX4_askBack_X1_surplus : GoodIn wsX4_askBack (wsV RX4 111 RX1 yX1_surplus wsX1_surplus) := goodIn_app (goodIn_of _ (by decide +kernel)) ggX4_askBack_X1_surplus
set_option maxRecDepth 20000 in
theorem ggX4_askBack_X1_giveBack : GoodIn wsX4_askBack wsX1_giveBack := goodIn_r _ [23, 19, 18, 24, 25, 26, 27, 28, 29, 30, 31, 32, 33, 34, 42, 43, 44, 45, 46, 47, 48, 49, 50, 51, 52, 53, 54] (by decide +kernel) (by decide +kernel)
set_option maxRecDepth 20000 in
theorem gX4_askBack_X1_giveBack : GoodIn wsX4_askBack (wsV RX4 112 RX1 yX1_giveBack wsX1_giveBack) := goodIn_app (goodIn_of _ (by decide +kernel)) ggX4_askBack_X1_giveBack
theorem dX4_askBack_0 : decode cX4_askBack 0 = .ok (.iload_n 1, 1) := by decide +kernel
theorem dX4_askBack_1 : decode cX4_askBack 1 = .ok (.istore_n 2, 1) := by decide +kernel
theorem dX4_askBack_2 : decode cX4_askBack 2 = .ok (.iconst 0, 1) := by decide +kernel
theorem dX4_askBack_3 : decode cX4_askBack 3 = .ok (.istore_n 3, 1) := by decide +kernel
theorem dX4_askBack_4 : decode cX4_askBack 4 = .ok (.iload_n 3, 1) := by decide +kernel
theorem dX4_askBack_5 : decode cX4_askBack 5 = .ok (.aload_n 0, 1) := by decide +kernel
theorem dX4_askBack_6 : decode cX4_askBack 6 = .ok (.getfield 25, 3) := by decide +kernel
theorem dX4_askBack_9 : decode cX4_askBack 9 = .ok (.arraylength, 1) := by decide +kernel
theorem dX4_askBack_10 : decode cX4_askBack 10 = .ok (.if_icmp .ge 59, 3) := by decide +kernel
theorem dX4_askBack_13 : decode cX4_askBack 13 = .ok (.iload_n 2, 1) := by decide +kernel
theorem dX4_askBack_14 : decode cX4_askBack 14 = .ok (.ifCond .le 55, 3) := by decide +kernel
theorem dX4_askBack_17 : decode cX4_askBack 17 = .ok (.aload_n 0, 1) := by decide +kernel
theorem dX4_askBack_18 : decode cX4_askBack 18 = .ok (.invokevirtual 108, 3) := by decide +kernel
theorem dX4_askBack_21 : decode cX4_askBack 21 = .ok (.astore 4, 2) := by decide +kernel
theorem dX4_askBack_23 : decode cX4_askBack 23 = .ok (.aload 4, 2) := by decide +kernel
theorem dX4_askBack_25 : decode cX4_askBack 25 = .ok (.ifnonnull 4, 3) := by decide +kernel
theorem dX4_askBack_28 : decode cX4_askBack 28 = .ok (.return_, 1) := by decide +kernel
theorem dX4_askBack_29 : decode cX4_askBack 29 = .ok (.iload_n 2, 1) := by decide +kernel
theorem dX4_askBack_30 : decode cX4_askBack 30 = .ok (.aload 4, 2) := by decide +kernel
theorem dX4_askBack_32 : decode cX4_askBack 32 = .ok (.invokevirtual 111, 3) := by decide +kernel
theorem dX4_askBack_35 : decode cX4_askBack 35 = .ok (.invokestatic 78, 3) := by decide +kernel
theorem dX4_askBack_38 : decode cX4_askBack 38 = .ok (.istore 5, 2) := by decide +kernel
theorem dX4_askBack_40 : decode cX4_askBack 40 = .ok (.aload 4, 2) := by decide +kernel
theorem dX4_askBack_42 : decode cX4_askBack 42 = .ok (.iload 5, 2) := by decide +kernel
theorem dX4_askBack_44 : decode cX4_askBack 44 = .ok (.invokevirtual 112, 3) := by decide +kernel
theorem dX4_askBack_47 : decode cX4_askBack 47 = .ok (.aload_n 0, 1) := by decide +kernel
theorem dX4_askBack_48 : decode cX4_askBack 48 = .ok (.dup, 1) := by decide +kernel
theorem dX4_askBack_49 : decode cX4_askBack 49 = .ok (.getfield 115, 3) := by decide +kernel
theorem dX4_askBack_52 : decode cX4_askBack 52 = .ok (.iload 5, 2) := by decide +kernel
theorem dX4_askBack_54 : decode cX4_askBack 54 = .ok (.iadd, 1) := by decide +kernel
theorem dX4_askBack_55 : decode cX4_askBack 55 = .ok (.putfield 115, 3) := by decide +kernel
theorem dX4_askBack_58 : decode cX4_askBack 58 = .ok (.iload_n 2, 1) := by decide +kernel
theorem dX4_askBack_59 : decode cX4_askBack 59 = .ok (.iload 5, 2) := by decide +kernel
theorem dX4_askBack_61 : decode cX4_askBack 61 = .ok (.isub, 1) := by decide +kernel
theorem dX4_askBack_62 : decode cX4_askBack 62 = .ok (.istore_n 2, 1) := by decide +kernel
theorem dX4_askBack_63 : decode cX4_askBack 63 = .ok (.iinc 3 1, 3) := by decide +kernel
theorem dX4_askBack_66 : decode cX4_askBack 66 = .ok (.goto (-62), 3) := by decide +kernel
theorem dX4_askBack_69 : decode cX4_askBack 69 = .ok (.return_, 1) := by decide +kernel
set_option maxRecDepth 20000 in
theorem ggX4_richest_X1_surplus : GoodIn wsX4_richest wsX1_surplus := goodIn_r _ [6, 7, 8, 9, 17, 18, 19, 20, 21, 22, 23, 24, 25, 26, 27, 28, 29] (by decide +kernel) (by decide +kernel)
set_option maxRecDepth 20000 in
theorem gX4_richest_X1_surplus : GoodIn wsX4_richest (wsV RX4 111 RX1 yX1_surplus wsX1_surplus) := goodIn_app (goodIn_of _ (by decide +kernel)) ggX4_richest_X1_surplus
theorem dX4_richest_0 : decode cX4_richest 0 = .ok (.aconst_null, 1) := by decide +kernel
theorem dX4_richest_1 : decode cX4_richest 1 = .ok (.astore_n 1, 1) := by decide +kernel
theorem dX4_richest_2 : decode cX4_richest 2 = .ok (.aload_n 0, 1) := by decide +kernel
theorem dX4_richest_3 : decode cX4_richest 3 = .ok (.getfield 25, 3) := by decide +kernel
theorem dX4_richest_6 : decode cX4_richest 6 = .ok (.astore_n 2, 1) := by decide +kernel
theorem dX4_richest_7 : decode cX4_richest 7 = .ok (.aload_n 2, 1) := by decide +kernel
theorem dX4_richest_8 : decode cX4_richest 8 = .ok (.arraylength, 1) := by decide +kernel
theorem dX4_richest_9 : decode cX4_richest 9 = .ok (.istore_n 3, 1) := by decide +kernel
theorem dX4_richest_10 : decode cX4_richest 10 = .ok (.iconst 0, 1) := by decide +kernel
theorem dX4_richest_11 : decode cX4_richest 11 = .ok (.istore 4, 2) := by decide +kernel
theorem dX4_richest_13 : decode cX4_richest 13 = .ok (.iload 4, 2) := by decide +kernel
theorem dX4_richest_15 : decode cX4_richest 15 = .ok (.iload_n 3, 1) := by decide +kernel
theorem dX4_richest_16 : decode cX4_richest 16 = .ok (.if_icmp .ge 34, 3) := by decide +kernel
theorem dX4_richest_19 : decode cX4_richest 19 = .ok (.aload_n 2, 1) := by decide +kernel
theorem dX4_richest_20 : decode cX4_richest 20 = .ok (.iload 4, 2) := by decide +kernel
theorem dX4_richest_22 : decode cX4_richest 22 = .ok (.aaload, 1) := by decide +kernel
theorem dX4_richest_23 : decode cX4_richest 23 = .ok (.astore 5, 2) := by decide +kernel
theorem dX4_richest_25 : decode cX4_richest 25 = .ok (.aload_n 1, 1) := by decide +kernel
theorem dX4_richest_26 : decode cX4_richest 26 = .ok (.ifnull 15, 3) := by decide +kernel
theorem dX4_richest_29 : decode cX4_richest 29 = .ok (.aload 5, 2) := by decide +kernel
theorem dX4_richest_31 : decode cX4_richest 31 = .ok (.invokevirtual 111, 3) := by decide +kernel
theorem dX4_richest_34 : decode cX4_richest 34 = .ok (.aload_n 1, 1) := by decide +kernel
theorem dX4_richest_35 : decode cX4_richest 35 = .ok (.invokevirtual 111, 3) := by decide +kernel
theorem dX4_richest_38 : decode cX4_richest 38 = .ok (.if_icmp .le 6, 3) := by decide +kernel
theorem dX4_richest_41 : decode cX4_richest 41 = .ok (.aload 5, 2) := by decide +kernel
theorem dX4_richest_43 : decode cX4_richest 43 = .ok (.astore_n 1, 1) := by decide +kernel
theorem dX4_richest_44 : decode cX4_richest 44 = .ok (.iinc 4 1, 3) := by decide +kernel
theorem dX4_richest_47 : decode cX4_richest 47 = .ok (.goto (-34), 3) := by decide +kernel
theorem dX4_richest_50 : decode cX4_richest 50 = .ok (.aload_n 1, 1) := by decide +kernel
theorem dX4_richest_51 : decode cX4_richest 51 = .ok (.areturn, 1) := by decide +kernel
set_option maxRecDepth 20000 in
theorem ggX4_isAhead_X1_need : GoodIn wsX4_isAhead wsX1_need := goodIn_r _ [5, 6, 18, 19, 20, 21, 22, 23, 24, 25, 26, 27, 28, 29, 30] (by decide +kernel) (by decide +kernel)
set_option maxRecDepth 20000 in
theorem gX4_isAhead_X1_need : GoodIn wsX4_isAhead (wsV RX4 69 RX1 yX1_need wsX1_need) := goodIn_app (goodIn_of _ (by decide +kernel)) ggX4_isAhead_X1_need
set_option maxRecDepth 20000 in
theorem ggX4_isAhead_X4_setting : GoodIn wsX4_isAhead wsX4_setting := goodIn_r _ [11, 12, 31, 32, 33, 34, 35, 36, 37] (by decide +kernel) (by decide +kernel)
set_option maxRecDepth 20000 in
theorem gX4_isAhead_X4_setting : GoodIn wsX4_isAhead (wsV RX4 101 RX4 yX4_setting wsX4_setting) := goodIn_app (goodIn_of _ (by decide +kernel)) ggX4_isAhead_X4_setting
set_option maxRecDepth 20000 in
theorem ggX4_isAhead_X1_number : GoodIn wsX4_isAhead wsX1_number := goodIn_r _ [16, 17, 18, 19, 20, 21, 22, 23, 24, 25] (by decide +kernel) (by decide +kernel)
set_option maxRecDepth 20000 in
theorem gX4_isAhead_X1_number : GoodIn wsX4_isAhead (wsV RX4 49 RX1 yX1_number wsX1_number) := goodIn_app (goodIn_of _ (by decide +kernel)) ggX4_isAhead_X1_number
theorem dX4_isAhead_0 : decode cX4_isAhead 0 = .ok (.aload_n 1, 1) := by decide +kernel
theorem dX4_isAhead_1 : decode cX4_isAhead 1 = .ok (.invokevirtual 69, 3) := by decide +kernel
theorem dX4_isAhead_4 : decode cX4_isAhead 4 = .ok (.istore_n 3, 1) := by decide +kernel
theorem dX4_isAhead_5 : decode cX4_isAhead 5 = .ok (.aload_n 2, 1) := by decide +kernel
theorem dX4_isAhead_6 : decode cX4_isAhead 6 = .ok (.invokevirtual 69, 3) := by decide +kernel
theorem dX4_isAhead_9 : decode cX4_isAhead 9 = .ok (.istore 4, 2) := by decide +kernel
theorem dX4_isAhead_11 : decode cX4_isAhead 11 = .ok (.aload_n 0, 1) := by decide +kernel
theorem dX4_isAhead_12 : decode cX4_isAhead 12 = .ok (.iconst 1, 1) := by decide +kernel
theorem dX4_isAhead_13 : decode cX4_isAhead 13 = .ok (.invokevirtual 101, 3) := by decide +kernel
theorem dX4_isAhead_16 : decode cX4_isAhead 16 = .ok (.iconst 1, 1) := by decide +kernel
theorem dX4_isAhead_17 : decode cX4_isAhead 17 = .ok (.if_icmp .ne 21, 3) := by decide +kernel
theorem dX4_isAhead_20 : decode cX4_isAhead 20 = .ok (.iload_n 3, 1) := by decide +kernel
theorem dX4_isAhead_21 : decode cX4_isAhead 21 = .ok (.iload 4, 2) := by decide +kernel
theorem dX4_isAhead_23 : decode cX4_isAhead 23 = .ok (.if_icmp .eq 15, 3) := by decide +kernel
theorem dX4_isAhead_26 : decode cX4_isAhead 26 = .ok (.iload_n 3, 1) := by decide +kernel
theorem dX4_isAhead_27 : decode cX4_isAhead 27 = .ok (.iload 4, 2) := by decide +kernel
theorem dX4_isAhead_29 : decode cX4_isAhead 29 = .ok (.if_icmp .ge 7, 3) := by decide +kernel
theorem dX4_isAhead_32 : decode cX4_isAhead 32 = .ok (.iconst 1, 1) := by decide +kernel
theorem dX4_isAhead_33 : decode cX4_isAhead 33 = .ok (.goto 4, 3) := by decide +kernel
theorem dX4_isAhead_36 : decode cX4_isAhead 36 = .ok (.iconst 0, 1) := by decide +kernel
theorem dX4_isAhead_37 : decode cX4_isAhead 37 = .ok (.ireturn, 1) := by decide +kernel
theorem dX4_isAhead_38 : decode cX4_isAhead 38 = .ok (.aload_n 1, 1) := by decide +kernel
theorem dX4_isAhead_39 : decode cX4_isAhead 39 = .ok (.invokevirtual 49, 3) := by decide +kernel
theorem dX4_isAhead_42 : decode cX4_isAhead 42 = .ok (.aload_n 2, 1) := by decide +kernel
theorem dX4_isAhead_43 : decode cX4_isAhead 43 = .ok (.invokevirtual 49, 3) := by decide +kernel
theorem dX4_isAhead_46 : decode cX4_isAhead 46 = .ok (.if_icmp .ge 7, 3) := by decide +kernel
theorem dX4_isAhead_49 : decode cX4_isAhead 49 = .ok (.iconst 1, 1) := by decide +kernel
theorem dX4_isAhead_50 : decode cX4_isAhead 50 = .ok (.goto 4, 3) := by decide +kernel
theorem dX4_isAhead_53 : decode cX4_isAhead 53 = .ok (.iconst 0, 1) := by decide +kernel
theorem dX4_isAhead_54 : decode cX4_isAhead 54 = .ok (.ireturn, 1) := by decide +kernel
set_option maxRecDepth 20000 in
theorem ggX4_rankOf_X1_isIn : GoodIn wsX4_rankOf wsX1_isIn := goodIn_r _ [6, 7, 35, 36, 37, 38, 39, 40, 41, 42] (by decide +kernel) (by decide +kernel)
set_option maxRecDepth 20000 in
theorem gX4_rankOf_X1_isIn : GoodIn wsX4_rankOf (wsV RX4 61 RX1 yX1_isIn wsX1_isIn) := goodIn_app (goodIn_of _ (by decide +kernel)) ggX4_rankOf_X1_isIn
set_option maxRecDepth 20000 in
theorem ggX4_rankOf_X4_isAhead : GoodIn wsX4_rankOf wsX4_isAhead := goodIn_r _ [12, 13, 14, 15, 5, 16, 17, 18, 19, 20, 11, 21, 22, 23, 24, 25, 26, 27, 35, 36, 37, 38, 39, 40, 41, 42, 43, 44, 45, 46, 47, 28, 29, 30, 31, 32, 33, 34] (by decide +kernel) (by decide +kernel)
set_option maxRecDepth 20000 in
theorem gX4_rankOf_X4_isAhead : GoodIn wsX4_rankOf (wsV RX4 65 RX4 yX4_isAhead wsX4_isAhead) := goodIn_app (goodIn_of _ (by decide +kernel)) ggX4_rankOf_X4_isAhead
theorem dX4_rankOf_0 : decode cX4_rankOf 0 = .ok (.iconst 0, 1) := by decide +kernel
theorem dX4_rankOf_1 : decode cX4_rankOf 1 = .ok (.istore_n 2, 1) := by decide +kernel
theorem dX4_rankOf_2 : decode cX4_rankOf 2 = .ok (.aload_n 0, 1) := by decide +kernel
theorem dX4_rankOf_3 : decode cX4_rankOf 3 = .ok (.getfield 25, 3) := by decide +kernel
theorem dX4_rankOf_6 : decode cX4_rankOf 6 = .ok (.astore_n 3, 1) := by decide +kernel
theorem dX4_rankOf_7 : decode cX4_rankOf 7 = .ok (.aload_n 3, 1) := by decide +kernel
theorem dX4_rankOf_8 : decode cX4_rankOf 8 = .ok (.arraylength, 1) := by decide +kernel
theorem dX4_rankOf_9 : decode cX4_rankOf 9 = .ok (.istore 4, 2) := by decide +kernel
theorem dX4_rankOf_11 : decode cX4_rankOf 11 = .ok (.iconst 0, 1) := by decide +kernel
theorem dX4_rankOf_12 : decode cX4_rankOf 12 = .ok (.istore 5, 2) := by decide +kernel
theorem dX4_rankOf_14 : decode cX4_rankOf 14 = .ok (.iload 5, 2) := by decide +kernel
theorem dX4_rankOf_16 : decode cX4_rankOf 16 = .ok (.iload 4, 2) := by decide +kernel
theorem dX4_rankOf_18 : decode cX4_rankOf 18 = .ok (.if_icmp .ge 37, 3) := by decide +kernel
theorem dX4_rankOf_21 : decode cX4_rankOf 21 = .ok (.aload_n 3, 1) := by decide +kernel
theorem dX4_rankOf_22 : decode cX4_rankOf 22 = .ok (.iload 5, 2) := by decide +kernel
theorem dX4_rankOf_24 : decode cX4_rankOf 24 = .ok (.aaload, 1) := by decide +kernel
theorem dX4_rankOf_25 : decode cX4_rankOf 25 = .ok (.astore 6, 2) := by decide +kernel
theorem dX4_rankOf_27 : decode cX4_rankOf 27 = .ok (.aload 6, 2) := by decide +kernel
theorem dX4_rankOf_29 : decode cX4_rankOf 29 = .ok (.iconst 0, 1) := by decide +kernel
theorem dX4_rankOf_30 : decode cX4_rankOf 30 = .ok (.invokevirtual 61, 3) := by decide +kernel
theorem dX4_rankOf_33 : decode cX4_rankOf 33 = .ok (.ifCond .eq 16, 3) := by decide +kernel
theorem dX4_rankOf_36 : decode cX4_rankOf 36 = .ok (.aload_n 0, 1) := by decide +kernel
theorem dX4_rankOf_37 : decode cX4_rankOf 37 = .ok (.aload 6, 2) := by decide +kernel
theorem dX4_rankOf_39 : decode cX4_rankOf 39 = .ok (.aload_n 1, 1) := by decide +kernel
theorem dX4_rankOf_40 : decode cX4_rankOf 40 = .ok (.invokevirtual 65, 3) := by decide +kernel
theorem dX4_rankOf_43 : decode cX4_rankOf 43 = .ok (.ifCond .eq 6, 3) := by decide +kernel
theorem dX4_rankOf_46 : decode cX4_rankOf 46 = .ok (.iinc 2 1, 3) := by decide +kernel
theorem dX4_rankOf_49 : decode cX4_rankOf 49 = .ok (.iinc 5 1, 3) := by decide +kernel
theorem dX4_rankOf_52 : decode cX4_rankOf 52 = .ok (.goto (-38), 3) := by decide +kernel
theorem dX4_rankOf_55 : decode cX4_rankOf 55 = .ok (.iload_n 2, 1) := by decide +kernel
theorem dX4_rankOf_56 : decode cX4_rankOf 56 = .ok (.ireturn, 1) := by decide +kernel
set_option maxRecDepth 20000 in
theorem ggX4_atRank_X1_isIn : GoodIn wsX4_atRank wsX1_isIn := goodIn_r _ [6, 7, 39, 40, 41, 42, 43, 44, 45, 46] (by decide +kernel) (by decide +kernel)
set_option maxRecDepth 20000 in
theorem gX4_atRank_X1_isIn : GoodIn wsX4_atRank (wsV RX4 61 RX1 yX1_isIn wsX1_isIn) := goodIn_app (goodIn_of _ (by decide +kernel)) ggX4_atRank_X1_isIn
set_option maxRecDepth 20000 in
theorem ggX4_atRank_X4_rankOf : GoodIn wsX4_atRank wsX4_rankOf := goodIn_r _ [12, 1, 2, 3, 4, 5, 6, 7, 13, 14, 15, 11, 16, 17, 18, 19, 20, 21, 22, 23, 24, 25, 26, 27, 28, 29, 30, 31, 32, 33, 34, 35, 36, 37, 38, 39, 40, 41, 42, 43, 44, 45, 46, 47, 48, 49, 50, 51] (by decide +kernel) (by decide +kernel)
set_option maxRecDepth 20000 in
theorem gX4_atRank_X4_rankOf : GoodIn wsX4_atRank (wsV RX4 118 RX4 yX4_rankOf wsX4_rankOf) := goodIn_app (goodIn_of _ (by decide +kernel)) ggX4_atRank_X4_rankOf
theorem dX4_atRank_0 : decode cX4_atRank 0 = .ok (.aload_n 0, 1) := by decide +kernel
theorem dX4_atRank_1 : decode cX4_atRank 1 = .ok (.getfield 25, 3) := by decide +kernel
theorem dX4_atRank_4 : decode cX4_atRank 4 = .ok (.astore_n 2, 1) := by decide +kernel
theorem dX4_atRank_5 : decode cX4_atRank 5 = .ok (.aload_n 2, 1) := by decide +kernel
theorem dX4_atRank_6 : decode cX4_atRank 6 = .ok (.arraylength, 1) := by decide +kernel
theorem dX4_atRank_7 : decode cX4_atRank 7 = .ok (.istore_n 3, 1) := by decide +kernel
theorem dX4_atRank_8 : decode cX4_atRank 8 = .ok (.iconst 0, 1) := by decide +kernel
theorem dX4_atRank_9 : decode cX4_atRank 9 = .ok (.istore 4, 2) := by decide +kernel
theorem dX4_atRank_11 : decode cX4_atRank 11 = .ok (.iload 4, 2) := by decide +kernel
theorem dX4_atRank_13 : decode cX4_atRank 13 = .ok (.iload_n 3, 1) := by decide +kernel
theorem dX4_atRank_14 : decode cX4_atRank 14 = .ok (.if_icmp .ge 37, 3) := by decide +kernel
theorem dX4_atRank_17 : decode cX4_atRank 17 = .ok (.aload_n 2, 1) := by decide +kernel
theorem dX4_atRank_18 : decode cX4_atRank 18 = .ok (.iload 4, 2) := by decide +kernel
theorem dX4_atRank_20 : decode cX4_atRank 20 = .ok (.aaload, 1) := by decide +kernel
theorem dX4_atRank_21 : decode cX4_atRank 21 = .ok (.astore 5, 2) := by decide +kernel
theorem dX4_atRank_23 : decode cX4_atRank 23 = .ok (.aload 5, 2) := by decide +kernel
theorem dX4_atRank_25 : decode cX4_atRank 25 = .ok (.iconst 0, 1) := by decide +kernel
theorem dX4_atRank_26 : decode cX4_atRank 26 = .ok (.invokevirtual 61, 3) := by decide +kernel
theorem dX4_atRank_29 : decode cX4_atRank 29 = .ok (.ifCond .eq 16, 3) := by decide +kernel
theorem dX4_atRank_32 : decode cX4_atRank 32 = .ok (.aload_n 0, 1) := by decide +kernel
theorem dX4_atRank_33 : decode cX4_atRank 33 = .ok (.aload 5, 2) := by decide +kernel
theorem dX4_atRank_35 : decode cX4_atRank 35 = .ok (.invokevirtual 118, 3) := by decide +kernel
theorem dX4_atRank_38 : decode cX4_atRank 38 = .ok (.iload_n 1, 1) := by decide +kernel
theorem dX4_atRank_39 : decode cX4_atRank 39 = .ok (.if_icmp .ne 6, 3) := by decide +kernel
theorem dX4_atRank_42 : decode cX4_atRank 42 = .ok (.aload 5, 2) := by decide +kernel
theorem dX4_atRank_44 : decode cX4_atRank 44 = .ok (.areturn, 1) := by decide +kernel
theorem dX4_atRank_45 : decode cX4_atRank 45 = .ok (.iinc 4 1, 3) := by decide +kernel
theorem dX4_atRank_48 : decode cX4_atRank 48 = .ok (.goto (-37), 3) := by decide +kernel
theorem dX4_atRank_51 : decode cX4_atRank 51 = .ok (.aconst_null, 1) := by decide +kernel
theorem dX4_atRank_52 : decode cX4_atRank 52 = .ok (.areturn, 1) := by decide +kernel
set_option maxRecDepth 20000 in
theorem ggX4_hindrance_X1_isIn : GoodIn wsX4_hindrance wsX1_isIn := goodIn_r _ [5, 6, 32, 33, 34, 35, 36, 37, 38, 39] (by decide +kernel) (by decide +kernel)
set_option maxRecDepth 20000 in
theorem gX4_hindrance_X1_isIn : GoodIn wsX4_hindrance (wsV RX4 61 RX1 yX1_isIn wsX1_isIn) := goodIn_app (goodIn_of _ (by decide +kernel)) ggX4_hindrance_X1_isIn
set_option maxRecDepth 20000 in
theorem ggX4_hindrance_X1_need : GoodIn wsX4_hindrance wsX1_need := goodIn_r _ [10, 11, 32, 33, 34, 35, 36, 37, 38, 39, 40, 41, 42, 43, 44] (by decide +kernel) (by decide +kernel)
set_option maxRecDepth 20000 in
theorem gX4_hindrance_X1_need : GoodIn wsX4_hindrance (wsV RX4 69 RX1 yX1_need wsX1_need) := goodIn_app (goodIn_of _ (by decide +kernel)) ggX4_hindrance_X1_need
set_option maxRecDepth 20000 in
theorem ggX4_hindrance_X4_setting : GoodIn wsX4_hindrance wsX4_setting := goodIn_r _ [16, 17, 45, 46, 47, 48, 49, 50, 51] (by decide +kernel) (by decide +kernel)
set_option maxRecDepth 20000 in
theorem gX4_hindrance_X4_setting : GoodIn wsX4_hindrance (wsV RX4 101 RX4 yX4_setting wsX4_setting) := goodIn_app (goodIn_of _ (by decide +kernel)) ggX4_hindrance_X4_setting
set_option maxRecDepth 20000 in
theorem ggX4_hindrance_X4_rankOf : GoodIn wsX4_hindrance wsX4_rankOf := goodIn_r _ [21, 22, 1, 2, 3, 4, 5, 6, 23, 24, 25, 15, 26, 7, 8, 9, 10, 11, 12, 13, 14, 16, 17, 27, 28, 29, 30, 31, 45, 46, 47, 48, 49, 50, 51, 32, 33, 34, 35, 36, 37, 38, 39, 40, 41, 42, 43, 44] (by decide +kernel) (by decide +kernel)
set_option maxRecDepth 20000 in
theorem gX4_hindrance_X4_rankOf : GoodIn wsX4_hindrance (wsV RX4 118 RX4 yX4_rankOf wsX4_rankOf) := goodIn_app (goodIn_of _ (by decide +kernel)) ggX4_hindrance_X4_rankOf
theorem dX4_hindrance_0 : decode cX4_hindrance 0 = .ok (.aload_n 1, 1) := by decide +kernel
theorem dX4_hindrance_1 : decode cX4_hindrance 1 = .ok (.iconst 0, 1) := by decide +kernel
theorem dX4_hindrance_2 : decode cX4_hindrance 2 = .ok (.invokevirtual 61, 3) := by decide +kernel
theorem dX4_hindrance_5 : decode cX4_hindrance 5 = .ok (.ifCond .ne 5, 3) := by decide +kernel
theorem dX4_hindrance_8 : decode cX4_hindrance 8 = .ok (.iconst 0, 1) := by decide +kernel
theorem dX4_hindrance_9 : decode cX4_hindrance 9 = .ok (.ireturn, 1) := by decide +kernel
theorem dX4_hindrance_10 : decode cX4_hindrance 10 = .ok (.aload_n 1, 1) := by decide +kernel
theorem dX4_hindrance_11 : decode cX4_hindrance 11 = .ok (.invokevirtual 69, 3) := by decide +kernel
theorem dX4_hindrance_14 : decode cX4_hindrance 14 = .ok (.aload_n 0, 1) := by decide +kernel
theorem dX4_hindrance_15 : decode cX4_hindrance 15 = .ok (.iconst 0, 1) := by decide +kernel
theorem dX4_hindrance_16 : decode cX4_hindrance 16 = .ok (.invokevirtual 101, 3) := by decide +kernel
theorem dX4_hindrance_19 : decode cX4_hindrance 19 = .ok (.if_icmp .le 5, 3) := by decide +kernel
theorem dX4_hindrance_22 : decode cX4_hindrance 22 = .ok (.iconst 1, 1) := by decide +kernel
theorem dX4_hindrance_23 : decode cX4_hindrance 23 = .ok (.ireturn, 1) := by decide +kernel
theorem dX4_hindrance_24 : decode cX4_hindrance 24 = .ok (.aload_n 0, 1) := by decide +kernel
theorem dX4_hindrance_25 : decode cX4_hindrance 25 = .ok (.aload_n 1, 1) := by decide +kernel
theorem dX4_hindrance_26 : decode cX4_hindrance 26 = .ok (.invokevirtual 118, 3) := by decide +kernel
theorem dX4_hindrance_29 : decode cX4_hindrance 29 = .ok (.ifCond .le 7, 3) := by decide +kernel
theorem dX4_hindrance_32 : decode cX4_hindrance 32 = .ok (.iconst 2, 1) := by decide +kernel
theorem dX4_hindrance_33 : decode cX4_hindrance 33 = .ok (.goto 4, 3) := by decide +kernel
theorem dX4_hindrance_36 : decode cX4_hindrance 36 = .ok (.iconst 3, 1) := by decide +kernel
theorem dX4_hindrance_37 : decode cX4_hindrance 37 = .ok (.ireturn, 1) := by decide +kernel
set_option maxRecDepth 20000 in
theorem ggX4_leap_X4_setting : GoodIn wsX4_leap wsX4_setting := goodIn_r _ [12, 13, 126, 127, 128, 129, 130, 131, 132] (by decide +kernel) (by decide +kernel)
set_option maxRecDepth 20000 in
theorem gX4_leap_X4_setting : GoodIn wsX4_leap (wsV RX4 101 RX4 yX4_setting wsX4_setting) := goodIn_app (goodIn_of _ (by decide +kernel)) ggX4_leap_X4_setting
set_option maxRecDepth 20000 in
theorem ggX4_leap_X1_isIn : GoodIn wsX4_leap wsX1_isIn := goodIn_r _ [18, 19, 133, 134, 135, 136, 137, 138, 139, 140] (by decide +kernel) (by decide +kernel)
set_option maxRecDepth 20000 in
theorem gX4_leap_X1_isIn : GoodIn wsX4_leap (wsV RX4 61 RX1 yX1_isIn wsX1_isIn) := goodIn_app (goodIn_of _ (by decide +kernel)) ggX4_leap_X1_isIn
set_option maxRecDepth 20000 in
theorem ggX4_leap_X1_stepsLeft : GoodIn wsX4_leap wsX1_stepsLeft := goodIn_r _ [23, 24, 133, 134, 135, 136, 137, 138, 139, 140] (by decide +kernel) (by decide +kernel)
set_option maxRecDepth 20000 in
theorem gX4_leap_X1_stepsLeft : GoodIn wsX4_leap (wsV RX4 122 RX1 yX1_stepsLeft wsX1_stepsLeft) := goodIn_app (goodIn_of _ (by decide +kernel)) ggX4_leap_X1_stepsLeft
set_option maxRecDepth 20000 in
theorem ggX4_leap_X1_pass : GoodIn wsX4_leap wsX1_pass := goodIn_r _ [28, 19, 29, 30, 24, 31, 3, 4, 5, 133, 134, 135, 136, 137, 138, 139, 140] (by decide +kernel) (by decide +kernel)
set_option maxRecDepth 20000 in
theorem gX4_leap_X1_pass : GoodIn wsX4_leap (wsV RX4 128 RX1 yX1_pass wsX1_pass) := goodIn_app (goodIn_of _ (by decide +kernel)) ggX4_leap_X1_pass
set_option maxRecDepth 20000 in
theorem ggX4_leap_X1_hasWorkedAll : GoodIn wsX4_leap wsX1_hasWorkedAll := goodIn_r _ [35, 19, 24, 133, 134, 135, 136, 137, 138, 139, 140] (by decide +kernel) (by decide +kernel)
set_option maxRecDepth 20000 in
theorem gX4_leap_X1_hasWorkedAll : GoodIn wsX4_leap (wsV RX4 131 RX1 yX1_hasWorkedAll wsX1_hasWorkedAll) := goodIn_app (goodIn_of _ (by decide +kernel)) ggX4_leap_X1_hasWorkedAll
set_option maxRecDepth 20000 in
theorem ggX4_leap_X1_end : GoodIn wsX4_leap wsX1_end := goodIn_r _ [39, 19, 40, 24, 133, 134, 135, 136, 137, 138, 139, 140] (by decide +kernel) (by decide +kernel)
set_option maxRecDepth 20000 in
theorem gX4_leap_X1_end : GoodIn wsX4_leap (wsV RX4 135 RX1 yX1_end wsX1_end) := goodIn_app (goodIn_of _ (by decide +kernel)) ggX4_leap_X1_end
set_option maxRecDepth 20000 in
theorem ggX4_leap_X4_goThroughQueue : GoodIn wsX4_leap wsX4_goThroughQueue := goodIn_r _ [44, 1, 45, 46, 47, 11, 48, 14, 15, 16, 17, 18, 19, 49, 50, 51, 52, 53, 54, 55, 56, 57, 8, 9, 10, 12, 13, 58, 59, 60, 61, 62, 63, 64, 65, 66, 2, 3, 4, 5, 67, 68, 69, 70, 71, 72, 73, 74, 75, 76, 77, 78, 79, 80, 81, 82, 40, 83, 84, 85, 86, 87, 88, 89, 90, 24, 91, 92, 93, 94, 95, 96, 97, 98, 99, 100, 101, 102, 103, 104, 105, 106, 107, 108, 109, 110, 111, 112, 113, 114, 115, 116, 117, 118, 119, 120, 121, 122, 123, 124, 125, 126, 127, 128, 129, 130, 131, 132, 133, 134, 135, 136, 137, 138, 139, 140, 141, 142, 143, 144, 145] (by decide +kernel) (by decide +kernel)
set_option maxRecDepth 20000 in
theorem gX4_leap_X4_goThroughQueue : GoodIn wsX4_leap (wsV RX4 38 RX4 yX4_goThroughQueue wsX4_goThroughQueue) := goodIn_app (goodIn_of _ (by decide +kernel)) ggX4_leap_X4_goThroughQueue
theorem dX4_leap_0 : decode cX4_leap 0 = .ok (.aload_n 0, 1) := by decide +kernel
theorem dX4_leap_1 : decode cX4_leap 1 = .ok (.iconst 3, 1) := by decide +kernel
theorem dX4_leap_2 : decode cX4_leap 2 = .ok (.invokevirtual 101, 3) := by decide +kernel
theorem dX4_leap_5 : decode cX4_leap 5 = .ok (.istore_n 2, 1) := by decide +kernel
theorem dX4_leap_6 : decode cX4_leap 6 = .ok (.iload_n 1, 1) := by decide +kernel
theorem dX4_leap_7 : decode cX4_leap 7 = .ok (.istore_n 3, 1) := by decide +kernel
theorem dX4_leap_8 : decode cX4_leap 8 = .ok (.aload_n 0, 1) := by decide +kernel
theorem dX4_leap_9 : decode cX4_leap 9 = .ok (.getfield 25, 3) := by decide +kernel
theorem dX4_leap_12 : decode cX4_leap 12 = .ok (.astore 4, 2) := by decide +kernel
theorem dX4_leap_14 : decode cX4_leap 14 = .ok (.aload 4, 2) := by decide +kernel
theorem dX4_leap_16 : decode cX4_leap 16 = .ok (.arraylength, 1) := by decide +kernel
theorem dX4_leap_17 : decode cX4_leap 17 = .ok (.istore 5, 2) := by decide +kernel
theorem dX4_leap_19 : decode cX4_leap 19 = .ok (.iconst 0, 1) := by decide +kernel
theorem dX4_leap_20 : decode cX4_leap 20 = .ok (.istore 6, 2) := by decide +kernel
theorem dX4_leap_22 : decode cX4_leap 22 = .ok (.iload 6, 2) := by decide +kernel
theorem dX4_leap_24 : decode cX4_leap 24 = .ok (.iload 5, 2) := by decide +kernel
theorem dX4_leap_26 : decode cX4_leap 26 = .ok (.if_icmp .ge 36, 3) := by decide +kernel
theorem dX4_leap_29 : decode cX4_leap 29 = .ok (.aload 4, 2) := by decide +kernel
theorem dX4_leap_31 : decode cX4_leap 31 = .ok (.iload 6, 2) := by decide +kernel
theorem dX4_leap_33 : decode cX4_leap 33 = .ok (.aaload, 1) := by decide +kernel
theorem dX4_leap_34 : decode cX4_leap 34 = .ok (.astore 7, 2) := by decide +kernel
theorem dX4_leap_36 : decode cX4_leap 36 = .ok (.aload 7, 2) := by decide +kernel
theorem dX4_leap_38 : decode cX4_leap 38 = .ok (.iconst 1, 1) := by decide +kernel
theorem dX4_leap_39 : decode cX4_leap 39 = .ok (.invokevirtual 61, 3) := by decide +kernel
theorem dX4_leap_42 : decode cX4_leap 42 = .ok (.ifCond .eq 14, 3) := by decide +kernel
theorem dX4_leap_45 : decode cX4_leap 45 = .ok (.iload_n 3, 1) := by decide +kernel
theorem dX4_leap_46 : decode cX4_leap 46 = .ok (.aload 7, 2) := by decide +kernel
theorem dX4_leap_48 : decode cX4_leap 48 = .ok (.iload_n 2, 1) := by decide +kernel
theorem dX4_leap_49 : decode cX4_leap 49 = .ok (.invokevirtual 122, 3) := by decide +kernel
theorem dX4_leap_52 : decode cX4_leap 52 = .ok (.invokestatic 78, 3) := by decide +kernel
theorem dX4_leap_55 : decode cX4_leap 55 = .ok (.istore_n 3, 1) := by decide +kernel
theorem dX4_leap_56 : decode cX4_leap 56 = .ok (.iinc 6 1, 3) := by decide +kernel
theorem dX4_leap_59 : decode cX4_leap 59 = .ok (.goto (-37), 3) := by decide +kernel
theorem dX4_leap_62 : decode cX4_leap 62 = .ok (.iconst 0, 1) := by decide +kernel
theorem dX4_leap_63 : decode cX4_leap 63 = .ok (.istore 4, 2) := by decide +kernel
theorem dX4_leap_65 : decode cX4_leap 65 = .ok (.aload_n 0, 1) := by decide +kernel
theorem dX4_leap_66 : decode cX4_leap 66 = .ok (.getfield 25, 3) := by decide +kernel
theorem dX4_leap_69 : decode cX4_leap 69 = .ok (.astore 5, 2) := by decide +kernel
theorem dX4_leap_71 : decode cX4_leap 71 = .ok (.aload 5, 2) := by decide +kernel
theorem dX4_leap_73 : decode cX4_leap 73 = .ok (.arraylength, 1) := by decide +kernel
theorem dX4_leap_74 : decode cX4_leap 74 = .ok (.istore 6, 2) := by decide +kernel
theorem dX4_leap_76 : decode cX4_leap 76 = .ok (.iconst 0, 1) := by decide +kernel
theorem dX4_leap_77 : decode cX4_leap 77 = .ok (.istore 7, 2) := by decide +kernel
theorem dX4_leap_79 : decode cX4_leap 79 = .ok (.iload 7, 2) := by decide +kernel
theorem dX4_leap_81 : decode cX4_leap 81 = .ok (.iload 6, 2) := by decide +kernel
theorem dX4_leap_83 : decode cX4_leap 83 = .ok (.if_icmp .ge 49, 3) := by decide +kernel
theorem dX4_leap_86 : decode cX4_leap 86 = .ok (.aload 5, 2) := by decide +kernel
theorem dX4_leap_88 : decode cX4_leap 88 = .ok (.iload 7, 2) := by decide +kernel
theorem dX4_leap_90 : decode cX4_leap 90 = .ok (.aaload, 1) := by decide +kernel
theorem dX4_leap_91 : decode cX4_leap 91 = .ok (.astore 8, 2) := by decide +kernel
theorem dX4_leap_93 : decode cX4_leap 93 = .ok (.aload_n 0, 1) := by decide +kernel
theorem dX4_leap_94 : decode cX4_leap 94 = .ok (.dup, 1) := by decide +kernel
theorem dX4_leap_95 : decode cX4_leap 95 = .ok (.getfield 125, 3) := by decide +kernel
theorem dX4_leap_98 : decode cX4_leap 98 = .ok (.aload 8, 2) := by decide +kernel
theorem dX4_leap_100 : decode cX4_leap 100 = .ok (.iload_n 3, 1) := by decide +kernel
theorem dX4_leap_101 : decode cX4_leap 101 = .ok (.iload_n 2, 1) := by decide +kernel
theorem dX4_leap_102 : decode cX4_leap 102 = .ok (.invokevirtual 128, 3) := by decide +kernel
theorem dX4_leap_105 : decode cX4_leap 105 = .ok (.iadd, 1) := by decide +kernel
theorem dX4_leap_106 : decode cX4_leap 106 = .ok (.putfield 125, 3) := by decide +kernel
theorem dX4_leap_109 : decode cX4_leap 109 = .ok (.aload 8, 2) := by decide +kernel
theorem dX4_leap_111 : decode cX4_leap 111 = .ok (.invokevirtual 131, 3) := by decide +kernel
theorem dX4_leap_114 : decode cX4_leap 114 = .ok (.ifCond .eq 12, 3) := by decide +kernel
theorem dX4_leap_117 : decode cX4_leap 117 = .ok (.aload 8, 2) := by decide +kernel
theorem dX4_leap_119 : decode cX4_leap 119 = .ok (.iconst 2, 1) := by decide +kernel
theorem dX4_leap_120 : decode cX4_leap 120 = .ok (.invokevirtual 135, 3) := by decide +kernel
theorem dX4_leap_123 : decode cX4_leap 123 = .ok (.iconst 1, 1) := by decide +kernel
theorem dX4_leap_124 : decode cX4_leap 124 = .ok (.istore 4, 2) := by decide +kernel
theorem dX4_leap_126 : decode cX4_leap 126 = .ok (.iinc 7 1, 3) := by decide +kernel
theorem dX4_leap_129 : decode cX4_leap 129 = .ok (.goto (-50), 3) := by decide +kernel
theorem dX4_leap_132 : decode cX4_leap 132 = .ok (.aload_n 0, 1) := by decide +kernel
theorem dX4_leap_133 : decode cX4_leap 133 = .ok (.dup, 1) := by decide +kernel
theorem dX4_leap_134 : decode cX4_leap 134 = .ok (.getfield 138, 3) := by decide +kernel
theorem dX4_leap_137 : decode cX4_leap 137 = .ok (.iload_n 3, 1) := by decide +kernel
theorem dX4_leap_138 : decode cX4_leap 138 = .ok (.iadd, 1) := by decide +kernel
theorem dX4_leap_139 : decode cX4_leap 139 = .ok (.putfield 138, 3) := by decide +kernel
theorem dX4_leap_142 : decode cX4_leap 142 = .ok (.iload 4, 2) := by decide +kernel
theorem dX4_leap_144 : decode cX4_leap 144 = .ok (.ifCond .eq 7, 3) := by decide +kernel
theorem dX4_leap_147 : decode cX4_leap 147 = .ok (.aload_n 0, 1) := by decide +kernel
theorem dX4_leap_148 : decode cX4_leap 148 = .ok (.invokevirtual 38, 3) := by decide +kernel
theorem dX4_leap_151 : decode cX4_leap 151 = .ok (.iload_n 3, 1) := by decide +kernel
theorem dX4_leap_152 : decode cX4_leap 152 = .ok (.ireturn, 1) := by decide +kernel
theorem dX4_steps_0 : decode cX4_steps 0 = .ok (.aload_n 0, 1) := by decide +kernel
theorem dX4_steps_1 : decode cX4_steps 1 = .ok (.getfield 138, 3) := by decide +kernel
theorem dX4_steps_4 : decode cX4_steps 4 = .ok (.ireturn, 1) := by decide +kernel
set_option maxRecDepth 20000 in
theorem ggX4_granted_X1_pages : GoodIn wsX4_granted wsX1_pages := goodIn_r _ [6, 7, 15, 16, 17, 18, 19, 20, 21, 22] (by decide +kernel) (by decide +kernel)
set_option maxRecDepth 20000 in
theorem gX4_granted_X1_pages : GoodIn wsX4_granted (wsV RX4 141 RX1 yX1_pages wsX1_pages) := goodIn_app (goodIn_of _ (by decide +kernel)) ggX4_granted_X1_pages
theorem dX4_granted_0 : decode cX4_granted 0 = .ok (.iconst 0, 1) := by decide +kernel
theorem dX4_granted_1 : decode cX4_granted 1 = .ok (.istore_n 1, 1) := by decide +kernel
theorem dX4_granted_2 : decode cX4_granted 2 = .ok (.aload_n 0, 1) := by decide +kernel
theorem dX4_granted_3 : decode cX4_granted 3 = .ok (.getfield 25, 3) := by decide +kernel
theorem dX4_granted_6 : decode cX4_granted 6 = .ok (.astore_n 2, 1) := by decide +kernel
theorem dX4_granted_7 : decode cX4_granted 7 = .ok (.aload_n 2, 1) := by decide +kernel
theorem dX4_granted_8 : decode cX4_granted 8 = .ok (.arraylength, 1) := by decide +kernel
theorem dX4_granted_9 : decode cX4_granted 9 = .ok (.istore_n 3, 1) := by decide +kernel
theorem dX4_granted_10 : decode cX4_granted 10 = .ok (.iconst 0, 1) := by decide +kernel
theorem dX4_granted_11 : decode cX4_granted 11 = .ok (.istore 4, 2) := by decide +kernel
theorem dX4_granted_13 : decode cX4_granted 13 = .ok (.iload 4, 2) := by decide +kernel
theorem dX4_granted_15 : decode cX4_granted 15 = .ok (.iload_n 3, 1) := by decide +kernel
theorem dX4_granted_16 : decode cX4_granted 16 = .ok (.if_icmp .ge 23, 3) := by decide +kernel
theorem dX4_granted_19 : decode cX4_granted 19 = .ok (.aload_n 2, 1) := by decide +kernel
theorem dX4_granted_20 : decode cX4_granted 20 = .ok (.iload 4, 2) := by decide +kernel
theorem dX4_granted_22 : decode cX4_granted 22 = .ok (.aaload, 1) := by decide +kernel
theorem dX4_granted_23 : decode cX4_granted 23 = .ok (.astore 5, 2) := by decide +kernel
theorem dX4_granted_25 : decode cX4_granted 25 = .ok (.iload_n 1, 1) := by decide +kernel
theorem dX4_granted_26 : decode cX4_granted 26 = .ok (.aload 5, 2) := by decide +kernel
theorem dX4_granted_28 : decode cX4_granted 28 = .ok (.invokevirtual 141, 3) := by decide +kernel
theorem dX4_granted_31 : decode cX4_granted 31 = .ok (.iadd, 1) := by decide +kernel
theorem dX4_granted_32 : decode cX4_granted 32 = .ok (.istore_n 1, 1) := by decide +kernel
theorem dX4_granted_33 : decode cX4_granted 33 = .ok (.iinc 4 1, 3) := by decide +kernel
theorem dX4_granted_36 : decode cX4_granted 36 = .ok (.goto (-23), 3) := by decide +kernel
theorem dX4_granted_39 : decode cX4_granted 39 = .ok (.iload_n 1, 1) := by decide +kernel
theorem dX4_granted_40 : decode cX4_granted 40 = .ok (.ireturn, 1) := by decide +kernel
set_option maxRecDepth 20000 in
theorem ggX4_free_X4_setting : GoodIn wsX4_free wsX4_setting := goodIn_r _ [9, 10, 22, 23, 24, 25, 26, 27, 28] (by decide +kernel) (by decide +kernel)
set_option maxRecDepth 20000 in
theorem gX4_free_X4_setting : GoodIn wsX4_free (wsV RX4 101 RX4 yX4_setting wsX4_setting) := goodIn_app (goodIn_of _ (by decide +kernel)) ggX4_free_X4_setting
set_option maxRecDepth 20000 in
theorem ggX4_free_X4_granted : GoodIn wsX4_free wsX4_granted := goodIn_r _ [14, 15, 16, 17, 18, 19, 20, 21, 22, 23, 24, 25, 26, 27, 28, 29, 30, 31, 32, 33, 34, 35, 36] (by decide +kernel) (by decide +kernel)
set_option maxRecDepth 20000 in
theorem gX4_free_X4_granted : GoodIn wsX4_free (wsV RX4 95 RX4 yX4_granted wsX4_granted) := goodIn_app (goodIn_of _ (by decide +kernel)) ggX4_free_X4_granted
theorem dX4_free_0 : decode cX4_free 0 = .ok (.iconst 0, 1) := by decide +kernel
theorem dX4_free_1 : decode cX4_free 1 = .ok (.aload_n 0, 1) := by decide +kernel
theorem dX4_free_2 : decode cX4_free 2 = .ok (.iconst 0, 1) := by decide +kernel
theorem dX4_free_3 : decode cX4_free 3 = .ok (.invokevirtual 101, 3) := by decide +kernel
theorem dX4_free_6 : decode cX4_free 6 = .ok (.aload_n 0, 1) := by decide +kernel
theorem dX4_free_7 : decode cX4_free 7 = .ok (.invokevirtual 95, 3) := by decide +kernel
theorem dX4_free_10 : decode cX4_free 10 = .ok (.isub, 1) := by decide +kernel
theorem dX4_free_11 : decode cX4_free 11 = .ok (.invokestatic 98, 3) := by decide +kernel
theorem dX4_free_14 : decode cX4_free 14 = .ok (.ireturn, 1) := by decide +kernel
set_option maxRecDepth 20000 in
theorem ggX4_surplus_X1_surplus : GoodIn wsX4_surplus wsX1_surplus := goodIn_r _ [6, 7, 8, 9, 17, 18, 19, 20, 21, 22, 23, 24, 25, 26, 27, 28, 29] (by decide +kernel) (by decide +kernel)
set_option maxRecDepth 20000 in
theorem gX4_surplus_X1_surplus : GoodIn wsX4_surplus (wsV RX4 111 RX1 yX1_surplus wsX1_surplus) := goodIn_app (goodIn_of _ (by decide +kernel)) ggX4_surplus_X1_surplus
theorem dX4_surplus_0 : decode cX4_surplus 0 = .ok (.iconst 0, 1) := by decide +kernel
theorem dX4_surplus_1 : decode cX4_surplus 1 = .ok (.istore_n 1, 1) := by decide +kernel
theorem dX4_surplus_2 : decode cX4_surplus 2 = .ok (.aload_n 0, 1) := by decide +kernel
theorem dX4_surplus_3 : decode cX4_surplus 3 = .ok (.getfield 25, 3) := by decide +kernel
theorem dX4_surplus_6 : decode cX4_surplus 6 = .ok (.astore_n 2, 1) := by decide +kernel
theorem dX4_surplus_7 : decode cX4_surplus 7 = .ok (.aload_n 2, 1) := by decide +kernel
theorem dX4_surplus_8 : decode cX4_surplus 8 = .ok (.arraylength, 1) := by decide +kernel
theorem dX4_surplus_9 : decode cX4_surplus 9 = .ok (.istore_n 3, 1) := by decide +kernel
theorem dX4_surplus_10 : decode cX4_surplus 10 = .ok (.iconst 0, 1) := by decide +kernel
theorem dX4_surplus_11 : decode cX4_surplus 11 = .ok (.istore 4, 2) := by decide +kernel
theorem dX4_surplus_13 : decode cX4_surplus 13 = .ok (.iload 4, 2) := by decide +kernel
theorem dX4_surplus_15 : decode cX4_surplus 15 = .ok (.iload_n 3, 1) := by decide +kernel
theorem dX4_surplus_16 : decode cX4_surplus 16 = .ok (.if_icmp .ge 23, 3) := by decide +kernel
theorem dX4_surplus_19 : decode cX4_surplus 19 = .ok (.aload_n 2, 1) := by decide +kernel
theorem dX4_surplus_20 : decode cX4_surplus 20 = .ok (.iload 4, 2) := by decide +kernel
theorem dX4_surplus_22 : decode cX4_surplus 22 = .ok (.aaload, 1) := by decide +kernel
theorem dX4_surplus_23 : decode cX4_surplus 23 = .ok (.astore 5, 2) := by decide +kernel
theorem dX4_surplus_25 : decode cX4_surplus 25 = .ok (.iload_n 1, 1) := by decide +kernel
theorem dX4_surplus_26 : decode cX4_surplus 26 = .ok (.aload 5, 2) := by decide +kernel
theorem dX4_surplus_28 : decode cX4_surplus 28 = .ok (.invokevirtual 111, 3) := by decide +kernel
theorem dX4_surplus_31 : decode cX4_surplus 31 = .ok (.iadd, 1) := by decide +kernel
theorem dX4_surplus_32 : decode cX4_surplus 32 = .ok (.istore_n 1, 1) := by decide +kernel
theorem dX4_surplus_33 : decode cX4_surplus 33 = .ok (.iinc 4 1, 3) := by decide +kernel
theorem dX4_surplus_36 : decode cX4_surplus 36 = .ok (.goto (-23), 3) := by decide +kernel
theorem dX4_surplus_39 : decode cX4_surplus 39 = .ok (.iload_n 1, 1) := by decide +kernel
theorem dX4_surplus_40 : decode cX4_surplus 40 = .ok (.ireturn, 1) := by decide +kernel
set_option maxRecDepth 20000 in
theorem ggX4_spilling_X1_spills : GoodIn wsX4_spilling wsX1_spills := goodIn_r _ [6, 7, 8, 9, 10, 11, 12, 13, 14, 15, 16, 24, 25, 26, 27, 28, 29, 30, 31, 32, 33, 34, 35, 36] (by decide +kernel) (by decide +kernel)
set_option maxRecDepth 20000 in
theorem gX4_spilling_X1_spills : GoodIn wsX4_spilling (wsV RX4 144 RX1 yX1_spills wsX1_spills) := goodIn_app (goodIn_of _ (by decide +kernel)) ggX4_spilling_X1_spills
theorem dX4_spilling_0 : decode cX4_spilling 0 = .ok (.iconst 0, 1) := by decide +kernel
theorem dX4_spilling_1 : decode cX4_spilling 1 = .ok (.istore_n 1, 1) := by decide +kernel
theorem dX4_spilling_2 : decode cX4_spilling 2 = .ok (.aload_n 0, 1) := by decide +kernel
theorem dX4_spilling_3 : decode cX4_spilling 3 = .ok (.getfield 25, 3) := by decide +kernel
theorem dX4_spilling_6 : decode cX4_spilling 6 = .ok (.astore_n 2, 1) := by decide +kernel
theorem dX4_spilling_7 : decode cX4_spilling 7 = .ok (.aload_n 2, 1) := by decide +kernel
theorem dX4_spilling_8 : decode cX4_spilling 8 = .ok (.arraylength, 1) := by decide +kernel
theorem dX4_spilling_9 : decode cX4_spilling 9 = .ok (.istore_n 3, 1) := by decide +kernel
theorem dX4_spilling_10 : decode cX4_spilling 10 = .ok (.iconst 0, 1) := by decide +kernel
theorem dX4_spilling_11 : decode cX4_spilling 11 = .ok (.istore 4, 2) := by decide +kernel
theorem dX4_spilling_13 : decode cX4_spilling 13 = .ok (.iload 4, 2) := by decide +kernel
theorem dX4_spilling_15 : decode cX4_spilling 15 = .ok (.iload_n 3, 1) := by decide +kernel
theorem dX4_spilling_16 : decode cX4_spilling 16 = .ok (.if_icmp .ge 31, 3) := by decide +kernel
theorem dX4_spilling_19 : decode cX4_spilling 19 = .ok (.aload_n 2, 1) := by decide +kernel
theorem dX4_spilling_20 : decode cX4_spilling 20 = .ok (.iload 4, 2) := by decide +kernel
theorem dX4_spilling_22 : decode cX4_spilling 22 = .ok (.aaload, 1) := by decide +kernel
theorem dX4_spilling_23 : decode cX4_spilling 23 = .ok (.astore 5, 2) := by decide +kernel
theorem dX4_spilling_25 : decode cX4_spilling 25 = .ok (.iload_n 1, 1) := by decide +kernel
theorem dX4_spilling_26 : decode cX4_spilling 26 = .ok (.aload 5, 2) := by decide +kernel
theorem dX4_spilling_28 : decode cX4_spilling 28 = .ok (.invokevirtual 144, 3) := by decide +kernel
theorem dX4_spilling_31 : decode cX4_spilling 31 = .ok (.ifCond .eq 7, 3) := by decide +kernel
theorem dX4_spilling_34 : decode cX4_spilling 34 = .ok (.iconst 1, 1) := by decide +kernel
theorem dX4_spilling_35 : decode cX4_spilling 35 = .ok (.goto 4, 3) := by decide +kernel
theorem dX4_spilling_38 : decode cX4_spilling 38 = .ok (.iconst 0, 1) := by decide +kernel
theorem dX4_spilling_39 : decode cX4_spilling 39 = .ok (.iadd, 1) := by decide +kernel
theorem dX4_spilling_40 : decode cX4_spilling 40 = .ok (.istore_n 1, 1) := by decide +kernel
theorem dX4_spilling_41 : decode cX4_spilling 41 = .ok (.iinc 4 1, 3) := by decide +kernel
theorem dX4_spilling_44 : decode cX4_spilling 44 = .ok (.goto (-31), 3) := by decide +kernel
theorem dX4_spilling_47 : decode cX4_spilling 47 = .ok (.iload_n 1, 1) := by decide +kernel
theorem dX4_spilling_48 : decode cX4_spilling 48 = .ok (.ireturn, 1) := by decide +kernel
set_option maxRecDepth 20000 in
theorem ggX4_joinsIn_X1_isIn : GoodIn wsX4_joinsIn wsX1_isIn := goodIn_r _ [6, 7, 15, 16, 17, 18, 19, 20, 21, 22] (by decide +kernel) (by decide +kernel)
set_option maxRecDepth 20000 in
theorem gX4_joinsIn_X1_isIn : GoodIn wsX4_joinsIn (wsV RX4 61 RX1 yX1_isIn wsX1_isIn) := goodIn_app (goodIn_of _ (by decide +kernel)) ggX4_joinsIn_X1_isIn
theorem dX4_joinsIn_0 : decode cX4_joinsIn 0 = .ok (.iconst 0, 1) := by decide +kernel
theorem dX4_joinsIn_1 : decode cX4_joinsIn 1 = .ok (.istore_n 2, 1) := by decide +kernel
theorem dX4_joinsIn_2 : decode cX4_joinsIn 2 = .ok (.aload_n 0, 1) := by decide +kernel
theorem dX4_joinsIn_3 : decode cX4_joinsIn 3 = .ok (.getfield 25, 3) := by decide +kernel
theorem dX4_joinsIn_6 : decode cX4_joinsIn 6 = .ok (.astore_n 3, 1) := by decide +kernel
theorem dX4_joinsIn_7 : decode cX4_joinsIn 7 = .ok (.aload_n 3, 1) := by decide +kernel
theorem dX4_joinsIn_8 : decode cX4_joinsIn 8 = .ok (.arraylength, 1) := by decide +kernel
theorem dX4_joinsIn_9 : decode cX4_joinsIn 9 = .ok (.istore 4, 2) := by decide +kernel
theorem dX4_joinsIn_11 : decode cX4_joinsIn 11 = .ok (.iconst 0, 1) := by decide +kernel
theorem dX4_joinsIn_12 : decode cX4_joinsIn 12 = .ok (.istore 5, 2) := by decide +kernel
theorem dX4_joinsIn_14 : decode cX4_joinsIn 14 = .ok (.iload 5, 2) := by decide +kernel
theorem dX4_joinsIn_16 : decode cX4_joinsIn 16 = .ok (.iload 4, 2) := by decide +kernel
theorem dX4_joinsIn_18 : decode cX4_joinsIn 18 = .ok (.if_icmp .ge 32, 3) := by decide +kernel
theorem dX4_joinsIn_21 : decode cX4_joinsIn 21 = .ok (.aload_n 3, 1) := by decide +kernel
theorem dX4_joinsIn_22 : decode cX4_joinsIn 22 = .ok (.iload 5, 2) := by decide +kernel
theorem dX4_joinsIn_24 : decode cX4_joinsIn 24 = .ok (.aaload, 1) := by decide +kernel
theorem dX4_joinsIn_25 : decode cX4_joinsIn 25 = .ok (.astore 6, 2) := by decide +kernel
theorem dX4_joinsIn_27 : decode cX4_joinsIn 27 = .ok (.iload_n 2, 1) := by decide +kernel
theorem dX4_joinsIn_28 : decode cX4_joinsIn 28 = .ok (.aload 6, 2) := by decide +kernel
theorem dX4_joinsIn_30 : decode cX4_joinsIn 30 = .ok (.iload_n 1, 1) := by decide +kernel
theorem dX4_joinsIn_31 : decode cX4_joinsIn 31 = .ok (.invokevirtual 61, 3) := by decide +kernel
theorem dX4_joinsIn_34 : decode cX4_joinsIn 34 = .ok (.ifCond .eq 7, 3) := by decide +kernel
theorem dX4_joinsIn_37 : decode cX4_joinsIn 37 = .ok (.iconst 1, 1) := by decide +kernel
theorem dX4_joinsIn_38 : decode cX4_joinsIn 38 = .ok (.goto 4, 3) := by decide +kernel
theorem dX4_joinsIn_41 : decode cX4_joinsIn 41 = .ok (.iconst 0, 1) := by decide +kernel
theorem dX4_joinsIn_42 : decode cX4_joinsIn 42 = .ok (.iadd, 1) := by decide +kernel
theorem dX4_joinsIn_43 : decode cX4_joinsIn 43 = .ok (.istore_n 2, 1) := by decide +kernel
theorem dX4_joinsIn_44 : decode cX4_joinsIn 44 = .ok (.iinc 5 1, 3) := by decide +kernel
theorem dX4_joinsIn_47 : decode cX4_joinsIn 47 = .ok (.goto (-33), 3) := by decide +kernel
theorem dX4_joinsIn_50 : decode cX4_joinsIn 50 = .ok (.iload_n 2, 1) := by decide +kernel
theorem dX4_joinsIn_51 : decode cX4_joinsIn 51 = .ok (.ireturn, 1) := by decide +kernel
theorem dX4_canTell_0 : decode cX4_canTell 0 = .ok (.iload_n 0, 1) := by decide +kernel
theorem dX4_canTell_1 : decode cX4_canTell 1 = .ok (.ifCond .lt 13, 3) := by decide +kernel
theorem dX4_canTell_4 : decode cX4_canTell 4 = .ok (.iload_n 0, 1) := by decide +kernel
theorem dX4_canTell_5 : decode cX4_canTell 5 = .ok (.bipush 15, 2) := by decide +kernel
theorem dX4_canTell_7 : decode cX4_canTell 7 = .ok (.if_icmp .gt 7, 3) := by decide +kernel
theorem dX4_canTell_10 : decode cX4_canTell 10 = .ok (.iconst 1, 1) := by decide +kernel
theorem dX4_canTell_11 : decode cX4_canTell 11 = .ok (.goto 4, 3) := by decide +kernel
theorem dX4_canTell_14 : decode cX4_canTell 14 = .ok (.iconst 0, 1) := by decide +kernel
theorem dX4_canTell_15 : decode cX4_canTell 15 = .ok (.ireturn, 1) := by decide +kernel
set_option maxRecDepth 20000 in
theorem ggX4_tell_X4_joinsIn : GoodIn wsX4_tell wsX4_joinsIn := goodIn_r _ [10, 11, 12, 13, 14, 15, 16, 17, 56, 57, 58, 59, 60, 61, 62, 63, 64, 65, 66, 67, 68, 69, 70] (by decide +kernel) (by decide +kernel)
set_option maxRecDepth 20000 in
theorem gX4_tell_X4_joinsIn : GoodIn wsX4_tell (wsV RX4 147 RX4 yX4_joinsIn wsX4_joinsIn) := goodIn_app (goodIn_of _ (by decide +kernel)) ggX4_tell_X4_joinsIn
set_option maxRecDepth 20000 in
theorem ggX4_tell_X4_granted : GoodIn wsX4_tell wsX4_granted := goodIn_r _ [21, 11, 22, 23, 24, 15, 25, 26, 56, 57, 58, 59, 60, 61, 62, 63, 64, 65, 66, 67, 68, 69, 70] (by decide +kernel) (by decide +kernel)
set_option maxRecDepth 20000 in
theorem gX4_tell_X4_granted : GoodIn wsX4_tell (wsV RX4 95 RX4 yX4_granted wsX4_granted) := goodIn_app (goodIn_of _ (by decide +kernel)) ggX4_tell_X4_granted
set_option maxRecDepth 20000 in
theorem ggX4_tell_X4_free : GoodIn wsX4_tell wsX4_free := goodIn_r _ [30, 31, 32, 33, 34, 35, 36, 37, 9, 38, 39, 18, 19, 20, 21, 11, 22, 23, 24, 15, 25, 26, 56, 57, 58, 59, 60, 61, 62, 63, 64, 65, 66, 67, 68, 69, 70] (by decide +kernel) (by decide +kernel)
set_option maxRecDepth 20000 in
theorem gX4_tell_X4_free : GoodIn wsX4_tell (wsV RX4 72 RX4 yX4_free wsX4_free) := goodIn_app (goodIn_of _ (by decide +kernel)) ggX4_tell_X4_free
set_option maxRecDepth 20000 in
theorem ggX4_tell_X4_spilling : GoodIn wsX4_tell wsX4_spilling := goodIn_r _ [43, 11, 44, 45, 46, 15, 47, 17, 48, 26, 49, 50, 51, 52, 53, 54, 55, 56, 57, 58, 59, 60, 61, 62, 63, 64, 65, 66, 67, 68, 69, 70, 71, 72, 73, 74, 75] (by decide +kernel) (by decide +kernel)
set_option maxRecDepth 20000 in
theorem gX4_tell_X4_spilling : GoodIn wsX4_tell (wsV RX4 150 RX4 yX4_spilling wsX4_spilling) := goodIn_app (goodIn_of _ (by decide +kernel)) ggX4_tell_X4_spilling
set_option maxRecDepth 20000 in
theorem ggX4_tell_X4_setting : GoodIn wsX4_tell wsX4_setting := goodIn_r _ [38, 39, 56, 57, 58, 59, 60, 61, 62] (by decide +kernel) (by decide +kernel)
set_option maxRecDepth 20000 in
theorem gX4_tell_X4_setting : GoodIn wsX4_tell (wsV RX4 101 RX4 yX4_setting wsX4_setting) := goodIn_app (goodIn_of _ (by decide +kernel)) ggX4_tell_X4_setting
theorem dX4_tell_0 : decode cX4_tell 0 = .ok (.iload_n 1, 1) := by decide +kernel
theorem dX4_tell_1 : decode cX4_tell 1 = .ok (.tableswitch 111 0 11 #[63, 68, 68, 68, 68, 76, 81, 86, 91, 96, 101, 106], 63) := by decide +kernel
theorem dX4_tell_64 : decode cX4_tell 64 = .ok (.aload_n 0, 1) := by decide +kernel
theorem dX4_tell_65 : decode cX4_tell 65 = .ok (.getfield 41, 3) := by decide +kernel
theorem dX4_tell_68 : decode cX4_tell 68 = .ok (.ireturn, 1) := by decide +kernel
theorem dX4_tell_69 : decode cX4_tell 69 = .ok (.aload_n 0, 1) := by decide +kernel
theorem dX4_tell_70 : decode cX4_tell 70 = .ok (.iload_n 1, 1) := by decide +kernel
theorem dX4_tell_71 : decode cX4_tell 71 = .ok (.iconst 1, 1) := by decide +kernel
theorem dX4_tell_72 : decode cX4_tell 72 = .ok (.isub, 1) := by decide +kernel
theorem dX4_tell_73 : decode cX4_tell 73 = .ok (.invokevirtual 147, 3) := by decide +kernel
theorem dX4_tell_76 : decode cX4_tell 76 = .ok (.ireturn, 1) := by decide +kernel
theorem dX4_tell_77 : decode cX4_tell 77 = .ok (.aload_n 0, 1) := by decide +kernel
theorem dX4_tell_78 : decode cX4_tell 78 = .ok (.invokevirtual 95, 3) := by decide +kernel
theorem dX4_tell_81 : decode cX4_tell 81 = .ok (.ireturn, 1) := by decide +kernel
theorem dX4_tell_82 : decode cX4_tell 82 = .ok (.aload_n 0, 1) := by decide +kernel
theorem dX4_tell_83 : decode cX4_tell 83 = .ok (.invokevirtual 72, 3) := by decide +kernel
theorem dX4_tell_86 : decode cX4_tell 86 = .ok (.ireturn, 1) := by decide +kernel
theorem dX4_tell_87 : decode cX4_tell 87 = .ok (.aload_n 0, 1) := by decide +kernel
theorem dX4_tell_88 : decode cX4_tell 88 = .ok (.getfield 92, 3) := by decide +kernel
theorem dX4_tell_91 : decode cX4_tell 91 = .ok (.ireturn, 1) := by decide +kernel
theorem dX4_tell_92 : decode cX4_tell 92 = .ok (.aload_n 0, 1) := by decide +kernel
theorem dX4_tell_93 : decode cX4_tell 93 = .ok (.getfield 138, 3) := by decide +kernel
theorem dX4_tell_96 : decode cX4_tell 96 = .ok (.ireturn, 1) := by decide +kernel
theorem dX4_tell_97 : decode cX4_tell 97 = .ok (.aload_n 0, 1) := by decide +kernel
theorem dX4_tell_98 : decode cX4_tell 98 = .ok (.getfield 125, 3) := by decide +kernel
theorem dX4_tell_101 : decode cX4_tell 101 = .ok (.ireturn, 1) := by decide +kernel
theorem dX4_tell_102 : decode cX4_tell 102 = .ok (.aload_n 0, 1) := by decide +kernel
theorem dX4_tell_103 : decode cX4_tell 103 = .ok (.getfield 115, 3) := by decide +kernel
theorem dX4_tell_106 : decode cX4_tell 106 = .ok (.ireturn, 1) := by decide +kernel
theorem dX4_tell_107 : decode cX4_tell 107 = .ok (.aload_n 0, 1) := by decide +kernel
theorem dX4_tell_108 : decode cX4_tell 108 = .ok (.invokevirtual 150, 3) := by decide +kernel
theorem dX4_tell_111 : decode cX4_tell 111 = .ok (.ireturn, 1) := by decide +kernel
theorem dX4_tell_112 : decode cX4_tell 112 = .ok (.aload_n 0, 1) := by decide +kernel
theorem dX4_tell_113 : decode cX4_tell 113 = .ok (.iload_n 1, 1) := by decide +kernel
theorem dX4_tell_114 : decode cX4_tell 114 = .ok (.bipush 12, 2) := by decide +kernel
theorem dX4_tell_116 : decode cX4_tell 116 = .ok (.isub, 1) := by decide +kernel
theorem dX4_tell_117 : decode cX4_tell 117 = .ok (.invokevirtual 101, 3) := by decide +kernel
theorem dX4_tell_120 : decode cX4_tell 120 = .ok (.ireturn, 1) := by decide +kernel
set_option maxRecDepth 20000 in
theorem ggX4_copyFrom_X1_copyFrom : GoodIn wsX4_copyFrom wsX1_copyFrom := goodIn_r _ [12, 13, 14, 15, 16, 17, 18, 19, 20, 21, 22, 23, 24, 25, 26, 27, 28, 29, 37, 38, 39, 40, 41, 42, 43, 44, 45, 46, 47, 48, 49] (by decide +kernel) (by decide +kernel)
set_option maxRecDepth 20000 in
theorem gX4_copyFrom_X1_copyFrom : GoodIn wsX4_copyFrom (wsV RX4 153 RX1 yX1_copyFrom wsX1_copyFrom) := goodIn_app (goodIn_of _ (by decide +kernel)) ggX4_copyFrom_X1_copyFrom
theorem dX4_copyFrom_0 : decode cX4_copyFrom 0 = .ok (.iconst 0, 1) := by decide +kernel
theorem dX4_copyFrom_1 : decode cX4_copyFrom 1 = .ok (.istore_n 2, 1) := by decide +kernel
theorem dX4_copyFrom_2 : decode cX4_copyFrom 2 = .ok (.iload_n 2, 1) := by decide +kernel
theorem dX4_copyFrom_3 : decode cX4_copyFrom 3 = .ok (.aload_n 0, 1) := by decide +kernel
theorem dX4_copyFrom_4 : decode cX4_copyFrom 4 = .ok (.getfield 20, 3) := by decide +kernel
theorem dX4_copyFrom_7 : decode cX4_copyFrom 7 = .ok (.arraylength, 1) := by decide +kernel
theorem dX4_copyFrom_8 : decode cX4_copyFrom 8 = .ok (.if_icmp .ge 30, 3) := by decide +kernel
theorem dX4_copyFrom_11 : decode cX4_copyFrom 11 = .ok (.iload_n 2, 1) := by decide +kernel
theorem dX4_copyFrom_12 : decode cX4_copyFrom 12 = .ok (.aload_n 1, 1) := by decide +kernel
theorem dX4_copyFrom_13 : decode cX4_copyFrom 13 = .ok (.getfield 20, 3) := by decide +kernel
theorem dX4_copyFrom_16 : decode cX4_copyFrom 16 = .ok (.arraylength, 1) := by decide +kernel
theorem dX4_copyFrom_17 : decode cX4_copyFrom 17 = .ok (.if_icmp .ge 21, 3) := by decide +kernel
theorem dX4_copyFrom_20 : decode cX4_copyFrom 20 = .ok (.aload_n 0, 1) := by decide +kernel
theorem dX4_copyFrom_21 : decode cX4_copyFrom 21 = .ok (.getfield 20, 3) := by decide +kernel
theorem dX4_copyFrom_24 : decode cX4_copyFrom 24 = .ok (.iload_n 2, 1) := by decide +kernel
theorem dX4_copyFrom_25 : decode cX4_copyFrom 25 = .ok (.aload_n 1, 1) := by decide +kernel
theorem dX4_copyFrom_26 : decode cX4_copyFrom 26 = .ok (.getfield 20, 3) := by decide +kernel
theorem dX4_copyFrom_29 : decode cX4_copyFrom 29 = .ok (.iload_n 2, 1) := by decide +kernel
theorem dX4_copyFrom_30 : decode cX4_copyFrom 30 = .ok (.iaload, 1) := by decide +kernel
theorem dX4_copyFrom_31 : decode cX4_copyFrom 31 = .ok (.iastore, 1) := by decide +kernel
theorem dX4_copyFrom_32 : decode cX4_copyFrom 32 = .ok (.iinc 2 1, 3) := by decide +kernel
theorem dX4_copyFrom_35 : decode cX4_copyFrom 35 = .ok (.goto (-33), 3) := by decide +kernel
theorem dX4_copyFrom_38 : decode cX4_copyFrom 38 = .ok (.iconst 0, 1) := by decide +kernel
theorem dX4_copyFrom_39 : decode cX4_copyFrom 39 = .ok (.istore_n 2, 1) := by decide +kernel
theorem dX4_copyFrom_40 : decode cX4_copyFrom 40 = .ok (.iload_n 2, 1) := by decide +kernel
theorem dX4_copyFrom_41 : decode cX4_copyFrom 41 = .ok (.aload_n 0, 1) := by decide +kernel
theorem dX4_copyFrom_42 : decode cX4_copyFrom 42 = .ok (.getfield 25, 3) := by decide +kernel
theorem dX4_copyFrom_45 : decode cX4_copyFrom 45 = .ok (.arraylength, 1) := by decide +kernel
theorem dX4_copyFrom_46 : decode cX4_copyFrom 46 = .ok (.if_icmp .ge 33, 3) := by decide +kernel
theorem dX4_copyFrom_49 : decode cX4_copyFrom 49 = .ok (.iload_n 2, 1) := by decide +kernel
theorem dX4_copyFrom_50 : decode cX4_copyFrom 50 = .ok (.aload_n 1, 1) := by decide +kernel
theorem dX4_copyFrom_51 : decode cX4_copyFrom 51 = .ok (.getfield 25, 3) := by decide +kernel
theorem dX4_copyFrom_54 : decode cX4_copyFrom 54 = .ok (.arraylength, 1) := by decide +kernel
theorem dX4_copyFrom_55 : decode cX4_copyFrom 55 = .ok (.if_icmp .ge 24, 3) := by decide +kernel
theorem dX4_copyFrom_58 : decode cX4_copyFrom 58 = .ok (.aload_n 0, 1) := by decide +kernel
theorem dX4_copyFrom_59 : decode cX4_copyFrom 59 = .ok (.getfield 25, 3) := by decide +kernel
theorem dX4_copyFrom_62 : decode cX4_copyFrom 62 = .ok (.iload_n 2, 1) := by decide +kernel
theorem dX4_copyFrom_63 : decode cX4_copyFrom 63 = .ok (.aaload, 1) := by decide +kernel
theorem dX4_copyFrom_64 : decode cX4_copyFrom 64 = .ok (.aload_n 1, 1) := by decide +kernel
theorem dX4_copyFrom_65 : decode cX4_copyFrom 65 = .ok (.getfield 25, 3) := by decide +kernel
theorem dX4_copyFrom_68 : decode cX4_copyFrom 68 = .ok (.iload_n 2, 1) := by decide +kernel
theorem dX4_copyFrom_69 : decode cX4_copyFrom 69 = .ok (.aaload, 1) := by decide +kernel
theorem dX4_copyFrom_70 : decode cX4_copyFrom 70 = .ok (.invokevirtual 153, 3) := by decide +kernel
theorem dX4_copyFrom_73 : decode cX4_copyFrom 73 = .ok (.iinc 2 1, 3) := by decide +kernel
theorem dX4_copyFrom_76 : decode cX4_copyFrom 76 = .ok (.goto (-36), 3) := by decide +kernel
theorem dX4_copyFrom_79 : decode cX4_copyFrom 79 = .ok (.aload_n 0, 1) := by decide +kernel
theorem dX4_copyFrom_80 : decode cX4_copyFrom 80 = .ok (.aload_n 1, 1) := by decide +kernel
theorem dX4_copyFrom_81 : decode cX4_copyFrom 81 = .ok (.getfield 41, 3) := by decide +kernel
theorem dX4_copyFrom_84 : decode cX4_copyFrom 84 = .ok (.putfield 41, 3) := by decide +kernel
theorem dX4_copyFrom_87 : decode cX4_copyFrom 87 = .ok (.aload_n 0, 1) := by decide +kernel
theorem dX4_copyFrom_88 : decode cX4_copyFrom 88 = .ok (.aload_n 1, 1) := by decide +kernel
theorem dX4_copyFrom_89 : decode cX4_copyFrom 89 = .ok (.getfield 92, 3) := by decide +kernel
theorem dX4_copyFrom_92 : decode cX4_copyFrom 92 = .ok (.putfield 92, 3) := by decide +kernel
theorem dX4_copyFrom_95 : decode cX4_copyFrom 95 = .ok (.aload_n 0, 1) := by decide +kernel
theorem dX4_copyFrom_96 : decode cX4_copyFrom 96 = .ok (.aload_n 1, 1) := by decide +kernel
theorem dX4_copyFrom_97 : decode cX4_copyFrom 97 = .ok (.getfield 138, 3) := by decide +kernel
theorem dX4_copyFrom_100 : decode cX4_copyFrom 100 = .ok (.putfield 138, 3) := by decide +kernel
theorem dX4_copyFrom_103 : decode cX4_copyFrom 103 = .ok (.aload_n 0, 1) := by decide +kernel
theorem dX4_copyFrom_104 : decode cX4_copyFrom 104 = .ok (.aload_n 1, 1) := by decide +kernel
theorem dX4_copyFrom_105 : decode cX4_copyFrom 105 = .ok (.getfield 125, 3) := by decide +kernel
theorem dX4_copyFrom_108 : decode cX4_copyFrom 108 = .ok (.putfield 125, 3) := by decide +kernel
theorem dX4_copyFrom_111 : decode cX4_copyFrom 111 = .ok (.aload_n 0, 1) := by decide +kernel
theorem dX4_copyFrom_112 : decode cX4_copyFrom 112 = .ok (.aload_n 1, 1) := by decide +kernel
theorem dX4_copyFrom_113 : decode cX4_copyFrom 113 = .ok (.getfield 115, 3) := by decide +kernel
theorem dX4_copyFrom_116 : decode cX4_copyFrom 116 = .ok (.putfield 115, 3) := by decide +kernel
theorem dX4_copyFrom_119 : decode cX4_copyFrom 119 = .ok (.return_, 1) := by decide +kernel
end
section
def rmX4_setting : Room := { frames := 0, cells := 0, slots := 0, locals := 0 }
def gX4_setting (P : PS) (a1 : Int32) : Int32 := (if a1 < 0 then 0 else (if (nI 4) ≤ a1 then 0 else (P.1 a1.toNatClampNeg)))
set_option maxHeartbeats 4000000 in
set_option maxRecDepth 100000 in
theorem mX4_setting (l : Launch) (D : va_G) (ck : Nat → ClassId) (pa : Nat → Nat) (P : PS) (a1 : Int32) : xMi l yX4_setting wsX4_setting rmX4_setting D ck [.ref (pa 0), .int a1] (poolW ck pa P) (poolW ck pa P) (gX4_setting P a1) 0 0 := by
  refine xMet (by decide) rfl (Nat.le_of_ble_eq_true rfl) ?_
  intro zp ze s zm zb zt zc hx hb hr hml hown hts hlk hnm hN hK hP hD ls hl
  have hown : s.vm.findClass RX4 = some zm.cls := hown
  have hl : lv_has ls 2 [(0, .ref (pa 0)), (1, .int a1)] := hl
  have hS : va_S (va_A (poolW ck pa P) s.heap.size) s.heap s.heap [] := va_S.rf
  have hA : ∀ zq : Nat, s.heap.size ≤ zq → va_A (poolW ck pa P) s.heap.size zq := fun zq h => Or.inr h
  have hinX4 : ∀ w ∈ u_ws RX4 TX4 7, w ∈ wsX4_setting := by decide +kernel
  refine lv_iload_n hx hb dX4_setting_0 rfl (lv_at hl 1 rfl) ?_
  refine lv_if_lt (tgt := 22) hx hb dX4_setting_1 (by decide) (fun c_1 => ?_) (fun c_1 => ?_)
  · --t
    refine lv_iconst (v := 0) hx hb dX4_setting_22 (by decide) ?_
    exact xiret hx hb hr hlk hP hD hS (show gX4_setting P a1 = 0 from (Eq.trans (if_pos c_1) rfl)).symm rfl dX4_setting_23
  · --f
    refine lv_iload_n hx hb dX4_setting_4 rfl (lv_at hl 1 rfl) ?_
    refine lv_aload_n hx hb dX4_setting_5 rfl (lv_at hl 0 rfl) ?_
    refine va_get (D := D) (ci := 4) (v := .ref (pa 1)) (C := RX4) (T := TX4) (N := 7) hx hb hts hinX4 hown hK hP 0 rfl rfl 0 (by decide) (hts (.fieldLink RX4 20 "JoinGrants$Pool" "settings" "[I") (List.mem_of_getElem? (i := 1) rfl)) (fun _ h9 => h9) rfl dX4_setting_6 ?_
    refine va_alen hx hb hK hP 1 0 rfl rfl (v := (nI 4)) rfl dX4_setting_9 ?_
    refine lv_icmp_ge (tgt := 22) hx hb dX4_setting_10 (by decide) (fun c_10 => ?_) (fun c_10 => ?_)
    · --t
      refine lv_iconst (v := 0) hx hb dX4_setting_22 (by decide) ?_
      exact xiret hx hb hr hlk hP hD hS (show gX4_setting P a1 = 0 from (Eq.trans (if_neg c_1) (Eq.trans (if_pos c_10) rfl))).symm rfl dX4_setting_23
    · --f
      refine lv_aload_n hx hb dX4_setting_13 rfl (lv_at hl 0 rfl) ?_
      refine va_get (D := D) (ci := 4) (v := .ref (pa 1)) (C := RX4) (T := TX4) (N := 7) hx hb hts hinX4 hown hK hP 0 rfl rfl 0 (by decide) (hts (.fieldLink RX4 20 "JoinGrants$Pool" "settings" "[I") (List.mem_of_getElem? (i := 1) rfl)) (fun _ h9 => h9) rfl dX4_setting_14 ?_
      refine lv_iload_n hx hb dX4_setting_17 rfl (lv_at hl 1 rfl) ?_
      refine va_iald hx hb hK hP 1 0 rfl rfl (xin_g (by decide) c_1 c_10) dX4_setting_18 ?_
      refine lv_goto (tgt := 23) hx hb dX4_setting_19 (by decide) ?_
      exact xiret hx hb hr hlk hP hD hS (show gX4_setting P a1 = (P.1 a1.toNatClampNeg) from (Eq.trans (if_neg c_1) (Eq.trans (if_neg c_10) rfl))).symm rfl dX4_setting_23

def rmX4_room : Room := { frames := 0, cells := 0, slots := 0, locals := 0 }
def gX4_room (P : PS) : Int32 := ((nI 16) - (P.2.1 0))
set_option maxHeartbeats 4000000 in
set_option maxRecDepth 100000 in
theorem mX4_room (l : Launch) (D : va_G) (ck : Nat → ClassId) (pa : Nat → Nat) (P : PS) : xMi l yX4_room wsX4_room rmX4_room D ck [.ref (pa 0)] (poolW ck pa P) (poolW ck pa P) (gX4_room P) 0 0 := by
  refine xMet (by decide) rfl (Nat.le_of_ble_eq_true rfl) ?_
  intro zp ze s zm zb zt zc hx hb hr hml hown hts hlk hnm hN hK hP hD ls hl
  have hown : s.vm.findClass RX4 = some zm.cls := hown
  have hl : lv_has ls 1 [(0, .ref (pa 0))] := hl
  have hS : va_S (va_A (poolW ck pa P) s.heap.size) s.heap s.heap [] := va_S.rf
  have hA : ∀ zq : Nat, s.heap.size ≤ zq → va_A (poolW ck pa P) s.heap.size zq := fun zq h => Or.inr h
  have hinX4 : ∀ w ∈ u_ws RX4 TX4 7, w ∈ wsX4_room := by decide +kernel
  refine lv_aload_n hx hb dX4_room_0 rfl (lv_at hl 0 rfl) ?_
  refine va_get (D := D) (ci := 4) (v := .ref (pa 2)) (C := RX4) (T := TX4) (N := 7) hx hb hts hinX4 hown hK hP 0 rfl rfl 1 (by decide) (hts (.fieldLink RX4 25 "JoinGrants$Pool" "joins" "[LJoinGrants$Join;") (List.mem_of_getElem? (i := 1) rfl)) (fun _ h9 => h9) rfl dX4_room_1 ?_
  refine va_alen hx hb hK hP 2 2 rfl rfl (v := (nI 16)) rfl dX4_room_4 ?_
  refine lv_aload_n hx hb dX4_room_5 rfl (lv_at hl 0 rfl) ?_
  refine va_get (D := D) (ci := 4) (v := .int (P.2.1 0)) (C := RX4) (T := TX4) (N := 7) hx hb hts hinX4 hown hK hP 0 rfl rfl 2 (by decide) (hts (.fieldLink RX4 41 "JoinGrants$Pool" "joinsSoFar" "I") (List.mem_of_getElem? (i := 2) rfl)) (fun _ h9 => h9) rfl dX4_room_6 ?_
  refine lv_isub hx hb dX4_room_9 ?_
  exact xiret hx hb hr hlk hP hD hS (show gX4_room P = ((nI 16) - (P.2.1 0)) from rfl).symm rfl dX4_room_10

def rmX4_steps : Room := { frames := 0, cells := 0, slots := 0, locals := 0 }
def gX4_steps (P : PS) : Int32 := (P.2.1 2)
set_option maxHeartbeats 4000000 in
set_option maxRecDepth 100000 in
theorem mX4_steps (l : Launch) (D : va_G) (ck : Nat → ClassId) (pa : Nat → Nat) (P : PS) : xMi l yX4_steps wsX4_steps rmX4_steps D ck [.ref (pa 0)] (poolW ck pa P) (poolW ck pa P) (gX4_steps P) 0 0 := by
  refine xMet (by decide) rfl (Nat.le_of_ble_eq_true rfl) ?_
  intro zp ze s zm zb zt zc hx hb hr hml hown hts hlk hnm hN hK hP hD ls hl
  have hown : s.vm.findClass RX4 = some zm.cls := hown
  have hl : lv_has ls 1 [(0, .ref (pa 0))] := hl
  have hS : va_S (va_A (poolW ck pa P) s.heap.size) s.heap s.heap [] := va_S.rf
  have hA : ∀ zq : Nat, s.heap.size ≤ zq → va_A (poolW ck pa P) s.heap.size zq := fun zq h => Or.inr h
  have hinX4 : ∀ w ∈ u_ws RX4 TX4 7, w ∈ wsX4_steps := by decide +kernel
  refine lv_aload_n hx hb dX4_steps_0 rfl (lv_at hl 0 rfl) ?_
  refine va_get (D := D) (ci := 4) (v := .int (P.2.1 2)) (C := RX4) (T := TX4) (N := 7) hx hb hts hinX4 hown hK hP 0 rfl rfl 4 (by decide) (hts (.fieldLink RX4 138 "JoinGrants$Pool" "steps" "I") (List.mem_of_getElem? (i := 1) rfl)) (fun _ h9 => h9) rfl dX4_steps_1 ?_
  exact xiret hx hb hr hlk hP hD hS (show gX4_steps P = (P.2.1 2) from rfl).symm rfl dX4_steps_4

def rmX4_canTell : Room := { frames := 0, cells := 0, slots := 0, locals := 0 }
def gX4_canTell (a1 : Int32) : Int32 := (if a1 < 0 then 0 else (if 15 < a1 then 0 else 1))
set_option maxHeartbeats 4000000 in
set_option maxRecDepth 100000 in
theorem mX4_canTell (l : Launch) (D : va_G) (ck : Nat → ClassId) (a1 : Int32) : xMi l yX4_canTell wsX4_canTell rmX4_canTell D ck [.int a1] ([]) ([]) (gX4_canTell a1) 0 0 := by
  refine xMet (by decide) rfl (Nat.le_of_ble_eq_true rfl) ?_
  intro zp ze s zm zb zt zc hx hb hr hml hown hts hlk hnm hN hK hP hD ls hl
  have hown : s.vm.findClass RX4 = some zm.cls := hown
  have hl : lv_has ls 1 [(0, .int a1)] := hl
  have hS : va_S (va_A ([]) s.heap.size) s.heap s.heap [] := va_S.rf
  have hA : ∀ zq : Nat, s.heap.size ≤ zq → va_A ([]) s.heap.size zq := fun zq h => Or.inr h
  refine lv_iload_n hx hb dX4_canTell_0 rfl (lv_at hl 0 rfl) ?_
  refine lv_if_lt (tgt := 14) hx hb dX4_canTell_1 (by decide) (fun c_1 => ?_) (fun c_1 => ?_)
  · --t
    refine lv_iconst (v := 0) hx hb dX4_canTell_14 (by decide) ?_
    exact xzret hx hb hr hlk hP hD hS (Or.inl rfl) (show gX4_canTell a1 = 0 from (Eq.trans (if_pos c_1) rfl)).symm rfl dX4_canTell_15
  · --f
    refine lv_iload_n hx hb dX4_canTell_4 rfl (lv_at hl 0 rfl) ?_
    refine lv_bipush (v := 15) hx hb dX4_canTell_5 (by decide) ?_
    refine lv_icmp_gt (tgt := 14) hx hb dX4_canTell_7 (by decide) (fun c_7 => ?_) (fun c_7 => ?_)
    · --t
      refine lv_iconst (v := 0) hx hb dX4_canTell_14 (by decide) ?_
      exact xzret hx hb hr hlk hP hD hS (Or.inl rfl) (show gX4_canTell a1 = 0 from (Eq.trans (if_neg c_1) (Eq.trans (if_pos c_7) rfl))).symm rfl dX4_canTell_15
    · --f
      refine lv_iconst (v := 1) hx hb dX4_canTell_10 (by decide) ?_
      refine lv_goto (tgt := 15) hx hb dX4_canTell_11 (by decide) ?_
      exact xzret hx hb hr hlk hP hD hS (Or.inr rfl) (show gX4_canTell a1 = 1 from (Eq.trans (if_neg c_1) (Eq.trans (if_neg c_7) rfl))).symm rfl dX4_canTell_15

def rmX4_find : Room := { frames := 0, cells := 0, slots := 0, locals := 0 }
def gX4_find (P : PS) (a1 : Int32) : Option Nat := (if a1 < 0 then none else (if (P.2.1 0) ≤ a1 then none else (if (nI 16) ≤ a1 then none else (some a1.toNatClampNeg))))
set_option maxHeartbeats 4000000 in
set_option maxRecDepth 100000 in
theorem mX4_find (l : Launch) (D : va_G) (ck : Nat → ClassId) (pa : Nat → Nat) (P : PS) (a1 : Int32) : xMq l yX4_find wsX4_find rmX4_find D ck [.ref (pa 0), .int a1] (poolW ck pa P) (poolW ck pa P) (Option.map (jA pa) (gX4_find P a1)) 0 0 := by
  refine xMet (by decide) rfl (Nat.le_of_ble_eq_true rfl) ?_
  intro zp ze s zm zb zt zc hx hb hr hml hown hts hlk hnm hN hK hP hD ls hl
  have hown : s.vm.findClass RX4 = some zm.cls := hown
  have hl : lv_has ls 2 [(0, .ref (pa 0)), (1, .int a1)] := hl
  have hS : va_S (va_A (poolW ck pa P) s.heap.size) s.heap s.heap [] := va_S.rf
  have hA : ∀ zq : Nat, s.heap.size ≤ zq → va_A (poolW ck pa P) s.heap.size zq := fun zq h => Or.inr h
  have hinX4 : ∀ w ∈ u_ws RX4 TX4 7, w ∈ wsX4_find := by decide +kernel
  refine lv_iload_n hx hb dX4_find_0 rfl (lv_at hl 1 rfl) ?_
  refine lv_if_lt (tgt := 30) hx hb dX4_find_1 (by decide) (fun c_1 => ?_) (fun c_1 => ?_)
  · --t
    refine lv_null hx hb dX4_find_30 ?_
    exact xqret (v := none) hx hb hr hlk hP hD hS (congrArg (fun z => Option.map (jA pa) z) (show gX4_find P a1 = none from (Eq.trans (if_pos c_1) rfl))).symm rfl dX4_find_31
  · --f
    refine lv_iload_n hx hb dX4_find_4 rfl (lv_at hl 1 rfl) ?_
    refine lv_aload_n hx hb dX4_find_5 rfl (lv_at hl 0 rfl) ?_
    refine va_get (D := D) (ci := 4) (v := .int (P.2.1 0)) (C := RX4) (T := TX4) (N := 7) hx hb hts hinX4 hown hK hP 0 rfl rfl 2 (by decide) (hts (.fieldLink RX4 41 "JoinGrants$Pool" "joinsSoFar" "I") (List.mem_of_getElem? (i := 1) rfl)) (fun _ h9 => h9) rfl dX4_find_6 ?_
    refine lv_icmp_ge (tgt := 30) hx hb dX4_find_9 (by decide) (fun c_9 => ?_) (fun c_9 => ?_)
    · --t
      refine lv_null hx hb dX4_find_30 ?_
      exact xqret (v := none) hx hb hr hlk hP hD hS (congrArg (fun z => Option.map (jA pa) z) (show gX4_find P a1 = none from (Eq.trans (if_neg c_1) (Eq.trans (if_pos c_9) rfl)))).symm rfl dX4_find_31
    · --f
      refine lv_iload_n hx hb dX4_find_12 rfl (lv_at hl 1 rfl) ?_
      refine lv_aload_n hx hb dX4_find_13 rfl (lv_at hl 0 rfl) ?_
      refine va_get (D := D) (ci := 4) (v := .ref (pa 2)) (C := RX4) (T := TX4) (N := 7) hx hb hts hinX4 hown hK hP 0 rfl rfl 1 (by decide) (hts (.fieldLink RX4 25 "JoinGrants$Pool" "joins" "[LJoinGrants$Join;") (List.mem_of_getElem? (i := 2) rfl)) (fun _ h9 => h9) rfl dX4_find_14 ?_
      refine va_alen hx hb hK hP 2 2 rfl rfl (v := (nI 16)) rfl dX4_find_17 ?_
      refine lv_icmp_ge (tgt := 30) hx hb dX4_find_18 (by decide) (fun c_18 => ?_) (fun c_18 => ?_)
      · --t
        refine lv_null hx hb dX4_find_30 ?_
        exact xqret (v := none) hx hb hr hlk hP hD hS (congrArg (fun z => Option.map (jA pa) z) (show gX4_find P a1 = none from (Eq.trans (if_neg c_1) (Eq.trans (if_neg c_9) (Eq.trans (if_pos c_18) rfl))))).symm rfl dX4_find_31
      · --f
        refine lv_aload_n hx hb dX4_find_21 rfl (lv_at hl 0 rfl) ?_
        refine va_get (D := D) (ci := 4) (v := .ref (pa 2)) (C := RX4) (T := TX4) (N := 7) hx hb hts hinX4 hown hK hP 0 rfl rfl 1 (by decide) (hts (.fieldLink RX4 25 "JoinGrants$Pool" "joins" "[LJoinGrants$Join;") (List.mem_of_getElem? (i := 2) rfl)) (fun _ h9 => h9) rfl dX4_find_22 ?_
        refine lv_iload_n hx hb dX4_find_25 rfl (lv_at hl 1 rfl) ?_
        refine xaldq (j := a1.toNatClampNeg) (b := jA pa a1.toNatClampNeg) rfl hx hb hK hP 2 2 rfl rfl (xin_g (by decide) c_1 c_18) rfl dX4_find_26 ?_
        refine lv_goto (tgt := 31) hx hb dX4_find_27 (by decide) ?_
        exact xqret (v := (some (jA pa a1.toNatClampNeg))) hx hb hr hlk hP hD hS (congrArg (fun z => Option.map (jA pa) z) (show gX4_find P a1 = (some a1.toNatClampNeg) from (Eq.trans (if_neg c_1) (Eq.trans (if_neg c_9) (Eq.trans (if_neg c_18) rfl))))).symm rfl dX4_find_31

theorem lt_X4_find {P : PS} {a1 : Int32} (h : ¬ gX4_find P a1 = none) : (gX4_find P a1).getD 0 < 16 := by
  unfold gX4_find at h ⊢
  split
  · rename_i c; rw [if_pos c] at h; exact absurd rfl h
  · rename_i c1
    split
    · rename_i c; rw [if_neg c1, if_pos c] at h; exact absurd rfl h
    · split
      · rename_i c2 c; rw [if_neg c1, if_neg c2, if_pos c] at h; exact absurd rfl h
      · rename_i c2 c3
        exact xin_lt (xin_g (by decide) c1 c3)

def rmX4_granted : Room := { frames := 1, cells := 0, slots := 0, locals := 20 }
def gX4_granted_L13 (P : PS) : Nat → Nat → Int32 → Int32
  | 0, i, x1 => x1
  | f + 1, i, x1 => (gX4_granted_L13 P f (i + 1) (x1 + (gX1_pages (nI i) (P.2.2 i) )))
def gX4_granted (P : PS) : Int32 := (gX4_granted_L13 P 16 0 0)
set_option maxHeartbeats 4000000 in
set_option maxRecDepth 100000 in
theorem mX4_granted (l : Launch) (D : va_G) (ck : Nat → ClassId) (pa : Nat → Nat) (P : PS) : xMi l yX4_granted wsX4_granted rmX4_granted D ck [.ref (pa 0)] (poolW ck pa P) (poolW ck pa P) (gX4_granted P) 0 0 := by
  refine xMet (by decide) rfl (Nat.le_of_ble_eq_true rfl) ?_
  intro zp ze s zm zb zt zc hx hb hr hml hown hts hlk hnm hN hK hP hD ls hl
  have hown : s.vm.findClass RX4 = some zm.cls := hown
  have hl : lv_has ls 6 [(0, .ref (pa 0))] := hl
  have hS : va_S (va_A (poolW ck pa P) s.heap.size) s.heap s.heap [] := va_S.rf
  have hA : ∀ zq : Nat, s.heap.size ≤ zq → va_A (poolW ck pa P) s.heap.size zq := fun zq h => Or.inr h
  have hinX4 : ∀ w ∈ u_ws RX4 TX4 7, w ∈ wsX4_granted := by decide +kernel
  refine lv_iconst (v := 0) hx hb dX4_granted_0 (by decide) ?_
  refine lv_istore_n (lv' := [(1, .int 0), (0, .ref (pa 0))]) hx hb dX4_granted_1 rfl hl (by decide) rfl (fun ls hl => ?_)
  refine lv_aload_n hx hb dX4_granted_2 rfl (lv_at hl 1 rfl) ?_
  refine va_get (D := D) (ci := 4) (v := .ref (pa 2)) (C := RX4) (T := TX4) (N := 7) hx hb hts hinX4 hown hK hP 0 rfl rfl 1 (by decide) (hts (.fieldLink RX4 25 "JoinGrants$Pool" "joins" "[LJoinGrants$Join;") (List.mem_of_getElem? (i := 1) rfl)) (fun _ h9 => h9) rfl dX4_granted_3 ?_
  refine lv_astore_n (lv' := [(2, .ref (pa 2)), (1, .int 0), (0, .ref (pa 0))]) hx hb dX4_granted_6 rfl hl (by decide) rfl (fun ls hl => ?_)
  refine lv_aload_n hx hb dX4_granted_7 rfl (lv_at hl 0 rfl) ?_
  refine va_alen hx hb hK hP 2 2 rfl rfl (v := (nI 16)) rfl dX4_granted_8 ?_
  refine lv_istore_n (lv' := [(3, .int (nI 16)), (2, .ref (pa 2)), (1, .int 0), (0, .ref (pa 0))]) hx hb dX4_granted_9 rfl hl (by decide) rfl (fun ls hl => ?_)
  refine lv_iconst (v := (nI 0)) hx hb dX4_granted_10 (by decide) ?_
  refine lv_istore (lv' := [(4, .int (nI 0)), (3, .int (nI 16)), (2, .ref (pa 2)), (1, .int 0), (0, .ref (pa 0))]) hx hb dX4_granted_11 hl (by decide) rfl (fun ls hl => ?_)
  have loop13 : ∀ (f : Nat) (i : Nat) (x1 : Int32), (i + f = 16) → gX4_granted P = gX4_granted_L13 P f i x1 → ∀ (H : Heap) (locs : List Loc) (ls : Array Slot), va_P D vwCl (poolW ck pa P) H → va_D (va_A (poolW ck pa P) s.heap.size) (poolW ck pa P) → va_S (va_A (poolW ck pa P) s.heap.size) s.heap H locs → lv_has ls 6 [(0, .ref (pa 0)), (1, .int x1), (2, .ref (pa 2)), (3, .int (nI 16)), (4, .int (nI i))] → W zp l ze rmX4_granted s zm ([.ref (pa 0)] : List Value).toArray zb zt zc H locs 0 0 (MQ zb (xQi D (poolW ck pa P) (poolW ck pa P) (gX4_granted P) s.heap.size) ([.ref (pa 0)] : List Value).toArray s 0 0 (va_A (poolW ck pa P) s.heap.size)) (F0 zm 13 ls []) := by
    intro f
    induction f with
    | zero =>
      intro i x1 hif hg H locs ls hP hD hS hl
      refine lv_iload hx hb dX4_granted_13 (lv_at hl 4 rfl) ?_
      refine lv_iload_n hx hb dX4_granted_15 rfl (lv_at hl 3 rfl) ?_
      refine lv_icmp_ge (tgt := 39) hx hb dX4_granted_16 (by decide) (fun c_16 => ?_) (fun c_16 => ?_)
      · --t
        refine lv_iload_n hx hb dX4_granted_39 rfl (lv_at hl 1 rfl) ?_
        exact xiret hx hb hr hlk hP hD hS (hg.trans (show gX4_granted_L13 P 0 i x1 = x1 from rfl)).symm rfl dX4_granted_40
      · --f
        exact absurd (nI_le (by omega) (by omega)) c_16
    | succ f ih13 =>
      intro i x1 hif hg H locs ls hP hD hS hl
      refine lv_iload hx hb dX4_granted_13 (lv_at hl 4 rfl) ?_
      refine lv_iload_n hx hb dX4_granted_15 rfl (lv_at hl 3 rfl) ?_
      refine lv_icmp_ge (tgt := 39) hx hb dX4_granted_16 (by decide) (fun c_16 => ?_) (fun c_16 => ?_)
      · --t
        exact absurd c_16 (nI_ge (by omega) (by omega))
      · --f
        refine lv_aload_n hx hb dX4_granted_19 rfl (lv_at hl 2 rfl) ?_
        refine lv_iload hx hb dX4_granted_20 (lv_at hl 4 rfl) ?_
        refine xaldq (j := i) (b := jA pa i) (nI_clamp (by omega)) hx hb hK hP 2 2 rfl rfl (vp_in_nI (by omega) (by omega)) rfl dX4_granted_22 ?_
        refine lv_astore (lv' := [(5, .ref (jA pa i)), (0, .ref (pa 0)), (1, .int x1), (2, .ref (pa 2)), (3, .int (nI 16)), (4, .int (nI i))]) hx hb dX4_granted_23 hl (by decide) rfl (fun ls hl => ?_)
        refine lv_iload_n hx hb dX4_granted_25 rfl (lv_at hl 2 rfl) ?_
        refine lv_aload hx hb dX4_granted_26 (lv_at hl 0 rfl) ?_
        refine xreti (va_runV (As := []) (rest := [.int x1]) ⟨hx, hb, hml, hown, hts⟩ (mX1_pages l D ck (jA pa i) (qA pa i) (nI i) (P.2.2 i)  _) (cwV 0 hts gX4_granted_X1_pages rfl rfl rfl (by decide +kernel) ⟨Nat.le_of_ble_eq_true rfl, Nat.le_of_ble_eq_true rfl⟩) (xpreV hN hK hP hD (pm_pj (P := P) (by omega)) 0 rfl rfl rfl) rfl rfl hl.1 rfl (lv_room (Nat.le_of_ble_eq_true rfl)) dX4_granted_28 ⟨Nat.le_of_ble_eq_true rfl, Nat.le_of_ble_eq_true rfl⟩) hP hD hS hA (pm_pj (P := P) (by omega)) (pm_pj (P := P) (by omega)).symm (fun H locs hP hD hS => ?_)
        refine lv_iadd hx hb dX4_granted_31 ?_
        refine lv_istore_n (lv' := [(1, .int (x1 + (gX1_pages (nI i) (P.2.2 i) ))), (5, .ref (jA pa i)), (0, .ref (pa 0)), (2, .ref (pa 2)), (3, .int (nI 16)), (4, .int (nI i))]) hx hb dX4_granted_32 rfl hl (by decide) rfl (fun ls hl => ?_)
        refine lv_iinc (v := (nI (i + 1))) (lv' := [(4, .int (nI (i + 1))), (1, .int (x1 + (gX1_pages (nI i) (P.2.2 i) ))), (5, .ref (jA pa i)), (0, .ref (pa 0)), (2, .ref (pa 2)), (3, .int (nI 16))]) hx hb dX4_granted_33 hl (k := 5) rfl (nI_1 i) (by decide) rfl (fun ls hl => ?_)
        refine lv_goto (tgt := 13) hx hb dX4_granted_36 (by decide) ?_
        exact ih13 (i + 1) (x1 + (gX1_pages (nI i) (P.2.2 i) )) (by omega) (hg.trans (show gX4_granted_L13 P (f + 1) i x1 = (gX4_granted_L13 P f (i + 1) (x1 + (gX1_pages (nI i) (P.2.2 i) ))) from rfl)) _ _ _ hP hD hS (lv_sub hl [3, 1, 4, 5, 0] rfl)
  exact loop13 16 0 0 (by omega) (show gX4_granted P = (gX4_granted_L13 P 16 0 0) from rfl) _ _ _ hP hD hS (lv_sub hl [4, 3, 2, 1, 0] rfl)

def rmX4_surplus : Room := { frames := 1, cells := 0, slots := 0, locals := 20 }
def gX4_surplus_L13 (P : PS) : Nat → Nat → Int32 → Int32
  | 0, i, x1 => x1
  | f + 1, i, x1 => (gX4_surplus_L13 P f (i + 1) (x1 + (gX1_surplus (nI i) (P.2.2 i) )))
def gX4_surplus (P : PS) : Int32 := (gX4_surplus_L13 P 16 0 0)
set_option maxHeartbeats 4000000 in
set_option maxRecDepth 100000 in
theorem mX4_surplus (l : Launch) (D : va_G) (ck : Nat → ClassId) (pa : Nat → Nat) (P : PS) : xMi l yX4_surplus wsX4_surplus rmX4_surplus D ck [.ref (pa 0)] (poolW ck pa P) (poolW ck pa P) (gX4_surplus P) 0 0 := by
  refine xMet (by decide) rfl (Nat.le_of_ble_eq_true rfl) ?_
  intro zp ze s zm zb zt zc hx hb hr hml hown hts hlk hnm hN hK hP hD ls hl
  have hown : s.vm.findClass RX4 = some zm.cls := hown
  have hl : lv_has ls 6 [(0, .ref (pa 0))] := hl
  have hS : va_S (va_A (poolW ck pa P) s.heap.size) s.heap s.heap [] := va_S.rf
  have hA : ∀ zq : Nat, s.heap.size ≤ zq → va_A (poolW ck pa P) s.heap.size zq := fun zq h => Or.inr h
  have hinX4 : ∀ w ∈ u_ws RX4 TX4 7, w ∈ wsX4_surplus := by decide +kernel
  refine lv_iconst (v := 0) hx hb dX4_surplus_0 (by decide) ?_
  refine lv_istore_n (lv' := [(1, .int 0), (0, .ref (pa 0))]) hx hb dX4_surplus_1 rfl hl (by decide) rfl (fun ls hl => ?_)
  refine lv_aload_n hx hb dX4_surplus_2 rfl (lv_at hl 1 rfl) ?_
  refine va_get (D := D) (ci := 4) (v := .ref (pa 2)) (C := RX4) (T := TX4) (N := 7) hx hb hts hinX4 hown hK hP 0 rfl rfl 1 (by decide) (hts (.fieldLink RX4 25 "JoinGrants$Pool" "joins" "[LJoinGrants$Join;") (List.mem_of_getElem? (i := 1) rfl)) (fun _ h9 => h9) rfl dX4_surplus_3 ?_
  refine lv_astore_n (lv' := [(2, .ref (pa 2)), (1, .int 0), (0, .ref (pa 0))]) hx hb dX4_surplus_6 rfl hl (by decide) rfl (fun ls hl => ?_)
  refine lv_aload_n hx hb dX4_surplus_7 rfl (lv_at hl 0 rfl) ?_
  refine va_alen hx hb hK hP 2 2 rfl rfl (v := (nI 16)) rfl dX4_surplus_8 ?_
  refine lv_istore_n (lv' := [(3, .int (nI 16)), (2, .ref (pa 2)), (1, .int 0), (0, .ref (pa 0))]) hx hb dX4_surplus_9 rfl hl (by decide) rfl (fun ls hl => ?_)
  refine lv_iconst (v := (nI 0)) hx hb dX4_surplus_10 (by decide) ?_
  refine lv_istore (lv' := [(4, .int (nI 0)), (3, .int (nI 16)), (2, .ref (pa 2)), (1, .int 0), (0, .ref (pa 0))]) hx hb dX4_surplus_11 hl (by decide) rfl (fun ls hl => ?_)
  have loop13 : ∀ (f : Nat) (i : Nat) (x1 : Int32), (i + f = 16) → gX4_surplus P = gX4_surplus_L13 P f i x1 → ∀ (H : Heap) (locs : List Loc) (ls : Array Slot), va_P D vwCl (poolW ck pa P) H → va_D (va_A (poolW ck pa P) s.heap.size) (poolW ck pa P) → va_S (va_A (poolW ck pa P) s.heap.size) s.heap H locs → lv_has ls 6 [(0, .ref (pa 0)), (1, .int x1), (2, .ref (pa 2)), (3, .int (nI 16)), (4, .int (nI i))] → W zp l ze rmX4_surplus s zm ([.ref (pa 0)] : List Value).toArray zb zt zc H locs 0 0 (MQ zb (xQi D (poolW ck pa P) (poolW ck pa P) (gX4_surplus P) s.heap.size) ([.ref (pa 0)] : List Value).toArray s 0 0 (va_A (poolW ck pa P) s.heap.size)) (F0 zm 13 ls []) := by
    intro f
    induction f with
    | zero =>
      intro i x1 hif hg H locs ls hP hD hS hl
      refine lv_iload hx hb dX4_surplus_13 (lv_at hl 4 rfl) ?_
      refine lv_iload_n hx hb dX4_surplus_15 rfl (lv_at hl 3 rfl) ?_
      refine lv_icmp_ge (tgt := 39) hx hb dX4_surplus_16 (by decide) (fun c_16 => ?_) (fun c_16 => ?_)
      · --t
        refine lv_iload_n hx hb dX4_surplus_39 rfl (lv_at hl 1 rfl) ?_
        exact xiret hx hb hr hlk hP hD hS (hg.trans (show gX4_surplus_L13 P 0 i x1 = x1 from rfl)).symm rfl dX4_surplus_40
      · --f
        exact absurd (nI_le (by omega) (by omega)) c_16
    | succ f ih13 =>
      intro i x1 hif hg H locs ls hP hD hS hl
      refine lv_iload hx hb dX4_surplus_13 (lv_at hl 4 rfl) ?_
      refine lv_iload_n hx hb dX4_surplus_15 rfl (lv_at hl 3 rfl) ?_
      refine lv_icmp_ge (tgt := 39) hx hb dX4_surplus_16 (by decide) (fun c_16 => ?_) (fun c_16 => ?_)
      · --t
        exact absurd c_16 (nI_ge (by omega) (by omega))
      · --f
        refine lv_aload_n hx hb dX4_surplus_19 rfl (lv_at hl 2 rfl) ?_
        refine lv_iload hx hb dX4_surplus_20 (lv_at hl 4 rfl) ?_
        refine xaldq (j := i) (b := jA pa i) (nI_clamp (by omega)) hx hb hK hP 2 2 rfl rfl (vp_in_nI (by omega) (by omega)) rfl dX4_surplus_22 ?_
        refine lv_astore (lv' := [(5, .ref (jA pa i)), (0, .ref (pa 0)), (1, .int x1), (2, .ref (pa 2)), (3, .int (nI 16)), (4, .int (nI i))]) hx hb dX4_surplus_23 hl (by decide) rfl (fun ls hl => ?_)
        refine lv_iload_n hx hb dX4_surplus_25 rfl (lv_at hl 2 rfl) ?_
        refine lv_aload hx hb dX4_surplus_26 (lv_at hl 0 rfl) ?_
        refine xreti (va_runV (As := []) (rest := [.int x1]) ⟨hx, hb, hml, hown, hts⟩ (mX1_surplus l D ck (jA pa i) (qA pa i) (nI i) (P.2.2 i)  _) (cwV 0 hts gX4_surplus_X1_surplus rfl rfl rfl (by decide +kernel) ⟨Nat.le_of_ble_eq_true rfl, Nat.le_of_ble_eq_true rfl⟩) (xpreV hN hK hP hD (pm_pj (P := P) (by omega)) 0 rfl rfl rfl) rfl rfl hl.1 rfl (lv_room (Nat.le_of_ble_eq_true rfl)) dX4_surplus_28 ⟨Nat.le_of_ble_eq_true rfl, Nat.le_of_ble_eq_true rfl⟩) hP hD hS hA (pm_pj (P := P) (by omega)) (pm_pj (P := P) (by omega)).symm (fun H locs hP hD hS => ?_)
        refine lv_iadd hx hb dX4_surplus_31 ?_
        refine lv_istore_n (lv' := [(1, .int (x1 + (gX1_surplus (nI i) (P.2.2 i) ))), (5, .ref (jA pa i)), (0, .ref (pa 0)), (2, .ref (pa 2)), (3, .int (nI 16)), (4, .int (nI i))]) hx hb dX4_surplus_32 rfl hl (by decide) rfl (fun ls hl => ?_)
        refine lv_iinc (v := (nI (i + 1))) (lv' := [(4, .int (nI (i + 1))), (1, .int (x1 + (gX1_surplus (nI i) (P.2.2 i) ))), (5, .ref (jA pa i)), (0, .ref (pa 0)), (2, .ref (pa 2)), (3, .int (nI 16))]) hx hb dX4_surplus_33 hl (k := 5) rfl (nI_1 i) (by decide) rfl (fun ls hl => ?_)
        refine lv_goto (tgt := 13) hx hb dX4_surplus_36 (by decide) ?_
        exact ih13 (i + 1) (x1 + (gX1_surplus (nI i) (P.2.2 i) )) (by omega) (hg.trans (show gX4_surplus_L13 P (f + 1) i x1 = (gX4_surplus_L13 P f (i + 1) (x1 + (gX1_surplus (nI i) (P.2.2 i) ))) from rfl)) _ _ _ hP hD hS (lv_sub hl [3, 1, 4, 5, 0] rfl)
  exact loop13 16 0 0 (by omega) (show gX4_surplus P = (gX4_surplus_L13 P 16 0 0) from rfl) _ _ _ hP hD hS (lv_sub hl [4, 3, 2, 1, 0] rfl)

def rmX4_spilling : Room := { frames := 2, cells := 0, slots := 0, locals := 41 }
def gX4_spilling_L13 (P : PS) : Nat → Nat → Int32 → Int32
  | 0, i, x1 => x1
  | f + 1, i, x1 => (if (gX1_spills (nI i) (P.2.2 i) ) = 0 then (gX4_spilling_L13 P f (i + 1) (x1 + 0)) else (gX4_spilling_L13 P f (i + 1) (x1 + 1)))
def gX4_spilling (P : PS) : Int32 := (gX4_spilling_L13 P 16 0 0)
set_option maxHeartbeats 4000000 in
set_option maxRecDepth 100000 in
theorem mX4_spilling (l : Launch) (D : va_G) (ck : Nat → ClassId) (pa : Nat → Nat) (P : PS) : xMi l yX4_spilling wsX4_spilling rmX4_spilling D ck [.ref (pa 0)] (poolW ck pa P) (poolW ck pa P) (gX4_spilling P) 0 0 := by
  refine xMet (by decide) rfl (Nat.le_of_ble_eq_true rfl) ?_
  intro zp ze s zm zb zt zc hx hb hr hml hown hts hlk hnm hN hK hP hD ls hl
  have hown : s.vm.findClass RX4 = some zm.cls := hown
  have hl : lv_has ls 6 [(0, .ref (pa 0))] := hl
  have hS : va_S (va_A (poolW ck pa P) s.heap.size) s.heap s.heap [] := va_S.rf
  have hA : ∀ zq : Nat, s.heap.size ≤ zq → va_A (poolW ck pa P) s.heap.size zq := fun zq h => Or.inr h
  have hinX4 : ∀ w ∈ u_ws RX4 TX4 7, w ∈ wsX4_spilling := by decide +kernel
  refine lv_iconst (v := 0) hx hb dX4_spilling_0 (by decide) ?_
  refine lv_istore_n (lv' := [(1, .int 0), (0, .ref (pa 0))]) hx hb dX4_spilling_1 rfl hl (by decide) rfl (fun ls hl => ?_)
  refine lv_aload_n hx hb dX4_spilling_2 rfl (lv_at hl 1 rfl) ?_
  refine va_get (D := D) (ci := 4) (v := .ref (pa 2)) (C := RX4) (T := TX4) (N := 7) hx hb hts hinX4 hown hK hP 0 rfl rfl 1 (by decide) (hts (.fieldLink RX4 25 "JoinGrants$Pool" "joins" "[LJoinGrants$Join;") (List.mem_of_getElem? (i := 1) rfl)) (fun _ h9 => h9) rfl dX4_spilling_3 ?_
  refine lv_astore_n (lv' := [(2, .ref (pa 2)), (1, .int 0), (0, .ref (pa 0))]) hx hb dX4_spilling_6 rfl hl (by decide) rfl (fun ls hl => ?_)
  refine lv_aload_n hx hb dX4_spilling_7 rfl (lv_at hl 0 rfl) ?_
  refine va_alen hx hb hK hP 2 2 rfl rfl (v := (nI 16)) rfl dX4_spilling_8 ?_
  refine lv_istore_n (lv' := [(3, .int (nI 16)), (2, .ref (pa 2)), (1, .int 0), (0, .ref (pa 0))]) hx hb dX4_spilling_9 rfl hl (by decide) rfl (fun ls hl => ?_)
  refine lv_iconst (v := (nI 0)) hx hb dX4_spilling_10 (by decide) ?_
  refine lv_istore (lv' := [(4, .int (nI 0)), (3, .int (nI 16)), (2, .ref (pa 2)), (1, .int 0), (0, .ref (pa 0))]) hx hb dX4_spilling_11 hl (by decide) rfl (fun ls hl => ?_)
  have loop13 : ∀ (f : Nat) (i : Nat) (x1 : Int32), (i + f = 16) → gX4_spilling P = gX4_spilling_L13 P f i x1 → ∀ (H : Heap) (locs : List Loc) (ls : Array Slot), va_P D vwCl (poolW ck pa P) H → va_D (va_A (poolW ck pa P) s.heap.size) (poolW ck pa P) → va_S (va_A (poolW ck pa P) s.heap.size) s.heap H locs → lv_has ls 6 [(0, .ref (pa 0)), (1, .int x1), (2, .ref (pa 2)), (3, .int (nI 16)), (4, .int (nI i))] → W zp l ze rmX4_spilling s zm ([.ref (pa 0)] : List Value).toArray zb zt zc H locs 0 0 (MQ zb (xQi D (poolW ck pa P) (poolW ck pa P) (gX4_spilling P) s.heap.size) ([.ref (pa 0)] : List Value).toArray s 0 0 (va_A (poolW ck pa P) s.heap.size)) (F0 zm 13 ls []) := by
    intro f
    induction f with
    | zero =>
      intro i x1 hif hg H locs ls hP hD hS hl
      refine lv_iload hx hb dX4_spilling_13 (lv_at hl 4 rfl) ?_
      refine lv_iload_n hx hb dX4_spilling_15 rfl (lv_at hl 3 rfl) ?_
      refine lv_icmp_ge (tgt := 47) hx hb dX4_spilling_16 (by decide) (fun c_16 => ?_) (fun c_16 => ?_)
      · --t
        refine lv_iload_n hx hb dX4_spilling_47 rfl (lv_at hl 1 rfl) ?_
        exact xiret hx hb hr hlk hP hD hS (hg.trans (show gX4_spilling_L13 P 0 i x1 = x1 from rfl)).symm rfl dX4_spilling_48
      · --f
        exact absurd (nI_le (by omega) (by omega)) c_16
    | succ f ih13 =>
      intro i x1 hif hg H locs ls hP hD hS hl
      refine lv_iload hx hb dX4_spilling_13 (lv_at hl 4 rfl) ?_
      refine lv_iload_n hx hb dX4_spilling_15 rfl (lv_at hl 3 rfl) ?_
      refine lv_icmp_ge (tgt := 47) hx hb dX4_spilling_16 (by decide) (fun c_16 => ?_) (fun c_16 => ?_)
      · --t
        exact absurd c_16 (nI_ge (by omega) (by omega))
      · --f
        refine lv_aload_n hx hb dX4_spilling_19 rfl (lv_at hl 2 rfl) ?_
        refine lv_iload hx hb dX4_spilling_20 (lv_at hl 4 rfl) ?_
        refine xaldq (j := i) (b := jA pa i) (nI_clamp (by omega)) hx hb hK hP 2 2 rfl rfl (vp_in_nI (by omega) (by omega)) rfl dX4_spilling_22 ?_
        refine lv_astore (lv' := [(5, .ref (jA pa i)), (0, .ref (pa 0)), (1, .int x1), (2, .ref (pa 2)), (3, .int (nI 16)), (4, .int (nI i))]) hx hb dX4_spilling_23 hl (by decide) rfl (fun ls hl => ?_)
        refine lv_iload_n hx hb dX4_spilling_25 rfl (lv_at hl 2 rfl) ?_
        refine lv_aload hx hb dX4_spilling_26 (lv_at hl 0 rfl) ?_
        refine xreti (va_runV (As := []) (rest := [.int x1]) ⟨hx, hb, hml, hown, hts⟩ (mX1_spills l D ck (jA pa i) (qA pa i) (nI i) (P.2.2 i)  _) (cwV 0 hts gX4_spilling_X1_spills rfl rfl rfl (by decide +kernel) ⟨Nat.le_of_ble_eq_true rfl, Nat.le_of_ble_eq_true rfl⟩) (xpreV hN hK hP hD (pm_pj (P := P) (by omega)) 0 rfl rfl rfl) rfl rfl hl.1 rfl (lv_room (Nat.le_of_ble_eq_true rfl)) dX4_spilling_28 ⟨Nat.le_of_ble_eq_true rfl, Nat.le_of_ble_eq_true rfl⟩) hP hD hS hA (pm_pj (P := P) (by omega)) (pm_pj (P := P) (by omega)).symm (fun H locs hP hD hS => ?_)
        refine lv_if_eq (tgt := 38) hx hb dX4_spilling_31 (by decide) (fun c_31 => ?_) (fun c_31 => ?_)
        · --t
          refine lv_iconst (v := 0) hx hb dX4_spilling_38 (by decide) ?_
          refine lv_iadd hx hb dX4_spilling_39 ?_
          refine lv_istore_n (lv' := [(1, .int (x1 + 0)), (5, .ref (jA pa i)), (0, .ref (pa 0)), (2, .ref (pa 2)), (3, .int (nI 16)), (4, .int (nI i))]) hx hb dX4_spilling_40 rfl hl (by decide) rfl (fun ls hl => ?_)
          refine lv_iinc (v := (nI (i + 1))) (lv' := [(4, .int (nI (i + 1))), (1, .int (x1 + 0)), (5, .ref (jA pa i)), (0, .ref (pa 0)), (2, .ref (pa 2)), (3, .int (nI 16))]) hx hb dX4_spilling_41 hl (k := 5) rfl (nI_1 i) (by decide) rfl (fun ls hl => ?_)
          refine lv_goto (tgt := 13) hx hb dX4_spilling_44 (by decide) ?_
          exact ih13 (i + 1) (x1 + 0) (by omega) (hg.trans (show gX4_spilling_L13 P (f + 1) i x1 = (gX4_spilling_L13 P f (i + 1) (x1 + 0)) from (Eq.trans (if_pos c_31) rfl))) _ _ _ hP hD hS (lv_sub hl [3, 1, 4, 5, 0] rfl)
        · --f
          refine lv_iconst (v := 1) hx hb dX4_spilling_34 (by decide) ?_
          refine lv_goto (tgt := 39) hx hb dX4_spilling_35 (by decide) ?_
          refine lv_iadd hx hb dX4_spilling_39 ?_
          refine lv_istore_n (lv' := [(1, .int (x1 + 1)), (5, .ref (jA pa i)), (0, .ref (pa 0)), (2, .ref (pa 2)), (3, .int (nI 16)), (4, .int (nI i))]) hx hb dX4_spilling_40 rfl hl (by decide) rfl (fun ls hl => ?_)
          refine lv_iinc (v := (nI (i + 1))) (lv' := [(4, .int (nI (i + 1))), (1, .int (x1 + 1)), (5, .ref (jA pa i)), (0, .ref (pa 0)), (2, .ref (pa 2)), (3, .int (nI 16))]) hx hb dX4_spilling_41 hl (k := 5) rfl (nI_1 i) (by decide) rfl (fun ls hl => ?_)
          refine lv_goto (tgt := 13) hx hb dX4_spilling_44 (by decide) ?_
          exact ih13 (i + 1) (x1 + 1) (by omega) (hg.trans (show gX4_spilling_L13 P (f + 1) i x1 = (gX4_spilling_L13 P f (i + 1) (x1 + 1)) from (Eq.trans (if_neg c_31) rfl))) _ _ _ hP hD hS (lv_sub hl [3, 1, 4, 5, 0] rfl)
  exact loop13 16 0 0 (by omega) (show gX4_spilling P = (gX4_spilling_L13 P 16 0 0) from rfl) _ _ _ hP hD hS (lv_sub hl [4, 3, 2, 1, 0] rfl)

def rmX4_joinsIn : Room := { frames := 1, cells := 0, slots := 0, locals := 21 }
def gX4_joinsIn_L14 (P : PS) (a1 : Int32) : Nat → Nat → Int32 → Int32
  | 0, i, x1 => x1
  | f + 1, i, x1 => (if (gX1_isIn (nI i) (P.2.2 i) a1) = 0 then (gX4_joinsIn_L14 P a1 f (i + 1) (x1 + 0)) else (gX4_joinsIn_L14 P a1 f (i + 1) (x1 + 1)))
def gX4_joinsIn (P : PS) (a1 : Int32) : Int32 := (gX4_joinsIn_L14 P a1 16 0 0)
set_option maxHeartbeats 4000000 in
set_option maxRecDepth 100000 in
theorem mX4_joinsIn (l : Launch) (D : va_G) (ck : Nat → ClassId) (pa : Nat → Nat) (P : PS) (a1 : Int32) : xMi l yX4_joinsIn wsX4_joinsIn rmX4_joinsIn D ck [.ref (pa 0), .int a1] (poolW ck pa P) (poolW ck pa P) (gX4_joinsIn P a1) 0 0 := by
  refine xMet (by decide) rfl (Nat.le_of_ble_eq_true rfl) ?_
  intro zp ze s zm zb zt zc hx hb hr hml hown hts hlk hnm hN hK hP hD ls hl
  have hown : s.vm.findClass RX4 = some zm.cls := hown
  have hl : lv_has ls 7 [(0, .ref (pa 0)), (1, .int a1)] := hl
  have hS : va_S (va_A (poolW ck pa P) s.heap.size) s.heap s.heap [] := va_S.rf
  have hA : ∀ zq : Nat, s.heap.size ≤ zq → va_A (poolW ck pa P) s.heap.size zq := fun zq h => Or.inr h
  have hinX4 : ∀ w ∈ u_ws RX4 TX4 7, w ∈ wsX4_joinsIn := by decide +kernel
  refine lv_iconst (v := 0) hx hb dX4_joinsIn_0 (by decide) ?_
  refine lv_istore_n (lv' := [(2, .int 0), (0, .ref (pa 0)), (1, .int a1)]) hx hb dX4_joinsIn_1 rfl hl (by decide) rfl (fun ls hl => ?_)
  refine lv_aload_n hx hb dX4_joinsIn_2 rfl (lv_at hl 1 rfl) ?_
  refine va_get (D := D) (ci := 4) (v := .ref (pa 2)) (C := RX4) (T := TX4) (N := 7) hx hb hts hinX4 hown hK hP 0 rfl rfl 1 (by decide) (hts (.fieldLink RX4 25 "JoinGrants$Pool" "joins" "[LJoinGrants$Join;") (List.mem_of_getElem? (i := 1) rfl)) (fun _ h9 => h9) rfl dX4_joinsIn_3 ?_
  refine lv_astore_n (lv' := [(3, .ref (pa 2)), (2, .int 0), (0, .ref (pa 0)), (1, .int a1)]) hx hb dX4_joinsIn_6 rfl hl (by decide) rfl (fun ls hl => ?_)
  refine lv_aload_n hx hb dX4_joinsIn_7 rfl (lv_at hl 0 rfl) ?_
  refine va_alen hx hb hK hP 2 2 rfl rfl (v := (nI 16)) rfl dX4_joinsIn_8 ?_
  refine lv_istore (lv' := [(4, .int (nI 16)), (3, .ref (pa 2)), (2, .int 0), (0, .ref (pa 0)), (1, .int a1)]) hx hb dX4_joinsIn_9 hl (by decide) rfl (fun ls hl => ?_)
  refine lv_iconst (v := (nI 0)) hx hb dX4_joinsIn_11 (by decide) ?_
  refine lv_istore (lv' := [(5, .int (nI 0)), (4, .int (nI 16)), (3, .ref (pa 2)), (2, .int 0), (0, .ref (pa 0)), (1, .int a1)]) hx hb dX4_joinsIn_12 hl (by decide) rfl (fun ls hl => ?_)
  have loop14 : ∀ (f : Nat) (i : Nat) (x1 : Int32), (i + f = 16) → gX4_joinsIn P a1 = gX4_joinsIn_L14 P a1 f i x1 → ∀ (H : Heap) (locs : List Loc) (ls : Array Slot), va_P D vwCl (poolW ck pa P) H → va_D (va_A (poolW ck pa P) s.heap.size) (poolW ck pa P) → va_S (va_A (poolW ck pa P) s.heap.size) s.heap H locs → lv_has ls 7 [(0, .ref (pa 0)), (1, .int a1), (2, .int x1), (3, .ref (pa 2)), (4, .int (nI 16)), (5, .int (nI i))] → W zp l ze rmX4_joinsIn s zm ([.ref (pa 0), .int a1] : List Value).toArray zb zt zc H locs 0 0 (MQ zb (xQi D (poolW ck pa P) (poolW ck pa P) (gX4_joinsIn P a1) s.heap.size) ([.ref (pa 0), .int a1] : List Value).toArray s 0 0 (va_A (poolW ck pa P) s.heap.size)) (F0 zm 14 ls []) := by
    intro f
    induction f with
    | zero =>
      intro i x1 hif hg H locs ls hP hD hS hl
      refine lv_iload hx hb dX4_joinsIn_14 (lv_at hl 5 rfl) ?_
      refine lv_iload hx hb dX4_joinsIn_16 (lv_at hl 4 rfl) ?_
      refine lv_icmp_ge (tgt := 50) hx hb dX4_joinsIn_18 (by decide) (fun c_18 => ?_) (fun c_18 => ?_)
      · --t
        refine lv_iload_n hx hb dX4_joinsIn_50 rfl (lv_at hl 2 rfl) ?_
        exact xiret hx hb hr hlk hP hD hS (hg.trans (show gX4_joinsIn_L14 P a1 0 i x1 = x1 from rfl)).symm rfl dX4_joinsIn_51
      · --f
        exact absurd (nI_le (by omega) (by omega)) c_18
    | succ f ih14 =>
      intro i x1 hif hg H locs ls hP hD hS hl
      refine lv_iload hx hb dX4_joinsIn_14 (lv_at hl 5 rfl) ?_
      refine lv_iload hx hb dX4_joinsIn_16 (lv_at hl 4 rfl) ?_
      refine lv_icmp_ge (tgt := 50) hx hb dX4_joinsIn_18 (by decide) (fun c_18 => ?_) (fun c_18 => ?_)
      · --t
        exact absurd c_18 (nI_ge (by omega) (by omega))
      · --f
        refine lv_aload_n hx hb dX4_joinsIn_21 rfl (lv_at hl 3 rfl) ?_
        refine lv_iload hx hb dX4_joinsIn_22 (lv_at hl 5 rfl) ?_
        refine xaldq (j := i) (b := jA pa i) (nI_clamp (by omega)) hx hb hK hP 2 2 rfl rfl (vp_in_nI (by omega) (by omega)) rfl dX4_joinsIn_24 ?_
        refine lv_astore (lv' := [(6, .ref (jA pa i)), (0, .ref (pa 0)), (1, .int a1), (2, .int x1), (3, .ref (pa 2)), (4, .int (nI 16)), (5, .int (nI i))]) hx hb dX4_joinsIn_25 hl (by decide) rfl (fun ls hl => ?_)
        refine lv_iload_n hx hb dX4_joinsIn_27 rfl (lv_at hl 3 rfl) ?_
        refine lv_aload hx hb dX4_joinsIn_28 (lv_at hl 0 rfl) ?_
        refine lv_iload_n hx hb dX4_joinsIn_30 rfl (lv_at hl 2 rfl) ?_
        refine xreti (va_runV (As := [.int a1]) (rest := [.int x1]) ⟨hx, hb, hml, hown, hts⟩ (mX1_isIn l D ck (jA pa i) (qA pa i) (nI i) (P.2.2 i) a1 _) (cwV 1 hts gX4_joinsIn_X1_isIn rfl rfl rfl (by decide +kernel) ⟨Nat.le_of_ble_eq_true rfl, Nat.le_of_ble_eq_true rfl⟩) (xpreV hN hK hP hD (pm_pj (P := P) (by omega)) 0 rfl rfl rfl) rfl rfl hl.1 rfl (lv_room (Nat.le_of_ble_eq_true rfl)) dX4_joinsIn_31 ⟨Nat.le_of_ble_eq_true rfl, Nat.le_of_ble_eq_true rfl⟩) hP hD hS hA (pm_pj (P := P) (by omega)) (pm_pj (P := P) (by omega)).symm (fun H locs hP hD hS => ?_)
        refine lv_if_eq (tgt := 41) hx hb dX4_joinsIn_34 (by decide) (fun c_34 => ?_) (fun c_34 => ?_)
        · --t
          refine lv_iconst (v := 0) hx hb dX4_joinsIn_41 (by decide) ?_
          refine lv_iadd hx hb dX4_joinsIn_42 ?_
          refine lv_istore_n (lv' := [(2, .int (x1 + 0)), (6, .ref (jA pa i)), (0, .ref (pa 0)), (1, .int a1), (3, .ref (pa 2)), (4, .int (nI 16)), (5, .int (nI i))]) hx hb dX4_joinsIn_43 rfl hl (by decide) rfl (fun ls hl => ?_)
          refine lv_iinc (v := (nI (i + 1))) (lv' := [(5, .int (nI (i + 1))), (2, .int (x1 + 0)), (6, .ref (jA pa i)), (0, .ref (pa 0)), (1, .int a1), (3, .ref (pa 2)), (4, .int (nI 16))]) hx hb dX4_joinsIn_44 hl (k := 6) rfl (nI_1 i) (by decide) rfl (fun ls hl => ?_)
          refine lv_goto (tgt := 14) hx hb dX4_joinsIn_47 (by decide) ?_
          exact ih14 (i + 1) (x1 + 0) (by omega) (hg.trans (show gX4_joinsIn_L14 P a1 (f + 1) i x1 = (gX4_joinsIn_L14 P a1 f (i + 1) (x1 + 0)) from (Eq.trans (if_pos c_34) rfl))) _ _ _ hP hD hS (lv_sub hl [3, 4, 1, 5, 6, 0] rfl)
        · --f
          refine lv_iconst (v := 1) hx hb dX4_joinsIn_37 (by decide) ?_
          refine lv_goto (tgt := 42) hx hb dX4_joinsIn_38 (by decide) ?_
          refine lv_iadd hx hb dX4_joinsIn_42 ?_
          refine lv_istore_n (lv' := [(2, .int (x1 + 1)), (6, .ref (jA pa i)), (0, .ref (pa 0)), (1, .int a1), (3, .ref (pa 2)), (4, .int (nI 16)), (5, .int (nI i))]) hx hb dX4_joinsIn_43 rfl hl (by decide) rfl (fun ls hl => ?_)
          refine lv_iinc (v := (nI (i + 1))) (lv' := [(5, .int (nI (i + 1))), (2, .int (x1 + 1)), (6, .ref (jA pa i)), (0, .ref (pa 0)), (1, .int a1), (3, .ref (pa 2)), (4, .int (nI 16))]) hx hb dX4_joinsIn_44 hl (k := 6) rfl (nI_1 i) (by decide) rfl (fun ls hl => ?_)
          refine lv_goto (tgt := 14) hx hb dX4_joinsIn_47 (by decide) ?_
          exact ih14 (i + 1) (x1 + 1) (by omega) (hg.trans (show gX4_joinsIn_L14 P a1 (f + 1) i x1 = (gX4_joinsIn_L14 P a1 f (i + 1) (x1 + 1)) from (Eq.trans (if_neg c_34) rfl))) _ _ _ hP hD hS (lv_sub hl [3, 4, 1, 5, 6, 0] rfl)
  exact loop14 16 0 0 (by omega) (show gX4_joinsIn P a1 = (gX4_joinsIn_L14 P a1 16 0 0) from rfl) _ _ _ hP hD hS (lv_sub hl [4, 5, 3, 2, 1, 0] rfl)

def rmX4_free : Room := { frames := 2, cells := 0, slots := 0, locals := 45 }
def gX4_free (P : PS) : Int32 := (if 0 < ((gX4_setting P 0) - (gX4_granted P )) then ((gX4_setting P 0) - (gX4_granted P )) else 0)
set_option maxHeartbeats 4000000 in
set_option maxRecDepth 100000 in
theorem mX4_free (l : Launch) (D : va_G) (ck : Nat → ClassId) (pa : Nat → Nat) (P : PS) : xMi l yX4_free wsX4_free rmX4_free D ck [.ref (pa 0)] (poolW ck pa P) (poolW ck pa P) (gX4_free P) 0 0 := by
  refine xMet (by decide) rfl (Nat.le_of_ble_eq_true rfl) ?_
  intro zp ze s zm zb zt zc hx hb hr hml hown hts hlk hnm hN hK hP hD ls hl
  have hown : s.vm.findClass RX4 = some zm.cls := hown
  have hl : lv_has ls 1 [(0, .ref (pa 0))] := hl
  have hS : va_S (va_A (poolW ck pa P) s.heap.size) s.heap s.heap [] := va_S.rf
  have hA : ∀ zq : Nat, s.heap.size ≤ zq → va_A (poolW ck pa P) s.heap.size zq := fun zq h => Or.inr h
  refine lv_iconst (v := 0) hx hb dX4_free_0 (by decide) ?_
  refine lv_aload_n hx hb dX4_free_1 rfl (lv_at hl 0 rfl) ?_
  refine lv_iconst (v := 0) hx hb dX4_free_2 (by decide) ?_
  refine xreti (va_runV (As := [.int 0]) (rest := [.int 0]) ⟨hx, hb, hml, hown, hts⟩ (mX4_setting l D ck pa P 0  _) (cwV 1 hts gX4_free_X4_setting rfl rfl rfl (by decide +kernel) ⟨Nat.le_of_ble_eq_true rfl, Nat.le_of_ble_eq_true rfl⟩) (xpreV hN hK hP hD pm_all 0 rfl rfl rfl) rfl rfl hl.1 rfl (lv_room (Nat.le_of_ble_eq_true rfl)) dX4_free_3 ⟨Nat.le_of_ble_eq_true rfl, Nat.le_of_ble_eq_true rfl⟩) hP hD hS hA pm_all pm_all' (fun H locs hP hD hS => ?_)
  refine lv_aload_n hx hb dX4_free_6 rfl (lv_at hl 0 rfl) ?_
  refine xreti (va_runV (As := []) (rest := [.int (gX4_setting P 0), .int 0]) ⟨hx, hb, hml, hown, hts⟩ (mX4_granted l D ck pa P   _) (cwV 0 hts gX4_free_X4_granted rfl rfl rfl (by decide +kernel) ⟨Nat.le_of_ble_eq_true rfl, Nat.le_of_ble_eq_true rfl⟩) (xpreV hN hK hP hD pm_all 0 rfl rfl rfl) rfl rfl hl.1 rfl (lv_room (Nat.le_of_ble_eq_true rfl)) dX4_free_7 ⟨Nat.le_of_ble_eq_true rfl, Nat.le_of_ble_eq_true rfl⟩) hP hD hS hA pm_all pm_all' (fun H locs hP hD hS => ?_)
  refine lv_isub hx hb dX4_free_10 ?_
  refine va_mmax hx hb (hml.trans hl.1.symm) hown (hts (.methodLink RX4 98 Lib.Math.max.name) (List.mem_of_getElem? (i := 1) rfl)) (hts (.static Lib.Math.max.name) (List.mem_of_getElem? (i := 2) rfl)) (hts (.initialized "java/lang/Math") (List.mem_of_getElem? (i := 3) rfl)) (hts (.code Lib.Math.max.name Lib.Math.max.code 2 (some .int)) (List.mem_of_getElem? (i := 4) rfl)) (Nat.le_of_ble_eq_true rfl) (Nat.le_of_ble_eq_true rfl) (Nat.le_of_ble_eq_true rfl) (Nat.le_of_ble_eq_true rfl) dX4_free_11 ?_
  exact xiret hx hb hr hlk hP hD hS (show gX4_free P = (if 0 < ((gX4_setting P 0) - (gX4_granted P )) then ((gX4_setting P 0) - (gX4_granted P )) else 0) from rfl).symm rfl dX4_free_14

def rmX4_isAhead : Room := { frames := 1, cells := 0, slots := 0, locals := 21 }
def gX4_isAhead (P : PS) (a1 : Nat) (a2 : Nat) : Int32 := (if (gX4_setting P 1) = 1 then (if (gX1_need (nI a1) (P.2.2 a1) ) = (gX1_need (nI a2) (P.2.2 a2) ) then (if (gX1_number (nI a2) (P.2.2 a2) ) ≤ (gX1_number (nI a1) (P.2.2 a1) ) then 0 else 1) else (if (gX1_need (nI a2) (P.2.2 a2) ) ≤ (gX1_need (nI a1) (P.2.2 a1) ) then 0 else 1)) else (if (gX1_number (nI a2) (P.2.2 a2) ) ≤ (gX1_number (nI a1) (P.2.2 a1) ) then 0 else 1))
set_option maxHeartbeats 4000000 in
set_option maxRecDepth 100000 in
theorem mX4_isAhead (l : Launch) (D : va_G) (ck : Nat → ClassId) (pa : Nat → Nat) (P : PS) (a1 : Nat) (a2 : Nat) (h1 : a1 < 16) (h2 : a2 < 16) : xMi l yX4_isAhead wsX4_isAhead rmX4_isAhead D ck [.ref (pa 0), .ref (jA pa a1), .ref (jA pa a2)] (poolW ck pa P) (poolW ck pa P) (gX4_isAhead P a1 a2) 0 0 := by
  refine xMet (by decide) rfl (Nat.le_of_ble_eq_true rfl) ?_
  intro zp ze s zm zb zt zc hx hb hr hml hown hts hlk hnm hN hK hP hD ls hl
  have hown : s.vm.findClass RX4 = some zm.cls := hown
  have hl : lv_has ls 5 [(0, .ref (pa 0)), (1, .ref (jA pa a1)), (2, .ref (jA pa a2))] := hl
  have hS : va_S (va_A (poolW ck pa P) s.heap.size) s.heap s.heap [] := va_S.rf
  have hA : ∀ zq : Nat, s.heap.size ≤ zq → va_A (poolW ck pa P) s.heap.size zq := fun zq h => Or.inr h
  refine lv_aload_n hx hb dX4_isAhead_0 rfl (lv_at hl 1 rfl) ?_
  refine xreti (va_runV (As := []) (rest := []) ⟨hx, hb, hml, hown, hts⟩ (mX1_need l D ck (jA pa a1) (qA pa a1) (nI a1) (P.2.2 a1)  _) (cwV 0 hts gX4_isAhead_X1_need rfl rfl rfl (by decide +kernel) ⟨Nat.le_of_ble_eq_true rfl, Nat.le_of_ble_eq_true rfl⟩) (xpreV hN hK hP hD (pm_pj (P := P) (by omega)) 0 rfl rfl rfl) rfl rfl hl.1 rfl (lv_room (Nat.le_of_ble_eq_true rfl)) dX4_isAhead_1 ⟨Nat.le_of_ble_eq_true rfl, Nat.le_of_ble_eq_true rfl⟩) hP hD hS hA (pm_pj (P := P) (by omega)) (pm_pj (P := P) (by omega)).symm (fun H locs hP hD hS => ?_)
  refine lv_istore_n (lv' := [(3, .int (gX1_need (nI a1) (P.2.2 a1) )), (0, .ref (pa 0)), (1, .ref (jA pa a1)), (2, .ref (jA pa a2))]) hx hb dX4_isAhead_4 rfl hl (by decide) rfl (fun ls hl => ?_)
  refine lv_aload_n hx hb dX4_isAhead_5 rfl (lv_at hl 3 rfl) ?_
  refine xreti (va_runV (As := []) (rest := []) ⟨hx, hb, hml, hown, hts⟩ (mX1_need l D ck (jA pa a2) (qA pa a2) (nI a2) (P.2.2 a2)  _) (cwV 0 hts gX4_isAhead_X1_need rfl rfl rfl (by decide +kernel) ⟨Nat.le_of_ble_eq_true rfl, Nat.le_of_ble_eq_true rfl⟩) (xpreV hN hK hP hD (pm_pj (P := P) (by omega)) 0 rfl rfl rfl) rfl rfl hl.1 rfl (lv_room (Nat.le_of_ble_eq_true rfl)) dX4_isAhead_6 ⟨Nat.le_of_ble_eq_true rfl, Nat.le_of_ble_eq_true rfl⟩) hP hD hS hA (pm_pj (P := P) (by omega)) (pm_pj (P := P) (by omega)).symm (fun H locs hP hD hS => ?_)
  refine lv_istore (lv' := [(4, .int (gX1_need (nI a2) (P.2.2 a2) )), (3, .int (gX1_need (nI a1) (P.2.2 a1) )), (0, .ref (pa 0)), (1, .ref (jA pa a1)), (2, .ref (jA pa a2))]) hx hb dX4_isAhead_9 hl (by decide) rfl (fun ls hl => ?_)
  refine lv_aload_n hx hb dX4_isAhead_11 rfl (lv_at hl 2 rfl) ?_
  refine lv_iconst (v := 1) hx hb dX4_isAhead_12 (by decide) ?_
  refine xreti (va_runV (As := [.int 1]) (rest := []) ⟨hx, hb, hml, hown, hts⟩ (mX4_setting l D ck pa P 1  _) (cwV 1 hts gX4_isAhead_X4_setting rfl rfl rfl (by decide +kernel) ⟨Nat.le_of_ble_eq_true rfl, Nat.le_of_ble_eq_true rfl⟩) (xpreV hN hK hP hD pm_all 0 rfl rfl rfl) rfl rfl hl.1 rfl (lv_room (Nat.le_of_ble_eq_true rfl)) dX4_isAhead_13 ⟨Nat.le_of_ble_eq_true rfl, Nat.le_of_ble_eq_true rfl⟩) hP hD hS hA pm_all pm_all' (fun H locs hP hD hS => ?_)
  refine lv_iconst (v := 1) hx hb dX4_isAhead_16 (by decide) ?_
  refine lv_icmp_ne (tgt := 38) hx hb dX4_isAhead_17 (by decide) (fun c_17 => ?_) (fun c_17 => ?_)
  · --t
    refine lv_aload_n hx hb dX4_isAhead_38 rfl (lv_at hl 3 rfl) ?_
    refine xreti (va_runV (As := []) (rest := []) ⟨hx, hb, hml, hown, hts⟩ (mX1_number l D ck (jA pa a1) (qA pa a1) (nI a1) (P.2.2 a1)  _) (cwV 0 hts gX4_isAhead_X1_number rfl rfl rfl (by decide +kernel) ⟨Nat.le_of_ble_eq_true rfl, Nat.le_of_ble_eq_true rfl⟩) (xpreV hN hK hP hD (pm_pj (P := P) (by omega)) 0 rfl rfl rfl) rfl rfl hl.1 rfl (lv_room (Nat.le_of_ble_eq_true rfl)) dX4_isAhead_39 ⟨Nat.le_of_ble_eq_true rfl, Nat.le_of_ble_eq_true rfl⟩) hP hD hS hA (pm_pj (P := P) (by omega)) (pm_pj (P := P) (by omega)).symm (fun H locs hP hD hS => ?_)
    refine lv_aload_n hx hb dX4_isAhead_42 rfl (lv_at hl 4 rfl) ?_
    refine xreti (va_runV (As := []) (rest := [.int (gX1_number (nI a1) (P.2.2 a1) )]) ⟨hx, hb, hml, hown, hts⟩ (mX1_number l D ck (jA pa a2) (qA pa a2) (nI a2) (P.2.2 a2)  _) (cwV 0 hts gX4_isAhead_X1_number rfl rfl rfl (by decide +kernel) ⟨Nat.le_of_ble_eq_true rfl, Nat.le_of_ble_eq_true rfl⟩) (xpreV hN hK hP hD (pm_pj (P := P) (by omega)) 0 rfl rfl rfl) rfl rfl hl.1 rfl (lv_room (Nat.le_of_ble_eq_true rfl)) dX4_isAhead_43 ⟨Nat.le_of_ble_eq_true rfl, Nat.le_of_ble_eq_true rfl⟩) hP hD hS hA (pm_pj (P := P) (by omega)) (pm_pj (P := P) (by omega)).symm (fun H locs hP hD hS => ?_)
    refine lv_icmp_ge (tgt := 53) hx hb dX4_isAhead_46 (by decide) (fun c_46 => ?_) (fun c_46 => ?_)
    · --t
      refine lv_iconst (v := 0) hx hb dX4_isAhead_53 (by decide) ?_
      exact xzret hx hb hr hlk hP hD hS (Or.inl rfl) (show gX4_isAhead P a1 a2 = 0 from (Eq.trans (if_neg c_17) (Eq.trans (if_pos c_46) rfl))).symm rfl dX4_isAhead_54
    · --f
      refine lv_iconst (v := 1) hx hb dX4_isAhead_49 (by decide) ?_
      refine lv_goto (tgt := 54) hx hb dX4_isAhead_50 (by decide) ?_
      exact xzret hx hb hr hlk hP hD hS (Or.inr rfl) (show gX4_isAhead P a1 a2 = 1 from (Eq.trans (if_neg c_17) (Eq.trans (if_neg c_46) rfl))).symm rfl dX4_isAhead_54
  · --f
    refine lv_iload_n hx hb dX4_isAhead_20 rfl (lv_at hl 1 rfl) ?_
    refine lv_iload hx hb dX4_isAhead_21 (lv_at hl 0 rfl) ?_
    refine lv_icmp_eq (tgt := 38) hx hb dX4_isAhead_23 (by decide) (fun c_23 => ?_) (fun c_23 => ?_)
    · --t
      refine lv_aload_n hx hb dX4_isAhead_38 rfl (lv_at hl 3 rfl) ?_
      refine xreti (va_runV (As := []) (rest := []) ⟨hx, hb, hml, hown, hts⟩ (mX1_number l D ck (jA pa a1) (qA pa a1) (nI a1) (P.2.2 a1)  _) (cwV 0 hts gX4_isAhead_X1_number rfl rfl rfl (by decide +kernel) ⟨Nat.le_of_ble_eq_true rfl, Nat.le_of_ble_eq_true rfl⟩) (xpreV hN hK hP hD (pm_pj (P := P) (by omega)) 0 rfl rfl rfl) rfl rfl hl.1 rfl (lv_room (Nat.le_of_ble_eq_true rfl)) dX4_isAhead_39 ⟨Nat.le_of_ble_eq_true rfl, Nat.le_of_ble_eq_true rfl⟩) hP hD hS hA (pm_pj (P := P) (by omega)) (pm_pj (P := P) (by omega)).symm (fun H locs hP hD hS => ?_)
      refine lv_aload_n hx hb dX4_isAhead_42 rfl (lv_at hl 4 rfl) ?_
      refine xreti (va_runV (As := []) (rest := [.int (gX1_number (nI a1) (P.2.2 a1) )]) ⟨hx, hb, hml, hown, hts⟩ (mX1_number l D ck (jA pa a2) (qA pa a2) (nI a2) (P.2.2 a2)  _) (cwV 0 hts gX4_isAhead_X1_number rfl rfl rfl (by decide +kernel) ⟨Nat.le_of_ble_eq_true rfl, Nat.le_of_ble_eq_true rfl⟩) (xpreV hN hK hP hD (pm_pj (P := P) (by omega)) 0 rfl rfl rfl) rfl rfl hl.1 rfl (lv_room (Nat.le_of_ble_eq_true rfl)) dX4_isAhead_43 ⟨Nat.le_of_ble_eq_true rfl, Nat.le_of_ble_eq_true rfl⟩) hP hD hS hA (pm_pj (P := P) (by omega)) (pm_pj (P := P) (by omega)).symm (fun H locs hP hD hS => ?_)
      refine lv_icmp_ge (tgt := 53) hx hb dX4_isAhead_46 (by decide) (fun c_46 => ?_) (fun c_46 => ?_)
      · --t
        refine lv_iconst (v := 0) hx hb dX4_isAhead_53 (by decide) ?_
        exact xzret hx hb hr hlk hP hD hS (Or.inl rfl) (show gX4_isAhead P a1 a2 = 0 from (Eq.trans (if_pos c_17) (Eq.trans (if_pos c_23) (Eq.trans (if_pos c_46) rfl)))).symm rfl dX4_isAhead_54
      · --f
        refine lv_iconst (v := 1) hx hb dX4_isAhead_49 (by decide) ?_
        refine lv_goto (tgt := 54) hx hb dX4_isAhead_50 (by decide) ?_
        exact xzret hx hb hr hlk hP hD hS (Or.inr rfl) (show gX4_isAhead P a1 a2 = 1 from (Eq.trans (if_pos c_17) (Eq.trans (if_pos c_23) (Eq.trans (if_neg c_46) rfl)))).symm rfl dX4_isAhead_54
    · --f
      refine lv_iload_n hx hb dX4_isAhead_26 rfl (lv_at hl 1 rfl) ?_
      refine lv_iload hx hb dX4_isAhead_27 (lv_at hl 0 rfl) ?_
      refine lv_icmp_ge (tgt := 36) hx hb dX4_isAhead_29 (by decide) (fun c_29 => ?_) (fun c_29 => ?_)
      · --t
        refine lv_iconst (v := 0) hx hb dX4_isAhead_36 (by decide) ?_
        exact xzret hx hb hr hlk hP hD hS (Or.inl rfl) (show gX4_isAhead P a1 a2 = 0 from (Eq.trans (if_pos c_17) (Eq.trans (if_neg c_23) (Eq.trans (if_pos c_29) rfl)))).symm rfl dX4_isAhead_37
      · --f
        refine lv_iconst (v := 1) hx hb dX4_isAhead_32 (by decide) ?_
        refine lv_goto (tgt := 37) hx hb dX4_isAhead_33 (by decide) ?_
        exact xzret hx hb hr hlk hP hD hS (Or.inr rfl) (show gX4_isAhead P a1 a2 = 1 from (Eq.trans (if_pos c_17) (Eq.trans (if_neg c_23) (Eq.trans (if_neg c_29) rfl)))).symm rfl dX4_isAhead_37

def rmX4_rankOf : Room := { frames := 2, cells := 0, slots := 0, locals := 45 }
def gX4_rankOf_L14 (P : PS) (a1 : Nat) : Nat → Nat → Int32 → Int32
  | 0, i, x1 => x1
  | f + 1, i, x1 => (if (gX1_isIn (nI i) (P.2.2 i) 0) = 0 then (gX4_rankOf_L14 P a1 f (i + 1) x1) else (if (gX4_isAhead P i a1) = 0 then (gX4_rankOf_L14 P a1 f (i + 1) x1) else (gX4_rankOf_L14 P a1 f (i + 1) (x1 + 1))))
def gX4_rankOf (P : PS) (a1 : Nat) : Int32 := (gX4_rankOf_L14 P a1 16 0 0)
set_option maxHeartbeats 4000000 in
set_option maxRecDepth 100000 in
theorem mX4_rankOf (l : Launch) (D : va_G) (ck : Nat → ClassId) (pa : Nat → Nat) (P : PS) (a1 : Nat) (h1 : a1 < 16) : xMi l yX4_rankOf wsX4_rankOf rmX4_rankOf D ck [.ref (pa 0), .ref (jA pa a1)] (poolW ck pa P) (poolW ck pa P) (gX4_rankOf P a1) 0 0 := by
  refine xMet (by decide) rfl (Nat.le_of_ble_eq_true rfl) ?_
  intro zp ze s zm zb zt zc hx hb hr hml hown hts hlk hnm hN hK hP hD ls hl
  have hown : s.vm.findClass RX4 = some zm.cls := hown
  have hl : lv_has ls 7 [(0, .ref (pa 0)), (1, .ref (jA pa a1))] := hl
  have hS : va_S (va_A (poolW ck pa P) s.heap.size) s.heap s.heap [] := va_S.rf
  have hA : ∀ zq : Nat, s.heap.size ≤ zq → va_A (poolW ck pa P) s.heap.size zq := fun zq h => Or.inr h
  have hinX4 : ∀ w ∈ u_ws RX4 TX4 7, w ∈ wsX4_rankOf := by decide +kernel
  refine lv_iconst (v := 0) hx hb dX4_rankOf_0 (by decide) ?_
  refine lv_istore_n (lv' := [(2, .int 0), (0, .ref (pa 0)), (1, .ref (jA pa a1))]) hx hb dX4_rankOf_1 rfl hl (by decide) rfl (fun ls hl => ?_)
  refine lv_aload_n hx hb dX4_rankOf_2 rfl (lv_at hl 1 rfl) ?_
  refine va_get (D := D) (ci := 4) (v := .ref (pa 2)) (C := RX4) (T := TX4) (N := 7) hx hb hts hinX4 hown hK hP 0 rfl rfl 1 (by decide) (hts (.fieldLink RX4 25 "JoinGrants$Pool" "joins" "[LJoinGrants$Join;") (List.mem_of_getElem? (i := 1) rfl)) (fun _ h9 => h9) rfl dX4_rankOf_3 ?_
  refine lv_astore_n (lv' := [(3, .ref (pa 2)), (2, .int 0), (0, .ref (pa 0)), (1, .ref (jA pa a1))]) hx hb dX4_rankOf_6 rfl hl (by decide) rfl (fun ls hl => ?_)
  refine lv_aload_n hx hb dX4_rankOf_7 rfl (lv_at hl 0 rfl) ?_
  refine va_alen hx hb hK hP 2 2 rfl rfl (v := (nI 16)) rfl dX4_rankOf_8 ?_
  refine lv_istore (lv' := [(4, .int (nI 16)), (3, .ref (pa 2)), (2, .int 0), (0, .ref (pa 0)), (1, .ref (jA pa a1))]) hx hb dX4_rankOf_9 hl (by decide) rfl (fun ls hl => ?_)
  refine lv_iconst (v := (nI 0)) hx hb dX4_rankOf_11 (by decide) ?_
  refine lv_istore (lv' := [(5, .int (nI 0)), (4, .int (nI 16)), (3, .ref (pa 2)), (2, .int 0), (0, .ref (pa 0)), (1, .ref (jA pa a1))]) hx hb dX4_rankOf_12 hl (by decide) rfl (fun ls hl => ?_)
  have loop14 : ∀ (f : Nat) (i : Nat) (x1 : Int32), (i + f = 16) → gX4_rankOf P a1 = gX4_rankOf_L14 P a1 f i x1 → ∀ (H : Heap) (locs : List Loc) (ls : Array Slot), va_P D vwCl (poolW ck pa P) H → va_D (va_A (poolW ck pa P) s.heap.size) (poolW ck pa P) → va_S (va_A (poolW ck pa P) s.heap.size) s.heap H locs → lv_has ls 7 [(0, .ref (pa 0)), (1, .ref (jA pa a1)), (2, .int x1), (3, .ref (pa 2)), (4, .int (nI 16)), (5, .int (nI i))] → W zp l ze rmX4_rankOf s zm ([.ref (pa 0), .ref (jA pa a1)] : List Value).toArray zb zt zc H locs 0 0 (MQ zb (xQi D (poolW ck pa P) (poolW ck pa P) (gX4_rankOf P a1) s.heap.size) ([.ref (pa 0), .ref (jA pa a1)] : List Value).toArray s 0 0 (va_A (poolW ck pa P) s.heap.size)) (F0 zm 14 ls []) := by
    intro f
    induction f with
    | zero =>
      intro i x1 hif hg H locs ls hP hD hS hl
      refine lv_iload hx hb dX4_rankOf_14 (lv_at hl 5 rfl) ?_
      refine lv_iload hx hb dX4_rankOf_16 (lv_at hl 4 rfl) ?_
      refine lv_icmp_ge (tgt := 55) hx hb dX4_rankOf_18 (by decide) (fun c_18 => ?_) (fun c_18 => ?_)
      · --t
        refine lv_iload_n hx hb dX4_rankOf_55 rfl (lv_at hl 2 rfl) ?_
        exact xiret hx hb hr hlk hP hD hS (hg.trans (show gX4_rankOf_L14 P a1 0 i x1 = x1 from rfl)).symm rfl dX4_rankOf_56
      · --f
        exact absurd (nI_le (by omega) (by omega)) c_18
    | succ f ih14 =>
      intro i x1 hif hg H locs ls hP hD hS hl
      refine lv_iload hx hb dX4_rankOf_14 (lv_at hl 5 rfl) ?_
      refine lv_iload hx hb dX4_rankOf_16 (lv_at hl 4 rfl) ?_
      refine lv_icmp_ge (tgt := 55) hx hb dX4_rankOf_18 (by decide) (fun c_18 => ?_) (fun c_18 => ?_)
      · --t
        exact absurd c_18 (nI_ge (by omega) (by omega))
      · --f
        refine lv_aload_n hx hb dX4_rankOf_21 rfl (lv_at hl 3 rfl) ?_
        refine lv_iload hx hb dX4_rankOf_22 (lv_at hl 5 rfl) ?_
        refine xaldq (j := i) (b := jA pa i) (nI_clamp (by omega)) hx hb hK hP 2 2 rfl rfl (vp_in_nI (by omega) (by omega)) rfl dX4_rankOf_24 ?_
        refine lv_astore (lv' := [(6, .ref (jA pa i)), (0, .ref (pa 0)), (1, .ref (jA pa a1)), (2, .int x1), (3, .ref (pa 2)), (4, .int (nI 16)), (5, .int (nI i))]) hx hb dX4_rankOf_25 hl (by decide) rfl (fun ls hl => ?_)
        refine lv_aload hx hb dX4_rankOf_27 (lv_at hl 0 rfl) ?_
        refine lv_iconst (v := 0) hx hb dX4_rankOf_29 (by decide) ?_
        refine xreti (va_runV (As := [.int 0]) (rest := []) ⟨hx, hb, hml, hown, hts⟩ (mX1_isIn l D ck (jA pa i) (qA pa i) (nI i) (P.2.2 i) 0 _) (cwV 1 hts gX4_rankOf_X1_isIn rfl rfl rfl (by decide +kernel) ⟨Nat.le_of_ble_eq_true rfl, Nat.le_of_ble_eq_true rfl⟩) (xpreV hN hK hP hD (pm_pj (P := P) (by omega)) 0 rfl rfl rfl) rfl rfl hl.1 rfl (lv_room (Nat.le_of_ble_eq_true rfl)) dX4_rankOf_30 ⟨Nat.le_of_ble_eq_true rfl, Nat.le_of_ble_eq_true rfl⟩) hP hD hS hA (pm_pj (P := P) (by omega)) (pm_pj (P := P) (by omega)).symm (fun H locs hP hD hS => ?_)
        refine lv_if_eq (tgt := 49) hx hb dX4_rankOf_33 (by decide) (fun c_33 => ?_) (fun c_33 => ?_)
        · --t
          refine lv_iinc (v := (nI (i + 1))) (lv' := [(5, .int (nI (i + 1))), (6, .ref (jA pa i)), (0, .ref (pa 0)), (1, .ref (jA pa a1)), (2, .int x1), (3, .ref (pa 2)), (4, .int (nI 16))]) hx hb dX4_rankOf_49 hl (k := 6) rfl (nI_1 i) (by decide) rfl (fun ls hl => ?_)
          refine lv_goto (tgt := 14) hx hb dX4_rankOf_52 (by decide) ?_
          exact ih14 (i + 1) x1 (by omega) (hg.trans (show gX4_rankOf_L14 P a1 (f + 1) i x1 = (gX4_rankOf_L14 P a1 f (i + 1) x1) from (Eq.trans (if_pos c_33) rfl))) _ _ _ hP hD hS (lv_sub hl [2, 3, 4, 5, 6, 0] rfl)
        · --f
          refine lv_aload_n hx hb dX4_rankOf_36 rfl (lv_at hl 1 rfl) ?_
          refine lv_aload hx hb dX4_rankOf_37 (lv_at hl 0 rfl) ?_
          refine lv_aload_n hx hb dX4_rankOf_39 rfl (lv_at hl 2 rfl) ?_
          refine xreti (va_runV (As := [.ref (jA pa i), .ref (jA pa a1)]) (rest := []) ⟨hx, hb, hml, hown, hts⟩ (mX4_isAhead l D ck pa P i a1 (by omega) (by omega) _) (cwV 2 hts gX4_rankOf_X4_isAhead rfl rfl rfl (by decide +kernel) ⟨Nat.le_of_ble_eq_true rfl, Nat.le_of_ble_eq_true rfl⟩) (xpreV hN hK hP hD pm_all 0 rfl rfl rfl) rfl rfl hl.1 rfl (lv_room (Nat.le_of_ble_eq_true rfl)) dX4_rankOf_40 ⟨Nat.le_of_ble_eq_true rfl, Nat.le_of_ble_eq_true rfl⟩) hP hD hS hA pm_all pm_all' (fun H locs hP hD hS => ?_)
          refine lv_if_eq (tgt := 49) hx hb dX4_rankOf_43 (by decide) (fun c_43 => ?_) (fun c_43 => ?_)
          · --t
            refine lv_iinc (v := (nI (i + 1))) (lv' := [(5, .int (nI (i + 1))), (6, .ref (jA pa i)), (0, .ref (pa 0)), (1, .ref (jA pa a1)), (2, .int x1), (3, .ref (pa 2)), (4, .int (nI 16))]) hx hb dX4_rankOf_49 hl (k := 6) rfl (nI_1 i) (by decide) rfl (fun ls hl => ?_)
            refine lv_goto (tgt := 14) hx hb dX4_rankOf_52 (by decide) ?_
            exact ih14 (i + 1) x1 (by omega) (hg.trans (show gX4_rankOf_L14 P a1 (f + 1) i x1 = (gX4_rankOf_L14 P a1 f (i + 1) x1) from (Eq.trans (if_neg c_33) (Eq.trans (if_pos c_43) rfl)))) _ _ _ hP hD hS (lv_sub hl [2, 3, 4, 5, 6, 0] rfl)
          · --f
            refine lv_iinc (v := (x1 + 1)) (lv' := [(2, .int (x1 + 1)), (6, .ref (jA pa i)), (0, .ref (pa 0)), (1, .ref (jA pa a1)), (3, .ref (pa 2)), (4, .int (nI 16)), (5, .int (nI i))]) hx hb dX4_rankOf_46 hl (k := 3) rfl rfl (by decide) rfl (fun ls hl => ?_)
            refine lv_iinc (v := (nI (i + 1))) (lv' := [(5, .int (nI (i + 1))), (2, .int (x1 + 1)), (6, .ref (jA pa i)), (0, .ref (pa 0)), (1, .ref (jA pa a1)), (3, .ref (pa 2)), (4, .int (nI 16))]) hx hb dX4_rankOf_49 hl (k := 6) rfl (nI_1 i) (by decide) rfl (fun ls hl => ?_)
            refine lv_goto (tgt := 14) hx hb dX4_rankOf_52 (by decide) ?_
            exact ih14 (i + 1) (x1 + 1) (by omega) (hg.trans (show gX4_rankOf_L14 P a1 (f + 1) i x1 = (gX4_rankOf_L14 P a1 f (i + 1) (x1 + 1)) from (Eq.trans (if_neg c_33) (Eq.trans (if_neg c_43) rfl)))) _ _ _ hP hD hS (lv_sub hl [3, 4, 1, 5, 6, 0] rfl)
  exact loop14 16 0 0 (by omega) (show gX4_rankOf P a1 = (gX4_rankOf_L14 P a1 16 0 0) from rfl) _ _ _ hP hD hS (lv_sub hl [4, 5, 3, 2, 1, 0] rfl)

def rmX4_atRank : Room := { frames := 3, cells := 0, slots := 0, locals := 71 }
def gX4_atRank_L11 (P : PS) (a1 : Int32) : Nat → Nat → Option Nat
  | 0, i => none
  | f + 1, i => (if (gX1_isIn (nI i) (P.2.2 i) 0) = 0 then (gX4_atRank_L11 P a1 f (i + 1)) else (if (gX4_rankOf P i) = a1 then (some i) else (gX4_atRank_L11 P a1 f (i + 1))))
def gX4_atRank (P : PS) (a1 : Int32) : Option Nat := (gX4_atRank_L11 P a1 16 0)
set_option maxHeartbeats 4000000 in
set_option maxRecDepth 100000 in
theorem mX4_atRank (l : Launch) (D : va_G) (ck : Nat → ClassId) (pa : Nat → Nat) (P : PS) (a1 : Int32) : xMq l yX4_atRank wsX4_atRank rmX4_atRank D ck [.ref (pa 0), .int a1] (poolW ck pa P) (poolW ck pa P) (Option.map (jA pa) (gX4_atRank P a1)) 0 0 := by
  refine xMet (by decide) rfl (Nat.le_of_ble_eq_true rfl) ?_
  intro zp ze s zm zb zt zc hx hb hr hml hown hts hlk hnm hN hK hP hD ls hl
  have hown : s.vm.findClass RX4 = some zm.cls := hown
  have hl : lv_has ls 6 [(0, .ref (pa 0)), (1, .int a1)] := hl
  have hS : va_S (va_A (poolW ck pa P) s.heap.size) s.heap s.heap [] := va_S.rf
  have hA : ∀ zq : Nat, s.heap.size ≤ zq → va_A (poolW ck pa P) s.heap.size zq := fun zq h => Or.inr h
  have hinX4 : ∀ w ∈ u_ws RX4 TX4 7, w ∈ wsX4_atRank := by decide +kernel
  refine lv_aload_n hx hb dX4_atRank_0 rfl (lv_at hl 0 rfl) ?_
  refine va_get (D := D) (ci := 4) (v := .ref (pa 2)) (C := RX4) (T := TX4) (N := 7) hx hb hts hinX4 hown hK hP 0 rfl rfl 1 (by decide) (hts (.fieldLink RX4 25 "JoinGrants$Pool" "joins" "[LJoinGrants$Join;") (List.mem_of_getElem? (i := 1) rfl)) (fun _ h9 => h9) rfl dX4_atRank_1 ?_
  refine lv_astore_n (lv' := [(2, .ref (pa 2)), (0, .ref (pa 0)), (1, .int a1)]) hx hb dX4_atRank_4 rfl hl (by decide) rfl (fun ls hl => ?_)
  refine lv_aload_n hx hb dX4_atRank_5 rfl (lv_at hl 0 rfl) ?_
  refine va_alen hx hb hK hP 2 2 rfl rfl (v := (nI 16)) rfl dX4_atRank_6 ?_
  refine lv_istore_n (lv' := [(3, .int (nI 16)), (2, .ref (pa 2)), (0, .ref (pa 0)), (1, .int a1)]) hx hb dX4_atRank_7 rfl hl (by decide) rfl (fun ls hl => ?_)
  refine lv_iconst (v := (nI 0)) hx hb dX4_atRank_8 (by decide) ?_
  refine lv_istore (lv' := [(4, .int (nI 0)), (3, .int (nI 16)), (2, .ref (pa 2)), (0, .ref (pa 0)), (1, .int a1)]) hx hb dX4_atRank_9 hl (by decide) rfl (fun ls hl => ?_)
  have loop11 : ∀ (f : Nat) (i : Nat), (i + f = 16) → gX4_atRank P a1 = gX4_atRank_L11 P a1 f i → ∀ (H : Heap) (locs : List Loc) (ls : Array Slot), va_P D vwCl (poolW ck pa P) H → va_D (va_A (poolW ck pa P) s.heap.size) (poolW ck pa P) → va_S (va_A (poolW ck pa P) s.heap.size) s.heap H locs → lv_has ls 6 [(0, .ref (pa 0)), (1, .int a1), (2, .ref (pa 2)), (3, .int (nI 16)), (4, .int (nI i))] → W zp l ze rmX4_atRank s zm ([.ref (pa 0), .int a1] : List Value).toArray zb zt zc H locs 0 0 (MQ zb (xQq D (poolW ck pa P) (poolW ck pa P) (Option.map (jA pa) (gX4_atRank P a1)) s.heap.size) ([.ref (pa 0), .int a1] : List Value).toArray s 0 0 (va_A (poolW ck pa P) s.heap.size)) (F0 zm 11 ls []) := by
    intro f
    induction f with
    | zero =>
      intro i hif hg H locs ls hP hD hS hl
      refine lv_iload hx hb dX4_atRank_11 (lv_at hl 4 rfl) ?_
      refine lv_iload_n hx hb dX4_atRank_13 rfl (lv_at hl 3 rfl) ?_
      refine lv_icmp_ge (tgt := 51) hx hb dX4_atRank_14 (by decide) (fun c_14 => ?_) (fun c_14 => ?_)
      · --t
        refine lv_null hx hb dX4_atRank_51 ?_
        exact xqret (v := none) hx hb hr hlk hP hD hS (congrArg (fun z => Option.map (jA pa) z) (hg.trans (show gX4_atRank_L11 P a1 0 i = none from rfl))).symm rfl dX4_atRank_52
      · --f
        exact absurd (nI_le (by omega) (by omega)) c_14
    | succ f ih11 =>
      intro i hif hg H locs ls hP hD hS hl
      refine lv_iload hx hb dX4_atRank_11 (lv_at hl 4 rfl) ?_
      refine lv_iload_n hx hb dX4_atRank_13 rfl (lv_at hl 3 rfl) ?_
      refine lv_icmp_ge (tgt := 51) hx hb dX4_atRank_14 (by decide) (fun c_14 => ?_) (fun c_14 => ?_)
      · --t
        exact absurd c_14 (nI_ge (by omega) (by omega))
      · --f
        refine lv_aload_n hx hb dX4_atRank_17 rfl (lv_at hl 2 rfl) ?_
        refine lv_iload hx hb dX4_atRank_18 (lv_at hl 4 rfl) ?_
        refine xaldq (j := i) (b := jA pa i) (nI_clamp (by omega)) hx hb hK hP 2 2 rfl rfl (vp_in_nI (by omega) (by omega)) rfl dX4_atRank_20 ?_
        refine lv_astore (lv' := [(5, .ref (jA pa i)), (0, .ref (pa 0)), (1, .int a1), (2, .ref (pa 2)), (3, .int (nI 16)), (4, .int (nI i))]) hx hb dX4_atRank_21 hl (by decide) rfl (fun ls hl => ?_)
        refine lv_aload hx hb dX4_atRank_23 (lv_at hl 0 rfl) ?_
        refine lv_iconst (v := 0) hx hb dX4_atRank_25 (by decide) ?_
        refine xreti (va_runV (As := [.int 0]) (rest := []) ⟨hx, hb, hml, hown, hts⟩ (mX1_isIn l D ck (jA pa i) (qA pa i) (nI i) (P.2.2 i) 0 _) (cwV 1 hts gX4_atRank_X1_isIn rfl rfl rfl (by decide +kernel) ⟨Nat.le_of_ble_eq_true rfl, Nat.le_of_ble_eq_true rfl⟩) (xpreV hN hK hP hD (pm_pj (P := P) (by omega)) 0 rfl rfl rfl) rfl rfl hl.1 rfl (lv_room (Nat.le_of_ble_eq_true rfl)) dX4_atRank_26 ⟨Nat.le_of_ble_eq_true rfl, Nat.le_of_ble_eq_true rfl⟩) hP hD hS hA (pm_pj (P := P) (by omega)) (pm_pj (P := P) (by omega)).symm (fun H locs hP hD hS => ?_)
        refine lv_if_eq (tgt := 45) hx hb dX4_atRank_29 (by decide) (fun c_29 => ?_) (fun c_29 => ?_)
        · --t
          refine lv_iinc (v := (nI (i + 1))) (lv' := [(4, .int (nI (i + 1))), (5, .ref (jA pa i)), (0, .ref (pa 0)), (1, .int a1), (2, .ref (pa 2)), (3, .int (nI 16))]) hx hb dX4_atRank_45 hl (k := 5) rfl (nI_1 i) (by decide) rfl (fun ls hl => ?_)
          refine lv_goto (tgt := 11) hx hb dX4_atRank_48 (by decide) ?_
          exact ih11 (i + 1) (by omega) (hg.trans (show gX4_atRank_L11 P a1 (f + 1) i = (gX4_atRank_L11 P a1 f (i + 1)) from (Eq.trans (if_pos c_29) rfl))) _ _ _ hP hD hS (lv_sub hl [2, 3, 4, 5, 0] rfl)
        · --f
          refine lv_aload_n hx hb dX4_atRank_32 rfl (lv_at hl 1 rfl) ?_
          refine lv_aload hx hb dX4_atRank_33 (lv_at hl 0 rfl) ?_
          refine xreti (va_runV (As := [.ref (jA pa i)]) (rest := []) ⟨hx, hb, hml, hown, hts⟩ (mX4_rankOf l D ck pa P i (by omega) _) (cwV 1 hts gX4_atRank_X4_rankOf rfl rfl rfl (by decide +kernel) ⟨Nat.le_of_ble_eq_true rfl, Nat.le_of_ble_eq_true rfl⟩) (xpreV hN hK hP hD pm_all 0 rfl rfl rfl) rfl rfl hl.1 rfl (lv_room (Nat.le_of_ble_eq_true rfl)) dX4_atRank_35 ⟨Nat.le_of_ble_eq_true rfl, Nat.le_of_ble_eq_true rfl⟩) hP hD hS hA pm_all pm_all' (fun H locs hP hD hS => ?_)
          refine lv_iload_n hx hb dX4_atRank_38 rfl (lv_at hl 2 rfl) ?_
          refine lv_icmp_ne (tgt := 45) hx hb dX4_atRank_39 (by decide) (fun c_39 => ?_) (fun c_39 => ?_)
          · --t
            refine lv_iinc (v := (nI (i + 1))) (lv' := [(4, .int (nI (i + 1))), (5, .ref (jA pa i)), (0, .ref (pa 0)), (1, .int a1), (2, .ref (pa 2)), (3, .int (nI 16))]) hx hb dX4_atRank_45 hl (k := 5) rfl (nI_1 i) (by decide) rfl (fun ls hl => ?_)
            refine lv_goto (tgt := 11) hx hb dX4_atRank_48 (by decide) ?_
            exact ih11 (i + 1) (by omega) (hg.trans (show gX4_atRank_L11 P a1 (f + 1) i = (gX4_atRank_L11 P a1 f (i + 1)) from (Eq.trans (if_neg c_29) (Eq.trans (if_neg c_39) rfl)))) _ _ _ hP hD hS (lv_sub hl [2, 3, 4, 5, 0] rfl)
          · --f
            refine lv_aload hx hb dX4_atRank_42 (lv_at hl 0 rfl) ?_
            exact xqret (v := (some (jA pa i))) hx hb hr hlk hP hD hS (congrArg (fun z => Option.map (jA pa) z) (hg.trans (show gX4_atRank_L11 P a1 (f + 1) i = (some i) from (Eq.trans (if_neg c_29) (Eq.trans (if_pos c_39) rfl))))).symm rfl dX4_atRank_44
  exact loop11 16 0 (by omega) (show gX4_atRank P a1 = (gX4_atRank_L11 P a1 16 0) from rfl) _ _ _ hP hD hS (lv_sub hl [3, 4, 2, 1, 0] rfl)

theorem lt_X4_atRank_L {P : PS} {a1 : Int32} : ∀ (f i : Nat), i + f = 16 → ∀ j, gX4_atRank_L11 P a1 f i = some j → j < 16 := by
  intro f
  induction f with
  | zero => intro i hif j h; cases h
  | succ f ih =>
    intro i hif j h
    simp only [gX4_atRank_L11] at h
    (repeat' split at h) <;> first
      | exact ih _ (by omega) j h
      | (cases h; omega)
theorem lt_X4_atRank {P : PS} {a1 : Int32} (h : ¬ gX4_atRank P a1 = none) : (gX4_atRank P a1).getD 0 < 16 := xgetD (fun j hj => lt_X4_atRank_L 16 0 (by omega) j hj) h

def rmX4_hindrance : Room := { frames := 3, cells := 0, slots := 0, locals := 71 }
def gX4_hindrance (P : PS) (a1 : Nat) : Int32 := (if (gX1_isIn (nI a1) (P.2.2 a1) 0) = 0 then 0 else (if (gX1_need (nI a1) (P.2.2 a1) ) ≤ (gX4_setting P 0) then (if (gX4_rankOf P a1) ≤ 0 then 3 else 2) else 1))
set_option maxHeartbeats 4000000 in
set_option maxRecDepth 100000 in
theorem mX4_hindrance (l : Launch) (D : va_G) (ck : Nat → ClassId) (pa : Nat → Nat) (P : PS) (a1 : Nat) (h1 : a1 < 16) : xMi l yX4_hindrance wsX4_hindrance rmX4_hindrance D ck [.ref (pa 0), .ref (jA pa a1)] (poolW ck pa P) (poolW ck pa P) (gX4_hindrance P a1) 0 0 := by
  refine xMet (by decide) rfl (Nat.le_of_ble_eq_true rfl) ?_
  intro zp ze s zm zb zt zc hx hb hr hml hown hts hlk hnm hN hK hP hD ls hl
  have hown : s.vm.findClass RX4 = some zm.cls := hown
  have hl : lv_has ls 2 [(0, .ref (pa 0)), (1, .ref (jA pa a1))] := hl
  have hS : va_S (va_A (poolW ck pa P) s.heap.size) s.heap s.heap [] := va_S.rf
  have hA : ∀ zq : Nat, s.heap.size ≤ zq → va_A (poolW ck pa P) s.heap.size zq := fun zq h => Or.inr h
  refine lv_aload_n hx hb dX4_hindrance_0 rfl (lv_at hl 1 rfl) ?_
  refine lv_iconst (v := 0) hx hb dX4_hindrance_1 (by decide) ?_
  refine xreti (va_runV (As := [.int 0]) (rest := []) ⟨hx, hb, hml, hown, hts⟩ (mX1_isIn l D ck (jA pa a1) (qA pa a1) (nI a1) (P.2.2 a1) 0 _) (cwV 1 hts gX4_hindrance_X1_isIn rfl rfl rfl (by decide +kernel) ⟨Nat.le_of_ble_eq_true rfl, Nat.le_of_ble_eq_true rfl⟩) (xpreV hN hK hP hD (pm_pj (P := P) (by omega)) 0 rfl rfl rfl) rfl rfl hl.1 rfl (lv_room (Nat.le_of_ble_eq_true rfl)) dX4_hindrance_2 ⟨Nat.le_of_ble_eq_true rfl, Nat.le_of_ble_eq_true rfl⟩) hP hD hS hA (pm_pj (P := P) (by omega)) (pm_pj (P := P) (by omega)).symm (fun H locs hP hD hS => ?_)
  refine lv_if_ne (tgt := 10) hx hb dX4_hindrance_5 (by decide) (fun c_5 => ?_) (fun c_5 => ?_)
  · --t
    refine lv_aload_n hx hb dX4_hindrance_10 rfl (lv_at hl 1 rfl) ?_
    refine xreti (va_runV (As := []) (rest := []) ⟨hx, hb, hml, hown, hts⟩ (mX1_need l D ck (jA pa a1) (qA pa a1) (nI a1) (P.2.2 a1)  _) (cwV 0 hts gX4_hindrance_X1_need rfl rfl rfl (by decide +kernel) ⟨Nat.le_of_ble_eq_true rfl, Nat.le_of_ble_eq_true rfl⟩) (xpreV hN hK hP hD (pm_pj (P := P) (by omega)) 0 rfl rfl rfl) rfl rfl hl.1 rfl (lv_room (Nat.le_of_ble_eq_true rfl)) dX4_hindrance_11 ⟨Nat.le_of_ble_eq_true rfl, Nat.le_of_ble_eq_true rfl⟩) hP hD hS hA (pm_pj (P := P) (by omega)) (pm_pj (P := P) (by omega)).symm (fun H locs hP hD hS => ?_)
    refine lv_aload_n hx hb dX4_hindrance_14 rfl (lv_at hl 0 rfl) ?_
    refine lv_iconst (v := 0) hx hb dX4_hindrance_15 (by decide) ?_
    refine xreti (va_runV (As := [.int 0]) (rest := [.int (gX1_need (nI a1) (P.2.2 a1) )]) ⟨hx, hb, hml, hown, hts⟩ (mX4_setting l D ck pa P 0  _) (cwV 1 hts gX4_hindrance_X4_setting rfl rfl rfl (by decide +kernel) ⟨Nat.le_of_ble_eq_true rfl, Nat.le_of_ble_eq_true rfl⟩) (xpreV hN hK hP hD pm_all 0 rfl rfl rfl) rfl rfl hl.1 rfl (lv_room (Nat.le_of_ble_eq_true rfl)) dX4_hindrance_16 ⟨Nat.le_of_ble_eq_true rfl, Nat.le_of_ble_eq_true rfl⟩) hP hD hS hA pm_all pm_all' (fun H locs hP hD hS => ?_)
    refine lv_icmp_le (tgt := 24) hx hb dX4_hindrance_19 (by decide) (fun c_19 => ?_) (fun c_19 => ?_)
    · --t
      refine lv_aload_n hx hb dX4_hindrance_24 rfl (lv_at hl 0 rfl) ?_
      refine lv_aload_n hx hb dX4_hindrance_25 rfl (lv_at hl 1 rfl) ?_
      refine xreti (va_runV (As := [.ref (jA pa a1)]) (rest := []) ⟨hx, hb, hml, hown, hts⟩ (mX4_rankOf l D ck pa P a1 (by omega) _) (cwV 1 hts gX4_hindrance_X4_rankOf rfl rfl rfl (by decide +kernel) ⟨Nat.le_of_ble_eq_true rfl, Nat.le_of_ble_eq_true rfl⟩) (xpreV hN hK hP hD pm_all 0 rfl rfl rfl) rfl rfl hl.1 rfl (lv_room (Nat.le_of_ble_eq_true rfl)) dX4_hindrance_26 ⟨Nat.le_of_ble_eq_true rfl, Nat.le_of_ble_eq_true rfl⟩) hP hD hS hA pm_all pm_all' (fun H locs hP hD hS => ?_)
      refine lv_if_le (tgt := 36) hx hb dX4_hindrance_29 (by decide) (fun c_29 => ?_) (fun c_29 => ?_)
      · --t
        refine lv_iconst (v := 3) hx hb dX4_hindrance_36 (by decide) ?_
        exact xiret hx hb hr hlk hP hD hS (show gX4_hindrance P a1 = 3 from (Eq.trans (if_neg c_5) (Eq.trans (if_pos c_19) (Eq.trans (if_pos c_29) rfl)))).symm rfl dX4_hindrance_37
      · --f
        refine lv_iconst (v := 2) hx hb dX4_hindrance_32 (by decide) ?_
        refine lv_goto (tgt := 37) hx hb dX4_hindrance_33 (by decide) ?_
        exact xiret hx hb hr hlk hP hD hS (show gX4_hindrance P a1 = 2 from (Eq.trans (if_neg c_5) (Eq.trans (if_pos c_19) (Eq.trans (if_neg c_29) rfl)))).symm rfl dX4_hindrance_37
    · --f
      refine lv_iconst (v := 1) hx hb dX4_hindrance_22 (by decide) ?_
      exact xiret hx hb hr hlk hP hD hS (show gX4_hindrance P a1 = 1 from (Eq.trans (if_neg c_5) (Eq.trans (if_neg c_19) rfl))).symm rfl dX4_hindrance_23
  · --f
    refine lv_iconst (v := 0) hx hb dX4_hindrance_8 (by decide) ?_
    exact xiret hx hb hr hlk hP hD hS (show gX4_hindrance P a1 = 0 from (Eq.trans (if_pos c_5) rfl)).symm rfl dX4_hindrance_9

def rmX4_firstInQueue : Room := { frames := 2, cells := 0, slots := 0, locals := 45 }
def gX4_firstInQueue_L13 (P : PS) : Nat → Nat → Option Nat → Option Nat
  | 0, i, o1 => (if o1 = none then none else (some (o1.getD 0)))
  | f + 1, i, o1 => (if o1 = none then (if (gX1_isIn (nI i) (P.2.2 i) 0) = 0 then (gX4_firstInQueue_L13 P f (i + 1) none) else (gX4_firstInQueue_L13 P f (i + 1) (some i))) else (if (gX1_isIn (nI i) (P.2.2 i) 0) = 0 then (gX4_firstInQueue_L13 P f (i + 1) (some (o1.getD 0))) else (if (gX4_isAhead P i (o1.getD 0)) = 0 then (gX4_firstInQueue_L13 P f (i + 1) (some (o1.getD 0))) else (gX4_firstInQueue_L13 P f (i + 1) (some i)))))
def gX4_firstInQueue (P : PS) : Option Nat := (gX4_firstInQueue_L13 P 16 0 none)
set_option maxHeartbeats 4000000 in
set_option maxRecDepth 100000 in
theorem mX4_firstInQueue (l : Launch) (D : va_G) (ck : Nat → ClassId) (pa : Nat → Nat) (P : PS) : xMq l yX4_firstInQueue wsX4_firstInQueue rmX4_firstInQueue D ck [.ref (pa 0)] (poolW ck pa P) (poolW ck pa P) (Option.map (jA pa) (gX4_firstInQueue P)) 0 0 := by
  refine xMet (by decide) rfl (Nat.le_of_ble_eq_true rfl) ?_
  intro zp ze s zm zb zt zc hx hb hr hml hown hts hlk hnm hN hK hP hD ls hl
  have hown : s.vm.findClass RX4 = some zm.cls := hown
  have hl : lv_has ls 6 [(0, .ref (pa 0))] := hl
  have hS : va_S (va_A (poolW ck pa P) s.heap.size) s.heap s.heap [] := va_S.rf
  have hA : ∀ zq : Nat, s.heap.size ≤ zq → va_A (poolW ck pa P) s.heap.size zq := fun zq h => Or.inr h
  have hinX4 : ∀ w ∈ u_ws RX4 TX4 7, w ∈ wsX4_firstInQueue := by decide +kernel
  refine lv_null hx hb dX4_firstInQueue_0 ?_
  refine lv_astore_nN (lv' := [(1, .null), (0, .ref (pa 0))]) hx hb dX4_firstInQueue_1 rfl hl (by decide) rfl (fun ls hl => ?_)
  refine lv_aload_n hx hb dX4_firstInQueue_2 rfl (lv_at hl 1 rfl) ?_
  refine va_get (D := D) (ci := 4) (v := .ref (pa 2)) (C := RX4) (T := TX4) (N := 7) hx hb hts hinX4 hown hK hP 0 rfl rfl 1 (by decide) (hts (.fieldLink RX4 25 "JoinGrants$Pool" "joins" "[LJoinGrants$Join;") (List.mem_of_getElem? (i := 1) rfl)) (fun _ h9 => h9) rfl dX4_firstInQueue_3 ?_
  refine lv_astore_n (lv' := [(2, .ref (pa 2)), (1, .null), (0, .ref (pa 0))]) hx hb dX4_firstInQueue_6 rfl hl (by decide) rfl (fun ls hl => ?_)
  refine lv_aload_n hx hb dX4_firstInQueue_7 rfl (lv_at hl 0 rfl) ?_
  refine va_alen hx hb hK hP 2 2 rfl rfl (v := (nI 16)) rfl dX4_firstInQueue_8 ?_
  refine lv_istore_n (lv' := [(3, .int (nI 16)), (2, .ref (pa 2)), (1, .null), (0, .ref (pa 0))]) hx hb dX4_firstInQueue_9 rfl hl (by decide) rfl (fun ls hl => ?_)
  refine lv_iconst (v := (nI 0)) hx hb dX4_firstInQueue_10 (by decide) ?_
  refine lv_istore (lv' := [(4, .int (nI 0)), (3, .int (nI 16)), (2, .ref (pa 2)), (1, .null), (0, .ref (pa 0))]) hx hb dX4_firstInQueue_11 hl (by decide) rfl (fun ls hl => ?_)
  have loop13 : ∀ (f : Nat) (i : Nat) (o1 : Option Nat), (i + f = 16) → (∀ j, o1 = some j → j < 16) → gX4_firstInQueue P = gX4_firstInQueue_L13 P f i o1 → ∀ (H : Heap) (locs : List Loc) (ls : Array Slot), va_P D vwCl (poolW ck pa P) H → va_D (va_A (poolW ck pa P) s.heap.size) (poolW ck pa P) → va_S (va_A (poolW ck pa P) s.heap.size) s.heap H locs → lv_has ls 6 [(0, .ref (pa 0)), (1, (va_rf (Option.map (jA pa) o1))), (2, .ref (pa 2)), (3, .int (nI 16)), (4, .int (nI i))] → W zp l ze rmX4_firstInQueue s zm ([.ref (pa 0)] : List Value).toArray zb zt zc H locs 0 0 (MQ zb (xQq D (poolW ck pa P) (poolW ck pa P) (Option.map (jA pa) (gX4_firstInQueue P)) s.heap.size) ([.ref (pa 0)] : List Value).toArray s 0 0 (va_A (poolW ck pa P) s.heap.size)) (F0 zm 13 ls []) := by
    intro f
    induction f with
    | zero =>
      intro i o1 hif ho hg H locs ls hP hD hS hl
      by_cases co : o1 = none
      ·
        rw [xrf_none co] at hl
        refine lv_iload hx hb dX4_firstInQueue_13 (lv_at hl 4 rfl) ?_
        refine lv_iload_n hx hb dX4_firstInQueue_15 rfl (lv_at hl 3 rfl) ?_
        refine lv_icmp_ge (tgt := 57) hx hb dX4_firstInQueue_16 (by decide) (fun c_16 => ?_) (fun c_16 => ?_)
        · --t
          refine lv_aload_nN hx hb dX4_firstInQueue_57 rfl (lv_at hl 1 rfl) ?_
          exact xqret (v := none) hx hb hr hlk hP hD hS (congrArg (fun z => Option.map (jA pa) z) (hg.trans (show gX4_firstInQueue_L13 P 0 i o1 = none from (Eq.trans (if_pos co) rfl)))).symm rfl dX4_firstInQueue_58
        · --f
          exact absurd (nI_le (by omega) (by omega)) c_16
      ·
        rw [xrf_some co] at hl
        have hlt : o1.getD 0 < 16 := xgetD ho co
        refine lv_iload hx hb dX4_firstInQueue_13 (lv_at hl 4 rfl) ?_
        refine lv_iload_n hx hb dX4_firstInQueue_15 rfl (lv_at hl 3 rfl) ?_
        refine lv_icmp_ge (tgt := 57) hx hb dX4_firstInQueue_16 (by decide) (fun c_16 => ?_) (fun c_16 => ?_)
        · --t
          refine lv_aload_n hx hb dX4_firstInQueue_57 rfl (lv_at hl 1 rfl) ?_
          exact xqret (v := (some (jA pa (o1.getD 0)))) hx hb hr hlk hP hD hS (congrArg (fun z => Option.map (jA pa) z) (hg.trans (show gX4_firstInQueue_L13 P 0 i o1 = (some (o1.getD 0)) from (Eq.trans (if_neg co) rfl)))).symm rfl dX4_firstInQueue_58
        · --f
          exact absurd (nI_le (by omega) (by omega)) c_16
    | succ f ih13 =>
      intro i o1 hif ho hg H locs ls hP hD hS hl
      by_cases co : o1 = none
      ·
        rw [xrf_none co] at hl
        refine lv_iload hx hb dX4_firstInQueue_13 (lv_at hl 4 rfl) ?_
        refine lv_iload_n hx hb dX4_firstInQueue_15 rfl (lv_at hl 3 rfl) ?_
        refine lv_icmp_ge (tgt := 57) hx hb dX4_firstInQueue_16 (by decide) (fun c_16 => ?_) (fun c_16 => ?_)
        · --t
          exact absurd c_16 (nI_ge (by omega) (by omega))
        · --f
          refine lv_aload_n hx hb dX4_firstInQueue_19 rfl (lv_at hl 2 rfl) ?_
          refine lv_iload hx hb dX4_firstInQueue_20 (lv_at hl 4 rfl) ?_
          refine xaldq (j := i) (b := jA pa i) (nI_clamp (by omega)) hx hb hK hP 2 2 rfl rfl (vp_in_nI (by omega) (by omega)) rfl dX4_firstInQueue_22 ?_
          refine lv_astore (lv' := [(5, .ref (jA pa i)), (0, .ref (pa 0)), (1, .null), (2, .ref (pa 2)), (3, .int (nI 16)), (4, .int (nI i))]) hx hb dX4_firstInQueue_23 hl (by decide) rfl (fun ls hl => ?_)
          refine lv_aload hx hb dX4_firstInQueue_25 (lv_at hl 0 rfl) ?_
          refine lv_iconst (v := 0) hx hb dX4_firstInQueue_27 (by decide) ?_
          refine xreti (va_runV (As := [.int 0]) (rest := []) ⟨hx, hb, hml, hown, hts⟩ (mX1_isIn l D ck (jA pa i) (qA pa i) (nI i) (P.2.2 i) 0 _) (cwV 1 hts gX4_firstInQueue_X1_isIn rfl rfl rfl (by decide +kernel) ⟨Nat.le_of_ble_eq_true rfl, Nat.le_of_ble_eq_true rfl⟩) (xpreV hN hK hP hD (pm_pj (P := P) (by omega)) 0 rfl rfl rfl) rfl rfl hl.1 rfl (lv_room (Nat.le_of_ble_eq_true rfl)) dX4_firstInQueue_28 ⟨Nat.le_of_ble_eq_true rfl, Nat.le_of_ble_eq_true rfl⟩) hP hD hS hA (pm_pj (P := P) (by omega)) (pm_pj (P := P) (by omega)).symm (fun H locs hP hD hS => ?_)
          refine lv_if_eq (tgt := 51) hx hb dX4_firstInQueue_31 (by decide) (fun c_31 => ?_) (fun c_31 => ?_)
          · --t
            refine lv_iinc (v := (nI (i + 1))) (lv' := [(4, .int (nI (i + 1))), (5, .ref (jA pa i)), (0, .ref (pa 0)), (1, .null), (2, .ref (pa 2)), (3, .int (nI 16))]) hx hb dX4_firstInQueue_51 hl (k := 5) rfl (nI_1 i) (by decide) rfl (fun ls hl => ?_)
            refine lv_goto (tgt := 13) hx hb dX4_firstInQueue_54 (by decide) ?_
            exact ih13 (i + 1) none (by omega) (fun j h => by cases h) (hg.trans (show gX4_firstInQueue_L13 P (f + 1) i o1 = (gX4_firstInQueue_L13 P f (i + 1) none) from (Eq.trans (if_pos co) (Eq.trans (if_pos c_31) rfl)))) _ _ _ hP hD hS (lv_sub hl [2, 3, 4, 5, 0] rfl)
          · --f
            refine lv_aload_nN hx hb dX4_firstInQueue_34 rfl (lv_at hl 2 rfl) ?_
            refine lv_ifnullN (tgt := 48) hx hb dX4_firstInQueue_35 (by decide) ?_
            refine lv_aload hx hb dX4_firstInQueue_48 (lv_at hl 0 rfl) ?_
            refine lv_astore_n (lv' := [(1, .ref (jA pa i)), (5, .ref (jA pa i)), (0, .ref (pa 0)), (2, .ref (pa 2)), (3, .int (nI 16)), (4, .int (nI i))]) hx hb dX4_firstInQueue_50 rfl hl (by decide) rfl (fun ls hl => ?_)
            refine lv_iinc (v := (nI (i + 1))) (lv' := [(4, .int (nI (i + 1))), (1, .ref (jA pa i)), (5, .ref (jA pa i)), (0, .ref (pa 0)), (2, .ref (pa 2)), (3, .int (nI 16))]) hx hb dX4_firstInQueue_51 hl (k := 5) rfl (nI_1 i) (by decide) rfl (fun ls hl => ?_)
            refine lv_goto (tgt := 13) hx hb dX4_firstInQueue_54 (by decide) ?_
            exact ih13 (i + 1) (some i) (by omega) (fun j h => by cases h; omega) (hg.trans (show gX4_firstInQueue_L13 P (f + 1) i o1 = (gX4_firstInQueue_L13 P f (i + 1) (some i)) from (Eq.trans (if_pos co) (Eq.trans (if_neg c_31) rfl)))) _ _ _ hP hD hS (lv_sub hl [3, 1, 4, 5, 0] rfl)
      ·
        rw [xrf_some co] at hl
        have hlt : o1.getD 0 < 16 := xgetD ho co
        refine lv_iload hx hb dX4_firstInQueue_13 (lv_at hl 4 rfl) ?_
        refine lv_iload_n hx hb dX4_firstInQueue_15 rfl (lv_at hl 3 rfl) ?_
        refine lv_icmp_ge (tgt := 57) hx hb dX4_firstInQueue_16 (by decide) (fun c_16 => ?_) (fun c_16 => ?_)
        · --t
          exact absurd c_16 (nI_ge (by omega) (by omega))
        · --f
          refine lv_aload_n hx hb dX4_firstInQueue_19 rfl (lv_at hl 2 rfl) ?_
          refine lv_iload hx hb dX4_firstInQueue_20 (lv_at hl 4 rfl) ?_
          refine xaldq (j := i) (b := jA pa i) (nI_clamp (by omega)) hx hb hK hP 2 2 rfl rfl (vp_in_nI (by omega) (by omega)) rfl dX4_firstInQueue_22 ?_
          refine lv_astore (lv' := [(5, .ref (jA pa i)), (0, .ref (pa 0)), (1, .ref (jA pa (o1.getD 0))), (2, .ref (pa 2)), (3, .int (nI 16)), (4, .int (nI i))]) hx hb dX4_firstInQueue_23 hl (by decide) rfl (fun ls hl => ?_)
          refine lv_aload hx hb dX4_firstInQueue_25 (lv_at hl 0 rfl) ?_
          refine lv_iconst (v := 0) hx hb dX4_firstInQueue_27 (by decide) ?_
          refine xreti (va_runV (As := [.int 0]) (rest := []) ⟨hx, hb, hml, hown, hts⟩ (mX1_isIn l D ck (jA pa i) (qA pa i) (nI i) (P.2.2 i) 0 _) (cwV 1 hts gX4_firstInQueue_X1_isIn rfl rfl rfl (by decide +kernel) ⟨Nat.le_of_ble_eq_true rfl, Nat.le_of_ble_eq_true rfl⟩) (xpreV hN hK hP hD (pm_pj (P := P) (by omega)) 0 rfl rfl rfl) rfl rfl hl.1 rfl (lv_room (Nat.le_of_ble_eq_true rfl)) dX4_firstInQueue_28 ⟨Nat.le_of_ble_eq_true rfl, Nat.le_of_ble_eq_true rfl⟩) hP hD hS hA (pm_pj (P := P) (by omega)) (pm_pj (P := P) (by omega)).symm (fun H locs hP hD hS => ?_)
          refine lv_if_eq (tgt := 51) hx hb dX4_firstInQueue_31 (by decide) (fun c_31 => ?_) (fun c_31 => ?_)
          · --t
            refine lv_iinc (v := (nI (i + 1))) (lv' := [(4, .int (nI (i + 1))), (5, .ref (jA pa i)), (0, .ref (pa 0)), (1, .ref (jA pa (o1.getD 0))), (2, .ref (pa 2)), (3, .int (nI 16))]) hx hb dX4_firstInQueue_51 hl (k := 5) rfl (nI_1 i) (by decide) rfl (fun ls hl => ?_)
            refine lv_goto (tgt := 13) hx hb dX4_firstInQueue_54 (by decide) ?_
            exact ih13 (i + 1) (some (o1.getD 0)) (by omega) (fun j h => by cases h; omega) (hg.trans (show gX4_firstInQueue_L13 P (f + 1) i o1 = (gX4_firstInQueue_L13 P f (i + 1) (some (o1.getD 0))) from (Eq.trans (if_neg co) (Eq.trans (if_pos c_31) rfl)))) _ _ _ hP hD hS (lv_sub hl [2, 3, 4, 5, 0] rfl)
          · --f
            refine lv_aload_n hx hb dX4_firstInQueue_34 rfl (lv_at hl 2 rfl) ?_
            refine lv_ifnull hx hb dX4_firstInQueue_35 ?_
            refine lv_aload_n hx hb dX4_firstInQueue_38 rfl (lv_at hl 1 rfl) ?_
            refine lv_aload hx hb dX4_firstInQueue_39 (lv_at hl 0 rfl) ?_
            refine lv_aload_n hx hb dX4_firstInQueue_41 rfl (lv_at hl 2 rfl) ?_
            refine xreti (va_runV (As := [.ref (jA pa i), .ref (jA pa (o1.getD 0))]) (rest := []) ⟨hx, hb, hml, hown, hts⟩ (mX4_isAhead l D ck pa P i (o1.getD 0) (by omega) (by omega) _) (cwV 2 hts gX4_firstInQueue_X4_isAhead rfl rfl rfl (by decide +kernel) ⟨Nat.le_of_ble_eq_true rfl, Nat.le_of_ble_eq_true rfl⟩) (xpreV hN hK hP hD pm_all 0 rfl rfl rfl) rfl rfl hl.1 rfl (lv_room (Nat.le_of_ble_eq_true rfl)) dX4_firstInQueue_42 ⟨Nat.le_of_ble_eq_true rfl, Nat.le_of_ble_eq_true rfl⟩) hP hD hS hA pm_all pm_all' (fun H locs hP hD hS => ?_)
            refine lv_if_eq (tgt := 51) hx hb dX4_firstInQueue_45 (by decide) (fun c_45 => ?_) (fun c_45 => ?_)
            · --t
              refine lv_iinc (v := (nI (i + 1))) (lv' := [(4, .int (nI (i + 1))), (5, .ref (jA pa i)), (0, .ref (pa 0)), (1, .ref (jA pa (o1.getD 0))), (2, .ref (pa 2)), (3, .int (nI 16))]) hx hb dX4_firstInQueue_51 hl (k := 5) rfl (nI_1 i) (by decide) rfl (fun ls hl => ?_)
              refine lv_goto (tgt := 13) hx hb dX4_firstInQueue_54 (by decide) ?_
              exact ih13 (i + 1) (some (o1.getD 0)) (by omega) (fun j h => by cases h; omega) (hg.trans (show gX4_firstInQueue_L13 P (f + 1) i o1 = (gX4_firstInQueue_L13 P f (i + 1) (some (o1.getD 0))) from (Eq.trans (if_neg co) (Eq.trans (if_neg c_31) (Eq.trans (if_pos c_45) rfl))))) _ _ _ hP hD hS (lv_sub hl [2, 3, 4, 5, 0] rfl)
            · --f
              refine lv_aload hx hb dX4_firstInQueue_48 (lv_at hl 0 rfl) ?_
              refine lv_astore_n (lv' := [(1, .ref (jA pa i)), (5, .ref (jA pa i)), (0, .ref (pa 0)), (2, .ref (pa 2)), (3, .int (nI 16)), (4, .int (nI i))]) hx hb dX4_firstInQueue_50 rfl hl (by decide) rfl (fun ls hl => ?_)
              refine lv_iinc (v := (nI (i + 1))) (lv' := [(4, .int (nI (i + 1))), (1, .ref (jA pa i)), (5, .ref (jA pa i)), (0, .ref (pa 0)), (2, .ref (pa 2)), (3, .int (nI 16))]) hx hb dX4_firstInQueue_51 hl (k := 5) rfl (nI_1 i) (by decide) rfl (fun ls hl => ?_)
              refine lv_goto (tgt := 13) hx hb dX4_firstInQueue_54 (by decide) ?_
              exact ih13 (i + 1) (some i) (by omega) (fun j h => by cases h; omega) (hg.trans (show gX4_firstInQueue_L13 P (f + 1) i o1 = (gX4_firstInQueue_L13 P f (i + 1) (some i)) from (Eq.trans (if_neg co) (Eq.trans (if_neg c_31) (Eq.trans (if_neg c_45) rfl))))) _ _ _ hP hD hS (lv_sub hl [3, 1, 4, 5, 0] rfl)
  exact loop13 16 0 none (by omega) (fun j h => by cases h) (show gX4_firstInQueue P = (gX4_firstInQueue_L13 P 16 0 none) from rfl) _ _ _ hP hD hS (lv_sub hl [4, 3, 2, 1, 0] rfl)

theorem lt_X4_firstInQueue_L {P : PS} : ∀ (f i : Nat) (o1 : Option Nat), i + f = 16 → (∀ j, o1 = some j → j < 16) → ∀ j, gX4_firstInQueue_L13 P f i o1 = some j → j < 16 := by
  intro f
  induction f with
  | zero =>
    intro i o1 hif ho j h
    by_cases co : o1 = none
    · have e : gX4_firstInQueue_L13 P 0 i o1 = none := if_pos co
      rw [e] at h; cases h
    · have e : gX4_firstInQueue_L13 P 0 i o1 = some (o1.getD 0) := if_neg co
      rw [e] at h; cases h; exact xgetD ho co
  | succ f ih =>
    intro i o1 hif ho j h
    simp only [gX4_firstInQueue_L13] at h
    (repeat' split at h) <;> (refine ih _ _ (by omega) ?_ j h <;> intro k hk <;> cases hk <;> first | omega | (apply xgetD ho; assumption))
theorem lt_X4_firstInQueue {P : PS} (h : ¬ gX4_firstInQueue P = none) : (gX4_firstInQueue P).getD 0 < 16 := xgetD (fun j hj => lt_X4_firstInQueue_L 16 0 none (by omega) (fun _ h => by cases h) j hj) h

def rmX4_richest : Room := { frames := 1, cells := 0, slots := 0, locals := 20 }
def gX4_richest_L13 (P : PS) : Nat → Nat → Option Nat → Option Nat
  | 0, i, o1 => (if o1 = none then none else (some (o1.getD 0)))
  | f + 1, i, o1 => (if o1 = none then (gX4_richest_L13 P f (i + 1) (some i)) else (if (gX1_surplus (nI i) (P.2.2 i) ) ≤ (gX1_surplus (nI (o1.getD 0)) (P.2.2 (o1.getD 0)) ) then (gX4_richest_L13 P f (i + 1) (some (o1.getD 0))) else (gX4_richest_L13 P f (i + 1) (some i))))
def gX4_richest (P : PS) : Option Nat := (gX4_richest_L13 P 16 0 none)
set_option maxHeartbeats 4000000 in
set_option maxRecDepth 100000 in
theorem mX4_richest (l : Launch) (D : va_G) (ck : Nat → ClassId) (pa : Nat → Nat) (P : PS) : xMq l yX4_richest wsX4_richest rmX4_richest D ck [.ref (pa 0)] (poolW ck pa P) (poolW ck pa P) (Option.map (jA pa) (gX4_richest P)) 0 0 := by
  refine xMet (by decide) rfl (Nat.le_of_ble_eq_true rfl) ?_
  intro zp ze s zm zb zt zc hx hb hr hml hown hts hlk hnm hN hK hP hD ls hl
  have hown : s.vm.findClass RX4 = some zm.cls := hown
  have hl : lv_has ls 6 [(0, .ref (pa 0))] := hl
  have hS : va_S (va_A (poolW ck pa P) s.heap.size) s.heap s.heap [] := va_S.rf
  have hA : ∀ zq : Nat, s.heap.size ≤ zq → va_A (poolW ck pa P) s.heap.size zq := fun zq h => Or.inr h
  have hinX4 : ∀ w ∈ u_ws RX4 TX4 7, w ∈ wsX4_richest := by decide +kernel
  refine lv_null hx hb dX4_richest_0 ?_
  refine lv_astore_nN (lv' := [(1, .null), (0, .ref (pa 0))]) hx hb dX4_richest_1 rfl hl (by decide) rfl (fun ls hl => ?_)
  refine lv_aload_n hx hb dX4_richest_2 rfl (lv_at hl 1 rfl) ?_
  refine va_get (D := D) (ci := 4) (v := .ref (pa 2)) (C := RX4) (T := TX4) (N := 7) hx hb hts hinX4 hown hK hP 0 rfl rfl 1 (by decide) (hts (.fieldLink RX4 25 "JoinGrants$Pool" "joins" "[LJoinGrants$Join;") (List.mem_of_getElem? (i := 1) rfl)) (fun _ h9 => h9) rfl dX4_richest_3 ?_
  refine lv_astore_n (lv' := [(2, .ref (pa 2)), (1, .null), (0, .ref (pa 0))]) hx hb dX4_richest_6 rfl hl (by decide) rfl (fun ls hl => ?_)
  refine lv_aload_n hx hb dX4_richest_7 rfl (lv_at hl 0 rfl) ?_
  refine va_alen hx hb hK hP 2 2 rfl rfl (v := (nI 16)) rfl dX4_richest_8 ?_
  refine lv_istore_n (lv' := [(3, .int (nI 16)), (2, .ref (pa 2)), (1, .null), (0, .ref (pa 0))]) hx hb dX4_richest_9 rfl hl (by decide) rfl (fun ls hl => ?_)
  refine lv_iconst (v := (nI 0)) hx hb dX4_richest_10 (by decide) ?_
  refine lv_istore (lv' := [(4, .int (nI 0)), (3, .int (nI 16)), (2, .ref (pa 2)), (1, .null), (0, .ref (pa 0))]) hx hb dX4_richest_11 hl (by decide) rfl (fun ls hl => ?_)
  have loop13 : ∀ (f : Nat) (i : Nat) (o1 : Option Nat), (i + f = 16) → (∀ j, o1 = some j → j < 16) → gX4_richest P = gX4_richest_L13 P f i o1 → ∀ (H : Heap) (locs : List Loc) (ls : Array Slot), va_P D vwCl (poolW ck pa P) H → va_D (va_A (poolW ck pa P) s.heap.size) (poolW ck pa P) → va_S (va_A (poolW ck pa P) s.heap.size) s.heap H locs → lv_has ls 6 [(0, .ref (pa 0)), (1, (va_rf (Option.map (jA pa) o1))), (2, .ref (pa 2)), (3, .int (nI 16)), (4, .int (nI i))] → W zp l ze rmX4_richest s zm ([.ref (pa 0)] : List Value).toArray zb zt zc H locs 0 0 (MQ zb (xQq D (poolW ck pa P) (poolW ck pa P) (Option.map (jA pa) (gX4_richest P)) s.heap.size) ([.ref (pa 0)] : List Value).toArray s 0 0 (va_A (poolW ck pa P) s.heap.size)) (F0 zm 13 ls []) := by
    intro f
    induction f with
    | zero =>
      intro i o1 hif ho hg H locs ls hP hD hS hl
      by_cases co : o1 = none
      ·
        rw [xrf_none co] at hl
        refine lv_iload hx hb dX4_richest_13 (lv_at hl 4 rfl) ?_
        refine lv_iload_n hx hb dX4_richest_15 rfl (lv_at hl 3 rfl) ?_
        refine lv_icmp_ge (tgt := 50) hx hb dX4_richest_16 (by decide) (fun c_16 => ?_) (fun c_16 => ?_)
        · --t
          refine lv_aload_nN hx hb dX4_richest_50 rfl (lv_at hl 1 rfl) ?_
          exact xqret (v := none) hx hb hr hlk hP hD hS (congrArg (fun z => Option.map (jA pa) z) (hg.trans (show gX4_richest_L13 P 0 i o1 = none from (Eq.trans (if_pos co) rfl)))).symm rfl dX4_richest_51
        · --f
          exact absurd (nI_le (by omega) (by omega)) c_16
      ·
        rw [xrf_some co] at hl
        have hlt : o1.getD 0 < 16 := xgetD ho co
        refine lv_iload hx hb dX4_richest_13 (lv_at hl 4 rfl) ?_
        refine lv_iload_n hx hb dX4_richest_15 rfl (lv_at hl 3 rfl) ?_
        refine lv_icmp_ge (tgt := 50) hx hb dX4_richest_16 (by decide) (fun c_16 => ?_) (fun c_16 => ?_)
        · --t
          refine lv_aload_n hx hb dX4_richest_50 rfl (lv_at hl 1 rfl) ?_
          exact xqret (v := (some (jA pa (o1.getD 0)))) hx hb hr hlk hP hD hS (congrArg (fun z => Option.map (jA pa) z) (hg.trans (show gX4_richest_L13 P 0 i o1 = (some (o1.getD 0)) from (Eq.trans (if_neg co) rfl)))).symm rfl dX4_richest_51
        · --f
          exact absurd (nI_le (by omega) (by omega)) c_16
    | succ f ih13 =>
      intro i o1 hif ho hg H locs ls hP hD hS hl
      by_cases co : o1 = none
      ·
        rw [xrf_none co] at hl
        refine lv_iload hx hb dX4_richest_13 (lv_at hl 4 rfl) ?_
        refine lv_iload_n hx hb dX4_richest_15 rfl (lv_at hl 3 rfl) ?_
        refine lv_icmp_ge (tgt := 50) hx hb dX4_richest_16 (by decide) (fun c_16 => ?_) (fun c_16 => ?_)
        · --t
          exact absurd c_16 (nI_ge (by omega) (by omega))
        · --f
          refine lv_aload_n hx hb dX4_richest_19 rfl (lv_at hl 2 rfl) ?_
          refine lv_iload hx hb dX4_richest_20 (lv_at hl 4 rfl) ?_
          refine xaldq (j := i) (b := jA pa i) (nI_clamp (by omega)) hx hb hK hP 2 2 rfl rfl (vp_in_nI (by omega) (by omega)) rfl dX4_richest_22 ?_
          refine lv_astore (lv' := [(5, .ref (jA pa i)), (0, .ref (pa 0)), (1, .null), (2, .ref (pa 2)), (3, .int (nI 16)), (4, .int (nI i))]) hx hb dX4_richest_23 hl (by decide) rfl (fun ls hl => ?_)
          refine lv_aload_nN hx hb dX4_richest_25 rfl (lv_at hl 2 rfl) ?_
          refine lv_ifnullN (tgt := 41) hx hb dX4_richest_26 (by decide) ?_
          refine lv_aload hx hb dX4_richest_41 (lv_at hl 0 rfl) ?_
          refine lv_astore_n (lv' := [(1, .ref (jA pa i)), (5, .ref (jA pa i)), (0, .ref (pa 0)), (2, .ref (pa 2)), (3, .int (nI 16)), (4, .int (nI i))]) hx hb dX4_richest_43 rfl hl (by decide) rfl (fun ls hl => ?_)
          refine lv_iinc (v := (nI (i + 1))) (lv' := [(4, .int (nI (i + 1))), (1, .ref (jA pa i)), (5, .ref (jA pa i)), (0, .ref (pa 0)), (2, .ref (pa 2)), (3, .int (nI 16))]) hx hb dX4_richest_44 hl (k := 5) rfl (nI_1 i) (by decide) rfl (fun ls hl => ?_)
          refine lv_goto (tgt := 13) hx hb dX4_richest_47 (by decide) ?_
          exact ih13 (i + 1) (some i) (by omega) (fun j h => by cases h; omega) (hg.trans (show gX4_richest_L13 P (f + 1) i o1 = (gX4_richest_L13 P f (i + 1) (some i)) from (Eq.trans (if_pos co) rfl))) _ _ _ hP hD hS (lv_sub hl [3, 1, 4, 5, 0] rfl)
      ·
        rw [xrf_some co] at hl
        have hlt : o1.getD 0 < 16 := xgetD ho co
        refine lv_iload hx hb dX4_richest_13 (lv_at hl 4 rfl) ?_
        refine lv_iload_n hx hb dX4_richest_15 rfl (lv_at hl 3 rfl) ?_
        refine lv_icmp_ge (tgt := 50) hx hb dX4_richest_16 (by decide) (fun c_16 => ?_) (fun c_16 => ?_)
        · --t
          exact absurd c_16 (nI_ge (by omega) (by omega))
        · --f
          refine lv_aload_n hx hb dX4_richest_19 rfl (lv_at hl 2 rfl) ?_
          refine lv_iload hx hb dX4_richest_20 (lv_at hl 4 rfl) ?_
          refine xaldq (j := i) (b := jA pa i) (nI_clamp (by omega)) hx hb hK hP 2 2 rfl rfl (vp_in_nI (by omega) (by omega)) rfl dX4_richest_22 ?_
          refine lv_astore (lv' := [(5, .ref (jA pa i)), (0, .ref (pa 0)), (1, .ref (jA pa (o1.getD 0))), (2, .ref (pa 2)), (3, .int (nI 16)), (4, .int (nI i))]) hx hb dX4_richest_23 hl (by decide) rfl (fun ls hl => ?_)
          refine lv_aload_n hx hb dX4_richest_25 rfl (lv_at hl 2 rfl) ?_
          refine lv_ifnull hx hb dX4_richest_26 ?_
          refine lv_aload hx hb dX4_richest_29 (lv_at hl 0 rfl) ?_
          refine xreti (va_runV (As := []) (rest := []) ⟨hx, hb, hml, hown, hts⟩ (mX1_surplus l D ck (jA pa i) (qA pa i) (nI i) (P.2.2 i)  _) (cwV 0 hts gX4_richest_X1_surplus rfl rfl rfl (by decide +kernel) ⟨Nat.le_of_ble_eq_true rfl, Nat.le_of_ble_eq_true rfl⟩) (xpreV hN hK hP hD (pm_pj (P := P) (by omega)) 0 rfl rfl rfl) rfl rfl hl.1 rfl (lv_room (Nat.le_of_ble_eq_true rfl)) dX4_richest_31 ⟨Nat.le_of_ble_eq_true rfl, Nat.le_of_ble_eq_true rfl⟩) hP hD hS hA (pm_pj (P := P) (by omega)) (pm_pj (P := P) (by omega)).symm (fun H locs hP hD hS => ?_)
          refine lv_aload_n hx hb dX4_richest_34 rfl (lv_at hl 2 rfl) ?_
          refine xreti (va_runV (As := []) (rest := [.int (gX1_surplus (nI i) (P.2.2 i) )]) ⟨hx, hb, hml, hown, hts⟩ (mX1_surplus l D ck (jA pa (o1.getD 0)) (qA pa (o1.getD 0)) (nI (o1.getD 0)) (P.2.2 (o1.getD 0))  _) (cwV 0 hts gX4_richest_X1_surplus rfl rfl rfl (by decide +kernel) ⟨Nat.le_of_ble_eq_true rfl, Nat.le_of_ble_eq_true rfl⟩) (xpreV hN hK hP hD (pm_pj (P := P) (by omega)) 0 rfl rfl rfl) rfl rfl hl.1 rfl (lv_room (Nat.le_of_ble_eq_true rfl)) dX4_richest_35 ⟨Nat.le_of_ble_eq_true rfl, Nat.le_of_ble_eq_true rfl⟩) hP hD hS hA (pm_pj (P := P) (by omega)) (pm_pj (P := P) (by omega)).symm (fun H locs hP hD hS => ?_)
          refine lv_icmp_le (tgt := 44) hx hb dX4_richest_38 (by decide) (fun c_38 => ?_) (fun c_38 => ?_)
          · --t
            refine lv_iinc (v := (nI (i + 1))) (lv' := [(4, .int (nI (i + 1))), (5, .ref (jA pa i)), (0, .ref (pa 0)), (1, .ref (jA pa (o1.getD 0))), (2, .ref (pa 2)), (3, .int (nI 16))]) hx hb dX4_richest_44 hl (k := 5) rfl (nI_1 i) (by decide) rfl (fun ls hl => ?_)
            refine lv_goto (tgt := 13) hx hb dX4_richest_47 (by decide) ?_
            exact ih13 (i + 1) (some (o1.getD 0)) (by omega) (fun j h => by cases h; omega) (hg.trans (show gX4_richest_L13 P (f + 1) i o1 = (gX4_richest_L13 P f (i + 1) (some (o1.getD 0))) from (Eq.trans (if_neg co) (Eq.trans (if_pos c_38) rfl)))) _ _ _ hP hD hS (lv_sub hl [2, 3, 4, 5, 0] rfl)
          · --f
            refine lv_aload hx hb dX4_richest_41 (lv_at hl 0 rfl) ?_
            refine lv_astore_n (lv' := [(1, .ref (jA pa i)), (5, .ref (jA pa i)), (0, .ref (pa 0)), (2, .ref (pa 2)), (3, .int (nI 16)), (4, .int (nI i))]) hx hb dX4_richest_43 rfl hl (by decide) rfl (fun ls hl => ?_)
            refine lv_iinc (v := (nI (i + 1))) (lv' := [(4, .int (nI (i + 1))), (1, .ref (jA pa i)), (5, .ref (jA pa i)), (0, .ref (pa 0)), (2, .ref (pa 2)), (3, .int (nI 16))]) hx hb dX4_richest_44 hl (k := 5) rfl (nI_1 i) (by decide) rfl (fun ls hl => ?_)
            refine lv_goto (tgt := 13) hx hb dX4_richest_47 (by decide) ?_
            exact ih13 (i + 1) (some i) (by omega) (fun j h => by cases h; omega) (hg.trans (show gX4_richest_L13 P (f + 1) i o1 = (gX4_richest_L13 P f (i + 1) (some i)) from (Eq.trans (if_neg co) (Eq.trans (if_neg c_38) rfl)))) _ _ _ hP hD hS (lv_sub hl [3, 1, 4, 5, 0] rfl)
  exact loop13 16 0 none (by omega) (fun j h => by cases h) (show gX4_richest P = (gX4_richest_L13 P 16 0 none) from rfl) _ _ _ hP hD hS (lv_sub hl [4, 3, 2, 1, 0] rfl)

theorem lt_X4_richest_L {P : PS} : ∀ (f i : Nat) (o1 : Option Nat), i + f = 16 → (∀ j, o1 = some j → j < 16) → ∀ j, gX4_richest_L13 P f i o1 = some j → j < 16 := by
  intro f
  induction f with
  | zero =>
    intro i o1 hif ho j h
    by_cases co : o1 = none
    · have e : gX4_richest_L13 P 0 i o1 = none := if_pos co
      rw [e] at h; cases h
    · have e : gX4_richest_L13 P 0 i o1 = some (o1.getD 0) := if_neg co
      rw [e] at h; cases h; exact xgetD ho co
  | succ f ih =>
    intro i o1 hif ho j h
    simp only [gX4_richest_L13] at h
    (repeat' split at h) <;> (refine ih _ _ (by omega) ?_ j h <;> intro k hk <;> cases hk <;> first | omega | (apply xgetD ho; assumption))
theorem lt_X4_richest {P : PS} (h : ¬ gX4_richest P = none) : (gX4_richest P).getD 0 < 16 := xgetD (fun j hj => lt_X4_richest_L 16 0 none (by omega) (fun _ h => by cases h) j hj) h

def rmX4_canAskBack : Room := { frames := 2, cells := 0, slots := 0, locals := 45 }
def gX4_canAskBack (P : PS) (a1 : Int32) : Int32 := (if (gX4_setting P 2) = 1 then (if (gX4_setting P 0) < (gX4_granted P ) then 0 else (if (gX4_surplus P ) < a1 then 0 else 1)) else 0)
set_option maxHeartbeats 4000000 in
set_option maxRecDepth 100000 in
theorem mX4_canAskBack (l : Launch) (D : va_G) (ck : Nat → ClassId) (pa : Nat → Nat) (P : PS) (a1 : Int32) : xMi l yX4_canAskBack wsX4_canAskBack rmX4_canAskBack D ck [.ref (pa 0), .int a1] (poolW ck pa P) (poolW ck pa P) (gX4_canAskBack P a1) 0 0 := by
  refine xMet (by decide) rfl (Nat.le_of_ble_eq_true rfl) ?_
  intro zp ze s zm zb zt zc hx hb hr hml hown hts hlk hnm hN hK hP hD ls hl
  have hown : s.vm.findClass RX4 = some zm.cls := hown
  have hl : lv_has ls 2 [(0, .ref (pa 0)), (1, .int a1)] := hl
  have hS : va_S (va_A (poolW ck pa P) s.heap.size) s.heap s.heap [] := va_S.rf
  have hA : ∀ zq : Nat, s.heap.size ≤ zq → va_A (poolW ck pa P) s.heap.size zq := fun zq h => Or.inr h
  refine lv_aload_n hx hb dX4_canAskBack_0 rfl (lv_at hl 0 rfl) ?_
  refine lv_iconst (v := 2) hx hb dX4_canAskBack_1 (by decide) ?_
  refine xreti (va_runV (As := [.int 2]) (rest := []) ⟨hx, hb, hml, hown, hts⟩ (mX4_setting l D ck pa P 2  _) (cwV 1 hts gX4_canAskBack_X4_setting rfl rfl rfl (by decide +kernel) ⟨Nat.le_of_ble_eq_true rfl, Nat.le_of_ble_eq_true rfl⟩) (xpreV hN hK hP hD pm_all 0 rfl rfl rfl) rfl rfl hl.1 rfl (lv_room (Nat.le_of_ble_eq_true rfl)) dX4_canAskBack_2 ⟨Nat.le_of_ble_eq_true rfl, Nat.le_of_ble_eq_true rfl⟩) hP hD hS hA pm_all pm_all' (fun H locs hP hD hS => ?_)
  refine lv_iconst (v := 1) hx hb dX4_canAskBack_5 (by decide) ?_
  refine lv_icmp_ne (tgt := 33) hx hb dX4_canAskBack_6 (by decide) (fun c_6 => ?_) (fun c_6 => ?_)
  · --t
    refine lv_iconst (v := 0) hx hb dX4_canAskBack_33 (by decide) ?_
    exact xzret hx hb hr hlk hP hD hS (Or.inl rfl) (show gX4_canAskBack P a1 = 0 from (Eq.trans (if_neg c_6) rfl)).symm rfl dX4_canAskBack_34
  · --f
    refine lv_aload_n hx hb dX4_canAskBack_9 rfl (lv_at hl 0 rfl) ?_
    refine xreti (va_runV (As := []) (rest := []) ⟨hx, hb, hml, hown, hts⟩ (mX4_granted l D ck pa P   _) (cwV 0 hts gX4_canAskBack_X4_granted rfl rfl rfl (by decide +kernel) ⟨Nat.le_of_ble_eq_true rfl, Nat.le_of_ble_eq_true rfl⟩) (xpreV hN hK hP hD pm_all 0 rfl rfl rfl) rfl rfl hl.1 rfl (lv_room (Nat.le_of_ble_eq_true rfl)) dX4_canAskBack_10 ⟨Nat.le_of_ble_eq_true rfl, Nat.le_of_ble_eq_true rfl⟩) hP hD hS hA pm_all pm_all' (fun H locs hP hD hS => ?_)
    refine lv_aload_n hx hb dX4_canAskBack_13 rfl (lv_at hl 0 rfl) ?_
    refine lv_iconst (v := 0) hx hb dX4_canAskBack_14 (by decide) ?_
    refine xreti (va_runV (As := [.int 0]) (rest := [.int (gX4_granted P )]) ⟨hx, hb, hml, hown, hts⟩ (mX4_setting l D ck pa P 0  _) (cwV 1 hts gX4_canAskBack_X4_setting rfl rfl rfl (by decide +kernel) ⟨Nat.le_of_ble_eq_true rfl, Nat.le_of_ble_eq_true rfl⟩) (xpreV hN hK hP hD pm_all 0 rfl rfl rfl) rfl rfl hl.1 rfl (lv_room (Nat.le_of_ble_eq_true rfl)) dX4_canAskBack_15 ⟨Nat.le_of_ble_eq_true rfl, Nat.le_of_ble_eq_true rfl⟩) hP hD hS hA pm_all pm_all' (fun H locs hP hD hS => ?_)
    refine lv_icmp_gt (tgt := 33) hx hb dX4_canAskBack_18 (by decide) (fun c_18 => ?_) (fun c_18 => ?_)
    · --t
      refine lv_iconst (v := 0) hx hb dX4_canAskBack_33 (by decide) ?_
      exact xzret hx hb hr hlk hP hD hS (Or.inl rfl) (show gX4_canAskBack P a1 = 0 from (Eq.trans (if_pos c_6) (Eq.trans (if_pos c_18) rfl))).symm rfl dX4_canAskBack_34
    · --f
      refine lv_aload_n hx hb dX4_canAskBack_21 rfl (lv_at hl 0 rfl) ?_
      refine xreti (va_runV (As := []) (rest := []) ⟨hx, hb, hml, hown, hts⟩ (mX4_surplus l D ck pa P   _) (cwV 0 hts gX4_canAskBack_X4_surplus rfl rfl rfl (by decide +kernel) ⟨Nat.le_of_ble_eq_true rfl, Nat.le_of_ble_eq_true rfl⟩) (xpreV hN hK hP hD pm_all 0 rfl rfl rfl) rfl rfl hl.1 rfl (lv_room (Nat.le_of_ble_eq_true rfl)) dX4_canAskBack_22 ⟨Nat.le_of_ble_eq_true rfl, Nat.le_of_ble_eq_true rfl⟩) hP hD hS hA pm_all pm_all' (fun H locs hP hD hS => ?_)
      refine lv_iload_n hx hb dX4_canAskBack_25 rfl (lv_at hl 1 rfl) ?_
      refine lv_icmp_lt (tgt := 33) hx hb dX4_canAskBack_26 (by decide) (fun c_26 => ?_) (fun c_26 => ?_)
      · --t
        refine lv_iconst (v := 0) hx hb dX4_canAskBack_33 (by decide) ?_
        exact xzret hx hb hr hlk hP hD hS (Or.inl rfl) (show gX4_canAskBack P a1 = 0 from (Eq.trans (if_pos c_6) (Eq.trans (if_neg c_18) (Eq.trans (if_pos c_26) rfl)))).symm rfl dX4_canAskBack_34
      · --f
        refine lv_iconst (v := 1) hx hb dX4_canAskBack_29 (by decide) ?_
        refine lv_goto (tgt := 34) hx hb dX4_canAskBack_30 (by decide) ?_
        exact xzret hx hb hr hlk hP hD hS (Or.inr rfl) (show gX4_canAskBack P a1 = 1 from (Eq.trans (if_pos c_6) (Eq.trans (if_neg c_18) (Eq.trans (if_neg c_26) rfl)))).symm rfl dX4_canAskBack_34

def rmX4_askBack : Room := { frames := 2, cells := 0, slots := 0, locals := 49 }
def gX4_askBack_L4 (P : PS) (a1 : Int32) : Nat → Nat → Int32 → PS → PS
  | 0, i, x1, P1 => P1
  | f + 1, i, x1, P1 => (if x1 ≤ 0 then P1 else (if (gX4_richest P1 ) = none then P1 else (gX4_askBack_L4 P a1 f (i + 1) (x1 - (if (gX1_surplus (nI ((gX4_richest P1 ).getD 0)) (P1.2.2 ((gX4_richest P1 ).getD 0)) ) < x1 then (gX1_surplus (nI ((gX4_richest P1 ).getD 0)) (P1.2.2 ((gX4_richest P1 ).getD 0)) ) else x1)) (P1.1, upd P1.2.1 4 ((P1.2.1 4) + (if (gX1_surplus (nI ((gX4_richest P1 ).getD 0)) (P1.2.2 ((gX4_richest P1 ).getD 0)) ) < x1 then (gX1_surplus (nI ((gX4_richest P1 ).getD 0)) (P1.2.2 ((gX4_richest P1 ).getD 0)) ) else x1)), va_up P1.2.2 ((gX4_richest P1 ).getD 0) (gX1_giveBack (nI ((gX4_richest P1 ).getD 0)) (P1.2.2 ((gX4_richest P1 ).getD 0)) (if (gX1_surplus (nI ((gX4_richest P1 ).getD 0)) (P1.2.2 ((gX4_richest P1 ).getD 0)) ) < x1 then (gX1_surplus (nI ((gX4_richest P1 ).getD 0)) (P1.2.2 ((gX4_richest P1 ).getD 0)) ) else x1))))))
def gX4_askBack (P : PS) (a1 : Int32) : PS := (gX4_askBack_L4 P a1 16 0 a1 P)
set_option maxHeartbeats 4000000 in
set_option maxRecDepth 100000 in
theorem mX4_askBack (l : Launch) (D : va_G) (ck : Nat → ClassId) (pa : Nat → Nat) (P : PS) (a1 : Int32) : xMv l yX4_askBack wsX4_askBack rmX4_askBack D ck [.ref (pa 0), .int a1] (poolW ck pa P) (poolW ck pa (gX4_askBack P a1)) 0 0 := by
  refine xMet (by decide) rfl (Nat.le_of_ble_eq_true rfl) ?_
  intro zp ze s zm zb zt zc hx hb hr hml hown hts hlk hnm hN hK hP hD ls hl
  have hown : s.vm.findClass RX4 = some zm.cls := hown
  have hl : lv_has ls 6 [(0, .ref (pa 0)), (1, .int a1)] := hl
  have hS : va_S (va_A (poolW ck pa P) s.heap.size) s.heap s.heap [] := va_S.rf
  have hA : ∀ zq : Nat, s.heap.size ≤ zq → va_A (poolW ck pa P) s.heap.size zq := fun zq h => Or.inr h
  have hinX4 : ∀ w ∈ u_ws RX4 TX4 7, w ∈ wsX4_askBack := by decide +kernel
  refine lv_iload_n hx hb dX4_askBack_0 rfl (lv_at hl 1 rfl) ?_
  refine lv_istore_n (lv' := [(2, .int a1), (0, .ref (pa 0)), (1, .int a1)]) hx hb dX4_askBack_1 rfl hl (by decide) rfl (fun ls hl => ?_)
  refine lv_iconst (v := (nI 0)) hx hb dX4_askBack_2 (by decide) ?_
  refine lv_istore_n (lv' := [(3, .int (nI 0)), (2, .int a1), (0, .ref (pa 0)), (1, .int a1)]) hx hb dX4_askBack_3 rfl hl (by decide) rfl (fun ls hl => ?_)
  have loop4 : ∀ (f : Nat) (i : Nat) (x1 : Int32) (P1 : PS), (i + f = 16) → gX4_askBack P a1 = gX4_askBack_L4 P a1 f i x1 P1 → ∀ (H : Heap) (locs : List Loc) (ls : Array Slot), va_P D vwCl (poolW ck pa P1) H → va_D (va_A (poolW ck pa P) s.heap.size) (poolW ck pa P1) → va_S (va_A (poolW ck pa P) s.heap.size) s.heap H locs → lv_has ls 6 [(0, .ref (pa 0)), (1, .int a1), (2, .int x1), (3, .int (nI i))] → W zp l ze rmX4_askBack s zm ([.ref (pa 0), .int a1] : List Value).toArray zb zt zc H locs 0 0 (MQ zb (xQv D (poolW ck pa P) (poolW ck pa (gX4_askBack P a1)) s.heap.size) ([.ref (pa 0), .int a1] : List Value).toArray s 0 0 (va_A (poolW ck pa P) s.heap.size)) (F0 zm 4 ls []) := by
    intro f
    induction f with
    | zero =>
      intro i x1 P1 hif hg H locs ls hP hD hS hl
      refine lv_iload_n hx hb dX4_askBack_4 rfl (lv_at hl 3 rfl) ?_
      refine lv_aload_n hx hb dX4_askBack_5 rfl (lv_at hl 0 rfl) ?_
      refine va_get (D := D) (ci := 4) (v := .ref (pa 2)) (C := RX4) (T := TX4) (N := 7) hx hb hts hinX4 hown hK hP 0 rfl rfl 1 (by decide) (hts (.fieldLink RX4 25 "JoinGrants$Pool" "joins" "[LJoinGrants$Join;") (List.mem_of_getElem? (i := 1) rfl)) (fun _ h9 => h9) rfl dX4_askBack_6 ?_
      refine va_alen hx hb hK hP 2 2 rfl rfl (v := (nI 16)) rfl dX4_askBack_9 ?_
      refine lv_icmp_ge (tgt := 69) hx hb dX4_askBack_10 (by decide) (fun c_10 => ?_) (fun c_10 => ?_)
      · --t
        exact xvret hx hb hr hlk hP hD hS (congrArg (fun z => poolW ck pa z) (hg.trans (show gX4_askBack_L4 P a1 0 i x1 P1 = P1 from rfl))).symm dX4_askBack_69
      · --f
        exact absurd (nI_le (by omega) (by omega)) c_10
    | succ f ih4 =>
      intro i x1 P1 hif hg H locs ls hP hD hS hl
      refine lv_iload_n hx hb dX4_askBack_4 rfl (lv_at hl 3 rfl) ?_
      refine lv_aload_n hx hb dX4_askBack_5 rfl (lv_at hl 0 rfl) ?_
      refine va_get (D := D) (ci := 4) (v := .ref (pa 2)) (C := RX4) (T := TX4) (N := 7) hx hb hts hinX4 hown hK hP 0 rfl rfl 1 (by decide) (hts (.fieldLink RX4 25 "JoinGrants$Pool" "joins" "[LJoinGrants$Join;") (List.mem_of_getElem? (i := 1) rfl)) (fun _ h9 => h9) rfl dX4_askBack_6 ?_
      refine va_alen hx hb hK hP 2 2 rfl rfl (v := (nI 16)) rfl dX4_askBack_9 ?_
      refine lv_icmp_ge (tgt := 69) hx hb dX4_askBack_10 (by decide) (fun c_10 => ?_) (fun c_10 => ?_)
      · --t
        exact absurd c_10 (nI_ge (by omega) (by omega))
      · --f
        refine lv_iload_n hx hb dX4_askBack_13 rfl (lv_at hl 2 rfl) ?_
        refine lv_if_le (tgt := 69) hx hb dX4_askBack_14 (by decide) (fun c_14 => ?_) (fun c_14 => ?_)
        · --t
          exact xvret hx hb hr hlk hP hD hS (congrArg (fun z => poolW ck pa z) (hg.trans (show gX4_askBack_L4 P a1 (f + 1) i x1 P1 = P1 from (Eq.trans (if_pos c_14) rfl)))).symm dX4_askBack_69
        · --f
          refine lv_aload_n hx hb dX4_askBack_17 rfl (lv_at hl 0 rfl) ?_
          refine xretq (va_runV (As := []) (rest := []) ⟨hx, hb, hml, hown, hts⟩ (mX4_richest l D ck pa P1   _) (cwV 0 hts gX4_askBack_X4_richest rfl rfl rfl (by decide +kernel) ⟨Nat.le_of_ble_eq_true rfl, Nat.le_of_ble_eq_true rfl⟩) (xpreV hN hK hP hD pm_all 0 rfl rfl rfl) rfl rfl hl.1 rfl (lv_room (Nat.le_of_ble_eq_true rfl)) dX4_askBack_18 ⟨Nat.le_of_ble_eq_true rfl, Nat.le_of_ble_eq_true rfl⟩) hP hD hS hA pm_all pm_all' (fun H locs hP hD hS => ?_)
          by_cases cq_18 : (gX4_richest P1 ) = none
          ·
            rw [xrf_none cq_18]
            refine lv_astoreN (lv' := [(4, .null), (0, .ref (pa 0)), (1, .int a1), (2, .int x1), (3, .int (nI i))]) hx hb dX4_askBack_21 hl (by decide) rfl (fun ls hl => ?_)
            refine lv_aloadN hx hb dX4_askBack_23 (lv_at hl 0 rfl) ?_
            refine lv_ifnonnullN hx hb dX4_askBack_25 ?_
            exact xvret hx hb hr hlk hP hD hS (congrArg (fun z => poolW ck pa z) (hg.trans (show gX4_askBack_L4 P a1 (f + 1) i x1 P1 = P1 from (Eq.trans (if_neg c_14) (Eq.trans (if_pos cq_18) rfl))))).symm dX4_askBack_28
          ·
            rw [xrf_some cq_18]
            have hlt_18 : ((gX4_richest P1 )).getD 0 < 16 := lt_X4_richest cq_18
            refine lv_astore (lv' := [(4, .ref (jA pa ((gX4_richest P1 ).getD 0))), (0, .ref (pa 0)), (1, .int a1), (2, .int x1), (3, .int (nI i))]) hx hb dX4_askBack_21 hl (by decide) rfl (fun ls hl => ?_)
            refine lv_aload hx hb dX4_askBack_23 (lv_at hl 0 rfl) ?_
            refine lv_ifnonnull (tgt := 29) hx hb dX4_askBack_25 (by decide) ?_
            refine lv_iload_n hx hb dX4_askBack_29 rfl (lv_at hl 3 rfl) ?_
            refine lv_aload hx hb dX4_askBack_30 (lv_at hl 0 rfl) ?_
            refine xreti (va_runV (As := []) (rest := [.int x1]) ⟨hx, hb, hml, hown, hts⟩ (mX1_surplus l D ck (jA pa ((gX4_richest P1 ).getD 0)) (qA pa ((gX4_richest P1 ).getD 0)) (nI ((gX4_richest P1 ).getD 0)) (P1.2.2 ((gX4_richest P1 ).getD 0))  _) (cwV 0 hts gX4_askBack_X1_surplus rfl rfl rfl (by decide +kernel) ⟨Nat.le_of_ble_eq_true rfl, Nat.le_of_ble_eq_true rfl⟩) (xpreV hN hK hP hD (pm_pj (P := P1) (by omega)) 0 rfl rfl rfl) rfl rfl hl.1 rfl (lv_room (Nat.le_of_ble_eq_true rfl)) dX4_askBack_32 ⟨Nat.le_of_ble_eq_true rfl, Nat.le_of_ble_eq_true rfl⟩) hP hD hS hA (pm_pj (P := P1) (by omega)) (pm_pj (P := P1) (by omega)).symm (fun H locs hP hD hS => ?_)
            refine va_mmin hx hb (hml.trans hl.1.symm) hown (hts (.methodLink RX4 78 Lib.Math.min.name) (List.mem_of_getElem? (i := 2) rfl)) (hts (.static Lib.Math.min.name) (List.mem_of_getElem? (i := 3) rfl)) (hts (.initialized "java/lang/Math") (List.mem_of_getElem? (i := 4) rfl)) (hts (.code Lib.Math.min.name Lib.Math.min.code 2 (some .int)) (List.mem_of_getElem? (i := 5) rfl)) (Nat.le_of_ble_eq_true rfl) (Nat.le_of_ble_eq_true rfl) (Nat.le_of_ble_eq_true rfl) (Nat.le_of_ble_eq_true rfl) dX4_askBack_35 ?_
            refine lv_istore (lv' := [(5, .int (if (gX1_surplus (nI ((gX4_richest P1 ).getD 0)) (P1.2.2 ((gX4_richest P1 ).getD 0)) ) < x1 then (gX1_surplus (nI ((gX4_richest P1 ).getD 0)) (P1.2.2 ((gX4_richest P1 ).getD 0)) ) else x1)), (4, .ref (jA pa ((gX4_richest P1 ).getD 0))), (0, .ref (pa 0)), (1, .int a1), (2, .int x1), (3, .int (nI i))]) hx hb dX4_askBack_38 hl (by decide) rfl (fun ls hl => ?_)
            refine lv_aload hx hb dX4_askBack_40 (lv_at hl 1 rfl) ?_
            refine lv_iload hx hb dX4_askBack_42 (lv_at hl 0 rfl) ?_
            refine xretv (va_runV (As := [.int (if (gX1_surplus (nI ((gX4_richest P1 ).getD 0)) (P1.2.2 ((gX4_richest P1 ).getD 0)) ) < x1 then (gX1_surplus (nI ((gX4_richest P1 ).getD 0)) (P1.2.2 ((gX4_richest P1 ).getD 0)) ) else x1)]) (rest := []) ⟨hx, hb, hml, hown, hts⟩ (mX1_giveBack l D ck (jA pa ((gX4_richest P1 ).getD 0)) (qA pa ((gX4_richest P1 ).getD 0)) (nI ((gX4_richest P1 ).getD 0)) (P1.2.2 ((gX4_richest P1 ).getD 0)) (if (gX1_surplus (nI ((gX4_richest P1 ).getD 0)) (P1.2.2 ((gX4_richest P1 ).getD 0)) ) < x1 then (gX1_surplus (nI ((gX4_richest P1 ).getD 0)) (P1.2.2 ((gX4_richest P1 ).getD 0)) ) else x1) _) (cwV 1 hts gX4_askBack_X1_giveBack rfl rfl rfl (by decide +kernel) ⟨Nat.le_of_ble_eq_true rfl, Nat.le_of_ble_eq_true rfl⟩) (xpreV hN hK hP hD (pm_pj (P := P1) (by omega)) 0 rfl rfl rfl) rfl rfl hl.1 rfl (lv_room (Nat.le_of_ble_eq_true rfl)) dX4_askBack_44 ⟨Nat.le_of_ble_eq_true rfl, Nat.le_of_ble_eq_true rfl⟩) hP hD hS hA (pm_pj (P := P1) (by omega)) (pm_pj' (P := P1) (by omega)) (fun H locs hP hD hS => ?_)
            have hP : va_P D vwCl (poolW ck pa (P1.1, P1.2.1, va_up P1.2.2 ((gX4_richest P1 ).getD 0) (gX1_giveBack (nI ((gX4_richest P1 ).getD 0)) (P1.2.2 ((gX4_richest P1 ).getD 0)) (if (gX1_surplus (nI ((gX4_richest P1 ).getD 0)) (P1.2.2 ((gX4_richest P1 ).getD 0)) ) < x1 then (gX1_surplus (nI ((gX4_richest P1 ).getD 0)) (P1.2.2 ((gX4_richest P1 ).getD 0)) ) else x1)))) H := hP
            have hD : va_D (va_A (poolW ck pa P) s.heap.size) (poolW ck pa (P1.1, P1.2.1, va_up P1.2.2 ((gX4_richest P1 ).getD 0) (gX1_giveBack (nI ((gX4_richest P1 ).getD 0)) (P1.2.2 ((gX4_richest P1 ).getD 0)) (if (gX1_surplus (nI ((gX4_richest P1 ).getD 0)) (P1.2.2 ((gX4_richest P1 ).getD 0)) ) < x1 then (gX1_surplus (nI ((gX4_richest P1 ).getD 0)) (P1.2.2 ((gX4_richest P1 ).getD 0)) ) else x1)))) := hD
            refine lv_aload_n hx hb dX4_askBack_47 rfl (lv_at hl 2 rfl) ?_
            refine lv_dup hx hb dX4_askBack_48 rfl ?_
            refine va_get (D := D) (ci := 4) (v := .int (P1.2.1 4)) (C := RX4) (T := TX4) (N := 7) hx hb hts hinX4 hown hK hP 0 rfl rfl 6 (by decide) (hts (.fieldLink RX4 115 "JoinGrants$Pool" "askedBack" "I") (List.mem_of_getElem? (i := 6) rfl)) (fun _ h9 => h9) rfl dX4_askBack_49 ?_
            refine lv_iload hx hb dX4_askBack_52 (lv_at hl 0 rfl) ?_
            refine lv_iadd hx hb dX4_askBack_54 ?_
            refine va_put (D := D) (ci := 4) (v := .int ((P1.2.1 4) + (if (gX1_surplus (nI ((gX4_richest P1 ).getD 0)) (P1.2.2 ((gX4_richest P1 ).getD 0)) ) < x1 then (gX1_surplus (nI ((gX4_richest P1 ).getD 0)) (P1.2.2 ((gX4_richest P1 ).getD 0)) ) else x1))) (ty := .int) (C := RX4) (T := TX4) (N := 7) hx hb hts hinX4 tyX4 tyX4_ok nmX4 hown hK hP hD hS 0 rfl rfl 6 (by decide) (hts (.fieldLink RX4 115 "JoinGrants$Pool" "askedBack" "I") (List.mem_of_getElem? (i := 6) rfl)) (fun _ h9 => h9) rfl (by decide +kernel) rfl rfl (Nat.le_of_ble_eq_true rfl) dX4_askBack_55 (fun H locs hP hD hS => ?_)
            have hP : va_P D vwCl (poolW ck pa (P1.1, upd P1.2.1 4 ((P1.2.1 4) + (if (gX1_surplus (nI ((gX4_richest P1 ).getD 0)) (P1.2.2 ((gX4_richest P1 ).getD 0)) ) < x1 then (gX1_surplus (nI ((gX4_richest P1 ).getD 0)) (P1.2.2 ((gX4_richest P1 ).getD 0)) ) else x1)), va_up P1.2.2 ((gX4_richest P1 ).getD 0) (gX1_giveBack (nI ((gX4_richest P1 ).getD 0)) (P1.2.2 ((gX4_richest P1 ).getD 0)) (if (gX1_surplus (nI ((gX4_richest P1 ).getD 0)) (P1.2.2 ((gX4_richest P1 ).getD 0)) ) < x1 then (gX1_surplus (nI ((gX4_richest P1 ).getD 0)) (P1.2.2 ((gX4_richest P1 ).getD 0)) ) else x1)))) H := hP
            have hD : va_D (va_A (poolW ck pa P) s.heap.size) (poolW ck pa (P1.1, upd P1.2.1 4 ((P1.2.1 4) + (if (gX1_surplus (nI ((gX4_richest P1 ).getD 0)) (P1.2.2 ((gX4_richest P1 ).getD 0)) ) < x1 then (gX1_surplus (nI ((gX4_richest P1 ).getD 0)) (P1.2.2 ((gX4_richest P1 ).getD 0)) ) else x1)), va_up P1.2.2 ((gX4_richest P1 ).getD 0) (gX1_giveBack (nI ((gX4_richest P1 ).getD 0)) (P1.2.2 ((gX4_richest P1 ).getD 0)) (if (gX1_surplus (nI ((gX4_richest P1 ).getD 0)) (P1.2.2 ((gX4_richest P1 ).getD 0)) ) < x1 then (gX1_surplus (nI ((gX4_richest P1 ).getD 0)) (P1.2.2 ((gX4_richest P1 ).getD 0)) ) else x1)))) := hD
            refine lv_iload_n hx hb dX4_askBack_58 rfl (lv_at hl 4 rfl) ?_
            refine lv_iload hx hb dX4_askBack_59 (lv_at hl 0 rfl) ?_
            refine lv_isub hx hb dX4_askBack_61 ?_
            refine lv_istore_n (lv' := [(2, .int (x1 - (if (gX1_surplus (nI ((gX4_richest P1 ).getD 0)) (P1.2.2 ((gX4_richest P1 ).getD 0)) ) < x1 then (gX1_surplus (nI ((gX4_richest P1 ).getD 0)) (P1.2.2 ((gX4_richest P1 ).getD 0)) ) else x1))), (5, .int (if (gX1_surplus (nI ((gX4_richest P1 ).getD 0)) (P1.2.2 ((gX4_richest P1 ).getD 0)) ) < x1 then (gX1_surplus (nI ((gX4_richest P1 ).getD 0)) (P1.2.2 ((gX4_richest P1 ).getD 0)) ) else x1)), (4, .ref (jA pa ((gX4_richest P1 ).getD 0))), (0, .ref (pa 0)), (1, .int a1), (3, .int (nI i))]) hx hb dX4_askBack_62 rfl hl (by decide) rfl (fun ls hl => ?_)
            refine lv_iinc (v := (nI (i + 1))) (lv' := [(3, .int (nI (i + 1))), (2, .int (x1 - (if (gX1_surplus (nI ((gX4_richest P1 ).getD 0)) (P1.2.2 ((gX4_richest P1 ).getD 0)) ) < x1 then (gX1_surplus (nI ((gX4_richest P1 ).getD 0)) (P1.2.2 ((gX4_richest P1 ).getD 0)) ) else x1))), (5, .int (if (gX1_surplus (nI ((gX4_richest P1 ).getD 0)) (P1.2.2 ((gX4_richest P1 ).getD 0)) ) < x1 then (gX1_surplus (nI ((gX4_richest P1 ).getD 0)) (P1.2.2 ((gX4_richest P1 ).getD 0)) ) else x1)), (4, .ref (jA pa ((gX4_richest P1 ).getD 0))), (0, .ref (pa 0)), (1, .int a1)]) hx hb dX4_askBack_63 hl (k := 5) rfl (nI_1 i) (by decide) rfl (fun ls hl => ?_)
            refine lv_goto (tgt := 4) hx hb dX4_askBack_66 (by decide) ?_
            exact ih4 (i + 1) (x1 - (if (gX1_surplus (nI ((gX4_richest P1 ).getD 0)) (P1.2.2 ((gX4_richest P1 ).getD 0)) ) < x1 then (gX1_surplus (nI ((gX4_richest P1 ).getD 0)) (P1.2.2 ((gX4_richest P1 ).getD 0)) ) else x1)) (P1.1, upd P1.2.1 4 ((P1.2.1 4) + (if (gX1_surplus (nI ((gX4_richest P1 ).getD 0)) (P1.2.2 ((gX4_richest P1 ).getD 0)) ) < x1 then (gX1_surplus (nI ((gX4_richest P1 ).getD 0)) (P1.2.2 ((gX4_richest P1 ).getD 0)) ) else x1)), va_up P1.2.2 ((gX4_richest P1 ).getD 0) (gX1_giveBack (nI ((gX4_richest P1 ).getD 0)) (P1.2.2 ((gX4_richest P1 ).getD 0)) (if (gX1_surplus (nI ((gX4_richest P1 ).getD 0)) (P1.2.2 ((gX4_richest P1 ).getD 0)) ) < x1 then (gX1_surplus (nI ((gX4_richest P1 ).getD 0)) (P1.2.2 ((gX4_richest P1 ).getD 0)) ) else x1))) (by omega) (hg.trans (show gX4_askBack_L4 P a1 (f + 1) i x1 P1 = (gX4_askBack_L4 P a1 f (i + 1) (x1 - (if (gX1_surplus (nI ((gX4_richest P1 ).getD 0)) (P1.2.2 ((gX4_richest P1 ).getD 0)) ) < x1 then (gX1_surplus (nI ((gX4_richest P1 ).getD 0)) (P1.2.2 ((gX4_richest P1 ).getD 0)) ) else x1)) (P1.1, upd P1.2.1 4 ((P1.2.1 4) + (if (gX1_surplus (nI ((gX4_richest P1 ).getD 0)) (P1.2.2 ((gX4_richest P1 ).getD 0)) ) < x1 then (gX1_surplus (nI ((gX4_richest P1 ).getD 0)) (P1.2.2 ((gX4_richest P1 ).getD 0)) ) else x1)), va_up P1.2.2 ((gX4_richest P1 ).getD 0) (gX1_giveBack (nI ((gX4_richest P1 ).getD 0)) (P1.2.2 ((gX4_richest P1 ).getD 0)) (if (gX1_surplus (nI ((gX4_richest P1 ).getD 0)) (P1.2.2 ((gX4_richest P1 ).getD 0)) ) < x1 then (gX1_surplus (nI ((gX4_richest P1 ).getD 0)) (P1.2.2 ((gX4_richest P1 ).getD 0)) ) else x1)))) from (Eq.trans (if_neg c_14) (Eq.trans (if_neg cq_18) rfl)))) _ _ _ hP hD hS (lv_sub hl [4, 5, 1, 0] rfl)
  exact loop4 16 0 a1 P (by omega) (show gX4_askBack P a1 = (gX4_askBack_L4 P a1 16 0 a1 P) from rfl) _ _ _ hP hD hS (lv_sub hl [2, 3, 1, 0] rfl)

def rmX4_start : Room := { frames := 3, cells := 0, slots := 0, locals := 74 }
def gX4_start (P : PS) (a1 : Nat) : Int32 × PS := (if 0 < ((gX1_need (nI a1) (P.2.2 a1) ) - (gX4_free P )) then (if (gX4_canAskBack P ((gX1_need (nI a1) (P.2.2 a1) ) - (gX4_free P ))) = 0 then (0, P) else (1, ((gX4_askBack P ((gX1_need (nI a1) (P.2.2 a1) ) - (gX4_free P ))).1, upd ((gX4_askBack P ((gX1_need (nI a1) (P.2.2 a1) ) - (gX4_free P ))).2.1) 1 (if (((gX4_askBack P ((gX1_need (nI a1) (P.2.2 a1) ) - (gX4_free P ))).2.1) 1) < (gX4_granted ((gX4_askBack P ((gX1_need (nI a1) (P.2.2 a1) ) - (gX4_free P ))).1, (gX4_askBack P ((gX1_need (nI a1) (P.2.2 a1) ) - (gX4_free P ))).2.1, va_up ((gX4_askBack P ((gX1_need (nI a1) (P.2.2 a1) ) - (gX4_free P ))).2.2) a1 (gX1_start (nI a1) (((gX4_askBack P ((gX1_need (nI a1) (P.2.2 a1) ) - (gX4_free P ))).2.2) a1) (gX1_need (nI a1) (P.2.2 a1) ))) ) then (gX4_granted ((gX4_askBack P ((gX1_need (nI a1) (P.2.2 a1) ) - (gX4_free P ))).1, (gX4_askBack P ((gX1_need (nI a1) (P.2.2 a1) ) - (gX4_free P ))).2.1, va_up ((gX4_askBack P ((gX1_need (nI a1) (P.2.2 a1) ) - (gX4_free P ))).2.2) a1 (gX1_start (nI a1) (((gX4_askBack P ((gX1_need (nI a1) (P.2.2 a1) ) - (gX4_free P ))).2.2) a1) (gX1_need (nI a1) (P.2.2 a1) ))) ) else (((gX4_askBack P ((gX1_need (nI a1) (P.2.2 a1) ) - (gX4_free P ))).2.1) 1)), va_up ((gX4_askBack P ((gX1_need (nI a1) (P.2.2 a1) ) - (gX4_free P ))).2.2) a1 (gX1_start (nI a1) (((gX4_askBack P ((gX1_need (nI a1) (P.2.2 a1) ) - (gX4_free P ))).2.2) a1) (gX1_need (nI a1) (P.2.2 a1) ))))) else (1, (P.1, upd P.2.1 1 (if (P.2.1 1) < (gX4_granted (P.1, P.2.1, va_up P.2.2 a1 (gX1_start (nI a1) (P.2.2 a1) (if (gX1_want (nI a1) (P.2.2 a1) ) < (gX4_free P ) then (gX1_want (nI a1) (P.2.2 a1) ) else (gX4_free P )))) ) then (gX4_granted (P.1, P.2.1, va_up P.2.2 a1 (gX1_start (nI a1) (P.2.2 a1) (if (gX1_want (nI a1) (P.2.2 a1) ) < (gX4_free P ) then (gX1_want (nI a1) (P.2.2 a1) ) else (gX4_free P )))) ) else (P.2.1 1)), va_up P.2.2 a1 (gX1_start (nI a1) (P.2.2 a1) (if (gX1_want (nI a1) (P.2.2 a1) ) < (gX4_free P ) then (gX1_want (nI a1) (P.2.2 a1) ) else (gX4_free P ))))))
set_option maxHeartbeats 4000000 in
set_option maxRecDepth 100000 in
theorem mX4_start (l : Launch) (D : va_G) (ck : Nat → ClassId) (pa : Nat → Nat) (P : PS) (a1 : Nat) (h1 : a1 < 16) : xMi l yX4_start wsX4_start rmX4_start D ck [.ref (pa 0), .ref (jA pa a1)] (poolW ck pa P) (poolW ck pa ((gX4_start P a1).2)) ((gX4_start P a1).1) 0 0 := by
  refine xMet (by decide) rfl (Nat.le_of_ble_eq_true rfl) ?_
  intro zp ze s zm zb zt zc hx hb hr hml hown hts hlk hnm hN hK hP hD ls hl
  have hown : s.vm.findClass RX4 = some zm.cls := hown
  have hl : lv_has ls 4 [(0, .ref (pa 0)), (1, .ref (jA pa a1))] := hl
  have hS : va_S (va_A (poolW ck pa P) s.heap.size) s.heap s.heap [] := va_S.rf
  have hA : ∀ zq : Nat, s.heap.size ≤ zq → va_A (poolW ck pa P) s.heap.size zq := fun zq h => Or.inr h
  have hinX4 : ∀ w ∈ u_ws RX4 TX4 7, w ∈ wsX4_start := by decide +kernel
  refine lv_aload_n hx hb dX4_start_0 rfl (lv_at hl 1 rfl) ?_
  refine xreti (va_runV (As := []) (rest := []) ⟨hx, hb, hml, hown, hts⟩ (mX1_need l D ck (jA pa a1) (qA pa a1) (nI a1) (P.2.2 a1)  _) (cwV 0 hts gX4_start_X1_need rfl rfl rfl (by decide +kernel) ⟨Nat.le_of_ble_eq_true rfl, Nat.le_of_ble_eq_true rfl⟩) (xpreV hN hK hP hD (pm_pj (P := P) (by omega)) 0 rfl rfl rfl) rfl rfl hl.1 rfl (lv_room (Nat.le_of_ble_eq_true rfl)) dX4_start_1 ⟨Nat.le_of_ble_eq_true rfl, Nat.le_of_ble_eq_true rfl⟩) hP hD hS hA (pm_pj (P := P) (by omega)) (pm_pj (P := P) (by omega)).symm (fun H locs hP hD hS => ?_)
  refine lv_istore_n (lv' := [(2, .int (gX1_need (nI a1) (P.2.2 a1) )), (0, .ref (pa 0)), (1, .ref (jA pa a1))]) hx hb dX4_start_4 rfl hl (by decide) rfl (fun ls hl => ?_)
  refine lv_iload_n hx hb dX4_start_5 rfl (lv_at hl 0 rfl) ?_
  refine lv_aload_n hx hb dX4_start_6 rfl (lv_at hl 1 rfl) ?_
  refine xreti (va_runV (As := []) (rest := [.int (gX1_need (nI a1) (P.2.2 a1) )]) ⟨hx, hb, hml, hown, hts⟩ (mX4_free l D ck pa P   _) (cwV 0 hts gX4_start_X4_free rfl rfl rfl (by decide +kernel) ⟨Nat.le_of_ble_eq_true rfl, Nat.le_of_ble_eq_true rfl⟩) (xpreV hN hK hP hD pm_all 0 rfl rfl rfl) rfl rfl hl.1 rfl (lv_room (Nat.le_of_ble_eq_true rfl)) dX4_start_7 ⟨Nat.le_of_ble_eq_true rfl, Nat.le_of_ble_eq_true rfl⟩) hP hD hS hA pm_all pm_all' (fun H locs hP hD hS => ?_)
  refine lv_isub hx hb dX4_start_10 ?_
  refine lv_istore_n (lv' := [(3, .int ((gX1_need (nI a1) (P.2.2 a1) ) - (gX4_free P ))), (2, .int (gX1_need (nI a1) (P.2.2 a1) )), (0, .ref (pa 0)), (1, .ref (jA pa a1))]) hx hb dX4_start_11 rfl hl (by decide) rfl (fun ls hl => ?_)
  refine lv_iload_n hx hb dX4_start_12 rfl (lv_at hl 0 rfl) ?_
  refine lv_if_gt (tgt := 34) hx hb dX4_start_13 (by decide) (fun c_13 => ?_) (fun c_13 => ?_)
  · --t
    refine lv_aload_n hx hb dX4_start_34 rfl (lv_at hl 2 rfl) ?_
    refine lv_iload_n hx hb dX4_start_35 rfl (lv_at hl 0 rfl) ?_
    refine xreti (va_runV (As := [.int ((gX1_need (nI a1) (P.2.2 a1) ) - (gX4_free P ))]) (rest := []) ⟨hx, hb, hml, hown, hts⟩ (mX4_canAskBack l D ck pa P ((gX1_need (nI a1) (P.2.2 a1) ) - (gX4_free P ))  _) (cwV 1 hts gX4_start_X4_canAskBack rfl rfl rfl (by decide +kernel) ⟨Nat.le_of_ble_eq_true rfl, Nat.le_of_ble_eq_true rfl⟩) (xpreV hN hK hP hD pm_all 0 rfl rfl rfl) rfl rfl hl.1 rfl (lv_room (Nat.le_of_ble_eq_true rfl)) dX4_start_36 ⟨Nat.le_of_ble_eq_true rfl, Nat.le_of_ble_eq_true rfl⟩) hP hD hS hA pm_all pm_all' (fun H locs hP hD hS => ?_)
    refine lv_if_eq (tgt := 55) hx hb dX4_start_39 (by decide) (fun c_39 => ?_) (fun c_39 => ?_)
    · --t
      refine lv_iconst (v := 0) hx hb dX4_start_55 (by decide) ?_
      exact xzret hx hb hr hlk hP hD hS (Or.inl rfl) (congrArg (fun z => z.1) (show gX4_start P a1 = (0, P) from (Eq.trans (if_pos c_13) (Eq.trans (if_pos c_39) rfl)))).symm (congrArg (fun z => poolW ck pa z.2) (show gX4_start P a1 = (0, P) from (Eq.trans (if_pos c_13) (Eq.trans (if_pos c_39) rfl)))).symm dX4_start_56
    · --f
      refine lv_aload_n hx hb dX4_start_42 rfl (lv_at hl 2 rfl) ?_
      refine lv_iload_n hx hb dX4_start_43 rfl (lv_at hl 0 rfl) ?_
      refine xretv (va_runV (As := [.int ((gX1_need (nI a1) (P.2.2 a1) ) - (gX4_free P ))]) (rest := []) ⟨hx, hb, hml, hown, hts⟩ (mX4_askBack l D ck pa P ((gX1_need (nI a1) (P.2.2 a1) ) - (gX4_free P ))  _) (cwV 1 hts gX4_start_X4_askBack rfl rfl rfl (by decide +kernel) ⟨Nat.le_of_ble_eq_true rfl, Nat.le_of_ble_eq_true rfl⟩) (xpreV hN hK hP hD pm_all 0 rfl rfl rfl) rfl rfl hl.1 rfl (lv_room (Nat.le_of_ble_eq_true rfl)) dX4_start_44 ⟨Nat.le_of_ble_eq_true rfl, Nat.le_of_ble_eq_true rfl⟩) hP hD hS hA pm_all pm_all' (fun H locs hP hD hS => ?_)
      have hP : va_P D vwCl (poolW ck pa (gX4_askBack P ((gX1_need (nI a1) (P.2.2 a1) ) - (gX4_free P )))) H := hP
      have hD : va_D (va_A (poolW ck pa P) s.heap.size) (poolW ck pa (gX4_askBack P ((gX1_need (nI a1) (P.2.2 a1) ) - (gX4_free P )))) := hD
      refine lv_aload_n hx hb dX4_start_47 rfl (lv_at hl 3 rfl) ?_
      refine lv_iload_n hx hb dX4_start_48 rfl (lv_at hl 1 rfl) ?_
      refine xretv (va_runV (As := [.int (gX1_need (nI a1) (P.2.2 a1) )]) (rest := []) ⟨hx, hb, hml, hown, hts⟩ (mX1_start l D ck (jA pa a1) (qA pa a1) (nI a1) (((gX4_askBack P ((gX1_need (nI a1) (P.2.2 a1) ) - (gX4_free P ))).2.2) a1) (gX1_need (nI a1) (P.2.2 a1) ) _) (cwV 1 hts gX4_start_X1_start rfl rfl rfl (by decide +kernel) ⟨Nat.le_of_ble_eq_true rfl, Nat.le_of_ble_eq_true rfl⟩) (xpreV hN hK hP hD (pm_pj (P := (gX4_askBack P ((gX1_need (nI a1) (P.2.2 a1) ) - (gX4_free P )))) (by omega)) 0 rfl rfl rfl) rfl rfl hl.1 rfl (lv_room (Nat.le_of_ble_eq_true rfl)) dX4_start_49 ⟨Nat.le_of_ble_eq_true rfl, Nat.le_of_ble_eq_true rfl⟩) hP hD hS hA (pm_pj (P := (gX4_askBack P ((gX1_need (nI a1) (P.2.2 a1) ) - (gX4_free P )))) (by omega)) (pm_pj' (P := (gX4_askBack P ((gX1_need (nI a1) (P.2.2 a1) ) - (gX4_free P )))) (by omega)) (fun H locs hP hD hS => ?_)
      have hP : va_P D vwCl (poolW ck pa ((gX4_askBack P ((gX1_need (nI a1) (P.2.2 a1) ) - (gX4_free P ))).1, (gX4_askBack P ((gX1_need (nI a1) (P.2.2 a1) ) - (gX4_free P ))).2.1, va_up ((gX4_askBack P ((gX1_need (nI a1) (P.2.2 a1) ) - (gX4_free P ))).2.2) a1 (gX1_start (nI a1) (((gX4_askBack P ((gX1_need (nI a1) (P.2.2 a1) ) - (gX4_free P ))).2.2) a1) (gX1_need (nI a1) (P.2.2 a1) )))) H := hP
      have hD : va_D (va_A (poolW ck pa P) s.heap.size) (poolW ck pa ((gX4_askBack P ((gX1_need (nI a1) (P.2.2 a1) ) - (gX4_free P ))).1, (gX4_askBack P ((gX1_need (nI a1) (P.2.2 a1) ) - (gX4_free P ))).2.1, va_up ((gX4_askBack P ((gX1_need (nI a1) (P.2.2 a1) ) - (gX4_free P ))).2.2) a1 (gX1_start (nI a1) (((gX4_askBack P ((gX1_need (nI a1) (P.2.2 a1) ) - (gX4_free P ))).2.2) a1) (gX1_need (nI a1) (P.2.2 a1) )))) := hD
      refine lv_goto (tgt := 57) hx hb dX4_start_52 (by decide) ?_
      refine lv_aload_n hx hb dX4_start_57 rfl (lv_at hl 2 rfl) ?_
      refine lv_aload_n hx hb dX4_start_58 rfl (lv_at hl 2 rfl) ?_
      refine va_get (D := D) (ci := 4) (v := .int (((gX4_askBack P ((gX1_need (nI a1) (P.2.2 a1) ) - (gX4_free P ))).2.1) 1)) (C := RX4) (T := TX4) (N := 7) hx hb hts hinX4 hown hK hP 0 rfl rfl 3 (by decide) (hts (.fieldLink RX4 92 "JoinGrants$Pool" "mostGranted" "I") (List.mem_of_getElem? (i := 5) rfl)) (fun _ h9 => h9) rfl dX4_start_59 ?_
      refine lv_aload_n hx hb dX4_start_62 rfl (lv_at hl 2 rfl) ?_
      refine xreti (va_runV (As := []) (rest := [.int (((gX4_askBack P ((gX1_need (nI a1) (P.2.2 a1) ) - (gX4_free P ))).2.1) 1), .ref (pa 0)]) ⟨hx, hb, hml, hown, hts⟩ (mX4_granted l D ck pa ((gX4_askBack P ((gX1_need (nI a1) (P.2.2 a1) ) - (gX4_free P ))).1, (gX4_askBack P ((gX1_need (nI a1) (P.2.2 a1) ) - (gX4_free P ))).2.1, va_up ((gX4_askBack P ((gX1_need (nI a1) (P.2.2 a1) ) - (gX4_free P ))).2.2) a1 (gX1_start (nI a1) (((gX4_askBack P ((gX1_need (nI a1) (P.2.2 a1) ) - (gX4_free P ))).2.2) a1) (gX1_need (nI a1) (P.2.2 a1) )))   _) (cwV 0 hts gX4_start_X4_granted rfl rfl rfl (by decide +kernel) ⟨Nat.le_of_ble_eq_true rfl, Nat.le_of_ble_eq_true rfl⟩) (xpreV hN hK hP hD pm_all 0 rfl rfl rfl) rfl rfl hl.1 rfl (lv_room (Nat.le_of_ble_eq_true rfl)) dX4_start_63 ⟨Nat.le_of_ble_eq_true rfl, Nat.le_of_ble_eq_true rfl⟩) hP hD hS hA pm_all pm_all' (fun H locs hP hD hS => ?_)
      refine va_mmax hx hb (hml.trans hl.1.symm) hown (hts (.methodLink RX4 98 Lib.Math.max.name) (List.mem_of_getElem? (i := 6) rfl)) (hts (.static Lib.Math.max.name) (List.mem_of_getElem? (i := 7) rfl)) (hts (.initialized "java/lang/Math") (List.mem_of_getElem? (i := 3) rfl)) (hts (.code Lib.Math.max.name Lib.Math.max.code 2 (some .int)) (List.mem_of_getElem? (i := 8) rfl)) (Nat.le_of_ble_eq_true rfl) (Nat.le_of_ble_eq_true rfl) (Nat.le_of_ble_eq_true rfl) (Nat.le_of_ble_eq_true rfl) dX4_start_66 ?_
      refine va_put (D := D) (ci := 4) (v := .int (if (((gX4_askBack P ((gX1_need (nI a1) (P.2.2 a1) ) - (gX4_free P ))).2.1) 1) < (gX4_granted ((gX4_askBack P ((gX1_need (nI a1) (P.2.2 a1) ) - (gX4_free P ))).1, (gX4_askBack P ((gX1_need (nI a1) (P.2.2 a1) ) - (gX4_free P ))).2.1, va_up ((gX4_askBack P ((gX1_need (nI a1) (P.2.2 a1) ) - (gX4_free P ))).2.2) a1 (gX1_start (nI a1) (((gX4_askBack P ((gX1_need (nI a1) (P.2.2 a1) ) - (gX4_free P ))).2.2) a1) (gX1_need (nI a1) (P.2.2 a1) ))) ) then (gX4_granted ((gX4_askBack P ((gX1_need (nI a1) (P.2.2 a1) ) - (gX4_free P ))).1, (gX4_askBack P ((gX1_need (nI a1) (P.2.2 a1) ) - (gX4_free P ))).2.1, va_up ((gX4_askBack P ((gX1_need (nI a1) (P.2.2 a1) ) - (gX4_free P ))).2.2) a1 (gX1_start (nI a1) (((gX4_askBack P ((gX1_need (nI a1) (P.2.2 a1) ) - (gX4_free P ))).2.2) a1) (gX1_need (nI a1) (P.2.2 a1) ))) ) else (((gX4_askBack P ((gX1_need (nI a1) (P.2.2 a1) ) - (gX4_free P ))).2.1) 1))) (ty := .int) (C := RX4) (T := TX4) (N := 7) hx hb hts hinX4 tyX4 tyX4_ok nmX4 hown hK hP hD hS 0 rfl rfl 3 (by decide) (hts (.fieldLink RX4 92 "JoinGrants$Pool" "mostGranted" "I") (List.mem_of_getElem? (i := 5) rfl)) (fun _ h9 => h9) rfl (by decide +kernel) rfl rfl (Nat.le_of_ble_eq_true rfl) dX4_start_69 (fun H locs hP hD hS => ?_)
      have hP : va_P D vwCl (poolW ck pa ((gX4_askBack P ((gX1_need (nI a1) (P.2.2 a1) ) - (gX4_free P ))).1, upd ((gX4_askBack P ((gX1_need (nI a1) (P.2.2 a1) ) - (gX4_free P ))).2.1) 1 (if (((gX4_askBack P ((gX1_need (nI a1) (P.2.2 a1) ) - (gX4_free P ))).2.1) 1) < (gX4_granted ((gX4_askBack P ((gX1_need (nI a1) (P.2.2 a1) ) - (gX4_free P ))).1, (gX4_askBack P ((gX1_need (nI a1) (P.2.2 a1) ) - (gX4_free P ))).2.1, va_up ((gX4_askBack P ((gX1_need (nI a1) (P.2.2 a1) ) - (gX4_free P ))).2.2) a1 (gX1_start (nI a1) (((gX4_askBack P ((gX1_need (nI a1) (P.2.2 a1) ) - (gX4_free P ))).2.2) a1) (gX1_need (nI a1) (P.2.2 a1) ))) ) then (gX4_granted ((gX4_askBack P ((gX1_need (nI a1) (P.2.2 a1) ) - (gX4_free P ))).1, (gX4_askBack P ((gX1_need (nI a1) (P.2.2 a1) ) - (gX4_free P ))).2.1, va_up ((gX4_askBack P ((gX1_need (nI a1) (P.2.2 a1) ) - (gX4_free P ))).2.2) a1 (gX1_start (nI a1) (((gX4_askBack P ((gX1_need (nI a1) (P.2.2 a1) ) - (gX4_free P ))).2.2) a1) (gX1_need (nI a1) (P.2.2 a1) ))) ) else (((gX4_askBack P ((gX1_need (nI a1) (P.2.2 a1) ) - (gX4_free P ))).2.1) 1)), va_up ((gX4_askBack P ((gX1_need (nI a1) (P.2.2 a1) ) - (gX4_free P ))).2.2) a1 (gX1_start (nI a1) (((gX4_askBack P ((gX1_need (nI a1) (P.2.2 a1) ) - (gX4_free P ))).2.2) a1) (gX1_need (nI a1) (P.2.2 a1) )))) H := hP
      have hD : va_D (va_A (poolW ck pa P) s.heap.size) (poolW ck pa ((gX4_askBack P ((gX1_need (nI a1) (P.2.2 a1) ) - (gX4_free P ))).1, upd ((gX4_askBack P ((gX1_need (nI a1) (P.2.2 a1) ) - (gX4_free P ))).2.1) 1 (if (((gX4_askBack P ((gX1_need (nI a1) (P.2.2 a1) ) - (gX4_free P ))).2.1) 1) < (gX4_granted ((gX4_askBack P ((gX1_need (nI a1) (P.2.2 a1) ) - (gX4_free P ))).1, (gX4_askBack P ((gX1_need (nI a1) (P.2.2 a1) ) - (gX4_free P ))).2.1, va_up ((gX4_askBack P ((gX1_need (nI a1) (P.2.2 a1) ) - (gX4_free P ))).2.2) a1 (gX1_start (nI a1) (((gX4_askBack P ((gX1_need (nI a1) (P.2.2 a1) ) - (gX4_free P ))).2.2) a1) (gX1_need (nI a1) (P.2.2 a1) ))) ) then (gX4_granted ((gX4_askBack P ((gX1_need (nI a1) (P.2.2 a1) ) - (gX4_free P ))).1, (gX4_askBack P ((gX1_need (nI a1) (P.2.2 a1) ) - (gX4_free P ))).2.1, va_up ((gX4_askBack P ((gX1_need (nI a1) (P.2.2 a1) ) - (gX4_free P ))).2.2) a1 (gX1_start (nI a1) (((gX4_askBack P ((gX1_need (nI a1) (P.2.2 a1) ) - (gX4_free P ))).2.2) a1) (gX1_need (nI a1) (P.2.2 a1) ))) ) else (((gX4_askBack P ((gX1_need (nI a1) (P.2.2 a1) ) - (gX4_free P ))).2.1) 1)), va_up ((gX4_askBack P ((gX1_need (nI a1) (P.2.2 a1) ) - (gX4_free P ))).2.2) a1 (gX1_start (nI a1) (((gX4_askBack P ((gX1_need (nI a1) (P.2.2 a1) ) - (gX4_free P ))).2.2) a1) (gX1_need (nI a1) (P.2.2 a1) )))) := hD
      refine lv_iconst (v := 1) hx hb dX4_start_72 (by decide) ?_
      exact xzret hx hb hr hlk hP hD hS (Or.inr rfl) (congrArg (fun z => z.1) (show gX4_start P a1 = (1, ((gX4_askBack P ((gX1_need (nI a1) (P.2.2 a1) ) - (gX4_free P ))).1, upd ((gX4_askBack P ((gX1_need (nI a1) (P.2.2 a1) ) - (gX4_free P ))).2.1) 1 (if (((gX4_askBack P ((gX1_need (nI a1) (P.2.2 a1) ) - (gX4_free P ))).2.1) 1) < (gX4_granted ((gX4_askBack P ((gX1_need (nI a1) (P.2.2 a1) ) - (gX4_free P ))).1, (gX4_askBack P ((gX1_need (nI a1) (P.2.2 a1) ) - (gX4_free P ))).2.1, va_up ((gX4_askBack P ((gX1_need (nI a1) (P.2.2 a1) ) - (gX4_free P ))).2.2) a1 (gX1_start (nI a1) (((gX4_askBack P ((gX1_need (nI a1) (P.2.2 a1) ) - (gX4_free P ))).2.2) a1) (gX1_need (nI a1) (P.2.2 a1) ))) ) then (gX4_granted ((gX4_askBack P ((gX1_need (nI a1) (P.2.2 a1) ) - (gX4_free P ))).1, (gX4_askBack P ((gX1_need (nI a1) (P.2.2 a1) ) - (gX4_free P ))).2.1, va_up ((gX4_askBack P ((gX1_need (nI a1) (P.2.2 a1) ) - (gX4_free P ))).2.2) a1 (gX1_start (nI a1) (((gX4_askBack P ((gX1_need (nI a1) (P.2.2 a1) ) - (gX4_free P ))).2.2) a1) (gX1_need (nI a1) (P.2.2 a1) ))) ) else (((gX4_askBack P ((gX1_need (nI a1) (P.2.2 a1) ) - (gX4_free P ))).2.1) 1)), va_up ((gX4_askBack P ((gX1_need (nI a1) (P.2.2 a1) ) - (gX4_free P ))).2.2) a1 (gX1_start (nI a1) (((gX4_askBack P ((gX1_need (nI a1) (P.2.2 a1) ) - (gX4_free P ))).2.2) a1) (gX1_need (nI a1) (P.2.2 a1) )))) from (Eq.trans (if_pos c_13) (Eq.trans (if_neg c_39) rfl)))).symm (congrArg (fun z => poolW ck pa z.2) (show gX4_start P a1 = (1, ((gX4_askBack P ((gX1_need (nI a1) (P.2.2 a1) ) - (gX4_free P ))).1, upd ((gX4_askBack P ((gX1_need (nI a1) (P.2.2 a1) ) - (gX4_free P ))).2.1) 1 (if (((gX4_askBack P ((gX1_need (nI a1) (P.2.2 a1) ) - (gX4_free P ))).2.1) 1) < (gX4_granted ((gX4_askBack P ((gX1_need (nI a1) (P.2.2 a1) ) - (gX4_free P ))).1, (gX4_askBack P ((gX1_need (nI a1) (P.2.2 a1) ) - (gX4_free P ))).2.1, va_up ((gX4_askBack P ((gX1_need (nI a1) (P.2.2 a1) ) - (gX4_free P ))).2.2) a1 (gX1_start (nI a1) (((gX4_askBack P ((gX1_need (nI a1) (P.2.2 a1) ) - (gX4_free P ))).2.2) a1) (gX1_need (nI a1) (P.2.2 a1) ))) ) then (gX4_granted ((gX4_askBack P ((gX1_need (nI a1) (P.2.2 a1) ) - (gX4_free P ))).1, (gX4_askBack P ((gX1_need (nI a1) (P.2.2 a1) ) - (gX4_free P ))).2.1, va_up ((gX4_askBack P ((gX1_need (nI a1) (P.2.2 a1) ) - (gX4_free P ))).2.2) a1 (gX1_start (nI a1) (((gX4_askBack P ((gX1_need (nI a1) (P.2.2 a1) ) - (gX4_free P ))).2.2) a1) (gX1_need (nI a1) (P.2.2 a1) ))) ) else (((gX4_askBack P ((gX1_need (nI a1) (P.2.2 a1) ) - (gX4_free P ))).2.1) 1)), va_up ((gX4_askBack P ((gX1_need (nI a1) (P.2.2 a1) ) - (gX4_free P ))).2.2) a1 (gX1_start (nI a1) (((gX4_askBack P ((gX1_need (nI a1) (P.2.2 a1) ) - (gX4_free P ))).2.2) a1) (gX1_need (nI a1) (P.2.2 a1) )))) from (Eq.trans (if_pos c_13) (Eq.trans (if_neg c_39) rfl)))).symm dX4_start_73
  · --f
    refine lv_aload_n hx hb dX4_start_16 rfl (lv_at hl 3 rfl) ?_
    refine lv_aload_n hx hb dX4_start_17 rfl (lv_at hl 2 rfl) ?_
    refine xreti (va_runV (As := []) (rest := [.ref (jA pa a1)]) ⟨hx, hb, hml, hown, hts⟩ (mX4_free l D ck pa P   _) (cwV 0 hts gX4_start_X4_free rfl rfl rfl (by decide +kernel) ⟨Nat.le_of_ble_eq_true rfl, Nat.le_of_ble_eq_true rfl⟩) (xpreV hN hK hP hD pm_all 0 rfl rfl rfl) rfl rfl hl.1 rfl (lv_room (Nat.le_of_ble_eq_true rfl)) dX4_start_18 ⟨Nat.le_of_ble_eq_true rfl, Nat.le_of_ble_eq_true rfl⟩) hP hD hS hA pm_all pm_all' (fun H locs hP hD hS => ?_)
    refine lv_aload_n hx hb dX4_start_21 rfl (lv_at hl 3 rfl) ?_
    refine xreti (va_runV (As := []) (rest := [.int (gX4_free P ), .ref (jA pa a1)]) ⟨hx, hb, hml, hown, hts⟩ (mX1_want l D ck (jA pa a1) (qA pa a1) (nI a1) (P.2.2 a1)  _) (cwV 0 hts gX4_start_X1_want rfl rfl rfl (by decide +kernel) ⟨Nat.le_of_ble_eq_true rfl, Nat.le_of_ble_eq_true rfl⟩) (xpreV hN hK hP hD (pm_pj (P := P) (by omega)) 0 rfl rfl rfl) rfl rfl hl.1 rfl (lv_room (Nat.le_of_ble_eq_true rfl)) dX4_start_22 ⟨Nat.le_of_ble_eq_true rfl, Nat.le_of_ble_eq_true rfl⟩) hP hD hS hA (pm_pj (P := P) (by omega)) (pm_pj (P := P) (by omega)).symm (fun H locs hP hD hS => ?_)
    refine va_mmin hx hb (hml.trans hl.1.symm) hown (hts (.methodLink RX4 78 Lib.Math.min.name) (List.mem_of_getElem? (i := 1) rfl)) (hts (.static Lib.Math.min.name) (List.mem_of_getElem? (i := 2) rfl)) (hts (.initialized "java/lang/Math") (List.mem_of_getElem? (i := 3) rfl)) (hts (.code Lib.Math.min.name Lib.Math.min.code 2 (some .int)) (List.mem_of_getElem? (i := 4) rfl)) (Nat.le_of_ble_eq_true rfl) (Nat.le_of_ble_eq_true rfl) (Nat.le_of_ble_eq_true rfl) (Nat.le_of_ble_eq_true rfl) dX4_start_25 ?_
    refine xretv (va_runV (As := [.int (if (gX1_want (nI a1) (P.2.2 a1) ) < (gX4_free P ) then (gX1_want (nI a1) (P.2.2 a1) ) else (gX4_free P ))]) (rest := []) ⟨hx, hb, hml, hown, hts⟩ (mX1_start l D ck (jA pa a1) (qA pa a1) (nI a1) (P.2.2 a1) (if (gX1_want (nI a1) (P.2.2 a1) ) < (gX4_free P ) then (gX1_want (nI a1) (P.2.2 a1) ) else (gX4_free P )) _) (cwV 1 hts gX4_start_X1_start rfl rfl rfl (by decide +kernel) ⟨Nat.le_of_ble_eq_true rfl, Nat.le_of_ble_eq_true rfl⟩) (xpreV hN hK hP hD (pm_pj (P := P) (by omega)) 0 rfl rfl rfl) rfl rfl hl.1 rfl (lv_room (Nat.le_of_ble_eq_true rfl)) dX4_start_28 ⟨Nat.le_of_ble_eq_true rfl, Nat.le_of_ble_eq_true rfl⟩) hP hD hS hA (pm_pj (P := P) (by omega)) (pm_pj' (P := P) (by omega)) (fun H locs hP hD hS => ?_)
    have hP : va_P D vwCl (poolW ck pa (P.1, P.2.1, va_up P.2.2 a1 (gX1_start (nI a1) (P.2.2 a1) (if (gX1_want (nI a1) (P.2.2 a1) ) < (gX4_free P ) then (gX1_want (nI a1) (P.2.2 a1) ) else (gX4_free P ))))) H := hP
    have hD : va_D (va_A (poolW ck pa P) s.heap.size) (poolW ck pa (P.1, P.2.1, va_up P.2.2 a1 (gX1_start (nI a1) (P.2.2 a1) (if (gX1_want (nI a1) (P.2.2 a1) ) < (gX4_free P ) then (gX1_want (nI a1) (P.2.2 a1) ) else (gX4_free P ))))) := hD
    refine lv_goto (tgt := 57) hx hb dX4_start_31 (by decide) ?_
    refine lv_aload_n hx hb dX4_start_57 rfl (lv_at hl 2 rfl) ?_
    refine lv_aload_n hx hb dX4_start_58 rfl (lv_at hl 2 rfl) ?_
    refine va_get (D := D) (ci := 4) (v := .int (P.2.1 1)) (C := RX4) (T := TX4) (N := 7) hx hb hts hinX4 hown hK hP 0 rfl rfl 3 (by decide) (hts (.fieldLink RX4 92 "JoinGrants$Pool" "mostGranted" "I") (List.mem_of_getElem? (i := 5) rfl)) (fun _ h9 => h9) rfl dX4_start_59 ?_
    refine lv_aload_n hx hb dX4_start_62 rfl (lv_at hl 2 rfl) ?_
    refine xreti (va_runV (As := []) (rest := [.int (P.2.1 1), .ref (pa 0)]) ⟨hx, hb, hml, hown, hts⟩ (mX4_granted l D ck pa (P.1, P.2.1, va_up P.2.2 a1 (gX1_start (nI a1) (P.2.2 a1) (if (gX1_want (nI a1) (P.2.2 a1) ) < (gX4_free P ) then (gX1_want (nI a1) (P.2.2 a1) ) else (gX4_free P ))))   _) (cwV 0 hts gX4_start_X4_granted rfl rfl rfl (by decide +kernel) ⟨Nat.le_of_ble_eq_true rfl, Nat.le_of_ble_eq_true rfl⟩) (xpreV hN hK hP hD pm_all 0 rfl rfl rfl) rfl rfl hl.1 rfl (lv_room (Nat.le_of_ble_eq_true rfl)) dX4_start_63 ⟨Nat.le_of_ble_eq_true rfl, Nat.le_of_ble_eq_true rfl⟩) hP hD hS hA pm_all pm_all' (fun H locs hP hD hS => ?_)
    refine va_mmax hx hb (hml.trans hl.1.symm) hown (hts (.methodLink RX4 98 Lib.Math.max.name) (List.mem_of_getElem? (i := 6) rfl)) (hts (.static Lib.Math.max.name) (List.mem_of_getElem? (i := 7) rfl)) (hts (.initialized "java/lang/Math") (List.mem_of_getElem? (i := 3) rfl)) (hts (.code Lib.Math.max.name Lib.Math.max.code 2 (some .int)) (List.mem_of_getElem? (i := 8) rfl)) (Nat.le_of_ble_eq_true rfl) (Nat.le_of_ble_eq_true rfl) (Nat.le_of_ble_eq_true rfl) (Nat.le_of_ble_eq_true rfl) dX4_start_66 ?_
    refine va_put (D := D) (ci := 4) (v := .int (if (P.2.1 1) < (gX4_granted (P.1, P.2.1, va_up P.2.2 a1 (gX1_start (nI a1) (P.2.2 a1) (if (gX1_want (nI a1) (P.2.2 a1) ) < (gX4_free P ) then (gX1_want (nI a1) (P.2.2 a1) ) else (gX4_free P )))) ) then (gX4_granted (P.1, P.2.1, va_up P.2.2 a1 (gX1_start (nI a1) (P.2.2 a1) (if (gX1_want (nI a1) (P.2.2 a1) ) < (gX4_free P ) then (gX1_want (nI a1) (P.2.2 a1) ) else (gX4_free P )))) ) else (P.2.1 1))) (ty := .int) (C := RX4) (T := TX4) (N := 7) hx hb hts hinX4 tyX4 tyX4_ok nmX4 hown hK hP hD hS 0 rfl rfl 3 (by decide) (hts (.fieldLink RX4 92 "JoinGrants$Pool" "mostGranted" "I") (List.mem_of_getElem? (i := 5) rfl)) (fun _ h9 => h9) rfl (by decide +kernel) rfl rfl (Nat.le_of_ble_eq_true rfl) dX4_start_69 (fun H locs hP hD hS => ?_)
    have hP : va_P D vwCl (poolW ck pa (P.1, upd P.2.1 1 (if (P.2.1 1) < (gX4_granted (P.1, P.2.1, va_up P.2.2 a1 (gX1_start (nI a1) (P.2.2 a1) (if (gX1_want (nI a1) (P.2.2 a1) ) < (gX4_free P ) then (gX1_want (nI a1) (P.2.2 a1) ) else (gX4_free P )))) ) then (gX4_granted (P.1, P.2.1, va_up P.2.2 a1 (gX1_start (nI a1) (P.2.2 a1) (if (gX1_want (nI a1) (P.2.2 a1) ) < (gX4_free P ) then (gX1_want (nI a1) (P.2.2 a1) ) else (gX4_free P )))) ) else (P.2.1 1)), va_up P.2.2 a1 (gX1_start (nI a1) (P.2.2 a1) (if (gX1_want (nI a1) (P.2.2 a1) ) < (gX4_free P ) then (gX1_want (nI a1) (P.2.2 a1) ) else (gX4_free P ))))) H := hP
    have hD : va_D (va_A (poolW ck pa P) s.heap.size) (poolW ck pa (P.1, upd P.2.1 1 (if (P.2.1 1) < (gX4_granted (P.1, P.2.1, va_up P.2.2 a1 (gX1_start (nI a1) (P.2.2 a1) (if (gX1_want (nI a1) (P.2.2 a1) ) < (gX4_free P ) then (gX1_want (nI a1) (P.2.2 a1) ) else (gX4_free P )))) ) then (gX4_granted (P.1, P.2.1, va_up P.2.2 a1 (gX1_start (nI a1) (P.2.2 a1) (if (gX1_want (nI a1) (P.2.2 a1) ) < (gX4_free P ) then (gX1_want (nI a1) (P.2.2 a1) ) else (gX4_free P )))) ) else (P.2.1 1)), va_up P.2.2 a1 (gX1_start (nI a1) (P.2.2 a1) (if (gX1_want (nI a1) (P.2.2 a1) ) < (gX4_free P ) then (gX1_want (nI a1) (P.2.2 a1) ) else (gX4_free P ))))) := hD
    refine lv_iconst (v := 1) hx hb dX4_start_72 (by decide) ?_
    exact xzret hx hb hr hlk hP hD hS (Or.inr rfl) (congrArg (fun z => z.1) (show gX4_start P a1 = (1, (P.1, upd P.2.1 1 (if (P.2.1 1) < (gX4_granted (P.1, P.2.1, va_up P.2.2 a1 (gX1_start (nI a1) (P.2.2 a1) (if (gX1_want (nI a1) (P.2.2 a1) ) < (gX4_free P ) then (gX1_want (nI a1) (P.2.2 a1) ) else (gX4_free P )))) ) then (gX4_granted (P.1, P.2.1, va_up P.2.2 a1 (gX1_start (nI a1) (P.2.2 a1) (if (gX1_want (nI a1) (P.2.2 a1) ) < (gX4_free P ) then (gX1_want (nI a1) (P.2.2 a1) ) else (gX4_free P )))) ) else (P.2.1 1)), va_up P.2.2 a1 (gX1_start (nI a1) (P.2.2 a1) (if (gX1_want (nI a1) (P.2.2 a1) ) < (gX4_free P ) then (gX1_want (nI a1) (P.2.2 a1) ) else (gX4_free P ))))) from (Eq.trans (if_neg c_13) rfl))).symm (congrArg (fun z => poolW ck pa z.2) (show gX4_start P a1 = (1, (P.1, upd P.2.1 1 (if (P.2.1 1) < (gX4_granted (P.1, P.2.1, va_up P.2.2 a1 (gX1_start (nI a1) (P.2.2 a1) (if (gX1_want (nI a1) (P.2.2 a1) ) < (gX4_free P ) then (gX1_want (nI a1) (P.2.2 a1) ) else (gX4_free P )))) ) then (gX4_granted (P.1, P.2.1, va_up P.2.2 a1 (gX1_start (nI a1) (P.2.2 a1) (if (gX1_want (nI a1) (P.2.2 a1) ) < (gX4_free P ) then (gX1_want (nI a1) (P.2.2 a1) ) else (gX4_free P )))) ) else (P.2.1 1)), va_up P.2.2 a1 (gX1_start (nI a1) (P.2.2 a1) (if (gX1_want (nI a1) (P.2.2 a1) ) < (gX4_free P ) then (gX1_want (nI a1) (P.2.2 a1) ) else (gX4_free P ))))) from (Eq.trans (if_neg c_13) rfl))).symm dX4_start_73

def rmX4_goThroughQueue : Room := { frames := 4, cells := 0, slots := 0, locals := 97 }
def gX4_goThroughQueue_L2 (P : PS) : Nat → Nat → PS → PS
  | 0, i, P1 => P1
  | f + 1, i, P1 => (if (gX4_firstInQueue P1 ) = none then P1 else (if ((gX4_start P1 ((gX4_firstInQueue P1 ).getD 0)).1) = 0 then ((gX4_start P1 ((gX4_firstInQueue P1 ).getD 0)).2) else (gX4_goThroughQueue_L2 P f (i + 1) ((gX4_start P1 ((gX4_firstInQueue P1 ).getD 0)).2))))
def gX4_goThroughQueue (P : PS) : PS := (gX4_goThroughQueue_L2 P 16 0 P)
set_option maxHeartbeats 4000000 in
set_option maxRecDepth 100000 in
theorem mX4_goThroughQueue (l : Launch) (D : va_G) (ck : Nat → ClassId) (pa : Nat → Nat) (P : PS) : xMv l yX4_goThroughQueue wsX4_goThroughQueue rmX4_goThroughQueue D ck [.ref (pa 0)] (poolW ck pa P) (poolW ck pa (gX4_goThroughQueue P)) 0 0 := by
  refine xMet (by decide) rfl (Nat.le_of_ble_eq_true rfl) ?_
  intro zp ze s zm zb zt zc hx hb hr hml hown hts hlk hnm hN hK hP hD ls hl
  have hown : s.vm.findClass RX4 = some zm.cls := hown
  have hl : lv_has ls 3 [(0, .ref (pa 0))] := hl
  have hS : va_S (va_A (poolW ck pa P) s.heap.size) s.heap s.heap [] := va_S.rf
  have hA : ∀ zq : Nat, s.heap.size ≤ zq → va_A (poolW ck pa P) s.heap.size zq := fun zq h => Or.inr h
  have hinX4 : ∀ w ∈ u_ws RX4 TX4 7, w ∈ wsX4_goThroughQueue := by decide +kernel
  refine lv_iconst (v := (nI 0)) hx hb dX4_goThroughQueue_0 (by decide) ?_
  refine lv_istore_n (lv' := [(1, .int (nI 0)), (0, .ref (pa 0))]) hx hb dX4_goThroughQueue_1 rfl hl (by decide) rfl (fun ls hl => ?_)
  have loop2 : ∀ (f : Nat) (i : Nat) (P1 : PS), (i + f = 16) → gX4_goThroughQueue P = gX4_goThroughQueue_L2 P f i P1 → ∀ (H : Heap) (locs : List Loc) (ls : Array Slot), va_P D vwCl (poolW ck pa P1) H → va_D (va_A (poolW ck pa P) s.heap.size) (poolW ck pa P1) → va_S (va_A (poolW ck pa P) s.heap.size) s.heap H locs → lv_has ls 3 [(0, .ref (pa 0)), (1, .int (nI i))] → W zp l ze rmX4_goThroughQueue s zm ([.ref (pa 0)] : List Value).toArray zb zt zc H locs 0 0 (MQ zb (xQv D (poolW ck pa P) (poolW ck pa (gX4_goThroughQueue P)) s.heap.size) ([.ref (pa 0)] : List Value).toArray s 0 0 (va_A (poolW ck pa P) s.heap.size)) (F0 zm 2 ls []) := by
    intro f
    induction f with
    | zero =>
      intro i P1 hif hg H locs ls hP hD hS hl
      refine lv_iload_n hx hb dX4_goThroughQueue_2 rfl (lv_at hl 1 rfl) ?_
      refine lv_aload_n hx hb dX4_goThroughQueue_3 rfl (lv_at hl 0 rfl) ?_
      refine va_get (D := D) (ci := 4) (v := .ref (pa 2)) (C := RX4) (T := TX4) (N := 7) hx hb hts hinX4 hown hK hP 0 rfl rfl 1 (by decide) (hts (.fieldLink RX4 25 "JoinGrants$Pool" "joins" "[LJoinGrants$Join;") (List.mem_of_getElem? (i := 1) rfl)) (fun _ h9 => h9) rfl dX4_goThroughQueue_4 ?_
      refine va_alen hx hb hK hP 2 2 rfl rfl (v := (nI 16)) rfl dX4_goThroughQueue_7 ?_
      refine lv_icmp_ge (tgt := 35) hx hb dX4_goThroughQueue_8 (by decide) (fun c_8 => ?_) (fun c_8 => ?_)
      · --t
        exact xvret hx hb hr hlk hP hD hS (congrArg (fun z => poolW ck pa z) (hg.trans (show gX4_goThroughQueue_L2 P 0 i P1 = P1 from rfl))).symm dX4_goThroughQueue_35
      · --f
        exact absurd (nI_le (by omega) (by omega)) c_8
    | succ f ih2 =>
      intro i P1 hif hg H locs ls hP hD hS hl
      refine lv_iload_n hx hb dX4_goThroughQueue_2 rfl (lv_at hl 1 rfl) ?_
      refine lv_aload_n hx hb dX4_goThroughQueue_3 rfl (lv_at hl 0 rfl) ?_
      refine va_get (D := D) (ci := 4) (v := .ref (pa 2)) (C := RX4) (T := TX4) (N := 7) hx hb hts hinX4 hown hK hP 0 rfl rfl 1 (by decide) (hts (.fieldLink RX4 25 "JoinGrants$Pool" "joins" "[LJoinGrants$Join;") (List.mem_of_getElem? (i := 1) rfl)) (fun _ h9 => h9) rfl dX4_goThroughQueue_4 ?_
      refine va_alen hx hb hK hP 2 2 rfl rfl (v := (nI 16)) rfl dX4_goThroughQueue_7 ?_
      refine lv_icmp_ge (tgt := 35) hx hb dX4_goThroughQueue_8 (by decide) (fun c_8 => ?_) (fun c_8 => ?_)
      · --t
        exact absurd c_8 (nI_ge (by omega) (by omega))
      · --f
        refine lv_aload_n hx hb dX4_goThroughQueue_11 rfl (lv_at hl 0 rfl) ?_
        refine xretq (va_runV (As := []) (rest := []) ⟨hx, hb, hml, hown, hts⟩ (mX4_firstInQueue l D ck pa P1   _) (cwV 0 hts gX4_goThroughQueue_X4_firstInQueue rfl rfl rfl (by decide +kernel) ⟨Nat.le_of_ble_eq_true rfl, Nat.le_of_ble_eq_true rfl⟩) (xpreV hN hK hP hD pm_all 0 rfl rfl rfl) rfl rfl hl.1 rfl (lv_room (Nat.le_of_ble_eq_true rfl)) dX4_goThroughQueue_12 ⟨Nat.le_of_ble_eq_true rfl, Nat.le_of_ble_eq_true rfl⟩) hP hD hS hA pm_all pm_all' (fun H locs hP hD hS => ?_)
        by_cases cq_12 : (gX4_firstInQueue P1 ) = none
        ·
          rw [xrf_none cq_12]
          refine lv_astore_nN (lv' := [(2, .null), (0, .ref (pa 0)), (1, .int (nI i))]) hx hb dX4_goThroughQueue_15 rfl hl (by decide) rfl (fun ls hl => ?_)
          refine lv_aload_nN hx hb dX4_goThroughQueue_16 rfl (lv_at hl 0 rfl) ?_
          refine lv_ifnullN (tgt := 28) hx hb dX4_goThroughQueue_17 (by decide) ?_
          exact xvret hx hb hr hlk hP hD hS (congrArg (fun z => poolW ck pa z) (hg.trans (show gX4_goThroughQueue_L2 P (f + 1) i P1 = P1 from (Eq.trans (if_pos cq_12) rfl)))).symm dX4_goThroughQueue_28
        ·
          rw [xrf_some cq_12]
          have hlt_12 : ((gX4_firstInQueue P1 )).getD 0 < 16 := lt_X4_firstInQueue cq_12
          refine lv_astore_n (lv' := [(2, .ref (jA pa ((gX4_firstInQueue P1 ).getD 0))), (0, .ref (pa 0)), (1, .int (nI i))]) hx hb dX4_goThroughQueue_15 rfl hl (by decide) rfl (fun ls hl => ?_)
          refine lv_aload_n hx hb dX4_goThroughQueue_16 rfl (lv_at hl 0 rfl) ?_
          refine lv_ifnull hx hb dX4_goThroughQueue_17 ?_
          refine lv_aload_n hx hb dX4_goThroughQueue_20 rfl (lv_at hl 1 rfl) ?_
          refine lv_aload_n hx hb dX4_goThroughQueue_21 rfl (lv_at hl 0 rfl) ?_
          refine xreti (va_runV (As := [.ref (jA pa ((gX4_firstInQueue P1 ).getD 0))]) (rest := []) ⟨hx, hb, hml, hown, hts⟩ (mX4_start l D ck pa P1 ((gX4_firstInQueue P1 ).getD 0) (by omega) _) (cwV 1 hts gX4_goThroughQueue_X4_start rfl rfl rfl (by decide +kernel) ⟨Nat.le_of_ble_eq_true rfl, Nat.le_of_ble_eq_true rfl⟩) (xpreV hN hK hP hD pm_all 0 rfl rfl rfl) rfl rfl hl.1 rfl (lv_room (Nat.le_of_ble_eq_true rfl)) dX4_goThroughQueue_22 ⟨Nat.le_of_ble_eq_true rfl, Nat.le_of_ble_eq_true rfl⟩) hP hD hS hA pm_all pm_all' (fun H locs hP hD hS => ?_)
          have hP : va_P D vwCl (poolW ck pa ((gX4_start P1 ((gX4_firstInQueue P1 ).getD 0)).2)) H := hP
          have hD : va_D (va_A (poolW ck pa P) s.heap.size) (poolW ck pa ((gX4_start P1 ((gX4_firstInQueue P1 ).getD 0)).2)) := hD
          refine lv_if_ne (tgt := 29) hx hb dX4_goThroughQueue_25 (by decide) (fun c_25 => ?_) (fun c_25 => ?_)
          · --t
            refine lv_iinc (v := (nI (i + 1))) (lv' := [(1, .int (nI (i + 1))), (2, .ref (jA pa ((gX4_firstInQueue P1 ).getD 0))), (0, .ref (pa 0))]) hx hb dX4_goThroughQueue_29 hl (k := 2) rfl (nI_1 i) (by decide) rfl (fun ls hl => ?_)
            refine lv_goto (tgt := 2) hx hb dX4_goThroughQueue_32 (by decide) ?_
            exact ih2 (i + 1) ((gX4_start P1 ((gX4_firstInQueue P1 ).getD 0)).2) (by omega) (hg.trans (show gX4_goThroughQueue_L2 P (f + 1) i P1 = (gX4_goThroughQueue_L2 P f (i + 1) ((gX4_start P1 ((gX4_firstInQueue P1 ).getD 0)).2)) from (Eq.trans (if_neg cq_12) (Eq.trans (if_neg c_25) rfl)))) _ _ _ hP hD hS (lv_sub hl [2, 0] rfl)
          · --f
            exact xvret hx hb hr hlk hP hD hS (congrArg (fun z => poolW ck pa z) (hg.trans (show gX4_goThroughQueue_L2 P (f + 1) i P1 = ((gX4_start P1 ((gX4_firstInQueue P1 ).getD 0)).2) from (Eq.trans (if_neg cq_12) (Eq.trans (if_pos c_25) rfl))))).symm dX4_goThroughQueue_28
  exact loop2 16 0 P (by omega) (show gX4_goThroughQueue P = (gX4_goThroughQueue_L2 P 16 0 P) from rfl) _ _ _ hP hD hS (lv_sub hl [1, 0] rfl)

def rmX4_changeSetting : Room := { frames := 5, cells := 0, slots := 0, locals := 119 }
def gX4_changeSetting (P : PS) (a1 : Int32) (a2 : Int32) : PS := (if a1 < 0 then P else (if (nI 4) ≤ a1 then P else (gX4_goThroughQueue (upd P.1 a1.toNatClampNeg a2, P.2.1, P.2.2) )))
set_option maxHeartbeats 4000000 in
set_option maxRecDepth 100000 in
theorem mX4_changeSetting (l : Launch) (D : va_G) (ck : Nat → ClassId) (pa : Nat → Nat) (P : PS) (a1 : Int32) (a2 : Int32) : xMv l yX4_changeSetting wsX4_changeSetting rmX4_changeSetting D ck [.ref (pa 0), .int a1, .int a2] (poolW ck pa P) (poolW ck pa (gX4_changeSetting P a1 a2)) 0 0 := by
  refine xMet (by decide) rfl (Nat.le_of_ble_eq_true rfl) ?_
  intro zp ze s zm zb zt zc hx hb hr hml hown hts hlk hnm hN hK hP hD ls hl
  have hown : s.vm.findClass RX4 = some zm.cls := hown
  have hl : lv_has ls 3 [(0, .ref (pa 0)), (1, .int a1), (2, .int a2)] := hl
  have hS : va_S (va_A (poolW ck pa P) s.heap.size) s.heap s.heap [] := va_S.rf
  have hA : ∀ zq : Nat, s.heap.size ≤ zq → va_A (poolW ck pa P) s.heap.size zq := fun zq h => Or.inr h
  have hinX4 : ∀ w ∈ u_ws RX4 TX4 7, w ∈ wsX4_changeSetting := by decide +kernel
  refine lv_iload_n hx hb dX4_changeSetting_0 rfl (lv_at hl 1 rfl) ?_
  refine lv_if_lt (tgt := 24) hx hb dX4_changeSetting_1 (by decide) (fun c_1 => ?_) (fun c_1 => ?_)
  · --t
    exact xvret hx hb hr hlk hP hD hS (congrArg (fun z => poolW ck pa z) (show gX4_changeSetting P a1 a2 = P from (Eq.trans (if_pos c_1) rfl))).symm dX4_changeSetting_24
  · --f
    refine lv_iload_n hx hb dX4_changeSetting_4 rfl (lv_at hl 1 rfl) ?_
    refine lv_aload_n hx hb dX4_changeSetting_5 rfl (lv_at hl 0 rfl) ?_
    refine va_get (D := D) (ci := 4) (v := .ref (pa 1)) (C := RX4) (T := TX4) (N := 7) hx hb hts hinX4 hown hK hP 0 rfl rfl 0 (by decide) (hts (.fieldLink RX4 20 "JoinGrants$Pool" "settings" "[I") (List.mem_of_getElem? (i := 1) rfl)) (fun _ h9 => h9) rfl dX4_changeSetting_6 ?_
    refine va_alen hx hb hK hP 1 0 rfl rfl (v := (nI 4)) rfl dX4_changeSetting_9 ?_
    refine lv_icmp_ge (tgt := 24) hx hb dX4_changeSetting_10 (by decide) (fun c_10 => ?_) (fun c_10 => ?_)
    · --t
      exact xvret hx hb hr hlk hP hD hS (congrArg (fun z => poolW ck pa z) (show gX4_changeSetting P a1 a2 = P from (Eq.trans (if_neg c_1) (Eq.trans (if_pos c_10) rfl)))).symm dX4_changeSetting_24
    · --f
      refine lv_aload_n hx hb dX4_changeSetting_13 rfl (lv_at hl 0 rfl) ?_
      refine va_get (D := D) (ci := 4) (v := .ref (pa 1)) (C := RX4) (T := TX4) (N := 7) hx hb hts hinX4 hown hK hP 0 rfl rfl 0 (by decide) (hts (.fieldLink RX4 20 "JoinGrants$Pool" "settings" "[I") (List.mem_of_getElem? (i := 1) rfl)) (fun _ h9 => h9) rfl dX4_changeSetting_14 ?_
      refine lv_iload_n hx hb dX4_changeSetting_17 rfl (lv_at hl 1 rfl) ?_
      refine lv_iload_n hx hb dX4_changeSetting_18 rfl (lv_at hl 2 rfl) ?_
      refine va_iast hx hb hK hP hD hS 1 0 rfl rfl (xin_g (by decide) c_1 c_10) dX4_changeSetting_19 (fun H locs hP hD hS => ?_)
      have hP : va_P D vwCl (poolW ck pa (upd P.1 a1.toNatClampNeg a2, P.2.1, P.2.2)) H := hP
      have hD : va_D (va_A (poolW ck pa P) s.heap.size) (poolW ck pa (upd P.1 a1.toNatClampNeg a2, P.2.1, P.2.2)) := hD
      refine lv_aload_n hx hb dX4_changeSetting_20 rfl (lv_at hl 0 rfl) ?_
      refine xretv (va_runV (As := []) (rest := []) ⟨hx, hb, hml, hown, hts⟩ (mX4_goThroughQueue l D ck pa (upd P.1 a1.toNatClampNeg a2, P.2.1, P.2.2)   _) (cwV 0 hts gX4_changeSetting_X4_goThroughQueue rfl rfl rfl (by decide +kernel) ⟨Nat.le_of_ble_eq_true rfl, Nat.le_of_ble_eq_true rfl⟩) (xpreV hN hK hP hD pm_all 0 rfl rfl rfl) rfl rfl hl.1 rfl (lv_room (Nat.le_of_ble_eq_true rfl)) dX4_changeSetting_21 ⟨Nat.le_of_ble_eq_true rfl, Nat.le_of_ble_eq_true rfl⟩) hP hD hS hA pm_all pm_all' (fun H locs hP hD hS => ?_)
      have hP : va_P D vwCl (poolW ck pa (gX4_goThroughQueue (upd P.1 a1.toNatClampNeg a2, P.2.1, P.2.2) )) H := hP
      have hD : va_D (va_A (poolW ck pa P) s.heap.size) (poolW ck pa (gX4_goThroughQueue (upd P.1 a1.toNatClampNeg a2, P.2.1, P.2.2) )) := hD
      exact xvret hx hb hr hlk hP hD hS (congrArg (fun z => poolW ck pa z) (show gX4_changeSetting P a1 a2 = (gX4_goThroughQueue (upd P.1 a1.toNatClampNeg a2, P.2.1, P.2.2) ) from (Eq.trans (if_neg c_1) (Eq.trans (if_neg c_10) rfl)))).symm dX4_changeSetting_24

def rmX4_take : Room := { frames := 5, cells := 0, slots := 0, locals := 119 }
def gX4_take (P : PS) (a1 : Int32) (a2 : Int32) (a3 : Int32) : Int32 × PS := (if (P.2.1 0) < (nI 16) then ((gX1_number (nI ((P.2.1 0).toNatClampNeg)) (((gX4_goThroughQueue (P.1, upd P.2.1 0 ((P.2.1 0) + 1), va_up P.2.2 ((P.2.1 0).toNatClampNeg) (gX1_come (nI ((P.2.1 0).toNatClampNeg)) (P.2.2 ((P.2.1 0).toNatClampNeg)) a1 a2 a3)) ).2.2) ((P.2.1 0).toNatClampNeg)) ), (gX4_goThroughQueue (P.1, upd P.2.1 0 ((P.2.1 0) + 1), va_up P.2.2 ((P.2.1 0).toNatClampNeg) (gX1_come (nI ((P.2.1 0).toNatClampNeg)) (P.2.2 ((P.2.1 0).toNatClampNeg)) a1 a2 a3)) )) else ((-3), P))
set_option maxHeartbeats 4000000 in
set_option maxRecDepth 100000 in
theorem mX4_take (l : Launch) (D : va_G) (ck : Nat → ClassId) (pa : Nat → Nat) (P : PS) (a1 : Int32) (a2 : Int32) (a3 : Int32) (hn0 : ¬ P.2.1 0 < 0) : xMi l yX4_take wsX4_take rmX4_take D ck [.ref (pa 0), .int a1, .int a2, .int a3] (poolW ck pa P) (poolW ck pa ((gX4_take P a1 a2 a3).2)) ((gX4_take P a1 a2 a3).1) 0 0 := by
  refine xMet (by decide) rfl (Nat.le_of_ble_eq_true rfl) ?_
  intro zp ze s zm zb zt zc hx hb hr hml hown hts hlk hnm hN hK hP hD ls hl
  have hown : s.vm.findClass RX4 = some zm.cls := hown
  have hl : lv_has ls 5 [(0, .ref (pa 0)), (1, .int a1), (2, .int a2), (3, .int a3)] := hl
  have hS : va_S (va_A (poolW ck pa P) s.heap.size) s.heap s.heap [] := va_S.rf
  have hA : ∀ zq : Nat, s.heap.size ≤ zq → va_A (poolW ck pa P) s.heap.size zq := fun zq h => Or.inr h
  have hinX4 : ∀ w ∈ u_ws RX4 TX4 7, w ∈ wsX4_take := by decide +kernel
  refine lv_aload_n hx hb dX4_take_0 rfl (lv_at hl 0 rfl) ?_
  refine va_get (D := D) (ci := 4) (v := .int (P.2.1 0)) (C := RX4) (T := TX4) (N := 7) hx hb hts hinX4 hown hK hP 0 rfl rfl 2 (by decide) (hts (.fieldLink RX4 41 "JoinGrants$Pool" "joinsSoFar" "I") (List.mem_of_getElem? (i := 1) rfl)) (fun _ h9 => h9) rfl dX4_take_1 ?_
  refine lv_aload_n hx hb dX4_take_4 rfl (lv_at hl 0 rfl) ?_
  refine va_get (D := D) (ci := 4) (v := .ref (pa 2)) (C := RX4) (T := TX4) (N := 7) hx hb hts hinX4 hown hK hP 0 rfl rfl 1 (by decide) (hts (.fieldLink RX4 25 "JoinGrants$Pool" "joins" "[LJoinGrants$Join;") (List.mem_of_getElem? (i := 2) rfl)) (fun _ h9 => h9) rfl dX4_take_5 ?_
  refine va_alen hx hb hK hP 2 2 rfl rfl (v := (nI 16)) rfl dX4_take_8 ?_
  refine lv_icmp_lt (tgt := 15) hx hb dX4_take_9 (by decide) (fun c_9 => ?_) (fun c_9 => ?_)
  · --t
    have hin0 : vp_in (P.2.1 0) 16 := xin_g' (by decide) hn0 c_9
    have hj0 := xin_lt hin0
    refine lv_aload_n hx hb dX4_take_15 rfl (lv_at hl 0 rfl) ?_
    refine va_get (D := D) (ci := 4) (v := .ref (pa 2)) (C := RX4) (T := TX4) (N := 7) hx hb hts hinX4 hown hK hP 0 rfl rfl 1 (by decide) (hts (.fieldLink RX4 25 "JoinGrants$Pool" "joins" "[LJoinGrants$Join;") (List.mem_of_getElem? (i := 2) rfl)) (fun _ h9 => h9) rfl dX4_take_16 ?_
    refine lv_aload_n hx hb dX4_take_19 rfl (lv_at hl 0 rfl) ?_
    refine va_get (D := D) (ci := 4) (v := .int (P.2.1 0)) (C := RX4) (T := TX4) (N := 7) hx hb hts hinX4 hown hK hP 0 rfl rfl 2 (by decide) (hts (.fieldLink RX4 41 "JoinGrants$Pool" "joinsSoFar" "I") (List.mem_of_getElem? (i := 1) rfl)) (fun _ h9 => h9) rfl dX4_take_20 ?_
    refine xaldq (j := (P.2.1 0).toNatClampNeg) (b := jA pa ((P.2.1 0).toNatClampNeg)) rfl hx hb hK hP 2 2 rfl rfl hin0 rfl dX4_take_23 ?_
    refine lv_astore (lv' := [(4, .ref (jA pa ((P.2.1 0).toNatClampNeg))), (0, .ref (pa 0)), (1, .int a1), (2, .int a2), (3, .int a3)]) hx hb dX4_take_24 hl (by decide) rfl (fun ls hl => ?_)
    refine lv_aload_n hx hb dX4_take_26 rfl (lv_at hl 1 rfl) ?_
    refine lv_dup hx hb dX4_take_27 rfl ?_
    refine va_get (D := D) (ci := 4) (v := .int (P.2.1 0)) (C := RX4) (T := TX4) (N := 7) hx hb hts hinX4 hown hK hP 0 rfl rfl 2 (by decide) (hts (.fieldLink RX4 41 "JoinGrants$Pool" "joinsSoFar" "I") (List.mem_of_getElem? (i := 1) rfl)) (fun _ h9 => h9) rfl dX4_take_28 ?_
    refine lv_iconst (v := 1) hx hb dX4_take_31 (by decide) ?_
    refine lv_iadd hx hb dX4_take_32 ?_
    refine va_put (D := D) (ci := 4) (v := .int ((P.2.1 0) + 1)) (ty := .int) (C := RX4) (T := TX4) (N := 7) hx hb hts hinX4 tyX4 tyX4_ok nmX4 hown hK hP hD hS 0 rfl rfl 2 (by decide) (hts (.fieldLink RX4 41 "JoinGrants$Pool" "joinsSoFar" "I") (List.mem_of_getElem? (i := 1) rfl)) (fun _ h9 => h9) rfl (by decide +kernel) rfl rfl (Nat.le_of_ble_eq_true rfl) dX4_take_33 (fun H locs hP hD hS => ?_)
    have hP : va_P D vwCl (poolW ck pa (P.1, upd P.2.1 0 ((P.2.1 0) + 1), P.2.2)) H := hP
    have hD : va_D (va_A (poolW ck pa P) s.heap.size) (poolW ck pa (P.1, upd P.2.1 0 ((P.2.1 0) + 1), P.2.2)) := hD
    refine lv_aload hx hb dX4_take_36 (lv_at hl 0 rfl) ?_
    refine lv_iload_n hx hb dX4_take_38 rfl (lv_at hl 2 rfl) ?_
    refine lv_iload_n hx hb dX4_take_39 rfl (lv_at hl 3 rfl) ?_
    refine lv_iload_n hx hb dX4_take_40 rfl (lv_at hl 4 rfl) ?_
    refine xretv (va_runV (As := [.int a1, .int a2, .int a3]) (rest := []) ⟨hx, hb, hml, hown, hts⟩ (mX1_come l D ck (jA pa ((P.2.1 0).toNatClampNeg)) (qA pa ((P.2.1 0).toNatClampNeg)) (nI ((P.2.1 0).toNatClampNeg)) (P.2.2 ((P.2.1 0).toNatClampNeg)) a1 a2 a3 _) (cwV 3 hts gX4_take_X1_come rfl rfl rfl (by decide +kernel) ⟨Nat.le_of_ble_eq_true rfl, Nat.le_of_ble_eq_true rfl⟩) (xpreV hN hK hP hD (pm_pj (P := (P.1, upd P.2.1 0 ((P.2.1 0) + 1), P.2.2)) (by omega)) 0 rfl rfl rfl) rfl rfl hl.1 rfl (lv_room (Nat.le_of_ble_eq_true rfl)) dX4_take_41 ⟨Nat.le_of_ble_eq_true rfl, Nat.le_of_ble_eq_true rfl⟩) hP hD hS hA (pm_pj (P := (P.1, upd P.2.1 0 ((P.2.1 0) + 1), P.2.2)) (by omega)) (pm_pj' (P := (P.1, upd P.2.1 0 ((P.2.1 0) + 1), P.2.2)) (by omega)) (fun H locs hP hD hS => ?_)
    have hP : va_P D vwCl (poolW ck pa (P.1, upd P.2.1 0 ((P.2.1 0) + 1), va_up P.2.2 ((P.2.1 0).toNatClampNeg) (gX1_come (nI ((P.2.1 0).toNatClampNeg)) (P.2.2 ((P.2.1 0).toNatClampNeg)) a1 a2 a3))) H := hP
    have hD : va_D (va_A (poolW ck pa P) s.heap.size) (poolW ck pa (P.1, upd P.2.1 0 ((P.2.1 0) + 1), va_up P.2.2 ((P.2.1 0).toNatClampNeg) (gX1_come (nI ((P.2.1 0).toNatClampNeg)) (P.2.2 ((P.2.1 0).toNatClampNeg)) a1 a2 a3))) := hD
    refine lv_aload_n hx hb dX4_take_44 rfl (lv_at hl 1 rfl) ?_
    refine xretv (va_runV (As := []) (rest := []) ⟨hx, hb, hml, hown, hts⟩ (mX4_goThroughQueue l D ck pa (P.1, upd P.2.1 0 ((P.2.1 0) + 1), va_up P.2.2 ((P.2.1 0).toNatClampNeg) (gX1_come (nI ((P.2.1 0).toNatClampNeg)) (P.2.2 ((P.2.1 0).toNatClampNeg)) a1 a2 a3))   _) (cwV 0 hts gX4_take_X4_goThroughQueue rfl rfl rfl (by decide +kernel) ⟨Nat.le_of_ble_eq_true rfl, Nat.le_of_ble_eq_true rfl⟩) (xpreV hN hK hP hD pm_all 0 rfl rfl rfl) rfl rfl hl.1 rfl (lv_room (Nat.le_of_ble_eq_true rfl)) dX4_take_45 ⟨Nat.le_of_ble_eq_true rfl, Nat.le_of_ble_eq_true rfl⟩) hP hD hS hA pm_all pm_all' (fun H locs hP hD hS => ?_)
    have hP : va_P D vwCl (poolW ck pa (gX4_goThroughQueue (P.1, upd P.2.1 0 ((P.2.1 0) + 1), va_up P.2.2 ((P.2.1 0).toNatClampNeg) (gX1_come (nI ((P.2.1 0).toNatClampNeg)) (P.2.2 ((P.2.1 0).toNatClampNeg)) a1 a2 a3)) )) H := hP
    have hD : va_D (va_A (poolW ck pa P) s.heap.size) (poolW ck pa (gX4_goThroughQueue (P.1, upd P.2.1 0 ((P.2.1 0) + 1), va_up P.2.2 ((P.2.1 0).toNatClampNeg) (gX1_come (nI ((P.2.1 0).toNatClampNeg)) (P.2.2 ((P.2.1 0).toNatClampNeg)) a1 a2 a3)) )) := hD
    refine lv_aload hx hb dX4_take_48 (lv_at hl 0 rfl) ?_
    refine xreti (va_runV (As := []) (rest := []) ⟨hx, hb, hml, hown, hts⟩ (mX1_number l D ck (jA pa ((P.2.1 0).toNatClampNeg)) (qA pa ((P.2.1 0).toNatClampNeg)) (nI ((P.2.1 0).toNatClampNeg)) (((gX4_goThroughQueue (P.1, upd P.2.1 0 ((P.2.1 0) + 1), va_up P.2.2 ((P.2.1 0).toNatClampNeg) (gX1_come (nI ((P.2.1 0).toNatClampNeg)) (P.2.2 ((P.2.1 0).toNatClampNeg)) a1 a2 a3)) ).2.2) ((P.2.1 0).toNatClampNeg))  _) (cwV 0 hts gX4_take_X1_number rfl rfl rfl (by decide +kernel) ⟨Nat.le_of_ble_eq_true rfl, Nat.le_of_ble_eq_true rfl⟩) (xpreV hN hK hP hD (pm_pj (P := (gX4_goThroughQueue (P.1, upd P.2.1 0 ((P.2.1 0) + 1), va_up P.2.2 ((P.2.1 0).toNatClampNeg) (gX1_come (nI ((P.2.1 0).toNatClampNeg)) (P.2.2 ((P.2.1 0).toNatClampNeg)) a1 a2 a3)) )) (by omega)) 0 rfl rfl rfl) rfl rfl hl.1 rfl (lv_room (Nat.le_of_ble_eq_true rfl)) dX4_take_50 ⟨Nat.le_of_ble_eq_true rfl, Nat.le_of_ble_eq_true rfl⟩) hP hD hS hA (pm_pj (P := (gX4_goThroughQueue (P.1, upd P.2.1 0 ((P.2.1 0) + 1), va_up P.2.2 ((P.2.1 0).toNatClampNeg) (gX1_come (nI ((P.2.1 0).toNatClampNeg)) (P.2.2 ((P.2.1 0).toNatClampNeg)) a1 a2 a3)) )) (by omega)) (pm_pj (P := (gX4_goThroughQueue (P.1, upd P.2.1 0 ((P.2.1 0) + 1), va_up P.2.2 ((P.2.1 0).toNatClampNeg) (gX1_come (nI ((P.2.1 0).toNatClampNeg)) (P.2.2 ((P.2.1 0).toNatClampNeg)) a1 a2 a3)) )) (by omega)).symm (fun H locs hP hD hS => ?_)
    exact xiret hx hb hr hlk hP hD hS (congrArg (fun z => z.1) (show gX4_take P a1 a2 a3 = ((gX1_number (nI ((P.2.1 0).toNatClampNeg)) (((gX4_goThroughQueue (P.1, upd P.2.1 0 ((P.2.1 0) + 1), va_up P.2.2 ((P.2.1 0).toNatClampNeg) (gX1_come (nI ((P.2.1 0).toNatClampNeg)) (P.2.2 ((P.2.1 0).toNatClampNeg)) a1 a2 a3)) ).2.2) ((P.2.1 0).toNatClampNeg)) ), (gX4_goThroughQueue (P.1, upd P.2.1 0 ((P.2.1 0) + 1), va_up P.2.2 ((P.2.1 0).toNatClampNeg) (gX1_come (nI ((P.2.1 0).toNatClampNeg)) (P.2.2 ((P.2.1 0).toNatClampNeg)) a1 a2 a3)) )) from (Eq.trans (if_pos c_9) rfl))).symm (congrArg (fun z => poolW ck pa z.2) (show gX4_take P a1 a2 a3 = ((gX1_number (nI ((P.2.1 0).toNatClampNeg)) (((gX4_goThroughQueue (P.1, upd P.2.1 0 ((P.2.1 0) + 1), va_up P.2.2 ((P.2.1 0).toNatClampNeg) (gX1_come (nI ((P.2.1 0).toNatClampNeg)) (P.2.2 ((P.2.1 0).toNatClampNeg)) a1 a2 a3)) ).2.2) ((P.2.1 0).toNatClampNeg)) ), (gX4_goThroughQueue (P.1, upd P.2.1 0 ((P.2.1 0) + 1), va_up P.2.2 ((P.2.1 0).toNatClampNeg) (gX1_come (nI ((P.2.1 0).toNatClampNeg)) (P.2.2 ((P.2.1 0).toNatClampNeg)) a1 a2 a3)) )) from (Eq.trans (if_pos c_9) rfl))).symm dX4_take_53
  · --f
    refine lv_bipush (v := (-3)) hx hb dX4_take_12 (by decide) ?_
    exact xiret hx hb hr hlk hP hD hS (congrArg (fun z => z.1) (show gX4_take P a1 a2 a3 = ((-3), P) from (Eq.trans (if_neg c_9) rfl))).symm (congrArg (fun z => poolW ck pa z.2) (show gX4_take P a1 a2 a3 = ((-3), P) from (Eq.trans (if_neg c_9) rfl))).symm dX4_take_14

def rmX4_leap : Room := { frames := 5, cells := 0, slots := 0, locals := 119 }
def gX4_leap_L79 (P : PS) (a1 : Int32) : Nat → Nat → Int32 → Int32 → PS → Int32 × PS
  | 0, i, x2, x3, P1 => (if x3 = 0 then (x2, (P1.1, upd P1.2.1 2 ((P1.2.1 2) + x2), P1.2.2)) else (x2, (gX4_goThroughQueue (P1.1, upd P1.2.1 2 ((P1.2.1 2) + x2), P1.2.2) )))
  | f + 1, i, x2, x3, P1 => (if (gX1_hasWorkedAll (nI i) ((va_up P1.2.2 i ((gX1_pass (nI i) (P1.2.2 i) x2 (gX4_setting P 3)).2)) i) ) = 0 then (gX4_leap_L79 P a1 f (i + 1) x2 x3 (P1.1, upd P1.2.1 3 ((P1.2.1 3) + ((gX1_pass (nI i) (P1.2.2 i) x2 (gX4_setting P 3)).1)), va_up P1.2.2 i ((gX1_pass (nI i) (P1.2.2 i) x2 (gX4_setting P 3)).2))) else (gX4_leap_L79 P a1 f (i + 1) x2 1 (P1.1, upd P1.2.1 3 ((P1.2.1 3) + ((gX1_pass (nI i) (P1.2.2 i) x2 (gX4_setting P 3)).1)), va_up (va_up P1.2.2 i ((gX1_pass (nI i) (P1.2.2 i) x2 (gX4_setting P 3)).2)) i (gX1_end (nI i) ((va_up P1.2.2 i ((gX1_pass (nI i) (P1.2.2 i) x2 (gX4_setting P 3)).2)) i) 2))))
def gX4_leap_L22 (P : PS) (a1 : Int32) : Nat → Nat → Int32 → Int32 × PS
  | 0, i, x1 => (gX4_leap_L79 P a1 16 0 x1 0 P)
  | f + 1, i, x1 => (if (gX1_isIn (nI i) (P.2.2 i) 1) = 0 then (gX4_leap_L22 P a1 f (i + 1) x1) else (gX4_leap_L22 P a1 f (i + 1) (if (gX1_stepsLeft (nI i) (P.2.2 i) (gX4_setting P 3)) < x1 then (gX1_stepsLeft (nI i) (P.2.2 i) (gX4_setting P 3)) else x1)))
def gX4_leap (P : PS) (a1 : Int32) : Int32 × PS := (gX4_leap_L22 P a1 16 0 a1)
set_option maxHeartbeats 4000000 in
set_option maxRecDepth 100000 in
theorem mX4_leap (l : Launch) (D : va_G) (ck : Nat → ClassId) (pa : Nat → Nat) (P : PS) (a1 : Int32) : xMi l yX4_leap wsX4_leap rmX4_leap D ck [.ref (pa 0), .int a1] (poolW ck pa P) (poolW ck pa ((gX4_leap P a1).2)) ((gX4_leap P a1).1) 0 0 := by
  refine xMet (by decide) rfl (Nat.le_of_ble_eq_true rfl) ?_
  intro zp ze s zm zb zt zc hx hb hr hml hown hts hlk hnm hN hK hP hD ls hl
  have hown : s.vm.findClass RX4 = some zm.cls := hown
  have hl : lv_has ls 9 [(0, .ref (pa 0)), (1, .int a1)] := hl
  have hS : va_S (va_A (poolW ck pa P) s.heap.size) s.heap s.heap [] := va_S.rf
  have hA : ∀ zq : Nat, s.heap.size ≤ zq → va_A (poolW ck pa P) s.heap.size zq := fun zq h => Or.inr h
  have hinX4 : ∀ w ∈ u_ws RX4 TX4 7, w ∈ wsX4_leap := by decide +kernel
  refine lv_aload_n hx hb dX4_leap_0 rfl (lv_at hl 0 rfl) ?_
  refine lv_iconst (v := 3) hx hb dX4_leap_1 (by decide) ?_
  refine xreti (va_runV (As := [.int 3]) (rest := []) ⟨hx, hb, hml, hown, hts⟩ (mX4_setting l D ck pa P 3  _) (cwV 1 hts gX4_leap_X4_setting rfl rfl rfl (by decide +kernel) ⟨Nat.le_of_ble_eq_true rfl, Nat.le_of_ble_eq_true rfl⟩) (xpreV hN hK hP hD pm_all 0 rfl rfl rfl) rfl rfl hl.1 rfl (lv_room (Nat.le_of_ble_eq_true rfl)) dX4_leap_2 ⟨Nat.le_of_ble_eq_true rfl, Nat.le_of_ble_eq_true rfl⟩) hP hD hS hA pm_all pm_all' (fun H locs hP hD hS => ?_)
  refine lv_istore_n (lv' := [(2, .int (gX4_setting P 3)), (0, .ref (pa 0)), (1, .int a1)]) hx hb dX4_leap_5 rfl hl (by decide) rfl (fun ls hl => ?_)
  refine lv_iload_n hx hb dX4_leap_6 rfl (lv_at hl 2 rfl) ?_
  refine lv_istore_n (lv' := [(3, .int a1), (2, .int (gX4_setting P 3)), (0, .ref (pa 0)), (1, .int a1)]) hx hb dX4_leap_7 rfl hl (by decide) rfl (fun ls hl => ?_)
  refine lv_aload_n hx hb dX4_leap_8 rfl (lv_at hl 2 rfl) ?_
  refine va_get (D := D) (ci := 4) (v := .ref (pa 2)) (C := RX4) (T := TX4) (N := 7) hx hb hts hinX4 hown hK hP 0 rfl rfl 1 (by decide) (hts (.fieldLink RX4 25 "JoinGrants$Pool" "joins" "[LJoinGrants$Join;") (List.mem_of_getElem? (i := 1) rfl)) (fun _ h9 => h9) rfl dX4_leap_9 ?_
  refine lv_astore (lv' := [(4, .ref (pa 2)), (3, .int a1), (2, .int (gX4_setting P 3)), (0, .ref (pa 0)), (1, .int a1)]) hx hb dX4_leap_12 hl (by decide) rfl (fun ls hl => ?_)
  refine lv_aload hx hb dX4_leap_14 (lv_at hl 0 rfl) ?_
  refine va_alen hx hb hK hP 2 2 rfl rfl (v := (nI 16)) rfl dX4_leap_16 ?_
  refine lv_istore (lv' := [(5, .int (nI 16)), (4, .ref (pa 2)), (3, .int a1), (2, .int (gX4_setting P 3)), (0, .ref (pa 0)), (1, .int a1)]) hx hb dX4_leap_17 hl (by decide) rfl (fun ls hl => ?_)
  refine lv_iconst (v := (nI 0)) hx hb dX4_leap_19 (by decide) ?_
  refine lv_istore (lv' := [(6, .int (nI 0)), (5, .int (nI 16)), (4, .ref (pa 2)), (3, .int a1), (2, .int (gX4_setting P 3)), (0, .ref (pa 0)), (1, .int a1)]) hx hb dX4_leap_20 hl (by decide) rfl (fun ls hl => ?_)
  have loop22 : ∀ (f : Nat) (i : Nat) (x1 : Int32), (i + f = 16) → gX4_leap P a1 = gX4_leap_L22 P a1 f i x1 → ∀ (H : Heap) (locs : List Loc) (ls : Array Slot), va_P D vwCl (poolW ck pa P) H → va_D (va_A (poolW ck pa P) s.heap.size) (poolW ck pa P) → va_S (va_A (poolW ck pa P) s.heap.size) s.heap H locs → lv_has ls 9 [(0, .ref (pa 0)), (1, .int a1), (2, .int (gX4_setting P 3)), (3, .int x1), (4, .ref (pa 2)), (5, .int (nI 16)), (6, .int (nI i))] → W zp l ze rmX4_leap s zm ([.ref (pa 0), .int a1] : List Value).toArray zb zt zc H locs 0 0 (MQ zb (xQi D (poolW ck pa P) (poolW ck pa ((gX4_leap P a1).2)) ((gX4_leap P a1).1) s.heap.size) ([.ref (pa 0), .int a1] : List Value).toArray s 0 0 (va_A (poolW ck pa P) s.heap.size)) (F0 zm 22 ls []) := by
    intro f
    induction f with
    | zero =>
      intro i x1 hif hg H locs ls hP hD hS hl
      refine lv_iload hx hb dX4_leap_22 (lv_at hl 6 rfl) ?_
      refine lv_iload hx hb dX4_leap_24 (lv_at hl 5 rfl) ?_
      refine lv_icmp_ge (tgt := 62) hx hb dX4_leap_26 (by decide) (fun c_26 => ?_) (fun c_26 => ?_)
      · --t
        refine lv_iconst (v := 0) hx hb dX4_leap_62 (by decide) ?_
        refine lv_istore (lv' := [(4, .int 0), (0, .ref (pa 0)), (1, .int a1), (2, .int (gX4_setting P 3)), (3, .int x1), (5, .int (nI 16)), (6, .int (nI i))]) hx hb dX4_leap_63 hl (by decide) rfl (fun ls hl => ?_)
        refine lv_aload_n hx hb dX4_leap_65 rfl (lv_at hl 1 rfl) ?_
        refine va_get (D := D) (ci := 4) (v := .ref (pa 2)) (C := RX4) (T := TX4) (N := 7) hx hb hts hinX4 hown hK hP 0 rfl rfl 1 (by decide) (hts (.fieldLink RX4 25 "JoinGrants$Pool" "joins" "[LJoinGrants$Join;") (List.mem_of_getElem? (i := 1) rfl)) (fun _ h9 => h9) rfl dX4_leap_66 ?_
        refine lv_astore (lv' := [(5, .ref (pa 2)), (4, .int 0), (0, .ref (pa 0)), (1, .int a1), (2, .int (gX4_setting P 3)), (3, .int x1), (6, .int (nI i))]) hx hb dX4_leap_69 hl (by decide) rfl (fun ls hl => ?_)
        refine lv_aload hx hb dX4_leap_71 (lv_at hl 0 rfl) ?_
        refine va_alen hx hb hK hP 2 2 rfl rfl (v := (nI 16)) rfl dX4_leap_73 ?_
        refine lv_istore (lv' := [(6, .int (nI 16)), (5, .ref (pa 2)), (4, .int 0), (0, .ref (pa 0)), (1, .int a1), (2, .int (gX4_setting P 3)), (3, .int x1)]) hx hb dX4_leap_74 hl (by decide) rfl (fun ls hl => ?_)
        refine lv_iconst (v := (nI 0)) hx hb dX4_leap_76 (by decide) ?_
        refine lv_istore (lv' := [(7, .int (nI 0)), (6, .int (nI 16)), (5, .ref (pa 2)), (4, .int 0), (0, .ref (pa 0)), (1, .int a1), (2, .int (gX4_setting P 3)), (3, .int x1)]) hx hb dX4_leap_77 hl (by decide) rfl (fun ls hl => ?_)
        have loop79 : ∀ (f : Nat) (i : Nat) (x2 : Int32) (x3 : Int32) (P1 : PS), (i + f = 16) → gX4_leap P a1 = gX4_leap_L79 P a1 f i x2 x3 P1 → ∀ (H : Heap) (locs : List Loc) (ls : Array Slot), va_P D vwCl (poolW ck pa P1) H → va_D (va_A (poolW ck pa P) s.heap.size) (poolW ck pa P1) → va_S (va_A (poolW ck pa P) s.heap.size) s.heap H locs → lv_has ls 9 [(0, .ref (pa 0)), (2, .int (gX4_setting P 3)), (3, .int x2), (4, .int x3), (5, .ref (pa 2)), (6, .int (nI 16)), (7, .int (nI i))] → W zp l ze rmX4_leap s zm ([.ref (pa 0), .int a1] : List Value).toArray zb zt zc H locs 0 0 (MQ zb (xQi D (poolW ck pa P) (poolW ck pa ((gX4_leap P a1).2)) ((gX4_leap P a1).1) s.heap.size) ([.ref (pa 0), .int a1] : List Value).toArray s 0 0 (va_A (poolW ck pa P) s.heap.size)) (F0 zm 79 ls []) := by
          intro f
          induction f with
          | zero =>
            intro i x2 x3 P1 hif hg H locs ls hP hD hS hl
            refine lv_iload hx hb dX4_leap_79 (lv_at hl 6 rfl) ?_
            refine lv_iload hx hb dX4_leap_81 (lv_at hl 5 rfl) ?_
            refine lv_icmp_ge (tgt := 132) hx hb dX4_leap_83 (by decide) (fun c_83 => ?_) (fun c_83 => ?_)
            · --t
              refine lv_aload_n hx hb dX4_leap_132 rfl (lv_at hl 0 rfl) ?_
              refine lv_dup hx hb dX4_leap_133 rfl ?_
              refine va_get (D := D) (ci := 4) (v := .int (P1.2.1 2)) (C := RX4) (T := TX4) (N := 7) hx hb hts hinX4 hown hK hP 0 rfl rfl 4 (by decide) (hts (.fieldLink RX4 138 "JoinGrants$Pool" "steps" "I") (List.mem_of_getElem? (i := 7) rfl)) (fun _ h9 => h9) rfl dX4_leap_134 ?_
              refine lv_iload_n hx hb dX4_leap_137 rfl (lv_at hl 2 rfl) ?_
              refine lv_iadd hx hb dX4_leap_138 ?_
              refine va_put (D := D) (ci := 4) (v := .int ((P1.2.1 2) + x2)) (ty := .int) (C := RX4) (T := TX4) (N := 7) hx hb hts hinX4 tyX4 tyX4_ok nmX4 hown hK hP hD hS 0 rfl rfl 4 (by decide) (hts (.fieldLink RX4 138 "JoinGrants$Pool" "steps" "I") (List.mem_of_getElem? (i := 7) rfl)) (fun _ h9 => h9) rfl (by decide +kernel) rfl rfl (Nat.le_of_ble_eq_true rfl) dX4_leap_139 (fun H locs hP hD hS => ?_)
              have hP : va_P D vwCl (poolW ck pa (P1.1, upd P1.2.1 2 ((P1.2.1 2) + x2), P1.2.2)) H := hP
              have hD : va_D (va_A (poolW ck pa P) s.heap.size) (poolW ck pa (P1.1, upd P1.2.1 2 ((P1.2.1 2) + x2), P1.2.2)) := hD
              refine lv_iload hx hb dX4_leap_142 (lv_at hl 3 rfl) ?_
              refine lv_if_eq (tgt := 151) hx hb dX4_leap_144 (by decide) (fun c_144 => ?_) (fun c_144 => ?_)
              · --t
                refine lv_iload_n hx hb dX4_leap_151 rfl (lv_at hl 2 rfl) ?_
                exact xiret hx hb hr hlk hP hD hS (congrArg (fun z => z.1) (hg.trans (show gX4_leap_L79 P a1 0 i x2 x3 P1 = (x2, (P1.1, upd P1.2.1 2 ((P1.2.1 2) + x2), P1.2.2)) from (Eq.trans (if_pos c_144) rfl)))).symm (congrArg (fun z => poolW ck pa z.2) (hg.trans (show gX4_leap_L79 P a1 0 i x2 x3 P1 = (x2, (P1.1, upd P1.2.1 2 ((P1.2.1 2) + x2), P1.2.2)) from (Eq.trans (if_pos c_144) rfl)))).symm dX4_leap_152
              · --f
                refine lv_aload_n hx hb dX4_leap_147 rfl (lv_at hl 0 rfl) ?_
                refine xretv (va_runV (As := []) (rest := []) ⟨hx, hb, hml, hown, hts⟩ (mX4_goThroughQueue l D ck pa (P1.1, upd P1.2.1 2 ((P1.2.1 2) + x2), P1.2.2)   _) (cwV 0 hts gX4_leap_X4_goThroughQueue rfl rfl rfl (by decide +kernel) ⟨Nat.le_of_ble_eq_true rfl, Nat.le_of_ble_eq_true rfl⟩) (xpreV hN hK hP hD pm_all 0 rfl rfl rfl) rfl rfl hl.1 rfl (lv_room (Nat.le_of_ble_eq_true rfl)) dX4_leap_148 ⟨Nat.le_of_ble_eq_true rfl, Nat.le_of_ble_eq_true rfl⟩) hP hD hS hA pm_all pm_all' (fun H locs hP hD hS => ?_)
                have hP : va_P D vwCl (poolW ck pa (gX4_goThroughQueue (P1.1, upd P1.2.1 2 ((P1.2.1 2) + x2), P1.2.2) )) H := hP
                have hD : va_D (va_A (poolW ck pa P) s.heap.size) (poolW ck pa (gX4_goThroughQueue (P1.1, upd P1.2.1 2 ((P1.2.1 2) + x2), P1.2.2) )) := hD
                refine lv_iload_n hx hb dX4_leap_151 rfl (lv_at hl 2 rfl) ?_
                exact xiret hx hb hr hlk hP hD hS (congrArg (fun z => z.1) (hg.trans (show gX4_leap_L79 P a1 0 i x2 x3 P1 = (x2, (gX4_goThroughQueue (P1.1, upd P1.2.1 2 ((P1.2.1 2) + x2), P1.2.2) )) from (Eq.trans (if_neg c_144) rfl)))).symm (congrArg (fun z => poolW ck pa z.2) (hg.trans (show gX4_leap_L79 P a1 0 i x2 x3 P1 = (x2, (gX4_goThroughQueue (P1.1, upd P1.2.1 2 ((P1.2.1 2) + x2), P1.2.2) )) from (Eq.trans (if_neg c_144) rfl)))).symm dX4_leap_152
            · --f
              exact absurd (nI_le (by omega) (by omega)) c_83
          | succ f ih79 =>
            intro i x2 x3 P1 hif hg H locs ls hP hD hS hl
            refine lv_iload hx hb dX4_leap_79 (lv_at hl 6 rfl) ?_
            refine lv_iload hx hb dX4_leap_81 (lv_at hl 5 rfl) ?_
            refine lv_icmp_ge (tgt := 132) hx hb dX4_leap_83 (by decide) (fun c_83 => ?_) (fun c_83 => ?_)
            · --t
              exact absurd c_83 (nI_ge (by omega) (by omega))
            · --f
              refine lv_aload hx hb dX4_leap_86 (lv_at hl 4 rfl) ?_
              refine lv_iload hx hb dX4_leap_88 (lv_at hl 6 rfl) ?_
              refine xaldq (j := i) (b := jA pa i) (nI_clamp (by omega)) hx hb hK hP 2 2 rfl rfl (vp_in_nI (by omega) (by omega)) rfl dX4_leap_90 ?_
              refine lv_astore (lv' := [(8, .ref (jA pa i)), (0, .ref (pa 0)), (2, .int (gX4_setting P 3)), (3, .int x2), (4, .int x3), (5, .ref (pa 2)), (6, .int (nI 16)), (7, .int (nI i))]) hx hb dX4_leap_91 hl (by decide) rfl (fun ls hl => ?_)
              refine lv_aload_n hx hb dX4_leap_93 rfl (lv_at hl 1 rfl) ?_
              refine lv_dup hx hb dX4_leap_94 rfl ?_
              refine va_get (D := D) (ci := 4) (v := .int (P1.2.1 3)) (C := RX4) (T := TX4) (N := 7) hx hb hts hinX4 hown hK hP 0 rfl rfl 5 (by decide) (hts (.fieldLink RX4 125 "JoinGrants$Pool" "workDone" "I") (List.mem_of_getElem? (i := 6) rfl)) (fun _ h9 => h9) rfl dX4_leap_95 ?_
              refine lv_aload hx hb dX4_leap_98 (lv_at hl 0 rfl) ?_
              refine lv_iload_n hx hb dX4_leap_100 rfl (lv_at hl 3 rfl) ?_
              refine lv_iload_n hx hb dX4_leap_101 rfl (lv_at hl 2 rfl) ?_
              refine xreti (va_runV (As := [.int x2, .int (gX4_setting P 3)]) (rest := [.int (P1.2.1 3), .ref (pa 0)]) ⟨hx, hb, hml, hown, hts⟩ (mX1_pass l D ck (jA pa i) (qA pa i) (nI i) (P1.2.2 i) x2 (gX4_setting P 3) _) (cwV 2 hts gX4_leap_X1_pass rfl rfl rfl (by decide +kernel) ⟨Nat.le_of_ble_eq_true rfl, Nat.le_of_ble_eq_true rfl⟩) (xpreV hN hK hP hD (pm_pj (P := P1) (by omega)) 0 rfl rfl rfl) rfl rfl hl.1 rfl (lv_room (Nat.le_of_ble_eq_true rfl)) dX4_leap_102 ⟨Nat.le_of_ble_eq_true rfl, Nat.le_of_ble_eq_true rfl⟩) hP hD hS hA (pm_pj (P := P1) (by omega)) (pm_pj' (P := P1) (by omega)) (fun H locs hP hD hS => ?_)
              have hP : va_P D vwCl (poolW ck pa (P1.1, P1.2.1, va_up P1.2.2 i ((gX1_pass (nI i) (P1.2.2 i) x2 (gX4_setting P 3)).2))) H := hP
              have hD : va_D (va_A (poolW ck pa P) s.heap.size) (poolW ck pa (P1.1, P1.2.1, va_up P1.2.2 i ((gX1_pass (nI i) (P1.2.2 i) x2 (gX4_setting P 3)).2))) := hD
              refine lv_iadd hx hb dX4_leap_105 ?_
              refine va_put (D := D) (ci := 4) (v := .int ((P1.2.1 3) + ((gX1_pass (nI i) (P1.2.2 i) x2 (gX4_setting P 3)).1))) (ty := .int) (C := RX4) (T := TX4) (N := 7) hx hb hts hinX4 tyX4 tyX4_ok nmX4 hown hK hP hD hS 0 rfl rfl 5 (by decide) (hts (.fieldLink RX4 125 "JoinGrants$Pool" "workDone" "I") (List.mem_of_getElem? (i := 6) rfl)) (fun _ h9 => h9) rfl (by decide +kernel) rfl rfl (Nat.le_of_ble_eq_true rfl) dX4_leap_106 (fun H locs hP hD hS => ?_)
              have hP : va_P D vwCl (poolW ck pa (P1.1, upd P1.2.1 3 ((P1.2.1 3) + ((gX1_pass (nI i) (P1.2.2 i) x2 (gX4_setting P 3)).1)), va_up P1.2.2 i ((gX1_pass (nI i) (P1.2.2 i) x2 (gX4_setting P 3)).2))) H := hP
              have hD : va_D (va_A (poolW ck pa P) s.heap.size) (poolW ck pa (P1.1, upd P1.2.1 3 ((P1.2.1 3) + ((gX1_pass (nI i) (P1.2.2 i) x2 (gX4_setting P 3)).1)), va_up P1.2.2 i ((gX1_pass (nI i) (P1.2.2 i) x2 (gX4_setting P 3)).2))) := hD
              refine lv_aload hx hb dX4_leap_109 (lv_at hl 0 rfl) ?_
              refine xreti (va_runV (As := []) (rest := []) ⟨hx, hb, hml, hown, hts⟩ (mX1_hasWorkedAll l D ck (jA pa i) (qA pa i) (nI i) ((va_up P1.2.2 i ((gX1_pass (nI i) (P1.2.2 i) x2 (gX4_setting P 3)).2)) i)  _) (cwV 0 hts gX4_leap_X1_hasWorkedAll rfl rfl rfl (by decide +kernel) ⟨Nat.le_of_ble_eq_true rfl, Nat.le_of_ble_eq_true rfl⟩) (xpreV hN hK hP hD (pm_pj (P := (P1.1, upd P1.2.1 3 ((P1.2.1 3) + ((gX1_pass (nI i) (P1.2.2 i) x2 (gX4_setting P 3)).1)), va_up P1.2.2 i ((gX1_pass (nI i) (P1.2.2 i) x2 (gX4_setting P 3)).2))) (by omega)) 0 rfl rfl rfl) rfl rfl hl.1 rfl (lv_room (Nat.le_of_ble_eq_true rfl)) dX4_leap_111 ⟨Nat.le_of_ble_eq_true rfl, Nat.le_of_ble_eq_true rfl⟩) hP hD hS hA (pm_pj (P := (P1.1, upd P1.2.1 3 ((P1.2.1 3) + ((gX1_pass (nI i) (P1.2.2 i) x2 (gX4_setting P 3)).1)), va_up P1.2.2 i ((gX1_pass (nI i) (P1.2.2 i) x2 (gX4_setting P 3)).2))) (by omega)) (pm_pj (P := (P1.1, upd P1.2.1 3 ((P1.2.1 3) + ((gX1_pass (nI i) (P1.2.2 i) x2 (gX4_setting P 3)).1)), va_up P1.2.2 i ((gX1_pass (nI i) (P1.2.2 i) x2 (gX4_setting P 3)).2))) (by omega)).symm (fun H locs hP hD hS => ?_)
              refine lv_if_eq (tgt := 126) hx hb dX4_leap_114 (by decide) (fun c_114 => ?_) (fun c_114 => ?_)
              · --t
                refine lv_iinc (v := (nI (i + 1))) (lv' := [(7, .int (nI (i + 1))), (8, .ref (jA pa i)), (0, .ref (pa 0)), (2, .int (gX4_setting P 3)), (3, .int x2), (4, .int x3), (5, .ref (pa 2)), (6, .int (nI 16))]) hx hb dX4_leap_126 hl (k := 7) rfl (nI_1 i) (by decide) rfl (fun ls hl => ?_)
                refine lv_goto (tgt := 79) hx hb dX4_leap_129 (by decide) ?_
                exact ih79 (i + 1) x2 x3 (P1.1, upd P1.2.1 3 ((P1.2.1 3) + ((gX1_pass (nI i) (P1.2.2 i) x2 (gX4_setting P 3)).1)), va_up P1.2.2 i ((gX1_pass (nI i) (P1.2.2 i) x2 (gX4_setting P 3)).2)) (by omega) (hg.trans (show gX4_leap_L79 P a1 (f + 1) i x2 x3 P1 = (gX4_leap_L79 P a1 f (i + 1) x2 x3 (P1.1, upd P1.2.1 3 ((P1.2.1 3) + ((gX1_pass (nI i) (P1.2.2 i) x2 (gX4_setting P 3)).1)), va_up P1.2.2 i ((gX1_pass (nI i) (P1.2.2 i) x2 (gX4_setting P 3)).2))) from (Eq.trans (if_pos c_114) rfl))) _ _ _ hP hD hS (lv_sub hl [2, 3, 4, 5, 6, 7, 0] rfl)
              · --f
                refine lv_aload hx hb dX4_leap_117 (lv_at hl 0 rfl) ?_
                refine lv_iconst (v := 2) hx hb dX4_leap_119 (by decide) ?_
                refine xretv (va_runV (As := [.int 2]) (rest := []) ⟨hx, hb, hml, hown, hts⟩ (mX1_end l D ck (jA pa i) (qA pa i) (nI i) ((va_up P1.2.2 i ((gX1_pass (nI i) (P1.2.2 i) x2 (gX4_setting P 3)).2)) i) 2 _) (cwV 1 hts gX4_leap_X1_end rfl rfl rfl (by decide +kernel) ⟨Nat.le_of_ble_eq_true rfl, Nat.le_of_ble_eq_true rfl⟩) (xpreV hN hK hP hD (pm_pj (P := (P1.1, upd P1.2.1 3 ((P1.2.1 3) + ((gX1_pass (nI i) (P1.2.2 i) x2 (gX4_setting P 3)).1)), va_up P1.2.2 i ((gX1_pass (nI i) (P1.2.2 i) x2 (gX4_setting P 3)).2))) (by omega)) 0 rfl rfl rfl) rfl rfl hl.1 rfl (lv_room (Nat.le_of_ble_eq_true rfl)) dX4_leap_120 ⟨Nat.le_of_ble_eq_true rfl, Nat.le_of_ble_eq_true rfl⟩) hP hD hS hA (pm_pj (P := (P1.1, upd P1.2.1 3 ((P1.2.1 3) + ((gX1_pass (nI i) (P1.2.2 i) x2 (gX4_setting P 3)).1)), va_up P1.2.2 i ((gX1_pass (nI i) (P1.2.2 i) x2 (gX4_setting P 3)).2))) (by omega)) (pm_pj' (P := (P1.1, upd P1.2.1 3 ((P1.2.1 3) + ((gX1_pass (nI i) (P1.2.2 i) x2 (gX4_setting P 3)).1)), va_up P1.2.2 i ((gX1_pass (nI i) (P1.2.2 i) x2 (gX4_setting P 3)).2))) (by omega)) (fun H locs hP hD hS => ?_)
                have hP : va_P D vwCl (poolW ck pa (P1.1, upd P1.2.1 3 ((P1.2.1 3) + ((gX1_pass (nI i) (P1.2.2 i) x2 (gX4_setting P 3)).1)), va_up (va_up P1.2.2 i ((gX1_pass (nI i) (P1.2.2 i) x2 (gX4_setting P 3)).2)) i (gX1_end (nI i) ((va_up P1.2.2 i ((gX1_pass (nI i) (P1.2.2 i) x2 (gX4_setting P 3)).2)) i) 2))) H := hP
                have hD : va_D (va_A (poolW ck pa P) s.heap.size) (poolW ck pa (P1.1, upd P1.2.1 3 ((P1.2.1 3) + ((gX1_pass (nI i) (P1.2.2 i) x2 (gX4_setting P 3)).1)), va_up (va_up P1.2.2 i ((gX1_pass (nI i) (P1.2.2 i) x2 (gX4_setting P 3)).2)) i (gX1_end (nI i) ((va_up P1.2.2 i ((gX1_pass (nI i) (P1.2.2 i) x2 (gX4_setting P 3)).2)) i) 2))) := hD
                refine lv_iconst (v := 1) hx hb dX4_leap_123 (by decide) ?_
                refine lv_istore (lv' := [(4, .int 1), (8, .ref (jA pa i)), (0, .ref (pa 0)), (2, .int (gX4_setting P 3)), (3, .int x2), (5, .ref (pa 2)), (6, .int (nI 16)), (7, .int (nI i))]) hx hb dX4_leap_124 hl (by decide) rfl (fun ls hl => ?_)
                refine lv_iinc (v := (nI (i + 1))) (lv' := [(7, .int (nI (i + 1))), (4, .int 1), (8, .ref (jA pa i)), (0, .ref (pa 0)), (2, .int (gX4_setting P 3)), (3, .int x2), (5, .ref (pa 2)), (6, .int (nI 16))]) hx hb dX4_leap_126 hl (k := 7) rfl (nI_1 i) (by decide) rfl (fun ls hl => ?_)
                refine lv_goto (tgt := 79) hx hb dX4_leap_129 (by decide) ?_
                exact ih79 (i + 1) x2 1 (P1.1, upd P1.2.1 3 ((P1.2.1 3) + ((gX1_pass (nI i) (P1.2.2 i) x2 (gX4_setting P 3)).1)), va_up (va_up P1.2.2 i ((gX1_pass (nI i) (P1.2.2 i) x2 (gX4_setting P 3)).2)) i (gX1_end (nI i) ((va_up P1.2.2 i ((gX1_pass (nI i) (P1.2.2 i) x2 (gX4_setting P 3)).2)) i) 2)) (by omega) (hg.trans (show gX4_leap_L79 P a1 (f + 1) i x2 x3 P1 = (gX4_leap_L79 P a1 f (i + 1) x2 1 (P1.1, upd P1.2.1 3 ((P1.2.1 3) + ((gX1_pass (nI i) (P1.2.2 i) x2 (gX4_setting P 3)).1)), va_up (va_up P1.2.2 i ((gX1_pass (nI i) (P1.2.2 i) x2 (gX4_setting P 3)).2)) i (gX1_end (nI i) ((va_up P1.2.2 i ((gX1_pass (nI i) (P1.2.2 i) x2 (gX4_setting P 3)).2)) i) 2))) from (Eq.trans (if_neg c_114) rfl))) _ _ _ hP hD hS (lv_sub hl [3, 4, 5, 1, 6, 7, 0] rfl)
        exact loop79 16 0 x1 0 P (by omega) (hg.trans (show gX4_leap_L22 P a1 0 i x1 = (gX4_leap_L79 P a1 16 0 x1 0 P) from rfl)) _ _ _ hP hD hS (lv_sub hl [4, 6, 7, 3, 2, 1, 0] rfl)
      · --f
        exact absurd (nI_le (by omega) (by omega)) c_26
    | succ f ih22 =>
      intro i x1 hif hg H locs ls hP hD hS hl
      refine lv_iload hx hb dX4_leap_22 (lv_at hl 6 rfl) ?_
      refine lv_iload hx hb dX4_leap_24 (lv_at hl 5 rfl) ?_
      refine lv_icmp_ge (tgt := 62) hx hb dX4_leap_26 (by decide) (fun c_26 => ?_) (fun c_26 => ?_)
      · --t
        exact absurd c_26 (nI_ge (by omega) (by omega))
      · --f
        refine lv_aload hx hb dX4_leap_29 (lv_at hl 4 rfl) ?_
        refine lv_iload hx hb dX4_leap_31 (lv_at hl 6 rfl) ?_
        refine xaldq (j := i) (b := jA pa i) (nI_clamp (by omega)) hx hb hK hP 2 2 rfl rfl (vp_in_nI (by omega) (by omega)) rfl dX4_leap_33 ?_
        refine lv_astore (lv' := [(7, .ref (jA pa i)), (0, .ref (pa 0)), (1, .int a1), (2, .int (gX4_setting P 3)), (3, .int x1), (4, .ref (pa 2)), (5, .int (nI 16)), (6, .int (nI i))]) hx hb dX4_leap_34 hl (by decide) rfl (fun ls hl => ?_)
        refine lv_aload hx hb dX4_leap_36 (lv_at hl 0 rfl) ?_
        refine lv_iconst (v := 1) hx hb dX4_leap_38 (by decide) ?_
        refine xreti (va_runV (As := [.int 1]) (rest := []) ⟨hx, hb, hml, hown, hts⟩ (mX1_isIn l D ck (jA pa i) (qA pa i) (nI i) (P.2.2 i) 1 _) (cwV 1 hts gX4_leap_X1_isIn rfl rfl rfl (by decide +kernel) ⟨Nat.le_of_ble_eq_true rfl, Nat.le_of_ble_eq_true rfl⟩) (xpreV hN hK hP hD (pm_pj (P := P) (by omega)) 0 rfl rfl rfl) rfl rfl hl.1 rfl (lv_room (Nat.le_of_ble_eq_true rfl)) dX4_leap_39 ⟨Nat.le_of_ble_eq_true rfl, Nat.le_of_ble_eq_true rfl⟩) hP hD hS hA (pm_pj (P := P) (by omega)) (pm_pj (P := P) (by omega)).symm (fun H locs hP hD hS => ?_)
        refine lv_if_eq (tgt := 56) hx hb dX4_leap_42 (by decide) (fun c_42 => ?_) (fun c_42 => ?_)
        · --t
          refine lv_iinc (v := (nI (i + 1))) (lv' := [(6, .int (nI (i + 1))), (7, .ref (jA pa i)), (0, .ref (pa 0)), (1, .int a1), (2, .int (gX4_setting P 3)), (3, .int x1), (4, .ref (pa 2)), (5, .int (nI 16))]) hx hb dX4_leap_56 hl (k := 7) rfl (nI_1 i) (by decide) rfl (fun ls hl => ?_)
          refine lv_goto (tgt := 22) hx hb dX4_leap_59 (by decide) ?_
          exact ih22 (i + 1) x1 (by omega) (hg.trans (show gX4_leap_L22 P a1 (f + 1) i x1 = (gX4_leap_L22 P a1 f (i + 1) x1) from (Eq.trans (if_pos c_42) rfl))) _ _ _ hP hD hS (lv_sub hl [2, 3, 4, 5, 6, 7, 0] rfl)
        · --f
          refine lv_iload_n hx hb dX4_leap_45 rfl (lv_at hl 4 rfl) ?_
          refine lv_aload hx hb dX4_leap_46 (lv_at hl 0 rfl) ?_
          refine lv_iload_n hx hb dX4_leap_48 rfl (lv_at hl 3 rfl) ?_
          refine xreti (va_runV (As := [.int (gX4_setting P 3)]) (rest := [.int x1]) ⟨hx, hb, hml, hown, hts⟩ (mX1_stepsLeft l D ck (jA pa i) (qA pa i) (nI i) (P.2.2 i) (gX4_setting P 3) _) (cwV 1 hts gX4_leap_X1_stepsLeft rfl rfl rfl (by decide +kernel) ⟨Nat.le_of_ble_eq_true rfl, Nat.le_of_ble_eq_true rfl⟩) (xpreV hN hK hP hD (pm_pj (P := P) (by omega)) 0 rfl rfl rfl) rfl rfl hl.1 rfl (lv_room (Nat.le_of_ble_eq_true rfl)) dX4_leap_49 ⟨Nat.le_of_ble_eq_true rfl, Nat.le_of_ble_eq_true rfl⟩) hP hD hS hA (pm_pj (P := P) (by omega)) (pm_pj (P := P) (by omega)).symm (fun H locs hP hD hS => ?_)
          refine va_mmin hx hb (hml.trans hl.1.symm) hown (hts (.methodLink RX4 78 Lib.Math.min.name) (List.mem_of_getElem? (i := 2) rfl)) (hts (.static Lib.Math.min.name) (List.mem_of_getElem? (i := 3) rfl)) (hts (.initialized "java/lang/Math") (List.mem_of_getElem? (i := 4) rfl)) (hts (.code Lib.Math.min.name Lib.Math.min.code 2 (some .int)) (List.mem_of_getElem? (i := 5) rfl)) (Nat.le_of_ble_eq_true rfl) (Nat.le_of_ble_eq_true rfl) (Nat.le_of_ble_eq_true rfl) (Nat.le_of_ble_eq_true rfl) dX4_leap_52 ?_
          refine lv_istore_n (lv' := [(3, .int (if (gX1_stepsLeft (nI i) (P.2.2 i) (gX4_setting P 3)) < x1 then (gX1_stepsLeft (nI i) (P.2.2 i) (gX4_setting P 3)) else x1)), (7, .ref (jA pa i)), (0, .ref (pa 0)), (1, .int a1), (2, .int (gX4_setting P 3)), (4, .ref (pa 2)), (5, .int (nI 16)), (6, .int (nI i))]) hx hb dX4_leap_55 rfl hl (by decide) rfl (fun ls hl => ?_)
          refine lv_iinc (v := (nI (i + 1))) (lv' := [(6, .int (nI (i + 1))), (3, .int (if (gX1_stepsLeft (nI i) (P.2.2 i) (gX4_setting P 3)) < x1 then (gX1_stepsLeft (nI i) (P.2.2 i) (gX4_setting P 3)) else x1)), (7, .ref (jA pa i)), (0, .ref (pa 0)), (1, .int a1), (2, .int (gX4_setting P 3)), (4, .ref (pa 2)), (5, .int (nI 16))]) hx hb dX4_leap_56 hl (k := 7) rfl (nI_1 i) (by decide) rfl (fun ls hl => ?_)
          refine lv_goto (tgt := 22) hx hb dX4_leap_59 (by decide) ?_
          exact ih22 (i + 1) (if (gX1_stepsLeft (nI i) (P.2.2 i) (gX4_setting P 3)) < x1 then (gX1_stepsLeft (nI i) (P.2.2 i) (gX4_setting P 3)) else x1) (by omega) (hg.trans (show gX4_leap_L22 P a1 (f + 1) i x1 = (gX4_leap_L22 P a1 f (i + 1) (if (gX1_stepsLeft (nI i) (P.2.2 i) (gX4_setting P 3)) < x1 then (gX1_stepsLeft (nI i) (P.2.2 i) (gX4_setting P 3)) else x1)) from (Eq.trans (if_neg c_42) rfl))) _ _ _ hP hD hS (lv_sub hl [3, 4, 5, 1, 6, 7, 0] rfl)
  exact loop22 16 0 a1 (by omega) (show gX4_leap P a1 = (gX4_leap_L22 P a1 16 0 a1) from rfl) _ _ _ hP hD hS (lv_sub hl [5, 6, 4, 3, 2, 1, 0] rfl)

def rmX4_tell : Room := { frames := 3, cells := 0, slots := 0, locals := 66 }
def gX4_tell (P : PS) (a1 : Int32) : Int32 := (if a1 = 0 then (P.2.1 0) else (if a1 = 1 then (gX4_joinsIn P (a1 - 1)) else (if a1 = 2 then (gX4_joinsIn P (a1 - 1)) else (if a1 = 3 then (gX4_joinsIn P (a1 - 1)) else (if a1 = 4 then (gX4_joinsIn P (a1 - 1)) else (if a1 = 5 then (gX4_granted P ) else (if a1 = 6 then (gX4_free P ) else (if a1 = 7 then (P.2.1 1) else (if a1 = 8 then (P.2.1 2) else (if a1 = 9 then (P.2.1 3) else (if a1 = 10 then (P.2.1 4) else (if a1 = 11 then (gX4_spilling P ) else (gX4_setting P (a1 - 12))))))))))))))
set_option maxHeartbeats 4000000 in
set_option maxRecDepth 100000 in
theorem mX4_tell (l : Launch) (D : va_G) (ck : Nat → ClassId) (pa : Nat → Nat) (P : PS) (a1 : Int32) : xMi l yX4_tell wsX4_tell rmX4_tell D ck [.ref (pa 0), .int a1] (poolW ck pa P) (poolW ck pa P) (gX4_tell P a1) 0 0 := by
  refine xMet (by decide) rfl (Nat.le_of_ble_eq_true rfl) ?_
  intro zp ze s zm zb zt zc hx hb hr hml hown hts hlk hnm hN hK hP hD ls hl
  have hown : s.vm.findClass RX4 = some zm.cls := hown
  have hl : lv_has ls 2 [(0, .ref (pa 0)), (1, .int a1)] := hl
  have hS : va_S (va_A (poolW ck pa P) s.heap.size) s.heap s.heap [] := va_S.rf
  have hA : ∀ zq : Nat, s.heap.size ≤ zq → va_A (poolW ck pa P) s.heap.size zq := fun zq h => Or.inr h
  have hinX4 : ∀ w ∈ u_ws RX4 TX4 7, w ∈ wsX4_tell := by decide +kernel
  refine lv_iload_n hx hb dX4_tell_0 rfl (lv_at hl 1 rfl) ?_
  by_cases c_1_0 : a1 = 0
  · --0
    refine lv_tableIn (tgt := 64) (off := 63) hx hb dX4_tell_1 (by rw [c_1_0]; decide) (by rw [c_1_0]; decide) (by rw [c_1_0]; decide) (by decide) ?_
    refine lv_aload_n hx hb dX4_tell_64 rfl (lv_at hl 0 rfl) ?_
    refine va_get (D := D) (ci := 4) (v := .int (P.2.1 0)) (C := RX4) (T := TX4) (N := 7) hx hb hts hinX4 hown hK hP 0 rfl rfl 2 (by decide) (hts (.fieldLink RX4 41 "JoinGrants$Pool" "joinsSoFar" "I") (List.mem_of_getElem? (i := 1) rfl)) (fun _ h9 => h9) rfl dX4_tell_65 ?_
    exact xiret hx hb hr hlk hP hD hS (show gX4_tell P a1 = (P.2.1 0) from (Eq.trans (if_pos c_1_0) rfl)).symm rfl dX4_tell_68
  by_cases c_1_1 : a1 = 1
  · --1
    refine lv_tableIn (tgt := 69) (off := 68) hx hb dX4_tell_1 (by rw [c_1_1]; decide) (by rw [c_1_1]; decide) (by rw [c_1_1]; decide) (by decide) ?_
    refine lv_aload_n hx hb dX4_tell_69 rfl (lv_at hl 0 rfl) ?_
    refine lv_iload_n hx hb dX4_tell_70 rfl (lv_at hl 1 rfl) ?_
    refine lv_iconst (v := 1) hx hb dX4_tell_71 (by decide) ?_
    refine lv_isub hx hb dX4_tell_72 ?_
    refine xreti (va_runV (As := [.int (a1 - 1)]) (rest := []) ⟨hx, hb, hml, hown, hts⟩ (mX4_joinsIn l D ck pa P (a1 - 1)  _) (cwV 1 hts gX4_tell_X4_joinsIn rfl rfl rfl (by decide +kernel) ⟨Nat.le_of_ble_eq_true rfl, Nat.le_of_ble_eq_true rfl⟩) (xpreV hN hK hP hD pm_all 0 rfl rfl rfl) rfl rfl hl.1 rfl (lv_room (Nat.le_of_ble_eq_true rfl)) dX4_tell_73 ⟨Nat.le_of_ble_eq_true rfl, Nat.le_of_ble_eq_true rfl⟩) hP hD hS hA pm_all pm_all' (fun H locs hP hD hS => ?_)
    exact xiret hx hb hr hlk hP hD hS (show gX4_tell P a1 = (gX4_joinsIn P (a1 - 1)) from (Eq.trans (if_neg c_1_0) (Eq.trans (if_pos c_1_1) rfl))).symm rfl dX4_tell_76
  by_cases c_1_2 : a1 = 2
  · --2
    refine lv_tableIn (tgt := 69) (off := 68) hx hb dX4_tell_1 (by rw [c_1_2]; decide) (by rw [c_1_2]; decide) (by rw [c_1_2]; decide) (by decide) ?_
    refine lv_aload_n hx hb dX4_tell_69 rfl (lv_at hl 0 rfl) ?_
    refine lv_iload_n hx hb dX4_tell_70 rfl (lv_at hl 1 rfl) ?_
    refine lv_iconst (v := 1) hx hb dX4_tell_71 (by decide) ?_
    refine lv_isub hx hb dX4_tell_72 ?_
    refine xreti (va_runV (As := [.int (a1 - 1)]) (rest := []) ⟨hx, hb, hml, hown, hts⟩ (mX4_joinsIn l D ck pa P (a1 - 1)  _) (cwV 1 hts gX4_tell_X4_joinsIn rfl rfl rfl (by decide +kernel) ⟨Nat.le_of_ble_eq_true rfl, Nat.le_of_ble_eq_true rfl⟩) (xpreV hN hK hP hD pm_all 0 rfl rfl rfl) rfl rfl hl.1 rfl (lv_room (Nat.le_of_ble_eq_true rfl)) dX4_tell_73 ⟨Nat.le_of_ble_eq_true rfl, Nat.le_of_ble_eq_true rfl⟩) hP hD hS hA pm_all pm_all' (fun H locs hP hD hS => ?_)
    exact xiret hx hb hr hlk hP hD hS (show gX4_tell P a1 = (gX4_joinsIn P (a1 - 1)) from (Eq.trans (if_neg c_1_0) (Eq.trans (if_neg c_1_1) (Eq.trans (if_pos c_1_2) rfl)))).symm rfl dX4_tell_76
  by_cases c_1_3 : a1 = 3
  · --3
    refine lv_tableIn (tgt := 69) (off := 68) hx hb dX4_tell_1 (by rw [c_1_3]; decide) (by rw [c_1_3]; decide) (by rw [c_1_3]; decide) (by decide) ?_
    refine lv_aload_n hx hb dX4_tell_69 rfl (lv_at hl 0 rfl) ?_
    refine lv_iload_n hx hb dX4_tell_70 rfl (lv_at hl 1 rfl) ?_
    refine lv_iconst (v := 1) hx hb dX4_tell_71 (by decide) ?_
    refine lv_isub hx hb dX4_tell_72 ?_
    refine xreti (va_runV (As := [.int (a1 - 1)]) (rest := []) ⟨hx, hb, hml, hown, hts⟩ (mX4_joinsIn l D ck pa P (a1 - 1)  _) (cwV 1 hts gX4_tell_X4_joinsIn rfl rfl rfl (by decide +kernel) ⟨Nat.le_of_ble_eq_true rfl, Nat.le_of_ble_eq_true rfl⟩) (xpreV hN hK hP hD pm_all 0 rfl rfl rfl) rfl rfl hl.1 rfl (lv_room (Nat.le_of_ble_eq_true rfl)) dX4_tell_73 ⟨Nat.le_of_ble_eq_true rfl, Nat.le_of_ble_eq_true rfl⟩) hP hD hS hA pm_all pm_all' (fun H locs hP hD hS => ?_)
    exact xiret hx hb hr hlk hP hD hS (show gX4_tell P a1 = (gX4_joinsIn P (a1 - 1)) from (Eq.trans (if_neg c_1_0) (Eq.trans (if_neg c_1_1) (Eq.trans (if_neg c_1_2) (Eq.trans (if_pos c_1_3) rfl))))).symm rfl dX4_tell_76
  by_cases c_1_4 : a1 = 4
  · --4
    refine lv_tableIn (tgt := 69) (off := 68) hx hb dX4_tell_1 (by rw [c_1_4]; decide) (by rw [c_1_4]; decide) (by rw [c_1_4]; decide) (by decide) ?_
    refine lv_aload_n hx hb dX4_tell_69 rfl (lv_at hl 0 rfl) ?_
    refine lv_iload_n hx hb dX4_tell_70 rfl (lv_at hl 1 rfl) ?_
    refine lv_iconst (v := 1) hx hb dX4_tell_71 (by decide) ?_
    refine lv_isub hx hb dX4_tell_72 ?_
    refine xreti (va_runV (As := [.int (a1 - 1)]) (rest := []) ⟨hx, hb, hml, hown, hts⟩ (mX4_joinsIn l D ck pa P (a1 - 1)  _) (cwV 1 hts gX4_tell_X4_joinsIn rfl rfl rfl (by decide +kernel) ⟨Nat.le_of_ble_eq_true rfl, Nat.le_of_ble_eq_true rfl⟩) (xpreV hN hK hP hD pm_all 0 rfl rfl rfl) rfl rfl hl.1 rfl (lv_room (Nat.le_of_ble_eq_true rfl)) dX4_tell_73 ⟨Nat.le_of_ble_eq_true rfl, Nat.le_of_ble_eq_true rfl⟩) hP hD hS hA pm_all pm_all' (fun H locs hP hD hS => ?_)
    exact xiret hx hb hr hlk hP hD hS (show gX4_tell P a1 = (gX4_joinsIn P (a1 - 1)) from (Eq.trans (if_neg c_1_0) (Eq.trans (if_neg c_1_1) (Eq.trans (if_neg c_1_2) (Eq.trans (if_neg c_1_3) (Eq.trans (if_pos c_1_4) rfl)))))).symm rfl dX4_tell_76
  by_cases c_1_5 : a1 = 5
  · --5
    refine lv_tableIn (tgt := 77) (off := 76) hx hb dX4_tell_1 (by rw [c_1_5]; decide) (by rw [c_1_5]; decide) (by rw [c_1_5]; decide) (by decide) ?_
    refine lv_aload_n hx hb dX4_tell_77 rfl (lv_at hl 0 rfl) ?_
    refine xreti (va_runV (As := []) (rest := []) ⟨hx, hb, hml, hown, hts⟩ (mX4_granted l D ck pa P   _) (cwV 0 hts gX4_tell_X4_granted rfl rfl rfl (by decide +kernel) ⟨Nat.le_of_ble_eq_true rfl, Nat.le_of_ble_eq_true rfl⟩) (xpreV hN hK hP hD pm_all 0 rfl rfl rfl) rfl rfl hl.1 rfl (lv_room (Nat.le_of_ble_eq_true rfl)) dX4_tell_78 ⟨Nat.le_of_ble_eq_true rfl, Nat.le_of_ble_eq_true rfl⟩) hP hD hS hA pm_all pm_all' (fun H locs hP hD hS => ?_)
    exact xiret hx hb hr hlk hP hD hS (show gX4_tell P a1 = (gX4_granted P ) from (Eq.trans (if_neg c_1_0) (Eq.trans (if_neg c_1_1) (Eq.trans (if_neg c_1_2) (Eq.trans (if_neg c_1_3) (Eq.trans (if_neg c_1_4) (Eq.trans (if_pos c_1_5) rfl))))))).symm rfl dX4_tell_81
  by_cases c_1_6 : a1 = 6
  · --6
    refine lv_tableIn (tgt := 82) (off := 81) hx hb dX4_tell_1 (by rw [c_1_6]; decide) (by rw [c_1_6]; decide) (by rw [c_1_6]; decide) (by decide) ?_
    refine lv_aload_n hx hb dX4_tell_82 rfl (lv_at hl 0 rfl) ?_
    refine xreti (va_runV (As := []) (rest := []) ⟨hx, hb, hml, hown, hts⟩ (mX4_free l D ck pa P   _) (cwV 0 hts gX4_tell_X4_free rfl rfl rfl (by decide +kernel) ⟨Nat.le_of_ble_eq_true rfl, Nat.le_of_ble_eq_true rfl⟩) (xpreV hN hK hP hD pm_all 0 rfl rfl rfl) rfl rfl hl.1 rfl (lv_room (Nat.le_of_ble_eq_true rfl)) dX4_tell_83 ⟨Nat.le_of_ble_eq_true rfl, Nat.le_of_ble_eq_true rfl⟩) hP hD hS hA pm_all pm_all' (fun H locs hP hD hS => ?_)
    exact xiret hx hb hr hlk hP hD hS (show gX4_tell P a1 = (gX4_free P ) from (Eq.trans (if_neg c_1_0) (Eq.trans (if_neg c_1_1) (Eq.trans (if_neg c_1_2) (Eq.trans (if_neg c_1_3) (Eq.trans (if_neg c_1_4) (Eq.trans (if_neg c_1_5) (Eq.trans (if_pos c_1_6) rfl)))))))).symm rfl dX4_tell_86
  by_cases c_1_7 : a1 = 7
  · --7
    refine lv_tableIn (tgt := 87) (off := 86) hx hb dX4_tell_1 (by rw [c_1_7]; decide) (by rw [c_1_7]; decide) (by rw [c_1_7]; decide) (by decide) ?_
    refine lv_aload_n hx hb dX4_tell_87 rfl (lv_at hl 0 rfl) ?_
    refine va_get (D := D) (ci := 4) (v := .int (P.2.1 1)) (C := RX4) (T := TX4) (N := 7) hx hb hts hinX4 hown hK hP 0 rfl rfl 3 (by decide) (hts (.fieldLink RX4 92 "JoinGrants$Pool" "mostGranted" "I") (List.mem_of_getElem? (i := 2) rfl)) (fun _ h9 => h9) rfl dX4_tell_88 ?_
    exact xiret hx hb hr hlk hP hD hS (show gX4_tell P a1 = (P.2.1 1) from (Eq.trans (if_neg c_1_0) (Eq.trans (if_neg c_1_1) (Eq.trans (if_neg c_1_2) (Eq.trans (if_neg c_1_3) (Eq.trans (if_neg c_1_4) (Eq.trans (if_neg c_1_5) (Eq.trans (if_neg c_1_6) (Eq.trans (if_pos c_1_7) rfl))))))))).symm rfl dX4_tell_91
  by_cases c_1_8 : a1 = 8
  · --8
    refine lv_tableIn (tgt := 92) (off := 91) hx hb dX4_tell_1 (by rw [c_1_8]; decide) (by rw [c_1_8]; decide) (by rw [c_1_8]; decide) (by decide) ?_
    refine lv_aload_n hx hb dX4_tell_92 rfl (lv_at hl 0 rfl) ?_
    refine va_get (D := D) (ci := 4) (v := .int (P.2.1 2)) (C := RX4) (T := TX4) (N := 7) hx hb hts hinX4 hown hK hP 0 rfl rfl 4 (by decide) (hts (.fieldLink RX4 138 "JoinGrants$Pool" "steps" "I") (List.mem_of_getElem? (i := 3) rfl)) (fun _ h9 => h9) rfl dX4_tell_93 ?_
    exact xiret hx hb hr hlk hP hD hS (show gX4_tell P a1 = (P.2.1 2) from (Eq.trans (if_neg c_1_0) (Eq.trans (if_neg c_1_1) (Eq.trans (if_neg c_1_2) (Eq.trans (if_neg c_1_3) (Eq.trans (if_neg c_1_4) (Eq.trans (if_neg c_1_5) (Eq.trans (if_neg c_1_6) (Eq.trans (if_neg c_1_7) (Eq.trans (if_pos c_1_8) rfl)))))))))).symm rfl dX4_tell_96
  by_cases c_1_9 : a1 = 9
  · --9
    refine lv_tableIn (tgt := 97) (off := 96) hx hb dX4_tell_1 (by rw [c_1_9]; decide) (by rw [c_1_9]; decide) (by rw [c_1_9]; decide) (by decide) ?_
    refine lv_aload_n hx hb dX4_tell_97 rfl (lv_at hl 0 rfl) ?_
    refine va_get (D := D) (ci := 4) (v := .int (P.2.1 3)) (C := RX4) (T := TX4) (N := 7) hx hb hts hinX4 hown hK hP 0 rfl rfl 5 (by decide) (hts (.fieldLink RX4 125 "JoinGrants$Pool" "workDone" "I") (List.mem_of_getElem? (i := 4) rfl)) (fun _ h9 => h9) rfl dX4_tell_98 ?_
    exact xiret hx hb hr hlk hP hD hS (show gX4_tell P a1 = (P.2.1 3) from (Eq.trans (if_neg c_1_0) (Eq.trans (if_neg c_1_1) (Eq.trans (if_neg c_1_2) (Eq.trans (if_neg c_1_3) (Eq.trans (if_neg c_1_4) (Eq.trans (if_neg c_1_5) (Eq.trans (if_neg c_1_6) (Eq.trans (if_neg c_1_7) (Eq.trans (if_neg c_1_8) (Eq.trans (if_pos c_1_9) rfl))))))))))).symm rfl dX4_tell_101
  by_cases c_1_10 : a1 = 10
  · --10
    refine lv_tableIn (tgt := 102) (off := 101) hx hb dX4_tell_1 (by rw [c_1_10]; decide) (by rw [c_1_10]; decide) (by rw [c_1_10]; decide) (by decide) ?_
    refine lv_aload_n hx hb dX4_tell_102 rfl (lv_at hl 0 rfl) ?_
    refine va_get (D := D) (ci := 4) (v := .int (P.2.1 4)) (C := RX4) (T := TX4) (N := 7) hx hb hts hinX4 hown hK hP 0 rfl rfl 6 (by decide) (hts (.fieldLink RX4 115 "JoinGrants$Pool" "askedBack" "I") (List.mem_of_getElem? (i := 5) rfl)) (fun _ h9 => h9) rfl dX4_tell_103 ?_
    exact xiret hx hb hr hlk hP hD hS (show gX4_tell P a1 = (P.2.1 4) from (Eq.trans (if_neg c_1_0) (Eq.trans (if_neg c_1_1) (Eq.trans (if_neg c_1_2) (Eq.trans (if_neg c_1_3) (Eq.trans (if_neg c_1_4) (Eq.trans (if_neg c_1_5) (Eq.trans (if_neg c_1_6) (Eq.trans (if_neg c_1_7) (Eq.trans (if_neg c_1_8) (Eq.trans (if_neg c_1_9) (Eq.trans (if_pos c_1_10) rfl)))))))))))).symm rfl dX4_tell_106
  by_cases c_1_11 : a1 = 11
  · --11
    refine lv_tableIn (tgt := 107) (off := 106) hx hb dX4_tell_1 (by rw [c_1_11]; decide) (by rw [c_1_11]; decide) (by rw [c_1_11]; decide) (by decide) ?_
    refine lv_aload_n hx hb dX4_tell_107 rfl (lv_at hl 0 rfl) ?_
    refine xreti (va_runV (As := []) (rest := []) ⟨hx, hb, hml, hown, hts⟩ (mX4_spilling l D ck pa P   _) (cwV 0 hts gX4_tell_X4_spilling rfl rfl rfl (by decide +kernel) ⟨Nat.le_of_ble_eq_true rfl, Nat.le_of_ble_eq_true rfl⟩) (xpreV hN hK hP hD pm_all 0 rfl rfl rfl) rfl rfl hl.1 rfl (lv_room (Nat.le_of_ble_eq_true rfl)) dX4_tell_108 ⟨Nat.le_of_ble_eq_true rfl, Nat.le_of_ble_eq_true rfl⟩) hP hD hS hA pm_all pm_all' (fun H locs hP hD hS => ?_)
    exact xiret hx hb hr hlk hP hD hS (show gX4_tell P a1 = (gX4_spilling P ) from (Eq.trans (if_neg c_1_0) (Eq.trans (if_neg c_1_1) (Eq.trans (if_neg c_1_2) (Eq.trans (if_neg c_1_3) (Eq.trans (if_neg c_1_4) (Eq.trans (if_neg c_1_5) (Eq.trans (if_neg c_1_6) (Eq.trans (if_neg c_1_7) (Eq.trans (if_neg c_1_8) (Eq.trans (if_neg c_1_9) (Eq.trans (if_neg c_1_10) (Eq.trans (if_pos c_1_11) rfl))))))))))))).symm rfl dX4_tell_111
  have z_c_1_0 : (a1).toInt ≠ 0 := fun e => c_1_0 (Int32.toInt_inj.mp e)
  have z_c_1_1 : (a1).toInt ≠ 1 := fun e => c_1_1 (Int32.toInt_inj.mp e)
  have z_c_1_2 : (a1).toInt ≠ 2 := fun e => c_1_2 (Int32.toInt_inj.mp e)
  have z_c_1_3 : (a1).toInt ≠ 3 := fun e => c_1_3 (Int32.toInt_inj.mp e)
  have z_c_1_4 : (a1).toInt ≠ 4 := fun e => c_1_4 (Int32.toInt_inj.mp e)
  have z_c_1_5 : (a1).toInt ≠ 5 := fun e => c_1_5 (Int32.toInt_inj.mp e)
  have z_c_1_6 : (a1).toInt ≠ 6 := fun e => c_1_6 (Int32.toInt_inj.mp e)
  have z_c_1_7 : (a1).toInt ≠ 7 := fun e => c_1_7 (Int32.toInt_inj.mp e)
  have z_c_1_8 : (a1).toInt ≠ 8 := fun e => c_1_8 (Int32.toInt_inj.mp e)
  have z_c_1_9 : (a1).toInt ≠ 9 := fun e => c_1_9 (Int32.toInt_inj.mp e)
  have z_c_1_10 : (a1).toInt ≠ 10 := fun e => c_1_10 (Int32.toInt_inj.mp e)
  have z_c_1_11 : (a1).toInt ≠ 11 := fun e => c_1_11 (Int32.toInt_inj.mp e)
  refine lv_tableOut (tgt := 112) hx hb dX4_tell_1 (by omega) (by decide) ?_
  refine lv_aload_n hx hb dX4_tell_112 rfl (lv_at hl 0 rfl) ?_
  refine lv_iload_n hx hb dX4_tell_113 rfl (lv_at hl 1 rfl) ?_
  refine lv_bipush (v := 12) hx hb dX4_tell_114 (by decide) ?_
  refine lv_isub hx hb dX4_tell_116 ?_
  refine xreti (va_runV (As := [.int (a1 - 12)]) (rest := []) ⟨hx, hb, hml, hown, hts⟩ (mX4_setting l D ck pa P (a1 - 12)  _) (cwV 1 hts gX4_tell_X4_setting rfl rfl rfl (by decide +kernel) ⟨Nat.le_of_ble_eq_true rfl, Nat.le_of_ble_eq_true rfl⟩) (xpreV hN hK hP hD pm_all 0 rfl rfl rfl) rfl rfl hl.1 rfl (lv_room (Nat.le_of_ble_eq_true rfl)) dX4_tell_117 ⟨Nat.le_of_ble_eq_true rfl, Nat.le_of_ble_eq_true rfl⟩) hP hD hS hA pm_all pm_all' (fun H locs hP hD hS => ?_)
  exact xiret hx hb hr hlk hP hD hS (show gX4_tell P a1 = (gX4_setting P (a1 - 12)) from (Eq.trans (if_neg c_1_0) (Eq.trans (if_neg c_1_1) (Eq.trans (if_neg c_1_2) (Eq.trans (if_neg c_1_3) (Eq.trans (if_neg c_1_4) (Eq.trans (if_neg c_1_5) (Eq.trans (if_neg c_1_6) (Eq.trans (if_neg c_1_7) (Eq.trans (if_neg c_1_8) (Eq.trans (if_neg c_1_9) (Eq.trans (if_neg c_1_10) (Eq.trans (if_neg c_1_11) rfl))))))))))))).symm rfl dX4_tell_120

def rmX4_copyFrom : Room := { frames := 2, cells := 0, slots := 0, locals := 42 }
def gX4_copyFrom_L40 (P O : PS) : Nat → Nat → PS → PS
  | 0, i, P1 => (P1.1, upd (upd (upd (upd (upd P1.2.1 0 (O.2.1 0)) 1 (O.2.1 1)) 2 (O.2.1 2)) 3 (O.2.1 3)) 4 (O.2.1 4), P1.2.2)
  | f + 1, i, P1 => (gX4_copyFrom_L40 P O f (i + 1) (P1.1, P1.2.1, va_up P1.2.2 i (gX1_copyFrom (P1.2.2 i) (O.2.2 i))))
def gX4_copyFrom_L2 (P O : PS) : Nat → Nat → PS → PS
  | 0, i, P1 => (gX4_copyFrom_L40 P O 16 0 P1)
  | f + 1, i, P1 => (gX4_copyFrom_L2 P O f (i + 1) (upd P1.1 i (O.1 i), P1.2.1, P1.2.2))
def gX4_copyFrom (P O : PS) : PS := (gX4_copyFrom_L2 P O 4 0 P)
set_option maxHeartbeats 4000000 in
set_option maxRecDepth 100000 in
theorem mX4_copyFrom (l : Launch) (D : va_G) (ck : Nat → ClassId) (pa pb : Nat → Nat) (P O : PS) : xMv l yX4_copyFrom wsX4_copyFrom rmX4_copyFrom D ck [.ref (pa 0), .ref (pb 0)] (twoW ck pa pb P O) (twoW ck pa pb (gX4_copyFrom P O) O) 0 0 := by
  refine xMet (by decide) rfl (Nat.le_of_ble_eq_true rfl) ?_
  intro zp ze s zm zb zt zc hx hb hr hml hown hts hlk hnm hN hK hP hD ls hl
  have hown : s.vm.findClass RX4 = some zm.cls := hown
  have hl : lv_has ls 3 [(0, .ref (pa 0)), (1, .ref (pb 0))] := hl
  have hS : va_S (va_A (twoW ck pa pb P O) s.heap.size) s.heap s.heap [] := va_S.rf
  have hA : ∀ zq : Nat, s.heap.size ≤ zq → va_A (twoW ck pa pb P O) s.heap.size zq := fun zq h => Or.inr h
  have hinX4 : ∀ w ∈ u_ws RX4 TX4 7, w ∈ wsX4_copyFrom := by decide +kernel
  refine lv_iconst (v := (nI 0)) hx hb dX4_copyFrom_0 (by decide) ?_
  refine lv_istore_n (lv' := [(2, .int (nI 0)), (0, .ref (pa 0)), (1, .ref (pb 0))]) hx hb dX4_copyFrom_1 rfl hl (by decide) rfl (fun ls hl => ?_)
  have loop2 : ∀ (f : Nat) (i : Nat) (P1 : PS), (i + f = 4) → gX4_copyFrom P O = gX4_copyFrom_L2 P O f i P1 → ∀ (H : Heap) (locs : List Loc) (ls : Array Slot), va_P D vwCl (twoW ck pa pb P1 O) H → va_D (va_A (twoW ck pa pb P O) s.heap.size) (twoW ck pa pb P1 O) → va_S (va_A (twoW ck pa pb P O) s.heap.size) s.heap H locs → lv_has ls 3 [(0, .ref (pa 0)), (1, .ref (pb 0)), (2, .int (nI i))] → W zp l ze rmX4_copyFrom s zm ([.ref (pa 0), .ref (pb 0)] : List Value).toArray zb zt zc H locs 0 0 (MQ zb (xQv D (twoW ck pa pb P O) (twoW ck pa pb (gX4_copyFrom P O) O) s.heap.size) ([.ref (pa 0), .ref (pb 0)] : List Value).toArray s 0 0 (va_A (twoW ck pa pb P O) s.heap.size)) (F0 zm 2 ls []) := by
    intro f
    induction f with
    | zero =>
      intro i P1 hif hg H locs ls hP hD hS hl
      refine lv_iload_n hx hb dX4_copyFrom_2 rfl (lv_at hl 2 rfl) ?_
      refine lv_aload_n hx hb dX4_copyFrom_3 rfl (lv_at hl 0 rfl) ?_
      refine va_get (D := D) (ci := 4) (v := .ref (pa 1)) (C := RX4) (T := TX4) (N := 7) hx hb hts hinX4 hown hK hP 0 rfl rfl 0 (by decide) (hts (.fieldLink RX4 20 "JoinGrants$Pool" "settings" "[I") (List.mem_of_getElem? (i := 1) rfl)) (fun _ h9 => h9) rfl dX4_copyFrom_4 ?_
      refine va_alen hx hb hK hP 1 0 rfl rfl (v := (nI 4)) rfl dX4_copyFrom_7 ?_
      refine lv_icmp_ge (tgt := 38) hx hb dX4_copyFrom_8 (by decide) (fun c_8 => ?_) (fun c_8 => ?_)
      · --t
        refine lv_iconst (v := (nI 0)) hx hb dX4_copyFrom_38 (by decide) ?_
        refine lv_istore_n (lv' := [(2, .int (nI 0)), (0, .ref (pa 0)), (1, .ref (pb 0))]) hx hb dX4_copyFrom_39 rfl hl (by decide) rfl (fun ls hl => ?_)
        have loop40 : ∀ (f : Nat) (i : Nat) (P1 : PS), (i + f = 16) → gX4_copyFrom P O = gX4_copyFrom_L40 P O f i P1 → ∀ (H : Heap) (locs : List Loc) (ls : Array Slot), va_P D vwCl (twoW ck pa pb P1 O) H → va_D (va_A (twoW ck pa pb P O) s.heap.size) (twoW ck pa pb P1 O) → va_S (va_A (twoW ck pa pb P O) s.heap.size) s.heap H locs → lv_has ls 3 [(0, .ref (pa 0)), (1, .ref (pb 0)), (2, .int (nI i))] → W zp l ze rmX4_copyFrom s zm ([.ref (pa 0), .ref (pb 0)] : List Value).toArray zb zt zc H locs 0 0 (MQ zb (xQv D (twoW ck pa pb P O) (twoW ck pa pb (gX4_copyFrom P O) O) s.heap.size) ([.ref (pa 0), .ref (pb 0)] : List Value).toArray s 0 0 (va_A (twoW ck pa pb P O) s.heap.size)) (F0 zm 40 ls []) := by
          intro f
          induction f with
          | zero =>
            intro i P1 hif hg H locs ls hP hD hS hl
            refine lv_iload_n hx hb dX4_copyFrom_40 rfl (lv_at hl 2 rfl) ?_
            refine lv_aload_n hx hb dX4_copyFrom_41 rfl (lv_at hl 0 rfl) ?_
            refine va_get (D := D) (ci := 4) (v := .ref (pa 2)) (C := RX4) (T := TX4) (N := 7) hx hb hts hinX4 hown hK hP 0 rfl rfl 1 (by decide) (hts (.fieldLink RX4 25 "JoinGrants$Pool" "joins" "[LJoinGrants$Join;") (List.mem_of_getElem? (i := 2) rfl)) (fun _ h9 => h9) rfl dX4_copyFrom_42 ?_
            refine va_alen hx hb hK hP 2 2 rfl rfl (v := (nI 16)) rfl dX4_copyFrom_45 ?_
            refine lv_icmp_ge (tgt := 79) hx hb dX4_copyFrom_46 (by decide) (fun c_46 => ?_) (fun c_46 => ?_)
            · --t
              refine lv_aload_n hx hb dX4_copyFrom_79 rfl (lv_at hl 0 rfl) ?_
              refine lv_aload_n hx hb dX4_copyFrom_80 rfl (lv_at hl 1 rfl) ?_
              refine va_get (D := D) (ci := 4) (v := .int (O.2.1 0)) (C := RX4) (T := TX4) (N := 7) hx hb hts hinX4 hown hK hP 3 rfl rfl 2 (by decide) (hts (.fieldLink RX4 41 "JoinGrants$Pool" "joinsSoFar" "I") (List.mem_of_getElem? (i := 3) rfl)) (fun _ h9 => h9) rfl dX4_copyFrom_81 ?_
              refine va_put (D := D) (ci := 4) (v := .int (O.2.1 0)) (ty := .int) (C := RX4) (T := TX4) (N := 7) hx hb hts hinX4 tyX4 tyX4_ok nmX4 hown hK hP hD hS 0 rfl rfl 2 (by decide) (hts (.fieldLink RX4 41 "JoinGrants$Pool" "joinsSoFar" "I") (List.mem_of_getElem? (i := 3) rfl)) (fun _ h9 => h9) rfl (by decide +kernel) rfl rfl (Nat.le_of_ble_eq_true rfl) dX4_copyFrom_84 (fun H locs hP hD hS => ?_)
              have hP : va_P D vwCl (twoW ck pa pb (P1.1, upd P1.2.1 0 (O.2.1 0), P1.2.2) O) H := hP
              have hD : va_D (va_A (twoW ck pa pb P O) s.heap.size) (twoW ck pa pb (P1.1, upd P1.2.1 0 (O.2.1 0), P1.2.2) O) := hD
              refine lv_aload_n hx hb dX4_copyFrom_87 rfl (lv_at hl 0 rfl) ?_
              refine lv_aload_n hx hb dX4_copyFrom_88 rfl (lv_at hl 1 rfl) ?_
              refine va_get (D := D) (ci := 4) (v := .int (O.2.1 1)) (C := RX4) (T := TX4) (N := 7) hx hb hts hinX4 hown hK hP 3 rfl rfl 3 (by decide) (hts (.fieldLink RX4 92 "JoinGrants$Pool" "mostGranted" "I") (List.mem_of_getElem? (i := 4) rfl)) (fun _ h9 => h9) rfl dX4_copyFrom_89 ?_
              refine va_put (D := D) (ci := 4) (v := .int (O.2.1 1)) (ty := .int) (C := RX4) (T := TX4) (N := 7) hx hb hts hinX4 tyX4 tyX4_ok nmX4 hown hK hP hD hS 0 rfl rfl 3 (by decide) (hts (.fieldLink RX4 92 "JoinGrants$Pool" "mostGranted" "I") (List.mem_of_getElem? (i := 4) rfl)) (fun _ h9 => h9) rfl (by decide +kernel) rfl rfl (Nat.le_of_ble_eq_true rfl) dX4_copyFrom_92 (fun H locs hP hD hS => ?_)
              have hP : va_P D vwCl (twoW ck pa pb (P1.1, upd (upd P1.2.1 0 (O.2.1 0)) 1 (O.2.1 1), P1.2.2) O) H := hP
              have hD : va_D (va_A (twoW ck pa pb P O) s.heap.size) (twoW ck pa pb (P1.1, upd (upd P1.2.1 0 (O.2.1 0)) 1 (O.2.1 1), P1.2.2) O) := hD
              refine lv_aload_n hx hb dX4_copyFrom_95 rfl (lv_at hl 0 rfl) ?_
              refine lv_aload_n hx hb dX4_copyFrom_96 rfl (lv_at hl 1 rfl) ?_
              refine va_get (D := D) (ci := 4) (v := .int (O.2.1 2)) (C := RX4) (T := TX4) (N := 7) hx hb hts hinX4 hown hK hP 3 rfl rfl 4 (by decide) (hts (.fieldLink RX4 138 "JoinGrants$Pool" "steps" "I") (List.mem_of_getElem? (i := 5) rfl)) (fun _ h9 => h9) rfl dX4_copyFrom_97 ?_
              refine va_put (D := D) (ci := 4) (v := .int (O.2.1 2)) (ty := .int) (C := RX4) (T := TX4) (N := 7) hx hb hts hinX4 tyX4 tyX4_ok nmX4 hown hK hP hD hS 0 rfl rfl 4 (by decide) (hts (.fieldLink RX4 138 "JoinGrants$Pool" "steps" "I") (List.mem_of_getElem? (i := 5) rfl)) (fun _ h9 => h9) rfl (by decide +kernel) rfl rfl (Nat.le_of_ble_eq_true rfl) dX4_copyFrom_100 (fun H locs hP hD hS => ?_)
              have hP : va_P D vwCl (twoW ck pa pb (P1.1, upd (upd (upd P1.2.1 0 (O.2.1 0)) 1 (O.2.1 1)) 2 (O.2.1 2), P1.2.2) O) H := hP
              have hD : va_D (va_A (twoW ck pa pb P O) s.heap.size) (twoW ck pa pb (P1.1, upd (upd (upd P1.2.1 0 (O.2.1 0)) 1 (O.2.1 1)) 2 (O.2.1 2), P1.2.2) O) := hD
              refine lv_aload_n hx hb dX4_copyFrom_103 rfl (lv_at hl 0 rfl) ?_
              refine lv_aload_n hx hb dX4_copyFrom_104 rfl (lv_at hl 1 rfl) ?_
              refine va_get (D := D) (ci := 4) (v := .int (O.2.1 3)) (C := RX4) (T := TX4) (N := 7) hx hb hts hinX4 hown hK hP 3 rfl rfl 5 (by decide) (hts (.fieldLink RX4 125 "JoinGrants$Pool" "workDone" "I") (List.mem_of_getElem? (i := 6) rfl)) (fun _ h9 => h9) rfl dX4_copyFrom_105 ?_
              refine va_put (D := D) (ci := 4) (v := .int (O.2.1 3)) (ty := .int) (C := RX4) (T := TX4) (N := 7) hx hb hts hinX4 tyX4 tyX4_ok nmX4 hown hK hP hD hS 0 rfl rfl 5 (by decide) (hts (.fieldLink RX4 125 "JoinGrants$Pool" "workDone" "I") (List.mem_of_getElem? (i := 6) rfl)) (fun _ h9 => h9) rfl (by decide +kernel) rfl rfl (Nat.le_of_ble_eq_true rfl) dX4_copyFrom_108 (fun H locs hP hD hS => ?_)
              have hP : va_P D vwCl (twoW ck pa pb (P1.1, upd (upd (upd (upd P1.2.1 0 (O.2.1 0)) 1 (O.2.1 1)) 2 (O.2.1 2)) 3 (O.2.1 3), P1.2.2) O) H := hP
              have hD : va_D (va_A (twoW ck pa pb P O) s.heap.size) (twoW ck pa pb (P1.1, upd (upd (upd (upd P1.2.1 0 (O.2.1 0)) 1 (O.2.1 1)) 2 (O.2.1 2)) 3 (O.2.1 3), P1.2.2) O) := hD
              refine lv_aload_n hx hb dX4_copyFrom_111 rfl (lv_at hl 0 rfl) ?_
              refine lv_aload_n hx hb dX4_copyFrom_112 rfl (lv_at hl 1 rfl) ?_
              refine va_get (D := D) (ci := 4) (v := .int (O.2.1 4)) (C := RX4) (T := TX4) (N := 7) hx hb hts hinX4 hown hK hP 3 rfl rfl 6 (by decide) (hts (.fieldLink RX4 115 "JoinGrants$Pool" "askedBack" "I") (List.mem_of_getElem? (i := 7) rfl)) (fun _ h9 => h9) rfl dX4_copyFrom_113 ?_
              refine va_put (D := D) (ci := 4) (v := .int (O.2.1 4)) (ty := .int) (C := RX4) (T := TX4) (N := 7) hx hb hts hinX4 tyX4 tyX4_ok nmX4 hown hK hP hD hS 0 rfl rfl 6 (by decide) (hts (.fieldLink RX4 115 "JoinGrants$Pool" "askedBack" "I") (List.mem_of_getElem? (i := 7) rfl)) (fun _ h9 => h9) rfl (by decide +kernel) rfl rfl (Nat.le_of_ble_eq_true rfl) dX4_copyFrom_116 (fun H locs hP hD hS => ?_)
              have hP : va_P D vwCl (twoW ck pa pb (P1.1, upd (upd (upd (upd (upd P1.2.1 0 (O.2.1 0)) 1 (O.2.1 1)) 2 (O.2.1 2)) 3 (O.2.1 3)) 4 (O.2.1 4), P1.2.2) O) H := hP
              have hD : va_D (va_A (twoW ck pa pb P O) s.heap.size) (twoW ck pa pb (P1.1, upd (upd (upd (upd (upd P1.2.1 0 (O.2.1 0)) 1 (O.2.1 1)) 2 (O.2.1 2)) 3 (O.2.1 3)) 4 (O.2.1 4), P1.2.2) O) := hD
              exact xvret hx hb hr hlk hP hD hS (congrArg (fun z => twoW ck pa pb z O) (hg.trans (show gX4_copyFrom_L40 P O 0 i P1 = (P1.1, upd (upd (upd (upd (upd P1.2.1 0 (O.2.1 0)) 1 (O.2.1 1)) 2 (O.2.1 2)) 3 (O.2.1 3)) 4 (O.2.1 4), P1.2.2) from rfl))).symm dX4_copyFrom_119
            · --f
              exact absurd (nI_le (by omega) (by omega)) c_46
          | succ f ih40 =>
            intro i P1 hif hg H locs ls hP hD hS hl
            refine lv_iload_n hx hb dX4_copyFrom_40 rfl (lv_at hl 2 rfl) ?_
            refine lv_aload_n hx hb dX4_copyFrom_41 rfl (lv_at hl 0 rfl) ?_
            refine va_get (D := D) (ci := 4) (v := .ref (pa 2)) (C := RX4) (T := TX4) (N := 7) hx hb hts hinX4 hown hK hP 0 rfl rfl 1 (by decide) (hts (.fieldLink RX4 25 "JoinGrants$Pool" "joins" "[LJoinGrants$Join;") (List.mem_of_getElem? (i := 2) rfl)) (fun _ h9 => h9) rfl dX4_copyFrom_42 ?_
            refine va_alen hx hb hK hP 2 2 rfl rfl (v := (nI 16)) rfl dX4_copyFrom_45 ?_
            refine lv_icmp_ge (tgt := 79) hx hb dX4_copyFrom_46 (by decide) (fun c_46 => ?_) (fun c_46 => ?_)
            · --t
              exact absurd c_46 (nI_ge (by omega) (by omega))
            · --f
              refine lv_iload_n hx hb dX4_copyFrom_49 rfl (lv_at hl 2 rfl) ?_
              refine lv_aload_n hx hb dX4_copyFrom_50 rfl (lv_at hl 1 rfl) ?_
              refine va_get (D := D) (ci := 4) (v := .ref (pb 2)) (C := RX4) (T := TX4) (N := 7) hx hb hts hinX4 hown hK hP 3 rfl rfl 1 (by decide) (hts (.fieldLink RX4 25 "JoinGrants$Pool" "joins" "[LJoinGrants$Join;") (List.mem_of_getElem? (i := 2) rfl)) (fun _ h9 => h9) rfl dX4_copyFrom_51 ?_
              refine va_alen hx hb hK hP 5 2 rfl rfl (v := (nI 16)) rfl dX4_copyFrom_54 ?_
              refine lv_icmp_ge (tgt := 79) hx hb dX4_copyFrom_55 (by decide) (fun c_55 => ?_) (fun c_55 => ?_)
              · --t
                exact absurd c_55 (nI_ge (by omega) (by omega))
              · --f
                refine lv_aload_n hx hb dX4_copyFrom_58 rfl (lv_at hl 0 rfl) ?_
                refine va_get (D := D) (ci := 4) (v := .ref (pa 2)) (C := RX4) (T := TX4) (N := 7) hx hb hts hinX4 hown hK hP 0 rfl rfl 1 (by decide) (hts (.fieldLink RX4 25 "JoinGrants$Pool" "joins" "[LJoinGrants$Join;") (List.mem_of_getElem? (i := 2) rfl)) (fun _ h9 => h9) rfl dX4_copyFrom_59 ?_
                refine lv_iload_n hx hb dX4_copyFrom_62 rfl (lv_at hl 2 rfl) ?_
                refine xaldq (j := i) (b := jA pa i) (nI_clamp (by omega)) hx hb hK hP 2 2 rfl rfl (vp_in_nI (by omega) (by omega)) rfl dX4_copyFrom_63 ?_
                refine lv_aload_n hx hb dX4_copyFrom_64 rfl (lv_at hl 1 rfl) ?_
                refine va_get (D := D) (ci := 4) (v := .ref (pb 2)) (C := RX4) (T := TX4) (N := 7) hx hb hts hinX4 hown hK hP 3 rfl rfl 1 (by decide) (hts (.fieldLink RX4 25 "JoinGrants$Pool" "joins" "[LJoinGrants$Join;") (List.mem_of_getElem? (i := 2) rfl)) (fun _ h9 => h9) rfl dX4_copyFrom_65 ?_
                refine lv_iload_n hx hb dX4_copyFrom_68 rfl (lv_at hl 2 rfl) ?_
                refine xaldq (j := i) (b := jA pb i) (nI_clamp (by omega)) hx hb hK hP 5 2 rfl rfl (vp_in_nI (by omega) (by omega)) rfl dX4_copyFrom_69 ?_
                refine xretv (va_runV (As := [.ref (jA pb i)]) (rest := []) ⟨hx, hb, hml, hown, hts⟩ (mX1_copyFrom l D ck (jA pa i) (qA pa i) (nI i) (jA pb i) (qA pb i) (nI i) (P1.2.2 i) (O.2.2 i) _) (cwV 1 hts gX4_copyFrom_X1_copyFrom rfl rfl rfl (by decide +kernel) ⟨Nat.le_of_ble_eq_true rfl, Nat.le_of_ble_eq_true rfl⟩) (xpreV hN hK hP hD (pm_twoj (by omega)) 0 rfl rfl rfl) rfl rfl hl.1 rfl (lv_room (Nat.le_of_ble_eq_true rfl)) dX4_copyFrom_70 ⟨Nat.le_of_ble_eq_true rfl, Nat.le_of_ble_eq_true rfl⟩) hP hD hS hA (pm_twoj (by omega)) (pm_twoj' (P := P1) (by omega)) (fun H locs hP hD hS => ?_)
                have hP : va_P D vwCl (twoW ck pa pb (P1.1, P1.2.1, va_up P1.2.2 i (gX1_copyFrom (P1.2.2 i) (O.2.2 i))) O) H := hP
                have hD : va_D (va_A (twoW ck pa pb P O) s.heap.size) (twoW ck pa pb (P1.1, P1.2.1, va_up P1.2.2 i (gX1_copyFrom (P1.2.2 i) (O.2.2 i))) O) := hD
                refine lv_iinc (v := (nI (i + 1))) (lv' := [(2, .int (nI (i + 1))), (0, .ref (pa 0)), (1, .ref (pb 0))]) hx hb dX4_copyFrom_73 hl (k := 2) rfl (nI_1 i) (by decide) rfl (fun ls hl => ?_)
                refine lv_goto (tgt := 40) hx hb dX4_copyFrom_76 (by decide) ?_
                exact ih40 (i + 1) (P1.1, P1.2.1, va_up P1.2.2 i (gX1_copyFrom (P1.2.2 i) (O.2.2 i))) (by omega) (hg.trans (show gX4_copyFrom_L40 P O (f + 1) i P1 = (gX4_copyFrom_L40 P O f (i + 1) (P1.1, P1.2.1, va_up P1.2.2 i (gX1_copyFrom (P1.2.2 i) (O.2.2 i)))) from rfl)) _ _ _ hP hD hS (lv_sub hl [1, 2, 0] rfl)
        exact loop40 16 0 P1 (by omega) (hg.trans (show gX4_copyFrom_L2 P O 0 i P1 = (gX4_copyFrom_L40 P O 16 0 P1) from rfl)) _ _ _ hP hD hS (lv_sub hl [1, 2, 0] rfl)
      · --f
        exact absurd (nI_le (by omega) (by omega)) c_8
    | succ f ih2 =>
      intro i P1 hif hg H locs ls hP hD hS hl
      refine lv_iload_n hx hb dX4_copyFrom_2 rfl (lv_at hl 2 rfl) ?_
      refine lv_aload_n hx hb dX4_copyFrom_3 rfl (lv_at hl 0 rfl) ?_
      refine va_get (D := D) (ci := 4) (v := .ref (pa 1)) (C := RX4) (T := TX4) (N := 7) hx hb hts hinX4 hown hK hP 0 rfl rfl 0 (by decide) (hts (.fieldLink RX4 20 "JoinGrants$Pool" "settings" "[I") (List.mem_of_getElem? (i := 1) rfl)) (fun _ h9 => h9) rfl dX4_copyFrom_4 ?_
      refine va_alen hx hb hK hP 1 0 rfl rfl (v := (nI 4)) rfl dX4_copyFrom_7 ?_
      refine lv_icmp_ge (tgt := 38) hx hb dX4_copyFrom_8 (by decide) (fun c_8 => ?_) (fun c_8 => ?_)
      · --t
        exact absurd c_8 (nI_ge (by omega) (by omega))
      · --f
        refine lv_iload_n hx hb dX4_copyFrom_11 rfl (lv_at hl 2 rfl) ?_
        refine lv_aload_n hx hb dX4_copyFrom_12 rfl (lv_at hl 1 rfl) ?_
        refine va_get (D := D) (ci := 4) (v := .ref (pb 1)) (C := RX4) (T := TX4) (N := 7) hx hb hts hinX4 hown hK hP 3 rfl rfl 0 (by decide) (hts (.fieldLink RX4 20 "JoinGrants$Pool" "settings" "[I") (List.mem_of_getElem? (i := 1) rfl)) (fun _ h9 => h9) rfl dX4_copyFrom_13 ?_
        refine va_alen hx hb hK hP 4 0 rfl rfl (v := (nI 4)) rfl dX4_copyFrom_16 ?_
        refine lv_icmp_ge (tgt := 38) hx hb dX4_copyFrom_17 (by decide) (fun c_17 => ?_) (fun c_17 => ?_)
        · --t
          exact absurd c_17 (nI_ge (by omega) (by omega))
        · --f
          refine lv_aload_n hx hb dX4_copyFrom_20 rfl (lv_at hl 0 rfl) ?_
          refine va_get (D := D) (ci := 4) (v := .ref (pa 1)) (C := RX4) (T := TX4) (N := 7) hx hb hts hinX4 hown hK hP 0 rfl rfl 0 (by decide) (hts (.fieldLink RX4 20 "JoinGrants$Pool" "settings" "[I") (List.mem_of_getElem? (i := 1) rfl)) (fun _ h9 => h9) rfl dX4_copyFrom_21 ?_
          refine lv_iload_n hx hb dX4_copyFrom_24 rfl (lv_at hl 2 rfl) ?_
          refine lv_aload_n hx hb dX4_copyFrom_25 rfl (lv_at hl 1 rfl) ?_
          refine va_get (D := D) (ci := 4) (v := .ref (pb 1)) (C := RX4) (T := TX4) (N := 7) hx hb hts hinX4 hown hK hP 3 rfl rfl 0 (by decide) (hts (.fieldLink RX4 20 "JoinGrants$Pool" "settings" "[I") (List.mem_of_getElem? (i := 1) rfl)) (fun _ h9 => h9) rfl dX4_copyFrom_26 ?_
          refine lv_iload_n hx hb dX4_copyFrom_29 rfl (lv_at hl 2 rfl) ?_
          refine xiald (j := i) (nI_clamp (by omega)) hx hb hK hP 4 0 rfl rfl (vp_in_nI (by omega) (by omega)) dX4_copyFrom_30 ?_
          refine xiast (j := i) (nI_clamp (by omega)) hx hb hK hP hD hS 1 0 rfl rfl (vp_in_nI (by omega) (by omega)) dX4_copyFrom_31 (fun H locs hP hD hS => ?_)
          have hP : va_P D vwCl (twoW ck pa pb (upd P1.1 i (O.1 i), P1.2.1, P1.2.2) O) H := hP
          have hD : va_D (va_A (twoW ck pa pb P O) s.heap.size) (twoW ck pa pb (upd P1.1 i (O.1 i), P1.2.1, P1.2.2) O) := hD
          refine lv_iinc (v := (nI (i + 1))) (lv' := [(2, .int (nI (i + 1))), (0, .ref (pa 0)), (1, .ref (pb 0))]) hx hb dX4_copyFrom_32 hl (k := 2) rfl (nI_1 i) (by decide) rfl (fun ls hl => ?_)
          refine lv_goto (tgt := 2) hx hb dX4_copyFrom_35 (by decide) ?_
          exact ih2 (i + 1) (upd P1.1 i (O.1 i), P1.2.1, P1.2.2) (by omega) (hg.trans (show gX4_copyFrom_L2 P O (f + 1) i P1 = (gX4_copyFrom_L2 P O f (i + 1) (upd P1.1 i (O.1 i), P1.2.1, P1.2.2)) from rfl)) _ _ _ hP hD hS (lv_sub hl [1, 2, 0] rfl)
  exact loop2 4 0 P (by omega) (show gX4_copyFrom P O = (gX4_copyFrom_L2 P O 4 0 P) from rfl) _ _ _ hP hD hS (lv_sub hl [1, 2, 0] rfl)
end
section
/-- a text and what was read from it: length, joins, place, way, left, number; the characters; the three rows -/
abbrev TS : Type := (Nat → Int32) × (Nat → Int32) × (Nat → Int32) × (Nat → Int32) × (Nat → Int32)
def textW (ck : Nat → ClassId) (ta : Nat → Nat) (T : TS) : va_W := [(ta 0, .inr (2, [.ref (ta 1), .int (T.1 0), .ref (ta 2), .ref (ta 3), .ref (ta 4), .int (T.1 1), .int (T.1 2), .int (T.1 3), .int (T.1 4), .int (T.1 5)])), (ta 1, .inl (ck 1, 60, .inl T.2.1)), (ta 2, .inl (ck 0, 12, .inl T.2.2.1)), (ta 3, .inl (ck 0, 12, .inl T.2.2.2.1)), (ta 4, .inl (ck 0, 12, .inl T.2.2.2.2))]
end
section
theorem dX2_init_0 : decode cX2_init 0 = .ok (.aload_n 0, 1) := by decide +kernel
theorem dX2_init_1 : decode cX2_init 1 = .ok (.invokespecial 1, 3) := by decide +kernel
theorem dX2_init_4 : decode cX2_init 4 = .ok (.aload_n 0, 1) := by decide +kernel
theorem dX2_init_5 : decode cX2_init 5 = .ok (.bipush 60, 2) := by decide +kernel
theorem dX2_init_7 : decode cX2_init 7 = .ok (.newarray .char, 2) := by decide +kernel
theorem dX2_init_9 : decode cX2_init 9 = .ok (.putfield 9, 3) := by decide +kernel
theorem dX2_init_12 : decode cX2_init 12 = .ok (.aload_n 0, 1) := by decide +kernel
theorem dX2_init_13 : decode cX2_init 13 = .ok (.bipush 12, 2) := by decide +kernel
theorem dX2_init_15 : decode cX2_init 15 = .ok (.newarray .int, 2) := by decide +kernel
theorem dX2_init_17 : decode cX2_init 17 = .ok (.putfield 13, 3) := by decide +kernel
theorem dX2_init_20 : decode cX2_init 20 = .ok (.aload_n 0, 1) := by decide +kernel
theorem dX2_init_21 : decode cX2_init 21 = .ok (.bipush 12, 2) := by decide +kernel
theorem dX2_init_23 : decode cX2_init 23 = .ok (.newarray .int, 2) := by decide +kernel
theorem dX2_init_25 : decode cX2_init 25 = .ok (.putfield 17, 3) := by decide +kernel
theorem dX2_init_28 : decode cX2_init 28 = .ok (.aload_n 0, 1) := by decide +kernel
theorem dX2_init_29 : decode cX2_init 29 = .ok (.bipush 12, 2) := by decide +kernel
theorem dX2_init_31 : decode cX2_init 31 = .ok (.newarray .int, 2) := by decide +kernel
theorem dX2_init_33 : decode cX2_init 33 = .ok (.putfield 20, 3) := by decide +kernel
theorem dX2_init_36 : decode cX2_init 36 = .ok (.return_, 1) := by decide +kernel
theorem dX2_append_0 : decode cX2_append 0 = .ok (.aload_n 0, 1) := by decide +kernel
theorem dX2_append_1 : decode cX2_append 1 = .ok (.getfield 23, 3) := by decide +kernel
theorem dX2_append_4 : decode cX2_append 4 = .ok (.aload_n 0, 1) := by decide +kernel
theorem dX2_append_5 : decode cX2_append 5 = .ok (.getfield 9, 3) := by decide +kernel
theorem dX2_append_8 : decode cX2_append 8 = .ok (.arraylength, 1) := by decide +kernel
theorem dX2_append_9 : decode cX2_append 9 = .ok (.if_icmp .lt 5, 3) := by decide +kernel
theorem dX2_append_12 : decode cX2_append 12 = .ok (.iconst 0, 1) := by decide +kernel
theorem dX2_append_13 : decode cX2_append 13 = .ok (.ireturn, 1) := by decide +kernel
theorem dX2_append_14 : decode cX2_append 14 = .ok (.aload_n 0, 1) := by decide +kernel
theorem dX2_append_15 : decode cX2_append 15 = .ok (.getfield 9, 3) := by decide +kernel
theorem dX2_append_18 : decode cX2_append 18 = .ok (.aload_n 0, 1) := by decide +kernel
theorem dX2_append_19 : decode cX2_append 19 = .ok (.getfield 23, 3) := by decide +kernel
theorem dX2_append_22 : decode cX2_append 22 = .ok (.iload_n 1, 1) := by decide +kernel
theorem dX2_append_23 : decode cX2_append 23 = .ok (.castore, 1) := by decide +kernel
theorem dX2_append_24 : decode cX2_append 24 = .ok (.aload_n 0, 1) := by decide +kernel
theorem dX2_append_25 : decode cX2_append 25 = .ok (.dup, 1) := by decide +kernel
theorem dX2_append_26 : decode cX2_append 26 = .ok (.getfield 23, 3) := by decide +kernel
theorem dX2_append_29 : decode cX2_append 29 = .ok (.iconst 1, 1) := by decide +kernel
theorem dX2_append_30 : decode cX2_append 30 = .ok (.iadd, 1) := by decide +kernel
theorem dX2_append_31 : decode cX2_append 31 = .ok (.putfield 23, 3) := by decide +kernel
theorem dX2_append_34 : decode cX2_append 34 = .ok (.iconst 1, 1) := by decide +kernel
theorem dX2_append_35 : decode cX2_append 35 = .ok (.ireturn, 1) := by decide +kernel
theorem dX2_clear_0 : decode cX2_clear 0 = .ok (.aload_n 0, 1) := by decide +kernel
theorem dX2_clear_1 : decode cX2_clear 1 = .ok (.iconst 0, 1) := by decide +kernel
theorem dX2_clear_2 : decode cX2_clear 2 = .ok (.putfield 23, 3) := by decide +kernel
theorem dX2_clear_5 : decode cX2_clear 5 = .ok (.return_, 1) := by decide +kernel
theorem dX2_length_0 : decode cX2_length 0 = .ok (.aload_n 0, 1) := by decide +kernel
theorem dX2_length_1 : decode cX2_length 1 = .ok (.getfield 23, 3) := by decide +kernel
theorem dX2_length_4 : decode cX2_length 4 = .ok (.ireturn, 1) := by decide +kernel
set_option maxRecDepth 20000 in
theorem ggX2_read_X2_takes : GoodIn wsX2_read wsX2_takes := goodIn_r _ [10, 2, 3, 11, 12, 13, 14, 9, 15, 16, 17, 18, 19, 20, 21, 22, 23, 24, 1, 25, 26, 27, 28, 29, 30, 31, 32, 33, 34, 35, 36, 37] (by decide +kernel) (by decide +kernel)
set_option maxRecDepth 20000 in
theorem gX2_read_X2_takes : GoodIn wsX2_read (wsV RX2 36 RX2 yX2_takes wsX2_takes) := goodIn_app (goodIn_of _ (by decide +kernel)) ggX2_read_X2_takes
set_option maxRecDepth 20000 in
theorem ggX2_read_X2_endJoin : GoodIn wsX2_read wsX2_endJoin := goodIn_r _ [24, 1, 25, 26, 27, 16, 11, 3, 2, 28, 29, 30, 31, 32, 33, 34, 35, 36, 37] (by decide +kernel) (by decide +kernel)
set_option maxRecDepth 20000 in
theorem gX2_read_X2_endJoin : GoodIn wsX2_read (wsV RX2 40 RX2 yX2_endJoin wsX2_endJoin) := goodIn_app (goodIn_of _ (by decide +kernel)) ggX2_read_X2_endJoin
theorem dX2_read_0 : decode cX2_read 0 = .ok (.aload_n 0, 1) := by decide +kernel
theorem dX2_read_1 : decode cX2_read 1 = .ok (.iconst 0, 1) := by decide +kernel
theorem dX2_read_2 : decode cX2_read 2 = .ok (.putfield 27, 3) := by decide +kernel
theorem dX2_read_5 : decode cX2_read 5 = .ok (.aload_n 0, 1) := by decide +kernel
theorem dX2_read_6 : decode cX2_read 6 = .ok (.iconst 0, 1) := by decide +kernel
theorem dX2_read_7 : decode cX2_read 7 = .ok (.putfield 30, 3) := by decide +kernel
theorem dX2_read_10 : decode cX2_read 10 = .ok (.aload_n 0, 1) := by decide +kernel
theorem dX2_read_11 : decode cX2_read 11 = .ok (.iconst 0, 1) := by decide +kernel
theorem dX2_read_12 : decode cX2_read 12 = .ok (.putfield 33, 3) := by decide +kernel
theorem dX2_read_15 : decode cX2_read 15 = .ok (.iconst 0, 1) := by decide +kernel
theorem dX2_read_16 : decode cX2_read 16 = .ok (.istore_n 1, 1) := by decide +kernel
theorem dX2_read_17 : decode cX2_read 17 = .ok (.iload_n 1, 1) := by decide +kernel
theorem dX2_read_18 : decode cX2_read 18 = .ok (.aload_n 0, 1) := by decide +kernel
theorem dX2_read_19 : decode cX2_read 19 = .ok (.getfield 23, 3) := by decide +kernel
theorem dX2_read_22 : decode cX2_read 22 = .ok (.if_icmp .ge 33, 3) := by decide +kernel
theorem dX2_read_25 : decode cX2_read 25 = .ok (.iload_n 1, 1) := by decide +kernel
theorem dX2_read_26 : decode cX2_read 26 = .ok (.aload_n 0, 1) := by decide +kernel
theorem dX2_read_27 : decode cX2_read 27 = .ok (.getfield 9, 3) := by decide +kernel
theorem dX2_read_30 : decode cX2_read 30 = .ok (.arraylength, 1) := by decide +kernel
theorem dX2_read_31 : decode cX2_read 31 = .ok (.if_icmp .ge 24, 3) := by decide +kernel
theorem dX2_read_34 : decode cX2_read 34 = .ok (.aload_n 0, 1) := by decide +kernel
theorem dX2_read_35 : decode cX2_read 35 = .ok (.aload_n 0, 1) := by decide +kernel
theorem dX2_read_36 : decode cX2_read 36 = .ok (.getfield 9, 3) := by decide +kernel
theorem dX2_read_39 : decode cX2_read 39 = .ok (.iload_n 1, 1) := by decide +kernel
theorem dX2_read_40 : decode cX2_read 40 = .ok (.caload, 1) := by decide +kernel
theorem dX2_read_41 : decode cX2_read 41 = .ok (.invokevirtual 36, 3) := by decide +kernel
theorem dX2_read_44 : decode cX2_read 44 = .ok (.ifCond .ne 5, 3) := by decide +kernel
theorem dX2_read_47 : decode cX2_read 47 = .ok (.iload_n 1, 1) := by decide +kernel
theorem dX2_read_48 : decode cX2_read 48 = .ok (.ireturn, 1) := by decide +kernel
theorem dX2_read_49 : decode cX2_read 49 = .ok (.iinc 1 1, 3) := by decide +kernel
theorem dX2_read_52 : decode cX2_read 52 = .ok (.goto (-35), 3) := by decide +kernel
theorem dX2_read_55 : decode cX2_read 55 = .ok (.aload_n 0, 1) := by decide +kernel
theorem dX2_read_56 : decode cX2_read 56 = .ok (.getfield 30, 3) := by decide +kernel
theorem dX2_read_59 : decode cX2_read 59 = .ok (.iconst 2, 1) := by decide +kernel
theorem dX2_read_60 : decode cX2_read 60 = .ok (.if_icmp .ne 10, 3) := by decide +kernel
theorem dX2_read_63 : decode cX2_read 63 = .ok (.aload_n 0, 1) := by decide +kernel
theorem dX2_read_64 : decode cX2_read 64 = .ok (.getfield 33, 3) := by decide +kernel
theorem dX2_read_67 : decode cX2_read 67 = .ok (.ifCond .ne 8, 3) := by decide +kernel
theorem dX2_read_70 : decode cX2_read 70 = .ok (.aload_n 0, 1) := by decide +kernel
theorem dX2_read_71 : decode cX2_read 71 = .ok (.getfield 23, 3) := by decide +kernel
theorem dX2_read_74 : decode cX2_read 74 = .ok (.ireturn, 1) := by decide +kernel
theorem dX2_read_75 : decode cX2_read 75 = .ok (.aload_n 0, 1) := by decide +kernel
theorem dX2_read_76 : decode cX2_read 76 = .ok (.invokevirtual 40, 3) := by decide +kernel
theorem dX2_read_79 : decode cX2_read 79 = .ok (.iconst (-1), 1) := by decide +kernel
theorem dX2_read_80 : decode cX2_read 80 = .ok (.ireturn, 1) := by decide +kernel
set_option maxRecDepth 20000 in
theorem ggX2_takes_X2_takesWay : GoodIn wsX2_takes wsX2_takesWay := goodIn_r _ [8, 9, 1, 22, 23, 24, 25, 26, 27, 28, 29, 30, 31] (by decide +kernel) (by decide +kernel)
set_option maxRecDepth 20000 in
theorem gX2_takes_X2_takesWay : GoodIn wsX2_takes (wsV RX2 43 RX2 yX2_takesWay wsX2_takesWay) := goodIn_app (goodIn_of _ (by decide +kernel)) ggX2_takes_X2_takesWay
set_option maxRecDepth 20000 in
theorem ggX2_takes_X2_takesDigit : GoodIn wsX2_takes wsX2_takesDigit := goodIn_r _ [13, 2, 22, 23, 24, 25, 26, 27, 28, 29, 30, 31] (by decide +kernel) (by decide +kernel)
set_option maxRecDepth 20000 in
theorem gX2_takes_X2_takesDigit : GoodIn wsX2_takes (wsV RX2 46 RX2 yX2_takesDigit wsX2_takesDigit) := goodIn_app (goodIn_of _ (by decide +kernel)) ggX2_takes_X2_takesDigit
set_option maxRecDepth 20000 in
theorem ggX2_takes_X2_endJoin : GoodIn wsX2_takes wsX2_endJoin := goodIn_r _ [17, 18, 19, 20, 21, 9, 3, 2, 1, 22, 23, 24, 25, 26, 27, 28, 29, 30, 31] (by decide +kernel) (by decide +kernel)
set_option maxRecDepth 20000 in
theorem gX2_takes_X2_endJoin : GoodIn wsX2_takes (wsV RX2 40 RX2 yX2_endJoin wsX2_endJoin) := goodIn_app (goodIn_of _ (by decide +kernel)) ggX2_takes_X2_endJoin
theorem dX2_takes_0 : decode cX2_takes 0 = .ok (.aload_n 0, 1) := by decide +kernel
theorem dX2_takes_1 : decode cX2_takes 1 = .ok (.getfield 30, 3) := by decide +kernel
theorem dX2_takes_4 : decode cX2_takes 4 = .ok (.ifCond .ne 9, 3) := by decide +kernel
theorem dX2_takes_7 : decode cX2_takes 7 = .ok (.aload_n 0, 1) := by decide +kernel
theorem dX2_takes_8 : decode cX2_takes 8 = .ok (.iload_n 1, 1) := by decide +kernel
theorem dX2_takes_9 : decode cX2_takes 9 = .ok (.invokevirtual 43, 3) := by decide +kernel
theorem dX2_takes_12 : decode cX2_takes 12 = .ok (.ireturn, 1) := by decide +kernel
theorem dX2_takes_13 : decode cX2_takes 13 = .ok (.iload_n 1, 1) := by decide +kernel
theorem dX2_takes_14 : decode cX2_takes 14 = .ok (.bipush 48, 2) := by decide +kernel
theorem dX2_takes_16 : decode cX2_takes 16 = .ok (.if_icmp .lt 18, 3) := by decide +kernel
theorem dX2_takes_19 : decode cX2_takes 19 = .ok (.iload_n 1, 1) := by decide +kernel
theorem dX2_takes_20 : decode cX2_takes 20 = .ok (.bipush 57, 2) := by decide +kernel
theorem dX2_takes_22 : decode cX2_takes 22 = .ok (.if_icmp .gt 12, 3) := by decide +kernel
theorem dX2_takes_25 : decode cX2_takes 25 = .ok (.aload_n 0, 1) := by decide +kernel
theorem dX2_takes_26 : decode cX2_takes 26 = .ok (.iload_n 1, 1) := by decide +kernel
theorem dX2_takes_27 : decode cX2_takes 27 = .ok (.bipush 48, 2) := by decide +kernel
theorem dX2_takes_29 : decode cX2_takes 29 = .ok (.isub, 1) := by decide +kernel
theorem dX2_takes_30 : decode cX2_takes 30 = .ok (.invokevirtual 46, 3) := by decide +kernel
theorem dX2_takes_33 : decode cX2_takes 33 = .ok (.ireturn, 1) := by decide +kernel
theorem dX2_takes_34 : decode cX2_takes 34 = .ok (.aload_n 0, 1) := by decide +kernel
theorem dX2_takes_35 : decode cX2_takes 35 = .ok (.getfield 33, 3) := by decide +kernel
theorem dX2_takes_38 : decode cX2_takes 38 = .ok (.ifCond .ne 5, 3) := by decide +kernel
theorem dX2_takes_41 : decode cX2_takes 41 = .ok (.iconst 0, 1) := by decide +kernel
theorem dX2_takes_42 : decode cX2_takes 42 = .ok (.ireturn, 1) := by decide +kernel
theorem dX2_takes_43 : decode cX2_takes 43 = .ok (.aload_n 0, 1) := by decide +kernel
theorem dX2_takes_44 : decode cX2_takes 44 = .ok (.getfield 30, 3) := by decide +kernel
theorem dX2_takes_47 : decode cX2_takes 47 = .ok (.iconst 1, 1) := by decide +kernel
theorem dX2_takes_48 : decode cX2_takes 48 = .ok (.if_icmp .ne 29, 3) := by decide +kernel
theorem dX2_takes_51 : decode cX2_takes 51 = .ok (.iload_n 1, 1) := by decide +kernel
theorem dX2_takes_52 : decode cX2_takes 52 = .ok (.bipush 120, 2) := by decide +kernel
theorem dX2_takes_54 : decode cX2_takes 54 = .ok (.if_icmp .ne 23, 3) := by decide +kernel
theorem dX2_takes_57 : decode cX2_takes 57 = .ok (.aload_n 0, 1) := by decide +kernel
theorem dX2_takes_58 : decode cX2_takes 58 = .ok (.aload_n 0, 1) := by decide +kernel
theorem dX2_takes_59 : decode cX2_takes 59 = .ok (.getfield 33, 3) := by decide +kernel
theorem dX2_takes_62 : decode cX2_takes 62 = .ok (.putfield 50, 3) := by decide +kernel
theorem dX2_takes_65 : decode cX2_takes 65 = .ok (.aload_n 0, 1) := by decide +kernel
theorem dX2_takes_66 : decode cX2_takes 66 = .ok (.iconst 0, 1) := by decide +kernel
theorem dX2_takes_67 : decode cX2_takes 67 = .ok (.putfield 33, 3) := by decide +kernel
theorem dX2_takes_70 : decode cX2_takes 70 = .ok (.aload_n 0, 1) := by decide +kernel
theorem dX2_takes_71 : decode cX2_takes 71 = .ok (.iconst 2, 1) := by decide +kernel
theorem dX2_takes_72 : decode cX2_takes 72 = .ok (.putfield 30, 3) := by decide +kernel
theorem dX2_takes_75 : decode cX2_takes 75 = .ok (.iconst 1, 1) := by decide +kernel
theorem dX2_takes_76 : decode cX2_takes 76 = .ok (.ireturn, 1) := by decide +kernel
theorem dX2_takes_77 : decode cX2_takes 77 = .ok (.aload_n 0, 1) := by decide +kernel
theorem dX2_takes_78 : decode cX2_takes 78 = .ok (.getfield 30, 3) := by decide +kernel
theorem dX2_takes_81 : decode cX2_takes 81 = .ok (.iconst 2, 1) := by decide +kernel
theorem dX2_takes_82 : decode cX2_takes 82 = .ok (.if_icmp .ne 15, 3) := by decide +kernel
theorem dX2_takes_85 : decode cX2_takes 85 = .ok (.iload_n 1, 1) := by decide +kernel
theorem dX2_takes_86 : decode cX2_takes 86 = .ok (.bipush 44, 2) := by decide +kernel
theorem dX2_takes_88 : decode cX2_takes 88 = .ok (.if_icmp .ne 9, 3) := by decide +kernel
theorem dX2_takes_91 : decode cX2_takes 91 = .ok (.aload_n 0, 1) := by decide +kernel
theorem dX2_takes_92 : decode cX2_takes 92 = .ok (.invokevirtual 40, 3) := by decide +kernel
theorem dX2_takes_95 : decode cX2_takes 95 = .ok (.iconst 1, 1) := by decide +kernel
theorem dX2_takes_96 : decode cX2_takes 96 = .ok (.ireturn, 1) := by decide +kernel
theorem dX2_takes_97 : decode cX2_takes 97 = .ok (.iconst 0, 1) := by decide +kernel
theorem dX2_takes_98 : decode cX2_takes 98 = .ok (.ireturn, 1) := by decide +kernel
theorem dX2_takesWay_0 : decode cX2_takesWay 0 = .ok (.iload_n 1, 1) := by decide +kernel
theorem dX2_takesWay_1 : decode cX2_takesWay 1 = .ok (.bipush 108, 2) := by decide +kernel
theorem dX2_takesWay_3 : decode cX2_takesWay 3 = .ok (.if_icmp .ne 11, 3) := by decide +kernel
theorem dX2_takesWay_6 : decode cX2_takesWay 6 = .ok (.aload_n 0, 1) := by decide +kernel
theorem dX2_takesWay_7 : decode cX2_takesWay 7 = .ok (.iconst 0, 1) := by decide +kernel
theorem dX2_takesWay_8 : decode cX2_takesWay 8 = .ok (.putfield 55, 3) := by decide +kernel
theorem dX2_takesWay_11 : decode cX2_takesWay 11 = .ok (.goto 33, 3) := by decide +kernel
theorem dX2_takesWay_14 : decode cX2_takesWay 14 = .ok (.iload_n 1, 1) := by decide +kernel
theorem dX2_takesWay_15 : decode cX2_takesWay 15 = .ok (.bipush 98, 2) := by decide +kernel
theorem dX2_takesWay_17 : decode cX2_takesWay 17 = .ok (.if_icmp .ne 11, 3) := by decide +kernel
theorem dX2_takesWay_20 : decode cX2_takesWay 20 = .ok (.aload_n 0, 1) := by decide +kernel
theorem dX2_takesWay_21 : decode cX2_takesWay 21 = .ok (.iconst 1, 1) := by decide +kernel
theorem dX2_takesWay_22 : decode cX2_takesWay 22 = .ok (.putfield 55, 3) := by decide +kernel
theorem dX2_takesWay_25 : decode cX2_takesWay 25 = .ok (.goto 19, 3) := by decide +kernel
theorem dX2_takesWay_28 : decode cX2_takesWay 28 = .ok (.iload_n 1, 1) := by decide +kernel
theorem dX2_takesWay_29 : decode cX2_takesWay 29 = .ok (.bipush 109, 2) := by decide +kernel
theorem dX2_takesWay_31 : decode cX2_takesWay 31 = .ok (.if_icmp .ne 11, 3) := by decide +kernel
theorem dX2_takesWay_34 : decode cX2_takesWay 34 = .ok (.aload_n 0, 1) := by decide +kernel
theorem dX2_takesWay_35 : decode cX2_takesWay 35 = .ok (.iconst 2, 1) := by decide +kernel
theorem dX2_takesWay_36 : decode cX2_takesWay 36 = .ok (.putfield 55, 3) := by decide +kernel
theorem dX2_takesWay_39 : decode cX2_takesWay 39 = .ok (.goto 5, 3) := by decide +kernel
theorem dX2_takesWay_42 : decode cX2_takesWay 42 = .ok (.iconst 0, 1) := by decide +kernel
theorem dX2_takesWay_43 : decode cX2_takesWay 43 = .ok (.ireturn, 1) := by decide +kernel
theorem dX2_takesWay_44 : decode cX2_takesWay 44 = .ok (.aload_n 0, 1) := by decide +kernel
theorem dX2_takesWay_45 : decode cX2_takesWay 45 = .ok (.iconst 1, 1) := by decide +kernel
theorem dX2_takesWay_46 : decode cX2_takesWay 46 = .ok (.putfield 30, 3) := by decide +kernel
theorem dX2_takesWay_49 : decode cX2_takesWay 49 = .ok (.iconst 1, 1) := by decide +kernel
theorem dX2_takesWay_50 : decode cX2_takesWay 50 = .ok (.ireturn, 1) := by decide +kernel
theorem dX2_takesDigit_0 : decode cX2_takesDigit 0 = .ok (.aload_n 0, 1) := by decide +kernel
theorem dX2_takesDigit_1 : decode cX2_takesDigit 1 = .ok (.getfield 33, 3) := by decide +kernel
theorem dX2_takesDigit_4 : decode cX2_takesDigit 4 = .ok (.bipush 10, 2) := by decide +kernel
theorem dX2_takesDigit_6 : decode cX2_takesDigit 6 = .ok (.imul, 1) := by decide +kernel
theorem dX2_takesDigit_7 : decode cX2_takesDigit 7 = .ok (.iload_n 1, 1) := by decide +kernel
theorem dX2_takesDigit_8 : decode cX2_takesDigit 8 = .ok (.iadd, 1) := by decide +kernel
theorem dX2_takesDigit_9 : decode cX2_takesDigit 9 = .ok (.istore_n 2, 1) := by decide +kernel
theorem dX2_takesDigit_10 : decode cX2_takesDigit 10 = .ok (.iload_n 2, 1) := by decide +kernel
theorem dX2_takesDigit_11 : decode cX2_takesDigit 11 = .ok (.ifCond .eq 10, 3) := by decide +kernel
theorem dX2_takesDigit_14 : decode cX2_takesDigit 14 = .ok (.iload_n 2, 1) := by decide +kernel
theorem dX2_takesDigit_15 : decode cX2_takesDigit 15 = .ok (.sipush 200, 3) := by decide +kernel
theorem dX2_takesDigit_18 : decode cX2_takesDigit 18 = .ok (.if_icmp .le 5, 3) := by decide +kernel
theorem dX2_takesDigit_21 : decode cX2_takesDigit 21 = .ok (.iconst 0, 1) := by decide +kernel
theorem dX2_takesDigit_22 : decode cX2_takesDigit 22 = .ok (.ireturn, 1) := by decide +kernel
theorem dX2_takesDigit_23 : decode cX2_takesDigit 23 = .ok (.aload_n 0, 1) := by decide +kernel
theorem dX2_takesDigit_24 : decode cX2_takesDigit 24 = .ok (.iload_n 2, 1) := by decide +kernel
theorem dX2_takesDigit_25 : decode cX2_takesDigit 25 = .ok (.putfield 33, 3) := by decide +kernel
theorem dX2_takesDigit_28 : decode cX2_takesDigit 28 = .ok (.iconst 1, 1) := by decide +kernel
theorem dX2_takesDigit_29 : decode cX2_takesDigit 29 = .ok (.ireturn, 1) := by decide +kernel
theorem dX2_endJoin_0 : decode cX2_endJoin 0 = .ok (.aload_n 0, 1) := by decide +kernel
theorem dX2_endJoin_1 : decode cX2_endJoin 1 = .ok (.getfield 27, 3) := by decide +kernel
theorem dX2_endJoin_4 : decode cX2_endJoin 4 = .ok (.aload_n 0, 1) := by decide +kernel
theorem dX2_endJoin_5 : decode cX2_endJoin 5 = .ok (.getfield 13, 3) := by decide +kernel
theorem dX2_endJoin_8 : decode cX2_endJoin 8 = .ok (.arraylength, 1) := by decide +kernel
theorem dX2_endJoin_9 : decode cX2_endJoin 9 = .ok (.if_icmp .ge 76, 3) := by decide +kernel
theorem dX2_endJoin_12 : decode cX2_endJoin 12 = .ok (.aload_n 0, 1) := by decide +kernel
theorem dX2_endJoin_13 : decode cX2_endJoin 13 = .ok (.getfield 27, 3) := by decide +kernel
theorem dX2_endJoin_16 : decode cX2_endJoin 16 = .ok (.aload_n 0, 1) := by decide +kernel
theorem dX2_endJoin_17 : decode cX2_endJoin 17 = .ok (.getfield 17, 3) := by decide +kernel
theorem dX2_endJoin_20 : decode cX2_endJoin 20 = .ok (.arraylength, 1) := by decide +kernel
theorem dX2_endJoin_21 : decode cX2_endJoin 21 = .ok (.if_icmp .ge 64, 3) := by decide +kernel
theorem dX2_endJoin_24 : decode cX2_endJoin 24 = .ok (.aload_n 0, 1) := by decide +kernel
theorem dX2_endJoin_25 : decode cX2_endJoin 25 = .ok (.getfield 27, 3) := by decide +kernel
theorem dX2_endJoin_28 : decode cX2_endJoin 28 = .ok (.aload_n 0, 1) := by decide +kernel
theorem dX2_endJoin_29 : decode cX2_endJoin 29 = .ok (.getfield 20, 3) := by decide +kernel
theorem dX2_endJoin_32 : decode cX2_endJoin 32 = .ok (.arraylength, 1) := by decide +kernel
theorem dX2_endJoin_33 : decode cX2_endJoin 33 = .ok (.if_icmp .ge 52, 3) := by decide +kernel
theorem dX2_endJoin_36 : decode cX2_endJoin 36 = .ok (.aload_n 0, 1) := by decide +kernel
theorem dX2_endJoin_37 : decode cX2_endJoin 37 = .ok (.getfield 13, 3) := by decide +kernel
theorem dX2_endJoin_40 : decode cX2_endJoin 40 = .ok (.aload_n 0, 1) := by decide +kernel
theorem dX2_endJoin_41 : decode cX2_endJoin 41 = .ok (.getfield 27, 3) := by decide +kernel
theorem dX2_endJoin_44 : decode cX2_endJoin 44 = .ok (.aload_n 0, 1) := by decide +kernel
theorem dX2_endJoin_45 : decode cX2_endJoin 45 = .ok (.getfield 55, 3) := by decide +kernel
theorem dX2_endJoin_48 : decode cX2_endJoin 48 = .ok (.iastore, 1) := by decide +kernel
theorem dX2_endJoin_49 : decode cX2_endJoin 49 = .ok (.aload_n 0, 1) := by decide +kernel
theorem dX2_endJoin_50 : decode cX2_endJoin 50 = .ok (.getfield 17, 3) := by decide +kernel
theorem dX2_endJoin_53 : decode cX2_endJoin 53 = .ok (.aload_n 0, 1) := by decide +kernel
theorem dX2_endJoin_54 : decode cX2_endJoin 54 = .ok (.getfield 27, 3) := by decide +kernel
theorem dX2_endJoin_57 : decode cX2_endJoin 57 = .ok (.aload_n 0, 1) := by decide +kernel
theorem dX2_endJoin_58 : decode cX2_endJoin 58 = .ok (.getfield 50, 3) := by decide +kernel
theorem dX2_endJoin_61 : decode cX2_endJoin 61 = .ok (.iastore, 1) := by decide +kernel
theorem dX2_endJoin_62 : decode cX2_endJoin 62 = .ok (.aload_n 0, 1) := by decide +kernel
theorem dX2_endJoin_63 : decode cX2_endJoin 63 = .ok (.getfield 20, 3) := by decide +kernel
theorem dX2_endJoin_66 : decode cX2_endJoin 66 = .ok (.aload_n 0, 1) := by decide +kernel
theorem dX2_endJoin_67 : decode cX2_endJoin 67 = .ok (.getfield 27, 3) := by decide +kernel
theorem dX2_endJoin_70 : decode cX2_endJoin 70 = .ok (.aload_n 0, 1) := by decide +kernel
theorem dX2_endJoin_71 : decode cX2_endJoin 71 = .ok (.getfield 33, 3) := by decide +kernel
theorem dX2_endJoin_74 : decode cX2_endJoin 74 = .ok (.iastore, 1) := by decide +kernel
theorem dX2_endJoin_75 : decode cX2_endJoin 75 = .ok (.aload_n 0, 1) := by decide +kernel
theorem dX2_endJoin_76 : decode cX2_endJoin 76 = .ok (.dup, 1) := by decide +kernel
theorem dX2_endJoin_77 : decode cX2_endJoin 77 = .ok (.getfield 27, 3) := by decide +kernel
theorem dX2_endJoin_80 : decode cX2_endJoin 80 = .ok (.iconst 1, 1) := by decide +kernel
theorem dX2_endJoin_81 : decode cX2_endJoin 81 = .ok (.iadd, 1) := by decide +kernel
theorem dX2_endJoin_82 : decode cX2_endJoin 82 = .ok (.putfield 27, 3) := by decide +kernel
theorem dX2_endJoin_85 : decode cX2_endJoin 85 = .ok (.aload_n 0, 1) := by decide +kernel
theorem dX2_endJoin_86 : decode cX2_endJoin 86 = .ok (.iconst 0, 1) := by decide +kernel
theorem dX2_endJoin_87 : decode cX2_endJoin 87 = .ok (.putfield 33, 3) := by decide +kernel
theorem dX2_endJoin_90 : decode cX2_endJoin 90 = .ok (.aload_n 0, 1) := by decide +kernel
theorem dX2_endJoin_91 : decode cX2_endJoin 91 = .ok (.iconst 0, 1) := by decide +kernel
theorem dX2_endJoin_92 : decode cX2_endJoin 92 = .ok (.putfield 30, 3) := by decide +kernel
theorem dX2_endJoin_95 : decode cX2_endJoin 95 = .ok (.return_, 1) := by decide +kernel
theorem dX2_joins_0 : decode cX2_joins 0 = .ok (.aload_n 0, 1) := by decide +kernel
theorem dX2_joins_1 : decode cX2_joins 1 = .ok (.getfield 27, 3) := by decide +kernel
theorem dX2_joins_4 : decode cX2_joins 4 = .ok (.ireturn, 1) := by decide +kernel
theorem dX2_wayOf_0 : decode cX2_wayOf 0 = .ok (.iload_n 1, 1) := by decide +kernel
theorem dX2_wayOf_1 : decode cX2_wayOf 1 = .ok (.ifCond .lt 21, 3) := by decide +kernel
theorem dX2_wayOf_4 : decode cX2_wayOf 4 = .ok (.iload_n 1, 1) := by decide +kernel
theorem dX2_wayOf_5 : decode cX2_wayOf 5 = .ok (.aload_n 0, 1) := by decide +kernel
theorem dX2_wayOf_6 : decode cX2_wayOf 6 = .ok (.getfield 13, 3) := by decide +kernel
theorem dX2_wayOf_9 : decode cX2_wayOf 9 = .ok (.arraylength, 1) := by decide +kernel
theorem dX2_wayOf_10 : decode cX2_wayOf 10 = .ok (.if_icmp .ge 12, 3) := by decide +kernel
theorem dX2_wayOf_13 : decode cX2_wayOf 13 = .ok (.aload_n 0, 1) := by decide +kernel
theorem dX2_wayOf_14 : decode cX2_wayOf 14 = .ok (.getfield 13, 3) := by decide +kernel
theorem dX2_wayOf_17 : decode cX2_wayOf 17 = .ok (.iload_n 1, 1) := by decide +kernel
theorem dX2_wayOf_18 : decode cX2_wayOf 18 = .ok (.iaload, 1) := by decide +kernel
theorem dX2_wayOf_19 : decode cX2_wayOf 19 = .ok (.goto 4, 3) := by decide +kernel
theorem dX2_wayOf_22 : decode cX2_wayOf 22 = .ok (.iconst 0, 1) := by decide +kernel
theorem dX2_wayOf_23 : decode cX2_wayOf 23 = .ok (.ireturn, 1) := by decide +kernel
theorem dX2_leftOf_0 : decode cX2_leftOf 0 = .ok (.iload_n 1, 1) := by decide +kernel
theorem dX2_leftOf_1 : decode cX2_leftOf 1 = .ok (.ifCond .lt 21, 3) := by decide +kernel
theorem dX2_leftOf_4 : decode cX2_leftOf 4 = .ok (.iload_n 1, 1) := by decide +kernel
theorem dX2_leftOf_5 : decode cX2_leftOf 5 = .ok (.aload_n 0, 1) := by decide +kernel
theorem dX2_leftOf_6 : decode cX2_leftOf 6 = .ok (.getfield 17, 3) := by decide +kernel
theorem dX2_leftOf_9 : decode cX2_leftOf 9 = .ok (.arraylength, 1) := by decide +kernel
theorem dX2_leftOf_10 : decode cX2_leftOf 10 = .ok (.if_icmp .ge 12, 3) := by decide +kernel
theorem dX2_leftOf_13 : decode cX2_leftOf 13 = .ok (.aload_n 0, 1) := by decide +kernel
theorem dX2_leftOf_14 : decode cX2_leftOf 14 = .ok (.getfield 17, 3) := by decide +kernel
theorem dX2_leftOf_17 : decode cX2_leftOf 17 = .ok (.iload_n 1, 1) := by decide +kernel
theorem dX2_leftOf_18 : decode cX2_leftOf 18 = .ok (.iaload, 1) := by decide +kernel
theorem dX2_leftOf_19 : decode cX2_leftOf 19 = .ok (.goto 4, 3) := by decide +kernel
theorem dX2_leftOf_22 : decode cX2_leftOf 22 = .ok (.iconst 0, 1) := by decide +kernel
theorem dX2_leftOf_23 : decode cX2_leftOf 23 = .ok (.ireturn, 1) := by decide +kernel
theorem dX2_rightOf_0 : decode cX2_rightOf 0 = .ok (.iload_n 1, 1) := by decide +kernel
theorem dX2_rightOf_1 : decode cX2_rightOf 1 = .ok (.ifCond .lt 21, 3) := by decide +kernel
theorem dX2_rightOf_4 : decode cX2_rightOf 4 = .ok (.iload_n 1, 1) := by decide +kernel
theorem dX2_rightOf_5 : decode cX2_rightOf 5 = .ok (.aload_n 0, 1) := by decide +kernel
theorem dX2_rightOf_6 : decode cX2_rightOf 6 = .ok (.getfield 20, 3) := by decide +kernel
theorem dX2_rightOf_9 : decode cX2_rightOf 9 = .ok (.arraylength, 1) := by decide +kernel
theorem dX2_rightOf_10 : decode cX2_rightOf 10 = .ok (.if_icmp .ge 12, 3) := by decide +kernel
theorem dX2_rightOf_13 : decode cX2_rightOf 13 = .ok (.aload_n 0, 1) := by decide +kernel
theorem dX2_rightOf_14 : decode cX2_rightOf 14 = .ok (.getfield 20, 3) := by decide +kernel
theorem dX2_rightOf_17 : decode cX2_rightOf 17 = .ok (.iload_n 1, 1) := by decide +kernel
theorem dX2_rightOf_18 : decode cX2_rightOf 18 = .ok (.iaload, 1) := by decide +kernel
theorem dX2_rightOf_19 : decode cX2_rightOf 19 = .ok (.goto 4, 3) := by decide +kernel
theorem dX2_rightOf_22 : decode cX2_rightOf 22 = .ok (.iconst 0, 1) := by decide +kernel
theorem dX2_rightOf_23 : decode cX2_rightOf 23 = .ok (.ireturn, 1) := by decide +kernel
end
section
def rmX2_append : Room := { frames := 0, cells := 0, slots := 0, locals := 0 }
def gX2_append (T : TS) (a1 : Int32) : Int32 × TS := (if (T.1 0) < (nI 60) then (1, (upd T.1 0 ((T.1 0) + 1), upd T.2.1 ((T.1 0).toNatClampNeg) (vp_nar .char a1), T.2.2.1, T.2.2.2.1, T.2.2.2.2)) else (0, T))
set_option maxHeartbeats 4000000 in
set_option maxRecDepth 100000 in
theorem mX2_append (l : Launch) (D : va_G) (ck : Nat → ClassId) (ta : Nat → Nat) (T : TS) (a1 : Int32) (hl0 : ¬ T.1 0 < 0) : xMi l yX2_append wsX2_append rmX2_append D ck [.ref (ta 0), .int a1] (textW ck ta T) (textW ck ta ((gX2_append T a1).2)) ((gX2_append T a1).1) 0 0 := by
  refine xMet (by decide) rfl (Nat.le_of_ble_eq_true rfl) ?_
  intro zp ze s zm zb zt zc hx hb hr hml hown hts hlk hnm hN hK hP hD ls hl
  have hown : s.vm.findClass RX2 = some zm.cls := hown
  have hl : lv_has ls 2 [(0, .ref (ta 0)), (1, .int a1)] := hl
  have hS : va_S (va_A (textW ck ta T) s.heap.size) s.heap s.heap [] := va_S.rf
  have hA : ∀ zq : Nat, s.heap.size ≤ zq → va_A (textW ck ta T) s.heap.size zq := fun zq h => Or.inr h
  have hinX2 : ∀ w ∈ u_ws RX2 TX2 10, w ∈ wsX2_append := by decide +kernel
  refine lv_aload_n hx hb dX2_append_0 rfl (lv_at hl 0 rfl) ?_
  refine va_get (D := D) (ci := 2) (v := .int (T.1 0)) (C := RX2) (T := TX2) (N := 10) hx hb hts hinX2 hown hK hP 0 rfl rfl 1 (by decide) (hts (.fieldLink RX2 23 "JoinGrants$JoinText" "length" "I") (List.mem_of_getElem? (i := 1) rfl)) (fun _ h9 => h9) rfl dX2_append_1 ?_
  refine lv_aload_n hx hb dX2_append_4 rfl (lv_at hl 0 rfl) ?_
  refine va_get (D := D) (ci := 2) (v := .ref (ta 1)) (C := RX2) (T := TX2) (N := 10) hx hb hts hinX2 hown hK hP 0 rfl rfl 0 (by decide) (hts (.fieldLink RX2 9 "JoinGrants$JoinText" "characters" "[C") (List.mem_of_getElem? (i := 2) rfl)) (fun _ h9 => h9) rfl dX2_append_5 ?_
  refine va_alen hx hb hK hP 1 1 rfl rfl (v := (nI 60)) rfl dX2_append_8 ?_
  refine lv_icmp_lt (tgt := 14) hx hb dX2_append_9 (by decide) (fun c_9 => ?_) (fun c_9 => ?_)
  · --t
    refine lv_aload_n hx hb dX2_append_14 rfl (lv_at hl 0 rfl) ?_
    refine va_get (D := D) (ci := 2) (v := .ref (ta 1)) (C := RX2) (T := TX2) (N := 10) hx hb hts hinX2 hown hK hP 0 rfl rfl 0 (by decide) (hts (.fieldLink RX2 9 "JoinGrants$JoinText" "characters" "[C") (List.mem_of_getElem? (i := 2) rfl)) (fun _ h9 => h9) rfl dX2_append_15 ?_
    refine lv_aload_n hx hb dX2_append_18 rfl (lv_at hl 0 rfl) ?_
    refine va_get (D := D) (ci := 2) (v := .int (T.1 0)) (C := RX2) (T := TX2) (N := 10) hx hb hts hinX2 hown hK hP 0 rfl rfl 1 (by decide) (hts (.fieldLink RX2 23 "JoinGrants$JoinText" "length" "I") (List.mem_of_getElem? (i := 1) rfl)) (fun _ h9 => h9) rfl dX2_append_19 ?_
    refine lv_iload_n hx hb dX2_append_22 rfl (lv_at hl 1 rfl) ?_
    refine va_cast hx hb hK hP hD hS 1 1 rfl rfl (xin_g' (by decide) hl0 c_9) dX2_append_23 (fun H locs hP hD hS => ?_)
    have hP : va_P D vwCl (textW ck ta (T.1, upd T.2.1 ((T.1 0).toNatClampNeg) (vp_nar .char a1), T.2.2.1, T.2.2.2.1, T.2.2.2.2)) H := hP
    have hD : va_D (va_A (textW ck ta T) s.heap.size) (textW ck ta (T.1, upd T.2.1 ((T.1 0).toNatClampNeg) (vp_nar .char a1), T.2.2.1, T.2.2.2.1, T.2.2.2.2)) := hD
    refine lv_aload_n hx hb dX2_append_24 rfl (lv_at hl 0 rfl) ?_
    refine lv_dup hx hb dX2_append_25 rfl ?_
    refine va_get (D := D) (ci := 2) (v := .int (T.1 0)) (C := RX2) (T := TX2) (N := 10) hx hb hts hinX2 hown hK hP 0 rfl rfl 1 (by decide) (hts (.fieldLink RX2 23 "JoinGrants$JoinText" "length" "I") (List.mem_of_getElem? (i := 1) rfl)) (fun _ h9 => h9) rfl dX2_append_26 ?_
    refine lv_iconst (v := 1) hx hb dX2_append_29 (by decide) ?_
    refine lv_iadd hx hb dX2_append_30 ?_
    refine va_put (D := D) (ci := 2) (v := .int ((T.1 0) + 1)) (ty := .int) (C := RX2) (T := TX2) (N := 10) hx hb hts hinX2 tyX2 tyX2_ok nmX2 hown hK hP hD hS 0 rfl rfl 1 (by decide) (hts (.fieldLink RX2 23 "JoinGrants$JoinText" "length" "I") (List.mem_of_getElem? (i := 1) rfl)) (fun _ h9 => h9) rfl (by decide +kernel) rfl rfl (Nat.le_of_ble_eq_true rfl) dX2_append_31 (fun H locs hP hD hS => ?_)
    have hP : va_P D vwCl (textW ck ta (upd T.1 0 ((T.1 0) + 1), upd T.2.1 ((T.1 0).toNatClampNeg) (vp_nar .char a1), T.2.2.1, T.2.2.2.1, T.2.2.2.2)) H := hP
    have hD : va_D (va_A (textW ck ta T) s.heap.size) (textW ck ta (upd T.1 0 ((T.1 0) + 1), upd T.2.1 ((T.1 0).toNatClampNeg) (vp_nar .char a1), T.2.2.1, T.2.2.2.1, T.2.2.2.2)) := hD
    refine lv_iconst (v := 1) hx hb dX2_append_34 (by decide) ?_
    exact xzret hx hb hr hlk hP hD hS (Or.inr rfl) (congrArg (fun z => z.1) (show gX2_append T a1 = (1, (upd T.1 0 ((T.1 0) + 1), upd T.2.1 ((T.1 0).toNatClampNeg) (vp_nar .char a1), T.2.2.1, T.2.2.2.1, T.2.2.2.2)) from (Eq.trans (if_pos c_9) rfl))).symm (congrArg (fun z => textW ck ta z.2) (show gX2_append T a1 = (1, (upd T.1 0 ((T.1 0) + 1), upd T.2.1 ((T.1 0).toNatClampNeg) (vp_nar .char a1), T.2.2.1, T.2.2.2.1, T.2.2.2.2)) from (Eq.trans (if_pos c_9) rfl))).symm dX2_append_35
  · --f
    refine lv_iconst (v := 0) hx hb dX2_append_12 (by decide) ?_
    exact xzret hx hb hr hlk hP hD hS (Or.inl rfl) (congrArg (fun z => z.1) (show gX2_append T a1 = (0, T) from (Eq.trans (if_neg c_9) rfl))).symm (congrArg (fun z => textW ck ta z.2) (show gX2_append T a1 = (0, T) from (Eq.trans (if_neg c_9) rfl))).symm dX2_append_13

def rmX2_clear : Room := { frames := 0, cells := 0, slots := 0, locals := 0 }
def gX2_clear (T : TS) : TS := (upd T.1 0 0, T.2.1, T.2.2.1, T.2.2.2.1, T.2.2.2.2)
set_option maxHeartbeats 4000000 in
set_option maxRecDepth 100000 in
theorem mX2_clear (l : Launch) (D : va_G) (ck : Nat → ClassId) (ta : Nat → Nat) (T : TS) : xMv l yX2_clear wsX2_clear rmX2_clear D ck [.ref (ta 0)] (textW ck ta T) (textW ck ta (gX2_clear T)) 0 0 := by
  refine xMet (by decide) rfl (Nat.le_of_ble_eq_true rfl) ?_
  intro zp ze s zm zb zt zc hx hb hr hml hown hts hlk hnm hN hK hP hD ls hl
  have hown : s.vm.findClass RX2 = some zm.cls := hown
  have hl : lv_has ls 1 [(0, .ref (ta 0))] := hl
  have hS : va_S (va_A (textW ck ta T) s.heap.size) s.heap s.heap [] := va_S.rf
  have hA : ∀ zq : Nat, s.heap.size ≤ zq → va_A (textW ck ta T) s.heap.size zq := fun zq h => Or.inr h
  have hinX2 : ∀ w ∈ u_ws RX2 TX2 10, w ∈ wsX2_clear := by decide +kernel
  refine lv_aload_n hx hb dX2_clear_0 rfl (lv_at hl 0 rfl) ?_
  refine lv_iconst (v := 0) hx hb dX2_clear_1 (by decide) ?_
  refine va_put (D := D) (ci := 2) (v := .int 0) (ty := .int) (C := RX2) (T := TX2) (N := 10) hx hb hts hinX2 tyX2 tyX2_ok nmX2 hown hK hP hD hS 0 rfl rfl 1 (by decide) (hts (.fieldLink RX2 23 "JoinGrants$JoinText" "length" "I") (List.mem_of_getElem? (i := 1) rfl)) (fun _ h9 => h9) rfl (by decide +kernel) rfl rfl (Nat.le_of_ble_eq_true rfl) dX2_clear_2 (fun H locs hP hD hS => ?_)
  have hP : va_P D vwCl (textW ck ta (upd T.1 0 0, T.2.1, T.2.2.1, T.2.2.2.1, T.2.2.2.2)) H := hP
  have hD : va_D (va_A (textW ck ta T) s.heap.size) (textW ck ta (upd T.1 0 0, T.2.1, T.2.2.1, T.2.2.2.1, T.2.2.2.2)) := hD
  exact xvret hx hb hr hlk hP hD hS (congrArg (fun z => textW ck ta z) (show gX2_clear T = (upd T.1 0 0, T.2.1, T.2.2.1, T.2.2.2.1, T.2.2.2.2) from rfl)).symm dX2_clear_5

def rmX2_length : Room := { frames := 0, cells := 0, slots := 0, locals := 0 }
def gX2_length (T : TS) : Int32 := (T.1 0)
set_option maxHeartbeats 4000000 in
set_option maxRecDepth 100000 in
theorem mX2_length (l : Launch) (D : va_G) (ck : Nat → ClassId) (ta : Nat → Nat) (T : TS) : xMi l yX2_length wsX2_length rmX2_length D ck [.ref (ta 0)] (textW ck ta T) (textW ck ta T) (gX2_length T) 0 0 := by
  refine xMet (by decide) rfl (Nat.le_of_ble_eq_true rfl) ?_
  intro zp ze s zm zb zt zc hx hb hr hml hown hts hlk hnm hN hK hP hD ls hl
  have hown : s.vm.findClass RX2 = some zm.cls := hown
  have hl : lv_has ls 1 [(0, .ref (ta 0))] := hl
  have hS : va_S (va_A (textW ck ta T) s.heap.size) s.heap s.heap [] := va_S.rf
  have hA : ∀ zq : Nat, s.heap.size ≤ zq → va_A (textW ck ta T) s.heap.size zq := fun zq h => Or.inr h
  have hinX2 : ∀ w ∈ u_ws RX2 TX2 10, w ∈ wsX2_length := by decide +kernel
  refine lv_aload_n hx hb dX2_length_0 rfl (lv_at hl 0 rfl) ?_
  refine va_get (D := D) (ci := 2) (v := .int (T.1 0)) (C := RX2) (T := TX2) (N := 10) hx hb hts hinX2 hown hK hP 0 rfl rfl 1 (by decide) (hts (.fieldLink RX2 23 "JoinGrants$JoinText" "length" "I") (List.mem_of_getElem? (i := 1) rfl)) (fun _ h9 => h9) rfl dX2_length_1 ?_
  exact xiret hx hb hr hlk hP hD hS (show gX2_length T = (T.1 0) from rfl).symm rfl dX2_length_4

def rmX2_joins : Room := { frames := 0, cells := 0, slots := 0, locals := 0 }
def gX2_joins (T : TS) : Int32 := (T.1 1)
set_option maxHeartbeats 4000000 in
set_option maxRecDepth 100000 in
theorem mX2_joins (l : Launch) (D : va_G) (ck : Nat → ClassId) (ta : Nat → Nat) (T : TS) : xMi l yX2_joins wsX2_joins rmX2_joins D ck [.ref (ta 0)] (textW ck ta T) (textW ck ta T) (gX2_joins T) 0 0 := by
  refine xMet (by decide) rfl (Nat.le_of_ble_eq_true rfl) ?_
  intro zp ze s zm zb zt zc hx hb hr hml hown hts hlk hnm hN hK hP hD ls hl
  have hown : s.vm.findClass RX2 = some zm.cls := hown
  have hl : lv_has ls 1 [(0, .ref (ta 0))] := hl
  have hS : va_S (va_A (textW ck ta T) s.heap.size) s.heap s.heap [] := va_S.rf
  have hA : ∀ zq : Nat, s.heap.size ≤ zq → va_A (textW ck ta T) s.heap.size zq := fun zq h => Or.inr h
  have hinX2 : ∀ w ∈ u_ws RX2 TX2 10, w ∈ wsX2_joins := by decide +kernel
  refine lv_aload_n hx hb dX2_joins_0 rfl (lv_at hl 0 rfl) ?_
  refine va_get (D := D) (ci := 2) (v := .int (T.1 1)) (C := RX2) (T := TX2) (N := 10) hx hb hts hinX2 hown hK hP 0 rfl rfl 5 (by decide) (hts (.fieldLink RX2 27 "JoinGrants$JoinText" "joins" "I") (List.mem_of_getElem? (i := 1) rfl)) (fun _ h9 => h9) rfl dX2_joins_1 ?_
  exact xiret hx hb hr hlk hP hD hS (show gX2_joins T = (T.1 1) from rfl).symm rfl dX2_joins_4

def rmX2_wayOf : Room := { frames := 0, cells := 0, slots := 0, locals := 0 }
def gX2_wayOf (T : TS) (a1 : Int32) : Int32 := (if a1 < 0 then 0 else (if (nI 12) ≤ a1 then 0 else (T.2.2.1 a1.toNatClampNeg)))
set_option maxHeartbeats 4000000 in
set_option maxRecDepth 100000 in
theorem mX2_wayOf (l : Launch) (D : va_G) (ck : Nat → ClassId) (ta : Nat → Nat) (T : TS) (a1 : Int32) : xMi l yX2_wayOf wsX2_wayOf rmX2_wayOf D ck [.ref (ta 0), .int a1] (textW ck ta T) (textW ck ta T) (gX2_wayOf T a1) 0 0 := by
  refine xMet (by decide) rfl (Nat.le_of_ble_eq_true rfl) ?_
  intro zp ze s zm zb zt zc hx hb hr hml hown hts hlk hnm hN hK hP hD ls hl
  have hown : s.vm.findClass RX2 = some zm.cls := hown
  have hl : lv_has ls 2 [(0, .ref (ta 0)), (1, .int a1)] := hl
  have hS : va_S (va_A (textW ck ta T) s.heap.size) s.heap s.heap [] := va_S.rf
  have hA : ∀ zq : Nat, s.heap.size ≤ zq → va_A (textW ck ta T) s.heap.size zq := fun zq h => Or.inr h
  have hinX2 : ∀ w ∈ u_ws RX2 TX2 10, w ∈ wsX2_wayOf := by decide +kernel
  refine lv_iload_n hx hb dX2_wayOf_0 rfl (lv_at hl 1 rfl) ?_
  refine lv_if_lt (tgt := 22) hx hb dX2_wayOf_1 (by decide) (fun c_1 => ?_) (fun c_1 => ?_)
  · --t
    refine lv_iconst (v := 0) hx hb dX2_wayOf_22 (by decide) ?_
    exact xiret hx hb hr hlk hP hD hS (show gX2_wayOf T a1 = 0 from (Eq.trans (if_pos c_1) rfl)).symm rfl dX2_wayOf_23
  · --f
    refine lv_iload_n hx hb dX2_wayOf_4 rfl (lv_at hl 1 rfl) ?_
    refine lv_aload_n hx hb dX2_wayOf_5 rfl (lv_at hl 0 rfl) ?_
    refine va_get (D := D) (ci := 2) (v := .ref (ta 2)) (C := RX2) (T := TX2) (N := 10) hx hb hts hinX2 hown hK hP 0 rfl rfl 2 (by decide) (hts (.fieldLink RX2 13 "JoinGrants$JoinText" "ways" "[I") (List.mem_of_getElem? (i := 1) rfl)) (fun _ h9 => h9) rfl dX2_wayOf_6 ?_
    refine va_alen hx hb hK hP 2 0 rfl rfl (v := (nI 12)) rfl dX2_wayOf_9 ?_
    refine lv_icmp_ge (tgt := 22) hx hb dX2_wayOf_10 (by decide) (fun c_10 => ?_) (fun c_10 => ?_)
    · --t
      refine lv_iconst (v := 0) hx hb dX2_wayOf_22 (by decide) ?_
      exact xiret hx hb hr hlk hP hD hS (show gX2_wayOf T a1 = 0 from (Eq.trans (if_neg c_1) (Eq.trans (if_pos c_10) rfl))).symm rfl dX2_wayOf_23
    · --f
      refine lv_aload_n hx hb dX2_wayOf_13 rfl (lv_at hl 0 rfl) ?_
      refine va_get (D := D) (ci := 2) (v := .ref (ta 2)) (C := RX2) (T := TX2) (N := 10) hx hb hts hinX2 hown hK hP 0 rfl rfl 2 (by decide) (hts (.fieldLink RX2 13 "JoinGrants$JoinText" "ways" "[I") (List.mem_of_getElem? (i := 1) rfl)) (fun _ h9 => h9) rfl dX2_wayOf_14 ?_
      refine lv_iload_n hx hb dX2_wayOf_17 rfl (lv_at hl 1 rfl) ?_
      refine va_iald hx hb hK hP 2 0 rfl rfl (xin_g (by decide) c_1 c_10) dX2_wayOf_18 ?_
      refine lv_goto (tgt := 23) hx hb dX2_wayOf_19 (by decide) ?_
      exact xiret hx hb hr hlk hP hD hS (show gX2_wayOf T a1 = (T.2.2.1 a1.toNatClampNeg) from (Eq.trans (if_neg c_1) (Eq.trans (if_neg c_10) rfl))).symm rfl dX2_wayOf_23

def rmX2_leftOf : Room := { frames := 0, cells := 0, slots := 0, locals := 0 }
def gX2_leftOf (T : TS) (a1 : Int32) : Int32 := (if a1 < 0 then 0 else (if (nI 12) ≤ a1 then 0 else (T.2.2.2.1 a1.toNatClampNeg)))
set_option maxHeartbeats 4000000 in
set_option maxRecDepth 100000 in
theorem mX2_leftOf (l : Launch) (D : va_G) (ck : Nat → ClassId) (ta : Nat → Nat) (T : TS) (a1 : Int32) : xMi l yX2_leftOf wsX2_leftOf rmX2_leftOf D ck [.ref (ta 0), .int a1] (textW ck ta T) (textW ck ta T) (gX2_leftOf T a1) 0 0 := by
  refine xMet (by decide) rfl (Nat.le_of_ble_eq_true rfl) ?_
  intro zp ze s zm zb zt zc hx hb hr hml hown hts hlk hnm hN hK hP hD ls hl
  have hown : s.vm.findClass RX2 = some zm.cls := hown
  have hl : lv_has ls 2 [(0, .ref (ta 0)), (1, .int a1)] := hl
  have hS : va_S (va_A (textW ck ta T) s.heap.size) s.heap s.heap [] := va_S.rf
  have hA : ∀ zq : Nat, s.heap.size ≤ zq → va_A (textW ck ta T) s.heap.size zq := fun zq h => Or.inr h
  have hinX2 : ∀ w ∈ u_ws RX2 TX2 10, w ∈ wsX2_leftOf := by decide +kernel
  refine lv_iload_n hx hb dX2_leftOf_0 rfl (lv_at hl 1 rfl) ?_
  refine lv_if_lt (tgt := 22) hx hb dX2_leftOf_1 (by decide) (fun c_1 => ?_) (fun c_1 => ?_)
  · --t
    refine lv_iconst (v := 0) hx hb dX2_leftOf_22 (by decide) ?_
    exact xiret hx hb hr hlk hP hD hS (show gX2_leftOf T a1 = 0 from (Eq.trans (if_pos c_1) rfl)).symm rfl dX2_leftOf_23
  · --f
    refine lv_iload_n hx hb dX2_leftOf_4 rfl (lv_at hl 1 rfl) ?_
    refine lv_aload_n hx hb dX2_leftOf_5 rfl (lv_at hl 0 rfl) ?_
    refine va_get (D := D) (ci := 2) (v := .ref (ta 3)) (C := RX2) (T := TX2) (N := 10) hx hb hts hinX2 hown hK hP 0 rfl rfl 3 (by decide) (hts (.fieldLink RX2 17 "JoinGrants$JoinText" "lefts" "[I") (List.mem_of_getElem? (i := 1) rfl)) (fun _ h9 => h9) rfl dX2_leftOf_6 ?_
    refine va_alen hx hb hK hP 3 0 rfl rfl (v := (nI 12)) rfl dX2_leftOf_9 ?_
    refine lv_icmp_ge (tgt := 22) hx hb dX2_leftOf_10 (by decide) (fun c_10 => ?_) (fun c_10 => ?_)
    · --t
      refine lv_iconst (v := 0) hx hb dX2_leftOf_22 (by decide) ?_
      exact xiret hx hb hr hlk hP hD hS (show gX2_leftOf T a1 = 0 from (Eq.trans (if_neg c_1) (Eq.trans (if_pos c_10) rfl))).symm rfl dX2_leftOf_23
    · --f
      refine lv_aload_n hx hb dX2_leftOf_13 rfl (lv_at hl 0 rfl) ?_
      refine va_get (D := D) (ci := 2) (v := .ref (ta 3)) (C := RX2) (T := TX2) (N := 10) hx hb hts hinX2 hown hK hP 0 rfl rfl 3 (by decide) (hts (.fieldLink RX2 17 "JoinGrants$JoinText" "lefts" "[I") (List.mem_of_getElem? (i := 1) rfl)) (fun _ h9 => h9) rfl dX2_leftOf_14 ?_
      refine lv_iload_n hx hb dX2_leftOf_17 rfl (lv_at hl 1 rfl) ?_
      refine va_iald hx hb hK hP 3 0 rfl rfl (xin_g (by decide) c_1 c_10) dX2_leftOf_18 ?_
      refine lv_goto (tgt := 23) hx hb dX2_leftOf_19 (by decide) ?_
      exact xiret hx hb hr hlk hP hD hS (show gX2_leftOf T a1 = (T.2.2.2.1 a1.toNatClampNeg) from (Eq.trans (if_neg c_1) (Eq.trans (if_neg c_10) rfl))).symm rfl dX2_leftOf_23

def rmX2_rightOf : Room := { frames := 0, cells := 0, slots := 0, locals := 0 }
def gX2_rightOf (T : TS) (a1 : Int32) : Int32 := (if a1 < 0 then 0 else (if (nI 12) ≤ a1 then 0 else (T.2.2.2.2 a1.toNatClampNeg)))
set_option maxHeartbeats 4000000 in
set_option maxRecDepth 100000 in
theorem mX2_rightOf (l : Launch) (D : va_G) (ck : Nat → ClassId) (ta : Nat → Nat) (T : TS) (a1 : Int32) : xMi l yX2_rightOf wsX2_rightOf rmX2_rightOf D ck [.ref (ta 0), .int a1] (textW ck ta T) (textW ck ta T) (gX2_rightOf T a1) 0 0 := by
  refine xMet (by decide) rfl (Nat.le_of_ble_eq_true rfl) ?_
  intro zp ze s zm zb zt zc hx hb hr hml hown hts hlk hnm hN hK hP hD ls hl
  have hown : s.vm.findClass RX2 = some zm.cls := hown
  have hl : lv_has ls 2 [(0, .ref (ta 0)), (1, .int a1)] := hl
  have hS : va_S (va_A (textW ck ta T) s.heap.size) s.heap s.heap [] := va_S.rf
  have hA : ∀ zq : Nat, s.heap.size ≤ zq → va_A (textW ck ta T) s.heap.size zq := fun zq h => Or.inr h
  have hinX2 : ∀ w ∈ u_ws RX2 TX2 10, w ∈ wsX2_rightOf := by decide +kernel
  refine lv_iload_n hx hb dX2_rightOf_0 rfl (lv_at hl 1 rfl) ?_
  refine lv_if_lt (tgt := 22) hx hb dX2_rightOf_1 (by decide) (fun c_1 => ?_) (fun c_1 => ?_)
  · --t
    refine lv_iconst (v := 0) hx hb dX2_rightOf_22 (by decide) ?_
    exact xiret hx hb hr hlk hP hD hS (show gX2_rightOf T a1 = 0 from (Eq.trans (if_pos c_1) rfl)).symm rfl dX2_rightOf_23
  · --f
    refine lv_iload_n hx hb dX2_rightOf_4 rfl (lv_at hl 1 rfl) ?_
    refine lv_aload_n hx hb dX2_rightOf_5 rfl (lv_at hl 0 rfl) ?_
    refine va_get (D := D) (ci := 2) (v := .ref (ta 4)) (C := RX2) (T := TX2) (N := 10) hx hb hts hinX2 hown hK hP 0 rfl rfl 4 (by decide) (hts (.fieldLink RX2 20 "JoinGrants$JoinText" "rights" "[I") (List.mem_of_getElem? (i := 1) rfl)) (fun _ h9 => h9) rfl dX2_rightOf_6 ?_
    refine va_alen hx hb hK hP 4 0 rfl rfl (v := (nI 12)) rfl dX2_rightOf_9 ?_
    refine lv_icmp_ge (tgt := 22) hx hb dX2_rightOf_10 (by decide) (fun c_10 => ?_) (fun c_10 => ?_)
    · --t
      refine lv_iconst (v := 0) hx hb dX2_rightOf_22 (by decide) ?_
      exact xiret hx hb hr hlk hP hD hS (show gX2_rightOf T a1 = 0 from (Eq.trans (if_neg c_1) (Eq.trans (if_pos c_10) rfl))).symm rfl dX2_rightOf_23
    · --f
      refine lv_aload_n hx hb dX2_rightOf_13 rfl (lv_at hl 0 rfl) ?_
      refine va_get (D := D) (ci := 2) (v := .ref (ta 4)) (C := RX2) (T := TX2) (N := 10) hx hb hts hinX2 hown hK hP 0 rfl rfl 4 (by decide) (hts (.fieldLink RX2 20 "JoinGrants$JoinText" "rights" "[I") (List.mem_of_getElem? (i := 1) rfl)) (fun _ h9 => h9) rfl dX2_rightOf_14 ?_
      refine lv_iload_n hx hb dX2_rightOf_17 rfl (lv_at hl 1 rfl) ?_
      refine va_iald hx hb hK hP 4 0 rfl rfl (xin_g (by decide) c_1 c_10) dX2_rightOf_18 ?_
      refine lv_goto (tgt := 23) hx hb dX2_rightOf_19 (by decide) ?_
      exact xiret hx hb hr hlk hP hD hS (show gX2_rightOf T a1 = (T.2.2.2.2 a1.toNatClampNeg) from (Eq.trans (if_neg c_1) (Eq.trans (if_neg c_10) rfl))).symm rfl dX2_rightOf_23

def rmX2_takesWay : Room := { frames := 0, cells := 0, slots := 0, locals := 0 }
def gX2_takesWay (T : TS) (a1 : Int32) : Int32 × TS := (if a1 = 108 then (1, (upd (upd T.1 3 0) 2 1, T.2.1, T.2.2.1, T.2.2.2.1, T.2.2.2.2)) else (if a1 = 98 then (1, (upd (upd T.1 3 1) 2 1, T.2.1, T.2.2.1, T.2.2.2.1, T.2.2.2.2)) else (if a1 = 109 then (1, (upd (upd T.1 3 2) 2 1, T.2.1, T.2.2.1, T.2.2.2.1, T.2.2.2.2)) else (0, T))))
set_option maxHeartbeats 4000000 in
set_option maxRecDepth 100000 in
theorem mX2_takesWay (l : Launch) (D : va_G) (ck : Nat → ClassId) (ta : Nat → Nat) (T : TS) (a1 : Int32) : xMi l yX2_takesWay wsX2_takesWay rmX2_takesWay D ck [.ref (ta 0), .int a1] (textW ck ta T) (textW ck ta ((gX2_takesWay T a1).2)) ((gX2_takesWay T a1).1) 0 0 := by
  refine xMet (by decide) rfl (Nat.le_of_ble_eq_true rfl) ?_
  intro zp ze s zm zb zt zc hx hb hr hml hown hts hlk hnm hN hK hP hD ls hl
  have hown : s.vm.findClass RX2 = some zm.cls := hown
  have hl : lv_has ls 2 [(0, .ref (ta 0)), (1, .int a1)] := hl
  have hS : va_S (va_A (textW ck ta T) s.heap.size) s.heap s.heap [] := va_S.rf
  have hA : ∀ zq : Nat, s.heap.size ≤ zq → va_A (textW ck ta T) s.heap.size zq := fun zq h => Or.inr h
  have hinX2 : ∀ w ∈ u_ws RX2 TX2 10, w ∈ wsX2_takesWay := by decide +kernel
  refine lv_iload_n hx hb dX2_takesWay_0 rfl (lv_at hl 1 rfl) ?_
  refine lv_bipush (v := 108) hx hb dX2_takesWay_1 (by decide) ?_
  refine lv_icmp_ne (tgt := 14) hx hb dX2_takesWay_3 (by decide) (fun c_3 => ?_) (fun c_3 => ?_)
  · --t
    refine lv_iload_n hx hb dX2_takesWay_14 rfl (lv_at hl 1 rfl) ?_
    refine lv_bipush (v := 98) hx hb dX2_takesWay_15 (by decide) ?_
    refine lv_icmp_ne (tgt := 28) hx hb dX2_takesWay_17 (by decide) (fun c_17 => ?_) (fun c_17 => ?_)
    · --t
      refine lv_iload_n hx hb dX2_takesWay_28 rfl (lv_at hl 1 rfl) ?_
      refine lv_bipush (v := 109) hx hb dX2_takesWay_29 (by decide) ?_
      refine lv_icmp_ne (tgt := 42) hx hb dX2_takesWay_31 (by decide) (fun c_31 => ?_) (fun c_31 => ?_)
      · --t
        refine lv_iconst (v := 0) hx hb dX2_takesWay_42 (by decide) ?_
        exact xzret hx hb hr hlk hP hD hS (Or.inl rfl) (congrArg (fun z => z.1) (show gX2_takesWay T a1 = (0, T) from (Eq.trans (if_neg c_3) (Eq.trans (if_neg c_17) (Eq.trans (if_neg c_31) rfl))))).symm (congrArg (fun z => textW ck ta z.2) (show gX2_takesWay T a1 = (0, T) from (Eq.trans (if_neg c_3) (Eq.trans (if_neg c_17) (Eq.trans (if_neg c_31) rfl))))).symm dX2_takesWay_43
      · --f
        refine lv_aload_n hx hb dX2_takesWay_34 rfl (lv_at hl 0 rfl) ?_
        refine lv_iconst (v := 2) hx hb dX2_takesWay_35 (by decide) ?_
        refine va_put (D := D) (ci := 2) (v := .int 2) (ty := .int) (C := RX2) (T := TX2) (N := 10) hx hb hts hinX2 tyX2 tyX2_ok nmX2 hown hK hP hD hS 0 rfl rfl 7 (by decide) (hts (.fieldLink RX2 55 "JoinGrants$JoinText" "way" "I") (List.mem_of_getElem? (i := 1) rfl)) (fun _ h9 => h9) rfl (by decide +kernel) rfl rfl (Nat.le_of_ble_eq_true rfl) dX2_takesWay_36 (fun H locs hP hD hS => ?_)
        have hP : va_P D vwCl (textW ck ta (upd T.1 3 2, T.2.1, T.2.2.1, T.2.2.2.1, T.2.2.2.2)) H := hP
        have hD : va_D (va_A (textW ck ta T) s.heap.size) (textW ck ta (upd T.1 3 2, T.2.1, T.2.2.1, T.2.2.2.1, T.2.2.2.2)) := hD
        refine lv_goto (tgt := 44) hx hb dX2_takesWay_39 (by decide) ?_
        refine lv_aload_n hx hb dX2_takesWay_44 rfl (lv_at hl 0 rfl) ?_
        refine lv_iconst (v := 1) hx hb dX2_takesWay_45 (by decide) ?_
        refine va_put (D := D) (ci := 2) (v := .int 1) (ty := .int) (C := RX2) (T := TX2) (N := 10) hx hb hts hinX2 tyX2 tyX2_ok nmX2 hown hK hP hD hS 0 rfl rfl 6 (by decide) (hts (.fieldLink RX2 30 "JoinGrants$JoinText" "place" "I") (List.mem_of_getElem? (i := 2) rfl)) (fun _ h9 => h9) rfl (by decide +kernel) rfl rfl (Nat.le_of_ble_eq_true rfl) dX2_takesWay_46 (fun H locs hP hD hS => ?_)
        have hP : va_P D vwCl (textW ck ta (upd (upd T.1 3 2) 2 1, T.2.1, T.2.2.1, T.2.2.2.1, T.2.2.2.2)) H := hP
        have hD : va_D (va_A (textW ck ta T) s.heap.size) (textW ck ta (upd (upd T.1 3 2) 2 1, T.2.1, T.2.2.1, T.2.2.2.1, T.2.2.2.2)) := hD
        refine lv_iconst (v := 1) hx hb dX2_takesWay_49 (by decide) ?_
        exact xzret hx hb hr hlk hP hD hS (Or.inr rfl) (congrArg (fun z => z.1) (show gX2_takesWay T a1 = (1, (upd (upd T.1 3 2) 2 1, T.2.1, T.2.2.1, T.2.2.2.1, T.2.2.2.2)) from (Eq.trans (if_neg c_3) (Eq.trans (if_neg c_17) (Eq.trans (if_pos c_31) rfl))))).symm (congrArg (fun z => textW ck ta z.2) (show gX2_takesWay T a1 = (1, (upd (upd T.1 3 2) 2 1, T.2.1, T.2.2.1, T.2.2.2.1, T.2.2.2.2)) from (Eq.trans (if_neg c_3) (Eq.trans (if_neg c_17) (Eq.trans (if_pos c_31) rfl))))).symm dX2_takesWay_50
    · --f
      refine lv_aload_n hx hb dX2_takesWay_20 rfl (lv_at hl 0 rfl) ?_
      refine lv_iconst (v := 1) hx hb dX2_takesWay_21 (by decide) ?_
      refine va_put (D := D) (ci := 2) (v := .int 1) (ty := .int) (C := RX2) (T := TX2) (N := 10) hx hb hts hinX2 tyX2 tyX2_ok nmX2 hown hK hP hD hS 0 rfl rfl 7 (by decide) (hts (.fieldLink RX2 55 "JoinGrants$JoinText" "way" "I") (List.mem_of_getElem? (i := 1) rfl)) (fun _ h9 => h9) rfl (by decide +kernel) rfl rfl (Nat.le_of_ble_eq_true rfl) dX2_takesWay_22 (fun H locs hP hD hS => ?_)
      have hP : va_P D vwCl (textW ck ta (upd T.1 3 1, T.2.1, T.2.2.1, T.2.2.2.1, T.2.2.2.2)) H := hP
      have hD : va_D (va_A (textW ck ta T) s.heap.size) (textW ck ta (upd T.1 3 1, T.2.1, T.2.2.1, T.2.2.2.1, T.2.2.2.2)) := hD
      refine lv_goto (tgt := 44) hx hb dX2_takesWay_25 (by decide) ?_
      refine lv_aload_n hx hb dX2_takesWay_44 rfl (lv_at hl 0 rfl) ?_
      refine lv_iconst (v := 1) hx hb dX2_takesWay_45 (by decide) ?_
      refine va_put (D := D) (ci := 2) (v := .int 1) (ty := .int) (C := RX2) (T := TX2) (N := 10) hx hb hts hinX2 tyX2 tyX2_ok nmX2 hown hK hP hD hS 0 rfl rfl 6 (by decide) (hts (.fieldLink RX2 30 "JoinGrants$JoinText" "place" "I") (List.mem_of_getElem? (i := 2) rfl)) (fun _ h9 => h9) rfl (by decide +kernel) rfl rfl (Nat.le_of_ble_eq_true rfl) dX2_takesWay_46 (fun H locs hP hD hS => ?_)
      have hP : va_P D vwCl (textW ck ta (upd (upd T.1 3 1) 2 1, T.2.1, T.2.2.1, T.2.2.2.1, T.2.2.2.2)) H := hP
      have hD : va_D (va_A (textW ck ta T) s.heap.size) (textW ck ta (upd (upd T.1 3 1) 2 1, T.2.1, T.2.2.1, T.2.2.2.1, T.2.2.2.2)) := hD
      refine lv_iconst (v := 1) hx hb dX2_takesWay_49 (by decide) ?_
      exact xzret hx hb hr hlk hP hD hS (Or.inr rfl) (congrArg (fun z => z.1) (show gX2_takesWay T a1 = (1, (upd (upd T.1 3 1) 2 1, T.2.1, T.2.2.1, T.2.2.2.1, T.2.2.2.2)) from (Eq.trans (if_neg c_3) (Eq.trans (if_pos c_17) rfl)))).symm (congrArg (fun z => textW ck ta z.2) (show gX2_takesWay T a1 = (1, (upd (upd T.1 3 1) 2 1, T.2.1, T.2.2.1, T.2.2.2.1, T.2.2.2.2)) from (Eq.trans (if_neg c_3) (Eq.trans (if_pos c_17) rfl)))).symm dX2_takesWay_50
  · --f
    refine lv_aload_n hx hb dX2_takesWay_6 rfl (lv_at hl 0 rfl) ?_
    refine lv_iconst (v := 0) hx hb dX2_takesWay_7 (by decide) ?_
    refine va_put (D := D) (ci := 2) (v := .int 0) (ty := .int) (C := RX2) (T := TX2) (N := 10) hx hb hts hinX2 tyX2 tyX2_ok nmX2 hown hK hP hD hS 0 rfl rfl 7 (by decide) (hts (.fieldLink RX2 55 "JoinGrants$JoinText" "way" "I") (List.mem_of_getElem? (i := 1) rfl)) (fun _ h9 => h9) rfl (by decide +kernel) rfl rfl (Nat.le_of_ble_eq_true rfl) dX2_takesWay_8 (fun H locs hP hD hS => ?_)
    have hP : va_P D vwCl (textW ck ta (upd T.1 3 0, T.2.1, T.2.2.1, T.2.2.2.1, T.2.2.2.2)) H := hP
    have hD : va_D (va_A (textW ck ta T) s.heap.size) (textW ck ta (upd T.1 3 0, T.2.1, T.2.2.1, T.2.2.2.1, T.2.2.2.2)) := hD
    refine lv_goto (tgt := 44) hx hb dX2_takesWay_11 (by decide) ?_
    refine lv_aload_n hx hb dX2_takesWay_44 rfl (lv_at hl 0 rfl) ?_
    refine lv_iconst (v := 1) hx hb dX2_takesWay_45 (by decide) ?_
    refine va_put (D := D) (ci := 2) (v := .int 1) (ty := .int) (C := RX2) (T := TX2) (N := 10) hx hb hts hinX2 tyX2 tyX2_ok nmX2 hown hK hP hD hS 0 rfl rfl 6 (by decide) (hts (.fieldLink RX2 30 "JoinGrants$JoinText" "place" "I") (List.mem_of_getElem? (i := 2) rfl)) (fun _ h9 => h9) rfl (by decide +kernel) rfl rfl (Nat.le_of_ble_eq_true rfl) dX2_takesWay_46 (fun H locs hP hD hS => ?_)
    have hP : va_P D vwCl (textW ck ta (upd (upd T.1 3 0) 2 1, T.2.1, T.2.2.1, T.2.2.2.1, T.2.2.2.2)) H := hP
    have hD : va_D (va_A (textW ck ta T) s.heap.size) (textW ck ta (upd (upd T.1 3 0) 2 1, T.2.1, T.2.2.1, T.2.2.2.1, T.2.2.2.2)) := hD
    refine lv_iconst (v := 1) hx hb dX2_takesWay_49 (by decide) ?_
    exact xzret hx hb hr hlk hP hD hS (Or.inr rfl) (congrArg (fun z => z.1) (show gX2_takesWay T a1 = (1, (upd (upd T.1 3 0) 2 1, T.2.1, T.2.2.1, T.2.2.2.1, T.2.2.2.2)) from (Eq.trans (if_pos c_3) rfl))).symm (congrArg (fun z => textW ck ta z.2) (show gX2_takesWay T a1 = (1, (upd (upd T.1 3 0) 2 1, T.2.1, T.2.2.1, T.2.2.2.1, T.2.2.2.2)) from (Eq.trans (if_pos c_3) rfl))).symm dX2_takesWay_50

theorem z_X2_takesWay {T : TS} {a1 : Int32} : (gX2_takesWay T a1).1 = 0 ∨ (gX2_takesWay T a1).1 = 1 := by
  unfold gX2_takesWay
  (repeat' split) <;> first | exact Or.inl rfl | exact Or.inr rfl

def rmX2_takesDigit : Room := { frames := 0, cells := 0, slots := 0, locals := 0 }
def gX2_takesDigit (T : TS) (a1 : Int32) : Int32 × TS := (if (((T.1 5) * 10) + a1) = 0 then (0, T) else (if (((T.1 5) * 10) + a1) ≤ 200 then (1, (upd T.1 5 (((T.1 5) * 10) + a1), T.2.1, T.2.2.1, T.2.2.2.1, T.2.2.2.2)) else (0, T)))
set_option maxHeartbeats 4000000 in
set_option maxRecDepth 100000 in
theorem mX2_takesDigit (l : Launch) (D : va_G) (ck : Nat → ClassId) (ta : Nat → Nat) (T : TS) (a1 : Int32) : xMi l yX2_takesDigit wsX2_takesDigit rmX2_takesDigit D ck [.ref (ta 0), .int a1] (textW ck ta T) (textW ck ta ((gX2_takesDigit T a1).2)) ((gX2_takesDigit T a1).1) 0 0 := by
  refine xMet (by decide) rfl (Nat.le_of_ble_eq_true rfl) ?_
  intro zp ze s zm zb zt zc hx hb hr hml hown hts hlk hnm hN hK hP hD ls hl
  have hown : s.vm.findClass RX2 = some zm.cls := hown
  have hl : lv_has ls 3 [(0, .ref (ta 0)), (1, .int a1)] := hl
  have hS : va_S (va_A (textW ck ta T) s.heap.size) s.heap s.heap [] := va_S.rf
  have hA : ∀ zq : Nat, s.heap.size ≤ zq → va_A (textW ck ta T) s.heap.size zq := fun zq h => Or.inr h
  have hinX2 : ∀ w ∈ u_ws RX2 TX2 10, w ∈ wsX2_takesDigit := by decide +kernel
  refine lv_aload_n hx hb dX2_takesDigit_0 rfl (lv_at hl 0 rfl) ?_
  refine va_get (D := D) (ci := 2) (v := .int (T.1 5)) (C := RX2) (T := TX2) (N := 10) hx hb hts hinX2 hown hK hP 0 rfl rfl 9 (by decide) (hts (.fieldLink RX2 33 "JoinGrants$JoinText" "number" "I") (List.mem_of_getElem? (i := 1) rfl)) (fun _ h9 => h9) rfl dX2_takesDigit_1 ?_
  refine lv_bipush (v := 10) hx hb dX2_takesDigit_4 (by decide) ?_
  refine lv_imul hx hb dX2_takesDigit_6 ?_
  refine lv_iload_n hx hb dX2_takesDigit_7 rfl (lv_at hl 1 rfl) ?_
  refine lv_iadd hx hb dX2_takesDigit_8 ?_
  refine lv_istore_n (lv' := [(2, .int (((T.1 5) * 10) + a1)), (0, .ref (ta 0)), (1, .int a1)]) hx hb dX2_takesDigit_9 rfl hl (by decide) rfl (fun ls hl => ?_)
  refine lv_iload_n hx hb dX2_takesDigit_10 rfl (lv_at hl 0 rfl) ?_
  refine lv_if_eq (tgt := 21) hx hb dX2_takesDigit_11 (by decide) (fun c_11 => ?_) (fun c_11 => ?_)
  · --t
    refine lv_iconst (v := 0) hx hb dX2_takesDigit_21 (by decide) ?_
    exact xzret hx hb hr hlk hP hD hS (Or.inl rfl) (congrArg (fun z => z.1) (show gX2_takesDigit T a1 = (0, T) from (Eq.trans (if_pos c_11) rfl))).symm (congrArg (fun z => textW ck ta z.2) (show gX2_takesDigit T a1 = (0, T) from (Eq.trans (if_pos c_11) rfl))).symm dX2_takesDigit_22
  · --f
    refine lv_iload_n hx hb dX2_takesDigit_14 rfl (lv_at hl 0 rfl) ?_
    refine lv_sipush (v := 200) hx hb dX2_takesDigit_15 (by decide) ?_
    refine lv_icmp_le (tgt := 23) hx hb dX2_takesDigit_18 (by decide) (fun c_18 => ?_) (fun c_18 => ?_)
    · --t
      refine lv_aload_n hx hb dX2_takesDigit_23 rfl (lv_at hl 1 rfl) ?_
      refine lv_iload_n hx hb dX2_takesDigit_24 rfl (lv_at hl 0 rfl) ?_
      refine va_put (D := D) (ci := 2) (v := .int (((T.1 5) * 10) + a1)) (ty := .int) (C := RX2) (T := TX2) (N := 10) hx hb hts hinX2 tyX2 tyX2_ok nmX2 hown hK hP hD hS 0 rfl rfl 9 (by decide) (hts (.fieldLink RX2 33 "JoinGrants$JoinText" "number" "I") (List.mem_of_getElem? (i := 1) rfl)) (fun _ h9 => h9) rfl (by decide +kernel) rfl rfl (Nat.le_of_ble_eq_true rfl) dX2_takesDigit_25 (fun H locs hP hD hS => ?_)
      have hP : va_P D vwCl (textW ck ta (upd T.1 5 (((T.1 5) * 10) + a1), T.2.1, T.2.2.1, T.2.2.2.1, T.2.2.2.2)) H := hP
      have hD : va_D (va_A (textW ck ta T) s.heap.size) (textW ck ta (upd T.1 5 (((T.1 5) * 10) + a1), T.2.1, T.2.2.1, T.2.2.2.1, T.2.2.2.2)) := hD
      refine lv_iconst (v := 1) hx hb dX2_takesDigit_28 (by decide) ?_
      exact xzret hx hb hr hlk hP hD hS (Or.inr rfl) (congrArg (fun z => z.1) (show gX2_takesDigit T a1 = (1, (upd T.1 5 (((T.1 5) * 10) + a1), T.2.1, T.2.2.1, T.2.2.2.1, T.2.2.2.2)) from (Eq.trans (if_neg c_11) (Eq.trans (if_pos c_18) rfl)))).symm (congrArg (fun z => textW ck ta z.2) (show gX2_takesDigit T a1 = (1, (upd T.1 5 (((T.1 5) * 10) + a1), T.2.1, T.2.2.1, T.2.2.2.1, T.2.2.2.2)) from (Eq.trans (if_neg c_11) (Eq.trans (if_pos c_18) rfl)))).symm dX2_takesDigit_29
    · --f
      refine lv_iconst (v := 0) hx hb dX2_takesDigit_21 (by decide) ?_
      exact xzret hx hb hr hlk hP hD hS (Or.inl rfl) (congrArg (fun z => z.1) (show gX2_takesDigit T a1 = (0, T) from (Eq.trans (if_neg c_11) (Eq.trans (if_neg c_18) rfl)))).symm (congrArg (fun z => textW ck ta z.2) (show gX2_takesDigit T a1 = (0, T) from (Eq.trans (if_neg c_11) (Eq.trans (if_neg c_18) rfl)))).symm dX2_takesDigit_22

theorem z_X2_takesDigit {T : TS} {a1 : Int32} : (gX2_takesDigit T a1).1 = 0 ∨ (gX2_takesDigit T a1).1 = 1 := by
  unfold gX2_takesDigit
  (repeat' split) <;> first | exact Or.inl rfl | exact Or.inr rfl

def rmX2_endJoin : Room := { frames := 0, cells := 0, slots := 0, locals := 0 }
def gX2_endJoin (T : TS) : TS := (if (nI 12) ≤ (T.1 1) then (upd (upd T.1 5 0) 2 0, T.2.1, T.2.2.1, T.2.2.2.1, T.2.2.2.2) else (if (nI 12) ≤ (T.1 1) then (upd (upd T.1 5 0) 2 0, T.2.1, T.2.2.1, T.2.2.2.1, T.2.2.2.2) else (if (nI 12) ≤ (T.1 1) then (upd (upd T.1 5 0) 2 0, T.2.1, T.2.2.1, T.2.2.2.1, T.2.2.2.2) else (upd (upd (upd T.1 1 ((T.1 1) + 1)) 5 0) 2 0, T.2.1, upd T.2.2.1 ((T.1 1).toNatClampNeg) (T.1 3), upd T.2.2.2.1 ((T.1 1).toNatClampNeg) (T.1 4), upd T.2.2.2.2 ((T.1 1).toNatClampNeg) (T.1 5)))))
set_option maxHeartbeats 4000000 in
set_option maxRecDepth 100000 in
theorem mX2_endJoin (l : Launch) (D : va_G) (ck : Nat → ClassId) (ta : Nat → Nat) (T : TS) (hj : ¬ T.1 1 < 0) : xMv l yX2_endJoin wsX2_endJoin rmX2_endJoin D ck [.ref (ta 0)] (textW ck ta T) (textW ck ta (gX2_endJoin T)) 0 0 := by
  refine xMet (by decide) rfl (Nat.le_of_ble_eq_true rfl) ?_
  intro zp ze s zm zb zt zc hx hb hr hml hown hts hlk hnm hN hK hP hD ls hl
  have hown : s.vm.findClass RX2 = some zm.cls := hown
  have hl : lv_has ls 1 [(0, .ref (ta 0))] := hl
  have hS : va_S (va_A (textW ck ta T) s.heap.size) s.heap s.heap [] := va_S.rf
  have hA : ∀ zq : Nat, s.heap.size ≤ zq → va_A (textW ck ta T) s.heap.size zq := fun zq h => Or.inr h
  have hinX2 : ∀ w ∈ u_ws RX2 TX2 10, w ∈ wsX2_endJoin := by decide +kernel
  refine lv_aload_n hx hb dX2_endJoin_0 rfl (lv_at hl 0 rfl) ?_
  refine va_get (D := D) (ci := 2) (v := .int (T.1 1)) (C := RX2) (T := TX2) (N := 10) hx hb hts hinX2 hown hK hP 0 rfl rfl 5 (by decide) (hts (.fieldLink RX2 27 "JoinGrants$JoinText" "joins" "I") (List.mem_of_getElem? (i := 1) rfl)) (fun _ h9 => h9) rfl dX2_endJoin_1 ?_
  refine lv_aload_n hx hb dX2_endJoin_4 rfl (lv_at hl 0 rfl) ?_
  refine va_get (D := D) (ci := 2) (v := .ref (ta 2)) (C := RX2) (T := TX2) (N := 10) hx hb hts hinX2 hown hK hP 0 rfl rfl 2 (by decide) (hts (.fieldLink RX2 13 "JoinGrants$JoinText" "ways" "[I") (List.mem_of_getElem? (i := 2) rfl)) (fun _ h9 => h9) rfl dX2_endJoin_5 ?_
  refine va_alen hx hb hK hP 2 0 rfl rfl (v := (nI 12)) rfl dX2_endJoin_8 ?_
  refine lv_icmp_ge (tgt := 85) hx hb dX2_endJoin_9 (by decide) (fun c_9 => ?_) (fun c_9 => ?_)
  · --t
    refine lv_aload_n hx hb dX2_endJoin_85 rfl (lv_at hl 0 rfl) ?_
    refine lv_iconst (v := 0) hx hb dX2_endJoin_86 (by decide) ?_
    refine va_put (D := D) (ci := 2) (v := .int 0) (ty := .int) (C := RX2) (T := TX2) (N := 10) hx hb hts hinX2 tyX2 tyX2_ok nmX2 hown hK hP hD hS 0 rfl rfl 9 (by decide) (hts (.fieldLink RX2 33 "JoinGrants$JoinText" "number" "I") (List.mem_of_getElem? (i := 7) rfl)) (fun _ h9 => h9) rfl (by decide +kernel) rfl rfl (Nat.le_of_ble_eq_true rfl) dX2_endJoin_87 (fun H locs hP hD hS => ?_)
    have hP : va_P D vwCl (textW ck ta (upd T.1 5 0, T.2.1, T.2.2.1, T.2.2.2.1, T.2.2.2.2)) H := hP
    have hD : va_D (va_A (textW ck ta T) s.heap.size) (textW ck ta (upd T.1 5 0, T.2.1, T.2.2.1, T.2.2.2.1, T.2.2.2.2)) := hD
    refine lv_aload_n hx hb dX2_endJoin_90 rfl (lv_at hl 0 rfl) ?_
    refine lv_iconst (v := 0) hx hb dX2_endJoin_91 (by decide) ?_
    refine va_put (D := D) (ci := 2) (v := .int 0) (ty := .int) (C := RX2) (T := TX2) (N := 10) hx hb hts hinX2 tyX2 tyX2_ok nmX2 hown hK hP hD hS 0 rfl rfl 6 (by decide) (hts (.fieldLink RX2 30 "JoinGrants$JoinText" "place" "I") (List.mem_of_getElem? (i := 8) rfl)) (fun _ h9 => h9) rfl (by decide +kernel) rfl rfl (Nat.le_of_ble_eq_true rfl) dX2_endJoin_92 (fun H locs hP hD hS => ?_)
    have hP : va_P D vwCl (textW ck ta (upd (upd T.1 5 0) 2 0, T.2.1, T.2.2.1, T.2.2.2.1, T.2.2.2.2)) H := hP
    have hD : va_D (va_A (textW ck ta T) s.heap.size) (textW ck ta (upd (upd T.1 5 0) 2 0, T.2.1, T.2.2.1, T.2.2.2.1, T.2.2.2.2)) := hD
    exact xvret hx hb hr hlk hP hD hS (congrArg (fun z => textW ck ta z) (show gX2_endJoin T = (upd (upd T.1 5 0) 2 0, T.2.1, T.2.2.1, T.2.2.2.1, T.2.2.2.2) from (Eq.trans (if_pos c_9) rfl))).symm dX2_endJoin_95
  · --f
    refine lv_aload_n hx hb dX2_endJoin_12 rfl (lv_at hl 0 rfl) ?_
    refine va_get (D := D) (ci := 2) (v := .int (T.1 1)) (C := RX2) (T := TX2) (N := 10) hx hb hts hinX2 hown hK hP 0 rfl rfl 5 (by decide) (hts (.fieldLink RX2 27 "JoinGrants$JoinText" "joins" "I") (List.mem_of_getElem? (i := 1) rfl)) (fun _ h9 => h9) rfl dX2_endJoin_13 ?_
    refine lv_aload_n hx hb dX2_endJoin_16 rfl (lv_at hl 0 rfl) ?_
    refine va_get (D := D) (ci := 2) (v := .ref (ta 3)) (C := RX2) (T := TX2) (N := 10) hx hb hts hinX2 hown hK hP 0 rfl rfl 3 (by decide) (hts (.fieldLink RX2 17 "JoinGrants$JoinText" "lefts" "[I") (List.mem_of_getElem? (i := 3) rfl)) (fun _ h9 => h9) rfl dX2_endJoin_17 ?_
    refine va_alen hx hb hK hP 3 0 rfl rfl (v := (nI 12)) rfl dX2_endJoin_20 ?_
    refine lv_icmp_ge (tgt := 85) hx hb dX2_endJoin_21 (by decide) (fun c_21 => ?_) (fun c_21 => ?_)
    · --t
      refine lv_aload_n hx hb dX2_endJoin_85 rfl (lv_at hl 0 rfl) ?_
      refine lv_iconst (v := 0) hx hb dX2_endJoin_86 (by decide) ?_
      refine va_put (D := D) (ci := 2) (v := .int 0) (ty := .int) (C := RX2) (T := TX2) (N := 10) hx hb hts hinX2 tyX2 tyX2_ok nmX2 hown hK hP hD hS 0 rfl rfl 9 (by decide) (hts (.fieldLink RX2 33 "JoinGrants$JoinText" "number" "I") (List.mem_of_getElem? (i := 7) rfl)) (fun _ h9 => h9) rfl (by decide +kernel) rfl rfl (Nat.le_of_ble_eq_true rfl) dX2_endJoin_87 (fun H locs hP hD hS => ?_)
      have hP : va_P D vwCl (textW ck ta (upd T.1 5 0, T.2.1, T.2.2.1, T.2.2.2.1, T.2.2.2.2)) H := hP
      have hD : va_D (va_A (textW ck ta T) s.heap.size) (textW ck ta (upd T.1 5 0, T.2.1, T.2.2.1, T.2.2.2.1, T.2.2.2.2)) := hD
      refine lv_aload_n hx hb dX2_endJoin_90 rfl (lv_at hl 0 rfl) ?_
      refine lv_iconst (v := 0) hx hb dX2_endJoin_91 (by decide) ?_
      refine va_put (D := D) (ci := 2) (v := .int 0) (ty := .int) (C := RX2) (T := TX2) (N := 10) hx hb hts hinX2 tyX2 tyX2_ok nmX2 hown hK hP hD hS 0 rfl rfl 6 (by decide) (hts (.fieldLink RX2 30 "JoinGrants$JoinText" "place" "I") (List.mem_of_getElem? (i := 8) rfl)) (fun _ h9 => h9) rfl (by decide +kernel) rfl rfl (Nat.le_of_ble_eq_true rfl) dX2_endJoin_92 (fun H locs hP hD hS => ?_)
      have hP : va_P D vwCl (textW ck ta (upd (upd T.1 5 0) 2 0, T.2.1, T.2.2.1, T.2.2.2.1, T.2.2.2.2)) H := hP
      have hD : va_D (va_A (textW ck ta T) s.heap.size) (textW ck ta (upd (upd T.1 5 0) 2 0, T.2.1, T.2.2.1, T.2.2.2.1, T.2.2.2.2)) := hD
      exact xvret hx hb hr hlk hP hD hS (congrArg (fun z => textW ck ta z) (show gX2_endJoin T = (upd (upd T.1 5 0) 2 0, T.2.1, T.2.2.1, T.2.2.2.1, T.2.2.2.2) from (Eq.trans (if_neg c_9) (Eq.trans (if_pos c_21) rfl)))).symm dX2_endJoin_95
    · --f
      refine lv_aload_n hx hb dX2_endJoin_24 rfl (lv_at hl 0 rfl) ?_
      refine va_get (D := D) (ci := 2) (v := .int (T.1 1)) (C := RX2) (T := TX2) (N := 10) hx hb hts hinX2 hown hK hP 0 rfl rfl 5 (by decide) (hts (.fieldLink RX2 27 "JoinGrants$JoinText" "joins" "I") (List.mem_of_getElem? (i := 1) rfl)) (fun _ h9 => h9) rfl dX2_endJoin_25 ?_
      refine lv_aload_n hx hb dX2_endJoin_28 rfl (lv_at hl 0 rfl) ?_
      refine va_get (D := D) (ci := 2) (v := .ref (ta 4)) (C := RX2) (T := TX2) (N := 10) hx hb hts hinX2 hown hK hP 0 rfl rfl 4 (by decide) (hts (.fieldLink RX2 20 "JoinGrants$JoinText" "rights" "[I") (List.mem_of_getElem? (i := 4) rfl)) (fun _ h9 => h9) rfl dX2_endJoin_29 ?_
      refine va_alen hx hb hK hP 4 0 rfl rfl (v := (nI 12)) rfl dX2_endJoin_32 ?_
      refine lv_icmp_ge (tgt := 85) hx hb dX2_endJoin_33 (by decide) (fun c_33 => ?_) (fun c_33 => ?_)
      · --t
        refine lv_aload_n hx hb dX2_endJoin_85 rfl (lv_at hl 0 rfl) ?_
        refine lv_iconst (v := 0) hx hb dX2_endJoin_86 (by decide) ?_
        refine va_put (D := D) (ci := 2) (v := .int 0) (ty := .int) (C := RX2) (T := TX2) (N := 10) hx hb hts hinX2 tyX2 tyX2_ok nmX2 hown hK hP hD hS 0 rfl rfl 9 (by decide) (hts (.fieldLink RX2 33 "JoinGrants$JoinText" "number" "I") (List.mem_of_getElem? (i := 7) rfl)) (fun _ h9 => h9) rfl (by decide +kernel) rfl rfl (Nat.le_of_ble_eq_true rfl) dX2_endJoin_87 (fun H locs hP hD hS => ?_)
        have hP : va_P D vwCl (textW ck ta (upd T.1 5 0, T.2.1, T.2.2.1, T.2.2.2.1, T.2.2.2.2)) H := hP
        have hD : va_D (va_A (textW ck ta T) s.heap.size) (textW ck ta (upd T.1 5 0, T.2.1, T.2.2.1, T.2.2.2.1, T.2.2.2.2)) := hD
        refine lv_aload_n hx hb dX2_endJoin_90 rfl (lv_at hl 0 rfl) ?_
        refine lv_iconst (v := 0) hx hb dX2_endJoin_91 (by decide) ?_
        refine va_put (D := D) (ci := 2) (v := .int 0) (ty := .int) (C := RX2) (T := TX2) (N := 10) hx hb hts hinX2 tyX2 tyX2_ok nmX2 hown hK hP hD hS 0 rfl rfl 6 (by decide) (hts (.fieldLink RX2 30 "JoinGrants$JoinText" "place" "I") (List.mem_of_getElem? (i := 8) rfl)) (fun _ h9 => h9) rfl (by decide +kernel) rfl rfl (Nat.le_of_ble_eq_true rfl) dX2_endJoin_92 (fun H locs hP hD hS => ?_)
        have hP : va_P D vwCl (textW ck ta (upd (upd T.1 5 0) 2 0, T.2.1, T.2.2.1, T.2.2.2.1, T.2.2.2.2)) H := hP
        have hD : va_D (va_A (textW ck ta T) s.heap.size) (textW ck ta (upd (upd T.1 5 0) 2 0, T.2.1, T.2.2.1, T.2.2.2.1, T.2.2.2.2)) := hD
        exact xvret hx hb hr hlk hP hD hS (congrArg (fun z => textW ck ta z) (show gX2_endJoin T = (upd (upd T.1 5 0) 2 0, T.2.1, T.2.2.1, T.2.2.2.1, T.2.2.2.2) from (Eq.trans (if_neg c_9) (Eq.trans (if_neg c_21) (Eq.trans (if_pos c_33) rfl))))).symm dX2_endJoin_95
      · --f
        refine lv_aload_n hx hb dX2_endJoin_36 rfl (lv_at hl 0 rfl) ?_
        refine va_get (D := D) (ci := 2) (v := .ref (ta 2)) (C := RX2) (T := TX2) (N := 10) hx hb hts hinX2 hown hK hP 0 rfl rfl 2 (by decide) (hts (.fieldLink RX2 13 "JoinGrants$JoinText" "ways" "[I") (List.mem_of_getElem? (i := 2) rfl)) (fun _ h9 => h9) rfl dX2_endJoin_37 ?_
        refine lv_aload_n hx hb dX2_endJoin_40 rfl (lv_at hl 0 rfl) ?_
        refine va_get (D := D) (ci := 2) (v := .int (T.1 1)) (C := RX2) (T := TX2) (N := 10) hx hb hts hinX2 hown hK hP 0 rfl rfl 5 (by decide) (hts (.fieldLink RX2 27 "JoinGrants$JoinText" "joins" "I") (List.mem_of_getElem? (i := 1) rfl)) (fun _ h9 => h9) rfl dX2_endJoin_41 ?_
        refine lv_aload_n hx hb dX2_endJoin_44 rfl (lv_at hl 0 rfl) ?_
        refine va_get (D := D) (ci := 2) (v := .int (T.1 3)) (C := RX2) (T := TX2) (N := 10) hx hb hts hinX2 hown hK hP 0 rfl rfl 7 (by decide) (hts (.fieldLink RX2 55 "JoinGrants$JoinText" "way" "I") (List.mem_of_getElem? (i := 5) rfl)) (fun _ h9 => h9) rfl dX2_endJoin_45 ?_
        refine va_iast hx hb hK hP hD hS 2 0 rfl rfl (xin_g' (by decide) hj (by exact Int32.not_le.mp c_9)) dX2_endJoin_48 (fun H locs hP hD hS => ?_)
        have hP : va_P D vwCl (textW ck ta (T.1, T.2.1, upd T.2.2.1 ((T.1 1).toNatClampNeg) (T.1 3), T.2.2.2.1, T.2.2.2.2)) H := hP
        have hD : va_D (va_A (textW ck ta T) s.heap.size) (textW ck ta (T.1, T.2.1, upd T.2.2.1 ((T.1 1).toNatClampNeg) (T.1 3), T.2.2.2.1, T.2.2.2.2)) := hD
        refine lv_aload_n hx hb dX2_endJoin_49 rfl (lv_at hl 0 rfl) ?_
        refine va_get (D := D) (ci := 2) (v := .ref (ta 3)) (C := RX2) (T := TX2) (N := 10) hx hb hts hinX2 hown hK hP 0 rfl rfl 3 (by decide) (hts (.fieldLink RX2 17 "JoinGrants$JoinText" "lefts" "[I") (List.mem_of_getElem? (i := 3) rfl)) (fun _ h9 => h9) rfl dX2_endJoin_50 ?_
        refine lv_aload_n hx hb dX2_endJoin_53 rfl (lv_at hl 0 rfl) ?_
        refine va_get (D := D) (ci := 2) (v := .int (T.1 1)) (C := RX2) (T := TX2) (N := 10) hx hb hts hinX2 hown hK hP 0 rfl rfl 5 (by decide) (hts (.fieldLink RX2 27 "JoinGrants$JoinText" "joins" "I") (List.mem_of_getElem? (i := 1) rfl)) (fun _ h9 => h9) rfl dX2_endJoin_54 ?_
        refine lv_aload_n hx hb dX2_endJoin_57 rfl (lv_at hl 0 rfl) ?_
        refine va_get (D := D) (ci := 2) (v := .int (T.1 4)) (C := RX2) (T := TX2) (N := 10) hx hb hts hinX2 hown hK hP 0 rfl rfl 8 (by decide) (hts (.fieldLink RX2 50 "JoinGrants$JoinText" "left" "I") (List.mem_of_getElem? (i := 6) rfl)) (fun _ h9 => h9) rfl dX2_endJoin_58 ?_
        refine va_iast hx hb hK hP hD hS 3 0 rfl rfl (xin_g' (by decide) hj (by exact Int32.not_le.mp c_9)) dX2_endJoin_61 (fun H locs hP hD hS => ?_)
        have hP : va_P D vwCl (textW ck ta (T.1, T.2.1, upd T.2.2.1 ((T.1 1).toNatClampNeg) (T.1 3), upd T.2.2.2.1 ((T.1 1).toNatClampNeg) (T.1 4), T.2.2.2.2)) H := hP
        have hD : va_D (va_A (textW ck ta T) s.heap.size) (textW ck ta (T.1, T.2.1, upd T.2.2.1 ((T.1 1).toNatClampNeg) (T.1 3), upd T.2.2.2.1 ((T.1 1).toNatClampNeg) (T.1 4), T.2.2.2.2)) := hD
        refine lv_aload_n hx hb dX2_endJoin_62 rfl (lv_at hl 0 rfl) ?_
        refine va_get (D := D) (ci := 2) (v := .ref (ta 4)) (C := RX2) (T := TX2) (N := 10) hx hb hts hinX2 hown hK hP 0 rfl rfl 4 (by decide) (hts (.fieldLink RX2 20 "JoinGrants$JoinText" "rights" "[I") (List.mem_of_getElem? (i := 4) rfl)) (fun _ h9 => h9) rfl dX2_endJoin_63 ?_
        refine lv_aload_n hx hb dX2_endJoin_66 rfl (lv_at hl 0 rfl) ?_
        refine va_get (D := D) (ci := 2) (v := .int (T.1 1)) (C := RX2) (T := TX2) (N := 10) hx hb hts hinX2 hown hK hP 0 rfl rfl 5 (by decide) (hts (.fieldLink RX2 27 "JoinGrants$JoinText" "joins" "I") (List.mem_of_getElem? (i := 1) rfl)) (fun _ h9 => h9) rfl dX2_endJoin_67 ?_
        refine lv_aload_n hx hb dX2_endJoin_70 rfl (lv_at hl 0 rfl) ?_
        refine va_get (D := D) (ci := 2) (v := .int (T.1 5)) (C := RX2) (T := TX2) (N := 10) hx hb hts hinX2 hown hK hP 0 rfl rfl 9 (by decide) (hts (.fieldLink RX2 33 "JoinGrants$JoinText" "number" "I") (List.mem_of_getElem? (i := 7) rfl)) (fun _ h9 => h9) rfl dX2_endJoin_71 ?_
        refine va_iast hx hb hK hP hD hS 4 0 rfl rfl (xin_g' (by decide) hj (by exact Int32.not_le.mp c_9)) dX2_endJoin_74 (fun H locs hP hD hS => ?_)
        have hP : va_P D vwCl (textW ck ta (T.1, T.2.1, upd T.2.2.1 ((T.1 1).toNatClampNeg) (T.1 3), upd T.2.2.2.1 ((T.1 1).toNatClampNeg) (T.1 4), upd T.2.2.2.2 ((T.1 1).toNatClampNeg) (T.1 5))) H := hP
        have hD : va_D (va_A (textW ck ta T) s.heap.size) (textW ck ta (T.1, T.2.1, upd T.2.2.1 ((T.1 1).toNatClampNeg) (T.1 3), upd T.2.2.2.1 ((T.1 1).toNatClampNeg) (T.1 4), upd T.2.2.2.2 ((T.1 1).toNatClampNeg) (T.1 5))) := hD
        refine lv_aload_n hx hb dX2_endJoin_75 rfl (lv_at hl 0 rfl) ?_
        refine lv_dup hx hb dX2_endJoin_76 rfl ?_
        refine va_get (D := D) (ci := 2) (v := .int (T.1 1)) (C := RX2) (T := TX2) (N := 10) hx hb hts hinX2 hown hK hP 0 rfl rfl 5 (by decide) (hts (.fieldLink RX2 27 "JoinGrants$JoinText" "joins" "I") (List.mem_of_getElem? (i := 1) rfl)) (fun _ h9 => h9) rfl dX2_endJoin_77 ?_
        refine lv_iconst (v := 1) hx hb dX2_endJoin_80 (by decide) ?_
        refine lv_iadd hx hb dX2_endJoin_81 ?_
        refine va_put (D := D) (ci := 2) (v := .int ((T.1 1) + 1)) (ty := .int) (C := RX2) (T := TX2) (N := 10) hx hb hts hinX2 tyX2 tyX2_ok nmX2 hown hK hP hD hS 0 rfl rfl 5 (by decide) (hts (.fieldLink RX2 27 "JoinGrants$JoinText" "joins" "I") (List.mem_of_getElem? (i := 1) rfl)) (fun _ h9 => h9) rfl (by decide +kernel) rfl rfl (Nat.le_of_ble_eq_true rfl) dX2_endJoin_82 (fun H locs hP hD hS => ?_)
        have hP : va_P D vwCl (textW ck ta (upd T.1 1 ((T.1 1) + 1), T.2.1, upd T.2.2.1 ((T.1 1).toNatClampNeg) (T.1 3), upd T.2.2.2.1 ((T.1 1).toNatClampNeg) (T.1 4), upd T.2.2.2.2 ((T.1 1).toNatClampNeg) (T.1 5))) H := hP
        have hD : va_D (va_A (textW ck ta T) s.heap.size) (textW ck ta (upd T.1 1 ((T.1 1) + 1), T.2.1, upd T.2.2.1 ((T.1 1).toNatClampNeg) (T.1 3), upd T.2.2.2.1 ((T.1 1).toNatClampNeg) (T.1 4), upd T.2.2.2.2 ((T.1 1).toNatClampNeg) (T.1 5))) := hD
        refine lv_aload_n hx hb dX2_endJoin_85 rfl (lv_at hl 0 rfl) ?_
        refine lv_iconst (v := 0) hx hb dX2_endJoin_86 (by decide) ?_
        refine va_put (D := D) (ci := 2) (v := .int 0) (ty := .int) (C := RX2) (T := TX2) (N := 10) hx hb hts hinX2 tyX2 tyX2_ok nmX2 hown hK hP hD hS 0 rfl rfl 9 (by decide) (hts (.fieldLink RX2 33 "JoinGrants$JoinText" "number" "I") (List.mem_of_getElem? (i := 7) rfl)) (fun _ h9 => h9) rfl (by decide +kernel) rfl rfl (Nat.le_of_ble_eq_true rfl) dX2_endJoin_87 (fun H locs hP hD hS => ?_)
        have hP : va_P D vwCl (textW ck ta (upd (upd T.1 1 ((T.1 1) + 1)) 5 0, T.2.1, upd T.2.2.1 ((T.1 1).toNatClampNeg) (T.1 3), upd T.2.2.2.1 ((T.1 1).toNatClampNeg) (T.1 4), upd T.2.2.2.2 ((T.1 1).toNatClampNeg) (T.1 5))) H := hP
        have hD : va_D (va_A (textW ck ta T) s.heap.size) (textW ck ta (upd (upd T.1 1 ((T.1 1) + 1)) 5 0, T.2.1, upd T.2.2.1 ((T.1 1).toNatClampNeg) (T.1 3), upd T.2.2.2.1 ((T.1 1).toNatClampNeg) (T.1 4), upd T.2.2.2.2 ((T.1 1).toNatClampNeg) (T.1 5))) := hD
        refine lv_aload_n hx hb dX2_endJoin_90 rfl (lv_at hl 0 rfl) ?_
        refine lv_iconst (v := 0) hx hb dX2_endJoin_91 (by decide) ?_
        refine va_put (D := D) (ci := 2) (v := .int 0) (ty := .int) (C := RX2) (T := TX2) (N := 10) hx hb hts hinX2 tyX2 tyX2_ok nmX2 hown hK hP hD hS 0 rfl rfl 6 (by decide) (hts (.fieldLink RX2 30 "JoinGrants$JoinText" "place" "I") (List.mem_of_getElem? (i := 8) rfl)) (fun _ h9 => h9) rfl (by decide +kernel) rfl rfl (Nat.le_of_ble_eq_true rfl) dX2_endJoin_92 (fun H locs hP hD hS => ?_)
        have hP : va_P D vwCl (textW ck ta (upd (upd (upd T.1 1 ((T.1 1) + 1)) 5 0) 2 0, T.2.1, upd T.2.2.1 ((T.1 1).toNatClampNeg) (T.1 3), upd T.2.2.2.1 ((T.1 1).toNatClampNeg) (T.1 4), upd T.2.2.2.2 ((T.1 1).toNatClampNeg) (T.1 5))) H := hP
        have hD : va_D (va_A (textW ck ta T) s.heap.size) (textW ck ta (upd (upd (upd T.1 1 ((T.1 1) + 1)) 5 0) 2 0, T.2.1, upd T.2.2.1 ((T.1 1).toNatClampNeg) (T.1 3), upd T.2.2.2.1 ((T.1 1).toNatClampNeg) (T.1 4), upd T.2.2.2.2 ((T.1 1).toNatClampNeg) (T.1 5))) := hD
        exact xvret hx hb hr hlk hP hD hS (congrArg (fun z => textW ck ta z) (show gX2_endJoin T = (upd (upd (upd T.1 1 ((T.1 1) + 1)) 5 0) 2 0, T.2.1, upd T.2.2.1 ((T.1 1).toNatClampNeg) (T.1 3), upd T.2.2.2.1 ((T.1 1).toNatClampNeg) (T.1 4), upd T.2.2.2.2 ((T.1 1).toNatClampNeg) (T.1 5)) from (Eq.trans (if_neg c_9) (Eq.trans (if_neg c_21) (Eq.trans (if_neg c_33) rfl))))).symm dX2_endJoin_95

def rmX2_takes : Room := { frames := 1, cells := 0, slots := 0, locals := 22 }
def gX2_takes (T : TS) (a1 : Int32) : Int32 × TS := (if (T.1 2) = 0 then ((gX2_takesWay T a1).1, (gX2_takesWay T a1).2) else (if a1 < 48 then (if (T.1 5) = 0 then (0, T) else (if (T.1 2) = 1 then (if a1 = 120 then (1, (upd (upd (upd T.1 4 (T.1 5)) 5 0) 2 2, T.2.1, T.2.2.1, T.2.2.2.1, T.2.2.2.2)) else (if (T.1 2) = 2 then (if a1 = 44 then (1, (gX2_endJoin T )) else (0, T)) else (0, T))) else (if (T.1 2) = 2 then (if a1 = 44 then (1, (gX2_endJoin T )) else (0, T)) else (0, T)))) else (if 57 < a1 then (if (T.1 5) = 0 then (0, T) else (if (T.1 2) = 1 then (if a1 = 120 then (1, (upd (upd (upd T.1 4 (T.1 5)) 5 0) 2 2, T.2.1, T.2.2.1, T.2.2.2.1, T.2.2.2.2)) else (if (T.1 2) = 2 then (if a1 = 44 then (1, (gX2_endJoin T )) else (0, T)) else (0, T))) else (if (T.1 2) = 2 then (if a1 = 44 then (1, (gX2_endJoin T )) else (0, T)) else (0, T)))) else ((gX2_takesDigit T (a1 - 48)).1, (gX2_takesDigit T (a1 - 48)).2))))
set_option maxHeartbeats 4000000 in
set_option maxRecDepth 100000 in
theorem mX2_takes (l : Launch) (D : va_G) (ck : Nat → ClassId) (ta : Nat → Nat) (T : TS) (a1 : Int32) (hj : ¬ T.1 1 < 0) : xMi l yX2_takes wsX2_takes rmX2_takes D ck [.ref (ta 0), .int a1] (textW ck ta T) (textW ck ta ((gX2_takes T a1).2)) ((gX2_takes T a1).1) 0 0 := by
  refine xMet (by decide) rfl (Nat.le_of_ble_eq_true rfl) ?_
  intro zp ze s zm zb zt zc hx hb hr hml hown hts hlk hnm hN hK hP hD ls hl
  have hown : s.vm.findClass RX2 = some zm.cls := hown
  have hl : lv_has ls 2 [(0, .ref (ta 0)), (1, .int a1)] := hl
  have hS : va_S (va_A (textW ck ta T) s.heap.size) s.heap s.heap [] := va_S.rf
  have hA : ∀ zq : Nat, s.heap.size ≤ zq → va_A (textW ck ta T) s.heap.size zq := fun zq h => Or.inr h
  have hinX2 : ∀ w ∈ u_ws RX2 TX2 10, w ∈ wsX2_takes := by decide +kernel
  refine lv_aload_n hx hb dX2_takes_0 rfl (lv_at hl 0 rfl) ?_
  refine va_get (D := D) (ci := 2) (v := .int (T.1 2)) (C := RX2) (T := TX2) (N := 10) hx hb hts hinX2 hown hK hP 0 rfl rfl 6 (by decide) (hts (.fieldLink RX2 30 "JoinGrants$JoinText" "place" "I") (List.mem_of_getElem? (i := 1) rfl)) (fun _ h9 => h9) rfl dX2_takes_1 ?_
  refine lv_if_ne (tgt := 13) hx hb dX2_takes_4 (by decide) (fun c_4 => ?_) (fun c_4 => ?_)
  · --t
    refine lv_iload_n hx hb dX2_takes_13 rfl (lv_at hl 1 rfl) ?_
    refine lv_bipush (v := 48) hx hb dX2_takes_14 (by decide) ?_
    refine lv_icmp_lt (tgt := 34) hx hb dX2_takes_16 (by decide) (fun c_16 => ?_) (fun c_16 => ?_)
    · --t
      refine lv_aload_n hx hb dX2_takes_34 rfl (lv_at hl 0 rfl) ?_
      refine va_get (D := D) (ci := 2) (v := .int (T.1 5)) (C := RX2) (T := TX2) (N := 10) hx hb hts hinX2 hown hK hP 0 rfl rfl 9 (by decide) (hts (.fieldLink RX2 33 "JoinGrants$JoinText" "number" "I") (List.mem_of_getElem? (i := 2) rfl)) (fun _ h9 => h9) rfl dX2_takes_35 ?_
      refine lv_if_ne (tgt := 43) hx hb dX2_takes_38 (by decide) (fun c_38 => ?_) (fun c_38 => ?_)
      · --t
        refine lv_aload_n hx hb dX2_takes_43 rfl (lv_at hl 0 rfl) ?_
        refine va_get (D := D) (ci := 2) (v := .int (T.1 2)) (C := RX2) (T := TX2) (N := 10) hx hb hts hinX2 hown hK hP 0 rfl rfl 6 (by decide) (hts (.fieldLink RX2 30 "JoinGrants$JoinText" "place" "I") (List.mem_of_getElem? (i := 1) rfl)) (fun _ h9 => h9) rfl dX2_takes_44 ?_
        refine lv_iconst (v := 1) hx hb dX2_takes_47 (by decide) ?_
        refine lv_icmp_ne (tgt := 77) hx hb dX2_takes_48 (by decide) (fun c_48 => ?_) (fun c_48 => ?_)
        · --t
          refine lv_aload_n hx hb dX2_takes_77 rfl (lv_at hl 0 rfl) ?_
          refine va_get (D := D) (ci := 2) (v := .int (T.1 2)) (C := RX2) (T := TX2) (N := 10) hx hb hts hinX2 hown hK hP 0 rfl rfl 6 (by decide) (hts (.fieldLink RX2 30 "JoinGrants$JoinText" "place" "I") (List.mem_of_getElem? (i := 1) rfl)) (fun _ h9 => h9) rfl dX2_takes_78 ?_
          refine lv_iconst (v := 2) hx hb dX2_takes_81 (by decide) ?_
          refine lv_icmp_ne (tgt := 97) hx hb dX2_takes_82 (by decide) (fun c_82 => ?_) (fun c_82 => ?_)
          · --t
            refine lv_iconst (v := 0) hx hb dX2_takes_97 (by decide) ?_
            exact xzret hx hb hr hlk hP hD hS (Or.inl rfl) (congrArg (fun z => z.1) (show gX2_takes T a1 = (0, T) from (Eq.trans (if_neg c_4) (Eq.trans (if_pos c_16) (Eq.trans (if_neg c_38) (Eq.trans (if_neg c_48) (Eq.trans (if_neg c_82) rfl))))))).symm (congrArg (fun z => textW ck ta z.2) (show gX2_takes T a1 = (0, T) from (Eq.trans (if_neg c_4) (Eq.trans (if_pos c_16) (Eq.trans (if_neg c_38) (Eq.trans (if_neg c_48) (Eq.trans (if_neg c_82) rfl))))))).symm dX2_takes_98
          · --f
            refine lv_iload_n hx hb dX2_takes_85 rfl (lv_at hl 1 rfl) ?_
            refine lv_bipush (v := 44) hx hb dX2_takes_86 (by decide) ?_
            refine lv_icmp_ne (tgt := 97) hx hb dX2_takes_88 (by decide) (fun c_88 => ?_) (fun c_88 => ?_)
            · --t
              refine lv_iconst (v := 0) hx hb dX2_takes_97 (by decide) ?_
              exact xzret hx hb hr hlk hP hD hS (Or.inl rfl) (congrArg (fun z => z.1) (show gX2_takes T a1 = (0, T) from (Eq.trans (if_neg c_4) (Eq.trans (if_pos c_16) (Eq.trans (if_neg c_38) (Eq.trans (if_neg c_48) (Eq.trans (if_pos c_82) (Eq.trans (if_neg c_88) rfl)))))))).symm (congrArg (fun z => textW ck ta z.2) (show gX2_takes T a1 = (0, T) from (Eq.trans (if_neg c_4) (Eq.trans (if_pos c_16) (Eq.trans (if_neg c_38) (Eq.trans (if_neg c_48) (Eq.trans (if_pos c_82) (Eq.trans (if_neg c_88) rfl)))))))).symm dX2_takes_98
            · --f
              refine lv_aload_n hx hb dX2_takes_91 rfl (lv_at hl 0 rfl) ?_
              refine xretv (va_runV (As := []) (rest := []) ⟨hx, hb, hml, hown, hts⟩ (mX2_endJoin l D ck ta T  hj _) (cwV 0 hts gX2_takes_X2_endJoin rfl rfl rfl (by decide +kernel) ⟨Nat.le_of_ble_eq_true rfl, Nat.le_of_ble_eq_true rfl⟩) (xpreV hN hK hP hD pm_all 0 rfl rfl rfl) rfl rfl hl.1 rfl (lv_room (Nat.le_of_ble_eq_true rfl)) dX2_takes_92 ⟨Nat.le_of_ble_eq_true rfl, Nat.le_of_ble_eq_true rfl⟩) hP hD hS hA pm_all pm_all' (fun H locs hP hD hS => ?_)
              have hP : va_P D vwCl (textW ck ta (gX2_endJoin T )) H := hP
              have hD : va_D (va_A (textW ck ta T) s.heap.size) (textW ck ta (gX2_endJoin T )) := hD
              refine lv_iconst (v := 1) hx hb dX2_takes_95 (by decide) ?_
              exact xzret hx hb hr hlk hP hD hS (Or.inr rfl) (congrArg (fun z => z.1) (show gX2_takes T a1 = (1, (gX2_endJoin T )) from (Eq.trans (if_neg c_4) (Eq.trans (if_pos c_16) (Eq.trans (if_neg c_38) (Eq.trans (if_neg c_48) (Eq.trans (if_pos c_82) (Eq.trans (if_pos c_88) rfl)))))))).symm (congrArg (fun z => textW ck ta z.2) (show gX2_takes T a1 = (1, (gX2_endJoin T )) from (Eq.trans (if_neg c_4) (Eq.trans (if_pos c_16) (Eq.trans (if_neg c_38) (Eq.trans (if_neg c_48) (Eq.trans (if_pos c_82) (Eq.trans (if_pos c_88) rfl)))))))).symm dX2_takes_96
        · --f
          refine lv_iload_n hx hb dX2_takes_51 rfl (lv_at hl 1 rfl) ?_
          refine lv_bipush (v := 120) hx hb dX2_takes_52 (by decide) ?_
          refine lv_icmp_ne (tgt := 77) hx hb dX2_takes_54 (by decide) (fun c_54 => ?_) (fun c_54 => ?_)
          · --t
            refine lv_aload_n hx hb dX2_takes_77 rfl (lv_at hl 0 rfl) ?_
            refine va_get (D := D) (ci := 2) (v := .int (T.1 2)) (C := RX2) (T := TX2) (N := 10) hx hb hts hinX2 hown hK hP 0 rfl rfl 6 (by decide) (hts (.fieldLink RX2 30 "JoinGrants$JoinText" "place" "I") (List.mem_of_getElem? (i := 1) rfl)) (fun _ h9 => h9) rfl dX2_takes_78 ?_
            refine lv_iconst (v := 2) hx hb dX2_takes_81 (by decide) ?_
            refine lv_icmp_ne (tgt := 97) hx hb dX2_takes_82 (by decide) (fun c_82 => ?_) (fun c_82 => ?_)
            · --t
              refine lv_iconst (v := 0) hx hb dX2_takes_97 (by decide) ?_
              exact xzret hx hb hr hlk hP hD hS (Or.inl rfl) (congrArg (fun z => z.1) (show gX2_takes T a1 = (0, T) from (Eq.trans (if_neg c_4) (Eq.trans (if_pos c_16) (Eq.trans (if_neg c_38) (Eq.trans (if_pos c_48) (Eq.trans (if_neg c_54) (Eq.trans (if_neg c_82) rfl)))))))).symm (congrArg (fun z => textW ck ta z.2) (show gX2_takes T a1 = (0, T) from (Eq.trans (if_neg c_4) (Eq.trans (if_pos c_16) (Eq.trans (if_neg c_38) (Eq.trans (if_pos c_48) (Eq.trans (if_neg c_54) (Eq.trans (if_neg c_82) rfl)))))))).symm dX2_takes_98
            · --f
              refine lv_iload_n hx hb dX2_takes_85 rfl (lv_at hl 1 rfl) ?_
              refine lv_bipush (v := 44) hx hb dX2_takes_86 (by decide) ?_
              refine lv_icmp_ne (tgt := 97) hx hb dX2_takes_88 (by decide) (fun c_88 => ?_) (fun c_88 => ?_)
              · --t
                refine lv_iconst (v := 0) hx hb dX2_takes_97 (by decide) ?_
                exact xzret hx hb hr hlk hP hD hS (Or.inl rfl) (congrArg (fun z => z.1) (show gX2_takes T a1 = (0, T) from (Eq.trans (if_neg c_4) (Eq.trans (if_pos c_16) (Eq.trans (if_neg c_38) (Eq.trans (if_pos c_48) (Eq.trans (if_neg c_54) (Eq.trans (if_pos c_82) (Eq.trans (if_neg c_88) rfl))))))))).symm (congrArg (fun z => textW ck ta z.2) (show gX2_takes T a1 = (0, T) from (Eq.trans (if_neg c_4) (Eq.trans (if_pos c_16) (Eq.trans (if_neg c_38) (Eq.trans (if_pos c_48) (Eq.trans (if_neg c_54) (Eq.trans (if_pos c_82) (Eq.trans (if_neg c_88) rfl))))))))).symm dX2_takes_98
              · --f
                refine lv_aload_n hx hb dX2_takes_91 rfl (lv_at hl 0 rfl) ?_
                refine xretv (va_runV (As := []) (rest := []) ⟨hx, hb, hml, hown, hts⟩ (mX2_endJoin l D ck ta T  hj _) (cwV 0 hts gX2_takes_X2_endJoin rfl rfl rfl (by decide +kernel) ⟨Nat.le_of_ble_eq_true rfl, Nat.le_of_ble_eq_true rfl⟩) (xpreV hN hK hP hD pm_all 0 rfl rfl rfl) rfl rfl hl.1 rfl (lv_room (Nat.le_of_ble_eq_true rfl)) dX2_takes_92 ⟨Nat.le_of_ble_eq_true rfl, Nat.le_of_ble_eq_true rfl⟩) hP hD hS hA pm_all pm_all' (fun H locs hP hD hS => ?_)
                have hP : va_P D vwCl (textW ck ta (gX2_endJoin T )) H := hP
                have hD : va_D (va_A (textW ck ta T) s.heap.size) (textW ck ta (gX2_endJoin T )) := hD
                refine lv_iconst (v := 1) hx hb dX2_takes_95 (by decide) ?_
                exact xzret hx hb hr hlk hP hD hS (Or.inr rfl) (congrArg (fun z => z.1) (show gX2_takes T a1 = (1, (gX2_endJoin T )) from (Eq.trans (if_neg c_4) (Eq.trans (if_pos c_16) (Eq.trans (if_neg c_38) (Eq.trans (if_pos c_48) (Eq.trans (if_neg c_54) (Eq.trans (if_pos c_82) (Eq.trans (if_pos c_88) rfl))))))))).symm (congrArg (fun z => textW ck ta z.2) (show gX2_takes T a1 = (1, (gX2_endJoin T )) from (Eq.trans (if_neg c_4) (Eq.trans (if_pos c_16) (Eq.trans (if_neg c_38) (Eq.trans (if_pos c_48) (Eq.trans (if_neg c_54) (Eq.trans (if_pos c_82) (Eq.trans (if_pos c_88) rfl))))))))).symm dX2_takes_96
          · --f
            refine lv_aload_n hx hb dX2_takes_57 rfl (lv_at hl 0 rfl) ?_
            refine lv_aload_n hx hb dX2_takes_58 rfl (lv_at hl 0 rfl) ?_
            refine va_get (D := D) (ci := 2) (v := .int (T.1 5)) (C := RX2) (T := TX2) (N := 10) hx hb hts hinX2 hown hK hP 0 rfl rfl 9 (by decide) (hts (.fieldLink RX2 33 "JoinGrants$JoinText" "number" "I") (List.mem_of_getElem? (i := 2) rfl)) (fun _ h9 => h9) rfl dX2_takes_59 ?_
            refine va_put (D := D) (ci := 2) (v := .int (T.1 5)) (ty := .int) (C := RX2) (T := TX2) (N := 10) hx hb hts hinX2 tyX2 tyX2_ok nmX2 hown hK hP hD hS 0 rfl rfl 8 (by decide) (hts (.fieldLink RX2 50 "JoinGrants$JoinText" "left" "I") (List.mem_of_getElem? (i := 3) rfl)) (fun _ h9 => h9) rfl (by decide +kernel) rfl rfl (Nat.le_of_ble_eq_true rfl) dX2_takes_62 (fun H locs hP hD hS => ?_)
            have hP : va_P D vwCl (textW ck ta (upd T.1 4 (T.1 5), T.2.1, T.2.2.1, T.2.2.2.1, T.2.2.2.2)) H := hP
            have hD : va_D (va_A (textW ck ta T) s.heap.size) (textW ck ta (upd T.1 4 (T.1 5), T.2.1, T.2.2.1, T.2.2.2.1, T.2.2.2.2)) := hD
            refine lv_aload_n hx hb dX2_takes_65 rfl (lv_at hl 0 rfl) ?_
            refine lv_iconst (v := 0) hx hb dX2_takes_66 (by decide) ?_
            refine va_put (D := D) (ci := 2) (v := .int 0) (ty := .int) (C := RX2) (T := TX2) (N := 10) hx hb hts hinX2 tyX2 tyX2_ok nmX2 hown hK hP hD hS 0 rfl rfl 9 (by decide) (hts (.fieldLink RX2 33 "JoinGrants$JoinText" "number" "I") (List.mem_of_getElem? (i := 2) rfl)) (fun _ h9 => h9) rfl (by decide +kernel) rfl rfl (Nat.le_of_ble_eq_true rfl) dX2_takes_67 (fun H locs hP hD hS => ?_)
            have hP : va_P D vwCl (textW ck ta (upd (upd T.1 4 (T.1 5)) 5 0, T.2.1, T.2.2.1, T.2.2.2.1, T.2.2.2.2)) H := hP
            have hD : va_D (va_A (textW ck ta T) s.heap.size) (textW ck ta (upd (upd T.1 4 (T.1 5)) 5 0, T.2.1, T.2.2.1, T.2.2.2.1, T.2.2.2.2)) := hD
            refine lv_aload_n hx hb dX2_takes_70 rfl (lv_at hl 0 rfl) ?_
            refine lv_iconst (v := 2) hx hb dX2_takes_71 (by decide) ?_
            refine va_put (D := D) (ci := 2) (v := .int 2) (ty := .int) (C := RX2) (T := TX2) (N := 10) hx hb hts hinX2 tyX2 tyX2_ok nmX2 hown hK hP hD hS 0 rfl rfl 6 (by decide) (hts (.fieldLink RX2 30 "JoinGrants$JoinText" "place" "I") (List.mem_of_getElem? (i := 1) rfl)) (fun _ h9 => h9) rfl (by decide +kernel) rfl rfl (Nat.le_of_ble_eq_true rfl) dX2_takes_72 (fun H locs hP hD hS => ?_)
            have hP : va_P D vwCl (textW ck ta (upd (upd (upd T.1 4 (T.1 5)) 5 0) 2 2, T.2.1, T.2.2.1, T.2.2.2.1, T.2.2.2.2)) H := hP
            have hD : va_D (va_A (textW ck ta T) s.heap.size) (textW ck ta (upd (upd (upd T.1 4 (T.1 5)) 5 0) 2 2, T.2.1, T.2.2.1, T.2.2.2.1, T.2.2.2.2)) := hD
            refine lv_iconst (v := 1) hx hb dX2_takes_75 (by decide) ?_
            exact xzret hx hb hr hlk hP hD hS (Or.inr rfl) (congrArg (fun z => z.1) (show gX2_takes T a1 = (1, (upd (upd (upd T.1 4 (T.1 5)) 5 0) 2 2, T.2.1, T.2.2.1, T.2.2.2.1, T.2.2.2.2)) from (Eq.trans (if_neg c_4) (Eq.trans (if_pos c_16) (Eq.trans (if_neg c_38) (Eq.trans (if_pos c_48) (Eq.trans (if_pos c_54) rfl))))))).symm (congrArg (fun z => textW ck ta z.2) (show gX2_takes T a1 = (1, (upd (upd (upd T.1 4 (T.1 5)) 5 0) 2 2, T.2.1, T.2.2.1, T.2.2.2.1, T.2.2.2.2)) from (Eq.trans (if_neg c_4) (Eq.trans (if_pos c_16) (Eq.trans (if_neg c_38) (Eq.trans (if_pos c_48) (Eq.trans (if_pos c_54) rfl))))))).symm dX2_takes_76
      · --f
        refine lv_iconst (v := 0) hx hb dX2_takes_41 (by decide) ?_
        exact xzret hx hb hr hlk hP hD hS (Or.inl rfl) (congrArg (fun z => z.1) (show gX2_takes T a1 = (0, T) from (Eq.trans (if_neg c_4) (Eq.trans (if_pos c_16) (Eq.trans (if_pos c_38) rfl))))).symm (congrArg (fun z => textW ck ta z.2) (show gX2_takes T a1 = (0, T) from (Eq.trans (if_neg c_4) (Eq.trans (if_pos c_16) (Eq.trans (if_pos c_38) rfl))))).symm dX2_takes_42
    · --f
      refine lv_iload_n hx hb dX2_takes_19 rfl (lv_at hl 1 rfl) ?_
      refine lv_bipush (v := 57) hx hb dX2_takes_20 (by decide) ?_
      refine lv_icmp_gt (tgt := 34) hx hb dX2_takes_22 (by decide) (fun c_22 => ?_) (fun c_22 => ?_)
      · --t
        refine lv_aload_n hx hb dX2_takes_34 rfl (lv_at hl 0 rfl) ?_
        refine va_get (D := D) (ci := 2) (v := .int (T.1 5)) (C := RX2) (T := TX2) (N := 10) hx hb hts hinX2 hown hK hP 0 rfl rfl 9 (by decide) (hts (.fieldLink RX2 33 "JoinGrants$JoinText" "number" "I") (List.mem_of_getElem? (i := 2) rfl)) (fun _ h9 => h9) rfl dX2_takes_35 ?_
        refine lv_if_ne (tgt := 43) hx hb dX2_takes_38 (by decide) (fun c_38 => ?_) (fun c_38 => ?_)
        · --t
          refine lv_aload_n hx hb dX2_takes_43 rfl (lv_at hl 0 rfl) ?_
          refine va_get (D := D) (ci := 2) (v := .int (T.1 2)) (C := RX2) (T := TX2) (N := 10) hx hb hts hinX2 hown hK hP 0 rfl rfl 6 (by decide) (hts (.fieldLink RX2 30 "JoinGrants$JoinText" "place" "I") (List.mem_of_getElem? (i := 1) rfl)) (fun _ h9 => h9) rfl dX2_takes_44 ?_
          refine lv_iconst (v := 1) hx hb dX2_takes_47 (by decide) ?_
          refine lv_icmp_ne (tgt := 77) hx hb dX2_takes_48 (by decide) (fun c_48 => ?_) (fun c_48 => ?_)
          · --t
            refine lv_aload_n hx hb dX2_takes_77 rfl (lv_at hl 0 rfl) ?_
            refine va_get (D := D) (ci := 2) (v := .int (T.1 2)) (C := RX2) (T := TX2) (N := 10) hx hb hts hinX2 hown hK hP 0 rfl rfl 6 (by decide) (hts (.fieldLink RX2 30 "JoinGrants$JoinText" "place" "I") (List.mem_of_getElem? (i := 1) rfl)) (fun _ h9 => h9) rfl dX2_takes_78 ?_
            refine lv_iconst (v := 2) hx hb dX2_takes_81 (by decide) ?_
            refine lv_icmp_ne (tgt := 97) hx hb dX2_takes_82 (by decide) (fun c_82 => ?_) (fun c_82 => ?_)
            · --t
              refine lv_iconst (v := 0) hx hb dX2_takes_97 (by decide) ?_
              exact xzret hx hb hr hlk hP hD hS (Or.inl rfl) (congrArg (fun z => z.1) (show gX2_takes T a1 = (0, T) from (Eq.trans (if_neg c_4) (Eq.trans (if_neg c_16) (Eq.trans (if_pos c_22) (Eq.trans (if_neg c_38) (Eq.trans (if_neg c_48) (Eq.trans (if_neg c_82) rfl)))))))).symm (congrArg (fun z => textW ck ta z.2) (show gX2_takes T a1 = (0, T) from (Eq.trans (if_neg c_4) (Eq.trans (if_neg c_16) (Eq.trans (if_pos c_22) (Eq.trans (if_neg c_38) (Eq.trans (if_neg c_48) (Eq.trans (if_neg c_82) rfl)))))))).symm dX2_takes_98
            · --f
              refine lv_iload_n hx hb dX2_takes_85 rfl (lv_at hl 1 rfl) ?_
              refine lv_bipush (v := 44) hx hb dX2_takes_86 (by decide) ?_
              refine lv_icmp_ne (tgt := 97) hx hb dX2_takes_88 (by decide) (fun c_88 => ?_) (fun c_88 => ?_)
              · --t
                refine lv_iconst (v := 0) hx hb dX2_takes_97 (by decide) ?_
                exact xzret hx hb hr hlk hP hD hS (Or.inl rfl) (congrArg (fun z => z.1) (show gX2_takes T a1 = (0, T) from (Eq.trans (if_neg c_4) (Eq.trans (if_neg c_16) (Eq.trans (if_pos c_22) (Eq.trans (if_neg c_38) (Eq.trans (if_neg c_48) (Eq.trans (if_pos c_82) (Eq.trans (if_neg c_88) rfl))))))))).symm (congrArg (fun z => textW ck ta z.2) (show gX2_takes T a1 = (0, T) from (Eq.trans (if_neg c_4) (Eq.trans (if_neg c_16) (Eq.trans (if_pos c_22) (Eq.trans (if_neg c_38) (Eq.trans (if_neg c_48) (Eq.trans (if_pos c_82) (Eq.trans (if_neg c_88) rfl))))))))).symm dX2_takes_98
              · --f
                refine lv_aload_n hx hb dX2_takes_91 rfl (lv_at hl 0 rfl) ?_
                refine xretv (va_runV (As := []) (rest := []) ⟨hx, hb, hml, hown, hts⟩ (mX2_endJoin l D ck ta T  hj _) (cwV 0 hts gX2_takes_X2_endJoin rfl rfl rfl (by decide +kernel) ⟨Nat.le_of_ble_eq_true rfl, Nat.le_of_ble_eq_true rfl⟩) (xpreV hN hK hP hD pm_all 0 rfl rfl rfl) rfl rfl hl.1 rfl (lv_room (Nat.le_of_ble_eq_true rfl)) dX2_takes_92 ⟨Nat.le_of_ble_eq_true rfl, Nat.le_of_ble_eq_true rfl⟩) hP hD hS hA pm_all pm_all' (fun H locs hP hD hS => ?_)
                have hP : va_P D vwCl (textW ck ta (gX2_endJoin T )) H := hP
                have hD : va_D (va_A (textW ck ta T) s.heap.size) (textW ck ta (gX2_endJoin T )) := hD
                refine lv_iconst (v := 1) hx hb dX2_takes_95 (by decide) ?_
                exact xzret hx hb hr hlk hP hD hS (Or.inr rfl) (congrArg (fun z => z.1) (show gX2_takes T a1 = (1, (gX2_endJoin T )) from (Eq.trans (if_neg c_4) (Eq.trans (if_neg c_16) (Eq.trans (if_pos c_22) (Eq.trans (if_neg c_38) (Eq.trans (if_neg c_48) (Eq.trans (if_pos c_82) (Eq.trans (if_pos c_88) rfl))))))))).symm (congrArg (fun z => textW ck ta z.2) (show gX2_takes T a1 = (1, (gX2_endJoin T )) from (Eq.trans (if_neg c_4) (Eq.trans (if_neg c_16) (Eq.trans (if_pos c_22) (Eq.trans (if_neg c_38) (Eq.trans (if_neg c_48) (Eq.trans (if_pos c_82) (Eq.trans (if_pos c_88) rfl))))))))).symm dX2_takes_96
          · --f
            refine lv_iload_n hx hb dX2_takes_51 rfl (lv_at hl 1 rfl) ?_
            refine lv_bipush (v := 120) hx hb dX2_takes_52 (by decide) ?_
            refine lv_icmp_ne (tgt := 77) hx hb dX2_takes_54 (by decide) (fun c_54 => ?_) (fun c_54 => ?_)
            · --t
              refine lv_aload_n hx hb dX2_takes_77 rfl (lv_at hl 0 rfl) ?_
              refine va_get (D := D) (ci := 2) (v := .int (T.1 2)) (C := RX2) (T := TX2) (N := 10) hx hb hts hinX2 hown hK hP 0 rfl rfl 6 (by decide) (hts (.fieldLink RX2 30 "JoinGrants$JoinText" "place" "I") (List.mem_of_getElem? (i := 1) rfl)) (fun _ h9 => h9) rfl dX2_takes_78 ?_
              refine lv_iconst (v := 2) hx hb dX2_takes_81 (by decide) ?_
              refine lv_icmp_ne (tgt := 97) hx hb dX2_takes_82 (by decide) (fun c_82 => ?_) (fun c_82 => ?_)
              · --t
                refine lv_iconst (v := 0) hx hb dX2_takes_97 (by decide) ?_
                exact xzret hx hb hr hlk hP hD hS (Or.inl rfl) (congrArg (fun z => z.1) (show gX2_takes T a1 = (0, T) from (Eq.trans (if_neg c_4) (Eq.trans (if_neg c_16) (Eq.trans (if_pos c_22) (Eq.trans (if_neg c_38) (Eq.trans (if_pos c_48) (Eq.trans (if_neg c_54) (Eq.trans (if_neg c_82) rfl))))))))).symm (congrArg (fun z => textW ck ta z.2) (show gX2_takes T a1 = (0, T) from (Eq.trans (if_neg c_4) (Eq.trans (if_neg c_16) (Eq.trans (if_pos c_22) (Eq.trans (if_neg c_38) (Eq.trans (if_pos c_48) (Eq.trans (if_neg c_54) (Eq.trans (if_neg c_82) rfl))))))))).symm dX2_takes_98
              · --f
                refine lv_iload_n hx hb dX2_takes_85 rfl (lv_at hl 1 rfl) ?_
                refine lv_bipush (v := 44) hx hb dX2_takes_86 (by decide) ?_
                refine lv_icmp_ne (tgt := 97) hx hb dX2_takes_88 (by decide) (fun c_88 => ?_) (fun c_88 => ?_)
                · --t
                  refine lv_iconst (v := 0) hx hb dX2_takes_97 (by decide) ?_
                  exact xzret hx hb hr hlk hP hD hS (Or.inl rfl) (congrArg (fun z => z.1) (show gX2_takes T a1 = (0, T) from (Eq.trans (if_neg c_4) (Eq.trans (if_neg c_16) (Eq.trans (if_pos c_22) (Eq.trans (if_neg c_38) (Eq.trans (if_pos c_48) (Eq.trans (if_neg c_54) (Eq.trans (if_pos c_82) (Eq.trans (if_neg c_88) rfl)))))))))).symm (congrArg (fun z => textW ck ta z.2) (show gX2_takes T a1 = (0, T) from (Eq.trans (if_neg c_4) (Eq.trans (if_neg c_16) (Eq.trans (if_pos c_22) (Eq.trans (if_neg c_38) (Eq.trans (if_pos c_48) (Eq.trans (if_neg c_54) (Eq.trans (if_pos c_82) (Eq.trans (if_neg c_88) rfl)))))))))).symm dX2_takes_98
                · --f
                  refine lv_aload_n hx hb dX2_takes_91 rfl (lv_at hl 0 rfl) ?_
                  refine xretv (va_runV (As := []) (rest := []) ⟨hx, hb, hml, hown, hts⟩ (mX2_endJoin l D ck ta T  hj _) (cwV 0 hts gX2_takes_X2_endJoin rfl rfl rfl (by decide +kernel) ⟨Nat.le_of_ble_eq_true rfl, Nat.le_of_ble_eq_true rfl⟩) (xpreV hN hK hP hD pm_all 0 rfl rfl rfl) rfl rfl hl.1 rfl (lv_room (Nat.le_of_ble_eq_true rfl)) dX2_takes_92 ⟨Nat.le_of_ble_eq_true rfl, Nat.le_of_ble_eq_true rfl⟩) hP hD hS hA pm_all pm_all' (fun H locs hP hD hS => ?_)
                  have hP : va_P D vwCl (textW ck ta (gX2_endJoin T )) H := hP
                  have hD : va_D (va_A (textW ck ta T) s.heap.size) (textW ck ta (gX2_endJoin T )) := hD
                  refine lv_iconst (v := 1) hx hb dX2_takes_95 (by decide) ?_
                  exact xzret hx hb hr hlk hP hD hS (Or.inr rfl) (congrArg (fun z => z.1) (show gX2_takes T a1 = (1, (gX2_endJoin T )) from (Eq.trans (if_neg c_4) (Eq.trans (if_neg c_16) (Eq.trans (if_pos c_22) (Eq.trans (if_neg c_38) (Eq.trans (if_pos c_48) (Eq.trans (if_neg c_54) (Eq.trans (if_pos c_82) (Eq.trans (if_pos c_88) rfl)))))))))).symm (congrArg (fun z => textW ck ta z.2) (show gX2_takes T a1 = (1, (gX2_endJoin T )) from (Eq.trans (if_neg c_4) (Eq.trans (if_neg c_16) (Eq.trans (if_pos c_22) (Eq.trans (if_neg c_38) (Eq.trans (if_pos c_48) (Eq.trans (if_neg c_54) (Eq.trans (if_pos c_82) (Eq.trans (if_pos c_88) rfl)))))))))).symm dX2_takes_96
            · --f
              refine lv_aload_n hx hb dX2_takes_57 rfl (lv_at hl 0 rfl) ?_
              refine lv_aload_n hx hb dX2_takes_58 rfl (lv_at hl 0 rfl) ?_
              refine va_get (D := D) (ci := 2) (v := .int (T.1 5)) (C := RX2) (T := TX2) (N := 10) hx hb hts hinX2 hown hK hP 0 rfl rfl 9 (by decide) (hts (.fieldLink RX2 33 "JoinGrants$JoinText" "number" "I") (List.mem_of_getElem? (i := 2) rfl)) (fun _ h9 => h9) rfl dX2_takes_59 ?_
              refine va_put (D := D) (ci := 2) (v := .int (T.1 5)) (ty := .int) (C := RX2) (T := TX2) (N := 10) hx hb hts hinX2 tyX2 tyX2_ok nmX2 hown hK hP hD hS 0 rfl rfl 8 (by decide) (hts (.fieldLink RX2 50 "JoinGrants$JoinText" "left" "I") (List.mem_of_getElem? (i := 3) rfl)) (fun _ h9 => h9) rfl (by decide +kernel) rfl rfl (Nat.le_of_ble_eq_true rfl) dX2_takes_62 (fun H locs hP hD hS => ?_)
              have hP : va_P D vwCl (textW ck ta (upd T.1 4 (T.1 5), T.2.1, T.2.2.1, T.2.2.2.1, T.2.2.2.2)) H := hP
              have hD : va_D (va_A (textW ck ta T) s.heap.size) (textW ck ta (upd T.1 4 (T.1 5), T.2.1, T.2.2.1, T.2.2.2.1, T.2.2.2.2)) := hD
              refine lv_aload_n hx hb dX2_takes_65 rfl (lv_at hl 0 rfl) ?_
              refine lv_iconst (v := 0) hx hb dX2_takes_66 (by decide) ?_
              refine va_put (D := D) (ci := 2) (v := .int 0) (ty := .int) (C := RX2) (T := TX2) (N := 10) hx hb hts hinX2 tyX2 tyX2_ok nmX2 hown hK hP hD hS 0 rfl rfl 9 (by decide) (hts (.fieldLink RX2 33 "JoinGrants$JoinText" "number" "I") (List.mem_of_getElem? (i := 2) rfl)) (fun _ h9 => h9) rfl (by decide +kernel) rfl rfl (Nat.le_of_ble_eq_true rfl) dX2_takes_67 (fun H locs hP hD hS => ?_)
              have hP : va_P D vwCl (textW ck ta (upd (upd T.1 4 (T.1 5)) 5 0, T.2.1, T.2.2.1, T.2.2.2.1, T.2.2.2.2)) H := hP
              have hD : va_D (va_A (textW ck ta T) s.heap.size) (textW ck ta (upd (upd T.1 4 (T.1 5)) 5 0, T.2.1, T.2.2.1, T.2.2.2.1, T.2.2.2.2)) := hD
              refine lv_aload_n hx hb dX2_takes_70 rfl (lv_at hl 0 rfl) ?_
              refine lv_iconst (v := 2) hx hb dX2_takes_71 (by decide) ?_
              refine va_put (D := D) (ci := 2) (v := .int 2) (ty := .int) (C := RX2) (T := TX2) (N := 10) hx hb hts hinX2 tyX2 tyX2_ok nmX2 hown hK hP hD hS 0 rfl rfl 6 (by decide) (hts (.fieldLink RX2 30 "JoinGrants$JoinText" "place" "I") (List.mem_of_getElem? (i := 1) rfl)) (fun _ h9 => h9) rfl (by decide +kernel) rfl rfl (Nat.le_of_ble_eq_true rfl) dX2_takes_72 (fun H locs hP hD hS => ?_)
              have hP : va_P D vwCl (textW ck ta (upd (upd (upd T.1 4 (T.1 5)) 5 0) 2 2, T.2.1, T.2.2.1, T.2.2.2.1, T.2.2.2.2)) H := hP
              have hD : va_D (va_A (textW ck ta T) s.heap.size) (textW ck ta (upd (upd (upd T.1 4 (T.1 5)) 5 0) 2 2, T.2.1, T.2.2.1, T.2.2.2.1, T.2.2.2.2)) := hD
              refine lv_iconst (v := 1) hx hb dX2_takes_75 (by decide) ?_
              exact xzret hx hb hr hlk hP hD hS (Or.inr rfl) (congrArg (fun z => z.1) (show gX2_takes T a1 = (1, (upd (upd (upd T.1 4 (T.1 5)) 5 0) 2 2, T.2.1, T.2.2.1, T.2.2.2.1, T.2.2.2.2)) from (Eq.trans (if_neg c_4) (Eq.trans (if_neg c_16) (Eq.trans (if_pos c_22) (Eq.trans (if_neg c_38) (Eq.trans (if_pos c_48) (Eq.trans (if_pos c_54) rfl)))))))).symm (congrArg (fun z => textW ck ta z.2) (show gX2_takes T a1 = (1, (upd (upd (upd T.1 4 (T.1 5)) 5 0) 2 2, T.2.1, T.2.2.1, T.2.2.2.1, T.2.2.2.2)) from (Eq.trans (if_neg c_4) (Eq.trans (if_neg c_16) (Eq.trans (if_pos c_22) (Eq.trans (if_neg c_38) (Eq.trans (if_pos c_48) (Eq.trans (if_pos c_54) rfl)))))))).symm dX2_takes_76
        · --f
          refine lv_iconst (v := 0) hx hb dX2_takes_41 (by decide) ?_
          exact xzret hx hb hr hlk hP hD hS (Or.inl rfl) (congrArg (fun z => z.1) (show gX2_takes T a1 = (0, T) from (Eq.trans (if_neg c_4) (Eq.trans (if_neg c_16) (Eq.trans (if_pos c_22) (Eq.trans (if_pos c_38) rfl)))))).symm (congrArg (fun z => textW ck ta z.2) (show gX2_takes T a1 = (0, T) from (Eq.trans (if_neg c_4) (Eq.trans (if_neg c_16) (Eq.trans (if_pos c_22) (Eq.trans (if_pos c_38) rfl)))))).symm dX2_takes_42
      · --f
        refine lv_aload_n hx hb dX2_takes_25 rfl (lv_at hl 0 rfl) ?_
        refine lv_iload_n hx hb dX2_takes_26 rfl (lv_at hl 1 rfl) ?_
        refine lv_bipush (v := 48) hx hb dX2_takes_27 (by decide) ?_
        refine lv_isub hx hb dX2_takes_29 ?_
        refine xreti (va_runV (As := [.int (a1 - 48)]) (rest := []) ⟨hx, hb, hml, hown, hts⟩ (mX2_takesDigit l D ck ta T (a1 - 48)  _) (cwV 1 hts gX2_takes_X2_takesDigit rfl rfl rfl (by decide +kernel) ⟨Nat.le_of_ble_eq_true rfl, Nat.le_of_ble_eq_true rfl⟩) (xpreV hN hK hP hD pm_all 0 rfl rfl rfl) rfl rfl hl.1 rfl (lv_room (Nat.le_of_ble_eq_true rfl)) dX2_takes_30 ⟨Nat.le_of_ble_eq_true rfl, Nat.le_of_ble_eq_true rfl⟩) hP hD hS hA pm_all pm_all' (fun H locs hP hD hS => ?_)
        have hP : va_P D vwCl (textW ck ta ((gX2_takesDigit T (a1 - 48)).2)) H := hP
        have hD : va_D (va_A (textW ck ta T) s.heap.size) (textW ck ta ((gX2_takesDigit T (a1 - 48)).2)) := hD
        exact xzret hx hb hr hlk hP hD hS z_X2_takesDigit (congrArg (fun z => z.1) (show gX2_takes T a1 = ((gX2_takesDigit T (a1 - 48)).1, (gX2_takesDigit T (a1 - 48)).2) from (Eq.trans (if_neg c_4) (Eq.trans (if_neg c_16) (Eq.trans (if_neg c_22) rfl))))).symm (congrArg (fun z => textW ck ta z.2) (show gX2_takes T a1 = ((gX2_takesDigit T (a1 - 48)).1, (gX2_takesDigit T (a1 - 48)).2) from (Eq.trans (if_neg c_4) (Eq.trans (if_neg c_16) (Eq.trans (if_neg c_22) rfl))))).symm dX2_takes_33
  · --f
    refine lv_aload_n hx hb dX2_takes_7 rfl (lv_at hl 0 rfl) ?_
    refine lv_iload_n hx hb dX2_takes_8 rfl (lv_at hl 1 rfl) ?_
    refine xreti (va_runV (As := [.int a1]) (rest := []) ⟨hx, hb, hml, hown, hts⟩ (mX2_takesWay l D ck ta T a1  _) (cwV 1 hts gX2_takes_X2_takesWay rfl rfl rfl (by decide +kernel) ⟨Nat.le_of_ble_eq_true rfl, Nat.le_of_ble_eq_true rfl⟩) (xpreV hN hK hP hD pm_all 0 rfl rfl rfl) rfl rfl hl.1 rfl (lv_room (Nat.le_of_ble_eq_true rfl)) dX2_takes_9 ⟨Nat.le_of_ble_eq_true rfl, Nat.le_of_ble_eq_true rfl⟩) hP hD hS hA pm_all pm_all' (fun H locs hP hD hS => ?_)
    have hP : va_P D vwCl (textW ck ta ((gX2_takesWay T a1).2)) H := hP
    have hD : va_D (va_A (textW ck ta T) s.heap.size) (textW ck ta ((gX2_takesWay T a1).2)) := hD
    exact xzret hx hb hr hlk hP hD hS z_X2_takesWay (congrArg (fun z => z.1) (show gX2_takes T a1 = ((gX2_takesWay T a1).1, (gX2_takesWay T a1).2) from (Eq.trans (if_pos c_4) rfl))).symm (congrArg (fun z => textW ck ta z.2) (show gX2_takes T a1 = ((gX2_takesWay T a1).1, (gX2_takesWay T a1).2) from (Eq.trans (if_pos c_4) rfl))).symm dX2_takes_12

theorem nn_X2_endJoin {T : TS} (hj : ¬ T.1 1 < 0) : ¬ (gX2_endJoin T).1 1 < 0 := by
  have key : ∀ x : Int32, ¬ x < 0 → ¬ nI 12 ≤ x → ¬ (x + 1) < 0 := by
    intro x h0 h1
    obtain ⟨j, hj, rfl⟩ := nI_of h0
    have : j < 12 := Nat.lt_of_not_le fun h => h1 (nI_le h hj)
    rw [nI_1]
    exact nI_pos (by omega)
  unfold gX2_endJoin
  (repeat' split) <;> first | (apply key _ hj; assumption) | exact hj
theorem nn_X2_takesWay {T : TS} {a1 : Int32} (hj : ¬ T.1 1 < 0) : ¬ (gX2_takesWay T a1).2.1 1 < 0 := by
  unfold gX2_takesWay
  (repeat' split) <;> exact hj
theorem nn_X2_takesDigit {T : TS} {a1 : Int32} (hj : ¬ T.1 1 < 0) : ¬ (gX2_takesDigit T a1).2.1 1 < 0 := by
  unfold gX2_takesDigit
  (repeat' split) <;> exact hj
theorem nn_X2_takes {T : TS} {a1 : Int32} (hj : ¬ T.1 1 < 0) : ¬ (gX2_takes T a1).2.1 1 < 0 := by
  unfold gX2_takes
  (repeat' split) <;> first | with_reducible exact nn_X2_takesWay hj | with_reducible exact nn_X2_takesDigit hj | with_reducible exact nn_X2_endJoin hj | exact hj

def rmX2_read : Room := { frames := 2, cells := 0, slots := 0, locals := 43 }
def gX2_read_L17 (T : TS) : Nat → Nat → TS → Int32 × TS
  | 0, i, T1 => (if (T1.1 0) ≤ (nI i) then (if (T1.1 2) = 2 then (if (T1.1 5) = 0 then (T1.1 0, T1) else ((-1), (gX2_endJoin T1 ))) else (T1.1 0, T1)) else (if (T1.1 2) = 2 then (if (T1.1 5) = 0 then (T1.1 0, T1) else ((-1), (gX2_endJoin T1 ))) else (T1.1 0, T1)))
  | f + 1, i, T1 => (if (T1.1 0) ≤ (nI i) then (if (T1.1 2) = 2 then (if (T1.1 5) = 0 then (T1.1 0, T1) else ((-1), (gX2_endJoin T1 ))) else (T1.1 0, T1)) else (if ((gX2_takes T1 (T1.2.1 i)).1) = 0 then ((nI i), (gX2_takes T1 (T1.2.1 i)).2) else (gX2_read_L17 T f (i + 1) ((gX2_takes T1 (T1.2.1 i)).2))))
def gX2_read (T : TS) : Int32 × TS := (gX2_read_L17 T 60 0 (upd (upd (upd T.1 1 0) 2 0) 5 0, T.2.1, T.2.2.1, T.2.2.2.1, T.2.2.2.2))
set_option maxHeartbeats 4000000 in
set_option maxRecDepth 100000 in
theorem mX2_read (l : Launch) (D : va_G) (ck : Nat → ClassId) (ta : Nat → Nat) (T : TS) : xMi l yX2_read wsX2_read rmX2_read D ck [.ref (ta 0)] (textW ck ta T) (textW ck ta ((gX2_read T).2)) ((gX2_read T).1) 0 0 := by
  refine xMet (by decide) rfl (Nat.le_of_ble_eq_true rfl) ?_
  intro zp ze s zm zb zt zc hx hb hr hml hown hts hlk hnm hN hK hP hD ls hl
  have hown : s.vm.findClass RX2 = some zm.cls := hown
  have hl : lv_has ls 2 [(0, .ref (ta 0))] := hl
  have hS : va_S (va_A (textW ck ta T) s.heap.size) s.heap s.heap [] := va_S.rf
  have hA : ∀ zq : Nat, s.heap.size ≤ zq → va_A (textW ck ta T) s.heap.size zq := fun zq h => Or.inr h
  have hinX2 : ∀ w ∈ u_ws RX2 TX2 10, w ∈ wsX2_read := by decide +kernel
  refine lv_aload_n hx hb dX2_read_0 rfl (lv_at hl 0 rfl) ?_
  refine lv_iconst (v := 0) hx hb dX2_read_1 (by decide) ?_
  refine va_put (D := D) (ci := 2) (v := .int 0) (ty := .int) (C := RX2) (T := TX2) (N := 10) hx hb hts hinX2 tyX2 tyX2_ok nmX2 hown hK hP hD hS 0 rfl rfl 5 (by decide) (hts (.fieldLink RX2 27 "JoinGrants$JoinText" "joins" "I") (List.mem_of_getElem? (i := 1) rfl)) (fun _ h9 => h9) rfl (by decide +kernel) rfl rfl (Nat.le_of_ble_eq_true rfl) dX2_read_2 (fun H locs hP hD hS => ?_)
  have hP : va_P D vwCl (textW ck ta (upd T.1 1 0, T.2.1, T.2.2.1, T.2.2.2.1, T.2.2.2.2)) H := hP
  have hD : va_D (va_A (textW ck ta T) s.heap.size) (textW ck ta (upd T.1 1 0, T.2.1, T.2.2.1, T.2.2.2.1, T.2.2.2.2)) := hD
  refine lv_aload_n hx hb dX2_read_5 rfl (lv_at hl 0 rfl) ?_
  refine lv_iconst (v := 0) hx hb dX2_read_6 (by decide) ?_
  refine va_put (D := D) (ci := 2) (v := .int 0) (ty := .int) (C := RX2) (T := TX2) (N := 10) hx hb hts hinX2 tyX2 tyX2_ok nmX2 hown hK hP hD hS 0 rfl rfl 6 (by decide) (hts (.fieldLink RX2 30 "JoinGrants$JoinText" "place" "I") (List.mem_of_getElem? (i := 2) rfl)) (fun _ h9 => h9) rfl (by decide +kernel) rfl rfl (Nat.le_of_ble_eq_true rfl) dX2_read_7 (fun H locs hP hD hS => ?_)
  have hP : va_P D vwCl (textW ck ta (upd (upd T.1 1 0) 2 0, T.2.1, T.2.2.1, T.2.2.2.1, T.2.2.2.2)) H := hP
  have hD : va_D (va_A (textW ck ta T) s.heap.size) (textW ck ta (upd (upd T.1 1 0) 2 0, T.2.1, T.2.2.1, T.2.2.2.1, T.2.2.2.2)) := hD
  refine lv_aload_n hx hb dX2_read_10 rfl (lv_at hl 0 rfl) ?_
  refine lv_iconst (v := 0) hx hb dX2_read_11 (by decide) ?_
  refine va_put (D := D) (ci := 2) (v := .int 0) (ty := .int) (C := RX2) (T := TX2) (N := 10) hx hb hts hinX2 tyX2 tyX2_ok nmX2 hown hK hP hD hS 0 rfl rfl 9 (by decide) (hts (.fieldLink RX2 33 "JoinGrants$JoinText" "number" "I") (List.mem_of_getElem? (i := 3) rfl)) (fun _ h9 => h9) rfl (by decide +kernel) rfl rfl (Nat.le_of_ble_eq_true rfl) dX2_read_12 (fun H locs hP hD hS => ?_)
  have hP : va_P D vwCl (textW ck ta (upd (upd (upd T.1 1 0) 2 0) 5 0, T.2.1, T.2.2.1, T.2.2.2.1, T.2.2.2.2)) H := hP
  have hD : va_D (va_A (textW ck ta T) s.heap.size) (textW ck ta (upd (upd (upd T.1 1 0) 2 0) 5 0, T.2.1, T.2.2.1, T.2.2.2.1, T.2.2.2.2)) := hD
  refine lv_iconst (v := (nI 0)) hx hb dX2_read_15 (by decide) ?_
  refine lv_istore_n (lv' := [(1, .int (nI 0)), (0, .ref (ta 0))]) hx hb dX2_read_16 rfl hl (by decide) rfl (fun ls hl => ?_)
  have loop17 : ∀ (f : Nat) (i : Nat) (T1 : TS), (i + f = 60) → (¬ T1.1 1 < 0) → gX2_read T = gX2_read_L17 T f i T1 → ∀ (H : Heap) (locs : List Loc) (ls : Array Slot), va_P D vwCl (textW ck ta T1) H → va_D (va_A (textW ck ta T) s.heap.size) (textW ck ta T1) → va_S (va_A (textW ck ta T) s.heap.size) s.heap H locs → lv_has ls 2 [(0, .ref (ta 0)), (1, .int (nI i))] → W zp l ze rmX2_read s zm ([.ref (ta 0)] : List Value).toArray zb zt zc H locs 0 0 (MQ zb (xQi D (textW ck ta T) (textW ck ta ((gX2_read T).2)) ((gX2_read T).1) s.heap.size) ([.ref (ta 0)] : List Value).toArray s 0 0 (va_A (textW ck ta T) s.heap.size)) (F0 zm 17 ls []) := by
    intro f
    induction f with
    | zero =>
      intro i T1 hif hj hg H locs ls hP hD hS hl
      refine lv_iload_n hx hb dX2_read_17 rfl (lv_at hl 1 rfl) ?_
      refine lv_aload_n hx hb dX2_read_18 rfl (lv_at hl 0 rfl) ?_
      refine va_get (D := D) (ci := 2) (v := .int (T1.1 0)) (C := RX2) (T := TX2) (N := 10) hx hb hts hinX2 hown hK hP 0 rfl rfl 1 (by decide) (hts (.fieldLink RX2 23 "JoinGrants$JoinText" "length" "I") (List.mem_of_getElem? (i := 4) rfl)) (fun _ h9 => h9) rfl dX2_read_19 ?_
      refine lv_icmp_ge (tgt := 55) hx hb dX2_read_22 (by decide) (fun c_22 => ?_) (fun c_22 => ?_)
      · --t
        refine lv_aload_n hx hb dX2_read_55 rfl (lv_at hl 0 rfl) ?_
        refine va_get (D := D) (ci := 2) (v := .int (T1.1 2)) (C := RX2) (T := TX2) (N := 10) hx hb hts hinX2 hown hK hP 0 rfl rfl 6 (by decide) (hts (.fieldLink RX2 30 "JoinGrants$JoinText" "place" "I") (List.mem_of_getElem? (i := 2) rfl)) (fun _ h9 => h9) rfl dX2_read_56 ?_
        refine lv_iconst (v := 2) hx hb dX2_read_59 (by decide) ?_
        refine lv_icmp_ne (tgt := 70) hx hb dX2_read_60 (by decide) (fun c_60 => ?_) (fun c_60 => ?_)
        · --t
          refine lv_aload_n hx hb dX2_read_70 rfl (lv_at hl 0 rfl) ?_
          refine va_get (D := D) (ci := 2) (v := .int (T1.1 0)) (C := RX2) (T := TX2) (N := 10) hx hb hts hinX2 hown hK hP 0 rfl rfl 1 (by decide) (hts (.fieldLink RX2 23 "JoinGrants$JoinText" "length" "I") (List.mem_of_getElem? (i := 4) rfl)) (fun _ h9 => h9) rfl dX2_read_71 ?_
          exact xiret hx hb hr hlk hP hD hS (congrArg (fun z => z.1) (hg.trans (show gX2_read_L17 T 0 i T1 = (T1.1 0, T1) from (Eq.trans (if_pos c_22) (Eq.trans (if_neg c_60) rfl))))).symm (congrArg (fun z => textW ck ta z.2) (hg.trans (show gX2_read_L17 T 0 i T1 = (T1.1 0, T1) from (Eq.trans (if_pos c_22) (Eq.trans (if_neg c_60) rfl))))).symm dX2_read_74
        · --f
          refine lv_aload_n hx hb dX2_read_63 rfl (lv_at hl 0 rfl) ?_
          refine va_get (D := D) (ci := 2) (v := .int (T1.1 5)) (C := RX2) (T := TX2) (N := 10) hx hb hts hinX2 hown hK hP 0 rfl rfl 9 (by decide) (hts (.fieldLink RX2 33 "JoinGrants$JoinText" "number" "I") (List.mem_of_getElem? (i := 3) rfl)) (fun _ h9 => h9) rfl dX2_read_64 ?_
          refine lv_if_ne (tgt := 75) hx hb dX2_read_67 (by decide) (fun c_67 => ?_) (fun c_67 => ?_)
          · --t
            refine lv_aload_n hx hb dX2_read_75 rfl (lv_at hl 0 rfl) ?_
            refine xretv (va_runV (As := []) (rest := []) ⟨hx, hb, hml, hown, hts⟩ (mX2_endJoin l D ck ta T1  hj _) (cwV 0 hts gX2_read_X2_endJoin rfl rfl rfl (by decide +kernel) ⟨Nat.le_of_ble_eq_true rfl, Nat.le_of_ble_eq_true rfl⟩) (xpreV hN hK hP hD pm_all 0 rfl rfl rfl) rfl rfl hl.1 rfl (lv_room (Nat.le_of_ble_eq_true rfl)) dX2_read_76 ⟨Nat.le_of_ble_eq_true rfl, Nat.le_of_ble_eq_true rfl⟩) hP hD hS hA pm_all pm_all' (fun H locs hP hD hS => ?_)
            have hP : va_P D vwCl (textW ck ta (gX2_endJoin T1 )) H := hP
            have hD : va_D (va_A (textW ck ta T) s.heap.size) (textW ck ta (gX2_endJoin T1 )) := hD
            refine lv_iconst (v := (-1)) hx hb dX2_read_79 (by decide) ?_
            exact xiret hx hb hr hlk hP hD hS (congrArg (fun z => z.1) (hg.trans (show gX2_read_L17 T 0 i T1 = ((-1), (gX2_endJoin T1 )) from (Eq.trans (if_pos c_22) (Eq.trans (if_pos c_60) (Eq.trans (if_neg c_67) rfl)))))).symm (congrArg (fun z => textW ck ta z.2) (hg.trans (show gX2_read_L17 T 0 i T1 = ((-1), (gX2_endJoin T1 )) from (Eq.trans (if_pos c_22) (Eq.trans (if_pos c_60) (Eq.trans (if_neg c_67) rfl)))))).symm dX2_read_80
          · --f
            refine lv_aload_n hx hb dX2_read_70 rfl (lv_at hl 0 rfl) ?_
            refine va_get (D := D) (ci := 2) (v := .int (T1.1 0)) (C := RX2) (T := TX2) (N := 10) hx hb hts hinX2 hown hK hP 0 rfl rfl 1 (by decide) (hts (.fieldLink RX2 23 "JoinGrants$JoinText" "length" "I") (List.mem_of_getElem? (i := 4) rfl)) (fun _ h9 => h9) rfl dX2_read_71 ?_
            exact xiret hx hb hr hlk hP hD hS (congrArg (fun z => z.1) (hg.trans (show gX2_read_L17 T 0 i T1 = (T1.1 0, T1) from (Eq.trans (if_pos c_22) (Eq.trans (if_pos c_60) (Eq.trans (if_pos c_67) rfl)))))).symm (congrArg (fun z => textW ck ta z.2) (hg.trans (show gX2_read_L17 T 0 i T1 = (T1.1 0, T1) from (Eq.trans (if_pos c_22) (Eq.trans (if_pos c_60) (Eq.trans (if_pos c_67) rfl)))))).symm dX2_read_74
      · --f
        refine lv_iload_n hx hb dX2_read_25 rfl (lv_at hl 1 rfl) ?_
        refine lv_aload_n hx hb dX2_read_26 rfl (lv_at hl 0 rfl) ?_
        refine va_get (D := D) (ci := 2) (v := .ref (ta 1)) (C := RX2) (T := TX2) (N := 10) hx hb hts hinX2 hown hK hP 0 rfl rfl 0 (by decide) (hts (.fieldLink RX2 9 "JoinGrants$JoinText" "characters" "[C") (List.mem_of_getElem? (i := 5) rfl)) (fun _ h9 => h9) rfl dX2_read_27 ?_
        refine va_alen hx hb hK hP 1 1 rfl rfl (v := (nI 60)) rfl dX2_read_30 ?_
        refine lv_icmp_ge (tgt := 55) hx hb dX2_read_31 (by decide) (fun c_31 => ?_) (fun c_31 => ?_)
        · --t
          refine lv_aload_n hx hb dX2_read_55 rfl (lv_at hl 0 rfl) ?_
          refine va_get (D := D) (ci := 2) (v := .int (T1.1 2)) (C := RX2) (T := TX2) (N := 10) hx hb hts hinX2 hown hK hP 0 rfl rfl 6 (by decide) (hts (.fieldLink RX2 30 "JoinGrants$JoinText" "place" "I") (List.mem_of_getElem? (i := 2) rfl)) (fun _ h9 => h9) rfl dX2_read_56 ?_
          refine lv_iconst (v := 2) hx hb dX2_read_59 (by decide) ?_
          refine lv_icmp_ne (tgt := 70) hx hb dX2_read_60 (by decide) (fun c_60 => ?_) (fun c_60 => ?_)
          · --t
            refine lv_aload_n hx hb dX2_read_70 rfl (lv_at hl 0 rfl) ?_
            refine va_get (D := D) (ci := 2) (v := .int (T1.1 0)) (C := RX2) (T := TX2) (N := 10) hx hb hts hinX2 hown hK hP 0 rfl rfl 1 (by decide) (hts (.fieldLink RX2 23 "JoinGrants$JoinText" "length" "I") (List.mem_of_getElem? (i := 4) rfl)) (fun _ h9 => h9) rfl dX2_read_71 ?_
            exact xiret hx hb hr hlk hP hD hS (congrArg (fun z => z.1) (hg.trans (show gX2_read_L17 T 0 i T1 = (T1.1 0, T1) from (Eq.trans (if_neg c_22) (Eq.trans (if_neg c_60) rfl))))).symm (congrArg (fun z => textW ck ta z.2) (hg.trans (show gX2_read_L17 T 0 i T1 = (T1.1 0, T1) from (Eq.trans (if_neg c_22) (Eq.trans (if_neg c_60) rfl))))).symm dX2_read_74
          · --f
            refine lv_aload_n hx hb dX2_read_63 rfl (lv_at hl 0 rfl) ?_
            refine va_get (D := D) (ci := 2) (v := .int (T1.1 5)) (C := RX2) (T := TX2) (N := 10) hx hb hts hinX2 hown hK hP 0 rfl rfl 9 (by decide) (hts (.fieldLink RX2 33 "JoinGrants$JoinText" "number" "I") (List.mem_of_getElem? (i := 3) rfl)) (fun _ h9 => h9) rfl dX2_read_64 ?_
            refine lv_if_ne (tgt := 75) hx hb dX2_read_67 (by decide) (fun c_67 => ?_) (fun c_67 => ?_)
            · --t
              refine lv_aload_n hx hb dX2_read_75 rfl (lv_at hl 0 rfl) ?_
              refine xretv (va_runV (As := []) (rest := []) ⟨hx, hb, hml, hown, hts⟩ (mX2_endJoin l D ck ta T1  hj _) (cwV 0 hts gX2_read_X2_endJoin rfl rfl rfl (by decide +kernel) ⟨Nat.le_of_ble_eq_true rfl, Nat.le_of_ble_eq_true rfl⟩) (xpreV hN hK hP hD pm_all 0 rfl rfl rfl) rfl rfl hl.1 rfl (lv_room (Nat.le_of_ble_eq_true rfl)) dX2_read_76 ⟨Nat.le_of_ble_eq_true rfl, Nat.le_of_ble_eq_true rfl⟩) hP hD hS hA pm_all pm_all' (fun H locs hP hD hS => ?_)
              have hP : va_P D vwCl (textW ck ta (gX2_endJoin T1 )) H := hP
              have hD : va_D (va_A (textW ck ta T) s.heap.size) (textW ck ta (gX2_endJoin T1 )) := hD
              refine lv_iconst (v := (-1)) hx hb dX2_read_79 (by decide) ?_
              exact xiret hx hb hr hlk hP hD hS (congrArg (fun z => z.1) (hg.trans (show gX2_read_L17 T 0 i T1 = ((-1), (gX2_endJoin T1 )) from (Eq.trans (if_neg c_22) (Eq.trans (if_pos c_60) (Eq.trans (if_neg c_67) rfl)))))).symm (congrArg (fun z => textW ck ta z.2) (hg.trans (show gX2_read_L17 T 0 i T1 = ((-1), (gX2_endJoin T1 )) from (Eq.trans (if_neg c_22) (Eq.trans (if_pos c_60) (Eq.trans (if_neg c_67) rfl)))))).symm dX2_read_80
            · --f
              refine lv_aload_n hx hb dX2_read_70 rfl (lv_at hl 0 rfl) ?_
              refine va_get (D := D) (ci := 2) (v := .int (T1.1 0)) (C := RX2) (T := TX2) (N := 10) hx hb hts hinX2 hown hK hP 0 rfl rfl 1 (by decide) (hts (.fieldLink RX2 23 "JoinGrants$JoinText" "length" "I") (List.mem_of_getElem? (i := 4) rfl)) (fun _ h9 => h9) rfl dX2_read_71 ?_
              exact xiret hx hb hr hlk hP hD hS (congrArg (fun z => z.1) (hg.trans (show gX2_read_L17 T 0 i T1 = (T1.1 0, T1) from (Eq.trans (if_neg c_22) (Eq.trans (if_pos c_60) (Eq.trans (if_pos c_67) rfl)))))).symm (congrArg (fun z => textW ck ta z.2) (hg.trans (show gX2_read_L17 T 0 i T1 = (T1.1 0, T1) from (Eq.trans (if_neg c_22) (Eq.trans (if_pos c_60) (Eq.trans (if_pos c_67) rfl)))))).symm dX2_read_74
        · --f
          exact absurd (nI_le (by omega) (by omega)) c_31
    | succ f ih17 =>
      intro i T1 hif hj hg H locs ls hP hD hS hl
      refine lv_iload_n hx hb dX2_read_17 rfl (lv_at hl 1 rfl) ?_
      refine lv_aload_n hx hb dX2_read_18 rfl (lv_at hl 0 rfl) ?_
      refine va_get (D := D) (ci := 2) (v := .int (T1.1 0)) (C := RX2) (T := TX2) (N := 10) hx hb hts hinX2 hown hK hP 0 rfl rfl 1 (by decide) (hts (.fieldLink RX2 23 "JoinGrants$JoinText" "length" "I") (List.mem_of_getElem? (i := 4) rfl)) (fun _ h9 => h9) rfl dX2_read_19 ?_
      refine lv_icmp_ge (tgt := 55) hx hb dX2_read_22 (by decide) (fun c_22 => ?_) (fun c_22 => ?_)
      · --t
        refine lv_aload_n hx hb dX2_read_55 rfl (lv_at hl 0 rfl) ?_
        refine va_get (D := D) (ci := 2) (v := .int (T1.1 2)) (C := RX2) (T := TX2) (N := 10) hx hb hts hinX2 hown hK hP 0 rfl rfl 6 (by decide) (hts (.fieldLink RX2 30 "JoinGrants$JoinText" "place" "I") (List.mem_of_getElem? (i := 2) rfl)) (fun _ h9 => h9) rfl dX2_read_56 ?_
        refine lv_iconst (v := 2) hx hb dX2_read_59 (by decide) ?_
        refine lv_icmp_ne (tgt := 70) hx hb dX2_read_60 (by decide) (fun c_60 => ?_) (fun c_60 => ?_)
        · --t
          refine lv_aload_n hx hb dX2_read_70 rfl (lv_at hl 0 rfl) ?_
          refine va_get (D := D) (ci := 2) (v := .int (T1.1 0)) (C := RX2) (T := TX2) (N := 10) hx hb hts hinX2 hown hK hP 0 rfl rfl 1 (by decide) (hts (.fieldLink RX2 23 "JoinGrants$JoinText" "length" "I") (List.mem_of_getElem? (i := 4) rfl)) (fun _ h9 => h9) rfl dX2_read_71 ?_
          exact xiret hx hb hr hlk hP hD hS (congrArg (fun z => z.1) (hg.trans (show gX2_read_L17 T (f + 1) i T1 = (T1.1 0, T1) from (Eq.trans (if_pos c_22) (Eq.trans (if_neg c_60) rfl))))).symm (congrArg (fun z => textW ck ta z.2) (hg.trans (show gX2_read_L17 T (f + 1) i T1 = (T1.1 0, T1) from (Eq.trans (if_pos c_22) (Eq.trans (if_neg c_60) rfl))))).symm dX2_read_74
        · --f
          refine lv_aload_n hx hb dX2_read_63 rfl (lv_at hl 0 rfl) ?_
          refine va_get (D := D) (ci := 2) (v := .int (T1.1 5)) (C := RX2) (T := TX2) (N := 10) hx hb hts hinX2 hown hK hP 0 rfl rfl 9 (by decide) (hts (.fieldLink RX2 33 "JoinGrants$JoinText" "number" "I") (List.mem_of_getElem? (i := 3) rfl)) (fun _ h9 => h9) rfl dX2_read_64 ?_
          refine lv_if_ne (tgt := 75) hx hb dX2_read_67 (by decide) (fun c_67 => ?_) (fun c_67 => ?_)
          · --t
            refine lv_aload_n hx hb dX2_read_75 rfl (lv_at hl 0 rfl) ?_
            refine xretv (va_runV (As := []) (rest := []) ⟨hx, hb, hml, hown, hts⟩ (mX2_endJoin l D ck ta T1  hj _) (cwV 0 hts gX2_read_X2_endJoin rfl rfl rfl (by decide +kernel) ⟨Nat.le_of_ble_eq_true rfl, Nat.le_of_ble_eq_true rfl⟩) (xpreV hN hK hP hD pm_all 0 rfl rfl rfl) rfl rfl hl.1 rfl (lv_room (Nat.le_of_ble_eq_true rfl)) dX2_read_76 ⟨Nat.le_of_ble_eq_true rfl, Nat.le_of_ble_eq_true rfl⟩) hP hD hS hA pm_all pm_all' (fun H locs hP hD hS => ?_)
            have hP : va_P D vwCl (textW ck ta (gX2_endJoin T1 )) H := hP
            have hD : va_D (va_A (textW ck ta T) s.heap.size) (textW ck ta (gX2_endJoin T1 )) := hD
            refine lv_iconst (v := (-1)) hx hb dX2_read_79 (by decide) ?_
            exact xiret hx hb hr hlk hP hD hS (congrArg (fun z => z.1) (hg.trans (show gX2_read_L17 T (f + 1) i T1 = ((-1), (gX2_endJoin T1 )) from (Eq.trans (if_pos c_22) (Eq.trans (if_pos c_60) (Eq.trans (if_neg c_67) rfl)))))).symm (congrArg (fun z => textW ck ta z.2) (hg.trans (show gX2_read_L17 T (f + 1) i T1 = ((-1), (gX2_endJoin T1 )) from (Eq.trans (if_pos c_22) (Eq.trans (if_pos c_60) (Eq.trans (if_neg c_67) rfl)))))).symm dX2_read_80
          · --f
            refine lv_aload_n hx hb dX2_read_70 rfl (lv_at hl 0 rfl) ?_
            refine va_get (D := D) (ci := 2) (v := .int (T1.1 0)) (C := RX2) (T := TX2) (N := 10) hx hb hts hinX2 hown hK hP 0 rfl rfl 1 (by decide) (hts (.fieldLink RX2 23 "JoinGrants$JoinText" "length" "I") (List.mem_of_getElem? (i := 4) rfl)) (fun _ h9 => h9) rfl dX2_read_71 ?_
            exact xiret hx hb hr hlk hP hD hS (congrArg (fun z => z.1) (hg.trans (show gX2_read_L17 T (f + 1) i T1 = (T1.1 0, T1) from (Eq.trans (if_pos c_22) (Eq.trans (if_pos c_60) (Eq.trans (if_pos c_67) rfl)))))).symm (congrArg (fun z => textW ck ta z.2) (hg.trans (show gX2_read_L17 T (f + 1) i T1 = (T1.1 0, T1) from (Eq.trans (if_pos c_22) (Eq.trans (if_pos c_60) (Eq.trans (if_pos c_67) rfl)))))).symm dX2_read_74
      · --f
        refine lv_iload_n hx hb dX2_read_25 rfl (lv_at hl 1 rfl) ?_
        refine lv_aload_n hx hb dX2_read_26 rfl (lv_at hl 0 rfl) ?_
        refine va_get (D := D) (ci := 2) (v := .ref (ta 1)) (C := RX2) (T := TX2) (N := 10) hx hb hts hinX2 hown hK hP 0 rfl rfl 0 (by decide) (hts (.fieldLink RX2 9 "JoinGrants$JoinText" "characters" "[C") (List.mem_of_getElem? (i := 5) rfl)) (fun _ h9 => h9) rfl dX2_read_27 ?_
        refine va_alen hx hb hK hP 1 1 rfl rfl (v := (nI 60)) rfl dX2_read_30 ?_
        refine lv_icmp_ge (tgt := 55) hx hb dX2_read_31 (by decide) (fun c_31 => ?_) (fun c_31 => ?_)
        · --t
          exact absurd c_31 (nI_ge (by omega) (by omega))
        · --f
          refine lv_aload_n hx hb dX2_read_34 rfl (lv_at hl 0 rfl) ?_
          refine lv_aload_n hx hb dX2_read_35 rfl (lv_at hl 0 rfl) ?_
          refine va_get (D := D) (ci := 2) (v := .ref (ta 1)) (C := RX2) (T := TX2) (N := 10) hx hb hts hinX2 hown hK hP 0 rfl rfl 0 (by decide) (hts (.fieldLink RX2 9 "JoinGrants$JoinText" "characters" "[C") (List.mem_of_getElem? (i := 5) rfl)) (fun _ h9 => h9) rfl dX2_read_36 ?_
          refine lv_iload_n hx hb dX2_read_39 rfl (lv_at hl 1 rfl) ?_
          refine xcald (j := i) (nI_clamp (by omega)) hx hb hK hP 1 1 rfl rfl (vp_in_nI (by omega) (by omega)) dX2_read_40 ?_
          refine xreti (va_runV (As := [.int (T1.2.1 i)]) (rest := []) ⟨hx, hb, hml, hown, hts⟩ (mX2_takes l D ck ta T1 (T1.2.1 i) hj _) (cwV 1 hts gX2_read_X2_takes rfl rfl rfl (by decide +kernel) ⟨Nat.le_of_ble_eq_true rfl, Nat.le_of_ble_eq_true rfl⟩) (xpreV hN hK hP hD pm_all 0 rfl rfl rfl) rfl rfl hl.1 rfl (lv_room (Nat.le_of_ble_eq_true rfl)) dX2_read_41 ⟨Nat.le_of_ble_eq_true rfl, Nat.le_of_ble_eq_true rfl⟩) hP hD hS hA pm_all pm_all' (fun H locs hP hD hS => ?_)
          have hP : va_P D vwCl (textW ck ta ((gX2_takes T1 (T1.2.1 i)).2)) H := hP
          have hD : va_D (va_A (textW ck ta T) s.heap.size) (textW ck ta ((gX2_takes T1 (T1.2.1 i)).2)) := hD
          refine lv_if_ne (tgt := 49) hx hb dX2_read_44 (by decide) (fun c_44 => ?_) (fun c_44 => ?_)
          · --t
            refine lv_iinc (v := (nI (i + 1))) (lv' := [(1, .int (nI (i + 1))), (0, .ref (ta 0))]) hx hb dX2_read_49 hl (k := 1) rfl (nI_1 i) (by decide) rfl (fun ls hl => ?_)
            refine lv_goto (tgt := 17) hx hb dX2_read_52 (by decide) ?_
            exact ih17 (i + 1) ((gX2_takes T1 (T1.2.1 i)).2) (by omega) (nn_X2_takes hj) (hg.trans (show gX2_read_L17 T (f + 1) i T1 = (gX2_read_L17 T f (i + 1) ((gX2_takes T1 (T1.2.1 i)).2)) from (Eq.trans (if_neg c_22) (Eq.trans (if_neg c_44) rfl)))) _ _ _ hP hD hS (lv_sub hl [1, 0] rfl)
          · --f
            refine lv_iload_n hx hb dX2_read_47 rfl (lv_at hl 1 rfl) ?_
            exact xiret hx hb hr hlk hP hD hS (congrArg (fun z => z.1) (hg.trans (show gX2_read_L17 T (f + 1) i T1 = ((nI i), (gX2_takes T1 (T1.2.1 i)).2) from (Eq.trans (if_neg c_22) (Eq.trans (if_pos c_44) rfl))))).symm (congrArg (fun z => textW ck ta z.2) (hg.trans (show gX2_read_L17 T (f + 1) i T1 = ((nI i), (gX2_takes T1 (T1.2.1 i)).2) from (Eq.trans (if_neg c_22) (Eq.trans (if_pos c_44) rfl))))).symm dX2_read_48
  exact loop17 60 0 (upd (upd (upd T.1 1 0) 2 0) 5 0, T.2.1, T.2.2.1, T.2.2.2.1, T.2.2.2.2) (by omega) (show ¬ (0 : Int32) < 0 by decide) (show gX2_read T = (gX2_read_L17 T 60 0 (upd (upd (upd T.1 1 0) 2 0) 5 0, T.2.1, T.2.2.1, T.2.2.2.1, T.2.2.2.2)) from rfl) _ _ _ hP hD hS (lv_sub hl [1, 0] rfl)
end
