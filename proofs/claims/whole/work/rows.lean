section
-- ===== PART A: goes FIRST, ahead of the names: the tables' words, and 'selects' of the private methods out of them =====
/-- a private method of a class that the tables say can be made, by its rows of tables_1 -/
def lw_okq (q : MethodName × Nat) : Prop := (q.1.cls ≠ "java/lang/invoke/MethodHandle" ∧ q.1.cls ≠ "java/lang/invoke/VarHandle") ∧ Cond.instantiable q.1.cls q.2 ∈ tables_1 ∧ Cond.privateMethod q.1 ∈ tables_1 ∧ Cond.instanceMethod q.1 ∈ tables_1
theorem lw_p0 : lw_okq (⟨"PledgeRings", "save", "()V"⟩, 7) := ⟨⟨by decide +kernel, by decide +kernel⟩, List.mem_of_getElem? (i := 17) (by decide +kernel), List.mem_of_getElem? (i := 223) (by decide +kernel), List.mem_of_getElem? (i := 224) (by decide +kernel)⟩
theorem lw_p1 : lw_okq (⟨"PledgeRings", "dropOldest", "()V"⟩, 7) := ⟨⟨by decide +kernel, by decide +kernel⟩, List.mem_of_getElem? (i := 17) (by decide +kernel), List.mem_of_getElem? (i := 227) (by decide +kernel), List.mem_of_getElem? (i := 228) (by decide +kernel)⟩
theorem lw_p2 : lw_okq (⟨"PledgeRings$Debts", "putFirst", "(III)V"⟩, 3) := ⟨⟨by decide +kernel, by decide +kernel⟩, List.mem_of_getElem? (i := 103) (by decide +kernel), List.mem_of_getElem? (i := 258) (by decide +kernel), List.mem_of_getElem? (i := 259) (by decide +kernel)⟩
theorem lw_p3 : lw_okq (⟨"PledgeRings$Rings", "addRow", "(I)V"⟩, 4) := ⟨⟨by decide +kernel, by decide +kernel⟩, List.mem_of_getElem? (i := 97) (by decide +kernel), List.mem_of_getElem? (i := 282) (by decide +kernel), List.mem_of_getElem? (i := 283) (by decide +kernel)⟩
theorem lw_p4 : lw_okq (⟨"PledgeRings$Rings", "rowAt", "(I)I"⟩, 4) := ⟨⟨by decide +kernel, by decide +kernel⟩, List.mem_of_getElem? (i := 97) (by decide +kernel), List.mem_of_getElem? (i := 294) (by decide +kernel), List.mem_of_getElem? (i := 295) (by decide +kernel)⟩
theorem lw_p5 : lw_okq (⟨"PledgeRings$Remainder", "start", "(LPledgeRings$Book;)V"⟩, 4) := ⟨⟨by decide +kernel, by decide +kernel⟩, List.mem_of_getElem? (i := 133) (by decide +kernel), List.mem_of_getElem? (i := 355) (by decide +kernel), List.mem_of_getElem? (i := 356) (by decide +kernel)⟩
theorem lw_p6 : lw_okq (⟨"PledgeRings$Remainder", "addExcess", "(II)V"⟩, 4) := ⟨⟨by decide +kernel, by decide +kernel⟩, List.mem_of_getElem? (i := 133) (by decide +kernel), List.mem_of_getElem? (i := 360) (by decide +kernel), List.mem_of_getElem? (i := 361) (by decide +kernel)⟩
theorem lw_p7 : lw_okq (⟨"PledgeRings$Remainder", "measure", "(LPledgeRings$Book;)V"⟩, 4) := ⟨⟨by decide +kernel, by decide +kernel⟩, List.mem_of_getElem? (i := 133) (by decide +kernel), List.mem_of_getElem? (i := 367) (by decide +kernel), List.mem_of_getElem? (i := 368) (by decide +kernel)⟩
theorem lw_p8 : lw_okq (⟨"PledgeRings$Remainder", "shorten", "(LPledgeRings$Book;I)Z"⟩, 4) := ⟨⟨by decide +kernel, by decide +kernel⟩, List.mem_of_getElem? (i := 133) (by decide +kernel), List.mem_of_getElem? (i := 372) (by decide +kernel), List.mem_of_getElem? (i := 373) (by decide +kernel)⟩
theorem lw_p9 : lw_okq (⟨"PledgeRings$Remainder", "reach", "(IIII)Z"⟩, 4) := ⟨⟨by decide +kernel, by decide +kernel⟩, List.mem_of_getElem? (i := 133) (by decide +kernel), List.mem_of_getElem? (i := 376) (by decide +kernel), List.mem_of_getElem? (i := 377) (by decide +kernel)⟩
theorem lw_p10 : lw_okq (⟨"PledgeRings$Remainder", "nearestEnd", "()I"⟩, 4) := ⟨⟨by decide +kernel, by decide +kernel⟩, List.mem_of_getElem? (i := 133) (by decide +kernel), List.mem_of_getElem? (i := 380) (by decide +kernel), List.mem_of_getElem? (i := 381) (by decide +kernel)⟩
theorem lw_p11 : lw_okq (⟨"PledgeRings$Remainder", "push", "(LPledgeRings$Book;I)V"⟩, 4) := ⟨⟨by decide +kernel, by decide +kernel⟩, List.mem_of_getElem? (i := 133) (by decide +kernel), List.mem_of_getElem? (i := 385) (by decide +kernel), List.mem_of_getElem? (i := 386) (by decide +kernel)⟩
theorem lw_p12 : lw_okq (⟨"PledgeRings$Remainder", "originOf", "(LPledgeRings$Book;I)I"⟩, 4) := ⟨⟨by decide +kernel, by decide +kernel⟩, List.mem_of_getElem? (i := 133) (by decide +kernel), List.mem_of_getElem? (i := 389) (by decide +kernel), List.mem_of_getElem? (i := 390) (by decide +kernel)⟩
theorem lw_p13 : lw_okq (⟨"PledgeRings$Remainder", "promiseTo", "(I)I"⟩, 4) := ⟨⟨by decide +kernel, by decide +kernel⟩, List.mem_of_getElem? (i := 133) (by decide +kernel), List.mem_of_getElem? (i := 393) (by decide +kernel), List.mem_of_getElem? (i := 394) (by decide +kernel)⟩
theorem lw_p14 : lw_okq (⟨"PledgeRings$Remainder", "before", "(LPledgeRings$Book;I)I"⟩, 4) := ⟨⟨by decide +kernel, by decide +kernel⟩, List.mem_of_getElem? (i := 133) (by decide +kernel), List.mem_of_getElem? (i := 398) (by decide +kernel), List.mem_of_getElem? (i := 399) (by decide +kernel)⟩
theorem lw_p15 : lw_okq (⟨"PledgeRings$Remainder", "widthTo", "(LPledgeRings$Book;I)I"⟩, 4) := ⟨⟨by decide +kernel, by decide +kernel⟩, List.mem_of_getElem? (i := 133) (by decide +kernel), List.mem_of_getElem? (i := 402) (by decide +kernel), List.mem_of_getElem? (i := 403) (by decide +kernel)⟩
def lw_privs_1 : List (MethodName × Nat) := [(⟨"PledgeRings", "save", "()V"⟩, 7), (⟨"PledgeRings", "dropOldest", "()V"⟩, 7), (⟨"PledgeRings$Debts", "putFirst", "(III)V"⟩, 3), (⟨"PledgeRings$Rings", "addRow", "(I)V"⟩, 4), (⟨"PledgeRings$Rings", "rowAt", "(I)I"⟩, 4), (⟨"PledgeRings$Remainder", "start", "(LPledgeRings$Book;)V"⟩, 4), (⟨"PledgeRings$Remainder", "addExcess", "(II)V"⟩, 4), (⟨"PledgeRings$Remainder", "measure", "(LPledgeRings$Book;)V"⟩, 4), (⟨"PledgeRings$Remainder", "shorten", "(LPledgeRings$Book;I)Z"⟩, 4), (⟨"PledgeRings$Remainder", "reach", "(IIII)Z"⟩, 4), (⟨"PledgeRings$Remainder", "nearestEnd", "()I"⟩, 4), (⟨"PledgeRings$Remainder", "push", "(LPledgeRings$Book;I)V"⟩, 4), (⟨"PledgeRings$Remainder", "originOf", "(LPledgeRings$Book;I)I"⟩, 4), (⟨"PledgeRings$Remainder", "promiseTo", "(I)I"⟩, 4), (⟨"PledgeRings$Remainder", "before", "(LPledgeRings$Book;I)I"⟩, 4), (⟨"PledgeRings$Remainder", "widthTo", "(LPledgeRings$Book;I)I"⟩, 4)]
theorem lw_r1 : ∀ q ∈ lw_privs_1, lw_okq q := List.forall_mem_cons.mpr ⟨lw_p0, List.forall_mem_cons.mpr ⟨lw_p1, List.forall_mem_cons.mpr ⟨lw_p2, List.forall_mem_cons.mpr ⟨lw_p3, List.forall_mem_cons.mpr ⟨lw_p4, List.forall_mem_cons.mpr ⟨lw_p5, List.forall_mem_cons.mpr ⟨lw_p6, List.forall_mem_cons.mpr ⟨lw_p7, List.forall_mem_cons.mpr ⟨lw_p8, List.forall_mem_cons.mpr ⟨lw_p9, List.forall_mem_cons.mpr ⟨lw_p10, List.forall_mem_cons.mpr ⟨lw_p11, List.forall_mem_cons.mpr ⟨lw_p12, List.forall_mem_cons.mpr ⟨lw_p13, List.forall_mem_cons.mpr ⟨lw_p14, List.forall_mem_cons.mpr ⟨lw_p15, fun _ h => absurd h List.not_mem_nil⟩⟩⟩⟩⟩⟩⟩⟩⟩⟩⟩⟩⟩⟩⟩⟩
theorem lw_p16 : lw_okq (⟨"PledgeRings$Remainder", "costThatStays", "(LPledgeRings$Book;)I"⟩, 4) := ⟨⟨by decide +kernel, by decide +kernel⟩, List.mem_of_getElem? (i := 133) (by decide +kernel), List.mem_of_getElem? (i := 407) (by decide +kernel), List.mem_of_getElem? (i := 408) (by decide +kernel)⟩
theorem lw_p17 : lw_okq (⟨"PledgeRings$Orders", "peek", "()I"⟩, 10) := ⟨⟨by decide +kernel, by decide +kernel⟩, List.mem_of_getElem? (i := 152) (by decide +kernel), List.mem_of_getElem? (i := 453) (by decide +kernel), List.mem_of_getElem? (i := 454) (by decide +kernel)⟩
theorem lw_p18 : lw_okq (⟨"PledgeRings$Orders", "readPromise", "()Z"⟩, 10) := ⟨⟨by decide +kernel, by decide +kernel⟩, List.mem_of_getElem? (i := 152) (by decide +kernel), List.mem_of_getElem? (i := 457) (by decide +kernel), List.mem_of_getElem? (i := 458) (by decide +kernel)⟩
theorem lw_p19 : lw_okq (⟨"PledgeRings$Orders", "readDigit", "(II)I"⟩, 10) := ⟨⟨by decide +kernel, by decide +kernel⟩, List.mem_of_getElem? (i := 152) (by decide +kernel), List.mem_of_getElem? (i := 461) (by decide +kernel), List.mem_of_getElem? (i := 462) (by decide +kernel)⟩
theorem lw_p20 : lw_okq (⟨"PledgeRings$Orders", "fail", "(I)Z"⟩, 10) := ⟨⟨by decide +kernel, by decide +kernel⟩, List.mem_of_getElem? (i := 152) (by decide +kernel), List.mem_of_getElem? (i := 465) (by decide +kernel), List.mem_of_getElem? (i := 466) (by decide +kernel)⟩
theorem lw_p21 : lw_okq (⟨"PledgeRings$Orders", "readSign", "(I)Z"⟩, 10) := ⟨⟨by decide +kernel, by decide +kernel⟩, List.mem_of_getElem? (i := 152) (by decide +kernel), List.mem_of_getElem? (i := 469) (by decide +kernel), List.mem_of_getElem? (i := 470) (by decide +kernel)⟩
theorem lw_p22 : lw_okq (⟨"PledgeRings$Orders", "readNumber", "(III)I"⟩, 10) := ⟨⟨by decide +kernel, by decide +kernel⟩, List.mem_of_getElem? (i := 152) (by decide +kernel), List.mem_of_getElem? (i := 473) (by decide +kernel), List.mem_of_getElem? (i := 474) (by decide +kernel)⟩
theorem lw_p23 : lw_okq (⟨"PledgeRings", "carryOutOrder", "()Z"⟩, 7) := ⟨⟨by decide +kernel, by decide +kernel⟩, List.mem_of_getElem? (i := 17) (by decide +kernel), List.mem_of_getElem? (i := 482) (by decide +kernel), List.mem_of_getElem? (i := 483) (by decide +kernel)⟩
theorem lw_p24 : lw_okq (⟨"PledgeRings", "makeOrdered", "()Z"⟩, 7) := ⟨⟨by decide +kernel, by decide +kernel⟩, List.mem_of_getElem? (i := 17) (by decide +kernel), List.mem_of_getElem? (i := 486) (by decide +kernel), List.mem_of_getElem? (i := 487) (by decide +kernel)⟩
theorem lw_p25 : lw_okq (⟨"PledgeRings", "disputeOrdered", "(I)Z"⟩, 7) := ⟨⟨by decide +kernel, by decide +kernel⟩, List.mem_of_getElem? (i := 17) (by decide +kernel), List.mem_of_getElem? (i := 506) (by decide +kernel), List.mem_of_getElem? (i := 507) (by decide +kernel)⟩
theorem lw_p26 : lw_okq (⟨"PledgeRings", "settleOrdered", "(I)Z"⟩, 7) := ⟨⟨by decide +kernel, by decide +kernel⟩, List.mem_of_getElem? (i := 17) (by decide +kernel), List.mem_of_getElem? (i := 516) (by decide +kernel), List.mem_of_getElem? (i := 517) (by decide +kernel)⟩
theorem lw_p27 : lw_okq (⟨"PledgeRings", "countRings", "()I"⟩, 7) := ⟨⟨by decide +kernel, by decide +kernel⟩, List.mem_of_getElem? (i := 17) (by decide +kernel), List.mem_of_getElem? (i := 546) (by decide +kernel), List.mem_of_getElem? (i := 547) (by decide +kernel)⟩
theorem lw_p28 : lw_okq (⟨"java/lang/Throwable", "fillInStackTrace", "(I)Ljava/lang/Throwable;"⟩, 6) := ⟨⟨by decide +kernel, by decide +kernel⟩, List.mem_of_getElem? (i := 599) (by decide +kernel), List.mem_of_getElem? (i := 597) (by decide +kernel), List.mem_of_getElem? (i := 598) (by decide +kernel)⟩
theorem lw_p29 : lw_okq (⟨"PledgeRingsModel", "goes", "(ZZZ)Z"⟩, 30) := ⟨⟨by decide +kernel, by decide +kernel⟩, List.mem_of_getElem? (i := 834) (by decide +kernel), List.mem_of_getElem? (i := 942) (by decide +kernel), List.mem_of_getElem? (i := 943) (by decide +kernel)⟩
theorem lw_p30 : lw_okq (⟨"PledgeRingsModel", "saves", "()V"⟩, 30) := ⟨⟨by decide +kernel, by decide +kernel⟩, List.mem_of_getElem? (i := 834) (by decide +kernel), List.mem_of_getElem? (i := 946) (by decide +kernel), List.mem_of_getElem? (i := 947) (by decide +kernel)⟩
theorem lw_p31 : lw_okq (⟨"PledgeRingsModel", "isParty", "(I)Z"⟩, 30) := ⟨⟨by decide +kernel, by decide +kernel⟩, List.mem_of_getElem? (i := 834) (by decide +kernel), List.mem_of_getElem? (i := 957) (by decide +kernel), List.mem_of_getElem? (i := 958) (by decide +kernel)⟩
def lw_privs_2 : List (MethodName × Nat) := [(⟨"PledgeRings$Remainder", "costThatStays", "(LPledgeRings$Book;)I"⟩, 4), (⟨"PledgeRings$Orders", "peek", "()I"⟩, 10), (⟨"PledgeRings$Orders", "readPromise", "()Z"⟩, 10), (⟨"PledgeRings$Orders", "readDigit", "(II)I"⟩, 10), (⟨"PledgeRings$Orders", "fail", "(I)Z"⟩, 10), (⟨"PledgeRings$Orders", "readSign", "(I)Z"⟩, 10), (⟨"PledgeRings$Orders", "readNumber", "(III)I"⟩, 10), (⟨"PledgeRings", "carryOutOrder", "()Z"⟩, 7), (⟨"PledgeRings", "makeOrdered", "()Z"⟩, 7), (⟨"PledgeRings", "disputeOrdered", "(I)Z"⟩, 7), (⟨"PledgeRings", "settleOrdered", "(I)Z"⟩, 7), (⟨"PledgeRings", "countRings", "()I"⟩, 7), (⟨"java/lang/Throwable", "fillInStackTrace", "(I)Ljava/lang/Throwable;"⟩, 6), (⟨"PledgeRingsModel", "goes", "(ZZZ)Z"⟩, 30), (⟨"PledgeRingsModel", "saves", "()V"⟩, 30), (⟨"PledgeRingsModel", "isParty", "(I)Z"⟩, 30)]
theorem lw_r2 : ∀ q ∈ lw_privs_2, lw_okq q := List.forall_mem_cons.mpr ⟨lw_p16, List.forall_mem_cons.mpr ⟨lw_p17, List.forall_mem_cons.mpr ⟨lw_p18, List.forall_mem_cons.mpr ⟨lw_p19, List.forall_mem_cons.mpr ⟨lw_p20, List.forall_mem_cons.mpr ⟨lw_p21, List.forall_mem_cons.mpr ⟨lw_p22, List.forall_mem_cons.mpr ⟨lw_p23, List.forall_mem_cons.mpr ⟨lw_p24, List.forall_mem_cons.mpr ⟨lw_p25, List.forall_mem_cons.mpr ⟨lw_p26, List.forall_mem_cons.mpr ⟨lw_p27, List.forall_mem_cons.mpr ⟨lw_p28, List.forall_mem_cons.mpr ⟨lw_p29, List.forall_mem_cons.mpr ⟨lw_p30, List.forall_mem_cons.mpr ⟨lw_p31, fun _ h => absurd h List.not_mem_nil⟩⟩⟩⟩⟩⟩⟩⟩⟩⟩⟩⟩⟩⟩⟩⟩
theorem lw_p32 : lw_okq (⟨"PledgeRingsModel", "makes", "(IIII)V"⟩, 30) := ⟨⟨by decide +kernel, by decide +kernel⟩, List.mem_of_getElem? (i := 834) (by decide +kernel), List.mem_of_getElem? (i := 961) (by decide +kernel), List.mem_of_getElem? (i := 962) (by decide +kernel)⟩
theorem lw_p33 : lw_okq (⟨"PledgeRingsModel", "isPromise", "(I)Z"⟩, 30) := ⟨⟨by decide +kernel, by decide +kernel⟩, List.mem_of_getElem? (i := 834) (by decide +kernel), List.mem_of_getElem? (i := 972) (by decide +kernel), List.mem_of_getElem? (i := 973) (by decide +kernel)⟩
theorem lw_p34 : lw_okq (⟨"PledgeRingsModel", "isFree", "(I)Z"⟩, 30) := ⟨⟨by decide +kernel, by decide +kernel⟩, List.mem_of_getElem? (i := 834) (by decide +kernel), List.mem_of_getElem? (i := 980) (by decide +kernel), List.mem_of_getElem? (i := 981) (by decide +kernel)⟩
theorem lw_p35 : lw_okq (⟨"PledgeRingsModel", "countRings", "([II)I"⟩, 30) := ⟨⟨by decide +kernel, by decide +kernel⟩, List.mem_of_getElem? (i := 834) (by decide +kernel), List.mem_of_getElem? (i := 984) (by decide +kernel), List.mem_of_getElem? (i := 985) (by decide +kernel)⟩
theorem lw_p36 : lw_okq (⟨"PledgeRingsModel", "begins", "([II)V"⟩, 30) := ⟨⟨by decide +kernel, by decide +kernel⟩, List.mem_of_getElem? (i := 834) (by decide +kernel), List.mem_of_getElem? (i := 988) (by decide +kernel), List.mem_of_getElem? (i := 989) (by decide +kernel)⟩
theorem lw_p37 : lw_okq (⟨"PledgeRingsModel", "comes", "()Z"⟩, 30) := ⟨⟨by decide +kernel, by decide +kernel⟩, List.mem_of_getElem? (i := 834) (by decide +kernel), List.mem_of_getElem? (i := 992) (by decide +kernel), List.mem_of_getElem? (i := 993) (by decide +kernel)⟩
theorem lw_p38 : lw_okq (⟨"PledgeRingsModel", "canCome", "(I)Z"⟩, 30) := ⟨⟨by decide +kernel, by decide +kernel⟩, List.mem_of_getElem? (i := 834) (by decide +kernel), List.mem_of_getElem? (i := 996) (by decide +kernel), List.mem_of_getElem? (i := 997) (by decide +kernel)⟩
theorem lw_p39 : lw_okq (⟨"PledgeRingsModel", "isInRow", "(I)Z"⟩, 30) := ⟨⟨by decide +kernel, by decide +kernel⟩, List.mem_of_getElem? (i := 834) (by decide +kernel), List.mem_of_getElem? (i := 1000) (by decide +kernel), List.mem_of_getElem? (i := 1001) (by decide +kernel)⟩
theorem lw_p40 : lw_okq (⟨"PledgeRingsModel", "findsRing", "(I)Z"⟩, 30) := ⟨⟨by decide +kernel, by decide +kernel⟩, List.mem_of_getElem? (i := 834) (by decide +kernel), List.mem_of_getElem? (i := 1012) (by decide +kernel), List.mem_of_getElem? (i := 1013) (by decide +kernel)⟩
theorem lw_p41 : lw_okq (⟨"PledgeRingsModel", "roomOf", "()I"⟩, 30) := ⟨⟨by decide +kernel, by decide +kernel⟩, List.mem_of_getElem? (i := 834) (by decide +kernel), List.mem_of_getElem? (i := 1016) (by decide +kernel), List.mem_of_getElem? (i := 1017) (by decide +kernel)⟩
theorem lw_p42 : lw_okq (⟨"PledgeRingsModel", "discharges", "([II)I"⟩, 30) := ⟨⟨by decide +kernel, by decide +kernel⟩, List.mem_of_getElem? (i := 834) (by decide +kernel), List.mem_of_getElem? (i := 1023) (by decide +kernel), List.mem_of_getElem? (i := 1024) (by decide +kernel)⟩
theorem lw_p43 : lw_okq (⟨"PledgeRingsModel", "savingBy", "(I)I"⟩, 30) := ⟨⟨by decide +kernel, by decide +kernel⟩, List.mem_of_getElem? (i := 834) (by decide +kernel), List.mem_of_getElem? (i := 1027) (by decide +kernel), List.mem_of_getElem? (i := 1028) (by decide +kernel)⟩
theorem lw_p44 : lw_okq (⟨"PledgeRingsModel", "follower", "(I)I"⟩, 30) := ⟨⟨by decide +kernel, by decide +kernel⟩, List.mem_of_getElem? (i := 834) (by decide +kernel), List.mem_of_getElem? (i := 1031) (by decide +kernel), List.mem_of_getElem? (i := 1032) (by decide +kernel)⟩
theorem lw_p45 : lw_okq (⟨"PledgeRingsModel", "costBy", "(II)I"⟩, 30) := ⟨⟨by decide +kernel, by decide +kernel⟩, List.mem_of_getElem? (i := 834) (by decide +kernel), List.mem_of_getElem? (i := 1035) (by decide +kernel), List.mem_of_getElem? (i := 1036) (by decide +kernel)⟩
theorem lw_p46 : lw_okq (⟨"PledgeRingsModel", "findsBest", "([I)Z"⟩, 30) := ⟨⟨by decide +kernel, by decide +kernel⟩, List.mem_of_getElem? (i := 834) (by decide +kernel), List.mem_of_getElem? (i := 1046) (by decide +kernel), List.mem_of_getElem? (i := 1047) (by decide +kernel)⟩
theorem lw_p47 : lw_okq (⟨"PledgeRingsModel", "dischargesBest", "([I)V"⟩, 30) := ⟨⟨by decide +kernel, by decide +kernel⟩, List.mem_of_getElem? (i := 834) (by decide +kernel), List.mem_of_getElem? (i := 1050) (by decide +kernel), List.mem_of_getElem? (i := 1051) (by decide +kernel)⟩
def lw_privs_3 : List (MethodName × Nat) := [(⟨"PledgeRingsModel", "makes", "(IIII)V"⟩, 30), (⟨"PledgeRingsModel", "isPromise", "(I)Z"⟩, 30), (⟨"PledgeRingsModel", "isFree", "(I)Z"⟩, 30), (⟨"PledgeRingsModel", "countRings", "([II)I"⟩, 30), (⟨"PledgeRingsModel", "begins", "([II)V"⟩, 30), (⟨"PledgeRingsModel", "comes", "()Z"⟩, 30), (⟨"PledgeRingsModel", "canCome", "(I)Z"⟩, 30), (⟨"PledgeRingsModel", "isInRow", "(I)Z"⟩, 30), (⟨"PledgeRingsModel", "findsRing", "(I)Z"⟩, 30), (⟨"PledgeRingsModel", "roomOf", "()I"⟩, 30), (⟨"PledgeRingsModel", "discharges", "([II)I"⟩, 30), (⟨"PledgeRingsModel", "savingBy", "(I)I"⟩, 30), (⟨"PledgeRingsModel", "follower", "(I)I"⟩, 30), (⟨"PledgeRingsModel", "costBy", "(II)I"⟩, 30), (⟨"PledgeRingsModel", "findsBest", "([I)Z"⟩, 30), (⟨"PledgeRingsModel", "dischargesBest", "([I)V"⟩, 30)]
theorem lw_r3 : ∀ q ∈ lw_privs_3, lw_okq q := List.forall_mem_cons.mpr ⟨lw_p32, List.forall_mem_cons.mpr ⟨lw_p33, List.forall_mem_cons.mpr ⟨lw_p34, List.forall_mem_cons.mpr ⟨lw_p35, List.forall_mem_cons.mpr ⟨lw_p36, List.forall_mem_cons.mpr ⟨lw_p37, List.forall_mem_cons.mpr ⟨lw_p38, List.forall_mem_cons.mpr ⟨lw_p39, List.forall_mem_cons.mpr ⟨lw_p40, List.forall_mem_cons.mpr ⟨lw_p41, List.forall_mem_cons.mpr ⟨lw_p42, List.forall_mem_cons.mpr ⟨lw_p43, List.forall_mem_cons.mpr ⟨lw_p44, List.forall_mem_cons.mpr ⟨lw_p45, List.forall_mem_cons.mpr ⟨lw_p46, List.forall_mem_cons.mpr ⟨lw_p47, fun _ h => absurd h List.not_mem_nil⟩⟩⟩⟩⟩⟩⟩⟩⟩⟩⟩⟩⟩⟩⟩⟩
theorem lw_p48 : lw_okq (⟨"PledgeRingsModel", "dischargesAll", "([I)I"⟩, 30) := ⟨⟨by decide +kernel, by decide +kernel⟩, List.mem_of_getElem? (i := 834) (by decide +kernel), List.mem_of_getElem? (i := 1058) (by decide +kernel), List.mem_of_getElem? (i := 1059) (by decide +kernel)⟩
theorem lw_p49 : lw_okq (⟨"PledgeRingsModel", "debtOf", "(II)I"⟩, 30) := ⟨⟨by decide +kernel, by decide +kernel⟩, List.mem_of_getElem? (i := 834) (by decide +kernel), List.mem_of_getElem? (i := 1070) (by decide +kernel), List.mem_of_getElem? (i := 1071) (by decide +kernel)⟩
theorem lw_p50 : lw_okq (⟨"PledgeRingsModel", "netOf", "(I)I"⟩, 30) := ⟨⟨by decide +kernel, by decide +kernel⟩, List.mem_of_getElem? (i := 834) (by decide +kernel), List.mem_of_getElem? (i := 1078) (by decide +kernel), List.mem_of_getElem? (i := 1079) (by decide +kernel)⟩
theorem lw_p51 : lw_okq (⟨"PledgeRingsModel", "one", "(I)I"⟩, 30) := ⟨⟨by decide +kernel, by decide +kernel⟩, List.mem_of_getElem? (i := 834) (by decide +kernel), List.mem_of_getElem? (i := 1094) (by decide +kernel), List.mem_of_getElem? (i := 1095) (by decide +kernel)⟩
theorem lw_p52 : lw_okq (⟨"PledgeRingsModel", "leastOf", "()I"⟩, 30) := ⟨⟨by decide +kernel, by decide +kernel⟩, List.mem_of_getElem? (i := 834) (by decide +kernel), List.mem_of_getElem? (i := 1117) (by decide +kernel), List.mem_of_getElem? (i := 1118) (by decide +kernel)⟩
theorem lw_p53 : lw_okq (⟨"PledgeRingsModel", "ways", "()V"⟩, 30) := ⟨⟨by decide +kernel, by decide +kernel⟩, List.mem_of_getElem? (i := 834) (by decide +kernel), List.mem_of_getElem? (i := 1121) (by decide +kernel), List.mem_of_getElem? (i := 1122) (by decide +kernel)⟩
theorem lw_p54 : lw_okq (⟨"PledgeRingsModel", "nears", "(IIII)V"⟩, 30) := ⟨⟨by decide +kernel, by decide +kernel⟩, List.mem_of_getElem? (i := 834) (by decide +kernel), List.mem_of_getElem? (i := 1125) (by decide +kernel), List.mem_of_getElem? (i := 1126) (by decide +kernel)⟩
theorem lw_p55 : lw_okq (⟨"PledgeRingsModel", "nearest", "()I"⟩, 30) := ⟨⟨by decide +kernel, by decide +kernel⟩, List.mem_of_getElem? (i := 834) (by decide +kernel), List.mem_of_getElem? (i := 1129) (by decide +kernel), List.mem_of_getElem? (i := 1130) (by decide +kernel)⟩
theorem lw_p56 : lw_okq (⟨"PledgeRingsModel", "staysMore", "(I)V"⟩, 30) := ⟨⟨by decide +kernel, by decide +kernel⟩, List.mem_of_getElem? (i := 834) (by decide +kernel), List.mem_of_getElem? (i := 1133) (by decide +kernel), List.mem_of_getElem? (i := 1134) (by decide +kernel)⟩
theorem lw_p57 : lw_okq (⟨"PledgeRingsModel", "ahead", "(I)I"⟩, 30) := ⟨⟨by decide +kernel, by decide +kernel⟩, List.mem_of_getElem? (i := 834) (by decide +kernel), List.mem_of_getElem? (i := 1137) (by decide +kernel), List.mem_of_getElem? (i := 1138) (by decide +kernel)⟩
theorem lw_p58 : lw_okq (⟨"PledgeRingsModel", "readsOrder", "()V"⟩, 30) := ⟨⟨by decide +kernel, by decide +kernel⟩, List.mem_of_getElem? (i := 834) (by decide +kernel), List.mem_of_getElem? (i := 1165) (by decide +kernel), List.mem_of_getElem? (i := 1166) (by decide +kernel)⟩
theorem lw_p59 : lw_okq (⟨"PledgeRingsModel", "look", "()I"⟩, 30) := ⟨⟨by decide +kernel, by decide +kernel⟩, List.mem_of_getElem? (i := 834) (by decide +kernel), List.mem_of_getElem? (i := 1169) (by decide +kernel), List.mem_of_getElem? (i := 1170) (by decide +kernel)⟩
theorem lw_p60 : lw_okq (⟨"PledgeRingsModel", "digit", "(II)V"⟩, 30) := ⟨⟨by decide +kernel, by decide +kernel⟩, List.mem_of_getElem? (i := 834) (by decide +kernel), List.mem_of_getElem? (i := 1173) (by decide +kernel), List.mem_of_getElem? (i := 1174) (by decide +kernel)⟩
theorem lw_p61 : lw_okq (⟨"PledgeRingsModel", "fails", "(I)V"⟩, 30) := ⟨⟨by decide +kernel, by decide +kernel⟩, List.mem_of_getElem? (i := 834) (by decide +kernel), List.mem_of_getElem? (i := 1177) (by decide +kernel), List.mem_of_getElem? (i := 1178) (by decide +kernel)⟩
theorem lw_p62 : lw_okq (⟨"PledgeRingsModel", "sign", "(I)V"⟩, 30) := ⟨⟨by decide +kernel, by decide +kernel⟩, List.mem_of_getElem? (i := 834) (by decide +kernel), List.mem_of_getElem? (i := 1181) (by decide +kernel), List.mem_of_getElem? (i := 1182) (by decide +kernel)⟩
theorem lw_p63 : lw_okq (⟨"PledgeRingsModel", "figures", "(III)V"⟩, 30) := ⟨⟨by decide +kernel, by decide +kernel⟩, List.mem_of_getElem? (i := 834) (by decide +kernel), List.mem_of_getElem? (i := 1185) (by decide +kernel), List.mem_of_getElem? (i := 1186) (by decide +kernel)⟩
def lw_privs_4 : List (MethodName × Nat) := [(⟨"PledgeRingsModel", "dischargesAll", "([I)I"⟩, 30), (⟨"PledgeRingsModel", "debtOf", "(II)I"⟩, 30), (⟨"PledgeRingsModel", "netOf", "(I)I"⟩, 30), (⟨"PledgeRingsModel", "one", "(I)I"⟩, 30), (⟨"PledgeRingsModel", "leastOf", "()I"⟩, 30), (⟨"PledgeRingsModel", "ways", "()V"⟩, 30), (⟨"PledgeRingsModel", "nears", "(IIII)V"⟩, 30), (⟨"PledgeRingsModel", "nearest", "()I"⟩, 30), (⟨"PledgeRingsModel", "staysMore", "(I)V"⟩, 30), (⟨"PledgeRingsModel", "ahead", "(I)I"⟩, 30), (⟨"PledgeRingsModel", "readsOrder", "()V"⟩, 30), (⟨"PledgeRingsModel", "look", "()I"⟩, 30), (⟨"PledgeRingsModel", "digit", "(II)V"⟩, 30), (⟨"PledgeRingsModel", "fails", "(I)V"⟩, 30), (⟨"PledgeRingsModel", "sign", "(I)V"⟩, 30), (⟨"PledgeRingsModel", "figures", "(III)V"⟩, 30)]
theorem lw_r4 : ∀ q ∈ lw_privs_4, lw_okq q := List.forall_mem_cons.mpr ⟨lw_p48, List.forall_mem_cons.mpr ⟨lw_p49, List.forall_mem_cons.mpr ⟨lw_p50, List.forall_mem_cons.mpr ⟨lw_p51, List.forall_mem_cons.mpr ⟨lw_p52, List.forall_mem_cons.mpr ⟨lw_p53, List.forall_mem_cons.mpr ⟨lw_p54, List.forall_mem_cons.mpr ⟨lw_p55, List.forall_mem_cons.mpr ⟨lw_p56, List.forall_mem_cons.mpr ⟨lw_p57, List.forall_mem_cons.mpr ⟨lw_p58, List.forall_mem_cons.mpr ⟨lw_p59, List.forall_mem_cons.mpr ⟨lw_p60, List.forall_mem_cons.mpr ⟨lw_p61, List.forall_mem_cons.mpr ⟨lw_p62, List.forall_mem_cons.mpr ⟨lw_p63, fun _ h => absurd h List.not_mem_nil⟩⟩⟩⟩⟩⟩⟩⟩⟩⟩⟩⟩⟩⟩⟩⟩
theorem lw_p64 : lw_okq (⟨"PledgeRingsModel", "can", "(I)Z"⟩, 30) := ⟨⟨by decide +kernel, by decide +kernel⟩, List.mem_of_getElem? (i := 834) (by decide +kernel), List.mem_of_getElem? (i := 1189) (by decide +kernel), List.mem_of_getElem? (i := 1190) (by decide +kernel)⟩
theorem lw_p65 : lw_okq (⟨"PledgeRingsModel", "does", "(I)V"⟩, 30) := ⟨⟨by decide +kernel, by decide +kernel⟩, List.mem_of_getElem? (i := 834) (by decide +kernel), List.mem_of_getElem? (i := 1193) (by decide +kernel), List.mem_of_getElem? (i := 1194) (by decide +kernel)⟩
def lw_privs_5 : List (MethodName × Nat) := [(⟨"PledgeRingsModel", "can", "(I)Z"⟩, 30), (⟨"PledgeRingsModel", "does", "(I)V"⟩, 30)]
theorem lw_r5 : ∀ q ∈ lw_privs_5, lw_okq q := List.forall_mem_cons.mpr ⟨lw_p64, List.forall_mem_cons.mpr ⟨lw_p65, fun _ h => absurd h List.not_mem_nil⟩⟩
def lw_privs : List (MethodName × Nat) := lw_privs_1 ++ (lw_privs_2 ++ (lw_privs_3 ++ (lw_privs_4 ++ (lw_privs_5))))
def lw_tbl : List Cond := k2_sels lw_privs ++ tables_1
theorem lw_privs_ok : ∀ q ∈ lw_privs, lw_okq q := by
  show ∀ q ∈ lw_privs_1 ++ (lw_privs_2 ++ (lw_privs_3 ++ (lw_privs_4 ++ (lw_privs_5)))), lw_okq q
  exact List.forall_mem_append.mpr ⟨lw_r1, List.forall_mem_append.mpr ⟨lw_r2, List.forall_mem_append.mpr ⟨lw_r3, List.forall_mem_append.mpr ⟨lw_r4, lw_r5⟩⟩⟩⟩
end
section
/-! ===== BEGIN words of one list among another's, by their places ===== -/
theorem goodIn_r {big : List Cond} (ws : List Cond) (ps : List Nat) (hp : ws = ps.filterMap (fun i => big[i]?)) (h : ws.all goodWord = true) : GoodIn big ws := by
  intro w hw
  have h1 := List.all_eq_true.mp h w hw
  rw [hp] at hw
  obtain ⟨i, -, hi⟩ := List.mem_filterMap.mp hw
  have hm : w ∈ big := by first | exact List.mem_of_getElem? hi | exact List.getElem?_mem hi
  exact ⟨hm, good_of_word h1⟩
theorem goodIn_app {big a b : List Cond} (ha : GoodIn big a) (hb : GoodIn big b) : GoodIn big (a ++ b) := fun w h => (List.mem_append.mp h).elim (ha w) (hb w)
theorem goodIn_ca {big a b : List Cond} {c : Cond} (ha : GoodIn big (c :: a)) (hb : GoodIn big b) : GoodIn big (c :: (a ++ b)) := fun w h => (List.mem_cons.mp h).elim (fun e => ha w (List.mem_cons.mpr (Or.inl e))) (fun h => (List.mem_append.mp h).elim (fun h => ha w (List.mem_cons.mpr (Or.inr h))) (hb w))
theorem goodIn_sub {big ws : List Cond} (hm : ∀ w ∈ ws, w ∈ big) (h : ws.all goodWord = true) : GoodIn big ws := fun w hw => ⟨hm w hw, good_of_word (List.all_eq_true.mp h w hw)⟩
/-! ===== END ===== -/

/-! ===== BEGIN exceptions that leave a method, and their catching by the caller (launches without stack traces) ===== -/
section VXA
/-! The laws vx_back, vx_callV, vx_callS, vx_callSW, vx_throw0, vx_throwS follow proofs of the library, with one case more: JvmDerived/Free/Laws.lean (Back.of_free), Shelf42/LK1.lean (callV, callS), Shelf/KitTraced.lean (throwNew0V, throwNewS). -/
/-- where a method has thrown q: the class by its name, the cell, what was written, the world -/
def vx_T (XC : String → State → State → Prop) (st : State) (q : Addr) (t : State) (mc ms : Nat) (free : Addr → Prop) : Prop :=
  ∃ (E : String) (ce : Cell) (L : List Loc), XC E st t ∧ t.heap[q]? = some ce ∧ ce.vm = .none ∧ st.vm.findClass E = some ce.cls ∧ st.WarmedH t.vm ∧ st.sameButNew ({ t with vm := st.vm } : State) L mc ms ∧ ∀ z ∈ L, free z.base
def vx_Q (Qc : Array Value → State → Outcome → State → Prop) (XC : String → State → State → Prop) (mc ms : Nat) (free : Addr → Prop) : Array Value → State → Outcome → State → Prop := fun a st o t =>
  (Qc a st o t ∧ ∃ L, FrameEnd st o t L mc ms ∧ ∀ q ∈ L, free q.base) ∨ ∃ q, o = .threw q ∧ vx_T XC st q t mc ms free
/-- a callee that returns or throws -/
def vx_Met (l : Launch) (y : MethodName) (ws : List Cond) (rm : Room) (Pc : Array Value → State → Prop) (Qc : Array Value → State → Outcome → State → Prop) (XC : String → State → State → Prop) (mc ms : Nat) (free : Addr → Prop) : Prop :=
  MetFree l y (headSpec ws rm) Pc (fun _ _ _ _ _ => True) (vx_Q Qc XC mc ms free)
def vx_Post (XC : String → State → State → Prop) (mc ms : Nat) (free : Addr → Prop) : Pt → Array Value → Addr → Pt → Prop := fun A a q B =>
  ∃ (g : JFrame) (mk : MethodId) (t : State) (L : List Loc) (E : String) (ce : Cell), B.U.heap = t.heap ∧ B.U.vm = t.vm ∧ XC E (A.U.calling g mk a) t ∧ t.heap[q]? = some ce ∧ ce.vm = .none ∧ A.U.vm.findClass E = some ce.cls ∧ B.locs = A.locs ++ L ∧ (∀ z ∈ L, free z.base) ∧ B.cells = A.cells + mc ∧ B.slots = A.slots + ms
def vx_Back (l : Launch) (R : Room) (p : Program) (e : Env) (below : List Frame) (s : State) (sargs : Array Value) (y : MethodName) (len W9 : Nat)
    (Pre : Pt → Array Value → Prop) (Post : Pt → Array Value → Option Value → Pt → Prop) (PostX : Pt → Array Value → Addr → Pt → Prop) : Prop :=
  ∀ (m : MethodId) (meth : Method) (c : Code) (A : Pt) (g : JFrame) (ig : Instr) (mk : MethodId) (a : Array Value),
    Stand p l e R s m sargs below meth c A.U A.locs A.cells A.slots → g.method = m → g.locals.size = c.maxLocals → decode c.code g.pc = .ok (ig, len) →
    2 * g.monitorRoom + (g.stack.map fun v => v.category).sum ≤ W9 → A.U.methodNamed? y = some mk → Pre A a →
    (∃ (v : Option Value) (B : Pt), Stand p l e R s m sargs below meth c B.U B.locs B.cells B.slots ∧ Post A a v B ∧
      Steps p.tables e below (doInvoke e (A.U.setTop g) [] mk a).1 (B.U.setTop { g with pc := g.pc + len, stack := v.toList ++ g.stack })) ∨
    (∃ (q : Addr) (B : Pt), Stand p l e R s m sargs below meth c B.U B.locs B.cells B.slots ∧ PostX A a q B ∧
      Steps p.tables e below (doInvoke e (A.U.setTop g) [] mk a).1 ((B.U.setTop g).pushFrame (.throwing q)))
section Payer
variable {l : Launch} {R : Room} {p : Program} {e : Env} {below : List Frame} {s : State} {sargs : Array Value} {y : MethodName} {len W9 : Nat}
theorem vx_back {ws : List Cond} {rm : Room} {Pc : Array Value → State → Prop} {Qc : Array Value → State → Outcome → State → Prop} {XC : String → State → State → Prop} {mc ms : Nat} {free : Addr → Prop} {bytes : ByteArray} {maxL : Nat} {ret : Option FieldType}
    (hM : vx_Met l y ws rm Pc Qc XC mc ms free) (hblind : FrameBlind Pc) (hrc : rm.cells = mc) (hrs : rm.slots = ms)
    (hframes : rm.frames + 1 ≤ R.frames) (hlocals : W9 + (maxL + 11) + rm.locals ≤ R.locals)
    (hws : ∀ w ∈ ws, ∀ a' U, s.WarmedH U.vm → w.before a' U = true) (hcode : Cond.code y bytes maxL ret ∈ ws) (hinit : ∀ a' U, s.WarmedH U.vm → (Cond.initialized y.cls).before a' U = true) :
    vx_Back l R p e below s sargs y len W9 (PreOf R mc ms Pc) (PostOf Qc mc ms free) (vx_Post XC mc ms free) := by
  intro m meth c A g ig mk a X hg hsize hdg hW hn hp
  have h1 : (headSpec ws rm).pre.before a A.U = true := atoms_intro fun w hw => hws w hw _ _ X.warmed
  have h2 : (Cond.code y bytes maxL ret).before a A.U = true := hws _ hcode _ _ X.warmed
  have h3 : (Cond.initialized y.cls).before a A.U = true := hinit _ _ X.warmed
  have h4 : A.cells + (headSpec ws rm).room.cells ≤ R.cells := by rw [show (headSpec ws rm).room.cells = mc from hrc]; exact hp.1
  have h5 : A.slots + (headSpec ws rm).room.slots ≤ R.slots := by rw [show (headSpec ws rm).room.slots = ms from hrs]; exact hp.2.1
  have hPc : Pc a (A.U.calling g mk a) := hblind _ _ _ _ hp.2.2
  obtain ⟨U, Ls, c0, s0⟩ := A
  dsimp only [Pt.U, Pt.locs, Pt.cells, Pt.slots] at h1 h2 h3 h4 h5 X hn hPc ⊢
  obtain ⟨methY, cY, hmY, hcY, -, hlY, -, -, -, -⟩ := Cond.code_spec hn h2
  obtain ⟨kY, hkY, -⟩ := className_of_methodNamed hn
  have hinitY : kY.init = .initialized := Cond.initialized_spec (findClass_of_methodNamed hn) hkY h3
  have h : At U g.method c below := by rw [hg]; exact X.here
  have hlocals9 : W9 + (maxL + 11) + (headSpec ws rm).room.locals ≤ R.locals := hlocals
  have happ : (headSpec ws rm).appliesLoose y e.platform (U.calling g mk a) = true :=
    Spec.appliesLoose_calling (g := g) h hdg hn hkY hinitY
      (X.room_calling (g := g) (R' := (headSpec ws rm).room) hsize hmY hcY hframes (by rw [hlY]; omega) h4 h5) h1
  obtain ⟨mid, hmid⟩ := h.above
  have hfr : (U.setTop g).frames = (.java g :: mid) ++ below := by rw [State.frames_setTop' g h.top, hmid]; rfl
  obtain ⟨o, s₂, hsteps, -, hend, hq⟩ := Steps.callFree hM p X.admits X.cas X.clock (acts := []) hfr happ hPc trivial
  have hq' : vx_Q Qc XC mc ms free a (U.calling g mk a) o s₂ := hq
  rw [State.frames_setTop' g h.top] at hend
  obtain ⟨g₀, hg0⟩ := Option.isSome_iff_exists.mp h.top
  obtain ⟨r, hr⟩ := State.topJava?_eq_some.mp hg0
  have hr' : (({ U with heap := s₂.heap, slotsUsed := s₂.slotsUsed } : State).setVm s₂.vm).frames = .java g₀ :: r := hr
  rcases hq' with ⟨hqc, L, hfe, hL⟩ | ⟨q, rfl, E, ce, L, hx, hce, hcv, hcl, hW₂, hsm, hL⟩
  · obtain ⟨⟨v, rfl⟩, hW₂, e2, q2, q3, q4, q5, q6⟩ := id hfe
    have e3 : s₂ = ({ (U.calling g mk a).setFrames s₂.frames with heap := s₂.heap, slotsUsed := s₂.slotsUsed } : State).setVm s₂.vm := by
      have : s₂ = ({ s₂ with vm := (U.calling g mk a).vm } : State).setVm s₂.vm := rfl
      rw [e2] at this
      exact this
    obtain ⟨c₂, i₂, len₂, hc₂, hd₂, hf₂⟩ := hend
    have hW' : U.WarmedH s₂.vm := hW₂
    have hcc : c₂ = c := by
      have h1 : s₂.code? g.method = U.code? g.method := by
        rw [State.code?_eq, State.code?_eq, hW'.alike.method?]
      exact Option.some.inj (hc₂.symm.trans (h1.trans h.code))
    subst hcc
    have hlen : len₂ = len := by rw [hdg] at hd₂; cases hd₂; rfl
    subst hlen
    have hs₂ : s₂ = (({ U with heap := s₂.heap, slotsUsed := s₂.slotsUsed } : State).setVm s₂.vm).setTop { g with pc := g.pc + len₂, stack := v.toList ++ g.stack } := by
      refine e3.trans ?_
      rw [hf₂, State.calling_eq h.top, State.setFrames_setFrames, State.setTop_of_frames _ hr', hr]
      rfl
    have hsame : U.sameButNew ({ U with heap := s₂.heap, slotsUsed := s₂.slotsUsed } : State) L mc ms := by
      refine ⟨?_, q2, q3, q4, q5, q6⟩
      obtain ⟨t, ht, -⟩ := State.frames_cons hr
      show ({ U with heap := s₂.heap, slotsUsed := s₂.slotsUsed } : State) = { U.setFrames U.frames with heap := s₂.heap, slotsUsed := s₂.slotsUsed }
      rw [State.setFrames_self ht]
    subst hg
    refine Or.inl ⟨v, ⟨(({ U with heap := s₂.heap, slotsUsed := s₂.slotsUsed } : State).setVm s₂.vm), Ls ++ L, c0 + mc, s0 + ms⟩,
      ⟨X.admits, X.cas, X.clock, X.frames, X.room, X.hears, X.method, X.code, (X.here.setHeapUsed s₂.heap s₂.slotsUsed).setVm hW'.alike, X.tail, State.WarmedH.trans X.warmed hW', X.limits, X.bytes, X.same.trans (hsame.setVm s.vm)⟩,
      ⟨g, mk, s₂, L, rfl, rfl, hqc, rfl, hL, rfl, rfl⟩, ?_⟩
    show Steps p.tables e below _ ((({ U with heap := s₂.heap, slotsUsed := s₂.slotsUsed } : State).setVm s₂.vm).setTop { g with pc := g.pc + len₂, stack := v.toList ++ g.stack })
    rw [← hs₂]
    exact hsteps
  · obtain ⟨e2, q2, q3, q4, q5, q6⟩ := id hsm
    have e3 : s₂ = ({ (U.calling g mk a).setFrames s₂.frames with heap := s₂.heap, slotsUsed := s₂.slotsUsed } : State).setVm s₂.vm := by
      have : s₂ = ({ s₂ with vm := (U.calling g mk a).vm } : State).setVm s₂.vm := rfl
      rw [e2] at this
      exact this
    have hf₂ : s₂.frames = .throwing q :: .java g :: U.frames.tail := hend
    have hW' : U.WarmedH s₂.vm := hW₂
    have hs₂ : s₂ = ((({ U with heap := s₂.heap, slotsUsed := s₂.slotsUsed } : State).setVm s₂.vm).setTop g).pushFrame (.throwing q) := by
      refine e3.trans ?_
      rw [hf₂, State.calling_eq h.top, State.setFrames_setFrames, State.pushFrame, State.frames_setTop _ hr', State.setTop_of_frames _ hr', State.setFrames_setFrames, hr]
      rfl
    have hsame : U.sameButNew ({ U with heap := s₂.heap, slotsUsed := s₂.slotsUsed } : State) L mc ms := by
      refine ⟨?_, q2, q3, q4, q5, q6⟩
      obtain ⟨t, ht, -⟩ := State.frames_cons hr
      show ({ U with heap := s₂.heap, slotsUsed := s₂.slotsUsed } : State) = { U.setFrames U.frames with heap := s₂.heap, slotsUsed := s₂.slotsUsed }
      rw [State.setFrames_self ht]
    subst hg
    refine Or.inr ⟨q, ⟨(({ U with heap := s₂.heap, slotsUsed := s₂.slotsUsed } : State).setVm s₂.vm), Ls ++ L, c0 + mc, s0 + ms⟩,
      ⟨X.admits, X.cas, X.clock, X.frames, X.room, X.hears, X.method, X.code, (X.here.setHeapUsed s₂.heap s₂.slotsUsed).setVm hW'.alike, X.tail, State.WarmedH.trans X.warmed hW', X.limits, X.bytes, X.same.trans (hsame.setVm s.vm)⟩,
      ⟨g, mk, s₂, L, E, ce, rfl, rfl, hx, hce, hcv, hcl, rfl, hL, rfl, rfl⟩, ?_⟩
    show Steps p.tables e below _ (((({ U with heap := s₂.heap, slotsUsed := s₂.slotsUsed } : State).setVm s₂.vm).setTop g).pushFrame (.throwing q))
    rw [← hs₂]
    exact hsteps
end Payer
section Calls
variable {p : Program} {l : Launch} {e : Env} {R : Room} {s : State} {m : MethodId} {args : Array Value} {below : List Frame} {meth : Method} {c : Code} {T : State} {locs : List Loc} {cells slots : Nat}
theorem vx_callV (X : Stand p l e R s m args below meth c T locs cells slots) (hexec : p.tables.exec = Jvm.exec) {own C : String} {index : Nat} {y : MethodName} {bytes : ByteArray} {maxL : Nat} {ret : Option FieldType}
    (hown : s.vm.findClass own = some m.cls) (hlink : (Cond.methodLink own index y).before args s = true) (hinst : (Cond.instanceMethod y).before args s = true) (hsel : (Cond.selects C y y).before args s = true)
    (hcode : (Cond.code y bytes maxL ret).before args s = true) (hy : y.cls ≠ "java/lang/invoke/MethodHandle" ∧ y.cls ≠ "java/lang/invoke/VarHandle")
    {W9 : Nat} {Pre : Pt → Array Value → Prop} {Post : Pt → Array Value → Option Value → Pt → Prop} {PostX : Pt → Array Value → Addr → Pt → Prop} (hK : vx_Back l R p e below s args y 3 W9 Pre Post PostX)
    {b : Addr} {cellB : Cell} (hcell : T.heap[b]? = some cellB) (hobj : cellB.vm.isStatics = false) (hcls : s.vm.findClass C = some cellB.cls)
    {g : JFrame} (hg : g.method = m) (hsize : g.locals.size = c.maxLocals) {argsL rest : List Value} (hlen : ∀ sig, parseMethodDescriptor y.desc = some sig → argsL.length = sig.parameters.length)
    (hstack : g.stack = argsL.reverse ++ .ref b :: rest) (hW : 2 * g.monitorRoom + (rest.map fun v => v.category).sum ≤ W9) (hdg : decode c.code g.pc = .ok (.invokevirtual index, 3))
    (hpre : ∀ vm₁, s.WarmedH vm₁ → Pre ⟨T.setVm vm₁, locs, cells, slots⟩ (Value.ref b :: argsL).toArray) :
    (∃ (v : Option Value) (vm₁ : Vm) (B : Pt), s.WarmedH vm₁ ∧ Stand p l e R s m args below meth c B.U B.locs B.cells B.slots ∧ Post ⟨T.setVm vm₁, locs, cells, slots⟩ (Value.ref b :: argsL).toArray v B ∧
      ∀ target, Steps p.tables e below (B.U.setTop { g with pc := g.pc + 3, stack := v.toList ++ rest }) target → Steps p.tables e below (T.setTop g) target) ∨
    (∃ (q : Addr) (vm₁ : Vm) (B : Pt), s.WarmedH vm₁ ∧ Stand p l e R s m args below meth c B.U B.locs B.cells B.slots ∧ PostX ⟨T.setVm vm₁, locs, cells, slots⟩ (Value.ref b :: argsL).toArray q B ∧
      Steps p.tables e below (T.setTop g) ((B.U.setTop { g with stack := rest }).pushFrame (.throwing q))) := by
  obtain ⟨mk, methM, hnamed, hmethM, hstM, habM⟩ := Cond.instanceMethod_spec hinst
  obtain ⟨methM', cM, hmethM', -, -, -, -, -, -, hsigM⟩ := Cond.code_spec hnamed hcode
  cases hmethM.symm.trans hmethM'
  obtain ⟨c2, r2, m2, q1, q2, q3, q4, kP, hkP, hkPi⟩ := Cond.selects_spec hsel
  cases hcls.symm.trans q1
  cases (State.methodFound?_of_named hnamed hy).symm.trans q2
  cases hnamed.symm.trans q3
  have hselP : selectMethod e.platform s.vm cellB.cls mk = .method mk := by rw [Launch.admits_selectMethod X.admits]; exact q4
  obtain ⟨vm₁, X₁, hstep₁⟩ := X.invokevirtual hexec hown hlink hnamed hmethM hstM hkP hkPi hy (a := b) (cell := cellB) hcell
    (fun z h => by rw [h] at hobj; cases hobj) hselP hmethM habM hkP hkPi (g := g) hg (argsL := argsL) (rest := rest) (hlen _ hsigM) hstack hdg
  rcases hK m meth c ⟨T.setVm vm₁, locs, cells, slots⟩ { g with stack := rest } (.invokevirtual index) mk (Value.ref b :: argsL).toArray X₁ hg hsize hdg hW (X₁.named hnamed) (hpre vm₁ X₁.warmed) with ⟨v, B, X', hpost, hsteps⟩ | ⟨q, B, X', hpost, hsteps⟩
  · exact Or.inl ⟨v, vm₁, B, X₁.warmed, X', hpost, fun target h => hstep₁ _ fun acts => by rw [doInvoke_state]; exact hsteps.trans h⟩
  · exact Or.inr ⟨q, vm₁, B, X₁.warmed, X', hpost, hstep₁ _ fun acts => by rw [doInvoke_state]; exact hsteps⟩
theorem vx_callS (X : Stand p l e R s m args below meth c T locs cells slots) (hexec : p.tables.exec = Jvm.exec) {own : String} {index : Nat} {y : MethodName} {bytes : ByteArray} {maxL : Nat} {ret : Option FieldType}
    (hown : s.vm.findClass own = some m.cls) (hlink : (Cond.methodLink own index y).before args s = true) (hstat : (Cond.static y).before args s = true) (hinit : (Cond.initialized y.cls).before args s = true)
    (hcode : (Cond.code y bytes maxL ret).before args s = true) (hy : y.cls ≠ "java/lang/invoke/MethodHandle" ∧ y.cls ≠ "java/lang/invoke/VarHandle")
    {W9 : Nat} {Pre : Pt → Array Value → Prop} {Post : Pt → Array Value → Option Value → Pt → Prop} {PostX : Pt → Array Value → Addr → Pt → Prop} (hK : vx_Back l R p e below s args y 3 W9 Pre Post PostX)
    {g : JFrame} (hg : g.method = m) (hsize : g.locals.size = c.maxLocals) {argsL rest : List Value} (hlen : ∀ sig, parseMethodDescriptor y.desc = some sig → argsL.length = sig.parameters.length)
    (hstack : g.stack = argsL.reverse ++ rest) (hW : 2 * g.monitorRoom + (rest.map fun v => v.category).sum ≤ W9) (hdg : decode c.code g.pc = .ok (.invokestatic index, 3))
    (hpre : ∀ vm₁, s.WarmedH vm₁ → Pre ⟨T.setVm vm₁, locs, cells, slots⟩ argsL.toArray) :
    (∃ (v : Option Value) (vm₁ : Vm) (B : Pt), s.WarmedH vm₁ ∧ Stand p l e R s m args below meth c B.U B.locs B.cells B.slots ∧ Post ⟨T.setVm vm₁, locs, cells, slots⟩ argsL.toArray v B ∧
      ∀ target, Steps p.tables e below (B.U.setTop { g with pc := g.pc + 3, stack := v.toList ++ rest }) target → Steps p.tables e below (T.setTop g) target) ∨
    (∃ (q : Addr) (vm₁ : Vm) (B : Pt), s.WarmedH vm₁ ∧ Stand p l e R s m args below meth c B.U B.locs B.cells B.slots ∧ PostX ⟨T.setVm vm₁, locs, cells, slots⟩ argsL.toArray q B ∧
      Steps p.tables e below (T.setTop g) ((B.U.setTop { g with stack := rest }).pushFrame (.throwing q))) := by
  obtain ⟨mk, hnamed⟩ := Cond.code_named hcode
  obtain ⟨methM, cM, hmethM, -, -, -, -, -, -, hsigM⟩ := Cond.code_spec hnamed hcode
  have hstatic : methM.isStatic = true := Cond.static_spec hnamed hmethM hstat
  obtain ⟨kP, hkP, -⟩ := className_of_methodNamed hnamed
  have hinitP : kP.init = .initialized := Cond.initialized_spec (findClass_of_methodNamed hnamed) hkP hinit
  obtain ⟨vm₁, X₁, hstep₁⟩ := X.invokestatic hexec hown hlink hnamed hmethM hstatic hkP hinitP hy (g := g) hg (argsL := argsL) (rest := rest) (hlen _ hsigM) hstack hdg
  rcases hK m meth c ⟨T.setVm vm₁, locs, cells, slots⟩ { g with stack := rest } (.invokestatic index) mk argsL.toArray X₁ hg hsize hdg hW (X₁.named hnamed) (hpre vm₁ X₁.warmed) with ⟨v, B, X', hpost, hsteps⟩ | ⟨q, B, X', hpost, hsteps⟩
  · exact Or.inl ⟨v, vm₁, B, X₁.warmed, X', hpost, fun target h => hstep₁ _ fun acts => by rw [doInvoke_state]; exact hsteps.trans h⟩
  · exact Or.inr ⟨q, vm₁, B, X₁.warmed, X', hpost, hstep₁ _ fun acts => by rw [doInvoke_state]; exact hsteps⟩
end Calls
theorem vx_cls {s : State} {T : State} {vm₁ : Vm} {E : String} {k : ClassId} (hW : s.WarmedH vm₁) (h : (T.setVm vm₁).vm.findClass E = some k) : s.vm.findClass E = some k := by
  have h1 : vm₁.findClass E = some k := h
  rw [hW.alike.findClass] at h1
  exact h1
/-- the method's frame g, with q thrown over it -/
def vx_W (p : Program) (l : Launch) (e : Env) (R : Room) (s : State) (m : MethodId) (args : Array Value) (below : List Frame) (meth : Method) (c : Code) (H : Heap) (locs : List Loc) (cells slots : Nat) (Q : State → Prop) (g : JFrame) (q : Addr) : Prop :=
  ∀ T : State, T.heap = H → Stand p l e R s m args below meth c T locs cells slots → ∃ t, Steps p.tables e below ((T.setTop g).pushFrame (.throwing q)) t ∧ Q t
def vx_Run (p : Program) (l : Launch) (e : Env) (R : Room) (s : State) (m : MethodId) (args : Array Value) (below : List Frame) (meth : Method) (c : Code) (H : Heap) (locs : List Loc) (cells slots mc ms : Nat) (g : JFrame) (rest : List Value) (Qa : State → Outcome → State → Prop) (XC : String → State → State → Prop) (free : Addr → Prop) : Prop :=
  ∀ T : State, T.heap = H → Stand p l e R s m args below meth c T locs cells slots →
    (∃ (v : Option Value) (st₀ t T' : State) (L : List Loc), st₀.heap = H ∧ Stand p l e R s m args below meth c T' (locs ++ L) (cells + mc) (slots + ms) ∧ (∀ q ∈ L, free q.base) ∧ T'.heap = t.heap ∧ T'.vm = t.vm ∧ Qa st₀ (.returned v) t ∧
      Goes p e below T g T' { g with pc := g.pc + 3, stack := v.toList ++ rest }) ∨
    (∃ (q : Addr) (st₀ t T' : State) (L : List Loc) (E : String) (ce : Cell), st₀.heap = H ∧ Stand p l e R s m args below meth c T' (locs ++ L) (cells + mc) (slots + ms) ∧ (∀ z ∈ L, free z.base) ∧ T'.heap = t.heap ∧ T'.vm = t.vm ∧ XC E st₀ t ∧ t.heap[q]? = some ce ∧ ce.vm = .none ∧ s.vm.findClass E = some ce.cls ∧
      Steps p.tables e below (T.setTop g) ((T'.setTop { g with stack := rest }).pushFrame (.throwing q)))
def vx_X {S : Type} (px : S → Prop) (B : String → S → State → Prop) (A : Nat → Prop) : String → State → State → Prop := fun E st t => ∃ u : S, px u ∧ B E u t ∧ va_F A st t
section Runs
variable {p : Program} {l : Launch} {e : Env} {R : Room} {s : State} {m : MethodId} {args : Array Value} {below : List Frame} {meth : Method} {c : Code} {H : Heap} {locs : List Loc} {cells slots : Nat}
variable {y : MethodName} {bytes cc : ByteArray} {maxL nL mc ms n index : Nat} {ret : Option FieldType} {ws : List Cond} {rm : Room} {Pc : Array Value → State → Prop} {Qc : Array Value → State → Outcome → State → Prop} {XC : String → State → State → Prop} {free : Addr → Prop} {Ts : List Cond} {own C : String} {b : Addr} {As rest : List Value} {g : JFrame}
theorem vx_callBack (cb : CallB R s args own index y bytes maxL ret ws rm mc ms n) (hM : vx_Met l y ws rm Pc Qc XC mc ms free) (hbl : FrameBlind Pc) : vx_Back l R p e below s args y 3 8 (PreOf R mc ms Pc) (PostOf Qc mc ms free) (vx_Post XC mc ms free) := by
  obtain ⟨hrc, hrs, hfr, hlo, hws, hcw, -, hini, -⟩ := cb
  exact vx_back (bytes := bytes) (maxL := maxL) (ret := ret) hM hbl hrc hrs hfr hlo hws hcw (fun a' U hW => word_at hW (Or.inl (by first | rfl | simp [Cond.onTables, Cond.keeps, Cond.steady])) hini)
theorem vx_runV (S : CallFix p m c cc nL s args Ts own) (hM : vx_Met l y ws rm Pc Qc XC mc ms free) (cw : CallW R s args own C index y bytes maxL ret ws rm mc ms n) (hp : PreV s H C b Pc As)
    (hg : g.method = m) (hn : As.length = n) (hsize : g.locals.size = nL) (hstack : g.stack = As.reverse ++ .ref b :: rest) (hW : 2 * g.monitorRoom + (rest.map fun v => v.category).sum ≤ 8) (hdg : decode cc g.pc = .ok (.invokevirtual index, 3)) (hf : cells + mc ≤ R.cells ∧ slots + ms ≤ R.slots) :
    vx_Run p l e R s m args below meth c H locs cells slots mc ms g rest (Qc (Value.ref b :: As).toArray) XC free := by
  have hK : vx_Back l R p e below s args y 3 8 (PreOf R mc ms Pc) (PostOf Qc mc ms free) (vx_Post XC mc ms free) := vx_callBack cw.1 hM hp.1
  obtain ⟨⟨-, -, -, -, -, -, hcode, -, hy, hlen, hl⟩, hin, hse⟩ := cw
  obtain ⟨hx, hb, hml, ho, -⟩ := S
  obtain ⟨-, ⟨cellB, hcB, hoB, hclB⟩, hPc⟩ := hp
  intro T hT X
  rcases vx_callV X hx (C := C) (bytes := bytes) (maxL := maxL) (ret := ret) ho hl hin hse hcode hy hK (by rw [hT]; exact hcB) hoB hclB hg (hsize.trans hml.symm) (argsL := As) (rest := rest) (fun sig h => hn.trans (hlen sig h)) hstack hW (by rw [hb]; exact hdg)
    (fun vm₁ hW₁ => ⟨hf.1, hf.2, hPc (T.setVm vm₁) hT hW₁⟩) with ⟨v, vm₁, ⟨U', l2, c2, s2⟩, hW₁, X', ⟨g', mk, t, L, e1, e2, hq, h1, hL, h2, h3⟩, st⟩ | ⟨q, vm₁, ⟨U', l2, c2, s2⟩, hW₁, X', ⟨g', mk, t, L, E, ce, e1, e2, hq, hce, hcv, hcl, h1, hL, h2, h3⟩, st⟩
  · dsimp only [Pt.U, Pt.locs, Pt.cells, Pt.slots] at X' e1 e2 h1 h2 h3 st
    subst h1; subst h2; subst h3
    exact Or.inl ⟨v, (T.setVm vm₁).calling g' mk (Value.ref b :: As).toArray, t, U', L, hT, X', hL, e1, e2, hq, st⟩
  · dsimp only [Pt.U, Pt.locs, Pt.cells, Pt.slots] at X' e1 e2 h1 h2 h3 st hcl
    subst h1; subst h2; subst h3
    exact Or.inr ⟨q, (T.setVm vm₁).calling g' mk (Value.ref b :: As).toArray, t, U', L, E, ce, hT, X', hL, e1, e2, hq, hce, hcv, vx_cls hW₁ hcl, st⟩
theorem vx_runS (S : CallFix p m c cc nL s args Ts own) (hM : vx_Met l y ws rm Pc Qc XC mc ms free) (cw : CallB R s args own index y bytes maxL ret ws rm mc ms n ∧ (Cond.static y).before args s = true) (hp : PreS s H Pc As)
    (hg : g.method = m) (hn : As.length = n) (hsize : g.locals.size = nL) (hstack : g.stack = As.reverse ++ rest) (hW : 2 * g.monitorRoom + (rest.map fun v => v.category).sum ≤ 8) (hdg : decode cc g.pc = .ok (.invokestatic index, 3)) (hf : cells + mc ≤ R.cells ∧ slots + ms ≤ R.slots) :
    vx_Run p l e R s m args below meth c H locs cells slots mc ms g rest (Qc As.toArray) XC free := by
  have hK : vx_Back l R p e below s args y 3 8 (PreOf R mc ms Pc) (PostOf Qc mc ms free) (vx_Post XC mc ms free) := vx_callBack cw.1 hM hp.1
  obtain ⟨⟨-, -, -, -, -, -, hcode, hini, hy, hlen, hl⟩, hstt⟩ := cw
  obtain ⟨hx, hb, hml, ho, -⟩ := S
  intro T hT X
  rcases vx_callS X hx (bytes := bytes) (maxL := maxL) (ret := ret) ho hl hstt hini hcode hy hK hg (hsize.trans hml.symm) (argsL := As) (rest := rest) (fun sig h => hn.trans (hlen sig h)) hstack hW (by rw [hb]; exact hdg)
    (fun vm₁ hW₁ => ⟨hf.1, hf.2, hp.2 (T.setVm vm₁) hT hW₁⟩) with ⟨v, vm₁, ⟨U', l2, c2, s2⟩, hW₁, X', ⟨g', mk, t, L, e1, e2, hq, h1, hL, h2, h3⟩, st⟩ | ⟨q, vm₁, ⟨U', l2, c2, s2⟩, hW₁, X', ⟨g', mk, t, L, E, ce, e1, e2, hq, hce, hcv, hcl, h1, hL, h2, h3⟩, st⟩
  · dsimp only [Pt.U, Pt.locs, Pt.cells, Pt.slots] at X' e1 e2 h1 h2 h3 st
    subst h1; subst h2; subst h3
    exact Or.inl ⟨v, (T.setVm vm₁).calling g' mk As.toArray, t, U', L, hT, X', hL, e1, e2, hq, st⟩
  · dsimp only [Pt.U, Pt.locs, Pt.cells, Pt.slots] at X' e1 e2 h1 h2 h3 st hcl
    subst h1; subst h2; subst h3
    exact Or.inr ⟨q, (T.setVm vm₁).calling g' mk As.toArray, t, U', L, E, ce, hT, X', hL, e1, e2, hq, hce, hcv, vx_cls hW₁ hcl, st⟩
end Runs
section Rows
variable {p : Program} {l : Launch} {e : Env} {R : Room} {s : State} {m : MethodId} {args : Array Value} {below : List Frame} {meth : Method} {c : Code} {H : Heap} {locs : List Loc} {cells slots : Nat} {Q : State → Prop}
variable {mc ms : Nat} {free : Addr → Prop} {A0 A1 : Nat → Prop} {H0 : Heap} {a : Array Value} {pc : Nat} {ls : Array Slot} {st0 rest : List Value}
theorem vx_keep {st₀ t T' : State} {L : List Loc} (h0 : st₀.heap = H) (e1 : T'.heap = t.heap) (hS : va_S A0 H0 H locs) (hA : ∀ q, q < H.size → A1 q → A0 q) (hf : ∀ q, free q → A0 q) (hL : ∀ q ∈ L, free q.base) (hF : va_F A1 st₀ t) :
    H.size ≤ T'.heap.size ∧ (∀ q : Nat, q < H.size → ¬ A1 q → T'.heap[q]? = H[q]?) ∧ va_S A0 H0 T'.heap (locs ++ L) := by
  obtain ⟨hz, hk⟩ := hF
  rw [h0] at hz hk
  exact ⟨by rw [e1]; exact hz, fun q h1 h2 => by rw [e1]; exact hk q h1 h2,
    ⟨Nat.le_trans hS.1 (by rw [e1]; exact hz), fun q h1 h2 => by rw [e1, hk q (Nat.lt_of_lt_of_le h1 hS.1) (fun z => h2 (hA q (Nat.lt_of_lt_of_le h1 hS.1) z))]; exact hS.2.1 q h1 h2, fun q hq => by
      rcases List.mem_append.mp hq with h | h
      · exact hS.2.2 q h
      · exact hf _ (hL q h)⟩⟩
theorem vx_calli {S SX : Type} {post : Int32 → S → Prop} {px : SX → Prop} {B : S → State → Prop} {BX : String → SX → State → Prop} {AX : Nat → Prop} (hr : vx_Run p l e R s m args below meth c H locs cells slots mc ms (F0 m pc ls st0) rest (va_Qi post B A1 a) (vx_X px BX AX) free) (hS : va_S A0 H0 H locs) (hA : ∀ q, q < H.size → A1 q → A0 q) (hf : ∀ q, free q → A0 q) (hAX : ∀ q, q < H.size → AX q → A0 q)
    (kx : ∀ (E : String) (ce : Cell) (q9 : Addr) (u : SX) (t : State) (H1 : Heap) (locs1 : List Loc), t.heap = H1 → s.vm.Alike t.vm → px u → BX E u t → H.size ≤ H1.size → (∀ q : Nat, q < H.size → ¬ AX q → H1[q]? = H[q]?) → va_S A0 H0 H1 locs1 → H1[q9]? = some ce → ce.vm = .none → s.vm.findClass E = some ce.cls → vx_W p l e R s m args below meth c H1 locs1 (cells + mc) (slots + ms) Q (F0 m pc ls rest) q9)
    (kk : ∀ (r : Int32) (u : S) (t : State) (H1 : Heap) (locs1 : List Loc), t.heap = H1 → s.vm.Alike t.vm → post r u → B u t → H.size ≤ H1.size → (∀ q : Nat, q < H.size → ¬ A1 q → H1[q]? = H[q]?) → va_S A0 H0 H1 locs1 → W p l e R s m args below meth c H1 locs1 (cells + mc) (slots + ms) Q (F0 m (pc + 3) ls (.int r :: rest))) : W p l e R s m args below meth c H locs cells slots Q (F0 m pc ls st0) := by
  intro T hT X
  rcases hr T hT X with ⟨v, st₀, t, T', L, h0, X', hL, e1, e2, ⟨⟨r, u, hv, hp, hb⟩, hF⟩, st⟩ | ⟨q, st₀, t, T', L, E, ce, h0, X', hL, e1, e2, ⟨u, hp, hb, hF⟩, hce, hcv, hcl, st⟩
  · cases hv
    obtain ⟨k1, k2, k3⟩ := vx_keep h0 e1 hS hA hf hL hF
    obtain ⟨t2, a1, b1⟩ := kk r u t T'.heap (locs ++ L) e1.symm (by rw [← e2]; exact X'.warmed.alike) hp hb k1 k2 k3 T' rfl X'
    exact ⟨t2, st t2 a1, b1⟩
  · obtain ⟨k1, k2, k3⟩ := vx_keep h0 e1 hS hAX hf hL hF
    obtain ⟨t2, a1, b1⟩ := kx E ce q u t T'.heap (locs ++ L) e1.symm (by rw [← e2]; exact X'.warmed.alike) hp hb k1 k2 k3 (by rw [e1]; exact hce) hcv hcl T' rfl X'
    exact ⟨t2, st.trans a1, b1⟩
theorem vx_calll {S SX : Type} {post : Int64 → S → Prop} {px : SX → Prop} {B : S → State → Prop} {BX : String → SX → State → Prop} {AX : Nat → Prop} (hr : vx_Run p l e R s m args below meth c H locs cells slots mc ms (F0 m pc ls st0) rest (va_Ql post B A1 a) (vx_X px BX AX) free) (hS : va_S A0 H0 H locs) (hA : ∀ q, q < H.size → A1 q → A0 q) (hf : ∀ q, free q → A0 q) (hAX : ∀ q, q < H.size → AX q → A0 q)
    (kx : ∀ (E : String) (ce : Cell) (q9 : Addr) (u : SX) (t : State) (H1 : Heap) (locs1 : List Loc), t.heap = H1 → s.vm.Alike t.vm → px u → BX E u t → H.size ≤ H1.size → (∀ q : Nat, q < H.size → ¬ AX q → H1[q]? = H[q]?) → va_S A0 H0 H1 locs1 → H1[q9]? = some ce → ce.vm = .none → s.vm.findClass E = some ce.cls → vx_W p l e R s m args below meth c H1 locs1 (cells + mc) (slots + ms) Q (F0 m pc ls rest) q9)
    (kk : ∀ (r : Int64) (u : S) (t : State) (H1 : Heap) (locs1 : List Loc), t.heap = H1 → s.vm.Alike t.vm → post r u → B u t → H.size ≤ H1.size → (∀ q : Nat, q < H.size → ¬ A1 q → H1[q]? = H[q]?) → va_S A0 H0 H1 locs1 → W p l e R s m args below meth c H1 locs1 (cells + mc) (slots + ms) Q (F0 m (pc + 3) ls (.long r :: rest))) : W p l e R s m args below meth c H locs cells slots Q (F0 m pc ls st0) := by
  intro T hT X
  rcases hr T hT X with ⟨v, st₀, t, T', L, h0, X', hL, e1, e2, ⟨⟨r, u, hv, hp, hb⟩, hF⟩, st⟩ | ⟨q, st₀, t, T', L, E, ce, h0, X', hL, e1, e2, ⟨u, hp, hb, hF⟩, hce, hcv, hcl, st⟩
  · cases hv
    obtain ⟨k1, k2, k3⟩ := vx_keep h0 e1 hS hA hf hL hF
    obtain ⟨t2, a1, b1⟩ := kk r u t T'.heap (locs ++ L) e1.symm (by rw [← e2]; exact X'.warmed.alike) hp hb k1 k2 k3 T' rfl X'
    exact ⟨t2, st t2 a1, b1⟩
  · obtain ⟨k1, k2, k3⟩ := vx_keep h0 e1 hS hAX hf hL hF
    obtain ⟨t2, a1, b1⟩ := kx E ce q u t T'.heap (locs ++ L) e1.symm (by rw [← e2]; exact X'.warmed.alike) hp hb k1 k2 k3 (by rw [e1]; exact hce) hcv hcl T' rfl X'
    exact ⟨t2, st.trans a1, b1⟩
theorem vx_callf {S SX : Type} {post : UInt32 → S → Prop} {px : SX → Prop} {B : S → State → Prop} {BX : String → SX → State → Prop} {AX : Nat → Prop} (hr : vx_Run p l e R s m args below meth c H locs cells slots mc ms (F0 m pc ls st0) rest (va_Qf post B A1 a) (vx_X px BX AX) free) (hS : va_S A0 H0 H locs) (hA : ∀ q, q < H.size → A1 q → A0 q) (hf : ∀ q, free q → A0 q) (hAX : ∀ q, q < H.size → AX q → A0 q)
    (kx : ∀ (E : String) (ce : Cell) (q9 : Addr) (u : SX) (t : State) (H1 : Heap) (locs1 : List Loc), t.heap = H1 → s.vm.Alike t.vm → px u → BX E u t → H.size ≤ H1.size → (∀ q : Nat, q < H.size → ¬ AX q → H1[q]? = H[q]?) → va_S A0 H0 H1 locs1 → H1[q9]? = some ce → ce.vm = .none → s.vm.findClass E = some ce.cls → vx_W p l e R s m args below meth c H1 locs1 (cells + mc) (slots + ms) Q (F0 m pc ls rest) q9)
    (kk : ∀ (r : UInt32) (u : S) (t : State) (H1 : Heap) (locs1 : List Loc), t.heap = H1 → s.vm.Alike t.vm → post r u → B u t → H.size ≤ H1.size → (∀ q : Nat, q < H.size → ¬ A1 q → H1[q]? = H[q]?) → va_S A0 H0 H1 locs1 → W p l e R s m args below meth c H1 locs1 (cells + mc) (slots + ms) Q (F0 m (pc + 3) ls (.float r :: rest))) : W p l e R s m args below meth c H locs cells slots Q (F0 m pc ls st0) := by
  intro T hT X
  rcases hr T hT X with ⟨v, st₀, t, T', L, h0, X', hL, e1, e2, ⟨⟨r, u, hv, hp, hb⟩, hF⟩, st⟩ | ⟨q, st₀, t, T', L, E, ce, h0, X', hL, e1, e2, ⟨u, hp, hb, hF⟩, hce, hcv, hcl, st⟩
  · cases hv
    obtain ⟨k1, k2, k3⟩ := vx_keep h0 e1 hS hA hf hL hF
    obtain ⟨t2, a1, b1⟩ := kk r u t T'.heap (locs ++ L) e1.symm (by rw [← e2]; exact X'.warmed.alike) hp hb k1 k2 k3 T' rfl X'
    exact ⟨t2, st t2 a1, b1⟩
  · obtain ⟨k1, k2, k3⟩ := vx_keep h0 e1 hS hAX hf hL hF
    obtain ⟨t2, a1, b1⟩ := kx E ce q u t T'.heap (locs ++ L) e1.symm (by rw [← e2]; exact X'.warmed.alike) hp hb k1 k2 k3 (by rw [e1]; exact hce) hcv hcl T' rfl X'
    exact ⟨t2, st.trans a1, b1⟩
theorem vx_calld {S SX : Type} {post : UInt64 → S → Prop} {px : SX → Prop} {B : S → State → Prop} {BX : String → SX → State → Prop} {AX : Nat → Prop} (hr : vx_Run p l e R s m args below meth c H locs cells slots mc ms (F0 m pc ls st0) rest (va_Qd post B A1 a) (vx_X px BX AX) free) (hS : va_S A0 H0 H locs) (hA : ∀ q, q < H.size → A1 q → A0 q) (hf : ∀ q, free q → A0 q) (hAX : ∀ q, q < H.size → AX q → A0 q)
    (kx : ∀ (E : String) (ce : Cell) (q9 : Addr) (u : SX) (t : State) (H1 : Heap) (locs1 : List Loc), t.heap = H1 → s.vm.Alike t.vm → px u → BX E u t → H.size ≤ H1.size → (∀ q : Nat, q < H.size → ¬ AX q → H1[q]? = H[q]?) → va_S A0 H0 H1 locs1 → H1[q9]? = some ce → ce.vm = .none → s.vm.findClass E = some ce.cls → vx_W p l e R s m args below meth c H1 locs1 (cells + mc) (slots + ms) Q (F0 m pc ls rest) q9)
    (kk : ∀ (r : UInt64) (u : S) (t : State) (H1 : Heap) (locs1 : List Loc), t.heap = H1 → s.vm.Alike t.vm → post r u → B u t → H.size ≤ H1.size → (∀ q : Nat, q < H.size → ¬ A1 q → H1[q]? = H[q]?) → va_S A0 H0 H1 locs1 → W p l e R s m args below meth c H1 locs1 (cells + mc) (slots + ms) Q (F0 m (pc + 3) ls (.double r :: rest))) : W p l e R s m args below meth c H locs cells slots Q (F0 m pc ls st0) := by
  intro T hT X
  rcases hr T hT X with ⟨v, st₀, t, T', L, h0, X', hL, e1, e2, ⟨⟨r, u, hv, hp, hb⟩, hF⟩, st⟩ | ⟨q, st₀, t, T', L, E, ce, h0, X', hL, e1, e2, ⟨u, hp, hb, hF⟩, hce, hcv, hcl, st⟩
  · cases hv
    obtain ⟨k1, k2, k3⟩ := vx_keep h0 e1 hS hA hf hL hF
    obtain ⟨t2, a1, b1⟩ := kk r u t T'.heap (locs ++ L) e1.symm (by rw [← e2]; exact X'.warmed.alike) hp hb k1 k2 k3 T' rfl X'
    exact ⟨t2, st t2 a1, b1⟩
  · obtain ⟨k1, k2, k3⟩ := vx_keep h0 e1 hS hAX hf hL hF
    obtain ⟨t2, a1, b1⟩ := kx E ce q u t T'.heap (locs ++ L) e1.symm (by rw [← e2]; exact X'.warmed.alike) hp hb k1 k2 k3 (by rw [e1]; exact hce) hcv hcl T' rfl X'
    exact ⟨t2, st.trans a1, b1⟩
theorem vx_callv {S SX : Type} {post : S → Prop} {px : SX → Prop} {B : S → State → Prop} {BX : String → SX → State → Prop} {AX : Nat → Prop} (hr : vx_Run p l e R s m args below meth c H locs cells slots mc ms (F0 m pc ls st0) rest (va_Qv post B A1 a) (vx_X px BX AX) free) (hS : va_S A0 H0 H locs) (hA : ∀ q, q < H.size → A1 q → A0 q) (hf : ∀ q, free q → A0 q) (hAX : ∀ q, q < H.size → AX q → A0 q)
    (kx : ∀ (E : String) (ce : Cell) (q9 : Addr) (u : SX) (t : State) (H1 : Heap) (locs1 : List Loc), t.heap = H1 → s.vm.Alike t.vm → px u → BX E u t → H.size ≤ H1.size → (∀ q : Nat, q < H.size → ¬ AX q → H1[q]? = H[q]?) → va_S A0 H0 H1 locs1 → H1[q9]? = some ce → ce.vm = .none → s.vm.findClass E = some ce.cls → vx_W p l e R s m args below meth c H1 locs1 (cells + mc) (slots + ms) Q (F0 m pc ls rest) q9)
    (kk : ∀ (u : S) (t : State) (H1 : Heap) (locs1 : List Loc), t.heap = H1 → s.vm.Alike t.vm → post u → B u t → H.size ≤ H1.size → (∀ q : Nat, q < H.size → ¬ A1 q → H1[q]? = H[q]?) → va_S A0 H0 H1 locs1 → W p l e R s m args below meth c H1 locs1 (cells + mc) (slots + ms) Q (F0 m (pc + 3) ls (rest))) : W p l e R s m args below meth c H locs cells slots Q (F0 m pc ls st0) := by
  intro T hT X
  rcases hr T hT X with ⟨v, st₀, t, T', L, h0, X', hL, e1, e2, ⟨⟨u, hv, hp, hb⟩, hF⟩, st⟩ | ⟨q, st₀, t, T', L, E, ce, h0, X', hL, e1, e2, ⟨u, hp, hb, hF⟩, hce, hcv, hcl, st⟩
  · cases hv
    obtain ⟨k1, k2, k3⟩ := vx_keep h0 e1 hS hA hf hL hF
    obtain ⟨t2, a1, b1⟩ := kk u t T'.heap (locs ++ L) e1.symm (by rw [← e2]; exact X'.warmed.alike) hp hb k1 k2 k3 T' rfl X'
    exact ⟨t2, st t2 a1, b1⟩
  · obtain ⟨k1, k2, k3⟩ := vx_keep h0 e1 hS hAX hf hL hF
    obtain ⟨t2, a1, b1⟩ := kx E ce q u t T'.heap (locs ++ L) e1.symm (by rw [← e2]; exact X'.warmed.alike) hp hb k1 k2 k3 (by rw [e1]; exact hce) hcv hcl T' rfl X'
    exact ⟨t2, st.trans a1, b1⟩
/-- caught by the row x of this method's table; the rows ahead don't take it -/
theorem vx_catch {own name : String} {E : String} {ce : Cell} {q : Addr} (hown : s.vm.findClass own = some m.cls) (pre : List ExceptionTableEntry) (x : ExceptionTableEntry) (suf : List ExceptionTableEntry) (hsplit : c.exceptionTable.toList = pre ++ x :: suf)
    (hpass : ∀ z ∈ pre, covers z pc = false ∨ (z.catchType ≠ 0 ∧ ∃ nm : String, (Cond.classLink own z.catchType nm).before args s = true ∧ va_Nc E nm s)) (hx : covers x pc = true) (h0 : x.catchType ≠ 0)
    (hlink : (Cond.classLink own x.catchType name).before args s = true) (hcast : (Cond.castable E name).before args s = true) (hcell : H[q]? = some ce) (hv : ce.vm = .none) (hcl : s.vm.findClass E = some ce.cls)
    (kk : W p l e R s m args below meth c H locs cells slots Q (F0 m x.handlerPc ls [.ref q])) : vx_W p l e R s m args below meth c H locs cells slots Q (F0 m pc ls rest) q := by
  intro T hT X
  have hpl : e.platform.magicAccessors = ({} : Platform).magicAccessors := by rw [X.admits.platform]
  obtain ⟨c3, c4, hc3, hc4, hasg⟩ := Cond.castable_spec hcast
  cases Option.some.inj (hc3.symm.trans hcl)
  obtain ⟨c5, hc5, hcl5⟩ := Cond.classLink_spec hown hlink e.platform hpl
  cases Option.some.inj (hc4.symm.trans hc5)
  obtain ⟨vm', X', st⟩ := X.thenCaughtThrough q (g := F0 m pc ls rest) rfl (Steps.refl _) (by rw [hT]; exact hcell) (by rw [hv]; rfl) (by obtain ⟨k9, h9, -⟩ := Vm.findClass_spec hcl; exact ⟨k9, h9⟩) pre x suf hsplit
    (fun z hz => by
      rcases hpass z hz with h | ⟨hz0, nm, hl1, hn1⟩
      · exact Or.inl h
      · obtain ⟨c6, hc6, hcl6⟩ := Cond.classLink_spec hown hl1 e.platform hpl
        obtain ⟨a8, b8, h1, h2, h3⟩ := hn1
        cases Option.some.inj (h1.symm.trans hcl)
        cases Option.some.inj (h2.symm.trans hc6)
        exact Or.inr ⟨hz0, _, hcl6, h3⟩) hx (Or.inr ⟨h0, c4, hcl5, hasg⟩)
  obtain ⟨t, a1, b1⟩ := kk (T.setVm vm') hT X'
  exact ⟨t, st.trans a1, b1⟩
end Rows
section Ends
variable {p : Program} {l : Launch} {e : Env} {R : Room} {s : State} {m : MethodId} {args : Array Value} {below : List Frame} {meth : Method} {c : Code} {H : Heap} {locs : List Loc} {cells slots : Nat} {Q : State → Prop}
variable {mc ms : Nat} {free : Addr → Prop} {A0 A1 : Nat → Prop} {H0 : Heap} {a : Array Value} {ls : Array Slot} {st0 rest : List Value}
variable {Qc : Array Value → State → Outcome → State → Prop} {XC : String → State → State → Prop}
/-- what a body that may throw owes at its end -/
def vx_MQ (below : List Frame) (Qc : Array Value → State → Outcome → State → Prop) (XC : String → State → State → Prop) (a : Array Value) (s : State) (mc ms : Nat) (free : Addr → Prop) : State → Prop := fun t =>
  ∃ o, t.status = .running ∧ Ended t below o ∧ vx_Q Qc XC mc ms free a s o t
theorem vx_ret {g : JFrame} {mc ms : Nat} (k : W p l e R s m args below meth c H locs cells slots (MQ below Qc args s mc ms free) g) : W p l e R s m args below meth c H locs cells slots (vx_MQ below Qc XC args s mc ms free) g := by
  intro T hT X
  obtain ⟨t, a1, o, b1, b2, b3, b4⟩ := k T hT X
  exact ⟨t, a1, o, b1, b2, Or.inl ⟨b3, b4⟩⟩
/-- not caught here: it goes on to the caller -/
theorem vx_widen {g : JFrame} {q : Addr} {k n : Nat} (h1 : cells ≤ k) (h2 : slots ≤ n) (kk : vx_W p l e R s m args below meth c H locs k n Q g q) : vx_W p l e R s m args below meth c H locs cells slots Q g q := fun T hT X => kk T hT (stand_widen X h1 h2)
theorem vx_out {pc : Nat} {E : String} {ce : Cell} {q : Addr} {mc ms : Nat} (hout : ∀ x ∈ c.exceptionTable.toList, covers x pc = false) (hlocks : meth.locks = false) (hcell : H[q]? = some ce) (hv : ce.vm = .none) (hcl : s.vm.findClass E = some ce.cls)
    (hx : ∀ t : State, t.heap = H → s.vm.Alike t.vm → XC E s t) (hf : ∀ z ∈ locs, free z.base) (hc : cells ≤ mc) (hs : slots ≤ ms) :
    vx_W p l e R s m args below meth c H locs cells slots (vx_MQ below Qc XC args s mc ms free) (F0 m pc ls rest) q := by
  intro T hT X
  obtain ⟨st1, hrun, hend, hW, hsm⟩ := X.leaveThrown q (g := F0 m pc ls rest) rfl rfl rfl hout hlocks
  have hcell9 : (T.setFrames (.throwing q :: below)).heap[q]? = some ce := by
    show T.heap[q]? = some ce
    rw [hT]; exact hcell
  exact ⟨_, st1, .threw q, hrun, hend, Or.inr ⟨q, rfl, E, ce, locs, hx _ hT hW.alike, hcell9, hv, hcl, hW, hsm.mono hc hs, hf⟩⟩
theorem vx_frame {U : State} {k n : Nat} (h : s.sameButNew ({ U with vm := s.vm } : State) locs k n) : s.heap.size ≤ U.heap.size ∧ ∀ q : Nat, q < s.heap.size → (∀ z ∈ locs, z.base ≠ q) → U.heap[q]? = s.heap[q]? := by
  obtain ⟨-, h2, -, -, -, h6⟩ := h
  refine ⟨h2, fun q hq hz => ?_⟩
  obtain ⟨c9, e1, e2, e3, e4⟩ := h6 q _ (Array.getElem?_eq_getElem hq)
  have hs : c9.slots = (s.heap[q]).slots := Array.ext_getElem? fun i => e4 i fun hm => hz _ hm rfl
  have h9 : c9 = s.heap[q] := by
    rw [hs] at e2
    exact e2
  have e5 : U.heap[q]? = some c9 := e1
  rw [e5, h9, Array.getElem?_eq_getElem hq]
/-- the words of a throw but the four that speak of the heap -/
def vx_no (w : Cond) : Bool := decide (w ≠ .isRef (.static Bundle.tN "UNASSIGNED_STACK" Bundle.steD)) && decide (w ≠ .isRef (.static Bundle.tN "SUPPRESSED_SENTINEL" Bundle.listD)) && decide (w ≠ .laysStatic Bundle.tN "UNASSIGNED_STACK" Bundle.steD) && decide (w ≠ .laysStatic Bundle.tN "SUPPRESSED_SENTINEL" Bundle.listD)
def vx_at0 (own : String) (ic : Nat) (X : String) (names : List String) : List Cond := (Bundle.ownAtoms0 own ic X names).filter vx_no
def vx_atS (own : String) (ic : Nat) (X : String) (names : List String) : List Cond := (Bundle.ownAtoms own ic X names).filter vx_no
/-- a word that the tables alone decide, or a good one -/
def vx_ot (w : Cond) : Bool := w.onTables || goodWord w
theorem vx_ot_at {args a' : Array Value} {s U : State} {w : Cond} (hW : s.WarmedH U.vm) (hvm : s.vm = U.vm) (hg : vx_ot w = true) (h : w.before args s = true) : w.before a' U = true := by
  simp only [vx_ot, Bool.or_eq_true] at hg
  rcases hg with hg | hg
  · exact va_tabs hg hvm h
  · exact word_at hW (good_of_word hg) h
/-- a list's words: the good ones out of the method's own list, the others by premises of their own -/
theorem vx_hat {args : Array Value} {s : State} {L B : List Cond} (h1 : ∀ w ∈ L.filter goodWord, w.before args s = true) (h2 : ∀ w ∈ L.filter (fun w => !goodWord w), w ∈ B) (h3 : ∀ w ∈ B, w.before args s = true) : ∀ w ∈ L, w.before args s = true := by
  intro w hw
  by_cases g : goodWord w = true
  · exact h1 w (List.mem_filter.mpr ⟨hw, g⟩)
  · refine h3 w (h2 w (List.mem_filter.mpr ⟨hw, ?_⟩))
    show (!goodWord w) = true
    cases hgw : goodWord w
    · rfl
    · exact absurd hgw g
theorem vx_c {args : Array Value} {s : State} {w : Cond} {B : List Cond} (h : w.before args s = true) (t : ∀ w ∈ B, w.before args s = true) : ∀ w' ∈ w :: B, w'.before args s = true := fun w' h' => (List.mem_cons.mp h').elim (fun e => by rw [e]; exact h) (t w')
theorem vx_n {args : Array Value} {s : State} : ∀ w ∈ ([] : List Cond), w.before args s = true := fun _ h => nomatch h
theorem vx_own {args : Array Value} {s : State} {L : List Cond} (h1 : ∀ w ∈ L.filter vx_no, w.before args s = true)
    (hU : (Cond.isRef (.static Bundle.tN "UNASSIGNED_STACK" Bundle.steD)).before args s = true) (hN : (Cond.isRef (.static Bundle.tN "SUPPRESSED_SENTINEL" Bundle.listD)).before args s = true)
    (lU : (Cond.laysStatic Bundle.tN "UNASSIGNED_STACK" Bundle.steD).before args s = true) (lN : (Cond.laysStatic Bundle.tN "SUPPRESSED_SENTINEL" Bundle.listD).before args s = true) : ∀ w ∈ L, w.before args s = true := by
  intro w hw
  by_cases e1 : w = .isRef (.static Bundle.tN "UNASSIGNED_STACK" Bundle.steD)
  · rw [e1]; exact hU
  · by_cases e2 : w = .isRef (.static Bundle.tN "SUPPRESSED_SENTINEL" Bundle.listD)
    · rw [e2]; exact hN
    · by_cases e3 : w = .laysStatic Bundle.tN "UNASSIGNED_STACK" Bundle.steD
      · rw [e3]; exact lU
      · by_cases e4 : w = .laysStatic Bundle.tN "SUPPRESSED_SENTINEL" Bundle.listD
        · rw [e4]; exact lN
        · exact h1 w (List.mem_filter.mpr ⟨hw, by unfold vx_no; rw [decide_eq_true e1, decide_eq_true e2, decide_eq_true e3, decide_eq_true e4]; rfl⟩)
/-- where a static field lies, its class's statics cell in H -/
def vx_L (C n d : String) (A : Nat → Prop) (U : State) (H : Heap) : Prop := ∃ (c : ClassId) (k : Class) (i : Nat) (f : Field) (a : Nat) (cell : Cell), U.vm.findClass C = some c ∧ U.fieldFound? C n d = some (c, k, i, f) ∧ f.isStatic = true ∧ k.statics = some a ∧ H[a]? = some cell ∧ cell.vm.isStatics = true ∧ cell.cls = c ∧ f.slot < cell.slots.size ∧ k.staticTypes[f.slot]? = some f.type ∧ ¬ A a
theorem vx_L.moved {C n d : String} {A : Nat → Prop} {u U : State} {H : Heap} (hvm : u.vm.Alike U.vm) (h : vx_L C n d A u H) : vx_L C n d A U H := by
  obtain ⟨c, k, i, f, a, cell, h1, h2, h3, h4, h5, h6, h7, h8, h9, h10⟩ := h
  obtain ⟨k', hi', he⟩ := State.fieldFound?_setVm hvm h2
  exact ⟨c, k', i, f, a, cell, by rw [hvm.findClass]; exact h1, hi', h3, by rw [he]; exact h4, h5, h6, h7, h8, by rw [he]; exact h9, h10⟩
theorem vx_L.kept {C n d : String} {A : Nat → Prop} {U : State} {H H1 : Heap} (h : vx_L C n d A U H) (hq : ∀ a : Nat, a < H.size → ¬ A a → H1[a]? = H[a]?) : vx_L C n d A U H1 := by
  obtain ⟨c, k, i, f, a, cell, h1, h2, h3, h4, h5, h6, h7, h8, h9, h10⟩ := h
  exact ⟨c, k, i, f, a, cell, h1, h2, h3, h4, by rw [hq a (Array.getElem?_eq_some_iff.mp h5).1 h10]; exact h5, h6, h7, h8, h9, h10⟩
theorem vx_L.narrow {C n d : String} {A B : Nat → Prop} {U : State} {H : Heap} (h : vx_L C n d A U H) (hAB : ∀ q, B q → A q) : vx_L C n d B U H := by
  obtain ⟨c, k, i, f, a, cell, h1, h2, h3, h4, h5, h6, h7, h8, h9, h10⟩ := h
  exact ⟨c, k, i, f, a, cell, h1, h2, h3, h4, h5, h6, h7, h8, h9, fun z => h10 (hAB _ z)⟩
theorem vx_L.word {C n d : String} {A : Nat → Prop} {s : State} {args : Array Value} (h : vx_L C n d A s s.heap) : (Cond.laysStatic C n d).before args s = true := by
  obtain ⟨c, k, i, f, a, cell, h1, h2, h3, h4, h5, h6, h7, h8, h9, -⟩ := h
  show (Cond.laysStatic C n d).holds args s none s [] = true
  exact Cond.laysStatic_of h1 h2 h3 h4 h5 h6 h7 h8 h9
/-- .. and what it holds: null or some reference -/
def vx_Zq (C n d : String) (A : Nat → Prop) (U : State) (H : Heap) : Prop := va_Zq C n d A U H ∧ vx_L C n d A U H
theorem vx_Zq.moved {C n d : String} {A : Nat → Prop} {u U : State} {H : Heap} (hvm : u.vm.Alike U.vm) (h : vx_Zq C n d A u H) : vx_Zq C n d A U H := ⟨va_Zq.moved hvm h.1, vx_L.moved hvm h.2⟩
theorem vx_Zq.kept {C n d : String} {A : Nat → Prop} {U : State} {H H1 : Heap} (h : vx_Zq C n d A U H) (hq : ∀ a : Nat, a < H.size → ¬ A a → H1[a]? = H[a]?) : vx_Zq C n d A U H1 := ⟨va_Zq.kept h.1 hq, vx_L.kept h.2 hq⟩
theorem vx_Zq.narrow {C n d : String} {A B : Nat → Prop} {U : State} {H : Heap} (h : vx_Zq C n d A U H) (hAB : ∀ q, B q → A q) : vx_Zq C n d B U H := ⟨va_Zq.narrow h.1 hAB, vx_L.narrow h.2 hAB⟩
theorem vx_Zqof {args : Array Value} {s : State} {C n d : String} {A : Nat → Prop} (hl : (Cond.laysStatic C n d).before args s = true) (hini : (Cond.initialized C).before args s = true) (h : (Cond.isRef (.static C n d)).before args s = true) (hA : ∀ a : Nat, a < s.heap.size → ¬ A a) : vx_Zq C n d A s s.heap := by
  refine ⟨va_Zqof hl hini h hA, ?_⟩
  obtain ⟨c, k, i, f, a, cell, h1, h2, h3, h4, h5, h6, h7, h8, h9⟩ := Cond.laysStatic_spec hl
  exact ⟨c, k, i, f, a, cell, h1, h2, h3, h4, h5, h6, h7, h8, h9, hA a (Array.getElem?_eq_some_iff.mp h5).1⟩
theorem vx_isRef {C n d : String} {v : Value} {A : Nat → Prop} {s : State} {args : Array Value} (h : va_Z C n d v A s s.heap) (hv : v.isRef = true) : (Cond.isRef (.static C n d)).before args s = true := by
  obtain ⟨cf, kf, fi, f, a, cell, h1, h2, h3, h4, h5, h6, h7, -⟩ := h
  have he : (Term.static C n d).eval args s none [] s = some v := by
    simp [Term.eval, State.fieldNamed?, h1, h2, h4, h5, h6, h7]
  simp only [Cond.before, Cond.holds, Cond.value, he]
  cases v <;> simp_all [Value.isRef]
theorem vx_isRefq {C n d : String} {A : Nat → Prop} {s : State} {args : Array Value} (h : va_Zq C n d A s s.heap) : (Cond.isRef (.static C n d)).before args s = true := by
  rcases h with h | ⟨t, h⟩
  · exact vx_isRef h rfl
  · exact vx_isRef h rfl
/-- the same frame, seen from here: as if the method were called anew in this heap -/
theorem vx_rebase {T : State} (X : Stand p l e R s m args below meth c T locs cells slots) {R' : Room} (hf : R'.frames ≤ R.frames) (hl : R'.locals ≤ R.locals) (hc : cells + R'.cells ≤ R.cells) (hs : slots + R'.slots ≤ R.slots) :
    Stand p l e R' ((T.setVm s.vm).setFrames (.invoking m args :: below)) m args below meth c T [] 0 0 := by
  have htop : (T.setVm s.vm).topJava?.isSome := X.here.top
  have hF : ((T.setVm s.vm).setFrames (.invoking m args :: below)).frames = .invoking m args :: below := State.frames_setFrames _ (State.cur_lt_of_top htop)
  obtain ⟨g₀, hg0⟩ := Option.isSome_iff_exists.mp htop
  obtain ⟨r, hr⟩ := State.topJava?_eq_some.mp hg0
  have hl9 : e.platform.stackLimits (T.setVm s.vm).me = e.platform.stackLimits s.me := X.limits
  have hb9 : (T.setVm s.vm).me.stackBytes = s.me.stackBytes := X.bytes
  refine ⟨X.admits, X.cas, X.clock, hF, ?_, X.hears, X.method, X.code, X.here, X.tail, X.warmed, ?_, ?_, ?_⟩
  · have h := X.room
    have hU : ((T.setVm s.vm).setFrames (.invoking m args :: below)).localsInUse = s.localsInUse := by
      rw [State.localsInUse_invoking hF (meth := meth) (c := c) X.method X.code, State.localsInUse_invoking X.frames X.method X.code]
    simp only [State.hasRoom, Bool.and_eq_true, decide_eq_true_eq] at h ⊢
    obtain ⟨⟨⟨⟨h1, h2, h3, h4, h5, h6⟩, h7⟩, h8⟩, h9⟩ := h
    rw [X.frames, List.length_cons] at h2 h3
    have q1 := X.heapSize
    have q2 := X.used
    simp only [hF, hU, List.length_cons, State.stackLimits_setFrames, State.stackBytes_setFrames, hl9, hb9]
    refine ⟨⟨⟨⟨by omega, by omega, by omega, by omega, by omega, h6⟩, ?_⟩, ?_⟩, X.book⟩
    · show T.heap.size + R'.cells ≤ e.platform.maxCells
      omega
    · show T.slotsUsed + R'.slots ≤ e.platform.maxSlots
      omega
  · rw [State.stackLimits_setFrames]; rfl
  · rw [State.stackBytes_setFrames]; rfl
  · refine ⟨?_, Nat.le_refl _, Nat.le_refl _, ?_, ?_, fun a c9 h9 => ⟨c9, h9, rfl, rfl, fun _ _ => rfl⟩⟩
    · obtain ⟨t, ht, -⟩ := State.frames_cons hr
      show T.setVm s.vm = { ((T.setVm s.vm).setFrames (.invoking m args :: below)).setFrames (T.setVm s.vm).frames with heap := T.heap, slotsUsed := T.slotsUsed }
      rw [State.setFrames_setFrames, State.setFrames_self ht]
      rfl
    · show T.slotsUsed = T.slotsUsed + ((T.heap.toList.drop T.heap.size).map (·.slots.size)).sum
      rw [List.drop_eq_nil_of_le (Nat.le_of_eq Array.length_toList)]
      rfl
    · show ((T.heap.toList.drop T.heap.size).map (·.slots.size)).sum ≤ 0
      rw [List.drop_eq_nil_of_le (Nat.le_of_eq Array.length_toList)]
      exact Nat.le_refl _
/-- 'throw new E()': new; dup; invokespecial; athrow -/
theorem vx_throw0 {cc : ByteArray} {pc : Nat} (hexec : p.tables.exec = Jvm.exec) (hb : c.code = cc) (hl : l.stackTraces = false) {own cls : String} {names : List String} {ik ic mc ms : Nat} {A : Nat → Prop}
    (hown : s.vm.findClass own = some m.cls) (hcls : Bundle.fit cls = true) (hnames : ∀ n ∈ names, Bundle.fit n = true)
    (hk : (Cond.classLink own ik cls).before args s = true) (hini : (Cond.initialized cls).before args s = true) (hat : ∀ w ∈ vx_at0 own ic cls names, w.before args s = true)
    (hgood : ∀ w ∈ Cond.classLink own ik cls :: Cond.initialized cls :: vx_at0 own ic cls names, vx_ot w = true)
    (hU : vx_Zq Bundle.tN "UNASSIGNED_STACK" Bundle.steD A s s.heap) (hN : vx_Zq Bundle.tN "SUPPRESSED_SENTINEL" Bundle.listD A s s.heap) (hS : va_S A s.heap H locs) (hsize : ls.size = c.maxLocals)
    (d0 : decode cc pc = .ok (.new ik, 3)) (d3 : decode cc (pc + 3) = .ok (.dup, 1)) (d4 : decode cc (pc + 4) = .ok (.invokespecial ic, 3)) (d7 : decode cc (pc + 7) = .ok (.athrow, 1))
    (hout : ∀ x ∈ c.exceptionTable.toList, covers x (pc + 7) = false)
    (hRframes : names.length + 3 < R.frames) (hRlocals : (rest.map fun v => v.category).sum + (13 * (names.length + 1) + 42) ≤ R.locals) (hRcells : cells + 1 ≤ R.cells) (hRslots : slots + 6 ≤ R.slots) (hlocks : meth.locks = false)
    (hx : ∀ t : State, s.vm.Alike t.vm → H.size ≤ t.heap.size → (∀ q : Nat, q < H.size → t.heap[q]? = H[q]?) → XC cls s t)
    (hf : ∀ z ∈ locs, free z.base) (hc : cells + 1 ≤ mc) (hs : slots + 6 ≤ ms) :
    W p l e R s m args below meth c H locs cells slots (vx_MQ below Qc XC args s mc ms free) (F0 m pc ls rest) := by
  intro T hT X
  have htr : e.platform.stackTraces = false := (show e.platform.stackTraces = l.stackTraces by rw [X.admits.platform]).trans hl
  have Y := vx_rebase X (R' := { frames := R.frames, locals := R.locals, cells := 1, slots := 6 }) (Nat.le_refl _) (Nat.le_refl _) hRcells hRslots
  obtain ⟨s', hA⟩ : ∃ z, z = (T.setVm s.vm).setFrames (.invoking m args :: below) := ⟨_, rfl⟩
  rw [← hA] at Y
  have hvm : s'.vm = s.vm := by rw [hA]; rfl
  have hhp : s'.heap = H := by rw [hA]; exact hT
  have hW0 : s.WarmedH s'.vm := by rw [hvm]; exact State.WarmedH.refl s
  have hat' : ∀ w ∈ vx_at0 own ic cls names, w.before args s' = true := fun w hw => vx_ot_at hW0 hvm.symm (hgood w (List.mem_cons_of_mem _ (List.mem_cons_of_mem _ hw))) (hat w hw)
  have hk' : (Cond.classLink own ik cls).before args s' = true := vx_ot_at hW0 hvm.symm (hgood _ List.mem_cons_self) hk
  have hini' : (Cond.initialized cls).before args s' = true := vx_ot_at hW0 hvm.symm (hgood _ (List.mem_cons_of_mem _ List.mem_cons_self)) hini
  have hU' : vx_Zq Bundle.tN "UNASSIGNED_STACK" Bundle.steD A s' s'.heap := by rw [hhp]; exact vx_Zq.moved hW0.alike (hU.kept hS.2.1)
  have hN' : vx_Zq Bundle.tN "SUPPRESSED_SENTINEL" Bundle.listD A s' s'.heap := by rw [hhp]; exact vx_Zq.moved hW0.alike (hN.kept hS.2.1)
  have h : ∀ w ∈ Bundle.ownAtoms0 own ic cls names, w.before args s' = true := vx_own hat' (vx_isRefq hU'.1) (vx_isRefq hN'.1) hU'.2.word hN'.2.word
  have hown' : s'.vm.findClass own = some m.cls := by rw [hvm]; exact hown
  have hins : (Cond.instantiable cls 6).before args s' = true := h _ (by simp [Bundle.ownAtoms0])
  obtain ⟨vm₁, cX, kX, hfX, hkX, -, -, X₁, st1⟩ := Y.newCold hexec (own := own) (C := cls) (index := ik) (n := 6) hown' hk' hins hini'
    (g := F0 m pc ls rest) rfl (by rw [hb]; exact d0) (Nat.le_refl _) (Nat.le_refl _)
  generalize hT1 : (T.setVm vm₁).pushCell { cls := cX, slots := kX.instanceTypes.map defaultValue, vm := .none } = T1 at X₁ st1
  have hcat : (Value.ref T.heap.size).category = 1 := rfl
  have hcellA : T1.heap[T.heap.size]? = some (freshCell cX kX) := by rw [← hT1]; exact State.heap_pushCell_size _ _
  have d3' : decode c.code (pc + 3) = .ok (.dup, 1) := by rw [hb]; exact d3
  obtain ⟨U, hsteps, hrun, hend, hW, hsame, ce, hce, hO⟩ := X₁.ctorThrow0 hexec htr (own := own) (cls := cls) (names := names) (ic := ic) hown' hcls hnames h (fun x hx => nomatch hx) hfX hkX hcellA (by rw [hhp, hT]; exact Nat.le_refl _)
    (g := { method := m, pc := pc + 4, locals := ls, stack := .ref T.heap.size :: .ref T.heap.size :: rest, locked := none }) rfl hsize rfl rfl (rest := rest) rfl
    (by rw [hb]; exact d4) (by rw [hb]; exact d7) hout hRframes (by simp only [List.map_cons, List.sum_cons, hcat]; omega) hlocks
  obtain ⟨f1, f2⟩ := vx_frame hsame
  rw [hhp] at f1 f2
  have hWs : s.WarmedH U.vm := State.WarmedH.trans hW0 hW
  have hcl : s.vm.findClass cls = some ce.cls := by
    have h9 := hO.cls
    rw [hvm] at h9
    exact h9
  have hall : s.sameButNew ({ U with vm := s.vm } : State) locs mc ms := by
    subst hA
    obtain ⟨e1, e2⟩ := hsame
    rw [State.setFrames_setFrames] at e1
    have h2 : (T.setVm s.vm).sameButNew ({ U with vm := s.vm } : State) [] (0 + 1) (0 + 6) := ⟨e1, e2⟩
    have h3 := X.same.trans h2
    rw [List.append_nil] at h3
    exact h3.mono hc hs
  refine ⟨U, ?_, .threw T.heap.size, hrun, hend, Or.inr ⟨T.heap.size, rfl, cls, ce, locs, hx U hWs.alike f1 (fun q hq => f2 q hq (fun z hz => nomatch hz)), hce, hO.vm, hcl, hWs, hall, hf⟩⟩
  refine st1 _ ?_
  show Steps p.tables e below (T1.setTop { method := m, pc := pc + 3, locals := ls, stack := .ref T.heap.size :: rest, locked := none }) _
  jvm_step X₁.here [X₁.here.top, hexec, d3', Value.category]
  exact hsteps
/-- 'throw new E("text")': new; dup; ldc; invokespecial; athrow -/
theorem vx_throwS {cc : ByteArray} {pc : Nat} (hexec : p.tables.exec = Jvm.exec) (hb : c.code = cc) (hl : l.stackTraces = false) {own cls text : String} {names : List String} {ik is ic mc ms sa : Nat} {A : Nat → Prop}
    (hown : s.vm.findClass own = some m.cls) (hcls : Bundle.fit cls = true) (hnames : ∀ n ∈ names, Bundle.fit n = true)
    (hk : (Cond.classLink own ik cls).before args s = true) (hini : (Cond.initialized cls).before args s = true) (hstr : vk_R own is text sa s) (hat : ∀ w ∈ vx_atS own ic cls names, w.before args s = true)
    (hgood : ∀ w ∈ Cond.classLink own ik cls :: Cond.initialized cls :: vx_atS own ic cls names, vx_ot w = true)
    (hU : vx_Zq Bundle.tN "UNASSIGNED_STACK" Bundle.steD A s s.heap) (hN : vx_Zq Bundle.tN "SUPPRESSED_SENTINEL" Bundle.listD A s s.heap) (hS : va_S A s.heap H locs) (hsize : ls.size = c.maxLocals)
    (d0 : decode cc pc = .ok (.new ik, 3)) (d3 : decode cc (pc + 3) = .ok (.dup, 1)) (d4 : decode cc (pc + 4) = .ok (.ldc is, 2)) (d6 : decode cc (pc + 6) = .ok (.invokespecial ic, 3)) (d9 : decode cc (pc + 9) = .ok (.athrow, 1))
    (hout : ∀ x ∈ c.exceptionTable.toList, covers x (pc + 9) = false)
    (hRframes : names.length + 3 < R.frames) (hRlocals : (rest.map fun v => v.category).sum + (13 * (names.length + 1) + 43) ≤ R.locals) (hRcells : cells + 1 ≤ R.cells) (hRslots : slots + 6 ≤ R.slots) (hlocks : meth.locks = false)
    (hx : ∀ t : State, s.vm.Alike t.vm → H.size ≤ t.heap.size → (∀ q : Nat, q < H.size → t.heap[q]? = H[q]?) → XC cls s t)
    (hf : ∀ z ∈ locs, free z.base) (hc : cells + 1 ≤ mc) (hs : slots + 6 ≤ ms) :
    W p l e R s m args below meth c H locs cells slots (vx_MQ below Qc XC args s mc ms free) (F0 m pc ls rest) := by
  intro T hT X
  have htr : e.platform.stackTraces = false := (show e.platform.stackTraces = l.stackTraces by rw [X.admits.platform]).trans hl
  have Y := vx_rebase X (R' := { frames := R.frames, locals := R.locals, cells := 1, slots := 6 }) (Nat.le_refl _) (Nat.le_refl _) hRcells hRslots
  obtain ⟨s', hA⟩ : ∃ z, z = (T.setVm s.vm).setFrames (.invoking m args :: below) := ⟨_, rfl⟩
  rw [← hA] at Y
  have hvm : s'.vm = s.vm := by rw [hA]; rfl
  have hhp : s'.heap = H := by rw [hA]; exact hT
  have hW0 : s.WarmedH s'.vm := by rw [hvm]; exact State.WarmedH.refl s
  have hat' : ∀ w ∈ vx_atS own ic cls names, w.before args s' = true := fun w hw => vx_ot_at hW0 hvm.symm (hgood w (List.mem_cons_of_mem _ (List.mem_cons_of_mem _ hw))) (hat w hw)
  have hk' : (Cond.classLink own ik cls).before args s' = true := vx_ot_at hW0 hvm.symm (hgood _ List.mem_cons_self) hk
  have hini' : (Cond.initialized cls).before args s' = true := vx_ot_at hW0 hvm.symm (hgood _ (List.mem_cons_of_mem _ List.mem_cons_self)) hini
  have hU' : vx_Zq Bundle.tN "UNASSIGNED_STACK" Bundle.steD A s' s'.heap := by rw [hhp]; exact vx_Zq.moved hW0.alike (hU.kept hS.2.1)
  have hN' : vx_Zq Bundle.tN "SUPPRESSED_SENTINEL" Bundle.listD A s' s'.heap := by rw [hhp]; exact vx_Zq.moved hW0.alike (hN.kept hS.2.1)
  have h : ∀ w ∈ Bundle.ownAtoms own ic cls names, w.before args s' = true := vx_own hat' (vx_isRefq hU'.1) (vx_isRefq hN'.1) hU'.2.word hN'.2.word
  have hown' : s'.vm.findClass own = some m.cls := by rw [hvm]; exact hown
  have hins : (Cond.instantiable cls 6).before args s' = true := h _ (by simp [Bundle.ownAtoms])
  obtain ⟨vm₁, cX, kX, hfX, hkX, -, -, X₁, st1⟩ := Y.newCold hexec (own := own) (C := cls) (index := ik) (n := 6) hown' hk' hins hini'
    (g := F0 m pc ls rest) rfl (by rw [hb]; exact d0) (Nat.le_refl _) (Nat.le_refl _)
  generalize hT1 : (T.setVm vm₁).pushCell { cls := cX, slots := kX.instanceTypes.map defaultValue, vm := .none } = T1 at X₁ st1
  have hcat : (Value.ref T.heap.size).category = 1 := rfl
  have hcellA : T1.heap[T.heap.size]? = some (freshCell cX kX) := by rw [← hT1]; exact State.heap_pushCell_size _ _
  have d3' : decode c.code (pc + 3) = .ok (.dup, 1) := by rw [hb]; exact d3
  have d4' : decode c.code (pc + 4) = .ok (.ldc is, 2) := by rw [hb]; exact d4
  have hstr' : vk_R own is text sa s' := vk_R.warm hW0 hstr
  obtain ⟨U, hsteps, hrun, hend, hW, hsame, ce, hce, hO⟩ := X₁.ctorThrowS hexec htr (own := own) (cls := cls) (names := names) (ic := ic) hown' hcls hnames h (fun x hx => nomatch hx) hfX hkX hcellA (by rw [hhp, hT]; exact Nat.le_refl _) (msg := .ref sa) rfl
    (g := { method := m, pc := pc + 6, locals := ls, stack := .ref sa :: .ref T.heap.size :: .ref T.heap.size :: rest, locked := none }) rfl hsize rfl rfl (rest := rest) rfl
    (by rw [hb]; exact d6) (by rw [hb]; exact d9) hout hRframes (by simp only [List.map_cons, List.sum_cons, hcat]; omega) hlocks
  obtain ⟨f1, f2⟩ := vx_frame hsame
  rw [hhp] at f1 f2
  have hWs : s.WarmedH U.vm := State.WarmedH.trans hW0 hW
  have hcl : s.vm.findClass cls = some ce.cls := by
    have h9 := hO.cls
    rw [hvm] at h9
    exact h9
  have hall : s.sameButNew ({ U with vm := s.vm } : State) locs mc ms := by
    subst hA
    obtain ⟨e1, e2⟩ := hsame
    rw [State.setFrames_setFrames] at e1
    have h2 : (T.setVm s.vm).sameButNew ({ U with vm := s.vm } : State) [] (0 + 1) (0 + 6) := ⟨e1, e2⟩
    have h3 := X.same.trans h2
    rw [List.append_nil] at h3
    exact h3.mono hc hs
  refine ⟨U, ?_, .threw T.heap.size, hrun, hend, Or.inr ⟨T.heap.size, rfl, cls, ce, locs, hx U hWs.alike f1 (fun q hq => f2 q hq (fun z hz => nomatch hz)), hce, hO.vm, hcl, hWs, hall, hf⟩⟩
  refine st1 _ ?_
  show Steps p.tables e below (T1.setTop { method := m, pc := pc + 3, locals := ls, stack := .ref T.heap.size :: rest, locked := none }) _
  jvm_step X₁.here [X₁.here.top, hexec, d3', Value.category]
  exact X₁.ldcString hexec (own := own) (text := text) (index := is) (a := sa) hown' hstr'.1 hstr'.2
    (g := { method := m, pc := pc + 4, locals := ls, stack := .ref T.heap.size :: .ref T.heap.size :: rest, locked := none }) rfl d4' _ hsteps
/-- 'throw new E("text")', the text by a wide index -/
theorem vx_throwSW {cc : ByteArray} {pc : Nat} (hexec : p.tables.exec = Jvm.exec) (hb : c.code = cc) (hl : l.stackTraces = false) {own cls text : String} {names : List String} {ik is ic mc ms sa : Nat} {A : Nat → Prop}
    (hown : s.vm.findClass own = some m.cls) (hcls : Bundle.fit cls = true) (hnames : ∀ n ∈ names, Bundle.fit n = true)
    (hk : (Cond.classLink own ik cls).before args s = true) (hini : (Cond.initialized cls).before args s = true) (hstr : vk_R own is text sa s) (hat : ∀ w ∈ vx_atS own ic cls names, w.before args s = true)
    (hgood : ∀ w ∈ Cond.classLink own ik cls :: Cond.initialized cls :: vx_atS own ic cls names, vx_ot w = true)
    (hU : vx_Zq Bundle.tN "UNASSIGNED_STACK" Bundle.steD A s s.heap) (hN : vx_Zq Bundle.tN "SUPPRESSED_SENTINEL" Bundle.listD A s s.heap) (hS : va_S A s.heap H locs) (hsize : ls.size = c.maxLocals)
    (d0 : decode cc pc = .ok (.new ik, 3)) (d3 : decode cc (pc + 3) = .ok (.dup, 1)) (d4 : decode cc (pc + 4) = .ok (.ldc_w is, 3)) (d7 : decode cc (pc + 7) = .ok (.invokespecial ic, 3)) (d10 : decode cc (pc + 10) = .ok (.athrow, 1))
    (hout : ∀ x ∈ c.exceptionTable.toList, covers x (pc + 10) = false)
    (hRframes : names.length + 3 < R.frames) (hRlocals : (rest.map fun v => v.category).sum + (13 * (names.length + 1) + 43) ≤ R.locals) (hRcells : cells + 1 ≤ R.cells) (hRslots : slots + 6 ≤ R.slots) (hlocks : meth.locks = false)
    (hx : ∀ t : State, s.vm.Alike t.vm → H.size ≤ t.heap.size → (∀ q : Nat, q < H.size → t.heap[q]? = H[q]?) → XC cls s t)
    (hf : ∀ z ∈ locs, free z.base) (hc : cells + 1 ≤ mc) (hs : slots + 6 ≤ ms) :
    W p l e R s m args below meth c H locs cells slots (vx_MQ below Qc XC args s mc ms free) (F0 m pc ls rest) := by
  intro T hT X
  have htr : e.platform.stackTraces = false := (show e.platform.stackTraces = l.stackTraces by rw [X.admits.platform]).trans hl
  have Y := vx_rebase X (R' := { frames := R.frames, locals := R.locals, cells := 1, slots := 6 }) (Nat.le_refl _) (Nat.le_refl _) hRcells hRslots
  obtain ⟨s', hA⟩ : ∃ z, z = (T.setVm s.vm).setFrames (.invoking m args :: below) := ⟨_, rfl⟩
  rw [← hA] at Y
  have hvm : s'.vm = s.vm := by rw [hA]; rfl
  have hhp : s'.heap = H := by rw [hA]; exact hT
  have hW0 : s.WarmedH s'.vm := by rw [hvm]; exact State.WarmedH.refl s
  have hat' : ∀ w ∈ vx_atS own ic cls names, w.before args s' = true := fun w hw => vx_ot_at hW0 hvm.symm (hgood w (List.mem_cons_of_mem _ (List.mem_cons_of_mem _ hw))) (hat w hw)
  have hk' : (Cond.classLink own ik cls).before args s' = true := vx_ot_at hW0 hvm.symm (hgood _ List.mem_cons_self) hk
  have hini' : (Cond.initialized cls).before args s' = true := vx_ot_at hW0 hvm.symm (hgood _ (List.mem_cons_of_mem _ List.mem_cons_self)) hini
  have hU' : vx_Zq Bundle.tN "UNASSIGNED_STACK" Bundle.steD A s' s'.heap := by rw [hhp]; exact vx_Zq.moved hW0.alike (hU.kept hS.2.1)
  have hN' : vx_Zq Bundle.tN "SUPPRESSED_SENTINEL" Bundle.listD A s' s'.heap := by rw [hhp]; exact vx_Zq.moved hW0.alike (hN.kept hS.2.1)
  have h : ∀ w ∈ Bundle.ownAtoms own ic cls names, w.before args s' = true := vx_own hat' (vx_isRefq hU'.1) (vx_isRefq hN'.1) hU'.2.word hN'.2.word
  have hown' : s'.vm.findClass own = some m.cls := by rw [hvm]; exact hown
  have hins : (Cond.instantiable cls 6).before args s' = true := h _ (by simp [Bundle.ownAtoms])
  obtain ⟨vm₁, cX, kX, hfX, hkX, -, -, X₁, st1⟩ := Y.newCold hexec (own := own) (C := cls) (index := ik) (n := 6) hown' hk' hins hini'
    (g := F0 m pc ls rest) rfl (by rw [hb]; exact d0) (Nat.le_refl _) (Nat.le_refl _)
  generalize hT1 : (T.setVm vm₁).pushCell { cls := cX, slots := kX.instanceTypes.map defaultValue, vm := .none } = T1 at X₁ st1
  have hcat : (Value.ref T.heap.size).category = 1 := rfl
  have hcellA : T1.heap[T.heap.size]? = some (freshCell cX kX) := by rw [← hT1]; exact State.heap_pushCell_size _ _
  have d3' : decode c.code (pc + 3) = .ok (.dup, 1) := by rw [hb]; exact d3
  have d4' : decode c.code (pc + 4) = .ok (.ldc_w is, 3) := by rw [hb]; exact d4
  have hstr' : vk_R own is text sa s' := vk_R.warm hW0 hstr
  obtain ⟨U, hsteps, hrun, hend, hW, hsame, ce, hce, hO⟩ := X₁.ctorThrowS hexec htr (own := own) (cls := cls) (names := names) (ic := ic) hown' hcls hnames h (fun x hx => nomatch hx) hfX hkX hcellA (by rw [hhp, hT]; exact Nat.le_refl _) (msg := .ref sa) rfl
    (g := { method := m, pc := pc + 7, locals := ls, stack := .ref sa :: .ref T.heap.size :: .ref T.heap.size :: rest, locked := none }) rfl hsize rfl rfl (rest := rest) rfl
    (by rw [hb]; exact d7) (by rw [hb]; exact d10) hout hRframes (by simp only [List.map_cons, List.sum_cons, hcat]; omega) hlocks
  obtain ⟨f1, f2⟩ := vx_frame hsame
  rw [hhp] at f1 f2
  have hWs : s.WarmedH U.vm := State.WarmedH.trans hW0 hW
  have hcl : s.vm.findClass cls = some ce.cls := by
    have h9 := hO.cls
    rw [hvm] at h9
    exact h9
  have hall : s.sameButNew ({ U with vm := s.vm } : State) locs mc ms := by
    subst hA
    obtain ⟨e1, e2⟩ := hsame
    rw [State.setFrames_setFrames] at e1
    have h2 : (T.setVm s.vm).sameButNew ({ U with vm := s.vm } : State) [] (0 + 1) (0 + 6) := ⟨e1, e2⟩
    have h3 := X.same.trans h2
    rw [List.append_nil] at h3
    exact h3.mono hc hs
  refine ⟨U, ?_, .threw T.heap.size, hrun, hend, Or.inr ⟨T.heap.size, rfl, cls, ce, locs, hx U hWs.alike f1 (fun q hq => f2 q hq (fun z hz => nomatch hz)), hce, hO.vm, hcl, hWs, hall, hf⟩⟩
  refine st1 _ ?_
  show Steps p.tables e below (T1.setTop { method := m, pc := pc + 3, locals := ls, stack := .ref T.heap.size :: rest, locked := none }) _
  jvm_step X₁.here [X₁.here.top, hexec, d3', Value.category]
  exact X₁.ldcStringW hexec (own := own) (text := text) (index := is) (a := sa) hown' hstr'.1 hstr'.2
    (g := { method := m, pc := pc + 4, locals := ls, stack := .ref T.heap.size :: .ref T.heap.size :: rest, locked := none }) rfl d4' _ hsteps
end Ends
section Bodies
variable {l : Launch}
theorem vx_ofW {y : MethodName} {ws ws' : List Cond} {rm : Room} {Pc : Array Value → State → Prop} {Qc : Array Value → State → Outcome → State → Prop} {XC : String → State → State → Prop} {mc ms : Nat} {free : Addr → Prop} {cc : ByteArray} {maxL : Nat} {ret : Option FieldType}
    (hy : plainName y.cls = true) (hw : ws = Cond.code y cc maxL ret :: ws')
    (body : ∀ p e s m args below meth c s₁, BodyLoose p l y (headSpec ws rm) cc maxL ret e s m args below meth c s₁ → c.maxLocals = maxL → (∀ x ∈ c.exceptionTable.toList, False) → Pc args s →
      W p l e (headSpec ws rm).room s m args below meth c s.heap [] 0 0 (vx_MQ below Qc XC args s mc ms free) (entryFrame m args maxL)) : vx_Met l y ws rm Pc Qc XC mc ms free := by
  refine MetFree.of_bodyS (code := cc) (maxLocals := maxL) (ret := ret) hy ?_ ?_
  · intro args s m h hn
    obtain ⟨meth, c, h1, h2, h3, h4, h5, h6, -, -⟩ := Cond.code_spec hn (atoms_spec (ws := ws) h _ (by rw [hw]; exact List.mem_cons_self))
    exact ⟨meth, c, h1, h2, h3, h4, h5, h6⟩
  · intro p e s m args below meth c s₁ B hml hP _
    have hh0 : s₁.heap = s.heap := by rw [B.state]; rfl
    have ht : ∀ x ∈ c.exceptionTable.toList, False := by
      obtain ⟨meth9, c9, h1, h2, -, -, -, -, h7, -⟩ := Cond.code_spec B.named (atoms_spec (ws := ws) B.pre _ (by rw [hw]; exact List.mem_cons_self))
      cases Option.some.inj (h1.symm.trans B.method)
      cases Option.some.inj (h2.symm.trans (Stand.of_body B).code)
      intro x hx
      rw [Array.isEmpty_iff.mp h7] at hx
      cases hx
    obtain ⟨t, a1, o, b1, b2, b3⟩ := body p e s m args below meth c s₁ B hml ht hP s₁ hh0 (Stand.of_body B)
    exact ⟨t, o, a1, b1, b2, b3⟩
/-- the table of a body with handlers -/
theorem vx_table {p : Program} {x y : MethodName} {S : Spec} {cc bytes : ByteArray} {maxL maxL' : Nat} {ret ret' : Option FieldType} {e : Env} {s s₁ : State} {m : MethodId} {args : Array Value} {below : List Frame} {meth : Method} {c : Code} {hh : List (Nat × Nat × Nat × Nat)}
    (B : BodyLoose p l y S cc maxL ret e s m args below meth c s₁) (h : (Cond.codeWith y bytes maxL' ret' hh).before args s = true) : c.exceptionTable.toList = tableOf hh := by
  obtain ⟨m9, meth9, c9, hn9, h1, h2, -, -, h6, -⟩ := Cond.codeWith_spec h
  cases Option.some.inj (hn9.symm.trans B.named)
  cases Option.some.inj (h1.symm.trans B.method)
  cases Option.some.inj (h2.symm.trans (Stand.of_body B).code)
  rw [← h6, table_eq]
end Bodies
end VXA
/-! ===== END ===== -/
/-! ===== BEGIN a static call of a method with an exception table ===== -/
section VXS
variable {p : Program} {l : Launch} {e : Env} {R : Room} {s : State} {m : MethodId} {args : Array Value} {below : List Frame} {meth : Method} {c : Code} {T : State} {H : Heap} {locs : List Loc} {cells slots : Nat}
abbrev vx_CSW (R : Room) (s : State) (args : Array Value) (own : String) (index : Nat) (y : MethodName) (bytes : ByteArray) (maxL : Nat) (ret : Option FieldType) (hh : List (Nat × Nat × Nat × Nat)) (ws : List Cond) (rm : Room) (mc ms n : Nat) : Prop :=
  (rm.cells = mc ∧ rm.slots = ms ∧ rm.frames + 1 ≤ R.frames ∧ 8 + (maxL + 11) + rm.locals ≤ R.locals ∧ (∀ w ∈ ws, ∀ (a' : Array Value) (U : State), s.WarmedH U.vm → w.before a' U = true) ∧ Cond.codeWith y bytes maxL ret hh ∈ ws) ∧
  (Cond.codeWith y bytes maxL ret hh).before args s = true ∧ (Cond.initialized y.cls).before args s = true ∧ (y.cls ≠ "java/lang/invoke/MethodHandle" ∧ y.cls ≠ "java/lang/invoke/VarHandle") ∧
  (∀ sig, parseMethodDescriptor y.desc = some sig → n = sig.parameters.length) ∧ (Cond.methodLink own index y).before args s = true ∧ (Cond.static y).before args s = true
theorem vx_cwSW {own : String} {index maxL mc ms : Nat} {y : MethodName} {bytes : ByteArray} {ret : Option FieldType} {hh : List (Nat × Nat × Nat × Nat)} {Ts ws ws' : List Cond} {rm : Room} (n : Nat) (ht : ∀ w ∈ Ts, w.before args s = true) (hT : GoodIn Ts (va_wsS own index y ws)) (hw : ws = Cond.codeWith y bytes maxL ret hh :: ws') (hrc : rm.cells = mc) (hrs : rm.slots = ms)
    (hd : y.cls ≠ "java/lang/invoke/MethodHandle" ∧ y.cls ≠ "java/lang/invoke/VarHandle" ∧ (parseMethodDescriptor y.desc).map (fun d => d.parameters.length) = some n) (hR : rm.frames + 1 ≤ R.frames ∧ 8 + (maxL + 11) + rm.locals ≤ R.locals) :
    vx_CSW R s args own index y bytes maxL ret hh ws rm mc ms n := by
  have ok : ∀ w ∈ va_wsS own index y ws, w.before args s = true := fun w h => ht w (hT w h).1
  have hG : GoodIn Ts ws := fun w h => hT w (by unfold va_wsS; exact List.mem_append_right _ h)
  have hc : Cond.codeWith y bytes maxL ret hh ∈ ws := by rw [hw]; exact List.mem_cons_self
  refine ⟨⟨hrc, hrs, hR.1, hR.2, pay_in ht hG, hc⟩, ht _ (hG _ hc).1, ok _ (by simp [va_wsS]), ⟨hd.1, hd.2.1⟩, fun sig h => ?_, ok _ (by simp [va_wsS]), ok _ (by simp [va_wsS])⟩
  have h2 := hd.2.2
  rw [h] at h2
  exact (Option.some.inj h2).symm
theorem vx_callSW (X : Stand p l e R s m args below meth c T locs cells slots) (hexec : p.tables.exec = Jvm.exec) {own : String} {index : Nat} {y : MethodName} {bytes : ByteArray} {maxL : Nat} {ret : Option FieldType} {hh : List (Nat × Nat × Nat × Nat)}
    (hown : s.vm.findClass own = some m.cls) (hlink : (Cond.methodLink own index y).before args s = true) (hstat : (Cond.static y).before args s = true) (hinit : (Cond.initialized y.cls).before args s = true)
    (hcode : (Cond.codeWith y bytes maxL ret hh).before args s = true) (hy : y.cls ≠ "java/lang/invoke/MethodHandle" ∧ y.cls ≠ "java/lang/invoke/VarHandle")
    {W9 : Nat} {Pre : Pt → Array Value → Prop} {Post : Pt → Array Value → Option Value → Pt → Prop} (hK : Back l R p e below s args y 3 W9 Pre Post)
    {g : JFrame} (hg : g.method = m) (hsize : g.locals.size = c.maxLocals) {argsL rest : List Value} (hlen : ∀ sig, parseMethodDescriptor y.desc = some sig → argsL.length = sig.parameters.length)
    (hstack : g.stack = argsL.reverse ++ rest) (hW : 2 * g.monitorRoom + (rest.map fun v => v.category).sum ≤ W9) (hdg : decode c.code g.pc = .ok (.invokestatic index, 3))
    (hpre : ∀ vm₁, s.WarmedH vm₁ → Pre ⟨T.setVm vm₁, locs, cells, slots⟩ argsL.toArray) :
    ∃ (v : Option Value) (vm₁ : Vm) (B : Pt), s.WarmedH vm₁ ∧ Stand p l e R s m args below meth c B.U B.locs B.cells B.slots ∧ Post ⟨T.setVm vm₁, locs, cells, slots⟩ argsL.toArray v B ∧
      ∀ target, Steps p.tables e below (B.U.setTop { g with pc := g.pc + 3, stack := v.toList ++ rest }) target → Steps p.tables e below (T.setTop g) target := by
  obtain ⟨mk, methM, cM, hnamed, hmethM, -, -, -, -, -, -, hsigM⟩ := Cond.codeWith_spec hcode
  have hstatic : methM.isStatic = true := Cond.static_spec hnamed hmethM hstat
  obtain ⟨kP, hkP, -⟩ := className_of_methodNamed hnamed
  have hinitP : kP.init = .initialized := Cond.initialized_spec (findClass_of_methodNamed hnamed) hkP hinit
  obtain ⟨vm₁, X₁, hstep₁⟩ := X.invokestatic hexec hown hlink hnamed hmethM hstatic hkP hinitP hy (g := g) hg (argsL := argsL) (rest := rest) (hlen _ hsigM) hstack hdg
  obtain ⟨v, B, X', hpost, hsteps⟩ := hK m meth c ⟨T.setVm vm₁, locs, cells, slots⟩ { g with stack := rest } (.invokestatic index) mk argsL.toArray X₁ hg hsize hdg hW (X₁.named hnamed) (hpre vm₁ X₁.warmed)
  exact ⟨v, vm₁, B, X₁.warmed, X', hpost, fun target h => hstep₁ _ fun acts => by rw [doInvoke_state]; exact hsteps.trans h⟩
theorem vx_runSW {y : MethodName} {bytes cc : ByteArray} {maxL nL mc ms n index : Nat} {ret : Option FieldType} {hh : List (Nat × Nat × Nat × Nat)} {ws : List Cond} {rm : Room} {Pc : Array Value → State → Prop} {Qc : Array Value → State → Outcome → State → Prop} {free : Addr → Prop} {Ts : List Cond} {own : String} {As rest : List Value} {g : JFrame}
    (S : CallFix p m c cc nL s args Ts own) (hM : Met l y ws rm Pc Qc mc ms free) (cw : vx_CSW R s args own index y bytes maxL ret hh ws rm mc ms n) (hp : PreS s H Pc As)
    (hg : g.method = m) (hn : As.length = n) (hsize : g.locals.size = nL) (hstack : g.stack = As.reverse ++ rest) (hW : 2 * g.monitorRoom + (rest.map fun v => v.category).sum ≤ 8) (hdg : decode cc g.pc = .ok (.invokestatic index, 3)) (hf : cells + mc ≤ R.cells ∧ slots + ms ≤ R.slots) :
    va_Run p l e R s m args below meth c H locs cells slots mc ms g rest (Qc As.toArray) (free) := by
  obtain ⟨⟨hrc, hrs, hfr, hlo, hws, hcw⟩, hcode, hini, hy, hlen, hl, hstt⟩ := cw
  have hK : Back l R p e below s args y 3 8 (PreOf R mc ms Pc) (PostOf Qc mc ms free) := va_backW (hh := hh) (bytes := bytes) (maxL := maxL) (ret := ret) hM hp.1 hrc hrs hfr hlo hws hcw (fun a' U hW => word_at hW (Or.inl (by first | rfl | simp [Cond.onTables, Cond.keeps, Cond.steady])) hini)
  obtain ⟨hx, hb, hml, ho, -⟩ := S
  intro T hT X
  obtain ⟨v, vm₁, ⟨U', l2, c2, s2⟩, hW₁, X', ⟨g', mk, t, L, e1, e2, hq, h1, hL, h2, h3⟩, st⟩ := vx_callSW X hx (hh := hh) (bytes := bytes) (maxL := maxL) (ret := ret) ho hl hstt hini hcode hy hK hg (hsize.trans hml.symm) (argsL := As) (rest := rest) (fun sig h => hn.trans (hlen sig h)) hstack hW (by rw [hb]; exact hdg)
    (fun vm₁ hW₁ => ⟨hf.1, hf.2, hp.2 (T.setVm vm₁) hT hW₁⟩)
  dsimp only [Pt.U, Pt.locs, Pt.cells, Pt.slots] at X' e1 e2 h1 h2 h3 st
  subst h1; subst h2; subst h3
  exact ⟨v, (T.setVm vm₁).calling g' mk As.toArray, t, U', L, hT, X', hL, e1, e2, hq, st⟩
/-- not caught here, past rows that name other classes: it goes on to the caller -/
theorem vx_outP {p : Program} {l : Launch} {e : Env} {R : Room} {s : State} {m : MethodId} {args : Array Value} {below : List Frame} {meth : Method} {c : Code} {H : Heap} {locs : List Loc} {cells slots : Nat} {free : Addr → Prop} {ls : Array Slot} {rest : List Value} {Qc : Array Value → State → Outcome → State → Prop} {XC : String → State → State → Prop}
    {pc : Nat} {own E : String} {ce : Cell} {q : Addr} {mc ms : Nat} (hown : s.vm.findClass own = some m.cls) (hlocks : meth.locks = false)
    (hpass : ∀ z ∈ c.exceptionTable.toList, covers z pc = false ∨ (z.catchType ≠ 0 ∧ ∃ nm : String, (Cond.classLink own z.catchType nm).before args s = true ∧ va_Nc E nm s)) (hcell : H[q]? = some ce) (hv : ce.vm = .none) (hcl : s.vm.findClass E = some ce.cls)
    (hx : ∀ t : State, t.heap = H → s.vm.Alike t.vm → XC E s t) (hf : ∀ z ∈ locs, free z.base) (hc : cells ≤ mc) (hs : slots ≤ ms) :
    vx_W p l e R s m args below meth c H locs cells slots (vx_MQ below Qc XC args s mc ms free) (F0 m pc ls rest) q := by
  intro T hT X
  have hpl : e.platform.magicAccessors = ({} : Platform).magicAccessors := by rw [X.admits.platform]
  obtain ⟨vm', hW', X', st⟩ := X.outThrough hlocks q (g := F0 m pc ls rest) rfl rfl rfl (cell := ce) (by rw [hT]; exact hcell) (by rw [hv]; rfl)
    (by obtain ⟨k9, h9, -⟩ := Vm.findClass_spec hcl; exact ⟨k9, h9⟩) (fun z hz => by
      rcases hpass z hz with h | ⟨hz0, nm, hl1, hn1⟩
      · exact Or.inl h
      · obtain ⟨c6, hc6, hcl6⟩ := Cond.classLink_spec hown hl1 e.platform hpl
        obtain ⟨a8, b8, h1, h2, h3⟩ := hn1
        cases Option.some.inj (h1.symm.trans hcl)
        cases Option.some.inj (h2.symm.trans hc6)
        exact Or.inr ⟨hz0, _, hcl6, h3⟩)
  obtain ⟨g₀, hfr⟩ := X'.frames_eq
  have hcell9 : ((T.setVm vm').setFrames (.throwing q :: below)).heap[q]? = some ce := by
    show T.heap[q]? = some ce
    rw [hT]; exact hcell
  have hend : Ended ((T.setVm vm').setFrames (.throwing q :: below)) below (.threw q) := State.frames_setFrames _ (State.cur_lt_of_frames hfr)
  refine ⟨(T.setVm vm').setFrames (.throwing q :: below), ?_, .threw q, X'.here.running, hend, Or.inr ⟨q, rfl, E, ce, locs, hx _ hT (X'.ends _).1.alike, hcell9, hv, hcl, (X'.ends _).1, (X'.ends _).2.mono hc hs, hf⟩⟩
  rw [X.pushThrowing_eq]
  exact st
/-- a thing of a world lies in the heap -/
theorem vx_lt {D : va_G} {cl : List vw_C} {ws : va_W} {H1 : Heap} (h : va_P D cl ws H1) {k : Nat} {q : Nat × va_E} (hk : ws[k]? = some q) : q.1 < H1.size := (h k q hk).lt
end VXS
/-! ===== END ===== -/
/-! ===== BEGIN methods with a table of their own: called by a name, returning or throwing ===== -/
section VXH
/-! vx_backW, vx_callVX, vx_callSX, vx_callVW, vx_runVW, vx_runVX, vx_runSX, vx_ofWH follow the same proofs as their sisters above (Free/Laws.lean, Shelf42/LK1.lean); vx_outP calls Shelf42/NT130.lean (outThrough). -/
section
variable {l : Launch} {R : Room} {p : Program} {e : Env} {below : List Frame} {s : State} {sargs : Array Value} {y : MethodName} {len W9 : Nat}
theorem vx_backW {ws : List Cond} {rm : Room} {Pc : Array Value → State → Prop} {Qc : Array Value → State → Outcome → State → Prop} {XC : String → State → State → Prop} {mc ms : Nat} {free : Addr → Prop} {bytes : ByteArray} {maxL : Nat} {ret : Option FieldType} {hh : List (Nat × Nat × Nat × Nat)}
    (hM : vx_Met l y ws rm Pc Qc XC mc ms free) (hblind : FrameBlind Pc) (hrc : rm.cells = mc) (hrs : rm.slots = ms)
    (hframes : rm.frames + 1 ≤ R.frames) (hlocals : W9 + (maxL + 11) + rm.locals ≤ R.locals)
    (hws : ∀ w ∈ ws, ∀ a' U, s.WarmedH U.vm → w.before a' U = true) (hcode : Cond.codeWith y bytes maxL ret hh ∈ ws) (hinit : ∀ a' U, s.WarmedH U.vm → (Cond.initialized y.cls).before a' U = true) :
    vx_Back l R p e below s sargs y len W9 (PreOf R mc ms Pc) (PostOf Qc mc ms free) (vx_Post XC mc ms free) := by
  intro m meth c A g ig mk a X hg hsize hdg hW hn hp
  have h1 : (headSpec ws rm).pre.before a A.U = true := atoms_intro fun w hw => hws w hw _ _ X.warmed
  have h2 : (Cond.codeWith y bytes maxL ret hh).before a A.U = true := hws _ hcode _ _ X.warmed
  have h3 : (Cond.initialized y.cls).before a A.U = true := hinit _ _ X.warmed
  have h4 : A.cells + (headSpec ws rm).room.cells ≤ R.cells := by rw [show (headSpec ws rm).room.cells = mc from hrc]; exact hp.1
  have h5 : A.slots + (headSpec ws rm).room.slots ≤ R.slots := by rw [show (headSpec ws rm).room.slots = ms from hrs]; exact hp.2.1
  have hPc : Pc a (A.U.calling g mk a) := hblind _ _ _ _ hp.2.2
  obtain ⟨U, Ls, c0, s0⟩ := A
  dsimp only [Pt.U, Pt.locs, Pt.cells, Pt.slots] at h1 h2 h3 h4 h5 X hn hPc ⊢
  obtain ⟨m9, methY, cY, hn9, hmY, hcY, -, hlY, -⟩ := Cond.codeWith_spec h2
  cases Option.some.inj (hn9.symm.trans hn)
  obtain ⟨kY, hkY, -⟩ := className_of_methodNamed hn
  have hinitY : kY.init = .initialized := Cond.initialized_spec (findClass_of_methodNamed hn) hkY h3
  have h : At U g.method c below := by rw [hg]; exact X.here
  have hlocals9 : W9 + (maxL + 11) + (headSpec ws rm).room.locals ≤ R.locals := hlocals
  have happ : (headSpec ws rm).appliesLoose y e.platform (U.calling g mk a) = true :=
    Spec.appliesLoose_calling (g := g) h hdg hn hkY hinitY
      (X.room_calling (g := g) (R' := (headSpec ws rm).room) hsize hmY hcY hframes (by rw [hlY]; omega) h4 h5) h1
  obtain ⟨mid, hmid⟩ := h.above
  have hfr : (U.setTop g).frames = (.java g :: mid) ++ below := by rw [State.frames_setTop' g h.top, hmid]; rfl
  obtain ⟨o, s₂, hsteps, -, hend, hq⟩ := Steps.callFree hM p X.admits X.cas X.clock (acts := []) hfr happ hPc trivial
  have hq' : vx_Q Qc XC mc ms free a (U.calling g mk a) o s₂ := hq
  rw [State.frames_setTop' g h.top] at hend
  obtain ⟨g₀, hg0⟩ := Option.isSome_iff_exists.mp h.top
  obtain ⟨r, hr⟩ := State.topJava?_eq_some.mp hg0
  have hr' : (({ U with heap := s₂.heap, slotsUsed := s₂.slotsUsed } : State).setVm s₂.vm).frames = .java g₀ :: r := hr
  rcases hq' with ⟨hqc, L, hfe, hL⟩ | ⟨q, rfl, E, ce, L, hx, hce, hcv, hcl, hW₂, hsm, hL⟩
  · obtain ⟨⟨v, rfl⟩, hW₂, e2, q2, q3, q4, q5, q6⟩ := id hfe
    have e3 : s₂ = ({ (U.calling g mk a).setFrames s₂.frames with heap := s₂.heap, slotsUsed := s₂.slotsUsed } : State).setVm s₂.vm := by
      have : s₂ = ({ s₂ with vm := (U.calling g mk a).vm } : State).setVm s₂.vm := rfl
      rw [e2] at this
      exact this
    obtain ⟨c₂, i₂, len₂, hc₂, hd₂, hf₂⟩ := hend
    have hW' : U.WarmedH s₂.vm := hW₂
    have hcc : c₂ = c := by
      have h1 : s₂.code? g.method = U.code? g.method := by
        rw [State.code?_eq, State.code?_eq, hW'.alike.method?]
      exact Option.some.inj (hc₂.symm.trans (h1.trans h.code))
    subst hcc
    have hlen : len₂ = len := by rw [hdg] at hd₂; cases hd₂; rfl
    subst hlen
    have hs₂ : s₂ = (({ U with heap := s₂.heap, slotsUsed := s₂.slotsUsed } : State).setVm s₂.vm).setTop { g with pc := g.pc + len₂, stack := v.toList ++ g.stack } := by
      refine e3.trans ?_
      rw [hf₂, State.calling_eq h.top, State.setFrames_setFrames, State.setTop_of_frames _ hr', hr]
      rfl
    have hsame : U.sameButNew ({ U with heap := s₂.heap, slotsUsed := s₂.slotsUsed } : State) L mc ms := by
      refine ⟨?_, q2, q3, q4, q5, q6⟩
      obtain ⟨t, ht, -⟩ := State.frames_cons hr
      show ({ U with heap := s₂.heap, slotsUsed := s₂.slotsUsed } : State) = { U.setFrames U.frames with heap := s₂.heap, slotsUsed := s₂.slotsUsed }
      rw [State.setFrames_self ht]
    subst hg
    refine Or.inl ⟨v, ⟨(({ U with heap := s₂.heap, slotsUsed := s₂.slotsUsed } : State).setVm s₂.vm), Ls ++ L, c0 + mc, s0 + ms⟩,
      ⟨X.admits, X.cas, X.clock, X.frames, X.room, X.hears, X.method, X.code, (X.here.setHeapUsed s₂.heap s₂.slotsUsed).setVm hW'.alike, X.tail, State.WarmedH.trans X.warmed hW', X.limits, X.bytes, X.same.trans (hsame.setVm s.vm)⟩,
      ⟨g, mk, s₂, L, rfl, rfl, hqc, rfl, hL, rfl, rfl⟩, ?_⟩
    show Steps p.tables e below _ ((({ U with heap := s₂.heap, slotsUsed := s₂.slotsUsed } : State).setVm s₂.vm).setTop { g with pc := g.pc + len₂, stack := v.toList ++ g.stack })
    rw [← hs₂]
    exact hsteps
  · obtain ⟨e2, q2, q3, q4, q5, q6⟩ := id hsm
    have e3 : s₂ = ({ (U.calling g mk a).setFrames s₂.frames with heap := s₂.heap, slotsUsed := s₂.slotsUsed } : State).setVm s₂.vm := by
      have : s₂ = ({ s₂ with vm := (U.calling g mk a).vm } : State).setVm s₂.vm := rfl
      rw [e2] at this
      exact this
    have hf₂ : s₂.frames = .throwing q :: .java g :: U.frames.tail := hend
    have hW' : U.WarmedH s₂.vm := hW₂
    have hs₂ : s₂ = ((({ U with heap := s₂.heap, slotsUsed := s₂.slotsUsed } : State).setVm s₂.vm).setTop g).pushFrame (.throwing q) := by
      refine e3.trans ?_
      rw [hf₂, State.calling_eq h.top, State.setFrames_setFrames, State.pushFrame, State.frames_setTop _ hr', State.setTop_of_frames _ hr', State.setFrames_setFrames, hr]
      rfl
    have hsame : U.sameButNew ({ U with heap := s₂.heap, slotsUsed := s₂.slotsUsed } : State) L mc ms := by
      refine ⟨?_, q2, q3, q4, q5, q6⟩
      obtain ⟨t, ht, -⟩ := State.frames_cons hr
      show ({ U with heap := s₂.heap, slotsUsed := s₂.slotsUsed } : State) = { U.setFrames U.frames with heap := s₂.heap, slotsUsed := s₂.slotsUsed }
      rw [State.setFrames_self ht]
    subst hg
    refine Or.inr ⟨q, ⟨(({ U with heap := s₂.heap, slotsUsed := s₂.slotsUsed } : State).setVm s₂.vm), Ls ++ L, c0 + mc, s0 + ms⟩,
      ⟨X.admits, X.cas, X.clock, X.frames, X.room, X.hears, X.method, X.code, (X.here.setHeapUsed s₂.heap s₂.slotsUsed).setVm hW'.alike, X.tail, State.WarmedH.trans X.warmed hW', X.limits, X.bytes, X.same.trans (hsame.setVm s.vm)⟩,
      ⟨g, mk, s₂, L, E, ce, rfl, rfl, hx, hce, hcv, hcl, rfl, hL, rfl, rfl⟩, ?_⟩
    show Steps p.tables e below _ (((({ U with heap := s₂.heap, slotsUsed := s₂.slotsUsed } : State).setVm s₂.vm).setTop g).pushFrame (.throwing q))
    rw [← hs₂]
    exact hsteps
end
variable {p : Program} {l : Launch} {e : Env} {R : Room} {s : State} {m : MethodId} {args : Array Value} {below : List Frame} {meth : Method} {c : Code} {T : State} {H : Heap} {locs : List Loc} {cells slots : Nat}
theorem vx_callVX (X : Stand p l e R s m args below meth c T locs cells slots) (hexec : p.tables.exec = Jvm.exec) {own C : String} {index : Nat} {y : MethodName} {bytes : ByteArray} {maxL : Nat} {ret : Option FieldType} {hh : List (Nat × Nat × Nat × Nat)}
    (hown : s.vm.findClass own = some m.cls) (hlink : (Cond.methodLink own index y).before args s = true) (hinst : (Cond.instanceMethod y).before args s = true) (hsel : (Cond.selects C y y).before args s = true)
    (hcode : (Cond.codeWith y bytes maxL ret hh).before args s = true) (hy : y.cls ≠ "java/lang/invoke/MethodHandle" ∧ y.cls ≠ "java/lang/invoke/VarHandle")
    {W9 : Nat} {Pre : Pt → Array Value → Prop} {Post : Pt → Array Value → Option Value → Pt → Prop} {PostX : Pt → Array Value → Addr → Pt → Prop} (hK : vx_Back l R p e below s args y 3 W9 Pre Post PostX)
    {b : Addr} {cellB : Cell} (hcell : T.heap[b]? = some cellB) (hobj : cellB.vm.isStatics = false) (hcls : s.vm.findClass C = some cellB.cls)
    {g : JFrame} (hg : g.method = m) (hsize : g.locals.size = c.maxLocals) {argsL rest : List Value} (hlen : ∀ sig, parseMethodDescriptor y.desc = some sig → argsL.length = sig.parameters.length)
    (hstack : g.stack = argsL.reverse ++ .ref b :: rest) (hW : 2 * g.monitorRoom + (rest.map fun v => v.category).sum ≤ W9) (hdg : decode c.code g.pc = .ok (.invokevirtual index, 3))
    (hpre : ∀ vm₁, s.WarmedH vm₁ → Pre ⟨T.setVm vm₁, locs, cells, slots⟩ (Value.ref b :: argsL).toArray) :
    (∃ (v : Option Value) (vm₁ : Vm) (B : Pt), s.WarmedH vm₁ ∧ Stand p l e R s m args below meth c B.U B.locs B.cells B.slots ∧ Post ⟨T.setVm vm₁, locs, cells, slots⟩ (Value.ref b :: argsL).toArray v B ∧
      ∀ target, Steps p.tables e below (B.U.setTop { g with pc := g.pc + 3, stack := v.toList ++ rest }) target → Steps p.tables e below (T.setTop g) target) ∨
    (∃ (q : Addr) (vm₁ : Vm) (B : Pt), s.WarmedH vm₁ ∧ Stand p l e R s m args below meth c B.U B.locs B.cells B.slots ∧ PostX ⟨T.setVm vm₁, locs, cells, slots⟩ (Value.ref b :: argsL).toArray q B ∧
      Steps p.tables e below (T.setTop g) ((B.U.setTop { g with stack := rest }).pushFrame (.throwing q))) := by
  obtain ⟨mk, methM, hnamed, hmethM, hstM, habM⟩ := Cond.instanceMethod_spec hinst
  obtain ⟨m8, methM', cM, hn8, hmethM', -, -, -, -, -, -, hsigM⟩ := Cond.codeWith_spec hcode
  cases Option.some.inj (hn8.symm.trans hnamed)
  cases hmethM.symm.trans hmethM'
  obtain ⟨c2, r2, m2, q1, q2, q3, q4, kP, hkP, hkPi⟩ := Cond.selects_spec hsel
  cases hcls.symm.trans q1
  cases (State.methodFound?_of_named hnamed hy).symm.trans q2
  cases hnamed.symm.trans q3
  have hselP : selectMethod e.platform s.vm cellB.cls mk = .method mk := by rw [Launch.admits_selectMethod X.admits]; exact q4
  obtain ⟨vm₁, X₁, hstep₁⟩ := X.invokevirtual hexec hown hlink hnamed hmethM hstM hkP hkPi hy (a := b) (cell := cellB) hcell
    (fun z h => by rw [h] at hobj; cases hobj) hselP hmethM habM hkP hkPi (g := g) hg (argsL := argsL) (rest := rest) (hlen _ hsigM) hstack hdg
  rcases hK m meth c ⟨T.setVm vm₁, locs, cells, slots⟩ { g with stack := rest } (.invokevirtual index) mk (Value.ref b :: argsL).toArray X₁ hg hsize hdg hW (X₁.named hnamed) (hpre vm₁ X₁.warmed) with ⟨v, B, X', hpost, hsteps⟩ | ⟨q, B, X', hpost, hsteps⟩
  · exact Or.inl ⟨v, vm₁, B, X₁.warmed, X', hpost, fun target h => hstep₁ _ fun acts => by rw [doInvoke_state]; exact hsteps.trans h⟩
  · exact Or.inr ⟨q, vm₁, B, X₁.warmed, X', hpost, hstep₁ _ fun acts => by rw [doInvoke_state]; exact hsteps⟩
theorem vx_callSX (X : Stand p l e R s m args below meth c T locs cells slots) (hexec : p.tables.exec = Jvm.exec) {own : String} {index : Nat} {y : MethodName} {bytes : ByteArray} {maxL : Nat} {ret : Option FieldType} {hh : List (Nat × Nat × Nat × Nat)}
    (hown : s.vm.findClass own = some m.cls) (hlink : (Cond.methodLink own index y).before args s = true) (hstat : (Cond.static y).before args s = true) (hinit : (Cond.initialized y.cls).before args s = true)
    (hcode : (Cond.codeWith y bytes maxL ret hh).before args s = true) (hy : y.cls ≠ "java/lang/invoke/MethodHandle" ∧ y.cls ≠ "java/lang/invoke/VarHandle")
    {W9 : Nat} {Pre : Pt → Array Value → Prop} {Post : Pt → Array Value → Option Value → Pt → Prop} {PostX : Pt → Array Value → Addr → Pt → Prop} (hK : vx_Back l R p e below s args y 3 W9 Pre Post PostX)
    {g : JFrame} (hg : g.method = m) (hsize : g.locals.size = c.maxLocals) {argsL rest : List Value} (hlen : ∀ sig, parseMethodDescriptor y.desc = some sig → argsL.length = sig.parameters.length)
    (hstack : g.stack = argsL.reverse ++ rest) (hW : 2 * g.monitorRoom + (rest.map fun v => v.category).sum ≤ W9) (hdg : decode c.code g.pc = .ok (.invokestatic index, 3))
    (hpre : ∀ vm₁, s.WarmedH vm₁ → Pre ⟨T.setVm vm₁, locs, cells, slots⟩ argsL.toArray) :
    (∃ (v : Option Value) (vm₁ : Vm) (B : Pt), s.WarmedH vm₁ ∧ Stand p l e R s m args below meth c B.U B.locs B.cells B.slots ∧ Post ⟨T.setVm vm₁, locs, cells, slots⟩ argsL.toArray v B ∧
      ∀ target, Steps p.tables e below (B.U.setTop { g with pc := g.pc + 3, stack := v.toList ++ rest }) target → Steps p.tables e below (T.setTop g) target) ∨
    (∃ (q : Addr) (vm₁ : Vm) (B : Pt), s.WarmedH vm₁ ∧ Stand p l e R s m args below meth c B.U B.locs B.cells B.slots ∧ PostX ⟨T.setVm vm₁, locs, cells, slots⟩ argsL.toArray q B ∧
      Steps p.tables e below (T.setTop g) ((B.U.setTop { g with stack := rest }).pushFrame (.throwing q))) := by
  obtain ⟨mk, methM, cM, hnamed, hmethM, -, -, -, -, -, -, hsigM⟩ := Cond.codeWith_spec hcode
  have hstatic : methM.isStatic = true := Cond.static_spec hnamed hmethM hstat
  obtain ⟨kP, hkP, -⟩ := className_of_methodNamed hnamed
  have hinitP : kP.init = .initialized := Cond.initialized_spec (findClass_of_methodNamed hnamed) hkP hinit
  obtain ⟨vm₁, X₁, hstep₁⟩ := X.invokestatic hexec hown hlink hnamed hmethM hstatic hkP hinitP hy (g := g) hg (argsL := argsL) (rest := rest) (hlen _ hsigM) hstack hdg
  rcases hK m meth c ⟨T.setVm vm₁, locs, cells, slots⟩ { g with stack := rest } (.invokestatic index) mk argsL.toArray X₁ hg hsize hdg hW (X₁.named hnamed) (hpre vm₁ X₁.warmed) with ⟨v, B, X', hpost, hsteps⟩ | ⟨q, B, X', hpost, hsteps⟩
  · exact Or.inl ⟨v, vm₁, B, X₁.warmed, X', hpost, fun target h => hstep₁ _ fun acts => by rw [doInvoke_state]; exact hsteps.trans h⟩
  · exact Or.inr ⟨q, vm₁, B, X₁.warmed, X', hpost, hstep₁ _ fun acts => by rw [doInvoke_state]; exact hsteps⟩
theorem vx_callVW (X : Stand p l e R s m args below meth c T locs cells slots) (hexec : p.tables.exec = Jvm.exec) {own C : String} {index : Nat} {y : MethodName} {bytes : ByteArray} {maxL : Nat} {ret : Option FieldType} {hh : List (Nat × Nat × Nat × Nat)}
    (hown : s.vm.findClass own = some m.cls) (hlink : (Cond.methodLink own index y).before args s = true) (hinst : (Cond.instanceMethod y).before args s = true) (hsel : (Cond.selects C y y).before args s = true)
    (hcode : (Cond.codeWith y bytes maxL ret hh).before args s = true) (hy : y.cls ≠ "java/lang/invoke/MethodHandle" ∧ y.cls ≠ "java/lang/invoke/VarHandle")
    {W9 : Nat} {Pre : Pt → Array Value → Prop} {Post : Pt → Array Value → Option Value → Pt → Prop} (hK : Back l R p e below s args y 3 W9 Pre Post)
    {b : Addr} {cellB : Cell} (hcell : T.heap[b]? = some cellB) (hobj : cellB.vm.isStatics = false) (hcls : s.vm.findClass C = some cellB.cls)
    {g : JFrame} (hg : g.method = m) (hsize : g.locals.size = c.maxLocals) {argsL rest : List Value} (hlen : ∀ sig, parseMethodDescriptor y.desc = some sig → argsL.length = sig.parameters.length)
    (hstack : g.stack = argsL.reverse ++ .ref b :: rest) (hW : 2 * g.monitorRoom + (rest.map fun v => v.category).sum ≤ W9) (hdg : decode c.code g.pc = .ok (.invokevirtual index, 3))
    (hpre : ∀ vm₁, s.WarmedH vm₁ → Pre ⟨T.setVm vm₁, locs, cells, slots⟩ (Value.ref b :: argsL).toArray) :
    ∃ (v : Option Value) (vm₁ : Vm) (B : Pt), s.WarmedH vm₁ ∧ Stand p l e R s m args below meth c B.U B.locs B.cells B.slots ∧ Post ⟨T.setVm vm₁, locs, cells, slots⟩ (Value.ref b :: argsL).toArray v B ∧
      ∀ target, Steps p.tables e below (B.U.setTop { g with pc := g.pc + 3, stack := v.toList ++ rest }) target → Steps p.tables e below (T.setTop g) target := by
  obtain ⟨mk, methM, hnamed, hmethM, hstM, habM⟩ := Cond.instanceMethod_spec hinst
  obtain ⟨m8, methM', cM, hn8, hmethM', -, -, -, -, -, -, hsigM⟩ := Cond.codeWith_spec hcode
  cases Option.some.inj (hn8.symm.trans hnamed)
  cases hmethM.symm.trans hmethM'
  obtain ⟨c2, r2, m2, q1, q2, q3, q4, kP, hkP, hkPi⟩ := Cond.selects_spec hsel
  cases hcls.symm.trans q1
  cases (State.methodFound?_of_named hnamed hy).symm.trans q2
  cases hnamed.symm.trans q3
  have hselP : selectMethod e.platform s.vm cellB.cls mk = .method mk := by rw [Launch.admits_selectMethod X.admits]; exact q4
  obtain ⟨vm₁, X₁, hstep₁⟩ := X.invokevirtual hexec hown hlink hnamed hmethM hstM hkP hkPi hy (a := b) (cell := cellB) hcell
    (fun z h => by rw [h] at hobj; cases hobj) hselP hmethM habM hkP hkPi (g := g) hg (argsL := argsL) (rest := rest) (hlen _ hsigM) hstack hdg
  obtain ⟨v, B, X', hpost, hsteps⟩ := hK m meth c ⟨T.setVm vm₁, locs, cells, slots⟩ { g with stack := rest } (.invokevirtual index) mk (Value.ref b :: argsL).toArray X₁ hg hsize hdg hW (X₁.named hnamed) (hpre vm₁ X₁.warmed)
  exact ⟨v, vm₁, B, X₁.warmed, X', hpost, fun target h => hstep₁ _ fun acts => by rw [doInvoke_state]; exact hsteps.trans h⟩
abbrev vx_CVW (R : Room) (s : State) (args : Array Value) (own C : String) (index : Nat) (y : MethodName) (bytes : ByteArray) (maxL : Nat) (ret : Option FieldType) (hh : List (Nat × Nat × Nat × Nat)) (ws : List Cond) (rm : Room) (mc ms n : Nat) : Prop :=
  (rm.cells = mc ∧ rm.slots = ms ∧ rm.frames + 1 ≤ R.frames ∧ 8 + (maxL + 11) + rm.locals ≤ R.locals ∧ (∀ w ∈ ws, ∀ (a' : Array Value) (U : State), s.WarmedH U.vm → w.before a' U = true) ∧ Cond.codeWith y bytes maxL ret hh ∈ ws) ∧
  (Cond.codeWith y bytes maxL ret hh).before args s = true ∧ (Cond.initialized y.cls).before args s = true ∧ (y.cls ≠ "java/lang/invoke/MethodHandle" ∧ y.cls ≠ "java/lang/invoke/VarHandle") ∧
  (∀ sig, parseMethodDescriptor y.desc = some sig → n = sig.parameters.length) ∧ (Cond.methodLink own index y).before args s = true ∧ (Cond.instanceMethod y).before args s = true ∧ (Cond.selects C y y).before args s = true
theorem vx_cwVW {own C : String} {index maxL mc ms : Nat} {y : MethodName} {bytes : ByteArray} {ret : Option FieldType} {hh : List (Nat × Nat × Nat × Nat)} {Ts ws ws' : List Cond} {rm : Room} (n : Nat) (ht : ∀ w ∈ Ts, w.before args s = true) (hT : GoodIn Ts (wsV own index C y ws)) (hw : ws = Cond.codeWith y bytes maxL ret hh :: ws') (hrc : rm.cells = mc) (hrs : rm.slots = ms)
    (hd : y.cls = C ∧ y.cls ≠ "java/lang/invoke/MethodHandle" ∧ y.cls ≠ "java/lang/invoke/VarHandle" ∧ (parseMethodDescriptor y.desc).map (fun d => d.parameters.length) = some n) (hR : rm.frames + 1 ≤ R.frames ∧ 8 + (maxL + 11) + rm.locals ≤ R.locals) :
    vx_CVW R s args own C index y bytes maxL ret hh ws rm mc ms n := by
  obtain ⟨hC, hd⟩ := hd
  subst hC
  have ok : ∀ w ∈ wsV own index y.cls y ws, w.before args s = true := fun w h => ht w (hT w h).1
  have hG : GoodIn Ts ws := fun w h => hT w (by unfold wsV; exact List.mem_append_right _ h)
  have hc : Cond.codeWith y bytes maxL ret hh ∈ ws := by rw [hw]; exact List.mem_cons_self
  refine ⟨⟨hrc, hrs, hR.1, hR.2, pay_in ht hG, hc⟩, ht _ (hG _ hc).1, ok _ (by simp [wsV]), ⟨hd.1, hd.2.1⟩, fun sig h => ?_, ok _ (by simp [wsV]), ok _ (by simp [wsV]), ok _ (by simp [wsV])⟩
  have h2 := hd.2.2
  rw [h] at h2
  exact (Option.some.inj h2).symm
theorem vx_runVW {y : MethodName} {bytes cc : ByteArray} {maxL nL mc ms n index : Nat} {ret : Option FieldType} {hh : List (Nat × Nat × Nat × Nat)} {ws : List Cond} {rm : Room} {Pc : Array Value → State → Prop} {Qc : Array Value → State → Outcome → State → Prop} {free : Addr → Prop} {Ts : List Cond} {own C : String} {b : Addr} {As rest : List Value} {g : JFrame}
    (S : CallFix p m c cc nL s args Ts own) (hM : Met l y ws rm Pc Qc mc ms free) (cw : vx_CVW R s args own C index y bytes maxL ret hh ws rm mc ms n) (hp : PreV s H C b Pc As)
    (hg : g.method = m) (hn : As.length = n) (hsize : g.locals.size = nL) (hstack : g.stack = As.reverse ++ .ref b :: rest) (hW : 2 * g.monitorRoom + (rest.map fun v => v.category).sum ≤ 8) (hdg : decode cc g.pc = .ok (.invokevirtual index, 3)) (hf : cells + mc ≤ R.cells ∧ slots + ms ≤ R.slots) :
    va_Run p l e R s m args below meth c H locs cells slots mc ms g rest (Qc (Value.ref b :: As).toArray) free := by
  obtain ⟨⟨hrc, hrs, hfr, hlo, hws, hcw⟩, hcode, hini, hy, hlen, hl, hin, hse⟩ := cw
  have hK : Back l R p e below s args y 3 8 (PreOf R mc ms Pc) (PostOf Qc mc ms free) := va_backW (hh := hh) (bytes := bytes) (maxL := maxL) (ret := ret) hM hp.1 hrc hrs hfr hlo hws hcw (fun a' U hW => word_at hW (Or.inl (by first | rfl | simp [Cond.onTables, Cond.keeps, Cond.steady])) hini)
  obtain ⟨hx, hb, hml, ho, -⟩ := S
  obtain ⟨-, ⟨cellB, hcB, hoB, hclB⟩, hPc⟩ := hp
  intro T hT X
  obtain ⟨v, vm₁, ⟨U', l2, c2, s2⟩, hW₁, X', ⟨g', mk, t, L, e1, e2, hq, h1, hL, h2, h3⟩, st⟩ := vx_callVW X hx (C := C) (hh := hh) (bytes := bytes) (maxL := maxL) (ret := ret) ho hl hin hse hcode hy hK (by rw [hT]; exact hcB) hoB hclB hg (hsize.trans hml.symm) (argsL := As) (rest := rest) (fun sig h => hn.trans (hlen sig h)) hstack hW (by rw [hb]; exact hdg)
    (fun vm₁ hW₁ => ⟨hf.1, hf.2, hPc (T.setVm vm₁) hT hW₁⟩)
  dsimp only [Pt.U, Pt.locs, Pt.cells, Pt.slots] at X' e1 e2 h1 h2 h3 st
  subst h1; subst h2; subst h3
  exact ⟨v, (T.setVm vm₁).calling g' mk (Value.ref b :: As).toArray, t, U', L, hT, X', hL, e1, e2, hq, st⟩
section
variable {y : MethodName} {bytes cc : ByteArray} {maxL nL mc ms n index : Nat} {ret : Option FieldType} {ws : List Cond} {rm : Room} {Pc : Array Value → State → Prop} {Qc : Array Value → State → Outcome → State → Prop} {XC : String → State → State → Prop} {free : Addr → Prop} {Ts : List Cond} {own C : String} {b : Addr} {As rest : List Value} {g : JFrame}
theorem vx_runVX {hh : List (Nat × Nat × Nat × Nat)} (S : CallFix p m c cc nL s args Ts own) (hM : vx_Met l y ws rm Pc Qc XC mc ms free) (cw : vx_CVW R s args own C index y bytes maxL ret hh ws rm mc ms n) (hp : PreV s H C b Pc As)
    (hg : g.method = m) (hn : As.length = n) (hsize : g.locals.size = nL) (hstack : g.stack = As.reverse ++ .ref b :: rest) (hW : 2 * g.monitorRoom + (rest.map fun v => v.category).sum ≤ 8) (hdg : decode cc g.pc = .ok (.invokevirtual index, 3)) (hf : cells + mc ≤ R.cells ∧ slots + ms ≤ R.slots) :
    vx_Run p l e R s m args below meth c H locs cells slots mc ms g rest (Qc (Value.ref b :: As).toArray) XC free := by
  obtain ⟨⟨hrc, hrs, hfr, hlo, hws, hcw⟩, hcode, hini, hy, hlen, hl, hin, hse⟩ := cw
  have hK : vx_Back l R p e below s args y 3 8 (PreOf R mc ms Pc) (PostOf Qc mc ms free) (vx_Post XC mc ms free) := vx_backW (hh := hh) (bytes := bytes) (maxL := maxL) (ret := ret) hM hp.1 hrc hrs hfr hlo hws hcw (fun a' U hW => word_at hW (Or.inl (by first | rfl | simp [Cond.onTables, Cond.keeps, Cond.steady])) hini)
  obtain ⟨hx, hb, hml, ho, -⟩ := S
  obtain ⟨-, ⟨cellB, hcB, hoB, hclB⟩, hPc⟩ := hp
  intro T hT X
  rcases vx_callVX X hx (C := C) (hh := hh) (bytes := bytes) (maxL := maxL) (ret := ret) ho hl hin hse hcode hy hK (by rw [hT]; exact hcB) hoB hclB hg (hsize.trans hml.symm) (argsL := As) (rest := rest) (fun sig h => hn.trans (hlen sig h)) hstack hW (by rw [hb]; exact hdg)
    (fun vm₁ hW₁ => ⟨hf.1, hf.2, hPc (T.setVm vm₁) hT hW₁⟩) with ⟨v, vm₁, ⟨U', l2, c2, s2⟩, hW₁, X', ⟨g', mk, t, L, e1, e2, hq, h1, hL, h2, h3⟩, st⟩ | ⟨q, vm₁, ⟨U', l2, c2, s2⟩, hW₁, X', ⟨g', mk, t, L, E, ce, e1, e2, hq, hce, hcv, hcl, h1, hL, h2, h3⟩, st⟩
  · dsimp only [Pt.U, Pt.locs, Pt.cells, Pt.slots] at X' e1 e2 h1 h2 h3 st
    subst h1; subst h2; subst h3
    exact Or.inl ⟨v, (T.setVm vm₁).calling g' mk (Value.ref b :: As).toArray, t, U', L, hT, X', hL, e1, e2, hq, st⟩
  · dsimp only [Pt.U, Pt.locs, Pt.cells, Pt.slots] at X' e1 e2 h1 h2 h3 st hcl
    subst h1; subst h2; subst h3
    exact Or.inr ⟨q, (T.setVm vm₁).calling g' mk (Value.ref b :: As).toArray, t, U', L, E, ce, hT, X', hL, e1, e2, hq, hce, hcv, vx_cls hW₁ hcl, st⟩
theorem vx_runSX {hh : List (Nat × Nat × Nat × Nat)} (S : CallFix p m c cc nL s args Ts own) (hM : vx_Met l y ws rm Pc Qc XC mc ms free) (cw : vx_CSW R s args own index y bytes maxL ret hh ws rm mc ms n) (hp : PreS s H Pc As)
    (hg : g.method = m) (hn : As.length = n) (hsize : g.locals.size = nL) (hstack : g.stack = As.reverse ++ rest) (hW : 2 * g.monitorRoom + (rest.map fun v => v.category).sum ≤ 8) (hdg : decode cc g.pc = .ok (.invokestatic index, 3)) (hf : cells + mc ≤ R.cells ∧ slots + ms ≤ R.slots) :
    vx_Run p l e R s m args below meth c H locs cells slots mc ms g rest (Qc As.toArray) XC free := by
  obtain ⟨⟨hrc, hrs, hfr, hlo, hws, hcw⟩, hcode, hini, hy, hlen, hl, hstt⟩ := cw
  have hK : vx_Back l R p e below s args y 3 8 (PreOf R mc ms Pc) (PostOf Qc mc ms free) (vx_Post XC mc ms free) := vx_backW (hh := hh) (bytes := bytes) (maxL := maxL) (ret := ret) hM hp.1 hrc hrs hfr hlo hws hcw (fun a' U hW => word_at hW (Or.inl (by first | rfl | simp [Cond.onTables, Cond.keeps, Cond.steady])) hini)
  obtain ⟨hx, hb, hml, ho, -⟩ := S
  intro T hT X
  rcases vx_callSX X hx (hh := hh) (bytes := bytes) (maxL := maxL) (ret := ret) ho hl hstt hini hcode hy hK hg (hsize.trans hml.symm) (argsL := As) (rest := rest) (fun sig h => hn.trans (hlen sig h)) hstack hW (by rw [hb]; exact hdg)
    (fun vm₁ hW₁ => ⟨hf.1, hf.2, hp.2 (T.setVm vm₁) hT hW₁⟩) with ⟨v, vm₁, ⟨U', l2, c2, s2⟩, hW₁, X', ⟨g', mk, t, L, e1, e2, hq, h1, hL, h2, h3⟩, st⟩ | ⟨q, vm₁, ⟨U', l2, c2, s2⟩, hW₁, X', ⟨g', mk, t, L, E, ce, e1, e2, hq, hce, hcv, hcl, h1, hL, h2, h3⟩, st⟩
  · dsimp only [Pt.U, Pt.locs, Pt.cells, Pt.slots] at X' e1 e2 h1 h2 h3 st
    subst h1; subst h2; subst h3
    exact Or.inl ⟨v, (T.setVm vm₁).calling g' mk As.toArray, t, U', L, hT, X', hL, e1, e2, hq, st⟩
  · dsimp only [Pt.U, Pt.locs, Pt.cells, Pt.slots] at X' e1 e2 h1 h2 h3 st hcl
    subst h1; subst h2; subst h3
    exact Or.inr ⟨q, (T.setVm vm₁).calling g' mk As.toArray, t, U', L, E, ce, hT, X', hL, e1, e2, hq, hce, hcv, vx_cls hW₁ hcl, st⟩
end
end VXH
theorem vx_ofWH {l : Launch} {y : MethodName} {ws ws' : List Cond} {rm : Room} {Pc : Array Value → State → Prop} {Qc : Array Value → State → Outcome → State → Prop} {XC : String → State → State → Prop} {mc ms : Nat} {free : Addr → Prop} {cc : ByteArray} {maxL : Nat} {ret : Option FieldType} {hh : List (Nat × Nat × Nat × Nat)}
    (hy : plainName y.cls = true) (hw : ws = Cond.codeWith y cc maxL ret hh :: ws')
    (body : ∀ p e s m args below meth c s₁, BodyLoose p l y (headSpec ws rm) cc maxL ret e s m args below meth c s₁ → c.maxLocals = maxL → Pc args s →
      W p l e (headSpec ws rm).room s m args below meth c s.heap [] 0 0 (vx_MQ below Qc XC args s mc ms free) (entryFrame m args maxL)) : vx_Met l y ws rm Pc Qc XC mc ms free := by
  refine MetFree.of_bodyS (code := cc) (maxLocals := maxL) (ret := ret) hy ?_ ?_
  · intro args s m h hn
    obtain ⟨m9, meth, c, hn9, h1, h2, h3, h4, -, h5, h6, -⟩ := Cond.codeWith_spec (atoms_spec (ws := ws) h _ (by rw [hw]; exact List.mem_cons_self))
    cases hn.symm.trans hn9
    exact ⟨meth, c, h1, h2, h3, h4, h5, h6⟩
  · intro p e s m args below meth c s₁ B hml hP _
    have hh0 : s₁.heap = s.heap := by rw [B.state]; rfl
    obtain ⟨t, a1, o, b1, b2, b3⟩ := body p e s m args below meth c s₁ B hml hP s₁ hh0 (Stand.of_body B)
    exact ⟨t, o, a1, b1, b2, b3⟩
/-! ===== END ===== -/
end
section
/-! names out of the printed list: classes, fields, methods; the words (of lw_tbl) by their places; GW: those that stay good for callees -/
def RX0 : String := "PledgeRings$Book"
def TX0 : u_T := fun k => match k with
  | 0 => ("PledgeRings$Book", "parties", "I", false)
  | 1 => ("PledgeRings$Book", "count", "I", false)
  | 2 => ("PledgeRings$Book", "payments", "I", false)
  | 3 => ("PledgeRings$Book", "releases", "I", false)
  | 4 => ("PledgeRings$Book", "discharges", "I", false)
  | 5 => ("PledgeRings$Book", "from", "[I", true)
  | 6 => ("PledgeRings$Book", "to", "[I", true)
  | 7 => ("PledgeRings$Book", "amount", "[I", true)
  | 8 => ("PledgeRings$Book", "rate", "[I", true)
  | 9 => ("PledgeRings$Book", "amountAtFirst", "[I", true)
  | 10 => ("PledgeRings$Book", "paid", "[I", true)
  | 11 => ("PledgeRings$Book", "released", "[I", true)
  | _ => ("PledgeRings$Book", "disputed", "[Z", true)
def tyX0 : Nat → FieldType := fun k => match k with
  | 0 => .int
  | 1 => .int
  | 2 => .int
  | 3 => .int
  | 4 => .int
  | 5 => .array .int
  | 6 => .array .int
  | 7 => .array .int
  | 8 => .array .int
  | 9 => .array .int
  | 10 => .array .int
  | 11 => .array .int
  | _ => .array .boolean
theorem nmX0 : ∀ a, a < 13 → ∀ b, b < 13 → a ≠ b → (TX0 a).2.1 ≠ (TX0 b).2.1 := by decide +kernel
theorem tyX0_ok : ∀ k, k < 13 → parseFieldDescriptor (TX0 k).2.2.1 = some (tyX0 k) := by decide +kernel
abbrev cX0_init : ByteArray := prog_2_method_1_code
def yX0_init : MethodName := ⟨RX0, "<init>", "()V"⟩
abbrev cX0_restart : ByteArray := prog_2_method_2_code
def yX0_restart : MethodName := ⟨RX0, "restart", "(I)V"⟩
abbrev cX0_copyFrom : ByteArray := prog_2_method_3_code
def yX0_copyFrom : MethodName := ⟨RX0, "copyFrom", "(LPledgeRings$Book;)V"⟩
abbrev cX0_hasParty : ByteArray := prog_2_method_4_code
def yX0_hasParty : MethodName := ⟨RX0, "hasParty", "(I)Z"⟩
abbrev cX0_holds : ByteArray := prog_2_method_5_code
def yX0_holds : MethodName := ⟨RX0, "holds", "(I)Z"⟩
abbrev cX0_isFull : ByteArray := prog_2_method_6_code
def yX0_isFull : MethodName := ⟨RX0, "isFull", "()Z"⟩
abbrev cX0_add : ByteArray := prog_2_method_7_code
def yX0_add : MethodName := ⟨RX0, "add", "(IIII)I"⟩
abbrev cX0_payPart : ByteArray := prog_2_method_8_code
def yX0_payPart : MethodName := ⟨RX0, "payPart", "(II)V"⟩
abbrev cX0_releasePart : ByteArray := prog_2_method_9_code
def yX0_releasePart : MethodName := ⟨RX0, "releasePart", "(II)V"⟩
abbrev cX0_canBeDisputed : ByteArray := prog_2_method_10_code
def yX0_canBeDisputed : MethodName := ⟨RX0, "canBeDisputed", "(I)Z"⟩
abbrev cX0_isOwing : ByteArray := prog_2_method_11_code
def yX0_isOwing : MethodName := ⟨RX0, "isOwing", "(I)Z"⟩
abbrev cX0_pairOf : ByteArray := prog_2_method_12_code
def yX0_pairOf : MethodName := ⟨RX0, "pairOf", "(I)I"⟩
abbrev cX0_costOf : ByteArray := prog_2_method_13_code
def yX0_costOf : MethodName := ⟨RX0, "costOf", "(I)I"⟩
abbrev cX0_debtBetween : ByteArray := prog_2_method_14_code
def yX0_debtBetween : MethodName := ⟨RX0, "debtBetween", "(II)I"⟩
abbrev cX0_netOf : ByteArray := prog_2_method_15_code
def yX0_netOf : MethodName := ⟨RX0, "netOf", "(I)I"⟩
abbrev cX0_sumOfGains : ByteArray := prog_2_method_16_code
def yX0_sumOfGains : MethodName := ⟨RX0, "sumOfGains", "()I"⟩
abbrev cX0_countOpen : ByteArray := prog_2_method_17_code
def yX0_countOpen : MethodName := ⟨RX0, "countOpen", "()I"⟩
abbrev cX0_countDisputed : ByteArray := prog_2_method_18_code
def yX0_countDisputed : MethodName := ⟨RX0, "countDisputed", "()I"⟩
abbrev cX0_sumOfAmounts : ByteArray := prog_2_method_19_code
def yX0_sumOfAmounts : MethodName := ⟨RX0, "sumOfAmounts", "()I"⟩
abbrev cX0_costOfAll : ByteArray := prog_2_method_20_code
def yX0_costOfAll : MethodName := ⟨RX0, "costOfAll", "()I"⟩
def RX1 : String := "PledgeRings$Debts"
def TX1 : u_T := fun k => match k with
  | 0 => ("PledgeRings$Debts", "sum", "[I", true)
  | 1 => ("PledgeRings$Debts", "firstOf", "[I", true)
  | _ => ("PledgeRings$Debts", "nextOf", "[I", true)
def tyX1 : Nat → FieldType := fun k => match k with
  | 0 => .array .int
  | 1 => .array .int
  | _ => .array .int
theorem nmX1 : ∀ a, a < 3 → ∀ b, b < 3 → a ≠ b → (TX1 a).2.1 ≠ (TX1 b).2.1 := by decide +kernel
theorem tyX1_ok : ∀ k, k < 3 → parseFieldDescriptor (TX1 k).2.2.1 = some (tyX1 k) := by decide +kernel
abbrev cX1_init : ByteArray := prog_3_method_1_code
def yX1_init : MethodName := ⟨RX1, "<init>", "()V"⟩
abbrev cX1_read : ByteArray := prog_3_method_2_code
def yX1_read : MethodName := ⟨RX1, "read", "(LPledgeRings$Book;)V"⟩
abbrev cX1_putFirst : ByteArray := prog_3_method_3_code
def yX1_putFirst : MethodName := ⟨RX1, "putFirst", "(III)V"⟩
abbrev cX1_sumOf : ByteArray := prog_3_method_4_code
def yX1_sumOf : MethodName := ⟨RX1, "sumOf", "(I)I"⟩
abbrev cX1_costOfPart : ByteArray := prog_3_method_5_code
def yX1_costOfPart : MethodName := ⟨RX1, "costOfPart", "(LPledgeRings$Book;II)I"⟩
abbrev cX1_releaseFrom : ByteArray := prog_3_method_6_code
def yX1_releaseFrom : MethodName := ⟨RX1, "releaseFrom", "(LPledgeRings$Book;II)V"⟩
def RX2 : String := "PledgeRings$Orders"
def TX2 : u_T := fun k => match k with
  | 0 => ("PledgeRings$Orders", "bytes", "[I", true)
  | 1 => ("PledgeRings$Orders", "length", "I", false)
  | 2 => ("PledgeRings$Orders", "at", "I", false)
  | 3 => ("PledgeRings$Orders", "errorAt", "I", false)
  | 4 => ("PledgeRings$Orders", "sign", "I", false)
  | 5 => ("PledgeRings$Orders", "from", "I", false)
  | 6 => ("PledgeRings$Orders", "to", "I", false)
  | 7 => ("PledgeRings$Orders", "amount", "I", false)
  | 8 => ("PledgeRings$Orders", "rate", "I", false)
  | _ => ("PledgeRings$Orders", "number", "I", false)
def tyX2 : Nat → FieldType := fun k => match k with
  | 0 => .array .int
  | 1 => .int
  | 2 => .int
  | 3 => .int
  | 4 => .int
  | 5 => .int
  | 6 => .int
  | 7 => .int
  | 8 => .int
  | _ => .int
theorem nmX2 : ∀ a, a < 10 → ∀ b, b < 10 → a ≠ b → (TX2 a).2.1 ≠ (TX2 b).2.1 := by decide +kernel
theorem tyX2_ok : ∀ k, k < 10 → parseFieldDescriptor (TX2 k).2.2.1 = some (tyX2 k) := by decide +kernel
abbrev cX2_init : ByteArray := prog_4_method_1_code
def yX2_init : MethodName := ⟨RX2, "<init>", "()V"⟩
abbrev cX2_isFull : ByteArray := prog_4_method_2_code
def yX2_isFull : MethodName := ⟨RX2, "isFull", "()Z"⟩
abbrev cX2_add : ByteArray := prog_4_method_3_code
def yX2_add : MethodName := ⟨RX2, "add", "(I)V"⟩
abbrev cX2_clear : ByteArray := prog_4_method_4_code
def yX2_clear : MethodName := ⟨RX2, "clear", "()V"⟩
abbrev cX2_rewind : ByteArray := prog_4_method_5_code
def yX2_rewind : MethodName := ⟨RX2, "rewind", "()V"⟩
abbrev cX2_syntaxError : ByteArray := prog_4_method_6_code
def yX2_syntaxError : MethodName := ⟨RX2, "syntaxError", "()I"⟩
abbrev cX2_readNext : ByteArray := prog_4_method_7_code
def yX2_readNext : MethodName := ⟨RX2, "readNext", "()Z"⟩
abbrev cX2_readPromise : ByteArray := prog_4_method_8_code
def yX2_readPromise : MethodName := ⟨RX2, "readPromise", "()Z"⟩
abbrev cX2_readNumber : ByteArray := prog_4_method_9_code
def yX2_readNumber : MethodName := ⟨RX2, "readNumber", "(III)I"⟩
abbrev cX2_readDigit : ByteArray := prog_4_method_10_code
def yX2_readDigit : MethodName := ⟨RX2, "readDigit", "(II)I"⟩
abbrev cX2_readSign : ByteArray := prog_4_method_11_code
def yX2_readSign : MethodName := ⟨RX2, "readSign", "(I)Z"⟩
abbrev cX2_peek : ByteArray := prog_4_method_12_code
def yX2_peek : MethodName := ⟨RX2, "peek", "()I"⟩
abbrev cX2_isDigit : ByteArray := prog_4_method_13_code
def yX2_isDigit : MethodName := ⟨RX2, "isDigit", "(I)Z"⟩
abbrev cX2_fail : ByteArray := prog_4_method_14_code
def yX2_fail : MethodName := ⟨RX2, "fail", "(I)Z"⟩
def RX3 : String := "PledgeRings$Remainder"
def TX3 : u_T := fun k => match k with
  | 0 => ("PledgeRings$Remainder", "stays", "[I", true)
  | 1 => ("PledgeRings$Remainder", "excess", "[I", true)
  | 2 => ("PledgeRings$Remainder", "distance", "[I", true)
  | _ => ("PledgeRings$Remainder", "reachedBy", "[I", true)
def tyX3 : Nat → FieldType := fun k => match k with
  | 0 => .array .int
  | 1 => .array .int
  | 2 => .array .int
  | _ => .array .int
theorem nmX3 : ∀ a, a < 4 → ∀ b, b < 4 → a ≠ b → (TX3 a).2.1 ≠ (TX3 b).2.1 := by decide +kernel
theorem tyX3_ok : ∀ k, k < 4 → parseFieldDescriptor (TX3 k).2.2.1 = some (tyX3 k) := by decide +kernel
abbrev cX3_init : ByteArray := prog_5_method_1_code
def yX3_init : MethodName := ⟨RX3, "<init>", "()V"⟩
abbrev cX3_leastCostOf : ByteArray := prog_5_method_2_code
def yX3_leastCostOf : MethodName := ⟨RX3, "leastCostOf", "(LPledgeRings$Book;)I"⟩
abbrev cX3_start : ByteArray := prog_5_method_3_code
def yX3_start : MethodName := ⟨RX3, "start", "(LPledgeRings$Book;)V"⟩
abbrev cX3_addExcess : ByteArray := prog_5_method_4_code
def yX3_addExcess : MethodName := ⟨RX3, "addExcess", "(II)V"⟩
abbrev cX3_measure : ByteArray := prog_5_method_5_code
def yX3_measure : MethodName := ⟨RX3, "measure", "(LPledgeRings$Book;)V"⟩
abbrev cX3_shorten : ByteArray := prog_5_method_6_code
def yX3_shorten : MethodName := ⟨RX3, "shorten", "(LPledgeRings$Book;I)Z"⟩
abbrev cX3_reach : ByteArray := prog_5_method_7_code
def yX3_reach : MethodName := ⟨RX3, "reach", "(IIII)Z"⟩
abbrev cX3_nearestEnd : ByteArray := prog_5_method_8_code
def yX3_nearestEnd : MethodName := ⟨RX3, "nearestEnd", "()I"⟩
abbrev cX3_push : ByteArray := prog_5_method_9_code
def yX3_push : MethodName := ⟨RX3, "push", "(LPledgeRings$Book;I)V"⟩
abbrev cX3_originOf : ByteArray := prog_5_method_10_code
def yX3_originOf : MethodName := ⟨RX3, "originOf", "(LPledgeRings$Book;I)I"⟩
abbrev cX3_widthTo : ByteArray := prog_5_method_11_code
def yX3_widthTo : MethodName := ⟨RX3, "widthTo", "(LPledgeRings$Book;I)I"⟩
abbrev cX3_promiseTo : ByteArray := prog_5_method_12_code
def yX3_promiseTo : MethodName := ⟨RX3, "promiseTo", "(I)I"⟩
abbrev cX3_before : ByteArray := prog_5_method_13_code
def yX3_before : MethodName := ⟨RX3, "before", "(LPledgeRings$Book;I)I"⟩
abbrev cX3_costThatStays : ByteArray := prog_5_method_14_code
def yX3_costThatStays : MethodName := ⟨RX3, "costThatStays", "(LPledgeRings$Book;)I"⟩
def RX4 : String := "PledgeRings$Rings"
def TX4 : u_T := fun k => match k with
  | 0 => ("PledgeRings$Rings", "debts", "LPledgeRings$Debts;", true)
  | 1 => ("PledgeRings$Rings", "rows", "[I", true)
  | 2 => ("PledgeRings$Rings", "through", "[I", true)
  | _ => ("PledgeRings$Rings", "size", "I", false)
def tyX4 : Nat → FieldType := fun k => match k with
  | 0 => .object "PledgeRings$Debts"
  | 1 => .array .int
  | 2 => .array .int
  | _ => .int
theorem nmX4 : ∀ a, a < 4 → ∀ b, b < 4 → a ≠ b → (TX4 a).2.1 ≠ (TX4 b).2.1 := by decide +kernel
theorem tyX4_ok : ∀ k, k < 4 → parseFieldDescriptor (TX4 k).2.2.1 = some (tyX4 k) := by decide +kernel
abbrev cX4_init : ByteArray := prog_6_method_1_code
def yX4_init : MethodName := ⟨RX4, "<init>", "()V"⟩
abbrev cX4_find : ByteArray := prog_6_method_2_code
def yX4_find : MethodName := ⟨RX4, "find", "(LPledgeRings$Book;)V"⟩
abbrev cX4_extend : ByteArray := prog_6_method_3_code
def yX4_extend : MethodName := ⟨RX4, "extend", "(LPledgeRings$Rings;IIII)V"⟩
abbrev cX4_addRow : ByteArray := prog_6_method_4_code
def yX4_addRow : MethodName := ⟨RX4, "addRow", "(I)V"⟩
abbrev cX4_rowWith : ByteArray := prog_6_method_5_code
def yX4_rowWith : MethodName := ⟨RX4, "rowWith", "(III)I"⟩
abbrev cX4_partyIn : ByteArray := prog_6_method_6_code
def yX4_partyIn : MethodName := ⟨RX4, "partyIn", "(II)I"⟩
abbrev cX4_pairIn : ByteArray := prog_6_method_7_code
def yX4_pairIn : MethodName := ⟨RX4, "pairIn", "(II)I"⟩
abbrev cX4_rowAt : ByteArray := prog_6_method_8_code
def yX4_rowAt : MethodName := ⟨RX4, "rowAt", "(I)I"⟩
abbrev cX4_partyAt : ByteArray := prog_6_method_9_code
def yX4_partyAt : MethodName := ⟨RX4, "partyAt", "(II)I"⟩
abbrev cX4_roomAt : ByteArray := prog_6_method_10_code
def yX4_roomAt : MethodName := ⟨RX4, "roomAt", "(I)I"⟩
abbrev cX4_savingAt : ByteArray := prog_6_method_11_code
def yX4_savingAt : MethodName := ⟨RX4, "savingAt", "(LPledgeRings$Book;II)I"⟩
abbrev cX4_best : ByteArray := prog_6_method_12_code
def yX4_best : MethodName := ⟨RX4, "best", "(LPledgeRings$Book;)I"⟩
abbrev cX4_releaseAround : ByteArray := prog_6_method_13_code
def yX4_releaseAround : MethodName := ⟨RX4, "releaseAround", "(LPledgeRings$Book;II)I"⟩
abbrev cX4_releaseBest : ByteArray := prog_6_method_14_code
def yX4_releaseBest : MethodName := ⟨RX4, "releaseBest", "(LPledgeRings$Book;)I"⟩
abbrev cX4_releaseAll : ByteArray := prog_6_method_15_code
def yX4_releaseAll : MethodName := ⟨RX4, "releaseAll", "(LPledgeRings$Book;)I"⟩
abbrev cX4_countThrough : ByteArray := prog_6_method_16_code
def yX4_countThrough : MethodName := ⟨RX4, "countThrough", "()V"⟩
abbrev cX4_sizeWithout : ByteArray := prog_6_method_17_code
def yX4_sizeWithout : MethodName := ⟨RX4, "sizeWithout", "(LPledgeRings$Book;I)I"⟩
def RX5 : String := "PledgeRings"
def TX5 : u_T := fun k => match k with
  | 0 => ("PledgeRings", "book", "LPledgeRings$Book;", true)
  | 1 => ("PledgeRings", "trial", "LPledgeRings$Book;", true)
  | 2 => ("PledgeRings", "rings", "LPledgeRings$Rings;", true)
  | 3 => ("PledgeRings", "remainder", "LPledgeRings$Remainder;", true)
  | 4 => ("PledgeRings", "orders", "LPledgeRings$Orders;", true)
  | 5 => ("PledgeRings", "saved", "[LPledgeRings$Book;", true)
  | _ => ("PledgeRings", "savedCount", "I", false)
def tyX5 : Nat → FieldType := fun k => match k with
  | 0 => .object "PledgeRings$Book"
  | 1 => .object "PledgeRings$Book"
  | 2 => .object "PledgeRings$Rings"
  | 3 => .object "PledgeRings$Remainder"
  | 4 => .object "PledgeRings$Orders"
  | 5 => .array (.object "PledgeRings$Book")
  | _ => .int
theorem nmX5 : ∀ a, a < 7 → ∀ b, b < 7 → a ≠ b → (TX5 a).2.1 ≠ (TX5 b).2.1 := by decide +kernel
theorem tyX5_ok : ∀ k, k < 7 → parseFieldDescriptor (TX5 k).2.2.1 = some (tyX5 k) := by decide +kernel
abbrev cX5_init : ByteArray := prog_1_method_1_code
def yX5_init : MethodName := ⟨RX5, "<init>", "()V"⟩
abbrev cX5_begin : ByteArray := prog_1_method_2_code
def yX5_begin : MethodName := ⟨RX5, "begin", "(I)I"⟩
abbrev cX5_promise : ByteArray := prog_1_method_3_code
def yX5_promise : MethodName := ⟨RX5, "promise", "(IIII)I"⟩
abbrev cX5_pay : ByteArray := prog_1_method_4_code
def yX5_pay : MethodName := ⟨RX5, "pay", "(II)I"⟩
abbrev cX5_dispute : ByteArray := prog_1_method_5_code
def yX5_dispute : MethodName := ⟨RX5, "dispute", "(I)I"⟩
abbrev cX5_settle : ByteArray := prog_1_method_6_code
def yX5_settle : MethodName := ⟨RX5, "settle", "(I)I"⟩
abbrev cX5_discharge : ByteArray := prog_1_method_7_code
def yX5_discharge : MethodName := ⟨RX5, "discharge", "(II)I"⟩
abbrev cX5_dischargeBest : ByteArray := prog_1_method_8_code
def yX5_dischargeBest : MethodName := ⟨RX5, "dischargeBest", "()I"⟩
abbrev cX5_dischargeAll : ByteArray := prog_1_method_9_code
def yX5_dischargeAll : MethodName := ⟨RX5, "dischargeAll", "()I"⟩
abbrev cX5_promiseOf : ByteArray := prog_1_method_10_code
def yX5_promiseOf : MethodName := ⟨RX5, "promiseOf", "(II)I"⟩
abbrev cX5_debt : ByteArray := prog_1_method_11_code
def yX5_debt : MethodName := ⟨RX5, "debt", "(II)I"⟩
abbrev cX5_net : ByteArray := prog_1_method_12_code
def yX5_net : MethodName := ⟨RX5, "net", "(I)I"⟩
abbrev cX5_ring : ByteArray := prog_1_method_13_code
def yX5_ring : MethodName := ⟨RX5, "ring", "(II)I"⟩
abbrev cX5_room : ByteArray := prog_1_method_14_code
def yX5_room : MethodName := ⟨RX5, "room", "(I)I"⟩
abbrev cX5_value : ByteArray := prog_1_method_15_code
def yX5_value : MethodName := ⟨RX5, "value", "(I)I"⟩
abbrev cX5_saving : ByteArray := prog_1_method_16_code
def yX5_saving : MethodName := ⟨RX5, "saving", "(I)I"⟩
abbrev cX5_bestRing : ByteArray := prog_1_method_17_code
def yX5_bestRing : MethodName := ⟨RX5, "bestRing", "()I"⟩
abbrev cX5_costByRings : ByteArray := prog_1_method_18_code
def yX5_costByRings : MethodName := ⟨RX5, "costByRings", "()I"⟩
abbrev cX5_leastCost : ByteArray := prog_1_method_19_code
def yX5_leastCost : MethodName := ⟨RX5, "leastCost", "()I"⟩
abbrev cX5_ringsWithout : ByteArray := prog_1_method_20_code
def yX5_ringsWithout : MethodName := ⟨RX5, "ringsWithout", "(I)I"⟩
abbrev cX5_keyPromise : ByteArray := prog_1_method_21_code
def yX5_keyPromise : MethodName := ⟨RX5, "keyPromise", "()I"⟩
abbrev cX5_mutual : ByteArray := prog_1_method_22_code
def yX5_mutual : MethodName := ⟨RX5, "mutual", "(I)I"⟩
abbrev cX5_append : ByteArray := prog_1_method_23_code
def yX5_append : MethodName := ⟨RX5, "append", "(I)I"⟩
abbrev cX5_clearText : ByteArray := prog_1_method_24_code
def yX5_clearText : MethodName := ⟨RX5, "clearText", "()I"⟩
abbrev cX5_carryOut : ByteArray := prog_1_method_25_code
def yX5_carryOut : MethodName := ⟨RX5, "carryOut", "()I"⟩
abbrev cX5_undo : ByteArray := prog_1_method_26_code
def yX5_undo : MethodName := ⟨RX5, "undo", "()I"⟩
abbrev cX5_digest : ByteArray := prog_1_method_27_code
def yX5_digest : MethodName := ⟨RX5, "digest", "()J"⟩
abbrev cX5_canBePromised : ByteArray := prog_1_method_28_code
def yX5_canBePromised : MethodName := ⟨RX5, "canBePromised", "(IIII)Z"⟩
abbrev cX5_isParty : ByteArray := prog_1_method_29_code
def yX5_isParty : MethodName := ⟨RX5, "isParty", "(I)Z"⟩
abbrev cX5_isPair : ByteArray := prog_1_method_30_code
def yX5_isPair : MethodName := ⟨RX5, "isPair", "(I)Z"⟩
abbrev cX5_isSlot : ByteArray := prog_1_method_31_code
def yX5_isSlot : MethodName := ⟨RX5, "isSlot", "(I)Z"⟩
abbrev cX5_countRings : ByteArray := prog_1_method_32_code
def yX5_countRings : MethodName := ⟨RX5, "countRings", "()I"⟩
abbrev cX5_save : ByteArray := prog_1_method_33_code
def yX5_save : MethodName := ⟨RX5, "save", "()V"⟩
abbrev cX5_dropOldest : ByteArray := prog_1_method_34_code
def yX5_dropOldest : MethodName := ⟨RX5, "dropOldest", "()V"⟩
abbrev cX5_carryOutOrder : ByteArray := prog_1_method_35_code
def yX5_carryOutOrder : MethodName := ⟨RX5, "carryOutOrder", "()Z"⟩
abbrev cX5_makeOrdered : ByteArray := prog_1_method_36_code
def yX5_makeOrdered : MethodName := ⟨RX5, "makeOrdered", "()Z"⟩
abbrev cX5_disputeOrdered : ByteArray := prog_1_method_37_code
def yX5_disputeOrdered : MethodName := ⟨RX5, "disputeOrdered", "(I)Z"⟩
abbrev cX5_settleOrdered : ByteArray := prog_1_method_38_code
def yX5_settleOrdered : MethodName := ⟨RX5, "settleOrdered", "(I)Z"⟩
def RX6 : String := "PledgeRingsModel"
def TX6 : u_T := fun k => match k with
  | 0 => ("PledgeRingsModel", "now", "[I", true)
  | 1 => ("PledgeRingsModel", "tried", "[I", true)
  | 2 => ("PledgeRingsModel", "saved", "[I", true)
  | 3 => ("PledgeRingsModel", "states", "I", false)
  | 4 => ("PledgeRingsModel", "text", "[I", true)
  | 5 => ("PledgeRingsModel", "letters", "I", false)
  | 6 => ("PledgeRingsModel", "thrown", "I", false)
  | 7 => ("PledgeRingsModel", "debts", "[I", true)
  | 8 => ("PledgeRingsModel", "byRate", "[I", true)
  | 9 => ("PledgeRingsModel", "parties", "I", false)
  | 10 => ("PledgeRingsModel", "row", "[I", true)
  | 11 => ("PledgeRingsModel", "next", "[I", true)
  | 12 => ("PledgeRingsModel", "length", "I", false)
  | 13 => ("PledgeRingsModel", "bestNumber", "I", false)
  | 14 => ("PledgeRingsModel", "bestSaving", "I", false)
  | 15 => ("PledgeRingsModel", "bestRow", "[I", true)
  | 16 => ("PledgeRingsModel", "bestLength", "I", false)
  | 17 => ("PledgeRingsModel", "stays", "[I", true)
  | 18 => ("PledgeRingsModel", "lacks", "[I", true)
  | 19 => ("PledgeRingsModel", "far", "[I", true)
  | 20 => ("PledgeRingsModel", "by", "[I", true)
  | 21 => ("PledgeRingsModel", "at", "I", false)
  | 22 => ("PledgeRingsModel", "wrong", "I", false)
  | 23 => ("PledgeRingsModel", "number", "I", false)
  | 24 => ("PledgeRingsModel", "orders", "I", false)
  | 25 => ("PledgeRingsModel", "whats", "[I", true)
  | 26 => ("PledgeRingsModel", "firsts", "[I", true)
  | 27 => ("PledgeRingsModel", "seconds", "[I", true)
  | 28 => ("PledgeRingsModel", "amounts", "[I", true)
  | _ => ("PledgeRingsModel", "rates", "[I", true)
def tyX6 : Nat → FieldType := fun k => match k with
  | 0 => .array .int
  | 1 => .array .int
  | 2 => .array .int
  | 3 => .int
  | 4 => .array .int
  | 5 => .int
  | 6 => .int
  | 7 => .array .int
  | 8 => .array .int
  | 9 => .int
  | 10 => .array .int
  | 11 => .array .int
  | 12 => .int
  | 13 => .int
  | 14 => .int
  | 15 => .array .int
  | 16 => .int
  | 17 => .array .int
  | 18 => .array .int
  | 19 => .array .int
  | 20 => .array .int
  | 21 => .int
  | 22 => .int
  | 23 => .int
  | 24 => .int
  | 25 => .array .int
  | 26 => .array .int
  | 27 => .array .int
  | 28 => .array .int
  | _ => .array .int
theorem nmX6 : ∀ a, a < 30 → ∀ b, b < 30 → a ≠ b → (TX6 a).2.1 ≠ (TX6 b).2.1 := by decide +kernel
theorem tyX6_ok : ∀ k, k < 30 → parseFieldDescriptor (TX6 k).2.2.1 = some (tyX6 k) := by decide +kernel
abbrev cX6_init : ByteArray := prog_8_method_1_code
def yX6_init : MethodName := ⟨RX6, "<init>", "()V"⟩
abbrev cX6_thrown : ByteArray := prog_8_method_2_code
def yX6_thrown : MethodName := ⟨RX6, "thrown", "()I"⟩
abbrev cX6_in : ByteArray := prog_8_method_3_code
def yX6_in : MethodName := ⟨RX6, "in", "(III)Z"⟩
abbrev cX6_goes : ByteArray := prog_8_method_4_code
def yX6_goes : MethodName := ⟨RX6, "goes", "(ZZZ)Z"⟩
abbrev cX6_p : ByteArray := prog_8_method_5_code
def yX6_p : MethodName := ⟨RX6, "p", "(II)I"⟩
abbrev cX6_least : ByteArray := prog_8_method_6_code
def yX6_least : MethodName := ⟨RX6, "least", "(II)I"⟩
abbrev cX6_isParty : ByteArray := prog_8_method_7_code
def yX6_isParty : MethodName := ⟨RX6, "isParty", "(I)Z"⟩
abbrev cX6_isPromise : ByteArray := prog_8_method_8_code
def yX6_isPromise : MethodName := ⟨RX6, "isPromise", "(I)Z"⟩
abbrev cX6_copies : ByteArray := prog_8_method_9_code
def yX6_copies : MethodName := ⟨RX6, "copies", "([II[II)V"⟩
abbrev cX6_saves : ByteArray := prog_8_method_10_code
def yX6_saves : MethodName := ⟨RX6, "saves", "()V"⟩
abbrev cX6_begins : ByteArray := prog_8_method_11_code
def yX6_begins : MethodName := ⟨RX6, "begins", "([II)V"⟩
abbrev cX6_isInRow : ByteArray := prog_8_method_12_code
def yX6_isInRow : MethodName := ⟨RX6, "isInRow", "(I)Z"⟩
abbrev cX6_canCome : ByteArray := prog_8_method_13_code
def yX6_canCome : MethodName := ⟨RX6, "canCome", "(I)Z"⟩
abbrev cX6_comes : ByteArray := prog_8_method_14_code
def yX6_comes : MethodName := ⟨RX6, "comes", "()Z"⟩
abbrev cX6_countRings : ByteArray := prog_8_method_15_code
def yX6_countRings : MethodName := ⟨RX6, "countRings", "([II)I"⟩
abbrev cX6_findsRing : ByteArray := prog_8_method_16_code
def yX6_findsRing : MethodName := ⟨RX6, "findsRing", "(I)Z"⟩
abbrev cX6_follower : ByteArray := prog_8_method_17_code
def yX6_follower : MethodName := ⟨RX6, "follower", "(I)I"⟩
abbrev cX6_roomOf : ByteArray := prog_8_method_18_code
def yX6_roomOf : MethodName := ⟨RX6, "roomOf", "()I"⟩
abbrev cX6_costBy : ByteArray := prog_8_method_19_code
def yX6_costBy : MethodName := ⟨RX6, "costBy", "(II)I"⟩
abbrev cX6_savingBy : ByteArray := prog_8_method_20_code
def yX6_savingBy : MethodName := ⟨RX6, "savingBy", "(I)I"⟩
abbrev cX6_releases : ByteArray := prog_8_method_21_code
def yX6_releases : MethodName := ⟨RX6, "releases", "([IIII)V"⟩
abbrev cX6_discharges : ByteArray := prog_8_method_22_code
def yX6_discharges : MethodName := ⟨RX6, "discharges", "([II)I"⟩
abbrev cX6_findsBest : ByteArray := prog_8_method_23_code
def yX6_findsBest : MethodName := ⟨RX6, "findsBest", "([I)Z"⟩
abbrev cX6_dischargesBest : ByteArray := prog_8_method_24_code
def yX6_dischargesBest : MethodName := ⟨RX6, "dischargesBest", "([I)V"⟩
abbrev cX6_dischargesAll : ByteArray := prog_8_method_25_code
def yX6_dischargesAll : MethodName := ⟨RX6, "dischargesAll", "([I)I"⟩
abbrev cX6_begin : ByteArray := prog_8_method_26_code
def yX6_begin : MethodName := ⟨RX6, "begin", "(I)I"⟩
abbrev cX6_makes : ByteArray := prog_8_method_27_code
def yX6_makes : MethodName := ⟨RX6, "makes", "(IIII)V"⟩
abbrev cX6_promise : ByteArray := prog_8_method_28_code
def yX6_promise : MethodName := ⟨RX6, "promise", "(IIII)I"⟩
abbrev cX6_pay : ByteArray := prog_8_method_29_code
def yX6_pay : MethodName := ⟨RX6, "pay", "(II)I"⟩
abbrev cX6_isFree : ByteArray := prog_8_method_30_code
def yX6_isFree : MethodName := ⟨RX6, "isFree", "(I)Z"⟩
abbrev cX6_dispute : ByteArray := prog_8_method_31_code
def yX6_dispute : MethodName := ⟨RX6, "dispute", "(I)I"⟩
abbrev cX6_settle : ByteArray := prog_8_method_32_code
def yX6_settle : MethodName := ⟨RX6, "settle", "(I)I"⟩
abbrev cX6_discharge : ByteArray := prog_8_method_33_code
def yX6_discharge : MethodName := ⟨RX6, "discharge", "(II)I"⟩
abbrev cX6_dischargeBest : ByteArray := prog_8_method_34_code
def yX6_dischargeBest : MethodName := ⟨RX6, "dischargeBest", "()I"⟩
abbrev cX6_dischargeAll : ByteArray := prog_8_method_35_code
def yX6_dischargeAll : MethodName := ⟨RX6, "dischargeAll", "()I"⟩
abbrev cX6_promiseOf : ByteArray := prog_8_method_36_code
def yX6_promiseOf : MethodName := ⟨RX6, "promiseOf", "(II)I"⟩
abbrev cX6_debtOf : ByteArray := prog_8_method_37_code
def yX6_debtOf : MethodName := ⟨RX6, "debtOf", "(II)I"⟩
abbrev cX6_debt : ByteArray := prog_8_method_38_code
def yX6_debt : MethodName := ⟨RX6, "debt", "(II)I"⟩
abbrev cX6_netOf : ByteArray := prog_8_method_39_code
def yX6_netOf : MethodName := ⟨RX6, "netOf", "(I)I"⟩
abbrev cX6_net : ByteArray := prog_8_method_40_code
def yX6_net : MethodName := ⟨RX6, "net", "(I)I"⟩
abbrev cX6_ring : ByteArray := prog_8_method_41_code
def yX6_ring : MethodName := ⟨RX6, "ring", "(II)I"⟩
abbrev cX6_room : ByteArray := prog_8_method_42_code
def yX6_room : MethodName := ⟨RX6, "room", "(I)I"⟩
abbrev cX6_costOf : ByteArray := prog_8_method_43_code
def yX6_costOf : MethodName := ⟨RX6, "costOf", "([I)I"⟩
abbrev cX6_one : ByteArray := prog_8_method_44_code
def yX6_one : MethodName := ⟨RX6, "one", "(I)I"⟩
abbrev cX6_value : ByteArray := prog_8_method_45_code
def yX6_value : MethodName := ⟨RX6, "value", "(I)I"⟩
abbrev cX6_saving : ByteArray := prog_8_method_46_code
def yX6_saving : MethodName := ⟨RX6, "saving", "(I)I"⟩
abbrev cX6_bestRing : ByteArray := prog_8_method_47_code
def yX6_bestRing : MethodName := ⟨RX6, "bestRing", "()I"⟩
abbrev cX6_costByRings : ByteArray := prog_8_method_48_code
def yX6_costByRings : MethodName := ⟨RX6, "costByRings", "()I"⟩
abbrev cX6_ways : ByteArray := prog_8_method_49_code
def yX6_ways : MethodName := ⟨RX6, "ways", "()V"⟩
abbrev cX6_nears : ByteArray := prog_8_method_50_code
def yX6_nears : MethodName := ⟨RX6, "nears", "(IIII)V"⟩
abbrev cX6_nearest : ByteArray := prog_8_method_51_code
def yX6_nearest : MethodName := ⟨RX6, "nearest", "()I"⟩
abbrev cX6_ahead : ByteArray := prog_8_method_52_code
def yX6_ahead : MethodName := ⟨RX6, "ahead", "(I)I"⟩
abbrev cX6_staysMore : ByteArray := prog_8_method_53_code
def yX6_staysMore : MethodName := ⟨RX6, "staysMore", "(I)V"⟩
abbrev cX6_leastOf : ByteArray := prog_8_method_54_code
def yX6_leastOf : MethodName := ⟨RX6, "leastOf", "()I"⟩
abbrev cX6_leastCost : ByteArray := prog_8_method_55_code
def yX6_leastCost : MethodName := ⟨RX6, "leastCost", "()I"⟩
abbrev cX6_ringsWithout : ByteArray := prog_8_method_56_code
def yX6_ringsWithout : MethodName := ⟨RX6, "ringsWithout", "(I)I"⟩
abbrev cX6_keyPromise : ByteArray := prog_8_method_57_code
def yX6_keyPromise : MethodName := ⟨RX6, "keyPromise", "()I"⟩
abbrev cX6_mutual : ByteArray := prog_8_method_58_code
def yX6_mutual : MethodName := ⟨RX6, "mutual", "(I)I"⟩
abbrev cX6_append : ByteArray := prog_8_method_59_code
def yX6_append : MethodName := ⟨RX6, "append", "(I)I"⟩
abbrev cX6_clearText : ByteArray := prog_8_method_60_code
def yX6_clearText : MethodName := ⟨RX6, "clearText", "()I"⟩
abbrev cX6_look : ByteArray := prog_8_method_61_code
def yX6_look : MethodName := ⟨RX6, "look", "()I"⟩
abbrev cX6_fails : ByteArray := prog_8_method_62_code
def yX6_fails : MethodName := ⟨RX6, "fails", "(I)V"⟩
abbrev cX6_sign : ByteArray := prog_8_method_63_code
def yX6_sign : MethodName := ⟨RX6, "sign", "(I)V"⟩
abbrev cX6_digit : ByteArray := prog_8_method_64_code
def yX6_digit : MethodName := ⟨RX6, "digit", "(II)V"⟩
abbrev cX6_figures : ByteArray := prog_8_method_65_code
def yX6_figures : MethodName := ⟨RX6, "figures", "(III)V"⟩
abbrev cX6_readsOrder : ByteArray := prog_8_method_66_code
def yX6_readsOrder : MethodName := ⟨RX6, "readsOrder", "()V"⟩
abbrev cX6_can : ByteArray := prog_8_method_67_code
def yX6_can : MethodName := ⟨RX6, "can", "(I)Z"⟩
abbrev cX6_does : ByteArray := prog_8_method_68_code
def yX6_does : MethodName := ⟨RX6, "does", "(I)V"⟩
abbrev cX6_carryOut : ByteArray := prog_8_method_69_code
def yX6_carryOut : MethodName := ⟨RX6, "carryOut", "()I"⟩
abbrev cX6_undo : ByteArray := prog_8_method_70_code
def yX6_undo : MethodName := ⟨RX6, "undo", "()I"⟩
abbrev cX6_digest : ByteArray := prog_8_method_71_code
def yX6_digest : MethodName := ⟨RX6, "digest", "()J"⟩
def RJ9 : String := "java/lang/Math"
def TJ9 : u_T := fun k => match k with
  | _ => ("", "", "", false)
def tyJ9 : Nat → FieldType := fun k => match k with
  | _ => .int
theorem nmJ9 : ∀ a, a < 0 → ∀ b, b < 0 → a ≠ b → (TJ9 a).2.1 ≠ (TJ9 b).2.1 := by decide +kernel
theorem tyJ9_ok : ∀ k, k < 0 → parseFieldDescriptor (TJ9 k).2.2.1 = some (tyJ9 k) := by decide +kernel
abbrev cJ9_max_7cf53 : ByteArray := prog_13_method_65_code
def yJ9_max_7cf53 : MethodName := ⟨RJ9, "max", "(II)I"⟩
abbrev cJ9_min_7cf53 : ByteArray := prog_13_method_69_code
def yJ9_min_7cf53 : MethodName := ⟨RJ9, "min", "(II)I"⟩
def RJ0 : String := "java/lang/String"
def TJ0 : u_T := fun k => match k with
  | _ => ("", "", "", false)
def tyJ0 : Nat → FieldType := fun k => match k with
  | _ => .int
theorem nmJ0 : ∀ a, a < 0 → ∀ b, b < 0 → a ≠ b → (TJ0 a).2.1 ≠ (TJ0 b).2.1 := by decide +kernel
theorem tyJ0_ok : ∀ k, k < 0 → parseFieldDescriptor (TJ0 k).2.2.1 = some (tyJ0 k) := by decide +kernel
def RJ10 : String := "java/lang/System"
def TJ10 : u_T := fun k => match k with
  | _ => ("", "", "", false)
def tyJ10 : Nat → FieldType := fun k => match k with
  | _ => .int
theorem nmJ10 : ∀ a, a < 0 → ∀ b, b < 0 → a ≠ b → (TJ10 a).2.1 ≠ (TJ10 b).2.1 := by decide +kernel
theorem tyJ10_ok : ∀ k, k < 0 → parseFieldDescriptor (TJ10 k).2.2.1 = some (tyJ10 k) := by decide +kernel
def RL : String := "PledgeRingsLaw"
abbrev cL_begin : ByteArray := method_3_code
def yL_begin : MethodName := ⟨RL, "begin", "(LPledgeRings;I[J)I"⟩
abbrev cL_promise : ByteArray := method_4_code
def yL_promise : MethodName := ⟨RL, "promise", "(LPledgeRings;IIII[J)I"⟩
abbrev cL_pay : ByteArray := method_5_code
def yL_pay : MethodName := ⟨RL, "pay", "(LPledgeRings;II[J)I"⟩
abbrev cL_dispute : ByteArray := method_6_code
def yL_dispute : MethodName := ⟨RL, "dispute", "(LPledgeRings;I[J)I"⟩
abbrev cL_settle : ByteArray := method_7_code
def yL_settle : MethodName := ⟨RL, "settle", "(LPledgeRings;I[J)I"⟩
abbrev cL_discharge : ByteArray := method_8_code
def yL_discharge : MethodName := ⟨RL, "discharge", "(LPledgeRings;II[J)I"⟩
abbrev cL_dischargeBest : ByteArray := method_9_code
def yL_dischargeBest : MethodName := ⟨RL, "dischargeBest", "(LPledgeRings;[J)I"⟩
abbrev cL_promiseOf : ByteArray := method_10_code
def yL_promiseOf : MethodName := ⟨RL, "promiseOf", "(LPledgeRings;II[J)I"⟩
abbrev cL_debt : ByteArray := method_11_code
def yL_debt : MethodName := ⟨RL, "debt", "(LPledgeRings;II[J)I"⟩
abbrev cL_net : ByteArray := method_12_code
def yL_net : MethodName := ⟨RL, "net", "(LPledgeRings;I[J)I"⟩
abbrev cL_ring : ByteArray := method_13_code
def yL_ring : MethodName := ⟨RL, "ring", "(LPledgeRings;II[J)I"⟩
abbrev cL_room : ByteArray := method_14_code
def yL_room : MethodName := ⟨RL, "room", "(LPledgeRings;I[J)I"⟩
abbrev cL_value : ByteArray := method_15_code
def yL_value : MethodName := ⟨RL, "value", "(LPledgeRings;I[J)I"⟩
abbrev cL_saving : ByteArray := method_16_code
def yL_saving : MethodName := ⟨RL, "saving", "(LPledgeRings;I[J)I"⟩
abbrev cL_ringsWithout : ByteArray := method_17_code
def yL_ringsWithout : MethodName := ⟨RL, "ringsWithout", "(LPledgeRings;I[J)I"⟩
abbrev cL_mutual : ByteArray := method_18_code
def yL_mutual : MethodName := ⟨RL, "mutual", "(LPledgeRings;I[J)I"⟩
abbrev cL_append : ByteArray := method_19_code
def yL_append : MethodName := ⟨RL, "append", "(LPledgeRings;I[J)I"⟩
abbrev cL_undo : ByteArray := method_20_code
def yL_undo : MethodName := ⟨RL, "undo", "(LPledgeRings;[J)I"⟩
abbrev cL_law : ByteArray := code
def yL_law : MethodName := ⟨RL, "law", "([I)Z"⟩
abbrev vwCl : List vw_C := [(RX0, TX0, 13), (RX1, TX1, 3), (RX2, TX2, 10), (RX3, TX3, 4), (RX4, TX4, 4), (RX5, TX5, 7), (RX6, TX6, 30)]
end
section
/-! the words, by their places in the tables -/
def GW : List Cond := lw_tbl.filter goodWord
theorem gw_of {w : Cond} (h : w ∈ lw_tbl) (g : goodWord w = true) : w ∈ GW := List.mem_filter.mpr ⟨h, g⟩
theorem tm10 {w : Cond} (h : w ∈ tables_1_1) : w ∈ lw_tbl := List.mem_append_right _ (List.mem_append_left _ h)
theorem tm1 {w : Cond} (h : w ∈ tables_1_1) (g : goodWord w = true) : w ∈ GW := gw_of (tm10 h) g
theorem tm20 {w : Cond} (h : w ∈ tables_1_2) : w ∈ lw_tbl := List.mem_append_right _ (List.mem_append_right _ (List.mem_append_left _ h))
theorem tm2 {w : Cond} (h : w ∈ tables_1_2) (g : goodWord w = true) : w ∈ GW := gw_of (tm20 h) g
theorem tm30 {w : Cond} (h : w ∈ tables_1_3) : w ∈ lw_tbl := List.mem_append_right _ (List.mem_append_right _ (List.mem_append_right _ (List.mem_append_left _ h)))
theorem tm3 {w : Cond} (h : w ∈ tables_1_3) (g : goodWord w = true) : w ∈ GW := gw_of (tm30 h) g
theorem tm40 {w : Cond} (h : w ∈ tables_1_4) : w ∈ lw_tbl := List.mem_append_right _ (List.mem_append_right _ (List.mem_append_right _ (List.mem_append_right _ (List.mem_append_left _ h))))
theorem tm4 {w : Cond} (h : w ∈ tables_1_4) (g : goodWord w = true) : w ∈ GW := gw_of (tm40 h) g
theorem tm50 {w : Cond} (h : w ∈ tables_1_5) : w ∈ lw_tbl := List.mem_append_right _ (List.mem_append_right _ (List.mem_append_right _ (List.mem_append_right _ (List.mem_append_right _ (List.mem_append_left _ h)))))
theorem tm5 {w : Cond} (h : w ∈ tables_1_5) (g : goodWord w = true) : w ∈ GW := gw_of (tm50 h) g
theorem tm60 {w : Cond} (h : w ∈ tables_1_6) : w ∈ lw_tbl := List.mem_append_right _ (List.mem_append_right _ (List.mem_append_right _ (List.mem_append_right _ (List.mem_append_right _ (List.mem_append_right _ h)))))
theorem tm6 {w : Cond} (h : w ∈ tables_1_6) (g : goodWord w = true) : w ∈ GW := gw_of (tm60 h) g
theorem tmP {w : Cond} (h : w ∈ k2_sels lw_privs) (g : goodWord w = true) : w ∈ GW := gw_of (List.mem_append_left _ h) g
theorem wIn_L : Cond.initialized RL ∈ GW := tm1 (List.mem_of_getElem? (i := 0) rfl) rfl
theorem wIn_X5 : Cond.initialized RX5 ∈ GW := tm1 (List.mem_of_getElem? (i := 1) rfl) rfl
theorem wIn_X0 : Cond.initialized RX0 ∈ GW := tm1 (List.mem_of_getElem? (i := 2) rfl) rfl
theorem wIn_X4 : Cond.initialized RX4 ∈ GW := tm1 (List.mem_of_getElem? (i := 3) rfl) rfl
theorem wIn_X1 : Cond.initialized RX1 ∈ GW := tm1 (List.mem_of_getElem? (i := 4) rfl) rfl
theorem wIn_X3 : Cond.initialized RX3 ∈ GW := tm1 (List.mem_of_getElem? (i := 5) rfl) rfl
theorem wIn_X2 : Cond.initialized RX2 ∈ GW := tm1 (List.mem_of_getElem? (i := 6) rfl) rfl
theorem wIn_X6 : Cond.initialized RX6 ∈ GW := tm1 (List.mem_of_getElem? (i := 7) rfl) rfl
theorem wIn_Throwable : Cond.initialized "java/lang/Throwable" ∈ GW := tm1 (List.mem_of_getElem? (i := 8) rfl) rfl
theorem wIn_Exception : Cond.initialized "java/lang/Exception" ∈ GW := tm1 (List.mem_of_getElem? (i := 9) rfl) rfl
theorem wIn_RuntimeException : Cond.initialized "java/lang/RuntimeException" ∈ GW := tm1 (List.mem_of_getElem? (i := 10) rfl) rfl
theorem wIn_IllegalArgumentException : Cond.initialized "java/lang/IllegalArgumentException" ∈ GW := tm1 (List.mem_of_getElem? (i := 11) rfl) rfl
theorem wIn_J10 : Cond.initialized RJ10 ∈ GW := tm1 (List.mem_of_getElem? (i := 12) rfl) rfl
theorem wIn_IndexOutOfBoundsException : Cond.initialized "java/lang/IndexOutOfBoundsException" ∈ GW := tm1 (List.mem_of_getElem? (i := 13) rfl) rfl
theorem wIn_IllegalStateException : Cond.initialized "java/lang/IllegalStateException" ∈ GW := tm1 (List.mem_of_getElem? (i := 14) rfl) rfl
theorem wIn_J9 : Cond.initialized RJ9 ∈ GW := tm1 (List.mem_of_getElem? (i := 15) rfl) rfl
theorem wK_L_8 : Cond.classLink RL 8 RX5 ∈ GW := tm1 (List.mem_of_getElem? (i := 16) rfl) rfl
theorem wIb_X5 : Cond.instantiable RX5 7 ∈ GW := tm1 (List.mem_of_getElem? (i := 17) rfl) rfl
theorem wL_L_73 : Cond.methodLink RL 73 yX5_init ∈ GW := tm1 (List.mem_of_getElem? (i := 18) rfl) rfl
theorem wI_X5_init : Cond.instanceMethod yX5_init ∈ GW := tm1 (List.mem_of_getElem? (i := 19) rfl) rfl
theorem wC_X5_init : Cond.code yX5_init cX5_init 1 none ∈ GW := tm1 (List.mem_of_getElem? (i := 20) rfl) rfl
theorem wL_X5_3 : Cond.methodLink RX5 3 ⟨"java/lang/Object", "<init>", "()V"⟩ ∈ GW := tm1 (List.mem_of_getElem? (i := 21) rfl) rfl
theorem wI_Object__init___V : Cond.instanceMethod ⟨"java/lang/Object", "<init>", "()V"⟩ ∈ GW := tm1 (List.mem_of_getElem? (i := 22) rfl) rfl
theorem wC_Object__init___V : Cond.code ⟨"java/lang/Object", "<init>", "()V"⟩ object_method_1_code 1 none ∈ GW := tm1 (List.mem_of_getElem? (i := 23) rfl) rfl
theorem wK_X5_9 : Cond.classLink RX5 9 RX0 ∈ GW := tm1 (List.mem_of_getElem? (i := 24) rfl) rfl
theorem wIb_X0 : Cond.instantiable RX0 13 ∈ GW := tm1 (List.mem_of_getElem? (i := 25) rfl) rfl
theorem wLN_X5_11 : Cond.methodLinkNest RX5 11 yX0_init RX5 ∈ lw_tbl := tm10 (List.mem_of_getElem? (i := 26) rfl)
theorem wI_X0_init : Cond.instanceMethod yX0_init ∈ GW := tm1 (List.mem_of_getElem? (i := 27) rfl) rfl
theorem wC_X0_init : Cond.code yX0_init cX0_init 1 none ∈ GW := tm1 (List.mem_of_getElem? (i := 28) rfl) rfl
theorem wL_X0_3 : Cond.methodLink RX0 3 ⟨"java/lang/Object", "<init>", "()V"⟩ ∈ GW := tm1 (List.mem_of_getElem? (i := 29) rfl) rfl
theorem wF_X0_9 : Cond.fieldLink RX0 9 "PledgeRings$Book" "parties" "I" ∈ GW := tm1 (List.mem_of_getElem? (i := 30) rfl) rfl
theorem wFN_X5_177 : Cond.fieldLinkNest RX5 177 "PledgeRings$Book" "parties" "I" RX5 ∈ lw_tbl := tm10 (List.mem_of_getElem? (i := 31) rfl)
theorem wF_X0_41 : Cond.fieldLink RX0 41 "PledgeRings$Book" "count" "I" ∈ GW := tm1 (List.mem_of_getElem? (i := 32) rfl) rfl
theorem wFN_X5_54 : Cond.fieldLinkNest RX5 54 "PledgeRings$Book" "count" "I" RX5 ∈ lw_tbl := tm10 (List.mem_of_getElem? (i := 33) rfl)
theorem wFN_X1_21 : Cond.fieldLinkNest RX1 21 "PledgeRings$Book" "count" "I" RX5 ∈ lw_tbl := tm10 (List.mem_of_getElem? (i := 34) rfl)
theorem wFN_X3_44 : Cond.fieldLinkNest RX3 44 "PledgeRings$Book" "count" "I" RX5 ∈ lw_tbl := tm10 (List.mem_of_getElem? (i := 35) rfl)
theorem wF_X0_44 : Cond.fieldLink RX0 44 "PledgeRings$Book" "payments" "I" ∈ GW := tm1 (List.mem_of_getElem? (i := 36) rfl) rfl
theorem wFN_X5_192 : Cond.fieldLinkNest RX5 192 "PledgeRings$Book" "payments" "I" RX5 ∈ lw_tbl := tm10 (List.mem_of_getElem? (i := 37) rfl)
theorem wF_X0_47 : Cond.fieldLink RX0 47 "PledgeRings$Book" "releases" "I" ∈ GW := tm1 (List.mem_of_getElem? (i := 38) rfl) rfl
theorem wFN_X5_195 : Cond.fieldLinkNest RX5 195 "PledgeRings$Book" "releases" "I" RX5 ∈ lw_tbl := tm10 (List.mem_of_getElem? (i := 39) rfl)
theorem wF_X0_50 : Cond.fieldLink RX0 50 "PledgeRings$Book" "discharges" "I" ∈ GW := tm1 (List.mem_of_getElem? (i := 40) rfl) rfl
theorem wFN_X4_79 : Cond.fieldLinkNest RX4 79 "PledgeRings$Book" "discharges" "I" RX5 ∈ lw_tbl := tm10 (List.mem_of_getElem? (i := 41) rfl)
theorem wFN_X5_198 : Cond.fieldLinkNest RX5 198 "PledgeRings$Book" "discharges" "I" RX5 ∈ lw_tbl := tm10 (List.mem_of_getElem? (i := 42) rfl)
theorem wF_X0_15 : Cond.fieldLink RX0 15 "PledgeRings$Book" "from" "[I" ∈ GW := tm1 (List.mem_of_getElem? (i := 43) rfl) rfl
theorem wFN_X3_54 : Cond.fieldLinkNest RX3 54 "PledgeRings$Book" "from" "[I" RX5 ∈ lw_tbl := tm10 (List.mem_of_getElem? (i := 44) rfl)
theorem wFN_X5_145 : Cond.fieldLinkNest RX5 145 "PledgeRings$Book" "from" "[I" RX5 ∈ lw_tbl := tm10 (List.mem_of_getElem? (i := 45) rfl)
theorem wF_X0_19 : Cond.fieldLink RX0 19 "PledgeRings$Book" "to" "[I" ∈ GW := tm1 (List.mem_of_getElem? (i := 46) rfl) rfl
theorem wFN_X3_64 : Cond.fieldLinkNest RX3 64 "PledgeRings$Book" "to" "[I" RX5 ∈ lw_tbl := tm10 (List.mem_of_getElem? (i := 47) rfl)
theorem wFN_X5_148 : Cond.fieldLinkNest RX5 148 "PledgeRings$Book" "to" "[I" RX5 ∈ lw_tbl := tm10 (List.mem_of_getElem? (i := 48) rfl)
theorem wF_X0_22 : Cond.fieldLink RX0 22 "PledgeRings$Book" "amount" "[I" ∈ GW := tm1 (List.mem_of_getElem? (i := 49) rfl) rfl
theorem wFN_X1_38 : Cond.fieldLinkNest RX1 38 "PledgeRings$Book" "amount" "[I" RX5 ∈ lw_tbl := tm10 (List.mem_of_getElem? (i := 50) rfl)
theorem wFN_X3_57 : Cond.fieldLinkNest RX3 57 "PledgeRings$Book" "amount" "[I" RX5 ∈ lw_tbl := tm10 (List.mem_of_getElem? (i := 51) rfl)
theorem wFN_X5_97 : Cond.fieldLinkNest RX5 97 "PledgeRings$Book" "amount" "[I" RX5 ∈ lw_tbl := tm10 (List.mem_of_getElem? (i := 52) rfl)
theorem wFN_X4_107 : Cond.fieldLinkNest RX4 107 "PledgeRings$Book" "amount" "[I" RX5 ∈ lw_tbl := tm10 (List.mem_of_getElem? (i := 53) rfl)
theorem wF_X0_25 : Cond.fieldLink RX0 25 "PledgeRings$Book" "rate" "[I" ∈ GW := tm1 (List.mem_of_getElem? (i := 54) rfl) rfl
theorem wFN_X1_27 : Cond.fieldLinkNest RX1 27 "PledgeRings$Book" "rate" "[I" RX5 ∈ lw_tbl := tm10 (List.mem_of_getElem? (i := 55) rfl)
theorem wFN_X3_75 : Cond.fieldLinkNest RX3 75 "PledgeRings$Book" "rate" "[I" RX5 ∈ lw_tbl := tm10 (List.mem_of_getElem? (i := 56) rfl)
theorem wFN_X5_151 : Cond.fieldLinkNest RX5 151 "PledgeRings$Book" "rate" "[I" RX5 ∈ lw_tbl := tm10 (List.mem_of_getElem? (i := 57) rfl)
theorem wF_X0_28 : Cond.fieldLink RX0 28 "PledgeRings$Book" "amountAtFirst" "[I" ∈ GW := tm1 (List.mem_of_getElem? (i := 58) rfl) rfl
theorem wFN_X5_154 : Cond.fieldLinkNest RX5 154 "PledgeRings$Book" "amountAtFirst" "[I" RX5 ∈ lw_tbl := tm10 (List.mem_of_getElem? (i := 59) rfl)
theorem wF_X0_31 : Cond.fieldLink RX0 31 "PledgeRings$Book" "paid" "[I" ∈ GW := tm1 (List.mem_of_getElem? (i := 60) rfl) rfl
theorem wFN_X5_157 : Cond.fieldLinkNest RX5 157 "PledgeRings$Book" "paid" "[I" RX5 ∈ lw_tbl := tm10 (List.mem_of_getElem? (i := 61) rfl)
theorem wF_X0_34 : Cond.fieldLink RX0 34 "PledgeRings$Book" "released" "[I" ∈ GW := tm1 (List.mem_of_getElem? (i := 62) rfl) rfl
theorem wFN_X5_160 : Cond.fieldLinkNest RX5 160 "PledgeRings$Book" "released" "[I" RX5 ∈ lw_tbl := tm10 (List.mem_of_getElem? (i := 63) rfl)
theorem wF_X0_37 : Cond.fieldLink RX0 37 "PledgeRings$Book" "disputed" "[Z" ∈ GW := tm1 (List.mem_of_getElem? (i := 64) rfl) rfl
theorem wFN_X5_116 : Cond.fieldLinkNest RX5 116 "PledgeRings$Book" "disputed" "[Z" RX5 ∈ lw_tbl := tm10 (List.mem_of_getElem? (i := 65) rfl)
theorem wFN_X3_105 : Cond.fieldLinkNest RX3 105 "PledgeRings$Book" "disputed" "[Z" RX5 ∈ lw_tbl := tm10 (List.mem_of_getElem? (i := 66) rfl)
theorem wY_X0_parties : Cond.lays RX0 "PledgeRings$Book" "parties" "I" ∈ GW := tm1 (List.mem_of_getElem? (i := 67) rfl) rfl
theorem wY_X0_count : Cond.lays RX0 "PledgeRings$Book" "count" "I" ∈ GW := tm1 (List.mem_of_getElem? (i := 69) rfl) rfl
theorem wY_X0_payments : Cond.lays RX0 "PledgeRings$Book" "payments" "I" ∈ GW := tm1 (List.mem_of_getElem? (i := 71) rfl) rfl
theorem wY_X0_releases : Cond.lays RX0 "PledgeRings$Book" "releases" "I" ∈ GW := tm1 (List.mem_of_getElem? (i := 73) rfl) rfl
theorem wY_X0_discharges : Cond.lays RX0 "PledgeRings$Book" "discharges" "I" ∈ GW := tm1 (List.mem_of_getElem? (i := 75) rfl) rfl
theorem wY_X0_from : Cond.laysFinal RX0 "PledgeRings$Book" "from" "[I" ∈ GW := tm1 (List.mem_of_getElem? (i := 77) rfl) rfl
theorem wY_X0_to : Cond.laysFinal RX0 "PledgeRings$Book" "to" "[I" ∈ GW := tm1 (List.mem_of_getElem? (i := 79) rfl) rfl
theorem wY_X0_amount : Cond.laysFinal RX0 "PledgeRings$Book" "amount" "[I" ∈ GW := tm1 (List.mem_of_getElem? (i := 81) rfl) rfl
theorem wY_X0_rate : Cond.laysFinal RX0 "PledgeRings$Book" "rate" "[I" ∈ GW := tm1 (List.mem_of_getElem? (i := 83) rfl) rfl
theorem wY_X0_amountAtFirst : Cond.laysFinal RX0 "PledgeRings$Book" "amountAtFirst" "[I" ∈ GW := tm1 (List.mem_of_getElem? (i := 85) rfl) rfl
theorem wY_X0_paid : Cond.laysFinal RX0 "PledgeRings$Book" "paid" "[I" ∈ GW := tm1 (List.mem_of_getElem? (i := 87) rfl) rfl
theorem wY_X0_released : Cond.laysFinal RX0 "PledgeRings$Book" "released" "[I" ∈ GW := tm1 (List.mem_of_getElem? (i := 89) rfl) rfl
theorem wY_X0_disputed : Cond.laysFinal RX0 "PledgeRings$Book" "disputed" "[Z" ∈ GW := tm1 (List.mem_of_getElem? (i := 91) rfl) rfl
theorem wA__int : Cond.arrayClass .int ∈ GW := tm1 (List.mem_of_getElem? (i := 94) rfl) rfl
theorem wA__boolean : Cond.arrayClass .boolean ∈ GW := tm1 (List.mem_of_getElem? (i := 95) rfl) rfl
theorem wK_X5_19 : Cond.classLink RX5 19 RX4 ∈ GW := tm1 (List.mem_of_getElem? (i := 96) rfl) rfl
theorem wIb_X4 : Cond.instantiable RX4 4 ∈ GW := tm1 (List.mem_of_getElem? (i := 97) rfl) rfl
theorem wLN_X5_21 : Cond.methodLinkNest RX5 21 yX4_init RX5 ∈ lw_tbl := tm10 (List.mem_of_getElem? (i := 98) rfl)
theorem wI_X4_init : Cond.instanceMethod yX4_init ∈ GW := tm1 (List.mem_of_getElem? (i := 99) rfl) rfl
theorem wC_X4_init : Cond.code yX4_init cX4_init 1 none ∈ GW := tm1 (List.mem_of_getElem? (i := 100) rfl) rfl
theorem wL_X4_5 : Cond.methodLink RX4 5 ⟨"java/lang/Object", "<init>", "()V"⟩ ∈ GW := tm1 (List.mem_of_getElem? (i := 101) rfl) rfl
theorem wK_X4_11 : Cond.classLink RX4 11 RX1 ∈ GW := tm1 (List.mem_of_getElem? (i := 102) rfl) rfl
theorem wIb_X1 : Cond.instantiable RX1 3 ∈ GW := tm1 (List.mem_of_getElem? (i := 103) rfl) rfl
theorem wLN_X4_13 : Cond.methodLinkNest RX4 13 yX1_init RX5 ∈ lw_tbl := tm10 (List.mem_of_getElem? (i := 104) rfl)
theorem wI_X1_init : Cond.instanceMethod yX1_init ∈ GW := tm1 (List.mem_of_getElem? (i := 105) rfl) rfl
theorem wC_X1_init : Cond.code yX1_init cX1_init 1 none ∈ GW := tm1 (List.mem_of_getElem? (i := 106) rfl) rfl
theorem wL_X1_3 : Cond.methodLink RX1 3 ⟨"java/lang/Object", "<init>", "()V"⟩ ∈ GW := tm1 (List.mem_of_getElem? (i := 107) rfl) rfl
theorem wF_X1_9 : Cond.fieldLink RX1 9 "PledgeRings$Debts" "sum" "[I" ∈ GW := tm1 (List.mem_of_getElem? (i := 108) rfl) rfl
theorem wF_X1_15 : Cond.fieldLink RX1 15 "PledgeRings$Debts" "firstOf" "[I" ∈ GW := tm1 (List.mem_of_getElem? (i := 109) rfl) rfl
theorem wF_X1_18 : Cond.fieldLink RX1 18 "PledgeRings$Debts" "nextOf" "[I" ∈ GW := tm1 (List.mem_of_getElem? (i := 110) rfl) rfl
theorem wY_X1_sum : Cond.laysFinal RX1 "PledgeRings$Debts" "sum" "[I" ∈ GW := tm1 (List.mem_of_getElem? (i := 111) rfl) rfl
theorem wY_X1_firstOf : Cond.laysFinal RX1 "PledgeRings$Debts" "firstOf" "[I" ∈ GW := tm1 (List.mem_of_getElem? (i := 113) rfl) rfl
theorem wY_X1_nextOf : Cond.laysFinal RX1 "PledgeRings$Debts" "nextOf" "[I" ∈ GW := tm1 (List.mem_of_getElem? (i := 115) rfl) rfl
theorem wF_X4_14 : Cond.fieldLink RX4 14 "PledgeRings$Rings" "debts" "LPledgeRings$Debts;" ∈ GW := tm1 (List.mem_of_getElem? (i := 118) rfl) rfl
theorem wF_X4_18 : Cond.fieldLink RX4 18 "PledgeRings$Rings" "rows" "[I" ∈ GW := tm1 (List.mem_of_getElem? (i := 119) rfl) rfl
theorem wF_X4_22 : Cond.fieldLink RX4 22 "PledgeRings$Rings" "through" "[I" ∈ GW := tm1 (List.mem_of_getElem? (i := 120) rfl) rfl
theorem wF_X4_29 : Cond.fieldLink RX4 29 "PledgeRings$Rings" "size" "I" ∈ GW := tm1 (List.mem_of_getElem? (i := 121) rfl) rfl
theorem wFN_X5_280 : Cond.fieldLinkNest RX5 280 "PledgeRings$Rings" "size" "I" RX5 ∈ lw_tbl := tm10 (List.mem_of_getElem? (i := 122) rfl)
theorem wY_X4_debts : Cond.laysFinal RX4 "PledgeRings$Rings" "debts" "LPledgeRings$Debts;" ∈ GW := tm1 (List.mem_of_getElem? (i := 123) rfl) rfl
theorem wY_X4_rows : Cond.laysFinal RX4 "PledgeRings$Rings" "rows" "[I" ∈ GW := tm1 (List.mem_of_getElem? (i := 125) rfl) rfl
theorem wY_X4_through : Cond.laysFinal RX4 "PledgeRings$Rings" "through" "[I" ∈ GW := tm1 (List.mem_of_getElem? (i := 127) rfl) rfl
theorem wY_X4_size : Cond.lays RX4 "PledgeRings$Rings" "size" "I" ∈ GW := tm1 (List.mem_of_getElem? (i := 129) rfl) rfl
theorem wK_X5_26 : Cond.classLink RX5 26 RX3 ∈ GW := tm1 (List.mem_of_getElem? (i := 132) rfl) rfl
theorem wIb_X3 : Cond.instantiable RX3 4 ∈ GW := tm1 (List.mem_of_getElem? (i := 133) rfl) rfl
theorem wLN_X5_28 : Cond.methodLinkNest RX5 28 yX3_init RX5 ∈ lw_tbl := tm10 (List.mem_of_getElem? (i := 134) rfl)
theorem wI_X3_init : Cond.instanceMethod yX3_init ∈ GW := tm1 (List.mem_of_getElem? (i := 135) rfl) rfl
theorem wC_X3_init : Cond.code yX3_init cX3_init 1 none ∈ GW := tm1 (List.mem_of_getElem? (i := 136) rfl) rfl
theorem wL_X3_3 : Cond.methodLink RX3 3 ⟨"java/lang/Object", "<init>", "()V"⟩ ∈ GW := tm1 (List.mem_of_getElem? (i := 137) rfl) rfl
theorem wF_X3_9 : Cond.fieldLink RX3 9 "PledgeRings$Remainder" "stays" "[I" ∈ GW := tm1 (List.mem_of_getElem? (i := 138) rfl) rfl
theorem wF_X3_15 : Cond.fieldLink RX3 15 "PledgeRings$Remainder" "excess" "[I" ∈ GW := tm1 (List.mem_of_getElem? (i := 139) rfl) rfl
theorem wF_X3_18 : Cond.fieldLink RX3 18 "PledgeRings$Remainder" "distance" "[I" ∈ GW := tm1 (List.mem_of_getElem? (i := 140) rfl) rfl
theorem wF_X3_21 : Cond.fieldLink RX3 21 "PledgeRings$Remainder" "reachedBy" "[I" ∈ GW := tm1 (List.mem_of_getElem? (i := 141) rfl) rfl
theorem wY_X3_stays : Cond.laysFinal RX3 "PledgeRings$Remainder" "stays" "[I" ∈ GW := tm1 (List.mem_of_getElem? (i := 142) rfl) rfl
theorem wY_X3_excess : Cond.laysFinal RX3 "PledgeRings$Remainder" "excess" "[I" ∈ GW := tm1 (List.mem_of_getElem? (i := 144) rfl) rfl
theorem wY_X3_distance : Cond.laysFinal RX3 "PledgeRings$Remainder" "distance" "[I" ∈ GW := tm1 (List.mem_of_getElem? (i := 146) rfl) rfl
theorem wY_X3_reachedBy : Cond.laysFinal RX3 "PledgeRings$Remainder" "reachedBy" "[I" ∈ GW := tm1 (List.mem_of_getElem? (i := 148) rfl) rfl
theorem wK_X5_33 : Cond.classLink RX5 33 RX2 ∈ GW := tm1 (List.mem_of_getElem? (i := 151) rfl) rfl
theorem wIb_X2 : Cond.instantiable RX2 10 ∈ GW := tm1 (List.mem_of_getElem? (i := 152) rfl) rfl
theorem wLN_X5_35 : Cond.methodLinkNest RX5 35 yX2_init RX5 ∈ lw_tbl := tm10 (List.mem_of_getElem? (i := 153) rfl)
theorem wI_X2_init : Cond.instanceMethod yX2_init ∈ GW := tm1 (List.mem_of_getElem? (i := 154) rfl) rfl
theorem wC_X2_init : Cond.code yX2_init cX2_init 1 none ∈ GW := tm1 (List.mem_of_getElem? (i := 155) rfl) rfl
theorem wL_X2_3 : Cond.methodLink RX2 3 ⟨"java/lang/Object", "<init>", "()V"⟩ ∈ GW := tm1 (List.mem_of_getElem? (i := 156) rfl) rfl
theorem wF_X2_9 : Cond.fieldLink RX2 9 "PledgeRings$Orders" "bytes" "[I" ∈ GW := tm1 (List.mem_of_getElem? (i := 157) rfl) rfl
theorem wF_X2_15 : Cond.fieldLink RX2 15 "PledgeRings$Orders" "length" "I" ∈ GW := tm1 (List.mem_of_getElem? (i := 158) rfl) rfl
theorem wFN_X5_244 : Cond.fieldLinkNest RX5 244 "PledgeRings$Orders" "length" "I" RX5 ∈ lw_tbl := tm10 (List.mem_of_getElem? (i := 159) rfl)
theorem wF_X2_19 : Cond.fieldLink RX2 19 "PledgeRings$Orders" "at" "I" ∈ GW := tm1 (List.mem_of_getElem? (i := 160) rfl) rfl
theorem wF_X2_22 : Cond.fieldLink RX2 22 "PledgeRings$Orders" "errorAt" "I" ∈ GW := tm1 (List.mem_of_getElem? (i := 161) rfl) rfl
theorem wF_X2_36 : Cond.fieldLink RX2 36 "PledgeRings$Orders" "sign" "I" ∈ GW := tm1 (List.mem_of_getElem? (i := 162) rfl) rfl
theorem wFN_X5_286 : Cond.fieldLinkNest RX5 286 "PledgeRings$Orders" "sign" "I" RX5 ∈ lw_tbl := tm10 (List.mem_of_getElem? (i := 163) rfl)
theorem wF_X2_60 : Cond.fieldLink RX2 60 "PledgeRings$Orders" "from" "I" ∈ GW := tm1 (List.mem_of_getElem? (i := 164) rfl) rfl
theorem wFN_X5_301 : Cond.fieldLinkNest RX5 301 "PledgeRings$Orders" "from" "I" RX5 ∈ lw_tbl := tm10 (List.mem_of_getElem? (i := 165) rfl)
theorem wF_X2_63 : Cond.fieldLink RX2 63 "PledgeRings$Orders" "to" "I" ∈ GW := tm1 (List.mem_of_getElem? (i := 166) rfl) rfl
theorem wFN_X5_303 : Cond.fieldLinkNest RX5 303 "PledgeRings$Orders" "to" "I" RX5 ∈ lw_tbl := tm10 (List.mem_of_getElem? (i := 167) rfl)
theorem wF_X2_66 : Cond.fieldLink RX2 66 "PledgeRings$Orders" "amount" "I" ∈ GW := tm1 (List.mem_of_getElem? (i := 168) rfl) rfl
theorem wFN_X5_305 : Cond.fieldLinkNest RX5 305 "PledgeRings$Orders" "amount" "I" RX5 ∈ lw_tbl := tm10 (List.mem_of_getElem? (i := 169) rfl)
theorem wF_X2_69 : Cond.fieldLink RX2 69 "PledgeRings$Orders" "rate" "I" ∈ GW := tm1 (List.mem_of_getElem? (i := 170) rfl) rfl
theorem wFN_X5_307 : Cond.fieldLinkNest RX5 307 "PledgeRings$Orders" "rate" "I" RX5 ∈ lw_tbl := tm10 (List.mem_of_getElem? (i := 171) rfl)
theorem wF_X2_46 : Cond.fieldLink RX2 46 "PledgeRings$Orders" "number" "I" ∈ GW := tm1 (List.mem_of_getElem? (i := 172) rfl) rfl
theorem wFN_X5_292 : Cond.fieldLinkNest RX5 292 "PledgeRings$Orders" "number" "I" RX5 ∈ lw_tbl := tm10 (List.mem_of_getElem? (i := 173) rfl)
theorem wY_X2_bytes : Cond.laysFinal RX2 "PledgeRings$Orders" "bytes" "[I" ∈ GW := tm1 (List.mem_of_getElem? (i := 174) rfl) rfl
theorem wY_X2_length : Cond.lays RX2 "PledgeRings$Orders" "length" "I" ∈ GW := tm1 (List.mem_of_getElem? (i := 176) rfl) rfl
theorem wY_X2_at : Cond.lays RX2 "PledgeRings$Orders" "at" "I" ∈ GW := tm1 (List.mem_of_getElem? (i := 178) rfl) rfl
theorem wY_X2_errorAt : Cond.lays RX2 "PledgeRings$Orders" "errorAt" "I" ∈ GW := tm1 (List.mem_of_getElem? (i := 180) rfl) rfl
theorem wY_X2_sign : Cond.lays RX2 "PledgeRings$Orders" "sign" "I" ∈ GW := tm1 (List.mem_of_getElem? (i := 182) rfl) rfl
theorem wY_X2_from : Cond.lays RX2 "PledgeRings$Orders" "from" "I" ∈ GW := tm1 (List.mem_of_getElem? (i := 184) rfl) rfl
theorem wY_X2_to : Cond.lays RX2 "PledgeRings$Orders" "to" "I" ∈ GW := tm1 (List.mem_of_getElem? (i := 186) rfl) rfl
theorem wY_X2_amount : Cond.lays RX2 "PledgeRings$Orders" "amount" "I" ∈ GW := tm1 (List.mem_of_getElem? (i := 188) rfl) rfl
theorem wY_X2_rate : Cond.lays RX2 "PledgeRings$Orders" "rate" "I" ∈ GW := tm1 (List.mem_of_getElem? (i := 190) rfl) rfl
theorem wY_X2_number : Cond.lays RX2 "PledgeRings$Orders" "number" "I" ∈ GW := tm1 (List.mem_of_getElem? (i := 192) rfl) rfl
theorem wF_X5_12 : Cond.fieldLink RX5 12 "PledgeRings" "book" "LPledgeRings$Book;" ∈ GW := tm1 (List.mem_of_getElem? (i := 196) rfl) rfl
theorem wF_X5_16 : Cond.fieldLink RX5 16 "PledgeRings" "trial" "LPledgeRings$Book;" ∈ GW := tm1 (List.mem_of_getElem? (i := 197) rfl) rfl
theorem wF_X5_22 : Cond.fieldLink RX5 22 "PledgeRings" "rings" "LPledgeRings$Rings;" ∈ GW := tm1 (List.mem_of_getElem? (i := 198) rfl) rfl
theorem wF_X5_29 : Cond.fieldLink RX5 29 "PledgeRings" "remainder" "LPledgeRings$Remainder;" ∈ GW := tm1 (List.mem_of_getElem? (i := 199) rfl) rfl
theorem wF_X5_36 : Cond.fieldLink RX5 36 "PledgeRings" "orders" "LPledgeRings$Orders;" ∈ GW := tm1 (List.mem_of_getElem? (i := 200) rfl) rfl
theorem wF_X5_40 : Cond.fieldLink RX5 40 "PledgeRings" "saved" "[LPledgeRings$Book;" ∈ GW := tm1 (List.mem_of_getElem? (i := 201) rfl) rfl
theorem wF_X5_262 : Cond.fieldLink RX5 262 "PledgeRings" "savedCount" "I" ∈ GW := tm1 (List.mem_of_getElem? (i := 202) rfl) rfl
theorem wY_X5_book : Cond.laysFinal RX5 "PledgeRings" "book" "LPledgeRings$Book;" ∈ GW := tm1 (List.mem_of_getElem? (i := 203) rfl) rfl
theorem wY_X5_trial : Cond.laysFinal RX5 "PledgeRings" "trial" "LPledgeRings$Book;" ∈ GW := tm1 (List.mem_of_getElem? (i := 205) rfl) rfl
theorem wY_X5_rings : Cond.laysFinal RX5 "PledgeRings" "rings" "LPledgeRings$Rings;" ∈ GW := tm1 (List.mem_of_getElem? (i := 207) rfl) rfl
theorem wY_X5_remainder : Cond.laysFinal RX5 "PledgeRings" "remainder" "LPledgeRings$Remainder;" ∈ GW := tm1 (List.mem_of_getElem? (i := 209) rfl) rfl
theorem wY_X5_orders : Cond.laysFinal RX5 "PledgeRings" "orders" "LPledgeRings$Orders;" ∈ GW := tm1 (List.mem_of_getElem? (i := 211) rfl) rfl
theorem wY_X5_saved : Cond.laysFinal RX5 "PledgeRings" "saved" "[LPledgeRings$Book;" ∈ GW := tm1 (List.mem_of_getElem? (i := 213) rfl) rfl
theorem wY_X5_savedCount : Cond.lays RX5 "PledgeRings" "savedCount" "I" ∈ GW := tm1 (List.mem_of_getElem? (i := 215) rfl) rfl
theorem wL_L_107 : Cond.methodLink RL 107 yX5_dischargeAll ∈ GW := tm1 (List.mem_of_getElem? (i := 218) rfl) rfl
theorem wI_X5_dischargeAll : Cond.instanceMethod yX5_dischargeAll ∈ GW := tm1 (List.mem_of_getElem? (i := 219) rfl) rfl
theorem wSe_X5_X5_dischargeAll : Cond.selects RX5 yX5_dischargeAll yX5_dischargeAll ∈ GW := tm1 (List.mem_of_getElem? (i := 220) rfl) rfl
theorem wC_X5_dischargeAll : Cond.code yX5_dischargeAll cX5_dischargeAll 1 (some .int) ∈ GW := tm1 (List.mem_of_getElem? (i := 221) rfl) rfl
theorem wL_X5_51 : Cond.methodLink RX5 51 yX5_save ∈ GW := tm1 (List.mem_of_getElem? (i := 222) rfl) rfl
theorem wI_X5_save : Cond.instanceMethod yX5_save ∈ GW := tm1 (List.mem_of_getElem? (i := 224) rfl) rfl
theorem wC_X5_save : Cond.code yX5_save cX5_save 2 none ∈ GW := tm1 (List.mem_of_getElem? (i := 225) rfl) rfl
theorem wL_X5_283 : Cond.methodLink RX5 283 yX5_dropOldest ∈ GW := tm1 (List.mem_of_getElem? (i := 226) rfl) rfl
theorem wI_X5_dropOldest : Cond.instanceMethod yX5_dropOldest ∈ GW := tm1 (List.mem_of_getElem? (i := 228) rfl) rfl
theorem wC_X5_dropOldest : Cond.code yX5_dropOldest cX5_dropOldest 3 none ∈ GW := tm1 (List.mem_of_getElem? (i := 229) rfl) rfl
theorem wL_X5_216 : Cond.methodLink RX5 216 yX0_copyFrom ∈ GW := tm1 (List.mem_of_getElem? (i := 230) rfl) rfl
theorem wI_X0_copyFrom : Cond.instanceMethod yX0_copyFrom ∈ GW := tm1 (List.mem_of_getElem? (i := 231) rfl) rfl
theorem wSe_X0_X0_copyFrom : Cond.selects RX0 yX0_copyFrom yX0_copyFrom ∈ GW := tm1 (List.mem_of_getElem? (i := 232) rfl) rfl
theorem wC_X0_copyFrom : Cond.code yX0_copyFrom cX0_copyFrom 3 none ∈ GW := tm1 (List.mem_of_getElem? (i := 233) rfl) rfl
theorem wL_X0_53 : Cond.methodLink RX0 53 ⟨"java/lang/System", "arraycopy", "(Ljava/lang/Object;ILjava/lang/Object;II)V"⟩ ∈ GW := tm1 (List.mem_of_getElem? (i := 234) rfl) rfl
theorem wS_J10_arraycopy_Ljava_lang_Object_ILjava_lang_Object_II_V : Cond.static ⟨"java/lang/System", "arraycopy", "(Ljava/lang/Object;ILjava/lang/Object;II)V"⟩ ∈ GW := tm1 (List.mem_of_getElem? (i := 235) rfl) rfl
theorem wNa_J10_arraycopy_Ljava_lang_Object_ILjava_lang_Object_II_V : Cond.native ⟨"java/lang/System", "arraycopy", "(Ljava/lang/Object;ILjava/lang/Object;II)V"⟩ ∈ GW := tm1 (List.mem_of_getElem? (i := 236) rfl) rfl
theorem wL_X5_142 : Cond.methodLink RX5 142 yX4_releaseAll ∈ GW := tm1 (List.mem_of_getElem? (i := 237) rfl) rfl
theorem wI_X4_releaseAll : Cond.instanceMethod yX4_releaseAll ∈ GW := tm1 (List.mem_of_getElem? (i := 238) rfl) rfl
theorem wSe_X4_X4_releaseAll : Cond.selects RX4 yX4_releaseAll yX4_releaseAll ∈ GW := tm1 (List.mem_of_getElem? (i := 239) rfl) rfl
theorem wC_X4_releaseAll : Cond.code yX4_releaseAll cX4_releaseAll 4 (some .int) ∈ GW := tm2 (List.mem_of_getElem? (i := 0) rfl) rfl
theorem wL_X4_91 : Cond.methodLink RX4 91 yX4_find ∈ GW := tm2 (List.mem_of_getElem? (i := 1) rfl) rfl
theorem wI_X4_find : Cond.instanceMethod yX4_find ∈ GW := tm2 (List.mem_of_getElem? (i := 2) rfl) rfl
theorem wSe_X4_X4_find : Cond.selects RX4 yX4_find yX4_find ∈ GW := tm2 (List.mem_of_getElem? (i := 3) rfl) rfl
theorem wC_X4_find : Cond.code yX4_find cX4_find 3 none ∈ GW := tm2 (List.mem_of_getElem? (i := 4) rfl) rfl
theorem wL_X4_25 : Cond.methodLink RX4 25 yX1_read ∈ GW := tm2 (List.mem_of_getElem? (i := 5) rfl) rfl
theorem wI_X1_read : Cond.instanceMethod yX1_read ∈ GW := tm2 (List.mem_of_getElem? (i := 6) rfl) rfl
theorem wSe_X1_X1_read : Cond.selects RX1 yX1_read yX1_read ∈ GW := tm2 (List.mem_of_getElem? (i := 7) rfl) rfl
theorem wC_X1_read : Cond.code yX1_read cX1_read 4 none ∈ GW := tm2 (List.mem_of_getElem? (i := 8) rfl) rfl
theorem wL_X1_30 : Cond.methodLink RX1 30 yX0_isOwing ∈ GW := tm2 (List.mem_of_getElem? (i := 9) rfl) rfl
theorem wI_X0_isOwing : Cond.instanceMethod yX0_isOwing ∈ GW := tm2 (List.mem_of_getElem? (i := 10) rfl) rfl
theorem wSe_X0_X0_isOwing : Cond.selects RX0 yX0_isOwing yX0_isOwing ∈ GW := tm2 (List.mem_of_getElem? (i := 11) rfl) rfl
theorem wC_X0_isOwing : Cond.code yX0_isOwing cX0_isOwing 2 (some .boolean) ∈ GW := tm2 (List.mem_of_getElem? (i := 12) rfl) rfl
theorem wL_X1_34 : Cond.methodLink RX1 34 yX0_pairOf ∈ GW := tm2 (List.mem_of_getElem? (i := 13) rfl) rfl
theorem wI_X0_pairOf : Cond.instanceMethod yX0_pairOf ∈ GW := tm2 (List.mem_of_getElem? (i := 14) rfl) rfl
theorem wSe_X0_X0_pairOf : Cond.selects RX0 yX0_pairOf yX0_pairOf ∈ GW := tm2 (List.mem_of_getElem? (i := 15) rfl) rfl
theorem wC_X0_pairOf : Cond.code yX0_pairOf cX0_pairOf 2 (some .int) ∈ GW := tm2 (List.mem_of_getElem? (i := 16) rfl) rfl
theorem wL_X1_41 : Cond.methodLink RX1 41 yX1_putFirst ∈ GW := tm2 (List.mem_of_getElem? (i := 17) rfl) rfl
theorem wI_X1_putFirst : Cond.instanceMethod yX1_putFirst ∈ GW := tm2 (List.mem_of_getElem? (i := 19) rfl) rfl
theorem wC_X1_putFirst : Cond.code yX1_putFirst cX1_putFirst 4 none ∈ GW := tm2 (List.mem_of_getElem? (i := 20) rfl) rfl
theorem wLN_X1_45 : Cond.methodLinkNest RX1 45 yX5_isPair RX5 ∈ lw_tbl := tm20 (List.mem_of_getElem? (i := 21) rfl)
theorem wS_X5_isPair : Cond.static yX5_isPair ∈ GW := tm2 (List.mem_of_getElem? (i := 22) rfl) rfl
theorem wC_X5_isPair : Cond.code yX5_isPair cX5_isPair 1 (some .boolean) ∈ GW := tm2 (List.mem_of_getElem? (i := 23) rfl) rfl
theorem wLN_X1_48 : Cond.methodLinkNest RX1 48 yX5_isSlot RX5 ∈ lw_tbl := tm20 (List.mem_of_getElem? (i := 24) rfl)
theorem wS_X5_isSlot : Cond.static yX5_isSlot ∈ GW := tm2 (List.mem_of_getElem? (i := 25) rfl) rfl
theorem wC_X5_isSlot : Cond.code yX5_isSlot cX5_isSlot 1 (some .boolean) ∈ GW := tm2 (List.mem_of_getElem? (i := 26) rfl) rfl
theorem wN_X4_33 : Cond.constant RX4 33 2097151 ∈ GW := tm2 (List.mem_of_getElem? (i := 27) rfl) rfl
theorem wL_X4_34 : Cond.methodLink RX4 34 yX4_rowWith ∈ GW := tm2 (List.mem_of_getElem? (i := 28) rfl) rfl
theorem wS_X4_rowWith : Cond.static yX4_rowWith ∈ GW := tm2 (List.mem_of_getElem? (i := 29) rfl) rfl
theorem wC_X4_rowWith : Cond.code yX4_rowWith cX4_rowWith 4 (some .int) ∈ GW := tm2 (List.mem_of_getElem? (i := 30) rfl) rfl
theorem wL_X4_38 : Cond.methodLink RX4 38 yX4_extend ∈ GW := tm2 (List.mem_of_getElem? (i := 31) rfl) rfl
theorem wS_X4_extend : Cond.static yX4_extend ∈ GW := tm2 (List.mem_of_getElem? (i := 32) rfl) rfl
theorem wC_X4_extend : Cond.code yX4_extend cX4_extend 7 none ∈ GW := tm2 (List.mem_of_getElem? (i := 33) rfl) rfl
theorem wL_X4_42 : Cond.methodLink RX4 42 yX4_partyIn ∈ GW := tm2 (List.mem_of_getElem? (i := 34) rfl) rfl
theorem wS_X4_partyIn : Cond.static yX4_partyIn ∈ GW := tm2 (List.mem_of_getElem? (i := 35) rfl) rfl
theorem wC_X4_partyIn : Cond.code yX4_partyIn cX4_partyIn 3 (some .int) ∈ GW := tm2 (List.mem_of_getElem? (i := 36) rfl) rfl
theorem wL_X4_46 : Cond.methodLink RX4 46 yX1_sumOf ∈ GW := tm2 (List.mem_of_getElem? (i := 37) rfl) rfl
theorem wI_X1_sumOf : Cond.instanceMethod yX1_sumOf ∈ GW := tm2 (List.mem_of_getElem? (i := 38) rfl) rfl
theorem wSe_X1_X1_sumOf : Cond.selects RX1 yX1_sumOf yX1_sumOf ∈ GW := tm2 (List.mem_of_getElem? (i := 39) rfl) rfl
theorem wC_X1_sumOf : Cond.code yX1_sumOf cX1_sumOf 2 (some .int) ∈ GW := tm2 (List.mem_of_getElem? (i := 40) rfl) rfl
theorem wL_X4_50 : Cond.methodLink RX4 50 yX4_addRow ∈ GW := tm2 (List.mem_of_getElem? (i := 41) rfl) rfl
theorem wI_X4_addRow : Cond.instanceMethod yX4_addRow ∈ GW := tm2 (List.mem_of_getElem? (i := 43) rfl) rfl
theorem wC_X4_addRow : Cond.code yX4_addRow cX4_addRow 2 none ∈ GW := tm2 (List.mem_of_getElem? (i := 44) rfl) rfl
theorem wL_X4_84 : Cond.methodLink RX4 84 yX4_best ∈ GW := tm2 (List.mem_of_getElem? (i := 45) rfl) rfl
theorem wI_X4_best : Cond.instanceMethod yX4_best ∈ GW := tm2 (List.mem_of_getElem? (i := 46) rfl) rfl
theorem wSe_X4_X4_best : Cond.selects RX4 yX4_best yX4_best ∈ GW := tm2 (List.mem_of_getElem? (i := 47) rfl) rfl
theorem wC_X4_best : Cond.code yX4_best cX4_best 6 (some .int) ∈ GW := tm2 (List.mem_of_getElem? (i := 48) rfl) rfl
theorem wL_X4_69 : Cond.methodLink RX4 69 yX4_roomAt ∈ GW := tm2 (List.mem_of_getElem? (i := 49) rfl) rfl
theorem wI_X4_roomAt : Cond.instanceMethod yX4_roomAt ∈ GW := tm2 (List.mem_of_getElem? (i := 50) rfl) rfl
theorem wSe_X4_X4_roomAt : Cond.selects RX4 yX4_roomAt yX4_roomAt ∈ GW := tm2 (List.mem_of_getElem? (i := 51) rfl) rfl
theorem wC_X4_roomAt : Cond.code yX4_roomAt cX4_roomAt 6 (some .int) ∈ GW := tm2 (List.mem_of_getElem? (i := 52) rfl) rfl
theorem wL_X4_54 : Cond.methodLink RX4 54 yX4_rowAt ∈ GW := tm2 (List.mem_of_getElem? (i := 53) rfl) rfl
theorem wI_X4_rowAt : Cond.instanceMethod yX4_rowAt ∈ GW := tm2 (List.mem_of_getElem? (i := 55) rfl) rfl
theorem wC_X4_rowAt : Cond.code yX4_rowAt cX4_rowAt 2 (some .int) ∈ GW := tm2 (List.mem_of_getElem? (i := 56) rfl) rfl
theorem wL_X4_57 : Cond.methodLink RX4 57 yX4_pairIn ∈ GW := tm2 (List.mem_of_getElem? (i := 57) rfl) rfl
theorem wS_X4_pairIn : Cond.static yX4_pairIn ∈ GW := tm2 (List.mem_of_getElem? (i := 58) rfl) rfl
theorem wC_X4_pairIn : Cond.code yX4_pairIn cX4_pairIn 4 (some .int) ∈ GW := tm2 (List.mem_of_getElem? (i := 59) rfl) rfl
theorem wL_X4_60 : Cond.methodLink RX4 60 yJ9_min_7cf53 ∈ GW := tm2 (List.mem_of_getElem? (i := 60) rfl) rfl
theorem wS_J9_min_7cf53 : Cond.static yJ9_min_7cf53 ∈ GW := tm2 (List.mem_of_getElem? (i := 61) rfl) rfl
theorem wC_J9_min_7cf53 : Cond.code yJ9_min_7cf53 cJ9_min_7cf53 2 (some .int) ∈ GW := tm2 (List.mem_of_getElem? (i := 62) rfl) rfl
theorem wL_X4_72 : Cond.methodLink RX4 72 yX4_savingAt ∈ GW := tm2 (List.mem_of_getElem? (i := 63) rfl) rfl
theorem wI_X4_savingAt : Cond.instanceMethod yX4_savingAt ∈ GW := tm2 (List.mem_of_getElem? (i := 64) rfl) rfl
theorem wSe_X4_X4_savingAt : Cond.selects RX4 yX4_savingAt yX4_savingAt ∈ GW := tm2 (List.mem_of_getElem? (i := 65) rfl) rfl
theorem wC_X4_savingAt : Cond.code yX4_savingAt cX4_savingAt 7 (some .int) ∈ GW := tm2 (List.mem_of_getElem? (i := 66) rfl) rfl
theorem wL_X4_65 : Cond.methodLink RX4 65 yX1_costOfPart ∈ GW := tm2 (List.mem_of_getElem? (i := 67) rfl) rfl
theorem wI_X1_costOfPart : Cond.instanceMethod yX1_costOfPart ∈ GW := tm2 (List.mem_of_getElem? (i := 68) rfl) rfl
theorem wSe_X1_X1_costOfPart : Cond.selects RX1 yX1_costOfPart yX1_costOfPart ∈ GW := tm2 (List.mem_of_getElem? (i := 69) rfl) rfl
theorem wC_X1_costOfPart : Cond.code yX1_costOfPart cX1_costOfPart 9 (some .int) ∈ GW := tm2 (List.mem_of_getElem? (i := 70) rfl) rfl
theorem wL_X1_51 : Cond.methodLink RX1 51 yJ9_min_7cf53 ∈ GW := tm2 (List.mem_of_getElem? (i := 71) rfl) rfl
theorem wL_X4_88 : Cond.methodLink RX4 88 yX4_releaseAround ∈ GW := tm2 (List.mem_of_getElem? (i := 72) rfl) rfl
theorem wI_X4_releaseAround : Cond.instanceMethod yX4_releaseAround ∈ GW := tm2 (List.mem_of_getElem? (i := 73) rfl) rfl
theorem wSe_X4_X4_releaseAround : Cond.selects RX4 yX4_releaseAround yX4_releaseAround ∈ GW := tm2 (List.mem_of_getElem? (i := 74) rfl) rfl
theorem wC_X4_releaseAround : Cond.code yX4_releaseAround cX4_releaseAround 7 (some .int) ∈ GW := tm2 (List.mem_of_getElem? (i := 75) rfl) rfl
theorem wL_X4_75 : Cond.methodLink RX4 75 yX1_releaseFrom ∈ GW := tm2 (List.mem_of_getElem? (i := 76) rfl) rfl
theorem wI_X1_releaseFrom : Cond.instanceMethod yX1_releaseFrom ∈ GW := tm2 (List.mem_of_getElem? (i := 77) rfl) rfl
theorem wSe_X1_X1_releaseFrom : Cond.selects RX1 yX1_releaseFrom yX1_releaseFrom ∈ GW := tm2 (List.mem_of_getElem? (i := 78) rfl) rfl
theorem wC_X1_releaseFrom : Cond.code yX1_releaseFrom cX1_releaseFrom 8 none ∈ GW := tm2 (List.mem_of_getElem? (i := 79) rfl) rfl
theorem wL_X1_57 : Cond.methodLink RX1 57 yX0_releasePart ∈ GW := tm2 (List.mem_of_getElem? (i := 80) rfl) rfl
theorem wI_X0_releasePart : Cond.instanceMethod yX0_releasePart ∈ GW := tm2 (List.mem_of_getElem? (i := 81) rfl) rfl
theorem wSe_X0_X0_releasePart : Cond.selects RX0 yX0_releasePart yX0_releasePart ∈ GW := tm2 (List.mem_of_getElem? (i := 82) rfl) rfl
theorem wC_X0_releasePart : Cond.code yX0_releasePart cX0_releasePart 3 none ∈ GW := tm2 (List.mem_of_getElem? (i := 83) rfl) rfl
theorem wL_X0_63 : Cond.methodLink RX0 63 yX0_holds ∈ GW := tm2 (List.mem_of_getElem? (i := 84) rfl) rfl
theorem wI_X0_holds : Cond.instanceMethod yX0_holds ∈ GW := tm2 (List.mem_of_getElem? (i := 85) rfl) rfl
theorem wSe_X0_X0_holds : Cond.selects RX0 yX0_holds yX0_holds ∈ GW := tm2 (List.mem_of_getElem? (i := 86) rfl) rfl
theorem wC_X0_holds : Cond.code yX0_holds cX0_holds 2 (some .boolean) ∈ GW := tm2 (List.mem_of_getElem? (i := 87) rfl) rfl
theorem wL_L_132 : Cond.methodLink RL 132 yX5_bestRing ∈ GW := tm2 (List.mem_of_getElem? (i := 88) rfl) rfl
theorem wI_X5_bestRing : Cond.instanceMethod yX5_bestRing ∈ GW := tm2 (List.mem_of_getElem? (i := 89) rfl) rfl
theorem wSe_X5_X5_bestRing : Cond.selects RX5 yX5_bestRing yX5_bestRing ∈ GW := tm2 (List.mem_of_getElem? (i := 90) rfl) rfl
theorem wC_X5_bestRing : Cond.code yX5_bestRing cX5_bestRing 1 (some .int) ∈ GW := tm2 (List.mem_of_getElem? (i := 91) rfl) rfl
theorem wL_X5_209 : Cond.methodLink RX5 209 yX4_find ∈ GW := tm2 (List.mem_of_getElem? (i := 92) rfl) rfl
theorem wL_X5_213 : Cond.methodLink RX5 213 yX4_best ∈ GW := tm2 (List.mem_of_getElem? (i := 93) rfl) rfl
theorem wL_L_136 : Cond.methodLink RL 136 yX5_costByRings ∈ GW := tm2 (List.mem_of_getElem? (i := 94) rfl) rfl
theorem wI_X5_costByRings : Cond.instanceMethod yX5_costByRings ∈ GW := tm2 (List.mem_of_getElem? (i := 95) rfl) rfl
theorem wSe_X5_X5_costByRings : Cond.selects RX5 yX5_costByRings yX5_costByRings ∈ GW := tm2 (List.mem_of_getElem? (i := 96) rfl) rfl
theorem wC_X5_costByRings : Cond.code yX5_costByRings cX5_costByRings 1 (some .int) ∈ GW := tm2 (List.mem_of_getElem? (i := 97) rfl) rfl
theorem wL_X5_189 : Cond.methodLink RX5 189 yX0_costOfAll ∈ GW := tm2 (List.mem_of_getElem? (i := 98) rfl) rfl
theorem wI_X0_costOfAll : Cond.instanceMethod yX0_costOfAll ∈ GW := tm2 (List.mem_of_getElem? (i := 99) rfl) rfl
theorem wSe_X0_X0_costOfAll : Cond.selects RX0 yX0_costOfAll yX0_costOfAll ∈ GW := tm2 (List.mem_of_getElem? (i := 100) rfl) rfl
theorem wC_X0_costOfAll : Cond.code yX0_costOfAll cX0_costOfAll 3 (some .int) ∈ GW := tm2 (List.mem_of_getElem? (i := 101) rfl) rfl
theorem wL_X0_79 : Cond.methodLink RX0 79 yX0_costOf ∈ GW := tm2 (List.mem_of_getElem? (i := 102) rfl) rfl
theorem wI_X0_costOf : Cond.instanceMethod yX0_costOf ∈ GW := tm2 (List.mem_of_getElem? (i := 103) rfl) rfl
theorem wSe_X0_X0_costOf : Cond.selects RX0 yX0_costOf yX0_costOf ∈ GW := tm2 (List.mem_of_getElem? (i := 104) rfl) rfl
theorem wC_X0_costOf : Cond.code yX0_costOf cX0_costOf 2 (some .int) ∈ GW := tm2 (List.mem_of_getElem? (i := 105) rfl) rfl
theorem wL_L_140 : Cond.methodLink RL 140 yX5_leastCost ∈ GW := tm2 (List.mem_of_getElem? (i := 106) rfl) rfl
theorem wI_X5_leastCost : Cond.instanceMethod yX5_leastCost ∈ GW := tm2 (List.mem_of_getElem? (i := 107) rfl) rfl
theorem wSe_X5_X5_leastCost : Cond.selects RX5 yX5_leastCost yX5_leastCost ∈ GW := tm2 (List.mem_of_getElem? (i := 108) rfl) rfl
theorem wC_X5_leastCost : Cond.code yX5_leastCost cX5_leastCost 1 (some .int) ∈ GW := tm2 (List.mem_of_getElem? (i := 109) rfl) rfl
theorem wL_X5_219 : Cond.methodLink RX5 219 yX3_leastCostOf ∈ GW := tm2 (List.mem_of_getElem? (i := 110) rfl) rfl
theorem wI_X3_leastCostOf : Cond.instanceMethod yX3_leastCostOf ∈ GW := tm2 (List.mem_of_getElem? (i := 111) rfl) rfl
theorem wSe_X3_X3_leastCostOf : Cond.selects RX3 yX3_leastCostOf yX3_leastCostOf ∈ GW := tm2 (List.mem_of_getElem? (i := 112) rfl) rfl
theorem wC_X3_leastCostOf : Cond.code yX3_leastCostOf cX3_leastCostOf 4 (some .int) ∈ GW := tm2 (List.mem_of_getElem? (i := 113) rfl) rfl
theorem wL_X3_24 : Cond.methodLink RX3 24 yX3_start ∈ GW := tm2 (List.mem_of_getElem? (i := 114) rfl) rfl
theorem wI_X3_start : Cond.instanceMethod yX3_start ∈ GW := tm2 (List.mem_of_getElem? (i := 116) rfl) rfl
theorem wC_X3_start : Cond.code yX3_start cX3_start 3 none ∈ GW := tm2 (List.mem_of_getElem? (i := 117) rfl) rfl
theorem wL_X3_50 : Cond.methodLink RX3 50 yX0_isOwing ∈ GW := tm2 (List.mem_of_getElem? (i := 118) rfl) rfl
theorem wL_X3_60 : Cond.methodLink RX3 60 yX3_addExcess ∈ GW := tm2 (List.mem_of_getElem? (i := 119) rfl) rfl
theorem wI_X3_addExcess : Cond.instanceMethod yX3_addExcess ∈ GW := tm2 (List.mem_of_getElem? (i := 121) rfl) rfl
theorem wC_X3_addExcess : Cond.code yX3_addExcess cX3_addExcess 3 none ∈ GW := tm2 (List.mem_of_getElem? (i := 122) rfl) rfl
theorem wLN_X3_67 : Cond.methodLinkNest RX3 67 yX5_isParty RX5 ∈ lw_tbl := tm20 (List.mem_of_getElem? (i := 123) rfl)
theorem wS_X5_isParty : Cond.static yX5_isParty ∈ GW := tm2 (List.mem_of_getElem? (i := 124) rfl) rfl
theorem wC_X5_isParty : Cond.code yX5_isParty cX5_isParty 1 (some .boolean) ∈ GW := tm2 (List.mem_of_getElem? (i := 125) rfl) rfl
theorem wL_X3_28 : Cond.methodLink RX3 28 yX3_measure ∈ GW := tm2 (List.mem_of_getElem? (i := 126) rfl) rfl
theorem wI_X3_measure : Cond.instanceMethod yX3_measure ∈ GW := tm2 (List.mem_of_getElem? (i := 128) rfl) rfl
theorem wC_X3_measure : Cond.code yX3_measure cX3_measure 5 none ∈ GW := tm2 (List.mem_of_getElem? (i := 129) rfl) rfl
theorem wN_X3_70 : Cond.constant RX3 70 1000000 ∈ GW := tm2 (List.mem_of_getElem? (i := 130) rfl) rfl
theorem wL_X3_71 : Cond.methodLink RX3 71 yX3_shorten ∈ GW := tm2 (List.mem_of_getElem? (i := 131) rfl) rfl
theorem wI_X3_shorten : Cond.instanceMethod yX3_shorten ∈ GW := tm2 (List.mem_of_getElem? (i := 133) rfl) rfl
theorem wC_X3_shorten : Cond.code yX3_shorten cX3_shorten 4 (some .boolean) ∈ GW := tm2 (List.mem_of_getElem? (i := 134) rfl) rfl
theorem wL_X3_78 : Cond.methodLink RX3 78 yX3_reach ∈ GW := tm2 (List.mem_of_getElem? (i := 135) rfl) rfl
theorem wI_X3_reach : Cond.instanceMethod yX3_reach ∈ GW := tm2 (List.mem_of_getElem? (i := 137) rfl) rfl
theorem wC_X3_reach : Cond.code yX3_reach cX3_reach 5 (some .boolean) ∈ GW := tm2 (List.mem_of_getElem? (i := 138) rfl) rfl
theorem wL_X3_31 : Cond.methodLink RX3 31 yX3_nearestEnd ∈ GW := tm2 (List.mem_of_getElem? (i := 139) rfl) rfl
theorem wI_X3_nearestEnd : Cond.instanceMethod yX3_nearestEnd ∈ GW := tm2 (List.mem_of_getElem? (i := 141) rfl) rfl
theorem wC_X3_nearestEnd : Cond.code yX3_nearestEnd cX3_nearestEnd 4 (some .int) ∈ GW := tm2 (List.mem_of_getElem? (i := 142) rfl) rfl
theorem wN_X3_35 : Cond.constant RX3 35 40000 ∈ GW := tm2 (List.mem_of_getElem? (i := 143) rfl) rfl
theorem wL_X3_36 : Cond.methodLink RX3 36 yX3_push ∈ GW := tm2 (List.mem_of_getElem? (i := 144) rfl) rfl
theorem wI_X3_push : Cond.instanceMethod yX3_push ∈ GW := tm2 (List.mem_of_getElem? (i := 146) rfl) rfl
theorem wC_X3_push : Cond.code yX3_push cX3_push 8 none ∈ GW := tm2 (List.mem_of_getElem? (i := 147) rfl) rfl
theorem wL_X3_82 : Cond.methodLink RX3 82 yX3_originOf ∈ GW := tm2 (List.mem_of_getElem? (i := 148) rfl) rfl
theorem wI_X3_originOf : Cond.instanceMethod yX3_originOf ∈ GW := tm2 (List.mem_of_getElem? (i := 150) rfl) rfl
theorem wC_X3_originOf : Cond.code yX3_originOf cX3_originOf 5 (some .int) ∈ GW := tm2 (List.mem_of_getElem? (i := 151) rfl) rfl
theorem wL_X3_95 : Cond.methodLink RX3 95 yX3_promiseTo ∈ GW := tm2 (List.mem_of_getElem? (i := 152) rfl) rfl
theorem wI_X3_promiseTo : Cond.instanceMethod yX3_promiseTo ∈ GW := tm2 (List.mem_of_getElem? (i := 154) rfl) rfl
theorem wC_X3_promiseTo : Cond.code yX3_promiseTo cX3_promiseTo 3 (some .int) ∈ GW := tm2 (List.mem_of_getElem? (i := 155) rfl) rfl
theorem wLN_X3_102 : Cond.methodLinkNest RX3 102 yX5_isSlot RX5 ∈ lw_tbl := tm20 (List.mem_of_getElem? (i := 156) rfl)
theorem wL_X3_99 : Cond.methodLink RX3 99 yX3_before ∈ GW := tm2 (List.mem_of_getElem? (i := 157) rfl) rfl
theorem wI_X3_before : Cond.instanceMethod yX3_before ∈ GW := tm2 (List.mem_of_getElem? (i := 159) rfl) rfl
theorem wC_X3_before : Cond.code yX3_before cX3_before 4 (some .int) ∈ GW := tm2 (List.mem_of_getElem? (i := 160) rfl) rfl
theorem wL_X3_86 : Cond.methodLink RX3 86 yX3_widthTo ∈ GW := tm2 (List.mem_of_getElem? (i := 161) rfl) rfl
theorem wI_X3_widthTo : Cond.instanceMethod yX3_widthTo ∈ GW := tm2 (List.mem_of_getElem? (i := 163) rfl) rfl
theorem wC_X3_widthTo : Cond.code yX3_widthTo cX3_widthTo 8 (some .int) ∈ GW := tm2 (List.mem_of_getElem? (i := 164) rfl) rfl
theorem wL_X3_89 : Cond.methodLink RX3 89 yJ9_min_7cf53 ∈ GW := tm2 (List.mem_of_getElem? (i := 165) rfl) rfl
theorem wL_X3_40 : Cond.methodLink RX3 40 yX3_costThatStays ∈ GW := tm2 (List.mem_of_getElem? (i := 166) rfl) rfl
theorem wI_X3_costThatStays : Cond.instanceMethod yX3_costThatStays ∈ GW := tm2 (List.mem_of_getElem? (i := 168) rfl) rfl
theorem wC_X3_costThatStays : Cond.code yX3_costThatStays cX3_costThatStays 4 (some .int) ∈ GW := tm2 (List.mem_of_getElem? (i := 169) rfl) rfl
theorem wL_X3_109 : Cond.methodLink RX3 109 yX0_costOf ∈ GW := tm2 (List.mem_of_getElem? (i := 170) rfl) rfl
theorem wL_L_147 : Cond.methodLink RL 147 yX5_keyPromise ∈ GW := tm2 (List.mem_of_getElem? (i := 171) rfl) rfl
theorem wI_X5_keyPromise : Cond.instanceMethod yX5_keyPromise ∈ GW := tm2 (List.mem_of_getElem? (i := 172) rfl) rfl
theorem wSe_X5_X5_keyPromise : Cond.selects RX5 yX5_keyPromise yX5_keyPromise ∈ GW := tm2 (List.mem_of_getElem? (i := 173) rfl) rfl
theorem wC_X5_keyPromise : Cond.code yX5_keyPromise cX5_keyPromise 5 (some .int) ∈ GW := tm2 (List.mem_of_getElem? (i := 174) rfl) rfl
theorem wL_X5_222 : Cond.methodLink RX5 222 yX4_countThrough ∈ GW := tm2 (List.mem_of_getElem? (i := 175) rfl) rfl
theorem wI_X4_countThrough : Cond.instanceMethod yX4_countThrough ∈ GW := tm2 (List.mem_of_getElem? (i := 176) rfl) rfl
theorem wSe_X4_X4_countThrough : Cond.selects RX4 yX4_countThrough yX4_countThrough ∈ GW := tm2 (List.mem_of_getElem? (i := 177) rfl) rfl
theorem wC_X4_countThrough : Cond.code yX4_countThrough cX4_countThrough 5 none ∈ GW := tm2 (List.mem_of_getElem? (i := 178) rfl) rfl
theorem wLN_X4_94 : Cond.methodLinkNest RX4 94 yX5_isPair RX5 ∈ lw_tbl := tm20 (List.mem_of_getElem? (i := 179) rfl)
theorem wL_X5_229 : Cond.methodLink RX5 229 yX0_isOwing ∈ GW := tm2 (List.mem_of_getElem? (i := 180) rfl) rfl
theorem wL_X5_225 : Cond.methodLink RX5 225 yX4_sizeWithout ∈ GW := tm2 (List.mem_of_getElem? (i := 181) rfl) rfl
theorem wI_X4_sizeWithout : Cond.instanceMethod yX4_sizeWithout ∈ GW := tm2 (List.mem_of_getElem? (i := 182) rfl) rfl
theorem wSe_X4_X4_sizeWithout : Cond.selects RX4 yX4_sizeWithout yX4_sizeWithout ∈ GW := tm2 (List.mem_of_getElem? (i := 183) rfl) rfl
theorem wC_X4_sizeWithout : Cond.code yX4_sizeWithout cX4_sizeWithout 5 (some .int) ∈ GW := tm2 (List.mem_of_getElem? (i := 184) rfl) rfl
theorem wL_X4_98 : Cond.methodLink RX4 98 yX0_holds ∈ GW := tm2 (List.mem_of_getElem? (i := 185) rfl) rfl
theorem wL_X4_101 : Cond.methodLink RX4 101 yX0_isOwing ∈ GW := tm2 (List.mem_of_getElem? (i := 186) rfl) rfl
theorem wL_X4_104 : Cond.methodLink RX4 104 yX0_pairOf ∈ GW := tm2 (List.mem_of_getElem? (i := 187) rfl) rfl
theorem wL_L_157 : Cond.methodLink RL 157 yX5_clearText ∈ GW := tm2 (List.mem_of_getElem? (i := 188) rfl) rfl
theorem wI_X5_clearText : Cond.instanceMethod yX5_clearText ∈ GW := tm2 (List.mem_of_getElem? (i := 189) rfl) rfl
theorem wSe_X5_X5_clearText : Cond.selects RX5 yX5_clearText yX5_clearText ∈ GW := tm2 (List.mem_of_getElem? (i := 190) rfl) rfl
theorem wC_X5_clearText : Cond.code yX5_clearText cX5_clearText 2 (some .int) ∈ GW := tm2 (List.mem_of_getElem? (i := 191) rfl) rfl
theorem wL_X5_247 : Cond.methodLink RX5 247 yX2_clear ∈ GW := tm2 (List.mem_of_getElem? (i := 192) rfl) rfl
theorem wI_X2_clear : Cond.instanceMethod yX2_clear ∈ GW := tm2 (List.mem_of_getElem? (i := 193) rfl) rfl
theorem wSe_X2_X2_clear : Cond.selects RX2 yX2_clear yX2_clear ∈ GW := tm2 (List.mem_of_getElem? (i := 194) rfl) rfl
theorem wC_X2_clear : Cond.code yX2_clear cX2_clear 1 none ∈ GW := tm2 (List.mem_of_getElem? (i := 195) rfl) rfl
theorem wL_L_161 : Cond.methodLink RL 161 yX5_carryOut ∈ GW := tm2 (List.mem_of_getElem? (i := 196) rfl) rfl
theorem wI_X5_carryOut : Cond.instanceMethod yX5_carryOut ∈ GW := tm2 (List.mem_of_getElem? (i := 197) rfl) rfl
theorem wSe_X5_X5_carryOut : Cond.selects RX5 yX5_carryOut yX5_carryOut ∈ GW := tm2 (List.mem_of_getElem? (i := 198) rfl) rfl
theorem wC_X5_carryOut : Cond.code yX5_carryOut cX5_carryOut 3 (some .int) ∈ GW := tm2 (List.mem_of_getElem? (i := 199) rfl) rfl
theorem wL_X5_250 : Cond.methodLink RX5 250 yX2_syntaxError ∈ GW := tm2 (List.mem_of_getElem? (i := 200) rfl) rfl
theorem wI_X2_syntaxError : Cond.instanceMethod yX2_syntaxError ∈ GW := tm2 (List.mem_of_getElem? (i := 201) rfl) rfl
theorem wSe_X2_X2_syntaxError : Cond.selects RX2 yX2_syntaxError yX2_syntaxError ∈ GW := tm2 (List.mem_of_getElem? (i := 202) rfl) rfl
theorem wC_X2_syntaxError : Cond.code yX2_syntaxError cX2_syntaxError 2 (some .int) ∈ GW := tm2 (List.mem_of_getElem? (i := 203) rfl) rfl
theorem wL_X2_25 : Cond.methodLink RX2 25 yX2_rewind ∈ GW := tm2 (List.mem_of_getElem? (i := 204) rfl) rfl
theorem wI_X2_rewind : Cond.instanceMethod yX2_rewind ∈ GW := tm2 (List.mem_of_getElem? (i := 205) rfl) rfl
theorem wSe_X2_X2_rewind : Cond.selects RX2 yX2_rewind yX2_rewind ∈ GW := tm2 (List.mem_of_getElem? (i := 206) rfl) rfl
theorem wC_X2_rewind : Cond.code yX2_rewind cX2_rewind 1 none ∈ GW := tm2 (List.mem_of_getElem? (i := 207) rfl) rfl
theorem wL_X2_28 : Cond.methodLink RX2 28 yX2_readNext ∈ GW := tm2 (List.mem_of_getElem? (i := 208) rfl) rfl
theorem wI_X2_readNext : Cond.instanceMethod yX2_readNext ∈ GW := tm2 (List.mem_of_getElem? (i := 209) rfl) rfl
theorem wSe_X2_X2_readNext : Cond.selects RX2 yX2_readNext yX2_readNext ∈ GW := tm2 (List.mem_of_getElem? (i := 210) rfl) rfl
theorem wC_X2_readNext : Cond.code yX2_readNext cX2_readNext 1 (some .boolean) ∈ GW := tm2 (List.mem_of_getElem? (i := 211) rfl) rfl
theorem wL_X2_32 : Cond.methodLink RX2 32 yX2_peek ∈ GW := tm2 (List.mem_of_getElem? (i := 212) rfl) rfl
theorem wI_X2_peek : Cond.instanceMethod yX2_peek ∈ GW := tm2 (List.mem_of_getElem? (i := 214) rfl) rfl
theorem wC_X2_peek : Cond.code yX2_peek cX2_peek 1 (some .int) ∈ GW := tm2 (List.mem_of_getElem? (i := 215) rfl) rfl
theorem wL_X2_39 : Cond.methodLink RX2 39 yX2_readPromise ∈ GW := tm2 (List.mem_of_getElem? (i := 216) rfl) rfl
theorem wI_X2_readPromise : Cond.instanceMethod yX2_readPromise ∈ GW := tm2 (List.mem_of_getElem? (i := 218) rfl) rfl
theorem wC_X2_readPromise : Cond.code yX2_readPromise cX2_readPromise 1 (some .boolean) ∈ GW := tm2 (List.mem_of_getElem? (i := 219) rfl) rfl
theorem wL_X2_56 : Cond.methodLink RX2 56 yX2_readDigit ∈ GW := tm2 (List.mem_of_getElem? (i := 220) rfl) rfl
theorem wI_X2_readDigit : Cond.instanceMethod yX2_readDigit ∈ GW := tm2 (List.mem_of_getElem? (i := 222) rfl) rfl
theorem wC_X2_readDigit : Cond.code yX2_readDigit cX2_readDigit 4 (some .int) ∈ GW := tm2 (List.mem_of_getElem? (i := 223) rfl) rfl
theorem wL_X2_53 : Cond.methodLink RX2 53 yX2_fail ∈ GW := tm2 (List.mem_of_getElem? (i := 224) rfl) rfl
theorem wI_X2_fail : Cond.instanceMethod yX2_fail ∈ GW := tm2 (List.mem_of_getElem? (i := 226) rfl) rfl
theorem wC_X2_fail : Cond.code yX2_fail cX2_fail 2 (some .boolean) ∈ GW := tm2 (List.mem_of_getElem? (i := 227) rfl) rfl
theorem wL_X2_49 : Cond.methodLink RX2 49 yX2_readSign ∈ GW := tm2 (List.mem_of_getElem? (i := 228) rfl) rfl
theorem wI_X2_readSign : Cond.instanceMethod yX2_readSign ∈ GW := tm2 (List.mem_of_getElem? (i := 230) rfl) rfl
theorem wC_X2_readSign : Cond.code yX2_readSign cX2_readSign 2 (some .boolean) ∈ GW := tm2 (List.mem_of_getElem? (i := 231) rfl) rfl
theorem wL_X2_42 : Cond.methodLink RX2 42 yX2_readNumber ∈ GW := tm2 (List.mem_of_getElem? (i := 232) rfl) rfl
theorem wI_X2_readNumber : Cond.instanceMethod yX2_readNumber ∈ GW := tm2 (List.mem_of_getElem? (i := 234) rfl) rfl
theorem wC_X2_readNumber : Cond.code yX2_readNumber cX2_readNumber 7 (some .int) ∈ GW := tm2 (List.mem_of_getElem? (i := 235) rfl) rfl
theorem wL_X2_72 : Cond.methodLink RX2 72 yX2_isDigit ∈ GW := tm2 (List.mem_of_getElem? (i := 236) rfl) rfl
theorem wS_X2_isDigit : Cond.static yX2_isDigit ∈ GW := tm2 (List.mem_of_getElem? (i := 237) rfl) rfl
theorem wC_X2_isDigit : Cond.code yX2_isDigit cX2_isDigit 1 (some .boolean) ∈ GW := tm2 (List.mem_of_getElem? (i := 238) rfl) rfl
theorem wL_X5_253 : Cond.methodLink RX5 253 yX2_rewind ∈ GW := tm2 (List.mem_of_getElem? (i := 239) rfl) rfl
theorem wL_X5_256 : Cond.methodLink RX5 256 yX2_readNext ∈ GW := tm3 (List.mem_of_getElem? (i := 0) rfl) rfl
theorem wL_X5_259 : Cond.methodLink RX5 259 yX5_carryOutOrder ∈ GW := tm3 (List.mem_of_getElem? (i := 1) rfl) rfl
theorem wI_X5_carryOutOrder : Cond.instanceMethod yX5_carryOutOrder ∈ GW := tm3 (List.mem_of_getElem? (i := 3) rfl) rfl
theorem wC_X5_carryOutOrder : Cond.code yX5_carryOutOrder cX5_carryOutOrder 1 (some .boolean) ∈ GW := tm3 (List.mem_of_getElem? (i := 4) rfl) rfl
theorem wL_X5_289 : Cond.methodLink RX5 289 yX5_makeOrdered ∈ GW := tm3 (List.mem_of_getElem? (i := 5) rfl) rfl
theorem wI_X5_makeOrdered : Cond.instanceMethod yX5_makeOrdered ∈ GW := tm3 (List.mem_of_getElem? (i := 7) rfl) rfl
theorem wC_X5_makeOrdered : Cond.code yX5_makeOrdered cX5_makeOrdered 1 (some .boolean) ∈ GW := tm3 (List.mem_of_getElem? (i := 8) rfl) rfl
theorem wL_X5_62 : Cond.methodLink RX5 62 yX0_hasParty ∈ GW := tm3 (List.mem_of_getElem? (i := 9) rfl) rfl
theorem wI_X0_hasParty : Cond.instanceMethod yX0_hasParty ∈ GW := tm3 (List.mem_of_getElem? (i := 10) rfl) rfl
theorem wSe_X0_X0_hasParty : Cond.selects RX0 yX0_hasParty yX0_hasParty ∈ GW := tm3 (List.mem_of_getElem? (i := 11) rfl) rfl
theorem wC_X0_hasParty : Cond.code yX0_hasParty cX0_hasParty 2 (some .boolean) ∈ GW := tm3 (List.mem_of_getElem? (i := 12) rfl) rfl
theorem wL_X5_77 : Cond.methodLink RX5 77 yX0_isFull ∈ GW := tm3 (List.mem_of_getElem? (i := 13) rfl) rfl
theorem wI_X0_isFull : Cond.instanceMethod yX0_isFull ∈ GW := tm3 (List.mem_of_getElem? (i := 14) rfl) rfl
theorem wSe_X0_X0_isFull : Cond.selects RX0 yX0_isFull yX0_isFull ∈ GW := tm3 (List.mem_of_getElem? (i := 15) rfl) rfl
theorem wC_X0_isFull : Cond.code yX0_isFull cX0_isFull 1 (some .boolean) ∈ GW := tm3 (List.mem_of_getElem? (i := 16) rfl) rfl
theorem wL_X5_71 : Cond.methodLink RX5 71 yX5_canBePromised ∈ GW := tm3 (List.mem_of_getElem? (i := 17) rfl) rfl
theorem wS_X5_canBePromised : Cond.static yX5_canBePromised ∈ GW := tm3 (List.mem_of_getElem? (i := 18) rfl) rfl
theorem wC_X5_canBePromised : Cond.code yX5_canBePromised cX5_canBePromised 4 (some .boolean) ∈ GW := tm3 (List.mem_of_getElem? (i := 19) rfl) rfl
theorem wL_X5_86 : Cond.methodLink RX5 86 yX0_add ∈ GW := tm3 (List.mem_of_getElem? (i := 20) rfl) rfl
theorem wI_X0_add : Cond.instanceMethod yX0_add ∈ GW := tm3 (List.mem_of_getElem? (i := 21) rfl) rfl
theorem wSe_X0_X0_add : Cond.selects RX0 yX0_add yX0_add ∈ GW := tm3 (List.mem_of_getElem? (i := 22) rfl) rfl
theorem wC_X0_add : Cond.code yX0_add cX0_add 6 (some .int) ∈ GW := tm3 (List.mem_of_getElem? (i := 23) rfl) rfl
theorem wLN_X0_59 : Cond.methodLinkNest RX0 59 yX5_isSlot RX5 ∈ lw_tbl := tm30 (List.mem_of_getElem? (i := 24) rfl)
theorem wL_X5_295 : Cond.methodLink RX5 295 yX5_disputeOrdered ∈ GW := tm3 (List.mem_of_getElem? (i := 25) rfl) rfl
theorem wI_X5_disputeOrdered : Cond.instanceMethod yX5_disputeOrdered ∈ GW := tm3 (List.mem_of_getElem? (i := 27) rfl) rfl
theorem wC_X5_disputeOrdered : Cond.code yX5_disputeOrdered cX5_disputeOrdered 2 (some .boolean) ∈ GW := tm3 (List.mem_of_getElem? (i := 28) rfl) rfl
theorem wL_X5_90 : Cond.methodLink RX5 90 yX0_holds ∈ GW := tm3 (List.mem_of_getElem? (i := 29) rfl) rfl
theorem wL_X5_107 : Cond.methodLink RX5 107 yX0_canBeDisputed ∈ GW := tm3 (List.mem_of_getElem? (i := 30) rfl) rfl
theorem wI_X0_canBeDisputed : Cond.instanceMethod yX0_canBeDisputed ∈ GW := tm3 (List.mem_of_getElem? (i := 31) rfl) rfl
theorem wSe_X0_X0_canBeDisputed : Cond.selects RX0 yX0_canBeDisputed yX0_canBeDisputed ∈ GW := tm3 (List.mem_of_getElem? (i := 32) rfl) rfl
theorem wC_X0_canBeDisputed : Cond.code yX0_canBeDisputed cX0_canBeDisputed 2 (some .boolean) ∈ GW := tm3 (List.mem_of_getElem? (i := 33) rfl) rfl
theorem wL_X0_66 : Cond.methodLink RX0 66 yX0_isOwing ∈ GW := tm3 (List.mem_of_getElem? (i := 34) rfl) rfl
theorem wL_X5_298 : Cond.methodLink RX5 298 yX5_settleOrdered ∈ GW := tm3 (List.mem_of_getElem? (i := 35) rfl) rfl
theorem wI_X5_settleOrdered : Cond.instanceMethod yX5_settleOrdered ∈ GW := tm3 (List.mem_of_getElem? (i := 37) rfl) rfl
theorem wC_X5_settleOrdered : Cond.code yX5_settleOrdered cX5_settleOrdered 2 (some .boolean) ∈ GW := tm3 (List.mem_of_getElem? (i := 38) rfl) rfl
theorem wL_X5_138 : Cond.methodLink RX5 138 yX4_releaseBest ∈ GW := tm3 (List.mem_of_getElem? (i := 39) rfl) rfl
theorem wI_X4_releaseBest : Cond.instanceMethod yX4_releaseBest ∈ GW := tm3 (List.mem_of_getElem? (i := 40) rfl) rfl
theorem wSe_X4_X4_releaseBest : Cond.selects RX4 yX4_releaseBest yX4_releaseBest ∈ GW := tm3 (List.mem_of_getElem? (i := 41) rfl) rfl
theorem wC_X4_releaseBest : Cond.code yX4_releaseBest cX4_releaseBest 3 (some .int) ∈ GW := tm3 (List.mem_of_getElem? (i := 42) rfl) rfl
theorem wL_L_168 : Cond.methodLink RL 168 yX5_digest ∈ GW := tm3 (List.mem_of_getElem? (i := 43) rfl) rfl
theorem wI_X5_digest : Cond.instanceMethod yX5_digest ∈ GW := tm3 (List.mem_of_getElem? (i := 44) rfl) rfl
theorem wSe_X5_X5_digest : Cond.selects RX5 yX5_digest yX5_digest ∈ GW := tm3 (List.mem_of_getElem? (i := 45) rfl) rfl
theorem wC_X5_digest : Cond.code yX5_digest cX5_digest 5 (some .long) ∈ GW := tm3 (List.mem_of_getElem? (i := 46) rfl) rfl
theorem wN_X5_267 : Cond.constantLong RX5 267 114731 ∈ GW := tm3 (List.mem_of_getElem? (i := 47) rfl) rfl
theorem wN_X5_269 : Cond.constantLong RX5 269 31 ∈ GW := tm3 (List.mem_of_getElem? (i := 48) rfl) rfl
theorem wL_X5_271 : Cond.methodLink RX5 271 yX5_value ∈ GW := tm3 (List.mem_of_getElem? (i := 49) rfl) rfl
theorem wI_X5_value : Cond.instanceMethod yX5_value ∈ GW := tm3 (List.mem_of_getElem? (i := 50) rfl) rfl
theorem wSe_X5_X5_value : Cond.selects RX5 yX5_value yX5_value ∈ GW := tm3 (List.mem_of_getElem? (i := 51) rfl) rfl
theorem wC_X5_value : Cond.code yX5_value cX5_value 2 (some .int) ∈ GW := tm3 (List.mem_of_getElem? (i := 52) rfl) rfl
theorem wL_X5_180 : Cond.methodLink RX5 180 yX0_countOpen ∈ GW := tm3 (List.mem_of_getElem? (i := 53) rfl) rfl
theorem wI_X0_countOpen : Cond.instanceMethod yX0_countOpen ∈ GW := tm3 (List.mem_of_getElem? (i := 54) rfl) rfl
theorem wSe_X0_X0_countOpen : Cond.selects RX0 yX0_countOpen yX0_countOpen ∈ GW := tm3 (List.mem_of_getElem? (i := 55) rfl) rfl
theorem wC_X0_countOpen : Cond.code yX0_countOpen cX0_countOpen 3 (some .int) ∈ GW := tm3 (List.mem_of_getElem? (i := 56) rfl) rfl
theorem wL_X5_183 : Cond.methodLink RX5 183 yX0_countDisputed ∈ GW := tm3 (List.mem_of_getElem? (i := 57) rfl) rfl
theorem wI_X0_countDisputed : Cond.instanceMethod yX0_countDisputed ∈ GW := tm3 (List.mem_of_getElem? (i := 58) rfl) rfl
theorem wSe_X0_X0_countDisputed : Cond.selects RX0 yX0_countDisputed yX0_countDisputed ∈ GW := tm3 (List.mem_of_getElem? (i := 59) rfl) rfl
theorem wC_X0_countDisputed : Cond.code yX0_countDisputed cX0_countDisputed 3 (some .int) ∈ GW := tm3 (List.mem_of_getElem? (i := 60) rfl) rfl
theorem wL_X5_186 : Cond.methodLink RX5 186 yX0_sumOfAmounts ∈ GW := tm3 (List.mem_of_getElem? (i := 61) rfl) rfl
theorem wI_X0_sumOfAmounts : Cond.instanceMethod yX0_sumOfAmounts ∈ GW := tm3 (List.mem_of_getElem? (i := 62) rfl) rfl
theorem wSe_X0_X0_sumOfAmounts : Cond.selects RX0 yX0_sumOfAmounts yX0_sumOfAmounts ∈ GW := tm3 (List.mem_of_getElem? (i := 63) rfl) rfl
theorem wC_X0_sumOfAmounts : Cond.code yX0_sumOfAmounts cX0_sumOfAmounts 3 (some .int) ∈ GW := tm3 (List.mem_of_getElem? (i := 64) rfl) rfl
theorem wL_X5_112 : Cond.methodLink RX5 112 yX5_countRings ∈ GW := tm3 (List.mem_of_getElem? (i := 65) rfl) rfl
theorem wI_X5_countRings : Cond.instanceMethod yX5_countRings ∈ GW := tm3 (List.mem_of_getElem? (i := 67) rfl) rfl
theorem wC_X5_countRings : Cond.code yX5_countRings cX5_countRings 1 (some .int) ∈ GW := tm3 (List.mem_of_getElem? (i := 68) rfl) rfl
theorem wL_X5_201 : Cond.methodLink RX5 201 yX0_sumOfGains ∈ GW := tm3 (List.mem_of_getElem? (i := 69) rfl) rfl
theorem wI_X0_sumOfGains : Cond.instanceMethod yX0_sumOfGains ∈ GW := tm3 (List.mem_of_getElem? (i := 70) rfl) rfl
theorem wSe_X0_X0_sumOfGains : Cond.selects RX0 yX0_sumOfGains yX0_sumOfGains ∈ GW := tm3 (List.mem_of_getElem? (i := 71) rfl) rfl
theorem wC_X0_sumOfGains : Cond.code yX0_sumOfGains cX0_sumOfGains 3 (some .int) ∈ GW := tm3 (List.mem_of_getElem? (i := 72) rfl) rfl
theorem wL_X0_69 : Cond.methodLink RX0 69 yX0_netOf ∈ GW := tm3 (List.mem_of_getElem? (i := 73) rfl) rfl
theorem wI_X0_netOf : Cond.instanceMethod yX0_netOf ∈ GW := tm3 (List.mem_of_getElem? (i := 74) rfl) rfl
theorem wSe_X0_X0_netOf : Cond.selects RX0 yX0_netOf yX0_netOf ∈ GW := tm3 (List.mem_of_getElem? (i := 75) rfl) rfl
theorem wC_X0_netOf : Cond.code yX0_netOf cX0_netOf 4 (some .int) ∈ GW := tm3 (List.mem_of_getElem? (i := 76) rfl) rfl
theorem wL_X0_73 : Cond.methodLink RX0 73 yJ9_max_7cf53 ∈ GW := tm3 (List.mem_of_getElem? (i := 77) rfl) rfl
theorem wS_J9_max_7cf53 : Cond.static yJ9_max_7cf53 ∈ GW := tm3 (List.mem_of_getElem? (i := 78) rfl) rfl
theorem wC_J9_max_7cf53 : Cond.code yJ9_max_7cf53 cJ9_max_7cf53 2 (some .int) ∈ GW := tm3 (List.mem_of_getElem? (i := 79) rfl) rfl
theorem wK_X5_44 : Cond.classLink RX5 44 "java/lang/IllegalArgumentException" ∈ GW := tm3 (List.mem_of_getElem? (i := 80) rfl) rfl
theorem wIb_IllegalArgumentException : Cond.instantiable "java/lang/IllegalArgumentException" 6 ∈ GW := tm3 (List.mem_of_getElem? (i := 81) rfl) rfl
theorem wSe_IllegalArgumentException_Throwable_fillInStackTrace_I_Ljava_lang_Throwable_ : Cond.selects "java/lang/IllegalArgumentException" ⟨"java/lang/Throwable", "fillInStackTrace", "(I)Ljava/lang/Throwable;"⟩ ⟨"java/lang/Throwable", "fillInStackTrace", "(I)Ljava/lang/Throwable;"⟩ ∈ GW := tm3 (List.mem_of_getElem? (i := 89) rfl) rfl
theorem wSe_IllegalArgumentException_Throwable_fillInStackTrace__Ljava_lang_Throwable_ : Cond.selects "java/lang/IllegalArgumentException" ⟨"java/lang/Throwable", "fillInStackTrace", "()Ljava/lang/Throwable;"⟩ ⟨"java/lang/Throwable", "fillInStackTrace", "()Ljava/lang/Throwable;"⟩ ∈ GW := tm3 (List.mem_of_getElem? (i := 90) rfl) rfl
theorem wY_IllegalArgumentException_cause : Cond.lays "java/lang/IllegalArgumentException" "java/lang/Throwable" "cause" "Ljava/lang/Throwable;" ∈ GW := tm3 (List.mem_of_getElem? (i := 91) rfl) rfl
theorem wY_Throwable_cause : Cond.lays "java/lang/Throwable" "java/lang/Throwable" "cause" "Ljava/lang/Throwable;" ∈ GW := tm3 (List.mem_of_getElem? (i := 92) rfl) rfl
theorem wY_IllegalArgumentException_stackTrace : Cond.lays "java/lang/IllegalArgumentException" "java/lang/Throwable" "stackTrace" "[Ljava/lang/StackTraceElement;" ∈ GW := tm3 (List.mem_of_getElem? (i := 93) rfl) rfl
theorem wY_Throwable_stackTrace : Cond.lays "java/lang/Throwable" "java/lang/Throwable" "stackTrace" "[Ljava/lang/StackTraceElement;" ∈ GW := tm3 (List.mem_of_getElem? (i := 94) rfl) rfl
theorem wY_IllegalArgumentException_suppressedExceptions : Cond.lays "java/lang/IllegalArgumentException" "java/lang/Throwable" "suppressedExceptions" "Ljava/util/List;" ∈ GW := tm3 (List.mem_of_getElem? (i := 95) rfl) rfl
theorem wY_Throwable_suppressedExceptions : Cond.lays "java/lang/Throwable" "java/lang/Throwable" "suppressedExceptions" "Ljava/util/List;" ∈ GW := tm3 (List.mem_of_getElem? (i := 96) rfl) rfl
theorem wY_IllegalArgumentException_detailMessage : Cond.lays "java/lang/IllegalArgumentException" "java/lang/Throwable" "detailMessage" "Ljava/lang/String;" ∈ GW := tm3 (List.mem_of_getElem? (i := 97) rfl) rfl
theorem wY_Throwable_detailMessage : Cond.lays "java/lang/Throwable" "java/lang/Throwable" "detailMessage" "Ljava/lang/String;" ∈ GW := tm3 (List.mem_of_getElem? (i := 98) rfl) rfl
theorem wY_IllegalArgumentException_backtrace : Cond.lays "java/lang/IllegalArgumentException" "java/lang/Throwable" "backtrace" "Ljava/lang/Object;" ∈ GW := tm3 (List.mem_of_getElem? (i := 99) rfl) rfl
theorem wY_Throwable_backtrace : Cond.lays "java/lang/Throwable" "java/lang/Throwable" "backtrace" "Ljava/lang/Object;" ∈ GW := tm3 (List.mem_of_getElem? (i := 100) rfl) rfl
theorem wF_Throwable_198 : Cond.fieldLink "java/lang/Throwable" 198 "java/lang/Throwable" "backtrace" "Ljava/lang/Object;" ∈ GW := tm3 (List.mem_of_getElem? (i := 101) rfl) rfl
theorem wI_Throwable__init___V : Cond.instanceMethod ⟨"java/lang/Throwable", "<init>", "()V"⟩ ∈ GW := tm3 (List.mem_of_getElem? (i := 103) rfl) rfl
theorem wC_Throwable__init___V : Cond.code ⟨"java/lang/Throwable", "<init>", "()V"⟩ prog_17_method_1_code 1 none ∈ GW := tm3 (List.mem_of_getElem? (i := 104) rfl) rfl
theorem wL_Throwable_1 : Cond.methodLink "java/lang/Throwable" 1 ⟨"java/lang/Object", "<init>", "()V"⟩ ∈ GW := tm3 (List.mem_of_getElem? (i := 105) rfl) rfl
theorem wF_Throwable_13 : Cond.fieldLink "java/lang/Throwable" 13 "java/lang/Throwable" "UNASSIGNED_STACK" "[Ljava/lang/StackTraceElement;" ∈ GW := tm3 (List.mem_of_getElem? (i := 106) rfl) rfl
theorem wF_Throwable_20 : Cond.fieldLink "java/lang/Throwable" 20 "java/lang/Throwable" "SUPPRESSED_SENTINEL" "Ljava/util/List;" ∈ GW := tm3 (List.mem_of_getElem? (i := 108) rfl) rfl
theorem wL_Throwable_27 : Cond.methodLink "java/lang/Throwable" 27 ⟨"java/lang/Throwable", "fillInStackTrace", "()Ljava/lang/Throwable;"⟩ ∈ GW := tm3 (List.mem_of_getElem? (i := 110) rfl) rfl
theorem wI_Throwable_fillInStackTrace__Ljava_lang_Throwable_ : Cond.instanceMethod ⟨"java/lang/Throwable", "fillInStackTrace", "()Ljava/lang/Throwable;"⟩ ∈ GW := tm3 (List.mem_of_getElem? (i := 111) rfl) rfl
theorem wSe_IllegalStateException_Throwable_fillInStackTrace__Ljava_lang_Throwable_ : Cond.selects "java/lang/IllegalStateException" ⟨"java/lang/Throwable", "fillInStackTrace", "()Ljava/lang/Throwable;"⟩ ⟨"java/lang/Throwable", "fillInStackTrace", "()Ljava/lang/Throwable;"⟩ ∈ GW := tm3 (List.mem_of_getElem? (i := 113) rfl) rfl
theorem wSe_IndexOutOfBoundsException_Throwable_fillInStackTrace__Ljava_lang_Throwable_ : Cond.selects "java/lang/IndexOutOfBoundsException" ⟨"java/lang/Throwable", "fillInStackTrace", "()Ljava/lang/Throwable;"⟩ ⟨"java/lang/Throwable", "fillInStackTrace", "()Ljava/lang/Throwable;"⟩ ∈ GW := tm3 (List.mem_of_getElem? (i := 114) rfl) rfl
theorem wL_Throwable_202 : Cond.methodLink "java/lang/Throwable" 202 ⟨"java/lang/Throwable", "fillInStackTrace", "(I)Ljava/lang/Throwable;"⟩ ∈ GW := tm3 (List.mem_of_getElem? (i := 116) rfl) rfl
theorem wI_Throwable_fillInStackTrace_I_Ljava_lang_Throwable_ : Cond.instanceMethod ⟨"java/lang/Throwable", "fillInStackTrace", "(I)Ljava/lang/Throwable;"⟩ ∈ GW := tm3 (List.mem_of_getElem? (i := 118) rfl) rfl
theorem wIb_Throwable : Cond.instantiable "java/lang/Throwable" 6 ∈ GW := tm3 (List.mem_of_getElem? (i := 119) rfl) rfl
theorem wNa_Throwable_fillInStackTrace_I_Ljava_lang_Throwable_ : Cond.native ⟨"java/lang/Throwable", "fillInStackTrace", "(I)Ljava/lang/Throwable;"⟩ ∈ GW := tm3 (List.mem_of_getElem? (i := 120) rfl) rfl
theorem wL_X5_48 : Cond.methodLink RX5 48 ⟨"java/lang/IllegalArgumentException", "<init>", "(Ljava/lang/String;)V"⟩ ∈ GW := tm3 (List.mem_of_getElem? (i := 122) rfl) rfl
theorem wI_IllegalArgumentException__init__Ljava_lang_String__V : Cond.instanceMethod ⟨"java/lang/IllegalArgumentException", "<init>", "(Ljava/lang/String;)V"⟩ ∈ GW := tm3 (List.mem_of_getElem? (i := 123) rfl) rfl
theorem wC_IllegalArgumentException__init__Ljava_lang_String__V : Cond.code ⟨"java/lang/IllegalArgumentException", "<init>", "(Ljava/lang/String;)V"⟩ prog_10_method_2_code 2 none ∈ GW := tm3 (List.mem_of_getElem? (i := 124) rfl) rfl
theorem wL_IllegalArgumentException_7 : Cond.methodLink "java/lang/IllegalArgumentException" 7 ⟨"java/lang/RuntimeException", "<init>", "(Ljava/lang/String;)V"⟩ ∈ GW := tm3 (List.mem_of_getElem? (i := 125) rfl) rfl
theorem wI_RuntimeException__init__Ljava_lang_String__V : Cond.instanceMethod ⟨"java/lang/RuntimeException", "<init>", "(Ljava/lang/String;)V"⟩ ∈ GW := tm3 (List.mem_of_getElem? (i := 126) rfl) rfl
theorem wC_RuntimeException__init__Ljava_lang_String__V : Cond.code ⟨"java/lang/RuntimeException", "<init>", "(Ljava/lang/String;)V"⟩ prog_14_method_2_code 2 none ∈ GW := tm3 (List.mem_of_getElem? (i := 127) rfl) rfl
theorem wL_RuntimeException_7 : Cond.methodLink "java/lang/RuntimeException" 7 ⟨"java/lang/Exception", "<init>", "(Ljava/lang/String;)V"⟩ ∈ GW := tm3 (List.mem_of_getElem? (i := 128) rfl) rfl
theorem wI_Exception__init__Ljava_lang_String__V : Cond.instanceMethod ⟨"java/lang/Exception", "<init>", "(Ljava/lang/String;)V"⟩ ∈ GW := tm3 (List.mem_of_getElem? (i := 129) rfl) rfl
theorem wC_Exception__init__Ljava_lang_String__V : Cond.code ⟨"java/lang/Exception", "<init>", "(Ljava/lang/String;)V"⟩ prog_9_method_2_code 2 none ∈ GW := tm3 (List.mem_of_getElem? (i := 130) rfl) rfl
theorem wL_Exception_7 : Cond.methodLink "java/lang/Exception" 7 ⟨"java/lang/Throwable", "<init>", "(Ljava/lang/String;)V"⟩ ∈ GW := tm3 (List.mem_of_getElem? (i := 131) rfl) rfl
theorem wI_Throwable__init__Ljava_lang_String__V : Cond.instanceMethod ⟨"java/lang/Throwable", "<init>", "(Ljava/lang/String;)V"⟩ ∈ GW := tm3 (List.mem_of_getElem? (i := 132) rfl) rfl
theorem wC_Throwable__init__Ljava_lang_String__V : Cond.code ⟨"java/lang/Throwable", "<init>", "(Ljava/lang/String;)V"⟩ prog_17_method_2_code 2 none ∈ GW := tm3 (List.mem_of_getElem? (i := 133) rfl) rfl
theorem wF_Throwable_31 : Cond.fieldLink "java/lang/Throwable" 31 "java/lang/Throwable" "detailMessage" "Ljava/lang/String;" ∈ GW := tm3 (List.mem_of_getElem? (i := 135) rfl) rfl
theorem wF_Throwable_7 : Cond.fieldLink "java/lang/Throwable" 7 "java/lang/Throwable" "cause" "Ljava/lang/Throwable;" ∈ GW := tm3 (List.mem_of_getElem? (i := 136) rfl) rfl
theorem wF_Throwable_17 : Cond.fieldLink "java/lang/Throwable" 17 "java/lang/Throwable" "stackTrace" "[Ljava/lang/StackTraceElement;" ∈ GW := tm3 (List.mem_of_getElem? (i := 137) rfl) rfl
theorem wF_Throwable_24 : Cond.fieldLink "java/lang/Throwable" 24 "java/lang/Throwable" "suppressedExceptions" "Ljava/util/List;" ∈ GW := tm3 (List.mem_of_getElem? (i := 138) rfl) rfl
theorem wY_IllegalArgumentException_depth : Cond.lays "java/lang/IllegalArgumentException" "java/lang/Throwable" "depth" "I" ∈ GW := tm3 (List.mem_of_getElem? (i := 143) rfl) rfl
theorem wA__byte : Cond.arrayClass .byte ∈ GW := tm3 (List.mem_of_getElem? (i := 147) rfl) rfl
theorem wL_X5_274 : Cond.methodLink RX5 274 yX5_promiseOf ∈ GW := tm3 (List.mem_of_getElem? (i := 148) rfl) rfl
theorem wI_X5_promiseOf : Cond.instanceMethod yX5_promiseOf ∈ GW := tm3 (List.mem_of_getElem? (i := 149) rfl) rfl
theorem wSe_X5_X5_promiseOf : Cond.selects RX5 yX5_promiseOf yX5_promiseOf ∈ GW := tm3 (List.mem_of_getElem? (i := 150) rfl) rfl
theorem wC_X5_promiseOf : Cond.code yX5_promiseOf cX5_promiseOf 3 (some .int) ∈ GW := tm3 (List.mem_of_getElem? (i := 151) rfl) rfl
theorem wK_X5_66 : Cond.classLink RX5 66 "java/lang/IndexOutOfBoundsException" ∈ GW := tm3 (List.mem_of_getElem? (i := 152) rfl) rfl
theorem wIb_IndexOutOfBoundsException : Cond.instantiable "java/lang/IndexOutOfBoundsException" 6 ∈ GW := tm3 (List.mem_of_getElem? (i := 153) rfl) rfl
theorem wSe_IndexOutOfBoundsException_Throwable_fillInStackTrace_I_Ljava_lang_Throwable_ : Cond.selects "java/lang/IndexOutOfBoundsException" ⟨"java/lang/Throwable", "fillInStackTrace", "(I)Ljava/lang/Throwable;"⟩ ⟨"java/lang/Throwable", "fillInStackTrace", "(I)Ljava/lang/Throwable;"⟩ ∈ GW := tm3 (List.mem_of_getElem? (i := 155) rfl) rfl
theorem wY_IndexOutOfBoundsException_cause : Cond.lays "java/lang/IndexOutOfBoundsException" "java/lang/Throwable" "cause" "Ljava/lang/Throwable;" ∈ GW := tm3 (List.mem_of_getElem? (i := 156) rfl) rfl
theorem wY_IndexOutOfBoundsException_stackTrace : Cond.lays "java/lang/IndexOutOfBoundsException" "java/lang/Throwable" "stackTrace" "[Ljava/lang/StackTraceElement;" ∈ GW := tm3 (List.mem_of_getElem? (i := 157) rfl) rfl
theorem wY_IndexOutOfBoundsException_suppressedExceptions : Cond.lays "java/lang/IndexOutOfBoundsException" "java/lang/Throwable" "suppressedExceptions" "Ljava/util/List;" ∈ GW := tm3 (List.mem_of_getElem? (i := 158) rfl) rfl
theorem wY_IndexOutOfBoundsException_detailMessage : Cond.lays "java/lang/IndexOutOfBoundsException" "java/lang/Throwable" "detailMessage" "Ljava/lang/String;" ∈ GW := tm3 (List.mem_of_getElem? (i := 159) rfl) rfl
theorem wY_IndexOutOfBoundsException_backtrace : Cond.lays "java/lang/IndexOutOfBoundsException" "java/lang/Throwable" "backtrace" "Ljava/lang/Object;" ∈ GW := tm3 (List.mem_of_getElem? (i := 160) rfl) rfl
theorem wL_X5_70 : Cond.methodLink RX5 70 ⟨"java/lang/IndexOutOfBoundsException", "<init>", "(Ljava/lang/String;)V"⟩ ∈ GW := tm3 (List.mem_of_getElem? (i := 162) rfl) rfl
theorem wI_IndexOutOfBoundsException__init__Ljava_lang_String__V : Cond.instanceMethod ⟨"java/lang/IndexOutOfBoundsException", "<init>", "(Ljava/lang/String;)V"⟩ ∈ GW := tm3 (List.mem_of_getElem? (i := 163) rfl) rfl
theorem wC_IndexOutOfBoundsException__init__Ljava_lang_String__V : Cond.code ⟨"java/lang/IndexOutOfBoundsException", "<init>", "(Ljava/lang/String;)V"⟩ prog_12_method_2_code 2 none ∈ GW := tm3 (List.mem_of_getElem? (i := 164) rfl) rfl
theorem wL_IndexOutOfBoundsException_7 : Cond.methodLink "java/lang/IndexOutOfBoundsException" 7 ⟨"java/lang/RuntimeException", "<init>", "(Ljava/lang/String;)V"⟩ ∈ GW := tm3 (List.mem_of_getElem? (i := 165) rfl) rfl
theorem wY_IndexOutOfBoundsException_depth : Cond.lays "java/lang/IndexOutOfBoundsException" "java/lang/Throwable" "depth" "I" ∈ GW := tm3 (List.mem_of_getElem? (i := 166) rfl) rfl
theorem wL_X5_169 : Cond.methodLink RX5 169 yX0_netOf ∈ GW := tm3 (List.mem_of_getElem? (i := 169) rfl) rfl
theorem wL_X5_165 : Cond.methodLink RX5 165 yX0_debtBetween ∈ GW := tm3 (List.mem_of_getElem? (i := 170) rfl) rfl
theorem wI_X0_debtBetween : Cond.instanceMethod yX0_debtBetween ∈ GW := tm3 (List.mem_of_getElem? (i := 171) rfl) rfl
theorem wSe_X0_X0_debtBetween : Cond.selects RX0 yX0_debtBetween yX0_debtBetween ∈ GW := tm3 (List.mem_of_getElem? (i := 172) rfl) rfl
theorem wC_X0_debtBetween : Cond.code yX0_debtBetween cX0_debtBetween 5 (some .int) ∈ GW := tm3 (List.mem_of_getElem? (i := 173) rfl) rfl
theorem wL_X5_277 : Cond.methodLink RX5 277 yX5_bestRing ∈ GW := tm3 (List.mem_of_getElem? (i := 174) rfl) rfl
theorem wL_L_77 : Cond.methodLink RL 77 yL_begin ∈ GW := tm3 (List.mem_of_getElem? (i := 175) rfl) rfl
theorem wS_L_begin : Cond.static yL_begin ∈ GW := tm3 (List.mem_of_getElem? (i := 176) rfl) rfl
theorem wC_L_begin : Cond.codeWith yL_begin cL_begin 4 (some .int) [(0, 9, 12, 13)] ∈ GW := tm3 (List.mem_of_getElem? (i := 177) rfl) rfl
theorem wK_L_13 : Cond.classLink RL 13 "java/lang/IllegalArgumentException" ∈ GW := tm3 (List.mem_of_getElem? (i := 178) rfl) rfl
theorem wL_L_7 : Cond.methodLink RL 7 yX5_begin ∈ GW := tm3 (List.mem_of_getElem? (i := 179) rfl) rfl
theorem wI_X5_begin : Cond.instanceMethod yX5_begin ∈ GW := tm3 (List.mem_of_getElem? (i := 180) rfl) rfl
theorem wSe_X5_X5_begin : Cond.selects RX5 yX5_begin yX5_begin ∈ GW := tm3 (List.mem_of_getElem? (i := 181) rfl) rfl
theorem wC_X5_begin : Cond.code yX5_begin cX5_begin 3 (some .int) ∈ GW := tm3 (List.mem_of_getElem? (i := 182) rfl) rfl
theorem wL_X5_58 : Cond.methodLink RX5 58 yX0_restart ∈ GW := tm3 (List.mem_of_getElem? (i := 184) rfl) rfl
theorem wI_X0_restart : Cond.instanceMethod yX0_restart ∈ GW := tm3 (List.mem_of_getElem? (i := 185) rfl) rfl
theorem wSe_X0_X0_restart : Cond.selects RX0 yX0_restart yX0_restart ∈ GW := tm3 (List.mem_of_getElem? (i := 186) rfl) rfl
theorem wC_X0_restart : Cond.code yX0_restart cX0_restart 2 none ∈ GW := tm3 (List.mem_of_getElem? (i := 187) rfl) rfl
theorem wL_L_86 : Cond.methodLink RL 86 yL_promise ∈ GW := tm3 (List.mem_of_getElem? (i := 188) rfl) rfl
theorem wS_L_promise : Cond.static yL_promise ∈ GW := tm3 (List.mem_of_getElem? (i := 189) rfl) rfl
theorem wC_L_promise : Cond.codeWith yL_promise cL_promise 7 (some .int) [(0, 14, 17, 19), (0, 14, 21, 13), (0, 14, 25, 21)] ∈ GW := tm3 (List.mem_of_getElem? (i := 190) rfl) rfl
theorem wK_L_19 : Cond.classLink RL 19 "java/lang/IndexOutOfBoundsException" ∈ GW := tm3 (List.mem_of_getElem? (i := 191) rfl) rfl
theorem wK_L_21 : Cond.classLink RL 21 "java/lang/IllegalStateException" ∈ GW := tm3 (List.mem_of_getElem? (i := 192) rfl) rfl
theorem wL_L_15 : Cond.methodLink RL 15 yX5_promise ∈ GW := tm3 (List.mem_of_getElem? (i := 193) rfl) rfl
theorem wI_X5_promise : Cond.instanceMethod yX5_promise ∈ GW := tm3 (List.mem_of_getElem? (i := 194) rfl) rfl
theorem wSe_X5_X5_promise : Cond.selects RX5 yX5_promise yX5_promise ∈ GW := tm3 (List.mem_of_getElem? (i := 195) rfl) rfl
theorem wC_X5_promise : Cond.code yX5_promise cX5_promise 5 (some .int) ∈ GW := tm3 (List.mem_of_getElem? (i := 196) rfl) rfl
theorem wK_X5_81 : Cond.classLink RX5 81 "java/lang/IllegalStateException" ∈ GW := tm3 (List.mem_of_getElem? (i := 199) rfl) rfl
theorem wIb_IllegalStateException : Cond.instantiable "java/lang/IllegalStateException" 6 ∈ GW := tm3 (List.mem_of_getElem? (i := 200) rfl) rfl
theorem wSe_IllegalStateException_Throwable_fillInStackTrace_I_Ljava_lang_Throwable_ : Cond.selects "java/lang/IllegalStateException" ⟨"java/lang/Throwable", "fillInStackTrace", "(I)Ljava/lang/Throwable;"⟩ ⟨"java/lang/Throwable", "fillInStackTrace", "(I)Ljava/lang/Throwable;"⟩ ∈ GW := tm3 (List.mem_of_getElem? (i := 202) rfl) rfl
theorem wY_IllegalStateException_cause : Cond.lays "java/lang/IllegalStateException" "java/lang/Throwable" "cause" "Ljava/lang/Throwable;" ∈ GW := tm3 (List.mem_of_getElem? (i := 203) rfl) rfl
theorem wY_IllegalStateException_stackTrace : Cond.lays "java/lang/IllegalStateException" "java/lang/Throwable" "stackTrace" "[Ljava/lang/StackTraceElement;" ∈ GW := tm3 (List.mem_of_getElem? (i := 204) rfl) rfl
theorem wY_IllegalStateException_suppressedExceptions : Cond.lays "java/lang/IllegalStateException" "java/lang/Throwable" "suppressedExceptions" "Ljava/util/List;" ∈ GW := tm3 (List.mem_of_getElem? (i := 205) rfl) rfl
theorem wY_IllegalStateException_detailMessage : Cond.lays "java/lang/IllegalStateException" "java/lang/Throwable" "detailMessage" "Ljava/lang/String;" ∈ GW := tm3 (List.mem_of_getElem? (i := 206) rfl) rfl
theorem wY_IllegalStateException_backtrace : Cond.lays "java/lang/IllegalStateException" "java/lang/Throwable" "backtrace" "Ljava/lang/Object;" ∈ GW := tm3 (List.mem_of_getElem? (i := 207) rfl) rfl
theorem wL_X5_85 : Cond.methodLink RX5 85 ⟨"java/lang/IllegalStateException", "<init>", "(Ljava/lang/String;)V"⟩ ∈ GW := tm3 (List.mem_of_getElem? (i := 209) rfl) rfl
theorem wI_IllegalStateException__init__Ljava_lang_String__V : Cond.instanceMethod ⟨"java/lang/IllegalStateException", "<init>", "(Ljava/lang/String;)V"⟩ ∈ GW := tm3 (List.mem_of_getElem? (i := 210) rfl) rfl
theorem wC_IllegalStateException__init__Ljava_lang_String__V : Cond.code ⟨"java/lang/IllegalStateException", "<init>", "(Ljava/lang/String;)V"⟩ prog_11_method_2_code 2 none ∈ GW := tm3 (List.mem_of_getElem? (i := 211) rfl) rfl
theorem wL_IllegalStateException_7 : Cond.methodLink "java/lang/IllegalStateException" 7 ⟨"java/lang/RuntimeException", "<init>", "(Ljava/lang/String;)V"⟩ ∈ GW := tm3 (List.mem_of_getElem? (i := 212) rfl) rfl
theorem wY_IllegalStateException_depth : Cond.lays "java/lang/IllegalStateException" "java/lang/Throwable" "depth" "I" ∈ GW := tm3 (List.mem_of_getElem? (i := 213) rfl) rfl
theorem wL_L_90 : Cond.methodLink RL 90 yL_pay ∈ GW := tm3 (List.mem_of_getElem? (i := 215) rfl) rfl
theorem wS_L_pay : Cond.static yL_pay ∈ GW := tm3 (List.mem_of_getElem? (i := 216) rfl) rfl
theorem wC_L_pay : Cond.codeWith yL_pay cL_pay 5 (some .int) [(0, 10, 13, 19), (0, 10, 17, 13), (0, 10, 21, 21)] ∈ GW := tm3 (List.mem_of_getElem? (i := 217) rfl) rfl
theorem wL_L_23 : Cond.methodLink RL 23 yX5_pay ∈ GW := tm3 (List.mem_of_getElem? (i := 218) rfl) rfl
theorem wI_X5_pay : Cond.instanceMethod yX5_pay ∈ GW := tm3 (List.mem_of_getElem? (i := 219) rfl) rfl
theorem wSe_X5_X5_pay : Cond.selects RX5 yX5_pay yX5_pay ∈ GW := tm3 (List.mem_of_getElem? (i := 220) rfl) rfl
theorem wC_X5_pay : Cond.code yX5_pay cX5_pay 3 (some .int) ∈ GW := tm3 (List.mem_of_getElem? (i := 221) rfl) rfl
theorem wL_X5_103 : Cond.methodLink RX5 103 yX0_payPart ∈ GW := tm3 (List.mem_of_getElem? (i := 224) rfl) rfl
theorem wI_X0_payPart : Cond.instanceMethod yX0_payPart ∈ GW := tm3 (List.mem_of_getElem? (i := 225) rfl) rfl
theorem wSe_X0_X0_payPart : Cond.selects RX0 yX0_payPart yX0_payPart ∈ GW := tm3 (List.mem_of_getElem? (i := 226) rfl) rfl
theorem wC_X0_payPart : Cond.code yX0_payPart cX0_payPart 3 none ∈ GW := tm3 (List.mem_of_getElem? (i := 227) rfl) rfl
theorem wL_L_94 : Cond.methodLink RL 94 yL_dispute ∈ GW := tm3 (List.mem_of_getElem? (i := 228) rfl) rfl
theorem wS_L_dispute : Cond.static yL_dispute ∈ GW := tm3 (List.mem_of_getElem? (i := 229) rfl) rfl
theorem wC_L_dispute : Cond.codeWith yL_dispute cL_dispute 4 (some .int) [(0, 9, 12, 19), (0, 9, 15, 21)] ∈ GW := tm3 (List.mem_of_getElem? (i := 230) rfl) rfl
theorem wL_L_27 : Cond.methodLink RL 27 yX5_dispute ∈ GW := tm3 (List.mem_of_getElem? (i := 231) rfl) rfl
theorem wI_X5_dispute : Cond.instanceMethod yX5_dispute ∈ GW := tm3 (List.mem_of_getElem? (i := 232) rfl) rfl
theorem wSe_X5_X5_dispute : Cond.selects RX5 yX5_dispute yX5_dispute ∈ GW := tm3 (List.mem_of_getElem? (i := 233) rfl) rfl
theorem wC_X5_dispute : Cond.code yX5_dispute cX5_dispute 3 (some .int) ∈ GW := tm3 (List.mem_of_getElem? (i := 234) rfl) rfl
theorem wL_L_97 : Cond.methodLink RL 97 yL_settle ∈ GW := tm3 (List.mem_of_getElem? (i := 236) rfl) rfl
theorem wS_L_settle : Cond.static yL_settle ∈ GW := tm3 (List.mem_of_getElem? (i := 237) rfl) rfl
theorem wC_L_settle : Cond.codeWith yL_settle cL_settle 4 (some .int) [(0, 9, 12, 19), (0, 9, 15, 21)] ∈ GW := tm3 (List.mem_of_getElem? (i := 238) rfl) rfl
theorem wL_L_30 : Cond.methodLink RL 30 yX5_settle ∈ GW := tm3 (List.mem_of_getElem? (i := 239) rfl) rfl
theorem wI_X5_settle : Cond.instanceMethod yX5_settle ∈ GW := tm4 (List.mem_of_getElem? (i := 0) rfl) rfl
theorem wSe_X5_X5_settle : Cond.selects RX5 yX5_settle yX5_settle ∈ GW := tm4 (List.mem_of_getElem? (i := 1) rfl) rfl
theorem wC_X5_settle : Cond.code yX5_settle cX5_settle 2 (some .int) ∈ GW := tm4 (List.mem_of_getElem? (i := 2) rfl) rfl
theorem wL_L_100 : Cond.methodLink RL 100 yL_discharge ∈ GW := tm4 (List.mem_of_getElem? (i := 4) rfl) rfl
theorem wS_L_discharge : Cond.static yL_discharge ∈ GW := tm4 (List.mem_of_getElem? (i := 5) rfl) rfl
theorem wC_L_discharge : Cond.codeWith yL_discharge cL_discharge 5 (some .int) [(0, 10, 13, 19), (0, 10, 17, 13), (0, 10, 21, 21)] ∈ GW := tm4 (List.mem_of_getElem? (i := 6) rfl) rfl
theorem wL_L_33 : Cond.methodLink RL 33 yX5_discharge ∈ GW := tm4 (List.mem_of_getElem? (i := 7) rfl) rfl
theorem wI_X5_discharge : Cond.instanceMethod yX5_discharge ∈ GW := tm4 (List.mem_of_getElem? (i := 8) rfl) rfl
theorem wSe_X5_X5_discharge : Cond.selects RX5 yX5_discharge yX5_discharge ∈ GW := tm4 (List.mem_of_getElem? (i := 9) rfl) rfl
theorem wC_X5_discharge : Cond.code yX5_discharge cX5_discharge 3 (some .int) ∈ GW := tm4 (List.mem_of_getElem? (i := 10) rfl) rfl
theorem wL_X5_126 : Cond.methodLink RX5 126 yX4_roomAt ∈ GW := tm4 (List.mem_of_getElem? (i := 13) rfl) rfl
theorem wL_X5_132 : Cond.methodLink RX5 132 yX4_releaseAround ∈ GW := tm4 (List.mem_of_getElem? (i := 15) rfl) rfl
theorem wL_L_103 : Cond.methodLink RL 103 yL_dischargeBest ∈ GW := tm4 (List.mem_of_getElem? (i := 16) rfl) rfl
theorem wS_L_dischargeBest : Cond.static yL_dischargeBest ∈ GW := tm4 (List.mem_of_getElem? (i := 17) rfl) rfl
theorem wC_L_dischargeBest : Cond.codeWith yL_dischargeBest cL_dischargeBest 3 (some .int) [(0, 8, 11, 21)] ∈ GW := tm4 (List.mem_of_getElem? (i := 18) rfl) rfl
theorem wL_L_36 : Cond.methodLink RL 36 yX5_dischargeBest ∈ GW := tm4 (List.mem_of_getElem? (i := 19) rfl) rfl
theorem wI_X5_dischargeBest : Cond.instanceMethod yX5_dischargeBest ∈ GW := tm4 (List.mem_of_getElem? (i := 20) rfl) rfl
theorem wSe_X5_X5_dischargeBest : Cond.selects RX5 yX5_dischargeBest yX5_dischargeBest ∈ GW := tm4 (List.mem_of_getElem? (i := 21) rfl) rfl
theorem wC_X5_dischargeBest : Cond.code yX5_dischargeBest cX5_dischargeBest 1 (some .int) ∈ GW := tm4 (List.mem_of_getElem? (i := 22) rfl) rfl
theorem wL_L_111 : Cond.methodLink RL 111 yL_promiseOf ∈ GW := tm4 (List.mem_of_getElem? (i := 24) rfl) rfl
theorem wS_L_promiseOf : Cond.static yL_promiseOf ∈ GW := tm4 (List.mem_of_getElem? (i := 25) rfl) rfl
theorem wC_L_promiseOf : Cond.codeWith yL_promiseOf cL_promiseOf 5 (some .int) [(0, 10, 13, 19), (0, 10, 17, 13)] ∈ GW := tm4 (List.mem_of_getElem? (i := 26) rfl) rfl
theorem wL_L_40 : Cond.methodLink RL 40 yX5_promiseOf ∈ GW := tm4 (List.mem_of_getElem? (i := 27) rfl) rfl
theorem wL_L_114 : Cond.methodLink RL 114 yL_debt ∈ GW := tm4 (List.mem_of_getElem? (i := 28) rfl) rfl
theorem wS_L_debt : Cond.static yL_debt ∈ GW := tm4 (List.mem_of_getElem? (i := 29) rfl) rfl
theorem wC_L_debt : Cond.codeWith yL_debt cL_debt 5 (some .int) [(0, 10, 13, 19)] ∈ GW := tm4 (List.mem_of_getElem? (i := 30) rfl) rfl
theorem wL_L_43 : Cond.methodLink RL 43 yX5_debt ∈ GW := tm4 (List.mem_of_getElem? (i := 31) rfl) rfl
theorem wI_X5_debt : Cond.instanceMethod yX5_debt ∈ GW := tm4 (List.mem_of_getElem? (i := 32) rfl) rfl
theorem wSe_X5_X5_debt : Cond.selects RX5 yX5_debt yX5_debt ∈ GW := tm4 (List.mem_of_getElem? (i := 33) rfl) rfl
theorem wC_X5_debt : Cond.code yX5_debt cX5_debt 3 (some .int) ∈ GW := tm4 (List.mem_of_getElem? (i := 34) rfl) rfl
theorem wL_L_117 : Cond.methodLink RL 117 yL_net ∈ GW := tm4 (List.mem_of_getElem? (i := 35) rfl) rfl
theorem wS_L_net : Cond.static yL_net ∈ GW := tm4 (List.mem_of_getElem? (i := 36) rfl) rfl
theorem wC_L_net : Cond.codeWith yL_net cL_net 4 (some .int) [(0, 9, 12, 19)] ∈ GW := tm4 (List.mem_of_getElem? (i := 37) rfl) rfl
theorem wL_L_46 : Cond.methodLink RL 46 yX5_net ∈ GW := tm4 (List.mem_of_getElem? (i := 38) rfl) rfl
theorem wI_X5_net : Cond.instanceMethod yX5_net ∈ GW := tm4 (List.mem_of_getElem? (i := 39) rfl) rfl
theorem wSe_X5_X5_net : Cond.selects RX5 yX5_net yX5_net ∈ GW := tm4 (List.mem_of_getElem? (i := 40) rfl) rfl
theorem wC_X5_net : Cond.code yX5_net cX5_net 2 (some .int) ∈ GW := tm4 (List.mem_of_getElem? (i := 41) rfl) rfl
theorem wL_L_120 : Cond.methodLink RL 120 yL_ring ∈ GW := tm4 (List.mem_of_getElem? (i := 42) rfl) rfl
theorem wS_L_ring : Cond.static yL_ring ∈ GW := tm4 (List.mem_of_getElem? (i := 43) rfl) rfl
theorem wC_L_ring : Cond.codeWith yL_ring cL_ring 5 (some .int) [(0, 10, 13, 19), (0, 10, 17, 13)] ∈ GW := tm4 (List.mem_of_getElem? (i := 44) rfl) rfl
theorem wL_L_49 : Cond.methodLink RL 49 yX5_ring ∈ GW := tm4 (List.mem_of_getElem? (i := 45) rfl) rfl
theorem wI_X5_ring : Cond.instanceMethod yX5_ring ∈ GW := tm4 (List.mem_of_getElem? (i := 46) rfl) rfl
theorem wSe_X5_X5_ring : Cond.selects RX5 yX5_ring yX5_ring ∈ GW := tm4 (List.mem_of_getElem? (i := 47) rfl) rfl
theorem wC_X5_ring : Cond.code yX5_ring cX5_ring 3 (some .int) ∈ GW := tm4 (List.mem_of_getElem? (i := 48) rfl) rfl
theorem wL_X5_174 : Cond.methodLink RX5 174 yX4_partyAt ∈ GW := tm4 (List.mem_of_getElem? (i := 50) rfl) rfl
theorem wI_X4_partyAt : Cond.instanceMethod yX4_partyAt ∈ GW := tm4 (List.mem_of_getElem? (i := 51) rfl) rfl
theorem wSe_X4_X4_partyAt : Cond.selects RX4 yX4_partyAt yX4_partyAt ∈ GW := tm4 (List.mem_of_getElem? (i := 52) rfl) rfl
theorem wC_X4_partyAt : Cond.code yX4_partyAt cX4_partyAt 3 (some .int) ∈ GW := tm4 (List.mem_of_getElem? (i := 53) rfl) rfl
theorem wL_L_123 : Cond.methodLink RL 123 yL_room ∈ GW := tm4 (List.mem_of_getElem? (i := 54) rfl) rfl
theorem wS_L_room : Cond.static yL_room ∈ GW := tm4 (List.mem_of_getElem? (i := 55) rfl) rfl
theorem wC_L_room : Cond.codeWith yL_room cL_room 4 (some .int) [(0, 9, 12, 19)] ∈ GW := tm4 (List.mem_of_getElem? (i := 56) rfl) rfl
theorem wL_L_52 : Cond.methodLink RL 52 yX5_room ∈ GW := tm4 (List.mem_of_getElem? (i := 57) rfl) rfl
theorem wI_X5_room : Cond.instanceMethod yX5_room ∈ GW := tm4 (List.mem_of_getElem? (i := 58) rfl) rfl
theorem wSe_X5_X5_room : Cond.selects RX5 yX5_room yX5_room ∈ GW := tm4 (List.mem_of_getElem? (i := 59) rfl) rfl
theorem wC_X5_room : Cond.code yX5_room cX5_room 2 (some .int) ∈ GW := tm4 (List.mem_of_getElem? (i := 60) rfl) rfl
theorem wL_L_126 : Cond.methodLink RL 126 yL_value ∈ GW := tm4 (List.mem_of_getElem? (i := 61) rfl) rfl
theorem wS_L_value : Cond.static yL_value ∈ GW := tm4 (List.mem_of_getElem? (i := 62) rfl) rfl
theorem wC_L_value : Cond.codeWith yL_value cL_value 4 (some .int) [(0, 9, 12, 13)] ∈ GW := tm4 (List.mem_of_getElem? (i := 63) rfl) rfl
theorem wL_L_55 : Cond.methodLink RL 55 yX5_value ∈ GW := tm4 (List.mem_of_getElem? (i := 64) rfl) rfl
theorem wL_L_129 : Cond.methodLink RL 129 yL_saving ∈ GW := tm4 (List.mem_of_getElem? (i := 65) rfl) rfl
theorem wS_L_saving : Cond.static yL_saving ∈ GW := tm4 (List.mem_of_getElem? (i := 66) rfl) rfl
theorem wC_L_saving : Cond.codeWith yL_saving cL_saving 4 (some .int) [(0, 9, 12, 19)] ∈ GW := tm4 (List.mem_of_getElem? (i := 67) rfl) rfl
theorem wL_L_58 : Cond.methodLink RL 58 yX5_saving ∈ GW := tm4 (List.mem_of_getElem? (i := 68) rfl) rfl
theorem wI_X5_saving : Cond.instanceMethod yX5_saving ∈ GW := tm4 (List.mem_of_getElem? (i := 69) rfl) rfl
theorem wSe_X5_X5_saving : Cond.selects RX5 yX5_saving yX5_saving ∈ GW := tm4 (List.mem_of_getElem? (i := 70) rfl) rfl
theorem wC_X5_saving : Cond.code yX5_saving cX5_saving 2 (some .int) ∈ GW := tm4 (List.mem_of_getElem? (i := 71) rfl) rfl
theorem wL_X5_206 : Cond.methodLink RX5 206 yX4_savingAt ∈ GW := tm4 (List.mem_of_getElem? (i := 72) rfl) rfl
theorem wL_L_144 : Cond.methodLink RL 144 yL_ringsWithout ∈ GW := tm4 (List.mem_of_getElem? (i := 73) rfl) rfl
theorem wS_L_ringsWithout : Cond.static yL_ringsWithout ∈ GW := tm4 (List.mem_of_getElem? (i := 74) rfl) rfl
theorem wC_L_ringsWithout : Cond.codeWith yL_ringsWithout cL_ringsWithout 4 (some .int) [(0, 9, 12, 19)] ∈ GW := tm4 (List.mem_of_getElem? (i := 75) rfl) rfl
theorem wL_L_61 : Cond.methodLink RL 61 yX5_ringsWithout ∈ GW := tm4 (List.mem_of_getElem? (i := 76) rfl) rfl
theorem wI_X5_ringsWithout : Cond.instanceMethod yX5_ringsWithout ∈ GW := tm4 (List.mem_of_getElem? (i := 77) rfl) rfl
theorem wSe_X5_X5_ringsWithout : Cond.selects RX5 yX5_ringsWithout yX5_ringsWithout ∈ GW := tm4 (List.mem_of_getElem? (i := 78) rfl) rfl
theorem wC_X5_ringsWithout : Cond.code yX5_ringsWithout cX5_ringsWithout 2 (some .int) ∈ GW := tm4 (List.mem_of_getElem? (i := 79) rfl) rfl
theorem wL_L_151 : Cond.methodLink RL 151 yL_mutual ∈ GW := tm4 (List.mem_of_getElem? (i := 80) rfl) rfl
theorem wS_L_mutual : Cond.static yL_mutual ∈ GW := tm4 (List.mem_of_getElem? (i := 81) rfl) rfl
theorem wC_L_mutual : Cond.codeWith yL_mutual cL_mutual 4 (some .int) [(0, 9, 12, 19)] ∈ GW := tm4 (List.mem_of_getElem? (i := 82) rfl) rfl
theorem wL_L_64 : Cond.methodLink RL 64 yX5_mutual ∈ GW := tm4 (List.mem_of_getElem? (i := 83) rfl) rfl
theorem wI_X5_mutual : Cond.instanceMethod yX5_mutual ∈ GW := tm4 (List.mem_of_getElem? (i := 84) rfl) rfl
theorem wSe_X5_X5_mutual : Cond.selects RX5 yX5_mutual yX5_mutual ∈ GW := tm4 (List.mem_of_getElem? (i := 85) rfl) rfl
theorem wC_X5_mutual : Cond.code yX5_mutual cX5_mutual 4 (some .int) ∈ GW := tm4 (List.mem_of_getElem? (i := 86) rfl) rfl
theorem wL_X5_232 : Cond.methodLink RX5 232 yJ9_min_7cf53 ∈ GW := tm4 (List.mem_of_getElem? (i := 87) rfl) rfl
theorem wL_L_154 : Cond.methodLink RL 154 yL_append ∈ GW := tm4 (List.mem_of_getElem? (i := 88) rfl) rfl
theorem wS_L_append : Cond.static yL_append ∈ GW := tm4 (List.mem_of_getElem? (i := 89) rfl) rfl
theorem wC_L_append : Cond.codeWith yL_append cL_append 4 (some .int) [(0, 9, 12, 13), (0, 9, 15, 21)] ∈ GW := tm4 (List.mem_of_getElem? (i := 90) rfl) rfl
theorem wL_L_67 : Cond.methodLink RL 67 yX5_append ∈ GW := tm4 (List.mem_of_getElem? (i := 91) rfl) rfl
theorem wI_X5_append : Cond.instanceMethod yX5_append ∈ GW := tm4 (List.mem_of_getElem? (i := 92) rfl) rfl
theorem wSe_X5_X5_append : Cond.selects RX5 yX5_append yX5_append ∈ GW := tm4 (List.mem_of_getElem? (i := 93) rfl) rfl
theorem wC_X5_append : Cond.code yX5_append cX5_append 2 (some .int) ∈ GW := tm4 (List.mem_of_getElem? (i := 94) rfl) rfl
theorem wL_X5_239 : Cond.methodLink RX5 239 yX2_isFull ∈ GW := tm4 (List.mem_of_getElem? (i := 96) rfl) rfl
theorem wI_X2_isFull : Cond.instanceMethod yX2_isFull ∈ GW := tm4 (List.mem_of_getElem? (i := 97) rfl) rfl
theorem wSe_X2_X2_isFull : Cond.selects RX2 yX2_isFull yX2_isFull ∈ GW := tm4 (List.mem_of_getElem? (i := 98) rfl) rfl
theorem wC_X2_isFull : Cond.code yX2_isFull cX2_isFull 1 (some .boolean) ∈ GW := tm4 (List.mem_of_getElem? (i := 99) rfl) rfl
theorem wL_X5_242 : Cond.methodLink RX5 242 yX2_add ∈ GW := tm4 (List.mem_of_getElem? (i := 101) rfl) rfl
theorem wI_X2_add : Cond.instanceMethod yX2_add ∈ GW := tm4 (List.mem_of_getElem? (i := 102) rfl) rfl
theorem wSe_X2_X2_add : Cond.selects RX2 yX2_add yX2_add ∈ GW := tm4 (List.mem_of_getElem? (i := 103) rfl) rfl
theorem wC_X2_add : Cond.code yX2_add cX2_add 2 none ∈ GW := tm4 (List.mem_of_getElem? (i := 104) rfl) rfl
theorem wL_L_165 : Cond.methodLink RL 165 yL_undo ∈ GW := tm4 (List.mem_of_getElem? (i := 105) rfl) rfl
theorem wS_L_undo : Cond.static yL_undo ∈ GW := tm4 (List.mem_of_getElem? (i := 106) rfl) rfl
theorem wC_L_undo : Cond.codeWith yL_undo cL_undo 3 (some .int) [(0, 8, 11, 21)] ∈ GW := tm4 (List.mem_of_getElem? (i := 107) rfl) rfl
theorem wL_L_70 : Cond.methodLink RL 70 yX5_undo ∈ GW := tm4 (List.mem_of_getElem? (i := 108) rfl) rfl
theorem wI_X5_undo : Cond.instanceMethod yX5_undo ∈ GW := tm4 (List.mem_of_getElem? (i := 109) rfl) rfl
theorem wSe_X5_X5_undo : Cond.selects RX5 yX5_undo yX5_undo ∈ GW := tm4 (List.mem_of_getElem? (i := 110) rfl) rfl
theorem wC_X5_undo : Cond.code yX5_undo cX5_undo 2 (some .int) ∈ GW := tm4 (List.mem_of_getElem? (i := 111) rfl) rfl
theorem wK_L_74 : Cond.classLink RL 74 RX6 ∈ GW := tm4 (List.mem_of_getElem? (i := 113) rfl) rfl
theorem wIb_X6 : Cond.instantiable RX6 30 ∈ GW := tm4 (List.mem_of_getElem? (i := 114) rfl) rfl
theorem wL_L_76 : Cond.methodLink RL 76 yX6_init ∈ GW := tm4 (List.mem_of_getElem? (i := 115) rfl) rfl
theorem wI_X6_init : Cond.instanceMethod yX6_init ∈ GW := tm4 (List.mem_of_getElem? (i := 116) rfl) rfl
theorem wC_X6_init : Cond.code yX6_init cX6_init 1 none ∈ GW := tm4 (List.mem_of_getElem? (i := 117) rfl) rfl
theorem wL_X6_1 : Cond.methodLink RX6 1 ⟨"java/lang/Object", "<init>", "()V"⟩ ∈ GW := tm4 (List.mem_of_getElem? (i := 118) rfl) rfl
theorem wF_X6_7 : Cond.fieldLink RX6 7 "PledgeRingsModel" "now" "[I" ∈ GW := tm4 (List.mem_of_getElem? (i := 119) rfl) rfl
theorem wF_X6_13 : Cond.fieldLink RX6 13 "PledgeRingsModel" "tried" "[I" ∈ GW := tm4 (List.mem_of_getElem? (i := 120) rfl) rfl
theorem wF_X6_16 : Cond.fieldLink RX6 16 "PledgeRingsModel" "saved" "[I" ∈ GW := tm4 (List.mem_of_getElem? (i := 121) rfl) rfl
theorem wF_X6_72 : Cond.fieldLink RX6 72 "PledgeRingsModel" "states" "I" ∈ GW := tm4 (List.mem_of_getElem? (i := 122) rfl) rfl
theorem wF_X6_19 : Cond.fieldLink RX6 19 "PledgeRingsModel" "text" "[I" ∈ GW := tm4 (List.mem_of_getElem? (i := 123) rfl) rfl
theorem wF_X6_207 : Cond.fieldLink RX6 207 "PledgeRingsModel" "letters" "I" ∈ GW := tm4 (List.mem_of_getElem? (i := 124) rfl) rfl
theorem wF_X6_64 : Cond.fieldLink RX6 64 "PledgeRingsModel" "thrown" "I" ∈ GW := tm4 (List.mem_of_getElem? (i := 125) rfl) rfl
theorem wF_X6_22 : Cond.fieldLink RX6 22 "PledgeRingsModel" "debts" "[I" ∈ GW := tm4 (List.mem_of_getElem? (i := 126) rfl) rfl
theorem wF_X6_25 : Cond.fieldLink RX6 25 "PledgeRingsModel" "byRate" "[I" ∈ GW := tm4 (List.mem_of_getElem? (i := 127) rfl) rfl
theorem wF_X6_83 : Cond.fieldLink RX6 83 "PledgeRingsModel" "parties" "I" ∈ GW := tm4 (List.mem_of_getElem? (i := 128) rfl) rfl
theorem wF_X6_28 : Cond.fieldLink RX6 28 "PledgeRingsModel" "row" "[I" ∈ GW := tm4 (List.mem_of_getElem? (i := 129) rfl) rfl
theorem wF_X6_31 : Cond.fieldLink RX6 31 "PledgeRingsModel" "next" "[I" ∈ GW := tm4 (List.mem_of_getElem? (i := 130) rfl) rfl
theorem wF_X6_86 : Cond.fieldLink RX6 86 "PledgeRingsModel" "length" "I" ∈ GW := tm4 (List.mem_of_getElem? (i := 131) rfl) rfl
theorem wF_X6_121 : Cond.fieldLink RX6 121 "PledgeRingsModel" "bestNumber" "I" ∈ GW := tm4 (List.mem_of_getElem? (i := 132) rfl) rfl
theorem wF_X6_124 : Cond.fieldLink RX6 124 "PledgeRingsModel" "bestSaving" "I" ∈ GW := tm4 (List.mem_of_getElem? (i := 133) rfl) rfl
theorem wF_X6_34 : Cond.fieldLink RX6 34 "PledgeRingsModel" "bestRow" "[I" ∈ GW := tm4 (List.mem_of_getElem? (i := 134) rfl) rfl
theorem wF_X6_131 : Cond.fieldLink RX6 131 "PledgeRingsModel" "bestLength" "I" ∈ GW := tm4 (List.mem_of_getElem? (i := 135) rfl) rfl
theorem wF_X6_37 : Cond.fieldLink RX6 37 "PledgeRingsModel" "stays" "[I" ∈ GW := tm4 (List.mem_of_getElem? (i := 136) rfl) rfl
theorem wF_X6_40 : Cond.fieldLink RX6 40 "PledgeRingsModel" "lacks" "[I" ∈ GW := tm4 (List.mem_of_getElem? (i := 137) rfl) rfl
theorem wF_X6_43 : Cond.fieldLink RX6 43 "PledgeRingsModel" "far" "[I" ∈ GW := tm4 (List.mem_of_getElem? (i := 138) rfl) rfl
theorem wF_X6_46 : Cond.fieldLink RX6 46 "PledgeRingsModel" "by" "[I" ∈ GW := tm4 (List.mem_of_getElem? (i := 139) rfl) rfl
theorem wF_X6_210 : Cond.fieldLink RX6 210 "PledgeRingsModel" "at" "I" ∈ GW := tm4 (List.mem_of_getElem? (i := 140) rfl) rfl
theorem wF_X6_213 : Cond.fieldLink RX6 213 "PledgeRingsModel" "wrong" "I" ∈ GW := tm4 (List.mem_of_getElem? (i := 141) rfl) rfl
theorem wF_X6_222 : Cond.fieldLink RX6 222 "PledgeRingsModel" "number" "I" ∈ GW := tm4 (List.mem_of_getElem? (i := 142) rfl) rfl
theorem wF_X6_229 : Cond.fieldLink RX6 229 "PledgeRingsModel" "orders" "I" ∈ GW := tm4 (List.mem_of_getElem? (i := 143) rfl) rfl
theorem wF_X6_49 : Cond.fieldLink RX6 49 "PledgeRingsModel" "whats" "[I" ∈ GW := tm4 (List.mem_of_getElem? (i := 144) rfl) rfl
theorem wF_X6_52 : Cond.fieldLink RX6 52 "PledgeRingsModel" "firsts" "[I" ∈ GW := tm4 (List.mem_of_getElem? (i := 145) rfl) rfl
theorem wF_X6_55 : Cond.fieldLink RX6 55 "PledgeRingsModel" "seconds" "[I" ∈ GW := tm4 (List.mem_of_getElem? (i := 146) rfl) rfl
theorem wF_X6_58 : Cond.fieldLink RX6 58 "PledgeRingsModel" "amounts" "[I" ∈ GW := tm4 (List.mem_of_getElem? (i := 147) rfl) rfl
theorem wF_X6_61 : Cond.fieldLink RX6 61 "PledgeRingsModel" "rates" "[I" ∈ GW := tm4 (List.mem_of_getElem? (i := 148) rfl) rfl
theorem wY_X6_now : Cond.laysFinal RX6 "PledgeRingsModel" "now" "[I" ∈ GW := tm4 (List.mem_of_getElem? (i := 149) rfl) rfl
theorem wY_X6_tried : Cond.laysFinal RX6 "PledgeRingsModel" "tried" "[I" ∈ GW := tm4 (List.mem_of_getElem? (i := 151) rfl) rfl
theorem wY_X6_saved : Cond.laysFinal RX6 "PledgeRingsModel" "saved" "[I" ∈ GW := tm4 (List.mem_of_getElem? (i := 153) rfl) rfl
theorem wY_X6_states : Cond.lays RX6 "PledgeRingsModel" "states" "I" ∈ GW := tm4 (List.mem_of_getElem? (i := 155) rfl) rfl
theorem wY_X6_text : Cond.laysFinal RX6 "PledgeRingsModel" "text" "[I" ∈ GW := tm4 (List.mem_of_getElem? (i := 157) rfl) rfl
theorem wY_X6_letters : Cond.lays RX6 "PledgeRingsModel" "letters" "I" ∈ GW := tm4 (List.mem_of_getElem? (i := 159) rfl) rfl
theorem wY_X6_thrown : Cond.lays RX6 "PledgeRingsModel" "thrown" "I" ∈ GW := tm4 (List.mem_of_getElem? (i := 161) rfl) rfl
theorem wY_X6_debts : Cond.laysFinal RX6 "PledgeRingsModel" "debts" "[I" ∈ GW := tm4 (List.mem_of_getElem? (i := 163) rfl) rfl
theorem wY_X6_byRate : Cond.laysFinal RX6 "PledgeRingsModel" "byRate" "[I" ∈ GW := tm4 (List.mem_of_getElem? (i := 165) rfl) rfl
theorem wY_X6_parties : Cond.lays RX6 "PledgeRingsModel" "parties" "I" ∈ GW := tm4 (List.mem_of_getElem? (i := 167) rfl) rfl
theorem wY_X6_row : Cond.laysFinal RX6 "PledgeRingsModel" "row" "[I" ∈ GW := tm4 (List.mem_of_getElem? (i := 169) rfl) rfl
theorem wY_X6_next : Cond.laysFinal RX6 "PledgeRingsModel" "next" "[I" ∈ GW := tm4 (List.mem_of_getElem? (i := 171) rfl) rfl
theorem wY_X6_length : Cond.lays RX6 "PledgeRingsModel" "length" "I" ∈ GW := tm4 (List.mem_of_getElem? (i := 173) rfl) rfl
theorem wY_X6_bestNumber : Cond.lays RX6 "PledgeRingsModel" "bestNumber" "I" ∈ GW := tm4 (List.mem_of_getElem? (i := 175) rfl) rfl
theorem wY_X6_bestSaving : Cond.lays RX6 "PledgeRingsModel" "bestSaving" "I" ∈ GW := tm4 (List.mem_of_getElem? (i := 177) rfl) rfl
theorem wY_X6_bestRow : Cond.laysFinal RX6 "PledgeRingsModel" "bestRow" "[I" ∈ GW := tm4 (List.mem_of_getElem? (i := 179) rfl) rfl
theorem wY_X6_bestLength : Cond.lays RX6 "PledgeRingsModel" "bestLength" "I" ∈ GW := tm4 (List.mem_of_getElem? (i := 181) rfl) rfl
theorem wY_X6_stays : Cond.laysFinal RX6 "PledgeRingsModel" "stays" "[I" ∈ GW := tm4 (List.mem_of_getElem? (i := 183) rfl) rfl
theorem wY_X6_lacks : Cond.laysFinal RX6 "PledgeRingsModel" "lacks" "[I" ∈ GW := tm4 (List.mem_of_getElem? (i := 185) rfl) rfl
theorem wY_X6_far : Cond.laysFinal RX6 "PledgeRingsModel" "far" "[I" ∈ GW := tm4 (List.mem_of_getElem? (i := 187) rfl) rfl
theorem wY_X6_by : Cond.laysFinal RX6 "PledgeRingsModel" "by" "[I" ∈ GW := tm4 (List.mem_of_getElem? (i := 189) rfl) rfl
theorem wY_X6_at : Cond.lays RX6 "PledgeRingsModel" "at" "I" ∈ GW := tm4 (List.mem_of_getElem? (i := 191) rfl) rfl
theorem wY_X6_wrong : Cond.lays RX6 "PledgeRingsModel" "wrong" "I" ∈ GW := tm4 (List.mem_of_getElem? (i := 193) rfl) rfl
theorem wY_X6_number : Cond.lays RX6 "PledgeRingsModel" "number" "I" ∈ GW := tm4 (List.mem_of_getElem? (i := 195) rfl) rfl
theorem wY_X6_orders : Cond.lays RX6 "PledgeRingsModel" "orders" "I" ∈ GW := tm4 (List.mem_of_getElem? (i := 197) rfl) rfl
theorem wY_X6_whats : Cond.laysFinal RX6 "PledgeRingsModel" "whats" "[I" ∈ GW := tm4 (List.mem_of_getElem? (i := 199) rfl) rfl
theorem wY_X6_firsts : Cond.laysFinal RX6 "PledgeRingsModel" "firsts" "[I" ∈ GW := tm4 (List.mem_of_getElem? (i := 201) rfl) rfl
theorem wY_X6_seconds : Cond.laysFinal RX6 "PledgeRingsModel" "seconds" "[I" ∈ GW := tm4 (List.mem_of_getElem? (i := 203) rfl) rfl
theorem wY_X6_amounts : Cond.laysFinal RX6 "PledgeRingsModel" "amounts" "[I" ∈ GW := tm4 (List.mem_of_getElem? (i := 205) rfl) rfl
theorem wY_X6_rates : Cond.laysFinal RX6 "PledgeRingsModel" "rates" "[I" ∈ GW := tm4 (List.mem_of_getElem? (i := 207) rfl) rfl
theorem wL_L_83 : Cond.methodLink RL 83 yX6_thrown ∈ GW := tm4 (List.mem_of_getElem? (i := 210) rfl) rfl
theorem wI_X6_thrown : Cond.instanceMethod yX6_thrown ∈ GW := tm4 (List.mem_of_getElem? (i := 211) rfl) rfl
theorem wSe_X6_X6_thrown : Cond.selects RX6 yX6_thrown yX6_thrown ∈ GW := tm4 (List.mem_of_getElem? (i := 212) rfl) rfl
theorem wC_X6_thrown : Cond.code yX6_thrown cX6_thrown 1 (some .int) ∈ GW := tm4 (List.mem_of_getElem? (i := 213) rfl) rfl
theorem wL_L_82 : Cond.methodLink RL 82 yX6_begin ∈ GW := tm4 (List.mem_of_getElem? (i := 214) rfl) rfl
theorem wI_X6_begin : Cond.instanceMethod yX6_begin ∈ GW := tm4 (List.mem_of_getElem? (i := 215) rfl) rfl
theorem wSe_X6_X6_begin : Cond.selects RX6 yX6_begin yX6_begin ∈ GW := tm4 (List.mem_of_getElem? (i := 216) rfl) rfl
theorem wC_X6_begin : Cond.code yX6_begin cX6_begin 4 (some .int) ∈ GW := tm4 (List.mem_of_getElem? (i := 217) rfl) rfl
theorem wL_X6_68 : Cond.methodLink RX6 68 yX6_in ∈ GW := tm4 (List.mem_of_getElem? (i := 218) rfl) rfl
theorem wS_X6_in : Cond.static yX6_in ∈ GW := tm4 (List.mem_of_getElem? (i := 219) rfl) rfl
theorem wC_X6_in : Cond.code yX6_in cX6_in 3 (some .boolean) ∈ GW := tm4 (List.mem_of_getElem? (i := 220) rfl) rfl
theorem wL_X6_146 : Cond.methodLink RX6 146 yX6_goes ∈ GW := tm4 (List.mem_of_getElem? (i := 221) rfl) rfl
theorem wI_X6_goes : Cond.instanceMethod yX6_goes ∈ GW := tm4 (List.mem_of_getElem? (i := 223) rfl) rfl
theorem wC_X6_goes : Cond.code yX6_goes cX6_goes 4 (some .boolean) ∈ GW := tm4 (List.mem_of_getElem? (i := 224) rfl) rfl
theorem wL_X6_150 : Cond.methodLink RX6 150 yX6_saves ∈ GW := tm4 (List.mem_of_getElem? (i := 225) rfl) rfl
theorem wI_X6_saves : Cond.instanceMethod yX6_saves ∈ GW := tm4 (List.mem_of_getElem? (i := 227) rfl) rfl
theorem wC_X6_saves : Cond.code yX6_saves cX6_saves 2 none ∈ GW := tm4 (List.mem_of_getElem? (i := 228) rfl) rfl
theorem wL_X6_75 : Cond.methodLink RX6 75 yX6_copies ∈ GW := tm4 (List.mem_of_getElem? (i := 229) rfl) rfl
theorem wS_X6_copies : Cond.static yX6_copies ∈ GW := tm4 (List.mem_of_getElem? (i := 230) rfl) rfl
theorem wC_X6_copies : Cond.code yX6_copies cX6_copies 5 none ∈ GW := tm4 (List.mem_of_getElem? (i := 231) rfl) rfl
theorem wL_L_89 : Cond.methodLink RL 89 yX6_promise ∈ GW := tm4 (List.mem_of_getElem? (i := 232) rfl) rfl
theorem wI_X6_promise : Cond.instanceMethod yX6_promise ∈ GW := tm4 (List.mem_of_getElem? (i := 233) rfl) rfl
theorem wSe_X6_X6_promise : Cond.selects RX6 yX6_promise yX6_promise ∈ GW := tm4 (List.mem_of_getElem? (i := 234) rfl) rfl
theorem wC_X6_promise : Cond.code yX6_promise cX6_promise 6 (some .int) ∈ GW := tm4 (List.mem_of_getElem? (i := 235) rfl) rfl
theorem wL_X6_153 : Cond.methodLink RX6 153 yX6_isParty ∈ GW := tm4 (List.mem_of_getElem? (i := 236) rfl) rfl
theorem wI_X6_isParty : Cond.instanceMethod yX6_isParty ∈ GW := tm4 (List.mem_of_getElem? (i := 238) rfl) rfl
theorem wC_X6_isParty : Cond.code yX6_isParty cX6_isParty 2 (some .boolean) ∈ GW := tm4 (List.mem_of_getElem? (i := 239) rfl) rfl
theorem wL_X6_156 : Cond.methodLink RX6 156 yX6_makes ∈ GW := tm5 (List.mem_of_getElem? (i := 0) rfl) rfl
theorem wI_X6_makes : Cond.instanceMethod yX6_makes ∈ GW := tm5 (List.mem_of_getElem? (i := 2) rfl) rfl
theorem wC_X6_makes : Cond.code yX6_makes cX6_makes 6 none ∈ GW := tm5 (List.mem_of_getElem? (i := 3) rfl) rfl
theorem wL_X6_79 : Cond.methodLink RX6 79 yX6_p ∈ GW := tm5 (List.mem_of_getElem? (i := 4) rfl) rfl
theorem wS_X6_p : Cond.static yX6_p ∈ GW := tm5 (List.mem_of_getElem? (i := 5) rfl) rfl
theorem wC_X6_p : Cond.code yX6_p cX6_p 2 (some .int) ∈ GW := tm5 (List.mem_of_getElem? (i := 6) rfl) rfl
theorem wL_L_93 : Cond.methodLink RL 93 yX6_pay ∈ GW := tm5 (List.mem_of_getElem? (i := 7) rfl) rfl
theorem wI_X6_pay : Cond.instanceMethod yX6_pay ∈ GW := tm5 (List.mem_of_getElem? (i := 8) rfl) rfl
theorem wSe_X6_X6_pay : Cond.selects RX6 yX6_pay yX6_pay ∈ GW := tm5 (List.mem_of_getElem? (i := 9) rfl) rfl
theorem wC_X6_pay : Cond.code yX6_pay cX6_pay 4 (some .int) ∈ GW := tm5 (List.mem_of_getElem? (i := 10) rfl) rfl
theorem wL_X6_160 : Cond.methodLink RX6 160 yX6_isPromise ∈ GW := tm5 (List.mem_of_getElem? (i := 11) rfl) rfl
theorem wI_X6_isPromise : Cond.instanceMethod yX6_isPromise ∈ GW := tm5 (List.mem_of_getElem? (i := 13) rfl) rfl
theorem wC_X6_isPromise : Cond.code yX6_isPromise cX6_isPromise 2 (some .boolean) ∈ GW := tm5 (List.mem_of_getElem? (i := 14) rfl) rfl
theorem wL_L_96 : Cond.methodLink RL 96 yX6_dispute ∈ GW := tm5 (List.mem_of_getElem? (i := 15) rfl) rfl
theorem wI_X6_dispute : Cond.instanceMethod yX6_dispute ∈ GW := tm5 (List.mem_of_getElem? (i := 16) rfl) rfl
theorem wSe_X6_X6_dispute : Cond.selects RX6 yX6_dispute yX6_dispute ∈ GW := tm5 (List.mem_of_getElem? (i := 17) rfl) rfl
theorem wC_X6_dispute : Cond.code yX6_dispute cX6_dispute 4 (some .int) ∈ GW := tm5 (List.mem_of_getElem? (i := 18) rfl) rfl
theorem wL_X6_163 : Cond.methodLink RX6 163 yX6_isFree ∈ GW := tm5 (List.mem_of_getElem? (i := 19) rfl) rfl
theorem wI_X6_isFree : Cond.instanceMethod yX6_isFree ∈ GW := tm5 (List.mem_of_getElem? (i := 21) rfl) rfl
theorem wC_X6_isFree : Cond.code yX6_isFree cX6_isFree 2 (some .boolean) ∈ GW := tm5 (List.mem_of_getElem? (i := 22) rfl) rfl
theorem wL_X6_166 : Cond.methodLink RX6 166 yX6_countRings ∈ GW := tm5 (List.mem_of_getElem? (i := 23) rfl) rfl
theorem wI_X6_countRings : Cond.instanceMethod yX6_countRings ∈ GW := tm5 (List.mem_of_getElem? (i := 25) rfl) rfl
theorem wC_X6_countRings : Cond.code yX6_countRings cX6_countRings 4 (some .int) ∈ GW := tm5 (List.mem_of_getElem? (i := 26) rfl) rfl
theorem wL_X6_96 : Cond.methodLink RX6 96 yX6_begins ∈ GW := tm5 (List.mem_of_getElem? (i := 27) rfl) rfl
theorem wI_X6_begins : Cond.instanceMethod yX6_begins ∈ GW := tm5 (List.mem_of_getElem? (i := 29) rfl) rfl
theorem wC_X6_begins : Cond.code yX6_begins cX6_begins 5 none ∈ GW := tm5 (List.mem_of_getElem? (i := 30) rfl) rfl
theorem wL_X6_100 : Cond.methodLink RX6 100 yX6_comes ∈ GW := tm5 (List.mem_of_getElem? (i := 31) rfl) rfl
theorem wI_X6_comes : Cond.instanceMethod yX6_comes ∈ GW := tm5 (List.mem_of_getElem? (i := 33) rfl) rfl
theorem wC_X6_comes : Cond.code yX6_comes cX6_comes 2 (some .boolean) ∈ GW := tm5 (List.mem_of_getElem? (i := 34) rfl) rfl
theorem wL_X6_93 : Cond.methodLink RX6 93 yX6_canCome ∈ GW := tm5 (List.mem_of_getElem? (i := 35) rfl) rfl
theorem wI_X6_canCome : Cond.instanceMethod yX6_canCome ∈ GW := tm5 (List.mem_of_getElem? (i := 37) rfl) rfl
theorem wC_X6_canCome : Cond.code yX6_canCome cX6_canCome 2 (some .boolean) ∈ GW := tm5 (List.mem_of_getElem? (i := 38) rfl) rfl
theorem wL_X6_89 : Cond.methodLink RX6 89 yX6_isInRow ∈ GW := tm5 (List.mem_of_getElem? (i := 39) rfl) rfl
theorem wI_X6_isInRow : Cond.instanceMethod yX6_isInRow ∈ GW := tm5 (List.mem_of_getElem? (i := 41) rfl) rfl
theorem wC_X6_isInRow : Cond.code yX6_isInRow cX6_isInRow 3 (some .boolean) ∈ GW := tm5 (List.mem_of_getElem? (i := 42) rfl) rfl
theorem wL_L_99 : Cond.methodLink RL 99 yX6_settle ∈ GW := tm5 (List.mem_of_getElem? (i := 43) rfl) rfl
theorem wI_X6_settle : Cond.instanceMethod yX6_settle ∈ GW := tm5 (List.mem_of_getElem? (i := 44) rfl) rfl
theorem wSe_X6_X6_settle : Cond.selects RX6 yX6_settle yX6_settle ∈ GW := tm5 (List.mem_of_getElem? (i := 45) rfl) rfl
theorem wC_X6_settle : Cond.code yX6_settle cX6_settle 3 (some .int) ∈ GW := tm5 (List.mem_of_getElem? (i := 46) rfl) rfl
theorem wL_L_102 : Cond.methodLink RL 102 yX6_discharge ∈ GW := tm5 (List.mem_of_getElem? (i := 47) rfl) rfl
theorem wI_X6_discharge : Cond.instanceMethod yX6_discharge ∈ GW := tm5 (List.mem_of_getElem? (i := 48) rfl) rfl
theorem wSe_X6_X6_discharge : Cond.selects RX6 yX6_discharge yX6_discharge ∈ GW := tm5 (List.mem_of_getElem? (i := 49) rfl) rfl
theorem wC_X6_discharge : Cond.code yX6_discharge cX6_discharge 4 (some .int) ∈ GW := tm5 (List.mem_of_getElem? (i := 50) rfl) rfl
theorem wL_X6_169 : Cond.methodLink RX6 169 yX6_findsRing ∈ GW := tm5 (List.mem_of_getElem? (i := 51) rfl) rfl
theorem wI_X6_findsRing : Cond.instanceMethod yX6_findsRing ∈ GW := tm5 (List.mem_of_getElem? (i := 53) rfl) rfl
theorem wC_X6_findsRing : Cond.code yX6_findsRing cX6_findsRing 3 (some .boolean) ∈ GW := tm5 (List.mem_of_getElem? (i := 54) rfl) rfl
theorem wL_X6_127 : Cond.methodLink RX6 127 yX6_roomOf ∈ GW := tm5 (List.mem_of_getElem? (i := 55) rfl) rfl
theorem wI_X6_roomOf : Cond.instanceMethod yX6_roomOf ∈ GW := tm5 (List.mem_of_getElem? (i := 57) rfl) rfl
theorem wC_X6_roomOf : Cond.code yX6_roomOf cX6_roomOf 3 (some .int) ∈ GW := tm5 (List.mem_of_getElem? (i := 58) rfl) rfl
theorem wL_X6_104 : Cond.methodLink RX6 104 yX6_least ∈ GW := tm5 (List.mem_of_getElem? (i := 59) rfl) rfl
theorem wS_X6_least : Cond.static yX6_least ∈ GW := tm5 (List.mem_of_getElem? (i := 60) rfl) rfl
theorem wC_X6_least : Cond.code yX6_least cX6_least 2 (some .int) ∈ GW := tm5 (List.mem_of_getElem? (i := 61) rfl) rfl
theorem wL_X6_134 : Cond.methodLink RX6 134 yX6_discharges ∈ GW := tm5 (List.mem_of_getElem? (i := 62) rfl) rfl
theorem wI_X6_discharges : Cond.instanceMethod yX6_discharges ∈ GW := tm5 (List.mem_of_getElem? (i := 64) rfl) rfl
theorem wC_X6_discharges : Cond.code yX6_discharges cX6_discharges 5 (some .int) ∈ GW := tm5 (List.mem_of_getElem? (i := 65) rfl) rfl
theorem wL_X6_114 : Cond.methodLink RX6 114 yX6_savingBy ∈ GW := tm5 (List.mem_of_getElem? (i := 66) rfl) rfl
theorem wI_X6_savingBy : Cond.instanceMethod yX6_savingBy ∈ GW := tm5 (List.mem_of_getElem? (i := 68) rfl) rfl
theorem wC_X6_savingBy : Cond.code yX6_savingBy cX6_savingBy 4 (some .int) ∈ GW := tm5 (List.mem_of_getElem? (i := 69) rfl) rfl
theorem wL_X6_107 : Cond.methodLink RX6 107 yX6_follower ∈ GW := tm5 (List.mem_of_getElem? (i := 70) rfl) rfl
theorem wI_X6_follower : Cond.instanceMethod yX6_follower ∈ GW := tm5 (List.mem_of_getElem? (i := 72) rfl) rfl
theorem wC_X6_follower : Cond.code yX6_follower cX6_follower 2 (some .int) ∈ GW := tm5 (List.mem_of_getElem? (i := 73) rfl) rfl
theorem wL_X6_111 : Cond.methodLink RX6 111 yX6_costBy ∈ GW := tm5 (List.mem_of_getElem? (i := 74) rfl) rfl
theorem wI_X6_costBy : Cond.instanceMethod yX6_costBy ∈ GW := tm5 (List.mem_of_getElem? (i := 76) rfl) rfl
theorem wC_X6_costBy : Cond.code yX6_costBy cX6_costBy 7 (some .int) ∈ GW := tm5 (List.mem_of_getElem? (i := 77) rfl) rfl
theorem wL_X6_117 : Cond.methodLink RX6 117 yX6_releases ∈ GW := tm5 (List.mem_of_getElem? (i := 78) rfl) rfl
theorem wS_X6_releases : Cond.static yX6_releases ∈ GW := tm5 (List.mem_of_getElem? (i := 79) rfl) rfl
theorem wC_X6_releases : Cond.code yX6_releases cX6_releases 9 none ∈ GW := tm5 (List.mem_of_getElem? (i := 80) rfl) rfl
theorem wL_L_106 : Cond.methodLink RL 106 yX6_dischargeBest ∈ GW := tm5 (List.mem_of_getElem? (i := 81) rfl) rfl
theorem wI_X6_dischargeBest : Cond.instanceMethod yX6_dischargeBest ∈ GW := tm5 (List.mem_of_getElem? (i := 82) rfl) rfl
theorem wSe_X6_X6_dischargeBest : Cond.selects RX6 yX6_dischargeBest yX6_dischargeBest ∈ GW := tm5 (List.mem_of_getElem? (i := 83) rfl) rfl
theorem wC_X6_dischargeBest : Cond.code yX6_dischargeBest cX6_dischargeBest 1 (some .int) ∈ GW := tm5 (List.mem_of_getElem? (i := 84) rfl) rfl
theorem wL_X6_138 : Cond.methodLink RX6 138 yX6_findsBest ∈ GW := tm5 (List.mem_of_getElem? (i := 85) rfl) rfl
theorem wI_X6_findsBest : Cond.instanceMethod yX6_findsBest ∈ GW := tm5 (List.mem_of_getElem? (i := 87) rfl) rfl
theorem wC_X6_findsBest : Cond.code yX6_findsBest cX6_findsBest 5 (some .boolean) ∈ GW := tm5 (List.mem_of_getElem? (i := 88) rfl) rfl
theorem wL_X6_142 : Cond.methodLink RX6 142 yX6_dischargesBest ∈ GW := tm5 (List.mem_of_getElem? (i := 89) rfl) rfl
theorem wI_X6_dischargesBest : Cond.instanceMethod yX6_dischargesBest ∈ GW := tm5 (List.mem_of_getElem? (i := 91) rfl) rfl
theorem wC_X6_dischargesBest : Cond.code yX6_dischargesBest cX6_dischargesBest 3 none ∈ GW := tm5 (List.mem_of_getElem? (i := 92) rfl) rfl
theorem wL_L_110 : Cond.methodLink RL 110 yX6_dischargeAll ∈ GW := tm5 (List.mem_of_getElem? (i := 93) rfl) rfl
theorem wI_X6_dischargeAll : Cond.instanceMethod yX6_dischargeAll ∈ GW := tm5 (List.mem_of_getElem? (i := 94) rfl) rfl
theorem wSe_X6_X6_dischargeAll : Cond.selects RX6 yX6_dischargeAll yX6_dischargeAll ∈ GW := tm5 (List.mem_of_getElem? (i := 95) rfl) rfl
theorem wC_X6_dischargeAll : Cond.code yX6_dischargeAll cX6_dischargeAll 1 (some .int) ∈ GW := tm5 (List.mem_of_getElem? (i := 96) rfl) rfl
theorem wL_X6_172 : Cond.methodLink RX6 172 yX6_dischargesAll ∈ GW := tm5 (List.mem_of_getElem? (i := 97) rfl) rfl
theorem wI_X6_dischargesAll : Cond.instanceMethod yX6_dischargesAll ∈ GW := tm5 (List.mem_of_getElem? (i := 99) rfl) rfl
theorem wC_X6_dischargesAll : Cond.code yX6_dischargesAll cX6_dischargesAll 3 (some .int) ∈ GW := tm5 (List.mem_of_getElem? (i := 100) rfl) rfl
theorem wL_L_113 : Cond.methodLink RL 113 yX6_promiseOf ∈ GW := tm5 (List.mem_of_getElem? (i := 101) rfl) rfl
theorem wI_X6_promiseOf : Cond.instanceMethod yX6_promiseOf ∈ GW := tm5 (List.mem_of_getElem? (i := 102) rfl) rfl
theorem wSe_X6_X6_promiseOf : Cond.selects RX6 yX6_promiseOf yX6_promiseOf ∈ GW := tm5 (List.mem_of_getElem? (i := 103) rfl) rfl
theorem wC_X6_promiseOf : Cond.code yX6_promiseOf cX6_promiseOf 3 (some .int) ∈ GW := tm5 (List.mem_of_getElem? (i := 104) rfl) rfl
theorem wL_L_116 : Cond.methodLink RL 116 yX6_debt ∈ GW := tm5 (List.mem_of_getElem? (i := 105) rfl) rfl
theorem wI_X6_debt : Cond.instanceMethod yX6_debt ∈ GW := tm5 (List.mem_of_getElem? (i := 106) rfl) rfl
theorem wSe_X6_X6_debt : Cond.selects RX6 yX6_debt yX6_debt ∈ GW := tm5 (List.mem_of_getElem? (i := 107) rfl) rfl
theorem wC_X6_debt : Cond.code yX6_debt cX6_debt 3 (some .int) ∈ GW := tm5 (List.mem_of_getElem? (i := 108) rfl) rfl
theorem wL_X6_176 : Cond.methodLink RX6 176 yX6_debtOf ∈ GW := tm5 (List.mem_of_getElem? (i := 109) rfl) rfl
theorem wI_X6_debtOf : Cond.instanceMethod yX6_debtOf ∈ GW := tm5 (List.mem_of_getElem? (i := 111) rfl) rfl
theorem wC_X6_debtOf : Cond.code yX6_debtOf cX6_debtOf 3 (some .int) ∈ GW := tm5 (List.mem_of_getElem? (i := 112) rfl) rfl
theorem wL_L_119 : Cond.methodLink RL 119 yX6_net ∈ GW := tm5 (List.mem_of_getElem? (i := 113) rfl) rfl
theorem wI_X6_net : Cond.instanceMethod yX6_net ∈ GW := tm5 (List.mem_of_getElem? (i := 114) rfl) rfl
theorem wSe_X6_X6_net : Cond.selects RX6 yX6_net yX6_net ∈ GW := tm5 (List.mem_of_getElem? (i := 115) rfl) rfl
theorem wC_X6_net : Cond.code yX6_net cX6_net 2 (some .int) ∈ GW := tm5 (List.mem_of_getElem? (i := 116) rfl) rfl
theorem wL_X6_179 : Cond.methodLink RX6 179 yX6_netOf ∈ GW := tm5 (List.mem_of_getElem? (i := 117) rfl) rfl
theorem wI_X6_netOf : Cond.instanceMethod yX6_netOf ∈ GW := tm5 (List.mem_of_getElem? (i := 119) rfl) rfl
theorem wC_X6_netOf : Cond.code yX6_netOf cX6_netOf 4 (some .int) ∈ GW := tm5 (List.mem_of_getElem? (i := 120) rfl) rfl
theorem wL_L_122 : Cond.methodLink RL 122 yX6_ring ∈ GW := tm5 (List.mem_of_getElem? (i := 121) rfl) rfl
theorem wI_X6_ring : Cond.instanceMethod yX6_ring ∈ GW := tm5 (List.mem_of_getElem? (i := 122) rfl) rfl
theorem wSe_X6_X6_ring : Cond.selects RX6 yX6_ring yX6_ring ∈ GW := tm5 (List.mem_of_getElem? (i := 123) rfl) rfl
theorem wC_X6_ring : Cond.code yX6_ring cX6_ring 3 (some .int) ∈ GW := tm5 (List.mem_of_getElem? (i := 124) rfl) rfl
theorem wL_L_125 : Cond.methodLink RL 125 yX6_room ∈ GW := tm5 (List.mem_of_getElem? (i := 125) rfl) rfl
theorem wI_X6_room : Cond.instanceMethod yX6_room ∈ GW := tm5 (List.mem_of_getElem? (i := 126) rfl) rfl
theorem wSe_X6_X6_room : Cond.selects RX6 yX6_room yX6_room ∈ GW := tm5 (List.mem_of_getElem? (i := 127) rfl) rfl
theorem wC_X6_room : Cond.code yX6_room cX6_room 2 (some .int) ∈ GW := tm5 (List.mem_of_getElem? (i := 128) rfl) rfl
theorem wL_L_128 : Cond.methodLink RL 128 yX6_value ∈ GW := tm5 (List.mem_of_getElem? (i := 129) rfl) rfl
theorem wI_X6_value : Cond.instanceMethod yX6_value ∈ GW := tm5 (List.mem_of_getElem? (i := 130) rfl) rfl
theorem wSe_X6_X6_value : Cond.selects RX6 yX6_value yX6_value ∈ GW := tm5 (List.mem_of_getElem? (i := 131) rfl) rfl
theorem wC_X6_value : Cond.code yX6_value cX6_value 2 (some .int) ∈ GW := tm5 (List.mem_of_getElem? (i := 132) rfl) rfl
theorem wL_X6_185 : Cond.methodLink RX6 185 yX6_one ∈ GW := tm5 (List.mem_of_getElem? (i := 133) rfl) rfl
theorem wI_X6_one : Cond.instanceMethod yX6_one ∈ GW := tm5 (List.mem_of_getElem? (i := 135) rfl) rfl
theorem wC_X6_one : Cond.code yX6_one cX6_one 8 (some .int) ∈ GW := tm5 (List.mem_of_getElem? (i := 136) rfl) rfl
theorem wL_X6_182 : Cond.methodLink RX6 182 yX6_costOf ∈ GW := tm5 (List.mem_of_getElem? (i := 137) rfl) rfl
theorem wS_X6_costOf : Cond.static yX6_costOf ∈ GW := tm5 (List.mem_of_getElem? (i := 138) rfl) rfl
theorem wC_X6_costOf : Cond.code yX6_costOf cX6_costOf 3 (some .int) ∈ GW := tm5 (List.mem_of_getElem? (i := 139) rfl) rfl
theorem wL_L_131 : Cond.methodLink RL 131 yX6_saving ∈ GW := tm5 (List.mem_of_getElem? (i := 140) rfl) rfl
theorem wI_X6_saving : Cond.instanceMethod yX6_saving ∈ GW := tm5 (List.mem_of_getElem? (i := 141) rfl) rfl
theorem wSe_X6_X6_saving : Cond.selects RX6 yX6_saving yX6_saving ∈ GW := tm5 (List.mem_of_getElem? (i := 142) rfl) rfl
theorem wC_X6_saving : Cond.code yX6_saving cX6_saving 2 (some .int) ∈ GW := tm5 (List.mem_of_getElem? (i := 143) rfl) rfl
theorem wL_L_135 : Cond.methodLink RL 135 yX6_bestRing ∈ GW := tm5 (List.mem_of_getElem? (i := 144) rfl) rfl
theorem wI_X6_bestRing : Cond.instanceMethod yX6_bestRing ∈ GW := tm5 (List.mem_of_getElem? (i := 145) rfl) rfl
theorem wSe_X6_X6_bestRing : Cond.selects RX6 yX6_bestRing yX6_bestRing ∈ GW := tm5 (List.mem_of_getElem? (i := 146) rfl) rfl
theorem wC_X6_bestRing : Cond.code yX6_bestRing cX6_bestRing 1 (some .int) ∈ GW := tm5 (List.mem_of_getElem? (i := 147) rfl) rfl
theorem wL_L_139 : Cond.methodLink RL 139 yX6_costByRings ∈ GW := tm5 (List.mem_of_getElem? (i := 148) rfl) rfl
theorem wI_X6_costByRings : Cond.instanceMethod yX6_costByRings ∈ GW := tm5 (List.mem_of_getElem? (i := 149) rfl) rfl
theorem wSe_X6_X6_costByRings : Cond.selects RX6 yX6_costByRings yX6_costByRings ∈ GW := tm5 (List.mem_of_getElem? (i := 150) rfl) rfl
theorem wC_X6_costByRings : Cond.code yX6_costByRings cX6_costByRings 1 (some .int) ∈ GW := tm5 (List.mem_of_getElem? (i := 151) rfl) rfl
theorem wL_L_143 : Cond.methodLink RL 143 yX6_leastCost ∈ GW := tm5 (List.mem_of_getElem? (i := 152) rfl) rfl
theorem wI_X6_leastCost : Cond.instanceMethod yX6_leastCost ∈ GW := tm5 (List.mem_of_getElem? (i := 153) rfl) rfl
theorem wSe_X6_X6_leastCost : Cond.selects RX6 yX6_leastCost yX6_leastCost ∈ GW := tm5 (List.mem_of_getElem? (i := 154) rfl) rfl
theorem wC_X6_leastCost : Cond.code yX6_leastCost cX6_leastCost 1 (some .int) ∈ GW := tm5 (List.mem_of_getElem? (i := 155) rfl) rfl
theorem wL_X6_204 : Cond.methodLink RX6 204 yX6_leastOf ∈ GW := tm5 (List.mem_of_getElem? (i := 156) rfl) rfl
theorem wI_X6_leastOf : Cond.instanceMethod yX6_leastOf ∈ GW := tm5 (List.mem_of_getElem? (i := 158) rfl) rfl
theorem wC_X6_leastOf : Cond.code yX6_leastOf cX6_leastOf 4 (some .int) ∈ GW := tm5 (List.mem_of_getElem? (i := 159) rfl) rfl
theorem wL_X6_194 : Cond.methodLink RX6 194 yX6_ways ∈ GW := tm5 (List.mem_of_getElem? (i := 160) rfl) rfl
theorem wI_X6_ways : Cond.instanceMethod yX6_ways ∈ GW := tm5 (List.mem_of_getElem? (i := 162) rfl) rfl
theorem wC_X6_ways : Cond.code yX6_ways cX6_ways 4 none ∈ GW := tm5 (List.mem_of_getElem? (i := 163) rfl) rfl
theorem wL_X6_188 : Cond.methodLink RX6 188 yX6_nears ∈ GW := tm5 (List.mem_of_getElem? (i := 164) rfl) rfl
theorem wI_X6_nears : Cond.instanceMethod yX6_nears ∈ GW := tm5 (List.mem_of_getElem? (i := 166) rfl) rfl
theorem wC_X6_nears : Cond.code yX6_nears cX6_nears 5 none ∈ GW := tm5 (List.mem_of_getElem? (i := 167) rfl) rfl
theorem wL_X6_197 : Cond.methodLink RX6 197 yX6_nearest ∈ GW := tm5 (List.mem_of_getElem? (i := 168) rfl) rfl
theorem wI_X6_nearest : Cond.instanceMethod yX6_nearest ∈ GW := tm5 (List.mem_of_getElem? (i := 170) rfl) rfl
theorem wC_X6_nearest : Cond.code yX6_nearest cX6_nearest 3 (some .int) ∈ GW := tm5 (List.mem_of_getElem? (i := 171) rfl) rfl
theorem wL_X6_200 : Cond.methodLink RX6 200 yX6_staysMore ∈ GW := tm5 (List.mem_of_getElem? (i := 172) rfl) rfl
theorem wI_X6_staysMore : Cond.instanceMethod yX6_staysMore ∈ GW := tm5 (List.mem_of_getElem? (i := 174) rfl) rfl
theorem wC_X6_staysMore : Cond.code yX6_staysMore cX6_staysMore 5 none ∈ GW := tm5 (List.mem_of_getElem? (i := 175) rfl) rfl
theorem wL_X6_191 : Cond.methodLink RX6 191 yX6_ahead ∈ GW := tm5 (List.mem_of_getElem? (i := 176) rfl) rfl
theorem wI_X6_ahead : Cond.instanceMethod yX6_ahead ∈ GW := tm5 (List.mem_of_getElem? (i := 178) rfl) rfl
theorem wC_X6_ahead : Cond.code yX6_ahead cX6_ahead 2 (some .int) ∈ GW := tm5 (List.mem_of_getElem? (i := 179) rfl) rfl
theorem wL_L_146 : Cond.methodLink RL 146 yX6_ringsWithout ∈ GW := tm5 (List.mem_of_getElem? (i := 180) rfl) rfl
theorem wI_X6_ringsWithout : Cond.instanceMethod yX6_ringsWithout ∈ GW := tm5 (List.mem_of_getElem? (i := 181) rfl) rfl
theorem wSe_X6_X6_ringsWithout : Cond.selects RX6 yX6_ringsWithout yX6_ringsWithout ∈ GW := tm5 (List.mem_of_getElem? (i := 182) rfl) rfl
theorem wC_X6_ringsWithout : Cond.code yX6_ringsWithout cX6_ringsWithout 2 (some .int) ∈ GW := tm5 (List.mem_of_getElem? (i := 183) rfl) rfl
theorem wL_L_150 : Cond.methodLink RL 150 yX6_keyPromise ∈ GW := tm5 (List.mem_of_getElem? (i := 184) rfl) rfl
theorem wI_X6_keyPromise : Cond.instanceMethod yX6_keyPromise ∈ GW := tm5 (List.mem_of_getElem? (i := 185) rfl) rfl
theorem wSe_X6_X6_keyPromise : Cond.selects RX6 yX6_keyPromise yX6_keyPromise ∈ GW := tm5 (List.mem_of_getElem? (i := 186) rfl) rfl
theorem wC_X6_keyPromise : Cond.code yX6_keyPromise cX6_keyPromise 6 (some .int) ∈ GW := tm5 (List.mem_of_getElem? (i := 187) rfl) rfl
theorem wL_L_153 : Cond.methodLink RL 153 yX6_mutual ∈ GW := tm5 (List.mem_of_getElem? (i := 188) rfl) rfl
theorem wI_X6_mutual : Cond.instanceMethod yX6_mutual ∈ GW := tm5 (List.mem_of_getElem? (i := 189) rfl) rfl
theorem wSe_X6_X6_mutual : Cond.selects RX6 yX6_mutual yX6_mutual ∈ GW := tm5 (List.mem_of_getElem? (i := 190) rfl) rfl
theorem wC_X6_mutual : Cond.code yX6_mutual cX6_mutual 4 (some .int) ∈ GW := tm5 (List.mem_of_getElem? (i := 191) rfl) rfl
theorem wL_L_156 : Cond.methodLink RL 156 yX6_append ∈ GW := tm5 (List.mem_of_getElem? (i := 192) rfl) rfl
theorem wI_X6_append : Cond.instanceMethod yX6_append ∈ GW := tm5 (List.mem_of_getElem? (i := 193) rfl) rfl
theorem wSe_X6_X6_append : Cond.selects RX6 yX6_append yX6_append ∈ GW := tm5 (List.mem_of_getElem? (i := 194) rfl) rfl
theorem wC_X6_append : Cond.code yX6_append cX6_append 2 (some .int) ∈ GW := tm5 (List.mem_of_getElem? (i := 195) rfl) rfl
theorem wL_L_160 : Cond.methodLink RL 160 yX6_clearText ∈ GW := tm5 (List.mem_of_getElem? (i := 196) rfl) rfl
theorem wI_X6_clearText : Cond.instanceMethod yX6_clearText ∈ GW := tm5 (List.mem_of_getElem? (i := 197) rfl) rfl
theorem wSe_X6_X6_clearText : Cond.selects RX6 yX6_clearText yX6_clearText ∈ GW := tm5 (List.mem_of_getElem? (i := 198) rfl) rfl
theorem wC_X6_clearText : Cond.code yX6_clearText cX6_clearText 2 (some .int) ∈ GW := tm5 (List.mem_of_getElem? (i := 199) rfl) rfl
theorem wL_L_164 : Cond.methodLink RL 164 yX6_carryOut ∈ GW := tm5 (List.mem_of_getElem? (i := 200) rfl) rfl
theorem wI_X6_carryOut : Cond.instanceMethod yX6_carryOut ∈ GW := tm5 (List.mem_of_getElem? (i := 201) rfl) rfl
theorem wSe_X6_X6_carryOut : Cond.selects RX6 yX6_carryOut yX6_carryOut ∈ GW := tm5 (List.mem_of_getElem? (i := 202) rfl) rfl
theorem wC_X6_carryOut : Cond.code yX6_carryOut cX6_carryOut 2 (some .int) ∈ GW := tm5 (List.mem_of_getElem? (i := 203) rfl) rfl
theorem wL_X6_239 : Cond.methodLink RX6 239 yX6_readsOrder ∈ GW := tm5 (List.mem_of_getElem? (i := 204) rfl) rfl
theorem wI_X6_readsOrder : Cond.instanceMethod yX6_readsOrder ∈ GW := tm5 (List.mem_of_getElem? (i := 206) rfl) rfl
theorem wC_X6_readsOrder : Cond.code yX6_readsOrder cX6_readsOrder 2 none ∈ GW := tm5 (List.mem_of_getElem? (i := 207) rfl) rfl
theorem wL_X6_216 : Cond.methodLink RX6 216 yX6_look ∈ GW := tm5 (List.mem_of_getElem? (i := 208) rfl) rfl
theorem wI_X6_look : Cond.instanceMethod yX6_look ∈ GW := tm5 (List.mem_of_getElem? (i := 210) rfl) rfl
theorem wC_X6_look : Cond.code yX6_look cX6_look 1 (some .int) ∈ GW := tm5 (List.mem_of_getElem? (i := 211) rfl) rfl
theorem wL_X6_225 : Cond.methodLink RX6 225 yX6_digit ∈ GW := tm5 (List.mem_of_getElem? (i := 212) rfl) rfl
theorem wI_X6_digit : Cond.instanceMethod yX6_digit ∈ GW := tm5 (List.mem_of_getElem? (i := 214) rfl) rfl
theorem wC_X6_digit : Cond.code yX6_digit cX6_digit 3 none ∈ GW := tm5 (List.mem_of_getElem? (i := 215) rfl) rfl
theorem wL_X6_219 : Cond.methodLink RX6 219 yX6_fails ∈ GW := tm5 (List.mem_of_getElem? (i := 216) rfl) rfl
theorem wI_X6_fails : Cond.instanceMethod yX6_fails ∈ GW := tm5 (List.mem_of_getElem? (i := 218) rfl) rfl
theorem wC_X6_fails : Cond.code yX6_fails cX6_fails 2 none ∈ GW := tm5 (List.mem_of_getElem? (i := 219) rfl) rfl
theorem wL_X6_232 : Cond.methodLink RX6 232 yX6_sign ∈ GW := tm5 (List.mem_of_getElem? (i := 220) rfl) rfl
theorem wI_X6_sign : Cond.instanceMethod yX6_sign ∈ GW := tm5 (List.mem_of_getElem? (i := 222) rfl) rfl
theorem wC_X6_sign : Cond.code yX6_sign cX6_sign 2 none ∈ GW := tm5 (List.mem_of_getElem? (i := 223) rfl) rfl
theorem wL_X6_235 : Cond.methodLink RX6 235 yX6_figures ∈ GW := tm5 (List.mem_of_getElem? (i := 224) rfl) rfl
theorem wI_X6_figures : Cond.instanceMethod yX6_figures ∈ GW := tm5 (List.mem_of_getElem? (i := 226) rfl) rfl
theorem wC_X6_figures : Cond.code yX6_figures cX6_figures 5 none ∈ GW := tm5 (List.mem_of_getElem? (i := 227) rfl) rfl
theorem wL_X6_242 : Cond.methodLink RX6 242 yX6_can ∈ GW := tm5 (List.mem_of_getElem? (i := 228) rfl) rfl
theorem wI_X6_can : Cond.instanceMethod yX6_can ∈ GW := tm5 (List.mem_of_getElem? (i := 230) rfl) rfl
theorem wC_X6_can : Cond.code yX6_can cX6_can 3 (some .boolean) ∈ GW := tm5 (List.mem_of_getElem? (i := 231) rfl) rfl
theorem wL_X6_245 : Cond.methodLink RX6 245 yX6_does ∈ GW := tm5 (List.mem_of_getElem? (i := 232) rfl) rfl
theorem wI_X6_does : Cond.instanceMethod yX6_does ∈ GW := tm5 (List.mem_of_getElem? (i := 234) rfl) rfl
theorem wC_X6_does : Cond.code yX6_does cX6_does 2 none ∈ GW := tm5 (List.mem_of_getElem? (i := 235) rfl) rfl
theorem wL_L_167 : Cond.methodLink RL 167 yX6_undo ∈ GW := tm5 (List.mem_of_getElem? (i := 236) rfl) rfl
theorem wI_X6_undo : Cond.instanceMethod yX6_undo ∈ GW := tm5 (List.mem_of_getElem? (i := 237) rfl) rfl
theorem wSe_X6_X6_undo : Cond.selects RX6 yX6_undo yX6_undo ∈ GW := tm5 (List.mem_of_getElem? (i := 238) rfl) rfl
theorem wC_X6_undo : Cond.code yX6_undo cX6_undo 1 (some .int) ∈ GW := tm5 (List.mem_of_getElem? (i := 239) rfl) rfl
theorem wL_L_172 : Cond.methodLink RL 172 yX6_digest ∈ GW := tm6 (List.mem_of_getElem? (i := 0) rfl) rfl
theorem wI_X6_digest : Cond.instanceMethod yX6_digest ∈ GW := tm6 (List.mem_of_getElem? (i := 1) rfl) rfl
theorem wSe_X6_X6_digest : Cond.selects RX6 yX6_digest yX6_digest ∈ GW := tm6 (List.mem_of_getElem? (i := 2) rfl) rfl
theorem wC_X6_digest : Cond.code yX6_digest cX6_digest 5 (some .long) ∈ GW := tm6 (List.mem_of_getElem? (i := 3) rfl) rfl
theorem wN_X6_248 : Cond.constantLong RX6 248 114731 ∈ GW := tm6 (List.mem_of_getElem? (i := 4) rfl) rfl
theorem wN_X6_250 : Cond.constantLong RX6 250 31 ∈ GW := tm6 (List.mem_of_getElem? (i := 5) rfl) rfl
theorem wA__long : Cond.arrayClass .long ∈ GW := tm6 (List.mem_of_getElem? (i := 6) rfl) rfl
theorem wSe_X5_X5_save : Cond.selects RX5 yX5_save yX5_save ∈ GW := tmP (List.mem_of_getElem? (i := 0) rfl) rfl
theorem wSe_X5_X5_dropOldest : Cond.selects RX5 yX5_dropOldest yX5_dropOldest ∈ GW := tmP (List.mem_of_getElem? (i := 1) rfl) rfl
theorem wSe_X1_X1_putFirst : Cond.selects RX1 yX1_putFirst yX1_putFirst ∈ GW := tmP (List.mem_of_getElem? (i := 2) rfl) rfl
theorem wSe_X4_X4_addRow : Cond.selects RX4 yX4_addRow yX4_addRow ∈ GW := tmP (List.mem_of_getElem? (i := 3) rfl) rfl
theorem wSe_X4_X4_rowAt : Cond.selects RX4 yX4_rowAt yX4_rowAt ∈ GW := tmP (List.mem_of_getElem? (i := 4) rfl) rfl
theorem wSe_X3_X3_start : Cond.selects RX3 yX3_start yX3_start ∈ GW := tmP (List.mem_of_getElem? (i := 5) rfl) rfl
theorem wSe_X3_X3_addExcess : Cond.selects RX3 yX3_addExcess yX3_addExcess ∈ GW := tmP (List.mem_of_getElem? (i := 6) rfl) rfl
theorem wSe_X3_X3_measure : Cond.selects RX3 yX3_measure yX3_measure ∈ GW := tmP (List.mem_of_getElem? (i := 7) rfl) rfl
theorem wSe_X3_X3_shorten : Cond.selects RX3 yX3_shorten yX3_shorten ∈ GW := tmP (List.mem_of_getElem? (i := 8) rfl) rfl
theorem wSe_X3_X3_reach : Cond.selects RX3 yX3_reach yX3_reach ∈ GW := tmP (List.mem_of_getElem? (i := 9) rfl) rfl
theorem wSe_X3_X3_nearestEnd : Cond.selects RX3 yX3_nearestEnd yX3_nearestEnd ∈ GW := tmP (List.mem_of_getElem? (i := 10) rfl) rfl
theorem wSe_X3_X3_push : Cond.selects RX3 yX3_push yX3_push ∈ GW := tmP (List.mem_of_getElem? (i := 11) rfl) rfl
theorem wSe_X3_X3_originOf : Cond.selects RX3 yX3_originOf yX3_originOf ∈ GW := tmP (List.mem_of_getElem? (i := 12) rfl) rfl
theorem wSe_X3_X3_promiseTo : Cond.selects RX3 yX3_promiseTo yX3_promiseTo ∈ GW := tmP (List.mem_of_getElem? (i := 13) rfl) rfl
theorem wSe_X3_X3_before : Cond.selects RX3 yX3_before yX3_before ∈ GW := tmP (List.mem_of_getElem? (i := 14) rfl) rfl
theorem wSe_X3_X3_widthTo : Cond.selects RX3 yX3_widthTo yX3_widthTo ∈ GW := tmP (List.mem_of_getElem? (i := 15) rfl) rfl
theorem wSe_X3_X3_costThatStays : Cond.selects RX3 yX3_costThatStays yX3_costThatStays ∈ GW := tmP (List.mem_of_getElem? (i := 16) rfl) rfl
theorem wSe_X2_X2_peek : Cond.selects RX2 yX2_peek yX2_peek ∈ GW := tmP (List.mem_of_getElem? (i := 17) rfl) rfl
theorem wSe_X2_X2_readPromise : Cond.selects RX2 yX2_readPromise yX2_readPromise ∈ GW := tmP (List.mem_of_getElem? (i := 18) rfl) rfl
theorem wSe_X2_X2_readDigit : Cond.selects RX2 yX2_readDigit yX2_readDigit ∈ GW := tmP (List.mem_of_getElem? (i := 19) rfl) rfl
theorem wSe_X2_X2_fail : Cond.selects RX2 yX2_fail yX2_fail ∈ GW := tmP (List.mem_of_getElem? (i := 20) rfl) rfl
theorem wSe_X2_X2_readSign : Cond.selects RX2 yX2_readSign yX2_readSign ∈ GW := tmP (List.mem_of_getElem? (i := 21) rfl) rfl
theorem wSe_X2_X2_readNumber : Cond.selects RX2 yX2_readNumber yX2_readNumber ∈ GW := tmP (List.mem_of_getElem? (i := 22) rfl) rfl
theorem wSe_X5_X5_carryOutOrder : Cond.selects RX5 yX5_carryOutOrder yX5_carryOutOrder ∈ GW := tmP (List.mem_of_getElem? (i := 23) rfl) rfl
theorem wSe_X5_X5_makeOrdered : Cond.selects RX5 yX5_makeOrdered yX5_makeOrdered ∈ GW := tmP (List.mem_of_getElem? (i := 24) rfl) rfl
theorem wSe_X5_X5_disputeOrdered : Cond.selects RX5 yX5_disputeOrdered yX5_disputeOrdered ∈ GW := tmP (List.mem_of_getElem? (i := 25) rfl) rfl
theorem wSe_X5_X5_settleOrdered : Cond.selects RX5 yX5_settleOrdered yX5_settleOrdered ∈ GW := tmP (List.mem_of_getElem? (i := 26) rfl) rfl
theorem wSe_X5_X5_countRings : Cond.selects RX5 yX5_countRings yX5_countRings ∈ GW := tmP (List.mem_of_getElem? (i := 27) rfl) rfl
theorem wSe_X6_X6_goes : Cond.selects RX6 yX6_goes yX6_goes ∈ GW := tmP (List.mem_of_getElem? (i := 29) rfl) rfl
theorem wSe_X6_X6_saves : Cond.selects RX6 yX6_saves yX6_saves ∈ GW := tmP (List.mem_of_getElem? (i := 30) rfl) rfl
theorem wSe_X6_X6_isParty : Cond.selects RX6 yX6_isParty yX6_isParty ∈ GW := tmP (List.mem_of_getElem? (i := 31) rfl) rfl
theorem wSe_X6_X6_makes : Cond.selects RX6 yX6_makes yX6_makes ∈ GW := tmP (List.mem_of_getElem? (i := 32) rfl) rfl
theorem wSe_X6_X6_isPromise : Cond.selects RX6 yX6_isPromise yX6_isPromise ∈ GW := tmP (List.mem_of_getElem? (i := 33) rfl) rfl
theorem wSe_X6_X6_isFree : Cond.selects RX6 yX6_isFree yX6_isFree ∈ GW := tmP (List.mem_of_getElem? (i := 34) rfl) rfl
theorem wSe_X6_X6_countRings : Cond.selects RX6 yX6_countRings yX6_countRings ∈ GW := tmP (List.mem_of_getElem? (i := 35) rfl) rfl
theorem wSe_X6_X6_begins : Cond.selects RX6 yX6_begins yX6_begins ∈ GW := tmP (List.mem_of_getElem? (i := 36) rfl) rfl
theorem wSe_X6_X6_comes : Cond.selects RX6 yX6_comes yX6_comes ∈ GW := tmP (List.mem_of_getElem? (i := 37) rfl) rfl
theorem wSe_X6_X6_canCome : Cond.selects RX6 yX6_canCome yX6_canCome ∈ GW := tmP (List.mem_of_getElem? (i := 38) rfl) rfl
theorem wSe_X6_X6_isInRow : Cond.selects RX6 yX6_isInRow yX6_isInRow ∈ GW := tmP (List.mem_of_getElem? (i := 39) rfl) rfl
theorem wSe_X6_X6_findsRing : Cond.selects RX6 yX6_findsRing yX6_findsRing ∈ GW := tmP (List.mem_of_getElem? (i := 40) rfl) rfl
theorem wSe_X6_X6_roomOf : Cond.selects RX6 yX6_roomOf yX6_roomOf ∈ GW := tmP (List.mem_of_getElem? (i := 41) rfl) rfl
theorem wSe_X6_X6_discharges : Cond.selects RX6 yX6_discharges yX6_discharges ∈ GW := tmP (List.mem_of_getElem? (i := 42) rfl) rfl
theorem wSe_X6_X6_savingBy : Cond.selects RX6 yX6_savingBy yX6_savingBy ∈ GW := tmP (List.mem_of_getElem? (i := 43) rfl) rfl
theorem wSe_X6_X6_follower : Cond.selects RX6 yX6_follower yX6_follower ∈ GW := tmP (List.mem_of_getElem? (i := 44) rfl) rfl
theorem wSe_X6_X6_costBy : Cond.selects RX6 yX6_costBy yX6_costBy ∈ GW := tmP (List.mem_of_getElem? (i := 45) rfl) rfl
theorem wSe_X6_X6_findsBest : Cond.selects RX6 yX6_findsBest yX6_findsBest ∈ GW := tmP (List.mem_of_getElem? (i := 46) rfl) rfl
theorem wSe_X6_X6_dischargesBest : Cond.selects RX6 yX6_dischargesBest yX6_dischargesBest ∈ GW := tmP (List.mem_of_getElem? (i := 47) rfl) rfl
theorem wSe_X6_X6_dischargesAll : Cond.selects RX6 yX6_dischargesAll yX6_dischargesAll ∈ GW := tmP (List.mem_of_getElem? (i := 48) rfl) rfl
theorem wSe_X6_X6_debtOf : Cond.selects RX6 yX6_debtOf yX6_debtOf ∈ GW := tmP (List.mem_of_getElem? (i := 49) rfl) rfl
theorem wSe_X6_X6_netOf : Cond.selects RX6 yX6_netOf yX6_netOf ∈ GW := tmP (List.mem_of_getElem? (i := 50) rfl) rfl
theorem wSe_X6_X6_one : Cond.selects RX6 yX6_one yX6_one ∈ GW := tmP (List.mem_of_getElem? (i := 51) rfl) rfl
theorem wSe_X6_X6_leastOf : Cond.selects RX6 yX6_leastOf yX6_leastOf ∈ GW := tmP (List.mem_of_getElem? (i := 52) rfl) rfl
theorem wSe_X6_X6_ways : Cond.selects RX6 yX6_ways yX6_ways ∈ GW := tmP (List.mem_of_getElem? (i := 53) rfl) rfl
theorem wSe_X6_X6_nears : Cond.selects RX6 yX6_nears yX6_nears ∈ GW := tmP (List.mem_of_getElem? (i := 54) rfl) rfl
theorem wSe_X6_X6_nearest : Cond.selects RX6 yX6_nearest yX6_nearest ∈ GW := tmP (List.mem_of_getElem? (i := 55) rfl) rfl
theorem wSe_X6_X6_staysMore : Cond.selects RX6 yX6_staysMore yX6_staysMore ∈ GW := tmP (List.mem_of_getElem? (i := 56) rfl) rfl
theorem wSe_X6_X6_ahead : Cond.selects RX6 yX6_ahead yX6_ahead ∈ GW := tmP (List.mem_of_getElem? (i := 57) rfl) rfl
theorem wSe_X6_X6_readsOrder : Cond.selects RX6 yX6_readsOrder yX6_readsOrder ∈ GW := tmP (List.mem_of_getElem? (i := 58) rfl) rfl
theorem wSe_X6_X6_look : Cond.selects RX6 yX6_look yX6_look ∈ GW := tmP (List.mem_of_getElem? (i := 59) rfl) rfl
theorem wSe_X6_X6_digit : Cond.selects RX6 yX6_digit yX6_digit ∈ GW := tmP (List.mem_of_getElem? (i := 60) rfl) rfl
theorem wSe_X6_X6_fails : Cond.selects RX6 yX6_fails yX6_fails ∈ GW := tmP (List.mem_of_getElem? (i := 61) rfl) rfl
theorem wSe_X6_X6_sign : Cond.selects RX6 yX6_sign yX6_sign ∈ GW := tmP (List.mem_of_getElem? (i := 62) rfl) rfl
theorem wSe_X6_X6_figures : Cond.selects RX6 yX6_figures yX6_figures ∈ GW := tmP (List.mem_of_getElem? (i := 63) rfl) rfl
theorem wSe_X6_X6_can : Cond.selects RX6 yX6_can yX6_can ∈ GW := tmP (List.mem_of_getElem? (i := 64) rfl) rfl
theorem wSe_X6_X6_does : Cond.selects RX6 yX6_does yX6_does ∈ GW := tmP (List.mem_of_getElem? (i := 65) rfl) rfl
theorem wU_X0 : ∀ w ∈ u_ws RX0 TX0 13, w ∈ GW := (List.forall_mem_cons.mpr ⟨wY_X0_parties, (List.forall_mem_cons.mpr ⟨wY_X0_count, (List.forall_mem_cons.mpr ⟨wY_X0_payments, (List.forall_mem_cons.mpr ⟨wY_X0_releases, (List.forall_mem_cons.mpr ⟨wY_X0_discharges, (List.forall_mem_cons.mpr ⟨wY_X0_from, (List.forall_mem_cons.mpr ⟨wY_X0_to, (List.forall_mem_cons.mpr ⟨wY_X0_amount, (List.forall_mem_cons.mpr ⟨wY_X0_rate, (List.forall_mem_cons.mpr ⟨wY_X0_amountAtFirst, (List.forall_mem_cons.mpr ⟨wY_X0_paid, (List.forall_mem_cons.mpr ⟨wY_X0_released, (List.forall_mem_cons.mpr ⟨wY_X0_disputed, (fun _ h => absurd h List.not_mem_nil)⟩)⟩)⟩)⟩)⟩)⟩)⟩)⟩)⟩)⟩)⟩)⟩)⟩)
theorem wU_X1 : ∀ w ∈ u_ws RX1 TX1 3, w ∈ GW := (List.forall_mem_cons.mpr ⟨wY_X1_sum, (List.forall_mem_cons.mpr ⟨wY_X1_firstOf, (List.forall_mem_cons.mpr ⟨wY_X1_nextOf, (fun _ h => absurd h List.not_mem_nil)⟩)⟩)⟩)
theorem wU_X2 : ∀ w ∈ u_ws RX2 TX2 10, w ∈ GW := (List.forall_mem_cons.mpr ⟨wY_X2_bytes, (List.forall_mem_cons.mpr ⟨wY_X2_length, (List.forall_mem_cons.mpr ⟨wY_X2_at, (List.forall_mem_cons.mpr ⟨wY_X2_errorAt, (List.forall_mem_cons.mpr ⟨wY_X2_sign, (List.forall_mem_cons.mpr ⟨wY_X2_from, (List.forall_mem_cons.mpr ⟨wY_X2_to, (List.forall_mem_cons.mpr ⟨wY_X2_amount, (List.forall_mem_cons.mpr ⟨wY_X2_rate, (List.forall_mem_cons.mpr ⟨wY_X2_number, (fun _ h => absurd h List.not_mem_nil)⟩)⟩)⟩)⟩)⟩)⟩)⟩)⟩)⟩)⟩)
theorem wU_X3 : ∀ w ∈ u_ws RX3 TX3 4, w ∈ GW := (List.forall_mem_cons.mpr ⟨wY_X3_stays, (List.forall_mem_cons.mpr ⟨wY_X3_excess, (List.forall_mem_cons.mpr ⟨wY_X3_distance, (List.forall_mem_cons.mpr ⟨wY_X3_reachedBy, (fun _ h => absurd h List.not_mem_nil)⟩)⟩)⟩)⟩)
theorem wU_X4 : ∀ w ∈ u_ws RX4 TX4 4, w ∈ GW := (List.forall_mem_cons.mpr ⟨wY_X4_debts, (List.forall_mem_cons.mpr ⟨wY_X4_rows, (List.forall_mem_cons.mpr ⟨wY_X4_through, (List.forall_mem_cons.mpr ⟨wY_X4_size, (fun _ h => absurd h List.not_mem_nil)⟩)⟩)⟩)⟩)
theorem wU_X5 : ∀ w ∈ u_ws RX5 TX5 7, w ∈ GW := (List.forall_mem_cons.mpr ⟨wY_X5_book, (List.forall_mem_cons.mpr ⟨wY_X5_trial, (List.forall_mem_cons.mpr ⟨wY_X5_rings, (List.forall_mem_cons.mpr ⟨wY_X5_remainder, (List.forall_mem_cons.mpr ⟨wY_X5_orders, (List.forall_mem_cons.mpr ⟨wY_X5_saved, (List.forall_mem_cons.mpr ⟨wY_X5_savedCount, (fun _ h => absurd h List.not_mem_nil)⟩)⟩)⟩)⟩)⟩)⟩)⟩)
theorem wU_X6 : ∀ w ∈ u_ws RX6 TX6 30, w ∈ GW := (List.forall_mem_cons.mpr ⟨wY_X6_now, (List.forall_mem_cons.mpr ⟨wY_X6_tried, (List.forall_mem_cons.mpr ⟨wY_X6_saved, (List.forall_mem_cons.mpr ⟨wY_X6_states, (List.forall_mem_cons.mpr ⟨wY_X6_text, (List.forall_mem_cons.mpr ⟨wY_X6_letters, (List.forall_mem_cons.mpr ⟨wY_X6_thrown, (List.forall_mem_cons.mpr ⟨wY_X6_debts, (List.forall_mem_cons.mpr ⟨wY_X6_byRate, (List.forall_mem_cons.mpr ⟨wY_X6_parties, (List.forall_mem_cons.mpr ⟨wY_X6_row, (List.forall_mem_cons.mpr ⟨wY_X6_next, (List.forall_mem_cons.mpr ⟨wY_X6_length, (List.forall_mem_cons.mpr ⟨wY_X6_bestNumber, (List.forall_mem_cons.mpr ⟨wY_X6_bestSaving, (List.forall_mem_cons.mpr ⟨wY_X6_bestRow, (List.forall_mem_cons.mpr ⟨wY_X6_bestLength, (List.forall_mem_cons.mpr ⟨wY_X6_stays, (List.forall_mem_cons.mpr ⟨wY_X6_lacks, (List.forall_mem_cons.mpr ⟨wY_X6_far, (List.forall_mem_cons.mpr ⟨wY_X6_by, (List.forall_mem_cons.mpr ⟨wY_X6_at, (List.forall_mem_cons.mpr ⟨wY_X6_wrong, (List.forall_mem_cons.mpr ⟨wY_X6_number, (List.forall_mem_cons.mpr ⟨wY_X6_orders, (List.forall_mem_cons.mpr ⟨wY_X6_whats, (List.forall_mem_cons.mpr ⟨wY_X6_firsts, (List.forall_mem_cons.mpr ⟨wY_X6_seconds, (List.forall_mem_cons.mpr ⟨wY_X6_amounts, (List.forall_mem_cons.mpr ⟨wY_X6_rates, (fun _ h => absurd h List.not_mem_nil)⟩)⟩)⟩)⟩)⟩)⟩)⟩)⟩)⟩)⟩)⟩)⟩)⟩)⟩)⟩)⟩)⟩)⟩)⟩)⟩)⟩)⟩)⟩)⟩)⟩)⟩)⟩)⟩)⟩)⟩)
end
section
/-! decode rows -/
theorem dX0_init_0 : decode cX0_init 0 = .ok (.aload_n 0, 1) := by decide +kernel
theorem dX0_init_1 : decode cX0_init 1 = .ok (.invokespecial 3, 3) := by decide +kernel
theorem dX0_init_4 : decode cX0_init 4 = .ok (.aload_n 0, 1) := by decide +kernel
theorem dX0_init_5 : decode cX0_init 5 = .ok (.iconst 4, 1) := by decide +kernel
theorem dX0_init_6 : decode cX0_init 6 = .ok (.putfield 9, 3) := by decide +kernel
theorem dX0_init_9 : decode cX0_init 9 = .ok (.aload_n 0, 1) := by decide +kernel
theorem dX0_init_10 : decode cX0_init 10 = .ok (.bipush 40, 2) := by decide +kernel
theorem dX0_init_12 : decode cX0_init 12 = .ok (.newarray .int, 2) := by decide +kernel
theorem dX0_init_14 : decode cX0_init 14 = .ok (.putfield 15, 3) := by decide +kernel
theorem dX0_init_17 : decode cX0_init 17 = .ok (.aload_n 0, 1) := by decide +kernel
theorem dX0_init_18 : decode cX0_init 18 = .ok (.bipush 40, 2) := by decide +kernel
theorem dX0_init_20 : decode cX0_init 20 = .ok (.newarray .int, 2) := by decide +kernel
theorem dX0_init_22 : decode cX0_init 22 = .ok (.putfield 19, 3) := by decide +kernel
theorem dX0_init_25 : decode cX0_init 25 = .ok (.aload_n 0, 1) := by decide +kernel
theorem dX0_init_26 : decode cX0_init 26 = .ok (.bipush 40, 2) := by decide +kernel
theorem dX0_init_28 : decode cX0_init 28 = .ok (.newarray .int, 2) := by decide +kernel
theorem dX0_init_30 : decode cX0_init 30 = .ok (.putfield 22, 3) := by decide +kernel
theorem dX0_init_33 : decode cX0_init 33 = .ok (.aload_n 0, 1) := by decide +kernel
theorem dX0_init_34 : decode cX0_init 34 = .ok (.bipush 40, 2) := by decide +kernel
theorem dX0_init_36 : decode cX0_init 36 = .ok (.newarray .int, 2) := by decide +kernel
theorem dX0_init_38 : decode cX0_init 38 = .ok (.putfield 25, 3) := by decide +kernel
theorem dX0_init_41 : decode cX0_init 41 = .ok (.aload_n 0, 1) := by decide +kernel
theorem dX0_init_42 : decode cX0_init 42 = .ok (.bipush 40, 2) := by decide +kernel
theorem dX0_init_44 : decode cX0_init 44 = .ok (.newarray .int, 2) := by decide +kernel
theorem dX0_init_46 : decode cX0_init 46 = .ok (.putfield 28, 3) := by decide +kernel
theorem dX0_init_49 : decode cX0_init 49 = .ok (.aload_n 0, 1) := by decide +kernel
theorem dX0_init_50 : decode cX0_init 50 = .ok (.bipush 40, 2) := by decide +kernel
theorem dX0_init_52 : decode cX0_init 52 = .ok (.newarray .int, 2) := by decide +kernel
theorem dX0_init_54 : decode cX0_init 54 = .ok (.putfield 31, 3) := by decide +kernel
theorem dX0_init_57 : decode cX0_init 57 = .ok (.aload_n 0, 1) := by decide +kernel
theorem dX0_init_58 : decode cX0_init 58 = .ok (.bipush 40, 2) := by decide +kernel
theorem dX0_init_60 : decode cX0_init 60 = .ok (.newarray .int, 2) := by decide +kernel
theorem dX0_init_62 : decode cX0_init 62 = .ok (.putfield 34, 3) := by decide +kernel
theorem dX0_init_65 : decode cX0_init 65 = .ok (.aload_n 0, 1) := by decide +kernel
theorem dX0_init_66 : decode cX0_init 66 = .ok (.bipush 40, 2) := by decide +kernel
theorem dX0_init_68 : decode cX0_init 68 = .ok (.newarray .boolean, 2) := by decide +kernel
theorem dX0_init_70 : decode cX0_init 70 = .ok (.putfield 37, 3) := by decide +kernel
theorem dX0_init_73 : decode cX0_init 73 = .ok (.return_, 1) := by decide +kernel
theorem dX0_restart_0 : decode cX0_restart 0 = .ok (.aload_n 0, 1) := by decide +kernel
theorem dX0_restart_1 : decode cX0_restart 1 = .ok (.iload_n 1, 1) := by decide +kernel
theorem dX0_restart_2 : decode cX0_restart 2 = .ok (.putfield 9, 3) := by decide +kernel
theorem dX0_restart_5 : decode cX0_restart 5 = .ok (.aload_n 0, 1) := by decide +kernel
theorem dX0_restart_6 : decode cX0_restart 6 = .ok (.iconst 0, 1) := by decide +kernel
theorem dX0_restart_7 : decode cX0_restart 7 = .ok (.putfield 41, 3) := by decide +kernel
theorem dX0_restart_10 : decode cX0_restart 10 = .ok (.aload_n 0, 1) := by decide +kernel
theorem dX0_restart_11 : decode cX0_restart 11 = .ok (.iconst 0, 1) := by decide +kernel
theorem dX0_restart_12 : decode cX0_restart 12 = .ok (.putfield 44, 3) := by decide +kernel
theorem dX0_restart_15 : decode cX0_restart 15 = .ok (.aload_n 0, 1) := by decide +kernel
theorem dX0_restart_16 : decode cX0_restart 16 = .ok (.iconst 0, 1) := by decide +kernel
theorem dX0_restart_17 : decode cX0_restart 17 = .ok (.putfield 47, 3) := by decide +kernel
theorem dX0_restart_20 : decode cX0_restart 20 = .ok (.aload_n 0, 1) := by decide +kernel
theorem dX0_restart_21 : decode cX0_restart 21 = .ok (.iconst 0, 1) := by decide +kernel
theorem dX0_restart_22 : decode cX0_restart 22 = .ok (.putfield 50, 3) := by decide +kernel
theorem dX0_restart_25 : decode cX0_restart 25 = .ok (.return_, 1) := by decide +kernel
theorem dX0_copyFrom_0 : decode cX0_copyFrom 0 = .ok (.aload_n 0, 1) := by decide +kernel
theorem dX0_copyFrom_1 : decode cX0_copyFrom 1 = .ok (.aload_n 1, 1) := by decide +kernel
theorem dX0_copyFrom_2 : decode cX0_copyFrom 2 = .ok (.getfield 9, 3) := by decide +kernel
theorem dX0_copyFrom_5 : decode cX0_copyFrom 5 = .ok (.putfield 9, 3) := by decide +kernel
theorem dX0_copyFrom_8 : decode cX0_copyFrom 8 = .ok (.aload_n 0, 1) := by decide +kernel
theorem dX0_copyFrom_9 : decode cX0_copyFrom 9 = .ok (.aload_n 1, 1) := by decide +kernel
theorem dX0_copyFrom_10 : decode cX0_copyFrom 10 = .ok (.getfield 41, 3) := by decide +kernel
theorem dX0_copyFrom_13 : decode cX0_copyFrom 13 = .ok (.putfield 41, 3) := by decide +kernel
theorem dX0_copyFrom_16 : decode cX0_copyFrom 16 = .ok (.aload_n 0, 1) := by decide +kernel
theorem dX0_copyFrom_17 : decode cX0_copyFrom 17 = .ok (.aload_n 1, 1) := by decide +kernel
theorem dX0_copyFrom_18 : decode cX0_copyFrom 18 = .ok (.getfield 44, 3) := by decide +kernel
theorem dX0_copyFrom_21 : decode cX0_copyFrom 21 = .ok (.putfield 44, 3) := by decide +kernel
theorem dX0_copyFrom_24 : decode cX0_copyFrom 24 = .ok (.aload_n 0, 1) := by decide +kernel
theorem dX0_copyFrom_25 : decode cX0_copyFrom 25 = .ok (.aload_n 1, 1) := by decide +kernel
theorem dX0_copyFrom_26 : decode cX0_copyFrom 26 = .ok (.getfield 47, 3) := by decide +kernel
theorem dX0_copyFrom_29 : decode cX0_copyFrom 29 = .ok (.putfield 47, 3) := by decide +kernel
theorem dX0_copyFrom_32 : decode cX0_copyFrom 32 = .ok (.aload_n 0, 1) := by decide +kernel
theorem dX0_copyFrom_33 : decode cX0_copyFrom 33 = .ok (.aload_n 1, 1) := by decide +kernel
theorem dX0_copyFrom_34 : decode cX0_copyFrom 34 = .ok (.getfield 50, 3) := by decide +kernel
theorem dX0_copyFrom_37 : decode cX0_copyFrom 37 = .ok (.putfield 50, 3) := by decide +kernel
theorem dX0_copyFrom_40 : decode cX0_copyFrom 40 = .ok (.aload_n 1, 1) := by decide +kernel
theorem dX0_copyFrom_41 : decode cX0_copyFrom 41 = .ok (.getfield 15, 3) := by decide +kernel
theorem dX0_copyFrom_44 : decode cX0_copyFrom 44 = .ok (.iconst 0, 1) := by decide +kernel
theorem dX0_copyFrom_45 : decode cX0_copyFrom 45 = .ok (.aload_n 0, 1) := by decide +kernel
theorem dX0_copyFrom_46 : decode cX0_copyFrom 46 = .ok (.getfield 15, 3) := by decide +kernel
theorem dX0_copyFrom_49 : decode cX0_copyFrom 49 = .ok (.iconst 0, 1) := by decide +kernel
theorem dX0_copyFrom_50 : decode cX0_copyFrom 50 = .ok (.bipush 40, 2) := by decide +kernel
theorem dX0_copyFrom_52 : decode cX0_copyFrom 52 = .ok (.invokestatic 53, 3) := by decide +kernel
theorem dX0_copyFrom_55 : decode cX0_copyFrom 55 = .ok (.aload_n 1, 1) := by decide +kernel
theorem dX0_copyFrom_56 : decode cX0_copyFrom 56 = .ok (.getfield 19, 3) := by decide +kernel
theorem dX0_copyFrom_59 : decode cX0_copyFrom 59 = .ok (.iconst 0, 1) := by decide +kernel
theorem dX0_copyFrom_60 : decode cX0_copyFrom 60 = .ok (.aload_n 0, 1) := by decide +kernel
theorem dX0_copyFrom_61 : decode cX0_copyFrom 61 = .ok (.getfield 19, 3) := by decide +kernel
theorem dX0_copyFrom_64 : decode cX0_copyFrom 64 = .ok (.iconst 0, 1) := by decide +kernel
theorem dX0_copyFrom_65 : decode cX0_copyFrom 65 = .ok (.bipush 40, 2) := by decide +kernel
theorem dX0_copyFrom_67 : decode cX0_copyFrom 67 = .ok (.invokestatic 53, 3) := by decide +kernel
theorem dX0_copyFrom_70 : decode cX0_copyFrom 70 = .ok (.aload_n 1, 1) := by decide +kernel
theorem dX0_copyFrom_71 : decode cX0_copyFrom 71 = .ok (.getfield 22, 3) := by decide +kernel
theorem dX0_copyFrom_74 : decode cX0_copyFrom 74 = .ok (.iconst 0, 1) := by decide +kernel
theorem dX0_copyFrom_75 : decode cX0_copyFrom 75 = .ok (.aload_n 0, 1) := by decide +kernel
theorem dX0_copyFrom_76 : decode cX0_copyFrom 76 = .ok (.getfield 22, 3) := by decide +kernel
theorem dX0_copyFrom_79 : decode cX0_copyFrom 79 = .ok (.iconst 0, 1) := by decide +kernel
theorem dX0_copyFrom_80 : decode cX0_copyFrom 80 = .ok (.bipush 40, 2) := by decide +kernel
theorem dX0_copyFrom_82 : decode cX0_copyFrom 82 = .ok (.invokestatic 53, 3) := by decide +kernel
theorem dX0_copyFrom_85 : decode cX0_copyFrom 85 = .ok (.aload_n 1, 1) := by decide +kernel
theorem dX0_copyFrom_86 : decode cX0_copyFrom 86 = .ok (.getfield 25, 3) := by decide +kernel
theorem dX0_copyFrom_89 : decode cX0_copyFrom 89 = .ok (.iconst 0, 1) := by decide +kernel
theorem dX0_copyFrom_90 : decode cX0_copyFrom 90 = .ok (.aload_n 0, 1) := by decide +kernel
theorem dX0_copyFrom_91 : decode cX0_copyFrom 91 = .ok (.getfield 25, 3) := by decide +kernel
theorem dX0_copyFrom_94 : decode cX0_copyFrom 94 = .ok (.iconst 0, 1) := by decide +kernel
theorem dX0_copyFrom_95 : decode cX0_copyFrom 95 = .ok (.bipush 40, 2) := by decide +kernel
theorem dX0_copyFrom_97 : decode cX0_copyFrom 97 = .ok (.invokestatic 53, 3) := by decide +kernel
theorem dX0_copyFrom_100 : decode cX0_copyFrom 100 = .ok (.aload_n 1, 1) := by decide +kernel
theorem dX0_copyFrom_101 : decode cX0_copyFrom 101 = .ok (.getfield 28, 3) := by decide +kernel
theorem dX0_copyFrom_104 : decode cX0_copyFrom 104 = .ok (.iconst 0, 1) := by decide +kernel
theorem dX0_copyFrom_105 : decode cX0_copyFrom 105 = .ok (.aload_n 0, 1) := by decide +kernel
theorem dX0_copyFrom_106 : decode cX0_copyFrom 106 = .ok (.getfield 28, 3) := by decide +kernel
theorem dX0_copyFrom_109 : decode cX0_copyFrom 109 = .ok (.iconst 0, 1) := by decide +kernel
theorem dX0_copyFrom_110 : decode cX0_copyFrom 110 = .ok (.bipush 40, 2) := by decide +kernel
theorem dX0_copyFrom_112 : decode cX0_copyFrom 112 = .ok (.invokestatic 53, 3) := by decide +kernel
theorem dX0_copyFrom_115 : decode cX0_copyFrom 115 = .ok (.aload_n 1, 1) := by decide +kernel
theorem dX0_copyFrom_116 : decode cX0_copyFrom 116 = .ok (.getfield 31, 3) := by decide +kernel
theorem dX0_copyFrom_119 : decode cX0_copyFrom 119 = .ok (.iconst 0, 1) := by decide +kernel
theorem dX0_copyFrom_120 : decode cX0_copyFrom 120 = .ok (.aload_n 0, 1) := by decide +kernel
theorem dX0_copyFrom_121 : decode cX0_copyFrom 121 = .ok (.getfield 31, 3) := by decide +kernel
theorem dX0_copyFrom_124 : decode cX0_copyFrom 124 = .ok (.iconst 0, 1) := by decide +kernel
theorem dX0_copyFrom_125 : decode cX0_copyFrom 125 = .ok (.bipush 40, 2) := by decide +kernel
theorem dX0_copyFrom_127 : decode cX0_copyFrom 127 = .ok (.invokestatic 53, 3) := by decide +kernel
theorem dX0_copyFrom_130 : decode cX0_copyFrom 130 = .ok (.aload_n 1, 1) := by decide +kernel
theorem dX0_copyFrom_131 : decode cX0_copyFrom 131 = .ok (.getfield 34, 3) := by decide +kernel
theorem dX0_copyFrom_134 : decode cX0_copyFrom 134 = .ok (.iconst 0, 1) := by decide +kernel
theorem dX0_copyFrom_135 : decode cX0_copyFrom 135 = .ok (.aload_n 0, 1) := by decide +kernel
theorem dX0_copyFrom_136 : decode cX0_copyFrom 136 = .ok (.getfield 34, 3) := by decide +kernel
theorem dX0_copyFrom_139 : decode cX0_copyFrom 139 = .ok (.iconst 0, 1) := by decide +kernel
theorem dX0_copyFrom_140 : decode cX0_copyFrom 140 = .ok (.bipush 40, 2) := by decide +kernel
theorem dX0_copyFrom_142 : decode cX0_copyFrom 142 = .ok (.invokestatic 53, 3) := by decide +kernel
theorem dX0_copyFrom_145 : decode cX0_copyFrom 145 = .ok (.iconst 0, 1) := by decide +kernel
theorem dX0_copyFrom_146 : decode cX0_copyFrom 146 = .ok (.istore_n 2, 1) := by decide +kernel
theorem dX0_copyFrom_147 : decode cX0_copyFrom 147 = .ok (.iload_n 2, 1) := by decide +kernel
theorem dX0_copyFrom_148 : decode cX0_copyFrom 148 = .ok (.bipush 40, 2) := by decide +kernel
theorem dX0_copyFrom_150 : decode cX0_copyFrom 150 = .ok (.if_icmp .ge 21, 3) := by decide +kernel
theorem dX0_copyFrom_153 : decode cX0_copyFrom 153 = .ok (.aload_n 0, 1) := by decide +kernel
theorem dX0_copyFrom_154 : decode cX0_copyFrom 154 = .ok (.getfield 37, 3) := by decide +kernel
theorem dX0_copyFrom_157 : decode cX0_copyFrom 157 = .ok (.iload_n 2, 1) := by decide +kernel
theorem dX0_copyFrom_158 : decode cX0_copyFrom 158 = .ok (.aload_n 1, 1) := by decide +kernel
theorem dX0_copyFrom_159 : decode cX0_copyFrom 159 = .ok (.getfield 37, 3) := by decide +kernel
theorem dX0_copyFrom_162 : decode cX0_copyFrom 162 = .ok (.iload_n 2, 1) := by decide +kernel
theorem dX0_copyFrom_163 : decode cX0_copyFrom 163 = .ok (.baload, 1) := by decide +kernel
theorem dX0_copyFrom_164 : decode cX0_copyFrom 164 = .ok (.bastore, 1) := by decide +kernel
theorem dX0_copyFrom_165 : decode cX0_copyFrom 165 = .ok (.iinc 2 1, 3) := by decide +kernel
theorem dX0_copyFrom_168 : decode cX0_copyFrom 168 = .ok (.goto (-21), 3) := by decide +kernel
theorem dX0_copyFrom_171 : decode cX0_copyFrom 171 = .ok (.return_, 1) := by decide +kernel
theorem dX0_hasParty_0 : decode cX0_hasParty 0 = .ok (.iload_n 1, 1) := by decide +kernel
theorem dX0_hasParty_1 : decode cX0_hasParty 1 = .ok (.ifCond .lt 15, 3) := by decide +kernel
theorem dX0_hasParty_4 : decode cX0_hasParty 4 = .ok (.iload_n 1, 1) := by decide +kernel
theorem dX0_hasParty_5 : decode cX0_hasParty 5 = .ok (.aload_n 0, 1) := by decide +kernel
theorem dX0_hasParty_6 : decode cX0_hasParty 6 = .ok (.getfield 9, 3) := by decide +kernel
theorem dX0_hasParty_9 : decode cX0_hasParty 9 = .ok (.if_icmp .ge 7, 3) := by decide +kernel
theorem dX0_hasParty_12 : decode cX0_hasParty 12 = .ok (.iconst 1, 1) := by decide +kernel
theorem dX0_hasParty_13 : decode cX0_hasParty 13 = .ok (.goto 4, 3) := by decide +kernel
theorem dX0_hasParty_16 : decode cX0_hasParty 16 = .ok (.iconst 0, 1) := by decide +kernel
theorem dX0_hasParty_17 : decode cX0_hasParty 17 = .ok (.ireturn, 1) := by decide +kernel
theorem dX0_holds_0 : decode cX0_holds 0 = .ok (.iload_n 1, 1) := by decide +kernel
theorem dX0_holds_1 : decode cX0_holds 1 = .ok (.ifCond .lt 15, 3) := by decide +kernel
theorem dX0_holds_4 : decode cX0_holds 4 = .ok (.iload_n 1, 1) := by decide +kernel
theorem dX0_holds_5 : decode cX0_holds 5 = .ok (.aload_n 0, 1) := by decide +kernel
theorem dX0_holds_6 : decode cX0_holds 6 = .ok (.getfield 41, 3) := by decide +kernel
theorem dX0_holds_9 : decode cX0_holds 9 = .ok (.if_icmp .ge 7, 3) := by decide +kernel
theorem dX0_holds_12 : decode cX0_holds 12 = .ok (.iconst 1, 1) := by decide +kernel
theorem dX0_holds_13 : decode cX0_holds 13 = .ok (.goto 4, 3) := by decide +kernel
theorem dX0_holds_16 : decode cX0_holds 16 = .ok (.iconst 0, 1) := by decide +kernel
theorem dX0_holds_17 : decode cX0_holds 17 = .ok (.ireturn, 1) := by decide +kernel
theorem dX0_isFull_0 : decode cX0_isFull 0 = .ok (.aload_n 0, 1) := by decide +kernel
theorem dX0_isFull_1 : decode cX0_isFull 1 = .ok (.getfield 41, 3) := by decide +kernel
theorem dX0_isFull_4 : decode cX0_isFull 4 = .ok (.bipush 40, 2) := by decide +kernel
theorem dX0_isFull_6 : decode cX0_isFull 6 = .ok (.if_icmp .lt 7, 3) := by decide +kernel
theorem dX0_isFull_9 : decode cX0_isFull 9 = .ok (.iconst 1, 1) := by decide +kernel
theorem dX0_isFull_10 : decode cX0_isFull 10 = .ok (.goto 4, 3) := by decide +kernel
theorem dX0_isFull_13 : decode cX0_isFull 13 = .ok (.iconst 0, 1) := by decide +kernel
theorem dX0_isFull_14 : decode cX0_isFull 14 = .ok (.ireturn, 1) := by decide +kernel
theorem dX0_add_0 : decode cX0_add 0 = .ok (.aload_n 0, 1) := by decide +kernel
theorem dX0_add_1 : decode cX0_add 1 = .ok (.getfield 41, 3) := by decide +kernel
theorem dX0_add_4 : decode cX0_add 4 = .ok (.istore 5, 2) := by decide +kernel
theorem dX0_add_6 : decode cX0_add 6 = .ok (.iload 5, 2) := by decide +kernel
theorem dX0_add_8 : decode cX0_add 8 = .ok (.invokestatic 59, 3) := by decide +kernel
theorem dX0_add_11 : decode cX0_add 11 = .ok (.ifCond .ne 5, 3) := by decide +kernel
theorem dX0_add_14 : decode cX0_add 14 = .ok (.iconst (-1), 1) := by decide +kernel
theorem dX0_add_15 : decode cX0_add 15 = .ok (.ireturn, 1) := by decide +kernel
theorem dX0_add_16 : decode cX0_add 16 = .ok (.aload_n 0, 1) := by decide +kernel
theorem dX0_add_17 : decode cX0_add 17 = .ok (.getfield 15, 3) := by decide +kernel
theorem dX0_add_20 : decode cX0_add 20 = .ok (.iload 5, 2) := by decide +kernel
theorem dX0_add_22 : decode cX0_add 22 = .ok (.iload_n 1, 1) := by decide +kernel
theorem dX0_add_23 : decode cX0_add 23 = .ok (.iastore, 1) := by decide +kernel
theorem dX0_add_24 : decode cX0_add 24 = .ok (.aload_n 0, 1) := by decide +kernel
theorem dX0_add_25 : decode cX0_add 25 = .ok (.getfield 19, 3) := by decide +kernel
theorem dX0_add_28 : decode cX0_add 28 = .ok (.iload 5, 2) := by decide +kernel
theorem dX0_add_30 : decode cX0_add 30 = .ok (.iload_n 2, 1) := by decide +kernel
theorem dX0_add_31 : decode cX0_add 31 = .ok (.iastore, 1) := by decide +kernel
theorem dX0_add_32 : decode cX0_add 32 = .ok (.aload_n 0, 1) := by decide +kernel
theorem dX0_add_33 : decode cX0_add 33 = .ok (.getfield 22, 3) := by decide +kernel
theorem dX0_add_36 : decode cX0_add 36 = .ok (.iload 5, 2) := by decide +kernel
theorem dX0_add_38 : decode cX0_add 38 = .ok (.iload_n 3, 1) := by decide +kernel
theorem dX0_add_39 : decode cX0_add 39 = .ok (.iastore, 1) := by decide +kernel
theorem dX0_add_40 : decode cX0_add 40 = .ok (.aload_n 0, 1) := by decide +kernel
theorem dX0_add_41 : decode cX0_add 41 = .ok (.getfield 25, 3) := by decide +kernel
theorem dX0_add_44 : decode cX0_add 44 = .ok (.iload 5, 2) := by decide +kernel
theorem dX0_add_46 : decode cX0_add 46 = .ok (.iload 4, 2) := by decide +kernel
theorem dX0_add_48 : decode cX0_add 48 = .ok (.iastore, 1) := by decide +kernel
theorem dX0_add_49 : decode cX0_add 49 = .ok (.aload_n 0, 1) := by decide +kernel
theorem dX0_add_50 : decode cX0_add 50 = .ok (.getfield 28, 3) := by decide +kernel
theorem dX0_add_53 : decode cX0_add 53 = .ok (.iload 5, 2) := by decide +kernel
theorem dX0_add_55 : decode cX0_add 55 = .ok (.iload_n 3, 1) := by decide +kernel
theorem dX0_add_56 : decode cX0_add 56 = .ok (.iastore, 1) := by decide +kernel
theorem dX0_add_57 : decode cX0_add 57 = .ok (.aload_n 0, 1) := by decide +kernel
theorem dX0_add_58 : decode cX0_add 58 = .ok (.getfield 31, 3) := by decide +kernel
theorem dX0_add_61 : decode cX0_add 61 = .ok (.iload 5, 2) := by decide +kernel
theorem dX0_add_63 : decode cX0_add 63 = .ok (.iconst 0, 1) := by decide +kernel
theorem dX0_add_64 : decode cX0_add 64 = .ok (.iastore, 1) := by decide +kernel
theorem dX0_add_65 : decode cX0_add 65 = .ok (.aload_n 0, 1) := by decide +kernel
theorem dX0_add_66 : decode cX0_add 66 = .ok (.getfield 34, 3) := by decide +kernel
theorem dX0_add_69 : decode cX0_add 69 = .ok (.iload 5, 2) := by decide +kernel
theorem dX0_add_71 : decode cX0_add 71 = .ok (.iconst 0, 1) := by decide +kernel
theorem dX0_add_72 : decode cX0_add 72 = .ok (.iastore, 1) := by decide +kernel
theorem dX0_add_73 : decode cX0_add 73 = .ok (.aload_n 0, 1) := by decide +kernel
theorem dX0_add_74 : decode cX0_add 74 = .ok (.getfield 37, 3) := by decide +kernel
theorem dX0_add_77 : decode cX0_add 77 = .ok (.iload 5, 2) := by decide +kernel
theorem dX0_add_79 : decode cX0_add 79 = .ok (.iconst 0, 1) := by decide +kernel
theorem dX0_add_80 : decode cX0_add 80 = .ok (.bastore, 1) := by decide +kernel
theorem dX0_add_81 : decode cX0_add 81 = .ok (.aload_n 0, 1) := by decide +kernel
theorem dX0_add_82 : decode cX0_add 82 = .ok (.dup, 1) := by decide +kernel
theorem dX0_add_83 : decode cX0_add 83 = .ok (.getfield 41, 3) := by decide +kernel
theorem dX0_add_86 : decode cX0_add 86 = .ok (.iconst 1, 1) := by decide +kernel
theorem dX0_add_87 : decode cX0_add 87 = .ok (.iadd, 1) := by decide +kernel
theorem dX0_add_88 : decode cX0_add 88 = .ok (.putfield 41, 3) := by decide +kernel
theorem dX0_add_91 : decode cX0_add 91 = .ok (.iload 5, 2) := by decide +kernel
theorem dX0_add_93 : decode cX0_add 93 = .ok (.ireturn, 1) := by decide +kernel
theorem dX0_payPart_0 : decode cX0_payPart 0 = .ok (.aload_n 0, 1) := by decide +kernel
theorem dX0_payPart_1 : decode cX0_payPart 1 = .ok (.iload_n 1, 1) := by decide +kernel
theorem dX0_payPart_2 : decode cX0_payPart 2 = .ok (.invokevirtual 63, 3) := by decide +kernel
theorem dX0_payPart_5 : decode cX0_payPart 5 = .ok (.ifCond .eq 33, 3) := by decide +kernel
theorem dX0_payPart_8 : decode cX0_payPart 8 = .ok (.aload_n 0, 1) := by decide +kernel
theorem dX0_payPart_9 : decode cX0_payPart 9 = .ok (.getfield 22, 3) := by decide +kernel
theorem dX0_payPart_12 : decode cX0_payPart 12 = .ok (.iload_n 1, 1) := by decide +kernel
theorem dX0_payPart_13 : decode cX0_payPart 13 = .ok (.dup2, 1) := by decide +kernel
theorem dX0_payPart_14 : decode cX0_payPart 14 = .ok (.iaload, 1) := by decide +kernel
theorem dX0_payPart_15 : decode cX0_payPart 15 = .ok (.iload_n 2, 1) := by decide +kernel
theorem dX0_payPart_16 : decode cX0_payPart 16 = .ok (.isub, 1) := by decide +kernel
theorem dX0_payPart_17 : decode cX0_payPart 17 = .ok (.iastore, 1) := by decide +kernel
theorem dX0_payPart_18 : decode cX0_payPart 18 = .ok (.aload_n 0, 1) := by decide +kernel
theorem dX0_payPart_19 : decode cX0_payPart 19 = .ok (.getfield 31, 3) := by decide +kernel
theorem dX0_payPart_22 : decode cX0_payPart 22 = .ok (.iload_n 1, 1) := by decide +kernel
theorem dX0_payPart_23 : decode cX0_payPart 23 = .ok (.dup2, 1) := by decide +kernel
theorem dX0_payPart_24 : decode cX0_payPart 24 = .ok (.iaload, 1) := by decide +kernel
theorem dX0_payPart_25 : decode cX0_payPart 25 = .ok (.iload_n 2, 1) := by decide +kernel
theorem dX0_payPart_26 : decode cX0_payPart 26 = .ok (.iadd, 1) := by decide +kernel
theorem dX0_payPart_27 : decode cX0_payPart 27 = .ok (.iastore, 1) := by decide +kernel
theorem dX0_payPart_28 : decode cX0_payPart 28 = .ok (.aload_n 0, 1) := by decide +kernel
theorem dX0_payPart_29 : decode cX0_payPart 29 = .ok (.dup, 1) := by decide +kernel
theorem dX0_payPart_30 : decode cX0_payPart 30 = .ok (.getfield 44, 3) := by decide +kernel
theorem dX0_payPart_33 : decode cX0_payPart 33 = .ok (.iload_n 2, 1) := by decide +kernel
theorem dX0_payPart_34 : decode cX0_payPart 34 = .ok (.iadd, 1) := by decide +kernel
theorem dX0_payPart_35 : decode cX0_payPart 35 = .ok (.putfield 44, 3) := by decide +kernel
theorem dX0_payPart_38 : decode cX0_payPart 38 = .ok (.return_, 1) := by decide +kernel
theorem dX0_releasePart_0 : decode cX0_releasePart 0 = .ok (.aload_n 0, 1) := by decide +kernel
theorem dX0_releasePart_1 : decode cX0_releasePart 1 = .ok (.iload_n 1, 1) := by decide +kernel
theorem dX0_releasePart_2 : decode cX0_releasePart 2 = .ok (.invokevirtual 63, 3) := by decide +kernel
theorem dX0_releasePart_5 : decode cX0_releasePart 5 = .ok (.ifCond .eq 33, 3) := by decide +kernel
theorem dX0_releasePart_8 : decode cX0_releasePart 8 = .ok (.aload_n 0, 1) := by decide +kernel
theorem dX0_releasePart_9 : decode cX0_releasePart 9 = .ok (.getfield 22, 3) := by decide +kernel
theorem dX0_releasePart_12 : decode cX0_releasePart 12 = .ok (.iload_n 1, 1) := by decide +kernel
theorem dX0_releasePart_13 : decode cX0_releasePart 13 = .ok (.dup2, 1) := by decide +kernel
theorem dX0_releasePart_14 : decode cX0_releasePart 14 = .ok (.iaload, 1) := by decide +kernel
theorem dX0_releasePart_15 : decode cX0_releasePart 15 = .ok (.iload_n 2, 1) := by decide +kernel
theorem dX0_releasePart_16 : decode cX0_releasePart 16 = .ok (.isub, 1) := by decide +kernel
theorem dX0_releasePart_17 : decode cX0_releasePart 17 = .ok (.iastore, 1) := by decide +kernel
theorem dX0_releasePart_18 : decode cX0_releasePart 18 = .ok (.aload_n 0, 1) := by decide +kernel
theorem dX0_releasePart_19 : decode cX0_releasePart 19 = .ok (.getfield 34, 3) := by decide +kernel
theorem dX0_releasePart_22 : decode cX0_releasePart 22 = .ok (.iload_n 1, 1) := by decide +kernel
theorem dX0_releasePart_23 : decode cX0_releasePart 23 = .ok (.dup2, 1) := by decide +kernel
theorem dX0_releasePart_24 : decode cX0_releasePart 24 = .ok (.iaload, 1) := by decide +kernel
theorem dX0_releasePart_25 : decode cX0_releasePart 25 = .ok (.iload_n 2, 1) := by decide +kernel
theorem dX0_releasePart_26 : decode cX0_releasePart 26 = .ok (.iadd, 1) := by decide +kernel
theorem dX0_releasePart_27 : decode cX0_releasePart 27 = .ok (.iastore, 1) := by decide +kernel
theorem dX0_releasePart_28 : decode cX0_releasePart 28 = .ok (.aload_n 0, 1) := by decide +kernel
theorem dX0_releasePart_29 : decode cX0_releasePart 29 = .ok (.dup, 1) := by decide +kernel
theorem dX0_releasePart_30 : decode cX0_releasePart 30 = .ok (.getfield 47, 3) := by decide +kernel
theorem dX0_releasePart_33 : decode cX0_releasePart 33 = .ok (.iload_n 2, 1) := by decide +kernel
theorem dX0_releasePart_34 : decode cX0_releasePart 34 = .ok (.iadd, 1) := by decide +kernel
theorem dX0_releasePart_35 : decode cX0_releasePart 35 = .ok (.putfield 47, 3) := by decide +kernel
theorem dX0_releasePart_38 : decode cX0_releasePart 38 = .ok (.return_, 1) := by decide +kernel
theorem dX0_canBeDisputed_0 : decode cX0_canBeDisputed 0 = .ok (.aload_n 0, 1) := by decide +kernel
theorem dX0_canBeDisputed_1 : decode cX0_canBeDisputed 1 = .ok (.iload_n 1, 1) := by decide +kernel
theorem dX0_canBeDisputed_2 : decode cX0_canBeDisputed 2 = .ok (.invokevirtual 63, 3) := by decide +kernel
theorem dX0_canBeDisputed_5 : decode cX0_canBeDisputed 5 = .ok (.ifCond .eq 15, 3) := by decide +kernel
theorem dX0_canBeDisputed_8 : decode cX0_canBeDisputed 8 = .ok (.aload_n 0, 1) := by decide +kernel
theorem dX0_canBeDisputed_9 : decode cX0_canBeDisputed 9 = .ok (.iload_n 1, 1) := by decide +kernel
theorem dX0_canBeDisputed_10 : decode cX0_canBeDisputed 10 = .ok (.invokevirtual 66, 3) := by decide +kernel
theorem dX0_canBeDisputed_13 : decode cX0_canBeDisputed 13 = .ok (.ifCond .eq 7, 3) := by decide +kernel
theorem dX0_canBeDisputed_16 : decode cX0_canBeDisputed 16 = .ok (.iconst 1, 1) := by decide +kernel
theorem dX0_canBeDisputed_17 : decode cX0_canBeDisputed 17 = .ok (.goto 4, 3) := by decide +kernel
theorem dX0_canBeDisputed_20 : decode cX0_canBeDisputed 20 = .ok (.iconst 0, 1) := by decide +kernel
theorem dX0_canBeDisputed_21 : decode cX0_canBeDisputed 21 = .ok (.ireturn, 1) := by decide +kernel
theorem dX0_isOwing_0 : decode cX0_isOwing 0 = .ok (.aload_n 0, 1) := by decide +kernel
theorem dX0_isOwing_1 : decode cX0_isOwing 1 = .ok (.getfield 22, 3) := by decide +kernel
theorem dX0_isOwing_4 : decode cX0_isOwing 4 = .ok (.iload_n 1, 1) := by decide +kernel
theorem dX0_isOwing_5 : decode cX0_isOwing 5 = .ok (.iaload, 1) := by decide +kernel
theorem dX0_isOwing_6 : decode cX0_isOwing 6 = .ok (.ifCond .le 16, 3) := by decide +kernel
theorem dX0_isOwing_9 : decode cX0_isOwing 9 = .ok (.aload_n 0, 1) := by decide +kernel
theorem dX0_isOwing_10 : decode cX0_isOwing 10 = .ok (.getfield 37, 3) := by decide +kernel
theorem dX0_isOwing_13 : decode cX0_isOwing 13 = .ok (.iload_n 1, 1) := by decide +kernel
theorem dX0_isOwing_14 : decode cX0_isOwing 14 = .ok (.baload, 1) := by decide +kernel
theorem dX0_isOwing_15 : decode cX0_isOwing 15 = .ok (.ifCond .ne 7, 3) := by decide +kernel
theorem dX0_isOwing_18 : decode cX0_isOwing 18 = .ok (.iconst 1, 1) := by decide +kernel
theorem dX0_isOwing_19 : decode cX0_isOwing 19 = .ok (.goto 4, 3) := by decide +kernel
theorem dX0_isOwing_22 : decode cX0_isOwing 22 = .ok (.iconst 0, 1) := by decide +kernel
theorem dX0_isOwing_23 : decode cX0_isOwing 23 = .ok (.ireturn, 1) := by decide +kernel
theorem dX0_pairOf_0 : decode cX0_pairOf 0 = .ok (.aload_n 0, 1) := by decide +kernel
theorem dX0_pairOf_1 : decode cX0_pairOf 1 = .ok (.getfield 15, 3) := by decide +kernel
theorem dX0_pairOf_4 : decode cX0_pairOf 4 = .ok (.iload_n 1, 1) := by decide +kernel
theorem dX0_pairOf_5 : decode cX0_pairOf 5 = .ok (.iaload, 1) := by decide +kernel
theorem dX0_pairOf_6 : decode cX0_pairOf 6 = .ok (.bipush 7, 2) := by decide +kernel
theorem dX0_pairOf_8 : decode cX0_pairOf 8 = .ok (.imul, 1) := by decide +kernel
theorem dX0_pairOf_9 : decode cX0_pairOf 9 = .ok (.aload_n 0, 1) := by decide +kernel
theorem dX0_pairOf_10 : decode cX0_pairOf 10 = .ok (.getfield 19, 3) := by decide +kernel
theorem dX0_pairOf_13 : decode cX0_pairOf 13 = .ok (.iload_n 1, 1) := by decide +kernel
theorem dX0_pairOf_14 : decode cX0_pairOf 14 = .ok (.iaload, 1) := by decide +kernel
theorem dX0_pairOf_15 : decode cX0_pairOf 15 = .ok (.iadd, 1) := by decide +kernel
theorem dX0_pairOf_16 : decode cX0_pairOf 16 = .ok (.ireturn, 1) := by decide +kernel
theorem dX0_costOf_0 : decode cX0_costOf 0 = .ok (.aload_n 0, 1) := by decide +kernel
theorem dX0_costOf_1 : decode cX0_costOf 1 = .ok (.getfield 22, 3) := by decide +kernel
theorem dX0_costOf_4 : decode cX0_costOf 4 = .ok (.iload_n 1, 1) := by decide +kernel
theorem dX0_costOf_5 : decode cX0_costOf 5 = .ok (.iaload, 1) := by decide +kernel
theorem dX0_costOf_6 : decode cX0_costOf 6 = .ok (.aload_n 0, 1) := by decide +kernel
theorem dX0_costOf_7 : decode cX0_costOf 7 = .ok (.getfield 25, 3) := by decide +kernel
theorem dX0_costOf_10 : decode cX0_costOf 10 = .ok (.iload_n 1, 1) := by decide +kernel
theorem dX0_costOf_11 : decode cX0_costOf 11 = .ok (.iaload, 1) := by decide +kernel
theorem dX0_costOf_12 : decode cX0_costOf 12 = .ok (.imul, 1) := by decide +kernel
theorem dX0_costOf_13 : decode cX0_costOf 13 = .ok (.ireturn, 1) := by decide +kernel
theorem dX0_debtBetween_0 : decode cX0_debtBetween 0 = .ok (.iconst 0, 1) := by decide +kernel
theorem dX0_debtBetween_1 : decode cX0_debtBetween 1 = .ok (.istore_n 3, 1) := by decide +kernel
theorem dX0_debtBetween_2 : decode cX0_debtBetween 2 = .ok (.iconst 0, 1) := by decide +kernel
theorem dX0_debtBetween_3 : decode cX0_debtBetween 3 = .ok (.istore 4, 2) := by decide +kernel
theorem dX0_debtBetween_5 : decode cX0_debtBetween 5 = .ok (.iload 4, 2) := by decide +kernel
theorem dX0_debtBetween_7 : decode cX0_debtBetween 7 = .ok (.aload_n 0, 1) := by decide +kernel
theorem dX0_debtBetween_8 : decode cX0_debtBetween 8 = .ok (.getfield 41, 3) := by decide +kernel
theorem dX0_debtBetween_11 : decode cX0_debtBetween 11 = .ok (.if_icmp .ge 51, 3) := by decide +kernel
theorem dX0_debtBetween_14 : decode cX0_debtBetween 14 = .ok (.aload_n 0, 1) := by decide +kernel
theorem dX0_debtBetween_15 : decode cX0_debtBetween 15 = .ok (.getfield 15, 3) := by decide +kernel
theorem dX0_debtBetween_18 : decode cX0_debtBetween 18 = .ok (.iload 4, 2) := by decide +kernel
theorem dX0_debtBetween_20 : decode cX0_debtBetween 20 = .ok (.iaload, 1) := by decide +kernel
theorem dX0_debtBetween_21 : decode cX0_debtBetween 21 = .ok (.iload_n 1, 1) := by decide +kernel
theorem dX0_debtBetween_22 : decode cX0_debtBetween 22 = .ok (.if_icmp .ne 34, 3) := by decide +kernel
theorem dX0_debtBetween_25 : decode cX0_debtBetween 25 = .ok (.aload_n 0, 1) := by decide +kernel
theorem dX0_debtBetween_26 : decode cX0_debtBetween 26 = .ok (.getfield 19, 3) := by decide +kernel
theorem dX0_debtBetween_29 : decode cX0_debtBetween 29 = .ok (.iload 4, 2) := by decide +kernel
theorem dX0_debtBetween_31 : decode cX0_debtBetween 31 = .ok (.iaload, 1) := by decide +kernel
theorem dX0_debtBetween_32 : decode cX0_debtBetween 32 = .ok (.iload_n 2, 1) := by decide +kernel
theorem dX0_debtBetween_33 : decode cX0_debtBetween 33 = .ok (.if_icmp .ne 23, 3) := by decide +kernel
theorem dX0_debtBetween_36 : decode cX0_debtBetween 36 = .ok (.aload_n 0, 1) := by decide +kernel
theorem dX0_debtBetween_37 : decode cX0_debtBetween 37 = .ok (.getfield 37, 3) := by decide +kernel
theorem dX0_debtBetween_40 : decode cX0_debtBetween 40 = .ok (.iload 4, 2) := by decide +kernel
theorem dX0_debtBetween_42 : decode cX0_debtBetween 42 = .ok (.baload, 1) := by decide +kernel
theorem dX0_debtBetween_43 : decode cX0_debtBetween 43 = .ok (.ifCond .ne 13, 3) := by decide +kernel
theorem dX0_debtBetween_46 : decode cX0_debtBetween 46 = .ok (.iload_n 3, 1) := by decide +kernel
theorem dX0_debtBetween_47 : decode cX0_debtBetween 47 = .ok (.aload_n 0, 1) := by decide +kernel
theorem dX0_debtBetween_48 : decode cX0_debtBetween 48 = .ok (.getfield 22, 3) := by decide +kernel
theorem dX0_debtBetween_51 : decode cX0_debtBetween 51 = .ok (.iload 4, 2) := by decide +kernel
theorem dX0_debtBetween_53 : decode cX0_debtBetween 53 = .ok (.iaload, 1) := by decide +kernel
theorem dX0_debtBetween_54 : decode cX0_debtBetween 54 = .ok (.iadd, 1) := by decide +kernel
theorem dX0_debtBetween_55 : decode cX0_debtBetween 55 = .ok (.istore_n 3, 1) := by decide +kernel
theorem dX0_debtBetween_56 : decode cX0_debtBetween 56 = .ok (.iinc 4 1, 3) := by decide +kernel
theorem dX0_debtBetween_59 : decode cX0_debtBetween 59 = .ok (.goto (-54), 3) := by decide +kernel
theorem dX0_debtBetween_62 : decode cX0_debtBetween 62 = .ok (.iload_n 3, 1) := by decide +kernel
theorem dX0_debtBetween_63 : decode cX0_debtBetween 63 = .ok (.ireturn, 1) := by decide +kernel
theorem dX0_netOf_0 : decode cX0_netOf 0 = .ok (.iconst 0, 1) := by decide +kernel
theorem dX0_netOf_1 : decode cX0_netOf 1 = .ok (.istore_n 2, 1) := by decide +kernel
theorem dX0_netOf_2 : decode cX0_netOf 2 = .ok (.iconst 0, 1) := by decide +kernel
theorem dX0_netOf_3 : decode cX0_netOf 3 = .ok (.istore_n 3, 1) := by decide +kernel
theorem dX0_netOf_4 : decode cX0_netOf 4 = .ok (.iload_n 3, 1) := by decide +kernel
theorem dX0_netOf_5 : decode cX0_netOf 5 = .ok (.aload_n 0, 1) := by decide +kernel
theorem dX0_netOf_6 : decode cX0_netOf 6 = .ok (.getfield 41, 3) := by decide +kernel
theorem dX0_netOf_9 : decode cX0_netOf 9 = .ok (.if_icmp .ge 47, 3) := by decide +kernel
theorem dX0_netOf_12 : decode cX0_netOf 12 = .ok (.aload_n 0, 1) := by decide +kernel
theorem dX0_netOf_13 : decode cX0_netOf 13 = .ok (.getfield 19, 3) := by decide +kernel
theorem dX0_netOf_16 : decode cX0_netOf 16 = .ok (.iload_n 3, 1) := by decide +kernel
theorem dX0_netOf_17 : decode cX0_netOf 17 = .ok (.iaload, 1) := by decide +kernel
theorem dX0_netOf_18 : decode cX0_netOf 18 = .ok (.iload_n 1, 1) := by decide +kernel
theorem dX0_netOf_19 : decode cX0_netOf 19 = .ok (.if_icmp .ne 12, 3) := by decide +kernel
theorem dX0_netOf_22 : decode cX0_netOf 22 = .ok (.iload_n 2, 1) := by decide +kernel
theorem dX0_netOf_23 : decode cX0_netOf 23 = .ok (.aload_n 0, 1) := by decide +kernel
theorem dX0_netOf_24 : decode cX0_netOf 24 = .ok (.getfield 22, 3) := by decide +kernel
theorem dX0_netOf_27 : decode cX0_netOf 27 = .ok (.iload_n 3, 1) := by decide +kernel
theorem dX0_netOf_28 : decode cX0_netOf 28 = .ok (.iaload, 1) := by decide +kernel
theorem dX0_netOf_29 : decode cX0_netOf 29 = .ok (.iadd, 1) := by decide +kernel
theorem dX0_netOf_30 : decode cX0_netOf 30 = .ok (.istore_n 2, 1) := by decide +kernel
theorem dX0_netOf_31 : decode cX0_netOf 31 = .ok (.aload_n 0, 1) := by decide +kernel
theorem dX0_netOf_32 : decode cX0_netOf 32 = .ok (.getfield 15, 3) := by decide +kernel
theorem dX0_netOf_35 : decode cX0_netOf 35 = .ok (.iload_n 3, 1) := by decide +kernel
theorem dX0_netOf_36 : decode cX0_netOf 36 = .ok (.iaload, 1) := by decide +kernel
theorem dX0_netOf_37 : decode cX0_netOf 37 = .ok (.iload_n 1, 1) := by decide +kernel
theorem dX0_netOf_38 : decode cX0_netOf 38 = .ok (.if_icmp .ne 12, 3) := by decide +kernel
theorem dX0_netOf_41 : decode cX0_netOf 41 = .ok (.iload_n 2, 1) := by decide +kernel
theorem dX0_netOf_42 : decode cX0_netOf 42 = .ok (.aload_n 0, 1) := by decide +kernel
theorem dX0_netOf_43 : decode cX0_netOf 43 = .ok (.getfield 22, 3) := by decide +kernel
theorem dX0_netOf_46 : decode cX0_netOf 46 = .ok (.iload_n 3, 1) := by decide +kernel
theorem dX0_netOf_47 : decode cX0_netOf 47 = .ok (.iaload, 1) := by decide +kernel
theorem dX0_netOf_48 : decode cX0_netOf 48 = .ok (.isub, 1) := by decide +kernel
theorem dX0_netOf_49 : decode cX0_netOf 49 = .ok (.istore_n 2, 1) := by decide +kernel
theorem dX0_netOf_50 : decode cX0_netOf 50 = .ok (.iinc 3 1, 3) := by decide +kernel
theorem dX0_netOf_53 : decode cX0_netOf 53 = .ok (.goto (-49), 3) := by decide +kernel
theorem dX0_netOf_56 : decode cX0_netOf 56 = .ok (.iload_n 2, 1) := by decide +kernel
theorem dX0_netOf_57 : decode cX0_netOf 57 = .ok (.ireturn, 1) := by decide +kernel
theorem dX0_sumOfGains_0 : decode cX0_sumOfGains 0 = .ok (.iconst 0, 1) := by decide +kernel
theorem dX0_sumOfGains_1 : decode cX0_sumOfGains 1 = .ok (.istore_n 1, 1) := by decide +kernel
theorem dX0_sumOfGains_2 : decode cX0_sumOfGains 2 = .ok (.iconst 0, 1) := by decide +kernel
theorem dX0_sumOfGains_3 : decode cX0_sumOfGains 3 = .ok (.istore_n 2, 1) := by decide +kernel
theorem dX0_sumOfGains_4 : decode cX0_sumOfGains 4 = .ok (.iload_n 2, 1) := by decide +kernel
theorem dX0_sumOfGains_5 : decode cX0_sumOfGains 5 = .ok (.aload_n 0, 1) := by decide +kernel
theorem dX0_sumOfGains_6 : decode cX0_sumOfGains 6 = .ok (.getfield 9, 3) := by decide +kernel
theorem dX0_sumOfGains_9 : decode cX0_sumOfGains 9 = .ok (.if_icmp .ge 21, 3) := by decide +kernel
theorem dX0_sumOfGains_12 : decode cX0_sumOfGains 12 = .ok (.iload_n 1, 1) := by decide +kernel
theorem dX0_sumOfGains_13 : decode cX0_sumOfGains 13 = .ok (.iconst 0, 1) := by decide +kernel
theorem dX0_sumOfGains_14 : decode cX0_sumOfGains 14 = .ok (.aload_n 0, 1) := by decide +kernel
theorem dX0_sumOfGains_15 : decode cX0_sumOfGains 15 = .ok (.iload_n 2, 1) := by decide +kernel
theorem dX0_sumOfGains_16 : decode cX0_sumOfGains 16 = .ok (.invokevirtual 69, 3) := by decide +kernel
theorem dX0_sumOfGains_19 : decode cX0_sumOfGains 19 = .ok (.invokestatic 73, 3) := by decide +kernel
theorem dX0_sumOfGains_22 : decode cX0_sumOfGains 22 = .ok (.iadd, 1) := by decide +kernel
theorem dX0_sumOfGains_23 : decode cX0_sumOfGains 23 = .ok (.istore_n 1, 1) := by decide +kernel
theorem dX0_sumOfGains_24 : decode cX0_sumOfGains 24 = .ok (.iinc 2 1, 3) := by decide +kernel
theorem dX0_sumOfGains_27 : decode cX0_sumOfGains 27 = .ok (.goto (-23), 3) := by decide +kernel
theorem dX0_sumOfGains_30 : decode cX0_sumOfGains 30 = .ok (.iload_n 1, 1) := by decide +kernel
theorem dX0_sumOfGains_31 : decode cX0_sumOfGains 31 = .ok (.ireturn, 1) := by decide +kernel
theorem dX0_countOpen_0 : decode cX0_countOpen 0 = .ok (.iconst 0, 1) := by decide +kernel
theorem dX0_countOpen_1 : decode cX0_countOpen 1 = .ok (.istore_n 1, 1) := by decide +kernel
theorem dX0_countOpen_2 : decode cX0_countOpen 2 = .ok (.iconst 0, 1) := by decide +kernel
theorem dX0_countOpen_3 : decode cX0_countOpen 3 = .ok (.istore_n 2, 1) := by decide +kernel
theorem dX0_countOpen_4 : decode cX0_countOpen 4 = .ok (.iload_n 2, 1) := by decide +kernel
theorem dX0_countOpen_5 : decode cX0_countOpen 5 = .ok (.aload_n 0, 1) := by decide +kernel
theorem dX0_countOpen_6 : decode cX0_countOpen 6 = .ok (.getfield 41, 3) := by decide +kernel
theorem dX0_countOpen_9 : decode cX0_countOpen 9 = .ok (.if_icmp .ge 21, 3) := by decide +kernel
theorem dX0_countOpen_12 : decode cX0_countOpen 12 = .ok (.aload_n 0, 1) := by decide +kernel
theorem dX0_countOpen_13 : decode cX0_countOpen 13 = .ok (.getfield 22, 3) := by decide +kernel
theorem dX0_countOpen_16 : decode cX0_countOpen 16 = .ok (.iload_n 2, 1) := by decide +kernel
theorem dX0_countOpen_17 : decode cX0_countOpen 17 = .ok (.iaload, 1) := by decide +kernel
theorem dX0_countOpen_18 : decode cX0_countOpen 18 = .ok (.ifCond .le 6, 3) := by decide +kernel
theorem dX0_countOpen_21 : decode cX0_countOpen 21 = .ok (.iinc 1 1, 3) := by decide +kernel
theorem dX0_countOpen_24 : decode cX0_countOpen 24 = .ok (.iinc 2 1, 3) := by decide +kernel
theorem dX0_countOpen_27 : decode cX0_countOpen 27 = .ok (.goto (-23), 3) := by decide +kernel
theorem dX0_countOpen_30 : decode cX0_countOpen 30 = .ok (.iload_n 1, 1) := by decide +kernel
theorem dX0_countOpen_31 : decode cX0_countOpen 31 = .ok (.ireturn, 1) := by decide +kernel
theorem dX0_countDisputed_0 : decode cX0_countDisputed 0 = .ok (.iconst 0, 1) := by decide +kernel
theorem dX0_countDisputed_1 : decode cX0_countDisputed 1 = .ok (.istore_n 1, 1) := by decide +kernel
theorem dX0_countDisputed_2 : decode cX0_countDisputed 2 = .ok (.iconst 0, 1) := by decide +kernel
theorem dX0_countDisputed_3 : decode cX0_countDisputed 3 = .ok (.istore_n 2, 1) := by decide +kernel
theorem dX0_countDisputed_4 : decode cX0_countDisputed 4 = .ok (.iload_n 2, 1) := by decide +kernel
theorem dX0_countDisputed_5 : decode cX0_countDisputed 5 = .ok (.aload_n 0, 1) := by decide +kernel
theorem dX0_countDisputed_6 : decode cX0_countDisputed 6 = .ok (.getfield 41, 3) := by decide +kernel
theorem dX0_countDisputed_9 : decode cX0_countDisputed 9 = .ok (.if_icmp .ge 21, 3) := by decide +kernel
theorem dX0_countDisputed_12 : decode cX0_countDisputed 12 = .ok (.aload_n 0, 1) := by decide +kernel
theorem dX0_countDisputed_13 : decode cX0_countDisputed 13 = .ok (.getfield 37, 3) := by decide +kernel
theorem dX0_countDisputed_16 : decode cX0_countDisputed 16 = .ok (.iload_n 2, 1) := by decide +kernel
theorem dX0_countDisputed_17 : decode cX0_countDisputed 17 = .ok (.baload, 1) := by decide +kernel
theorem dX0_countDisputed_18 : decode cX0_countDisputed 18 = .ok (.ifCond .eq 6, 3) := by decide +kernel
theorem dX0_countDisputed_21 : decode cX0_countDisputed 21 = .ok (.iinc 1 1, 3) := by decide +kernel
theorem dX0_countDisputed_24 : decode cX0_countDisputed 24 = .ok (.iinc 2 1, 3) := by decide +kernel
theorem dX0_countDisputed_27 : decode cX0_countDisputed 27 = .ok (.goto (-23), 3) := by decide +kernel
theorem dX0_countDisputed_30 : decode cX0_countDisputed 30 = .ok (.iload_n 1, 1) := by decide +kernel
theorem dX0_countDisputed_31 : decode cX0_countDisputed 31 = .ok (.ireturn, 1) := by decide +kernel
theorem dX0_sumOfAmounts_0 : decode cX0_sumOfAmounts 0 = .ok (.iconst 0, 1) := by decide +kernel
theorem dX0_sumOfAmounts_1 : decode cX0_sumOfAmounts 1 = .ok (.istore_n 1, 1) := by decide +kernel
theorem dX0_sumOfAmounts_2 : decode cX0_sumOfAmounts 2 = .ok (.iconst 0, 1) := by decide +kernel
theorem dX0_sumOfAmounts_3 : decode cX0_sumOfAmounts 3 = .ok (.istore_n 2, 1) := by decide +kernel
theorem dX0_sumOfAmounts_4 : decode cX0_sumOfAmounts 4 = .ok (.iload_n 2, 1) := by decide +kernel
theorem dX0_sumOfAmounts_5 : decode cX0_sumOfAmounts 5 = .ok (.aload_n 0, 1) := by decide +kernel
theorem dX0_sumOfAmounts_6 : decode cX0_sumOfAmounts 6 = .ok (.getfield 41, 3) := by decide +kernel
theorem dX0_sumOfAmounts_9 : decode cX0_sumOfAmounts 9 = .ok (.if_icmp .ge 18, 3) := by decide +kernel
theorem dX0_sumOfAmounts_12 : decode cX0_sumOfAmounts 12 = .ok (.iload_n 1, 1) := by decide +kernel
theorem dX0_sumOfAmounts_13 : decode cX0_sumOfAmounts 13 = .ok (.aload_n 0, 1) := by decide +kernel
theorem dX0_sumOfAmounts_14 : decode cX0_sumOfAmounts 14 = .ok (.getfield 22, 3) := by decide +kernel
theorem dX0_sumOfAmounts_17 : decode cX0_sumOfAmounts 17 = .ok (.iload_n 2, 1) := by decide +kernel
theorem dX0_sumOfAmounts_18 : decode cX0_sumOfAmounts 18 = .ok (.iaload, 1) := by decide +kernel
theorem dX0_sumOfAmounts_19 : decode cX0_sumOfAmounts 19 = .ok (.iadd, 1) := by decide +kernel
theorem dX0_sumOfAmounts_20 : decode cX0_sumOfAmounts 20 = .ok (.istore_n 1, 1) := by decide +kernel
theorem dX0_sumOfAmounts_21 : decode cX0_sumOfAmounts 21 = .ok (.iinc 2 1, 3) := by decide +kernel
theorem dX0_sumOfAmounts_24 : decode cX0_sumOfAmounts 24 = .ok (.goto (-20), 3) := by decide +kernel
theorem dX0_sumOfAmounts_27 : decode cX0_sumOfAmounts 27 = .ok (.iload_n 1, 1) := by decide +kernel
theorem dX0_sumOfAmounts_28 : decode cX0_sumOfAmounts 28 = .ok (.ireturn, 1) := by decide +kernel
theorem dX0_costOfAll_0 : decode cX0_costOfAll 0 = .ok (.iconst 0, 1) := by decide +kernel
theorem dX0_costOfAll_1 : decode cX0_costOfAll 1 = .ok (.istore_n 1, 1) := by decide +kernel
theorem dX0_costOfAll_2 : decode cX0_costOfAll 2 = .ok (.iconst 0, 1) := by decide +kernel
theorem dX0_costOfAll_3 : decode cX0_costOfAll 3 = .ok (.istore_n 2, 1) := by decide +kernel
theorem dX0_costOfAll_4 : decode cX0_costOfAll 4 = .ok (.iload_n 2, 1) := by decide +kernel
theorem dX0_costOfAll_5 : decode cX0_costOfAll 5 = .ok (.aload_n 0, 1) := by decide +kernel
theorem dX0_costOfAll_6 : decode cX0_costOfAll 6 = .ok (.getfield 41, 3) := by decide +kernel
theorem dX0_costOfAll_9 : decode cX0_costOfAll 9 = .ok (.if_icmp .ge 17, 3) := by decide +kernel
theorem dX0_costOfAll_12 : decode cX0_costOfAll 12 = .ok (.iload_n 1, 1) := by decide +kernel
theorem dX0_costOfAll_13 : decode cX0_costOfAll 13 = .ok (.aload_n 0, 1) := by decide +kernel
theorem dX0_costOfAll_14 : decode cX0_costOfAll 14 = .ok (.iload_n 2, 1) := by decide +kernel
theorem dX0_costOfAll_15 : decode cX0_costOfAll 15 = .ok (.invokevirtual 79, 3) := by decide +kernel
theorem dX0_costOfAll_18 : decode cX0_costOfAll 18 = .ok (.iadd, 1) := by decide +kernel
theorem dX0_costOfAll_19 : decode cX0_costOfAll 19 = .ok (.istore_n 1, 1) := by decide +kernel
theorem dX0_costOfAll_20 : decode cX0_costOfAll 20 = .ok (.iinc 2 1, 3) := by decide +kernel
theorem dX0_costOfAll_23 : decode cX0_costOfAll 23 = .ok (.goto (-19), 3) := by decide +kernel
theorem dX0_costOfAll_26 : decode cX0_costOfAll 26 = .ok (.iload_n 1, 1) := by decide +kernel
theorem dX0_costOfAll_27 : decode cX0_costOfAll 27 = .ok (.ireturn, 1) := by decide +kernel
theorem dX1_init_0 : decode cX1_init 0 = .ok (.aload_n 0, 1) := by decide +kernel
theorem dX1_init_1 : decode cX1_init 1 = .ok (.invokespecial 3, 3) := by decide +kernel
theorem dX1_init_4 : decode cX1_init 4 = .ok (.aload_n 0, 1) := by decide +kernel
theorem dX1_init_5 : decode cX1_init 5 = .ok (.bipush 49, 2) := by decide +kernel
theorem dX1_init_7 : decode cX1_init 7 = .ok (.newarray .int, 2) := by decide +kernel
theorem dX1_init_9 : decode cX1_init 9 = .ok (.putfield 9, 3) := by decide +kernel
theorem dX1_init_12 : decode cX1_init 12 = .ok (.aload_n 0, 1) := by decide +kernel
theorem dX1_init_13 : decode cX1_init 13 = .ok (.bipush 49, 2) := by decide +kernel
theorem dX1_init_15 : decode cX1_init 15 = .ok (.newarray .int, 2) := by decide +kernel
theorem dX1_init_17 : decode cX1_init 17 = .ok (.putfield 15, 3) := by decide +kernel
theorem dX1_init_20 : decode cX1_init 20 = .ok (.aload_n 0, 1) := by decide +kernel
theorem dX1_init_21 : decode cX1_init 21 = .ok (.bipush 40, 2) := by decide +kernel
theorem dX1_init_23 : decode cX1_init 23 = .ok (.newarray .int, 2) := by decide +kernel
theorem dX1_init_25 : decode cX1_init 25 = .ok (.putfield 18, 3) := by decide +kernel
theorem dX1_init_28 : decode cX1_init 28 = .ok (.return_, 1) := by decide +kernel
theorem dX1_read_0 : decode cX1_read 0 = .ok (.iconst 0, 1) := by decide +kernel
theorem dX1_read_1 : decode cX1_read 1 = .ok (.istore_n 2, 1) := by decide +kernel
theorem dX1_read_2 : decode cX1_read 2 = .ok (.iload_n 2, 1) := by decide +kernel
theorem dX1_read_3 : decode cX1_read 3 = .ok (.bipush 49, 2) := by decide +kernel
theorem dX1_read_5 : decode cX1_read 5 = .ok (.if_icmp .ge 23, 3) := by decide +kernel
theorem dX1_read_8 : decode cX1_read 8 = .ok (.aload_n 0, 1) := by decide +kernel
theorem dX1_read_9 : decode cX1_read 9 = .ok (.getfield 9, 3) := by decide +kernel
theorem dX1_read_12 : decode cX1_read 12 = .ok (.iload_n 2, 1) := by decide +kernel
theorem dX1_read_13 : decode cX1_read 13 = .ok (.iconst 0, 1) := by decide +kernel
theorem dX1_read_14 : decode cX1_read 14 = .ok (.iastore, 1) := by decide +kernel
theorem dX1_read_15 : decode cX1_read 15 = .ok (.aload_n 0, 1) := by decide +kernel
theorem dX1_read_16 : decode cX1_read 16 = .ok (.getfield 15, 3) := by decide +kernel
theorem dX1_read_19 : decode cX1_read 19 = .ok (.iload_n 2, 1) := by decide +kernel
theorem dX1_read_20 : decode cX1_read 20 = .ok (.iconst (-1), 1) := by decide +kernel
theorem dX1_read_21 : decode cX1_read 21 = .ok (.iastore, 1) := by decide +kernel
theorem dX1_read_22 : decode cX1_read 22 = .ok (.iinc 2 1, 3) := by decide +kernel
theorem dX1_read_25 : decode cX1_read 25 = .ok (.goto (-23), 3) := by decide +kernel
theorem dX1_read_28 : decode cX1_read 28 = .ok (.iconst 1, 1) := by decide +kernel
theorem dX1_read_29 : decode cX1_read 29 = .ok (.istore_n 2, 1) := by decide +kernel
theorem dX1_read_30 : decode cX1_read 30 = .ok (.iload_n 2, 1) := by decide +kernel
theorem dX1_read_31 : decode cX1_read 31 = .ok (.bipush 9, 2) := by decide +kernel
theorem dX1_read_33 : decode cX1_read 33 = .ok (.if_icmp .gt 60, 3) := by decide +kernel
theorem dX1_read_36 : decode cX1_read 36 = .ok (.aload_n 1, 1) := by decide +kernel
theorem dX1_read_37 : decode cX1_read 37 = .ok (.getfield 21, 3) := by decide +kernel
theorem dX1_read_40 : decode cX1_read 40 = .ok (.iconst 1, 1) := by decide +kernel
theorem dX1_read_41 : decode cX1_read 41 = .ok (.isub, 1) := by decide +kernel
theorem dX1_read_42 : decode cX1_read 42 = .ok (.istore_n 3, 1) := by decide +kernel
theorem dX1_read_43 : decode cX1_read 43 = .ok (.iload_n 3, 1) := by decide +kernel
theorem dX1_read_44 : decode cX1_read 44 = .ok (.ifCond .lt 43, 3) := by decide +kernel
theorem dX1_read_47 : decode cX1_read 47 = .ok (.aload_n 1, 1) := by decide +kernel
theorem dX1_read_48 : decode cX1_read 48 = .ok (.getfield 27, 3) := by decide +kernel
theorem dX1_read_51 : decode cX1_read 51 = .ok (.iload_n 3, 1) := by decide +kernel
theorem dX1_read_52 : decode cX1_read 52 = .ok (.iaload, 1) := by decide +kernel
theorem dX1_read_53 : decode cX1_read 53 = .ok (.iload_n 2, 1) := by decide +kernel
theorem dX1_read_54 : decode cX1_read 54 = .ok (.if_icmp .ne 27, 3) := by decide +kernel
theorem dX1_read_57 : decode cX1_read 57 = .ok (.aload_n 1, 1) := by decide +kernel
theorem dX1_read_58 : decode cX1_read 58 = .ok (.iload_n 3, 1) := by decide +kernel
theorem dX1_read_59 : decode cX1_read 59 = .ok (.invokevirtual 30, 3) := by decide +kernel
theorem dX1_read_62 : decode cX1_read 62 = .ok (.ifCond .eq 19, 3) := by decide +kernel
theorem dX1_read_65 : decode cX1_read 65 = .ok (.aload_n 0, 1) := by decide +kernel
theorem dX1_read_66 : decode cX1_read 66 = .ok (.aload_n 1, 1) := by decide +kernel
theorem dX1_read_67 : decode cX1_read 67 = .ok (.iload_n 3, 1) := by decide +kernel
theorem dX1_read_68 : decode cX1_read 68 = .ok (.invokevirtual 34, 3) := by decide +kernel
theorem dX1_read_71 : decode cX1_read 71 = .ok (.iload_n 3, 1) := by decide +kernel
theorem dX1_read_72 : decode cX1_read 72 = .ok (.aload_n 1, 1) := by decide +kernel
theorem dX1_read_73 : decode cX1_read 73 = .ok (.getfield 38, 3) := by decide +kernel
theorem dX1_read_76 : decode cX1_read 76 = .ok (.iload_n 3, 1) := by decide +kernel
theorem dX1_read_77 : decode cX1_read 77 = .ok (.iaload, 1) := by decide +kernel
theorem dX1_read_78 : decode cX1_read 78 = .ok (.invokevirtual 41, 3) := by decide +kernel
theorem dX1_read_81 : decode cX1_read 81 = .ok (.iinc 3 (-1), 3) := by decide +kernel
theorem dX1_read_84 : decode cX1_read 84 = .ok (.goto (-41), 3) := by decide +kernel
theorem dX1_read_87 : decode cX1_read 87 = .ok (.iinc 2 1, 3) := by decide +kernel
theorem dX1_read_90 : decode cX1_read 90 = .ok (.goto (-60), 3) := by decide +kernel
theorem dX1_read_93 : decode cX1_read 93 = .ok (.return_, 1) := by decide +kernel
theorem dX1_putFirst_0 : decode cX1_putFirst 0 = .ok (.iload_n 1, 1) := by decide +kernel
theorem dX1_putFirst_1 : decode cX1_putFirst 1 = .ok (.invokestatic 45, 3) := by decide +kernel
theorem dX1_putFirst_4 : decode cX1_putFirst 4 = .ok (.ifCond .eq 39, 3) := by decide +kernel
theorem dX1_putFirst_7 : decode cX1_putFirst 7 = .ok (.iload_n 2, 1) := by decide +kernel
theorem dX1_putFirst_8 : decode cX1_putFirst 8 = .ok (.invokestatic 48, 3) := by decide +kernel
theorem dX1_putFirst_11 : decode cX1_putFirst 11 = .ok (.ifCond .eq 32, 3) := by decide +kernel
theorem dX1_putFirst_14 : decode cX1_putFirst 14 = .ok (.aload_n 0, 1) := by decide +kernel
theorem dX1_putFirst_15 : decode cX1_putFirst 15 = .ok (.getfield 9, 3) := by decide +kernel
theorem dX1_putFirst_18 : decode cX1_putFirst 18 = .ok (.iload_n 1, 1) := by decide +kernel
theorem dX1_putFirst_19 : decode cX1_putFirst 19 = .ok (.dup2, 1) := by decide +kernel
theorem dX1_putFirst_20 : decode cX1_putFirst 20 = .ok (.iaload, 1) := by decide +kernel
theorem dX1_putFirst_21 : decode cX1_putFirst 21 = .ok (.iload_n 3, 1) := by decide +kernel
theorem dX1_putFirst_22 : decode cX1_putFirst 22 = .ok (.iadd, 1) := by decide +kernel
theorem dX1_putFirst_23 : decode cX1_putFirst 23 = .ok (.iastore, 1) := by decide +kernel
theorem dX1_putFirst_24 : decode cX1_putFirst 24 = .ok (.aload_n 0, 1) := by decide +kernel
theorem dX1_putFirst_25 : decode cX1_putFirst 25 = .ok (.getfield 18, 3) := by decide +kernel
theorem dX1_putFirst_28 : decode cX1_putFirst 28 = .ok (.iload_n 2, 1) := by decide +kernel
theorem dX1_putFirst_29 : decode cX1_putFirst 29 = .ok (.aload_n 0, 1) := by decide +kernel
theorem dX1_putFirst_30 : decode cX1_putFirst 30 = .ok (.getfield 15, 3) := by decide +kernel
theorem dX1_putFirst_33 : decode cX1_putFirst 33 = .ok (.iload_n 1, 1) := by decide +kernel
theorem dX1_putFirst_34 : decode cX1_putFirst 34 = .ok (.iaload, 1) := by decide +kernel
theorem dX1_putFirst_35 : decode cX1_putFirst 35 = .ok (.iastore, 1) := by decide +kernel
theorem dX1_putFirst_36 : decode cX1_putFirst 36 = .ok (.aload_n 0, 1) := by decide +kernel
theorem dX1_putFirst_37 : decode cX1_putFirst 37 = .ok (.getfield 15, 3) := by decide +kernel
theorem dX1_putFirst_40 : decode cX1_putFirst 40 = .ok (.iload_n 1, 1) := by decide +kernel
theorem dX1_putFirst_41 : decode cX1_putFirst 41 = .ok (.iload_n 2, 1) := by decide +kernel
theorem dX1_putFirst_42 : decode cX1_putFirst 42 = .ok (.iastore, 1) := by decide +kernel
theorem dX1_putFirst_43 : decode cX1_putFirst 43 = .ok (.return_, 1) := by decide +kernel
theorem dX1_sumOf_0 : decode cX1_sumOf 0 = .ok (.iload_n 1, 1) := by decide +kernel
theorem dX1_sumOf_1 : decode cX1_sumOf 1 = .ok (.invokestatic 45, 3) := by decide +kernel
theorem dX1_sumOf_4 : decode cX1_sumOf 4 = .ok (.ifCond .eq 12, 3) := by decide +kernel
theorem dX1_sumOf_7 : decode cX1_sumOf 7 = .ok (.aload_n 0, 1) := by decide +kernel
theorem dX1_sumOf_8 : decode cX1_sumOf 8 = .ok (.getfield 9, 3) := by decide +kernel
theorem dX1_sumOf_11 : decode cX1_sumOf 11 = .ok (.iload_n 1, 1) := by decide +kernel
theorem dX1_sumOf_12 : decode cX1_sumOf 12 = .ok (.iaload, 1) := by decide +kernel
theorem dX1_sumOf_13 : decode cX1_sumOf 13 = .ok (.goto 4, 3) := by decide +kernel
theorem dX1_sumOf_16 : decode cX1_sumOf 16 = .ok (.iconst 0, 1) := by decide +kernel
theorem dX1_sumOf_17 : decode cX1_sumOf 17 = .ok (.ireturn, 1) := by decide +kernel
theorem dX1_costOfPart_0 : decode cX1_costOfPart 0 = .ok (.iconst 0, 1) := by decide +kernel
theorem dX1_costOfPart_1 : decode cX1_costOfPart 1 = .ok (.istore 4, 2) := by decide +kernel
theorem dX1_costOfPart_3 : decode cX1_costOfPart 3 = .ok (.iload_n 3, 1) := by decide +kernel
theorem dX1_costOfPart_4 : decode cX1_costOfPart 4 = .ok (.istore 5, 2) := by decide +kernel
theorem dX1_costOfPart_6 : decode cX1_costOfPart 6 = .ok (.iload_n 2, 1) := by decide +kernel
theorem dX1_costOfPart_7 : decode cX1_costOfPart 7 = .ok (.invokestatic 45, 3) := by decide +kernel
theorem dX1_costOfPart_10 : decode cX1_costOfPart 10 = .ok (.ifCond .eq 12, 3) := by decide +kernel
theorem dX1_costOfPart_13 : decode cX1_costOfPart 13 = .ok (.aload_n 0, 1) := by decide +kernel
theorem dX1_costOfPart_14 : decode cX1_costOfPart 14 = .ok (.getfield 15, 3) := by decide +kernel
theorem dX1_costOfPart_17 : decode cX1_costOfPart 17 = .ok (.iload_n 2, 1) := by decide +kernel
theorem dX1_costOfPart_18 : decode cX1_costOfPart 18 = .ok (.iaload, 1) := by decide +kernel
theorem dX1_costOfPart_19 : decode cX1_costOfPart 19 = .ok (.goto 4, 3) := by decide +kernel
theorem dX1_costOfPart_22 : decode cX1_costOfPart 22 = .ok (.iconst (-1), 1) := by decide +kernel
theorem dX1_costOfPart_23 : decode cX1_costOfPart 23 = .ok (.istore 6, 2) := by decide +kernel
theorem dX1_costOfPart_25 : decode cX1_costOfPart 25 = .ok (.iconst 0, 1) := by decide +kernel
theorem dX1_costOfPart_26 : decode cX1_costOfPart 26 = .ok (.istore 7, 2) := by decide +kernel
theorem dX1_costOfPart_28 : decode cX1_costOfPart 28 = .ok (.iload 7, 2) := by decide +kernel
theorem dX1_costOfPart_30 : decode cX1_costOfPart 30 = .ok (.bipush 40, 2) := by decide +kernel
theorem dX1_costOfPart_32 : decode cX1_costOfPart 32 = .ok (.if_icmp .ge 67, 3) := by decide +kernel
theorem dX1_costOfPart_35 : decode cX1_costOfPart 35 = .ok (.iload 5, 2) := by decide +kernel
theorem dX1_costOfPart_37 : decode cX1_costOfPart 37 = .ok (.ifCond .le 62, 3) := by decide +kernel
theorem dX1_costOfPart_40 : decode cX1_costOfPart 40 = .ok (.iload 6, 2) := by decide +kernel
theorem dX1_costOfPart_42 : decode cX1_costOfPart 42 = .ok (.invokestatic 48, 3) := by decide +kernel
theorem dX1_costOfPart_45 : decode cX1_costOfPart 45 = .ok (.ifCond .eq 54, 3) := by decide +kernel
theorem dX1_costOfPart_48 : decode cX1_costOfPart 48 = .ok (.iload 5, 2) := by decide +kernel
theorem dX1_costOfPart_50 : decode cX1_costOfPart 50 = .ok (.aload_n 1, 1) := by decide +kernel
theorem dX1_costOfPart_51 : decode cX1_costOfPart 51 = .ok (.getfield 38, 3) := by decide +kernel
theorem dX1_costOfPart_54 : decode cX1_costOfPart 54 = .ok (.iload 6, 2) := by decide +kernel
theorem dX1_costOfPart_56 : decode cX1_costOfPart 56 = .ok (.iaload, 1) := by decide +kernel
theorem dX1_costOfPart_57 : decode cX1_costOfPart 57 = .ok (.invokestatic 51, 3) := by decide +kernel
theorem dX1_costOfPart_60 : decode cX1_costOfPart 60 = .ok (.istore 8, 2) := by decide +kernel
theorem dX1_costOfPart_62 : decode cX1_costOfPart 62 = .ok (.iload 4, 2) := by decide +kernel
theorem dX1_costOfPart_64 : decode cX1_costOfPart 64 = .ok (.iload 8, 2) := by decide +kernel
theorem dX1_costOfPart_66 : decode cX1_costOfPart 66 = .ok (.aload_n 1, 1) := by decide +kernel
theorem dX1_costOfPart_67 : decode cX1_costOfPart 67 = .ok (.getfield 27, 3) := by decide +kernel
theorem dX1_costOfPart_70 : decode cX1_costOfPart 70 = .ok (.iload 6, 2) := by decide +kernel
theorem dX1_costOfPart_72 : decode cX1_costOfPart 72 = .ok (.iaload, 1) := by decide +kernel
theorem dX1_costOfPart_73 : decode cX1_costOfPart 73 = .ok (.imul, 1) := by decide +kernel
theorem dX1_costOfPart_74 : decode cX1_costOfPart 74 = .ok (.iadd, 1) := by decide +kernel
theorem dX1_costOfPart_75 : decode cX1_costOfPart 75 = .ok (.istore 4, 2) := by decide +kernel
theorem dX1_costOfPart_77 : decode cX1_costOfPart 77 = .ok (.iload 5, 2) := by decide +kernel
theorem dX1_costOfPart_79 : decode cX1_costOfPart 79 = .ok (.iload 8, 2) := by decide +kernel
theorem dX1_costOfPart_81 : decode cX1_costOfPart 81 = .ok (.isub, 1) := by decide +kernel
theorem dX1_costOfPart_82 : decode cX1_costOfPart 82 = .ok (.istore 5, 2) := by decide +kernel
theorem dX1_costOfPart_84 : decode cX1_costOfPart 84 = .ok (.aload_n 0, 1) := by decide +kernel
theorem dX1_costOfPart_85 : decode cX1_costOfPart 85 = .ok (.getfield 18, 3) := by decide +kernel
theorem dX1_costOfPart_88 : decode cX1_costOfPart 88 = .ok (.iload 6, 2) := by decide +kernel
theorem dX1_costOfPart_90 : decode cX1_costOfPart 90 = .ok (.iaload, 1) := by decide +kernel
theorem dX1_costOfPart_91 : decode cX1_costOfPart 91 = .ok (.istore 6, 2) := by decide +kernel
theorem dX1_costOfPart_93 : decode cX1_costOfPart 93 = .ok (.iinc 7 1, 3) := by decide +kernel
theorem dX1_costOfPart_96 : decode cX1_costOfPart 96 = .ok (.goto (-68), 3) := by decide +kernel
theorem dX1_costOfPart_99 : decode cX1_costOfPart 99 = .ok (.iload 4, 2) := by decide +kernel
theorem dX1_costOfPart_101 : decode cX1_costOfPart 101 = .ok (.ireturn, 1) := by decide +kernel
theorem dX1_releaseFrom_0 : decode cX1_releaseFrom 0 = .ok (.iload_n 3, 1) := by decide +kernel
theorem dX1_releaseFrom_1 : decode cX1_releaseFrom 1 = .ok (.istore 4, 2) := by decide +kernel
theorem dX1_releaseFrom_3 : decode cX1_releaseFrom 3 = .ok (.iload_n 2, 1) := by decide +kernel
theorem dX1_releaseFrom_4 : decode cX1_releaseFrom 4 = .ok (.invokestatic 45, 3) := by decide +kernel
theorem dX1_releaseFrom_7 : decode cX1_releaseFrom 7 = .ok (.ifCond .eq 12, 3) := by decide +kernel
theorem dX1_releaseFrom_10 : decode cX1_releaseFrom 10 = .ok (.aload_n 0, 1) := by decide +kernel
theorem dX1_releaseFrom_11 : decode cX1_releaseFrom 11 = .ok (.getfield 15, 3) := by decide +kernel
theorem dX1_releaseFrom_14 : decode cX1_releaseFrom 14 = .ok (.iload_n 2, 1) := by decide +kernel
theorem dX1_releaseFrom_15 : decode cX1_releaseFrom 15 = .ok (.iaload, 1) := by decide +kernel
theorem dX1_releaseFrom_16 : decode cX1_releaseFrom 16 = .ok (.goto 4, 3) := by decide +kernel
theorem dX1_releaseFrom_19 : decode cX1_releaseFrom 19 = .ok (.iconst (-1), 1) := by decide +kernel
theorem dX1_releaseFrom_20 : decode cX1_releaseFrom 20 = .ok (.istore 5, 2) := by decide +kernel
theorem dX1_releaseFrom_22 : decode cX1_releaseFrom 22 = .ok (.iconst 0, 1) := by decide +kernel
theorem dX1_releaseFrom_23 : decode cX1_releaseFrom 23 = .ok (.istore 6, 2) := by decide +kernel
theorem dX1_releaseFrom_25 : decode cX1_releaseFrom 25 = .ok (.iload 6, 2) := by decide +kernel
theorem dX1_releaseFrom_27 : decode cX1_releaseFrom 27 = .ok (.bipush 40, 2) := by decide +kernel
theorem dX1_releaseFrom_29 : decode cX1_releaseFrom 29 = .ok (.if_icmp .ge 60, 3) := by decide +kernel
theorem dX1_releaseFrom_32 : decode cX1_releaseFrom 32 = .ok (.iload 4, 2) := by decide +kernel
theorem dX1_releaseFrom_34 : decode cX1_releaseFrom 34 = .ok (.ifCond .le 55, 3) := by decide +kernel
theorem dX1_releaseFrom_37 : decode cX1_releaseFrom 37 = .ok (.iload 5, 2) := by decide +kernel
theorem dX1_releaseFrom_39 : decode cX1_releaseFrom 39 = .ok (.invokestatic 48, 3) := by decide +kernel
theorem dX1_releaseFrom_42 : decode cX1_releaseFrom 42 = .ok (.ifCond .eq 47, 3) := by decide +kernel
theorem dX1_releaseFrom_45 : decode cX1_releaseFrom 45 = .ok (.iload 4, 2) := by decide +kernel
theorem dX1_releaseFrom_47 : decode cX1_releaseFrom 47 = .ok (.aload_n 1, 1) := by decide +kernel
theorem dX1_releaseFrom_48 : decode cX1_releaseFrom 48 = .ok (.getfield 38, 3) := by decide +kernel
theorem dX1_releaseFrom_51 : decode cX1_releaseFrom 51 = .ok (.iload 5, 2) := by decide +kernel
theorem dX1_releaseFrom_53 : decode cX1_releaseFrom 53 = .ok (.iaload, 1) := by decide +kernel
theorem dX1_releaseFrom_54 : decode cX1_releaseFrom 54 = .ok (.invokestatic 51, 3) := by decide +kernel
theorem dX1_releaseFrom_57 : decode cX1_releaseFrom 57 = .ok (.istore 7, 2) := by decide +kernel
theorem dX1_releaseFrom_59 : decode cX1_releaseFrom 59 = .ok (.aload_n 1, 1) := by decide +kernel
theorem dX1_releaseFrom_60 : decode cX1_releaseFrom 60 = .ok (.iload 5, 2) := by decide +kernel
theorem dX1_releaseFrom_62 : decode cX1_releaseFrom 62 = .ok (.iload 7, 2) := by decide +kernel
theorem dX1_releaseFrom_64 : decode cX1_releaseFrom 64 = .ok (.invokevirtual 57, 3) := by decide +kernel
theorem dX1_releaseFrom_67 : decode cX1_releaseFrom 67 = .ok (.iload 4, 2) := by decide +kernel
theorem dX1_releaseFrom_69 : decode cX1_releaseFrom 69 = .ok (.iload 7, 2) := by decide +kernel
theorem dX1_releaseFrom_71 : decode cX1_releaseFrom 71 = .ok (.isub, 1) := by decide +kernel
theorem dX1_releaseFrom_72 : decode cX1_releaseFrom 72 = .ok (.istore 4, 2) := by decide +kernel
theorem dX1_releaseFrom_74 : decode cX1_releaseFrom 74 = .ok (.aload_n 0, 1) := by decide +kernel
theorem dX1_releaseFrom_75 : decode cX1_releaseFrom 75 = .ok (.getfield 18, 3) := by decide +kernel
theorem dX1_releaseFrom_78 : decode cX1_releaseFrom 78 = .ok (.iload 5, 2) := by decide +kernel
theorem dX1_releaseFrom_80 : decode cX1_releaseFrom 80 = .ok (.iaload, 1) := by decide +kernel
theorem dX1_releaseFrom_81 : decode cX1_releaseFrom 81 = .ok (.istore 5, 2) := by decide +kernel
theorem dX1_releaseFrom_83 : decode cX1_releaseFrom 83 = .ok (.iinc 6 1, 3) := by decide +kernel
theorem dX1_releaseFrom_86 : decode cX1_releaseFrom 86 = .ok (.goto (-61), 3) := by decide +kernel
theorem dX1_releaseFrom_89 : decode cX1_releaseFrom 89 = .ok (.return_, 1) := by decide +kernel
theorem dX2_init_0 : decode cX2_init 0 = .ok (.aload_n 0, 1) := by decide +kernel
theorem dX2_init_1 : decode cX2_init 1 = .ok (.invokespecial 3, 3) := by decide +kernel
theorem dX2_init_4 : decode cX2_init 4 = .ok (.aload_n 0, 1) := by decide +kernel
theorem dX2_init_5 : decode cX2_init 5 = .ok (.bipush 100, 2) := by decide +kernel
theorem dX2_init_7 : decode cX2_init 7 = .ok (.newarray .int, 2) := by decide +kernel
theorem dX2_init_9 : decode cX2_init 9 = .ok (.putfield 9, 3) := by decide +kernel
theorem dX2_init_12 : decode cX2_init 12 = .ok (.return_, 1) := by decide +kernel
theorem dX2_isFull_0 : decode cX2_isFull 0 = .ok (.aload_n 0, 1) := by decide +kernel
theorem dX2_isFull_1 : decode cX2_isFull 1 = .ok (.getfield 15, 3) := by decide +kernel
theorem dX2_isFull_4 : decode cX2_isFull 4 = .ok (.bipush 100, 2) := by decide +kernel
theorem dX2_isFull_6 : decode cX2_isFull 6 = .ok (.if_icmp .lt 7, 3) := by decide +kernel
theorem dX2_isFull_9 : decode cX2_isFull 9 = .ok (.iconst 1, 1) := by decide +kernel
theorem dX2_isFull_10 : decode cX2_isFull 10 = .ok (.goto 4, 3) := by decide +kernel
theorem dX2_isFull_13 : decode cX2_isFull 13 = .ok (.iconst 0, 1) := by decide +kernel
theorem dX2_isFull_14 : decode cX2_isFull 14 = .ok (.ireturn, 1) := by decide +kernel
theorem dX2_add_0 : decode cX2_add 0 = .ok (.aload_n 0, 1) := by decide +kernel
theorem dX2_add_1 : decode cX2_add 1 = .ok (.getfield 15, 3) := by decide +kernel
theorem dX2_add_4 : decode cX2_add 4 = .ok (.ifCond .lt 32, 3) := by decide +kernel
theorem dX2_add_7 : decode cX2_add 7 = .ok (.aload_n 0, 1) := by decide +kernel
theorem dX2_add_8 : decode cX2_add 8 = .ok (.getfield 15, 3) := by decide +kernel
theorem dX2_add_11 : decode cX2_add 11 = .ok (.bipush 100, 2) := by decide +kernel
theorem dX2_add_13 : decode cX2_add 13 = .ok (.if_icmp .ge 23, 3) := by decide +kernel
theorem dX2_add_16 : decode cX2_add 16 = .ok (.aload_n 0, 1) := by decide +kernel
theorem dX2_add_17 : decode cX2_add 17 = .ok (.getfield 9, 3) := by decide +kernel
theorem dX2_add_20 : decode cX2_add 20 = .ok (.aload_n 0, 1) := by decide +kernel
theorem dX2_add_21 : decode cX2_add 21 = .ok (.getfield 15, 3) := by decide +kernel
theorem dX2_add_24 : decode cX2_add 24 = .ok (.iload_n 1, 1) := by decide +kernel
theorem dX2_add_25 : decode cX2_add 25 = .ok (.iastore, 1) := by decide +kernel
theorem dX2_add_26 : decode cX2_add 26 = .ok (.aload_n 0, 1) := by decide +kernel
theorem dX2_add_27 : decode cX2_add 27 = .ok (.dup, 1) := by decide +kernel
theorem dX2_add_28 : decode cX2_add 28 = .ok (.getfield 15, 3) := by decide +kernel
theorem dX2_add_31 : decode cX2_add 31 = .ok (.iconst 1, 1) := by decide +kernel
theorem dX2_add_32 : decode cX2_add 32 = .ok (.iadd, 1) := by decide +kernel
theorem dX2_add_33 : decode cX2_add 33 = .ok (.putfield 15, 3) := by decide +kernel
theorem dX2_add_36 : decode cX2_add 36 = .ok (.return_, 1) := by decide +kernel
theorem dX2_clear_0 : decode cX2_clear 0 = .ok (.aload_n 0, 1) := by decide +kernel
theorem dX2_clear_1 : decode cX2_clear 1 = .ok (.iconst 0, 1) := by decide +kernel
theorem dX2_clear_2 : decode cX2_clear 2 = .ok (.putfield 15, 3) := by decide +kernel
theorem dX2_clear_5 : decode cX2_clear 5 = .ok (.return_, 1) := by decide +kernel
theorem dX2_rewind_0 : decode cX2_rewind 0 = .ok (.aload_n 0, 1) := by decide +kernel
theorem dX2_rewind_1 : decode cX2_rewind 1 = .ok (.iconst 0, 1) := by decide +kernel
theorem dX2_rewind_2 : decode cX2_rewind 2 = .ok (.putfield 19, 3) := by decide +kernel
theorem dX2_rewind_5 : decode cX2_rewind 5 = .ok (.aload_n 0, 1) := by decide +kernel
theorem dX2_rewind_6 : decode cX2_rewind 6 = .ok (.iconst (-1), 1) := by decide +kernel
theorem dX2_rewind_7 : decode cX2_rewind 7 = .ok (.putfield 22, 3) := by decide +kernel
theorem dX2_rewind_10 : decode cX2_rewind 10 = .ok (.return_, 1) := by decide +kernel
theorem dX2_syntaxError_0 : decode cX2_syntaxError 0 = .ok (.aload_n 0, 1) := by decide +kernel
theorem dX2_syntaxError_1 : decode cX2_syntaxError 1 = .ok (.invokevirtual 25, 3) := by decide +kernel
theorem dX2_syntaxError_4 : decode cX2_syntaxError 4 = .ok (.iconst 0, 1) := by decide +kernel
theorem dX2_syntaxError_5 : decode cX2_syntaxError 5 = .ok (.istore_n 1, 1) := by decide +kernel
theorem dX2_syntaxError_6 : decode cX2_syntaxError 6 = .ok (.iload_n 1, 1) := by decide +kernel
theorem dX2_syntaxError_7 : decode cX2_syntaxError 7 = .ok (.bipush 100, 2) := by decide +kernel
theorem dX2_syntaxError_9 : decode cX2_syntaxError 9 = .ok (.if_icmp .ge 16, 3) := by decide +kernel
theorem dX2_syntaxError_12 : decode cX2_syntaxError 12 = .ok (.aload_n 0, 1) := by decide +kernel
theorem dX2_syntaxError_13 : decode cX2_syntaxError 13 = .ok (.invokevirtual 28, 3) := by decide +kernel
theorem dX2_syntaxError_16 : decode cX2_syntaxError 16 = .ok (.ifCond .eq 9, 3) := by decide +kernel
theorem dX2_syntaxError_19 : decode cX2_syntaxError 19 = .ok (.iinc 1 1, 3) := by decide +kernel
theorem dX2_syntaxError_22 : decode cX2_syntaxError 22 = .ok (.goto (-16), 3) := by decide +kernel
theorem dX2_syntaxError_25 : decode cX2_syntaxError 25 = .ok (.aload_n 0, 1) := by decide +kernel
theorem dX2_syntaxError_26 : decode cX2_syntaxError 26 = .ok (.getfield 22, 3) := by decide +kernel
theorem dX2_syntaxError_29 : decode cX2_syntaxError 29 = .ok (.ireturn, 1) := by decide +kernel
theorem dX2_readNext_0 : decode cX2_readNext 0 = .ok (.aload_n 0, 1) := by decide +kernel
theorem dX2_readNext_1 : decode cX2_readNext 1 = .ok (.getfield 19, 3) := by decide +kernel
theorem dX2_readNext_4 : decode cX2_readNext 4 = .ok (.aload_n 0, 1) := by decide +kernel
theorem dX2_readNext_5 : decode cX2_readNext 5 = .ok (.getfield 15, 3) := by decide +kernel
theorem dX2_readNext_8 : decode cX2_readNext 8 = .ok (.if_icmp .lt 5, 3) := by decide +kernel
theorem dX2_readNext_11 : decode cX2_readNext 11 = .ok (.iconst 0, 1) := by decide +kernel
theorem dX2_readNext_12 : decode cX2_readNext 12 = .ok (.ireturn, 1) := by decide +kernel
theorem dX2_readNext_13 : decode cX2_readNext 13 = .ok (.aload_n 0, 1) := by decide +kernel
theorem dX2_readNext_14 : decode cX2_readNext 14 = .ok (.aload_n 0, 1) := by decide +kernel
theorem dX2_readNext_15 : decode cX2_readNext 15 = .ok (.invokevirtual 32, 3) := by decide +kernel
theorem dX2_readNext_18 : decode cX2_readNext 18 = .ok (.putfield 36, 3) := by decide +kernel
theorem dX2_readNext_21 : decode cX2_readNext 21 = .ok (.aload_n 0, 1) := by decide +kernel
theorem dX2_readNext_22 : decode cX2_readNext 22 = .ok (.getfield 36, 3) := by decide +kernel
theorem dX2_readNext_25 : decode cX2_readNext 25 = .ok (.lookupswitch 128 #[(97, 111), (98, 111), (112, 51), (120, 66), (121, 66)], 51) := by decide +kernel
theorem dX2_readNext_76 : decode cX2_readNext 76 = .ok (.aload_n 0, 1) := by decide +kernel
theorem dX2_readNext_77 : decode cX2_readNext 77 = .ok (.dup, 1) := by decide +kernel
theorem dX2_readNext_78 : decode cX2_readNext 78 = .ok (.getfield 19, 3) := by decide +kernel
theorem dX2_readNext_81 : decode cX2_readNext 81 = .ok (.iconst 1, 1) := by decide +kernel
theorem dX2_readNext_82 : decode cX2_readNext 82 = .ok (.iadd, 1) := by decide +kernel
theorem dX2_readNext_83 : decode cX2_readNext 83 = .ok (.putfield 19, 3) := by decide +kernel
theorem dX2_readNext_86 : decode cX2_readNext 86 = .ok (.aload_n 0, 1) := by decide +kernel
theorem dX2_readNext_87 : decode cX2_readNext 87 = .ok (.invokevirtual 39, 3) := by decide +kernel
theorem dX2_readNext_90 : decode cX2_readNext 90 = .ok (.ireturn, 1) := by decide +kernel
theorem dX2_readNext_91 : decode cX2_readNext 91 = .ok (.aload_n 0, 1) := by decide +kernel
theorem dX2_readNext_92 : decode cX2_readNext 92 = .ok (.dup, 1) := by decide +kernel
theorem dX2_readNext_93 : decode cX2_readNext 93 = .ok (.getfield 19, 3) := by decide +kernel
theorem dX2_readNext_96 : decode cX2_readNext 96 = .ok (.iconst 1, 1) := by decide +kernel
theorem dX2_readNext_97 : decode cX2_readNext 97 = .ok (.iadd, 1) := by decide +kernel
theorem dX2_readNext_98 : decode cX2_readNext 98 = .ok (.putfield 19, 3) := by decide +kernel
theorem dX2_readNext_101 : decode cX2_readNext 101 = .ok (.aload_n 0, 1) := by decide +kernel
theorem dX2_readNext_102 : decode cX2_readNext 102 = .ok (.aload_n 0, 1) := by decide +kernel
theorem dX2_readNext_103 : decode cX2_readNext 103 = .ok (.iconst 2, 1) := by decide +kernel
theorem dX2_readNext_104 : decode cX2_readNext 104 = .ok (.iconst 0, 1) := by decide +kernel
theorem dX2_readNext_105 : decode cX2_readNext 105 = .ok (.bipush 99, 2) := by decide +kernel
theorem dX2_readNext_107 : decode cX2_readNext 107 = .ok (.invokevirtual 42, 3) := by decide +kernel
theorem dX2_readNext_110 : decode cX2_readNext 110 = .ok (.putfield 46, 3) := by decide +kernel
theorem dX2_readNext_113 : decode cX2_readNext 113 = .ok (.aload_n 0, 1) := by decide +kernel
theorem dX2_readNext_114 : decode cX2_readNext 114 = .ok (.getfield 46, 3) := by decide +kernel
theorem dX2_readNext_117 : decode cX2_readNext 117 = .ok (.iconst (-1), 1) := by decide +kernel
theorem dX2_readNext_118 : decode cX2_readNext 118 = .ok (.if_icmp .eq 16, 3) := by decide +kernel
theorem dX2_readNext_121 : decode cX2_readNext 121 = .ok (.aload_n 0, 1) := by decide +kernel
theorem dX2_readNext_122 : decode cX2_readNext 122 = .ok (.bipush 59, 2) := by decide +kernel
theorem dX2_readNext_124 : decode cX2_readNext 124 = .ok (.invokevirtual 49, 3) := by decide +kernel
theorem dX2_readNext_127 : decode cX2_readNext 127 = .ok (.ifCond .eq 7, 3) := by decide +kernel
theorem dX2_readNext_130 : decode cX2_readNext 130 = .ok (.iconst 1, 1) := by decide +kernel
theorem dX2_readNext_131 : decode cX2_readNext 131 = .ok (.goto 4, 3) := by decide +kernel
theorem dX2_readNext_134 : decode cX2_readNext 134 = .ok (.iconst 0, 1) := by decide +kernel
theorem dX2_readNext_135 : decode cX2_readNext 135 = .ok (.ireturn, 1) := by decide +kernel
theorem dX2_readNext_136 : decode cX2_readNext 136 = .ok (.aload_n 0, 1) := by decide +kernel
theorem dX2_readNext_137 : decode cX2_readNext 137 = .ok (.dup, 1) := by decide +kernel
theorem dX2_readNext_138 : decode cX2_readNext 138 = .ok (.getfield 19, 3) := by decide +kernel
theorem dX2_readNext_141 : decode cX2_readNext 141 = .ok (.iconst 1, 1) := by decide +kernel
theorem dX2_readNext_142 : decode cX2_readNext 142 = .ok (.iadd, 1) := by decide +kernel
theorem dX2_readNext_143 : decode cX2_readNext 143 = .ok (.putfield 19, 3) := by decide +kernel
theorem dX2_readNext_146 : decode cX2_readNext 146 = .ok (.aload_n 0, 1) := by decide +kernel
theorem dX2_readNext_147 : decode cX2_readNext 147 = .ok (.bipush 59, 2) := by decide +kernel
theorem dX2_readNext_149 : decode cX2_readNext 149 = .ok (.invokevirtual 49, 3) := by decide +kernel
theorem dX2_readNext_152 : decode cX2_readNext 152 = .ok (.ireturn, 1) := by decide +kernel
theorem dX2_readNext_153 : decode cX2_readNext 153 = .ok (.aload_n 0, 1) := by decide +kernel
theorem dX2_readNext_154 : decode cX2_readNext 154 = .ok (.aload_n 0, 1) := by decide +kernel
theorem dX2_readNext_155 : decode cX2_readNext 155 = .ok (.getfield 19, 3) := by decide +kernel
theorem dX2_readNext_158 : decode cX2_readNext 158 = .ok (.invokevirtual 53, 3) := by decide +kernel
theorem dX2_readNext_161 : decode cX2_readNext 161 = .ok (.ireturn, 1) := by decide +kernel
theorem dX2_readPromise_0 : decode cX2_readPromise 0 = .ok (.aload_n 0, 1) := by decide +kernel
theorem dX2_readPromise_1 : decode cX2_readPromise 1 = .ok (.aload_n 0, 1) := by decide +kernel
theorem dX2_readPromise_2 : decode cX2_readPromise 2 = .ok (.iconst 0, 1) := by decide +kernel
theorem dX2_readPromise_3 : decode cX2_readPromise 3 = .ok (.bipush 6, 2) := by decide +kernel
theorem dX2_readPromise_5 : decode cX2_readPromise 5 = .ok (.invokevirtual 56, 3) := by decide +kernel
theorem dX2_readPromise_8 : decode cX2_readPromise 8 = .ok (.putfield 60, 3) := by decide +kernel
theorem dX2_readPromise_11 : decode cX2_readPromise 11 = .ok (.aload_n 0, 1) := by decide +kernel
theorem dX2_readPromise_12 : decode cX2_readPromise 12 = .ok (.getfield 60, 3) := by decide +kernel
theorem dX2_readPromise_15 : decode cX2_readPromise 15 = .ok (.iconst (-1), 1) := by decide +kernel
theorem dX2_readPromise_16 : decode cX2_readPromise 16 = .ok (.if_icmp .ne 5, 3) := by decide +kernel
theorem dX2_readPromise_19 : decode cX2_readPromise 19 = .ok (.iconst 0, 1) := by decide +kernel
theorem dX2_readPromise_20 : decode cX2_readPromise 20 = .ok (.ireturn, 1) := by decide +kernel
theorem dX2_readPromise_21 : decode cX2_readPromise 21 = .ok (.aload_n 0, 1) := by decide +kernel
theorem dX2_readPromise_22 : decode cX2_readPromise 22 = .ok (.aload_n 0, 1) := by decide +kernel
theorem dX2_readPromise_23 : decode cX2_readPromise 23 = .ok (.iconst 0, 1) := by decide +kernel
theorem dX2_readPromise_24 : decode cX2_readPromise 24 = .ok (.bipush 6, 2) := by decide +kernel
theorem dX2_readPromise_26 : decode cX2_readPromise 26 = .ok (.invokevirtual 56, 3) := by decide +kernel
theorem dX2_readPromise_29 : decode cX2_readPromise 29 = .ok (.putfield 63, 3) := by decide +kernel
theorem dX2_readPromise_32 : decode cX2_readPromise 32 = .ok (.aload_n 0, 1) := by decide +kernel
theorem dX2_readPromise_33 : decode cX2_readPromise 33 = .ok (.getfield 63, 3) := by decide +kernel
theorem dX2_readPromise_36 : decode cX2_readPromise 36 = .ok (.iconst (-1), 1) := by decide +kernel
theorem dX2_readPromise_37 : decode cX2_readPromise 37 = .ok (.if_icmp .eq 12, 3) := by decide +kernel
theorem dX2_readPromise_40 : decode cX2_readPromise 40 = .ok (.aload_n 0, 1) := by decide +kernel
theorem dX2_readPromise_41 : decode cX2_readPromise 41 = .ok (.bipush 58, 2) := by decide +kernel
theorem dX2_readPromise_43 : decode cX2_readPromise 43 = .ok (.invokevirtual 49, 3) := by decide +kernel
theorem dX2_readPromise_46 : decode cX2_readPromise 46 = .ok (.ifCond .ne 5, 3) := by decide +kernel
theorem dX2_readPromise_49 : decode cX2_readPromise 49 = .ok (.iconst 0, 1) := by decide +kernel
theorem dX2_readPromise_50 : decode cX2_readPromise 50 = .ok (.ireturn, 1) := by decide +kernel
theorem dX2_readPromise_51 : decode cX2_readPromise 51 = .ok (.aload_n 0, 1) := by decide +kernel
theorem dX2_readPromise_52 : decode cX2_readPromise 52 = .ok (.aload_n 0, 1) := by decide +kernel
theorem dX2_readPromise_53 : decode cX2_readPromise 53 = .ok (.iconst 4, 1) := by decide +kernel
theorem dX2_readPromise_54 : decode cX2_readPromise 54 = .ok (.iconst 1, 1) := by decide +kernel
theorem dX2_readPromise_55 : decode cX2_readPromise 55 = .ok (.sipush 1000, 3) := by decide +kernel
theorem dX2_readPromise_58 : decode cX2_readPromise 58 = .ok (.invokevirtual 42, 3) := by decide +kernel
theorem dX2_readPromise_61 : decode cX2_readPromise 61 = .ok (.putfield 66, 3) := by decide +kernel
theorem dX2_readPromise_64 : decode cX2_readPromise 64 = .ok (.aload_n 0, 1) := by decide +kernel
theorem dX2_readPromise_65 : decode cX2_readPromise 65 = .ok (.getfield 66, 3) := by decide +kernel
theorem dX2_readPromise_68 : decode cX2_readPromise 68 = .ok (.iconst (-1), 1) := by decide +kernel
theorem dX2_readPromise_69 : decode cX2_readPromise 69 = .ok (.if_icmp .eq 12, 3) := by decide +kernel
theorem dX2_readPromise_72 : decode cX2_readPromise 72 = .ok (.aload_n 0, 1) := by decide +kernel
theorem dX2_readPromise_73 : decode cX2_readPromise 73 = .ok (.bipush 44, 2) := by decide +kernel
theorem dX2_readPromise_75 : decode cX2_readPromise 75 = .ok (.invokevirtual 49, 3) := by decide +kernel
theorem dX2_readPromise_78 : decode cX2_readPromise 78 = .ok (.ifCond .ne 5, 3) := by decide +kernel
theorem dX2_readPromise_81 : decode cX2_readPromise 81 = .ok (.iconst 0, 1) := by decide +kernel
theorem dX2_readPromise_82 : decode cX2_readPromise 82 = .ok (.ireturn, 1) := by decide +kernel
theorem dX2_readPromise_83 : decode cX2_readPromise 83 = .ok (.aload_n 0, 1) := by decide +kernel
theorem dX2_readPromise_84 : decode cX2_readPromise 84 = .ok (.aload_n 0, 1) := by decide +kernel
theorem dX2_readPromise_85 : decode cX2_readPromise 85 = .ok (.iconst 1, 1) := by decide +kernel
theorem dX2_readPromise_86 : decode cX2_readPromise 86 = .ok (.bipush 9, 2) := by decide +kernel
theorem dX2_readPromise_88 : decode cX2_readPromise 88 = .ok (.invokevirtual 56, 3) := by decide +kernel
theorem dX2_readPromise_91 : decode cX2_readPromise 91 = .ok (.putfield 69, 3) := by decide +kernel
theorem dX2_readPromise_94 : decode cX2_readPromise 94 = .ok (.aload_n 0, 1) := by decide +kernel
theorem dX2_readPromise_95 : decode cX2_readPromise 95 = .ok (.getfield 69, 3) := by decide +kernel
theorem dX2_readPromise_98 : decode cX2_readPromise 98 = .ok (.iconst (-1), 1) := by decide +kernel
theorem dX2_readPromise_99 : decode cX2_readPromise 99 = .ok (.if_icmp .eq 16, 3) := by decide +kernel
theorem dX2_readPromise_102 : decode cX2_readPromise 102 = .ok (.aload_n 0, 1) := by decide +kernel
theorem dX2_readPromise_103 : decode cX2_readPromise 103 = .ok (.bipush 59, 2) := by decide +kernel
theorem dX2_readPromise_105 : decode cX2_readPromise 105 = .ok (.invokevirtual 49, 3) := by decide +kernel
theorem dX2_readPromise_108 : decode cX2_readPromise 108 = .ok (.ifCond .eq 7, 3) := by decide +kernel
theorem dX2_readPromise_111 : decode cX2_readPromise 111 = .ok (.iconst 1, 1) := by decide +kernel
theorem dX2_readPromise_112 : decode cX2_readPromise 112 = .ok (.goto 4, 3) := by decide +kernel
theorem dX2_readPromise_115 : decode cX2_readPromise 115 = .ok (.iconst 0, 1) := by decide +kernel
theorem dX2_readPromise_116 : decode cX2_readPromise 116 = .ok (.ireturn, 1) := by decide +kernel
theorem dX2_readNumber_0 : decode cX2_readNumber 0 = .ok (.aload_n 0, 1) := by decide +kernel
theorem dX2_readNumber_1 : decode cX2_readNumber 1 = .ok (.getfield 19, 3) := by decide +kernel
theorem dX2_readNumber_4 : decode cX2_readNumber 4 = .ok (.istore 4, 2) := by decide +kernel
theorem dX2_readNumber_6 : decode cX2_readNumber 6 = .ok (.iconst 0, 1) := by decide +kernel
theorem dX2_readNumber_7 : decode cX2_readNumber 7 = .ok (.istore 5, 2) := by decide +kernel
theorem dX2_readNumber_9 : decode cX2_readNumber 9 = .ok (.iconst 0, 1) := by decide +kernel
theorem dX2_readNumber_10 : decode cX2_readNumber 10 = .ok (.istore 6, 2) := by decide +kernel
theorem dX2_readNumber_12 : decode cX2_readNumber 12 = .ok (.iload 6, 2) := by decide +kernel
theorem dX2_readNumber_14 : decode cX2_readNumber 14 = .ok (.iload_n 1, 1) := by decide +kernel
theorem dX2_readNumber_15 : decode cX2_readNumber 15 = .ok (.if_icmp .ge 44, 3) := by decide +kernel
theorem dX2_readNumber_18 : decode cX2_readNumber 18 = .ok (.aload_n 0, 1) := by decide +kernel
theorem dX2_readNumber_19 : decode cX2_readNumber 19 = .ok (.invokevirtual 32, 3) := by decide +kernel
theorem dX2_readNumber_22 : decode cX2_readNumber 22 = .ok (.invokestatic 72, 3) := by decide +kernel
theorem dX2_readNumber_25 : decode cX2_readNumber 25 = .ok (.ifCond .eq 34, 3) := by decide +kernel
theorem dX2_readNumber_28 : decode cX2_readNumber 28 = .ok (.iload 5, 2) := by decide +kernel
theorem dX2_readNumber_30 : decode cX2_readNumber 30 = .ok (.bipush 10, 2) := by decide +kernel
theorem dX2_readNumber_32 : decode cX2_readNumber 32 = .ok (.imul, 1) := by decide +kernel
theorem dX2_readNumber_33 : decode cX2_readNumber 33 = .ok (.aload_n 0, 1) := by decide +kernel
theorem dX2_readNumber_34 : decode cX2_readNumber 34 = .ok (.invokevirtual 32, 3) := by decide +kernel
theorem dX2_readNumber_37 : decode cX2_readNumber 37 = .ok (.iadd, 1) := by decide +kernel
theorem dX2_readNumber_38 : decode cX2_readNumber 38 = .ok (.bipush 48, 2) := by decide +kernel
theorem dX2_readNumber_40 : decode cX2_readNumber 40 = .ok (.isub, 1) := by decide +kernel
theorem dX2_readNumber_41 : decode cX2_readNumber 41 = .ok (.istore 5, 2) := by decide +kernel
theorem dX2_readNumber_43 : decode cX2_readNumber 43 = .ok (.aload_n 0, 1) := by decide +kernel
theorem dX2_readNumber_44 : decode cX2_readNumber 44 = .ok (.dup, 1) := by decide +kernel
theorem dX2_readNumber_45 : decode cX2_readNumber 45 = .ok (.getfield 19, 3) := by decide +kernel
theorem dX2_readNumber_48 : decode cX2_readNumber 48 = .ok (.iconst 1, 1) := by decide +kernel
theorem dX2_readNumber_49 : decode cX2_readNumber 49 = .ok (.iadd, 1) := by decide +kernel
theorem dX2_readNumber_50 : decode cX2_readNumber 50 = .ok (.putfield 19, 3) := by decide +kernel
theorem dX2_readNumber_53 : decode cX2_readNumber 53 = .ok (.iinc 6 1, 3) := by decide +kernel
theorem dX2_readNumber_56 : decode cX2_readNumber 56 = .ok (.goto (-44), 3) := by decide +kernel
theorem dX2_readNumber_59 : decode cX2_readNumber 59 = .ok (.aload_n 0, 1) := by decide +kernel
theorem dX2_readNumber_60 : decode cX2_readNumber 60 = .ok (.getfield 19, 3) := by decide +kernel
theorem dX2_readNumber_63 : decode cX2_readNumber 63 = .ok (.iload 4, 2) := by decide +kernel
theorem dX2_readNumber_65 : decode cX2_readNumber 65 = .ok (.if_icmp .eq 13, 3) := by decide +kernel
theorem dX2_readNumber_68 : decode cX2_readNumber 68 = .ok (.aload_n 0, 1) := by decide +kernel
theorem dX2_readNumber_69 : decode cX2_readNumber 69 = .ok (.invokevirtual 32, 3) := by decide +kernel
theorem dX2_readNumber_72 : decode cX2_readNumber 72 = .ok (.invokestatic 72, 3) := by decide +kernel
theorem dX2_readNumber_75 : decode cX2_readNumber 75 = .ok (.ifCond .eq 14, 3) := by decide +kernel
theorem dX2_readNumber_78 : decode cX2_readNumber 78 = .ok (.aload_n 0, 1) := by decide +kernel
theorem dX2_readNumber_79 : decode cX2_readNumber 79 = .ok (.aload_n 0, 1) := by decide +kernel
theorem dX2_readNumber_80 : decode cX2_readNumber 80 = .ok (.getfield 19, 3) := by decide +kernel
theorem dX2_readNumber_83 : decode cX2_readNumber 83 = .ok (.invokevirtual 53, 3) := by decide +kernel
theorem dX2_readNumber_86 : decode cX2_readNumber 86 = .ok (.pop, 1) := by decide +kernel
theorem dX2_readNumber_87 : decode cX2_readNumber 87 = .ok (.iconst (-1), 1) := by decide +kernel
theorem dX2_readNumber_88 : decode cX2_readNumber 88 = .ok (.ireturn, 1) := by decide +kernel
theorem dX2_readNumber_89 : decode cX2_readNumber 89 = .ok (.iload 5, 2) := by decide +kernel
theorem dX2_readNumber_91 : decode cX2_readNumber 91 = .ok (.iload_n 2, 1) := by decide +kernel
theorem dX2_readNumber_92 : decode cX2_readNumber 92 = .ok (.if_icmp .lt 9, 3) := by decide +kernel
theorem dX2_readNumber_95 : decode cX2_readNumber 95 = .ok (.iload 5, 2) := by decide +kernel
theorem dX2_readNumber_97 : decode cX2_readNumber 97 = .ok (.iload_n 3, 1) := by decide +kernel
theorem dX2_readNumber_98 : decode cX2_readNumber 98 = .ok (.if_icmp .le 12, 3) := by decide +kernel
theorem dX2_readNumber_101 : decode cX2_readNumber 101 = .ok (.aload_n 0, 1) := by decide +kernel
theorem dX2_readNumber_102 : decode cX2_readNumber 102 = .ok (.iload 4, 2) := by decide +kernel
theorem dX2_readNumber_104 : decode cX2_readNumber 104 = .ok (.invokevirtual 53, 3) := by decide +kernel
theorem dX2_readNumber_107 : decode cX2_readNumber 107 = .ok (.pop, 1) := by decide +kernel
theorem dX2_readNumber_108 : decode cX2_readNumber 108 = .ok (.iconst (-1), 1) := by decide +kernel
theorem dX2_readNumber_109 : decode cX2_readNumber 109 = .ok (.ireturn, 1) := by decide +kernel
theorem dX2_readNumber_110 : decode cX2_readNumber 110 = .ok (.iload 5, 2) := by decide +kernel
theorem dX2_readNumber_112 : decode cX2_readNumber 112 = .ok (.ireturn, 1) := by decide +kernel
theorem dX2_readDigit_0 : decode cX2_readDigit 0 = .ok (.aload_n 0, 1) := by decide +kernel
theorem dX2_readDigit_1 : decode cX2_readDigit 1 = .ok (.invokevirtual 32, 3) := by decide +kernel
theorem dX2_readDigit_4 : decode cX2_readDigit 4 = .ok (.bipush 48, 2) := by decide +kernel
theorem dX2_readDigit_6 : decode cX2_readDigit 6 = .ok (.isub, 1) := by decide +kernel
theorem dX2_readDigit_7 : decode cX2_readDigit 7 = .ok (.istore_n 3, 1) := by decide +kernel
theorem dX2_readDigit_8 : decode cX2_readDigit 8 = .ok (.iload_n 3, 1) := by decide +kernel
theorem dX2_readDigit_9 : decode cX2_readDigit 9 = .ok (.iload_n 1, 1) := by decide +kernel
theorem dX2_readDigit_10 : decode cX2_readDigit 10 = .ok (.if_icmp .lt 8, 3) := by decide +kernel
theorem dX2_readDigit_13 : decode cX2_readDigit 13 = .ok (.iload_n 3, 1) := by decide +kernel
theorem dX2_readDigit_14 : decode cX2_readDigit 14 = .ok (.iload_n 2, 1) := by decide +kernel
theorem dX2_readDigit_15 : decode cX2_readDigit 15 = .ok (.if_icmp .le 14, 3) := by decide +kernel
theorem dX2_readDigit_18 : decode cX2_readDigit 18 = .ok (.aload_n 0, 1) := by decide +kernel
theorem dX2_readDigit_19 : decode cX2_readDigit 19 = .ok (.aload_n 0, 1) := by decide +kernel
theorem dX2_readDigit_20 : decode cX2_readDigit 20 = .ok (.getfield 19, 3) := by decide +kernel
theorem dX2_readDigit_23 : decode cX2_readDigit 23 = .ok (.invokevirtual 53, 3) := by decide +kernel
theorem dX2_readDigit_26 : decode cX2_readDigit 26 = .ok (.pop, 1) := by decide +kernel
theorem dX2_readDigit_27 : decode cX2_readDigit 27 = .ok (.iconst (-1), 1) := by decide +kernel
theorem dX2_readDigit_28 : decode cX2_readDigit 28 = .ok (.ireturn, 1) := by decide +kernel
theorem dX2_readDigit_29 : decode cX2_readDigit 29 = .ok (.aload_n 0, 1) := by decide +kernel
theorem dX2_readDigit_30 : decode cX2_readDigit 30 = .ok (.dup, 1) := by decide +kernel
theorem dX2_readDigit_31 : decode cX2_readDigit 31 = .ok (.getfield 19, 3) := by decide +kernel
theorem dX2_readDigit_34 : decode cX2_readDigit 34 = .ok (.iconst 1, 1) := by decide +kernel
theorem dX2_readDigit_35 : decode cX2_readDigit 35 = .ok (.iadd, 1) := by decide +kernel
theorem dX2_readDigit_36 : decode cX2_readDigit 36 = .ok (.putfield 19, 3) := by decide +kernel
theorem dX2_readDigit_39 : decode cX2_readDigit 39 = .ok (.iload_n 3, 1) := by decide +kernel
theorem dX2_readDigit_40 : decode cX2_readDigit 40 = .ok (.ireturn, 1) := by decide +kernel
theorem dX2_readSign_0 : decode cX2_readSign 0 = .ok (.aload_n 0, 1) := by decide +kernel
theorem dX2_readSign_1 : decode cX2_readSign 1 = .ok (.invokevirtual 32, 3) := by decide +kernel
theorem dX2_readSign_4 : decode cX2_readSign 4 = .ok (.iload_n 1, 1) := by decide +kernel
theorem dX2_readSign_5 : decode cX2_readSign 5 = .ok (.if_icmp .eq 12, 3) := by decide +kernel
theorem dX2_readSign_8 : decode cX2_readSign 8 = .ok (.aload_n 0, 1) := by decide +kernel
theorem dX2_readSign_9 : decode cX2_readSign 9 = .ok (.aload_n 0, 1) := by decide +kernel
theorem dX2_readSign_10 : decode cX2_readSign 10 = .ok (.getfield 19, 3) := by decide +kernel
theorem dX2_readSign_13 : decode cX2_readSign 13 = .ok (.invokevirtual 53, 3) := by decide +kernel
theorem dX2_readSign_16 : decode cX2_readSign 16 = .ok (.ireturn, 1) := by decide +kernel
theorem dX2_readSign_17 : decode cX2_readSign 17 = .ok (.aload_n 0, 1) := by decide +kernel
theorem dX2_readSign_18 : decode cX2_readSign 18 = .ok (.dup, 1) := by decide +kernel
theorem dX2_readSign_19 : decode cX2_readSign 19 = .ok (.getfield 19, 3) := by decide +kernel
theorem dX2_readSign_22 : decode cX2_readSign 22 = .ok (.iconst 1, 1) := by decide +kernel
theorem dX2_readSign_23 : decode cX2_readSign 23 = .ok (.iadd, 1) := by decide +kernel
theorem dX2_readSign_24 : decode cX2_readSign 24 = .ok (.putfield 19, 3) := by decide +kernel
theorem dX2_readSign_27 : decode cX2_readSign 27 = .ok (.iconst 1, 1) := by decide +kernel
theorem dX2_readSign_28 : decode cX2_readSign 28 = .ok (.ireturn, 1) := by decide +kernel
theorem dX2_peek_0 : decode cX2_peek 0 = .ok (.aload_n 0, 1) := by decide +kernel
theorem dX2_peek_1 : decode cX2_peek 1 = .ok (.getfield 19, 3) := by decide +kernel
theorem dX2_peek_4 : decode cX2_peek 4 = .ok (.ifCond .lt 35, 3) := by decide +kernel
theorem dX2_peek_7 : decode cX2_peek 7 = .ok (.aload_n 0, 1) := by decide +kernel
theorem dX2_peek_8 : decode cX2_peek 8 = .ok (.getfield 19, 3) := by decide +kernel
theorem dX2_peek_11 : decode cX2_peek 11 = .ok (.aload_n 0, 1) := by decide +kernel
theorem dX2_peek_12 : decode cX2_peek 12 = .ok (.getfield 15, 3) := by decide +kernel
theorem dX2_peek_15 : decode cX2_peek 15 = .ok (.if_icmp .ge 24, 3) := by decide +kernel
theorem dX2_peek_18 : decode cX2_peek 18 = .ok (.aload_n 0, 1) := by decide +kernel
theorem dX2_peek_19 : decode cX2_peek 19 = .ok (.getfield 19, 3) := by decide +kernel
theorem dX2_peek_22 : decode cX2_peek 22 = .ok (.bipush 100, 2) := by decide +kernel
theorem dX2_peek_24 : decode cX2_peek 24 = .ok (.if_icmp .ge 15, 3) := by decide +kernel
theorem dX2_peek_27 : decode cX2_peek 27 = .ok (.aload_n 0, 1) := by decide +kernel
theorem dX2_peek_28 : decode cX2_peek 28 = .ok (.getfield 9, 3) := by decide +kernel
theorem dX2_peek_31 : decode cX2_peek 31 = .ok (.aload_n 0, 1) := by decide +kernel
theorem dX2_peek_32 : decode cX2_peek 32 = .ok (.getfield 19, 3) := by decide +kernel
theorem dX2_peek_35 : decode cX2_peek 35 = .ok (.iaload, 1) := by decide +kernel
theorem dX2_peek_36 : decode cX2_peek 36 = .ok (.goto 4, 3) := by decide +kernel
theorem dX2_peek_39 : decode cX2_peek 39 = .ok (.iconst (-1), 1) := by decide +kernel
theorem dX2_peek_40 : decode cX2_peek 40 = .ok (.ireturn, 1) := by decide +kernel
theorem dX2_isDigit_0 : decode cX2_isDigit 0 = .ok (.iload_n 0, 1) := by decide +kernel
theorem dX2_isDigit_1 : decode cX2_isDigit 1 = .ok (.bipush 48, 2) := by decide +kernel
theorem dX2_isDigit_3 : decode cX2_isDigit 3 = .ok (.if_icmp .lt 13, 3) := by decide +kernel
theorem dX2_isDigit_6 : decode cX2_isDigit 6 = .ok (.iload_n 0, 1) := by decide +kernel
theorem dX2_isDigit_7 : decode cX2_isDigit 7 = .ok (.bipush 57, 2) := by decide +kernel
theorem dX2_isDigit_9 : decode cX2_isDigit 9 = .ok (.if_icmp .gt 7, 3) := by decide +kernel
theorem dX2_isDigit_12 : decode cX2_isDigit 12 = .ok (.iconst 1, 1) := by decide +kernel
theorem dX2_isDigit_13 : decode cX2_isDigit 13 = .ok (.goto 4, 3) := by decide +kernel
theorem dX2_isDigit_16 : decode cX2_isDigit 16 = .ok (.iconst 0, 1) := by decide +kernel
theorem dX2_isDigit_17 : decode cX2_isDigit 17 = .ok (.ireturn, 1) := by decide +kernel
theorem dX2_fail_0 : decode cX2_fail 0 = .ok (.aload_n 0, 1) := by decide +kernel
theorem dX2_fail_1 : decode cX2_fail 1 = .ok (.iload_n 1, 1) := by decide +kernel
theorem dX2_fail_2 : decode cX2_fail 2 = .ok (.putfield 22, 3) := by decide +kernel
theorem dX2_fail_5 : decode cX2_fail 5 = .ok (.iconst 0, 1) := by decide +kernel
theorem dX2_fail_6 : decode cX2_fail 6 = .ok (.ireturn, 1) := by decide +kernel
theorem dX3_init_0 : decode cX3_init 0 = .ok (.aload_n 0, 1) := by decide +kernel
theorem dX3_init_1 : decode cX3_init 1 = .ok (.invokespecial 3, 3) := by decide +kernel
theorem dX3_init_4 : decode cX3_init 4 = .ok (.aload_n 0, 1) := by decide +kernel
theorem dX3_init_5 : decode cX3_init 5 = .ok (.bipush 40, 2) := by decide +kernel
theorem dX3_init_7 : decode cX3_init 7 = .ok (.newarray .int, 2) := by decide +kernel
theorem dX3_init_9 : decode cX3_init 9 = .ok (.putfield 9, 3) := by decide +kernel
theorem dX3_init_12 : decode cX3_init 12 = .ok (.aload_n 0, 1) := by decide +kernel
theorem dX3_init_13 : decode cX3_init 13 = .ok (.bipush 7, 2) := by decide +kernel
theorem dX3_init_15 : decode cX3_init 15 = .ok (.newarray .int, 2) := by decide +kernel
theorem dX3_init_17 : decode cX3_init 17 = .ok (.putfield 15, 3) := by decide +kernel
theorem dX3_init_20 : decode cX3_init 20 = .ok (.aload_n 0, 1) := by decide +kernel
theorem dX3_init_21 : decode cX3_init 21 = .ok (.bipush 7, 2) := by decide +kernel
theorem dX3_init_23 : decode cX3_init 23 = .ok (.newarray .int, 2) := by decide +kernel
theorem dX3_init_25 : decode cX3_init 25 = .ok (.putfield 18, 3) := by decide +kernel
theorem dX3_init_28 : decode cX3_init 28 = .ok (.aload_n 0, 1) := by decide +kernel
theorem dX3_init_29 : decode cX3_init 29 = .ok (.bipush 7, 2) := by decide +kernel
theorem dX3_init_31 : decode cX3_init 31 = .ok (.newarray .int, 2) := by decide +kernel
theorem dX3_init_33 : decode cX3_init 33 = .ok (.putfield 21, 3) := by decide +kernel
theorem dX3_init_36 : decode cX3_init 36 = .ok (.return_, 1) := by decide +kernel
theorem dX3_leastCostOf_0 : decode cX3_leastCostOf 0 = .ok (.aload_n 0, 1) := by decide +kernel
theorem dX3_leastCostOf_1 : decode cX3_leastCostOf 1 = .ok (.aload_n 1, 1) := by decide +kernel
theorem dX3_leastCostOf_2 : decode cX3_leastCostOf 2 = .ok (.invokevirtual 24, 3) := by decide +kernel
theorem dX3_leastCostOf_5 : decode cX3_leastCostOf 5 = .ok (.iconst 0, 1) := by decide +kernel
theorem dX3_leastCostOf_6 : decode cX3_leastCostOf 6 = .ok (.istore_n 2, 1) := by decide +kernel
theorem dX3_leastCostOf_7 : decode cX3_leastCostOf 7 = .ok (.aload_n 0, 1) := by decide +kernel
theorem dX3_leastCostOf_8 : decode cX3_leastCostOf 8 = .ok (.aload_n 1, 1) := by decide +kernel
theorem dX3_leastCostOf_9 : decode cX3_leastCostOf 9 = .ok (.invokevirtual 28, 3) := by decide +kernel
theorem dX3_leastCostOf_12 : decode cX3_leastCostOf 12 = .ok (.aload_n 0, 1) := by decide +kernel
theorem dX3_leastCostOf_13 : decode cX3_leastCostOf 13 = .ok (.invokevirtual 31, 3) := by decide +kernel
theorem dX3_leastCostOf_16 : decode cX3_leastCostOf 16 = .ok (.istore_n 3, 1) := by decide +kernel
theorem dX3_leastCostOf_17 : decode cX3_leastCostOf 17 = .ok (.iload_n 2, 1) := by decide +kernel
theorem dX3_leastCostOf_18 : decode cX3_leastCostOf 18 = .ok (.ldc 35, 2) := by decide +kernel
theorem dX3_leastCostOf_20 : decode cX3_leastCostOf 20 = .ok (.if_icmp .ge 30, 3) := by decide +kernel
theorem dX3_leastCostOf_23 : decode cX3_leastCostOf 23 = .ok (.iload_n 3, 1) := by decide +kernel
theorem dX3_leastCostOf_24 : decode cX3_leastCostOf 24 = .ok (.iconst (-1), 1) := by decide +kernel
theorem dX3_leastCostOf_25 : decode cX3_leastCostOf 25 = .ok (.if_icmp .eq 25, 3) := by decide +kernel
theorem dX3_leastCostOf_28 : decode cX3_leastCostOf 28 = .ok (.aload_n 0, 1) := by decide +kernel
theorem dX3_leastCostOf_29 : decode cX3_leastCostOf 29 = .ok (.aload_n 1, 1) := by decide +kernel
theorem dX3_leastCostOf_30 : decode cX3_leastCostOf 30 = .ok (.iload_n 3, 1) := by decide +kernel
theorem dX3_leastCostOf_31 : decode cX3_leastCostOf 31 = .ok (.invokevirtual 36, 3) := by decide +kernel
theorem dX3_leastCostOf_34 : decode cX3_leastCostOf 34 = .ok (.iinc 2 1, 3) := by decide +kernel
theorem dX3_leastCostOf_37 : decode cX3_leastCostOf 37 = .ok (.aload_n 0, 1) := by decide +kernel
theorem dX3_leastCostOf_38 : decode cX3_leastCostOf 38 = .ok (.aload_n 1, 1) := by decide +kernel
theorem dX3_leastCostOf_39 : decode cX3_leastCostOf 39 = .ok (.invokevirtual 28, 3) := by decide +kernel
theorem dX3_leastCostOf_42 : decode cX3_leastCostOf 42 = .ok (.aload_n 0, 1) := by decide +kernel
theorem dX3_leastCostOf_43 : decode cX3_leastCostOf 43 = .ok (.invokevirtual 31, 3) := by decide +kernel
theorem dX3_leastCostOf_46 : decode cX3_leastCostOf 46 = .ok (.istore_n 3, 1) := by decide +kernel
theorem dX3_leastCostOf_47 : decode cX3_leastCostOf 47 = .ok (.goto (-30), 3) := by decide +kernel
theorem dX3_leastCostOf_50 : decode cX3_leastCostOf 50 = .ok (.aload_n 0, 1) := by decide +kernel
theorem dX3_leastCostOf_51 : decode cX3_leastCostOf 51 = .ok (.aload_n 1, 1) := by decide +kernel
theorem dX3_leastCostOf_52 : decode cX3_leastCostOf 52 = .ok (.invokevirtual 40, 3) := by decide +kernel
theorem dX3_leastCostOf_55 : decode cX3_leastCostOf 55 = .ok (.ireturn, 1) := by decide +kernel
theorem dX3_start_0 : decode cX3_start 0 = .ok (.iconst 0, 1) := by decide +kernel
theorem dX3_start_1 : decode cX3_start 1 = .ok (.istore_n 2, 1) := by decide +kernel
theorem dX3_start_2 : decode cX3_start 2 = .ok (.iload_n 2, 1) := by decide +kernel
theorem dX3_start_3 : decode cX3_start 3 = .ok (.bipush 7, 2) := by decide +kernel
theorem dX3_start_5 : decode cX3_start 5 = .ok (.if_icmp .ge 16, 3) := by decide +kernel
theorem dX3_start_8 : decode cX3_start 8 = .ok (.aload_n 0, 1) := by decide +kernel
theorem dX3_start_9 : decode cX3_start 9 = .ok (.getfield 15, 3) := by decide +kernel
theorem dX3_start_12 : decode cX3_start 12 = .ok (.iload_n 2, 1) := by decide +kernel
theorem dX3_start_13 : decode cX3_start 13 = .ok (.iconst 0, 1) := by decide +kernel
theorem dX3_start_14 : decode cX3_start 14 = .ok (.iastore, 1) := by decide +kernel
theorem dX3_start_15 : decode cX3_start 15 = .ok (.iinc 2 1, 3) := by decide +kernel
theorem dX3_start_18 : decode cX3_start 18 = .ok (.goto (-16), 3) := by decide +kernel
theorem dX3_start_21 : decode cX3_start 21 = .ok (.iconst 0, 1) := by decide +kernel
theorem dX3_start_22 : decode cX3_start 22 = .ok (.istore_n 2, 1) := by decide +kernel
theorem dX3_start_23 : decode cX3_start 23 = .ok (.iload_n 2, 1) := by decide +kernel
theorem dX3_start_24 : decode cX3_start 24 = .ok (.aload_n 1, 1) := by decide +kernel
theorem dX3_start_25 : decode cX3_start 25 = .ok (.getfield 44, 3) := by decide +kernel
theorem dX3_start_28 : decode cX3_start 28 = .ok (.if_icmp .ge 57, 3) := by decide +kernel
theorem dX3_start_31 : decode cX3_start 31 = .ok (.aload_n 0, 1) := by decide +kernel
theorem dX3_start_32 : decode cX3_start 32 = .ok (.getfield 9, 3) := by decide +kernel
theorem dX3_start_35 : decode cX3_start 35 = .ok (.iload_n 2, 1) := by decide +kernel
theorem dX3_start_36 : decode cX3_start 36 = .ok (.iconst 0, 1) := by decide +kernel
theorem dX3_start_37 : decode cX3_start 37 = .ok (.iastore, 1) := by decide +kernel
theorem dX3_start_38 : decode cX3_start 38 = .ok (.aload_n 1, 1) := by decide +kernel
theorem dX3_start_39 : decode cX3_start 39 = .ok (.iload_n 2, 1) := by decide +kernel
theorem dX3_start_40 : decode cX3_start 40 = .ok (.invokevirtual 50, 3) := by decide +kernel
theorem dX3_start_43 : decode cX3_start 43 = .ok (.ifCond .eq 36, 3) := by decide +kernel
theorem dX3_start_46 : decode cX3_start 46 = .ok (.aload_n 0, 1) := by decide +kernel
theorem dX3_start_47 : decode cX3_start 47 = .ok (.aload_n 1, 1) := by decide +kernel
theorem dX3_start_48 : decode cX3_start 48 = .ok (.getfield 54, 3) := by decide +kernel
theorem dX3_start_51 : decode cX3_start 51 = .ok (.iload_n 2, 1) := by decide +kernel
theorem dX3_start_52 : decode cX3_start 52 = .ok (.iaload, 1) := by decide +kernel
theorem dX3_start_53 : decode cX3_start 53 = .ok (.aload_n 1, 1) := by decide +kernel
theorem dX3_start_54 : decode cX3_start 54 = .ok (.getfield 57, 3) := by decide +kernel
theorem dX3_start_57 : decode cX3_start 57 = .ok (.iload_n 2, 1) := by decide +kernel
theorem dX3_start_58 : decode cX3_start 58 = .ok (.iaload, 1) := by decide +kernel
theorem dX3_start_59 : decode cX3_start 59 = .ok (.invokevirtual 60, 3) := by decide +kernel
theorem dX3_start_62 : decode cX3_start 62 = .ok (.aload_n 0, 1) := by decide +kernel
theorem dX3_start_63 : decode cX3_start 63 = .ok (.aload_n 1, 1) := by decide +kernel
theorem dX3_start_64 : decode cX3_start 64 = .ok (.getfield 64, 3) := by decide +kernel
theorem dX3_start_67 : decode cX3_start 67 = .ok (.iload_n 2, 1) := by decide +kernel
theorem dX3_start_68 : decode cX3_start 68 = .ok (.iaload, 1) := by decide +kernel
theorem dX3_start_69 : decode cX3_start 69 = .ok (.aload_n 1, 1) := by decide +kernel
theorem dX3_start_70 : decode cX3_start 70 = .ok (.getfield 57, 3) := by decide +kernel
theorem dX3_start_73 : decode cX3_start 73 = .ok (.iload_n 2, 1) := by decide +kernel
theorem dX3_start_74 : decode cX3_start 74 = .ok (.iaload, 1) := by decide +kernel
theorem dX3_start_75 : decode cX3_start 75 = .ok (.ineg, 1) := by decide +kernel
theorem dX3_start_76 : decode cX3_start 76 = .ok (.invokevirtual 60, 3) := by decide +kernel
theorem dX3_start_79 : decode cX3_start 79 = .ok (.iinc 2 1, 3) := by decide +kernel
theorem dX3_start_82 : decode cX3_start 82 = .ok (.goto (-59), 3) := by decide +kernel
theorem dX3_start_85 : decode cX3_start 85 = .ok (.return_, 1) := by decide +kernel
theorem dX3_addExcess_0 : decode cX3_addExcess 0 = .ok (.iload_n 1, 1) := by decide +kernel
theorem dX3_addExcess_1 : decode cX3_addExcess 1 = .ok (.invokestatic 67, 3) := by decide +kernel
theorem dX3_addExcess_4 : decode cX3_addExcess 4 = .ok (.ifCond .eq 13, 3) := by decide +kernel
theorem dX3_addExcess_7 : decode cX3_addExcess 7 = .ok (.aload_n 0, 1) := by decide +kernel
theorem dX3_addExcess_8 : decode cX3_addExcess 8 = .ok (.getfield 15, 3) := by decide +kernel
theorem dX3_addExcess_11 : decode cX3_addExcess 11 = .ok (.iload_n 1, 1) := by decide +kernel
theorem dX3_addExcess_12 : decode cX3_addExcess 12 = .ok (.dup2, 1) := by decide +kernel
theorem dX3_addExcess_13 : decode cX3_addExcess 13 = .ok (.iaload, 1) := by decide +kernel
theorem dX3_addExcess_14 : decode cX3_addExcess 14 = .ok (.iload_n 2, 1) := by decide +kernel
theorem dX3_addExcess_15 : decode cX3_addExcess 15 = .ok (.iadd, 1) := by decide +kernel
theorem dX3_addExcess_16 : decode cX3_addExcess 16 = .ok (.iastore, 1) := by decide +kernel
theorem dX3_addExcess_17 : decode cX3_addExcess 17 = .ok (.return_, 1) := by decide +kernel
theorem dX3_measure_0 : decode cX3_measure 0 = .ok (.iconst 0, 1) := by decide +kernel
theorem dX3_measure_1 : decode cX3_measure 1 = .ok (.istore_n 2, 1) := by decide +kernel
theorem dX3_measure_2 : decode cX3_measure 2 = .ok (.iload_n 2, 1) := by decide +kernel
theorem dX3_measure_3 : decode cX3_measure 3 = .ok (.bipush 7, 2) := by decide +kernel
theorem dX3_measure_5 : decode cX3_measure 5 = .ok (.if_icmp .ge 37, 3) := by decide +kernel
theorem dX3_measure_8 : decode cX3_measure 8 = .ok (.aload_n 0, 1) := by decide +kernel
theorem dX3_measure_9 : decode cX3_measure 9 = .ok (.getfield 18, 3) := by decide +kernel
theorem dX3_measure_12 : decode cX3_measure 12 = .ok (.iload_n 2, 1) := by decide +kernel
theorem dX3_measure_13 : decode cX3_measure 13 = .ok (.aload_n 0, 1) := by decide +kernel
theorem dX3_measure_14 : decode cX3_measure 14 = .ok (.getfield 15, 3) := by decide +kernel
theorem dX3_measure_17 : decode cX3_measure 17 = .ok (.iload_n 2, 1) := by decide +kernel
theorem dX3_measure_18 : decode cX3_measure 18 = .ok (.iaload, 1) := by decide +kernel
theorem dX3_measure_19 : decode cX3_measure 19 = .ok (.ifCond .le 7, 3) := by decide +kernel
theorem dX3_measure_22 : decode cX3_measure 22 = .ok (.iconst 0, 1) := by decide +kernel
theorem dX3_measure_23 : decode cX3_measure 23 = .ok (.goto 5, 3) := by decide +kernel
theorem dX3_measure_26 : decode cX3_measure 26 = .ok (.ldc 70, 2) := by decide +kernel
theorem dX3_measure_28 : decode cX3_measure 28 = .ok (.iastore, 1) := by decide +kernel
theorem dX3_measure_29 : decode cX3_measure 29 = .ok (.aload_n 0, 1) := by decide +kernel
theorem dX3_measure_30 : decode cX3_measure 30 = .ok (.getfield 21, 3) := by decide +kernel
theorem dX3_measure_33 : decode cX3_measure 33 = .ok (.iload_n 2, 1) := by decide +kernel
theorem dX3_measure_34 : decode cX3_measure 34 = .ok (.iconst (-1), 1) := by decide +kernel
theorem dX3_measure_35 : decode cX3_measure 35 = .ok (.iastore, 1) := by decide +kernel
theorem dX3_measure_36 : decode cX3_measure 36 = .ok (.iinc 2 1, 3) := by decide +kernel
theorem dX3_measure_39 : decode cX3_measure 39 = .ok (.goto (-37), 3) := by decide +kernel
theorem dX3_measure_42 : decode cX3_measure 42 = .ok (.iconst 1, 1) := by decide +kernel
theorem dX3_measure_43 : decode cX3_measure 43 = .ok (.istore_n 2, 1) := by decide +kernel
theorem dX3_measure_44 : decode cX3_measure 44 = .ok (.iconst 0, 1) := by decide +kernel
theorem dX3_measure_45 : decode cX3_measure 45 = .ok (.istore_n 3, 1) := by decide +kernel
theorem dX3_measure_46 : decode cX3_measure 46 = .ok (.iload_n 3, 1) := by decide +kernel
theorem dX3_measure_47 : decode cX3_measure 47 = .ok (.bipush 7, 2) := by decide +kernel
theorem dX3_measure_49 : decode cX3_measure 49 = .ok (.if_icmp .ge 54, 3) := by decide +kernel
theorem dX3_measure_52 : decode cX3_measure 52 = .ok (.iload_n 2, 1) := by decide +kernel
theorem dX3_measure_53 : decode cX3_measure 53 = .ok (.ifCond .eq 50, 3) := by decide +kernel
theorem dX3_measure_56 : decode cX3_measure 56 = .ok (.iconst 0, 1) := by decide +kernel
theorem dX3_measure_57 : decode cX3_measure 57 = .ok (.istore_n 2, 1) := by decide +kernel
theorem dX3_measure_58 : decode cX3_measure 58 = .ok (.iconst 0, 1) := by decide +kernel
theorem dX3_measure_59 : decode cX3_measure 59 = .ok (.istore 4, 2) := by decide +kernel
theorem dX3_measure_61 : decode cX3_measure 61 = .ok (.iload 4, 2) := by decide +kernel
theorem dX3_measure_63 : decode cX3_measure 63 = .ok (.aload_n 1, 1) := by decide +kernel
theorem dX3_measure_64 : decode cX3_measure 64 = .ok (.getfield 44, 3) := by decide +kernel
theorem dX3_measure_67 : decode cX3_measure 67 = .ok (.if_icmp .ge 30, 3) := by decide +kernel
theorem dX3_measure_70 : decode cX3_measure 70 = .ok (.aload_n 1, 1) := by decide +kernel
theorem dX3_measure_71 : decode cX3_measure 71 = .ok (.iload 4, 2) := by decide +kernel
theorem dX3_measure_73 : decode cX3_measure 73 = .ok (.invokevirtual 50, 3) := by decide +kernel
theorem dX3_measure_76 : decode cX3_measure 76 = .ok (.ifCond .eq 15, 3) := by decide +kernel
theorem dX3_measure_79 : decode cX3_measure 79 = .ok (.aload_n 0, 1) := by decide +kernel
theorem dX3_measure_80 : decode cX3_measure 80 = .ok (.aload_n 1, 1) := by decide +kernel
theorem dX3_measure_81 : decode cX3_measure 81 = .ok (.iload 4, 2) := by decide +kernel
theorem dX3_measure_83 : decode cX3_measure 83 = .ok (.invokevirtual 71, 3) := by decide +kernel
theorem dX3_measure_86 : decode cX3_measure 86 = .ok (.ifCond .eq 5, 3) := by decide +kernel
theorem dX3_measure_89 : decode cX3_measure 89 = .ok (.iconst 1, 1) := by decide +kernel
theorem dX3_measure_90 : decode cX3_measure 90 = .ok (.istore_n 2, 1) := by decide +kernel
theorem dX3_measure_91 : decode cX3_measure 91 = .ok (.iinc 4 1, 3) := by decide +kernel
theorem dX3_measure_94 : decode cX3_measure 94 = .ok (.goto (-33), 3) := by decide +kernel
theorem dX3_measure_97 : decode cX3_measure 97 = .ok (.iinc 3 1, 3) := by decide +kernel
theorem dX3_measure_100 : decode cX3_measure 100 = .ok (.goto (-54), 3) := by decide +kernel
theorem dX3_measure_103 : decode cX3_measure 103 = .ok (.return_, 1) := by decide +kernel
theorem dX3_shorten_0 : decode cX3_shorten 0 = .ok (.iconst 0, 1) := by decide +kernel
theorem dX3_shorten_1 : decode cX3_shorten 1 = .ok (.istore_n 3, 1) := by decide +kernel
theorem dX3_shorten_2 : decode cX3_shorten 2 = .ok (.aload_n 0, 1) := by decide +kernel
theorem dX3_shorten_3 : decode cX3_shorten 3 = .ok (.getfield 9, 3) := by decide +kernel
theorem dX3_shorten_6 : decode cX3_shorten 6 = .ok (.iload_n 2, 1) := by decide +kernel
theorem dX3_shorten_7 : decode cX3_shorten 7 = .ok (.iaload, 1) := by decide +kernel
theorem dX3_shorten_8 : decode cX3_shorten 8 = .ok (.aload_n 1, 1) := by decide +kernel
theorem dX3_shorten_9 : decode cX3_shorten 9 = .ok (.getfield 57, 3) := by decide +kernel
theorem dX3_shorten_12 : decode cX3_shorten 12 = .ok (.iload_n 2, 1) := by decide +kernel
theorem dX3_shorten_13 : decode cX3_shorten 13 = .ok (.iaload, 1) := by decide +kernel
theorem dX3_shorten_14 : decode cX3_shorten 14 = .ok (.if_icmp .ge 27, 3) := by decide +kernel
theorem dX3_shorten_17 : decode cX3_shorten 17 = .ok (.aload_n 0, 1) := by decide +kernel
theorem dX3_shorten_18 : decode cX3_shorten 18 = .ok (.aload_n 1, 1) := by decide +kernel
theorem dX3_shorten_19 : decode cX3_shorten 19 = .ok (.getfield 54, 3) := by decide +kernel
theorem dX3_shorten_22 : decode cX3_shorten 22 = .ok (.iload_n 2, 1) := by decide +kernel
theorem dX3_shorten_23 : decode cX3_shorten 23 = .ok (.iaload, 1) := by decide +kernel
theorem dX3_shorten_24 : decode cX3_shorten 24 = .ok (.aload_n 1, 1) := by decide +kernel
theorem dX3_shorten_25 : decode cX3_shorten 25 = .ok (.getfield 64, 3) := by decide +kernel
theorem dX3_shorten_28 : decode cX3_shorten 28 = .ok (.iload_n 2, 1) := by decide +kernel
theorem dX3_shorten_29 : decode cX3_shorten 29 = .ok (.iaload, 1) := by decide +kernel
theorem dX3_shorten_30 : decode cX3_shorten 30 = .ok (.aload_n 1, 1) := by decide +kernel
theorem dX3_shorten_31 : decode cX3_shorten 31 = .ok (.getfield 75, 3) := by decide +kernel
theorem dX3_shorten_34 : decode cX3_shorten 34 = .ok (.iload_n 2, 1) := by decide +kernel
theorem dX3_shorten_35 : decode cX3_shorten 35 = .ok (.iaload, 1) := by decide +kernel
theorem dX3_shorten_36 : decode cX3_shorten 36 = .ok (.iload_n 2, 1) := by decide +kernel
theorem dX3_shorten_37 : decode cX3_shorten 37 = .ok (.invokevirtual 78, 3) := by decide +kernel
theorem dX3_shorten_40 : decode cX3_shorten 40 = .ok (.istore_n 3, 1) := by decide +kernel
theorem dX3_shorten_41 : decode cX3_shorten 41 = .ok (.aload_n 0, 1) := by decide +kernel
theorem dX3_shorten_42 : decode cX3_shorten 42 = .ok (.getfield 9, 3) := by decide +kernel
theorem dX3_shorten_45 : decode cX3_shorten 45 = .ok (.iload_n 2, 1) := by decide +kernel
theorem dX3_shorten_46 : decode cX3_shorten 46 = .ok (.iaload, 1) := by decide +kernel
theorem dX3_shorten_47 : decode cX3_shorten 47 = .ok (.ifCond .le 32, 3) := by decide +kernel
theorem dX3_shorten_50 : decode cX3_shorten 50 = .ok (.aload_n 0, 1) := by decide +kernel
theorem dX3_shorten_51 : decode cX3_shorten 51 = .ok (.aload_n 1, 1) := by decide +kernel
theorem dX3_shorten_52 : decode cX3_shorten 52 = .ok (.getfield 64, 3) := by decide +kernel
theorem dX3_shorten_55 : decode cX3_shorten 55 = .ok (.iload_n 2, 1) := by decide +kernel
theorem dX3_shorten_56 : decode cX3_shorten 56 = .ok (.iaload, 1) := by decide +kernel
theorem dX3_shorten_57 : decode cX3_shorten 57 = .ok (.aload_n 1, 1) := by decide +kernel
theorem dX3_shorten_58 : decode cX3_shorten 58 = .ok (.getfield 54, 3) := by decide +kernel
theorem dX3_shorten_61 : decode cX3_shorten 61 = .ok (.iload_n 2, 1) := by decide +kernel
theorem dX3_shorten_62 : decode cX3_shorten 62 = .ok (.iaload, 1) := by decide +kernel
theorem dX3_shorten_63 : decode cX3_shorten 63 = .ok (.aload_n 1, 1) := by decide +kernel
theorem dX3_shorten_64 : decode cX3_shorten 64 = .ok (.getfield 75, 3) := by decide +kernel
theorem dX3_shorten_67 : decode cX3_shorten 67 = .ok (.iload_n 2, 1) := by decide +kernel
theorem dX3_shorten_68 : decode cX3_shorten 68 = .ok (.iaload, 1) := by decide +kernel
theorem dX3_shorten_69 : decode cX3_shorten 69 = .ok (.ineg, 1) := by decide +kernel
theorem dX3_shorten_70 : decode cX3_shorten 70 = .ok (.iload_n 2, 1) := by decide +kernel
theorem dX3_shorten_71 : decode cX3_shorten 71 = .ok (.invokevirtual 78, 3) := by decide +kernel
theorem dX3_shorten_74 : decode cX3_shorten 74 = .ok (.ifCond .eq 5, 3) := by decide +kernel
theorem dX3_shorten_77 : decode cX3_shorten 77 = .ok (.iconst 1, 1) := by decide +kernel
theorem dX3_shorten_78 : decode cX3_shorten 78 = .ok (.istore_n 3, 1) := by decide +kernel
theorem dX3_shorten_79 : decode cX3_shorten 79 = .ok (.iload_n 3, 1) := by decide +kernel
theorem dX3_shorten_80 : decode cX3_shorten 80 = .ok (.ireturn, 1) := by decide +kernel
theorem dX3_reach_0 : decode cX3_reach 0 = .ok (.iload_n 1, 1) := by decide +kernel
theorem dX3_reach_1 : decode cX3_reach 1 = .ok (.invokestatic 67, 3) := by decide +kernel
theorem dX3_reach_4 : decode cX3_reach 4 = .ok (.ifCond .eq 38, 3) := by decide +kernel
theorem dX3_reach_7 : decode cX3_reach 7 = .ok (.iload_n 2, 1) := by decide +kernel
theorem dX3_reach_8 : decode cX3_reach 8 = .ok (.invokestatic 67, 3) := by decide +kernel
theorem dX3_reach_11 : decode cX3_reach 11 = .ok (.ifCond .eq 31, 3) := by decide +kernel
theorem dX3_reach_14 : decode cX3_reach 14 = .ok (.aload_n 0, 1) := by decide +kernel
theorem dX3_reach_15 : decode cX3_reach 15 = .ok (.getfield 18, 3) := by decide +kernel
theorem dX3_reach_18 : decode cX3_reach 18 = .ok (.iload_n 1, 1) := by decide +kernel
theorem dX3_reach_19 : decode cX3_reach 19 = .ok (.iaload, 1) := by decide +kernel
theorem dX3_reach_20 : decode cX3_reach 20 = .ok (.ldc 70, 2) := by decide +kernel
theorem dX3_reach_22 : decode cX3_reach 22 = .ok (.if_icmp .eq 20, 3) := by decide +kernel
theorem dX3_reach_25 : decode cX3_reach 25 = .ok (.aload_n 0, 1) := by decide +kernel
theorem dX3_reach_26 : decode cX3_reach 26 = .ok (.getfield 18, 3) := by decide +kernel
theorem dX3_reach_29 : decode cX3_reach 29 = .ok (.iload_n 1, 1) := by decide +kernel
theorem dX3_reach_30 : decode cX3_reach 30 = .ok (.iaload, 1) := by decide +kernel
theorem dX3_reach_31 : decode cX3_reach 31 = .ok (.iload_n 3, 1) := by decide +kernel
theorem dX3_reach_32 : decode cX3_reach 32 = .ok (.iadd, 1) := by decide +kernel
theorem dX3_reach_33 : decode cX3_reach 33 = .ok (.aload_n 0, 1) := by decide +kernel
theorem dX3_reach_34 : decode cX3_reach 34 = .ok (.getfield 18, 3) := by decide +kernel
theorem dX3_reach_37 : decode cX3_reach 37 = .ok (.iload_n 2, 1) := by decide +kernel
theorem dX3_reach_38 : decode cX3_reach 38 = .ok (.iaload, 1) := by decide +kernel
theorem dX3_reach_39 : decode cX3_reach 39 = .ok (.if_icmp .lt 5, 3) := by decide +kernel
theorem dX3_reach_42 : decode cX3_reach 42 = .ok (.iconst 0, 1) := by decide +kernel
theorem dX3_reach_43 : decode cX3_reach 43 = .ok (.ireturn, 1) := by decide +kernel
theorem dX3_reach_44 : decode cX3_reach 44 = .ok (.aload_n 0, 1) := by decide +kernel
theorem dX3_reach_45 : decode cX3_reach 45 = .ok (.getfield 18, 3) := by decide +kernel
theorem dX3_reach_48 : decode cX3_reach 48 = .ok (.iload_n 2, 1) := by decide +kernel
theorem dX3_reach_49 : decode cX3_reach 49 = .ok (.aload_n 0, 1) := by decide +kernel
theorem dX3_reach_50 : decode cX3_reach 50 = .ok (.getfield 18, 3) := by decide +kernel
theorem dX3_reach_53 : decode cX3_reach 53 = .ok (.iload_n 1, 1) := by decide +kernel
theorem dX3_reach_54 : decode cX3_reach 54 = .ok (.iaload, 1) := by decide +kernel
theorem dX3_reach_55 : decode cX3_reach 55 = .ok (.iload_n 3, 1) := by decide +kernel
theorem dX3_reach_56 : decode cX3_reach 56 = .ok (.iadd, 1) := by decide +kernel
theorem dX3_reach_57 : decode cX3_reach 57 = .ok (.iastore, 1) := by decide +kernel
theorem dX3_reach_58 : decode cX3_reach 58 = .ok (.aload_n 0, 1) := by decide +kernel
theorem dX3_reach_59 : decode cX3_reach 59 = .ok (.getfield 21, 3) := by decide +kernel
theorem dX3_reach_62 : decode cX3_reach 62 = .ok (.iload_n 2, 1) := by decide +kernel
theorem dX3_reach_63 : decode cX3_reach 63 = .ok (.iload 4, 2) := by decide +kernel
theorem dX3_reach_65 : decode cX3_reach 65 = .ok (.iastore, 1) := by decide +kernel
theorem dX3_reach_66 : decode cX3_reach 66 = .ok (.iconst 1, 1) := by decide +kernel
theorem dX3_reach_67 : decode cX3_reach 67 = .ok (.ireturn, 1) := by decide +kernel
theorem dX3_nearestEnd_0 : decode cX3_nearestEnd 0 = .ok (.iconst (-1), 1) := by decide +kernel
theorem dX3_nearestEnd_1 : decode cX3_nearestEnd 1 = .ok (.istore_n 1, 1) := by decide +kernel
theorem dX3_nearestEnd_2 : decode cX3_nearestEnd 2 = .ok (.ldc 70, 2) := by decide +kernel
theorem dX3_nearestEnd_4 : decode cX3_nearestEnd 4 = .ok (.istore_n 2, 1) := by decide +kernel
theorem dX3_nearestEnd_5 : decode cX3_nearestEnd 5 = .ok (.iconst 0, 1) := by decide +kernel
theorem dX3_nearestEnd_6 : decode cX3_nearestEnd 6 = .ok (.istore_n 3, 1) := by decide +kernel
theorem dX3_nearestEnd_7 : decode cX3_nearestEnd 7 = .ok (.iload_n 3, 1) := by decide +kernel
theorem dX3_nearestEnd_8 : decode cX3_nearestEnd 8 = .ok (.bipush 7, 2) := by decide +kernel
theorem dX3_nearestEnd_10 : decode cX3_nearestEnd 10 = .ok (.if_icmp .ge 37, 3) := by decide +kernel
theorem dX3_nearestEnd_13 : decode cX3_nearestEnd 13 = .ok (.aload_n 0, 1) := by decide +kernel
theorem dX3_nearestEnd_14 : decode cX3_nearestEnd 14 = .ok (.getfield 15, 3) := by decide +kernel
theorem dX3_nearestEnd_17 : decode cX3_nearestEnd 17 = .ok (.iload_n 3, 1) := by decide +kernel
theorem dX3_nearestEnd_18 : decode cX3_nearestEnd 18 = .ok (.iaload, 1) := by decide +kernel
theorem dX3_nearestEnd_19 : decode cX3_nearestEnd 19 = .ok (.ifCond .ge 22, 3) := by decide +kernel
theorem dX3_nearestEnd_22 : decode cX3_nearestEnd 22 = .ok (.aload_n 0, 1) := by decide +kernel
theorem dX3_nearestEnd_23 : decode cX3_nearestEnd 23 = .ok (.getfield 18, 3) := by decide +kernel
theorem dX3_nearestEnd_26 : decode cX3_nearestEnd 26 = .ok (.iload_n 3, 1) := by decide +kernel
theorem dX3_nearestEnd_27 : decode cX3_nearestEnd 27 = .ok (.iaload, 1) := by decide +kernel
theorem dX3_nearestEnd_28 : decode cX3_nearestEnd 28 = .ok (.iload_n 2, 1) := by decide +kernel
theorem dX3_nearestEnd_29 : decode cX3_nearestEnd 29 = .ok (.if_icmp .ge 12, 3) := by decide +kernel
theorem dX3_nearestEnd_32 : decode cX3_nearestEnd 32 = .ok (.iload_n 3, 1) := by decide +kernel
theorem dX3_nearestEnd_33 : decode cX3_nearestEnd 33 = .ok (.istore_n 1, 1) := by decide +kernel
theorem dX3_nearestEnd_34 : decode cX3_nearestEnd 34 = .ok (.aload_n 0, 1) := by decide +kernel
theorem dX3_nearestEnd_35 : decode cX3_nearestEnd 35 = .ok (.getfield 18, 3) := by decide +kernel
theorem dX3_nearestEnd_38 : decode cX3_nearestEnd 38 = .ok (.iload_n 3, 1) := by decide +kernel
theorem dX3_nearestEnd_39 : decode cX3_nearestEnd 39 = .ok (.iaload, 1) := by decide +kernel
theorem dX3_nearestEnd_40 : decode cX3_nearestEnd 40 = .ok (.istore_n 2, 1) := by decide +kernel
theorem dX3_nearestEnd_41 : decode cX3_nearestEnd 41 = .ok (.iinc 3 1, 3) := by decide +kernel
theorem dX3_nearestEnd_44 : decode cX3_nearestEnd 44 = .ok (.goto (-37), 3) := by decide +kernel
theorem dX3_nearestEnd_47 : decode cX3_nearestEnd 47 = .ok (.iload_n 1, 1) := by decide +kernel
theorem dX3_nearestEnd_48 : decode cX3_nearestEnd 48 = .ok (.ireturn, 1) := by decide +kernel
theorem dX3_push_0 : decode cX3_push 0 = .ok (.aload_n 0, 1) := by decide +kernel
theorem dX3_push_1 : decode cX3_push 1 = .ok (.aload_n 1, 1) := by decide +kernel
theorem dX3_push_2 : decode cX3_push 2 = .ok (.iload_n 2, 1) := by decide +kernel
theorem dX3_push_3 : decode cX3_push 3 = .ok (.invokevirtual 82, 3) := by decide +kernel
theorem dX3_push_6 : decode cX3_push 6 = .ok (.istore_n 3, 1) := by decide +kernel
theorem dX3_push_7 : decode cX3_push 7 = .ok (.iload_n 3, 1) := by decide +kernel
theorem dX3_push_8 : decode cX3_push 8 = .ok (.invokestatic 67, 3) := by decide +kernel
theorem dX3_push_11 : decode cX3_push 11 = .ok (.ifCond .ne 4, 3) := by decide +kernel
theorem dX3_push_14 : decode cX3_push 14 = .ok (.return_, 1) := by decide +kernel
theorem dX3_push_15 : decode cX3_push 15 = .ok (.aload_n 0, 1) := by decide +kernel
theorem dX3_push_16 : decode cX3_push 16 = .ok (.getfield 15, 3) := by decide +kernel
theorem dX3_push_19 : decode cX3_push 19 = .ok (.iload_n 3, 1) := by decide +kernel
theorem dX3_push_20 : decode cX3_push 20 = .ok (.iaload, 1) := by decide +kernel
theorem dX3_push_21 : decode cX3_push 21 = .ok (.aload_n 0, 1) := by decide +kernel
theorem dX3_push_22 : decode cX3_push 22 = .ok (.aload_n 1, 1) := by decide +kernel
theorem dX3_push_23 : decode cX3_push 23 = .ok (.iload_n 2, 1) := by decide +kernel
theorem dX3_push_24 : decode cX3_push 24 = .ok (.invokevirtual 86, 3) := by decide +kernel
theorem dX3_push_27 : decode cX3_push 27 = .ok (.invokestatic 89, 3) := by decide +kernel
theorem dX3_push_30 : decode cX3_push 30 = .ok (.istore 4, 2) := by decide +kernel
theorem dX3_push_32 : decode cX3_push 32 = .ok (.iload_n 2, 1) := by decide +kernel
theorem dX3_push_33 : decode cX3_push 33 = .ok (.istore 5, 2) := by decide +kernel
theorem dX3_push_35 : decode cX3_push 35 = .ok (.iconst 0, 1) := by decide +kernel
theorem dX3_push_36 : decode cX3_push 36 = .ok (.istore 6, 2) := by decide +kernel
theorem dX3_push_38 : decode cX3_push 38 = .ok (.iload 6, 2) := by decide +kernel
theorem dX3_push_40 : decode cX3_push 40 = .ok (.bipush 7, 2) := by decide +kernel
theorem dX3_push_42 : decode cX3_push 42 = .ok (.if_icmp .ge 66, 3) := by decide +kernel
theorem dX3_push_45 : decode cX3_push 45 = .ok (.aload_n 0, 1) := by decide +kernel
theorem dX3_push_46 : decode cX3_push 46 = .ok (.iload 5, 2) := by decide +kernel
theorem dX3_push_48 : decode cX3_push 48 = .ok (.invokevirtual 95, 3) := by decide +kernel
theorem dX3_push_51 : decode cX3_push 51 = .ok (.iconst (-1), 1) := by decide +kernel
theorem dX3_push_52 : decode cX3_push 52 = .ok (.if_icmp .eq 56, 3) := by decide +kernel
theorem dX3_push_55 : decode cX3_push 55 = .ok (.aload_n 0, 1) := by decide +kernel
theorem dX3_push_56 : decode cX3_push 56 = .ok (.iload 5, 2) := by decide +kernel
theorem dX3_push_58 : decode cX3_push 58 = .ok (.invokevirtual 95, 3) := by decide +kernel
theorem dX3_push_61 : decode cX3_push 61 = .ok (.istore 7, 2) := by decide +kernel
theorem dX3_push_63 : decode cX3_push 63 = .ok (.aload_n 0, 1) := by decide +kernel
theorem dX3_push_64 : decode cX3_push 64 = .ok (.getfield 9, 3) := by decide +kernel
theorem dX3_push_67 : decode cX3_push 67 = .ok (.iload 7, 2) := by decide +kernel
theorem dX3_push_69 : decode cX3_push 69 = .ok (.dup2, 1) := by decide +kernel
theorem dX3_push_70 : decode cX3_push 70 = .ok (.iaload, 1) := by decide +kernel
theorem dX3_push_71 : decode cX3_push 71 = .ok (.aload_n 1, 1) := by decide +kernel
theorem dX3_push_72 : decode cX3_push 72 = .ok (.getfield 64, 3) := by decide +kernel
theorem dX3_push_75 : decode cX3_push 75 = .ok (.iload 7, 2) := by decide +kernel
theorem dX3_push_77 : decode cX3_push 77 = .ok (.iaload, 1) := by decide +kernel
theorem dX3_push_78 : decode cX3_push 78 = .ok (.iload 5, 2) := by decide +kernel
theorem dX3_push_80 : decode cX3_push 80 = .ok (.if_icmp .ne 8, 3) := by decide +kernel
theorem dX3_push_83 : decode cX3_push 83 = .ok (.iload 4, 2) := by decide +kernel
theorem dX3_push_85 : decode cX3_push 85 = .ok (.goto 6, 3) := by decide +kernel
theorem dX3_push_88 : decode cX3_push 88 = .ok (.iload 4, 2) := by decide +kernel
theorem dX3_push_90 : decode cX3_push 90 = .ok (.ineg, 1) := by decide +kernel
theorem dX3_push_91 : decode cX3_push 91 = .ok (.iadd, 1) := by decide +kernel
theorem dX3_push_92 : decode cX3_push 92 = .ok (.iastore, 1) := by decide +kernel
theorem dX3_push_93 : decode cX3_push 93 = .ok (.aload_n 0, 1) := by decide +kernel
theorem dX3_push_94 : decode cX3_push 94 = .ok (.aload_n 1, 1) := by decide +kernel
theorem dX3_push_95 : decode cX3_push 95 = .ok (.iload 5, 2) := by decide +kernel
theorem dX3_push_97 : decode cX3_push 97 = .ok (.invokevirtual 99, 3) := by decide +kernel
theorem dX3_push_100 : decode cX3_push 100 = .ok (.istore 5, 2) := by decide +kernel
theorem dX3_push_102 : decode cX3_push 102 = .ok (.iinc 6 1, 3) := by decide +kernel
theorem dX3_push_105 : decode cX3_push 105 = .ok (.goto (-67), 3) := by decide +kernel
theorem dX3_push_108 : decode cX3_push 108 = .ok (.aload_n 0, 1) := by decide +kernel
theorem dX3_push_109 : decode cX3_push 109 = .ok (.iload_n 3, 1) := by decide +kernel
theorem dX3_push_110 : decode cX3_push 110 = .ok (.iload 4, 2) := by decide +kernel
theorem dX3_push_112 : decode cX3_push 112 = .ok (.ineg, 1) := by decide +kernel
theorem dX3_push_113 : decode cX3_push 113 = .ok (.invokevirtual 60, 3) := by decide +kernel
theorem dX3_push_116 : decode cX3_push 116 = .ok (.aload_n 0, 1) := by decide +kernel
theorem dX3_push_117 : decode cX3_push 117 = .ok (.iload_n 2, 1) := by decide +kernel
theorem dX3_push_118 : decode cX3_push 118 = .ok (.iload 4, 2) := by decide +kernel
theorem dX3_push_120 : decode cX3_push 120 = .ok (.invokevirtual 60, 3) := by decide +kernel
theorem dX3_push_123 : decode cX3_push 123 = .ok (.return_, 1) := by decide +kernel
theorem dX3_originOf_0 : decode cX3_originOf 0 = .ok (.iload_n 2, 1) := by decide +kernel
theorem dX3_originOf_1 : decode cX3_originOf 1 = .ok (.istore_n 3, 1) := by decide +kernel
theorem dX3_originOf_2 : decode cX3_originOf 2 = .ok (.iconst 0, 1) := by decide +kernel
theorem dX3_originOf_3 : decode cX3_originOf 3 = .ok (.istore 4, 2) := by decide +kernel
theorem dX3_originOf_5 : decode cX3_originOf 5 = .ok (.iload 4, 2) := by decide +kernel
theorem dX3_originOf_7 : decode cX3_originOf 7 = .ok (.bipush 7, 2) := by decide +kernel
theorem dX3_originOf_9 : decode cX3_originOf 9 = .ok (.if_icmp .ge 25, 3) := by decide +kernel
theorem dX3_originOf_12 : decode cX3_originOf 12 = .ok (.aload_n 0, 1) := by decide +kernel
theorem dX3_originOf_13 : decode cX3_originOf 13 = .ok (.iload_n 3, 1) := by decide +kernel
theorem dX3_originOf_14 : decode cX3_originOf 14 = .ok (.invokevirtual 95, 3) := by decide +kernel
theorem dX3_originOf_17 : decode cX3_originOf 17 = .ok (.iconst (-1), 1) := by decide +kernel
theorem dX3_originOf_18 : decode cX3_originOf 18 = .ok (.if_icmp .eq 16, 3) := by decide +kernel
theorem dX3_originOf_21 : decode cX3_originOf 21 = .ok (.aload_n 0, 1) := by decide +kernel
theorem dX3_originOf_22 : decode cX3_originOf 22 = .ok (.aload_n 1, 1) := by decide +kernel
theorem dX3_originOf_23 : decode cX3_originOf 23 = .ok (.iload_n 3, 1) := by decide +kernel
theorem dX3_originOf_24 : decode cX3_originOf 24 = .ok (.invokevirtual 99, 3) := by decide +kernel
theorem dX3_originOf_27 : decode cX3_originOf 27 = .ok (.istore_n 3, 1) := by decide +kernel
theorem dX3_originOf_28 : decode cX3_originOf 28 = .ok (.iinc 4 1, 3) := by decide +kernel
theorem dX3_originOf_31 : decode cX3_originOf 31 = .ok (.goto (-26), 3) := by decide +kernel
theorem dX3_originOf_34 : decode cX3_originOf 34 = .ok (.iload_n 3, 1) := by decide +kernel
theorem dX3_originOf_35 : decode cX3_originOf 35 = .ok (.ireturn, 1) := by decide +kernel
theorem dX3_widthTo_0 : decode cX3_widthTo 0 = .ok (.iload_n 2, 1) := by decide +kernel
theorem dX3_widthTo_1 : decode cX3_widthTo 1 = .ok (.invokestatic 67, 3) := by decide +kernel
theorem dX3_widthTo_4 : decode cX3_widthTo 4 = .ok (.ifCond .eq 13, 3) := by decide +kernel
theorem dX3_widthTo_7 : decode cX3_widthTo 7 = .ok (.aload_n 0, 1) := by decide +kernel
theorem dX3_widthTo_8 : decode cX3_widthTo 8 = .ok (.getfield 15, 3) := by decide +kernel
theorem dX3_widthTo_11 : decode cX3_widthTo 11 = .ok (.iload_n 2, 1) := by decide +kernel
theorem dX3_widthTo_12 : decode cX3_widthTo 12 = .ok (.iaload, 1) := by decide +kernel
theorem dX3_widthTo_13 : decode cX3_widthTo 13 = .ok (.ineg, 1) := by decide +kernel
theorem dX3_widthTo_14 : decode cX3_widthTo 14 = .ok (.goto 4, 3) := by decide +kernel
theorem dX3_widthTo_17 : decode cX3_widthTo 17 = .ok (.iconst 0, 1) := by decide +kernel
theorem dX3_widthTo_18 : decode cX3_widthTo 18 = .ok (.istore_n 3, 1) := by decide +kernel
theorem dX3_widthTo_19 : decode cX3_widthTo 19 = .ok (.iload_n 2, 1) := by decide +kernel
theorem dX3_widthTo_20 : decode cX3_widthTo 20 = .ok (.istore 4, 2) := by decide +kernel
theorem dX3_widthTo_22 : decode cX3_widthTo 22 = .ok (.iconst 0, 1) := by decide +kernel
theorem dX3_widthTo_23 : decode cX3_widthTo 23 = .ok (.istore 5, 2) := by decide +kernel
theorem dX3_widthTo_25 : decode cX3_widthTo 25 = .ok (.iload 5, 2) := by decide +kernel
theorem dX3_widthTo_27 : decode cX3_widthTo 27 = .ok (.bipush 7, 2) := by decide +kernel
theorem dX3_widthTo_29 : decode cX3_widthTo 29 = .ok (.if_icmp .ge 77, 3) := by decide +kernel
theorem dX3_widthTo_32 : decode cX3_widthTo 32 = .ok (.aload_n 0, 1) := by decide +kernel
theorem dX3_widthTo_33 : decode cX3_widthTo 33 = .ok (.iload 4, 2) := by decide +kernel
theorem dX3_widthTo_35 : decode cX3_widthTo 35 = .ok (.invokevirtual 95, 3) := by decide +kernel
theorem dX3_widthTo_38 : decode cX3_widthTo 38 = .ok (.iconst (-1), 1) := by decide +kernel
theorem dX3_widthTo_39 : decode cX3_widthTo 39 = .ok (.if_icmp .eq 67, 3) := by decide +kernel
theorem dX3_widthTo_42 : decode cX3_widthTo 42 = .ok (.aload_n 0, 1) := by decide +kernel
theorem dX3_widthTo_43 : decode cX3_widthTo 43 = .ok (.iload 4, 2) := by decide +kernel
theorem dX3_widthTo_45 : decode cX3_widthTo 45 = .ok (.invokevirtual 95, 3) := by decide +kernel
theorem dX3_widthTo_48 : decode cX3_widthTo 48 = .ok (.istore 6, 2) := by decide +kernel
theorem dX3_widthTo_50 : decode cX3_widthTo 50 = .ok (.aload_n 0, 1) := by decide +kernel
theorem dX3_widthTo_51 : decode cX3_widthTo 51 = .ok (.getfield 9, 3) := by decide +kernel
theorem dX3_widthTo_54 : decode cX3_widthTo 54 = .ok (.iload 6, 2) := by decide +kernel
theorem dX3_widthTo_56 : decode cX3_widthTo 56 = .ok (.iaload, 1) := by decide +kernel
theorem dX3_widthTo_57 : decode cX3_widthTo 57 = .ok (.istore 7, 2) := by decide +kernel
theorem dX3_widthTo_59 : decode cX3_widthTo 59 = .ok (.iload_n 3, 1) := by decide +kernel
theorem dX3_widthTo_60 : decode cX3_widthTo 60 = .ok (.aload_n 1, 1) := by decide +kernel
theorem dX3_widthTo_61 : decode cX3_widthTo 61 = .ok (.getfield 64, 3) := by decide +kernel
theorem dX3_widthTo_64 : decode cX3_widthTo 64 = .ok (.iload 6, 2) := by decide +kernel
theorem dX3_widthTo_66 : decode cX3_widthTo 66 = .ok (.iaload, 1) := by decide +kernel
theorem dX3_widthTo_67 : decode cX3_widthTo 67 = .ok (.iload 4, 2) := by decide +kernel
theorem dX3_widthTo_69 : decode cX3_widthTo 69 = .ok (.if_icmp .ne 16, 3) := by decide +kernel
theorem dX3_widthTo_72 : decode cX3_widthTo 72 = .ok (.aload_n 1, 1) := by decide +kernel
theorem dX3_widthTo_73 : decode cX3_widthTo 73 = .ok (.getfield 57, 3) := by decide +kernel
theorem dX3_widthTo_76 : decode cX3_widthTo 76 = .ok (.iload 6, 2) := by decide +kernel
theorem dX3_widthTo_78 : decode cX3_widthTo 78 = .ok (.iaload, 1) := by decide +kernel
theorem dX3_widthTo_79 : decode cX3_widthTo 79 = .ok (.iload 7, 2) := by decide +kernel
theorem dX3_widthTo_81 : decode cX3_widthTo 81 = .ok (.isub, 1) := by decide +kernel
theorem dX3_widthTo_82 : decode cX3_widthTo 82 = .ok (.goto 5, 3) := by decide +kernel
theorem dX3_widthTo_85 : decode cX3_widthTo 85 = .ok (.iload 7, 2) := by decide +kernel
theorem dX3_widthTo_87 : decode cX3_widthTo 87 = .ok (.invokestatic 89, 3) := by decide +kernel
theorem dX3_widthTo_90 : decode cX3_widthTo 90 = .ok (.istore_n 3, 1) := by decide +kernel
theorem dX3_widthTo_91 : decode cX3_widthTo 91 = .ok (.aload_n 0, 1) := by decide +kernel
theorem dX3_widthTo_92 : decode cX3_widthTo 92 = .ok (.aload_n 1, 1) := by decide +kernel
theorem dX3_widthTo_93 : decode cX3_widthTo 93 = .ok (.iload 4, 2) := by decide +kernel
theorem dX3_widthTo_95 : decode cX3_widthTo 95 = .ok (.invokevirtual 99, 3) := by decide +kernel
theorem dX3_widthTo_98 : decode cX3_widthTo 98 = .ok (.istore 4, 2) := by decide +kernel
theorem dX3_widthTo_100 : decode cX3_widthTo 100 = .ok (.iinc 5 1, 3) := by decide +kernel
theorem dX3_widthTo_103 : decode cX3_widthTo 103 = .ok (.goto (-78), 3) := by decide +kernel
theorem dX3_widthTo_106 : decode cX3_widthTo 106 = .ok (.iload_n 3, 1) := by decide +kernel
theorem dX3_widthTo_107 : decode cX3_widthTo 107 = .ok (.ireturn, 1) := by decide +kernel
theorem dX3_promiseTo_0 : decode cX3_promiseTo 0 = .ok (.iload_n 1, 1) := by decide +kernel
theorem dX3_promiseTo_1 : decode cX3_promiseTo 1 = .ok (.invokestatic 67, 3) := by decide +kernel
theorem dX3_promiseTo_4 : decode cX3_promiseTo 4 = .ok (.ifCond .eq 12, 3) := by decide +kernel
theorem dX3_promiseTo_7 : decode cX3_promiseTo 7 = .ok (.aload_n 0, 1) := by decide +kernel
theorem dX3_promiseTo_8 : decode cX3_promiseTo 8 = .ok (.getfield 21, 3) := by decide +kernel
theorem dX3_promiseTo_11 : decode cX3_promiseTo 11 = .ok (.iload_n 1, 1) := by decide +kernel
theorem dX3_promiseTo_12 : decode cX3_promiseTo 12 = .ok (.iaload, 1) := by decide +kernel
theorem dX3_promiseTo_13 : decode cX3_promiseTo 13 = .ok (.goto 4, 3) := by decide +kernel
theorem dX3_promiseTo_16 : decode cX3_promiseTo 16 = .ok (.iconst (-1), 1) := by decide +kernel
theorem dX3_promiseTo_17 : decode cX3_promiseTo 17 = .ok (.istore_n 2, 1) := by decide +kernel
theorem dX3_promiseTo_18 : decode cX3_promiseTo 18 = .ok (.iload_n 2, 1) := by decide +kernel
theorem dX3_promiseTo_19 : decode cX3_promiseTo 19 = .ok (.invokestatic 102, 3) := by decide +kernel
theorem dX3_promiseTo_22 : decode cX3_promiseTo 22 = .ok (.ifCond .eq 7, 3) := by decide +kernel
theorem dX3_promiseTo_25 : decode cX3_promiseTo 25 = .ok (.iload_n 2, 1) := by decide +kernel
theorem dX3_promiseTo_26 : decode cX3_promiseTo 26 = .ok (.goto 4, 3) := by decide +kernel
theorem dX3_promiseTo_29 : decode cX3_promiseTo 29 = .ok (.iconst (-1), 1) := by decide +kernel
theorem dX3_promiseTo_30 : decode cX3_promiseTo 30 = .ok (.ireturn, 1) := by decide +kernel
theorem dX3_before_0 : decode cX3_before 0 = .ok (.aload_n 0, 1) := by decide +kernel
theorem dX3_before_1 : decode cX3_before 1 = .ok (.iload_n 2, 1) := by decide +kernel
theorem dX3_before_2 : decode cX3_before 2 = .ok (.invokevirtual 95, 3) := by decide +kernel
theorem dX3_before_5 : decode cX3_before 5 = .ok (.istore_n 3, 1) := by decide +kernel
theorem dX3_before_6 : decode cX3_before 6 = .ok (.iload_n 3, 1) := by decide +kernel
theorem dX3_before_7 : decode cX3_before 7 = .ok (.iconst (-1), 1) := by decide +kernel
theorem dX3_before_8 : decode cX3_before 8 = .ok (.if_icmp .ne 5, 3) := by decide +kernel
theorem dX3_before_11 : decode cX3_before 11 = .ok (.iconst (-1), 1) := by decide +kernel
theorem dX3_before_12 : decode cX3_before 12 = .ok (.ireturn, 1) := by decide +kernel
theorem dX3_before_13 : decode cX3_before 13 = .ok (.aload_n 1, 1) := by decide +kernel
theorem dX3_before_14 : decode cX3_before 14 = .ok (.getfield 64, 3) := by decide +kernel
theorem dX3_before_17 : decode cX3_before 17 = .ok (.iload_n 3, 1) := by decide +kernel
theorem dX3_before_18 : decode cX3_before 18 = .ok (.iaload, 1) := by decide +kernel
theorem dX3_before_19 : decode cX3_before 19 = .ok (.iload_n 2, 1) := by decide +kernel
theorem dX3_before_20 : decode cX3_before 20 = .ok (.if_icmp .ne 12, 3) := by decide +kernel
theorem dX3_before_23 : decode cX3_before 23 = .ok (.aload_n 1, 1) := by decide +kernel
theorem dX3_before_24 : decode cX3_before 24 = .ok (.getfield 54, 3) := by decide +kernel
theorem dX3_before_27 : decode cX3_before 27 = .ok (.iload_n 3, 1) := by decide +kernel
theorem dX3_before_28 : decode cX3_before 28 = .ok (.iaload, 1) := by decide +kernel
theorem dX3_before_29 : decode cX3_before 29 = .ok (.goto 9, 3) := by decide +kernel
theorem dX3_before_32 : decode cX3_before 32 = .ok (.aload_n 1, 1) := by decide +kernel
theorem dX3_before_33 : decode cX3_before 33 = .ok (.getfield 64, 3) := by decide +kernel
theorem dX3_before_36 : decode cX3_before 36 = .ok (.iload_n 3, 1) := by decide +kernel
theorem dX3_before_37 : decode cX3_before 37 = .ok (.iaload, 1) := by decide +kernel
theorem dX3_before_38 : decode cX3_before 38 = .ok (.ireturn, 1) := by decide +kernel
theorem dX3_costThatStays_0 : decode cX3_costThatStays 0 = .ok (.iconst 0, 1) := by decide +kernel
theorem dX3_costThatStays_1 : decode cX3_costThatStays 1 = .ok (.istore_n 2, 1) := by decide +kernel
theorem dX3_costThatStays_2 : decode cX3_costThatStays 2 = .ok (.iconst 0, 1) := by decide +kernel
theorem dX3_costThatStays_3 : decode cX3_costThatStays 3 = .ok (.istore_n 3, 1) := by decide +kernel
theorem dX3_costThatStays_4 : decode cX3_costThatStays 4 = .ok (.iload_n 3, 1) := by decide +kernel
theorem dX3_costThatStays_5 : decode cX3_costThatStays 5 = .ok (.aload_n 1, 1) := by decide +kernel
theorem dX3_costThatStays_6 : decode cX3_costThatStays 6 = .ok (.getfield 44, 3) := by decide +kernel
theorem dX3_costThatStays_9 : decode cX3_costThatStays 9 = .ok (.if_icmp .ge 42, 3) := by decide +kernel
theorem dX3_costThatStays_12 : decode cX3_costThatStays 12 = .ok (.iload_n 2, 1) := by decide +kernel
theorem dX3_costThatStays_13 : decode cX3_costThatStays 13 = .ok (.aload_n 1, 1) := by decide +kernel
theorem dX3_costThatStays_14 : decode cX3_costThatStays 14 = .ok (.getfield 105, 3) := by decide +kernel
theorem dX3_costThatStays_17 : decode cX3_costThatStays 17 = .ok (.iload_n 3, 1) := by decide +kernel
theorem dX3_costThatStays_18 : decode cX3_costThatStays 18 = .ok (.baload, 1) := by decide +kernel
theorem dX3_costThatStays_19 : decode cX3_costThatStays 19 = .ok (.ifCond .eq 11, 3) := by decide +kernel
theorem dX3_costThatStays_22 : decode cX3_costThatStays 22 = .ok (.aload_n 1, 1) := by decide +kernel
theorem dX3_costThatStays_23 : decode cX3_costThatStays 23 = .ok (.iload_n 3, 1) := by decide +kernel
theorem dX3_costThatStays_24 : decode cX3_costThatStays 24 = .ok (.invokevirtual 109, 3) := by decide +kernel
theorem dX3_costThatStays_27 : decode cX3_costThatStays 27 = .ok (.goto 16, 3) := by decide +kernel
theorem dX3_costThatStays_30 : decode cX3_costThatStays 30 = .ok (.aload_n 0, 1) := by decide +kernel
theorem dX3_costThatStays_31 : decode cX3_costThatStays 31 = .ok (.getfield 9, 3) := by decide +kernel
theorem dX3_costThatStays_34 : decode cX3_costThatStays 34 = .ok (.iload_n 3, 1) := by decide +kernel
theorem dX3_costThatStays_35 : decode cX3_costThatStays 35 = .ok (.iaload, 1) := by decide +kernel
theorem dX3_costThatStays_36 : decode cX3_costThatStays 36 = .ok (.aload_n 1, 1) := by decide +kernel
theorem dX3_costThatStays_37 : decode cX3_costThatStays 37 = .ok (.getfield 75, 3) := by decide +kernel
theorem dX3_costThatStays_40 : decode cX3_costThatStays 40 = .ok (.iload_n 3, 1) := by decide +kernel
theorem dX3_costThatStays_41 : decode cX3_costThatStays 41 = .ok (.iaload, 1) := by decide +kernel
theorem dX3_costThatStays_42 : decode cX3_costThatStays 42 = .ok (.imul, 1) := by decide +kernel
theorem dX3_costThatStays_43 : decode cX3_costThatStays 43 = .ok (.iadd, 1) := by decide +kernel
theorem dX3_costThatStays_44 : decode cX3_costThatStays 44 = .ok (.istore_n 2, 1) := by decide +kernel
theorem dX3_costThatStays_45 : decode cX3_costThatStays 45 = .ok (.iinc 3 1, 3) := by decide +kernel
theorem dX3_costThatStays_48 : decode cX3_costThatStays 48 = .ok (.goto (-44), 3) := by decide +kernel
theorem dX3_costThatStays_51 : decode cX3_costThatStays 51 = .ok (.iload_n 2, 1) := by decide +kernel
theorem dX3_costThatStays_52 : decode cX3_costThatStays 52 = .ok (.ireturn, 1) := by decide +kernel
theorem dX4_init_0 : decode cX4_init 0 = .ok (.aload_n 0, 1) := by decide +kernel
theorem dX4_init_1 : decode cX4_init 1 = .ok (.invokespecial 5, 3) := by decide +kernel
theorem dX4_init_4 : decode cX4_init 4 = .ok (.aload_n 0, 1) := by decide +kernel
theorem dX4_init_5 : decode cX4_init 5 = .ok (.new 11, 3) := by decide +kernel
theorem dX4_init_8 : decode cX4_init 8 = .ok (.dup, 1) := by decide +kernel
theorem dX4_init_9 : decode cX4_init 9 = .ok (.invokespecial 13, 3) := by decide +kernel
theorem dX4_init_12 : decode cX4_init 12 = .ok (.putfield 14, 3) := by decide +kernel
theorem dX4_init_15 : decode cX4_init 15 = .ok (.aload_n 0, 1) := by decide +kernel
theorem dX4_init_16 : decode cX4_init 16 = .ok (.sipush 2365, 3) := by decide +kernel
theorem dX4_init_19 : decode cX4_init 19 = .ok (.newarray .int, 2) := by decide +kernel
theorem dX4_init_21 : decode cX4_init 21 = .ok (.putfield 18, 3) := by decide +kernel
theorem dX4_init_24 : decode cX4_init 24 = .ok (.aload_n 0, 1) := by decide +kernel
theorem dX4_init_25 : decode cX4_init 25 = .ok (.bipush 49, 2) := by decide +kernel
theorem dX4_init_27 : decode cX4_init 27 = .ok (.newarray .int, 2) := by decide +kernel
theorem dX4_init_29 : decode cX4_init 29 = .ok (.putfield 22, 3) := by decide +kernel
theorem dX4_init_32 : decode cX4_init 32 = .ok (.return_, 1) := by decide +kernel
theorem dX4_find_0 : decode cX4_find 0 = .ok (.aload_n 0, 1) := by decide +kernel
theorem dX4_find_1 : decode cX4_find 1 = .ok (.getfield 14, 3) := by decide +kernel
theorem dX4_find_4 : decode cX4_find 4 = .ok (.aload_n 1, 1) := by decide +kernel
theorem dX4_find_5 : decode cX4_find 5 = .ok (.invokevirtual 25, 3) := by decide +kernel
theorem dX4_find_8 : decode cX4_find 8 = .ok (.aload_n 0, 1) := by decide +kernel
theorem dX4_find_9 : decode cX4_find 9 = .ok (.iconst 0, 1) := by decide +kernel
theorem dX4_find_10 : decode cX4_find 10 = .ok (.putfield 29, 3) := by decide +kernel
theorem dX4_find_13 : decode cX4_find 13 = .ok (.iconst 0, 1) := by decide +kernel
theorem dX4_find_14 : decode cX4_find 14 = .ok (.istore_n 2, 1) := by decide +kernel
theorem dX4_find_15 : decode cX4_find 15 = .ok (.iload_n 2, 1) := by decide +kernel
theorem dX4_find_16 : decode cX4_find 16 = .ok (.bipush 7, 2) := by decide +kernel
theorem dX4_find_18 : decode cX4_find 18 = .ok (.if_icmp .ge 25, 3) := by decide +kernel
theorem dX4_find_21 : decode cX4_find 21 = .ok (.aload_n 0, 1) := by decide +kernel
theorem dX4_find_22 : decode cX4_find 22 = .ok (.ldc 33, 2) := by decide +kernel
theorem dX4_find_24 : decode cX4_find 24 = .ok (.iconst 0, 1) := by decide +kernel
theorem dX4_find_25 : decode cX4_find 25 = .ok (.iload_n 2, 1) := by decide +kernel
theorem dX4_find_26 : decode cX4_find 26 = .ok (.invokestatic 34, 3) := by decide +kernel
theorem dX4_find_29 : decode cX4_find 29 = .ok (.iconst 1, 1) := by decide +kernel
theorem dX4_find_30 : decode cX4_find 30 = .ok (.iload_n 2, 1) := by decide +kernel
theorem dX4_find_31 : decode cX4_find 31 = .ok (.ishl, 1) := by decide +kernel
theorem dX4_find_32 : decode cX4_find 32 = .ok (.iload_n 2, 1) := by decide +kernel
theorem dX4_find_33 : decode cX4_find 33 = .ok (.iconst 1, 1) := by decide +kernel
theorem dX4_find_34 : decode cX4_find 34 = .ok (.invokestatic 38, 3) := by decide +kernel
theorem dX4_find_37 : decode cX4_find 37 = .ok (.iinc 2 1, 3) := by decide +kernel
theorem dX4_find_40 : decode cX4_find 40 = .ok (.goto (-25), 3) := by decide +kernel
theorem dX4_find_43 : decode cX4_find 43 = .ok (.return_, 1) := by decide +kernel
theorem dX4_extend_0 : decode cX4_extend 0 = .ok (.iload_n 1, 1) := by decide +kernel
theorem dX4_extend_1 : decode cX4_extend 1 = .ok (.iconst 0, 1) := by decide +kernel
theorem dX4_extend_2 : decode cX4_extend 2 = .ok (.invokestatic 42, 3) := by decide +kernel
theorem dX4_extend_5 : decode cX4_extend 5 = .ok (.istore 5, 2) := by decide +kernel
theorem dX4_extend_7 : decode cX4_extend 7 = .ok (.aload_n 0, 1) := by decide +kernel
theorem dX4_extend_8 : decode cX4_extend 8 = .ok (.getfield 14, 3) := by decide +kernel
theorem dX4_extend_11 : decode cX4_extend 11 = .ok (.iload_n 3, 1) := by decide +kernel
theorem dX4_extend_12 : decode cX4_extend 12 = .ok (.bipush 7, 2) := by decide +kernel
theorem dX4_extend_14 : decode cX4_extend 14 = .ok (.imul, 1) := by decide +kernel
theorem dX4_extend_15 : decode cX4_extend 15 = .ok (.iload 5, 2) := by decide +kernel
theorem dX4_extend_17 : decode cX4_extend 17 = .ok (.iadd, 1) := by decide +kernel
theorem dX4_extend_18 : decode cX4_extend 18 = .ok (.invokevirtual 46, 3) := by decide +kernel
theorem dX4_extend_21 : decode cX4_extend 21 = .ok (.ifCond .le 8, 3) := by decide +kernel
theorem dX4_extend_24 : decode cX4_extend 24 = .ok (.aload_n 0, 1) := by decide +kernel
theorem dX4_extend_25 : decode cX4_extend 25 = .ok (.iload_n 1, 1) := by decide +kernel
theorem dX4_extend_26 : decode cX4_extend 26 = .ok (.invokevirtual 50, 3) := by decide +kernel
theorem dX4_extend_29 : decode cX4_extend 29 = .ok (.iload 4, 2) := by decide +kernel
theorem dX4_extend_31 : decode cX4_extend 31 = .ok (.bipush 7, 2) := by decide +kernel
theorem dX4_extend_33 : decode cX4_extend 33 = .ok (.if_icmp .lt 4, 3) := by decide +kernel
theorem dX4_extend_36 : decode cX4_extend 36 = .ok (.return_, 1) := by decide +kernel
theorem dX4_extend_37 : decode cX4_extend 37 = .ok (.iload 5, 2) := by decide +kernel
theorem dX4_extend_39 : decode cX4_extend 39 = .ok (.iconst 1, 1) := by decide +kernel
theorem dX4_extend_40 : decode cX4_extend 40 = .ok (.iadd, 1) := by decide +kernel
theorem dX4_extend_41 : decode cX4_extend 41 = .ok (.istore 6, 2) := by decide +kernel
theorem dX4_extend_43 : decode cX4_extend 43 = .ok (.iload 6, 2) := by decide +kernel
theorem dX4_extend_45 : decode cX4_extend 45 = .ok (.bipush 7, 2) := by decide +kernel
theorem dX4_extend_47 : decode cX4_extend 47 = .ok (.if_icmp .ge 59, 3) := by decide +kernel
theorem dX4_extend_50 : decode cX4_extend 50 = .ok (.iload_n 2, 1) := by decide +kernel
theorem dX4_extend_51 : decode cX4_extend 51 = .ok (.iload 6, 2) := by decide +kernel
theorem dX4_extend_53 : decode cX4_extend 53 = .ok (.ishr, 1) := by decide +kernel
theorem dX4_extend_54 : decode cX4_extend 54 = .ok (.iconst 1, 1) := by decide +kernel
theorem dX4_extend_55 : decode cX4_extend 55 = .ok (.iand, 1) := by decide +kernel
theorem dX4_extend_56 : decode cX4_extend 56 = .ok (.ifCond .ne 44, 3) := by decide +kernel
theorem dX4_extend_59 : decode cX4_extend 59 = .ok (.aload_n 0, 1) := by decide +kernel
theorem dX4_extend_60 : decode cX4_extend 60 = .ok (.getfield 14, 3) := by decide +kernel
theorem dX4_extend_63 : decode cX4_extend 63 = .ok (.iload_n 3, 1) := by decide +kernel
theorem dX4_extend_64 : decode cX4_extend 64 = .ok (.bipush 7, 2) := by decide +kernel
theorem dX4_extend_66 : decode cX4_extend 66 = .ok (.imul, 1) := by decide +kernel
theorem dX4_extend_67 : decode cX4_extend 67 = .ok (.iload 6, 2) := by decide +kernel
theorem dX4_extend_69 : decode cX4_extend 69 = .ok (.iadd, 1) := by decide +kernel
theorem dX4_extend_70 : decode cX4_extend 70 = .ok (.invokevirtual 46, 3) := by decide +kernel
theorem dX4_extend_73 : decode cX4_extend 73 = .ok (.ifCond .le 27, 3) := by decide +kernel
theorem dX4_extend_76 : decode cX4_extend 76 = .ok (.aload_n 0, 1) := by decide +kernel
theorem dX4_extend_77 : decode cX4_extend 77 = .ok (.iload_n 1, 1) := by decide +kernel
theorem dX4_extend_78 : decode cX4_extend 78 = .ok (.iload 4, 2) := by decide +kernel
theorem dX4_extend_80 : decode cX4_extend 80 = .ok (.iload 6, 2) := by decide +kernel
theorem dX4_extend_82 : decode cX4_extend 82 = .ok (.invokestatic 34, 3) := by decide +kernel
theorem dX4_extend_85 : decode cX4_extend 85 = .ok (.iload_n 2, 1) := by decide +kernel
theorem dX4_extend_86 : decode cX4_extend 86 = .ok (.iconst 1, 1) := by decide +kernel
theorem dX4_extend_87 : decode cX4_extend 87 = .ok (.iload 6, 2) := by decide +kernel
theorem dX4_extend_89 : decode cX4_extend 89 = .ok (.ishl, 1) := by decide +kernel
theorem dX4_extend_90 : decode cX4_extend 90 = .ok (.ior, 1) := by decide +kernel
theorem dX4_extend_91 : decode cX4_extend 91 = .ok (.iload 6, 2) := by decide +kernel
theorem dX4_extend_93 : decode cX4_extend 93 = .ok (.iload 4, 2) := by decide +kernel
theorem dX4_extend_95 : decode cX4_extend 95 = .ok (.iconst 1, 1) := by decide +kernel
theorem dX4_extend_96 : decode cX4_extend 96 = .ok (.iadd, 1) := by decide +kernel
theorem dX4_extend_97 : decode cX4_extend 97 = .ok (.invokestatic 38, 3) := by decide +kernel
theorem dX4_extend_100 : decode cX4_extend 100 = .ok (.iinc 6 1, 3) := by decide +kernel
theorem dX4_extend_103 : decode cX4_extend 103 = .ok (.goto (-60), 3) := by decide +kernel
theorem dX4_extend_106 : decode cX4_extend 106 = .ok (.return_, 1) := by decide +kernel
theorem dX4_addRow_0 : decode cX4_addRow 0 = .ok (.aload_n 0, 1) := by decide +kernel
theorem dX4_addRow_1 : decode cX4_addRow 1 = .ok (.getfield 29, 3) := by decide +kernel
theorem dX4_addRow_4 : decode cX4_addRow 4 = .ok (.ifCond .lt 33, 3) := by decide +kernel
theorem dX4_addRow_7 : decode cX4_addRow 7 = .ok (.aload_n 0, 1) := by decide +kernel
theorem dX4_addRow_8 : decode cX4_addRow 8 = .ok (.getfield 29, 3) := by decide +kernel
theorem dX4_addRow_11 : decode cX4_addRow 11 = .ok (.sipush 2365, 3) := by decide +kernel
theorem dX4_addRow_14 : decode cX4_addRow 14 = .ok (.if_icmp .ge 23, 3) := by decide +kernel
theorem dX4_addRow_17 : decode cX4_addRow 17 = .ok (.aload_n 0, 1) := by decide +kernel
theorem dX4_addRow_18 : decode cX4_addRow 18 = .ok (.getfield 18, 3) := by decide +kernel
theorem dX4_addRow_21 : decode cX4_addRow 21 = .ok (.aload_n 0, 1) := by decide +kernel
theorem dX4_addRow_22 : decode cX4_addRow 22 = .ok (.getfield 29, 3) := by decide +kernel
theorem dX4_addRow_25 : decode cX4_addRow 25 = .ok (.iload_n 1, 1) := by decide +kernel
theorem dX4_addRow_26 : decode cX4_addRow 26 = .ok (.iastore, 1) := by decide +kernel
theorem dX4_addRow_27 : decode cX4_addRow 27 = .ok (.aload_n 0, 1) := by decide +kernel
theorem dX4_addRow_28 : decode cX4_addRow 28 = .ok (.dup, 1) := by decide +kernel
theorem dX4_addRow_29 : decode cX4_addRow 29 = .ok (.getfield 29, 3) := by decide +kernel
theorem dX4_addRow_32 : decode cX4_addRow 32 = .ok (.iconst 1, 1) := by decide +kernel
theorem dX4_addRow_33 : decode cX4_addRow 33 = .ok (.iadd, 1) := by decide +kernel
theorem dX4_addRow_34 : decode cX4_addRow 34 = .ok (.putfield 29, 3) := by decide +kernel
theorem dX4_addRow_37 : decode cX4_addRow 37 = .ok (.return_, 1) := by decide +kernel
theorem dX4_rowWith_0 : decode cX4_rowWith 0 = .ok (.iconst 3, 1) := by decide +kernel
theorem dX4_rowWith_1 : decode cX4_rowWith 1 = .ok (.iload_n 1, 1) := by decide +kernel
theorem dX4_rowWith_2 : decode cX4_rowWith 2 = .ok (.imul, 1) := by decide +kernel
theorem dX4_rowWith_3 : decode cX4_rowWith 3 = .ok (.istore_n 3, 1) := by decide +kernel
theorem dX4_rowWith_4 : decode cX4_rowWith 4 = .ok (.iload_n 0, 1) := by decide +kernel
theorem dX4_rowWith_5 : decode cX4_rowWith 5 = .ok (.bipush 7, 2) := by decide +kernel
theorem dX4_rowWith_7 : decode cX4_rowWith 7 = .ok (.iload_n 3, 1) := by decide +kernel
theorem dX4_rowWith_8 : decode cX4_rowWith 8 = .ok (.ishl, 1) := by decide +kernel
theorem dX4_rowWith_9 : decode cX4_rowWith 9 = .ok (.iconst (-1), 1) := by decide +kernel
theorem dX4_rowWith_10 : decode cX4_rowWith 10 = .ok (.ixor, 1) := by decide +kernel
theorem dX4_rowWith_11 : decode cX4_rowWith 11 = .ok (.iand, 1) := by decide +kernel
theorem dX4_rowWith_12 : decode cX4_rowWith 12 = .ok (.iload_n 2, 1) := by decide +kernel
theorem dX4_rowWith_13 : decode cX4_rowWith 13 = .ok (.iload_n 3, 1) := by decide +kernel
theorem dX4_rowWith_14 : decode cX4_rowWith 14 = .ok (.ishl, 1) := by decide +kernel
theorem dX4_rowWith_15 : decode cX4_rowWith 15 = .ok (.ior, 1) := by decide +kernel
theorem dX4_rowWith_16 : decode cX4_rowWith 16 = .ok (.ireturn, 1) := by decide +kernel
theorem dX4_partyIn_0 : decode cX4_partyIn 0 = .ok (.iload_n 1, 1) := by decide +kernel
theorem dX4_partyIn_1 : decode cX4_partyIn 1 = .ok (.bipush 7, 2) := by decide +kernel
theorem dX4_partyIn_3 : decode cX4_partyIn 3 = .ok (.if_icmp .ge 14, 3) := by decide +kernel
theorem dX4_partyIn_6 : decode cX4_partyIn 6 = .ok (.iload_n 0, 1) := by decide +kernel
theorem dX4_partyIn_7 : decode cX4_partyIn 7 = .ok (.iconst 3, 1) := by decide +kernel
theorem dX4_partyIn_8 : decode cX4_partyIn 8 = .ok (.iload_n 1, 1) := by decide +kernel
theorem dX4_partyIn_9 : decode cX4_partyIn 9 = .ok (.imul, 1) := by decide +kernel
theorem dX4_partyIn_10 : decode cX4_partyIn 10 = .ok (.ishr, 1) := by decide +kernel
theorem dX4_partyIn_11 : decode cX4_partyIn 11 = .ok (.bipush 7, 2) := by decide +kernel
theorem dX4_partyIn_13 : decode cX4_partyIn 13 = .ok (.iand, 1) := by decide +kernel
theorem dX4_partyIn_14 : decode cX4_partyIn 14 = .ok (.goto 5, 3) := by decide +kernel
theorem dX4_partyIn_17 : decode cX4_partyIn 17 = .ok (.bipush 7, 2) := by decide +kernel
theorem dX4_partyIn_19 : decode cX4_partyIn 19 = .ok (.istore_n 2, 1) := by decide +kernel
theorem dX4_partyIn_20 : decode cX4_partyIn 20 = .ok (.iload_n 2, 1) := by decide +kernel
theorem dX4_partyIn_21 : decode cX4_partyIn 21 = .ok (.bipush 7, 2) := by decide +kernel
theorem dX4_partyIn_23 : decode cX4_partyIn 23 = .ok (.if_icmp .ne 7, 3) := by decide +kernel
theorem dX4_partyIn_26 : decode cX4_partyIn 26 = .ok (.iconst (-1), 1) := by decide +kernel
theorem dX4_partyIn_27 : decode cX4_partyIn 27 = .ok (.goto 4, 3) := by decide +kernel
theorem dX4_partyIn_30 : decode cX4_partyIn 30 = .ok (.iload_n 2, 1) := by decide +kernel
theorem dX4_partyIn_31 : decode cX4_partyIn 31 = .ok (.ireturn, 1) := by decide +kernel
theorem dX4_pairIn_0 : decode cX4_pairIn 0 = .ok (.iload_n 0, 1) := by decide +kernel
theorem dX4_pairIn_1 : decode cX4_pairIn 1 = .ok (.iload_n 1, 1) := by decide +kernel
theorem dX4_pairIn_2 : decode cX4_pairIn 2 = .ok (.invokestatic 42, 3) := by decide +kernel
theorem dX4_pairIn_5 : decode cX4_pairIn 5 = .ok (.istore_n 2, 1) := by decide +kernel
theorem dX4_pairIn_6 : decode cX4_pairIn 6 = .ok (.iload_n 2, 1) := by decide +kernel
theorem dX4_pairIn_7 : decode cX4_pairIn 7 = .ok (.iconst (-1), 1) := by decide +kernel
theorem dX4_pairIn_8 : decode cX4_pairIn 8 = .ok (.if_icmp .ne 5, 3) := by decide +kernel
theorem dX4_pairIn_11 : decode cX4_pairIn 11 = .ok (.iconst (-1), 1) := by decide +kernel
theorem dX4_pairIn_12 : decode cX4_pairIn 12 = .ok (.ireturn, 1) := by decide +kernel
theorem dX4_pairIn_13 : decode cX4_pairIn 13 = .ok (.iload_n 0, 1) := by decide +kernel
theorem dX4_pairIn_14 : decode cX4_pairIn 14 = .ok (.iload_n 1, 1) := by decide +kernel
theorem dX4_pairIn_15 : decode cX4_pairIn 15 = .ok (.iconst 1, 1) := by decide +kernel
theorem dX4_pairIn_16 : decode cX4_pairIn 16 = .ok (.iadd, 1) := by decide +kernel
theorem dX4_pairIn_17 : decode cX4_pairIn 17 = .ok (.invokestatic 42, 3) := by decide +kernel
theorem dX4_pairIn_20 : decode cX4_pairIn 20 = .ok (.istore_n 3, 1) := by decide +kernel
theorem dX4_pairIn_21 : decode cX4_pairIn 21 = .ok (.iload_n 2, 1) := by decide +kernel
theorem dX4_pairIn_22 : decode cX4_pairIn 22 = .ok (.bipush 7, 2) := by decide +kernel
theorem dX4_pairIn_24 : decode cX4_pairIn 24 = .ok (.imul, 1) := by decide +kernel
theorem dX4_pairIn_25 : decode cX4_pairIn 25 = .ok (.iload_n 3, 1) := by decide +kernel
theorem dX4_pairIn_26 : decode cX4_pairIn 26 = .ok (.iconst (-1), 1) := by decide +kernel
theorem dX4_pairIn_27 : decode cX4_pairIn 27 = .ok (.if_icmp .ne 11, 3) := by decide +kernel
theorem dX4_pairIn_30 : decode cX4_pairIn 30 = .ok (.iload_n 0, 1) := by decide +kernel
theorem dX4_pairIn_31 : decode cX4_pairIn 31 = .ok (.iconst 0, 1) := by decide +kernel
theorem dX4_pairIn_32 : decode cX4_pairIn 32 = .ok (.invokestatic 42, 3) := by decide +kernel
theorem dX4_pairIn_35 : decode cX4_pairIn 35 = .ok (.goto 4, 3) := by decide +kernel
theorem dX4_pairIn_38 : decode cX4_pairIn 38 = .ok (.iload_n 3, 1) := by decide +kernel
theorem dX4_pairIn_39 : decode cX4_pairIn 39 = .ok (.iadd, 1) := by decide +kernel
theorem dX4_pairIn_40 : decode cX4_pairIn 40 = .ok (.ireturn, 1) := by decide +kernel
theorem dX4_rowAt_0 : decode cX4_rowAt 0 = .ok (.iload_n 1, 1) := by decide +kernel
theorem dX4_rowAt_1 : decode cX4_rowAt 1 = .ok (.ifCond .lt 27, 3) := by decide +kernel
theorem dX4_rowAt_4 : decode cX4_rowAt 4 = .ok (.iload_n 1, 1) := by decide +kernel
theorem dX4_rowAt_5 : decode cX4_rowAt 5 = .ok (.aload_n 0, 1) := by decide +kernel
theorem dX4_rowAt_6 : decode cX4_rowAt 6 = .ok (.getfield 29, 3) := by decide +kernel
theorem dX4_rowAt_9 : decode cX4_rowAt 9 = .ok (.if_icmp .ge 19, 3) := by decide +kernel
theorem dX4_rowAt_12 : decode cX4_rowAt 12 = .ok (.iload_n 1, 1) := by decide +kernel
theorem dX4_rowAt_13 : decode cX4_rowAt 13 = .ok (.sipush 2365, 3) := by decide +kernel
theorem dX4_rowAt_16 : decode cX4_rowAt 16 = .ok (.if_icmp .ge 12, 3) := by decide +kernel
theorem dX4_rowAt_19 : decode cX4_rowAt 19 = .ok (.aload_n 0, 1) := by decide +kernel
theorem dX4_rowAt_20 : decode cX4_rowAt 20 = .ok (.getfield 18, 3) := by decide +kernel
theorem dX4_rowAt_23 : decode cX4_rowAt 23 = .ok (.iload_n 1, 1) := by decide +kernel
theorem dX4_rowAt_24 : decode cX4_rowAt 24 = .ok (.iaload, 1) := by decide +kernel
theorem dX4_rowAt_25 : decode cX4_rowAt 25 = .ok (.goto 5, 3) := by decide +kernel
theorem dX4_rowAt_28 : decode cX4_rowAt 28 = .ok (.ldc 33, 2) := by decide +kernel
theorem dX4_rowAt_30 : decode cX4_rowAt 30 = .ok (.ireturn, 1) := by decide +kernel
theorem dX4_partyAt_0 : decode cX4_partyAt 0 = .ok (.aload_n 0, 1) := by decide +kernel
theorem dX4_partyAt_1 : decode cX4_partyAt 1 = .ok (.iload_n 1, 1) := by decide +kernel
theorem dX4_partyAt_2 : decode cX4_partyAt 2 = .ok (.invokevirtual 54, 3) := by decide +kernel
theorem dX4_partyAt_5 : decode cX4_partyAt 5 = .ok (.iload_n 2, 1) := by decide +kernel
theorem dX4_partyAt_6 : decode cX4_partyAt 6 = .ok (.invokestatic 42, 3) := by decide +kernel
theorem dX4_partyAt_9 : decode cX4_partyAt 9 = .ok (.ireturn, 1) := by decide +kernel
theorem dX4_roomAt_0 : decode cX4_roomAt 0 = .ok (.aload_n 0, 1) := by decide +kernel
theorem dX4_roomAt_1 : decode cX4_roomAt 1 = .ok (.iload_n 1, 1) := by decide +kernel
theorem dX4_roomAt_2 : decode cX4_roomAt 2 = .ok (.invokevirtual 54, 3) := by decide +kernel
theorem dX4_roomAt_5 : decode cX4_roomAt 5 = .ok (.istore_n 2, 1) := by decide +kernel
theorem dX4_roomAt_6 : decode cX4_roomAt 6 = .ok (.aload_n 0, 1) := by decide +kernel
theorem dX4_roomAt_7 : decode cX4_roomAt 7 = .ok (.getfield 14, 3) := by decide +kernel
theorem dX4_roomAt_10 : decode cX4_roomAt 10 = .ok (.iload_n 2, 1) := by decide +kernel
theorem dX4_roomAt_11 : decode cX4_roomAt 11 = .ok (.iconst 0, 1) := by decide +kernel
theorem dX4_roomAt_12 : decode cX4_roomAt 12 = .ok (.invokestatic 57, 3) := by decide +kernel
theorem dX4_roomAt_15 : decode cX4_roomAt 15 = .ok (.invokevirtual 46, 3) := by decide +kernel
theorem dX4_roomAt_18 : decode cX4_roomAt 18 = .ok (.istore_n 3, 1) := by decide +kernel
theorem dX4_roomAt_19 : decode cX4_roomAt 19 = .ok (.iconst 1, 1) := by decide +kernel
theorem dX4_roomAt_20 : decode cX4_roomAt 20 = .ok (.istore 4, 2) := by decide +kernel
theorem dX4_roomAt_22 : decode cX4_roomAt 22 = .ok (.iload 4, 2) := by decide +kernel
theorem dX4_roomAt_24 : decode cX4_roomAt 24 = .ok (.bipush 7, 2) := by decide +kernel
theorem dX4_roomAt_26 : decode cX4_roomAt 26 = .ok (.if_icmp .ge 37, 3) := by decide +kernel
theorem dX4_roomAt_29 : decode cX4_roomAt 29 = .ok (.iload_n 2, 1) := by decide +kernel
theorem dX4_roomAt_30 : decode cX4_roomAt 30 = .ok (.iload 4, 2) := by decide +kernel
theorem dX4_roomAt_32 : decode cX4_roomAt 32 = .ok (.invokestatic 57, 3) := by decide +kernel
theorem dX4_roomAt_35 : decode cX4_roomAt 35 = .ok (.istore 5, 2) := by decide +kernel
theorem dX4_roomAt_37 : decode cX4_roomAt 37 = .ok (.iload 5, 2) := by decide +kernel
theorem dX4_roomAt_39 : decode cX4_roomAt 39 = .ok (.iconst (-1), 1) := by decide +kernel
theorem dX4_roomAt_40 : decode cX4_roomAt 40 = .ok (.if_icmp .eq 17, 3) := by decide +kernel
theorem dX4_roomAt_43 : decode cX4_roomAt 43 = .ok (.iload_n 3, 1) := by decide +kernel
theorem dX4_roomAt_44 : decode cX4_roomAt 44 = .ok (.aload_n 0, 1) := by decide +kernel
theorem dX4_roomAt_45 : decode cX4_roomAt 45 = .ok (.getfield 14, 3) := by decide +kernel
theorem dX4_roomAt_48 : decode cX4_roomAt 48 = .ok (.iload 5, 2) := by decide +kernel
theorem dX4_roomAt_50 : decode cX4_roomAt 50 = .ok (.invokevirtual 46, 3) := by decide +kernel
theorem dX4_roomAt_53 : decode cX4_roomAt 53 = .ok (.invokestatic 60, 3) := by decide +kernel
theorem dX4_roomAt_56 : decode cX4_roomAt 56 = .ok (.istore_n 3, 1) := by decide +kernel
theorem dX4_roomAt_57 : decode cX4_roomAt 57 = .ok (.iinc 4 1, 3) := by decide +kernel
theorem dX4_roomAt_60 : decode cX4_roomAt 60 = .ok (.goto (-38), 3) := by decide +kernel
theorem dX4_roomAt_63 : decode cX4_roomAt 63 = .ok (.iload_n 3, 1) := by decide +kernel
theorem dX4_roomAt_64 : decode cX4_roomAt 64 = .ok (.ireturn, 1) := by decide +kernel
theorem dX4_savingAt_0 : decode cX4_savingAt 0 = .ok (.aload_n 0, 1) := by decide +kernel
theorem dX4_savingAt_1 : decode cX4_savingAt 1 = .ok (.iload_n 2, 1) := by decide +kernel
theorem dX4_savingAt_2 : decode cX4_savingAt 2 = .ok (.invokevirtual 54, 3) := by decide +kernel
theorem dX4_savingAt_5 : decode cX4_savingAt 5 = .ok (.istore 4, 2) := by decide +kernel
theorem dX4_savingAt_7 : decode cX4_savingAt 7 = .ok (.iconst 0, 1) := by decide +kernel
theorem dX4_savingAt_8 : decode cX4_savingAt 8 = .ok (.istore 5, 2) := by decide +kernel
theorem dX4_savingAt_10 : decode cX4_savingAt 10 = .ok (.iconst 0, 1) := by decide +kernel
theorem dX4_savingAt_11 : decode cX4_savingAt 11 = .ok (.istore 6, 2) := by decide +kernel
theorem dX4_savingAt_13 : decode cX4_savingAt 13 = .ok (.iload 6, 2) := by decide +kernel
theorem dX4_savingAt_15 : decode cX4_savingAt 15 = .ok (.bipush 7, 2) := by decide +kernel
theorem dX4_savingAt_17 : decode cX4_savingAt 17 = .ok (.if_icmp .ge 30, 3) := by decide +kernel
theorem dX4_savingAt_20 : decode cX4_savingAt 20 = .ok (.iload 5, 2) := by decide +kernel
theorem dX4_savingAt_22 : decode cX4_savingAt 22 = .ok (.aload_n 0, 1) := by decide +kernel
theorem dX4_savingAt_23 : decode cX4_savingAt 23 = .ok (.getfield 14, 3) := by decide +kernel
theorem dX4_savingAt_26 : decode cX4_savingAt 26 = .ok (.aload_n 1, 1) := by decide +kernel
theorem dX4_savingAt_27 : decode cX4_savingAt 27 = .ok (.iload 4, 2) := by decide +kernel
theorem dX4_savingAt_29 : decode cX4_savingAt 29 = .ok (.iload 6, 2) := by decide +kernel
theorem dX4_savingAt_31 : decode cX4_savingAt 31 = .ok (.invokestatic 57, 3) := by decide +kernel
theorem dX4_savingAt_34 : decode cX4_savingAt 34 = .ok (.iload_n 3, 1) := by decide +kernel
theorem dX4_savingAt_35 : decode cX4_savingAt 35 = .ok (.invokevirtual 65, 3) := by decide +kernel
theorem dX4_savingAt_38 : decode cX4_savingAt 38 = .ok (.iadd, 1) := by decide +kernel
theorem dX4_savingAt_39 : decode cX4_savingAt 39 = .ok (.istore 5, 2) := by decide +kernel
theorem dX4_savingAt_41 : decode cX4_savingAt 41 = .ok (.iinc 6 1, 3) := by decide +kernel
theorem dX4_savingAt_44 : decode cX4_savingAt 44 = .ok (.goto (-31), 3) := by decide +kernel
theorem dX4_savingAt_47 : decode cX4_savingAt 47 = .ok (.iload 5, 2) := by decide +kernel
theorem dX4_savingAt_49 : decode cX4_savingAt 49 = .ok (.ireturn, 1) := by decide +kernel
theorem dX4_best_0 : decode cX4_best 0 = .ok (.iconst (-1), 1) := by decide +kernel
theorem dX4_best_1 : decode cX4_best 1 = .ok (.istore_n 2, 1) := by decide +kernel
theorem dX4_best_2 : decode cX4_best 2 = .ok (.iconst 0, 1) := by decide +kernel
theorem dX4_best_3 : decode cX4_best 3 = .ok (.istore_n 3, 1) := by decide +kernel
theorem dX4_best_4 : decode cX4_best 4 = .ok (.iconst 0, 1) := by decide +kernel
theorem dX4_best_5 : decode cX4_best 5 = .ok (.istore 4, 2) := by decide +kernel
theorem dX4_best_7 : decode cX4_best 7 = .ok (.iload 4, 2) := by decide +kernel
theorem dX4_best_9 : decode cX4_best 9 = .ok (.aload_n 0, 1) := by decide +kernel
theorem dX4_best_10 : decode cX4_best 10 = .ok (.getfield 29, 3) := by decide +kernel
theorem dX4_best_13 : decode cX4_best 13 = .ok (.if_icmp .ge 36, 3) := by decide +kernel
theorem dX4_best_16 : decode cX4_best 16 = .ok (.aload_n 0, 1) := by decide +kernel
theorem dX4_best_17 : decode cX4_best 17 = .ok (.aload_n 1, 1) := by decide +kernel
theorem dX4_best_18 : decode cX4_best 18 = .ok (.iload 4, 2) := by decide +kernel
theorem dX4_best_20 : decode cX4_best 20 = .ok (.aload_n 0, 1) := by decide +kernel
theorem dX4_best_21 : decode cX4_best 21 = .ok (.iload 4, 2) := by decide +kernel
theorem dX4_best_23 : decode cX4_best 23 = .ok (.invokevirtual 69, 3) := by decide +kernel
theorem dX4_best_26 : decode cX4_best 26 = .ok (.invokevirtual 72, 3) := by decide +kernel
theorem dX4_best_29 : decode cX4_best 29 = .ok (.istore 5, 2) := by decide +kernel
theorem dX4_best_31 : decode cX4_best 31 = .ok (.iload 5, 2) := by decide +kernel
theorem dX4_best_33 : decode cX4_best 33 = .ok (.iload_n 3, 1) := by decide +kernel
theorem dX4_best_34 : decode cX4_best 34 = .ok (.if_icmp .le 9, 3) := by decide +kernel
theorem dX4_best_37 : decode cX4_best 37 = .ok (.iload 4, 2) := by decide +kernel
theorem dX4_best_39 : decode cX4_best 39 = .ok (.istore_n 2, 1) := by decide +kernel
theorem dX4_best_40 : decode cX4_best 40 = .ok (.iload 5, 2) := by decide +kernel
theorem dX4_best_42 : decode cX4_best 42 = .ok (.istore_n 3, 1) := by decide +kernel
theorem dX4_best_43 : decode cX4_best 43 = .ok (.iinc 4 1, 3) := by decide +kernel
theorem dX4_best_46 : decode cX4_best 46 = .ok (.goto (-39), 3) := by decide +kernel
theorem dX4_best_49 : decode cX4_best 49 = .ok (.iload_n 2, 1) := by decide +kernel
theorem dX4_best_50 : decode cX4_best 50 = .ok (.ireturn, 1) := by decide +kernel
theorem dX4_releaseAround_0 : decode cX4_releaseAround 0 = .ok (.aload_n 0, 1) := by decide +kernel
theorem dX4_releaseAround_1 : decode cX4_releaseAround 1 = .ok (.aload_n 1, 1) := by decide +kernel
theorem dX4_releaseAround_2 : decode cX4_releaseAround 2 = .ok (.iload_n 2, 1) := by decide +kernel
theorem dX4_releaseAround_3 : decode cX4_releaseAround 3 = .ok (.iload_n 3, 1) := by decide +kernel
theorem dX4_releaseAround_4 : decode cX4_releaseAround 4 = .ok (.invokevirtual 72, 3) := by decide +kernel
theorem dX4_releaseAround_7 : decode cX4_releaseAround 7 = .ok (.istore 4, 2) := by decide +kernel
theorem dX4_releaseAround_9 : decode cX4_releaseAround 9 = .ok (.aload_n 0, 1) := by decide +kernel
theorem dX4_releaseAround_10 : decode cX4_releaseAround 10 = .ok (.iload_n 2, 1) := by decide +kernel
theorem dX4_releaseAround_11 : decode cX4_releaseAround 11 = .ok (.invokevirtual 54, 3) := by decide +kernel
theorem dX4_releaseAround_14 : decode cX4_releaseAround 14 = .ok (.istore 5, 2) := by decide +kernel
theorem dX4_releaseAround_16 : decode cX4_releaseAround 16 = .ok (.iconst 0, 1) := by decide +kernel
theorem dX4_releaseAround_17 : decode cX4_releaseAround 17 = .ok (.istore 6, 2) := by decide +kernel
theorem dX4_releaseAround_19 : decode cX4_releaseAround 19 = .ok (.iload 6, 2) := by decide +kernel
theorem dX4_releaseAround_21 : decode cX4_releaseAround 21 = .ok (.bipush 7, 2) := by decide +kernel
theorem dX4_releaseAround_23 : decode cX4_releaseAround 23 = .ok (.if_icmp .ge 25, 3) := by decide +kernel
theorem dX4_releaseAround_26 : decode cX4_releaseAround 26 = .ok (.aload_n 0, 1) := by decide +kernel
theorem dX4_releaseAround_27 : decode cX4_releaseAround 27 = .ok (.getfield 14, 3) := by decide +kernel
theorem dX4_releaseAround_30 : decode cX4_releaseAround 30 = .ok (.aload_n 1, 1) := by decide +kernel
theorem dX4_releaseAround_31 : decode cX4_releaseAround 31 = .ok (.iload 5, 2) := by decide +kernel
theorem dX4_releaseAround_33 : decode cX4_releaseAround 33 = .ok (.iload 6, 2) := by decide +kernel
theorem dX4_releaseAround_35 : decode cX4_releaseAround 35 = .ok (.invokestatic 57, 3) := by decide +kernel
theorem dX4_releaseAround_38 : decode cX4_releaseAround 38 = .ok (.iload_n 3, 1) := by decide +kernel
theorem dX4_releaseAround_39 : decode cX4_releaseAround 39 = .ok (.invokevirtual 75, 3) := by decide +kernel
theorem dX4_releaseAround_42 : decode cX4_releaseAround 42 = .ok (.iinc 6 1, 3) := by decide +kernel
theorem dX4_releaseAround_45 : decode cX4_releaseAround 45 = .ok (.goto (-26), 3) := by decide +kernel
theorem dX4_releaseAround_48 : decode cX4_releaseAround 48 = .ok (.aload_n 1, 1) := by decide +kernel
theorem dX4_releaseAround_49 : decode cX4_releaseAround 49 = .ok (.dup, 1) := by decide +kernel
theorem dX4_releaseAround_50 : decode cX4_releaseAround 50 = .ok (.getfield 79, 3) := by decide +kernel
theorem dX4_releaseAround_53 : decode cX4_releaseAround 53 = .ok (.iconst 1, 1) := by decide +kernel
theorem dX4_releaseAround_54 : decode cX4_releaseAround 54 = .ok (.iadd, 1) := by decide +kernel
theorem dX4_releaseAround_55 : decode cX4_releaseAround 55 = .ok (.putfield 79, 3) := by decide +kernel
theorem dX4_releaseAround_58 : decode cX4_releaseAround 58 = .ok (.iload 4, 2) := by decide +kernel
theorem dX4_releaseAround_60 : decode cX4_releaseAround 60 = .ok (.ireturn, 1) := by decide +kernel
theorem dX4_releaseBest_0 : decode cX4_releaseBest 0 = .ok (.aload_n 0, 1) := by decide +kernel
theorem dX4_releaseBest_1 : decode cX4_releaseBest 1 = .ok (.aload_n 1, 1) := by decide +kernel
theorem dX4_releaseBest_2 : decode cX4_releaseBest 2 = .ok (.invokevirtual 84, 3) := by decide +kernel
theorem dX4_releaseBest_5 : decode cX4_releaseBest 5 = .ok (.istore_n 2, 1) := by decide +kernel
theorem dX4_releaseBest_6 : decode cX4_releaseBest 6 = .ok (.iload_n 2, 1) := by decide +kernel
theorem dX4_releaseBest_7 : decode cX4_releaseBest 7 = .ok (.iconst (-1), 1) := by decide +kernel
theorem dX4_releaseBest_8 : decode cX4_releaseBest 8 = .ok (.if_icmp .ne 7, 3) := by decide +kernel
theorem dX4_releaseBest_11 : decode cX4_releaseBest 11 = .ok (.iconst 0, 1) := by decide +kernel
theorem dX4_releaseBest_12 : decode cX4_releaseBest 12 = .ok (.goto 14, 3) := by decide +kernel
theorem dX4_releaseBest_15 : decode cX4_releaseBest 15 = .ok (.aload_n 0, 1) := by decide +kernel
theorem dX4_releaseBest_16 : decode cX4_releaseBest 16 = .ok (.aload_n 1, 1) := by decide +kernel
theorem dX4_releaseBest_17 : decode cX4_releaseBest 17 = .ok (.iload_n 2, 1) := by decide +kernel
theorem dX4_releaseBest_18 : decode cX4_releaseBest 18 = .ok (.aload_n 0, 1) := by decide +kernel
theorem dX4_releaseBest_19 : decode cX4_releaseBest 19 = .ok (.iload_n 2, 1) := by decide +kernel
theorem dX4_releaseBest_20 : decode cX4_releaseBest 20 = .ok (.invokevirtual 69, 3) := by decide +kernel
theorem dX4_releaseBest_23 : decode cX4_releaseBest 23 = .ok (.invokevirtual 88, 3) := by decide +kernel
theorem dX4_releaseBest_26 : decode cX4_releaseBest 26 = .ok (.ireturn, 1) := by decide +kernel
theorem dX4_releaseAll_0 : decode cX4_releaseAll 0 = .ok (.iconst 0, 1) := by decide +kernel
theorem dX4_releaseAll_1 : decode cX4_releaseAll 1 = .ok (.istore_n 2, 1) := by decide +kernel
theorem dX4_releaseAll_2 : decode cX4_releaseAll 2 = .ok (.aload_n 0, 1) := by decide +kernel
theorem dX4_releaseAll_3 : decode cX4_releaseAll 3 = .ok (.aload_n 1, 1) := by decide +kernel
theorem dX4_releaseAll_4 : decode cX4_releaseAll 4 = .ok (.invokevirtual 91, 3) := by decide +kernel
theorem dX4_releaseAll_7 : decode cX4_releaseAll 7 = .ok (.aload_n 0, 1) := by decide +kernel
theorem dX4_releaseAll_8 : decode cX4_releaseAll 8 = .ok (.aload_n 1, 1) := by decide +kernel
theorem dX4_releaseAll_9 : decode cX4_releaseAll 9 = .ok (.invokevirtual 84, 3) := by decide +kernel
theorem dX4_releaseAll_12 : decode cX4_releaseAll 12 = .ok (.istore_n 3, 1) := by decide +kernel
theorem dX4_releaseAll_13 : decode cX4_releaseAll 13 = .ok (.iload_n 2, 1) := by decide +kernel
theorem dX4_releaseAll_14 : decode cX4_releaseAll 14 = .ok (.bipush 49, 2) := by decide +kernel
theorem dX4_releaseAll_16 : decode cX4_releaseAll 16 = .ok (.if_icmp .ge 37, 3) := by decide +kernel
theorem dX4_releaseAll_19 : decode cX4_releaseAll 19 = .ok (.iload_n 3, 1) := by decide +kernel
theorem dX4_releaseAll_20 : decode cX4_releaseAll 20 = .ok (.iconst (-1), 1) := by decide +kernel
theorem dX4_releaseAll_21 : decode cX4_releaseAll 21 = .ok (.if_icmp .eq 32, 3) := by decide +kernel
theorem dX4_releaseAll_24 : decode cX4_releaseAll 24 = .ok (.aload_n 0, 1) := by decide +kernel
theorem dX4_releaseAll_25 : decode cX4_releaseAll 25 = .ok (.aload_n 1, 1) := by decide +kernel
theorem dX4_releaseAll_26 : decode cX4_releaseAll 26 = .ok (.iload_n 3, 1) := by decide +kernel
theorem dX4_releaseAll_27 : decode cX4_releaseAll 27 = .ok (.aload_n 0, 1) := by decide +kernel
theorem dX4_releaseAll_28 : decode cX4_releaseAll 28 = .ok (.iload_n 3, 1) := by decide +kernel
theorem dX4_releaseAll_29 : decode cX4_releaseAll 29 = .ok (.invokevirtual 69, 3) := by decide +kernel
theorem dX4_releaseAll_32 : decode cX4_releaseAll 32 = .ok (.invokevirtual 88, 3) := by decide +kernel
theorem dX4_releaseAll_35 : decode cX4_releaseAll 35 = .ok (.pop, 1) := by decide +kernel
theorem dX4_releaseAll_36 : decode cX4_releaseAll 36 = .ok (.iinc 2 1, 3) := by decide +kernel
theorem dX4_releaseAll_39 : decode cX4_releaseAll 39 = .ok (.aload_n 0, 1) := by decide +kernel
theorem dX4_releaseAll_40 : decode cX4_releaseAll 40 = .ok (.aload_n 1, 1) := by decide +kernel
theorem dX4_releaseAll_41 : decode cX4_releaseAll 41 = .ok (.invokevirtual 91, 3) := by decide +kernel
theorem dX4_releaseAll_44 : decode cX4_releaseAll 44 = .ok (.aload_n 0, 1) := by decide +kernel
theorem dX4_releaseAll_45 : decode cX4_releaseAll 45 = .ok (.aload_n 1, 1) := by decide +kernel
theorem dX4_releaseAll_46 : decode cX4_releaseAll 46 = .ok (.invokevirtual 84, 3) := by decide +kernel
theorem dX4_releaseAll_49 : decode cX4_releaseAll 49 = .ok (.istore_n 3, 1) := by decide +kernel
theorem dX4_releaseAll_50 : decode cX4_releaseAll 50 = .ok (.goto (-37), 3) := by decide +kernel
theorem dX4_releaseAll_53 : decode cX4_releaseAll 53 = .ok (.iload_n 2, 1) := by decide +kernel
theorem dX4_releaseAll_54 : decode cX4_releaseAll 54 = .ok (.ireturn, 1) := by decide +kernel
theorem dX4_countThrough_0 : decode cX4_countThrough 0 = .ok (.iconst 0, 1) := by decide +kernel
theorem dX4_countThrough_1 : decode cX4_countThrough 1 = .ok (.istore_n 1, 1) := by decide +kernel
theorem dX4_countThrough_2 : decode cX4_countThrough 2 = .ok (.iload_n 1, 1) := by decide +kernel
theorem dX4_countThrough_3 : decode cX4_countThrough 3 = .ok (.bipush 49, 2) := by decide +kernel
theorem dX4_countThrough_5 : decode cX4_countThrough 5 = .ok (.if_icmp .ge 16, 3) := by decide +kernel
theorem dX4_countThrough_8 : decode cX4_countThrough 8 = .ok (.aload_n 0, 1) := by decide +kernel
theorem dX4_countThrough_9 : decode cX4_countThrough 9 = .ok (.getfield 22, 3) := by decide +kernel
theorem dX4_countThrough_12 : decode cX4_countThrough 12 = .ok (.iload_n 1, 1) := by decide +kernel
theorem dX4_countThrough_13 : decode cX4_countThrough 13 = .ok (.iconst 0, 1) := by decide +kernel
theorem dX4_countThrough_14 : decode cX4_countThrough 14 = .ok (.iastore, 1) := by decide +kernel
theorem dX4_countThrough_15 : decode cX4_countThrough 15 = .ok (.iinc 1 1, 3) := by decide +kernel
theorem dX4_countThrough_18 : decode cX4_countThrough 18 = .ok (.goto (-16), 3) := by decide +kernel
theorem dX4_countThrough_21 : decode cX4_countThrough 21 = .ok (.iconst 0, 1) := by decide +kernel
theorem dX4_countThrough_22 : decode cX4_countThrough 22 = .ok (.istore_n 1, 1) := by decide +kernel
theorem dX4_countThrough_23 : decode cX4_countThrough 23 = .ok (.iload_n 1, 1) := by decide +kernel
theorem dX4_countThrough_24 : decode cX4_countThrough 24 = .ok (.aload_n 0, 1) := by decide +kernel
theorem dX4_countThrough_25 : decode cX4_countThrough 25 = .ok (.getfield 29, 3) := by decide +kernel
theorem dX4_countThrough_28 : decode cX4_countThrough 28 = .ok (.if_icmp .ge 55, 3) := by decide +kernel
theorem dX4_countThrough_31 : decode cX4_countThrough 31 = .ok (.aload_n 0, 1) := by decide +kernel
theorem dX4_countThrough_32 : decode cX4_countThrough 32 = .ok (.iload_n 1, 1) := by decide +kernel
theorem dX4_countThrough_33 : decode cX4_countThrough 33 = .ok (.invokevirtual 54, 3) := by decide +kernel
theorem dX4_countThrough_36 : decode cX4_countThrough 36 = .ok (.istore_n 2, 1) := by decide +kernel
theorem dX4_countThrough_37 : decode cX4_countThrough 37 = .ok (.iconst 0, 1) := by decide +kernel
theorem dX4_countThrough_38 : decode cX4_countThrough 38 = .ok (.istore_n 3, 1) := by decide +kernel
theorem dX4_countThrough_39 : decode cX4_countThrough 39 = .ok (.iload_n 3, 1) := by decide +kernel
theorem dX4_countThrough_40 : decode cX4_countThrough 40 = .ok (.bipush 7, 2) := by decide +kernel
theorem dX4_countThrough_42 : decode cX4_countThrough 42 = .ok (.if_icmp .ge 35, 3) := by decide +kernel
theorem dX4_countThrough_45 : decode cX4_countThrough 45 = .ok (.iload_n 2, 1) := by decide +kernel
theorem dX4_countThrough_46 : decode cX4_countThrough 46 = .ok (.iload_n 3, 1) := by decide +kernel
theorem dX4_countThrough_47 : decode cX4_countThrough 47 = .ok (.invokestatic 57, 3) := by decide +kernel
theorem dX4_countThrough_50 : decode cX4_countThrough 50 = .ok (.istore 4, 2) := by decide +kernel
theorem dX4_countThrough_52 : decode cX4_countThrough 52 = .ok (.iload 4, 2) := by decide +kernel
theorem dX4_countThrough_54 : decode cX4_countThrough 54 = .ok (.invokestatic 94, 3) := by decide +kernel
theorem dX4_countThrough_57 : decode cX4_countThrough 57 = .ok (.ifCond .eq 14, 3) := by decide +kernel
theorem dX4_countThrough_60 : decode cX4_countThrough 60 = .ok (.aload_n 0, 1) := by decide +kernel
theorem dX4_countThrough_61 : decode cX4_countThrough 61 = .ok (.getfield 22, 3) := by decide +kernel
theorem dX4_countThrough_64 : decode cX4_countThrough 64 = .ok (.iload 4, 2) := by decide +kernel
theorem dX4_countThrough_66 : decode cX4_countThrough 66 = .ok (.dup2, 1) := by decide +kernel
theorem dX4_countThrough_67 : decode cX4_countThrough 67 = .ok (.iaload, 1) := by decide +kernel
theorem dX4_countThrough_68 : decode cX4_countThrough 68 = .ok (.iconst 1, 1) := by decide +kernel
theorem dX4_countThrough_69 : decode cX4_countThrough 69 = .ok (.iadd, 1) := by decide +kernel
theorem dX4_countThrough_70 : decode cX4_countThrough 70 = .ok (.iastore, 1) := by decide +kernel
theorem dX4_countThrough_71 : decode cX4_countThrough 71 = .ok (.iinc 3 1, 3) := by decide +kernel
theorem dX4_countThrough_74 : decode cX4_countThrough 74 = .ok (.goto (-35), 3) := by decide +kernel
theorem dX4_countThrough_77 : decode cX4_countThrough 77 = .ok (.iinc 1 1, 3) := by decide +kernel
theorem dX4_countThrough_80 : decode cX4_countThrough 80 = .ok (.goto (-57), 3) := by decide +kernel
theorem dX4_countThrough_83 : decode cX4_countThrough 83 = .ok (.return_, 1) := by decide +kernel
theorem dX4_sizeWithout_0 : decode cX4_sizeWithout 0 = .ok (.aload_n 1, 1) := by decide +kernel
theorem dX4_sizeWithout_1 : decode cX4_sizeWithout 1 = .ok (.iload_n 2, 1) := by decide +kernel
theorem dX4_sizeWithout_2 : decode cX4_sizeWithout 2 = .ok (.invokevirtual 98, 3) := by decide +kernel
theorem dX4_sizeWithout_5 : decode cX4_sizeWithout 5 = .ok (.ifCond .eq 11, 3) := by decide +kernel
theorem dX4_sizeWithout_8 : decode cX4_sizeWithout 8 = .ok (.aload_n 1, 1) := by decide +kernel
theorem dX4_sizeWithout_9 : decode cX4_sizeWithout 9 = .ok (.iload_n 2, 1) := by decide +kernel
theorem dX4_sizeWithout_10 : decode cX4_sizeWithout 10 = .ok (.invokevirtual 101, 3) := by decide +kernel
theorem dX4_sizeWithout_13 : decode cX4_sizeWithout 13 = .ok (.ifCond .ne 8, 3) := by decide +kernel
theorem dX4_sizeWithout_16 : decode cX4_sizeWithout 16 = .ok (.aload_n 0, 1) := by decide +kernel
theorem dX4_sizeWithout_17 : decode cX4_sizeWithout 17 = .ok (.getfield 29, 3) := by decide +kernel
theorem dX4_sizeWithout_20 : decode cX4_sizeWithout 20 = .ok (.ireturn, 1) := by decide +kernel
theorem dX4_sizeWithout_21 : decode cX4_sizeWithout 21 = .ok (.aload_n 1, 1) := by decide +kernel
theorem dX4_sizeWithout_22 : decode cX4_sizeWithout 22 = .ok (.iload_n 2, 1) := by decide +kernel
theorem dX4_sizeWithout_23 : decode cX4_sizeWithout 23 = .ok (.invokevirtual 104, 3) := by decide +kernel
theorem dX4_sizeWithout_26 : decode cX4_sizeWithout 26 = .ok (.istore_n 3, 1) := by decide +kernel
theorem dX4_sizeWithout_27 : decode cX4_sizeWithout 27 = .ok (.aload_n 0, 1) := by decide +kernel
theorem dX4_sizeWithout_28 : decode cX4_sizeWithout 28 = .ok (.getfield 14, 3) := by decide +kernel
theorem dX4_sizeWithout_31 : decode cX4_sizeWithout 31 = .ok (.iload_n 3, 1) := by decide +kernel
theorem dX4_sizeWithout_32 : decode cX4_sizeWithout 32 = .ok (.invokevirtual 46, 3) := by decide +kernel
theorem dX4_sizeWithout_35 : decode cX4_sizeWithout 35 = .ok (.aload_n 1, 1) := by decide +kernel
theorem dX4_sizeWithout_36 : decode cX4_sizeWithout 36 = .ok (.getfield 107, 3) := by decide +kernel
theorem dX4_sizeWithout_39 : decode cX4_sizeWithout 39 = .ok (.iload_n 2, 1) := by decide +kernel
theorem dX4_sizeWithout_40 : decode cX4_sizeWithout 40 = .ok (.iaload, 1) := by decide +kernel
theorem dX4_sizeWithout_41 : decode cX4_sizeWithout 41 = .ok (.if_icmp .ne 7, 3) := by decide +kernel
theorem dX4_sizeWithout_44 : decode cX4_sizeWithout 44 = .ok (.iconst 1, 1) := by decide +kernel
theorem dX4_sizeWithout_45 : decode cX4_sizeWithout 45 = .ok (.goto 4, 3) := by decide +kernel
theorem dX4_sizeWithout_48 : decode cX4_sizeWithout 48 = .ok (.iconst 0, 1) := by decide +kernel
theorem dX4_sizeWithout_49 : decode cX4_sizeWithout 49 = .ok (.istore 4, 2) := by decide +kernel
theorem dX4_sizeWithout_51 : decode cX4_sizeWithout 51 = .ok (.iload 4, 2) := by decide +kernel
theorem dX4_sizeWithout_53 : decode cX4_sizeWithout 53 = .ok (.ifCond .eq 24, 3) := by decide +kernel
theorem dX4_sizeWithout_56 : decode cX4_sizeWithout 56 = .ok (.iload_n 3, 1) := by decide +kernel
theorem dX4_sizeWithout_57 : decode cX4_sizeWithout 57 = .ok (.invokestatic 94, 3) := by decide +kernel
theorem dX4_sizeWithout_60 : decode cX4_sizeWithout 60 = .ok (.ifCond .eq 17, 3) := by decide +kernel
theorem dX4_sizeWithout_63 : decode cX4_sizeWithout 63 = .ok (.aload_n 0, 1) := by decide +kernel
theorem dX4_sizeWithout_64 : decode cX4_sizeWithout 64 = .ok (.getfield 29, 3) := by decide +kernel
theorem dX4_sizeWithout_67 : decode cX4_sizeWithout 67 = .ok (.aload_n 0, 1) := by decide +kernel
theorem dX4_sizeWithout_68 : decode cX4_sizeWithout 68 = .ok (.getfield 22, 3) := by decide +kernel
theorem dX4_sizeWithout_71 : decode cX4_sizeWithout 71 = .ok (.iload_n 3, 1) := by decide +kernel
theorem dX4_sizeWithout_72 : decode cX4_sizeWithout 72 = .ok (.iaload, 1) := by decide +kernel
theorem dX4_sizeWithout_73 : decode cX4_sizeWithout 73 = .ok (.isub, 1) := by decide +kernel
theorem dX4_sizeWithout_74 : decode cX4_sizeWithout 74 = .ok (.goto 7, 3) := by decide +kernel
theorem dX4_sizeWithout_77 : decode cX4_sizeWithout 77 = .ok (.aload_n 0, 1) := by decide +kernel
theorem dX4_sizeWithout_78 : decode cX4_sizeWithout 78 = .ok (.getfield 29, 3) := by decide +kernel
theorem dX4_sizeWithout_81 : decode cX4_sizeWithout 81 = .ok (.ireturn, 1) := by decide +kernel
theorem dX5_init_0 : decode cX5_init 0 = .ok (.aload_n 0, 1) := by decide +kernel
theorem dX5_init_1 : decode cX5_init 1 = .ok (.invokespecial 3, 3) := by decide +kernel
theorem dX5_init_4 : decode cX5_init 4 = .ok (.aload_n 0, 1) := by decide +kernel
theorem dX5_init_5 : decode cX5_init 5 = .ok (.new 9, 3) := by decide +kernel
theorem dX5_init_8 : decode cX5_init 8 = .ok (.dup, 1) := by decide +kernel
theorem dX5_init_9 : decode cX5_init 9 = .ok (.invokespecial 11, 3) := by decide +kernel
theorem dX5_init_12 : decode cX5_init 12 = .ok (.putfield 12, 3) := by decide +kernel
theorem dX5_init_15 : decode cX5_init 15 = .ok (.aload_n 0, 1) := by decide +kernel
theorem dX5_init_16 : decode cX5_init 16 = .ok (.new 9, 3) := by decide +kernel
theorem dX5_init_19 : decode cX5_init 19 = .ok (.dup, 1) := by decide +kernel
theorem dX5_init_20 : decode cX5_init 20 = .ok (.invokespecial 11, 3) := by decide +kernel
theorem dX5_init_23 : decode cX5_init 23 = .ok (.putfield 16, 3) := by decide +kernel
theorem dX5_init_26 : decode cX5_init 26 = .ok (.aload_n 0, 1) := by decide +kernel
theorem dX5_init_27 : decode cX5_init 27 = .ok (.new 19, 3) := by decide +kernel
theorem dX5_init_30 : decode cX5_init 30 = .ok (.dup, 1) := by decide +kernel
theorem dX5_init_31 : decode cX5_init 31 = .ok (.invokespecial 21, 3) := by decide +kernel
theorem dX5_init_34 : decode cX5_init 34 = .ok (.putfield 22, 3) := by decide +kernel
theorem dX5_init_37 : decode cX5_init 37 = .ok (.aload_n 0, 1) := by decide +kernel
theorem dX5_init_38 : decode cX5_init 38 = .ok (.new 26, 3) := by decide +kernel
theorem dX5_init_41 : decode cX5_init 41 = .ok (.dup, 1) := by decide +kernel
theorem dX5_init_42 : decode cX5_init 42 = .ok (.invokespecial 28, 3) := by decide +kernel
theorem dX5_init_45 : decode cX5_init 45 = .ok (.putfield 29, 3) := by decide +kernel
theorem dX5_init_48 : decode cX5_init 48 = .ok (.aload_n 0, 1) := by decide +kernel
theorem dX5_init_49 : decode cX5_init 49 = .ok (.new 33, 3) := by decide +kernel
theorem dX5_init_52 : decode cX5_init 52 = .ok (.dup, 1) := by decide +kernel
theorem dX5_init_53 : decode cX5_init 53 = .ok (.invokespecial 35, 3) := by decide +kernel
theorem dX5_init_56 : decode cX5_init 56 = .ok (.putfield 36, 3) := by decide +kernel
theorem dX5_init_59 : decode cX5_init 59 = .ok (.aload_n 0, 1) := by decide +kernel
theorem dX5_init_60 : decode cX5_init 60 = .ok (.iconst 4, 1) := by decide +kernel
theorem dX5_init_61 : decode cX5_init 61 = .ok (.anewarray 9, 3) := by decide +kernel
theorem dX5_init_64 : decode cX5_init 64 = .ok (.putfield 40, 3) := by decide +kernel
theorem dX5_init_67 : decode cX5_init 67 = .ok (.return_, 1) := by decide +kernel
theorem dX5_begin_0 : decode cX5_begin 0 = .ok (.iload_n 1, 1) := by decide +kernel
theorem dX5_begin_1 : decode cX5_begin 1 = .ok (.iconst 2, 1) := by decide +kernel
theorem dX5_begin_2 : decode cX5_begin 2 = .ok (.if_icmp .lt 9, 3) := by decide +kernel
theorem dX5_begin_5 : decode cX5_begin 5 = .ok (.iload_n 1, 1) := by decide +kernel
theorem dX5_begin_6 : decode cX5_begin 6 = .ok (.bipush 7, 2) := by decide +kernel
theorem dX5_begin_8 : decode cX5_begin 8 = .ok (.if_icmp .le 13, 3) := by decide +kernel
theorem dX5_begin_11 : decode cX5_begin 11 = .ok (.new 44, 3) := by decide +kernel
theorem dX5_begin_14 : decode cX5_begin 14 = .ok (.dup, 1) := by decide +kernel
theorem dX5_begin_15 : decode cX5_begin 15 = .ok (.ldc 46, 2) := by decide +kernel
theorem dX5_begin_17 : decode cX5_begin 17 = .ok (.invokespecial 48, 3) := by decide +kernel
theorem dX5_begin_20 : decode cX5_begin 20 = .ok (.athrow, 1) := by decide +kernel
theorem dX5_begin_21 : decode cX5_begin 21 = .ok (.aload_n 0, 1) := by decide +kernel
theorem dX5_begin_22 : decode cX5_begin 22 = .ok (.invokevirtual 51, 3) := by decide +kernel
theorem dX5_begin_25 : decode cX5_begin 25 = .ok (.aload_n 0, 1) := by decide +kernel
theorem dX5_begin_26 : decode cX5_begin 26 = .ok (.getfield 12, 3) := by decide +kernel
theorem dX5_begin_29 : decode cX5_begin 29 = .ok (.getfield 54, 3) := by decide +kernel
theorem dX5_begin_32 : decode cX5_begin 32 = .ok (.istore_n 2, 1) := by decide +kernel
theorem dX5_begin_33 : decode cX5_begin 33 = .ok (.aload_n 0, 1) := by decide +kernel
theorem dX5_begin_34 : decode cX5_begin 34 = .ok (.getfield 12, 3) := by decide +kernel
theorem dX5_begin_37 : decode cX5_begin 37 = .ok (.iload_n 1, 1) := by decide +kernel
theorem dX5_begin_38 : decode cX5_begin 38 = .ok (.invokevirtual 58, 3) := by decide +kernel
theorem dX5_begin_41 : decode cX5_begin 41 = .ok (.iload_n 2, 1) := by decide +kernel
theorem dX5_begin_42 : decode cX5_begin 42 = .ok (.ireturn, 1) := by decide +kernel
theorem dX5_promise_0 : decode cX5_promise 0 = .ok (.aload_n 0, 1) := by decide +kernel
theorem dX5_promise_1 : decode cX5_promise 1 = .ok (.getfield 12, 3) := by decide +kernel
theorem dX5_promise_4 : decode cX5_promise 4 = .ok (.iload_n 1, 1) := by decide +kernel
theorem dX5_promise_5 : decode cX5_promise 5 = .ok (.invokevirtual 62, 3) := by decide +kernel
theorem dX5_promise_8 : decode cX5_promise 8 = .ok (.ifCond .eq 14, 3) := by decide +kernel
theorem dX5_promise_11 : decode cX5_promise 11 = .ok (.aload_n 0, 1) := by decide +kernel
theorem dX5_promise_12 : decode cX5_promise 12 = .ok (.getfield 12, 3) := by decide +kernel
theorem dX5_promise_15 : decode cX5_promise 15 = .ok (.iload_n 2, 1) := by decide +kernel
theorem dX5_promise_16 : decode cX5_promise 16 = .ok (.invokevirtual 62, 3) := by decide +kernel
theorem dX5_promise_19 : decode cX5_promise 19 = .ok (.ifCond .ne 13, 3) := by decide +kernel
theorem dX5_promise_22 : decode cX5_promise 22 = .ok (.new 66, 3) := by decide +kernel
theorem dX5_promise_25 : decode cX5_promise 25 = .ok (.dup, 1) := by decide +kernel
theorem dX5_promise_26 : decode cX5_promise 26 = .ok (.ldc 68, 2) := by decide +kernel
theorem dX5_promise_28 : decode cX5_promise 28 = .ok (.invokespecial 70, 3) := by decide +kernel
theorem dX5_promise_31 : decode cX5_promise 31 = .ok (.athrow, 1) := by decide +kernel
theorem dX5_promise_32 : decode cX5_promise 32 = .ok (.iload_n 1, 1) := by decide +kernel
theorem dX5_promise_33 : decode cX5_promise 33 = .ok (.iload_n 2, 1) := by decide +kernel
theorem dX5_promise_34 : decode cX5_promise 34 = .ok (.iload_n 3, 1) := by decide +kernel
theorem dX5_promise_35 : decode cX5_promise 35 = .ok (.iload 4, 2) := by decide +kernel
theorem dX5_promise_37 : decode cX5_promise 37 = .ok (.invokestatic 71, 3) := by decide +kernel
theorem dX5_promise_40 : decode cX5_promise 40 = .ok (.ifCond .ne 13, 3) := by decide +kernel
theorem dX5_promise_43 : decode cX5_promise 43 = .ok (.new 44, 3) := by decide +kernel
theorem dX5_promise_46 : decode cX5_promise 46 = .ok (.dup, 1) := by decide +kernel
theorem dX5_promise_47 : decode cX5_promise 47 = .ok (.ldc 75, 2) := by decide +kernel
theorem dX5_promise_49 : decode cX5_promise 49 = .ok (.invokespecial 48, 3) := by decide +kernel
theorem dX5_promise_52 : decode cX5_promise 52 = .ok (.athrow, 1) := by decide +kernel
theorem dX5_promise_53 : decode cX5_promise 53 = .ok (.aload_n 0, 1) := by decide +kernel
theorem dX5_promise_54 : decode cX5_promise 54 = .ok (.getfield 12, 3) := by decide +kernel
theorem dX5_promise_57 : decode cX5_promise 57 = .ok (.invokevirtual 77, 3) := by decide +kernel
theorem dX5_promise_60 : decode cX5_promise 60 = .ok (.ifCond .eq 13, 3) := by decide +kernel
theorem dX5_promise_63 : decode cX5_promise 63 = .ok (.new 81, 3) := by decide +kernel
theorem dX5_promise_66 : decode cX5_promise 66 = .ok (.dup, 1) := by decide +kernel
theorem dX5_promise_67 : decode cX5_promise 67 = .ok (.ldc 83, 2) := by decide +kernel
theorem dX5_promise_69 : decode cX5_promise 69 = .ok (.invokespecial 85, 3) := by decide +kernel
theorem dX5_promise_72 : decode cX5_promise 72 = .ok (.athrow, 1) := by decide +kernel
theorem dX5_promise_73 : decode cX5_promise 73 = .ok (.aload_n 0, 1) := by decide +kernel
theorem dX5_promise_74 : decode cX5_promise 74 = .ok (.invokevirtual 51, 3) := by decide +kernel
theorem dX5_promise_77 : decode cX5_promise 77 = .ok (.aload_n 0, 1) := by decide +kernel
theorem dX5_promise_78 : decode cX5_promise 78 = .ok (.getfield 12, 3) := by decide +kernel
theorem dX5_promise_81 : decode cX5_promise 81 = .ok (.iload_n 1, 1) := by decide +kernel
theorem dX5_promise_82 : decode cX5_promise 82 = .ok (.iload_n 2, 1) := by decide +kernel
theorem dX5_promise_83 : decode cX5_promise 83 = .ok (.iload_n 3, 1) := by decide +kernel
theorem dX5_promise_84 : decode cX5_promise 84 = .ok (.iload 4, 2) := by decide +kernel
theorem dX5_promise_86 : decode cX5_promise 86 = .ok (.invokevirtual 86, 3) := by decide +kernel
theorem dX5_promise_89 : decode cX5_promise 89 = .ok (.ireturn, 1) := by decide +kernel
theorem dX5_pay_0 : decode cX5_pay 0 = .ok (.aload_n 0, 1) := by decide +kernel
theorem dX5_pay_1 : decode cX5_pay 1 = .ok (.getfield 12, 3) := by decide +kernel
theorem dX5_pay_4 : decode cX5_pay 4 = .ok (.iload_n 1, 1) := by decide +kernel
theorem dX5_pay_5 : decode cX5_pay 5 = .ok (.invokevirtual 90, 3) := by decide +kernel
theorem dX5_pay_8 : decode cX5_pay 8 = .ok (.ifCond .ne 13, 3) := by decide +kernel
theorem dX5_pay_11 : decode cX5_pay 11 = .ok (.new 66, 3) := by decide +kernel
theorem dX5_pay_14 : decode cX5_pay 14 = .ok (.dup, 1) := by decide +kernel
theorem dX5_pay_15 : decode cX5_pay 15 = .ok (.ldc 93, 2) := by decide +kernel
theorem dX5_pay_17 : decode cX5_pay 17 = .ok (.invokespecial 70, 3) := by decide +kernel
theorem dX5_pay_20 : decode cX5_pay 20 = .ok (.athrow, 1) := by decide +kernel
theorem dX5_pay_21 : decode cX5_pay 21 = .ok (.iload_n 2, 1) := by decide +kernel
theorem dX5_pay_22 : decode cX5_pay 22 = .ok (.iconst 1, 1) := by decide +kernel
theorem dX5_pay_23 : decode cX5_pay 23 = .ok (.if_icmp .ge 13, 3) := by decide +kernel
theorem dX5_pay_26 : decode cX5_pay 26 = .ok (.new 44, 3) := by decide +kernel
theorem dX5_pay_29 : decode cX5_pay 29 = .ok (.dup, 1) := by decide +kernel
theorem dX5_pay_30 : decode cX5_pay 30 = .ok (.ldc 95, 2) := by decide +kernel
theorem dX5_pay_32 : decode cX5_pay 32 = .ok (.invokespecial 48, 3) := by decide +kernel
theorem dX5_pay_35 : decode cX5_pay 35 = .ok (.athrow, 1) := by decide +kernel
theorem dX5_pay_36 : decode cX5_pay 36 = .ok (.iload_n 2, 1) := by decide +kernel
theorem dX5_pay_37 : decode cX5_pay 37 = .ok (.aload_n 0, 1) := by decide +kernel
theorem dX5_pay_38 : decode cX5_pay 38 = .ok (.getfield 12, 3) := by decide +kernel
theorem dX5_pay_41 : decode cX5_pay 41 = .ok (.getfield 97, 3) := by decide +kernel
theorem dX5_pay_44 : decode cX5_pay 44 = .ok (.iload_n 1, 1) := by decide +kernel
theorem dX5_pay_45 : decode cX5_pay 45 = .ok (.iaload, 1) := by decide +kernel
theorem dX5_pay_46 : decode cX5_pay 46 = .ok (.if_icmp .le 13, 3) := by decide +kernel
theorem dX5_pay_49 : decode cX5_pay 49 = .ok (.new 81, 3) := by decide +kernel
theorem dX5_pay_52 : decode cX5_pay 52 = .ok (.dup, 1) := by decide +kernel
theorem dX5_pay_53 : decode cX5_pay 53 = .ok (.ldc 101, 2) := by decide +kernel
theorem dX5_pay_55 : decode cX5_pay 55 = .ok (.invokespecial 85, 3) := by decide +kernel
theorem dX5_pay_58 : decode cX5_pay 58 = .ok (.athrow, 1) := by decide +kernel
theorem dX5_pay_59 : decode cX5_pay 59 = .ok (.aload_n 0, 1) := by decide +kernel
theorem dX5_pay_60 : decode cX5_pay 60 = .ok (.invokevirtual 51, 3) := by decide +kernel
theorem dX5_pay_63 : decode cX5_pay 63 = .ok (.aload_n 0, 1) := by decide +kernel
theorem dX5_pay_64 : decode cX5_pay 64 = .ok (.getfield 12, 3) := by decide +kernel
theorem dX5_pay_67 : decode cX5_pay 67 = .ok (.iload_n 1, 1) := by decide +kernel
theorem dX5_pay_68 : decode cX5_pay 68 = .ok (.iload_n 2, 1) := by decide +kernel
theorem dX5_pay_69 : decode cX5_pay 69 = .ok (.invokevirtual 103, 3) := by decide +kernel
theorem dX5_pay_72 : decode cX5_pay 72 = .ok (.aload_n 0, 1) := by decide +kernel
theorem dX5_pay_73 : decode cX5_pay 73 = .ok (.getfield 12, 3) := by decide +kernel
theorem dX5_pay_76 : decode cX5_pay 76 = .ok (.getfield 97, 3) := by decide +kernel
theorem dX5_pay_79 : decode cX5_pay 79 = .ok (.iload_n 1, 1) := by decide +kernel
theorem dX5_pay_80 : decode cX5_pay 80 = .ok (.iaload, 1) := by decide +kernel
theorem dX5_pay_81 : decode cX5_pay 81 = .ok (.ireturn, 1) := by decide +kernel
theorem dX5_dispute_0 : decode cX5_dispute 0 = .ok (.aload_n 0, 1) := by decide +kernel
theorem dX5_dispute_1 : decode cX5_dispute 1 = .ok (.getfield 12, 3) := by decide +kernel
theorem dX5_dispute_4 : decode cX5_dispute 4 = .ok (.iload_n 1, 1) := by decide +kernel
theorem dX5_dispute_5 : decode cX5_dispute 5 = .ok (.invokevirtual 90, 3) := by decide +kernel
theorem dX5_dispute_8 : decode cX5_dispute 8 = .ok (.ifCond .ne 13, 3) := by decide +kernel
theorem dX5_dispute_11 : decode cX5_dispute 11 = .ok (.new 66, 3) := by decide +kernel
theorem dX5_dispute_14 : decode cX5_dispute 14 = .ok (.dup, 1) := by decide +kernel
theorem dX5_dispute_15 : decode cX5_dispute 15 = .ok (.ldc 93, 2) := by decide +kernel
theorem dX5_dispute_17 : decode cX5_dispute 17 = .ok (.invokespecial 70, 3) := by decide +kernel
theorem dX5_dispute_20 : decode cX5_dispute 20 = .ok (.athrow, 1) := by decide +kernel
theorem dX5_dispute_21 : decode cX5_dispute 21 = .ok (.aload_n 0, 1) := by decide +kernel
theorem dX5_dispute_22 : decode cX5_dispute 22 = .ok (.getfield 12, 3) := by decide +kernel
theorem dX5_dispute_25 : decode cX5_dispute 25 = .ok (.iload_n 1, 1) := by decide +kernel
theorem dX5_dispute_26 : decode cX5_dispute 26 = .ok (.invokevirtual 107, 3) := by decide +kernel
theorem dX5_dispute_29 : decode cX5_dispute 29 = .ok (.ifCond .ne 13, 3) := by decide +kernel
theorem dX5_dispute_32 : decode cX5_dispute 32 = .ok (.new 81, 3) := by decide +kernel
theorem dX5_dispute_35 : decode cX5_dispute 35 = .ok (.dup, 1) := by decide +kernel
theorem dX5_dispute_36 : decode cX5_dispute 36 = .ok (.ldc 110, 2) := by decide +kernel
theorem dX5_dispute_38 : decode cX5_dispute 38 = .ok (.invokespecial 85, 3) := by decide +kernel
theorem dX5_dispute_41 : decode cX5_dispute 41 = .ok (.athrow, 1) := by decide +kernel
theorem dX5_dispute_42 : decode cX5_dispute 42 = .ok (.aload_n 0, 1) := by decide +kernel
theorem dX5_dispute_43 : decode cX5_dispute 43 = .ok (.invokevirtual 51, 3) := by decide +kernel
theorem dX5_dispute_46 : decode cX5_dispute 46 = .ok (.aload_n 0, 1) := by decide +kernel
theorem dX5_dispute_47 : decode cX5_dispute 47 = .ok (.invokevirtual 112, 3) := by decide +kernel
theorem dX5_dispute_50 : decode cX5_dispute 50 = .ok (.istore_n 2, 1) := by decide +kernel
theorem dX5_dispute_51 : decode cX5_dispute 51 = .ok (.aload_n 0, 1) := by decide +kernel
theorem dX5_dispute_52 : decode cX5_dispute 52 = .ok (.getfield 12, 3) := by decide +kernel
theorem dX5_dispute_55 : decode cX5_dispute 55 = .ok (.getfield 116, 3) := by decide +kernel
theorem dX5_dispute_58 : decode cX5_dispute 58 = .ok (.iload_n 1, 1) := by decide +kernel
theorem dX5_dispute_59 : decode cX5_dispute 59 = .ok (.iconst 1, 1) := by decide +kernel
theorem dX5_dispute_60 : decode cX5_dispute 60 = .ok (.bastore, 1) := by decide +kernel
theorem dX5_dispute_61 : decode cX5_dispute 61 = .ok (.iload_n 2, 1) := by decide +kernel
theorem dX5_dispute_62 : decode cX5_dispute 62 = .ok (.aload_n 0, 1) := by decide +kernel
theorem dX5_dispute_63 : decode cX5_dispute 63 = .ok (.invokevirtual 112, 3) := by decide +kernel
theorem dX5_dispute_66 : decode cX5_dispute 66 = .ok (.isub, 1) := by decide +kernel
theorem dX5_dispute_67 : decode cX5_dispute 67 = .ok (.ireturn, 1) := by decide +kernel
theorem dX5_settle_0 : decode cX5_settle 0 = .ok (.aload_n 0, 1) := by decide +kernel
theorem dX5_settle_1 : decode cX5_settle 1 = .ok (.getfield 12, 3) := by decide +kernel
theorem dX5_settle_4 : decode cX5_settle 4 = .ok (.iload_n 1, 1) := by decide +kernel
theorem dX5_settle_5 : decode cX5_settle 5 = .ok (.invokevirtual 90, 3) := by decide +kernel
theorem dX5_settle_8 : decode cX5_settle 8 = .ok (.ifCond .ne 13, 3) := by decide +kernel
theorem dX5_settle_11 : decode cX5_settle 11 = .ok (.new 66, 3) := by decide +kernel
theorem dX5_settle_14 : decode cX5_settle 14 = .ok (.dup, 1) := by decide +kernel
theorem dX5_settle_15 : decode cX5_settle 15 = .ok (.ldc 93, 2) := by decide +kernel
theorem dX5_settle_17 : decode cX5_settle 17 = .ok (.invokespecial 70, 3) := by decide +kernel
theorem dX5_settle_20 : decode cX5_settle 20 = .ok (.athrow, 1) := by decide +kernel
theorem dX5_settle_21 : decode cX5_settle 21 = .ok (.aload_n 0, 1) := by decide +kernel
theorem dX5_settle_22 : decode cX5_settle 22 = .ok (.getfield 12, 3) := by decide +kernel
theorem dX5_settle_25 : decode cX5_settle 25 = .ok (.getfield 116, 3) := by decide +kernel
theorem dX5_settle_28 : decode cX5_settle 28 = .ok (.iload_n 1, 1) := by decide +kernel
theorem dX5_settle_29 : decode cX5_settle 29 = .ok (.baload, 1) := by decide +kernel
theorem dX5_settle_30 : decode cX5_settle 30 = .ok (.ifCond .ne 13, 3) := by decide +kernel
theorem dX5_settle_33 : decode cX5_settle 33 = .ok (.new 81, 3) := by decide +kernel
theorem dX5_settle_36 : decode cX5_settle 36 = .ok (.dup, 1) := by decide +kernel
theorem dX5_settle_37 : decode cX5_settle 37 = .ok (.ldc 120, 2) := by decide +kernel
theorem dX5_settle_39 : decode cX5_settle 39 = .ok (.invokespecial 85, 3) := by decide +kernel
theorem dX5_settle_42 : decode cX5_settle 42 = .ok (.athrow, 1) := by decide +kernel
theorem dX5_settle_43 : decode cX5_settle 43 = .ok (.aload_n 0, 1) := by decide +kernel
theorem dX5_settle_44 : decode cX5_settle 44 = .ok (.invokevirtual 51, 3) := by decide +kernel
theorem dX5_settle_47 : decode cX5_settle 47 = .ok (.aload_n 0, 1) := by decide +kernel
theorem dX5_settle_48 : decode cX5_settle 48 = .ok (.getfield 12, 3) := by decide +kernel
theorem dX5_settle_51 : decode cX5_settle 51 = .ok (.getfield 116, 3) := by decide +kernel
theorem dX5_settle_54 : decode cX5_settle 54 = .ok (.iload_n 1, 1) := by decide +kernel
theorem dX5_settle_55 : decode cX5_settle 55 = .ok (.iconst 0, 1) := by decide +kernel
theorem dX5_settle_56 : decode cX5_settle 56 = .ok (.bastore, 1) := by decide +kernel
theorem dX5_settle_57 : decode cX5_settle 57 = .ok (.aload_n 0, 1) := by decide +kernel
theorem dX5_settle_58 : decode cX5_settle 58 = .ok (.invokevirtual 112, 3) := by decide +kernel
theorem dX5_settle_61 : decode cX5_settle 61 = .ok (.ireturn, 1) := by decide +kernel
theorem dX5_discharge_0 : decode cX5_discharge 0 = .ok (.iload_n 1, 1) := by decide +kernel
theorem dX5_discharge_1 : decode cX5_discharge 1 = .ok (.ifCond .lt 11, 3) := by decide +kernel
theorem dX5_discharge_4 : decode cX5_discharge 4 = .ok (.iload_n 1, 1) := by decide +kernel
theorem dX5_discharge_5 : decode cX5_discharge 5 = .ok (.aload_n 0, 1) := by decide +kernel
theorem dX5_discharge_6 : decode cX5_discharge 6 = .ok (.invokevirtual 112, 3) := by decide +kernel
theorem dX5_discharge_9 : decode cX5_discharge 9 = .ok (.if_icmp .lt 13, 3) := by decide +kernel
theorem dX5_discharge_12 : decode cX5_discharge 12 = .ok (.new 66, 3) := by decide +kernel
theorem dX5_discharge_15 : decode cX5_discharge 15 = .ok (.dup, 1) := by decide +kernel
theorem dX5_discharge_16 : decode cX5_discharge 16 = .ok (.ldc 122, 2) := by decide +kernel
theorem dX5_discharge_18 : decode cX5_discharge 18 = .ok (.invokespecial 70, 3) := by decide +kernel
theorem dX5_discharge_21 : decode cX5_discharge 21 = .ok (.athrow, 1) := by decide +kernel
theorem dX5_discharge_22 : decode cX5_discharge 22 = .ok (.iload_n 2, 1) := by decide +kernel
theorem dX5_discharge_23 : decode cX5_discharge 23 = .ok (.iconst 1, 1) := by decide +kernel
theorem dX5_discharge_24 : decode cX5_discharge 24 = .ok (.if_icmp .ge 13, 3) := by decide +kernel
theorem dX5_discharge_27 : decode cX5_discharge 27 = .ok (.new 44, 3) := by decide +kernel
theorem dX5_discharge_30 : decode cX5_discharge 30 = .ok (.dup, 1) := by decide +kernel
theorem dX5_discharge_31 : decode cX5_discharge 31 = .ok (.ldc 124, 2) := by decide +kernel
theorem dX5_discharge_33 : decode cX5_discharge 33 = .ok (.invokespecial 48, 3) := by decide +kernel
theorem dX5_discharge_36 : decode cX5_discharge 36 = .ok (.athrow, 1) := by decide +kernel
theorem dX5_discharge_37 : decode cX5_discharge 37 = .ok (.iload_n 2, 1) := by decide +kernel
theorem dX5_discharge_38 : decode cX5_discharge 38 = .ok (.aload_n 0, 1) := by decide +kernel
theorem dX5_discharge_39 : decode cX5_discharge 39 = .ok (.getfield 22, 3) := by decide +kernel
theorem dX5_discharge_42 : decode cX5_discharge 42 = .ok (.iload_n 1, 1) := by decide +kernel
theorem dX5_discharge_43 : decode cX5_discharge 43 = .ok (.invokevirtual 126, 3) := by decide +kernel
theorem dX5_discharge_46 : decode cX5_discharge 46 = .ok (.if_icmp .le 13, 3) := by decide +kernel
theorem dX5_discharge_49 : decode cX5_discharge 49 = .ok (.new 81, 3) := by decide +kernel
theorem dX5_discharge_52 : decode cX5_discharge 52 = .ok (.dup, 1) := by decide +kernel
theorem dX5_discharge_53 : decode cX5_discharge 53 = .ok (.ldc 130, 2) := by decide +kernel
theorem dX5_discharge_55 : decode cX5_discharge 55 = .ok (.invokespecial 85, 3) := by decide +kernel
theorem dX5_discharge_58 : decode cX5_discharge 58 = .ok (.athrow, 1) := by decide +kernel
theorem dX5_discharge_59 : decode cX5_discharge 59 = .ok (.aload_n 0, 1) := by decide +kernel
theorem dX5_discharge_60 : decode cX5_discharge 60 = .ok (.invokevirtual 51, 3) := by decide +kernel
theorem dX5_discharge_63 : decode cX5_discharge 63 = .ok (.aload_n 0, 1) := by decide +kernel
theorem dX5_discharge_64 : decode cX5_discharge 64 = .ok (.getfield 22, 3) := by decide +kernel
theorem dX5_discharge_67 : decode cX5_discharge 67 = .ok (.aload_n 0, 1) := by decide +kernel
theorem dX5_discharge_68 : decode cX5_discharge 68 = .ok (.getfield 12, 3) := by decide +kernel
theorem dX5_discharge_71 : decode cX5_discharge 71 = .ok (.iload_n 1, 1) := by decide +kernel
theorem dX5_discharge_72 : decode cX5_discharge 72 = .ok (.iload_n 2, 1) := by decide +kernel
theorem dX5_discharge_73 : decode cX5_discharge 73 = .ok (.invokevirtual 132, 3) := by decide +kernel
theorem dX5_discharge_76 : decode cX5_discharge 76 = .ok (.ireturn, 1) := by decide +kernel
theorem dX5_dischargeBest_0 : decode cX5_dischargeBest 0 = .ok (.aload_n 0, 1) := by decide +kernel
theorem dX5_dischargeBest_1 : decode cX5_dischargeBest 1 = .ok (.invokevirtual 112, 3) := by decide +kernel
theorem dX5_dischargeBest_4 : decode cX5_dischargeBest 4 = .ok (.ifCond .ne 13, 3) := by decide +kernel
theorem dX5_dischargeBest_7 : decode cX5_dischargeBest 7 = .ok (.new 81, 3) := by decide +kernel
theorem dX5_dischargeBest_10 : decode cX5_dischargeBest 10 = .ok (.dup, 1) := by decide +kernel
theorem dX5_dischargeBest_11 : decode cX5_dischargeBest 11 = .ok (.ldc 136, 2) := by decide +kernel
theorem dX5_dischargeBest_13 : decode cX5_dischargeBest 13 = .ok (.invokespecial 85, 3) := by decide +kernel
theorem dX5_dischargeBest_16 : decode cX5_dischargeBest 16 = .ok (.athrow, 1) := by decide +kernel
theorem dX5_dischargeBest_17 : decode cX5_dischargeBest 17 = .ok (.aload_n 0, 1) := by decide +kernel
theorem dX5_dischargeBest_18 : decode cX5_dischargeBest 18 = .ok (.invokevirtual 51, 3) := by decide +kernel
theorem dX5_dischargeBest_21 : decode cX5_dischargeBest 21 = .ok (.aload_n 0, 1) := by decide +kernel
theorem dX5_dischargeBest_22 : decode cX5_dischargeBest 22 = .ok (.getfield 22, 3) := by decide +kernel
theorem dX5_dischargeBest_25 : decode cX5_dischargeBest 25 = .ok (.aload_n 0, 1) := by decide +kernel
theorem dX5_dischargeBest_26 : decode cX5_dischargeBest 26 = .ok (.getfield 12, 3) := by decide +kernel
theorem dX5_dischargeBest_29 : decode cX5_dischargeBest 29 = .ok (.invokevirtual 138, 3) := by decide +kernel
theorem dX5_dischargeBest_32 : decode cX5_dischargeBest 32 = .ok (.ireturn, 1) := by decide +kernel
theorem dX5_dischargeAll_0 : decode cX5_dischargeAll 0 = .ok (.aload_n 0, 1) := by decide +kernel
theorem dX5_dischargeAll_1 : decode cX5_dischargeAll 1 = .ok (.invokevirtual 51, 3) := by decide +kernel
theorem dX5_dischargeAll_4 : decode cX5_dischargeAll 4 = .ok (.aload_n 0, 1) := by decide +kernel
theorem dX5_dischargeAll_5 : decode cX5_dischargeAll 5 = .ok (.getfield 22, 3) := by decide +kernel
theorem dX5_dischargeAll_8 : decode cX5_dischargeAll 8 = .ok (.aload_n 0, 1) := by decide +kernel
theorem dX5_dischargeAll_9 : decode cX5_dischargeAll 9 = .ok (.getfield 12, 3) := by decide +kernel
theorem dX5_dischargeAll_12 : decode cX5_dischargeAll 12 = .ok (.invokevirtual 142, 3) := by decide +kernel
theorem dX5_dischargeAll_15 : decode cX5_dischargeAll 15 = .ok (.ireturn, 1) := by decide +kernel
theorem dX5_promiseOf_0 : decode cX5_promiseOf 0 = .ok (.aload_n 0, 1) := by decide +kernel
theorem dX5_promiseOf_1 : decode cX5_promiseOf 1 = .ok (.getfield 12, 3) := by decide +kernel
theorem dX5_promiseOf_4 : decode cX5_promiseOf 4 = .ok (.iload_n 1, 1) := by decide +kernel
theorem dX5_promiseOf_5 : decode cX5_promiseOf 5 = .ok (.invokevirtual 90, 3) := by decide +kernel
theorem dX5_promiseOf_8 : decode cX5_promiseOf 8 = .ok (.ifCond .ne 13, 3) := by decide +kernel
theorem dX5_promiseOf_11 : decode cX5_promiseOf 11 = .ok (.new 66, 3) := by decide +kernel
theorem dX5_promiseOf_14 : decode cX5_promiseOf 14 = .ok (.dup, 1) := by decide +kernel
theorem dX5_promiseOf_15 : decode cX5_promiseOf 15 = .ok (.ldc 93, 2) := by decide +kernel
theorem dX5_promiseOf_17 : decode cX5_promiseOf 17 = .ok (.invokespecial 70, 3) := by decide +kernel
theorem dX5_promiseOf_20 : decode cX5_promiseOf 20 = .ok (.athrow, 1) := by decide +kernel
theorem dX5_promiseOf_21 : decode cX5_promiseOf 21 = .ok (.iload_n 2, 1) := by decide +kernel
theorem dX5_promiseOf_22 : decode cX5_promiseOf 22 = .ok (.tableswitch 134 0 7 #[46, 56, 66, 76, 86, 104, 114, 124], 46) := by decide +kernel
theorem dX5_promiseOf_68 : decode cX5_promiseOf 68 = .ok (.aload_n 0, 1) := by decide +kernel
theorem dX5_promiseOf_69 : decode cX5_promiseOf 69 = .ok (.getfield 12, 3) := by decide +kernel
theorem dX5_promiseOf_72 : decode cX5_promiseOf 72 = .ok (.getfield 145, 3) := by decide +kernel
theorem dX5_promiseOf_75 : decode cX5_promiseOf 75 = .ok (.iload_n 1, 1) := by decide +kernel
theorem dX5_promiseOf_76 : decode cX5_promiseOf 76 = .ok (.iaload, 1) := by decide +kernel
theorem dX5_promiseOf_77 : decode cX5_promiseOf 77 = .ok (.ireturn, 1) := by decide +kernel
theorem dX5_promiseOf_78 : decode cX5_promiseOf 78 = .ok (.aload_n 0, 1) := by decide +kernel
theorem dX5_promiseOf_79 : decode cX5_promiseOf 79 = .ok (.getfield 12, 3) := by decide +kernel
theorem dX5_promiseOf_82 : decode cX5_promiseOf 82 = .ok (.getfield 148, 3) := by decide +kernel
theorem dX5_promiseOf_85 : decode cX5_promiseOf 85 = .ok (.iload_n 1, 1) := by decide +kernel
theorem dX5_promiseOf_86 : decode cX5_promiseOf 86 = .ok (.iaload, 1) := by decide +kernel
theorem dX5_promiseOf_87 : decode cX5_promiseOf 87 = .ok (.ireturn, 1) := by decide +kernel
theorem dX5_promiseOf_88 : decode cX5_promiseOf 88 = .ok (.aload_n 0, 1) := by decide +kernel
theorem dX5_promiseOf_89 : decode cX5_promiseOf 89 = .ok (.getfield 12, 3) := by decide +kernel
theorem dX5_promiseOf_92 : decode cX5_promiseOf 92 = .ok (.getfield 97, 3) := by decide +kernel
theorem dX5_promiseOf_95 : decode cX5_promiseOf 95 = .ok (.iload_n 1, 1) := by decide +kernel
theorem dX5_promiseOf_96 : decode cX5_promiseOf 96 = .ok (.iaload, 1) := by decide +kernel
theorem dX5_promiseOf_97 : decode cX5_promiseOf 97 = .ok (.ireturn, 1) := by decide +kernel
theorem dX5_promiseOf_98 : decode cX5_promiseOf 98 = .ok (.aload_n 0, 1) := by decide +kernel
theorem dX5_promiseOf_99 : decode cX5_promiseOf 99 = .ok (.getfield 12, 3) := by decide +kernel
theorem dX5_promiseOf_102 : decode cX5_promiseOf 102 = .ok (.getfield 151, 3) := by decide +kernel
theorem dX5_promiseOf_105 : decode cX5_promiseOf 105 = .ok (.iload_n 1, 1) := by decide +kernel
theorem dX5_promiseOf_106 : decode cX5_promiseOf 106 = .ok (.iaload, 1) := by decide +kernel
theorem dX5_promiseOf_107 : decode cX5_promiseOf 107 = .ok (.ireturn, 1) := by decide +kernel
theorem dX5_promiseOf_108 : decode cX5_promiseOf 108 = .ok (.aload_n 0, 1) := by decide +kernel
theorem dX5_promiseOf_109 : decode cX5_promiseOf 109 = .ok (.getfield 12, 3) := by decide +kernel
theorem dX5_promiseOf_112 : decode cX5_promiseOf 112 = .ok (.getfield 116, 3) := by decide +kernel
theorem dX5_promiseOf_115 : decode cX5_promiseOf 115 = .ok (.iload_n 1, 1) := by decide +kernel
theorem dX5_promiseOf_116 : decode cX5_promiseOf 116 = .ok (.baload, 1) := by decide +kernel
theorem dX5_promiseOf_117 : decode cX5_promiseOf 117 = .ok (.ifCond .eq 7, 3) := by decide +kernel
theorem dX5_promiseOf_120 : decode cX5_promiseOf 120 = .ok (.iconst 1, 1) := by decide +kernel
theorem dX5_promiseOf_121 : decode cX5_promiseOf 121 = .ok (.goto 4, 3) := by decide +kernel
theorem dX5_promiseOf_124 : decode cX5_promiseOf 124 = .ok (.iconst 0, 1) := by decide +kernel
theorem dX5_promiseOf_125 : decode cX5_promiseOf 125 = .ok (.ireturn, 1) := by decide +kernel
theorem dX5_promiseOf_126 : decode cX5_promiseOf 126 = .ok (.aload_n 0, 1) := by decide +kernel
theorem dX5_promiseOf_127 : decode cX5_promiseOf 127 = .ok (.getfield 12, 3) := by decide +kernel
theorem dX5_promiseOf_130 : decode cX5_promiseOf 130 = .ok (.getfield 154, 3) := by decide +kernel
theorem dX5_promiseOf_133 : decode cX5_promiseOf 133 = .ok (.iload_n 1, 1) := by decide +kernel
theorem dX5_promiseOf_134 : decode cX5_promiseOf 134 = .ok (.iaload, 1) := by decide +kernel
theorem dX5_promiseOf_135 : decode cX5_promiseOf 135 = .ok (.ireturn, 1) := by decide +kernel
theorem dX5_promiseOf_136 : decode cX5_promiseOf 136 = .ok (.aload_n 0, 1) := by decide +kernel
theorem dX5_promiseOf_137 : decode cX5_promiseOf 137 = .ok (.getfield 12, 3) := by decide +kernel
theorem dX5_promiseOf_140 : decode cX5_promiseOf 140 = .ok (.getfield 157, 3) := by decide +kernel
theorem dX5_promiseOf_143 : decode cX5_promiseOf 143 = .ok (.iload_n 1, 1) := by decide +kernel
theorem dX5_promiseOf_144 : decode cX5_promiseOf 144 = .ok (.iaload, 1) := by decide +kernel
theorem dX5_promiseOf_145 : decode cX5_promiseOf 145 = .ok (.ireturn, 1) := by decide +kernel
theorem dX5_promiseOf_146 : decode cX5_promiseOf 146 = .ok (.aload_n 0, 1) := by decide +kernel
theorem dX5_promiseOf_147 : decode cX5_promiseOf 147 = .ok (.getfield 12, 3) := by decide +kernel
theorem dX5_promiseOf_150 : decode cX5_promiseOf 150 = .ok (.getfield 160, 3) := by decide +kernel
theorem dX5_promiseOf_153 : decode cX5_promiseOf 153 = .ok (.iload_n 1, 1) := by decide +kernel
theorem dX5_promiseOf_154 : decode cX5_promiseOf 154 = .ok (.iaload, 1) := by decide +kernel
theorem dX5_promiseOf_155 : decode cX5_promiseOf 155 = .ok (.ireturn, 1) := by decide +kernel
theorem dX5_promiseOf_156 : decode cX5_promiseOf 156 = .ok (.new 44, 3) := by decide +kernel
theorem dX5_promiseOf_159 : decode cX5_promiseOf 159 = .ok (.dup, 1) := by decide +kernel
theorem dX5_promiseOf_160 : decode cX5_promiseOf 160 = .ok (.ldc 163, 2) := by decide +kernel
theorem dX5_promiseOf_162 : decode cX5_promiseOf 162 = .ok (.invokespecial 48, 3) := by decide +kernel
theorem dX5_promiseOf_165 : decode cX5_promiseOf 165 = .ok (.athrow, 1) := by decide +kernel
theorem dX5_debt_0 : decode cX5_debt 0 = .ok (.aload_n 0, 1) := by decide +kernel
theorem dX5_debt_1 : decode cX5_debt 1 = .ok (.getfield 12, 3) := by decide +kernel
theorem dX5_debt_4 : decode cX5_debt 4 = .ok (.iload_n 1, 1) := by decide +kernel
theorem dX5_debt_5 : decode cX5_debt 5 = .ok (.invokevirtual 62, 3) := by decide +kernel
theorem dX5_debt_8 : decode cX5_debt 8 = .ok (.ifCond .eq 14, 3) := by decide +kernel
theorem dX5_debt_11 : decode cX5_debt 11 = .ok (.aload_n 0, 1) := by decide +kernel
theorem dX5_debt_12 : decode cX5_debt 12 = .ok (.getfield 12, 3) := by decide +kernel
theorem dX5_debt_15 : decode cX5_debt 15 = .ok (.iload_n 2, 1) := by decide +kernel
theorem dX5_debt_16 : decode cX5_debt 16 = .ok (.invokevirtual 62, 3) := by decide +kernel
theorem dX5_debt_19 : decode cX5_debt 19 = .ok (.ifCond .ne 13, 3) := by decide +kernel
theorem dX5_debt_22 : decode cX5_debt 22 = .ok (.new 66, 3) := by decide +kernel
theorem dX5_debt_25 : decode cX5_debt 25 = .ok (.dup, 1) := by decide +kernel
theorem dX5_debt_26 : decode cX5_debt 26 = .ok (.ldc 68, 2) := by decide +kernel
theorem dX5_debt_28 : decode cX5_debt 28 = .ok (.invokespecial 70, 3) := by decide +kernel
theorem dX5_debt_31 : decode cX5_debt 31 = .ok (.athrow, 1) := by decide +kernel
theorem dX5_debt_32 : decode cX5_debt 32 = .ok (.aload_n 0, 1) := by decide +kernel
theorem dX5_debt_33 : decode cX5_debt 33 = .ok (.getfield 12, 3) := by decide +kernel
theorem dX5_debt_36 : decode cX5_debt 36 = .ok (.iload_n 1, 1) := by decide +kernel
theorem dX5_debt_37 : decode cX5_debt 37 = .ok (.iload_n 2, 1) := by decide +kernel
theorem dX5_debt_38 : decode cX5_debt 38 = .ok (.invokevirtual 165, 3) := by decide +kernel
theorem dX5_debt_41 : decode cX5_debt 41 = .ok (.ireturn, 1) := by decide +kernel
theorem dX5_net_0 : decode cX5_net 0 = .ok (.aload_n 0, 1) := by decide +kernel
theorem dX5_net_1 : decode cX5_net 1 = .ok (.getfield 12, 3) := by decide +kernel
theorem dX5_net_4 : decode cX5_net 4 = .ok (.iload_n 1, 1) := by decide +kernel
theorem dX5_net_5 : decode cX5_net 5 = .ok (.invokevirtual 62, 3) := by decide +kernel
theorem dX5_net_8 : decode cX5_net 8 = .ok (.ifCond .ne 13, 3) := by decide +kernel
theorem dX5_net_11 : decode cX5_net 11 = .ok (.new 66, 3) := by decide +kernel
theorem dX5_net_14 : decode cX5_net 14 = .ok (.dup, 1) := by decide +kernel
theorem dX5_net_15 : decode cX5_net 15 = .ok (.ldc 68, 2) := by decide +kernel
theorem dX5_net_17 : decode cX5_net 17 = .ok (.invokespecial 70, 3) := by decide +kernel
theorem dX5_net_20 : decode cX5_net 20 = .ok (.athrow, 1) := by decide +kernel
theorem dX5_net_21 : decode cX5_net 21 = .ok (.aload_n 0, 1) := by decide +kernel
theorem dX5_net_22 : decode cX5_net 22 = .ok (.getfield 12, 3) := by decide +kernel
theorem dX5_net_25 : decode cX5_net 25 = .ok (.iload_n 1, 1) := by decide +kernel
theorem dX5_net_26 : decode cX5_net 26 = .ok (.invokevirtual 169, 3) := by decide +kernel
theorem dX5_net_29 : decode cX5_net 29 = .ok (.ireturn, 1) := by decide +kernel
theorem dX5_ring_0 : decode cX5_ring 0 = .ok (.iload_n 1, 1) := by decide +kernel
theorem dX5_ring_1 : decode cX5_ring 1 = .ok (.ifCond .lt 11, 3) := by decide +kernel
theorem dX5_ring_4 : decode cX5_ring 4 = .ok (.iload_n 1, 1) := by decide +kernel
theorem dX5_ring_5 : decode cX5_ring 5 = .ok (.aload_n 0, 1) := by decide +kernel
theorem dX5_ring_6 : decode cX5_ring 6 = .ok (.invokevirtual 112, 3) := by decide +kernel
theorem dX5_ring_9 : decode cX5_ring 9 = .ok (.if_icmp .lt 13, 3) := by decide +kernel
theorem dX5_ring_12 : decode cX5_ring 12 = .ok (.new 66, 3) := by decide +kernel
theorem dX5_ring_15 : decode cX5_ring 15 = .ok (.dup, 1) := by decide +kernel
theorem dX5_ring_16 : decode cX5_ring 16 = .ok (.ldc 122, 2) := by decide +kernel
theorem dX5_ring_18 : decode cX5_ring 18 = .ok (.invokespecial 70, 3) := by decide +kernel
theorem dX5_ring_21 : decode cX5_ring 21 = .ok (.athrow, 1) := by decide +kernel
theorem dX5_ring_22 : decode cX5_ring 22 = .ok (.iload_n 2, 1) := by decide +kernel
theorem dX5_ring_23 : decode cX5_ring 23 = .ok (.ifCond .lt 9, 3) := by decide +kernel
theorem dX5_ring_26 : decode cX5_ring 26 = .ok (.iload_n 2, 1) := by decide +kernel
theorem dX5_ring_27 : decode cX5_ring 27 = .ok (.bipush 7, 2) := by decide +kernel
theorem dX5_ring_29 : decode cX5_ring 29 = .ok (.if_icmp .lt 13, 3) := by decide +kernel
theorem dX5_ring_32 : decode cX5_ring 32 = .ok (.new 44, 3) := by decide +kernel
theorem dX5_ring_35 : decode cX5_ring 35 = .ok (.dup, 1) := by decide +kernel
theorem dX5_ring_36 : decode cX5_ring 36 = .ok (.ldc 172, 2) := by decide +kernel
theorem dX5_ring_38 : decode cX5_ring 38 = .ok (.invokespecial 48, 3) := by decide +kernel
theorem dX5_ring_41 : decode cX5_ring 41 = .ok (.athrow, 1) := by decide +kernel
theorem dX5_ring_42 : decode cX5_ring 42 = .ok (.aload_n 0, 1) := by decide +kernel
theorem dX5_ring_43 : decode cX5_ring 43 = .ok (.getfield 22, 3) := by decide +kernel
theorem dX5_ring_46 : decode cX5_ring 46 = .ok (.iload_n 1, 1) := by decide +kernel
theorem dX5_ring_47 : decode cX5_ring 47 = .ok (.iload_n 2, 1) := by decide +kernel
theorem dX5_ring_48 : decode cX5_ring 48 = .ok (.invokevirtual 174, 3) := by decide +kernel
theorem dX5_ring_51 : decode cX5_ring 51 = .ok (.ireturn, 1) := by decide +kernel
theorem dX5_room_0 : decode cX5_room 0 = .ok (.iload_n 1, 1) := by decide +kernel
theorem dX5_room_1 : decode cX5_room 1 = .ok (.ifCond .lt 11, 3) := by decide +kernel
theorem dX5_room_4 : decode cX5_room 4 = .ok (.iload_n 1, 1) := by decide +kernel
theorem dX5_room_5 : decode cX5_room 5 = .ok (.aload_n 0, 1) := by decide +kernel
theorem dX5_room_6 : decode cX5_room 6 = .ok (.invokevirtual 112, 3) := by decide +kernel
theorem dX5_room_9 : decode cX5_room 9 = .ok (.if_icmp .lt 13, 3) := by decide +kernel
theorem dX5_room_12 : decode cX5_room 12 = .ok (.new 66, 3) := by decide +kernel
theorem dX5_room_15 : decode cX5_room 15 = .ok (.dup, 1) := by decide +kernel
theorem dX5_room_16 : decode cX5_room 16 = .ok (.ldc 122, 2) := by decide +kernel
theorem dX5_room_18 : decode cX5_room 18 = .ok (.invokespecial 70, 3) := by decide +kernel
theorem dX5_room_21 : decode cX5_room 21 = .ok (.athrow, 1) := by decide +kernel
theorem dX5_room_22 : decode cX5_room 22 = .ok (.aload_n 0, 1) := by decide +kernel
theorem dX5_room_23 : decode cX5_room 23 = .ok (.getfield 22, 3) := by decide +kernel
theorem dX5_room_26 : decode cX5_room 26 = .ok (.iload_n 1, 1) := by decide +kernel
theorem dX5_room_27 : decode cX5_room 27 = .ok (.invokevirtual 126, 3) := by decide +kernel
theorem dX5_room_30 : decode cX5_room 30 = .ok (.ireturn, 1) := by decide +kernel
theorem dX5_value_0 : decode cX5_value 0 = .ok (.iload_n 1, 1) := by decide +kernel
theorem dX5_value_1 : decode cX5_value 1 = .ok (.tableswitch 144 0 10 #[59, 67, 75, 83, 91, 99, 107, 112, 120, 128, 136], 59) := by decide +kernel
theorem dX5_value_60 : decode cX5_value 60 = .ok (.aload_n 0, 1) := by decide +kernel
theorem dX5_value_61 : decode cX5_value 61 = .ok (.getfield 12, 3) := by decide +kernel
theorem dX5_value_64 : decode cX5_value 64 = .ok (.getfield 177, 3) := by decide +kernel
theorem dX5_value_67 : decode cX5_value 67 = .ok (.ireturn, 1) := by decide +kernel
theorem dX5_value_68 : decode cX5_value 68 = .ok (.aload_n 0, 1) := by decide +kernel
theorem dX5_value_69 : decode cX5_value 69 = .ok (.getfield 12, 3) := by decide +kernel
theorem dX5_value_72 : decode cX5_value 72 = .ok (.getfield 54, 3) := by decide +kernel
theorem dX5_value_75 : decode cX5_value 75 = .ok (.ireturn, 1) := by decide +kernel
theorem dX5_value_76 : decode cX5_value 76 = .ok (.aload_n 0, 1) := by decide +kernel
theorem dX5_value_77 : decode cX5_value 77 = .ok (.getfield 12, 3) := by decide +kernel
theorem dX5_value_80 : decode cX5_value 80 = .ok (.invokevirtual 180, 3) := by decide +kernel
theorem dX5_value_83 : decode cX5_value 83 = .ok (.ireturn, 1) := by decide +kernel
theorem dX5_value_84 : decode cX5_value 84 = .ok (.aload_n 0, 1) := by decide +kernel
theorem dX5_value_85 : decode cX5_value 85 = .ok (.getfield 12, 3) := by decide +kernel
theorem dX5_value_88 : decode cX5_value 88 = .ok (.invokevirtual 183, 3) := by decide +kernel
theorem dX5_value_91 : decode cX5_value 91 = .ok (.ireturn, 1) := by decide +kernel
theorem dX5_value_92 : decode cX5_value 92 = .ok (.aload_n 0, 1) := by decide +kernel
theorem dX5_value_93 : decode cX5_value 93 = .ok (.getfield 12, 3) := by decide +kernel
theorem dX5_value_96 : decode cX5_value 96 = .ok (.invokevirtual 186, 3) := by decide +kernel
theorem dX5_value_99 : decode cX5_value 99 = .ok (.ireturn, 1) := by decide +kernel
theorem dX5_value_100 : decode cX5_value 100 = .ok (.aload_n 0, 1) := by decide +kernel
theorem dX5_value_101 : decode cX5_value 101 = .ok (.getfield 12, 3) := by decide +kernel
theorem dX5_value_104 : decode cX5_value 104 = .ok (.invokevirtual 189, 3) := by decide +kernel
theorem dX5_value_107 : decode cX5_value 107 = .ok (.ireturn, 1) := by decide +kernel
theorem dX5_value_108 : decode cX5_value 108 = .ok (.aload_n 0, 1) := by decide +kernel
theorem dX5_value_109 : decode cX5_value 109 = .ok (.invokevirtual 112, 3) := by decide +kernel
theorem dX5_value_112 : decode cX5_value 112 = .ok (.ireturn, 1) := by decide +kernel
theorem dX5_value_113 : decode cX5_value 113 = .ok (.aload_n 0, 1) := by decide +kernel
theorem dX5_value_114 : decode cX5_value 114 = .ok (.getfield 12, 3) := by decide +kernel
theorem dX5_value_117 : decode cX5_value 117 = .ok (.getfield 192, 3) := by decide +kernel
theorem dX5_value_120 : decode cX5_value 120 = .ok (.ireturn, 1) := by decide +kernel
theorem dX5_value_121 : decode cX5_value 121 = .ok (.aload_n 0, 1) := by decide +kernel
theorem dX5_value_122 : decode cX5_value 122 = .ok (.getfield 12, 3) := by decide +kernel
theorem dX5_value_125 : decode cX5_value 125 = .ok (.getfield 195, 3) := by decide +kernel
theorem dX5_value_128 : decode cX5_value 128 = .ok (.ireturn, 1) := by decide +kernel
theorem dX5_value_129 : decode cX5_value 129 = .ok (.aload_n 0, 1) := by decide +kernel
theorem dX5_value_130 : decode cX5_value 130 = .ok (.getfield 12, 3) := by decide +kernel
theorem dX5_value_133 : decode cX5_value 133 = .ok (.getfield 198, 3) := by decide +kernel
theorem dX5_value_136 : decode cX5_value 136 = .ok (.ireturn, 1) := by decide +kernel
theorem dX5_value_137 : decode cX5_value 137 = .ok (.aload_n 0, 1) := by decide +kernel
theorem dX5_value_138 : decode cX5_value 138 = .ok (.getfield 12, 3) := by decide +kernel
theorem dX5_value_141 : decode cX5_value 141 = .ok (.invokevirtual 201, 3) := by decide +kernel
theorem dX5_value_144 : decode cX5_value 144 = .ok (.ireturn, 1) := by decide +kernel
theorem dX5_value_145 : decode cX5_value 145 = .ok (.new 44, 3) := by decide +kernel
theorem dX5_value_148 : decode cX5_value 148 = .ok (.dup, 1) := by decide +kernel
theorem dX5_value_149 : decode cX5_value 149 = .ok (.ldc 204, 2) := by decide +kernel
theorem dX5_value_151 : decode cX5_value 151 = .ok (.invokespecial 48, 3) := by decide +kernel
theorem dX5_value_154 : decode cX5_value 154 = .ok (.athrow, 1) := by decide +kernel
theorem dX5_saving_0 : decode cX5_saving 0 = .ok (.iload_n 1, 1) := by decide +kernel
theorem dX5_saving_1 : decode cX5_saving 1 = .ok (.ifCond .lt 11, 3) := by decide +kernel
theorem dX5_saving_4 : decode cX5_saving 4 = .ok (.iload_n 1, 1) := by decide +kernel
theorem dX5_saving_5 : decode cX5_saving 5 = .ok (.aload_n 0, 1) := by decide +kernel
theorem dX5_saving_6 : decode cX5_saving 6 = .ok (.invokevirtual 112, 3) := by decide +kernel
theorem dX5_saving_9 : decode cX5_saving 9 = .ok (.if_icmp .lt 13, 3) := by decide +kernel
theorem dX5_saving_12 : decode cX5_saving 12 = .ok (.new 66, 3) := by decide +kernel
theorem dX5_saving_15 : decode cX5_saving 15 = .ok (.dup, 1) := by decide +kernel
theorem dX5_saving_16 : decode cX5_saving 16 = .ok (.ldc 122, 2) := by decide +kernel
theorem dX5_saving_18 : decode cX5_saving 18 = .ok (.invokespecial 70, 3) := by decide +kernel
theorem dX5_saving_21 : decode cX5_saving 21 = .ok (.athrow, 1) := by decide +kernel
theorem dX5_saving_22 : decode cX5_saving 22 = .ok (.aload_n 0, 1) := by decide +kernel
theorem dX5_saving_23 : decode cX5_saving 23 = .ok (.getfield 22, 3) := by decide +kernel
theorem dX5_saving_26 : decode cX5_saving 26 = .ok (.aload_n 0, 1) := by decide +kernel
theorem dX5_saving_27 : decode cX5_saving 27 = .ok (.getfield 12, 3) := by decide +kernel
theorem dX5_saving_30 : decode cX5_saving 30 = .ok (.iload_n 1, 1) := by decide +kernel
theorem dX5_saving_31 : decode cX5_saving 31 = .ok (.aload_n 0, 1) := by decide +kernel
theorem dX5_saving_32 : decode cX5_saving 32 = .ok (.getfield 22, 3) := by decide +kernel
theorem dX5_saving_35 : decode cX5_saving 35 = .ok (.iload_n 1, 1) := by decide +kernel
theorem dX5_saving_36 : decode cX5_saving 36 = .ok (.invokevirtual 126, 3) := by decide +kernel
theorem dX5_saving_39 : decode cX5_saving 39 = .ok (.invokevirtual 206, 3) := by decide +kernel
theorem dX5_saving_42 : decode cX5_saving 42 = .ok (.ireturn, 1) := by decide +kernel
theorem dX5_bestRing_0 : decode cX5_bestRing 0 = .ok (.aload_n 0, 1) := by decide +kernel
theorem dX5_bestRing_1 : decode cX5_bestRing 1 = .ok (.getfield 22, 3) := by decide +kernel
theorem dX5_bestRing_4 : decode cX5_bestRing 4 = .ok (.aload_n 0, 1) := by decide +kernel
theorem dX5_bestRing_5 : decode cX5_bestRing 5 = .ok (.getfield 12, 3) := by decide +kernel
theorem dX5_bestRing_8 : decode cX5_bestRing 8 = .ok (.invokevirtual 209, 3) := by decide +kernel
theorem dX5_bestRing_11 : decode cX5_bestRing 11 = .ok (.aload_n 0, 1) := by decide +kernel
theorem dX5_bestRing_12 : decode cX5_bestRing 12 = .ok (.getfield 22, 3) := by decide +kernel
theorem dX5_bestRing_15 : decode cX5_bestRing 15 = .ok (.aload_n 0, 1) := by decide +kernel
theorem dX5_bestRing_16 : decode cX5_bestRing 16 = .ok (.getfield 12, 3) := by decide +kernel
theorem dX5_bestRing_19 : decode cX5_bestRing 19 = .ok (.invokevirtual 213, 3) := by decide +kernel
theorem dX5_bestRing_22 : decode cX5_bestRing 22 = .ok (.ireturn, 1) := by decide +kernel
theorem dX5_costByRings_0 : decode cX5_costByRings 0 = .ok (.aload_n 0, 1) := by decide +kernel
theorem dX5_costByRings_1 : decode cX5_costByRings 1 = .ok (.getfield 16, 3) := by decide +kernel
theorem dX5_costByRings_4 : decode cX5_costByRings 4 = .ok (.aload_n 0, 1) := by decide +kernel
theorem dX5_costByRings_5 : decode cX5_costByRings 5 = .ok (.getfield 12, 3) := by decide +kernel
theorem dX5_costByRings_8 : decode cX5_costByRings 8 = .ok (.invokevirtual 216, 3) := by decide +kernel
theorem dX5_costByRings_11 : decode cX5_costByRings 11 = .ok (.aload_n 0, 1) := by decide +kernel
theorem dX5_costByRings_12 : decode cX5_costByRings 12 = .ok (.getfield 22, 3) := by decide +kernel
theorem dX5_costByRings_15 : decode cX5_costByRings 15 = .ok (.aload_n 0, 1) := by decide +kernel
theorem dX5_costByRings_16 : decode cX5_costByRings 16 = .ok (.getfield 16, 3) := by decide +kernel
theorem dX5_costByRings_19 : decode cX5_costByRings 19 = .ok (.invokevirtual 142, 3) := by decide +kernel
theorem dX5_costByRings_22 : decode cX5_costByRings 22 = .ok (.pop, 1) := by decide +kernel
theorem dX5_costByRings_23 : decode cX5_costByRings 23 = .ok (.aload_n 0, 1) := by decide +kernel
theorem dX5_costByRings_24 : decode cX5_costByRings 24 = .ok (.getfield 16, 3) := by decide +kernel
theorem dX5_costByRings_27 : decode cX5_costByRings 27 = .ok (.invokevirtual 189, 3) := by decide +kernel
theorem dX5_costByRings_30 : decode cX5_costByRings 30 = .ok (.ireturn, 1) := by decide +kernel
theorem dX5_leastCost_0 : decode cX5_leastCost 0 = .ok (.aload_n 0, 1) := by decide +kernel
theorem dX5_leastCost_1 : decode cX5_leastCost 1 = .ok (.getfield 29, 3) := by decide +kernel
theorem dX5_leastCost_4 : decode cX5_leastCost 4 = .ok (.aload_n 0, 1) := by decide +kernel
theorem dX5_leastCost_5 : decode cX5_leastCost 5 = .ok (.getfield 12, 3) := by decide +kernel
theorem dX5_leastCost_8 : decode cX5_leastCost 8 = .ok (.invokevirtual 219, 3) := by decide +kernel
theorem dX5_leastCost_11 : decode cX5_leastCost 11 = .ok (.ireturn, 1) := by decide +kernel
theorem dX5_ringsWithout_0 : decode cX5_ringsWithout 0 = .ok (.aload_n 0, 1) := by decide +kernel
theorem dX5_ringsWithout_1 : decode cX5_ringsWithout 1 = .ok (.getfield 12, 3) := by decide +kernel
theorem dX5_ringsWithout_4 : decode cX5_ringsWithout 4 = .ok (.iload_n 1, 1) := by decide +kernel
theorem dX5_ringsWithout_5 : decode cX5_ringsWithout 5 = .ok (.invokevirtual 90, 3) := by decide +kernel
theorem dX5_ringsWithout_8 : decode cX5_ringsWithout 8 = .ok (.ifCond .ne 13, 3) := by decide +kernel
theorem dX5_ringsWithout_11 : decode cX5_ringsWithout 11 = .ok (.new 66, 3) := by decide +kernel
theorem dX5_ringsWithout_14 : decode cX5_ringsWithout 14 = .ok (.dup, 1) := by decide +kernel
theorem dX5_ringsWithout_15 : decode cX5_ringsWithout 15 = .ok (.ldc 93, 2) := by decide +kernel
theorem dX5_ringsWithout_17 : decode cX5_ringsWithout 17 = .ok (.invokespecial 70, 3) := by decide +kernel
theorem dX5_ringsWithout_20 : decode cX5_ringsWithout 20 = .ok (.athrow, 1) := by decide +kernel
theorem dX5_ringsWithout_21 : decode cX5_ringsWithout 21 = .ok (.aload_n 0, 1) := by decide +kernel
theorem dX5_ringsWithout_22 : decode cX5_ringsWithout 22 = .ok (.getfield 22, 3) := by decide +kernel
theorem dX5_ringsWithout_25 : decode cX5_ringsWithout 25 = .ok (.aload_n 0, 1) := by decide +kernel
theorem dX5_ringsWithout_26 : decode cX5_ringsWithout 26 = .ok (.getfield 12, 3) := by decide +kernel
theorem dX5_ringsWithout_29 : decode cX5_ringsWithout 29 = .ok (.invokevirtual 209, 3) := by decide +kernel
theorem dX5_ringsWithout_32 : decode cX5_ringsWithout 32 = .ok (.aload_n 0, 1) := by decide +kernel
theorem dX5_ringsWithout_33 : decode cX5_ringsWithout 33 = .ok (.getfield 22, 3) := by decide +kernel
theorem dX5_ringsWithout_36 : decode cX5_ringsWithout 36 = .ok (.invokevirtual 222, 3) := by decide +kernel
theorem dX5_ringsWithout_39 : decode cX5_ringsWithout 39 = .ok (.aload_n 0, 1) := by decide +kernel
theorem dX5_ringsWithout_40 : decode cX5_ringsWithout 40 = .ok (.getfield 22, 3) := by decide +kernel
theorem dX5_ringsWithout_43 : decode cX5_ringsWithout 43 = .ok (.aload_n 0, 1) := by decide +kernel
theorem dX5_ringsWithout_44 : decode cX5_ringsWithout 44 = .ok (.getfield 12, 3) := by decide +kernel
theorem dX5_ringsWithout_47 : decode cX5_ringsWithout 47 = .ok (.iload_n 1, 1) := by decide +kernel
theorem dX5_ringsWithout_48 : decode cX5_ringsWithout 48 = .ok (.invokevirtual 225, 3) := by decide +kernel
theorem dX5_ringsWithout_51 : decode cX5_ringsWithout 51 = .ok (.ireturn, 1) := by decide +kernel
theorem dX5_keyPromise_0 : decode cX5_keyPromise 0 = .ok (.aload_n 0, 1) := by decide +kernel
theorem dX5_keyPromise_1 : decode cX5_keyPromise 1 = .ok (.getfield 22, 3) := by decide +kernel
theorem dX5_keyPromise_4 : decode cX5_keyPromise 4 = .ok (.aload_n 0, 1) := by decide +kernel
theorem dX5_keyPromise_5 : decode cX5_keyPromise 5 = .ok (.getfield 12, 3) := by decide +kernel
theorem dX5_keyPromise_8 : decode cX5_keyPromise 8 = .ok (.invokevirtual 209, 3) := by decide +kernel
theorem dX5_keyPromise_11 : decode cX5_keyPromise 11 = .ok (.aload_n 0, 1) := by decide +kernel
theorem dX5_keyPromise_12 : decode cX5_keyPromise 12 = .ok (.getfield 22, 3) := by decide +kernel
theorem dX5_keyPromise_15 : decode cX5_keyPromise 15 = .ok (.invokevirtual 222, 3) := by decide +kernel
theorem dX5_keyPromise_18 : decode cX5_keyPromise 18 = .ok (.iconst (-1), 1) := by decide +kernel
theorem dX5_keyPromise_19 : decode cX5_keyPromise 19 = .ok (.istore_n 1, 1) := by decide +kernel
theorem dX5_keyPromise_20 : decode cX5_keyPromise 20 = .ok (.iconst 0, 1) := by decide +kernel
theorem dX5_keyPromise_21 : decode cX5_keyPromise 21 = .ok (.istore_n 2, 1) := by decide +kernel
theorem dX5_keyPromise_22 : decode cX5_keyPromise 22 = .ok (.iconst 0, 1) := by decide +kernel
theorem dX5_keyPromise_23 : decode cX5_keyPromise 23 = .ok (.istore_n 3, 1) := by decide +kernel
theorem dX5_keyPromise_24 : decode cX5_keyPromise 24 = .ok (.iload_n 3, 1) := by decide +kernel
theorem dX5_keyPromise_25 : decode cX5_keyPromise 25 = .ok (.aload_n 0, 1) := by decide +kernel
theorem dX5_keyPromise_26 : decode cX5_keyPromise 26 = .ok (.getfield 12, 3) := by decide +kernel
theorem dX5_keyPromise_29 : decode cX5_keyPromise 29 = .ok (.getfield 54, 3) := by decide +kernel
theorem dX5_keyPromise_32 : decode cX5_keyPromise 32 = .ok (.if_icmp .ge 50, 3) := by decide +kernel
theorem dX5_keyPromise_35 : decode cX5_keyPromise 35 = .ok (.aload_n 0, 1) := by decide +kernel
theorem dX5_keyPromise_36 : decode cX5_keyPromise 36 = .ok (.getfield 12, 3) := by decide +kernel
theorem dX5_keyPromise_39 : decode cX5_keyPromise 39 = .ok (.iload_n 3, 1) := by decide +kernel
theorem dX5_keyPromise_40 : decode cX5_keyPromise 40 = .ok (.invokevirtual 229, 3) := by decide +kernel
theorem dX5_keyPromise_43 : decode cX5_keyPromise 43 = .ok (.ifCond .eq 33, 3) := by decide +kernel
theorem dX5_keyPromise_46 : decode cX5_keyPromise 46 = .ok (.aload_n 0, 1) := by decide +kernel
theorem dX5_keyPromise_47 : decode cX5_keyPromise 47 = .ok (.getfield 22, 3) := by decide +kernel
theorem dX5_keyPromise_50 : decode cX5_keyPromise 50 = .ok (.aload_n 0, 1) := by decide +kernel
theorem dX5_keyPromise_51 : decode cX5_keyPromise 51 = .ok (.getfield 12, 3) := by decide +kernel
theorem dX5_keyPromise_54 : decode cX5_keyPromise 54 = .ok (.iload_n 3, 1) := by decide +kernel
theorem dX5_keyPromise_55 : decode cX5_keyPromise 55 = .ok (.invokevirtual 225, 3) := by decide +kernel
theorem dX5_keyPromise_58 : decode cX5_keyPromise 58 = .ok (.istore 4, 2) := by decide +kernel
theorem dX5_keyPromise_60 : decode cX5_keyPromise 60 = .ok (.iload_n 1, 1) := by decide +kernel
theorem dX5_keyPromise_61 : decode cX5_keyPromise 61 = .ok (.iconst (-1), 1) := by decide +kernel
theorem dX5_keyPromise_62 : decode cX5_keyPromise 62 = .ok (.if_icmp .eq 9, 3) := by decide +kernel
theorem dX5_keyPromise_65 : decode cX5_keyPromise 65 = .ok (.iload 4, 2) := by decide +kernel
theorem dX5_keyPromise_67 : decode cX5_keyPromise 67 = .ok (.iload_n 2, 1) := by decide +kernel
theorem dX5_keyPromise_68 : decode cX5_keyPromise 68 = .ok (.if_icmp .ge 8, 3) := by decide +kernel
theorem dX5_keyPromise_71 : decode cX5_keyPromise 71 = .ok (.iload_n 3, 1) := by decide +kernel
theorem dX5_keyPromise_72 : decode cX5_keyPromise 72 = .ok (.istore_n 1, 1) := by decide +kernel
theorem dX5_keyPromise_73 : decode cX5_keyPromise 73 = .ok (.iload 4, 2) := by decide +kernel
theorem dX5_keyPromise_75 : decode cX5_keyPromise 75 = .ok (.istore_n 2, 1) := by decide +kernel
theorem dX5_keyPromise_76 : decode cX5_keyPromise 76 = .ok (.iinc 3 1, 3) := by decide +kernel
theorem dX5_keyPromise_79 : decode cX5_keyPromise 79 = .ok (.goto (-55), 3) := by decide +kernel
theorem dX5_keyPromise_82 : decode cX5_keyPromise 82 = .ok (.iload_n 1, 1) := by decide +kernel
theorem dX5_keyPromise_83 : decode cX5_keyPromise 83 = .ok (.ireturn, 1) := by decide +kernel
theorem dX5_mutual_0 : decode cX5_mutual 0 = .ok (.aload_n 0, 1) := by decide +kernel
theorem dX5_mutual_1 : decode cX5_mutual 1 = .ok (.getfield 12, 3) := by decide +kernel
theorem dX5_mutual_4 : decode cX5_mutual 4 = .ok (.iload_n 1, 1) := by decide +kernel
theorem dX5_mutual_5 : decode cX5_mutual 5 = .ok (.invokevirtual 62, 3) := by decide +kernel
theorem dX5_mutual_8 : decode cX5_mutual 8 = .ok (.ifCond .ne 13, 3) := by decide +kernel
theorem dX5_mutual_11 : decode cX5_mutual 11 = .ok (.new 66, 3) := by decide +kernel
theorem dX5_mutual_14 : decode cX5_mutual 14 = .ok (.dup, 1) := by decide +kernel
theorem dX5_mutual_15 : decode cX5_mutual 15 = .ok (.ldc 68, 2) := by decide +kernel
theorem dX5_mutual_17 : decode cX5_mutual 17 = .ok (.invokespecial 70, 3) := by decide +kernel
theorem dX5_mutual_20 : decode cX5_mutual 20 = .ok (.athrow, 1) := by decide +kernel
theorem dX5_mutual_21 : decode cX5_mutual 21 = .ok (.iconst 0, 1) := by decide +kernel
theorem dX5_mutual_22 : decode cX5_mutual 22 = .ok (.istore_n 2, 1) := by decide +kernel
theorem dX5_mutual_23 : decode cX5_mutual 23 = .ok (.iconst 0, 1) := by decide +kernel
theorem dX5_mutual_24 : decode cX5_mutual 24 = .ok (.istore_n 3, 1) := by decide +kernel
theorem dX5_mutual_25 : decode cX5_mutual 25 = .ok (.iload_n 3, 1) := by decide +kernel
theorem dX5_mutual_26 : decode cX5_mutual 26 = .ok (.aload_n 0, 1) := by decide +kernel
theorem dX5_mutual_27 : decode cX5_mutual 27 = .ok (.getfield 12, 3) := by decide +kernel
theorem dX5_mutual_30 : decode cX5_mutual 30 = .ok (.getfield 177, 3) := by decide +kernel
theorem dX5_mutual_33 : decode cX5_mutual 33 = .ok (.if_icmp .ge 33, 3) := by decide +kernel
theorem dX5_mutual_36 : decode cX5_mutual 36 = .ok (.iload_n 2, 1) := by decide +kernel
theorem dX5_mutual_37 : decode cX5_mutual 37 = .ok (.aload_n 0, 1) := by decide +kernel
theorem dX5_mutual_38 : decode cX5_mutual 38 = .ok (.getfield 12, 3) := by decide +kernel
theorem dX5_mutual_41 : decode cX5_mutual 41 = .ok (.iload_n 1, 1) := by decide +kernel
theorem dX5_mutual_42 : decode cX5_mutual 42 = .ok (.iload_n 3, 1) := by decide +kernel
theorem dX5_mutual_43 : decode cX5_mutual 43 = .ok (.invokevirtual 165, 3) := by decide +kernel
theorem dX5_mutual_46 : decode cX5_mutual 46 = .ok (.aload_n 0, 1) := by decide +kernel
theorem dX5_mutual_47 : decode cX5_mutual 47 = .ok (.getfield 12, 3) := by decide +kernel
theorem dX5_mutual_50 : decode cX5_mutual 50 = .ok (.iload_n 3, 1) := by decide +kernel
theorem dX5_mutual_51 : decode cX5_mutual 51 = .ok (.iload_n 1, 1) := by decide +kernel
theorem dX5_mutual_52 : decode cX5_mutual 52 = .ok (.invokevirtual 165, 3) := by decide +kernel
theorem dX5_mutual_55 : decode cX5_mutual 55 = .ok (.invokestatic 232, 3) := by decide +kernel
theorem dX5_mutual_58 : decode cX5_mutual 58 = .ok (.iadd, 1) := by decide +kernel
theorem dX5_mutual_59 : decode cX5_mutual 59 = .ok (.istore_n 2, 1) := by decide +kernel
theorem dX5_mutual_60 : decode cX5_mutual 60 = .ok (.iinc 3 1, 3) := by decide +kernel
theorem dX5_mutual_63 : decode cX5_mutual 63 = .ok (.goto (-38), 3) := by decide +kernel
theorem dX5_mutual_66 : decode cX5_mutual 66 = .ok (.iload_n 2, 1) := by decide +kernel
theorem dX5_mutual_67 : decode cX5_mutual 67 = .ok (.ireturn, 1) := by decide +kernel
theorem dX5_append_0 : decode cX5_append 0 = .ok (.iload_n 1, 1) := by decide +kernel
theorem dX5_append_1 : decode cX5_append 1 = .ok (.ifCond .lt 9, 3) := by decide +kernel
theorem dX5_append_4 : decode cX5_append 4 = .ok (.iload_n 1, 1) := by decide +kernel
theorem dX5_append_5 : decode cX5_append 5 = .ok (.bipush 127, 2) := by decide +kernel
theorem dX5_append_7 : decode cX5_append 7 = .ok (.if_icmp .le 13, 3) := by decide +kernel
theorem dX5_append_10 : decode cX5_append 10 = .ok (.new 44, 3) := by decide +kernel
theorem dX5_append_13 : decode cX5_append 13 = .ok (.dup, 1) := by decide +kernel
theorem dX5_append_14 : decode cX5_append 14 = .ok (.ldc 237, 2) := by decide +kernel
theorem dX5_append_16 : decode cX5_append 16 = .ok (.invokespecial 48, 3) := by decide +kernel
theorem dX5_append_19 : decode cX5_append 19 = .ok (.athrow, 1) := by decide +kernel
theorem dX5_append_20 : decode cX5_append 20 = .ok (.aload_n 0, 1) := by decide +kernel
theorem dX5_append_21 : decode cX5_append 21 = .ok (.getfield 36, 3) := by decide +kernel
theorem dX5_append_24 : decode cX5_append 24 = .ok (.invokevirtual 239, 3) := by decide +kernel
theorem dX5_append_27 : decode cX5_append 27 = .ok (.ifCond .eq 13, 3) := by decide +kernel
theorem dX5_append_30 : decode cX5_append 30 = .ok (.new 81, 3) := by decide +kernel
theorem dX5_append_33 : decode cX5_append 33 = .ok (.dup, 1) := by decide +kernel
theorem dX5_append_34 : decode cX5_append 34 = .ok (.ldc 240, 2) := by decide +kernel
theorem dX5_append_36 : decode cX5_append 36 = .ok (.invokespecial 85, 3) := by decide +kernel
theorem dX5_append_39 : decode cX5_append 39 = .ok (.athrow, 1) := by decide +kernel
theorem dX5_append_40 : decode cX5_append 40 = .ok (.aload_n 0, 1) := by decide +kernel
theorem dX5_append_41 : decode cX5_append 41 = .ok (.getfield 36, 3) := by decide +kernel
theorem dX5_append_44 : decode cX5_append 44 = .ok (.iload_n 1, 1) := by decide +kernel
theorem dX5_append_45 : decode cX5_append 45 = .ok (.invokevirtual 242, 3) := by decide +kernel
theorem dX5_append_48 : decode cX5_append 48 = .ok (.aload_n 0, 1) := by decide +kernel
theorem dX5_append_49 : decode cX5_append 49 = .ok (.getfield 36, 3) := by decide +kernel
theorem dX5_append_52 : decode cX5_append 52 = .ok (.getfield 244, 3) := by decide +kernel
theorem dX5_append_55 : decode cX5_append 55 = .ok (.ireturn, 1) := by decide +kernel
theorem dX5_clearText_0 : decode cX5_clearText 0 = .ok (.aload_n 0, 1) := by decide +kernel
theorem dX5_clearText_1 : decode cX5_clearText 1 = .ok (.getfield 36, 3) := by decide +kernel
theorem dX5_clearText_4 : decode cX5_clearText 4 = .ok (.getfield 244, 3) := by decide +kernel
theorem dX5_clearText_7 : decode cX5_clearText 7 = .ok (.istore_n 1, 1) := by decide +kernel
theorem dX5_clearText_8 : decode cX5_clearText 8 = .ok (.aload_n 0, 1) := by decide +kernel
theorem dX5_clearText_9 : decode cX5_clearText 9 = .ok (.getfield 36, 3) := by decide +kernel
theorem dX5_clearText_12 : decode cX5_clearText 12 = .ok (.invokevirtual 247, 3) := by decide +kernel
theorem dX5_clearText_15 : decode cX5_clearText 15 = .ok (.iload_n 1, 1) := by decide +kernel
theorem dX5_clearText_16 : decode cX5_clearText 16 = .ok (.ireturn, 1) := by decide +kernel
theorem dX5_carryOut_0 : decode cX5_carryOut 0 = .ok (.aload_n 0, 1) := by decide +kernel
theorem dX5_carryOut_1 : decode cX5_carryOut 1 = .ok (.getfield 36, 3) := by decide +kernel
theorem dX5_carryOut_4 : decode cX5_carryOut 4 = .ok (.invokevirtual 250, 3) := by decide +kernel
theorem dX5_carryOut_7 : decode cX5_carryOut 7 = .ok (.istore_n 1, 1) := by decide +kernel
theorem dX5_carryOut_8 : decode cX5_carryOut 8 = .ok (.iload_n 1, 1) := by decide +kernel
theorem dX5_carryOut_9 : decode cX5_carryOut 9 = .ok (.iconst (-1), 1) := by decide +kernel
theorem dX5_carryOut_10 : decode cX5_carryOut 10 = .ok (.if_icmp .eq 8, 3) := by decide +kernel
theorem dX5_carryOut_13 : decode cX5_carryOut 13 = .ok (.bipush (-10), 2) := by decide +kernel
theorem dX5_carryOut_15 : decode cX5_carryOut 15 = .ok (.iload_n 1, 1) := by decide +kernel
theorem dX5_carryOut_16 : decode cX5_carryOut 16 = .ok (.isub, 1) := by decide +kernel
theorem dX5_carryOut_17 : decode cX5_carryOut 17 = .ok (.ireturn, 1) := by decide +kernel
theorem dX5_carryOut_18 : decode cX5_carryOut 18 = .ok (.aload_n 0, 1) := by decide +kernel
theorem dX5_carryOut_19 : decode cX5_carryOut 19 = .ok (.invokevirtual 51, 3) := by decide +kernel
theorem dX5_carryOut_22 : decode cX5_carryOut 22 = .ok (.aload_n 0, 1) := by decide +kernel
theorem dX5_carryOut_23 : decode cX5_carryOut 23 = .ok (.getfield 36, 3) := by decide +kernel
theorem dX5_carryOut_26 : decode cX5_carryOut 26 = .ok (.invokevirtual 253, 3) := by decide +kernel
theorem dX5_carryOut_29 : decode cX5_carryOut 29 = .ok (.iconst 0, 1) := by decide +kernel
theorem dX5_carryOut_30 : decode cX5_carryOut 30 = .ok (.istore_n 2, 1) := by decide +kernel
theorem dX5_carryOut_31 : decode cX5_carryOut 31 = .ok (.iload_n 2, 1) := by decide +kernel
theorem dX5_carryOut_32 : decode cX5_carryOut 32 = .ok (.bipush 100, 2) := by decide +kernel
theorem dX5_carryOut_34 : decode cX5_carryOut 34 = .ok (.if_icmp .ge 26, 3) := by decide +kernel
theorem dX5_carryOut_37 : decode cX5_carryOut 37 = .ok (.aload_n 0, 1) := by decide +kernel
theorem dX5_carryOut_38 : decode cX5_carryOut 38 = .ok (.getfield 36, 3) := by decide +kernel
theorem dX5_carryOut_41 : decode cX5_carryOut 41 = .ok (.invokevirtual 256, 3) := by decide +kernel
theorem dX5_carryOut_44 : decode cX5_carryOut 44 = .ok (.ifCond .eq 16, 3) := by decide +kernel
theorem dX5_carryOut_47 : decode cX5_carryOut 47 = .ok (.aload_n 0, 1) := by decide +kernel
theorem dX5_carryOut_48 : decode cX5_carryOut 48 = .ok (.invokevirtual 259, 3) := by decide +kernel
theorem dX5_carryOut_51 : decode cX5_carryOut 51 = .ok (.ifCond .eq 9, 3) := by decide +kernel
theorem dX5_carryOut_54 : decode cX5_carryOut 54 = .ok (.iinc 2 1, 3) := by decide +kernel
theorem dX5_carryOut_57 : decode cX5_carryOut 57 = .ok (.goto (-26), 3) := by decide +kernel
theorem dX5_carryOut_60 : decode cX5_carryOut 60 = .ok (.iload_n 2, 1) := by decide +kernel
theorem dX5_carryOut_61 : decode cX5_carryOut 61 = .ok (.ireturn, 1) := by decide +kernel
theorem dX5_undo_0 : decode cX5_undo 0 = .ok (.aload_n 0, 1) := by decide +kernel
theorem dX5_undo_1 : decode cX5_undo 1 = .ok (.getfield 262, 3) := by decide +kernel
theorem dX5_undo_4 : decode cX5_undo 4 = .ok (.ifCond .le 25, 3) := by decide +kernel
theorem dX5_undo_7 : decode cX5_undo 7 = .ok (.aload_n 0, 1) := by decide +kernel
theorem dX5_undo_8 : decode cX5_undo 8 = .ok (.getfield 262, 3) := by decide +kernel
theorem dX5_undo_11 : decode cX5_undo 11 = .ok (.iconst 4, 1) := by decide +kernel
theorem dX5_undo_12 : decode cX5_undo 12 = .ok (.if_icmp .gt 17, 3) := by decide +kernel
theorem dX5_undo_15 : decode cX5_undo 15 = .ok (.aload_n 0, 1) := by decide +kernel
theorem dX5_undo_16 : decode cX5_undo 16 = .ok (.getfield 40, 3) := by decide +kernel
theorem dX5_undo_19 : decode cX5_undo 19 = .ok (.aload_n 0, 1) := by decide +kernel
theorem dX5_undo_20 : decode cX5_undo 20 = .ok (.getfield 262, 3) := by decide +kernel
theorem dX5_undo_23 : decode cX5_undo 23 = .ok (.iconst 1, 1) := by decide +kernel
theorem dX5_undo_24 : decode cX5_undo 24 = .ok (.isub, 1) := by decide +kernel
theorem dX5_undo_25 : decode cX5_undo 25 = .ok (.aaload, 1) := by decide +kernel
theorem dX5_undo_26 : decode cX5_undo 26 = .ok (.goto 4, 3) := by decide +kernel
theorem dX5_undo_29 : decode cX5_undo 29 = .ok (.aconst_null, 1) := by decide +kernel
theorem dX5_undo_30 : decode cX5_undo 30 = .ok (.astore_n 1, 1) := by decide +kernel
theorem dX5_undo_31 : decode cX5_undo 31 = .ok (.aload_n 1, 1) := by decide +kernel
theorem dX5_undo_32 : decode cX5_undo 32 = .ok (.ifnonnull 14, 3) := by decide +kernel
theorem dX5_undo_35 : decode cX5_undo 35 = .ok (.new 81, 3) := by decide +kernel
theorem dX5_undo_38 : decode cX5_undo 38 = .ok (.dup, 1) := by decide +kernel
theorem dX5_undo_39 : decode cX5_undo 39 = .ok (.ldc_w 265, 3) := by decide +kernel
theorem dX5_undo_42 : decode cX5_undo 42 = .ok (.invokespecial 85, 3) := by decide +kernel
theorem dX5_undo_45 : decode cX5_undo 45 = .ok (.athrow, 1) := by decide +kernel
theorem dX5_undo_46 : decode cX5_undo 46 = .ok (.aload_n 0, 1) := by decide +kernel
theorem dX5_undo_47 : decode cX5_undo 47 = .ok (.getfield 12, 3) := by decide +kernel
theorem dX5_undo_50 : decode cX5_undo 50 = .ok (.aload_n 1, 1) := by decide +kernel
theorem dX5_undo_51 : decode cX5_undo 51 = .ok (.invokevirtual 216, 3) := by decide +kernel
theorem dX5_undo_54 : decode cX5_undo 54 = .ok (.aload_n 0, 1) := by decide +kernel
theorem dX5_undo_55 : decode cX5_undo 55 = .ok (.dup, 1) := by decide +kernel
theorem dX5_undo_56 : decode cX5_undo 56 = .ok (.getfield 262, 3) := by decide +kernel
theorem dX5_undo_59 : decode cX5_undo 59 = .ok (.iconst 1, 1) := by decide +kernel
theorem dX5_undo_60 : decode cX5_undo 60 = .ok (.isub, 1) := by decide +kernel
theorem dX5_undo_61 : decode cX5_undo 61 = .ok (.putfield 262, 3) := by decide +kernel
theorem dX5_undo_64 : decode cX5_undo 64 = .ok (.aload_n 0, 1) := by decide +kernel
theorem dX5_undo_65 : decode cX5_undo 65 = .ok (.getfield 262, 3) := by decide +kernel
theorem dX5_undo_68 : decode cX5_undo 68 = .ok (.ireturn, 1) := by decide +kernel
theorem dX5_digest_0 : decode cX5_digest 0 = .ok (.ldc2_w 267, 3) := by decide +kernel
theorem dX5_digest_3 : decode cX5_digest 3 = .ok (.aload_n 0, 1) := by decide +kernel
theorem dX5_digest_4 : decode cX5_digest 4 = .ok (.getfield 36, 3) := by decide +kernel
theorem dX5_digest_7 : decode cX5_digest 7 = .ok (.getfield 244, 3) := by decide +kernel
theorem dX5_digest_10 : decode cX5_digest 10 = .ok (.i2l, 1) := by decide +kernel
theorem dX5_digest_11 : decode cX5_digest 11 = .ok (.ladd, 1) := by decide +kernel
theorem dX5_digest_12 : decode cX5_digest 12 = .ok (.lstore_n 1, 1) := by decide +kernel
theorem dX5_digest_13 : decode cX5_digest 13 = .ok (.iconst 0, 1) := by decide +kernel
theorem dX5_digest_14 : decode cX5_digest 14 = .ok (.istore_n 3, 1) := by decide +kernel
theorem dX5_digest_15 : decode cX5_digest 15 = .ok (.iload_n 3, 1) := by decide +kernel
theorem dX5_digest_16 : decode cX5_digest 16 = .ok (.bipush 11, 2) := by decide +kernel
theorem dX5_digest_18 : decode cX5_digest 18 = .ok (.if_icmp .ge 22, 3) := by decide +kernel
theorem dX5_digest_21 : decode cX5_digest 21 = .ok (.ldc2_w 269, 3) := by decide +kernel
theorem dX5_digest_24 : decode cX5_digest 24 = .ok (.lload_n 1, 1) := by decide +kernel
theorem dX5_digest_25 : decode cX5_digest 25 = .ok (.lmul, 1) := by decide +kernel
theorem dX5_digest_26 : decode cX5_digest 26 = .ok (.aload_n 0, 1) := by decide +kernel
theorem dX5_digest_27 : decode cX5_digest 27 = .ok (.iload_n 3, 1) := by decide +kernel
theorem dX5_digest_28 : decode cX5_digest 28 = .ok (.invokevirtual 271, 3) := by decide +kernel
theorem dX5_digest_31 : decode cX5_digest 31 = .ok (.i2l, 1) := by decide +kernel
theorem dX5_digest_32 : decode cX5_digest 32 = .ok (.ladd, 1) := by decide +kernel
theorem dX5_digest_33 : decode cX5_digest 33 = .ok (.lstore_n 1, 1) := by decide +kernel
theorem dX5_digest_34 : decode cX5_digest 34 = .ok (.iinc 3 1, 3) := by decide +kernel
theorem dX5_digest_37 : decode cX5_digest 37 = .ok (.goto (-22), 3) := by decide +kernel
theorem dX5_digest_40 : decode cX5_digest 40 = .ok (.iconst 0, 1) := by decide +kernel
theorem dX5_digest_41 : decode cX5_digest 41 = .ok (.istore_n 3, 1) := by decide +kernel
theorem dX5_digest_42 : decode cX5_digest 42 = .ok (.iload_n 3, 1) := by decide +kernel
theorem dX5_digest_43 : decode cX5_digest 43 = .ok (.aload_n 0, 1) := by decide +kernel
theorem dX5_digest_44 : decode cX5_digest 44 = .ok (.getfield 12, 3) := by decide +kernel
theorem dX5_digest_47 : decode cX5_digest 47 = .ok (.getfield 54, 3) := by decide +kernel
theorem dX5_digest_50 : decode cX5_digest 50 = .ok (.if_icmp .ge 40, 3) := by decide +kernel
theorem dX5_digest_53 : decode cX5_digest 53 = .ok (.iconst 0, 1) := by decide +kernel
theorem dX5_digest_54 : decode cX5_digest 54 = .ok (.istore 4, 2) := by decide +kernel
theorem dX5_digest_56 : decode cX5_digest 56 = .ok (.iload 4, 2) := by decide +kernel
theorem dX5_digest_58 : decode cX5_digest 58 = .ok (.bipush 8, 2) := by decide +kernel
theorem dX5_digest_60 : decode cX5_digest 60 = .ok (.if_icmp .ge 24, 3) := by decide +kernel
theorem dX5_digest_63 : decode cX5_digest 63 = .ok (.ldc2_w 269, 3) := by decide +kernel
theorem dX5_digest_66 : decode cX5_digest 66 = .ok (.lload_n 1, 1) := by decide +kernel
theorem dX5_digest_67 : decode cX5_digest 67 = .ok (.lmul, 1) := by decide +kernel
theorem dX5_digest_68 : decode cX5_digest 68 = .ok (.aload_n 0, 1) := by decide +kernel
theorem dX5_digest_69 : decode cX5_digest 69 = .ok (.iload_n 3, 1) := by decide +kernel
theorem dX5_digest_70 : decode cX5_digest 70 = .ok (.iload 4, 2) := by decide +kernel
theorem dX5_digest_72 : decode cX5_digest 72 = .ok (.invokevirtual 274, 3) := by decide +kernel
theorem dX5_digest_75 : decode cX5_digest 75 = .ok (.i2l, 1) := by decide +kernel
theorem dX5_digest_76 : decode cX5_digest 76 = .ok (.ladd, 1) := by decide +kernel
theorem dX5_digest_77 : decode cX5_digest 77 = .ok (.lstore_n 1, 1) := by decide +kernel
theorem dX5_digest_78 : decode cX5_digest 78 = .ok (.iinc 4 1, 3) := by decide +kernel
theorem dX5_digest_81 : decode cX5_digest 81 = .ok (.goto (-25), 3) := by decide +kernel
theorem dX5_digest_84 : decode cX5_digest 84 = .ok (.iinc 3 1, 3) := by decide +kernel
theorem dX5_digest_87 : decode cX5_digest 87 = .ok (.goto (-45), 3) := by decide +kernel
theorem dX5_digest_90 : decode cX5_digest 90 = .ok (.iconst 0, 1) := by decide +kernel
theorem dX5_digest_91 : decode cX5_digest 91 = .ok (.istore_n 3, 1) := by decide +kernel
theorem dX5_digest_92 : decode cX5_digest 92 = .ok (.iload_n 3, 1) := by decide +kernel
theorem dX5_digest_93 : decode cX5_digest 93 = .ok (.aload_n 0, 1) := by decide +kernel
theorem dX5_digest_94 : decode cX5_digest 94 = .ok (.getfield 12, 3) := by decide +kernel
theorem dX5_digest_97 : decode cX5_digest 97 = .ok (.getfield 177, 3) := by decide +kernel
theorem dX5_digest_100 : decode cX5_digest 100 = .ok (.if_icmp .ge 64, 3) := by decide +kernel
theorem dX5_digest_103 : decode cX5_digest 103 = .ok (.ldc2_w 269, 3) := by decide +kernel
theorem dX5_digest_106 : decode cX5_digest 106 = .ok (.lload_n 1, 1) := by decide +kernel
theorem dX5_digest_107 : decode cX5_digest 107 = .ok (.lmul, 1) := by decide +kernel
theorem dX5_digest_108 : decode cX5_digest 108 = .ok (.aload_n 0, 1) := by decide +kernel
theorem dX5_digest_109 : decode cX5_digest 109 = .ok (.getfield 12, 3) := by decide +kernel
theorem dX5_digest_112 : decode cX5_digest 112 = .ok (.iload_n 3, 1) := by decide +kernel
theorem dX5_digest_113 : decode cX5_digest 113 = .ok (.invokevirtual 169, 3) := by decide +kernel
theorem dX5_digest_116 : decode cX5_digest 116 = .ok (.i2l, 1) := by decide +kernel
theorem dX5_digest_117 : decode cX5_digest 117 = .ok (.ladd, 1) := by decide +kernel
theorem dX5_digest_118 : decode cX5_digest 118 = .ok (.lstore_n 1, 1) := by decide +kernel
theorem dX5_digest_119 : decode cX5_digest 119 = .ok (.iconst 0, 1) := by decide +kernel
theorem dX5_digest_120 : decode cX5_digest 120 = .ok (.istore 4, 2) := by decide +kernel
theorem dX5_digest_122 : decode cX5_digest 122 = .ok (.iload 4, 2) := by decide +kernel
theorem dX5_digest_124 : decode cX5_digest 124 = .ok (.aload_n 0, 1) := by decide +kernel
theorem dX5_digest_125 : decode cX5_digest 125 = .ok (.getfield 12, 3) := by decide +kernel
theorem dX5_digest_128 : decode cX5_digest 128 = .ok (.getfield 177, 3) := by decide +kernel
theorem dX5_digest_131 : decode cX5_digest 131 = .ok (.if_icmp .ge 27, 3) := by decide +kernel
theorem dX5_digest_134 : decode cX5_digest 134 = .ok (.ldc2_w 269, 3) := by decide +kernel
theorem dX5_digest_137 : decode cX5_digest 137 = .ok (.lload_n 1, 1) := by decide +kernel
theorem dX5_digest_138 : decode cX5_digest 138 = .ok (.lmul, 1) := by decide +kernel
theorem dX5_digest_139 : decode cX5_digest 139 = .ok (.aload_n 0, 1) := by decide +kernel
theorem dX5_digest_140 : decode cX5_digest 140 = .ok (.getfield 12, 3) := by decide +kernel
theorem dX5_digest_143 : decode cX5_digest 143 = .ok (.iload_n 3, 1) := by decide +kernel
theorem dX5_digest_144 : decode cX5_digest 144 = .ok (.iload 4, 2) := by decide +kernel
theorem dX5_digest_146 : decode cX5_digest 146 = .ok (.invokevirtual 165, 3) := by decide +kernel
theorem dX5_digest_149 : decode cX5_digest 149 = .ok (.i2l, 1) := by decide +kernel
theorem dX5_digest_150 : decode cX5_digest 150 = .ok (.ladd, 1) := by decide +kernel
theorem dX5_digest_151 : decode cX5_digest 151 = .ok (.lstore_n 1, 1) := by decide +kernel
theorem dX5_digest_152 : decode cX5_digest 152 = .ok (.iinc 4 1, 3) := by decide +kernel
theorem dX5_digest_155 : decode cX5_digest 155 = .ok (.goto (-33), 3) := by decide +kernel
theorem dX5_digest_158 : decode cX5_digest 158 = .ok (.iinc 3 1, 3) := by decide +kernel
theorem dX5_digest_161 : decode cX5_digest 161 = .ok (.goto (-69), 3) := by decide +kernel
theorem dX5_digest_164 : decode cX5_digest 164 = .ok (.ldc2_w 269, 3) := by decide +kernel
theorem dX5_digest_167 : decode cX5_digest 167 = .ok (.lload_n 1, 1) := by decide +kernel
theorem dX5_digest_168 : decode cX5_digest 168 = .ok (.lmul, 1) := by decide +kernel
theorem dX5_digest_169 : decode cX5_digest 169 = .ok (.aload_n 0, 1) := by decide +kernel
theorem dX5_digest_170 : decode cX5_digest 170 = .ok (.invokevirtual 277, 3) := by decide +kernel
theorem dX5_digest_173 : decode cX5_digest 173 = .ok (.i2l, 1) := by decide +kernel
theorem dX5_digest_174 : decode cX5_digest 174 = .ok (.ladd, 1) := by decide +kernel
theorem dX5_digest_175 : decode cX5_digest 175 = .ok (.lstore_n 1, 1) := by decide +kernel
theorem dX5_digest_176 : decode cX5_digest 176 = .ok (.ldc2_w 269, 3) := by decide +kernel
theorem dX5_digest_179 : decode cX5_digest 179 = .ok (.lload_n 1, 1) := by decide +kernel
theorem dX5_digest_180 : decode cX5_digest 180 = .ok (.lmul, 1) := by decide +kernel
theorem dX5_digest_181 : decode cX5_digest 181 = .ok (.aload_n 0, 1) := by decide +kernel
theorem dX5_digest_182 : decode cX5_digest 182 = .ok (.getfield 29, 3) := by decide +kernel
theorem dX5_digest_185 : decode cX5_digest 185 = .ok (.aload_n 0, 1) := by decide +kernel
theorem dX5_digest_186 : decode cX5_digest 186 = .ok (.getfield 12, 3) := by decide +kernel
theorem dX5_digest_189 : decode cX5_digest 189 = .ok (.invokevirtual 219, 3) := by decide +kernel
theorem dX5_digest_192 : decode cX5_digest 192 = .ok (.i2l, 1) := by decide +kernel
theorem dX5_digest_193 : decode cX5_digest 193 = .ok (.ladd, 1) := by decide +kernel
theorem dX5_digest_194 : decode cX5_digest 194 = .ok (.lstore_n 1, 1) := by decide +kernel
theorem dX5_digest_195 : decode cX5_digest 195 = .ok (.ldc2_w 269, 3) := by decide +kernel
theorem dX5_digest_198 : decode cX5_digest 198 = .ok (.lload_n 1, 1) := by decide +kernel
theorem dX5_digest_199 : decode cX5_digest 199 = .ok (.lmul, 1) := by decide +kernel
theorem dX5_digest_200 : decode cX5_digest 200 = .ok (.aload_n 0, 1) := by decide +kernel
theorem dX5_digest_201 : decode cX5_digest 201 = .ok (.getfield 262, 3) := by decide +kernel
theorem dX5_digest_204 : decode cX5_digest 204 = .ok (.i2l, 1) := by decide +kernel
theorem dX5_digest_205 : decode cX5_digest 205 = .ok (.ladd, 1) := by decide +kernel
theorem dX5_digest_206 : decode cX5_digest 206 = .ok (.lreturn, 1) := by decide +kernel
theorem dX5_canBePromised_0 : decode cX5_canBePromised 0 = .ok (.iload_n 2, 1) := by decide +kernel
theorem dX5_canBePromised_1 : decode cX5_canBePromised 1 = .ok (.iconst 1, 1) := by decide +kernel
theorem dX5_canBePromised_2 : decode cX5_canBePromised 2 = .ok (.if_icmp .lt 30, 3) := by decide +kernel
theorem dX5_canBePromised_5 : decode cX5_canBePromised 5 = .ok (.iload_n 2, 1) := by decide +kernel
theorem dX5_canBePromised_6 : decode cX5_canBePromised 6 = .ok (.sipush 1000, 3) := by decide +kernel
theorem dX5_canBePromised_9 : decode cX5_canBePromised 9 = .ok (.if_icmp .gt 23, 3) := by decide +kernel
theorem dX5_canBePromised_12 : decode cX5_canBePromised 12 = .ok (.iload_n 3, 1) := by decide +kernel
theorem dX5_canBePromised_13 : decode cX5_canBePromised 13 = .ok (.iconst 1, 1) := by decide +kernel
theorem dX5_canBePromised_14 : decode cX5_canBePromised 14 = .ok (.if_icmp .lt 18, 3) := by decide +kernel
theorem dX5_canBePromised_17 : decode cX5_canBePromised 17 = .ok (.iload_n 3, 1) := by decide +kernel
theorem dX5_canBePromised_18 : decode cX5_canBePromised 18 = .ok (.bipush 9, 2) := by decide +kernel
theorem dX5_canBePromised_20 : decode cX5_canBePromised 20 = .ok (.if_icmp .gt 12, 3) := by decide +kernel
theorem dX5_canBePromised_23 : decode cX5_canBePromised 23 = .ok (.iload_n 0, 1) := by decide +kernel
theorem dX5_canBePromised_24 : decode cX5_canBePromised 24 = .ok (.iload_n 1, 1) := by decide +kernel
theorem dX5_canBePromised_25 : decode cX5_canBePromised 25 = .ok (.if_icmp .eq 7, 3) := by decide +kernel
theorem dX5_canBePromised_28 : decode cX5_canBePromised 28 = .ok (.iconst 1, 1) := by decide +kernel
theorem dX5_canBePromised_29 : decode cX5_canBePromised 29 = .ok (.goto 4, 3) := by decide +kernel
theorem dX5_canBePromised_32 : decode cX5_canBePromised 32 = .ok (.iconst 0, 1) := by decide +kernel
theorem dX5_canBePromised_33 : decode cX5_canBePromised 33 = .ok (.ireturn, 1) := by decide +kernel
theorem dX5_isParty_0 : decode cX5_isParty 0 = .ok (.iload_n 0, 1) := by decide +kernel
theorem dX5_isParty_1 : decode cX5_isParty 1 = .ok (.ifCond .lt 13, 3) := by decide +kernel
theorem dX5_isParty_4 : decode cX5_isParty 4 = .ok (.iload_n 0, 1) := by decide +kernel
theorem dX5_isParty_5 : decode cX5_isParty 5 = .ok (.bipush 7, 2) := by decide +kernel
theorem dX5_isParty_7 : decode cX5_isParty 7 = .ok (.if_icmp .ge 7, 3) := by decide +kernel
theorem dX5_isParty_10 : decode cX5_isParty 10 = .ok (.iconst 1, 1) := by decide +kernel
theorem dX5_isParty_11 : decode cX5_isParty 11 = .ok (.goto 4, 3) := by decide +kernel
theorem dX5_isParty_14 : decode cX5_isParty 14 = .ok (.iconst 0, 1) := by decide +kernel
theorem dX5_isParty_15 : decode cX5_isParty 15 = .ok (.ireturn, 1) := by decide +kernel
theorem dX5_isPair_0 : decode cX5_isPair 0 = .ok (.iload_n 0, 1) := by decide +kernel
theorem dX5_isPair_1 : decode cX5_isPair 1 = .ok (.ifCond .lt 13, 3) := by decide +kernel
theorem dX5_isPair_4 : decode cX5_isPair 4 = .ok (.iload_n 0, 1) := by decide +kernel
theorem dX5_isPair_5 : decode cX5_isPair 5 = .ok (.bipush 49, 2) := by decide +kernel
theorem dX5_isPair_7 : decode cX5_isPair 7 = .ok (.if_icmp .ge 7, 3) := by decide +kernel
theorem dX5_isPair_10 : decode cX5_isPair 10 = .ok (.iconst 1, 1) := by decide +kernel
theorem dX5_isPair_11 : decode cX5_isPair 11 = .ok (.goto 4, 3) := by decide +kernel
theorem dX5_isPair_14 : decode cX5_isPair 14 = .ok (.iconst 0, 1) := by decide +kernel
theorem dX5_isPair_15 : decode cX5_isPair 15 = .ok (.ireturn, 1) := by decide +kernel
theorem dX5_isSlot_0 : decode cX5_isSlot 0 = .ok (.iload_n 0, 1) := by decide +kernel
theorem dX5_isSlot_1 : decode cX5_isSlot 1 = .ok (.ifCond .lt 13, 3) := by decide +kernel
theorem dX5_isSlot_4 : decode cX5_isSlot 4 = .ok (.iload_n 0, 1) := by decide +kernel
theorem dX5_isSlot_5 : decode cX5_isSlot 5 = .ok (.bipush 40, 2) := by decide +kernel
theorem dX5_isSlot_7 : decode cX5_isSlot 7 = .ok (.if_icmp .ge 7, 3) := by decide +kernel
theorem dX5_isSlot_10 : decode cX5_isSlot 10 = .ok (.iconst 1, 1) := by decide +kernel
theorem dX5_isSlot_11 : decode cX5_isSlot 11 = .ok (.goto 4, 3) := by decide +kernel
theorem dX5_isSlot_14 : decode cX5_isSlot 14 = .ok (.iconst 0, 1) := by decide +kernel
theorem dX5_isSlot_15 : decode cX5_isSlot 15 = .ok (.ireturn, 1) := by decide +kernel
theorem dX5_countRings_0 : decode cX5_countRings 0 = .ok (.aload_n 0, 1) := by decide +kernel
theorem dX5_countRings_1 : decode cX5_countRings 1 = .ok (.getfield 22, 3) := by decide +kernel
theorem dX5_countRings_4 : decode cX5_countRings 4 = .ok (.aload_n 0, 1) := by decide +kernel
theorem dX5_countRings_5 : decode cX5_countRings 5 = .ok (.getfield 12, 3) := by decide +kernel
theorem dX5_countRings_8 : decode cX5_countRings 8 = .ok (.invokevirtual 209, 3) := by decide +kernel
theorem dX5_countRings_11 : decode cX5_countRings 11 = .ok (.aload_n 0, 1) := by decide +kernel
theorem dX5_countRings_12 : decode cX5_countRings 12 = .ok (.getfield 22, 3) := by decide +kernel
theorem dX5_countRings_15 : decode cX5_countRings 15 = .ok (.getfield 280, 3) := by decide +kernel
theorem dX5_countRings_18 : decode cX5_countRings 18 = .ok (.ireturn, 1) := by decide +kernel
theorem dX5_save_0 : decode cX5_save 0 = .ok (.aload_n 0, 1) := by decide +kernel
theorem dX5_save_1 : decode cX5_save 1 = .ok (.getfield 262, 3) := by decide +kernel
theorem dX5_save_4 : decode cX5_save 4 = .ok (.iconst 4, 1) := by decide +kernel
theorem dX5_save_5 : decode cX5_save 5 = .ok (.if_icmp .lt 7, 3) := by decide +kernel
theorem dX5_save_8 : decode cX5_save 8 = .ok (.aload_n 0, 1) := by decide +kernel
theorem dX5_save_9 : decode cX5_save 9 = .ok (.invokevirtual 283, 3) := by decide +kernel
theorem dX5_save_12 : decode cX5_save 12 = .ok (.aload_n 0, 1) := by decide +kernel
theorem dX5_save_13 : decode cX5_save 13 = .ok (.getfield 40, 3) := by decide +kernel
theorem dX5_save_16 : decode cX5_save 16 = .ok (.aload_n 0, 1) := by decide +kernel
theorem dX5_save_17 : decode cX5_save 17 = .ok (.getfield 262, 3) := by decide +kernel
theorem dX5_save_20 : decode cX5_save 20 = .ok (.aaload, 1) := by decide +kernel
theorem dX5_save_21 : decode cX5_save 21 = .ok (.astore_n 1, 1) := by decide +kernel
theorem dX5_save_22 : decode cX5_save 22 = .ok (.aload_n 1, 1) := by decide +kernel
theorem dX5_save_23 : decode cX5_save 23 = .ok (.ifnonnull 21, 3) := by decide +kernel
theorem dX5_save_26 : decode cX5_save 26 = .ok (.new 9, 3) := by decide +kernel
theorem dX5_save_29 : decode cX5_save 29 = .ok (.dup, 1) := by decide +kernel
theorem dX5_save_30 : decode cX5_save 30 = .ok (.invokespecial 11, 3) := by decide +kernel
theorem dX5_save_33 : decode cX5_save 33 = .ok (.astore_n 1, 1) := by decide +kernel
theorem dX5_save_34 : decode cX5_save 34 = .ok (.aload_n 0, 1) := by decide +kernel
theorem dX5_save_35 : decode cX5_save 35 = .ok (.getfield 40, 3) := by decide +kernel
theorem dX5_save_38 : decode cX5_save 38 = .ok (.aload_n 0, 1) := by decide +kernel
theorem dX5_save_39 : decode cX5_save 39 = .ok (.getfield 262, 3) := by decide +kernel
theorem dX5_save_42 : decode cX5_save 42 = .ok (.aload_n 1, 1) := by decide +kernel
theorem dX5_save_43 : decode cX5_save 43 = .ok (.aastore, 1) := by decide +kernel
theorem dX5_save_44 : decode cX5_save 44 = .ok (.aload_n 1, 1) := by decide +kernel
theorem dX5_save_45 : decode cX5_save 45 = .ok (.aload_n 0, 1) := by decide +kernel
theorem dX5_save_46 : decode cX5_save 46 = .ok (.getfield 12, 3) := by decide +kernel
theorem dX5_save_49 : decode cX5_save 49 = .ok (.invokevirtual 216, 3) := by decide +kernel
theorem dX5_save_52 : decode cX5_save 52 = .ok (.aload_n 0, 1) := by decide +kernel
theorem dX5_save_53 : decode cX5_save 53 = .ok (.dup, 1) := by decide +kernel
theorem dX5_save_54 : decode cX5_save 54 = .ok (.getfield 262, 3) := by decide +kernel
theorem dX5_save_57 : decode cX5_save 57 = .ok (.iconst 1, 1) := by decide +kernel
theorem dX5_save_58 : decode cX5_save 58 = .ok (.iadd, 1) := by decide +kernel
theorem dX5_save_59 : decode cX5_save 59 = .ok (.putfield 262, 3) := by decide +kernel
theorem dX5_save_62 : decode cX5_save 62 = .ok (.return_, 1) := by decide +kernel
theorem dX5_dropOldest_0 : decode cX5_dropOldest 0 = .ok (.aload_n 0, 1) := by decide +kernel
theorem dX5_dropOldest_1 : decode cX5_dropOldest 1 = .ok (.getfield 40, 3) := by decide +kernel
theorem dX5_dropOldest_4 : decode cX5_dropOldest 4 = .ok (.iconst 0, 1) := by decide +kernel
theorem dX5_dropOldest_5 : decode cX5_dropOldest 5 = .ok (.aaload, 1) := by decide +kernel
theorem dX5_dropOldest_6 : decode cX5_dropOldest 6 = .ok (.astore_n 1, 1) := by decide +kernel
theorem dX5_dropOldest_7 : decode cX5_dropOldest 7 = .ok (.iconst 1, 1) := by decide +kernel
theorem dX5_dropOldest_8 : decode cX5_dropOldest 8 = .ok (.istore_n 2, 1) := by decide +kernel
theorem dX5_dropOldest_9 : decode cX5_dropOldest 9 = .ok (.iload_n 2, 1) := by decide +kernel
theorem dX5_dropOldest_10 : decode cX5_dropOldest 10 = .ok (.iconst 4, 1) := by decide +kernel
theorem dX5_dropOldest_11 : decode cX5_dropOldest 11 = .ok (.if_icmp .ge 23, 3) := by decide +kernel
theorem dX5_dropOldest_14 : decode cX5_dropOldest 14 = .ok (.aload_n 0, 1) := by decide +kernel
theorem dX5_dropOldest_15 : decode cX5_dropOldest 15 = .ok (.getfield 40, 3) := by decide +kernel
theorem dX5_dropOldest_18 : decode cX5_dropOldest 18 = .ok (.iload_n 2, 1) := by decide +kernel
theorem dX5_dropOldest_19 : decode cX5_dropOldest 19 = .ok (.iconst 1, 1) := by decide +kernel
theorem dX5_dropOldest_20 : decode cX5_dropOldest 20 = .ok (.isub, 1) := by decide +kernel
theorem dX5_dropOldest_21 : decode cX5_dropOldest 21 = .ok (.aload_n 0, 1) := by decide +kernel
theorem dX5_dropOldest_22 : decode cX5_dropOldest 22 = .ok (.getfield 40, 3) := by decide +kernel
theorem dX5_dropOldest_25 : decode cX5_dropOldest 25 = .ok (.iload_n 2, 1) := by decide +kernel
theorem dX5_dropOldest_26 : decode cX5_dropOldest 26 = .ok (.aaload, 1) := by decide +kernel
theorem dX5_dropOldest_27 : decode cX5_dropOldest 27 = .ok (.aastore, 1) := by decide +kernel
theorem dX5_dropOldest_28 : decode cX5_dropOldest 28 = .ok (.iinc 2 1, 3) := by decide +kernel
theorem dX5_dropOldest_31 : decode cX5_dropOldest 31 = .ok (.goto (-22), 3) := by decide +kernel
theorem dX5_dropOldest_34 : decode cX5_dropOldest 34 = .ok (.aload_n 0, 1) := by decide +kernel
theorem dX5_dropOldest_35 : decode cX5_dropOldest 35 = .ok (.getfield 40, 3) := by decide +kernel
theorem dX5_dropOldest_38 : decode cX5_dropOldest 38 = .ok (.iconst 3, 1) := by decide +kernel
theorem dX5_dropOldest_39 : decode cX5_dropOldest 39 = .ok (.aload_n 1, 1) := by decide +kernel
theorem dX5_dropOldest_40 : decode cX5_dropOldest 40 = .ok (.aastore, 1) := by decide +kernel
theorem dX5_dropOldest_41 : decode cX5_dropOldest 41 = .ok (.aload_n 0, 1) := by decide +kernel
theorem dX5_dropOldest_42 : decode cX5_dropOldest 42 = .ok (.iconst 3, 1) := by decide +kernel
theorem dX5_dropOldest_43 : decode cX5_dropOldest 43 = .ok (.putfield 262, 3) := by decide +kernel
theorem dX5_dropOldest_46 : decode cX5_dropOldest 46 = .ok (.return_, 1) := by decide +kernel
theorem dX5_carryOutOrder_0 : decode cX5_carryOutOrder 0 = .ok (.aload_n 0, 1) := by decide +kernel
theorem dX5_carryOutOrder_1 : decode cX5_carryOutOrder 1 = .ok (.getfield 36, 3) := by decide +kernel
theorem dX5_carryOutOrder_4 : decode cX5_carryOutOrder 4 = .ok (.getfield 286, 3) := by decide +kernel
theorem dX5_carryOutOrder_7 : decode cX5_carryOutOrder 7 = .ok (.lookupswitch 123 #[(97, 109), (98, 78), (112, 49), (120, 54), (121, 66)], 49) := by decide +kernel
theorem dX5_carryOutOrder_56 : decode cX5_carryOutOrder 56 = .ok (.aload_n 0, 1) := by decide +kernel
theorem dX5_carryOutOrder_57 : decode cX5_carryOutOrder 57 = .ok (.invokevirtual 289, 3) := by decide +kernel
theorem dX5_carryOutOrder_60 : decode cX5_carryOutOrder 60 = .ok (.ireturn, 1) := by decide +kernel
theorem dX5_carryOutOrder_61 : decode cX5_carryOutOrder 61 = .ok (.aload_n 0, 1) := by decide +kernel
theorem dX5_carryOutOrder_62 : decode cX5_carryOutOrder 62 = .ok (.aload_n 0, 1) := by decide +kernel
theorem dX5_carryOutOrder_63 : decode cX5_carryOutOrder 63 = .ok (.getfield 36, 3) := by decide +kernel
theorem dX5_carryOutOrder_66 : decode cX5_carryOutOrder 66 = .ok (.getfield 292, 3) := by decide +kernel
theorem dX5_carryOutOrder_69 : decode cX5_carryOutOrder 69 = .ok (.invokevirtual 295, 3) := by decide +kernel
theorem dX5_carryOutOrder_72 : decode cX5_carryOutOrder 72 = .ok (.ireturn, 1) := by decide +kernel
theorem dX5_carryOutOrder_73 : decode cX5_carryOutOrder 73 = .ok (.aload_n 0, 1) := by decide +kernel
theorem dX5_carryOutOrder_74 : decode cX5_carryOutOrder 74 = .ok (.aload_n 0, 1) := by decide +kernel
theorem dX5_carryOutOrder_75 : decode cX5_carryOutOrder 75 = .ok (.getfield 36, 3) := by decide +kernel
theorem dX5_carryOutOrder_78 : decode cX5_carryOutOrder 78 = .ok (.getfield 292, 3) := by decide +kernel
theorem dX5_carryOutOrder_81 : decode cX5_carryOutOrder 81 = .ok (.invokevirtual 298, 3) := by decide +kernel
theorem dX5_carryOutOrder_84 : decode cX5_carryOutOrder 84 = .ok (.ireturn, 1) := by decide +kernel
theorem dX5_carryOutOrder_85 : decode cX5_carryOutOrder 85 = .ok (.aload_n 0, 1) := by decide +kernel
theorem dX5_carryOutOrder_86 : decode cX5_carryOutOrder 86 = .ok (.getfield 22, 3) := by decide +kernel
theorem dX5_carryOutOrder_89 : decode cX5_carryOutOrder 89 = .ok (.aload_n 0, 1) := by decide +kernel
theorem dX5_carryOutOrder_90 : decode cX5_carryOutOrder 90 = .ok (.getfield 12, 3) := by decide +kernel
theorem dX5_carryOutOrder_93 : decode cX5_carryOutOrder 93 = .ok (.invokevirtual 209, 3) := by decide +kernel
theorem dX5_carryOutOrder_96 : decode cX5_carryOutOrder 96 = .ok (.aload_n 0, 1) := by decide +kernel
theorem dX5_carryOutOrder_97 : decode cX5_carryOutOrder 97 = .ok (.getfield 22, 3) := by decide +kernel
theorem dX5_carryOutOrder_100 : decode cX5_carryOutOrder 100 = .ok (.aload_n 0, 1) := by decide +kernel
theorem dX5_carryOutOrder_101 : decode cX5_carryOutOrder 101 = .ok (.getfield 12, 3) := by decide +kernel
theorem dX5_carryOutOrder_104 : decode cX5_carryOutOrder 104 = .ok (.invokevirtual 138, 3) := by decide +kernel
theorem dX5_carryOutOrder_107 : decode cX5_carryOutOrder 107 = .ok (.ifCond .le 7, 3) := by decide +kernel
theorem dX5_carryOutOrder_110 : decode cX5_carryOutOrder 110 = .ok (.iconst 1, 1) := by decide +kernel
theorem dX5_carryOutOrder_111 : decode cX5_carryOutOrder 111 = .ok (.goto 4, 3) := by decide +kernel
theorem dX5_carryOutOrder_114 : decode cX5_carryOutOrder 114 = .ok (.iconst 0, 1) := by decide +kernel
theorem dX5_carryOutOrder_115 : decode cX5_carryOutOrder 115 = .ok (.ireturn, 1) := by decide +kernel
theorem dX5_carryOutOrder_116 : decode cX5_carryOutOrder 116 = .ok (.aload_n 0, 1) := by decide +kernel
theorem dX5_carryOutOrder_117 : decode cX5_carryOutOrder 117 = .ok (.getfield 22, 3) := by decide +kernel
theorem dX5_carryOutOrder_120 : decode cX5_carryOutOrder 120 = .ok (.aload_n 0, 1) := by decide +kernel
theorem dX5_carryOutOrder_121 : decode cX5_carryOutOrder 121 = .ok (.getfield 12, 3) := by decide +kernel
theorem dX5_carryOutOrder_124 : decode cX5_carryOutOrder 124 = .ok (.invokevirtual 142, 3) := by decide +kernel
theorem dX5_carryOutOrder_127 : decode cX5_carryOutOrder 127 = .ok (.pop, 1) := by decide +kernel
theorem dX5_carryOutOrder_128 : decode cX5_carryOutOrder 128 = .ok (.iconst 1, 1) := by decide +kernel
theorem dX5_carryOutOrder_129 : decode cX5_carryOutOrder 129 = .ok (.ireturn, 1) := by decide +kernel
theorem dX5_carryOutOrder_130 : decode cX5_carryOutOrder 130 = .ok (.iconst 0, 1) := by decide +kernel
theorem dX5_carryOutOrder_131 : decode cX5_carryOutOrder 131 = .ok (.ireturn, 1) := by decide +kernel
theorem dX5_makeOrdered_0 : decode cX5_makeOrdered 0 = .ok (.aload_n 0, 1) := by decide +kernel
theorem dX5_makeOrdered_1 : decode cX5_makeOrdered 1 = .ok (.getfield 12, 3) := by decide +kernel
theorem dX5_makeOrdered_4 : decode cX5_makeOrdered 4 = .ok (.aload_n 0, 1) := by decide +kernel
theorem dX5_makeOrdered_5 : decode cX5_makeOrdered 5 = .ok (.getfield 36, 3) := by decide +kernel
theorem dX5_makeOrdered_8 : decode cX5_makeOrdered 8 = .ok (.getfield 301, 3) := by decide +kernel
theorem dX5_makeOrdered_11 : decode cX5_makeOrdered 11 = .ok (.invokevirtual 62, 3) := by decide +kernel
theorem dX5_makeOrdered_14 : decode cX5_makeOrdered 14 = .ok (.ifCond .eq 64, 3) := by decide +kernel
theorem dX5_makeOrdered_17 : decode cX5_makeOrdered 17 = .ok (.aload_n 0, 1) := by decide +kernel
theorem dX5_makeOrdered_18 : decode cX5_makeOrdered 18 = .ok (.getfield 12, 3) := by decide +kernel
theorem dX5_makeOrdered_21 : decode cX5_makeOrdered 21 = .ok (.aload_n 0, 1) := by decide +kernel
theorem dX5_makeOrdered_22 : decode cX5_makeOrdered 22 = .ok (.getfield 36, 3) := by decide +kernel
theorem dX5_makeOrdered_25 : decode cX5_makeOrdered 25 = .ok (.getfield 303, 3) := by decide +kernel
theorem dX5_makeOrdered_28 : decode cX5_makeOrdered 28 = .ok (.invokevirtual 62, 3) := by decide +kernel
theorem dX5_makeOrdered_31 : decode cX5_makeOrdered 31 = .ok (.ifCond .eq 47, 3) := by decide +kernel
theorem dX5_makeOrdered_34 : decode cX5_makeOrdered 34 = .ok (.aload_n 0, 1) := by decide +kernel
theorem dX5_makeOrdered_35 : decode cX5_makeOrdered 35 = .ok (.getfield 12, 3) := by decide +kernel
theorem dX5_makeOrdered_38 : decode cX5_makeOrdered 38 = .ok (.invokevirtual 77, 3) := by decide +kernel
theorem dX5_makeOrdered_41 : decode cX5_makeOrdered 41 = .ok (.ifCond .ne 37, 3) := by decide +kernel
theorem dX5_makeOrdered_44 : decode cX5_makeOrdered 44 = .ok (.aload_n 0, 1) := by decide +kernel
theorem dX5_makeOrdered_45 : decode cX5_makeOrdered 45 = .ok (.getfield 36, 3) := by decide +kernel
theorem dX5_makeOrdered_48 : decode cX5_makeOrdered 48 = .ok (.getfield 301, 3) := by decide +kernel
theorem dX5_makeOrdered_51 : decode cX5_makeOrdered 51 = .ok (.aload_n 0, 1) := by decide +kernel
theorem dX5_makeOrdered_52 : decode cX5_makeOrdered 52 = .ok (.getfield 36, 3) := by decide +kernel
theorem dX5_makeOrdered_55 : decode cX5_makeOrdered 55 = .ok (.getfield 303, 3) := by decide +kernel
theorem dX5_makeOrdered_58 : decode cX5_makeOrdered 58 = .ok (.aload_n 0, 1) := by decide +kernel
theorem dX5_makeOrdered_59 : decode cX5_makeOrdered 59 = .ok (.getfield 36, 3) := by decide +kernel
theorem dX5_makeOrdered_62 : decode cX5_makeOrdered 62 = .ok (.getfield 305, 3) := by decide +kernel
theorem dX5_makeOrdered_65 : decode cX5_makeOrdered 65 = .ok (.aload_n 0, 1) := by decide +kernel
theorem dX5_makeOrdered_66 : decode cX5_makeOrdered 66 = .ok (.getfield 36, 3) := by decide +kernel
theorem dX5_makeOrdered_69 : decode cX5_makeOrdered 69 = .ok (.getfield 307, 3) := by decide +kernel
theorem dX5_makeOrdered_72 : decode cX5_makeOrdered 72 = .ok (.invokestatic 71, 3) := by decide +kernel
theorem dX5_makeOrdered_75 : decode cX5_makeOrdered 75 = .ok (.ifCond .ne 5, 3) := by decide +kernel
theorem dX5_makeOrdered_78 : decode cX5_makeOrdered 78 = .ok (.iconst 0, 1) := by decide +kernel
theorem dX5_makeOrdered_79 : decode cX5_makeOrdered 79 = .ok (.ireturn, 1) := by decide +kernel
theorem dX5_makeOrdered_80 : decode cX5_makeOrdered 80 = .ok (.aload_n 0, 1) := by decide +kernel
theorem dX5_makeOrdered_81 : decode cX5_makeOrdered 81 = .ok (.getfield 12, 3) := by decide +kernel
theorem dX5_makeOrdered_84 : decode cX5_makeOrdered 84 = .ok (.aload_n 0, 1) := by decide +kernel
theorem dX5_makeOrdered_85 : decode cX5_makeOrdered 85 = .ok (.getfield 36, 3) := by decide +kernel
theorem dX5_makeOrdered_88 : decode cX5_makeOrdered 88 = .ok (.getfield 301, 3) := by decide +kernel
theorem dX5_makeOrdered_91 : decode cX5_makeOrdered 91 = .ok (.aload_n 0, 1) := by decide +kernel
theorem dX5_makeOrdered_92 : decode cX5_makeOrdered 92 = .ok (.getfield 36, 3) := by decide +kernel
theorem dX5_makeOrdered_95 : decode cX5_makeOrdered 95 = .ok (.getfield 303, 3) := by decide +kernel
theorem dX5_makeOrdered_98 : decode cX5_makeOrdered 98 = .ok (.aload_n 0, 1) := by decide +kernel
theorem dX5_makeOrdered_99 : decode cX5_makeOrdered 99 = .ok (.getfield 36, 3) := by decide +kernel
theorem dX5_makeOrdered_102 : decode cX5_makeOrdered 102 = .ok (.getfield 305, 3) := by decide +kernel
theorem dX5_makeOrdered_105 : decode cX5_makeOrdered 105 = .ok (.aload_n 0, 1) := by decide +kernel
theorem dX5_makeOrdered_106 : decode cX5_makeOrdered 106 = .ok (.getfield 36, 3) := by decide +kernel
theorem dX5_makeOrdered_109 : decode cX5_makeOrdered 109 = .ok (.getfield 307, 3) := by decide +kernel
theorem dX5_makeOrdered_112 : decode cX5_makeOrdered 112 = .ok (.invokevirtual 86, 3) := by decide +kernel
theorem dX5_makeOrdered_115 : decode cX5_makeOrdered 115 = .ok (.pop, 1) := by decide +kernel
theorem dX5_makeOrdered_116 : decode cX5_makeOrdered 116 = .ok (.iconst 1, 1) := by decide +kernel
theorem dX5_makeOrdered_117 : decode cX5_makeOrdered 117 = .ok (.ireturn, 1) := by decide +kernel
theorem dX5_disputeOrdered_0 : decode cX5_disputeOrdered 0 = .ok (.aload_n 0, 1) := by decide +kernel
theorem dX5_disputeOrdered_1 : decode cX5_disputeOrdered 1 = .ok (.getfield 12, 3) := by decide +kernel
theorem dX5_disputeOrdered_4 : decode cX5_disputeOrdered 4 = .ok (.iload_n 1, 1) := by decide +kernel
theorem dX5_disputeOrdered_5 : decode cX5_disputeOrdered 5 = .ok (.invokevirtual 90, 3) := by decide +kernel
theorem dX5_disputeOrdered_8 : decode cX5_disputeOrdered 8 = .ok (.ifCond .eq 14, 3) := by decide +kernel
theorem dX5_disputeOrdered_11 : decode cX5_disputeOrdered 11 = .ok (.aload_n 0, 1) := by decide +kernel
theorem dX5_disputeOrdered_12 : decode cX5_disputeOrdered 12 = .ok (.getfield 12, 3) := by decide +kernel
theorem dX5_disputeOrdered_15 : decode cX5_disputeOrdered 15 = .ok (.iload_n 1, 1) := by decide +kernel
theorem dX5_disputeOrdered_16 : decode cX5_disputeOrdered 16 = .ok (.invokevirtual 107, 3) := by decide +kernel
theorem dX5_disputeOrdered_19 : decode cX5_disputeOrdered 19 = .ok (.ifCond .ne 5, 3) := by decide +kernel
theorem dX5_disputeOrdered_22 : decode cX5_disputeOrdered 22 = .ok (.iconst 0, 1) := by decide +kernel
theorem dX5_disputeOrdered_23 : decode cX5_disputeOrdered 23 = .ok (.ireturn, 1) := by decide +kernel
theorem dX5_disputeOrdered_24 : decode cX5_disputeOrdered 24 = .ok (.aload_n 0, 1) := by decide +kernel
theorem dX5_disputeOrdered_25 : decode cX5_disputeOrdered 25 = .ok (.getfield 12, 3) := by decide +kernel
theorem dX5_disputeOrdered_28 : decode cX5_disputeOrdered 28 = .ok (.getfield 116, 3) := by decide +kernel
theorem dX5_disputeOrdered_31 : decode cX5_disputeOrdered 31 = .ok (.iload_n 1, 1) := by decide +kernel
theorem dX5_disputeOrdered_32 : decode cX5_disputeOrdered 32 = .ok (.iconst 1, 1) := by decide +kernel
theorem dX5_disputeOrdered_33 : decode cX5_disputeOrdered 33 = .ok (.bastore, 1) := by decide +kernel
theorem dX5_disputeOrdered_34 : decode cX5_disputeOrdered 34 = .ok (.iconst 1, 1) := by decide +kernel
theorem dX5_disputeOrdered_35 : decode cX5_disputeOrdered 35 = .ok (.ireturn, 1) := by decide +kernel
theorem dX5_settleOrdered_0 : decode cX5_settleOrdered 0 = .ok (.aload_n 0, 1) := by decide +kernel
theorem dX5_settleOrdered_1 : decode cX5_settleOrdered 1 = .ok (.getfield 12, 3) := by decide +kernel
theorem dX5_settleOrdered_4 : decode cX5_settleOrdered 4 = .ok (.iload_n 1, 1) := by decide +kernel
theorem dX5_settleOrdered_5 : decode cX5_settleOrdered 5 = .ok (.invokevirtual 90, 3) := by decide +kernel
theorem dX5_settleOrdered_8 : decode cX5_settleOrdered 8 = .ok (.ifCond .eq 15, 3) := by decide +kernel
theorem dX5_settleOrdered_11 : decode cX5_settleOrdered 11 = .ok (.aload_n 0, 1) := by decide +kernel
theorem dX5_settleOrdered_12 : decode cX5_settleOrdered 12 = .ok (.getfield 12, 3) := by decide +kernel
theorem dX5_settleOrdered_15 : decode cX5_settleOrdered 15 = .ok (.getfield 116, 3) := by decide +kernel
theorem dX5_settleOrdered_18 : decode cX5_settleOrdered 18 = .ok (.iload_n 1, 1) := by decide +kernel
theorem dX5_settleOrdered_19 : decode cX5_settleOrdered 19 = .ok (.baload, 1) := by decide +kernel
theorem dX5_settleOrdered_20 : decode cX5_settleOrdered 20 = .ok (.ifCond .ne 5, 3) := by decide +kernel
theorem dX5_settleOrdered_23 : decode cX5_settleOrdered 23 = .ok (.iconst 0, 1) := by decide +kernel
theorem dX5_settleOrdered_24 : decode cX5_settleOrdered 24 = .ok (.ireturn, 1) := by decide +kernel
theorem dX5_settleOrdered_25 : decode cX5_settleOrdered 25 = .ok (.aload_n 0, 1) := by decide +kernel
theorem dX5_settleOrdered_26 : decode cX5_settleOrdered 26 = .ok (.getfield 12, 3) := by decide +kernel
theorem dX5_settleOrdered_29 : decode cX5_settleOrdered 29 = .ok (.getfield 116, 3) := by decide +kernel
theorem dX5_settleOrdered_32 : decode cX5_settleOrdered 32 = .ok (.iload_n 1, 1) := by decide +kernel
theorem dX5_settleOrdered_33 : decode cX5_settleOrdered 33 = .ok (.iconst 0, 1) := by decide +kernel
theorem dX5_settleOrdered_34 : decode cX5_settleOrdered 34 = .ok (.bastore, 1) := by decide +kernel
theorem dX5_settleOrdered_35 : decode cX5_settleOrdered 35 = .ok (.iconst 1, 1) := by decide +kernel
theorem dX5_settleOrdered_36 : decode cX5_settleOrdered 36 = .ok (.ireturn, 1) := by decide +kernel
end
section
/-! decode rows -/
theorem dX6_init_0 : decode cX6_init 0 = .ok (.aload_n 0, 1) := by decide +kernel
theorem dX6_init_1 : decode cX6_init 1 = .ok (.invokespecial 1, 3) := by decide +kernel
theorem dX6_init_4 : decode cX6_init 4 = .ok (.aload_n 0, 1) := by decide +kernel
theorem dX6_init_5 : decode cX6_init 5 = .ok (.sipush 325, 3) := by decide +kernel
theorem dX6_init_8 : decode cX6_init 8 = .ok (.newarray .int, 2) := by decide +kernel
theorem dX6_init_10 : decode cX6_init 10 = .ok (.putfield 7, 3) := by decide +kernel
theorem dX6_init_13 : decode cX6_init 13 = .ok (.aload_n 0, 1) := by decide +kernel
theorem dX6_init_14 : decode cX6_init 14 = .ok (.sipush 325, 3) := by decide +kernel
theorem dX6_init_17 : decode cX6_init 17 = .ok (.newarray .int, 2) := by decide +kernel
theorem dX6_init_19 : decode cX6_init 19 = .ok (.putfield 13, 3) := by decide +kernel
theorem dX6_init_22 : decode cX6_init 22 = .ok (.aload_n 0, 1) := by decide +kernel
theorem dX6_init_23 : decode cX6_init 23 = .ok (.sipush 1300, 3) := by decide +kernel
theorem dX6_init_26 : decode cX6_init 26 = .ok (.newarray .int, 2) := by decide +kernel
theorem dX6_init_28 : decode cX6_init 28 = .ok (.putfield 16, 3) := by decide +kernel
theorem dX6_init_31 : decode cX6_init 31 = .ok (.aload_n 0, 1) := by decide +kernel
theorem dX6_init_32 : decode cX6_init 32 = .ok (.bipush 100, 2) := by decide +kernel
theorem dX6_init_34 : decode cX6_init 34 = .ok (.newarray .int, 2) := by decide +kernel
theorem dX6_init_36 : decode cX6_init 36 = .ok (.putfield 19, 3) := by decide +kernel
theorem dX6_init_39 : decode cX6_init 39 = .ok (.aload_n 0, 1) := by decide +kernel
theorem dX6_init_40 : decode cX6_init 40 = .ok (.bipush 49, 2) := by decide +kernel
theorem dX6_init_42 : decode cX6_init 42 = .ok (.newarray .int, 2) := by decide +kernel
theorem dX6_init_44 : decode cX6_init 44 = .ok (.putfield 22, 3) := by decide +kernel
theorem dX6_init_47 : decode cX6_init 47 = .ok (.aload_n 0, 1) := by decide +kernel
theorem dX6_init_48 : decode cX6_init 48 = .ok (.sipush 490, 3) := by decide +kernel
theorem dX6_init_51 : decode cX6_init 51 = .ok (.newarray .int, 2) := by decide +kernel
theorem dX6_init_53 : decode cX6_init 53 = .ok (.putfield 25, 3) := by decide +kernel
theorem dX6_init_56 : decode cX6_init 56 = .ok (.aload_n 0, 1) := by decide +kernel
theorem dX6_init_57 : decode cX6_init 57 = .ok (.bipush 8, 2) := by decide +kernel
theorem dX6_init_59 : decode cX6_init 59 = .ok (.newarray .int, 2) := by decide +kernel
theorem dX6_init_61 : decode cX6_init 61 = .ok (.putfield 28, 3) := by decide +kernel
theorem dX6_init_64 : decode cX6_init 64 = .ok (.aload_n 0, 1) := by decide +kernel
theorem dX6_init_65 : decode cX6_init 65 = .ok (.bipush 9, 2) := by decide +kernel
theorem dX6_init_67 : decode cX6_init 67 = .ok (.newarray .int, 2) := by decide +kernel
theorem dX6_init_69 : decode cX6_init 69 = .ok (.putfield 31, 3) := by decide +kernel
theorem dX6_init_72 : decode cX6_init 72 = .ok (.aload_n 0, 1) := by decide +kernel
theorem dX6_init_73 : decode cX6_init 73 = .ok (.bipush 8, 2) := by decide +kernel
theorem dX6_init_75 : decode cX6_init 75 = .ok (.newarray .int, 2) := by decide +kernel
theorem dX6_init_77 : decode cX6_init 77 = .ok (.putfield 34, 3) := by decide +kernel
theorem dX6_init_80 : decode cX6_init 80 = .ok (.aload_n 0, 1) := by decide +kernel
theorem dX6_init_81 : decode cX6_init 81 = .ok (.bipush 40, 2) := by decide +kernel
theorem dX6_init_83 : decode cX6_init 83 = .ok (.newarray .int, 2) := by decide +kernel
theorem dX6_init_85 : decode cX6_init 85 = .ok (.putfield 37, 3) := by decide +kernel
theorem dX6_init_88 : decode cX6_init 88 = .ok (.aload_n 0, 1) := by decide +kernel
theorem dX6_init_89 : decode cX6_init 89 = .ok (.bipush 7, 2) := by decide +kernel
theorem dX6_init_91 : decode cX6_init 91 = .ok (.newarray .int, 2) := by decide +kernel
theorem dX6_init_93 : decode cX6_init 93 = .ok (.putfield 40, 3) := by decide +kernel
theorem dX6_init_96 : decode cX6_init 96 = .ok (.aload_n 0, 1) := by decide +kernel
theorem dX6_init_97 : decode cX6_init 97 = .ok (.bipush 7, 2) := by decide +kernel
theorem dX6_init_99 : decode cX6_init 99 = .ok (.newarray .int, 2) := by decide +kernel
theorem dX6_init_101 : decode cX6_init 101 = .ok (.putfield 43, 3) := by decide +kernel
theorem dX6_init_104 : decode cX6_init 104 = .ok (.aload_n 0, 1) := by decide +kernel
theorem dX6_init_105 : decode cX6_init 105 = .ok (.bipush 7, 2) := by decide +kernel
theorem dX6_init_107 : decode cX6_init 107 = .ok (.newarray .int, 2) := by decide +kernel
theorem dX6_init_109 : decode cX6_init 109 = .ok (.putfield 46, 3) := by decide +kernel
theorem dX6_init_112 : decode cX6_init 112 = .ok (.aload_n 0, 1) := by decide +kernel
theorem dX6_init_113 : decode cX6_init 113 = .ok (.bipush 50, 2) := by decide +kernel
theorem dX6_init_115 : decode cX6_init 115 = .ok (.newarray .int, 2) := by decide +kernel
theorem dX6_init_117 : decode cX6_init 117 = .ok (.putfield 49, 3) := by decide +kernel
theorem dX6_init_120 : decode cX6_init 120 = .ok (.aload_n 0, 1) := by decide +kernel
theorem dX6_init_121 : decode cX6_init 121 = .ok (.bipush 50, 2) := by decide +kernel
theorem dX6_init_123 : decode cX6_init 123 = .ok (.newarray .int, 2) := by decide +kernel
theorem dX6_init_125 : decode cX6_init 125 = .ok (.putfield 52, 3) := by decide +kernel
theorem dX6_init_128 : decode cX6_init 128 = .ok (.aload_n 0, 1) := by decide +kernel
theorem dX6_init_129 : decode cX6_init 129 = .ok (.bipush 50, 2) := by decide +kernel
theorem dX6_init_131 : decode cX6_init 131 = .ok (.newarray .int, 2) := by decide +kernel
theorem dX6_init_133 : decode cX6_init 133 = .ok (.putfield 55, 3) := by decide +kernel
theorem dX6_init_136 : decode cX6_init 136 = .ok (.aload_n 0, 1) := by decide +kernel
theorem dX6_init_137 : decode cX6_init 137 = .ok (.bipush 50, 2) := by decide +kernel
theorem dX6_init_139 : decode cX6_init 139 = .ok (.newarray .int, 2) := by decide +kernel
theorem dX6_init_141 : decode cX6_init 141 = .ok (.putfield 58, 3) := by decide +kernel
theorem dX6_init_144 : decode cX6_init 144 = .ok (.aload_n 0, 1) := by decide +kernel
theorem dX6_init_145 : decode cX6_init 145 = .ok (.bipush 50, 2) := by decide +kernel
theorem dX6_init_147 : decode cX6_init 147 = .ok (.newarray .int, 2) := by decide +kernel
theorem dX6_init_149 : decode cX6_init 149 = .ok (.putfield 61, 3) := by decide +kernel
theorem dX6_init_152 : decode cX6_init 152 = .ok (.aload_n 0, 1) := by decide +kernel
theorem dX6_init_153 : decode cX6_init 153 = .ok (.getfield 7, 3) := by decide +kernel
theorem dX6_init_156 : decode cX6_init 156 = .ok (.iconst 0, 1) := by decide +kernel
theorem dX6_init_157 : decode cX6_init 157 = .ok (.iconst 4, 1) := by decide +kernel
theorem dX6_init_158 : decode cX6_init 158 = .ok (.iastore, 1) := by decide +kernel
theorem dX6_init_159 : decode cX6_init 159 = .ok (.return_, 1) := by decide +kernel
theorem dX6_thrown_0 : decode cX6_thrown 0 = .ok (.aload_n 0, 1) := by decide +kernel
theorem dX6_thrown_1 : decode cX6_thrown 1 = .ok (.getfield 64, 3) := by decide +kernel
theorem dX6_thrown_4 : decode cX6_thrown 4 = .ok (.ireturn, 1) := by decide +kernel
theorem dX6_in_0 : decode cX6_in 0 = .ok (.iload_n 0, 1) := by decide +kernel
theorem dX6_in_1 : decode cX6_in 1 = .ok (.iload_n 1, 1) := by decide +kernel
theorem dX6_in_2 : decode cX6_in 2 = .ok (.if_icmp .lt 12, 3) := by decide +kernel
theorem dX6_in_5 : decode cX6_in 5 = .ok (.iload_n 0, 1) := by decide +kernel
theorem dX6_in_6 : decode cX6_in 6 = .ok (.iload_n 2, 1) := by decide +kernel
theorem dX6_in_7 : decode cX6_in 7 = .ok (.if_icmp .gt 7, 3) := by decide +kernel
theorem dX6_in_10 : decode cX6_in 10 = .ok (.iconst 1, 1) := by decide +kernel
theorem dX6_in_11 : decode cX6_in 11 = .ok (.goto 4, 3) := by decide +kernel
theorem dX6_in_14 : decode cX6_in 14 = .ok (.iconst 0, 1) := by decide +kernel
theorem dX6_in_15 : decode cX6_in 15 = .ok (.ireturn, 1) := by decide +kernel
theorem dX6_goes_0 : decode cX6_goes 0 = .ok (.aload_n 0, 1) := by decide +kernel
theorem dX6_goes_1 : decode cX6_goes 1 = .ok (.iload_n 1, 1) := by decide +kernel
theorem dX6_goes_2 : decode cX6_goes 2 = .ok (.ifCond .eq 7, 3) := by decide +kernel
theorem dX6_goes_5 : decode cX6_goes 5 = .ok (.iconst 1, 1) := by decide +kernel
theorem dX6_goes_6 : decode cX6_goes 6 = .ok (.goto 20, 3) := by decide +kernel
theorem dX6_goes_9 : decode cX6_goes 9 = .ok (.iload_n 2, 1) := by decide +kernel
theorem dX6_goes_10 : decode cX6_goes 10 = .ok (.ifCond .eq 7, 3) := by decide +kernel
theorem dX6_goes_13 : decode cX6_goes 13 = .ok (.iconst 2, 1) := by decide +kernel
theorem dX6_goes_14 : decode cX6_goes 14 = .ok (.goto 12, 3) := by decide +kernel
theorem dX6_goes_17 : decode cX6_goes 17 = .ok (.iload_n 3, 1) := by decide +kernel
theorem dX6_goes_18 : decode cX6_goes 18 = .ok (.ifCond .eq 7, 3) := by decide +kernel
theorem dX6_goes_21 : decode cX6_goes 21 = .ok (.iconst 3, 1) := by decide +kernel
theorem dX6_goes_22 : decode cX6_goes 22 = .ok (.goto 4, 3) := by decide +kernel
theorem dX6_goes_25 : decode cX6_goes 25 = .ok (.iconst 0, 1) := by decide +kernel
theorem dX6_goes_26 : decode cX6_goes 26 = .ok (.putfield 64, 3) := by decide +kernel
theorem dX6_goes_29 : decode cX6_goes 29 = .ok (.aload_n 0, 1) := by decide +kernel
theorem dX6_goes_30 : decode cX6_goes 30 = .ok (.getfield 64, 3) := by decide +kernel
theorem dX6_goes_33 : decode cX6_goes 33 = .ok (.ifCond .ne 7, 3) := by decide +kernel
theorem dX6_goes_36 : decode cX6_goes 36 = .ok (.iconst 1, 1) := by decide +kernel
theorem dX6_goes_37 : decode cX6_goes 37 = .ok (.goto 4, 3) := by decide +kernel
theorem dX6_goes_40 : decode cX6_goes 40 = .ok (.iconst 0, 1) := by decide +kernel
theorem dX6_goes_41 : decode cX6_goes 41 = .ok (.ireturn, 1) := by decide +kernel
theorem dX6_p_0 : decode cX6_p 0 = .ok (.iconst 5, 1) := by decide +kernel
theorem dX6_p_1 : decode cX6_p 1 = .ok (.bipush 8, 2) := by decide +kernel
theorem dX6_p_3 : decode cX6_p 3 = .ok (.iload_n 0, 1) := by decide +kernel
theorem dX6_p_4 : decode cX6_p 4 = .ok (.imul, 1) := by decide +kernel
theorem dX6_p_5 : decode cX6_p 5 = .ok (.iadd, 1) := by decide +kernel
theorem dX6_p_6 : decode cX6_p 6 = .ok (.iload_n 1, 1) := by decide +kernel
theorem dX6_p_7 : decode cX6_p 7 = .ok (.iadd, 1) := by decide +kernel
theorem dX6_p_8 : decode cX6_p 8 = .ok (.ireturn, 1) := by decide +kernel
theorem dX6_least_0 : decode cX6_least 0 = .ok (.iload_n 0, 1) := by decide +kernel
theorem dX6_least_1 : decode cX6_least 1 = .ok (.iload_n 1, 1) := by decide +kernel
theorem dX6_least_2 : decode cX6_least 2 = .ok (.if_icmp .ge 7, 3) := by decide +kernel
theorem dX6_least_5 : decode cX6_least 5 = .ok (.iload_n 0, 1) := by decide +kernel
theorem dX6_least_6 : decode cX6_least 6 = .ok (.goto 4, 3) := by decide +kernel
theorem dX6_least_9 : decode cX6_least 9 = .ok (.iload_n 1, 1) := by decide +kernel
theorem dX6_least_10 : decode cX6_least 10 = .ok (.ireturn, 1) := by decide +kernel
theorem dX6_isParty_0 : decode cX6_isParty 0 = .ok (.iload_n 1, 1) := by decide +kernel
theorem dX6_isParty_1 : decode cX6_isParty 1 = .ok (.iconst 0, 1) := by decide +kernel
theorem dX6_isParty_2 : decode cX6_isParty 2 = .ok (.aload_n 0, 1) := by decide +kernel
theorem dX6_isParty_3 : decode cX6_isParty 3 = .ok (.getfield 7, 3) := by decide +kernel
theorem dX6_isParty_6 : decode cX6_isParty 6 = .ok (.iconst 0, 1) := by decide +kernel
theorem dX6_isParty_7 : decode cX6_isParty 7 = .ok (.iaload, 1) := by decide +kernel
theorem dX6_isParty_8 : decode cX6_isParty 8 = .ok (.iconst 1, 1) := by decide +kernel
theorem dX6_isParty_9 : decode cX6_isParty 9 = .ok (.isub, 1) := by decide +kernel
theorem dX6_isParty_10 : decode cX6_isParty 10 = .ok (.invokestatic 68, 3) := by decide +kernel
theorem dX6_isParty_13 : decode cX6_isParty 13 = .ok (.ireturn, 1) := by decide +kernel
theorem dX6_isPromise_0 : decode cX6_isPromise 0 = .ok (.iload_n 1, 1) := by decide +kernel
theorem dX6_isPromise_1 : decode cX6_isPromise 1 = .ok (.iconst 0, 1) := by decide +kernel
theorem dX6_isPromise_2 : decode cX6_isPromise 2 = .ok (.aload_n 0, 1) := by decide +kernel
theorem dX6_isPromise_3 : decode cX6_isPromise 3 = .ok (.getfield 7, 3) := by decide +kernel
theorem dX6_isPromise_6 : decode cX6_isPromise 6 = .ok (.iconst 1, 1) := by decide +kernel
theorem dX6_isPromise_7 : decode cX6_isPromise 7 = .ok (.iaload, 1) := by decide +kernel
theorem dX6_isPromise_8 : decode cX6_isPromise 8 = .ok (.iconst 1, 1) := by decide +kernel
theorem dX6_isPromise_9 : decode cX6_isPromise 9 = .ok (.isub, 1) := by decide +kernel
theorem dX6_isPromise_10 : decode cX6_isPromise 10 = .ok (.invokestatic 68, 3) := by decide +kernel
theorem dX6_isPromise_13 : decode cX6_isPromise 13 = .ok (.ireturn, 1) := by decide +kernel
theorem dX6_copies_0 : decode cX6_copies 0 = .ok (.iconst 0, 1) := by decide +kernel
theorem dX6_copies_1 : decode cX6_copies 1 = .ok (.istore 4, 2) := by decide +kernel
theorem dX6_copies_3 : decode cX6_copies 3 = .ok (.iload 4, 2) := by decide +kernel
theorem dX6_copies_5 : decode cX6_copies 5 = .ok (.sipush 325, 3) := by decide +kernel
theorem dX6_copies_8 : decode cX6_copies 8 = .ok (.if_icmp .ge 21, 3) := by decide +kernel
theorem dX6_copies_11 : decode cX6_copies 11 = .ok (.aload_n 2, 1) := by decide +kernel
theorem dX6_copies_12 : decode cX6_copies 12 = .ok (.iload_n 3, 1) := by decide +kernel
theorem dX6_copies_13 : decode cX6_copies 13 = .ok (.iload 4, 2) := by decide +kernel
theorem dX6_copies_15 : decode cX6_copies 15 = .ok (.iadd, 1) := by decide +kernel
theorem dX6_copies_16 : decode cX6_copies 16 = .ok (.aload_n 0, 1) := by decide +kernel
theorem dX6_copies_17 : decode cX6_copies 17 = .ok (.iload_n 1, 1) := by decide +kernel
theorem dX6_copies_18 : decode cX6_copies 18 = .ok (.iload 4, 2) := by decide +kernel
theorem dX6_copies_20 : decode cX6_copies 20 = .ok (.iadd, 1) := by decide +kernel
theorem dX6_copies_21 : decode cX6_copies 21 = .ok (.iaload, 1) := by decide +kernel
theorem dX6_copies_22 : decode cX6_copies 22 = .ok (.iastore, 1) := by decide +kernel
theorem dX6_copies_23 : decode cX6_copies 23 = .ok (.iinc 4 1, 3) := by decide +kernel
theorem dX6_copies_26 : decode cX6_copies 26 = .ok (.goto (-23), 3) := by decide +kernel
theorem dX6_copies_29 : decode cX6_copies 29 = .ok (.return_, 1) := by decide +kernel
theorem dX6_saves_0 : decode cX6_saves 0 = .ok (.aload_n 0, 1) := by decide +kernel
theorem dX6_saves_1 : decode cX6_saves 1 = .ok (.getfield 72, 3) := by decide +kernel
theorem dX6_saves_4 : decode cX6_saves 4 = .ok (.iconst 4, 1) := by decide +kernel
theorem dX6_saves_5 : decode cX6_saves 5 = .ok (.if_icmp .ne 44, 3) := by decide +kernel
theorem dX6_saves_8 : decode cX6_saves 8 = .ok (.iconst 0, 1) := by decide +kernel
theorem dX6_saves_9 : decode cX6_saves 9 = .ok (.istore_n 1, 1) := by decide +kernel
theorem dX6_saves_10 : decode cX6_saves 10 = .ok (.iload_n 1, 1) := by decide +kernel
theorem dX6_saves_11 : decode cX6_saves 11 = .ok (.sipush 975, 3) := by decide +kernel
theorem dX6_saves_14 : decode cX6_saves 14 = .ok (.if_icmp .ge 25, 3) := by decide +kernel
theorem dX6_saves_17 : decode cX6_saves 17 = .ok (.aload_n 0, 1) := by decide +kernel
theorem dX6_saves_18 : decode cX6_saves 18 = .ok (.getfield 16, 3) := by decide +kernel
theorem dX6_saves_21 : decode cX6_saves 21 = .ok (.iload_n 1, 1) := by decide +kernel
theorem dX6_saves_22 : decode cX6_saves 22 = .ok (.aload_n 0, 1) := by decide +kernel
theorem dX6_saves_23 : decode cX6_saves 23 = .ok (.getfield 16, 3) := by decide +kernel
theorem dX6_saves_26 : decode cX6_saves 26 = .ok (.iload_n 1, 1) := by decide +kernel
theorem dX6_saves_27 : decode cX6_saves 27 = .ok (.sipush 325, 3) := by decide +kernel
theorem dX6_saves_30 : decode cX6_saves 30 = .ok (.iadd, 1) := by decide +kernel
theorem dX6_saves_31 : decode cX6_saves 31 = .ok (.iaload, 1) := by decide +kernel
theorem dX6_saves_32 : decode cX6_saves 32 = .ok (.iastore, 1) := by decide +kernel
theorem dX6_saves_33 : decode cX6_saves 33 = .ok (.iinc 1 1, 3) := by decide +kernel
theorem dX6_saves_36 : decode cX6_saves 36 = .ok (.goto (-26), 3) := by decide +kernel
theorem dX6_saves_39 : decode cX6_saves 39 = .ok (.aload_n 0, 1) := by decide +kernel
theorem dX6_saves_40 : decode cX6_saves 40 = .ok (.dup, 1) := by decide +kernel
theorem dX6_saves_41 : decode cX6_saves 41 = .ok (.getfield 72, 3) := by decide +kernel
theorem dX6_saves_44 : decode cX6_saves 44 = .ok (.iconst 1, 1) := by decide +kernel
theorem dX6_saves_45 : decode cX6_saves 45 = .ok (.isub, 1) := by decide +kernel
theorem dX6_saves_46 : decode cX6_saves 46 = .ok (.putfield 72, 3) := by decide +kernel
theorem dX6_saves_49 : decode cX6_saves 49 = .ok (.aload_n 0, 1) := by decide +kernel
theorem dX6_saves_50 : decode cX6_saves 50 = .ok (.getfield 7, 3) := by decide +kernel
theorem dX6_saves_53 : decode cX6_saves 53 = .ok (.iconst 0, 1) := by decide +kernel
theorem dX6_saves_54 : decode cX6_saves 54 = .ok (.aload_n 0, 1) := by decide +kernel
theorem dX6_saves_55 : decode cX6_saves 55 = .ok (.getfield 16, 3) := by decide +kernel
theorem dX6_saves_58 : decode cX6_saves 58 = .ok (.sipush 325, 3) := by decide +kernel
theorem dX6_saves_61 : decode cX6_saves 61 = .ok (.aload_n 0, 1) := by decide +kernel
theorem dX6_saves_62 : decode cX6_saves 62 = .ok (.getfield 72, 3) := by decide +kernel
theorem dX6_saves_65 : decode cX6_saves 65 = .ok (.imul, 1) := by decide +kernel
theorem dX6_saves_66 : decode cX6_saves 66 = .ok (.invokestatic 75, 3) := by decide +kernel
theorem dX6_saves_69 : decode cX6_saves 69 = .ok (.aload_n 0, 1) := by decide +kernel
theorem dX6_saves_70 : decode cX6_saves 70 = .ok (.dup, 1) := by decide +kernel
theorem dX6_saves_71 : decode cX6_saves 71 = .ok (.getfield 72, 3) := by decide +kernel
theorem dX6_saves_74 : decode cX6_saves 74 = .ok (.iconst 1, 1) := by decide +kernel
theorem dX6_saves_75 : decode cX6_saves 75 = .ok (.iadd, 1) := by decide +kernel
theorem dX6_saves_76 : decode cX6_saves 76 = .ok (.putfield 72, 3) := by decide +kernel
theorem dX6_saves_79 : decode cX6_saves 79 = .ok (.return_, 1) := by decide +kernel
theorem dX6_begins_0 : decode cX6_begins 0 = .ok (.iconst 0, 1) := by decide +kernel
theorem dX6_begins_1 : decode cX6_begins 1 = .ok (.istore_n 3, 1) := by decide +kernel
theorem dX6_begins_2 : decode cX6_begins 2 = .ok (.iload_n 3, 1) := by decide +kernel
theorem dX6_begins_3 : decode cX6_begins 3 = .ok (.sipush 490, 3) := by decide +kernel
theorem dX6_begins_6 : decode cX6_begins 6 = .ok (.if_icmp .ge 26, 3) := by decide +kernel
theorem dX6_begins_9 : decode cX6_begins 9 = .ok (.aload_n 0, 1) := by decide +kernel
theorem dX6_begins_10 : decode cX6_begins 10 = .ok (.getfield 22, 3) := by decide +kernel
theorem dX6_begins_13 : decode cX6_begins 13 = .ok (.iload_n 3, 1) := by decide +kernel
theorem dX6_begins_14 : decode cX6_begins 14 = .ok (.bipush 10, 2) := by decide +kernel
theorem dX6_begins_16 : decode cX6_begins 16 = .ok (.idiv, 1) := by decide +kernel
theorem dX6_begins_17 : decode cX6_begins 17 = .ok (.iconst 0, 1) := by decide +kernel
theorem dX6_begins_18 : decode cX6_begins 18 = .ok (.iastore, 1) := by decide +kernel
theorem dX6_begins_19 : decode cX6_begins 19 = .ok (.aload_n 0, 1) := by decide +kernel
theorem dX6_begins_20 : decode cX6_begins 20 = .ok (.getfield 25, 3) := by decide +kernel
theorem dX6_begins_23 : decode cX6_begins 23 = .ok (.iload_n 3, 1) := by decide +kernel
theorem dX6_begins_24 : decode cX6_begins 24 = .ok (.iconst 0, 1) := by decide +kernel
theorem dX6_begins_25 : decode cX6_begins 25 = .ok (.iastore, 1) := by decide +kernel
theorem dX6_begins_26 : decode cX6_begins 26 = .ok (.iinc 3 1, 3) := by decide +kernel
theorem dX6_begins_29 : decode cX6_begins 29 = .ok (.goto (-27), 3) := by decide +kernel
theorem dX6_begins_32 : decode cX6_begins 32 = .ok (.iconst 0, 1) := by decide +kernel
theorem dX6_begins_33 : decode cX6_begins 33 = .ok (.istore_n 3, 1) := by decide +kernel
theorem dX6_begins_34 : decode cX6_begins 34 = .ok (.iload_n 3, 1) := by decide +kernel
theorem dX6_begins_35 : decode cX6_begins 35 = .ok (.aload_n 1, 1) := by decide +kernel
theorem dX6_begins_36 : decode cX6_begins 36 = .ok (.iconst 1, 1) := by decide +kernel
theorem dX6_begins_37 : decode cX6_begins 37 = .ok (.iaload, 1) := by decide +kernel
theorem dX6_begins_38 : decode cX6_begins 38 = .ok (.if_icmp .ge 89, 3) := by decide +kernel
theorem dX6_begins_41 : decode cX6_begins 41 = .ok (.iload_n 3, 1) := by decide +kernel
theorem dX6_begins_42 : decode cX6_begins 42 = .ok (.iload_n 2, 1) := by decide +kernel
theorem dX6_begins_43 : decode cX6_begins 43 = .ok (.if_icmp .eq 78, 3) := by decide +kernel
theorem dX6_begins_46 : decode cX6_begins 46 = .ok (.aload_n 1, 1) := by decide +kernel
theorem dX6_begins_47 : decode cX6_begins 47 = .ok (.iload_n 3, 1) := by decide +kernel
theorem dX6_begins_48 : decode cX6_begins 48 = .ok (.iconst 4, 1) := by decide +kernel
theorem dX6_begins_49 : decode cX6_begins 49 = .ok (.invokestatic 79, 3) := by decide +kernel
theorem dX6_begins_52 : decode cX6_begins 52 = .ok (.iaload, 1) := by decide +kernel
theorem dX6_begins_53 : decode cX6_begins 53 = .ok (.ifCond .ne 68, 3) := by decide +kernel
theorem dX6_begins_56 : decode cX6_begins 56 = .ok (.bipush 7, 2) := by decide +kernel
theorem dX6_begins_58 : decode cX6_begins 58 = .ok (.aload_n 1, 1) := by decide +kernel
theorem dX6_begins_59 : decode cX6_begins 59 = .ok (.iload_n 3, 1) := by decide +kernel
theorem dX6_begins_60 : decode cX6_begins 60 = .ok (.iconst 0, 1) := by decide +kernel
theorem dX6_begins_61 : decode cX6_begins 61 = .ok (.invokestatic 79, 3) := by decide +kernel
theorem dX6_begins_64 : decode cX6_begins 64 = .ok (.iaload, 1) := by decide +kernel
theorem dX6_begins_65 : decode cX6_begins 65 = .ok (.imul, 1) := by decide +kernel
theorem dX6_begins_66 : decode cX6_begins 66 = .ok (.aload_n 1, 1) := by decide +kernel
theorem dX6_begins_67 : decode cX6_begins 67 = .ok (.iload_n 3, 1) := by decide +kernel
theorem dX6_begins_68 : decode cX6_begins 68 = .ok (.iconst 1, 1) := by decide +kernel
theorem dX6_begins_69 : decode cX6_begins 69 = .ok (.invokestatic 79, 3) := by decide +kernel
theorem dX6_begins_72 : decode cX6_begins 72 = .ok (.iaload, 1) := by decide +kernel
theorem dX6_begins_73 : decode cX6_begins 73 = .ok (.iadd, 1) := by decide +kernel
theorem dX6_begins_74 : decode cX6_begins 74 = .ok (.istore 4, 2) := by decide +kernel
theorem dX6_begins_76 : decode cX6_begins 76 = .ok (.aload_n 0, 1) := by decide +kernel
theorem dX6_begins_77 : decode cX6_begins 77 = .ok (.getfield 22, 3) := by decide +kernel
theorem dX6_begins_80 : decode cX6_begins 80 = .ok (.iload 4, 2) := by decide +kernel
theorem dX6_begins_82 : decode cX6_begins 82 = .ok (.dup2, 1) := by decide +kernel
theorem dX6_begins_83 : decode cX6_begins 83 = .ok (.iaload, 1) := by decide +kernel
theorem dX6_begins_84 : decode cX6_begins 84 = .ok (.aload_n 1, 1) := by decide +kernel
theorem dX6_begins_85 : decode cX6_begins 85 = .ok (.iload_n 3, 1) := by decide +kernel
theorem dX6_begins_86 : decode cX6_begins 86 = .ok (.iconst 2, 1) := by decide +kernel
theorem dX6_begins_87 : decode cX6_begins 87 = .ok (.invokestatic 79, 3) := by decide +kernel
theorem dX6_begins_90 : decode cX6_begins 90 = .ok (.iaload, 1) := by decide +kernel
theorem dX6_begins_91 : decode cX6_begins 91 = .ok (.iadd, 1) := by decide +kernel
theorem dX6_begins_92 : decode cX6_begins 92 = .ok (.iastore, 1) := by decide +kernel
theorem dX6_begins_93 : decode cX6_begins 93 = .ok (.aload_n 0, 1) := by decide +kernel
theorem dX6_begins_94 : decode cX6_begins 94 = .ok (.getfield 25, 3) := by decide +kernel
theorem dX6_begins_97 : decode cX6_begins 97 = .ok (.bipush 10, 2) := by decide +kernel
theorem dX6_begins_99 : decode cX6_begins 99 = .ok (.iload 4, 2) := by decide +kernel
theorem dX6_begins_101 : decode cX6_begins 101 = .ok (.imul, 1) := by decide +kernel
theorem dX6_begins_102 : decode cX6_begins 102 = .ok (.aload_n 1, 1) := by decide +kernel
theorem dX6_begins_103 : decode cX6_begins 103 = .ok (.iload_n 3, 1) := by decide +kernel
theorem dX6_begins_104 : decode cX6_begins 104 = .ok (.iconst 3, 1) := by decide +kernel
theorem dX6_begins_105 : decode cX6_begins 105 = .ok (.invokestatic 79, 3) := by decide +kernel
theorem dX6_begins_108 : decode cX6_begins 108 = .ok (.iaload, 1) := by decide +kernel
theorem dX6_begins_109 : decode cX6_begins 109 = .ok (.iadd, 1) := by decide +kernel
theorem dX6_begins_110 : decode cX6_begins 110 = .ok (.dup2, 1) := by decide +kernel
theorem dX6_begins_111 : decode cX6_begins 111 = .ok (.iaload, 1) := by decide +kernel
theorem dX6_begins_112 : decode cX6_begins 112 = .ok (.aload_n 1, 1) := by decide +kernel
theorem dX6_begins_113 : decode cX6_begins 113 = .ok (.iload_n 3, 1) := by decide +kernel
theorem dX6_begins_114 : decode cX6_begins 114 = .ok (.iconst 2, 1) := by decide +kernel
theorem dX6_begins_115 : decode cX6_begins 115 = .ok (.invokestatic 79, 3) := by decide +kernel
theorem dX6_begins_118 : decode cX6_begins 118 = .ok (.iaload, 1) := by decide +kernel
theorem dX6_begins_119 : decode cX6_begins 119 = .ok (.iadd, 1) := by decide +kernel
theorem dX6_begins_120 : decode cX6_begins 120 = .ok (.iastore, 1) := by decide +kernel
theorem dX6_begins_121 : decode cX6_begins 121 = .ok (.iinc 3 1, 3) := by decide +kernel
theorem dX6_begins_124 : decode cX6_begins 124 = .ok (.goto (-90), 3) := by decide +kernel
theorem dX6_begins_127 : decode cX6_begins 127 = .ok (.aload_n 0, 1) := by decide +kernel
theorem dX6_begins_128 : decode cX6_begins 128 = .ok (.aload_n 1, 1) := by decide +kernel
theorem dX6_begins_129 : decode cX6_begins 129 = .ok (.iconst 0, 1) := by decide +kernel
theorem dX6_begins_130 : decode cX6_begins 130 = .ok (.iaload, 1) := by decide +kernel
theorem dX6_begins_131 : decode cX6_begins 131 = .ok (.putfield 83, 3) := by decide +kernel
theorem dX6_begins_134 : decode cX6_begins 134 = .ok (.aload_n 0, 1) := by decide +kernel
theorem dX6_begins_135 : decode cX6_begins 135 = .ok (.iconst 0, 1) := by decide +kernel
theorem dX6_begins_136 : decode cX6_begins 136 = .ok (.putfield 86, 3) := by decide +kernel
theorem dX6_begins_139 : decode cX6_begins 139 = .ok (.aload_n 0, 1) := by decide +kernel
theorem dX6_begins_140 : decode cX6_begins 140 = .ok (.getfield 31, 3) := by decide +kernel
theorem dX6_begins_143 : decode cX6_begins 143 = .ok (.iconst 0, 1) := by decide +kernel
theorem dX6_begins_144 : decode cX6_begins 144 = .ok (.iconst 0, 1) := by decide +kernel
theorem dX6_begins_145 : decode cX6_begins 145 = .ok (.iastore, 1) := by decide +kernel
theorem dX6_begins_146 : decode cX6_begins 146 = .ok (.return_, 1) := by decide +kernel
theorem dX6_isInRow_0 : decode cX6_isInRow 0 = .ok (.iconst 0, 1) := by decide +kernel
theorem dX6_isInRow_1 : decode cX6_isInRow 1 = .ok (.istore_n 2, 1) := by decide +kernel
theorem dX6_isInRow_2 : decode cX6_isInRow 2 = .ok (.iload_n 2, 1) := by decide +kernel
theorem dX6_isInRow_3 : decode cX6_isInRow 3 = .ok (.aload_n 0, 1) := by decide +kernel
theorem dX6_isInRow_4 : decode cX6_isInRow 4 = .ok (.getfield 86, 3) := by decide +kernel
theorem dX6_isInRow_7 : decode cX6_isInRow 7 = .ok (.if_icmp .ge 21, 3) := by decide +kernel
theorem dX6_isInRow_10 : decode cX6_isInRow 10 = .ok (.aload_n 0, 1) := by decide +kernel
theorem dX6_isInRow_11 : decode cX6_isInRow 11 = .ok (.getfield 28, 3) := by decide +kernel
theorem dX6_isInRow_14 : decode cX6_isInRow 14 = .ok (.iload_n 2, 1) := by decide +kernel
theorem dX6_isInRow_15 : decode cX6_isInRow 15 = .ok (.iaload, 1) := by decide +kernel
theorem dX6_isInRow_16 : decode cX6_isInRow 16 = .ok (.iload_n 1, 1) := by decide +kernel
theorem dX6_isInRow_17 : decode cX6_isInRow 17 = .ok (.if_icmp .ne 5, 3) := by decide +kernel
theorem dX6_isInRow_20 : decode cX6_isInRow 20 = .ok (.iconst 1, 1) := by decide +kernel
theorem dX6_isInRow_21 : decode cX6_isInRow 21 = .ok (.ireturn, 1) := by decide +kernel
theorem dX6_isInRow_22 : decode cX6_isInRow 22 = .ok (.iinc 2 1, 3) := by decide +kernel
theorem dX6_isInRow_25 : decode cX6_isInRow 25 = .ok (.goto (-23), 3) := by decide +kernel
theorem dX6_isInRow_28 : decode cX6_isInRow 28 = .ok (.iconst 0, 1) := by decide +kernel
theorem dX6_isInRow_29 : decode cX6_isInRow 29 = .ok (.ireturn, 1) := by decide +kernel
theorem dX6_canCome_0 : decode cX6_canCome 0 = .ok (.aload_n 0, 1) := by decide +kernel
theorem dX6_canCome_1 : decode cX6_canCome 1 = .ok (.getfield 86, 3) := by decide +kernel
theorem dX6_canCome_4 : decode cX6_canCome 4 = .ok (.ifCond .eq 45, 3) := by decide +kernel
theorem dX6_canCome_7 : decode cX6_canCome 7 = .ok (.iload_n 1, 1) := by decide +kernel
theorem dX6_canCome_8 : decode cX6_canCome 8 = .ok (.aload_n 0, 1) := by decide +kernel
theorem dX6_canCome_9 : decode cX6_canCome 9 = .ok (.getfield 28, 3) := by decide +kernel
theorem dX6_canCome_12 : decode cX6_canCome 12 = .ok (.iconst 0, 1) := by decide +kernel
theorem dX6_canCome_13 : decode cX6_canCome 13 = .ok (.iaload, 1) := by decide +kernel
theorem dX6_canCome_14 : decode cX6_canCome 14 = .ok (.if_icmp .le 39, 3) := by decide +kernel
theorem dX6_canCome_17 : decode cX6_canCome 17 = .ok (.aload_n 0, 1) := by decide +kernel
theorem dX6_canCome_18 : decode cX6_canCome 18 = .ok (.iload_n 1, 1) := by decide +kernel
theorem dX6_canCome_19 : decode cX6_canCome 19 = .ok (.invokevirtual 89, 3) := by decide +kernel
theorem dX6_canCome_22 : decode cX6_canCome 22 = .ok (.ifCond .ne 31, 3) := by decide +kernel
theorem dX6_canCome_25 : decode cX6_canCome 25 = .ok (.aload_n 0, 1) := by decide +kernel
theorem dX6_canCome_26 : decode cX6_canCome 26 = .ok (.getfield 22, 3) := by decide +kernel
theorem dX6_canCome_29 : decode cX6_canCome 29 = .ok (.bipush 7, 2) := by decide +kernel
theorem dX6_canCome_31 : decode cX6_canCome 31 = .ok (.aload_n 0, 1) := by decide +kernel
theorem dX6_canCome_32 : decode cX6_canCome 32 = .ok (.getfield 28, 3) := by decide +kernel
theorem dX6_canCome_35 : decode cX6_canCome 35 = .ok (.aload_n 0, 1) := by decide +kernel
theorem dX6_canCome_36 : decode cX6_canCome 36 = .ok (.getfield 86, 3) := by decide +kernel
theorem dX6_canCome_39 : decode cX6_canCome 39 = .ok (.iconst 1, 1) := by decide +kernel
theorem dX6_canCome_40 : decode cX6_canCome 40 = .ok (.isub, 1) := by decide +kernel
theorem dX6_canCome_41 : decode cX6_canCome 41 = .ok (.iaload, 1) := by decide +kernel
theorem dX6_canCome_42 : decode cX6_canCome 42 = .ok (.imul, 1) := by decide +kernel
theorem dX6_canCome_43 : decode cX6_canCome 43 = .ok (.iload_n 1, 1) := by decide +kernel
theorem dX6_canCome_44 : decode cX6_canCome 44 = .ok (.iadd, 1) := by decide +kernel
theorem dX6_canCome_45 : decode cX6_canCome 45 = .ok (.iaload, 1) := by decide +kernel
theorem dX6_canCome_46 : decode cX6_canCome 46 = .ok (.ifCond .le 7, 3) := by decide +kernel
theorem dX6_canCome_49 : decode cX6_canCome 49 = .ok (.iconst 1, 1) := by decide +kernel
theorem dX6_canCome_50 : decode cX6_canCome 50 = .ok (.goto 4, 3) := by decide +kernel
theorem dX6_canCome_53 : decode cX6_canCome 53 = .ok (.iconst 0, 1) := by decide +kernel
theorem dX6_canCome_54 : decode cX6_canCome 54 = .ok (.ireturn, 1) := by decide +kernel
theorem dX6_comes_0 : decode cX6_comes 0 = .ok (.aload_n 0, 1) := by decide +kernel
theorem dX6_comes_1 : decode cX6_comes 1 = .ok (.getfield 86, 3) := by decide +kernel
theorem dX6_comes_4 : decode cX6_comes 4 = .ok (.ifCond .gt 16, 3) := by decide +kernel
theorem dX6_comes_7 : decode cX6_comes 7 = .ok (.aload_n 0, 1) := by decide +kernel
theorem dX6_comes_8 : decode cX6_comes 8 = .ok (.getfield 31, 3) := by decide +kernel
theorem dX6_comes_11 : decode cX6_comes 11 = .ok (.iconst 0, 1) := by decide +kernel
theorem dX6_comes_12 : decode cX6_comes 12 = .ok (.iaload, 1) := by decide +kernel
theorem dX6_comes_13 : decode cX6_comes 13 = .ok (.aload_n 0, 1) := by decide +kernel
theorem dX6_comes_14 : decode cX6_comes 14 = .ok (.getfield 83, 3) := by decide +kernel
theorem dX6_comes_17 : decode cX6_comes 17 = .ok (.if_icmp .ge 120, 3) := by decide +kernel
theorem dX6_comes_20 : decode cX6_comes 20 = .ok (.aload_n 0, 1) := by decide +kernel
theorem dX6_comes_21 : decode cX6_comes 21 = .ok (.getfield 31, 3) := by decide +kernel
theorem dX6_comes_24 : decode cX6_comes 24 = .ok (.aload_n 0, 1) := by decide +kernel
theorem dX6_comes_25 : decode cX6_comes 25 = .ok (.getfield 86, 3) := by decide +kernel
theorem dX6_comes_28 : decode cX6_comes 28 = .ok (.iaload, 1) := by decide +kernel
theorem dX6_comes_29 : decode cX6_comes 29 = .ok (.istore_n 1, 1) := by decide +kernel
theorem dX6_comes_30 : decode cX6_comes 30 = .ok (.iload_n 1, 1) := by decide +kernel
theorem dX6_comes_31 : decode cX6_comes 31 = .ok (.aload_n 0, 1) := by decide +kernel
theorem dX6_comes_32 : decode cX6_comes 32 = .ok (.getfield 83, 3) := by decide +kernel
theorem dX6_comes_35 : decode cX6_comes 35 = .ok (.if_icmp .lt 16, 3) := by decide +kernel
theorem dX6_comes_38 : decode cX6_comes 38 = .ok (.aload_n 0, 1) := by decide +kernel
theorem dX6_comes_39 : decode cX6_comes 39 = .ok (.dup, 1) := by decide +kernel
theorem dX6_comes_40 : decode cX6_comes 40 = .ok (.getfield 86, 3) := by decide +kernel
theorem dX6_comes_43 : decode cX6_comes 43 = .ok (.iconst 1, 1) := by decide +kernel
theorem dX6_comes_44 : decode cX6_comes 44 = .ok (.isub, 1) := by decide +kernel
theorem dX6_comes_45 : decode cX6_comes 45 = .ok (.putfield 86, 3) := by decide +kernel
theorem dX6_comes_48 : decode cX6_comes 48 = .ok (.goto (-48), 3) := by decide +kernel
theorem dX6_comes_51 : decode cX6_comes 51 = .ok (.aload_n 0, 1) := by decide +kernel
theorem dX6_comes_52 : decode cX6_comes 52 = .ok (.getfield 31, 3) := by decide +kernel
theorem dX6_comes_55 : decode cX6_comes 55 = .ok (.aload_n 0, 1) := by decide +kernel
theorem dX6_comes_56 : decode cX6_comes 56 = .ok (.getfield 86, 3) := by decide +kernel
theorem dX6_comes_59 : decode cX6_comes 59 = .ok (.dup2, 1) := by decide +kernel
theorem dX6_comes_60 : decode cX6_comes 60 = .ok (.iaload, 1) := by decide +kernel
theorem dX6_comes_61 : decode cX6_comes 61 = .ok (.iconst 1, 1) := by decide +kernel
theorem dX6_comes_62 : decode cX6_comes 62 = .ok (.iadd, 1) := by decide +kernel
theorem dX6_comes_63 : decode cX6_comes 63 = .ok (.iastore, 1) := by decide +kernel
theorem dX6_comes_64 : decode cX6_comes 64 = .ok (.aload_n 0, 1) := by decide +kernel
theorem dX6_comes_65 : decode cX6_comes 65 = .ok (.iload_n 1, 1) := by decide +kernel
theorem dX6_comes_66 : decode cX6_comes 66 = .ok (.invokevirtual 93, 3) := by decide +kernel
theorem dX6_comes_69 : decode cX6_comes 69 = .ok (.ifCond .ne 6, 3) := by decide +kernel
theorem dX6_comes_72 : decode cX6_comes 72 = .ok (.goto (-72), 3) := by decide +kernel
theorem dX6_comes_75 : decode cX6_comes 75 = .ok (.aload_n 0, 1) := by decide +kernel
theorem dX6_comes_76 : decode cX6_comes 76 = .ok (.getfield 28, 3) := by decide +kernel
theorem dX6_comes_79 : decode cX6_comes 79 = .ok (.aload_n 0, 1) := by decide +kernel
theorem dX6_comes_80 : decode cX6_comes 80 = .ok (.getfield 86, 3) := by decide +kernel
theorem dX6_comes_83 : decode cX6_comes 83 = .ok (.iload_n 1, 1) := by decide +kernel
theorem dX6_comes_84 : decode cX6_comes 84 = .ok (.iastore, 1) := by decide +kernel
theorem dX6_comes_85 : decode cX6_comes 85 = .ok (.aload_n 0, 1) := by decide +kernel
theorem dX6_comes_86 : decode cX6_comes 86 = .ok (.dup, 1) := by decide +kernel
theorem dX6_comes_87 : decode cX6_comes 87 = .ok (.getfield 86, 3) := by decide +kernel
theorem dX6_comes_90 : decode cX6_comes 90 = .ok (.iconst 1, 1) := by decide +kernel
theorem dX6_comes_91 : decode cX6_comes 91 = .ok (.iadd, 1) := by decide +kernel
theorem dX6_comes_92 : decode cX6_comes 92 = .ok (.putfield 86, 3) := by decide +kernel
theorem dX6_comes_95 : decode cX6_comes 95 = .ok (.aload_n 0, 1) := by decide +kernel
theorem dX6_comes_96 : decode cX6_comes 96 = .ok (.getfield 31, 3) := by decide +kernel
theorem dX6_comes_99 : decode cX6_comes 99 = .ok (.aload_n 0, 1) := by decide +kernel
theorem dX6_comes_100 : decode cX6_comes 100 = .ok (.getfield 86, 3) := by decide +kernel
theorem dX6_comes_103 : decode cX6_comes 103 = .ok (.iconst 0, 1) := by decide +kernel
theorem dX6_comes_104 : decode cX6_comes 104 = .ok (.iastore, 1) := by decide +kernel
theorem dX6_comes_105 : decode cX6_comes 105 = .ok (.aload_n 0, 1) := by decide +kernel
theorem dX6_comes_106 : decode cX6_comes 106 = .ok (.getfield 86, 3) := by decide +kernel
theorem dX6_comes_109 : decode cX6_comes 109 = .ok (.iconst 1, 1) := by decide +kernel
theorem dX6_comes_110 : decode cX6_comes 110 = .ok (.if_icmp .le 24, 3) := by decide +kernel
theorem dX6_comes_113 : decode cX6_comes 113 = .ok (.aload_n 0, 1) := by decide +kernel
theorem dX6_comes_114 : decode cX6_comes 114 = .ok (.getfield 22, 3) := by decide +kernel
theorem dX6_comes_117 : decode cX6_comes 117 = .ok (.bipush 7, 2) := by decide +kernel
theorem dX6_comes_119 : decode cX6_comes 119 = .ok (.iload_n 1, 1) := by decide +kernel
theorem dX6_comes_120 : decode cX6_comes 120 = .ok (.imul, 1) := by decide +kernel
theorem dX6_comes_121 : decode cX6_comes 121 = .ok (.aload_n 0, 1) := by decide +kernel
theorem dX6_comes_122 : decode cX6_comes 122 = .ok (.getfield 28, 3) := by decide +kernel
theorem dX6_comes_125 : decode cX6_comes 125 = .ok (.iconst 0, 1) := by decide +kernel
theorem dX6_comes_126 : decode cX6_comes 126 = .ok (.iaload, 1) := by decide +kernel
theorem dX6_comes_127 : decode cX6_comes 127 = .ok (.iadd, 1) := by decide +kernel
theorem dX6_comes_128 : decode cX6_comes 128 = .ok (.iaload, 1) := by decide +kernel
theorem dX6_comes_129 : decode cX6_comes 129 = .ok (.ifCond .le 5, 3) := by decide +kernel
theorem dX6_comes_132 : decode cX6_comes 132 = .ok (.iconst 1, 1) := by decide +kernel
theorem dX6_comes_133 : decode cX6_comes 133 = .ok (.ireturn, 1) := by decide +kernel
theorem dX6_comes_134 : decode cX6_comes 134 = .ok (.goto (-134), 3) := by decide +kernel
theorem dX6_comes_137 : decode cX6_comes 137 = .ok (.iconst 0, 1) := by decide +kernel
theorem dX6_comes_138 : decode cX6_comes 138 = .ok (.ireturn, 1) := by decide +kernel
theorem dX6_countRings_0 : decode cX6_countRings 0 = .ok (.aload_n 0, 1) := by decide +kernel
theorem dX6_countRings_1 : decode cX6_countRings 1 = .ok (.aload_n 1, 1) := by decide +kernel
theorem dX6_countRings_2 : decode cX6_countRings 2 = .ok (.iload_n 2, 1) := by decide +kernel
theorem dX6_countRings_3 : decode cX6_countRings 3 = .ok (.invokevirtual 96, 3) := by decide +kernel
theorem dX6_countRings_6 : decode cX6_countRings 6 = .ok (.iconst 0, 1) := by decide +kernel
theorem dX6_countRings_7 : decode cX6_countRings 7 = .ok (.istore_n 3, 1) := by decide +kernel
theorem dX6_countRings_8 : decode cX6_countRings 8 = .ok (.aload_n 0, 1) := by decide +kernel
theorem dX6_countRings_9 : decode cX6_countRings 9 = .ok (.invokevirtual 100, 3) := by decide +kernel
theorem dX6_countRings_12 : decode cX6_countRings 12 = .ok (.ifCond .eq 9, 3) := by decide +kernel
theorem dX6_countRings_15 : decode cX6_countRings 15 = .ok (.iinc 3 1, 3) := by decide +kernel
theorem dX6_countRings_18 : decode cX6_countRings 18 = .ok (.goto (-10), 3) := by decide +kernel
theorem dX6_countRings_21 : decode cX6_countRings 21 = .ok (.iload_n 3, 1) := by decide +kernel
theorem dX6_countRings_22 : decode cX6_countRings 22 = .ok (.ireturn, 1) := by decide +kernel
theorem dX6_findsRing_0 : decode cX6_findsRing 0 = .ok (.iload_n 1, 1) := by decide +kernel
theorem dX6_findsRing_1 : decode cX6_findsRing 1 = .ok (.ifCond .ge 5, 3) := by decide +kernel
theorem dX6_findsRing_4 : decode cX6_findsRing 4 = .ok (.iconst 0, 1) := by decide +kernel
theorem dX6_findsRing_5 : decode cX6_findsRing 5 = .ok (.ireturn, 1) := by decide +kernel
theorem dX6_findsRing_6 : decode cX6_findsRing 6 = .ok (.aload_n 0, 1) := by decide +kernel
theorem dX6_findsRing_7 : decode cX6_findsRing 7 = .ok (.aload_n 0, 1) := by decide +kernel
theorem dX6_findsRing_8 : decode cX6_findsRing 8 = .ok (.getfield 7, 3) := by decide +kernel
theorem dX6_findsRing_11 : decode cX6_findsRing 11 = .ok (.iconst (-1), 1) := by decide +kernel
theorem dX6_findsRing_12 : decode cX6_findsRing 12 = .ok (.invokevirtual 96, 3) := by decide +kernel
theorem dX6_findsRing_15 : decode cX6_findsRing 15 = .ok (.iconst 0, 1) := by decide +kernel
theorem dX6_findsRing_16 : decode cX6_findsRing 16 = .ok (.istore_n 2, 1) := by decide +kernel
theorem dX6_findsRing_17 : decode cX6_findsRing 17 = .ok (.aload_n 0, 1) := by decide +kernel
theorem dX6_findsRing_18 : decode cX6_findsRing 18 = .ok (.invokevirtual 100, 3) := by decide +kernel
theorem dX6_findsRing_21 : decode cX6_findsRing 21 = .ok (.ifCond .eq 16, 3) := by decide +kernel
theorem dX6_findsRing_24 : decode cX6_findsRing 24 = .ok (.iload_n 2, 1) := by decide +kernel
theorem dX6_findsRing_25 : decode cX6_findsRing 25 = .ok (.iload_n 1, 1) := by decide +kernel
theorem dX6_findsRing_26 : decode cX6_findsRing 26 = .ok (.if_icmp .ne 5, 3) := by decide +kernel
theorem dX6_findsRing_29 : decode cX6_findsRing 29 = .ok (.iconst 1, 1) := by decide +kernel
theorem dX6_findsRing_30 : decode cX6_findsRing 30 = .ok (.ireturn, 1) := by decide +kernel
theorem dX6_findsRing_31 : decode cX6_findsRing 31 = .ok (.iinc 2 1, 3) := by decide +kernel
theorem dX6_findsRing_34 : decode cX6_findsRing 34 = .ok (.goto (-17), 3) := by decide +kernel
theorem dX6_findsRing_37 : decode cX6_findsRing 37 = .ok (.iconst 0, 1) := by decide +kernel
theorem dX6_findsRing_38 : decode cX6_findsRing 38 = .ok (.ireturn, 1) := by decide +kernel
theorem dX6_follower_0 : decode cX6_follower 0 = .ok (.iload_n 1, 1) := by decide +kernel
theorem dX6_follower_1 : decode cX6_follower 1 = .ok (.iconst 1, 1) := by decide +kernel
theorem dX6_follower_2 : decode cX6_follower 2 = .ok (.iadd, 1) := by decide +kernel
theorem dX6_follower_3 : decode cX6_follower 3 = .ok (.aload_n 0, 1) := by decide +kernel
theorem dX6_follower_4 : decode cX6_follower 4 = .ok (.getfield 86, 3) := by decide +kernel
theorem dX6_follower_7 : decode cX6_follower 7 = .ok (.if_icmp .ge 14, 3) := by decide +kernel
theorem dX6_follower_10 : decode cX6_follower 10 = .ok (.aload_n 0, 1) := by decide +kernel
theorem dX6_follower_11 : decode cX6_follower 11 = .ok (.getfield 28, 3) := by decide +kernel
theorem dX6_follower_14 : decode cX6_follower 14 = .ok (.iload_n 1, 1) := by decide +kernel
theorem dX6_follower_15 : decode cX6_follower 15 = .ok (.iconst 1, 1) := by decide +kernel
theorem dX6_follower_16 : decode cX6_follower 16 = .ok (.iadd, 1) := by decide +kernel
theorem dX6_follower_17 : decode cX6_follower 17 = .ok (.iaload, 1) := by decide +kernel
theorem dX6_follower_18 : decode cX6_follower 18 = .ok (.goto 9, 3) := by decide +kernel
theorem dX6_follower_21 : decode cX6_follower 21 = .ok (.aload_n 0, 1) := by decide +kernel
theorem dX6_follower_22 : decode cX6_follower 22 = .ok (.getfield 28, 3) := by decide +kernel
theorem dX6_follower_25 : decode cX6_follower 25 = .ok (.iconst 0, 1) := by decide +kernel
theorem dX6_follower_26 : decode cX6_follower 26 = .ok (.iaload, 1) := by decide +kernel
theorem dX6_follower_27 : decode cX6_follower 27 = .ok (.ireturn, 1) := by decide +kernel
theorem dX6_roomOf_0 : decode cX6_roomOf 0 = .ok (.aload_n 0, 1) := by decide +kernel
theorem dX6_roomOf_1 : decode cX6_roomOf 1 = .ok (.getfield 22, 3) := by decide +kernel
theorem dX6_roomOf_4 : decode cX6_roomOf 4 = .ok (.bipush 7, 2) := by decide +kernel
theorem dX6_roomOf_6 : decode cX6_roomOf 6 = .ok (.aload_n 0, 1) := by decide +kernel
theorem dX6_roomOf_7 : decode cX6_roomOf 7 = .ok (.getfield 28, 3) := by decide +kernel
theorem dX6_roomOf_10 : decode cX6_roomOf 10 = .ok (.aload_n 0, 1) := by decide +kernel
theorem dX6_roomOf_11 : decode cX6_roomOf 11 = .ok (.getfield 86, 3) := by decide +kernel
theorem dX6_roomOf_14 : decode cX6_roomOf 14 = .ok (.iconst 1, 1) := by decide +kernel
theorem dX6_roomOf_15 : decode cX6_roomOf 15 = .ok (.isub, 1) := by decide +kernel
theorem dX6_roomOf_16 : decode cX6_roomOf 16 = .ok (.iaload, 1) := by decide +kernel
theorem dX6_roomOf_17 : decode cX6_roomOf 17 = .ok (.imul, 1) := by decide +kernel
theorem dX6_roomOf_18 : decode cX6_roomOf 18 = .ok (.aload_n 0, 1) := by decide +kernel
theorem dX6_roomOf_19 : decode cX6_roomOf 19 = .ok (.getfield 28, 3) := by decide +kernel
theorem dX6_roomOf_22 : decode cX6_roomOf 22 = .ok (.iconst 0, 1) := by decide +kernel
theorem dX6_roomOf_23 : decode cX6_roomOf 23 = .ok (.iaload, 1) := by decide +kernel
theorem dX6_roomOf_24 : decode cX6_roomOf 24 = .ok (.iadd, 1) := by decide +kernel
theorem dX6_roomOf_25 : decode cX6_roomOf 25 = .ok (.iaload, 1) := by decide +kernel
theorem dX6_roomOf_26 : decode cX6_roomOf 26 = .ok (.istore_n 1, 1) := by decide +kernel
theorem dX6_roomOf_27 : decode cX6_roomOf 27 = .ok (.iconst 0, 1) := by decide +kernel
theorem dX6_roomOf_28 : decode cX6_roomOf 28 = .ok (.istore_n 2, 1) := by decide +kernel
theorem dX6_roomOf_29 : decode cX6_roomOf 29 = .ok (.iload_n 2, 1) := by decide +kernel
theorem dX6_roomOf_30 : decode cX6_roomOf 30 = .ok (.iconst 1, 1) := by decide +kernel
theorem dX6_roomOf_31 : decode cX6_roomOf 31 = .ok (.iadd, 1) := by decide +kernel
theorem dX6_roomOf_32 : decode cX6_roomOf 32 = .ok (.aload_n 0, 1) := by decide +kernel
theorem dX6_roomOf_33 : decode cX6_roomOf 33 = .ok (.getfield 86, 3) := by decide +kernel
theorem dX6_roomOf_36 : decode cX6_roomOf 36 = .ok (.if_icmp .ge 37, 3) := by decide +kernel
theorem dX6_roomOf_39 : decode cX6_roomOf 39 = .ok (.iload_n 1, 1) := by decide +kernel
theorem dX6_roomOf_40 : decode cX6_roomOf 40 = .ok (.aload_n 0, 1) := by decide +kernel
theorem dX6_roomOf_41 : decode cX6_roomOf 41 = .ok (.getfield 22, 3) := by decide +kernel
theorem dX6_roomOf_44 : decode cX6_roomOf 44 = .ok (.bipush 7, 2) := by decide +kernel
theorem dX6_roomOf_46 : decode cX6_roomOf 46 = .ok (.aload_n 0, 1) := by decide +kernel
theorem dX6_roomOf_47 : decode cX6_roomOf 47 = .ok (.getfield 28, 3) := by decide +kernel
theorem dX6_roomOf_50 : decode cX6_roomOf 50 = .ok (.iload_n 2, 1) := by decide +kernel
theorem dX6_roomOf_51 : decode cX6_roomOf 51 = .ok (.iaload, 1) := by decide +kernel
theorem dX6_roomOf_52 : decode cX6_roomOf 52 = .ok (.imul, 1) := by decide +kernel
theorem dX6_roomOf_53 : decode cX6_roomOf 53 = .ok (.aload_n 0, 1) := by decide +kernel
theorem dX6_roomOf_54 : decode cX6_roomOf 54 = .ok (.getfield 28, 3) := by decide +kernel
theorem dX6_roomOf_57 : decode cX6_roomOf 57 = .ok (.iload_n 2, 1) := by decide +kernel
theorem dX6_roomOf_58 : decode cX6_roomOf 58 = .ok (.iconst 1, 1) := by decide +kernel
theorem dX6_roomOf_59 : decode cX6_roomOf 59 = .ok (.iadd, 1) := by decide +kernel
theorem dX6_roomOf_60 : decode cX6_roomOf 60 = .ok (.iaload, 1) := by decide +kernel
theorem dX6_roomOf_61 : decode cX6_roomOf 61 = .ok (.iadd, 1) := by decide +kernel
theorem dX6_roomOf_62 : decode cX6_roomOf 62 = .ok (.iaload, 1) := by decide +kernel
theorem dX6_roomOf_63 : decode cX6_roomOf 63 = .ok (.invokestatic 104, 3) := by decide +kernel
theorem dX6_roomOf_66 : decode cX6_roomOf 66 = .ok (.istore_n 1, 1) := by decide +kernel
theorem dX6_roomOf_67 : decode cX6_roomOf 67 = .ok (.iinc 2 1, 3) := by decide +kernel
theorem dX6_roomOf_70 : decode cX6_roomOf 70 = .ok (.goto (-41), 3) := by decide +kernel
theorem dX6_roomOf_73 : decode cX6_roomOf 73 = .ok (.iload_n 1, 1) := by decide +kernel
theorem dX6_roomOf_74 : decode cX6_roomOf 74 = .ok (.ireturn, 1) := by decide +kernel
theorem dX6_costBy_0 : decode cX6_costBy 0 = .ok (.iload_n 2, 1) := by decide +kernel
theorem dX6_costBy_1 : decode cX6_costBy 1 = .ok (.istore_n 3, 1) := by decide +kernel
theorem dX6_costBy_2 : decode cX6_costBy 2 = .ok (.iconst 0, 1) := by decide +kernel
theorem dX6_costBy_3 : decode cX6_costBy 3 = .ok (.istore 4, 2) := by decide +kernel
theorem dX6_costBy_5 : decode cX6_costBy 5 = .ok (.bipush 9, 2) := by decide +kernel
theorem dX6_costBy_7 : decode cX6_costBy 7 = .ok (.istore 5, 2) := by decide +kernel
theorem dX6_costBy_9 : decode cX6_costBy 9 = .ok (.iload 5, 2) := by decide +kernel
theorem dX6_costBy_11 : decode cX6_costBy 11 = .ok (.ifCond .le 42, 3) := by decide +kernel
theorem dX6_costBy_14 : decode cX6_costBy 14 = .ok (.iload_n 3, 1) := by decide +kernel
theorem dX6_costBy_15 : decode cX6_costBy 15 = .ok (.aload_n 0, 1) := by decide +kernel
theorem dX6_costBy_16 : decode cX6_costBy 16 = .ok (.getfield 25, 3) := by decide +kernel
theorem dX6_costBy_19 : decode cX6_costBy 19 = .ok (.bipush 10, 2) := by decide +kernel
theorem dX6_costBy_21 : decode cX6_costBy 21 = .ok (.iload_n 1, 1) := by decide +kernel
theorem dX6_costBy_22 : decode cX6_costBy 22 = .ok (.imul, 1) := by decide +kernel
theorem dX6_costBy_23 : decode cX6_costBy 23 = .ok (.iload 5, 2) := by decide +kernel
theorem dX6_costBy_25 : decode cX6_costBy 25 = .ok (.iadd, 1) := by decide +kernel
theorem dX6_costBy_26 : decode cX6_costBy 26 = .ok (.iaload, 1) := by decide +kernel
theorem dX6_costBy_27 : decode cX6_costBy 27 = .ok (.invokestatic 104, 3) := by decide +kernel
theorem dX6_costBy_30 : decode cX6_costBy 30 = .ok (.istore 6, 2) := by decide +kernel
theorem dX6_costBy_32 : decode cX6_costBy 32 = .ok (.iload_n 3, 1) := by decide +kernel
theorem dX6_costBy_33 : decode cX6_costBy 33 = .ok (.iload 6, 2) := by decide +kernel
theorem dX6_costBy_35 : decode cX6_costBy 35 = .ok (.isub, 1) := by decide +kernel
theorem dX6_costBy_36 : decode cX6_costBy 36 = .ok (.istore_n 3, 1) := by decide +kernel
theorem dX6_costBy_37 : decode cX6_costBy 37 = .ok (.iload 4, 2) := by decide +kernel
theorem dX6_costBy_39 : decode cX6_costBy 39 = .ok (.iload 6, 2) := by decide +kernel
theorem dX6_costBy_41 : decode cX6_costBy 41 = .ok (.iload 5, 2) := by decide +kernel
theorem dX6_costBy_43 : decode cX6_costBy 43 = .ok (.imul, 1) := by decide +kernel
theorem dX6_costBy_44 : decode cX6_costBy 44 = .ok (.iadd, 1) := by decide +kernel
theorem dX6_costBy_45 : decode cX6_costBy 45 = .ok (.istore 4, 2) := by decide +kernel
theorem dX6_costBy_47 : decode cX6_costBy 47 = .ok (.iinc 5 (-1), 3) := by decide +kernel
theorem dX6_costBy_50 : decode cX6_costBy 50 = .ok (.goto (-41), 3) := by decide +kernel
theorem dX6_costBy_53 : decode cX6_costBy 53 = .ok (.iload 4, 2) := by decide +kernel
theorem dX6_costBy_55 : decode cX6_costBy 55 = .ok (.ireturn, 1) := by decide +kernel
theorem dX6_savingBy_0 : decode cX6_savingBy 0 = .ok (.iconst 0, 1) := by decide +kernel
theorem dX6_savingBy_1 : decode cX6_savingBy 1 = .ok (.istore_n 2, 1) := by decide +kernel
theorem dX6_savingBy_2 : decode cX6_savingBy 2 = .ok (.iconst 0, 1) := by decide +kernel
theorem dX6_savingBy_3 : decode cX6_savingBy 3 = .ok (.istore_n 3, 1) := by decide +kernel
theorem dX6_savingBy_4 : decode cX6_savingBy 4 = .ok (.iload_n 3, 1) := by decide +kernel
theorem dX6_savingBy_5 : decode cX6_savingBy 5 = .ok (.aload_n 0, 1) := by decide +kernel
theorem dX6_savingBy_6 : decode cX6_savingBy 6 = .ok (.getfield 86, 3) := by decide +kernel
theorem dX6_savingBy_9 : decode cX6_savingBy 9 = .ok (.if_icmp .ge 32, 3) := by decide +kernel
theorem dX6_savingBy_12 : decode cX6_savingBy 12 = .ok (.iload_n 2, 1) := by decide +kernel
theorem dX6_savingBy_13 : decode cX6_savingBy 13 = .ok (.aload_n 0, 1) := by decide +kernel
theorem dX6_savingBy_14 : decode cX6_savingBy 14 = .ok (.bipush 7, 2) := by decide +kernel
theorem dX6_savingBy_16 : decode cX6_savingBy 16 = .ok (.aload_n 0, 1) := by decide +kernel
theorem dX6_savingBy_17 : decode cX6_savingBy 17 = .ok (.getfield 28, 3) := by decide +kernel
theorem dX6_savingBy_20 : decode cX6_savingBy 20 = .ok (.iload_n 3, 1) := by decide +kernel
theorem dX6_savingBy_21 : decode cX6_savingBy 21 = .ok (.iaload, 1) := by decide +kernel
theorem dX6_savingBy_22 : decode cX6_savingBy 22 = .ok (.imul, 1) := by decide +kernel
theorem dX6_savingBy_23 : decode cX6_savingBy 23 = .ok (.aload_n 0, 1) := by decide +kernel
theorem dX6_savingBy_24 : decode cX6_savingBy 24 = .ok (.iload_n 3, 1) := by decide +kernel
theorem dX6_savingBy_25 : decode cX6_savingBy 25 = .ok (.invokevirtual 107, 3) := by decide +kernel
theorem dX6_savingBy_28 : decode cX6_savingBy 28 = .ok (.iadd, 1) := by decide +kernel
theorem dX6_savingBy_29 : decode cX6_savingBy 29 = .ok (.iload_n 1, 1) := by decide +kernel
theorem dX6_savingBy_30 : decode cX6_savingBy 30 = .ok (.invokevirtual 111, 3) := by decide +kernel
theorem dX6_savingBy_33 : decode cX6_savingBy 33 = .ok (.iadd, 1) := by decide +kernel
theorem dX6_savingBy_34 : decode cX6_savingBy 34 = .ok (.istore_n 2, 1) := by decide +kernel
theorem dX6_savingBy_35 : decode cX6_savingBy 35 = .ok (.iinc 3 1, 3) := by decide +kernel
theorem dX6_savingBy_38 : decode cX6_savingBy 38 = .ok (.goto (-34), 3) := by decide +kernel
theorem dX6_savingBy_41 : decode cX6_savingBy 41 = .ok (.iload_n 2, 1) := by decide +kernel
theorem dX6_savingBy_42 : decode cX6_savingBy 42 = .ok (.ireturn, 1) := by decide +kernel
theorem dX6_releases_0 : decode cX6_releases 0 = .ok (.iload_n 3, 1) := by decide +kernel
theorem dX6_releases_1 : decode cX6_releases 1 = .ok (.istore 4, 2) := by decide +kernel
theorem dX6_releases_3 : decode cX6_releases 3 = .ok (.bipush 9, 2) := by decide +kernel
theorem dX6_releases_5 : decode cX6_releases 5 = .ok (.istore 5, 2) := by decide +kernel
theorem dX6_releases_7 : decode cX6_releases 7 = .ok (.iload 5, 2) := by decide +kernel
theorem dX6_releases_9 : decode cX6_releases 9 = .ok (.ifCond .le 139, 3) := by decide +kernel
theorem dX6_releases_12 : decode cX6_releases 12 = .ok (.iconst 0, 1) := by decide +kernel
theorem dX6_releases_13 : decode cX6_releases 13 = .ok (.istore 6, 2) := by decide +kernel
theorem dX6_releases_15 : decode cX6_releases 15 = .ok (.iload 6, 2) := by decide +kernel
theorem dX6_releases_17 : decode cX6_releases 17 = .ok (.aload_n 0, 1) := by decide +kernel
theorem dX6_releases_18 : decode cX6_releases 18 = .ok (.iconst 1, 1) := by decide +kernel
theorem dX6_releases_19 : decode cX6_releases 19 = .ok (.iaload, 1) := by decide +kernel
theorem dX6_releases_20 : decode cX6_releases 20 = .ok (.if_icmp .ge 122, 3) := by decide +kernel
theorem dX6_releases_23 : decode cX6_releases 23 = .ok (.aload_n 0, 1) := by decide +kernel
theorem dX6_releases_24 : decode cX6_releases 24 = .ok (.iload 6, 2) := by decide +kernel
theorem dX6_releases_26 : decode cX6_releases 26 = .ok (.iconst 0, 1) := by decide +kernel
theorem dX6_releases_27 : decode cX6_releases 27 = .ok (.invokestatic 79, 3) := by decide +kernel
theorem dX6_releases_30 : decode cX6_releases 30 = .ok (.iaload, 1) := by decide +kernel
theorem dX6_releases_31 : decode cX6_releases 31 = .ok (.iload_n 1, 1) := by decide +kernel
theorem dX6_releases_32 : decode cX6_releases 32 = .ok (.if_icmp .ne 43, 3) := by decide +kernel
theorem dX6_releases_35 : decode cX6_releases 35 = .ok (.aload_n 0, 1) := by decide +kernel
theorem dX6_releases_36 : decode cX6_releases 36 = .ok (.iload 6, 2) := by decide +kernel
theorem dX6_releases_38 : decode cX6_releases 38 = .ok (.iconst 1, 1) := by decide +kernel
theorem dX6_releases_39 : decode cX6_releases 39 = .ok (.invokestatic 79, 3) := by decide +kernel
theorem dX6_releases_42 : decode cX6_releases 42 = .ok (.iaload, 1) := by decide +kernel
theorem dX6_releases_43 : decode cX6_releases 43 = .ok (.iload_n 2, 1) := by decide +kernel
theorem dX6_releases_44 : decode cX6_releases 44 = .ok (.if_icmp .ne 31, 3) := by decide +kernel
theorem dX6_releases_47 : decode cX6_releases 47 = .ok (.aload_n 0, 1) := by decide +kernel
theorem dX6_releases_48 : decode cX6_releases 48 = .ok (.iload 6, 2) := by decide +kernel
theorem dX6_releases_50 : decode cX6_releases 50 = .ok (.iconst 3, 1) := by decide +kernel
theorem dX6_releases_51 : decode cX6_releases 51 = .ok (.invokestatic 79, 3) := by decide +kernel
theorem dX6_releases_54 : decode cX6_releases 54 = .ok (.iaload, 1) := by decide +kernel
theorem dX6_releases_55 : decode cX6_releases 55 = .ok (.iload 5, 2) := by decide +kernel
theorem dX6_releases_57 : decode cX6_releases 57 = .ok (.if_icmp .ne 18, 3) := by decide +kernel
theorem dX6_releases_60 : decode cX6_releases 60 = .ok (.aload_n 0, 1) := by decide +kernel
theorem dX6_releases_61 : decode cX6_releases 61 = .ok (.iload 6, 2) := by decide +kernel
theorem dX6_releases_63 : decode cX6_releases 63 = .ok (.iconst 4, 1) := by decide +kernel
theorem dX6_releases_64 : decode cX6_releases 64 = .ok (.invokestatic 79, 3) := by decide +kernel
theorem dX6_releases_67 : decode cX6_releases 67 = .ok (.iaload, 1) := by decide +kernel
theorem dX6_releases_68 : decode cX6_releases 68 = .ok (.ifCond .ne 7, 3) := by decide +kernel
theorem dX6_releases_71 : decode cX6_releases 71 = .ok (.iconst 1, 1) := by decide +kernel
theorem dX6_releases_72 : decode cX6_releases 72 = .ok (.goto 4, 3) := by decide +kernel
theorem dX6_releases_75 : decode cX6_releases 75 = .ok (.iconst 0, 1) := by decide +kernel
theorem dX6_releases_76 : decode cX6_releases 76 = .ok (.istore 7, 2) := by decide +kernel
theorem dX6_releases_78 : decode cX6_releases 78 = .ok (.iload 7, 2) := by decide +kernel
theorem dX6_releases_80 : decode cX6_releases 80 = .ok (.ifCond .eq 19, 3) := by decide +kernel
theorem dX6_releases_83 : decode cX6_releases 83 = .ok (.iload 4, 2) := by decide +kernel
theorem dX6_releases_85 : decode cX6_releases 85 = .ok (.aload_n 0, 1) := by decide +kernel
theorem dX6_releases_86 : decode cX6_releases 86 = .ok (.iload 6, 2) := by decide +kernel
theorem dX6_releases_88 : decode cX6_releases 88 = .ok (.iconst 2, 1) := by decide +kernel
theorem dX6_releases_89 : decode cX6_releases 89 = .ok (.invokestatic 79, 3) := by decide +kernel
theorem dX6_releases_92 : decode cX6_releases 92 = .ok (.iaload, 1) := by decide +kernel
theorem dX6_releases_93 : decode cX6_releases 93 = .ok (.invokestatic 104, 3) := by decide +kernel
theorem dX6_releases_96 : decode cX6_releases 96 = .ok (.goto 4, 3) := by decide +kernel
theorem dX6_releases_99 : decode cX6_releases 99 = .ok (.iconst 0, 1) := by decide +kernel
theorem dX6_releases_100 : decode cX6_releases 100 = .ok (.istore 8, 2) := by decide +kernel
theorem dX6_releases_102 : decode cX6_releases 102 = .ok (.iload 4, 2) := by decide +kernel
theorem dX6_releases_104 : decode cX6_releases 104 = .ok (.iload 8, 2) := by decide +kernel
theorem dX6_releases_106 : decode cX6_releases 106 = .ok (.isub, 1) := by decide +kernel
theorem dX6_releases_107 : decode cX6_releases 107 = .ok (.istore 4, 2) := by decide +kernel
theorem dX6_releases_109 : decode cX6_releases 109 = .ok (.aload_n 0, 1) := by decide +kernel
theorem dX6_releases_110 : decode cX6_releases 110 = .ok (.iload 6, 2) := by decide +kernel
theorem dX6_releases_112 : decode cX6_releases 112 = .ok (.iconst 2, 1) := by decide +kernel
theorem dX6_releases_113 : decode cX6_releases 113 = .ok (.invokestatic 79, 3) := by decide +kernel
theorem dX6_releases_116 : decode cX6_releases 116 = .ok (.dup2, 1) := by decide +kernel
theorem dX6_releases_117 : decode cX6_releases 117 = .ok (.iaload, 1) := by decide +kernel
theorem dX6_releases_118 : decode cX6_releases 118 = .ok (.iload 8, 2) := by decide +kernel
theorem dX6_releases_120 : decode cX6_releases 120 = .ok (.isub, 1) := by decide +kernel
theorem dX6_releases_121 : decode cX6_releases 121 = .ok (.iastore, 1) := by decide +kernel
theorem dX6_releases_122 : decode cX6_releases 122 = .ok (.aload_n 0, 1) := by decide +kernel
theorem dX6_releases_123 : decode cX6_releases 123 = .ok (.iload 6, 2) := by decide +kernel
theorem dX6_releases_125 : decode cX6_releases 125 = .ok (.bipush 7, 2) := by decide +kernel
theorem dX6_releases_127 : decode cX6_releases 127 = .ok (.invokestatic 79, 3) := by decide +kernel
theorem dX6_releases_130 : decode cX6_releases 130 = .ok (.dup2, 1) := by decide +kernel
theorem dX6_releases_131 : decode cX6_releases 131 = .ok (.iaload, 1) := by decide +kernel
theorem dX6_releases_132 : decode cX6_releases 132 = .ok (.iload 8, 2) := by decide +kernel
theorem dX6_releases_134 : decode cX6_releases 134 = .ok (.iadd, 1) := by decide +kernel
theorem dX6_releases_135 : decode cX6_releases 135 = .ok (.iastore, 1) := by decide +kernel
theorem dX6_releases_136 : decode cX6_releases 136 = .ok (.iinc 6 1, 3) := by decide +kernel
theorem dX6_releases_139 : decode cX6_releases 139 = .ok (.goto (-124), 3) := by decide +kernel
theorem dX6_releases_142 : decode cX6_releases 142 = .ok (.iinc 5 (-1), 3) := by decide +kernel
theorem dX6_releases_145 : decode cX6_releases 145 = .ok (.goto (-138), 3) := by decide +kernel
theorem dX6_releases_148 : decode cX6_releases 148 = .ok (.return_, 1) := by decide +kernel
theorem dX6_discharges_0 : decode cX6_discharges 0 = .ok (.aload_n 0, 1) := by decide +kernel
theorem dX6_discharges_1 : decode cX6_discharges 1 = .ok (.iload_n 2, 1) := by decide +kernel
theorem dX6_discharges_2 : decode cX6_discharges 2 = .ok (.invokevirtual 114, 3) := by decide +kernel
theorem dX6_discharges_5 : decode cX6_discharges 5 = .ok (.istore_n 3, 1) := by decide +kernel
theorem dX6_discharges_6 : decode cX6_discharges 6 = .ok (.iconst 0, 1) := by decide +kernel
theorem dX6_discharges_7 : decode cX6_discharges 7 = .ok (.istore 4, 2) := by decide +kernel
theorem dX6_discharges_9 : decode cX6_discharges 9 = .ok (.iload 4, 2) := by decide +kernel
theorem dX6_discharges_11 : decode cX6_discharges 11 = .ok (.aload_n 0, 1) := by decide +kernel
theorem dX6_discharges_12 : decode cX6_discharges 12 = .ok (.getfield 86, 3) := by decide +kernel
theorem dX6_discharges_15 : decode cX6_discharges 15 = .ok (.if_icmp .ge 27, 3) := by decide +kernel
theorem dX6_discharges_18 : decode cX6_discharges 18 = .ok (.aload_n 1, 1) := by decide +kernel
theorem dX6_discharges_19 : decode cX6_discharges 19 = .ok (.aload_n 0, 1) := by decide +kernel
theorem dX6_discharges_20 : decode cX6_discharges 20 = .ok (.getfield 28, 3) := by decide +kernel
theorem dX6_discharges_23 : decode cX6_discharges 23 = .ok (.iload 4, 2) := by decide +kernel
theorem dX6_discharges_25 : decode cX6_discharges 25 = .ok (.iaload, 1) := by decide +kernel
theorem dX6_discharges_26 : decode cX6_discharges 26 = .ok (.aload_n 0, 1) := by decide +kernel
theorem dX6_discharges_27 : decode cX6_discharges 27 = .ok (.iload 4, 2) := by decide +kernel
theorem dX6_discharges_29 : decode cX6_discharges 29 = .ok (.invokevirtual 107, 3) := by decide +kernel
theorem dX6_discharges_32 : decode cX6_discharges 32 = .ok (.iload_n 2, 1) := by decide +kernel
theorem dX6_discharges_33 : decode cX6_discharges 33 = .ok (.invokestatic 117, 3) := by decide +kernel
theorem dX6_discharges_36 : decode cX6_discharges 36 = .ok (.iinc 4 1, 3) := by decide +kernel
theorem dX6_discharges_39 : decode cX6_discharges 39 = .ok (.goto (-30), 3) := by decide +kernel
theorem dX6_discharges_42 : decode cX6_discharges 42 = .ok (.aload_n 1, 1) := by decide +kernel
theorem dX6_discharges_43 : decode cX6_discharges 43 = .ok (.iconst 3, 1) := by decide +kernel
theorem dX6_discharges_44 : decode cX6_discharges 44 = .ok (.dup2, 1) := by decide +kernel
theorem dX6_discharges_45 : decode cX6_discharges 45 = .ok (.iaload, 1) := by decide +kernel
theorem dX6_discharges_46 : decode cX6_discharges 46 = .ok (.iload_n 2, 1) := by decide +kernel
theorem dX6_discharges_47 : decode cX6_discharges 47 = .ok (.aload_n 0, 1) := by decide +kernel
theorem dX6_discharges_48 : decode cX6_discharges 48 = .ok (.getfield 86, 3) := by decide +kernel
theorem dX6_discharges_51 : decode cX6_discharges 51 = .ok (.imul, 1) := by decide +kernel
theorem dX6_discharges_52 : decode cX6_discharges 52 = .ok (.iadd, 1) := by decide +kernel
theorem dX6_discharges_53 : decode cX6_discharges 53 = .ok (.iastore, 1) := by decide +kernel
theorem dX6_discharges_54 : decode cX6_discharges 54 = .ok (.aload_n 1, 1) := by decide +kernel
theorem dX6_discharges_55 : decode cX6_discharges 55 = .ok (.iconst 4, 1) := by decide +kernel
theorem dX6_discharges_56 : decode cX6_discharges 56 = .ok (.dup2, 1) := by decide +kernel
theorem dX6_discharges_57 : decode cX6_discharges 57 = .ok (.iaload, 1) := by decide +kernel
theorem dX6_discharges_58 : decode cX6_discharges 58 = .ok (.iconst 1, 1) := by decide +kernel
theorem dX6_discharges_59 : decode cX6_discharges 59 = .ok (.iadd, 1) := by decide +kernel
theorem dX6_discharges_60 : decode cX6_discharges 60 = .ok (.iastore, 1) := by decide +kernel
theorem dX6_discharges_61 : decode cX6_discharges 61 = .ok (.iload_n 3, 1) := by decide +kernel
theorem dX6_discharges_62 : decode cX6_discharges 62 = .ok (.ireturn, 1) := by decide +kernel
theorem dX6_findsBest_0 : decode cX6_findsBest 0 = .ok (.aload_n 0, 1) := by decide +kernel
theorem dX6_findsBest_1 : decode cX6_findsBest 1 = .ok (.aload_n 1, 1) := by decide +kernel
theorem dX6_findsBest_2 : decode cX6_findsBest 2 = .ok (.iconst (-1), 1) := by decide +kernel
theorem dX6_findsBest_3 : decode cX6_findsBest 3 = .ok (.invokevirtual 96, 3) := by decide +kernel
theorem dX6_findsBest_6 : decode cX6_findsBest 6 = .ok (.aload_n 0, 1) := by decide +kernel
theorem dX6_findsBest_7 : decode cX6_findsBest 7 = .ok (.iconst (-1), 1) := by decide +kernel
theorem dX6_findsBest_8 : decode cX6_findsBest 8 = .ok (.putfield 121, 3) := by decide +kernel
theorem dX6_findsBest_11 : decode cX6_findsBest 11 = .ok (.aload_n 0, 1) := by decide +kernel
theorem dX6_findsBest_12 : decode cX6_findsBest 12 = .ok (.iconst 0, 1) := by decide +kernel
theorem dX6_findsBest_13 : decode cX6_findsBest 13 = .ok (.putfield 124, 3) := by decide +kernel
theorem dX6_findsBest_16 : decode cX6_findsBest 16 = .ok (.iconst 0, 1) := by decide +kernel
theorem dX6_findsBest_17 : decode cX6_findsBest 17 = .ok (.istore_n 2, 1) := by decide +kernel
theorem dX6_findsBest_18 : decode cX6_findsBest 18 = .ok (.aload_n 0, 1) := by decide +kernel
theorem dX6_findsBest_19 : decode cX6_findsBest 19 = .ok (.invokevirtual 100, 3) := by decide +kernel
theorem dX6_findsBest_22 : decode cX6_findsBest 22 = .ok (.ifCond .eq 84, 3) := by decide +kernel
theorem dX6_findsBest_25 : decode cX6_findsBest 25 = .ok (.aload_n 0, 1) := by decide +kernel
theorem dX6_findsBest_26 : decode cX6_findsBest 26 = .ok (.aload_n 0, 1) := by decide +kernel
theorem dX6_findsBest_27 : decode cX6_findsBest 27 = .ok (.invokevirtual 127, 3) := by decide +kernel
theorem dX6_findsBest_30 : decode cX6_findsBest 30 = .ok (.invokevirtual 114, 3) := by decide +kernel
theorem dX6_findsBest_33 : decode cX6_findsBest 33 = .ok (.istore_n 3, 1) := by decide +kernel
theorem dX6_findsBest_34 : decode cX6_findsBest 34 = .ok (.aload_n 0, 1) := by decide +kernel
theorem dX6_findsBest_35 : decode cX6_findsBest 35 = .ok (.getfield 121, 3) := by decide +kernel
theorem dX6_findsBest_38 : decode cX6_findsBest 38 = .ok (.iconst (-1), 1) := by decide +kernel
theorem dX6_findsBest_39 : decode cX6_findsBest 39 = .ok (.if_icmp .eq 11, 3) := by decide +kernel
theorem dX6_findsBest_42 : decode cX6_findsBest 42 = .ok (.iload_n 3, 1) := by decide +kernel
theorem dX6_findsBest_43 : decode cX6_findsBest 43 = .ok (.aload_n 0, 1) := by decide +kernel
theorem dX6_findsBest_44 : decode cX6_findsBest 44 = .ok (.getfield 124, 3) := by decide +kernel
theorem dX6_findsBest_47 : decode cX6_findsBest 47 = .ok (.if_icmp .le 53, 3) := by decide +kernel
theorem dX6_findsBest_50 : decode cX6_findsBest 50 = .ok (.aload_n 0, 1) := by decide +kernel
theorem dX6_findsBest_51 : decode cX6_findsBest 51 = .ok (.iload_n 2, 1) := by decide +kernel
theorem dX6_findsBest_52 : decode cX6_findsBest 52 = .ok (.putfield 121, 3) := by decide +kernel
theorem dX6_findsBest_55 : decode cX6_findsBest 55 = .ok (.aload_n 0, 1) := by decide +kernel
theorem dX6_findsBest_56 : decode cX6_findsBest 56 = .ok (.iload_n 3, 1) := by decide +kernel
theorem dX6_findsBest_57 : decode cX6_findsBest 57 = .ok (.putfield 124, 3) := by decide +kernel
theorem dX6_findsBest_60 : decode cX6_findsBest 60 = .ok (.aload_n 0, 1) := by decide +kernel
theorem dX6_findsBest_61 : decode cX6_findsBest 61 = .ok (.aload_n 0, 1) := by decide +kernel
theorem dX6_findsBest_62 : decode cX6_findsBest 62 = .ok (.getfield 86, 3) := by decide +kernel
theorem dX6_findsBest_65 : decode cX6_findsBest 65 = .ok (.putfield 131, 3) := by decide +kernel
theorem dX6_findsBest_68 : decode cX6_findsBest 68 = .ok (.iconst 0, 1) := by decide +kernel
theorem dX6_findsBest_69 : decode cX6_findsBest 69 = .ok (.istore 4, 2) := by decide +kernel
theorem dX6_findsBest_71 : decode cX6_findsBest 71 = .ok (.iload 4, 2) := by decide +kernel
theorem dX6_findsBest_73 : decode cX6_findsBest 73 = .ok (.aload_n 0, 1) := by decide +kernel
theorem dX6_findsBest_74 : decode cX6_findsBest 74 = .ok (.getfield 86, 3) := by decide +kernel
theorem dX6_findsBest_77 : decode cX6_findsBest 77 = .ok (.if_icmp .ge 23, 3) := by decide +kernel
theorem dX6_findsBest_80 : decode cX6_findsBest 80 = .ok (.aload_n 0, 1) := by decide +kernel
theorem dX6_findsBest_81 : decode cX6_findsBest 81 = .ok (.getfield 34, 3) := by decide +kernel
theorem dX6_findsBest_84 : decode cX6_findsBest 84 = .ok (.iload 4, 2) := by decide +kernel
theorem dX6_findsBest_86 : decode cX6_findsBest 86 = .ok (.aload_n 0, 1) := by decide +kernel
theorem dX6_findsBest_87 : decode cX6_findsBest 87 = .ok (.getfield 28, 3) := by decide +kernel
theorem dX6_findsBest_90 : decode cX6_findsBest 90 = .ok (.iload 4, 2) := by decide +kernel
theorem dX6_findsBest_92 : decode cX6_findsBest 92 = .ok (.iaload, 1) := by decide +kernel
theorem dX6_findsBest_93 : decode cX6_findsBest 93 = .ok (.iastore, 1) := by decide +kernel
theorem dX6_findsBest_94 : decode cX6_findsBest 94 = .ok (.iinc 4 1, 3) := by decide +kernel
theorem dX6_findsBest_97 : decode cX6_findsBest 97 = .ok (.goto (-26), 3) := by decide +kernel
theorem dX6_findsBest_100 : decode cX6_findsBest 100 = .ok (.iinc 2 1, 3) := by decide +kernel
theorem dX6_findsBest_103 : decode cX6_findsBest 103 = .ok (.goto (-85), 3) := by decide +kernel
theorem dX6_findsBest_106 : decode cX6_findsBest 106 = .ok (.aload_n 0, 1) := by decide +kernel
theorem dX6_findsBest_107 : decode cX6_findsBest 107 = .ok (.getfield 121, 3) := by decide +kernel
theorem dX6_findsBest_110 : decode cX6_findsBest 110 = .ok (.iconst (-1), 1) := by decide +kernel
theorem dX6_findsBest_111 : decode cX6_findsBest 111 = .ok (.if_icmp .eq 7, 3) := by decide +kernel
theorem dX6_findsBest_114 : decode cX6_findsBest 114 = .ok (.iconst 1, 1) := by decide +kernel
theorem dX6_findsBest_115 : decode cX6_findsBest 115 = .ok (.goto 4, 3) := by decide +kernel
theorem dX6_findsBest_118 : decode cX6_findsBest 118 = .ok (.iconst 0, 1) := by decide +kernel
theorem dX6_findsBest_119 : decode cX6_findsBest 119 = .ok (.ireturn, 1) := by decide +kernel
theorem dX6_dischargesBest_0 : decode cX6_dischargesBest 0 = .ok (.aload_n 0, 1) := by decide +kernel
theorem dX6_dischargesBest_1 : decode cX6_dischargesBest 1 = .ok (.aload_n 0, 1) := by decide +kernel
theorem dX6_dischargesBest_2 : decode cX6_dischargesBest 2 = .ok (.getfield 131, 3) := by decide +kernel
theorem dX6_dischargesBest_5 : decode cX6_dischargesBest 5 = .ok (.putfield 86, 3) := by decide +kernel
theorem dX6_dischargesBest_8 : decode cX6_dischargesBest 8 = .ok (.iconst 0, 1) := by decide +kernel
theorem dX6_dischargesBest_9 : decode cX6_dischargesBest 9 = .ok (.istore_n 2, 1) := by decide +kernel
theorem dX6_dischargesBest_10 : decode cX6_dischargesBest 10 = .ok (.iload_n 2, 1) := by decide +kernel
theorem dX6_dischargesBest_11 : decode cX6_dischargesBest 11 = .ok (.aload_n 0, 1) := by decide +kernel
theorem dX6_dischargesBest_12 : decode cX6_dischargesBest 12 = .ok (.getfield 86, 3) := by decide +kernel
theorem dX6_dischargesBest_15 : decode cX6_dischargesBest 15 = .ok (.if_icmp .ge 21, 3) := by decide +kernel
theorem dX6_dischargesBest_18 : decode cX6_dischargesBest 18 = .ok (.aload_n 0, 1) := by decide +kernel
theorem dX6_dischargesBest_19 : decode cX6_dischargesBest 19 = .ok (.getfield 28, 3) := by decide +kernel
theorem dX6_dischargesBest_22 : decode cX6_dischargesBest 22 = .ok (.iload_n 2, 1) := by decide +kernel
theorem dX6_dischargesBest_23 : decode cX6_dischargesBest 23 = .ok (.aload_n 0, 1) := by decide +kernel
theorem dX6_dischargesBest_24 : decode cX6_dischargesBest 24 = .ok (.getfield 34, 3) := by decide +kernel
theorem dX6_dischargesBest_27 : decode cX6_dischargesBest 27 = .ok (.iload_n 2, 1) := by decide +kernel
theorem dX6_dischargesBest_28 : decode cX6_dischargesBest 28 = .ok (.iaload, 1) := by decide +kernel
theorem dX6_dischargesBest_29 : decode cX6_dischargesBest 29 = .ok (.iastore, 1) := by decide +kernel
theorem dX6_dischargesBest_30 : decode cX6_dischargesBest 30 = .ok (.iinc 2 1, 3) := by decide +kernel
theorem dX6_dischargesBest_33 : decode cX6_dischargesBest 33 = .ok (.goto (-23), 3) := by decide +kernel
theorem dX6_dischargesBest_36 : decode cX6_dischargesBest 36 = .ok (.aload_n 0, 1) := by decide +kernel
theorem dX6_dischargesBest_37 : decode cX6_dischargesBest 37 = .ok (.aload_n 1, 1) := by decide +kernel
theorem dX6_dischargesBest_38 : decode cX6_dischargesBest 38 = .ok (.aload_n 0, 1) := by decide +kernel
theorem dX6_dischargesBest_39 : decode cX6_dischargesBest 39 = .ok (.invokevirtual 127, 3) := by decide +kernel
theorem dX6_dischargesBest_42 : decode cX6_dischargesBest 42 = .ok (.invokevirtual 134, 3) := by decide +kernel
theorem dX6_dischargesBest_45 : decode cX6_dischargesBest 45 = .ok (.pop, 1) := by decide +kernel
theorem dX6_dischargesBest_46 : decode cX6_dischargesBest 46 = .ok (.return_, 1) := by decide +kernel
theorem dX6_dischargesAll_0 : decode cX6_dischargesAll 0 = .ok (.iconst 0, 1) := by decide +kernel
theorem dX6_dischargesAll_1 : decode cX6_dischargesAll 1 = .ok (.istore_n 2, 1) := by decide +kernel
theorem dX6_dischargesAll_2 : decode cX6_dischargesAll 2 = .ok (.aload_n 0, 1) := by decide +kernel
theorem dX6_dischargesAll_3 : decode cX6_dischargesAll 3 = .ok (.aload_n 1, 1) := by decide +kernel
theorem dX6_dischargesAll_4 : decode cX6_dischargesAll 4 = .ok (.invokevirtual 138, 3) := by decide +kernel
theorem dX6_dischargesAll_7 : decode cX6_dischargesAll 7 = .ok (.ifCond .eq 14, 3) := by decide +kernel
theorem dX6_dischargesAll_10 : decode cX6_dischargesAll 10 = .ok (.aload_n 0, 1) := by decide +kernel
theorem dX6_dischargesAll_11 : decode cX6_dischargesAll 11 = .ok (.aload_n 1, 1) := by decide +kernel
theorem dX6_dischargesAll_12 : decode cX6_dischargesAll 12 = .ok (.invokevirtual 142, 3) := by decide +kernel
theorem dX6_dischargesAll_15 : decode cX6_dischargesAll 15 = .ok (.iinc 2 1, 3) := by decide +kernel
theorem dX6_dischargesAll_18 : decode cX6_dischargesAll 18 = .ok (.goto (-16), 3) := by decide +kernel
theorem dX6_dischargesAll_21 : decode cX6_dischargesAll 21 = .ok (.iload_n 2, 1) := by decide +kernel
theorem dX6_dischargesAll_22 : decode cX6_dischargesAll 22 = .ok (.ireturn, 1) := by decide +kernel
theorem dX6_begin_0 : decode cX6_begin 0 = .ok (.aload_n 0, 1) := by decide +kernel
theorem dX6_begin_1 : decode cX6_begin 1 = .ok (.iload_n 1, 1) := by decide +kernel
theorem dX6_begin_2 : decode cX6_begin 2 = .ok (.iconst 2, 1) := by decide +kernel
theorem dX6_begin_3 : decode cX6_begin 3 = .ok (.bipush 7, 2) := by decide +kernel
theorem dX6_begin_5 : decode cX6_begin 5 = .ok (.invokestatic 68, 3) := by decide +kernel
theorem dX6_begin_8 : decode cX6_begin 8 = .ok (.ifCond .ne 7, 3) := by decide +kernel
theorem dX6_begin_11 : decode cX6_begin 11 = .ok (.iconst 1, 1) := by decide +kernel
theorem dX6_begin_12 : decode cX6_begin 12 = .ok (.goto 4, 3) := by decide +kernel
theorem dX6_begin_15 : decode cX6_begin 15 = .ok (.iconst 0, 1) := by decide +kernel
theorem dX6_begin_16 : decode cX6_begin 16 = .ok (.iconst 0, 1) := by decide +kernel
theorem dX6_begin_17 : decode cX6_begin 17 = .ok (.iconst 0, 1) := by decide +kernel
theorem dX6_begin_18 : decode cX6_begin 18 = .ok (.invokevirtual 146, 3) := by decide +kernel
theorem dX6_begin_21 : decode cX6_begin 21 = .ok (.ifCond .ne 5, 3) := by decide +kernel
theorem dX6_begin_24 : decode cX6_begin 24 = .ok (.iconst 0, 1) := by decide +kernel
theorem dX6_begin_25 : decode cX6_begin 25 = .ok (.ireturn, 1) := by decide +kernel
theorem dX6_begin_26 : decode cX6_begin 26 = .ok (.aload_n 0, 1) := by decide +kernel
theorem dX6_begin_27 : decode cX6_begin 27 = .ok (.invokevirtual 150, 3) := by decide +kernel
theorem dX6_begin_30 : decode cX6_begin 30 = .ok (.aload_n 0, 1) := by decide +kernel
theorem dX6_begin_31 : decode cX6_begin 31 = .ok (.getfield 7, 3) := by decide +kernel
theorem dX6_begin_34 : decode cX6_begin 34 = .ok (.iconst 1, 1) := by decide +kernel
theorem dX6_begin_35 : decode cX6_begin 35 = .ok (.iaload, 1) := by decide +kernel
theorem dX6_begin_36 : decode cX6_begin 36 = .ok (.istore_n 2, 1) := by decide +kernel
theorem dX6_begin_37 : decode cX6_begin 37 = .ok (.iconst 0, 1) := by decide +kernel
theorem dX6_begin_38 : decode cX6_begin 38 = .ok (.istore_n 3, 1) := by decide +kernel
theorem dX6_begin_39 : decode cX6_begin 39 = .ok (.iload_n 3, 1) := by decide +kernel
theorem dX6_begin_40 : decode cX6_begin 40 = .ok (.sipush 325, 3) := by decide +kernel
theorem dX6_begin_43 : decode cX6_begin 43 = .ok (.if_icmp .ge 16, 3) := by decide +kernel
theorem dX6_begin_46 : decode cX6_begin 46 = .ok (.aload_n 0, 1) := by decide +kernel
theorem dX6_begin_47 : decode cX6_begin 47 = .ok (.getfield 7, 3) := by decide +kernel
theorem dX6_begin_50 : decode cX6_begin 50 = .ok (.iload_n 3, 1) := by decide +kernel
theorem dX6_begin_51 : decode cX6_begin 51 = .ok (.iconst 0, 1) := by decide +kernel
theorem dX6_begin_52 : decode cX6_begin 52 = .ok (.iastore, 1) := by decide +kernel
theorem dX6_begin_53 : decode cX6_begin 53 = .ok (.iinc 3 1, 3) := by decide +kernel
theorem dX6_begin_56 : decode cX6_begin 56 = .ok (.goto (-17), 3) := by decide +kernel
theorem dX6_begin_59 : decode cX6_begin 59 = .ok (.aload_n 0, 1) := by decide +kernel
theorem dX6_begin_60 : decode cX6_begin 60 = .ok (.getfield 7, 3) := by decide +kernel
theorem dX6_begin_63 : decode cX6_begin 63 = .ok (.iconst 0, 1) := by decide +kernel
theorem dX6_begin_64 : decode cX6_begin 64 = .ok (.iload_n 1, 1) := by decide +kernel
theorem dX6_begin_65 : decode cX6_begin 65 = .ok (.iastore, 1) := by decide +kernel
theorem dX6_begin_66 : decode cX6_begin 66 = .ok (.iload_n 2, 1) := by decide +kernel
theorem dX6_begin_67 : decode cX6_begin 67 = .ok (.ireturn, 1) := by decide +kernel
theorem dX6_makes_0 : decode cX6_makes 0 = .ok (.aload_n 0, 1) := by decide +kernel
theorem dX6_makes_1 : decode cX6_makes 1 = .ok (.getfield 7, 3) := by decide +kernel
theorem dX6_makes_4 : decode cX6_makes 4 = .ok (.iconst 1, 1) := by decide +kernel
theorem dX6_makes_5 : decode cX6_makes 5 = .ok (.iaload, 1) := by decide +kernel
theorem dX6_makes_6 : decode cX6_makes 6 = .ok (.istore 5, 2) := by decide +kernel
theorem dX6_makes_8 : decode cX6_makes 8 = .ok (.aload_n 0, 1) := by decide +kernel
theorem dX6_makes_9 : decode cX6_makes 9 = .ok (.getfield 7, 3) := by decide +kernel
theorem dX6_makes_12 : decode cX6_makes 12 = .ok (.iload 5, 2) := by decide +kernel
theorem dX6_makes_14 : decode cX6_makes 14 = .ok (.iconst 0, 1) := by decide +kernel
theorem dX6_makes_15 : decode cX6_makes 15 = .ok (.invokestatic 79, 3) := by decide +kernel
theorem dX6_makes_18 : decode cX6_makes 18 = .ok (.iload_n 1, 1) := by decide +kernel
theorem dX6_makes_19 : decode cX6_makes 19 = .ok (.iastore, 1) := by decide +kernel
theorem dX6_makes_20 : decode cX6_makes 20 = .ok (.aload_n 0, 1) := by decide +kernel
theorem dX6_makes_21 : decode cX6_makes 21 = .ok (.getfield 7, 3) := by decide +kernel
theorem dX6_makes_24 : decode cX6_makes 24 = .ok (.iload 5, 2) := by decide +kernel
theorem dX6_makes_26 : decode cX6_makes 26 = .ok (.iconst 1, 1) := by decide +kernel
theorem dX6_makes_27 : decode cX6_makes 27 = .ok (.invokestatic 79, 3) := by decide +kernel
theorem dX6_makes_30 : decode cX6_makes 30 = .ok (.iload_n 2, 1) := by decide +kernel
theorem dX6_makes_31 : decode cX6_makes 31 = .ok (.iastore, 1) := by decide +kernel
theorem dX6_makes_32 : decode cX6_makes 32 = .ok (.aload_n 0, 1) := by decide +kernel
theorem dX6_makes_33 : decode cX6_makes 33 = .ok (.getfield 7, 3) := by decide +kernel
theorem dX6_makes_36 : decode cX6_makes 36 = .ok (.iload 5, 2) := by decide +kernel
theorem dX6_makes_38 : decode cX6_makes 38 = .ok (.iconst 2, 1) := by decide +kernel
theorem dX6_makes_39 : decode cX6_makes 39 = .ok (.invokestatic 79, 3) := by decide +kernel
theorem dX6_makes_42 : decode cX6_makes 42 = .ok (.iload_n 3, 1) := by decide +kernel
theorem dX6_makes_43 : decode cX6_makes 43 = .ok (.iastore, 1) := by decide +kernel
theorem dX6_makes_44 : decode cX6_makes 44 = .ok (.aload_n 0, 1) := by decide +kernel
theorem dX6_makes_45 : decode cX6_makes 45 = .ok (.getfield 7, 3) := by decide +kernel
theorem dX6_makes_48 : decode cX6_makes 48 = .ok (.iload 5, 2) := by decide +kernel
theorem dX6_makes_50 : decode cX6_makes 50 = .ok (.iconst 3, 1) := by decide +kernel
theorem dX6_makes_51 : decode cX6_makes 51 = .ok (.invokestatic 79, 3) := by decide +kernel
theorem dX6_makes_54 : decode cX6_makes 54 = .ok (.iload 4, 2) := by decide +kernel
theorem dX6_makes_56 : decode cX6_makes 56 = .ok (.iastore, 1) := by decide +kernel
theorem dX6_makes_57 : decode cX6_makes 57 = .ok (.aload_n 0, 1) := by decide +kernel
theorem dX6_makes_58 : decode cX6_makes 58 = .ok (.getfield 7, 3) := by decide +kernel
theorem dX6_makes_61 : decode cX6_makes 61 = .ok (.iload 5, 2) := by decide +kernel
theorem dX6_makes_63 : decode cX6_makes 63 = .ok (.iconst 5, 1) := by decide +kernel
theorem dX6_makes_64 : decode cX6_makes 64 = .ok (.invokestatic 79, 3) := by decide +kernel
theorem dX6_makes_67 : decode cX6_makes 67 = .ok (.iload_n 3, 1) := by decide +kernel
theorem dX6_makes_68 : decode cX6_makes 68 = .ok (.iastore, 1) := by decide +kernel
theorem dX6_makes_69 : decode cX6_makes 69 = .ok (.aload_n 0, 1) := by decide +kernel
theorem dX6_makes_70 : decode cX6_makes 70 = .ok (.getfield 7, 3) := by decide +kernel
theorem dX6_makes_73 : decode cX6_makes 73 = .ok (.iconst 1, 1) := by decide +kernel
theorem dX6_makes_74 : decode cX6_makes 74 = .ok (.dup2, 1) := by decide +kernel
theorem dX6_makes_75 : decode cX6_makes 75 = .ok (.iaload, 1) := by decide +kernel
theorem dX6_makes_76 : decode cX6_makes 76 = .ok (.iconst 1, 1) := by decide +kernel
theorem dX6_makes_77 : decode cX6_makes 77 = .ok (.iadd, 1) := by decide +kernel
theorem dX6_makes_78 : decode cX6_makes 78 = .ok (.iastore, 1) := by decide +kernel
theorem dX6_makes_79 : decode cX6_makes 79 = .ok (.return_, 1) := by decide +kernel
theorem dX6_promise_0 : decode cX6_promise 0 = .ok (.iload_n 3, 1) := by decide +kernel
theorem dX6_promise_1 : decode cX6_promise 1 = .ok (.iconst 1, 1) := by decide +kernel
theorem dX6_promise_2 : decode cX6_promise 2 = .ok (.sipush 1000, 3) := by decide +kernel
theorem dX6_promise_5 : decode cX6_promise 5 = .ok (.invokestatic 68, 3) := by decide +kernel
theorem dX6_promise_8 : decode cX6_promise 8 = .ok (.ifCond .eq 23, 3) := by decide +kernel
theorem dX6_promise_11 : decode cX6_promise 11 = .ok (.iload 4, 2) := by decide +kernel
theorem dX6_promise_13 : decode cX6_promise 13 = .ok (.iconst 1, 1) := by decide +kernel
theorem dX6_promise_14 : decode cX6_promise 14 = .ok (.bipush 9, 2) := by decide +kernel
theorem dX6_promise_16 : decode cX6_promise 16 = .ok (.invokestatic 68, 3) := by decide +kernel
theorem dX6_promise_19 : decode cX6_promise 19 = .ok (.ifCond .eq 12, 3) := by decide +kernel
theorem dX6_promise_22 : decode cX6_promise 22 = .ok (.iload_n 1, 1) := by decide +kernel
theorem dX6_promise_23 : decode cX6_promise 23 = .ok (.iload_n 2, 1) := by decide +kernel
theorem dX6_promise_24 : decode cX6_promise 24 = .ok (.if_icmp .eq 7, 3) := by decide +kernel
theorem dX6_promise_27 : decode cX6_promise 27 = .ok (.iconst 1, 1) := by decide +kernel
theorem dX6_promise_28 : decode cX6_promise 28 = .ok (.goto 4, 3) := by decide +kernel
theorem dX6_promise_31 : decode cX6_promise 31 = .ok (.iconst 0, 1) := by decide +kernel
theorem dX6_promise_32 : decode cX6_promise 32 = .ok (.istore 5, 2) := by decide +kernel
theorem dX6_promise_34 : decode cX6_promise 34 = .ok (.aload_n 0, 1) := by decide +kernel
theorem dX6_promise_35 : decode cX6_promise 35 = .ok (.aload_n 0, 1) := by decide +kernel
theorem dX6_promise_36 : decode cX6_promise 36 = .ok (.iload_n 1, 1) := by decide +kernel
theorem dX6_promise_37 : decode cX6_promise 37 = .ok (.invokevirtual 153, 3) := by decide +kernel
theorem dX6_promise_40 : decode cX6_promise 40 = .ok (.ifCond .eq 11, 3) := by decide +kernel
theorem dX6_promise_43 : decode cX6_promise 43 = .ok (.aload_n 0, 1) := by decide +kernel
theorem dX6_promise_44 : decode cX6_promise 44 = .ok (.iload_n 2, 1) := by decide +kernel
theorem dX6_promise_45 : decode cX6_promise 45 = .ok (.invokevirtual 153, 3) := by decide +kernel
theorem dX6_promise_48 : decode cX6_promise 48 = .ok (.ifCond .ne 7, 3) := by decide +kernel
theorem dX6_promise_51 : decode cX6_promise 51 = .ok (.iconst 1, 1) := by decide +kernel
theorem dX6_promise_52 : decode cX6_promise 52 = .ok (.goto 4, 3) := by decide +kernel
theorem dX6_promise_55 : decode cX6_promise 55 = .ok (.iconst 0, 1) := by decide +kernel
theorem dX6_promise_56 : decode cX6_promise 56 = .ok (.iload 5, 2) := by decide +kernel
theorem dX6_promise_58 : decode cX6_promise 58 = .ok (.ifCond .ne 7, 3) := by decide +kernel
theorem dX6_promise_61 : decode cX6_promise 61 = .ok (.iconst 1, 1) := by decide +kernel
theorem dX6_promise_62 : decode cX6_promise 62 = .ok (.goto 4, 3) := by decide +kernel
theorem dX6_promise_65 : decode cX6_promise 65 = .ok (.iconst 0, 1) := by decide +kernel
theorem dX6_promise_66 : decode cX6_promise 66 = .ok (.aload_n 0, 1) := by decide +kernel
theorem dX6_promise_67 : decode cX6_promise 67 = .ok (.getfield 7, 3) := by decide +kernel
theorem dX6_promise_70 : decode cX6_promise 70 = .ok (.iconst 1, 1) := by decide +kernel
theorem dX6_promise_71 : decode cX6_promise 71 = .ok (.iaload, 1) := by decide +kernel
theorem dX6_promise_72 : decode cX6_promise 72 = .ok (.bipush 40, 2) := by decide +kernel
theorem dX6_promise_74 : decode cX6_promise 74 = .ok (.if_icmp .ne 7, 3) := by decide +kernel
theorem dX6_promise_77 : decode cX6_promise 77 = .ok (.iconst 1, 1) := by decide +kernel
theorem dX6_promise_78 : decode cX6_promise 78 = .ok (.goto 4, 3) := by decide +kernel
theorem dX6_promise_81 : decode cX6_promise 81 = .ok (.iconst 0, 1) := by decide +kernel
theorem dX6_promise_82 : decode cX6_promise 82 = .ok (.invokevirtual 146, 3) := by decide +kernel
theorem dX6_promise_85 : decode cX6_promise 85 = .ok (.ifCond .ne 5, 3) := by decide +kernel
theorem dX6_promise_88 : decode cX6_promise 88 = .ok (.iconst 0, 1) := by decide +kernel
theorem dX6_promise_89 : decode cX6_promise 89 = .ok (.ireturn, 1) := by decide +kernel
theorem dX6_promise_90 : decode cX6_promise 90 = .ok (.aload_n 0, 1) := by decide +kernel
theorem dX6_promise_91 : decode cX6_promise 91 = .ok (.invokevirtual 150, 3) := by decide +kernel
theorem dX6_promise_94 : decode cX6_promise 94 = .ok (.aload_n 0, 1) := by decide +kernel
theorem dX6_promise_95 : decode cX6_promise 95 = .ok (.iload_n 1, 1) := by decide +kernel
theorem dX6_promise_96 : decode cX6_promise 96 = .ok (.iload_n 2, 1) := by decide +kernel
theorem dX6_promise_97 : decode cX6_promise 97 = .ok (.iload_n 3, 1) := by decide +kernel
theorem dX6_promise_98 : decode cX6_promise 98 = .ok (.iload 4, 2) := by decide +kernel
theorem dX6_promise_100 : decode cX6_promise 100 = .ok (.invokevirtual 156, 3) := by decide +kernel
theorem dX6_promise_103 : decode cX6_promise 103 = .ok (.aload_n 0, 1) := by decide +kernel
theorem dX6_promise_104 : decode cX6_promise 104 = .ok (.getfield 7, 3) := by decide +kernel
theorem dX6_promise_107 : decode cX6_promise 107 = .ok (.iconst 1, 1) := by decide +kernel
theorem dX6_promise_108 : decode cX6_promise 108 = .ok (.iaload, 1) := by decide +kernel
theorem dX6_promise_109 : decode cX6_promise 109 = .ok (.iconst 1, 1) := by decide +kernel
theorem dX6_promise_110 : decode cX6_promise 110 = .ok (.isub, 1) := by decide +kernel
theorem dX6_promise_111 : decode cX6_promise 111 = .ok (.ireturn, 1) := by decide +kernel
theorem dX6_pay_0 : decode cX6_pay 0 = .ok (.aload_n 0, 1) := by decide +kernel
theorem dX6_pay_1 : decode cX6_pay 1 = .ok (.iload_n 1, 1) := by decide +kernel
theorem dX6_pay_2 : decode cX6_pay 2 = .ok (.invokevirtual 160, 3) := by decide +kernel
theorem dX6_pay_5 : decode cX6_pay 5 = .ok (.istore_n 3, 1) := by decide +kernel
theorem dX6_pay_6 : decode cX6_pay 6 = .ok (.aload_n 0, 1) := by decide +kernel
theorem dX6_pay_7 : decode cX6_pay 7 = .ok (.iload_n 3, 1) := by decide +kernel
theorem dX6_pay_8 : decode cX6_pay 8 = .ok (.ifCond .ne 7, 3) := by decide +kernel
theorem dX6_pay_11 : decode cX6_pay 11 = .ok (.iconst 1, 1) := by decide +kernel
theorem dX6_pay_12 : decode cX6_pay 12 = .ok (.goto 4, 3) := by decide +kernel
theorem dX6_pay_15 : decode cX6_pay 15 = .ok (.iconst 0, 1) := by decide +kernel
theorem dX6_pay_16 : decode cX6_pay 16 = .ok (.iload_n 2, 1) := by decide +kernel
theorem dX6_pay_17 : decode cX6_pay 17 = .ok (.iconst 1, 1) := by decide +kernel
theorem dX6_pay_18 : decode cX6_pay 18 = .ok (.if_icmp .ge 7, 3) := by decide +kernel
theorem dX6_pay_21 : decode cX6_pay 21 = .ok (.iconst 1, 1) := by decide +kernel
theorem dX6_pay_22 : decode cX6_pay 22 = .ok (.goto 4, 3) := by decide +kernel
theorem dX6_pay_25 : decode cX6_pay 25 = .ok (.iconst 0, 1) := by decide +kernel
theorem dX6_pay_26 : decode cX6_pay 26 = .ok (.iload_n 3, 1) := by decide +kernel
theorem dX6_pay_27 : decode cX6_pay 27 = .ok (.ifCond .eq 21, 3) := by decide +kernel
theorem dX6_pay_30 : decode cX6_pay 30 = .ok (.iload_n 2, 1) := by decide +kernel
theorem dX6_pay_31 : decode cX6_pay 31 = .ok (.aload_n 0, 1) := by decide +kernel
theorem dX6_pay_32 : decode cX6_pay 32 = .ok (.getfield 7, 3) := by decide +kernel
theorem dX6_pay_35 : decode cX6_pay 35 = .ok (.iload_n 1, 1) := by decide +kernel
theorem dX6_pay_36 : decode cX6_pay 36 = .ok (.iconst 2, 1) := by decide +kernel
theorem dX6_pay_37 : decode cX6_pay 37 = .ok (.invokestatic 79, 3) := by decide +kernel
theorem dX6_pay_40 : decode cX6_pay 40 = .ok (.iaload, 1) := by decide +kernel
theorem dX6_pay_41 : decode cX6_pay 41 = .ok (.if_icmp .le 7, 3) := by decide +kernel
theorem dX6_pay_44 : decode cX6_pay 44 = .ok (.iconst 1, 1) := by decide +kernel
theorem dX6_pay_45 : decode cX6_pay 45 = .ok (.goto 4, 3) := by decide +kernel
theorem dX6_pay_48 : decode cX6_pay 48 = .ok (.iconst 0, 1) := by decide +kernel
theorem dX6_pay_49 : decode cX6_pay 49 = .ok (.invokevirtual 146, 3) := by decide +kernel
theorem dX6_pay_52 : decode cX6_pay 52 = .ok (.ifCond .ne 5, 3) := by decide +kernel
theorem dX6_pay_55 : decode cX6_pay 55 = .ok (.iconst 0, 1) := by decide +kernel
theorem dX6_pay_56 : decode cX6_pay 56 = .ok (.ireturn, 1) := by decide +kernel
theorem dX6_pay_57 : decode cX6_pay 57 = .ok (.aload_n 0, 1) := by decide +kernel
theorem dX6_pay_58 : decode cX6_pay 58 = .ok (.invokevirtual 150, 3) := by decide +kernel
theorem dX6_pay_61 : decode cX6_pay 61 = .ok (.aload_n 0, 1) := by decide +kernel
theorem dX6_pay_62 : decode cX6_pay 62 = .ok (.getfield 7, 3) := by decide +kernel
theorem dX6_pay_65 : decode cX6_pay 65 = .ok (.iload_n 1, 1) := by decide +kernel
theorem dX6_pay_66 : decode cX6_pay 66 = .ok (.iconst 2, 1) := by decide +kernel
theorem dX6_pay_67 : decode cX6_pay 67 = .ok (.invokestatic 79, 3) := by decide +kernel
theorem dX6_pay_70 : decode cX6_pay 70 = .ok (.dup2, 1) := by decide +kernel
theorem dX6_pay_71 : decode cX6_pay 71 = .ok (.iaload, 1) := by decide +kernel
theorem dX6_pay_72 : decode cX6_pay 72 = .ok (.iload_n 2, 1) := by decide +kernel
theorem dX6_pay_73 : decode cX6_pay 73 = .ok (.isub, 1) := by decide +kernel
theorem dX6_pay_74 : decode cX6_pay 74 = .ok (.iastore, 1) := by decide +kernel
theorem dX6_pay_75 : decode cX6_pay 75 = .ok (.aload_n 0, 1) := by decide +kernel
theorem dX6_pay_76 : decode cX6_pay 76 = .ok (.getfield 7, 3) := by decide +kernel
theorem dX6_pay_79 : decode cX6_pay 79 = .ok (.iload_n 1, 1) := by decide +kernel
theorem dX6_pay_80 : decode cX6_pay 80 = .ok (.bipush 6, 2) := by decide +kernel
theorem dX6_pay_82 : decode cX6_pay 82 = .ok (.invokestatic 79, 3) := by decide +kernel
theorem dX6_pay_85 : decode cX6_pay 85 = .ok (.dup2, 1) := by decide +kernel
theorem dX6_pay_86 : decode cX6_pay 86 = .ok (.iaload, 1) := by decide +kernel
theorem dX6_pay_87 : decode cX6_pay 87 = .ok (.iload_n 2, 1) := by decide +kernel
theorem dX6_pay_88 : decode cX6_pay 88 = .ok (.iadd, 1) := by decide +kernel
theorem dX6_pay_89 : decode cX6_pay 89 = .ok (.iastore, 1) := by decide +kernel
theorem dX6_pay_90 : decode cX6_pay 90 = .ok (.aload_n 0, 1) := by decide +kernel
theorem dX6_pay_91 : decode cX6_pay 91 = .ok (.getfield 7, 3) := by decide +kernel
theorem dX6_pay_94 : decode cX6_pay 94 = .ok (.iconst 2, 1) := by decide +kernel
theorem dX6_pay_95 : decode cX6_pay 95 = .ok (.dup2, 1) := by decide +kernel
theorem dX6_pay_96 : decode cX6_pay 96 = .ok (.iaload, 1) := by decide +kernel
theorem dX6_pay_97 : decode cX6_pay 97 = .ok (.iload_n 2, 1) := by decide +kernel
theorem dX6_pay_98 : decode cX6_pay 98 = .ok (.iadd, 1) := by decide +kernel
theorem dX6_pay_99 : decode cX6_pay 99 = .ok (.iastore, 1) := by decide +kernel
theorem dX6_pay_100 : decode cX6_pay 100 = .ok (.aload_n 0, 1) := by decide +kernel
theorem dX6_pay_101 : decode cX6_pay 101 = .ok (.getfield 7, 3) := by decide +kernel
theorem dX6_pay_104 : decode cX6_pay 104 = .ok (.iload_n 1, 1) := by decide +kernel
theorem dX6_pay_105 : decode cX6_pay 105 = .ok (.iconst 2, 1) := by decide +kernel
theorem dX6_pay_106 : decode cX6_pay 106 = .ok (.invokestatic 79, 3) := by decide +kernel
theorem dX6_pay_109 : decode cX6_pay 109 = .ok (.iaload, 1) := by decide +kernel
theorem dX6_pay_110 : decode cX6_pay 110 = .ok (.ireturn, 1) := by decide +kernel
theorem dX6_isFree_0 : decode cX6_isFree 0 = .ok (.aload_n 0, 1) := by decide +kernel
theorem dX6_isFree_1 : decode cX6_isFree 1 = .ok (.getfield 7, 3) := by decide +kernel
theorem dX6_isFree_4 : decode cX6_isFree 4 = .ok (.iload_n 1, 1) := by decide +kernel
theorem dX6_isFree_5 : decode cX6_isFree 5 = .ok (.iconst 4, 1) := by decide +kernel
theorem dX6_isFree_6 : decode cX6_isFree 6 = .ok (.invokestatic 79, 3) := by decide +kernel
theorem dX6_isFree_9 : decode cX6_isFree 9 = .ok (.iaload, 1) := by decide +kernel
theorem dX6_isFree_10 : decode cX6_isFree 10 = .ok (.ifCond .ne 20, 3) := by decide +kernel
theorem dX6_isFree_13 : decode cX6_isFree 13 = .ok (.aload_n 0, 1) := by decide +kernel
theorem dX6_isFree_14 : decode cX6_isFree 14 = .ok (.getfield 7, 3) := by decide +kernel
theorem dX6_isFree_17 : decode cX6_isFree 17 = .ok (.iload_n 1, 1) := by decide +kernel
theorem dX6_isFree_18 : decode cX6_isFree 18 = .ok (.iconst 2, 1) := by decide +kernel
theorem dX6_isFree_19 : decode cX6_isFree 19 = .ok (.invokestatic 79, 3) := by decide +kernel
theorem dX6_isFree_22 : decode cX6_isFree 22 = .ok (.iaload, 1) := by decide +kernel
theorem dX6_isFree_23 : decode cX6_isFree 23 = .ok (.ifCond .le 7, 3) := by decide +kernel
theorem dX6_isFree_26 : decode cX6_isFree 26 = .ok (.iconst 1, 1) := by decide +kernel
theorem dX6_isFree_27 : decode cX6_isFree 27 = .ok (.goto 4, 3) := by decide +kernel
theorem dX6_isFree_30 : decode cX6_isFree 30 = .ok (.iconst 0, 1) := by decide +kernel
theorem dX6_isFree_31 : decode cX6_isFree 31 = .ok (.ireturn, 1) := by decide +kernel
theorem dX6_dispute_0 : decode cX6_dispute 0 = .ok (.aload_n 0, 1) := by decide +kernel
theorem dX6_dispute_1 : decode cX6_dispute 1 = .ok (.iload_n 1, 1) := by decide +kernel
theorem dX6_dispute_2 : decode cX6_dispute 2 = .ok (.invokevirtual 160, 3) := by decide +kernel
theorem dX6_dispute_5 : decode cX6_dispute 5 = .ok (.istore_n 2, 1) := by decide +kernel
theorem dX6_dispute_6 : decode cX6_dispute 6 = .ok (.aload_n 0, 1) := by decide +kernel
theorem dX6_dispute_7 : decode cX6_dispute 7 = .ok (.iload_n 2, 1) := by decide +kernel
theorem dX6_dispute_8 : decode cX6_dispute 8 = .ok (.ifCond .ne 7, 3) := by decide +kernel
theorem dX6_dispute_11 : decode cX6_dispute 11 = .ok (.iconst 1, 1) := by decide +kernel
theorem dX6_dispute_12 : decode cX6_dispute 12 = .ok (.goto 4, 3) := by decide +kernel
theorem dX6_dispute_15 : decode cX6_dispute 15 = .ok (.iconst 0, 1) := by decide +kernel
theorem dX6_dispute_16 : decode cX6_dispute 16 = .ok (.iload_n 2, 1) := by decide +kernel
theorem dX6_dispute_17 : decode cX6_dispute 17 = .ok (.ifCond .eq 15, 3) := by decide +kernel
theorem dX6_dispute_20 : decode cX6_dispute 20 = .ok (.aload_n 0, 1) := by decide +kernel
theorem dX6_dispute_21 : decode cX6_dispute 21 = .ok (.iload_n 1, 1) := by decide +kernel
theorem dX6_dispute_22 : decode cX6_dispute 22 = .ok (.invokevirtual 163, 3) := by decide +kernel
theorem dX6_dispute_25 : decode cX6_dispute 25 = .ok (.ifCond .ne 7, 3) := by decide +kernel
theorem dX6_dispute_28 : decode cX6_dispute 28 = .ok (.iconst 1, 1) := by decide +kernel
theorem dX6_dispute_29 : decode cX6_dispute 29 = .ok (.goto 4, 3) := by decide +kernel
theorem dX6_dispute_32 : decode cX6_dispute 32 = .ok (.iconst 0, 1) := by decide +kernel
theorem dX6_dispute_33 : decode cX6_dispute 33 = .ok (.iconst 0, 1) := by decide +kernel
theorem dX6_dispute_34 : decode cX6_dispute 34 = .ok (.invokevirtual 146, 3) := by decide +kernel
theorem dX6_dispute_37 : decode cX6_dispute 37 = .ok (.ifCond .ne 5, 3) := by decide +kernel
theorem dX6_dispute_40 : decode cX6_dispute 40 = .ok (.iconst 0, 1) := by decide +kernel
theorem dX6_dispute_41 : decode cX6_dispute 41 = .ok (.ireturn, 1) := by decide +kernel
theorem dX6_dispute_42 : decode cX6_dispute 42 = .ok (.aload_n 0, 1) := by decide +kernel
theorem dX6_dispute_43 : decode cX6_dispute 43 = .ok (.aload_n 0, 1) := by decide +kernel
theorem dX6_dispute_44 : decode cX6_dispute 44 = .ok (.getfield 7, 3) := by decide +kernel
theorem dX6_dispute_47 : decode cX6_dispute 47 = .ok (.iconst (-1), 1) := by decide +kernel
theorem dX6_dispute_48 : decode cX6_dispute 48 = .ok (.invokevirtual 166, 3) := by decide +kernel
theorem dX6_dispute_51 : decode cX6_dispute 51 = .ok (.istore_n 3, 1) := by decide +kernel
theorem dX6_dispute_52 : decode cX6_dispute 52 = .ok (.aload_n 0, 1) := by decide +kernel
theorem dX6_dispute_53 : decode cX6_dispute 53 = .ok (.invokevirtual 150, 3) := by decide +kernel
theorem dX6_dispute_56 : decode cX6_dispute 56 = .ok (.aload_n 0, 1) := by decide +kernel
theorem dX6_dispute_57 : decode cX6_dispute 57 = .ok (.getfield 7, 3) := by decide +kernel
theorem dX6_dispute_60 : decode cX6_dispute 60 = .ok (.iload_n 1, 1) := by decide +kernel
theorem dX6_dispute_61 : decode cX6_dispute 61 = .ok (.iconst 4, 1) := by decide +kernel
theorem dX6_dispute_62 : decode cX6_dispute 62 = .ok (.invokestatic 79, 3) := by decide +kernel
theorem dX6_dispute_65 : decode cX6_dispute 65 = .ok (.iconst 1, 1) := by decide +kernel
theorem dX6_dispute_66 : decode cX6_dispute 66 = .ok (.iastore, 1) := by decide +kernel
theorem dX6_dispute_67 : decode cX6_dispute 67 = .ok (.iload_n 3, 1) := by decide +kernel
theorem dX6_dispute_68 : decode cX6_dispute 68 = .ok (.aload_n 0, 1) := by decide +kernel
theorem dX6_dispute_69 : decode cX6_dispute 69 = .ok (.aload_n 0, 1) := by decide +kernel
theorem dX6_dispute_70 : decode cX6_dispute 70 = .ok (.getfield 7, 3) := by decide +kernel
theorem dX6_dispute_73 : decode cX6_dispute 73 = .ok (.iconst (-1), 1) := by decide +kernel
theorem dX6_dispute_74 : decode cX6_dispute 74 = .ok (.invokevirtual 166, 3) := by decide +kernel
theorem dX6_dispute_77 : decode cX6_dispute 77 = .ok (.isub, 1) := by decide +kernel
theorem dX6_dispute_78 : decode cX6_dispute 78 = .ok (.ireturn, 1) := by decide +kernel
theorem dX6_settle_0 : decode cX6_settle 0 = .ok (.aload_n 0, 1) := by decide +kernel
theorem dX6_settle_1 : decode cX6_settle 1 = .ok (.iload_n 1, 1) := by decide +kernel
theorem dX6_settle_2 : decode cX6_settle 2 = .ok (.invokevirtual 160, 3) := by decide +kernel
theorem dX6_settle_5 : decode cX6_settle 5 = .ok (.istore_n 2, 1) := by decide +kernel
theorem dX6_settle_6 : decode cX6_settle 6 = .ok (.aload_n 0, 1) := by decide +kernel
theorem dX6_settle_7 : decode cX6_settle 7 = .ok (.iload_n 2, 1) := by decide +kernel
theorem dX6_settle_8 : decode cX6_settle 8 = .ok (.ifCond .ne 7, 3) := by decide +kernel
theorem dX6_settle_11 : decode cX6_settle 11 = .ok (.iconst 1, 1) := by decide +kernel
theorem dX6_settle_12 : decode cX6_settle 12 = .ok (.goto 4, 3) := by decide +kernel
theorem dX6_settle_15 : decode cX6_settle 15 = .ok (.iconst 0, 1) := by decide +kernel
theorem dX6_settle_16 : decode cX6_settle 16 = .ok (.iload_n 2, 1) := by decide +kernel
theorem dX6_settle_17 : decode cX6_settle 17 = .ok (.ifCond .eq 20, 3) := by decide +kernel
theorem dX6_settle_20 : decode cX6_settle 20 = .ok (.aload_n 0, 1) := by decide +kernel
theorem dX6_settle_21 : decode cX6_settle 21 = .ok (.getfield 7, 3) := by decide +kernel
theorem dX6_settle_24 : decode cX6_settle 24 = .ok (.iload_n 1, 1) := by decide +kernel
theorem dX6_settle_25 : decode cX6_settle 25 = .ok (.iconst 4, 1) := by decide +kernel
theorem dX6_settle_26 : decode cX6_settle 26 = .ok (.invokestatic 79, 3) := by decide +kernel
theorem dX6_settle_29 : decode cX6_settle 29 = .ok (.iaload, 1) := by decide +kernel
theorem dX6_settle_30 : decode cX6_settle 30 = .ok (.ifCond .ne 7, 3) := by decide +kernel
theorem dX6_settle_33 : decode cX6_settle 33 = .ok (.iconst 1, 1) := by decide +kernel
theorem dX6_settle_34 : decode cX6_settle 34 = .ok (.goto 4, 3) := by decide +kernel
theorem dX6_settle_37 : decode cX6_settle 37 = .ok (.iconst 0, 1) := by decide +kernel
theorem dX6_settle_38 : decode cX6_settle 38 = .ok (.iconst 0, 1) := by decide +kernel
theorem dX6_settle_39 : decode cX6_settle 39 = .ok (.invokevirtual 146, 3) := by decide +kernel
theorem dX6_settle_42 : decode cX6_settle 42 = .ok (.ifCond .ne 5, 3) := by decide +kernel
theorem dX6_settle_45 : decode cX6_settle 45 = .ok (.iconst 0, 1) := by decide +kernel
theorem dX6_settle_46 : decode cX6_settle 46 = .ok (.ireturn, 1) := by decide +kernel
theorem dX6_settle_47 : decode cX6_settle 47 = .ok (.aload_n 0, 1) := by decide +kernel
theorem dX6_settle_48 : decode cX6_settle 48 = .ok (.invokevirtual 150, 3) := by decide +kernel
theorem dX6_settle_51 : decode cX6_settle 51 = .ok (.aload_n 0, 1) := by decide +kernel
theorem dX6_settle_52 : decode cX6_settle 52 = .ok (.getfield 7, 3) := by decide +kernel
theorem dX6_settle_55 : decode cX6_settle 55 = .ok (.iload_n 1, 1) := by decide +kernel
theorem dX6_settle_56 : decode cX6_settle 56 = .ok (.iconst 4, 1) := by decide +kernel
theorem dX6_settle_57 : decode cX6_settle 57 = .ok (.invokestatic 79, 3) := by decide +kernel
theorem dX6_settle_60 : decode cX6_settle 60 = .ok (.iconst 0, 1) := by decide +kernel
theorem dX6_settle_61 : decode cX6_settle 61 = .ok (.iastore, 1) := by decide +kernel
theorem dX6_settle_62 : decode cX6_settle 62 = .ok (.aload_n 0, 1) := by decide +kernel
theorem dX6_settle_63 : decode cX6_settle 63 = .ok (.aload_n 0, 1) := by decide +kernel
theorem dX6_settle_64 : decode cX6_settle 64 = .ok (.getfield 7, 3) := by decide +kernel
theorem dX6_settle_67 : decode cX6_settle 67 = .ok (.iconst (-1), 1) := by decide +kernel
theorem dX6_settle_68 : decode cX6_settle 68 = .ok (.invokevirtual 166, 3) := by decide +kernel
theorem dX6_settle_71 : decode cX6_settle 71 = .ok (.ireturn, 1) := by decide +kernel
theorem dX6_discharge_0 : decode cX6_discharge 0 = .ok (.aload_n 0, 1) := by decide +kernel
theorem dX6_discharge_1 : decode cX6_discharge 1 = .ok (.iload_n 1, 1) := by decide +kernel
theorem dX6_discharge_2 : decode cX6_discharge 2 = .ok (.invokevirtual 169, 3) := by decide +kernel
theorem dX6_discharge_5 : decode cX6_discharge 5 = .ok (.istore_n 3, 1) := by decide +kernel
theorem dX6_discharge_6 : decode cX6_discharge 6 = .ok (.aload_n 0, 1) := by decide +kernel
theorem dX6_discharge_7 : decode cX6_discharge 7 = .ok (.iload_n 3, 1) := by decide +kernel
theorem dX6_discharge_8 : decode cX6_discharge 8 = .ok (.ifCond .ne 7, 3) := by decide +kernel
theorem dX6_discharge_11 : decode cX6_discharge 11 = .ok (.iconst 1, 1) := by decide +kernel
theorem dX6_discharge_12 : decode cX6_discharge 12 = .ok (.goto 4, 3) := by decide +kernel
theorem dX6_discharge_15 : decode cX6_discharge 15 = .ok (.iconst 0, 1) := by decide +kernel
theorem dX6_discharge_16 : decode cX6_discharge 16 = .ok (.iload_n 2, 1) := by decide +kernel
theorem dX6_discharge_17 : decode cX6_discharge 17 = .ok (.iconst 1, 1) := by decide +kernel
theorem dX6_discharge_18 : decode cX6_discharge 18 = .ok (.if_icmp .ge 7, 3) := by decide +kernel
theorem dX6_discharge_21 : decode cX6_discharge 21 = .ok (.iconst 1, 1) := by decide +kernel
theorem dX6_discharge_22 : decode cX6_discharge 22 = .ok (.goto 4, 3) := by decide +kernel
theorem dX6_discharge_25 : decode cX6_discharge 25 = .ok (.iconst 0, 1) := by decide +kernel
theorem dX6_discharge_26 : decode cX6_discharge 26 = .ok (.iload_n 3, 1) := by decide +kernel
theorem dX6_discharge_27 : decode cX6_discharge 27 = .ok (.ifCond .eq 15, 3) := by decide +kernel
theorem dX6_discharge_30 : decode cX6_discharge 30 = .ok (.iload_n 2, 1) := by decide +kernel
theorem dX6_discharge_31 : decode cX6_discharge 31 = .ok (.aload_n 0, 1) := by decide +kernel
theorem dX6_discharge_32 : decode cX6_discharge 32 = .ok (.invokevirtual 127, 3) := by decide +kernel
theorem dX6_discharge_35 : decode cX6_discharge 35 = .ok (.if_icmp .le 7, 3) := by decide +kernel
theorem dX6_discharge_38 : decode cX6_discharge 38 = .ok (.iconst 1, 1) := by decide +kernel
theorem dX6_discharge_39 : decode cX6_discharge 39 = .ok (.goto 4, 3) := by decide +kernel
theorem dX6_discharge_42 : decode cX6_discharge 42 = .ok (.iconst 0, 1) := by decide +kernel
theorem dX6_discharge_43 : decode cX6_discharge 43 = .ok (.invokevirtual 146, 3) := by decide +kernel
theorem dX6_discharge_46 : decode cX6_discharge 46 = .ok (.ifCond .ne 5, 3) := by decide +kernel
theorem dX6_discharge_49 : decode cX6_discharge 49 = .ok (.iconst 0, 1) := by decide +kernel
theorem dX6_discharge_50 : decode cX6_discharge 50 = .ok (.ireturn, 1) := by decide +kernel
theorem dX6_discharge_51 : decode cX6_discharge 51 = .ok (.aload_n 0, 1) := by decide +kernel
theorem dX6_discharge_52 : decode cX6_discharge 52 = .ok (.invokevirtual 150, 3) := by decide +kernel
theorem dX6_discharge_55 : decode cX6_discharge 55 = .ok (.aload_n 0, 1) := by decide +kernel
theorem dX6_discharge_56 : decode cX6_discharge 56 = .ok (.aload_n 0, 1) := by decide +kernel
theorem dX6_discharge_57 : decode cX6_discharge 57 = .ok (.getfield 7, 3) := by decide +kernel
theorem dX6_discharge_60 : decode cX6_discharge 60 = .ok (.iload_n 2, 1) := by decide +kernel
theorem dX6_discharge_61 : decode cX6_discharge 61 = .ok (.invokevirtual 134, 3) := by decide +kernel
theorem dX6_discharge_64 : decode cX6_discharge 64 = .ok (.ireturn, 1) := by decide +kernel
theorem dX6_dischargeBest_0 : decode cX6_dischargeBest 0 = .ok (.aload_n 0, 1) := by decide +kernel
theorem dX6_dischargeBest_1 : decode cX6_dischargeBest 1 = .ok (.aload_n 0, 1) := by decide +kernel
theorem dX6_dischargeBest_2 : decode cX6_dischargeBest 2 = .ok (.aload_n 0, 1) := by decide +kernel
theorem dX6_dischargeBest_3 : decode cX6_dischargeBest 3 = .ok (.getfield 7, 3) := by decide +kernel
theorem dX6_dischargeBest_6 : decode cX6_dischargeBest 6 = .ok (.invokevirtual 138, 3) := by decide +kernel
theorem dX6_dischargeBest_9 : decode cX6_dischargeBest 9 = .ok (.ifCond .ne 7, 3) := by decide +kernel
theorem dX6_dischargeBest_12 : decode cX6_dischargeBest 12 = .ok (.iconst 1, 1) := by decide +kernel
theorem dX6_dischargeBest_13 : decode cX6_dischargeBest 13 = .ok (.goto 4, 3) := by decide +kernel
theorem dX6_dischargeBest_16 : decode cX6_dischargeBest 16 = .ok (.iconst 0, 1) := by decide +kernel
theorem dX6_dischargeBest_17 : decode cX6_dischargeBest 17 = .ok (.iconst 0, 1) := by decide +kernel
theorem dX6_dischargeBest_18 : decode cX6_dischargeBest 18 = .ok (.iconst 0, 1) := by decide +kernel
theorem dX6_dischargeBest_19 : decode cX6_dischargeBest 19 = .ok (.invokevirtual 146, 3) := by decide +kernel
theorem dX6_dischargeBest_22 : decode cX6_dischargeBest 22 = .ok (.ifCond .ne 5, 3) := by decide +kernel
theorem dX6_dischargeBest_25 : decode cX6_dischargeBest 25 = .ok (.iconst 0, 1) := by decide +kernel
theorem dX6_dischargeBest_26 : decode cX6_dischargeBest 26 = .ok (.ireturn, 1) := by decide +kernel
theorem dX6_dischargeBest_27 : decode cX6_dischargeBest 27 = .ok (.aload_n 0, 1) := by decide +kernel
theorem dX6_dischargeBest_28 : decode cX6_dischargeBest 28 = .ok (.invokevirtual 150, 3) := by decide +kernel
theorem dX6_dischargeBest_31 : decode cX6_dischargeBest 31 = .ok (.aload_n 0, 1) := by decide +kernel
theorem dX6_dischargeBest_32 : decode cX6_dischargeBest 32 = .ok (.aload_n 0, 1) := by decide +kernel
theorem dX6_dischargeBest_33 : decode cX6_dischargeBest 33 = .ok (.getfield 7, 3) := by decide +kernel
theorem dX6_dischargeBest_36 : decode cX6_dischargeBest 36 = .ok (.invokevirtual 142, 3) := by decide +kernel
theorem dX6_dischargeBest_39 : decode cX6_dischargeBest 39 = .ok (.aload_n 0, 1) := by decide +kernel
theorem dX6_dischargeBest_40 : decode cX6_dischargeBest 40 = .ok (.getfield 124, 3) := by decide +kernel
theorem dX6_dischargeBest_43 : decode cX6_dischargeBest 43 = .ok (.ireturn, 1) := by decide +kernel
theorem dX6_dischargeAll_0 : decode cX6_dischargeAll 0 = .ok (.aload_n 0, 1) := by decide +kernel
theorem dX6_dischargeAll_1 : decode cX6_dischargeAll 1 = .ok (.iconst 0, 1) := by decide +kernel
theorem dX6_dischargeAll_2 : decode cX6_dischargeAll 2 = .ok (.iconst 0, 1) := by decide +kernel
theorem dX6_dischargeAll_3 : decode cX6_dischargeAll 3 = .ok (.iconst 0, 1) := by decide +kernel
theorem dX6_dischargeAll_4 : decode cX6_dischargeAll 4 = .ok (.invokevirtual 146, 3) := by decide +kernel
theorem dX6_dischargeAll_7 : decode cX6_dischargeAll 7 = .ok (.pop, 1) := by decide +kernel
theorem dX6_dischargeAll_8 : decode cX6_dischargeAll 8 = .ok (.aload_n 0, 1) := by decide +kernel
theorem dX6_dischargeAll_9 : decode cX6_dischargeAll 9 = .ok (.invokevirtual 150, 3) := by decide +kernel
theorem dX6_dischargeAll_12 : decode cX6_dischargeAll 12 = .ok (.aload_n 0, 1) := by decide +kernel
theorem dX6_dischargeAll_13 : decode cX6_dischargeAll 13 = .ok (.aload_n 0, 1) := by decide +kernel
theorem dX6_dischargeAll_14 : decode cX6_dischargeAll 14 = .ok (.getfield 7, 3) := by decide +kernel
theorem dX6_dischargeAll_17 : decode cX6_dischargeAll 17 = .ok (.invokevirtual 172, 3) := by decide +kernel
theorem dX6_dischargeAll_20 : decode cX6_dischargeAll 20 = .ok (.ireturn, 1) := by decide +kernel
theorem dX6_promiseOf_0 : decode cX6_promiseOf 0 = .ok (.aload_n 0, 1) := by decide +kernel
theorem dX6_promiseOf_1 : decode cX6_promiseOf 1 = .ok (.aload_n 0, 1) := by decide +kernel
theorem dX6_promiseOf_2 : decode cX6_promiseOf 2 = .ok (.iload_n 1, 1) := by decide +kernel
theorem dX6_promiseOf_3 : decode cX6_promiseOf 3 = .ok (.invokevirtual 160, 3) := by decide +kernel
theorem dX6_promiseOf_6 : decode cX6_promiseOf 6 = .ok (.ifCond .ne 7, 3) := by decide +kernel
theorem dX6_promiseOf_9 : decode cX6_promiseOf 9 = .ok (.iconst 1, 1) := by decide +kernel
theorem dX6_promiseOf_10 : decode cX6_promiseOf 10 = .ok (.goto 4, 3) := by decide +kernel
theorem dX6_promiseOf_13 : decode cX6_promiseOf 13 = .ok (.iconst 0, 1) := by decide +kernel
theorem dX6_promiseOf_14 : decode cX6_promiseOf 14 = .ok (.iload_n 2, 1) := by decide +kernel
theorem dX6_promiseOf_15 : decode cX6_promiseOf 15 = .ok (.iconst 0, 1) := by decide +kernel
theorem dX6_promiseOf_16 : decode cX6_promiseOf 16 = .ok (.bipush 7, 2) := by decide +kernel
theorem dX6_promiseOf_18 : decode cX6_promiseOf 18 = .ok (.invokestatic 68, 3) := by decide +kernel
theorem dX6_promiseOf_21 : decode cX6_promiseOf 21 = .ok (.ifCond .ne 7, 3) := by decide +kernel
theorem dX6_promiseOf_24 : decode cX6_promiseOf 24 = .ok (.iconst 1, 1) := by decide +kernel
theorem dX6_promiseOf_25 : decode cX6_promiseOf 25 = .ok (.goto 4, 3) := by decide +kernel
theorem dX6_promiseOf_28 : decode cX6_promiseOf 28 = .ok (.iconst 0, 1) := by decide +kernel
theorem dX6_promiseOf_29 : decode cX6_promiseOf 29 = .ok (.iconst 0, 1) := by decide +kernel
theorem dX6_promiseOf_30 : decode cX6_promiseOf 30 = .ok (.invokevirtual 146, 3) := by decide +kernel
theorem dX6_promiseOf_33 : decode cX6_promiseOf 33 = .ok (.ifCond .eq 16, 3) := by decide +kernel
theorem dX6_promiseOf_36 : decode cX6_promiseOf 36 = .ok (.aload_n 0, 1) := by decide +kernel
theorem dX6_promiseOf_37 : decode cX6_promiseOf 37 = .ok (.getfield 7, 3) := by decide +kernel
theorem dX6_promiseOf_40 : decode cX6_promiseOf 40 = .ok (.iload_n 1, 1) := by decide +kernel
theorem dX6_promiseOf_41 : decode cX6_promiseOf 41 = .ok (.iload_n 2, 1) := by decide +kernel
theorem dX6_promiseOf_42 : decode cX6_promiseOf 42 = .ok (.invokestatic 79, 3) := by decide +kernel
theorem dX6_promiseOf_45 : decode cX6_promiseOf 45 = .ok (.iaload, 1) := by decide +kernel
theorem dX6_promiseOf_46 : decode cX6_promiseOf 46 = .ok (.goto 4, 3) := by decide +kernel
theorem dX6_promiseOf_49 : decode cX6_promiseOf 49 = .ok (.iconst 0, 1) := by decide +kernel
theorem dX6_promiseOf_50 : decode cX6_promiseOf 50 = .ok (.ireturn, 1) := by decide +kernel
theorem dX6_debtOf_0 : decode cX6_debtOf 0 = .ok (.aload_n 0, 1) := by decide +kernel
theorem dX6_debtOf_1 : decode cX6_debtOf 1 = .ok (.aload_n 0, 1) := by decide +kernel
theorem dX6_debtOf_2 : decode cX6_debtOf 2 = .ok (.getfield 7, 3) := by decide +kernel
theorem dX6_debtOf_5 : decode cX6_debtOf 5 = .ok (.iconst (-1), 1) := by decide +kernel
theorem dX6_debtOf_6 : decode cX6_debtOf 6 = .ok (.invokevirtual 96, 3) := by decide +kernel
theorem dX6_debtOf_9 : decode cX6_debtOf 9 = .ok (.aload_n 0, 1) := by decide +kernel
theorem dX6_debtOf_10 : decode cX6_debtOf 10 = .ok (.getfield 22, 3) := by decide +kernel
theorem dX6_debtOf_13 : decode cX6_debtOf 13 = .ok (.bipush 7, 2) := by decide +kernel
theorem dX6_debtOf_15 : decode cX6_debtOf 15 = .ok (.iload_n 1, 1) := by decide +kernel
theorem dX6_debtOf_16 : decode cX6_debtOf 16 = .ok (.imul, 1) := by decide +kernel
theorem dX6_debtOf_17 : decode cX6_debtOf 17 = .ok (.iload_n 2, 1) := by decide +kernel
theorem dX6_debtOf_18 : decode cX6_debtOf 18 = .ok (.iadd, 1) := by decide +kernel
theorem dX6_debtOf_19 : decode cX6_debtOf 19 = .ok (.iaload, 1) := by decide +kernel
theorem dX6_debtOf_20 : decode cX6_debtOf 20 = .ok (.ireturn, 1) := by decide +kernel
theorem dX6_debt_0 : decode cX6_debt 0 = .ok (.aload_n 0, 1) := by decide +kernel
theorem dX6_debt_1 : decode cX6_debt 1 = .ok (.aload_n 0, 1) := by decide +kernel
theorem dX6_debt_2 : decode cX6_debt 2 = .ok (.iload_n 1, 1) := by decide +kernel
theorem dX6_debt_3 : decode cX6_debt 3 = .ok (.invokevirtual 153, 3) := by decide +kernel
theorem dX6_debt_6 : decode cX6_debt 6 = .ok (.ifCond .eq 11, 3) := by decide +kernel
theorem dX6_debt_9 : decode cX6_debt 9 = .ok (.aload_n 0, 1) := by decide +kernel
theorem dX6_debt_10 : decode cX6_debt 10 = .ok (.iload_n 2, 1) := by decide +kernel
theorem dX6_debt_11 : decode cX6_debt 11 = .ok (.invokevirtual 153, 3) := by decide +kernel
theorem dX6_debt_14 : decode cX6_debt 14 = .ok (.ifCond .ne 7, 3) := by decide +kernel
theorem dX6_debt_17 : decode cX6_debt 17 = .ok (.iconst 1, 1) := by decide +kernel
theorem dX6_debt_18 : decode cX6_debt 18 = .ok (.goto 4, 3) := by decide +kernel
theorem dX6_debt_21 : decode cX6_debt 21 = .ok (.iconst 0, 1) := by decide +kernel
theorem dX6_debt_22 : decode cX6_debt 22 = .ok (.iconst 0, 1) := by decide +kernel
theorem dX6_debt_23 : decode cX6_debt 23 = .ok (.iconst 0, 1) := by decide +kernel
theorem dX6_debt_24 : decode cX6_debt 24 = .ok (.invokevirtual 146, 3) := by decide +kernel
theorem dX6_debt_27 : decode cX6_debt 27 = .ok (.ifCond .eq 12, 3) := by decide +kernel
theorem dX6_debt_30 : decode cX6_debt 30 = .ok (.aload_n 0, 1) := by decide +kernel
theorem dX6_debt_31 : decode cX6_debt 31 = .ok (.iload_n 1, 1) := by decide +kernel
theorem dX6_debt_32 : decode cX6_debt 32 = .ok (.iload_n 2, 1) := by decide +kernel
theorem dX6_debt_33 : decode cX6_debt 33 = .ok (.invokevirtual 176, 3) := by decide +kernel
theorem dX6_debt_36 : decode cX6_debt 36 = .ok (.goto 4, 3) := by decide +kernel
theorem dX6_debt_39 : decode cX6_debt 39 = .ok (.iconst 0, 1) := by decide +kernel
theorem dX6_debt_40 : decode cX6_debt 40 = .ok (.ireturn, 1) := by decide +kernel
theorem dX6_netOf_0 : decode cX6_netOf 0 = .ok (.iconst 0, 1) := by decide +kernel
theorem dX6_netOf_1 : decode cX6_netOf 1 = .ok (.istore_n 2, 1) := by decide +kernel
theorem dX6_netOf_2 : decode cX6_netOf 2 = .ok (.iconst 0, 1) := by decide +kernel
theorem dX6_netOf_3 : decode cX6_netOf 3 = .ok (.istore_n 3, 1) := by decide +kernel
theorem dX6_netOf_4 : decode cX6_netOf 4 = .ok (.iload_n 3, 1) := by decide +kernel
theorem dX6_netOf_5 : decode cX6_netOf 5 = .ok (.aload_n 0, 1) := by decide +kernel
theorem dX6_netOf_6 : decode cX6_netOf 6 = .ok (.getfield 7, 3) := by decide +kernel
theorem dX6_netOf_9 : decode cX6_netOf 9 = .ok (.iconst 1, 1) := by decide +kernel
theorem dX6_netOf_10 : decode cX6_netOf 10 = .ok (.iaload, 1) := by decide +kernel
theorem dX6_netOf_11 : decode cX6_netOf 11 = .ok (.if_icmp .ge 71, 3) := by decide +kernel
theorem dX6_netOf_14 : decode cX6_netOf 14 = .ok (.iload_n 2, 1) := by decide +kernel
theorem dX6_netOf_15 : decode cX6_netOf 15 = .ok (.aload_n 0, 1) := by decide +kernel
theorem dX6_netOf_16 : decode cX6_netOf 16 = .ok (.getfield 7, 3) := by decide +kernel
theorem dX6_netOf_19 : decode cX6_netOf 19 = .ok (.iload_n 3, 1) := by decide +kernel
theorem dX6_netOf_20 : decode cX6_netOf 20 = .ok (.iconst 1, 1) := by decide +kernel
theorem dX6_netOf_21 : decode cX6_netOf 21 = .ok (.invokestatic 79, 3) := by decide +kernel
theorem dX6_netOf_24 : decode cX6_netOf 24 = .ok (.iaload, 1) := by decide +kernel
theorem dX6_netOf_25 : decode cX6_netOf 25 = .ok (.iload_n 1, 1) := by decide +kernel
theorem dX6_netOf_26 : decode cX6_netOf 26 = .ok (.if_icmp .ne 16, 3) := by decide +kernel
theorem dX6_netOf_29 : decode cX6_netOf 29 = .ok (.aload_n 0, 1) := by decide +kernel
theorem dX6_netOf_30 : decode cX6_netOf 30 = .ok (.getfield 7, 3) := by decide +kernel
theorem dX6_netOf_33 : decode cX6_netOf 33 = .ok (.iload_n 3, 1) := by decide +kernel
theorem dX6_netOf_34 : decode cX6_netOf 34 = .ok (.iconst 2, 1) := by decide +kernel
theorem dX6_netOf_35 : decode cX6_netOf 35 = .ok (.invokestatic 79, 3) := by decide +kernel
theorem dX6_netOf_38 : decode cX6_netOf 38 = .ok (.iaload, 1) := by decide +kernel
theorem dX6_netOf_39 : decode cX6_netOf 39 = .ok (.goto 4, 3) := by decide +kernel
theorem dX6_netOf_42 : decode cX6_netOf 42 = .ok (.iconst 0, 1) := by decide +kernel
theorem dX6_netOf_43 : decode cX6_netOf 43 = .ok (.iadd, 1) := by decide +kernel
theorem dX6_netOf_44 : decode cX6_netOf 44 = .ok (.istore_n 2, 1) := by decide +kernel
theorem dX6_netOf_45 : decode cX6_netOf 45 = .ok (.iload_n 2, 1) := by decide +kernel
theorem dX6_netOf_46 : decode cX6_netOf 46 = .ok (.aload_n 0, 1) := by decide +kernel
theorem dX6_netOf_47 : decode cX6_netOf 47 = .ok (.getfield 7, 3) := by decide +kernel
theorem dX6_netOf_50 : decode cX6_netOf 50 = .ok (.iload_n 3, 1) := by decide +kernel
theorem dX6_netOf_51 : decode cX6_netOf 51 = .ok (.iconst 0, 1) := by decide +kernel
theorem dX6_netOf_52 : decode cX6_netOf 52 = .ok (.invokestatic 79, 3) := by decide +kernel
theorem dX6_netOf_55 : decode cX6_netOf 55 = .ok (.iaload, 1) := by decide +kernel
theorem dX6_netOf_56 : decode cX6_netOf 56 = .ok (.iload_n 1, 1) := by decide +kernel
theorem dX6_netOf_57 : decode cX6_netOf 57 = .ok (.if_icmp .ne 16, 3) := by decide +kernel
theorem dX6_netOf_60 : decode cX6_netOf 60 = .ok (.aload_n 0, 1) := by decide +kernel
theorem dX6_netOf_61 : decode cX6_netOf 61 = .ok (.getfield 7, 3) := by decide +kernel
theorem dX6_netOf_64 : decode cX6_netOf 64 = .ok (.iload_n 3, 1) := by decide +kernel
theorem dX6_netOf_65 : decode cX6_netOf 65 = .ok (.iconst 2, 1) := by decide +kernel
theorem dX6_netOf_66 : decode cX6_netOf 66 = .ok (.invokestatic 79, 3) := by decide +kernel
theorem dX6_netOf_69 : decode cX6_netOf 69 = .ok (.iaload, 1) := by decide +kernel
theorem dX6_netOf_70 : decode cX6_netOf 70 = .ok (.goto 4, 3) := by decide +kernel
theorem dX6_netOf_73 : decode cX6_netOf 73 = .ok (.iconst 0, 1) := by decide +kernel
theorem dX6_netOf_74 : decode cX6_netOf 74 = .ok (.isub, 1) := by decide +kernel
theorem dX6_netOf_75 : decode cX6_netOf 75 = .ok (.istore_n 2, 1) := by decide +kernel
theorem dX6_netOf_76 : decode cX6_netOf 76 = .ok (.iinc 3 1, 3) := by decide +kernel
theorem dX6_netOf_79 : decode cX6_netOf 79 = .ok (.goto (-75), 3) := by decide +kernel
theorem dX6_netOf_82 : decode cX6_netOf 82 = .ok (.iload_n 2, 1) := by decide +kernel
theorem dX6_netOf_83 : decode cX6_netOf 83 = .ok (.ireturn, 1) := by decide +kernel
theorem dX6_net_0 : decode cX6_net 0 = .ok (.aload_n 0, 1) := by decide +kernel
theorem dX6_net_1 : decode cX6_net 1 = .ok (.aload_n 0, 1) := by decide +kernel
theorem dX6_net_2 : decode cX6_net 2 = .ok (.iload_n 1, 1) := by decide +kernel
theorem dX6_net_3 : decode cX6_net 3 = .ok (.invokevirtual 153, 3) := by decide +kernel
theorem dX6_net_6 : decode cX6_net 6 = .ok (.ifCond .ne 7, 3) := by decide +kernel
theorem dX6_net_9 : decode cX6_net 9 = .ok (.iconst 1, 1) := by decide +kernel
theorem dX6_net_10 : decode cX6_net 10 = .ok (.goto 4, 3) := by decide +kernel
theorem dX6_net_13 : decode cX6_net 13 = .ok (.iconst 0, 1) := by decide +kernel
theorem dX6_net_14 : decode cX6_net 14 = .ok (.iconst 0, 1) := by decide +kernel
theorem dX6_net_15 : decode cX6_net 15 = .ok (.iconst 0, 1) := by decide +kernel
theorem dX6_net_16 : decode cX6_net 16 = .ok (.invokevirtual 146, 3) := by decide +kernel
theorem dX6_net_19 : decode cX6_net 19 = .ok (.ifCond .eq 11, 3) := by decide +kernel
theorem dX6_net_22 : decode cX6_net 22 = .ok (.aload_n 0, 1) := by decide +kernel
theorem dX6_net_23 : decode cX6_net 23 = .ok (.iload_n 1, 1) := by decide +kernel
theorem dX6_net_24 : decode cX6_net 24 = .ok (.invokevirtual 179, 3) := by decide +kernel
theorem dX6_net_27 : decode cX6_net 27 = .ok (.goto 4, 3) := by decide +kernel
theorem dX6_net_30 : decode cX6_net 30 = .ok (.iconst 0, 1) := by decide +kernel
theorem dX6_net_31 : decode cX6_net 31 = .ok (.ireturn, 1) := by decide +kernel
theorem dX6_ring_0 : decode cX6_ring 0 = .ok (.aload_n 0, 1) := by decide +kernel
theorem dX6_ring_1 : decode cX6_ring 1 = .ok (.aload_n 0, 1) := by decide +kernel
theorem dX6_ring_2 : decode cX6_ring 2 = .ok (.iload_n 1, 1) := by decide +kernel
theorem dX6_ring_3 : decode cX6_ring 3 = .ok (.invokevirtual 169, 3) := by decide +kernel
theorem dX6_ring_6 : decode cX6_ring 6 = .ok (.ifCond .ne 7, 3) := by decide +kernel
theorem dX6_ring_9 : decode cX6_ring 9 = .ok (.iconst 1, 1) := by decide +kernel
theorem dX6_ring_10 : decode cX6_ring 10 = .ok (.goto 4, 3) := by decide +kernel
theorem dX6_ring_13 : decode cX6_ring 13 = .ok (.iconst 0, 1) := by decide +kernel
theorem dX6_ring_14 : decode cX6_ring 14 = .ok (.iload_n 2, 1) := by decide +kernel
theorem dX6_ring_15 : decode cX6_ring 15 = .ok (.iconst 0, 1) := by decide +kernel
theorem dX6_ring_16 : decode cX6_ring 16 = .ok (.bipush 6, 2) := by decide +kernel
theorem dX6_ring_18 : decode cX6_ring 18 = .ok (.invokestatic 68, 3) := by decide +kernel
theorem dX6_ring_21 : decode cX6_ring 21 = .ok (.ifCond .ne 7, 3) := by decide +kernel
theorem dX6_ring_24 : decode cX6_ring 24 = .ok (.iconst 1, 1) := by decide +kernel
theorem dX6_ring_25 : decode cX6_ring 25 = .ok (.goto 4, 3) := by decide +kernel
theorem dX6_ring_28 : decode cX6_ring 28 = .ok (.iconst 0, 1) := by decide +kernel
theorem dX6_ring_29 : decode cX6_ring 29 = .ok (.iconst 0, 1) := by decide +kernel
theorem dX6_ring_30 : decode cX6_ring 30 = .ok (.invokevirtual 146, 3) := by decide +kernel
theorem dX6_ring_33 : decode cX6_ring 33 = .ok (.ifCond .ne 5, 3) := by decide +kernel
theorem dX6_ring_36 : decode cX6_ring 36 = .ok (.iconst 0, 1) := by decide +kernel
theorem dX6_ring_37 : decode cX6_ring 37 = .ok (.ireturn, 1) := by decide +kernel
theorem dX6_ring_38 : decode cX6_ring 38 = .ok (.iload_n 2, 1) := by decide +kernel
theorem dX6_ring_39 : decode cX6_ring 39 = .ok (.aload_n 0, 1) := by decide +kernel
theorem dX6_ring_40 : decode cX6_ring 40 = .ok (.getfield 86, 3) := by decide +kernel
theorem dX6_ring_43 : decode cX6_ring 43 = .ok (.if_icmp .ge 12, 3) := by decide +kernel
theorem dX6_ring_46 : decode cX6_ring 46 = .ok (.aload_n 0, 1) := by decide +kernel
theorem dX6_ring_47 : decode cX6_ring 47 = .ok (.getfield 28, 3) := by decide +kernel
theorem dX6_ring_50 : decode cX6_ring 50 = .ok (.iload_n 2, 1) := by decide +kernel
theorem dX6_ring_51 : decode cX6_ring 51 = .ok (.iaload, 1) := by decide +kernel
theorem dX6_ring_52 : decode cX6_ring 52 = .ok (.goto 4, 3) := by decide +kernel
theorem dX6_ring_55 : decode cX6_ring 55 = .ok (.iconst (-1), 1) := by decide +kernel
theorem dX6_ring_56 : decode cX6_ring 56 = .ok (.ireturn, 1) := by decide +kernel
theorem dX6_room_0 : decode cX6_room 0 = .ok (.aload_n 0, 1) := by decide +kernel
theorem dX6_room_1 : decode cX6_room 1 = .ok (.aload_n 0, 1) := by decide +kernel
theorem dX6_room_2 : decode cX6_room 2 = .ok (.iload_n 1, 1) := by decide +kernel
theorem dX6_room_3 : decode cX6_room 3 = .ok (.invokevirtual 169, 3) := by decide +kernel
theorem dX6_room_6 : decode cX6_room 6 = .ok (.ifCond .ne 7, 3) := by decide +kernel
theorem dX6_room_9 : decode cX6_room 9 = .ok (.iconst 1, 1) := by decide +kernel
theorem dX6_room_10 : decode cX6_room 10 = .ok (.goto 4, 3) := by decide +kernel
theorem dX6_room_13 : decode cX6_room 13 = .ok (.iconst 0, 1) := by decide +kernel
theorem dX6_room_14 : decode cX6_room 14 = .ok (.iconst 0, 1) := by decide +kernel
theorem dX6_room_15 : decode cX6_room 15 = .ok (.iconst 0, 1) := by decide +kernel
theorem dX6_room_16 : decode cX6_room 16 = .ok (.invokevirtual 146, 3) := by decide +kernel
theorem dX6_room_19 : decode cX6_room 19 = .ok (.ifCond .eq 10, 3) := by decide +kernel
theorem dX6_room_22 : decode cX6_room 22 = .ok (.aload_n 0, 1) := by decide +kernel
theorem dX6_room_23 : decode cX6_room 23 = .ok (.invokevirtual 127, 3) := by decide +kernel
theorem dX6_room_26 : decode cX6_room 26 = .ok (.goto 4, 3) := by decide +kernel
theorem dX6_room_29 : decode cX6_room 29 = .ok (.iconst 0, 1) := by decide +kernel
theorem dX6_room_30 : decode cX6_room 30 = .ok (.ireturn, 1) := by decide +kernel
theorem dX6_costOf_0 : decode cX6_costOf 0 = .ok (.iconst 0, 1) := by decide +kernel
theorem dX6_costOf_1 : decode cX6_costOf 1 = .ok (.istore_n 1, 1) := by decide +kernel
theorem dX6_costOf_2 : decode cX6_costOf 2 = .ok (.iconst 0, 1) := by decide +kernel
theorem dX6_costOf_3 : decode cX6_costOf 3 = .ok (.istore_n 2, 1) := by decide +kernel
theorem dX6_costOf_4 : decode cX6_costOf 4 = .ok (.iload_n 2, 1) := by decide +kernel
theorem dX6_costOf_5 : decode cX6_costOf 5 = .ok (.aload_n 0, 1) := by decide +kernel
theorem dX6_costOf_6 : decode cX6_costOf 6 = .ok (.iconst 1, 1) := by decide +kernel
theorem dX6_costOf_7 : decode cX6_costOf 7 = .ok (.iaload, 1) := by decide +kernel
theorem dX6_costOf_8 : decode cX6_costOf 8 = .ok (.if_icmp .ge 27, 3) := by decide +kernel
theorem dX6_costOf_11 : decode cX6_costOf 11 = .ok (.iload_n 1, 1) := by decide +kernel
theorem dX6_costOf_12 : decode cX6_costOf 12 = .ok (.aload_n 0, 1) := by decide +kernel
theorem dX6_costOf_13 : decode cX6_costOf 13 = .ok (.iload_n 2, 1) := by decide +kernel
theorem dX6_costOf_14 : decode cX6_costOf 14 = .ok (.iconst 2, 1) := by decide +kernel
theorem dX6_costOf_15 : decode cX6_costOf 15 = .ok (.invokestatic 79, 3) := by decide +kernel
theorem dX6_costOf_18 : decode cX6_costOf 18 = .ok (.iaload, 1) := by decide +kernel
theorem dX6_costOf_19 : decode cX6_costOf 19 = .ok (.aload_n 0, 1) := by decide +kernel
theorem dX6_costOf_20 : decode cX6_costOf 20 = .ok (.iload_n 2, 1) := by decide +kernel
theorem dX6_costOf_21 : decode cX6_costOf 21 = .ok (.iconst 3, 1) := by decide +kernel
theorem dX6_costOf_22 : decode cX6_costOf 22 = .ok (.invokestatic 79, 3) := by decide +kernel
theorem dX6_costOf_25 : decode cX6_costOf 25 = .ok (.iaload, 1) := by decide +kernel
theorem dX6_costOf_26 : decode cX6_costOf 26 = .ok (.imul, 1) := by decide +kernel
theorem dX6_costOf_27 : decode cX6_costOf 27 = .ok (.iadd, 1) := by decide +kernel
theorem dX6_costOf_28 : decode cX6_costOf 28 = .ok (.istore_n 1, 1) := by decide +kernel
theorem dX6_costOf_29 : decode cX6_costOf 29 = .ok (.iinc 2 1, 3) := by decide +kernel
theorem dX6_costOf_32 : decode cX6_costOf 32 = .ok (.goto (-28), 3) := by decide +kernel
theorem dX6_costOf_35 : decode cX6_costOf 35 = .ok (.iload_n 1, 1) := by decide +kernel
theorem dX6_costOf_36 : decode cX6_costOf 36 = .ok (.ireturn, 1) := by decide +kernel
theorem dX6_one_0 : decode cX6_one 0 = .ok (.iconst 0, 1) := by decide +kernel
theorem dX6_one_1 : decode cX6_one 1 = .ok (.istore_n 2, 1) := by decide +kernel
theorem dX6_one_2 : decode cX6_one 2 = .ok (.iconst 0, 1) := by decide +kernel
theorem dX6_one_3 : decode cX6_one 3 = .ok (.istore_n 3, 1) := by decide +kernel
theorem dX6_one_4 : decode cX6_one 4 = .ok (.iconst 0, 1) := by decide +kernel
theorem dX6_one_5 : decode cX6_one 5 = .ok (.istore 4, 2) := by decide +kernel
theorem dX6_one_7 : decode cX6_one 7 = .ok (.iconst 0, 1) := by decide +kernel
theorem dX6_one_8 : decode cX6_one 8 = .ok (.istore 5, 2) := by decide +kernel
theorem dX6_one_10 : decode cX6_one 10 = .ok (.iconst 0, 1) := by decide +kernel
theorem dX6_one_11 : decode cX6_one 11 = .ok (.istore 6, 2) := by decide +kernel
theorem dX6_one_13 : decode cX6_one 13 = .ok (.iload 6, 2) := by decide +kernel
theorem dX6_one_15 : decode cX6_one 15 = .ok (.aload_n 0, 1) := by decide +kernel
theorem dX6_one_16 : decode cX6_one 16 = .ok (.getfield 7, 3) := by decide +kernel
theorem dX6_one_19 : decode cX6_one 19 = .ok (.iconst 1, 1) := by decide +kernel
theorem dX6_one_20 : decode cX6_one 20 = .ok (.iaload, 1) := by decide +kernel
theorem dX6_one_21 : decode cX6_one 21 = .ok (.if_icmp .ge 61, 3) := by decide +kernel
theorem dX6_one_24 : decode cX6_one 24 = .ok (.iload_n 2, 1) := by decide +kernel
theorem dX6_one_25 : decode cX6_one 25 = .ok (.aload_n 0, 1) := by decide +kernel
theorem dX6_one_26 : decode cX6_one 26 = .ok (.getfield 7, 3) := by decide +kernel
theorem dX6_one_29 : decode cX6_one 29 = .ok (.iload 6, 2) := by decide +kernel
theorem dX6_one_31 : decode cX6_one 31 = .ok (.iconst 2, 1) := by decide +kernel
theorem dX6_one_32 : decode cX6_one 32 = .ok (.invokestatic 79, 3) := by decide +kernel
theorem dX6_one_35 : decode cX6_one 35 = .ok (.iaload, 1) := by decide +kernel
theorem dX6_one_36 : decode cX6_one 36 = .ok (.ifCond .le 7, 3) := by decide +kernel
theorem dX6_one_39 : decode cX6_one 39 = .ok (.iconst 1, 1) := by decide +kernel
theorem dX6_one_40 : decode cX6_one 40 = .ok (.goto 4, 3) := by decide +kernel
theorem dX6_one_43 : decode cX6_one 43 = .ok (.iconst 0, 1) := by decide +kernel
theorem dX6_one_44 : decode cX6_one 44 = .ok (.iadd, 1) := by decide +kernel
theorem dX6_one_45 : decode cX6_one 45 = .ok (.istore_n 2, 1) := by decide +kernel
theorem dX6_one_46 : decode cX6_one 46 = .ok (.iload_n 3, 1) := by decide +kernel
theorem dX6_one_47 : decode cX6_one 47 = .ok (.aload_n 0, 1) := by decide +kernel
theorem dX6_one_48 : decode cX6_one 48 = .ok (.getfield 7, 3) := by decide +kernel
theorem dX6_one_51 : decode cX6_one 51 = .ok (.iload 6, 2) := by decide +kernel
theorem dX6_one_53 : decode cX6_one 53 = .ok (.iconst 4, 1) := by decide +kernel
theorem dX6_one_54 : decode cX6_one 54 = .ok (.invokestatic 79, 3) := by decide +kernel
theorem dX6_one_57 : decode cX6_one 57 = .ok (.iaload, 1) := by decide +kernel
theorem dX6_one_58 : decode cX6_one 58 = .ok (.iadd, 1) := by decide +kernel
theorem dX6_one_59 : decode cX6_one 59 = .ok (.istore_n 3, 1) := by decide +kernel
theorem dX6_one_60 : decode cX6_one 60 = .ok (.iload 4, 2) := by decide +kernel
theorem dX6_one_62 : decode cX6_one 62 = .ok (.aload_n 0, 1) := by decide +kernel
theorem dX6_one_63 : decode cX6_one 63 = .ok (.getfield 7, 3) := by decide +kernel
theorem dX6_one_66 : decode cX6_one 66 = .ok (.iload 6, 2) := by decide +kernel
theorem dX6_one_68 : decode cX6_one 68 = .ok (.iconst 2, 1) := by decide +kernel
theorem dX6_one_69 : decode cX6_one 69 = .ok (.invokestatic 79, 3) := by decide +kernel
theorem dX6_one_72 : decode cX6_one 72 = .ok (.iaload, 1) := by decide +kernel
theorem dX6_one_73 : decode cX6_one 73 = .ok (.iadd, 1) := by decide +kernel
theorem dX6_one_74 : decode cX6_one 74 = .ok (.istore 4, 2) := by decide +kernel
theorem dX6_one_76 : decode cX6_one 76 = .ok (.iinc 6 1, 3) := by decide +kernel
theorem dX6_one_79 : decode cX6_one 79 = .ok (.goto (-66), 3) := by decide +kernel
theorem dX6_one_82 : decode cX6_one 82 = .ok (.iconst 0, 1) := by decide +kernel
theorem dX6_one_83 : decode cX6_one 83 = .ok (.istore 6, 2) := by decide +kernel
theorem dX6_one_85 : decode cX6_one 85 = .ok (.iload 6, 2) := by decide +kernel
theorem dX6_one_87 : decode cX6_one 87 = .ok (.aload_n 0, 1) := by decide +kernel
theorem dX6_one_88 : decode cX6_one 88 = .ok (.getfield 7, 3) := by decide +kernel
theorem dX6_one_91 : decode cX6_one 91 = .ok (.iconst 0, 1) := by decide +kernel
theorem dX6_one_92 : decode cX6_one 92 = .ok (.iaload, 1) := by decide +kernel
theorem dX6_one_93 : decode cX6_one 93 = .ok (.if_icmp .ge 33, 3) := by decide +kernel
theorem dX6_one_96 : decode cX6_one 96 = .ok (.aload_n 0, 1) := by decide +kernel
theorem dX6_one_97 : decode cX6_one 97 = .ok (.iload 6, 2) := by decide +kernel
theorem dX6_one_99 : decode cX6_one 99 = .ok (.invokevirtual 179, 3) := by decide +kernel
theorem dX6_one_102 : decode cX6_one 102 = .ok (.istore 7, 2) := by decide +kernel
theorem dX6_one_104 : decode cX6_one 104 = .ok (.iload 5, 2) := by decide +kernel
theorem dX6_one_106 : decode cX6_one 106 = .ok (.iload 7, 2) := by decide +kernel
theorem dX6_one_108 : decode cX6_one 108 = .ok (.ifCond .le 8, 3) := by decide +kernel
theorem dX6_one_111 : decode cX6_one 111 = .ok (.iload 7, 2) := by decide +kernel
theorem dX6_one_113 : decode cX6_one 113 = .ok (.goto 4, 3) := by decide +kernel
theorem dX6_one_116 : decode cX6_one 116 = .ok (.iconst 0, 1) := by decide +kernel
theorem dX6_one_117 : decode cX6_one 117 = .ok (.iadd, 1) := by decide +kernel
theorem dX6_one_118 : decode cX6_one 118 = .ok (.istore 5, 2) := by decide +kernel
theorem dX6_one_120 : decode cX6_one 120 = .ok (.iinc 6 1, 3) := by decide +kernel
theorem dX6_one_123 : decode cX6_one 123 = .ok (.goto (-38), 3) := by decide +kernel
theorem dX6_one_126 : decode cX6_one 126 = .ok (.iload_n 1, 1) := by decide +kernel
theorem dX6_one_127 : decode cX6_one 127 = .ok (.tableswitch 113 0 9 #[53, 60, 67, 69, 71, 74, 82, 92, 99, 106], 53) := by decide +kernel
theorem dX6_one_180 : decode cX6_one 180 = .ok (.aload_n 0, 1) := by decide +kernel
theorem dX6_one_181 : decode cX6_one 181 = .ok (.getfield 7, 3) := by decide +kernel
theorem dX6_one_184 : decode cX6_one 184 = .ok (.iconst 0, 1) := by decide +kernel
theorem dX6_one_185 : decode cX6_one 185 = .ok (.iaload, 1) := by decide +kernel
theorem dX6_one_186 : decode cX6_one 186 = .ok (.ireturn, 1) := by decide +kernel
theorem dX6_one_187 : decode cX6_one 187 = .ok (.aload_n 0, 1) := by decide +kernel
theorem dX6_one_188 : decode cX6_one 188 = .ok (.getfield 7, 3) := by decide +kernel
theorem dX6_one_191 : decode cX6_one 191 = .ok (.iconst 1, 1) := by decide +kernel
theorem dX6_one_192 : decode cX6_one 192 = .ok (.iaload, 1) := by decide +kernel
theorem dX6_one_193 : decode cX6_one 193 = .ok (.ireturn, 1) := by decide +kernel
theorem dX6_one_194 : decode cX6_one 194 = .ok (.iload_n 2, 1) := by decide +kernel
theorem dX6_one_195 : decode cX6_one 195 = .ok (.ireturn, 1) := by decide +kernel
theorem dX6_one_196 : decode cX6_one 196 = .ok (.iload_n 3, 1) := by decide +kernel
theorem dX6_one_197 : decode cX6_one 197 = .ok (.ireturn, 1) := by decide +kernel
theorem dX6_one_198 : decode cX6_one 198 = .ok (.iload 4, 2) := by decide +kernel
theorem dX6_one_200 : decode cX6_one 200 = .ok (.ireturn, 1) := by decide +kernel
theorem dX6_one_201 : decode cX6_one 201 = .ok (.aload_n 0, 1) := by decide +kernel
theorem dX6_one_202 : decode cX6_one 202 = .ok (.getfield 7, 3) := by decide +kernel
theorem dX6_one_205 : decode cX6_one 205 = .ok (.invokestatic 182, 3) := by decide +kernel
theorem dX6_one_208 : decode cX6_one 208 = .ok (.ireturn, 1) := by decide +kernel
theorem dX6_one_209 : decode cX6_one 209 = .ok (.aload_n 0, 1) := by decide +kernel
theorem dX6_one_210 : decode cX6_one 210 = .ok (.aload_n 0, 1) := by decide +kernel
theorem dX6_one_211 : decode cX6_one 211 = .ok (.getfield 7, 3) := by decide +kernel
theorem dX6_one_214 : decode cX6_one 214 = .ok (.iconst (-1), 1) := by decide +kernel
theorem dX6_one_215 : decode cX6_one 215 = .ok (.invokevirtual 166, 3) := by decide +kernel
theorem dX6_one_218 : decode cX6_one 218 = .ok (.ireturn, 1) := by decide +kernel
theorem dX6_one_219 : decode cX6_one 219 = .ok (.aload_n 0, 1) := by decide +kernel
theorem dX6_one_220 : decode cX6_one 220 = .ok (.getfield 7, 3) := by decide +kernel
theorem dX6_one_223 : decode cX6_one 223 = .ok (.iconst 2, 1) := by decide +kernel
theorem dX6_one_224 : decode cX6_one 224 = .ok (.iaload, 1) := by decide +kernel
theorem dX6_one_225 : decode cX6_one 225 = .ok (.ireturn, 1) := by decide +kernel
theorem dX6_one_226 : decode cX6_one 226 = .ok (.aload_n 0, 1) := by decide +kernel
theorem dX6_one_227 : decode cX6_one 227 = .ok (.getfield 7, 3) := by decide +kernel
theorem dX6_one_230 : decode cX6_one 230 = .ok (.iconst 3, 1) := by decide +kernel
theorem dX6_one_231 : decode cX6_one 231 = .ok (.iaload, 1) := by decide +kernel
theorem dX6_one_232 : decode cX6_one 232 = .ok (.ireturn, 1) := by decide +kernel
theorem dX6_one_233 : decode cX6_one 233 = .ok (.aload_n 0, 1) := by decide +kernel
theorem dX6_one_234 : decode cX6_one 234 = .ok (.getfield 7, 3) := by decide +kernel
theorem dX6_one_237 : decode cX6_one 237 = .ok (.iconst 4, 1) := by decide +kernel
theorem dX6_one_238 : decode cX6_one 238 = .ok (.iaload, 1) := by decide +kernel
theorem dX6_one_239 : decode cX6_one 239 = .ok (.ireturn, 1) := by decide +kernel
theorem dX6_one_240 : decode cX6_one 240 = .ok (.iload 5, 2) := by decide +kernel
theorem dX6_one_242 : decode cX6_one 242 = .ok (.ireturn, 1) := by decide +kernel
theorem dX6_value_0 : decode cX6_value 0 = .ok (.aload_n 0, 1) := by decide +kernel
theorem dX6_value_1 : decode cX6_value 1 = .ok (.iload_n 1, 1) := by decide +kernel
theorem dX6_value_2 : decode cX6_value 2 = .ok (.iconst 0, 1) := by decide +kernel
theorem dX6_value_3 : decode cX6_value 3 = .ok (.bipush 10, 2) := by decide +kernel
theorem dX6_value_5 : decode cX6_value 5 = .ok (.invokestatic 68, 3) := by decide +kernel
theorem dX6_value_8 : decode cX6_value 8 = .ok (.ifCond .ne 7, 3) := by decide +kernel
theorem dX6_value_11 : decode cX6_value 11 = .ok (.iconst 1, 1) := by decide +kernel
theorem dX6_value_12 : decode cX6_value 12 = .ok (.goto 4, 3) := by decide +kernel
theorem dX6_value_15 : decode cX6_value 15 = .ok (.iconst 0, 1) := by decide +kernel
theorem dX6_value_16 : decode cX6_value 16 = .ok (.iconst 0, 1) := by decide +kernel
theorem dX6_value_17 : decode cX6_value 17 = .ok (.iconst 0, 1) := by decide +kernel
theorem dX6_value_18 : decode cX6_value 18 = .ok (.invokevirtual 146, 3) := by decide +kernel
theorem dX6_value_21 : decode cX6_value 21 = .ok (.ifCond .eq 11, 3) := by decide +kernel
theorem dX6_value_24 : decode cX6_value 24 = .ok (.aload_n 0, 1) := by decide +kernel
theorem dX6_value_25 : decode cX6_value 25 = .ok (.iload_n 1, 1) := by decide +kernel
theorem dX6_value_26 : decode cX6_value 26 = .ok (.invokevirtual 185, 3) := by decide +kernel
theorem dX6_value_29 : decode cX6_value 29 = .ok (.goto 4, 3) := by decide +kernel
theorem dX6_value_32 : decode cX6_value 32 = .ok (.iconst 0, 1) := by decide +kernel
theorem dX6_value_33 : decode cX6_value 33 = .ok (.ireturn, 1) := by decide +kernel
theorem dX6_saving_0 : decode cX6_saving 0 = .ok (.aload_n 0, 1) := by decide +kernel
theorem dX6_saving_1 : decode cX6_saving 1 = .ok (.aload_n 0, 1) := by decide +kernel
theorem dX6_saving_2 : decode cX6_saving 2 = .ok (.iload_n 1, 1) := by decide +kernel
theorem dX6_saving_3 : decode cX6_saving 3 = .ok (.invokevirtual 169, 3) := by decide +kernel
theorem dX6_saving_6 : decode cX6_saving 6 = .ok (.ifCond .ne 7, 3) := by decide +kernel
theorem dX6_saving_9 : decode cX6_saving 9 = .ok (.iconst 1, 1) := by decide +kernel
theorem dX6_saving_10 : decode cX6_saving 10 = .ok (.goto 4, 3) := by decide +kernel
theorem dX6_saving_13 : decode cX6_saving 13 = .ok (.iconst 0, 1) := by decide +kernel
theorem dX6_saving_14 : decode cX6_saving 14 = .ok (.iconst 0, 1) := by decide +kernel
theorem dX6_saving_15 : decode cX6_saving 15 = .ok (.iconst 0, 1) := by decide +kernel
theorem dX6_saving_16 : decode cX6_saving 16 = .ok (.invokevirtual 146, 3) := by decide +kernel
theorem dX6_saving_19 : decode cX6_saving 19 = .ok (.ifCond .eq 14, 3) := by decide +kernel
theorem dX6_saving_22 : decode cX6_saving 22 = .ok (.aload_n 0, 1) := by decide +kernel
theorem dX6_saving_23 : decode cX6_saving 23 = .ok (.aload_n 0, 1) := by decide +kernel
theorem dX6_saving_24 : decode cX6_saving 24 = .ok (.invokevirtual 127, 3) := by decide +kernel
theorem dX6_saving_27 : decode cX6_saving 27 = .ok (.invokevirtual 114, 3) := by decide +kernel
theorem dX6_saving_30 : decode cX6_saving 30 = .ok (.goto 4, 3) := by decide +kernel
theorem dX6_saving_33 : decode cX6_saving 33 = .ok (.iconst 0, 1) := by decide +kernel
theorem dX6_saving_34 : decode cX6_saving 34 = .ok (.ireturn, 1) := by decide +kernel
theorem dX6_bestRing_0 : decode cX6_bestRing 0 = .ok (.aload_n 0, 1) := by decide +kernel
theorem dX6_bestRing_1 : decode cX6_bestRing 1 = .ok (.iconst 0, 1) := by decide +kernel
theorem dX6_bestRing_2 : decode cX6_bestRing 2 = .ok (.iconst 0, 1) := by decide +kernel
theorem dX6_bestRing_3 : decode cX6_bestRing 3 = .ok (.iconst 0, 1) := by decide +kernel
theorem dX6_bestRing_4 : decode cX6_bestRing 4 = .ok (.invokevirtual 146, 3) := by decide +kernel
theorem dX6_bestRing_7 : decode cX6_bestRing 7 = .ok (.pop, 1) := by decide +kernel
theorem dX6_bestRing_8 : decode cX6_bestRing 8 = .ok (.aload_n 0, 1) := by decide +kernel
theorem dX6_bestRing_9 : decode cX6_bestRing 9 = .ok (.aload_n 0, 1) := by decide +kernel
theorem dX6_bestRing_10 : decode cX6_bestRing 10 = .ok (.getfield 7, 3) := by decide +kernel
theorem dX6_bestRing_13 : decode cX6_bestRing 13 = .ok (.invokevirtual 138, 3) := by decide +kernel
theorem dX6_bestRing_16 : decode cX6_bestRing 16 = .ok (.pop, 1) := by decide +kernel
theorem dX6_bestRing_17 : decode cX6_bestRing 17 = .ok (.aload_n 0, 1) := by decide +kernel
theorem dX6_bestRing_18 : decode cX6_bestRing 18 = .ok (.getfield 121, 3) := by decide +kernel
theorem dX6_bestRing_21 : decode cX6_bestRing 21 = .ok (.ireturn, 1) := by decide +kernel
theorem dX6_costByRings_0 : decode cX6_costByRings 0 = .ok (.aload_n 0, 1) := by decide +kernel
theorem dX6_costByRings_1 : decode cX6_costByRings 1 = .ok (.iconst 0, 1) := by decide +kernel
theorem dX6_costByRings_2 : decode cX6_costByRings 2 = .ok (.iconst 0, 1) := by decide +kernel
theorem dX6_costByRings_3 : decode cX6_costByRings 3 = .ok (.iconst 0, 1) := by decide +kernel
theorem dX6_costByRings_4 : decode cX6_costByRings 4 = .ok (.invokevirtual 146, 3) := by decide +kernel
theorem dX6_costByRings_7 : decode cX6_costByRings 7 = .ok (.pop, 1) := by decide +kernel
theorem dX6_costByRings_8 : decode cX6_costByRings 8 = .ok (.aload_n 0, 1) := by decide +kernel
theorem dX6_costByRings_9 : decode cX6_costByRings 9 = .ok (.getfield 7, 3) := by decide +kernel
theorem dX6_costByRings_12 : decode cX6_costByRings 12 = .ok (.iconst 0, 1) := by decide +kernel
theorem dX6_costByRings_13 : decode cX6_costByRings 13 = .ok (.aload_n 0, 1) := by decide +kernel
theorem dX6_costByRings_14 : decode cX6_costByRings 14 = .ok (.getfield 13, 3) := by decide +kernel
theorem dX6_costByRings_17 : decode cX6_costByRings 17 = .ok (.iconst 0, 1) := by decide +kernel
theorem dX6_costByRings_18 : decode cX6_costByRings 18 = .ok (.invokestatic 75, 3) := by decide +kernel
theorem dX6_costByRings_21 : decode cX6_costByRings 21 = .ok (.aload_n 0, 1) := by decide +kernel
theorem dX6_costByRings_22 : decode cX6_costByRings 22 = .ok (.aload_n 0, 1) := by decide +kernel
theorem dX6_costByRings_23 : decode cX6_costByRings 23 = .ok (.getfield 13, 3) := by decide +kernel
theorem dX6_costByRings_26 : decode cX6_costByRings 26 = .ok (.invokevirtual 172, 3) := by decide +kernel
theorem dX6_costByRings_29 : decode cX6_costByRings 29 = .ok (.pop, 1) := by decide +kernel
theorem dX6_costByRings_30 : decode cX6_costByRings 30 = .ok (.aload_n 0, 1) := by decide +kernel
theorem dX6_costByRings_31 : decode cX6_costByRings 31 = .ok (.getfield 13, 3) := by decide +kernel
theorem dX6_costByRings_34 : decode cX6_costByRings 34 = .ok (.invokestatic 182, 3) := by decide +kernel
theorem dX6_costByRings_37 : decode cX6_costByRings 37 = .ok (.ireturn, 1) := by decide +kernel
theorem dX6_ways_0 : decode cX6_ways 0 = .ok (.iconst 0, 1) := by decide +kernel
theorem dX6_ways_1 : decode cX6_ways 1 = .ok (.istore_n 1, 1) := by decide +kernel
theorem dX6_ways_2 : decode cX6_ways 2 = .ok (.iload_n 1, 1) := by decide +kernel
theorem dX6_ways_3 : decode cX6_ways 3 = .ok (.bipush 7, 2) := by decide +kernel
theorem dX6_ways_5 : decode cX6_ways 5 = .ok (.if_icmp .ge 36, 3) := by decide +kernel
theorem dX6_ways_8 : decode cX6_ways 8 = .ok (.aload_n 0, 1) := by decide +kernel
theorem dX6_ways_9 : decode cX6_ways 9 = .ok (.getfield 43, 3) := by decide +kernel
theorem dX6_ways_12 : decode cX6_ways 12 = .ok (.iload_n 1, 1) := by decide +kernel
theorem dX6_ways_13 : decode cX6_ways 13 = .ok (.aload_n 0, 1) := by decide +kernel
theorem dX6_ways_14 : decode cX6_ways 14 = .ok (.getfield 40, 3) := by decide +kernel
theorem dX6_ways_17 : decode cX6_ways 17 = .ok (.iload_n 1, 1) := by decide +kernel
theorem dX6_ways_18 : decode cX6_ways 18 = .ok (.iaload, 1) := by decide +kernel
theorem dX6_ways_19 : decode cX6_ways 19 = .ok (.ifCond .ge 7, 3) := by decide +kernel
theorem dX6_ways_22 : decode cX6_ways 22 = .ok (.iconst 0, 1) := by decide +kernel
theorem dX6_ways_23 : decode cX6_ways 23 = .ok (.goto 4, 3) := by decide +kernel
theorem dX6_ways_26 : decode cX6_ways 26 = .ok (.iconst (-1), 1) := by decide +kernel
theorem dX6_ways_27 : decode cX6_ways 27 = .ok (.iastore, 1) := by decide +kernel
theorem dX6_ways_28 : decode cX6_ways 28 = .ok (.aload_n 0, 1) := by decide +kernel
theorem dX6_ways_29 : decode cX6_ways 29 = .ok (.getfield 46, 3) := by decide +kernel
theorem dX6_ways_32 : decode cX6_ways 32 = .ok (.iload_n 1, 1) := by decide +kernel
theorem dX6_ways_33 : decode cX6_ways 33 = .ok (.iconst (-1), 1) := by decide +kernel
theorem dX6_ways_34 : decode cX6_ways 34 = .ok (.iastore, 1) := by decide +kernel
theorem dX6_ways_35 : decode cX6_ways 35 = .ok (.iinc 1 1, 3) := by decide +kernel
theorem dX6_ways_38 : decode cX6_ways 38 = .ok (.goto (-36), 3) := by decide +kernel
theorem dX6_ways_41 : decode cX6_ways 41 = .ok (.iconst 0, 1) := by decide +kernel
theorem dX6_ways_42 : decode cX6_ways 42 = .ok (.istore_n 1, 1) := by decide +kernel
theorem dX6_ways_43 : decode cX6_ways 43 = .ok (.iload_n 1, 1) := by decide +kernel
theorem dX6_ways_44 : decode cX6_ways 44 = .ok (.bipush 7, 2) := by decide +kernel
theorem dX6_ways_46 : decode cX6_ways 46 = .ok (.if_icmp .ge 159, 3) := by decide +kernel
theorem dX6_ways_49 : decode cX6_ways 49 = .ok (.iconst 0, 1) := by decide +kernel
theorem dX6_ways_50 : decode cX6_ways 50 = .ok (.istore_n 2, 1) := by decide +kernel
theorem dX6_ways_51 : decode cX6_ways 51 = .ok (.iload_n 2, 1) := by decide +kernel
theorem dX6_ways_52 : decode cX6_ways 52 = .ok (.aload_n 0, 1) := by decide +kernel
theorem dX6_ways_53 : decode cX6_ways 53 = .ok (.getfield 7, 3) := by decide +kernel
theorem dX6_ways_56 : decode cX6_ways 56 = .ok (.iconst 1, 1) := by decide +kernel
theorem dX6_ways_57 : decode cX6_ways 57 = .ok (.iaload, 1) := by decide +kernel
theorem dX6_ways_58 : decode cX6_ways 58 = .ok (.if_icmp .ge 141, 3) := by decide +kernel
theorem dX6_ways_61 : decode cX6_ways 61 = .ok (.aload_n 0, 1) := by decide +kernel
theorem dX6_ways_62 : decode cX6_ways 62 = .ok (.getfield 7, 3) := by decide +kernel
theorem dX6_ways_65 : decode cX6_ways 65 = .ok (.iload_n 2, 1) := by decide +kernel
theorem dX6_ways_66 : decode cX6_ways 66 = .ok (.iconst 4, 1) := by decide +kernel
theorem dX6_ways_67 : decode cX6_ways 67 = .ok (.invokestatic 79, 3) := by decide +kernel
theorem dX6_ways_70 : decode cX6_ways 70 = .ok (.iaload, 1) := by decide +kernel
theorem dX6_ways_71 : decode cX6_ways 71 = .ok (.ifCond .ne 7, 3) := by decide +kernel
theorem dX6_ways_74 : decode cX6_ways 74 = .ok (.iconst 1, 1) := by decide +kernel
theorem dX6_ways_75 : decode cX6_ways 75 = .ok (.goto 4, 3) := by decide +kernel
theorem dX6_ways_78 : decode cX6_ways 78 = .ok (.iconst 0, 1) := by decide +kernel
theorem dX6_ways_79 : decode cX6_ways 79 = .ok (.istore_n 3, 1) := by decide +kernel
theorem dX6_ways_80 : decode cX6_ways 80 = .ok (.iload_n 3, 1) := by decide +kernel
theorem dX6_ways_81 : decode cX6_ways 81 = .ok (.ifCond .eq 59, 3) := by decide +kernel
theorem dX6_ways_84 : decode cX6_ways 84 = .ok (.aload_n 0, 1) := by decide +kernel
theorem dX6_ways_85 : decode cX6_ways 85 = .ok (.getfield 37, 3) := by decide +kernel
theorem dX6_ways_88 : decode cX6_ways 88 = .ok (.iload_n 2, 1) := by decide +kernel
theorem dX6_ways_89 : decode cX6_ways 89 = .ok (.iaload, 1) := by decide +kernel
theorem dX6_ways_90 : decode cX6_ways 90 = .ok (.aload_n 0, 1) := by decide +kernel
theorem dX6_ways_91 : decode cX6_ways 91 = .ok (.getfield 7, 3) := by decide +kernel
theorem dX6_ways_94 : decode cX6_ways 94 = .ok (.iload_n 2, 1) := by decide +kernel
theorem dX6_ways_95 : decode cX6_ways 95 = .ok (.iconst 2, 1) := by decide +kernel
theorem dX6_ways_96 : decode cX6_ways 96 = .ok (.invokestatic 79, 3) := by decide +kernel
theorem dX6_ways_99 : decode cX6_ways 99 = .ok (.iaload, 1) := by decide +kernel
theorem dX6_ways_100 : decode cX6_ways 100 = .ok (.if_icmp .ge 40, 3) := by decide +kernel
theorem dX6_ways_103 : decode cX6_ways 103 = .ok (.aload_n 0, 1) := by decide +kernel
theorem dX6_ways_104 : decode cX6_ways 104 = .ok (.aload_n 0, 1) := by decide +kernel
theorem dX6_ways_105 : decode cX6_ways 105 = .ok (.getfield 7, 3) := by decide +kernel
theorem dX6_ways_108 : decode cX6_ways 108 = .ok (.iload_n 2, 1) := by decide +kernel
theorem dX6_ways_109 : decode cX6_ways 109 = .ok (.iconst 0, 1) := by decide +kernel
theorem dX6_ways_110 : decode cX6_ways 110 = .ok (.invokestatic 79, 3) := by decide +kernel
theorem dX6_ways_113 : decode cX6_ways 113 = .ok (.iaload, 1) := by decide +kernel
theorem dX6_ways_114 : decode cX6_ways 114 = .ok (.aload_n 0, 1) := by decide +kernel
theorem dX6_ways_115 : decode cX6_ways 115 = .ok (.getfield 7, 3) := by decide +kernel
theorem dX6_ways_118 : decode cX6_ways 118 = .ok (.iload_n 2, 1) := by decide +kernel
theorem dX6_ways_119 : decode cX6_ways 119 = .ok (.iconst 1, 1) := by decide +kernel
theorem dX6_ways_120 : decode cX6_ways 120 = .ok (.invokestatic 79, 3) := by decide +kernel
theorem dX6_ways_123 : decode cX6_ways 123 = .ok (.iaload, 1) := by decide +kernel
theorem dX6_ways_124 : decode cX6_ways 124 = .ok (.aload_n 0, 1) := by decide +kernel
theorem dX6_ways_125 : decode cX6_ways 125 = .ok (.getfield 7, 3) := by decide +kernel
theorem dX6_ways_128 : decode cX6_ways 128 = .ok (.iload_n 2, 1) := by decide +kernel
theorem dX6_ways_129 : decode cX6_ways 129 = .ok (.iconst 3, 1) := by decide +kernel
theorem dX6_ways_130 : decode cX6_ways 130 = .ok (.invokestatic 79, 3) := by decide +kernel
theorem dX6_ways_133 : decode cX6_ways 133 = .ok (.iaload, 1) := by decide +kernel
theorem dX6_ways_134 : decode cX6_ways 134 = .ok (.iconst 2, 1) := by decide +kernel
theorem dX6_ways_135 : decode cX6_ways 135 = .ok (.iload_n 2, 1) := by decide +kernel
theorem dX6_ways_136 : decode cX6_ways 136 = .ok (.imul, 1) := by decide +kernel
theorem dX6_ways_137 : decode cX6_ways 137 = .ok (.invokevirtual 188, 3) := by decide +kernel
theorem dX6_ways_140 : decode cX6_ways 140 = .ok (.iload_n 3, 1) := by decide +kernel
theorem dX6_ways_141 : decode cX6_ways 141 = .ok (.ifCond .eq 52, 3) := by decide +kernel
theorem dX6_ways_144 : decode cX6_ways 144 = .ok (.aload_n 0, 1) := by decide +kernel
theorem dX6_ways_145 : decode cX6_ways 145 = .ok (.getfield 37, 3) := by decide +kernel
theorem dX6_ways_148 : decode cX6_ways 148 = .ok (.iload_n 2, 1) := by decide +kernel
theorem dX6_ways_149 : decode cX6_ways 149 = .ok (.iaload, 1) := by decide +kernel
theorem dX6_ways_150 : decode cX6_ways 150 = .ok (.ifCond .le 43, 3) := by decide +kernel
theorem dX6_ways_153 : decode cX6_ways 153 = .ok (.aload_n 0, 1) := by decide +kernel
theorem dX6_ways_154 : decode cX6_ways 154 = .ok (.aload_n 0, 1) := by decide +kernel
theorem dX6_ways_155 : decode cX6_ways 155 = .ok (.getfield 7, 3) := by decide +kernel
theorem dX6_ways_158 : decode cX6_ways 158 = .ok (.iload_n 2, 1) := by decide +kernel
theorem dX6_ways_159 : decode cX6_ways 159 = .ok (.iconst 1, 1) := by decide +kernel
theorem dX6_ways_160 : decode cX6_ways 160 = .ok (.invokestatic 79, 3) := by decide +kernel
theorem dX6_ways_163 : decode cX6_ways 163 = .ok (.iaload, 1) := by decide +kernel
theorem dX6_ways_164 : decode cX6_ways 164 = .ok (.aload_n 0, 1) := by decide +kernel
theorem dX6_ways_165 : decode cX6_ways 165 = .ok (.getfield 7, 3) := by decide +kernel
theorem dX6_ways_168 : decode cX6_ways 168 = .ok (.iload_n 2, 1) := by decide +kernel
theorem dX6_ways_169 : decode cX6_ways 169 = .ok (.iconst 0, 1) := by decide +kernel
theorem dX6_ways_170 : decode cX6_ways 170 = .ok (.invokestatic 79, 3) := by decide +kernel
theorem dX6_ways_173 : decode cX6_ways 173 = .ok (.iaload, 1) := by decide +kernel
theorem dX6_ways_174 : decode cX6_ways 174 = .ok (.aload_n 0, 1) := by decide +kernel
theorem dX6_ways_175 : decode cX6_ways 175 = .ok (.getfield 7, 3) := by decide +kernel
theorem dX6_ways_178 : decode cX6_ways 178 = .ok (.iload_n 2, 1) := by decide +kernel
theorem dX6_ways_179 : decode cX6_ways 179 = .ok (.iconst 3, 1) := by decide +kernel
theorem dX6_ways_180 : decode cX6_ways 180 = .ok (.invokestatic 79, 3) := by decide +kernel
theorem dX6_ways_183 : decode cX6_ways 183 = .ok (.iaload, 1) := by decide +kernel
theorem dX6_ways_184 : decode cX6_ways 184 = .ok (.ineg, 1) := by decide +kernel
theorem dX6_ways_185 : decode cX6_ways 185 = .ok (.iconst 2, 1) := by decide +kernel
theorem dX6_ways_186 : decode cX6_ways 186 = .ok (.iload_n 2, 1) := by decide +kernel
theorem dX6_ways_187 : decode cX6_ways 187 = .ok (.imul, 1) := by decide +kernel
theorem dX6_ways_188 : decode cX6_ways 188 = .ok (.iconst 1, 1) := by decide +kernel
theorem dX6_ways_189 : decode cX6_ways 189 = .ok (.iadd, 1) := by decide +kernel
theorem dX6_ways_190 : decode cX6_ways 190 = .ok (.invokevirtual 188, 3) := by decide +kernel
theorem dX6_ways_193 : decode cX6_ways 193 = .ok (.iinc 2 1, 3) := by decide +kernel
theorem dX6_ways_196 : decode cX6_ways 196 = .ok (.goto (-145), 3) := by decide +kernel
theorem dX6_ways_199 : decode cX6_ways 199 = .ok (.iinc 1 1, 3) := by decide +kernel
theorem dX6_ways_202 : decode cX6_ways 202 = .ok (.goto (-159), 3) := by decide +kernel
theorem dX6_ways_205 : decode cX6_ways 205 = .ok (.return_, 1) := by decide +kernel
theorem dX6_nears_0 : decode cX6_nears 0 = .ok (.aload_n 0, 1) := by decide +kernel
theorem dX6_nears_1 : decode cX6_nears 1 = .ok (.getfield 43, 3) := by decide +kernel
theorem dX6_nears_4 : decode cX6_nears 4 = .ok (.iload_n 1, 1) := by decide +kernel
theorem dX6_nears_5 : decode cX6_nears 5 = .ok (.iaload, 1) := by decide +kernel
theorem dX6_nears_6 : decode cX6_nears 6 = .ok (.iconst (-1), 1) := by decide +kernel
theorem dX6_nears_7 : decode cX6_nears 7 = .ok (.if_icmp .eq 52, 3) := by decide +kernel
theorem dX6_nears_10 : decode cX6_nears 10 = .ok (.aload_n 0, 1) := by decide +kernel
theorem dX6_nears_11 : decode cX6_nears 11 = .ok (.getfield 43, 3) := by decide +kernel
theorem dX6_nears_14 : decode cX6_nears 14 = .ok (.iload_n 2, 1) := by decide +kernel
theorem dX6_nears_15 : decode cX6_nears 15 = .ok (.iaload, 1) := by decide +kernel
theorem dX6_nears_16 : decode cX6_nears 16 = .ok (.iconst (-1), 1) := by decide +kernel
theorem dX6_nears_17 : decode cX6_nears 17 = .ok (.if_icmp .eq 20, 3) := by decide +kernel
theorem dX6_nears_20 : decode cX6_nears 20 = .ok (.aload_n 0, 1) := by decide +kernel
theorem dX6_nears_21 : decode cX6_nears 21 = .ok (.getfield 43, 3) := by decide +kernel
theorem dX6_nears_24 : decode cX6_nears 24 = .ok (.iload_n 1, 1) := by decide +kernel
theorem dX6_nears_25 : decode cX6_nears 25 = .ok (.iaload, 1) := by decide +kernel
theorem dX6_nears_26 : decode cX6_nears 26 = .ok (.iload_n 3, 1) := by decide +kernel
theorem dX6_nears_27 : decode cX6_nears 27 = .ok (.iadd, 1) := by decide +kernel
theorem dX6_nears_28 : decode cX6_nears 28 = .ok (.aload_n 0, 1) := by decide +kernel
theorem dX6_nears_29 : decode cX6_nears 29 = .ok (.getfield 43, 3) := by decide +kernel
theorem dX6_nears_32 : decode cX6_nears 32 = .ok (.iload_n 2, 1) := by decide +kernel
theorem dX6_nears_33 : decode cX6_nears 33 = .ok (.iaload, 1) := by decide +kernel
theorem dX6_nears_34 : decode cX6_nears 34 = .ok (.if_icmp .ge 25, 3) := by decide +kernel
theorem dX6_nears_37 : decode cX6_nears 37 = .ok (.aload_n 0, 1) := by decide +kernel
theorem dX6_nears_38 : decode cX6_nears 38 = .ok (.getfield 43, 3) := by decide +kernel
theorem dX6_nears_41 : decode cX6_nears 41 = .ok (.iload_n 2, 1) := by decide +kernel
theorem dX6_nears_42 : decode cX6_nears 42 = .ok (.aload_n 0, 1) := by decide +kernel
theorem dX6_nears_43 : decode cX6_nears 43 = .ok (.getfield 43, 3) := by decide +kernel
theorem dX6_nears_46 : decode cX6_nears 46 = .ok (.iload_n 1, 1) := by decide +kernel
theorem dX6_nears_47 : decode cX6_nears 47 = .ok (.iaload, 1) := by decide +kernel
theorem dX6_nears_48 : decode cX6_nears 48 = .ok (.iload_n 3, 1) := by decide +kernel
theorem dX6_nears_49 : decode cX6_nears 49 = .ok (.iadd, 1) := by decide +kernel
theorem dX6_nears_50 : decode cX6_nears 50 = .ok (.iastore, 1) := by decide +kernel
theorem dX6_nears_51 : decode cX6_nears 51 = .ok (.aload_n 0, 1) := by decide +kernel
theorem dX6_nears_52 : decode cX6_nears 52 = .ok (.getfield 46, 3) := by decide +kernel
theorem dX6_nears_55 : decode cX6_nears 55 = .ok (.iload_n 2, 1) := by decide +kernel
theorem dX6_nears_56 : decode cX6_nears 56 = .ok (.iload 4, 2) := by decide +kernel
theorem dX6_nears_58 : decode cX6_nears 58 = .ok (.iastore, 1) := by decide +kernel
theorem dX6_nears_59 : decode cX6_nears 59 = .ok (.return_, 1) := by decide +kernel
theorem dX6_nearest_0 : decode cX6_nearest 0 = .ok (.iconst (-1), 1) := by decide +kernel
theorem dX6_nearest_1 : decode cX6_nearest 1 = .ok (.istore_n 1, 1) := by decide +kernel
theorem dX6_nearest_2 : decode cX6_nearest 2 = .ok (.iconst 0, 1) := by decide +kernel
theorem dX6_nearest_3 : decode cX6_nearest 3 = .ok (.istore_n 2, 1) := by decide +kernel
theorem dX6_nearest_4 : decode cX6_nearest 4 = .ok (.iload_n 2, 1) := by decide +kernel
theorem dX6_nearest_5 : decode cX6_nearest 5 = .ok (.bipush 7, 2) := by decide +kernel
theorem dX6_nearest_7 : decode cX6_nearest 7 = .ok (.if_icmp .ge 50, 3) := by decide +kernel
theorem dX6_nearest_10 : decode cX6_nearest 10 = .ok (.aload_n 0, 1) := by decide +kernel
theorem dX6_nearest_11 : decode cX6_nearest 11 = .ok (.getfield 40, 3) := by decide +kernel
theorem dX6_nearest_14 : decode cX6_nearest 14 = .ok (.iload_n 2, 1) := by decide +kernel
theorem dX6_nearest_15 : decode cX6_nearest 15 = .ok (.iaload, 1) := by decide +kernel
theorem dX6_nearest_16 : decode cX6_nearest 16 = .ok (.ifCond .le 35, 3) := by decide +kernel
theorem dX6_nearest_19 : decode cX6_nearest 19 = .ok (.aload_n 0, 1) := by decide +kernel
theorem dX6_nearest_20 : decode cX6_nearest 20 = .ok (.getfield 43, 3) := by decide +kernel
theorem dX6_nearest_23 : decode cX6_nearest 23 = .ok (.iload_n 2, 1) := by decide +kernel
theorem dX6_nearest_24 : decode cX6_nearest 24 = .ok (.iaload, 1) := by decide +kernel
theorem dX6_nearest_25 : decode cX6_nearest 25 = .ok (.iconst (-1), 1) := by decide +kernel
theorem dX6_nearest_26 : decode cX6_nearest 26 = .ok (.if_icmp .eq 25, 3) := by decide +kernel
theorem dX6_nearest_29 : decode cX6_nearest 29 = .ok (.iload_n 1, 1) := by decide +kernel
theorem dX6_nearest_30 : decode cX6_nearest 30 = .ok (.iconst (-1), 1) := by decide +kernel
theorem dX6_nearest_31 : decode cX6_nearest 31 = .ok (.if_icmp .eq 18, 3) := by decide +kernel
theorem dX6_nearest_34 : decode cX6_nearest 34 = .ok (.aload_n 0, 1) := by decide +kernel
theorem dX6_nearest_35 : decode cX6_nearest 35 = .ok (.getfield 43, 3) := by decide +kernel
theorem dX6_nearest_38 : decode cX6_nearest 38 = .ok (.iload_n 2, 1) := by decide +kernel
theorem dX6_nearest_39 : decode cX6_nearest 39 = .ok (.iaload, 1) := by decide +kernel
theorem dX6_nearest_40 : decode cX6_nearest 40 = .ok (.aload_n 0, 1) := by decide +kernel
theorem dX6_nearest_41 : decode cX6_nearest 41 = .ok (.getfield 43, 3) := by decide +kernel
theorem dX6_nearest_44 : decode cX6_nearest 44 = .ok (.iload_n 1, 1) := by decide +kernel
theorem dX6_nearest_45 : decode cX6_nearest 45 = .ok (.iaload, 1) := by decide +kernel
theorem dX6_nearest_46 : decode cX6_nearest 46 = .ok (.if_icmp .ge 5, 3) := by decide +kernel
theorem dX6_nearest_49 : decode cX6_nearest 49 = .ok (.iload_n 2, 1) := by decide +kernel
theorem dX6_nearest_50 : decode cX6_nearest 50 = .ok (.istore_n 1, 1) := by decide +kernel
theorem dX6_nearest_51 : decode cX6_nearest 51 = .ok (.iinc 2 1, 3) := by decide +kernel
theorem dX6_nearest_54 : decode cX6_nearest 54 = .ok (.goto (-50), 3) := by decide +kernel
theorem dX6_nearest_57 : decode cX6_nearest 57 = .ok (.iload_n 1, 1) := by decide +kernel
theorem dX6_nearest_58 : decode cX6_nearest 58 = .ok (.ireturn, 1) := by decide +kernel
theorem dX6_ahead_0 : decode cX6_ahead 0 = .ok (.aload_n 0, 1) := by decide +kernel
theorem dX6_ahead_1 : decode cX6_ahead 1 = .ok (.getfield 7, 3) := by decide +kernel
theorem dX6_ahead_4 : decode cX6_ahead 4 = .ok (.iload_n 1, 1) := by decide +kernel
theorem dX6_ahead_5 : decode cX6_ahead 5 = .ok (.iconst 2, 1) := by decide +kernel
theorem dX6_ahead_6 : decode cX6_ahead 6 = .ok (.idiv, 1) := by decide +kernel
theorem dX6_ahead_7 : decode cX6_ahead 7 = .ok (.iload_n 1, 1) := by decide +kernel
theorem dX6_ahead_8 : decode cX6_ahead 8 = .ok (.iconst 2, 1) := by decide +kernel
theorem dX6_ahead_9 : decode cX6_ahead 9 = .ok (.irem, 1) := by decide +kernel
theorem dX6_ahead_10 : decode cX6_ahead 10 = .ok (.ifCond .ne 7, 3) := by decide +kernel
theorem dX6_ahead_13 : decode cX6_ahead 13 = .ok (.iconst 0, 1) := by decide +kernel
theorem dX6_ahead_14 : decode cX6_ahead 14 = .ok (.goto 4, 3) := by decide +kernel
theorem dX6_ahead_17 : decode cX6_ahead 17 = .ok (.iconst 1, 1) := by decide +kernel
theorem dX6_ahead_18 : decode cX6_ahead 18 = .ok (.invokestatic 79, 3) := by decide +kernel
theorem dX6_ahead_21 : decode cX6_ahead 21 = .ok (.iaload, 1) := by decide +kernel
theorem dX6_ahead_22 : decode cX6_ahead 22 = .ok (.ireturn, 1) := by decide +kernel
theorem dX6_staysMore_0 : decode cX6_staysMore 0 = .ok (.aload_n 0, 1) := by decide +kernel
theorem dX6_staysMore_1 : decode cX6_staysMore 1 = .ok (.getfield 40, 3) := by decide +kernel
theorem dX6_staysMore_4 : decode cX6_staysMore 4 = .ok (.iload_n 1, 1) := by decide +kernel
theorem dX6_staysMore_5 : decode cX6_staysMore 5 = .ok (.iaload, 1) := by decide +kernel
theorem dX6_staysMore_6 : decode cX6_staysMore 6 = .ok (.istore_n 2, 1) := by decide +kernel
theorem dX6_staysMore_7 : decode cX6_staysMore 7 = .ok (.iload_n 1, 1) := by decide +kernel
theorem dX6_staysMore_8 : decode cX6_staysMore 8 = .ok (.istore_n 3, 1) := by decide +kernel
theorem dX6_staysMore_9 : decode cX6_staysMore 9 = .ok (.aload_n 0, 1) := by decide +kernel
theorem dX6_staysMore_10 : decode cX6_staysMore 10 = .ok (.getfield 46, 3) := by decide +kernel
theorem dX6_staysMore_13 : decode cX6_staysMore 13 = .ok (.iload_n 3, 1) := by decide +kernel
theorem dX6_staysMore_14 : decode cX6_staysMore 14 = .ok (.iaload, 1) := by decide +kernel
theorem dX6_staysMore_15 : decode cX6_staysMore 15 = .ok (.iconst (-1), 1) := by decide +kernel
theorem dX6_staysMore_16 : decode cX6_staysMore 16 = .ok (.if_icmp .eq 72, 3) := by decide +kernel
theorem dX6_staysMore_19 : decode cX6_staysMore 19 = .ok (.aload_n 0, 1) := by decide +kernel
theorem dX6_staysMore_20 : decode cX6_staysMore 20 = .ok (.getfield 46, 3) := by decide +kernel
theorem dX6_staysMore_23 : decode cX6_staysMore 23 = .ok (.iload_n 3, 1) := by decide +kernel
theorem dX6_staysMore_24 : decode cX6_staysMore 24 = .ok (.iaload, 1) := by decide +kernel
theorem dX6_staysMore_25 : decode cX6_staysMore 25 = .ok (.iconst 2, 1) := by decide +kernel
theorem dX6_staysMore_26 : decode cX6_staysMore 26 = .ok (.idiv, 1) := by decide +kernel
theorem dX6_staysMore_27 : decode cX6_staysMore 27 = .ok (.istore 4, 2) := by decide +kernel
theorem dX6_staysMore_29 : decode cX6_staysMore 29 = .ok (.iload_n 2, 1) := by decide +kernel
theorem dX6_staysMore_30 : decode cX6_staysMore 30 = .ok (.aload_n 0, 1) := by decide +kernel
theorem dX6_staysMore_31 : decode cX6_staysMore 31 = .ok (.getfield 46, 3) := by decide +kernel
theorem dX6_staysMore_34 : decode cX6_staysMore 34 = .ok (.iload_n 3, 1) := by decide +kernel
theorem dX6_staysMore_35 : decode cX6_staysMore 35 = .ok (.iaload, 1) := by decide +kernel
theorem dX6_staysMore_36 : decode cX6_staysMore 36 = .ok (.iconst 2, 1) := by decide +kernel
theorem dX6_staysMore_37 : decode cX6_staysMore 37 = .ok (.irem, 1) := by decide +kernel
theorem dX6_staysMore_38 : decode cX6_staysMore 38 = .ok (.ifCond .ne 25, 3) := by decide +kernel
theorem dX6_staysMore_41 : decode cX6_staysMore 41 = .ok (.aload_n 0, 1) := by decide +kernel
theorem dX6_staysMore_42 : decode cX6_staysMore 42 = .ok (.getfield 7, 3) := by decide +kernel
theorem dX6_staysMore_45 : decode cX6_staysMore 45 = .ok (.iload 4, 2) := by decide +kernel
theorem dX6_staysMore_47 : decode cX6_staysMore 47 = .ok (.iconst 2, 1) := by decide +kernel
theorem dX6_staysMore_48 : decode cX6_staysMore 48 = .ok (.invokestatic 79, 3) := by decide +kernel
theorem dX6_staysMore_51 : decode cX6_staysMore 51 = .ok (.iaload, 1) := by decide +kernel
theorem dX6_staysMore_52 : decode cX6_staysMore 52 = .ok (.aload_n 0, 1) := by decide +kernel
theorem dX6_staysMore_53 : decode cX6_staysMore 53 = .ok (.getfield 37, 3) := by decide +kernel
theorem dX6_staysMore_56 : decode cX6_staysMore 56 = .ok (.iload 4, 2) := by decide +kernel
theorem dX6_staysMore_58 : decode cX6_staysMore 58 = .ok (.iaload, 1) := by decide +kernel
theorem dX6_staysMore_59 : decode cX6_staysMore 59 = .ok (.isub, 1) := by decide +kernel
theorem dX6_staysMore_60 : decode cX6_staysMore 60 = .ok (.goto 10, 3) := by decide +kernel
theorem dX6_staysMore_63 : decode cX6_staysMore 63 = .ok (.aload_n 0, 1) := by decide +kernel
theorem dX6_staysMore_64 : decode cX6_staysMore 64 = .ok (.getfield 37, 3) := by decide +kernel
theorem dX6_staysMore_67 : decode cX6_staysMore 67 = .ok (.iload 4, 2) := by decide +kernel
theorem dX6_staysMore_69 : decode cX6_staysMore 69 = .ok (.iaload, 1) := by decide +kernel
theorem dX6_staysMore_70 : decode cX6_staysMore 70 = .ok (.invokestatic 104, 3) := by decide +kernel
theorem dX6_staysMore_73 : decode cX6_staysMore 73 = .ok (.istore_n 2, 1) := by decide +kernel
theorem dX6_staysMore_74 : decode cX6_staysMore 74 = .ok (.aload_n 0, 1) := by decide +kernel
theorem dX6_staysMore_75 : decode cX6_staysMore 75 = .ok (.aload_n 0, 1) := by decide +kernel
theorem dX6_staysMore_76 : decode cX6_staysMore 76 = .ok (.getfield 46, 3) := by decide +kernel
theorem dX6_staysMore_79 : decode cX6_staysMore 79 = .ok (.iload_n 3, 1) := by decide +kernel
theorem dX6_staysMore_80 : decode cX6_staysMore 80 = .ok (.iaload, 1) := by decide +kernel
theorem dX6_staysMore_81 : decode cX6_staysMore 81 = .ok (.invokevirtual 191, 3) := by decide +kernel
theorem dX6_staysMore_84 : decode cX6_staysMore 84 = .ok (.istore_n 3, 1) := by decide +kernel
theorem dX6_staysMore_85 : decode cX6_staysMore 85 = .ok (.goto (-76), 3) := by decide +kernel
theorem dX6_staysMore_88 : decode cX6_staysMore 88 = .ok (.iload_n 2, 1) := by decide +kernel
theorem dX6_staysMore_89 : decode cX6_staysMore 89 = .ok (.aload_n 0, 1) := by decide +kernel
theorem dX6_staysMore_90 : decode cX6_staysMore 90 = .ok (.getfield 40, 3) := by decide +kernel
theorem dX6_staysMore_93 : decode cX6_staysMore 93 = .ok (.iload_n 3, 1) := by decide +kernel
theorem dX6_staysMore_94 : decode cX6_staysMore 94 = .ok (.iaload, 1) := by decide +kernel
theorem dX6_staysMore_95 : decode cX6_staysMore 95 = .ok (.ineg, 1) := by decide +kernel
theorem dX6_staysMore_96 : decode cX6_staysMore 96 = .ok (.invokestatic 104, 3) := by decide +kernel
theorem dX6_staysMore_99 : decode cX6_staysMore 99 = .ok (.istore_n 2, 1) := by decide +kernel
theorem dX6_staysMore_100 : decode cX6_staysMore 100 = .ok (.aload_n 0, 1) := by decide +kernel
theorem dX6_staysMore_101 : decode cX6_staysMore 101 = .ok (.getfield 40, 3) := by decide +kernel
theorem dX6_staysMore_104 : decode cX6_staysMore 104 = .ok (.iload_n 3, 1) := by decide +kernel
theorem dX6_staysMore_105 : decode cX6_staysMore 105 = .ok (.dup2, 1) := by decide +kernel
theorem dX6_staysMore_106 : decode cX6_staysMore 106 = .ok (.iaload, 1) := by decide +kernel
theorem dX6_staysMore_107 : decode cX6_staysMore 107 = .ok (.iload_n 2, 1) := by decide +kernel
theorem dX6_staysMore_108 : decode cX6_staysMore 108 = .ok (.iadd, 1) := by decide +kernel
theorem dX6_staysMore_109 : decode cX6_staysMore 109 = .ok (.iastore, 1) := by decide +kernel
theorem dX6_staysMore_110 : decode cX6_staysMore 110 = .ok (.aload_n 0, 1) := by decide +kernel
theorem dX6_staysMore_111 : decode cX6_staysMore 111 = .ok (.getfield 40, 3) := by decide +kernel
theorem dX6_staysMore_114 : decode cX6_staysMore 114 = .ok (.iload_n 1, 1) := by decide +kernel
theorem dX6_staysMore_115 : decode cX6_staysMore 115 = .ok (.dup2, 1) := by decide +kernel
theorem dX6_staysMore_116 : decode cX6_staysMore 116 = .ok (.iaload, 1) := by decide +kernel
theorem dX6_staysMore_117 : decode cX6_staysMore 117 = .ok (.iload_n 2, 1) := by decide +kernel
theorem dX6_staysMore_118 : decode cX6_staysMore 118 = .ok (.isub, 1) := by decide +kernel
theorem dX6_staysMore_119 : decode cX6_staysMore 119 = .ok (.iastore, 1) := by decide +kernel
theorem dX6_staysMore_120 : decode cX6_staysMore 120 = .ok (.iload_n 1, 1) := by decide +kernel
theorem dX6_staysMore_121 : decode cX6_staysMore 121 = .ok (.istore_n 3, 1) := by decide +kernel
theorem dX6_staysMore_122 : decode cX6_staysMore 122 = .ok (.aload_n 0, 1) := by decide +kernel
theorem dX6_staysMore_123 : decode cX6_staysMore 123 = .ok (.getfield 46, 3) := by decide +kernel
theorem dX6_staysMore_126 : decode cX6_staysMore 126 = .ok (.iload_n 3, 1) := by decide +kernel
theorem dX6_staysMore_127 : decode cX6_staysMore 127 = .ok (.iaload, 1) := by decide +kernel
theorem dX6_staysMore_128 : decode cX6_staysMore 128 = .ok (.iconst (-1), 1) := by decide +kernel
theorem dX6_staysMore_129 : decode cX6_staysMore 129 = .ok (.if_icmp .eq 50, 3) := by decide +kernel
theorem dX6_staysMore_132 : decode cX6_staysMore 132 = .ok (.aload_n 0, 1) := by decide +kernel
theorem dX6_staysMore_133 : decode cX6_staysMore 133 = .ok (.getfield 37, 3) := by decide +kernel
theorem dX6_staysMore_136 : decode cX6_staysMore 136 = .ok (.aload_n 0, 1) := by decide +kernel
theorem dX6_staysMore_137 : decode cX6_staysMore 137 = .ok (.getfield 46, 3) := by decide +kernel
theorem dX6_staysMore_140 : decode cX6_staysMore 140 = .ok (.iload_n 3, 1) := by decide +kernel
theorem dX6_staysMore_141 : decode cX6_staysMore 141 = .ok (.iaload, 1) := by decide +kernel
theorem dX6_staysMore_142 : decode cX6_staysMore 142 = .ok (.iconst 2, 1) := by decide +kernel
theorem dX6_staysMore_143 : decode cX6_staysMore 143 = .ok (.idiv, 1) := by decide +kernel
theorem dX6_staysMore_144 : decode cX6_staysMore 144 = .ok (.dup2, 1) := by decide +kernel
theorem dX6_staysMore_145 : decode cX6_staysMore 145 = .ok (.iaload, 1) := by decide +kernel
theorem dX6_staysMore_146 : decode cX6_staysMore 146 = .ok (.aload_n 0, 1) := by decide +kernel
theorem dX6_staysMore_147 : decode cX6_staysMore 147 = .ok (.getfield 46, 3) := by decide +kernel
theorem dX6_staysMore_150 : decode cX6_staysMore 150 = .ok (.iload_n 3, 1) := by decide +kernel
theorem dX6_staysMore_151 : decode cX6_staysMore 151 = .ok (.iaload, 1) := by decide +kernel
theorem dX6_staysMore_152 : decode cX6_staysMore 152 = .ok (.iconst 2, 1) := by decide +kernel
theorem dX6_staysMore_153 : decode cX6_staysMore 153 = .ok (.irem, 1) := by decide +kernel
theorem dX6_staysMore_154 : decode cX6_staysMore 154 = .ok (.ifCond .ne 7, 3) := by decide +kernel
theorem dX6_staysMore_157 : decode cX6_staysMore 157 = .ok (.iload_n 2, 1) := by decide +kernel
theorem dX6_staysMore_158 : decode cX6_staysMore 158 = .ok (.goto 5, 3) := by decide +kernel
theorem dX6_staysMore_161 : decode cX6_staysMore 161 = .ok (.iload_n 2, 1) := by decide +kernel
theorem dX6_staysMore_162 : decode cX6_staysMore 162 = .ok (.ineg, 1) := by decide +kernel
theorem dX6_staysMore_163 : decode cX6_staysMore 163 = .ok (.iadd, 1) := by decide +kernel
theorem dX6_staysMore_164 : decode cX6_staysMore 164 = .ok (.iastore, 1) := by decide +kernel
theorem dX6_staysMore_165 : decode cX6_staysMore 165 = .ok (.aload_n 0, 1) := by decide +kernel
theorem dX6_staysMore_166 : decode cX6_staysMore 166 = .ok (.aload_n 0, 1) := by decide +kernel
theorem dX6_staysMore_167 : decode cX6_staysMore 167 = .ok (.getfield 46, 3) := by decide +kernel
theorem dX6_staysMore_170 : decode cX6_staysMore 170 = .ok (.iload_n 3, 1) := by decide +kernel
theorem dX6_staysMore_171 : decode cX6_staysMore 171 = .ok (.iaload, 1) := by decide +kernel
theorem dX6_staysMore_172 : decode cX6_staysMore 172 = .ok (.invokevirtual 191, 3) := by decide +kernel
theorem dX6_staysMore_175 : decode cX6_staysMore 175 = .ok (.istore_n 3, 1) := by decide +kernel
theorem dX6_staysMore_176 : decode cX6_staysMore 176 = .ok (.goto (-54), 3) := by decide +kernel
theorem dX6_staysMore_179 : decode cX6_staysMore 179 = .ok (.return_, 1) := by decide +kernel
theorem dX6_leastOf_0 : decode cX6_leastOf 0 = .ok (.iconst 0, 1) := by decide +kernel
theorem dX6_leastOf_1 : decode cX6_leastOf 1 = .ok (.istore_n 1, 1) := by decide +kernel
theorem dX6_leastOf_2 : decode cX6_leastOf 2 = .ok (.iload_n 1, 1) := by decide +kernel
theorem dX6_leastOf_3 : decode cX6_leastOf 3 = .ok (.bipush 7, 2) := by decide +kernel
theorem dX6_leastOf_5 : decode cX6_leastOf 5 = .ok (.if_icmp .ge 16, 3) := by decide +kernel
theorem dX6_leastOf_8 : decode cX6_leastOf 8 = .ok (.aload_n 0, 1) := by decide +kernel
theorem dX6_leastOf_9 : decode cX6_leastOf 9 = .ok (.getfield 40, 3) := by decide +kernel
theorem dX6_leastOf_12 : decode cX6_leastOf 12 = .ok (.iload_n 1, 1) := by decide +kernel
theorem dX6_leastOf_13 : decode cX6_leastOf 13 = .ok (.iconst 0, 1) := by decide +kernel
theorem dX6_leastOf_14 : decode cX6_leastOf 14 = .ok (.iastore, 1) := by decide +kernel
theorem dX6_leastOf_15 : decode cX6_leastOf 15 = .ok (.iinc 1 1, 3) := by decide +kernel
theorem dX6_leastOf_18 : decode cX6_leastOf 18 = .ok (.goto (-16), 3) := by decide +kernel
theorem dX6_leastOf_21 : decode cX6_leastOf 21 = .ok (.iconst 0, 1) := by decide +kernel
theorem dX6_leastOf_22 : decode cX6_leastOf 22 = .ok (.istore_n 1, 1) := by decide +kernel
theorem dX6_leastOf_23 : decode cX6_leastOf 23 = .ok (.iconst 0, 1) := by decide +kernel
theorem dX6_leastOf_24 : decode cX6_leastOf 24 = .ok (.istore_n 2, 1) := by decide +kernel
theorem dX6_leastOf_25 : decode cX6_leastOf 25 = .ok (.iload_n 2, 1) := by decide +kernel
theorem dX6_leastOf_26 : decode cX6_leastOf 26 = .ok (.aload_n 0, 1) := by decide +kernel
theorem dX6_leastOf_27 : decode cX6_leastOf 27 = .ok (.getfield 7, 3) := by decide +kernel
theorem dX6_leastOf_30 : decode cX6_leastOf 30 = .ok (.iconst 1, 1) := by decide +kernel
theorem dX6_leastOf_31 : decode cX6_leastOf 31 = .ok (.iaload, 1) := by decide +kernel
theorem dX6_leastOf_32 : decode cX6_leastOf 32 = .ok (.if_icmp .ge 139, 3) := by decide +kernel
theorem dX6_leastOf_35 : decode cX6_leastOf 35 = .ok (.aload_n 0, 1) := by decide +kernel
theorem dX6_leastOf_36 : decode cX6_leastOf 36 = .ok (.getfield 37, 3) := by decide +kernel
theorem dX6_leastOf_39 : decode cX6_leastOf 39 = .ok (.iload_n 2, 1) := by decide +kernel
theorem dX6_leastOf_40 : decode cX6_leastOf 40 = .ok (.iconst 0, 1) := by decide +kernel
theorem dX6_leastOf_41 : decode cX6_leastOf 41 = .ok (.iastore, 1) := by decide +kernel
theorem dX6_leastOf_42 : decode cX6_leastOf 42 = .ok (.aload_n 0, 1) := by decide +kernel
theorem dX6_leastOf_43 : decode cX6_leastOf 43 = .ok (.getfield 7, 3) := by decide +kernel
theorem dX6_leastOf_46 : decode cX6_leastOf 46 = .ok (.iload_n 2, 1) := by decide +kernel
theorem dX6_leastOf_47 : decode cX6_leastOf 47 = .ok (.iconst 4, 1) := by decide +kernel
theorem dX6_leastOf_48 : decode cX6_leastOf 48 = .ok (.invokestatic 79, 3) := by decide +kernel
theorem dX6_leastOf_51 : decode cX6_leastOf 51 = .ok (.iaload, 1) := by decide +kernel
theorem dX6_leastOf_52 : decode cX6_leastOf 52 = .ok (.ifCond .ne 7, 3) := by decide +kernel
theorem dX6_leastOf_55 : decode cX6_leastOf 55 = .ok (.iconst 1, 1) := by decide +kernel
theorem dX6_leastOf_56 : decode cX6_leastOf 56 = .ok (.goto 4, 3) := by decide +kernel
theorem dX6_leastOf_59 : decode cX6_leastOf 59 = .ok (.iconst 0, 1) := by decide +kernel
theorem dX6_leastOf_60 : decode cX6_leastOf 60 = .ok (.istore_n 3, 1) := by decide +kernel
theorem dX6_leastOf_61 : decode cX6_leastOf 61 = .ok (.iload_n 1, 1) := by decide +kernel
theorem dX6_leastOf_62 : decode cX6_leastOf 62 = .ok (.iload_n 3, 1) := by decide +kernel
theorem dX6_leastOf_63 : decode cX6_leastOf 63 = .ok (.ifCond .eq 7, 3) := by decide +kernel
theorem dX6_leastOf_66 : decode cX6_leastOf 66 = .ok (.iconst 0, 1) := by decide +kernel
theorem dX6_leastOf_67 : decode cX6_leastOf 67 = .ok (.goto 24, 3) := by decide +kernel
theorem dX6_leastOf_70 : decode cX6_leastOf 70 = .ok (.aload_n 0, 1) := by decide +kernel
theorem dX6_leastOf_71 : decode cX6_leastOf 71 = .ok (.getfield 7, 3) := by decide +kernel
theorem dX6_leastOf_74 : decode cX6_leastOf 74 = .ok (.iload_n 2, 1) := by decide +kernel
theorem dX6_leastOf_75 : decode cX6_leastOf 75 = .ok (.iconst 2, 1) := by decide +kernel
theorem dX6_leastOf_76 : decode cX6_leastOf 76 = .ok (.invokestatic 79, 3) := by decide +kernel
theorem dX6_leastOf_79 : decode cX6_leastOf 79 = .ok (.iaload, 1) := by decide +kernel
theorem dX6_leastOf_80 : decode cX6_leastOf 80 = .ok (.aload_n 0, 1) := by decide +kernel
theorem dX6_leastOf_81 : decode cX6_leastOf 81 = .ok (.getfield 7, 3) := by decide +kernel
theorem dX6_leastOf_84 : decode cX6_leastOf 84 = .ok (.iload_n 2, 1) := by decide +kernel
theorem dX6_leastOf_85 : decode cX6_leastOf 85 = .ok (.iconst 3, 1) := by decide +kernel
theorem dX6_leastOf_86 : decode cX6_leastOf 86 = .ok (.invokestatic 79, 3) := by decide +kernel
theorem dX6_leastOf_89 : decode cX6_leastOf 89 = .ok (.iaload, 1) := by decide +kernel
theorem dX6_leastOf_90 : decode cX6_leastOf 90 = .ok (.imul, 1) := by decide +kernel
theorem dX6_leastOf_91 : decode cX6_leastOf 91 = .ok (.iadd, 1) := by decide +kernel
theorem dX6_leastOf_92 : decode cX6_leastOf 92 = .ok (.istore_n 1, 1) := by decide +kernel
theorem dX6_leastOf_93 : decode cX6_leastOf 93 = .ok (.aload_n 0, 1) := by decide +kernel
theorem dX6_leastOf_94 : decode cX6_leastOf 94 = .ok (.getfield 40, 3) := by decide +kernel
theorem dX6_leastOf_97 : decode cX6_leastOf 97 = .ok (.aload_n 0, 1) := by decide +kernel
theorem dX6_leastOf_98 : decode cX6_leastOf 98 = .ok (.getfield 7, 3) := by decide +kernel
theorem dX6_leastOf_101 : decode cX6_leastOf 101 = .ok (.iload_n 2, 1) := by decide +kernel
theorem dX6_leastOf_102 : decode cX6_leastOf 102 = .ok (.iconst 1, 1) := by decide +kernel
theorem dX6_leastOf_103 : decode cX6_leastOf 103 = .ok (.invokestatic 79, 3) := by decide +kernel
theorem dX6_leastOf_106 : decode cX6_leastOf 106 = .ok (.iaload, 1) := by decide +kernel
theorem dX6_leastOf_107 : decode cX6_leastOf 107 = .ok (.dup2, 1) := by decide +kernel
theorem dX6_leastOf_108 : decode cX6_leastOf 108 = .ok (.iaload, 1) := by decide +kernel
theorem dX6_leastOf_109 : decode cX6_leastOf 109 = .ok (.iload_n 3, 1) := by decide +kernel
theorem dX6_leastOf_110 : decode cX6_leastOf 110 = .ok (.ifCond .eq 16, 3) := by decide +kernel
theorem dX6_leastOf_113 : decode cX6_leastOf 113 = .ok (.aload_n 0, 1) := by decide +kernel
theorem dX6_leastOf_114 : decode cX6_leastOf 114 = .ok (.getfield 7, 3) := by decide +kernel
theorem dX6_leastOf_117 : decode cX6_leastOf 117 = .ok (.iload_n 2, 1) := by decide +kernel
theorem dX6_leastOf_118 : decode cX6_leastOf 118 = .ok (.iconst 2, 1) := by decide +kernel
theorem dX6_leastOf_119 : decode cX6_leastOf 119 = .ok (.invokestatic 79, 3) := by decide +kernel
theorem dX6_leastOf_122 : decode cX6_leastOf 122 = .ok (.iaload, 1) := by decide +kernel
theorem dX6_leastOf_123 : decode cX6_leastOf 123 = .ok (.goto 4, 3) := by decide +kernel
theorem dX6_leastOf_126 : decode cX6_leastOf 126 = .ok (.iconst 0, 1) := by decide +kernel
theorem dX6_leastOf_127 : decode cX6_leastOf 127 = .ok (.iadd, 1) := by decide +kernel
theorem dX6_leastOf_128 : decode cX6_leastOf 128 = .ok (.iastore, 1) := by decide +kernel
theorem dX6_leastOf_129 : decode cX6_leastOf 129 = .ok (.aload_n 0, 1) := by decide +kernel
theorem dX6_leastOf_130 : decode cX6_leastOf 130 = .ok (.getfield 40, 3) := by decide +kernel
theorem dX6_leastOf_133 : decode cX6_leastOf 133 = .ok (.aload_n 0, 1) := by decide +kernel
theorem dX6_leastOf_134 : decode cX6_leastOf 134 = .ok (.getfield 7, 3) := by decide +kernel
theorem dX6_leastOf_137 : decode cX6_leastOf 137 = .ok (.iload_n 2, 1) := by decide +kernel
theorem dX6_leastOf_138 : decode cX6_leastOf 138 = .ok (.iconst 0, 1) := by decide +kernel
theorem dX6_leastOf_139 : decode cX6_leastOf 139 = .ok (.invokestatic 79, 3) := by decide +kernel
theorem dX6_leastOf_142 : decode cX6_leastOf 142 = .ok (.iaload, 1) := by decide +kernel
theorem dX6_leastOf_143 : decode cX6_leastOf 143 = .ok (.dup2, 1) := by decide +kernel
theorem dX6_leastOf_144 : decode cX6_leastOf 144 = .ok (.iaload, 1) := by decide +kernel
theorem dX6_leastOf_145 : decode cX6_leastOf 145 = .ok (.iload_n 3, 1) := by decide +kernel
theorem dX6_leastOf_146 : decode cX6_leastOf 146 = .ok (.ifCond .eq 16, 3) := by decide +kernel
theorem dX6_leastOf_149 : decode cX6_leastOf 149 = .ok (.aload_n 0, 1) := by decide +kernel
theorem dX6_leastOf_150 : decode cX6_leastOf 150 = .ok (.getfield 7, 3) := by decide +kernel
theorem dX6_leastOf_153 : decode cX6_leastOf 153 = .ok (.iload_n 2, 1) := by decide +kernel
theorem dX6_leastOf_154 : decode cX6_leastOf 154 = .ok (.iconst 2, 1) := by decide +kernel
theorem dX6_leastOf_155 : decode cX6_leastOf 155 = .ok (.invokestatic 79, 3) := by decide +kernel
theorem dX6_leastOf_158 : decode cX6_leastOf 158 = .ok (.iaload, 1) := by decide +kernel
theorem dX6_leastOf_159 : decode cX6_leastOf 159 = .ok (.goto 4, 3) := by decide +kernel
theorem dX6_leastOf_162 : decode cX6_leastOf 162 = .ok (.iconst 0, 1) := by decide +kernel
theorem dX6_leastOf_163 : decode cX6_leastOf 163 = .ok (.isub, 1) := by decide +kernel
theorem dX6_leastOf_164 : decode cX6_leastOf 164 = .ok (.iastore, 1) := by decide +kernel
theorem dX6_leastOf_165 : decode cX6_leastOf 165 = .ok (.iinc 2 1, 3) := by decide +kernel
theorem dX6_leastOf_168 : decode cX6_leastOf 168 = .ok (.goto (-143), 3) := by decide +kernel
theorem dX6_leastOf_171 : decode cX6_leastOf 171 = .ok (.aload_n 0, 1) := by decide +kernel
theorem dX6_leastOf_172 : decode cX6_leastOf 172 = .ok (.invokevirtual 194, 3) := by decide +kernel
theorem dX6_leastOf_175 : decode cX6_leastOf 175 = .ok (.aload_n 0, 1) := by decide +kernel
theorem dX6_leastOf_176 : decode cX6_leastOf 176 = .ok (.invokevirtual 197, 3) := by decide +kernel
theorem dX6_leastOf_179 : decode cX6_leastOf 179 = .ok (.istore_n 2, 1) := by decide +kernel
theorem dX6_leastOf_180 : decode cX6_leastOf 180 = .ok (.iload_n 2, 1) := by decide +kernel
theorem dX6_leastOf_181 : decode cX6_leastOf 181 = .ok (.iconst (-1), 1) := by decide +kernel
theorem dX6_leastOf_182 : decode cX6_leastOf 182 = .ok (.if_icmp .eq 20, 3) := by decide +kernel
theorem dX6_leastOf_185 : decode cX6_leastOf 185 = .ok (.aload_n 0, 1) := by decide +kernel
theorem dX6_leastOf_186 : decode cX6_leastOf 186 = .ok (.iload_n 2, 1) := by decide +kernel
theorem dX6_leastOf_187 : decode cX6_leastOf 187 = .ok (.invokevirtual 200, 3) := by decide +kernel
theorem dX6_leastOf_190 : decode cX6_leastOf 190 = .ok (.aload_n 0, 1) := by decide +kernel
theorem dX6_leastOf_191 : decode cX6_leastOf 191 = .ok (.invokevirtual 194, 3) := by decide +kernel
theorem dX6_leastOf_194 : decode cX6_leastOf 194 = .ok (.aload_n 0, 1) := by decide +kernel
theorem dX6_leastOf_195 : decode cX6_leastOf 195 = .ok (.invokevirtual 197, 3) := by decide +kernel
theorem dX6_leastOf_198 : decode cX6_leastOf 198 = .ok (.istore_n 2, 1) := by decide +kernel
theorem dX6_leastOf_199 : decode cX6_leastOf 199 = .ok (.goto (-19), 3) := by decide +kernel
theorem dX6_leastOf_202 : decode cX6_leastOf 202 = .ok (.iconst 0, 1) := by decide +kernel
theorem dX6_leastOf_203 : decode cX6_leastOf 203 = .ok (.istore_n 2, 1) := by decide +kernel
theorem dX6_leastOf_204 : decode cX6_leastOf 204 = .ok (.iload_n 2, 1) := by decide +kernel
theorem dX6_leastOf_205 : decode cX6_leastOf 205 = .ok (.aload_n 0, 1) := by decide +kernel
theorem dX6_leastOf_206 : decode cX6_leastOf 206 = .ok (.getfield 7, 3) := by decide +kernel
theorem dX6_leastOf_209 : decode cX6_leastOf 209 = .ok (.iconst 1, 1) := by decide +kernel
theorem dX6_leastOf_210 : decode cX6_leastOf 210 = .ok (.iaload, 1) := by decide +kernel
theorem dX6_leastOf_211 : decode cX6_leastOf 211 = .ok (.if_icmp .ge 29, 3) := by decide +kernel
theorem dX6_leastOf_214 : decode cX6_leastOf 214 = .ok (.iload_n 1, 1) := by decide +kernel
theorem dX6_leastOf_215 : decode cX6_leastOf 215 = .ok (.aload_n 0, 1) := by decide +kernel
theorem dX6_leastOf_216 : decode cX6_leastOf 216 = .ok (.getfield 37, 3) := by decide +kernel
theorem dX6_leastOf_219 : decode cX6_leastOf 219 = .ok (.iload_n 2, 1) := by decide +kernel
theorem dX6_leastOf_220 : decode cX6_leastOf 220 = .ok (.iaload, 1) := by decide +kernel
theorem dX6_leastOf_221 : decode cX6_leastOf 221 = .ok (.aload_n 0, 1) := by decide +kernel
theorem dX6_leastOf_222 : decode cX6_leastOf 222 = .ok (.getfield 7, 3) := by decide +kernel
theorem dX6_leastOf_225 : decode cX6_leastOf 225 = .ok (.iload_n 2, 1) := by decide +kernel
theorem dX6_leastOf_226 : decode cX6_leastOf 226 = .ok (.iconst 3, 1) := by decide +kernel
theorem dX6_leastOf_227 : decode cX6_leastOf 227 = .ok (.invokestatic 79, 3) := by decide +kernel
theorem dX6_leastOf_230 : decode cX6_leastOf 230 = .ok (.iaload, 1) := by decide +kernel
theorem dX6_leastOf_231 : decode cX6_leastOf 231 = .ok (.imul, 1) := by decide +kernel
theorem dX6_leastOf_232 : decode cX6_leastOf 232 = .ok (.iadd, 1) := by decide +kernel
theorem dX6_leastOf_233 : decode cX6_leastOf 233 = .ok (.istore_n 1, 1) := by decide +kernel
theorem dX6_leastOf_234 : decode cX6_leastOf 234 = .ok (.iinc 2 1, 3) := by decide +kernel
theorem dX6_leastOf_237 : decode cX6_leastOf 237 = .ok (.goto (-33), 3) := by decide +kernel
theorem dX6_leastOf_240 : decode cX6_leastOf 240 = .ok (.iload_n 1, 1) := by decide +kernel
theorem dX6_leastOf_241 : decode cX6_leastOf 241 = .ok (.ireturn, 1) := by decide +kernel
theorem dX6_leastCost_0 : decode cX6_leastCost 0 = .ok (.aload_n 0, 1) := by decide +kernel
theorem dX6_leastCost_1 : decode cX6_leastCost 1 = .ok (.iconst 0, 1) := by decide +kernel
theorem dX6_leastCost_2 : decode cX6_leastCost 2 = .ok (.iconst 0, 1) := by decide +kernel
theorem dX6_leastCost_3 : decode cX6_leastCost 3 = .ok (.iconst 0, 1) := by decide +kernel
theorem dX6_leastCost_4 : decode cX6_leastCost 4 = .ok (.invokevirtual 146, 3) := by decide +kernel
theorem dX6_leastCost_7 : decode cX6_leastCost 7 = .ok (.pop, 1) := by decide +kernel
theorem dX6_leastCost_8 : decode cX6_leastCost 8 = .ok (.aload_n 0, 1) := by decide +kernel
theorem dX6_leastCost_9 : decode cX6_leastCost 9 = .ok (.invokevirtual 204, 3) := by decide +kernel
theorem dX6_leastCost_12 : decode cX6_leastCost 12 = .ok (.ireturn, 1) := by decide +kernel
theorem dX6_ringsWithout_0 : decode cX6_ringsWithout 0 = .ok (.aload_n 0, 1) := by decide +kernel
theorem dX6_ringsWithout_1 : decode cX6_ringsWithout 1 = .ok (.aload_n 0, 1) := by decide +kernel
theorem dX6_ringsWithout_2 : decode cX6_ringsWithout 2 = .ok (.iload_n 1, 1) := by decide +kernel
theorem dX6_ringsWithout_3 : decode cX6_ringsWithout 3 = .ok (.invokevirtual 160, 3) := by decide +kernel
theorem dX6_ringsWithout_6 : decode cX6_ringsWithout 6 = .ok (.ifCond .ne 7, 3) := by decide +kernel
theorem dX6_ringsWithout_9 : decode cX6_ringsWithout 9 = .ok (.iconst 1, 1) := by decide +kernel
theorem dX6_ringsWithout_10 : decode cX6_ringsWithout 10 = .ok (.goto 4, 3) := by decide +kernel
theorem dX6_ringsWithout_13 : decode cX6_ringsWithout 13 = .ok (.iconst 0, 1) := by decide +kernel
theorem dX6_ringsWithout_14 : decode cX6_ringsWithout 14 = .ok (.iconst 0, 1) := by decide +kernel
theorem dX6_ringsWithout_15 : decode cX6_ringsWithout 15 = .ok (.iconst 0, 1) := by decide +kernel
theorem dX6_ringsWithout_16 : decode cX6_ringsWithout 16 = .ok (.invokevirtual 146, 3) := by decide +kernel
theorem dX6_ringsWithout_19 : decode cX6_ringsWithout 19 = .ok (.ifCond .eq 15, 3) := by decide +kernel
theorem dX6_ringsWithout_22 : decode cX6_ringsWithout 22 = .ok (.aload_n 0, 1) := by decide +kernel
theorem dX6_ringsWithout_23 : decode cX6_ringsWithout 23 = .ok (.aload_n 0, 1) := by decide +kernel
theorem dX6_ringsWithout_24 : decode cX6_ringsWithout 24 = .ok (.getfield 7, 3) := by decide +kernel
theorem dX6_ringsWithout_27 : decode cX6_ringsWithout 27 = .ok (.iload_n 1, 1) := by decide +kernel
theorem dX6_ringsWithout_28 : decode cX6_ringsWithout 28 = .ok (.invokevirtual 166, 3) := by decide +kernel
theorem dX6_ringsWithout_31 : decode cX6_ringsWithout 31 = .ok (.goto 4, 3) := by decide +kernel
theorem dX6_ringsWithout_34 : decode cX6_ringsWithout 34 = .ok (.iconst 0, 1) := by decide +kernel
theorem dX6_ringsWithout_35 : decode cX6_ringsWithout 35 = .ok (.ireturn, 1) := by decide +kernel
theorem dX6_keyPromise_0 : decode cX6_keyPromise 0 = .ok (.aload_n 0, 1) := by decide +kernel
theorem dX6_keyPromise_1 : decode cX6_keyPromise 1 = .ok (.iconst 0, 1) := by decide +kernel
theorem dX6_keyPromise_2 : decode cX6_keyPromise 2 = .ok (.iconst 0, 1) := by decide +kernel
theorem dX6_keyPromise_3 : decode cX6_keyPromise 3 = .ok (.iconst 0, 1) := by decide +kernel
theorem dX6_keyPromise_4 : decode cX6_keyPromise 4 = .ok (.invokevirtual 146, 3) := by decide +kernel
theorem dX6_keyPromise_7 : decode cX6_keyPromise 7 = .ok (.pop, 1) := by decide +kernel
theorem dX6_keyPromise_8 : decode cX6_keyPromise 8 = .ok (.iconst (-1), 1) := by decide +kernel
theorem dX6_keyPromise_9 : decode cX6_keyPromise 9 = .ok (.istore_n 1, 1) := by decide +kernel
theorem dX6_keyPromise_10 : decode cX6_keyPromise 10 = .ok (.iconst 0, 1) := by decide +kernel
theorem dX6_keyPromise_11 : decode cX6_keyPromise 11 = .ok (.istore_n 2, 1) := by decide +kernel
theorem dX6_keyPromise_12 : decode cX6_keyPromise 12 = .ok (.iconst 0, 1) := by decide +kernel
theorem dX6_keyPromise_13 : decode cX6_keyPromise 13 = .ok (.istore_n 3, 1) := by decide +kernel
theorem dX6_keyPromise_14 : decode cX6_keyPromise 14 = .ok (.iload_n 3, 1) := by decide +kernel
theorem dX6_keyPromise_15 : decode cX6_keyPromise 15 = .ok (.aload_n 0, 1) := by decide +kernel
theorem dX6_keyPromise_16 : decode cX6_keyPromise 16 = .ok (.getfield 7, 3) := by decide +kernel
theorem dX6_keyPromise_19 : decode cX6_keyPromise 19 = .ok (.iconst 1, 1) := by decide +kernel
theorem dX6_keyPromise_20 : decode cX6_keyPromise 20 = .ok (.iaload, 1) := by decide +kernel
theorem dX6_keyPromise_21 : decode cX6_keyPromise 21 = .ok (.if_icmp .ge 69, 3) := by decide +kernel
theorem dX6_keyPromise_24 : decode cX6_keyPromise 24 = .ok (.aload_n 0, 1) := by decide +kernel
theorem dX6_keyPromise_25 : decode cX6_keyPromise 25 = .ok (.iload_n 3, 1) := by decide +kernel
theorem dX6_keyPromise_26 : decode cX6_keyPromise 26 = .ok (.invokevirtual 163, 3) := by decide +kernel
theorem dX6_keyPromise_29 : decode cX6_keyPromise 29 = .ok (.ifCond .eq 55, 3) := by decide +kernel
theorem dX6_keyPromise_32 : decode cX6_keyPromise 32 = .ok (.aload_n 0, 1) := by decide +kernel
theorem dX6_keyPromise_33 : decode cX6_keyPromise 33 = .ok (.aload_n 0, 1) := by decide +kernel
theorem dX6_keyPromise_34 : decode cX6_keyPromise 34 = .ok (.getfield 7, 3) := by decide +kernel
theorem dX6_keyPromise_37 : decode cX6_keyPromise 37 = .ok (.iload_n 3, 1) := by decide +kernel
theorem dX6_keyPromise_38 : decode cX6_keyPromise 38 = .ok (.invokevirtual 166, 3) := by decide +kernel
theorem dX6_keyPromise_41 : decode cX6_keyPromise 41 = .ok (.istore 4, 2) := by decide +kernel
theorem dX6_keyPromise_43 : decode cX6_keyPromise 43 = .ok (.iload_n 1, 1) := by decide +kernel
theorem dX6_keyPromise_44 : decode cX6_keyPromise 44 = .ok (.iconst (-1), 1) := by decide +kernel
theorem dX6_keyPromise_45 : decode cX6_keyPromise 45 = .ok (.if_icmp .eq 9, 3) := by decide +kernel
theorem dX6_keyPromise_48 : decode cX6_keyPromise 48 = .ok (.iload 4, 2) := by decide +kernel
theorem dX6_keyPromise_50 : decode cX6_keyPromise 50 = .ok (.iload_n 2, 1) := by decide +kernel
theorem dX6_keyPromise_51 : decode cX6_keyPromise 51 = .ok (.if_icmp .ge 7, 3) := by decide +kernel
theorem dX6_keyPromise_54 : decode cX6_keyPromise 54 = .ok (.iconst 1, 1) := by decide +kernel
theorem dX6_keyPromise_55 : decode cX6_keyPromise 55 = .ok (.goto 4, 3) := by decide +kernel
theorem dX6_keyPromise_58 : decode cX6_keyPromise 58 = .ok (.iconst 0, 1) := by decide +kernel
theorem dX6_keyPromise_59 : decode cX6_keyPromise 59 = .ok (.istore 5, 2) := by decide +kernel
theorem dX6_keyPromise_61 : decode cX6_keyPromise 61 = .ok (.iload 5, 2) := by decide +kernel
theorem dX6_keyPromise_63 : decode cX6_keyPromise 63 = .ok (.ifCond .eq 8, 3) := by decide +kernel
theorem dX6_keyPromise_66 : decode cX6_keyPromise 66 = .ok (.iload 4, 2) := by decide +kernel
theorem dX6_keyPromise_68 : decode cX6_keyPromise 68 = .ok (.goto 4, 3) := by decide +kernel
theorem dX6_keyPromise_71 : decode cX6_keyPromise 71 = .ok (.iload_n 2, 1) := by decide +kernel
theorem dX6_keyPromise_72 : decode cX6_keyPromise 72 = .ok (.istore_n 2, 1) := by decide +kernel
theorem dX6_keyPromise_73 : decode cX6_keyPromise 73 = .ok (.iload 5, 2) := by decide +kernel
theorem dX6_keyPromise_75 : decode cX6_keyPromise 75 = .ok (.ifCond .eq 7, 3) := by decide +kernel
theorem dX6_keyPromise_78 : decode cX6_keyPromise 78 = .ok (.iload_n 3, 1) := by decide +kernel
theorem dX6_keyPromise_79 : decode cX6_keyPromise 79 = .ok (.goto 4, 3) := by decide +kernel
theorem dX6_keyPromise_82 : decode cX6_keyPromise 82 = .ok (.iload_n 1, 1) := by decide +kernel
theorem dX6_keyPromise_83 : decode cX6_keyPromise 83 = .ok (.istore_n 1, 1) := by decide +kernel
theorem dX6_keyPromise_84 : decode cX6_keyPromise 84 = .ok (.iinc 3 1, 3) := by decide +kernel
theorem dX6_keyPromise_87 : decode cX6_keyPromise 87 = .ok (.goto (-73), 3) := by decide +kernel
theorem dX6_keyPromise_90 : decode cX6_keyPromise 90 = .ok (.iload_n 1, 1) := by decide +kernel
theorem dX6_keyPromise_91 : decode cX6_keyPromise 91 = .ok (.ireturn, 1) := by decide +kernel
theorem dX6_mutual_0 : decode cX6_mutual 0 = .ok (.aload_n 0, 1) := by decide +kernel
theorem dX6_mutual_1 : decode cX6_mutual 1 = .ok (.aload_n 0, 1) := by decide +kernel
theorem dX6_mutual_2 : decode cX6_mutual 2 = .ok (.iload_n 1, 1) := by decide +kernel
theorem dX6_mutual_3 : decode cX6_mutual 3 = .ok (.invokevirtual 153, 3) := by decide +kernel
theorem dX6_mutual_6 : decode cX6_mutual 6 = .ok (.ifCond .ne 7, 3) := by decide +kernel
theorem dX6_mutual_9 : decode cX6_mutual 9 = .ok (.iconst 1, 1) := by decide +kernel
theorem dX6_mutual_10 : decode cX6_mutual 10 = .ok (.goto 4, 3) := by decide +kernel
theorem dX6_mutual_13 : decode cX6_mutual 13 = .ok (.iconst 0, 1) := by decide +kernel
theorem dX6_mutual_14 : decode cX6_mutual 14 = .ok (.iconst 0, 1) := by decide +kernel
theorem dX6_mutual_15 : decode cX6_mutual 15 = .ok (.iconst 0, 1) := by decide +kernel
theorem dX6_mutual_16 : decode cX6_mutual 16 = .ok (.invokevirtual 146, 3) := by decide +kernel
theorem dX6_mutual_19 : decode cX6_mutual 19 = .ok (.ifCond .ne 5, 3) := by decide +kernel
theorem dX6_mutual_22 : decode cX6_mutual 22 = .ok (.iconst 0, 1) := by decide +kernel
theorem dX6_mutual_23 : decode cX6_mutual 23 = .ok (.ireturn, 1) := by decide +kernel
theorem dX6_mutual_24 : decode cX6_mutual 24 = .ok (.aload_n 0, 1) := by decide +kernel
theorem dX6_mutual_25 : decode cX6_mutual 25 = .ok (.aload_n 0, 1) := by decide +kernel
theorem dX6_mutual_26 : decode cX6_mutual 26 = .ok (.getfield 7, 3) := by decide +kernel
theorem dX6_mutual_29 : decode cX6_mutual 29 = .ok (.iconst (-1), 1) := by decide +kernel
theorem dX6_mutual_30 : decode cX6_mutual 30 = .ok (.invokevirtual 96, 3) := by decide +kernel
theorem dX6_mutual_33 : decode cX6_mutual 33 = .ok (.iconst 0, 1) := by decide +kernel
theorem dX6_mutual_34 : decode cX6_mutual 34 = .ok (.istore_n 2, 1) := by decide +kernel
theorem dX6_mutual_35 : decode cX6_mutual 35 = .ok (.iconst 0, 1) := by decide +kernel
theorem dX6_mutual_36 : decode cX6_mutual 36 = .ok (.istore_n 3, 1) := by decide +kernel
theorem dX6_mutual_37 : decode cX6_mutual 37 = .ok (.iload_n 3, 1) := by decide +kernel
theorem dX6_mutual_38 : decode cX6_mutual 38 = .ok (.aload_n 0, 1) := by decide +kernel
theorem dX6_mutual_39 : decode cX6_mutual 39 = .ok (.getfield 7, 3) := by decide +kernel
theorem dX6_mutual_42 : decode cX6_mutual 42 = .ok (.iconst 0, 1) := by decide +kernel
theorem dX6_mutual_43 : decode cX6_mutual 43 = .ok (.iaload, 1) := by decide +kernel
theorem dX6_mutual_44 : decode cX6_mutual 44 = .ok (.if_icmp .ge 46, 3) := by decide +kernel
theorem dX6_mutual_47 : decode cX6_mutual 47 = .ok (.iload_n 2, 1) := by decide +kernel
theorem dX6_mutual_48 : decode cX6_mutual 48 = .ok (.iload_n 3, 1) := by decide +kernel
theorem dX6_mutual_49 : decode cX6_mutual 49 = .ok (.iload_n 1, 1) := by decide +kernel
theorem dX6_mutual_50 : decode cX6_mutual 50 = .ok (.if_icmp .ne 7, 3) := by decide +kernel
theorem dX6_mutual_53 : decode cX6_mutual 53 = .ok (.iconst 0, 1) := by decide +kernel
theorem dX6_mutual_54 : decode cX6_mutual 54 = .ok (.goto 28, 3) := by decide +kernel
theorem dX6_mutual_57 : decode cX6_mutual 57 = .ok (.aload_n 0, 1) := by decide +kernel
theorem dX6_mutual_58 : decode cX6_mutual 58 = .ok (.getfield 22, 3) := by decide +kernel
theorem dX6_mutual_61 : decode cX6_mutual 61 = .ok (.bipush 7, 2) := by decide +kernel
theorem dX6_mutual_63 : decode cX6_mutual 63 = .ok (.iload_n 1, 1) := by decide +kernel
theorem dX6_mutual_64 : decode cX6_mutual 64 = .ok (.imul, 1) := by decide +kernel
theorem dX6_mutual_65 : decode cX6_mutual 65 = .ok (.iload_n 3, 1) := by decide +kernel
theorem dX6_mutual_66 : decode cX6_mutual 66 = .ok (.iadd, 1) := by decide +kernel
theorem dX6_mutual_67 : decode cX6_mutual 67 = .ok (.iaload, 1) := by decide +kernel
theorem dX6_mutual_68 : decode cX6_mutual 68 = .ok (.aload_n 0, 1) := by decide +kernel
theorem dX6_mutual_69 : decode cX6_mutual 69 = .ok (.getfield 22, 3) := by decide +kernel
theorem dX6_mutual_72 : decode cX6_mutual 72 = .ok (.bipush 7, 2) := by decide +kernel
theorem dX6_mutual_74 : decode cX6_mutual 74 = .ok (.iload_n 3, 1) := by decide +kernel
theorem dX6_mutual_75 : decode cX6_mutual 75 = .ok (.imul, 1) := by decide +kernel
theorem dX6_mutual_76 : decode cX6_mutual 76 = .ok (.iload_n 1, 1) := by decide +kernel
theorem dX6_mutual_77 : decode cX6_mutual 77 = .ok (.iadd, 1) := by decide +kernel
theorem dX6_mutual_78 : decode cX6_mutual 78 = .ok (.iaload, 1) := by decide +kernel
theorem dX6_mutual_79 : decode cX6_mutual 79 = .ok (.invokestatic 104, 3) := by decide +kernel
theorem dX6_mutual_82 : decode cX6_mutual 82 = .ok (.iadd, 1) := by decide +kernel
theorem dX6_mutual_83 : decode cX6_mutual 83 = .ok (.istore_n 2, 1) := by decide +kernel
theorem dX6_mutual_84 : decode cX6_mutual 84 = .ok (.iinc 3 1, 3) := by decide +kernel
theorem dX6_mutual_87 : decode cX6_mutual 87 = .ok (.goto (-50), 3) := by decide +kernel
theorem dX6_mutual_90 : decode cX6_mutual 90 = .ok (.iload_n 2, 1) := by decide +kernel
theorem dX6_mutual_91 : decode cX6_mutual 91 = .ok (.ireturn, 1) := by decide +kernel
theorem dX6_append_0 : decode cX6_append 0 = .ok (.aload_n 0, 1) := by decide +kernel
theorem dX6_append_1 : decode cX6_append 1 = .ok (.iload_n 1, 1) := by decide +kernel
theorem dX6_append_2 : decode cX6_append 2 = .ok (.iconst 0, 1) := by decide +kernel
theorem dX6_append_3 : decode cX6_append 3 = .ok (.bipush 127, 2) := by decide +kernel
theorem dX6_append_5 : decode cX6_append 5 = .ok (.invokestatic 68, 3) := by decide +kernel
theorem dX6_append_8 : decode cX6_append 8 = .ok (.ifCond .ne 7, 3) := by decide +kernel
theorem dX6_append_11 : decode cX6_append 11 = .ok (.iconst 1, 1) := by decide +kernel
theorem dX6_append_12 : decode cX6_append 12 = .ok (.goto 4, 3) := by decide +kernel
theorem dX6_append_15 : decode cX6_append 15 = .ok (.iconst 0, 1) := by decide +kernel
theorem dX6_append_16 : decode cX6_append 16 = .ok (.aload_n 0, 1) := by decide +kernel
theorem dX6_append_17 : decode cX6_append 17 = .ok (.getfield 207, 3) := by decide +kernel
theorem dX6_append_20 : decode cX6_append 20 = .ok (.bipush 100, 2) := by decide +kernel
theorem dX6_append_22 : decode cX6_append 22 = .ok (.if_icmp .ne 7, 3) := by decide +kernel
theorem dX6_append_25 : decode cX6_append 25 = .ok (.iconst 1, 1) := by decide +kernel
theorem dX6_append_26 : decode cX6_append 26 = .ok (.goto 4, 3) := by decide +kernel
theorem dX6_append_29 : decode cX6_append 29 = .ok (.iconst 0, 1) := by decide +kernel
theorem dX6_append_30 : decode cX6_append 30 = .ok (.iconst 0, 1) := by decide +kernel
theorem dX6_append_31 : decode cX6_append 31 = .ok (.invokevirtual 146, 3) := by decide +kernel
theorem dX6_append_34 : decode cX6_append 34 = .ok (.ifCond .ne 5, 3) := by decide +kernel
theorem dX6_append_37 : decode cX6_append 37 = .ok (.iconst 0, 1) := by decide +kernel
theorem dX6_append_38 : decode cX6_append 38 = .ok (.ireturn, 1) := by decide +kernel
theorem dX6_append_39 : decode cX6_append 39 = .ok (.aload_n 0, 1) := by decide +kernel
theorem dX6_append_40 : decode cX6_append 40 = .ok (.getfield 19, 3) := by decide +kernel
theorem dX6_append_43 : decode cX6_append 43 = .ok (.aload_n 0, 1) := by decide +kernel
theorem dX6_append_44 : decode cX6_append 44 = .ok (.getfield 207, 3) := by decide +kernel
theorem dX6_append_47 : decode cX6_append 47 = .ok (.iload_n 1, 1) := by decide +kernel
theorem dX6_append_48 : decode cX6_append 48 = .ok (.iastore, 1) := by decide +kernel
theorem dX6_append_49 : decode cX6_append 49 = .ok (.aload_n 0, 1) := by decide +kernel
theorem dX6_append_50 : decode cX6_append 50 = .ok (.dup, 1) := by decide +kernel
theorem dX6_append_51 : decode cX6_append 51 = .ok (.getfield 207, 3) := by decide +kernel
theorem dX6_append_54 : decode cX6_append 54 = .ok (.iconst 1, 1) := by decide +kernel
theorem dX6_append_55 : decode cX6_append 55 = .ok (.iadd, 1) := by decide +kernel
theorem dX6_append_56 : decode cX6_append 56 = .ok (.putfield 207, 3) := by decide +kernel
theorem dX6_append_59 : decode cX6_append 59 = .ok (.aload_n 0, 1) := by decide +kernel
theorem dX6_append_60 : decode cX6_append 60 = .ok (.getfield 207, 3) := by decide +kernel
theorem dX6_append_63 : decode cX6_append 63 = .ok (.ireturn, 1) := by decide +kernel
theorem dX6_clearText_0 : decode cX6_clearText 0 = .ok (.aload_n 0, 1) := by decide +kernel
theorem dX6_clearText_1 : decode cX6_clearText 1 = .ok (.iconst 0, 1) := by decide +kernel
theorem dX6_clearText_2 : decode cX6_clearText 2 = .ok (.iconst 0, 1) := by decide +kernel
theorem dX6_clearText_3 : decode cX6_clearText 3 = .ok (.iconst 0, 1) := by decide +kernel
theorem dX6_clearText_4 : decode cX6_clearText 4 = .ok (.invokevirtual 146, 3) := by decide +kernel
theorem dX6_clearText_7 : decode cX6_clearText 7 = .ok (.pop, 1) := by decide +kernel
theorem dX6_clearText_8 : decode cX6_clearText 8 = .ok (.aload_n 0, 1) := by decide +kernel
theorem dX6_clearText_9 : decode cX6_clearText 9 = .ok (.getfield 207, 3) := by decide +kernel
theorem dX6_clearText_12 : decode cX6_clearText 12 = .ok (.istore_n 1, 1) := by decide +kernel
theorem dX6_clearText_13 : decode cX6_clearText 13 = .ok (.aload_n 0, 1) := by decide +kernel
theorem dX6_clearText_14 : decode cX6_clearText 14 = .ok (.iconst 0, 1) := by decide +kernel
theorem dX6_clearText_15 : decode cX6_clearText 15 = .ok (.putfield 207, 3) := by decide +kernel
theorem dX6_clearText_18 : decode cX6_clearText 18 = .ok (.iload_n 1, 1) := by decide +kernel
theorem dX6_clearText_19 : decode cX6_clearText 19 = .ok (.ireturn, 1) := by decide +kernel
theorem dX6_look_0 : decode cX6_look 0 = .ok (.aload_n 0, 1) := by decide +kernel
theorem dX6_look_1 : decode cX6_look 1 = .ok (.getfield 210, 3) := by decide +kernel
theorem dX6_look_4 : decode cX6_look 4 = .ok (.aload_n 0, 1) := by decide +kernel
theorem dX6_look_5 : decode cX6_look 5 = .ok (.getfield 207, 3) := by decide +kernel
theorem dX6_look_8 : decode cX6_look 8 = .ok (.if_icmp .ge 15, 3) := by decide +kernel
theorem dX6_look_11 : decode cX6_look 11 = .ok (.aload_n 0, 1) := by decide +kernel
theorem dX6_look_12 : decode cX6_look 12 = .ok (.getfield 19, 3) := by decide +kernel
theorem dX6_look_15 : decode cX6_look 15 = .ok (.aload_n 0, 1) := by decide +kernel
theorem dX6_look_16 : decode cX6_look 16 = .ok (.getfield 210, 3) := by decide +kernel
theorem dX6_look_19 : decode cX6_look 19 = .ok (.iaload, 1) := by decide +kernel
theorem dX6_look_20 : decode cX6_look 20 = .ok (.goto 4, 3) := by decide +kernel
theorem dX6_look_23 : decode cX6_look 23 = .ok (.iconst (-1), 1) := by decide +kernel
theorem dX6_look_24 : decode cX6_look 24 = .ok (.ireturn, 1) := by decide +kernel
theorem dX6_fails_0 : decode cX6_fails 0 = .ok (.aload_n 0, 1) := by decide +kernel
theorem dX6_fails_1 : decode cX6_fails 1 = .ok (.aload_n 0, 1) := by decide +kernel
theorem dX6_fails_2 : decode cX6_fails 2 = .ok (.getfield 213, 3) := by decide +kernel
theorem dX6_fails_5 : decode cX6_fails 5 = .ok (.iconst (-1), 1) := by decide +kernel
theorem dX6_fails_6 : decode cX6_fails 6 = .ok (.if_icmp .ne 7, 3) := by decide +kernel
theorem dX6_fails_9 : decode cX6_fails 9 = .ok (.iload_n 1, 1) := by decide +kernel
theorem dX6_fails_10 : decode cX6_fails 10 = .ok (.goto 7, 3) := by decide +kernel
theorem dX6_fails_13 : decode cX6_fails 13 = .ok (.aload_n 0, 1) := by decide +kernel
theorem dX6_fails_14 : decode cX6_fails 14 = .ok (.getfield 213, 3) := by decide +kernel
theorem dX6_fails_17 : decode cX6_fails 17 = .ok (.putfield 213, 3) := by decide +kernel
theorem dX6_fails_20 : decode cX6_fails 20 = .ok (.return_, 1) := by decide +kernel
theorem dX6_sign_0 : decode cX6_sign 0 = .ok (.aload_n 0, 1) := by decide +kernel
theorem dX6_sign_1 : decode cX6_sign 1 = .ok (.getfield 213, 3) := by decide +kernel
theorem dX6_sign_4 : decode cX6_sign 4 = .ok (.iconst (-1), 1) := by decide +kernel
theorem dX6_sign_5 : decode cX6_sign 5 = .ok (.if_icmp .ne 24, 3) := by decide +kernel
theorem dX6_sign_8 : decode cX6_sign 8 = .ok (.aload_n 0, 1) := by decide +kernel
theorem dX6_sign_9 : decode cX6_sign 9 = .ok (.invokevirtual 216, 3) := by decide +kernel
theorem dX6_sign_12 : decode cX6_sign 12 = .ok (.iload_n 1, 1) := by decide +kernel
theorem dX6_sign_13 : decode cX6_sign 13 = .ok (.if_icmp .ne 16, 3) := by decide +kernel
theorem dX6_sign_16 : decode cX6_sign 16 = .ok (.aload_n 0, 1) := by decide +kernel
theorem dX6_sign_17 : decode cX6_sign 17 = .ok (.dup, 1) := by decide +kernel
theorem dX6_sign_18 : decode cX6_sign 18 = .ok (.getfield 210, 3) := by decide +kernel
theorem dX6_sign_21 : decode cX6_sign 21 = .ok (.iconst 1, 1) := by decide +kernel
theorem dX6_sign_22 : decode cX6_sign 22 = .ok (.iadd, 1) := by decide +kernel
theorem dX6_sign_23 : decode cX6_sign 23 = .ok (.putfield 210, 3) := by decide +kernel
theorem dX6_sign_26 : decode cX6_sign 26 = .ok (.goto 11, 3) := by decide +kernel
theorem dX6_sign_29 : decode cX6_sign 29 = .ok (.aload_n 0, 1) := by decide +kernel
theorem dX6_sign_30 : decode cX6_sign 30 = .ok (.aload_n 0, 1) := by decide +kernel
theorem dX6_sign_31 : decode cX6_sign 31 = .ok (.getfield 210, 3) := by decide +kernel
theorem dX6_sign_34 : decode cX6_sign 34 = .ok (.invokevirtual 219, 3) := by decide +kernel
theorem dX6_sign_37 : decode cX6_sign 37 = .ok (.return_, 1) := by decide +kernel
theorem dX6_digit_0 : decode cX6_digit 0 = .ok (.aload_n 0, 1) := by decide +kernel
theorem dX6_digit_1 : decode cX6_digit 1 = .ok (.iconst 0, 1) := by decide +kernel
theorem dX6_digit_2 : decode cX6_digit 2 = .ok (.putfield 222, 3) := by decide +kernel
theorem dX6_digit_5 : decode cX6_digit 5 = .ok (.aload_n 0, 1) := by decide +kernel
theorem dX6_digit_6 : decode cX6_digit 6 = .ok (.getfield 213, 3) := by decide +kernel
theorem dX6_digit_9 : decode cX6_digit 9 = .ok (.iconst (-1), 1) := by decide +kernel
theorem dX6_digit_10 : decode cX6_digit 10 = .ok (.if_icmp .ne 42, 3) := by decide +kernel
theorem dX6_digit_13 : decode cX6_digit 13 = .ok (.aload_n 0, 1) := by decide +kernel
theorem dX6_digit_14 : decode cX6_digit 14 = .ok (.invokevirtual 216, 3) := by decide +kernel
theorem dX6_digit_17 : decode cX6_digit 17 = .ok (.bipush 48, 2) := by decide +kernel
theorem dX6_digit_19 : decode cX6_digit 19 = .ok (.isub, 1) := by decide +kernel
theorem dX6_digit_20 : decode cX6_digit 20 = .ok (.iload_n 1, 1) := by decide +kernel
theorem dX6_digit_21 : decode cX6_digit 21 = .ok (.iload_n 2, 1) := by decide +kernel
theorem dX6_digit_22 : decode cX6_digit 22 = .ok (.invokestatic 68, 3) := by decide +kernel
theorem dX6_digit_25 : decode cX6_digit 25 = .ok (.ifCond .eq 27, 3) := by decide +kernel
theorem dX6_digit_28 : decode cX6_digit 28 = .ok (.aload_n 0, 1) := by decide +kernel
theorem dX6_digit_29 : decode cX6_digit 29 = .ok (.aload_n 0, 1) := by decide +kernel
theorem dX6_digit_30 : decode cX6_digit 30 = .ok (.invokevirtual 216, 3) := by decide +kernel
theorem dX6_digit_33 : decode cX6_digit 33 = .ok (.bipush 48, 2) := by decide +kernel
theorem dX6_digit_35 : decode cX6_digit 35 = .ok (.isub, 1) := by decide +kernel
theorem dX6_digit_36 : decode cX6_digit 36 = .ok (.putfield 222, 3) := by decide +kernel
theorem dX6_digit_39 : decode cX6_digit 39 = .ok (.aload_n 0, 1) := by decide +kernel
theorem dX6_digit_40 : decode cX6_digit 40 = .ok (.dup, 1) := by decide +kernel
theorem dX6_digit_41 : decode cX6_digit 41 = .ok (.getfield 210, 3) := by decide +kernel
theorem dX6_digit_44 : decode cX6_digit 44 = .ok (.iconst 1, 1) := by decide +kernel
theorem dX6_digit_45 : decode cX6_digit 45 = .ok (.iadd, 1) := by decide +kernel
theorem dX6_digit_46 : decode cX6_digit 46 = .ok (.putfield 210, 3) := by decide +kernel
theorem dX6_digit_49 : decode cX6_digit 49 = .ok (.goto 11, 3) := by decide +kernel
theorem dX6_digit_52 : decode cX6_digit 52 = .ok (.aload_n 0, 1) := by decide +kernel
theorem dX6_digit_53 : decode cX6_digit 53 = .ok (.aload_n 0, 1) := by decide +kernel
theorem dX6_digit_54 : decode cX6_digit 54 = .ok (.getfield 210, 3) := by decide +kernel
theorem dX6_digit_57 : decode cX6_digit 57 = .ok (.invokevirtual 219, 3) := by decide +kernel
theorem dX6_digit_60 : decode cX6_digit 60 = .ok (.return_, 1) := by decide +kernel
theorem dX6_figures_0 : decode cX6_figures 0 = .ok (.aload_n 0, 1) := by decide +kernel
theorem dX6_figures_1 : decode cX6_figures 1 = .ok (.getfield 210, 3) := by decide +kernel
theorem dX6_figures_4 : decode cX6_figures 4 = .ok (.istore 4, 2) := by decide +kernel
theorem dX6_figures_6 : decode cX6_figures 6 = .ok (.aload_n 0, 1) := by decide +kernel
theorem dX6_figures_7 : decode cX6_figures 7 = .ok (.iconst 0, 1) := by decide +kernel
theorem dX6_figures_8 : decode cX6_figures 8 = .ok (.putfield 222, 3) := by decide +kernel
theorem dX6_figures_11 : decode cX6_figures 11 = .ok (.aload_n 0, 1) := by decide +kernel
theorem dX6_figures_12 : decode cX6_figures 12 = .ok (.getfield 213, 3) := by decide +kernel
theorem dX6_figures_15 : decode cX6_figures 15 = .ok (.iconst (-1), 1) := by decide +kernel
theorem dX6_figures_16 : decode cX6_figures 16 = .ok (.if_icmp .ne 71, 3) := by decide +kernel
theorem dX6_figures_19 : decode cX6_figures 19 = .ok (.aload_n 0, 1) := by decide +kernel
theorem dX6_figures_20 : decode cX6_figures 20 = .ok (.invokevirtual 216, 3) := by decide +kernel
theorem dX6_figures_23 : decode cX6_figures 23 = .ok (.bipush 48, 2) := by decide +kernel
theorem dX6_figures_25 : decode cX6_figures 25 = .ok (.bipush 57, 2) := by decide +kernel
theorem dX6_figures_27 : decode cX6_figures 27 = .ok (.invokestatic 68, 3) := by decide +kernel
theorem dX6_figures_30 : decode cX6_figures 30 = .ok (.ifCond .eq 57, 3) := by decide +kernel
theorem dX6_figures_33 : decode cX6_figures 33 = .ok (.aload_n 0, 1) := by decide +kernel
theorem dX6_figures_34 : decode cX6_figures 34 = .ok (.getfield 210, 3) := by decide +kernel
theorem dX6_figures_37 : decode cX6_figures 37 = .ok (.iload 4, 2) := by decide +kernel
theorem dX6_figures_39 : decode cX6_figures 39 = .ok (.isub, 1) := by decide +kernel
theorem dX6_figures_40 : decode cX6_figures 40 = .ok (.iload_n 1, 1) := by decide +kernel
theorem dX6_figures_41 : decode cX6_figures 41 = .ok (.if_icmp .ne 14, 3) := by decide +kernel
theorem dX6_figures_44 : decode cX6_figures 44 = .ok (.aload_n 0, 1) := by decide +kernel
theorem dX6_figures_45 : decode cX6_figures 45 = .ok (.aload_n 0, 1) := by decide +kernel
theorem dX6_figures_46 : decode cX6_figures 46 = .ok (.getfield 210, 3) := by decide +kernel
theorem dX6_figures_49 : decode cX6_figures 49 = .ok (.invokevirtual 219, 3) := by decide +kernel
theorem dX6_figures_52 : decode cX6_figures 52 = .ok (.goto (-41), 3) := by decide +kernel
theorem dX6_figures_55 : decode cX6_figures 55 = .ok (.aload_n 0, 1) := by decide +kernel
theorem dX6_figures_56 : decode cX6_figures 56 = .ok (.bipush 10, 2) := by decide +kernel
theorem dX6_figures_58 : decode cX6_figures 58 = .ok (.aload_n 0, 1) := by decide +kernel
theorem dX6_figures_59 : decode cX6_figures 59 = .ok (.getfield 222, 3) := by decide +kernel
theorem dX6_figures_62 : decode cX6_figures 62 = .ok (.imul, 1) := by decide +kernel
theorem dX6_figures_63 : decode cX6_figures 63 = .ok (.aload_n 0, 1) := by decide +kernel
theorem dX6_figures_64 : decode cX6_figures 64 = .ok (.invokevirtual 216, 3) := by decide +kernel
theorem dX6_figures_67 : decode cX6_figures 67 = .ok (.iadd, 1) := by decide +kernel
theorem dX6_figures_68 : decode cX6_figures 68 = .ok (.bipush 48, 2) := by decide +kernel
theorem dX6_figures_70 : decode cX6_figures 70 = .ok (.isub, 1) := by decide +kernel
theorem dX6_figures_71 : decode cX6_figures 71 = .ok (.putfield 222, 3) := by decide +kernel
theorem dX6_figures_74 : decode cX6_figures 74 = .ok (.aload_n 0, 1) := by decide +kernel
theorem dX6_figures_75 : decode cX6_figures 75 = .ok (.dup, 1) := by decide +kernel
theorem dX6_figures_76 : decode cX6_figures 76 = .ok (.getfield 210, 3) := by decide +kernel
theorem dX6_figures_79 : decode cX6_figures 79 = .ok (.iconst 1, 1) := by decide +kernel
theorem dX6_figures_80 : decode cX6_figures 80 = .ok (.iadd, 1) := by decide +kernel
theorem dX6_figures_81 : decode cX6_figures 81 = .ok (.putfield 210, 3) := by decide +kernel
theorem dX6_figures_84 : decode cX6_figures 84 = .ok (.goto (-73), 3) := by decide +kernel
theorem dX6_figures_87 : decode cX6_figures 87 = .ok (.aload_n 0, 1) := by decide +kernel
theorem dX6_figures_88 : decode cX6_figures 88 = .ok (.getfield 213, 3) := by decide +kernel
theorem dX6_figures_91 : decode cX6_figures 91 = .ok (.iconst (-1), 1) := by decide +kernel
theorem dX6_figures_92 : decode cX6_figures 92 = .ok (.if_icmp .ne 30, 3) := by decide +kernel
theorem dX6_figures_95 : decode cX6_figures 95 = .ok (.aload_n 0, 1) := by decide +kernel
theorem dX6_figures_96 : decode cX6_figures 96 = .ok (.getfield 210, 3) := by decide +kernel
theorem dX6_figures_99 : decode cX6_figures 99 = .ok (.iload 4, 2) := by decide +kernel
theorem dX6_figures_101 : decode cX6_figures 101 = .ok (.if_icmp .eq 15, 3) := by decide +kernel
theorem dX6_figures_104 : decode cX6_figures 104 = .ok (.aload_n 0, 1) := by decide +kernel
theorem dX6_figures_105 : decode cX6_figures 105 = .ok (.getfield 222, 3) := by decide +kernel
theorem dX6_figures_108 : decode cX6_figures 108 = .ok (.iload_n 2, 1) := by decide +kernel
theorem dX6_figures_109 : decode cX6_figures 109 = .ok (.iload_n 3, 1) := by decide +kernel
theorem dX6_figures_110 : decode cX6_figures 110 = .ok (.invokestatic 68, 3) := by decide +kernel
theorem dX6_figures_113 : decode cX6_figures 113 = .ok (.ifCond .ne 9, 3) := by decide +kernel
theorem dX6_figures_116 : decode cX6_figures 116 = .ok (.aload_n 0, 1) := by decide +kernel
theorem dX6_figures_117 : decode cX6_figures 117 = .ok (.iload 4, 2) := by decide +kernel
theorem dX6_figures_119 : decode cX6_figures 119 = .ok (.invokevirtual 219, 3) := by decide +kernel
theorem dX6_figures_122 : decode cX6_figures 122 = .ok (.return_, 1) := by decide +kernel
theorem dX6_readsOrder_0 : decode cX6_readsOrder 0 = .ok (.aload_n 0, 1) := by decide +kernel
theorem dX6_readsOrder_1 : decode cX6_readsOrder 1 = .ok (.invokevirtual 216, 3) := by decide +kernel
theorem dX6_readsOrder_4 : decode cX6_readsOrder 4 = .ok (.istore_n 1, 1) := by decide +kernel
theorem dX6_readsOrder_5 : decode cX6_readsOrder 5 = .ok (.aload_n 0, 1) := by decide +kernel
theorem dX6_readsOrder_6 : decode cX6_readsOrder 6 = .ok (.dup, 1) := by decide +kernel
theorem dX6_readsOrder_7 : decode cX6_readsOrder 7 = .ok (.getfield 210, 3) := by decide +kernel
theorem dX6_readsOrder_10 : decode cX6_readsOrder 10 = .ok (.iconst 1, 1) := by decide +kernel
theorem dX6_readsOrder_11 : decode cX6_readsOrder 11 = .ok (.iadd, 1) := by decide +kernel
theorem dX6_readsOrder_12 : decode cX6_readsOrder 12 = .ok (.putfield 210, 3) := by decide +kernel
theorem dX6_readsOrder_15 : decode cX6_readsOrder 15 = .ok (.iload_n 1, 1) := by decide +kernel
theorem dX6_readsOrder_16 : decode cX6_readsOrder 16 = .ok (.lookupswitch 176 #[(97, 173), (98, 173), (112, 52), (120, 149), (121, 149)], 52) := by decide +kernel
theorem dX6_readsOrder_68 : decode cX6_readsOrder 68 = .ok (.aload_n 0, 1) := by decide +kernel
theorem dX6_readsOrder_69 : decode cX6_readsOrder 69 = .ok (.iconst 0, 1) := by decide +kernel
theorem dX6_readsOrder_70 : decode cX6_readsOrder 70 = .ok (.bipush 6, 2) := by decide +kernel
theorem dX6_readsOrder_72 : decode cX6_readsOrder 72 = .ok (.invokevirtual 225, 3) := by decide +kernel
theorem dX6_readsOrder_75 : decode cX6_readsOrder 75 = .ok (.aload_n 0, 1) := by decide +kernel
theorem dX6_readsOrder_76 : decode cX6_readsOrder 76 = .ok (.getfield 52, 3) := by decide +kernel
theorem dX6_readsOrder_79 : decode cX6_readsOrder 79 = .ok (.aload_n 0, 1) := by decide +kernel
theorem dX6_readsOrder_80 : decode cX6_readsOrder 80 = .ok (.getfield 229, 3) := by decide +kernel
theorem dX6_readsOrder_83 : decode cX6_readsOrder 83 = .ok (.aload_n 0, 1) := by decide +kernel
theorem dX6_readsOrder_84 : decode cX6_readsOrder 84 = .ok (.getfield 222, 3) := by decide +kernel
theorem dX6_readsOrder_87 : decode cX6_readsOrder 87 = .ok (.iastore, 1) := by decide +kernel
theorem dX6_readsOrder_88 : decode cX6_readsOrder 88 = .ok (.aload_n 0, 1) := by decide +kernel
theorem dX6_readsOrder_89 : decode cX6_readsOrder 89 = .ok (.iconst 0, 1) := by decide +kernel
theorem dX6_readsOrder_90 : decode cX6_readsOrder 90 = .ok (.bipush 6, 2) := by decide +kernel
theorem dX6_readsOrder_92 : decode cX6_readsOrder 92 = .ok (.invokevirtual 225, 3) := by decide +kernel
theorem dX6_readsOrder_95 : decode cX6_readsOrder 95 = .ok (.aload_n 0, 1) := by decide +kernel
theorem dX6_readsOrder_96 : decode cX6_readsOrder 96 = .ok (.getfield 55, 3) := by decide +kernel
theorem dX6_readsOrder_99 : decode cX6_readsOrder 99 = .ok (.aload_n 0, 1) := by decide +kernel
theorem dX6_readsOrder_100 : decode cX6_readsOrder 100 = .ok (.getfield 229, 3) := by decide +kernel
theorem dX6_readsOrder_103 : decode cX6_readsOrder 103 = .ok (.aload_n 0, 1) := by decide +kernel
theorem dX6_readsOrder_104 : decode cX6_readsOrder 104 = .ok (.getfield 222, 3) := by decide +kernel
theorem dX6_readsOrder_107 : decode cX6_readsOrder 107 = .ok (.iastore, 1) := by decide +kernel
theorem dX6_readsOrder_108 : decode cX6_readsOrder 108 = .ok (.aload_n 0, 1) := by decide +kernel
theorem dX6_readsOrder_109 : decode cX6_readsOrder 109 = .ok (.bipush 58, 2) := by decide +kernel
theorem dX6_readsOrder_111 : decode cX6_readsOrder 111 = .ok (.invokevirtual 232, 3) := by decide +kernel
theorem dX6_readsOrder_114 : decode cX6_readsOrder 114 = .ok (.aload_n 0, 1) := by decide +kernel
theorem dX6_readsOrder_115 : decode cX6_readsOrder 115 = .ok (.iconst 4, 1) := by decide +kernel
theorem dX6_readsOrder_116 : decode cX6_readsOrder 116 = .ok (.iconst 1, 1) := by decide +kernel
theorem dX6_readsOrder_117 : decode cX6_readsOrder 117 = .ok (.sipush 1000, 3) := by decide +kernel
theorem dX6_readsOrder_120 : decode cX6_readsOrder 120 = .ok (.invokevirtual 235, 3) := by decide +kernel
theorem dX6_readsOrder_123 : decode cX6_readsOrder 123 = .ok (.aload_n 0, 1) := by decide +kernel
theorem dX6_readsOrder_124 : decode cX6_readsOrder 124 = .ok (.getfield 58, 3) := by decide +kernel
theorem dX6_readsOrder_127 : decode cX6_readsOrder 127 = .ok (.aload_n 0, 1) := by decide +kernel
theorem dX6_readsOrder_128 : decode cX6_readsOrder 128 = .ok (.getfield 229, 3) := by decide +kernel
theorem dX6_readsOrder_131 : decode cX6_readsOrder 131 = .ok (.aload_n 0, 1) := by decide +kernel
theorem dX6_readsOrder_132 : decode cX6_readsOrder 132 = .ok (.getfield 222, 3) := by decide +kernel
theorem dX6_readsOrder_135 : decode cX6_readsOrder 135 = .ok (.iastore, 1) := by decide +kernel
theorem dX6_readsOrder_136 : decode cX6_readsOrder 136 = .ok (.aload_n 0, 1) := by decide +kernel
theorem dX6_readsOrder_137 : decode cX6_readsOrder 137 = .ok (.bipush 44, 2) := by decide +kernel
theorem dX6_readsOrder_139 : decode cX6_readsOrder 139 = .ok (.invokevirtual 232, 3) := by decide +kernel
theorem dX6_readsOrder_142 : decode cX6_readsOrder 142 = .ok (.aload_n 0, 1) := by decide +kernel
theorem dX6_readsOrder_143 : decode cX6_readsOrder 143 = .ok (.iconst 1, 1) := by decide +kernel
theorem dX6_readsOrder_144 : decode cX6_readsOrder 144 = .ok (.bipush 9, 2) := by decide +kernel
theorem dX6_readsOrder_146 : decode cX6_readsOrder 146 = .ok (.invokevirtual 225, 3) := by decide +kernel
theorem dX6_readsOrder_149 : decode cX6_readsOrder 149 = .ok (.aload_n 0, 1) := by decide +kernel
theorem dX6_readsOrder_150 : decode cX6_readsOrder 150 = .ok (.getfield 61, 3) := by decide +kernel
theorem dX6_readsOrder_153 : decode cX6_readsOrder 153 = .ok (.aload_n 0, 1) := by decide +kernel
theorem dX6_readsOrder_154 : decode cX6_readsOrder 154 = .ok (.getfield 229, 3) := by decide +kernel
theorem dX6_readsOrder_157 : decode cX6_readsOrder 157 = .ok (.aload_n 0, 1) := by decide +kernel
theorem dX6_readsOrder_158 : decode cX6_readsOrder 158 = .ok (.getfield 222, 3) := by decide +kernel
theorem dX6_readsOrder_161 : decode cX6_readsOrder 161 = .ok (.iastore, 1) := by decide +kernel
theorem dX6_readsOrder_162 : decode cX6_readsOrder 162 = .ok (.goto 40, 3) := by decide +kernel
theorem dX6_readsOrder_165 : decode cX6_readsOrder 165 = .ok (.aload_n 0, 1) := by decide +kernel
theorem dX6_readsOrder_166 : decode cX6_readsOrder 166 = .ok (.iconst 2, 1) := by decide +kernel
theorem dX6_readsOrder_167 : decode cX6_readsOrder 167 = .ok (.iconst 0, 1) := by decide +kernel
theorem dX6_readsOrder_168 : decode cX6_readsOrder 168 = .ok (.bipush 99, 2) := by decide +kernel
theorem dX6_readsOrder_170 : decode cX6_readsOrder 170 = .ok (.invokevirtual 235, 3) := by decide +kernel
theorem dX6_readsOrder_173 : decode cX6_readsOrder 173 = .ok (.aload_n 0, 1) := by decide +kernel
theorem dX6_readsOrder_174 : decode cX6_readsOrder 174 = .ok (.getfield 52, 3) := by decide +kernel
theorem dX6_readsOrder_177 : decode cX6_readsOrder 177 = .ok (.aload_n 0, 1) := by decide +kernel
theorem dX6_readsOrder_178 : decode cX6_readsOrder 178 = .ok (.getfield 229, 3) := by decide +kernel
theorem dX6_readsOrder_181 : decode cX6_readsOrder 181 = .ok (.aload_n 0, 1) := by decide +kernel
theorem dX6_readsOrder_182 : decode cX6_readsOrder 182 = .ok (.getfield 222, 3) := by decide +kernel
theorem dX6_readsOrder_185 : decode cX6_readsOrder 185 = .ok (.iastore, 1) := by decide +kernel
theorem dX6_readsOrder_186 : decode cX6_readsOrder 186 = .ok (.goto 16, 3) := by decide +kernel
theorem dX6_readsOrder_189 : decode cX6_readsOrder 189 = .ok (.goto 13, 3) := by decide +kernel
theorem dX6_readsOrder_192 : decode cX6_readsOrder 192 = .ok (.aload_n 0, 1) := by decide +kernel
theorem dX6_readsOrder_193 : decode cX6_readsOrder 193 = .ok (.aload_n 0, 1) := by decide +kernel
theorem dX6_readsOrder_194 : decode cX6_readsOrder 194 = .ok (.getfield 210, 3) := by decide +kernel
theorem dX6_readsOrder_197 : decode cX6_readsOrder 197 = .ok (.iconst 1, 1) := by decide +kernel
theorem dX6_readsOrder_198 : decode cX6_readsOrder 198 = .ok (.isub, 1) := by decide +kernel
theorem dX6_readsOrder_199 : decode cX6_readsOrder 199 = .ok (.invokevirtual 219, 3) := by decide +kernel
theorem dX6_readsOrder_202 : decode cX6_readsOrder 202 = .ok (.aload_n 0, 1) := by decide +kernel
theorem dX6_readsOrder_203 : decode cX6_readsOrder 203 = .ok (.bipush 59, 2) := by decide +kernel
theorem dX6_readsOrder_205 : decode cX6_readsOrder 205 = .ok (.invokevirtual 232, 3) := by decide +kernel
theorem dX6_readsOrder_208 : decode cX6_readsOrder 208 = .ok (.aload_n 0, 1) := by decide +kernel
theorem dX6_readsOrder_209 : decode cX6_readsOrder 209 = .ok (.getfield 213, 3) := by decide +kernel
theorem dX6_readsOrder_212 : decode cX6_readsOrder 212 = .ok (.iconst (-1), 1) := by decide +kernel
theorem dX6_readsOrder_213 : decode cX6_readsOrder 213 = .ok (.if_icmp .ne 23, 3) := by decide +kernel
theorem dX6_readsOrder_216 : decode cX6_readsOrder 216 = .ok (.aload_n 0, 1) := by decide +kernel
theorem dX6_readsOrder_217 : decode cX6_readsOrder 217 = .ok (.getfield 49, 3) := by decide +kernel
theorem dX6_readsOrder_220 : decode cX6_readsOrder 220 = .ok (.aload_n 0, 1) := by decide +kernel
theorem dX6_readsOrder_221 : decode cX6_readsOrder 221 = .ok (.getfield 229, 3) := by decide +kernel
theorem dX6_readsOrder_224 : decode cX6_readsOrder 224 = .ok (.iload_n 1, 1) := by decide +kernel
theorem dX6_readsOrder_225 : decode cX6_readsOrder 225 = .ok (.iastore, 1) := by decide +kernel
theorem dX6_readsOrder_226 : decode cX6_readsOrder 226 = .ok (.aload_n 0, 1) := by decide +kernel
theorem dX6_readsOrder_227 : decode cX6_readsOrder 227 = .ok (.dup, 1) := by decide +kernel
theorem dX6_readsOrder_228 : decode cX6_readsOrder 228 = .ok (.getfield 229, 3) := by decide +kernel
theorem dX6_readsOrder_231 : decode cX6_readsOrder 231 = .ok (.iconst 1, 1) := by decide +kernel
theorem dX6_readsOrder_232 : decode cX6_readsOrder 232 = .ok (.iadd, 1) := by decide +kernel
theorem dX6_readsOrder_233 : decode cX6_readsOrder 233 = .ok (.putfield 229, 3) := by decide +kernel
theorem dX6_readsOrder_236 : decode cX6_readsOrder 236 = .ok (.return_, 1) := by decide +kernel
theorem dX6_can_0 : decode cX6_can 0 = .ok (.aload_n 0, 1) := by decide +kernel
theorem dX6_can_1 : decode cX6_can 1 = .ok (.getfield 52, 3) := by decide +kernel
theorem dX6_can_4 : decode cX6_can 4 = .ok (.iload_n 1, 1) := by decide +kernel
theorem dX6_can_5 : decode cX6_can 5 = .ok (.iaload, 1) := by decide +kernel
theorem dX6_can_6 : decode cX6_can 6 = .ok (.istore_n 2, 1) := by decide +kernel
theorem dX6_can_7 : decode cX6_can 7 = .ok (.aload_n 0, 1) := by decide +kernel
theorem dX6_can_8 : decode cX6_can 8 = .ok (.getfield 49, 3) := by decide +kernel
theorem dX6_can_11 : decode cX6_can 11 = .ok (.iload_n 1, 1) := by decide +kernel
theorem dX6_can_12 : decode cX6_can 12 = .ok (.iaload, 1) := by decide +kernel
theorem dX6_can_13 : decode cX6_can 13 = .ok (.lookupswitch 150 #[(98, 141), (112, 43), (120, 91), (121, 113)], 43) := by decide +kernel
theorem dX6_can_56 : decode cX6_can 56 = .ok (.aload_n 0, 1) := by decide +kernel
theorem dX6_can_57 : decode cX6_can 57 = .ok (.iload_n 2, 1) := by decide +kernel
theorem dX6_can_58 : decode cX6_can 58 = .ok (.invokevirtual 153, 3) := by decide +kernel
theorem dX6_can_61 : decode cX6_can 61 = .ok (.ifCond .eq 41, 3) := by decide +kernel
theorem dX6_can_64 : decode cX6_can 64 = .ok (.aload_n 0, 1) := by decide +kernel
theorem dX6_can_65 : decode cX6_can 65 = .ok (.aload_n 0, 1) := by decide +kernel
theorem dX6_can_66 : decode cX6_can 66 = .ok (.getfield 55, 3) := by decide +kernel
theorem dX6_can_69 : decode cX6_can 69 = .ok (.iload_n 1, 1) := by decide +kernel
theorem dX6_can_70 : decode cX6_can 70 = .ok (.iaload, 1) := by decide +kernel
theorem dX6_can_71 : decode cX6_can 71 = .ok (.invokevirtual 153, 3) := by decide +kernel
theorem dX6_can_74 : decode cX6_can 74 = .ok (.ifCond .eq 28, 3) := by decide +kernel
theorem dX6_can_77 : decode cX6_can 77 = .ok (.iload_n 2, 1) := by decide +kernel
theorem dX6_can_78 : decode cX6_can 78 = .ok (.aload_n 0, 1) := by decide +kernel
theorem dX6_can_79 : decode cX6_can 79 = .ok (.getfield 55, 3) := by decide +kernel
theorem dX6_can_82 : decode cX6_can 82 = .ok (.iload_n 1, 1) := by decide +kernel
theorem dX6_can_83 : decode cX6_can 83 = .ok (.iaload, 1) := by decide +kernel
theorem dX6_can_84 : decode cX6_can 84 = .ok (.if_icmp .eq 18, 3) := by decide +kernel
theorem dX6_can_87 : decode cX6_can 87 = .ok (.aload_n 0, 1) := by decide +kernel
theorem dX6_can_88 : decode cX6_can 88 = .ok (.getfield 7, 3) := by decide +kernel
theorem dX6_can_91 : decode cX6_can 91 = .ok (.iconst 1, 1) := by decide +kernel
theorem dX6_can_92 : decode cX6_can 92 = .ok (.iaload, 1) := by decide +kernel
theorem dX6_can_93 : decode cX6_can 93 = .ok (.bipush 40, 2) := by decide +kernel
theorem dX6_can_95 : decode cX6_can 95 = .ok (.if_icmp .ge 7, 3) := by decide +kernel
theorem dX6_can_98 : decode cX6_can 98 = .ok (.iconst 1, 1) := by decide +kernel
theorem dX6_can_99 : decode cX6_can 99 = .ok (.goto 4, 3) := by decide +kernel
theorem dX6_can_102 : decode cX6_can 102 = .ok (.iconst 0, 1) := by decide +kernel
theorem dX6_can_103 : decode cX6_can 103 = .ok (.ireturn, 1) := by decide +kernel
theorem dX6_can_104 : decode cX6_can 104 = .ok (.aload_n 0, 1) := by decide +kernel
theorem dX6_can_105 : decode cX6_can 105 = .ok (.iload_n 2, 1) := by decide +kernel
theorem dX6_can_106 : decode cX6_can 106 = .ok (.invokevirtual 160, 3) := by decide +kernel
theorem dX6_can_109 : decode cX6_can 109 = .ok (.ifCond .eq 15, 3) := by decide +kernel
theorem dX6_can_112 : decode cX6_can 112 = .ok (.aload_n 0, 1) := by decide +kernel
theorem dX6_can_113 : decode cX6_can 113 = .ok (.iload_n 2, 1) := by decide +kernel
theorem dX6_can_114 : decode cX6_can 114 = .ok (.invokevirtual 163, 3) := by decide +kernel
theorem dX6_can_117 : decode cX6_can 117 = .ok (.ifCond .eq 7, 3) := by decide +kernel
theorem dX6_can_120 : decode cX6_can 120 = .ok (.iconst 1, 1) := by decide +kernel
theorem dX6_can_121 : decode cX6_can 121 = .ok (.goto 4, 3) := by decide +kernel
theorem dX6_can_124 : decode cX6_can 124 = .ok (.iconst 0, 1) := by decide +kernel
theorem dX6_can_125 : decode cX6_can 125 = .ok (.ireturn, 1) := by decide +kernel
theorem dX6_can_126 : decode cX6_can 126 = .ok (.aload_n 0, 1) := by decide +kernel
theorem dX6_can_127 : decode cX6_can 127 = .ok (.iload_n 2, 1) := by decide +kernel
theorem dX6_can_128 : decode cX6_can 128 = .ok (.invokevirtual 160, 3) := by decide +kernel
theorem dX6_can_131 : decode cX6_can 131 = .ok (.ifCond .eq 21, 3) := by decide +kernel
theorem dX6_can_134 : decode cX6_can 134 = .ok (.aload_n 0, 1) := by decide +kernel
theorem dX6_can_135 : decode cX6_can 135 = .ok (.getfield 7, 3) := by decide +kernel
theorem dX6_can_138 : decode cX6_can 138 = .ok (.iload_n 2, 1) := by decide +kernel
theorem dX6_can_139 : decode cX6_can 139 = .ok (.iconst 4, 1) := by decide +kernel
theorem dX6_can_140 : decode cX6_can 140 = .ok (.invokestatic 79, 3) := by decide +kernel
theorem dX6_can_143 : decode cX6_can 143 = .ok (.iaload, 1) := by decide +kernel
theorem dX6_can_144 : decode cX6_can 144 = .ok (.iconst 1, 1) := by decide +kernel
theorem dX6_can_145 : decode cX6_can 145 = .ok (.if_icmp .ne 7, 3) := by decide +kernel
theorem dX6_can_148 : decode cX6_can 148 = .ok (.iconst 1, 1) := by decide +kernel
theorem dX6_can_149 : decode cX6_can 149 = .ok (.goto 4, 3) := by decide +kernel
theorem dX6_can_152 : decode cX6_can 152 = .ok (.iconst 0, 1) := by decide +kernel
theorem dX6_can_153 : decode cX6_can 153 = .ok (.ireturn, 1) := by decide +kernel
theorem dX6_can_154 : decode cX6_can 154 = .ok (.aload_n 0, 1) := by decide +kernel
theorem dX6_can_155 : decode cX6_can 155 = .ok (.aload_n 0, 1) := by decide +kernel
theorem dX6_can_156 : decode cX6_can 156 = .ok (.getfield 7, 3) := by decide +kernel
theorem dX6_can_159 : decode cX6_can 159 = .ok (.invokevirtual 138, 3) := by decide +kernel
theorem dX6_can_162 : decode cX6_can 162 = .ok (.ireturn, 1) := by decide +kernel
theorem dX6_can_163 : decode cX6_can 163 = .ok (.iconst 1, 1) := by decide +kernel
theorem dX6_can_164 : decode cX6_can 164 = .ok (.ireturn, 1) := by decide +kernel
theorem dX6_does_0 : decode cX6_does 0 = .ok (.aload_n 0, 1) := by decide +kernel
theorem dX6_does_1 : decode cX6_does 1 = .ok (.getfield 49, 3) := by decide +kernel
theorem dX6_does_4 : decode cX6_does 4 = .ok (.iload_n 1, 1) := by decide +kernel
theorem dX6_does_5 : decode cX6_does 5 = .ok (.iaload, 1) := by decide +kernel
theorem dX6_does_6 : decode cX6_does 6 = .ok (.lookupswitch 88 #[(97, 76), (98, 65), (112, 34)], 34) := by decide +kernel
theorem dX6_does_40 : decode cX6_does 40 = .ok (.aload_n 0, 1) := by decide +kernel
theorem dX6_does_41 : decode cX6_does 41 = .ok (.aload_n 0, 1) := by decide +kernel
theorem dX6_does_42 : decode cX6_does 42 = .ok (.getfield 52, 3) := by decide +kernel
theorem dX6_does_45 : decode cX6_does 45 = .ok (.iload_n 1, 1) := by decide +kernel
theorem dX6_does_46 : decode cX6_does 46 = .ok (.iaload, 1) := by decide +kernel
theorem dX6_does_47 : decode cX6_does 47 = .ok (.aload_n 0, 1) := by decide +kernel
theorem dX6_does_48 : decode cX6_does 48 = .ok (.getfield 55, 3) := by decide +kernel
theorem dX6_does_51 : decode cX6_does 51 = .ok (.iload_n 1, 1) := by decide +kernel
theorem dX6_does_52 : decode cX6_does 52 = .ok (.iaload, 1) := by decide +kernel
theorem dX6_does_53 : decode cX6_does 53 = .ok (.aload_n 0, 1) := by decide +kernel
theorem dX6_does_54 : decode cX6_does 54 = .ok (.getfield 58, 3) := by decide +kernel
theorem dX6_does_57 : decode cX6_does 57 = .ok (.iload_n 1, 1) := by decide +kernel
theorem dX6_does_58 : decode cX6_does 58 = .ok (.iaload, 1) := by decide +kernel
theorem dX6_does_59 : decode cX6_does 59 = .ok (.aload_n 0, 1) := by decide +kernel
theorem dX6_does_60 : decode cX6_does 60 = .ok (.getfield 61, 3) := by decide +kernel
theorem dX6_does_63 : decode cX6_does 63 = .ok (.iload_n 1, 1) := by decide +kernel
theorem dX6_does_64 : decode cX6_does 64 = .ok (.iaload, 1) := by decide +kernel
theorem dX6_does_65 : decode cX6_does 65 = .ok (.invokevirtual 156, 3) := by decide +kernel
theorem dX6_does_68 : decode cX6_does 68 = .ok (.goto 57, 3) := by decide +kernel
theorem dX6_does_71 : decode cX6_does 71 = .ok (.aload_n 0, 1) := by decide +kernel
theorem dX6_does_72 : decode cX6_does 72 = .ok (.aload_n 0, 1) := by decide +kernel
theorem dX6_does_73 : decode cX6_does 73 = .ok (.getfield 7, 3) := by decide +kernel
theorem dX6_does_76 : decode cX6_does 76 = .ok (.invokevirtual 142, 3) := by decide +kernel
theorem dX6_does_79 : decode cX6_does 79 = .ok (.goto 46, 3) := by decide +kernel
theorem dX6_does_82 : decode cX6_does 82 = .ok (.aload_n 0, 1) := by decide +kernel
theorem dX6_does_83 : decode cX6_does 83 = .ok (.aload_n 0, 1) := by decide +kernel
theorem dX6_does_84 : decode cX6_does 84 = .ok (.getfield 7, 3) := by decide +kernel
theorem dX6_does_87 : decode cX6_does 87 = .ok (.invokevirtual 172, 3) := by decide +kernel
theorem dX6_does_90 : decode cX6_does 90 = .ok (.pop, 1) := by decide +kernel
theorem dX6_does_91 : decode cX6_does 91 = .ok (.goto 34, 3) := by decide +kernel
theorem dX6_does_94 : decode cX6_does 94 = .ok (.aload_n 0, 1) := by decide +kernel
theorem dX6_does_95 : decode cX6_does 95 = .ok (.getfield 7, 3) := by decide +kernel
theorem dX6_does_98 : decode cX6_does 98 = .ok (.aload_n 0, 1) := by decide +kernel
theorem dX6_does_99 : decode cX6_does 99 = .ok (.getfield 52, 3) := by decide +kernel
theorem dX6_does_102 : decode cX6_does 102 = .ok (.iload_n 1, 1) := by decide +kernel
theorem dX6_does_103 : decode cX6_does 103 = .ok (.iaload, 1) := by decide +kernel
theorem dX6_does_104 : decode cX6_does 104 = .ok (.iconst 4, 1) := by decide +kernel
theorem dX6_does_105 : decode cX6_does 105 = .ok (.invokestatic 79, 3) := by decide +kernel
theorem dX6_does_108 : decode cX6_does 108 = .ok (.aload_n 0, 1) := by decide +kernel
theorem dX6_does_109 : decode cX6_does 109 = .ok (.getfield 49, 3) := by decide +kernel
theorem dX6_does_112 : decode cX6_does 112 = .ok (.iload_n 1, 1) := by decide +kernel
theorem dX6_does_113 : decode cX6_does 113 = .ok (.iaload, 1) := by decide +kernel
theorem dX6_does_114 : decode cX6_does 114 = .ok (.bipush 120, 2) := by decide +kernel
theorem dX6_does_116 : decode cX6_does 116 = .ok (.if_icmp .ne 7, 3) := by decide +kernel
theorem dX6_does_119 : decode cX6_does 119 = .ok (.iconst 1, 1) := by decide +kernel
theorem dX6_does_120 : decode cX6_does 120 = .ok (.goto 4, 3) := by decide +kernel
theorem dX6_does_123 : decode cX6_does 123 = .ok (.iconst 0, 1) := by decide +kernel
theorem dX6_does_124 : decode cX6_does 124 = .ok (.iastore, 1) := by decide +kernel
theorem dX6_does_125 : decode cX6_does 125 = .ok (.return_, 1) := by decide +kernel
theorem dX6_carryOut_0 : decode cX6_carryOut 0 = .ok (.aload_n 0, 1) := by decide +kernel
theorem dX6_carryOut_1 : decode cX6_carryOut 1 = .ok (.iconst 0, 1) := by decide +kernel
theorem dX6_carryOut_2 : decode cX6_carryOut 2 = .ok (.iconst 0, 1) := by decide +kernel
theorem dX6_carryOut_3 : decode cX6_carryOut 3 = .ok (.iconst 0, 1) := by decide +kernel
theorem dX6_carryOut_4 : decode cX6_carryOut 4 = .ok (.invokevirtual 146, 3) := by decide +kernel
theorem dX6_carryOut_7 : decode cX6_carryOut 7 = .ok (.pop, 1) := by decide +kernel
theorem dX6_carryOut_8 : decode cX6_carryOut 8 = .ok (.aload_n 0, 1) := by decide +kernel
theorem dX6_carryOut_9 : decode cX6_carryOut 9 = .ok (.iconst 0, 1) := by decide +kernel
theorem dX6_carryOut_10 : decode cX6_carryOut 10 = .ok (.putfield 210, 3) := by decide +kernel
theorem dX6_carryOut_13 : decode cX6_carryOut 13 = .ok (.aload_n 0, 1) := by decide +kernel
theorem dX6_carryOut_14 : decode cX6_carryOut 14 = .ok (.iconst (-1), 1) := by decide +kernel
theorem dX6_carryOut_15 : decode cX6_carryOut 15 = .ok (.putfield 213, 3) := by decide +kernel
theorem dX6_carryOut_18 : decode cX6_carryOut 18 = .ok (.aload_n 0, 1) := by decide +kernel
theorem dX6_carryOut_19 : decode cX6_carryOut 19 = .ok (.iconst 0, 1) := by decide +kernel
theorem dX6_carryOut_20 : decode cX6_carryOut 20 = .ok (.putfield 229, 3) := by decide +kernel
theorem dX6_carryOut_23 : decode cX6_carryOut 23 = .ok (.aload_n 0, 1) := by decide +kernel
theorem dX6_carryOut_24 : decode cX6_carryOut 24 = .ok (.getfield 213, 3) := by decide +kernel
theorem dX6_carryOut_27 : decode cX6_carryOut 27 = .ok (.iconst (-1), 1) := by decide +kernel
theorem dX6_carryOut_28 : decode cX6_carryOut 28 = .ok (.if_icmp .ne 21, 3) := by decide +kernel
theorem dX6_carryOut_31 : decode cX6_carryOut 31 = .ok (.aload_n 0, 1) := by decide +kernel
theorem dX6_carryOut_32 : decode cX6_carryOut 32 = .ok (.getfield 210, 3) := by decide +kernel
theorem dX6_carryOut_35 : decode cX6_carryOut 35 = .ok (.aload_n 0, 1) := by decide +kernel
theorem dX6_carryOut_36 : decode cX6_carryOut 36 = .ok (.getfield 207, 3) := by decide +kernel
theorem dX6_carryOut_39 : decode cX6_carryOut 39 = .ok (.if_icmp .ge 10, 3) := by decide +kernel
theorem dX6_carryOut_42 : decode cX6_carryOut 42 = .ok (.aload_n 0, 1) := by decide +kernel
theorem dX6_carryOut_43 : decode cX6_carryOut 43 = .ok (.invokevirtual 239, 3) := by decide +kernel
theorem dX6_carryOut_46 : decode cX6_carryOut 46 = .ok (.goto (-23), 3) := by decide +kernel
theorem dX6_carryOut_49 : decode cX6_carryOut 49 = .ok (.aload_n 0, 1) := by decide +kernel
theorem dX6_carryOut_50 : decode cX6_carryOut 50 = .ok (.getfield 213, 3) := by decide +kernel
theorem dX6_carryOut_53 : decode cX6_carryOut 53 = .ok (.iconst (-1), 1) := by decide +kernel
theorem dX6_carryOut_54 : decode cX6_carryOut 54 = .ok (.if_icmp .eq 11, 3) := by decide +kernel
theorem dX6_carryOut_57 : decode cX6_carryOut 57 = .ok (.bipush (-10), 2) := by decide +kernel
theorem dX6_carryOut_59 : decode cX6_carryOut 59 = .ok (.aload_n 0, 1) := by decide +kernel
theorem dX6_carryOut_60 : decode cX6_carryOut 60 = .ok (.getfield 213, 3) := by decide +kernel
theorem dX6_carryOut_63 : decode cX6_carryOut 63 = .ok (.isub, 1) := by decide +kernel
theorem dX6_carryOut_64 : decode cX6_carryOut 64 = .ok (.ireturn, 1) := by decide +kernel
theorem dX6_carryOut_65 : decode cX6_carryOut 65 = .ok (.aload_n 0, 1) := by decide +kernel
theorem dX6_carryOut_66 : decode cX6_carryOut 66 = .ok (.invokevirtual 150, 3) := by decide +kernel
theorem dX6_carryOut_69 : decode cX6_carryOut 69 = .ok (.iconst 0, 1) := by decide +kernel
theorem dX6_carryOut_70 : decode cX6_carryOut 70 = .ok (.istore_n 1, 1) := by decide +kernel
theorem dX6_carryOut_71 : decode cX6_carryOut 71 = .ok (.iload_n 1, 1) := by decide +kernel
theorem dX6_carryOut_72 : decode cX6_carryOut 72 = .ok (.aload_n 0, 1) := by decide +kernel
theorem dX6_carryOut_73 : decode cX6_carryOut 73 = .ok (.getfield 229, 3) := by decide +kernel
theorem dX6_carryOut_76 : decode cX6_carryOut 76 = .ok (.if_icmp .ge 22, 3) := by decide +kernel
theorem dX6_carryOut_79 : decode cX6_carryOut 79 = .ok (.aload_n 0, 1) := by decide +kernel
theorem dX6_carryOut_80 : decode cX6_carryOut 80 = .ok (.iload_n 1, 1) := by decide +kernel
theorem dX6_carryOut_81 : decode cX6_carryOut 81 = .ok (.invokevirtual 242, 3) := by decide +kernel
theorem dX6_carryOut_84 : decode cX6_carryOut 84 = .ok (.ifCond .eq 14, 3) := by decide +kernel
theorem dX6_carryOut_87 : decode cX6_carryOut 87 = .ok (.aload_n 0, 1) := by decide +kernel
theorem dX6_carryOut_88 : decode cX6_carryOut 88 = .ok (.iload_n 1, 1) := by decide +kernel
theorem dX6_carryOut_89 : decode cX6_carryOut 89 = .ok (.invokevirtual 245, 3) := by decide +kernel
theorem dX6_carryOut_92 : decode cX6_carryOut 92 = .ok (.iinc 1 1, 3) := by decide +kernel
theorem dX6_carryOut_95 : decode cX6_carryOut 95 = .ok (.goto (-24), 3) := by decide +kernel
theorem dX6_carryOut_98 : decode cX6_carryOut 98 = .ok (.iload_n 1, 1) := by decide +kernel
theorem dX6_carryOut_99 : decode cX6_carryOut 99 = .ok (.ireturn, 1) := by decide +kernel
theorem dX6_undo_0 : decode cX6_undo 0 = .ok (.aload_n 0, 1) := by decide +kernel
theorem dX6_undo_1 : decode cX6_undo 1 = .ok (.aload_n 0, 1) := by decide +kernel
theorem dX6_undo_2 : decode cX6_undo 2 = .ok (.getfield 72, 3) := by decide +kernel
theorem dX6_undo_5 : decode cX6_undo 5 = .ok (.ifCond .ne 7, 3) := by decide +kernel
theorem dX6_undo_8 : decode cX6_undo 8 = .ok (.iconst 1, 1) := by decide +kernel
theorem dX6_undo_9 : decode cX6_undo 9 = .ok (.goto 4, 3) := by decide +kernel
theorem dX6_undo_12 : decode cX6_undo 12 = .ok (.iconst 0, 1) := by decide +kernel
theorem dX6_undo_13 : decode cX6_undo 13 = .ok (.iconst 0, 1) := by decide +kernel
theorem dX6_undo_14 : decode cX6_undo 14 = .ok (.iconst 0, 1) := by decide +kernel
theorem dX6_undo_15 : decode cX6_undo 15 = .ok (.invokevirtual 146, 3) := by decide +kernel
theorem dX6_undo_18 : decode cX6_undo 18 = .ok (.ifCond .ne 5, 3) := by decide +kernel
theorem dX6_undo_21 : decode cX6_undo 21 = .ok (.iconst 0, 1) := by decide +kernel
theorem dX6_undo_22 : decode cX6_undo 22 = .ok (.ireturn, 1) := by decide +kernel
theorem dX6_undo_23 : decode cX6_undo 23 = .ok (.aload_n 0, 1) := by decide +kernel
theorem dX6_undo_24 : decode cX6_undo 24 = .ok (.dup, 1) := by decide +kernel
theorem dX6_undo_25 : decode cX6_undo 25 = .ok (.getfield 72, 3) := by decide +kernel
theorem dX6_undo_28 : decode cX6_undo 28 = .ok (.iconst 1, 1) := by decide +kernel
theorem dX6_undo_29 : decode cX6_undo 29 = .ok (.isub, 1) := by decide +kernel
theorem dX6_undo_30 : decode cX6_undo 30 = .ok (.putfield 72, 3) := by decide +kernel
theorem dX6_undo_33 : decode cX6_undo 33 = .ok (.aload_n 0, 1) := by decide +kernel
theorem dX6_undo_34 : decode cX6_undo 34 = .ok (.getfield 16, 3) := by decide +kernel
theorem dX6_undo_37 : decode cX6_undo 37 = .ok (.sipush 325, 3) := by decide +kernel
theorem dX6_undo_40 : decode cX6_undo 40 = .ok (.aload_n 0, 1) := by decide +kernel
theorem dX6_undo_41 : decode cX6_undo 41 = .ok (.getfield 72, 3) := by decide +kernel
theorem dX6_undo_44 : decode cX6_undo 44 = .ok (.imul, 1) := by decide +kernel
theorem dX6_undo_45 : decode cX6_undo 45 = .ok (.aload_n 0, 1) := by decide +kernel
theorem dX6_undo_46 : decode cX6_undo 46 = .ok (.getfield 7, 3) := by decide +kernel
theorem dX6_undo_49 : decode cX6_undo 49 = .ok (.iconst 0, 1) := by decide +kernel
theorem dX6_undo_50 : decode cX6_undo 50 = .ok (.invokestatic 75, 3) := by decide +kernel
theorem dX6_undo_53 : decode cX6_undo 53 = .ok (.aload_n 0, 1) := by decide +kernel
theorem dX6_undo_54 : decode cX6_undo 54 = .ok (.getfield 72, 3) := by decide +kernel
theorem dX6_undo_57 : decode cX6_undo 57 = .ok (.ireturn, 1) := by decide +kernel
theorem dX6_digest_0 : decode cX6_digest 0 = .ok (.aload_n 0, 1) := by decide +kernel
theorem dX6_digest_1 : decode cX6_digest 1 = .ok (.iconst 0, 1) := by decide +kernel
theorem dX6_digest_2 : decode cX6_digest 2 = .ok (.iconst 0, 1) := by decide +kernel
theorem dX6_digest_3 : decode cX6_digest 3 = .ok (.iconst 0, 1) := by decide +kernel
theorem dX6_digest_4 : decode cX6_digest 4 = .ok (.invokevirtual 146, 3) := by decide +kernel
theorem dX6_digest_7 : decode cX6_digest 7 = .ok (.pop, 1) := by decide +kernel
theorem dX6_digest_8 : decode cX6_digest 8 = .ok (.ldc2_w 248, 3) := by decide +kernel
theorem dX6_digest_11 : decode cX6_digest 11 = .ok (.aload_n 0, 1) := by decide +kernel
theorem dX6_digest_12 : decode cX6_digest 12 = .ok (.getfield 207, 3) := by decide +kernel
theorem dX6_digest_15 : decode cX6_digest 15 = .ok (.i2l, 1) := by decide +kernel
theorem dX6_digest_16 : decode cX6_digest 16 = .ok (.ladd, 1) := by decide +kernel
theorem dX6_digest_17 : decode cX6_digest 17 = .ok (.lstore_n 1, 1) := by decide +kernel
theorem dX6_digest_18 : decode cX6_digest 18 = .ok (.iconst 0, 1) := by decide +kernel
theorem dX6_digest_19 : decode cX6_digest 19 = .ok (.istore_n 3, 1) := by decide +kernel
theorem dX6_digest_20 : decode cX6_digest 20 = .ok (.iload_n 3, 1) := by decide +kernel
theorem dX6_digest_21 : decode cX6_digest 21 = .ok (.bipush 11, 2) := by decide +kernel
theorem dX6_digest_23 : decode cX6_digest 23 = .ok (.if_icmp .ge 22, 3) := by decide +kernel
theorem dX6_digest_26 : decode cX6_digest 26 = .ok (.ldc2_w 250, 3) := by decide +kernel
theorem dX6_digest_29 : decode cX6_digest 29 = .ok (.lload_n 1, 1) := by decide +kernel
theorem dX6_digest_30 : decode cX6_digest 30 = .ok (.lmul, 1) := by decide +kernel
theorem dX6_digest_31 : decode cX6_digest 31 = .ok (.aload_n 0, 1) := by decide +kernel
theorem dX6_digest_32 : decode cX6_digest 32 = .ok (.iload_n 3, 1) := by decide +kernel
theorem dX6_digest_33 : decode cX6_digest 33 = .ok (.invokevirtual 185, 3) := by decide +kernel
theorem dX6_digest_36 : decode cX6_digest 36 = .ok (.i2l, 1) := by decide +kernel
theorem dX6_digest_37 : decode cX6_digest 37 = .ok (.ladd, 1) := by decide +kernel
theorem dX6_digest_38 : decode cX6_digest 38 = .ok (.lstore_n 1, 1) := by decide +kernel
theorem dX6_digest_39 : decode cX6_digest 39 = .ok (.iinc 3 1, 3) := by decide +kernel
theorem dX6_digest_42 : decode cX6_digest 42 = .ok (.goto (-22), 3) := by decide +kernel
theorem dX6_digest_45 : decode cX6_digest 45 = .ok (.iconst 0, 1) := by decide +kernel
theorem dX6_digest_46 : decode cX6_digest 46 = .ok (.istore_n 3, 1) := by decide +kernel
theorem dX6_digest_47 : decode cX6_digest 47 = .ok (.iload_n 3, 1) := by decide +kernel
theorem dX6_digest_48 : decode cX6_digest 48 = .ok (.bipush 8, 2) := by decide +kernel
theorem dX6_digest_50 : decode cX6_digest 50 = .ok (.aload_n 0, 1) := by decide +kernel
theorem dX6_digest_51 : decode cX6_digest 51 = .ok (.getfield 7, 3) := by decide +kernel
theorem dX6_digest_54 : decode cX6_digest 54 = .ok (.iconst 1, 1) := by decide +kernel
theorem dX6_digest_55 : decode cX6_digest 55 = .ok (.iaload, 1) := by decide +kernel
theorem dX6_digest_56 : decode cX6_digest 56 = .ok (.imul, 1) := by decide +kernel
theorem dX6_digest_57 : decode cX6_digest 57 = .ok (.if_icmp .ge 25, 3) := by decide +kernel
theorem dX6_digest_60 : decode cX6_digest 60 = .ok (.ldc2_w 250, 3) := by decide +kernel
theorem dX6_digest_63 : decode cX6_digest 63 = .ok (.lload_n 1, 1) := by decide +kernel
theorem dX6_digest_64 : decode cX6_digest 64 = .ok (.lmul, 1) := by decide +kernel
theorem dX6_digest_65 : decode cX6_digest 65 = .ok (.aload_n 0, 1) := by decide +kernel
theorem dX6_digest_66 : decode cX6_digest 66 = .ok (.getfield 7, 3) := by decide +kernel
theorem dX6_digest_69 : decode cX6_digest 69 = .ok (.iconst 5, 1) := by decide +kernel
theorem dX6_digest_70 : decode cX6_digest 70 = .ok (.iload_n 3, 1) := by decide +kernel
theorem dX6_digest_71 : decode cX6_digest 71 = .ok (.iadd, 1) := by decide +kernel
theorem dX6_digest_72 : decode cX6_digest 72 = .ok (.iaload, 1) := by decide +kernel
theorem dX6_digest_73 : decode cX6_digest 73 = .ok (.i2l, 1) := by decide +kernel
theorem dX6_digest_74 : decode cX6_digest 74 = .ok (.ladd, 1) := by decide +kernel
theorem dX6_digest_75 : decode cX6_digest 75 = .ok (.lstore_n 1, 1) := by decide +kernel
theorem dX6_digest_76 : decode cX6_digest 76 = .ok (.iinc 3 1, 3) := by decide +kernel
theorem dX6_digest_79 : decode cX6_digest 79 = .ok (.goto (-32), 3) := by decide +kernel
theorem dX6_digest_82 : decode cX6_digest 82 = .ok (.iconst 0, 1) := by decide +kernel
theorem dX6_digest_83 : decode cX6_digest 83 = .ok (.istore_n 3, 1) := by decide +kernel
theorem dX6_digest_84 : decode cX6_digest 84 = .ok (.iload_n 3, 1) := by decide +kernel
theorem dX6_digest_85 : decode cX6_digest 85 = .ok (.aload_n 0, 1) := by decide +kernel
theorem dX6_digest_86 : decode cX6_digest 86 = .ok (.getfield 7, 3) := by decide +kernel
theorem dX6_digest_89 : decode cX6_digest 89 = .ok (.iconst 0, 1) := by decide +kernel
theorem dX6_digest_90 : decode cX6_digest 90 = .ok (.iaload, 1) := by decide +kernel
theorem dX6_digest_91 : decode cX6_digest 91 = .ok (.if_icmp .ge 57, 3) := by decide +kernel
theorem dX6_digest_94 : decode cX6_digest 94 = .ok (.ldc2_w 250, 3) := by decide +kernel
theorem dX6_digest_97 : decode cX6_digest 97 = .ok (.lload_n 1, 1) := by decide +kernel
theorem dX6_digest_98 : decode cX6_digest 98 = .ok (.lmul, 1) := by decide +kernel
theorem dX6_digest_99 : decode cX6_digest 99 = .ok (.aload_n 0, 1) := by decide +kernel
theorem dX6_digest_100 : decode cX6_digest 100 = .ok (.iload_n 3, 1) := by decide +kernel
theorem dX6_digest_101 : decode cX6_digest 101 = .ok (.invokevirtual 179, 3) := by decide +kernel
theorem dX6_digest_104 : decode cX6_digest 104 = .ok (.i2l, 1) := by decide +kernel
theorem dX6_digest_105 : decode cX6_digest 105 = .ok (.ladd, 1) := by decide +kernel
theorem dX6_digest_106 : decode cX6_digest 106 = .ok (.lstore_n 1, 1) := by decide +kernel
theorem dX6_digest_107 : decode cX6_digest 107 = .ok (.iconst 0, 1) := by decide +kernel
theorem dX6_digest_108 : decode cX6_digest 108 = .ok (.istore 4, 2) := by decide +kernel
theorem dX6_digest_110 : decode cX6_digest 110 = .ok (.iload 4, 2) := by decide +kernel
theorem dX6_digest_112 : decode cX6_digest 112 = .ok (.aload_n 0, 1) := by decide +kernel
theorem dX6_digest_113 : decode cX6_digest 113 = .ok (.getfield 7, 3) := by decide +kernel
theorem dX6_digest_116 : decode cX6_digest 116 = .ok (.iconst 0, 1) := by decide +kernel
theorem dX6_digest_117 : decode cX6_digest 117 = .ok (.iaload, 1) := by decide +kernel
theorem dX6_digest_118 : decode cX6_digest 118 = .ok (.if_icmp .ge 24, 3) := by decide +kernel
theorem dX6_digest_121 : decode cX6_digest 121 = .ok (.ldc2_w 250, 3) := by decide +kernel
theorem dX6_digest_124 : decode cX6_digest 124 = .ok (.lload_n 1, 1) := by decide +kernel
theorem dX6_digest_125 : decode cX6_digest 125 = .ok (.lmul, 1) := by decide +kernel
theorem dX6_digest_126 : decode cX6_digest 126 = .ok (.aload_n 0, 1) := by decide +kernel
theorem dX6_digest_127 : decode cX6_digest 127 = .ok (.iload_n 3, 1) := by decide +kernel
theorem dX6_digest_128 : decode cX6_digest 128 = .ok (.iload 4, 2) := by decide +kernel
theorem dX6_digest_130 : decode cX6_digest 130 = .ok (.invokevirtual 176, 3) := by decide +kernel
theorem dX6_digest_133 : decode cX6_digest 133 = .ok (.i2l, 1) := by decide +kernel
theorem dX6_digest_134 : decode cX6_digest 134 = .ok (.ladd, 1) := by decide +kernel
theorem dX6_digest_135 : decode cX6_digest 135 = .ok (.lstore_n 1, 1) := by decide +kernel
theorem dX6_digest_136 : decode cX6_digest 136 = .ok (.iinc 4 1, 3) := by decide +kernel
theorem dX6_digest_139 : decode cX6_digest 139 = .ok (.goto (-29), 3) := by decide +kernel
theorem dX6_digest_142 : decode cX6_digest 142 = .ok (.iinc 3 1, 3) := by decide +kernel
theorem dX6_digest_145 : decode cX6_digest 145 = .ok (.goto (-61), 3) := by decide +kernel
theorem dX6_digest_148 : decode cX6_digest 148 = .ok (.aload_n 0, 1) := by decide +kernel
theorem dX6_digest_149 : decode cX6_digest 149 = .ok (.aload_n 0, 1) := by decide +kernel
theorem dX6_digest_150 : decode cX6_digest 150 = .ok (.getfield 7, 3) := by decide +kernel
theorem dX6_digest_153 : decode cX6_digest 153 = .ok (.invokevirtual 138, 3) := by decide +kernel
theorem dX6_digest_156 : decode cX6_digest 156 = .ok (.pop, 1) := by decide +kernel
theorem dX6_digest_157 : decode cX6_digest 157 = .ok (.ldc2_w 250, 3) := by decide +kernel
theorem dX6_digest_160 : decode cX6_digest 160 = .ok (.lload_n 1, 1) := by decide +kernel
theorem dX6_digest_161 : decode cX6_digest 161 = .ok (.lmul, 1) := by decide +kernel
theorem dX6_digest_162 : decode cX6_digest 162 = .ok (.aload_n 0, 1) := by decide +kernel
theorem dX6_digest_163 : decode cX6_digest 163 = .ok (.getfield 121, 3) := by decide +kernel
theorem dX6_digest_166 : decode cX6_digest 166 = .ok (.i2l, 1) := by decide +kernel
theorem dX6_digest_167 : decode cX6_digest 167 = .ok (.ladd, 1) := by decide +kernel
theorem dX6_digest_168 : decode cX6_digest 168 = .ok (.lstore_n 1, 1) := by decide +kernel
theorem dX6_digest_169 : decode cX6_digest 169 = .ok (.ldc2_w 250, 3) := by decide +kernel
theorem dX6_digest_172 : decode cX6_digest 172 = .ok (.lload_n 1, 1) := by decide +kernel
theorem dX6_digest_173 : decode cX6_digest 173 = .ok (.lmul, 1) := by decide +kernel
theorem dX6_digest_174 : decode cX6_digest 174 = .ok (.aload_n 0, 1) := by decide +kernel
theorem dX6_digest_175 : decode cX6_digest 175 = .ok (.invokevirtual 204, 3) := by decide +kernel
theorem dX6_digest_178 : decode cX6_digest 178 = .ok (.i2l, 1) := by decide +kernel
theorem dX6_digest_179 : decode cX6_digest 179 = .ok (.ladd, 1) := by decide +kernel
theorem dX6_digest_180 : decode cX6_digest 180 = .ok (.lstore_n 1, 1) := by decide +kernel
theorem dX6_digest_181 : decode cX6_digest 181 = .ok (.ldc2_w 250, 3) := by decide +kernel
theorem dX6_digest_184 : decode cX6_digest 184 = .ok (.lload_n 1, 1) := by decide +kernel
theorem dX6_digest_185 : decode cX6_digest 185 = .ok (.lmul, 1) := by decide +kernel
theorem dX6_digest_186 : decode cX6_digest 186 = .ok (.aload_n 0, 1) := by decide +kernel
theorem dX6_digest_187 : decode cX6_digest 187 = .ok (.getfield 72, 3) := by decide +kernel
theorem dX6_digest_190 : decode cX6_digest 190 = .ok (.i2l, 1) := by decide +kernel
theorem dX6_digest_191 : decode cX6_digest 191 = .ok (.ladd, 1) := by decide +kernel
theorem dX6_digest_192 : decode cX6_digest 192 = .ok (.lreturn, 1) := by decide +kernel
end
section
/-! decode rows -/
theorem dJ9_max_7cf53_0 : decode cJ9_max_7cf53 0 = .ok (.iload_n 0, 1) := by decide +kernel
theorem dJ9_max_7cf53_1 : decode cJ9_max_7cf53 1 = .ok (.iload_n 1, 1) := by decide +kernel
theorem dJ9_max_7cf53_2 : decode cJ9_max_7cf53 2 = .ok (.if_icmp .lt 7, 3) := by decide +kernel
theorem dJ9_max_7cf53_5 : decode cJ9_max_7cf53 5 = .ok (.iload_n 0, 1) := by decide +kernel
theorem dJ9_max_7cf53_6 : decode cJ9_max_7cf53 6 = .ok (.goto 4, 3) := by decide +kernel
theorem dJ9_max_7cf53_9 : decode cJ9_max_7cf53 9 = .ok (.iload_n 1, 1) := by decide +kernel
theorem dJ9_max_7cf53_10 : decode cJ9_max_7cf53 10 = .ok (.ireturn, 1) := by decide +kernel
theorem dJ9_min_7cf53_0 : decode cJ9_min_7cf53 0 = .ok (.iload_n 0, 1) := by decide +kernel
theorem dJ9_min_7cf53_1 : decode cJ9_min_7cf53 1 = .ok (.iload_n 1, 1) := by decide +kernel
theorem dJ9_min_7cf53_2 : decode cJ9_min_7cf53 2 = .ok (.if_icmp .gt 7, 3) := by decide +kernel
theorem dJ9_min_7cf53_5 : decode cJ9_min_7cf53 5 = .ok (.iload_n 0, 1) := by decide +kernel
theorem dJ9_min_7cf53_6 : decode cJ9_min_7cf53 6 = .ok (.goto 4, 3) := by decide +kernel
theorem dJ9_min_7cf53_9 : decode cJ9_min_7cf53 9 = .ok (.iload_n 1, 1) := by decide +kernel
theorem dJ9_min_7cf53_10 : decode cJ9_min_7cf53 10 = .ok (.ireturn, 1) := by decide +kernel
theorem dL_begin_0 : decode cL_begin 0 = .ok (.aload_n 2, 1) := by decide +kernel
theorem dL_begin_1 : decode cL_begin 1 = .ok (.iconst 0, 1) := by decide +kernel
theorem dL_begin_2 : decode cL_begin 2 = .ok (.aload_n 0, 1) := by decide +kernel
theorem dL_begin_3 : decode cL_begin 3 = .ok (.iload_n 1, 1) := by decide +kernel
theorem dL_begin_4 : decode cL_begin 4 = .ok (.invokevirtual 7, 3) := by decide +kernel
theorem dL_begin_7 : decode cL_begin 7 = .ok (.i2l, 1) := by decide +kernel
theorem dL_begin_8 : decode cL_begin 8 = .ok (.lastore, 1) := by decide +kernel
theorem dL_begin_9 : decode cL_begin 9 = .ok (.goto 6, 3) := by decide +kernel
theorem dL_begin_12 : decode cL_begin 12 = .ok (.astore_n 3, 1) := by decide +kernel
theorem dL_begin_13 : decode cL_begin 13 = .ok (.iconst 1, 1) := by decide +kernel
theorem dL_begin_14 : decode cL_begin 14 = .ok (.ireturn, 1) := by decide +kernel
theorem dL_begin_15 : decode cL_begin 15 = .ok (.iconst 0, 1) := by decide +kernel
theorem dL_begin_16 : decode cL_begin 16 = .ok (.ireturn, 1) := by decide +kernel
theorem dL_promise_0 : decode cL_promise 0 = .ok (.aload 5, 2) := by decide +kernel
theorem dL_promise_2 : decode cL_promise 2 = .ok (.iconst 0, 1) := by decide +kernel
theorem dL_promise_3 : decode cL_promise 3 = .ok (.aload_n 0, 1) := by decide +kernel
theorem dL_promise_4 : decode cL_promise 4 = .ok (.iload_n 1, 1) := by decide +kernel
theorem dL_promise_5 : decode cL_promise 5 = .ok (.iload_n 2, 1) := by decide +kernel
theorem dL_promise_6 : decode cL_promise 6 = .ok (.iload_n 3, 1) := by decide +kernel
theorem dL_promise_7 : decode cL_promise 7 = .ok (.iload 4, 2) := by decide +kernel
theorem dL_promise_9 : decode cL_promise 9 = .ok (.invokevirtual 15, 3) := by decide +kernel
theorem dL_promise_12 : decode cL_promise 12 = .ok (.i2l, 1) := by decide +kernel
theorem dL_promise_13 : decode cL_promise 13 = .ok (.lastore, 1) := by decide +kernel
theorem dL_promise_14 : decode cL_promise 14 = .ok (.goto 15, 3) := by decide +kernel
theorem dL_promise_17 : decode cL_promise 17 = .ok (.astore 6, 2) := by decide +kernel
theorem dL_promise_19 : decode cL_promise 19 = .ok (.iconst 1, 1) := by decide +kernel
theorem dL_promise_20 : decode cL_promise 20 = .ok (.ireturn, 1) := by decide +kernel
theorem dL_promise_21 : decode cL_promise 21 = .ok (.astore 6, 2) := by decide +kernel
theorem dL_promise_23 : decode cL_promise 23 = .ok (.iconst 2, 1) := by decide +kernel
theorem dL_promise_24 : decode cL_promise 24 = .ok (.ireturn, 1) := by decide +kernel
theorem dL_promise_25 : decode cL_promise 25 = .ok (.astore 6, 2) := by decide +kernel
theorem dL_promise_27 : decode cL_promise 27 = .ok (.iconst 3, 1) := by decide +kernel
theorem dL_promise_28 : decode cL_promise 28 = .ok (.ireturn, 1) := by decide +kernel
theorem dL_promise_29 : decode cL_promise 29 = .ok (.iconst 0, 1) := by decide +kernel
theorem dL_promise_30 : decode cL_promise 30 = .ok (.ireturn, 1) := by decide +kernel
theorem dL_pay_0 : decode cL_pay 0 = .ok (.aload_n 3, 1) := by decide +kernel
theorem dL_pay_1 : decode cL_pay 1 = .ok (.iconst 0, 1) := by decide +kernel
theorem dL_pay_2 : decode cL_pay 2 = .ok (.aload_n 0, 1) := by decide +kernel
theorem dL_pay_3 : decode cL_pay 3 = .ok (.iload_n 1, 1) := by decide +kernel
theorem dL_pay_4 : decode cL_pay 4 = .ok (.iload_n 2, 1) := by decide +kernel
theorem dL_pay_5 : decode cL_pay 5 = .ok (.invokevirtual 23, 3) := by decide +kernel
theorem dL_pay_8 : decode cL_pay 8 = .ok (.i2l, 1) := by decide +kernel
theorem dL_pay_9 : decode cL_pay 9 = .ok (.lastore, 1) := by decide +kernel
theorem dL_pay_10 : decode cL_pay 10 = .ok (.goto 15, 3) := by decide +kernel
theorem dL_pay_13 : decode cL_pay 13 = .ok (.astore 4, 2) := by decide +kernel
theorem dL_pay_15 : decode cL_pay 15 = .ok (.iconst 1, 1) := by decide +kernel
theorem dL_pay_16 : decode cL_pay 16 = .ok (.ireturn, 1) := by decide +kernel
theorem dL_pay_17 : decode cL_pay 17 = .ok (.astore 4, 2) := by decide +kernel
theorem dL_pay_19 : decode cL_pay 19 = .ok (.iconst 2, 1) := by decide +kernel
theorem dL_pay_20 : decode cL_pay 20 = .ok (.ireturn, 1) := by decide +kernel
theorem dL_pay_21 : decode cL_pay 21 = .ok (.astore 4, 2) := by decide +kernel
theorem dL_pay_23 : decode cL_pay 23 = .ok (.iconst 3, 1) := by decide +kernel
theorem dL_pay_24 : decode cL_pay 24 = .ok (.ireturn, 1) := by decide +kernel
theorem dL_pay_25 : decode cL_pay 25 = .ok (.iconst 0, 1) := by decide +kernel
theorem dL_pay_26 : decode cL_pay 26 = .ok (.ireturn, 1) := by decide +kernel
theorem dL_dispute_0 : decode cL_dispute 0 = .ok (.aload_n 2, 1) := by decide +kernel
theorem dL_dispute_1 : decode cL_dispute 1 = .ok (.iconst 0, 1) := by decide +kernel
theorem dL_dispute_2 : decode cL_dispute 2 = .ok (.aload_n 0, 1) := by decide +kernel
theorem dL_dispute_3 : decode cL_dispute 3 = .ok (.iload_n 1, 1) := by decide +kernel
theorem dL_dispute_4 : decode cL_dispute 4 = .ok (.invokevirtual 27, 3) := by decide +kernel
theorem dL_dispute_7 : decode cL_dispute 7 = .ok (.i2l, 1) := by decide +kernel
theorem dL_dispute_8 : decode cL_dispute 8 = .ok (.lastore, 1) := by decide +kernel
theorem dL_dispute_9 : decode cL_dispute 9 = .ok (.goto 9, 3) := by decide +kernel
theorem dL_dispute_12 : decode cL_dispute 12 = .ok (.astore_n 3, 1) := by decide +kernel
theorem dL_dispute_13 : decode cL_dispute 13 = .ok (.iconst 1, 1) := by decide +kernel
theorem dL_dispute_14 : decode cL_dispute 14 = .ok (.ireturn, 1) := by decide +kernel
theorem dL_dispute_15 : decode cL_dispute 15 = .ok (.astore_n 3, 1) := by decide +kernel
theorem dL_dispute_16 : decode cL_dispute 16 = .ok (.iconst 2, 1) := by decide +kernel
theorem dL_dispute_17 : decode cL_dispute 17 = .ok (.ireturn, 1) := by decide +kernel
theorem dL_dispute_18 : decode cL_dispute 18 = .ok (.iconst 0, 1) := by decide +kernel
theorem dL_dispute_19 : decode cL_dispute 19 = .ok (.ireturn, 1) := by decide +kernel
theorem dL_settle_0 : decode cL_settle 0 = .ok (.aload_n 2, 1) := by decide +kernel
theorem dL_settle_1 : decode cL_settle 1 = .ok (.iconst 0, 1) := by decide +kernel
theorem dL_settle_2 : decode cL_settle 2 = .ok (.aload_n 0, 1) := by decide +kernel
theorem dL_settle_3 : decode cL_settle 3 = .ok (.iload_n 1, 1) := by decide +kernel
theorem dL_settle_4 : decode cL_settle 4 = .ok (.invokevirtual 30, 3) := by decide +kernel
theorem dL_settle_7 : decode cL_settle 7 = .ok (.i2l, 1) := by decide +kernel
theorem dL_settle_8 : decode cL_settle 8 = .ok (.lastore, 1) := by decide +kernel
theorem dL_settle_9 : decode cL_settle 9 = .ok (.goto 9, 3) := by decide +kernel
theorem dL_settle_12 : decode cL_settle 12 = .ok (.astore_n 3, 1) := by decide +kernel
theorem dL_settle_13 : decode cL_settle 13 = .ok (.iconst 1, 1) := by decide +kernel
theorem dL_settle_14 : decode cL_settle 14 = .ok (.ireturn, 1) := by decide +kernel
theorem dL_settle_15 : decode cL_settle 15 = .ok (.astore_n 3, 1) := by decide +kernel
theorem dL_settle_16 : decode cL_settle 16 = .ok (.iconst 2, 1) := by decide +kernel
theorem dL_settle_17 : decode cL_settle 17 = .ok (.ireturn, 1) := by decide +kernel
theorem dL_settle_18 : decode cL_settle 18 = .ok (.iconst 0, 1) := by decide +kernel
theorem dL_settle_19 : decode cL_settle 19 = .ok (.ireturn, 1) := by decide +kernel
theorem dL_discharge_0 : decode cL_discharge 0 = .ok (.aload_n 3, 1) := by decide +kernel
theorem dL_discharge_1 : decode cL_discharge 1 = .ok (.iconst 0, 1) := by decide +kernel
theorem dL_discharge_2 : decode cL_discharge 2 = .ok (.aload_n 0, 1) := by decide +kernel
theorem dL_discharge_3 : decode cL_discharge 3 = .ok (.iload_n 1, 1) := by decide +kernel
theorem dL_discharge_4 : decode cL_discharge 4 = .ok (.iload_n 2, 1) := by decide +kernel
theorem dL_discharge_5 : decode cL_discharge 5 = .ok (.invokevirtual 33, 3) := by decide +kernel
theorem dL_discharge_8 : decode cL_discharge 8 = .ok (.i2l, 1) := by decide +kernel
theorem dL_discharge_9 : decode cL_discharge 9 = .ok (.lastore, 1) := by decide +kernel
theorem dL_discharge_10 : decode cL_discharge 10 = .ok (.goto 15, 3) := by decide +kernel
theorem dL_discharge_13 : decode cL_discharge 13 = .ok (.astore 4, 2) := by decide +kernel
theorem dL_discharge_15 : decode cL_discharge 15 = .ok (.iconst 1, 1) := by decide +kernel
theorem dL_discharge_16 : decode cL_discharge 16 = .ok (.ireturn, 1) := by decide +kernel
theorem dL_discharge_17 : decode cL_discharge 17 = .ok (.astore 4, 2) := by decide +kernel
theorem dL_discharge_19 : decode cL_discharge 19 = .ok (.iconst 2, 1) := by decide +kernel
theorem dL_discharge_20 : decode cL_discharge 20 = .ok (.ireturn, 1) := by decide +kernel
theorem dL_discharge_21 : decode cL_discharge 21 = .ok (.astore 4, 2) := by decide +kernel
theorem dL_discharge_23 : decode cL_discharge 23 = .ok (.iconst 3, 1) := by decide +kernel
theorem dL_discharge_24 : decode cL_discharge 24 = .ok (.ireturn, 1) := by decide +kernel
theorem dL_discharge_25 : decode cL_discharge 25 = .ok (.iconst 0, 1) := by decide +kernel
theorem dL_discharge_26 : decode cL_discharge 26 = .ok (.ireturn, 1) := by decide +kernel
theorem dL_dischargeBest_0 : decode cL_dischargeBest 0 = .ok (.aload_n 1, 1) := by decide +kernel
theorem dL_dischargeBest_1 : decode cL_dischargeBest 1 = .ok (.iconst 0, 1) := by decide +kernel
theorem dL_dischargeBest_2 : decode cL_dischargeBest 2 = .ok (.aload_n 0, 1) := by decide +kernel
theorem dL_dischargeBest_3 : decode cL_dischargeBest 3 = .ok (.invokevirtual 36, 3) := by decide +kernel
theorem dL_dischargeBest_6 : decode cL_dischargeBest 6 = .ok (.i2l, 1) := by decide +kernel
theorem dL_dischargeBest_7 : decode cL_dischargeBest 7 = .ok (.lastore, 1) := by decide +kernel
theorem dL_dischargeBest_8 : decode cL_dischargeBest 8 = .ok (.goto 6, 3) := by decide +kernel
theorem dL_dischargeBest_11 : decode cL_dischargeBest 11 = .ok (.astore_n 2, 1) := by decide +kernel
theorem dL_dischargeBest_12 : decode cL_dischargeBest 12 = .ok (.iconst 1, 1) := by decide +kernel
theorem dL_dischargeBest_13 : decode cL_dischargeBest 13 = .ok (.ireturn, 1) := by decide +kernel
theorem dL_dischargeBest_14 : decode cL_dischargeBest 14 = .ok (.iconst 0, 1) := by decide +kernel
theorem dL_dischargeBest_15 : decode cL_dischargeBest 15 = .ok (.ireturn, 1) := by decide +kernel
theorem dL_promiseOf_0 : decode cL_promiseOf 0 = .ok (.aload_n 3, 1) := by decide +kernel
theorem dL_promiseOf_1 : decode cL_promiseOf 1 = .ok (.iconst 0, 1) := by decide +kernel
theorem dL_promiseOf_2 : decode cL_promiseOf 2 = .ok (.aload_n 0, 1) := by decide +kernel
theorem dL_promiseOf_3 : decode cL_promiseOf 3 = .ok (.iload_n 1, 1) := by decide +kernel
theorem dL_promiseOf_4 : decode cL_promiseOf 4 = .ok (.iload_n 2, 1) := by decide +kernel
theorem dL_promiseOf_5 : decode cL_promiseOf 5 = .ok (.invokevirtual 40, 3) := by decide +kernel
theorem dL_promiseOf_8 : decode cL_promiseOf 8 = .ok (.i2l, 1) := by decide +kernel
theorem dL_promiseOf_9 : decode cL_promiseOf 9 = .ok (.lastore, 1) := by decide +kernel
theorem dL_promiseOf_10 : decode cL_promiseOf 10 = .ok (.goto 11, 3) := by decide +kernel
theorem dL_promiseOf_13 : decode cL_promiseOf 13 = .ok (.astore 4, 2) := by decide +kernel
theorem dL_promiseOf_15 : decode cL_promiseOf 15 = .ok (.iconst 1, 1) := by decide +kernel
theorem dL_promiseOf_16 : decode cL_promiseOf 16 = .ok (.ireturn, 1) := by decide +kernel
theorem dL_promiseOf_17 : decode cL_promiseOf 17 = .ok (.astore 4, 2) := by decide +kernel
theorem dL_promiseOf_19 : decode cL_promiseOf 19 = .ok (.iconst 2, 1) := by decide +kernel
theorem dL_promiseOf_20 : decode cL_promiseOf 20 = .ok (.ireturn, 1) := by decide +kernel
theorem dL_promiseOf_21 : decode cL_promiseOf 21 = .ok (.iconst 0, 1) := by decide +kernel
theorem dL_promiseOf_22 : decode cL_promiseOf 22 = .ok (.ireturn, 1) := by decide +kernel
theorem dL_debt_0 : decode cL_debt 0 = .ok (.aload_n 3, 1) := by decide +kernel
theorem dL_debt_1 : decode cL_debt 1 = .ok (.iconst 0, 1) := by decide +kernel
theorem dL_debt_2 : decode cL_debt 2 = .ok (.aload_n 0, 1) := by decide +kernel
theorem dL_debt_3 : decode cL_debt 3 = .ok (.iload_n 1, 1) := by decide +kernel
theorem dL_debt_4 : decode cL_debt 4 = .ok (.iload_n 2, 1) := by decide +kernel
theorem dL_debt_5 : decode cL_debt 5 = .ok (.invokevirtual 43, 3) := by decide +kernel
theorem dL_debt_8 : decode cL_debt 8 = .ok (.i2l, 1) := by decide +kernel
theorem dL_debt_9 : decode cL_debt 9 = .ok (.lastore, 1) := by decide +kernel
theorem dL_debt_10 : decode cL_debt 10 = .ok (.goto 7, 3) := by decide +kernel
theorem dL_debt_13 : decode cL_debt 13 = .ok (.astore 4, 2) := by decide +kernel
theorem dL_debt_15 : decode cL_debt 15 = .ok (.iconst 1, 1) := by decide +kernel
theorem dL_debt_16 : decode cL_debt 16 = .ok (.ireturn, 1) := by decide +kernel
theorem dL_debt_17 : decode cL_debt 17 = .ok (.iconst 0, 1) := by decide +kernel
theorem dL_debt_18 : decode cL_debt 18 = .ok (.ireturn, 1) := by decide +kernel
theorem dL_net_0 : decode cL_net 0 = .ok (.aload_n 2, 1) := by decide +kernel
theorem dL_net_1 : decode cL_net 1 = .ok (.iconst 0, 1) := by decide +kernel
theorem dL_net_2 : decode cL_net 2 = .ok (.aload_n 0, 1) := by decide +kernel
theorem dL_net_3 : decode cL_net 3 = .ok (.iload_n 1, 1) := by decide +kernel
theorem dL_net_4 : decode cL_net 4 = .ok (.invokevirtual 46, 3) := by decide +kernel
theorem dL_net_7 : decode cL_net 7 = .ok (.i2l, 1) := by decide +kernel
theorem dL_net_8 : decode cL_net 8 = .ok (.lastore, 1) := by decide +kernel
theorem dL_net_9 : decode cL_net 9 = .ok (.goto 6, 3) := by decide +kernel
theorem dL_net_12 : decode cL_net 12 = .ok (.astore_n 3, 1) := by decide +kernel
theorem dL_net_13 : decode cL_net 13 = .ok (.iconst 1, 1) := by decide +kernel
theorem dL_net_14 : decode cL_net 14 = .ok (.ireturn, 1) := by decide +kernel
theorem dL_net_15 : decode cL_net 15 = .ok (.iconst 0, 1) := by decide +kernel
theorem dL_net_16 : decode cL_net 16 = .ok (.ireturn, 1) := by decide +kernel
theorem dL_ring_0 : decode cL_ring 0 = .ok (.aload_n 3, 1) := by decide +kernel
theorem dL_ring_1 : decode cL_ring 1 = .ok (.iconst 0, 1) := by decide +kernel
theorem dL_ring_2 : decode cL_ring 2 = .ok (.aload_n 0, 1) := by decide +kernel
theorem dL_ring_3 : decode cL_ring 3 = .ok (.iload_n 1, 1) := by decide +kernel
theorem dL_ring_4 : decode cL_ring 4 = .ok (.iload_n 2, 1) := by decide +kernel
theorem dL_ring_5 : decode cL_ring 5 = .ok (.invokevirtual 49, 3) := by decide +kernel
theorem dL_ring_8 : decode cL_ring 8 = .ok (.i2l, 1) := by decide +kernel
theorem dL_ring_9 : decode cL_ring 9 = .ok (.lastore, 1) := by decide +kernel
theorem dL_ring_10 : decode cL_ring 10 = .ok (.goto 11, 3) := by decide +kernel
theorem dL_ring_13 : decode cL_ring 13 = .ok (.astore 4, 2) := by decide +kernel
theorem dL_ring_15 : decode cL_ring 15 = .ok (.iconst 1, 1) := by decide +kernel
theorem dL_ring_16 : decode cL_ring 16 = .ok (.ireturn, 1) := by decide +kernel
theorem dL_ring_17 : decode cL_ring 17 = .ok (.astore 4, 2) := by decide +kernel
theorem dL_ring_19 : decode cL_ring 19 = .ok (.iconst 2, 1) := by decide +kernel
theorem dL_ring_20 : decode cL_ring 20 = .ok (.ireturn, 1) := by decide +kernel
theorem dL_ring_21 : decode cL_ring 21 = .ok (.iconst 0, 1) := by decide +kernel
theorem dL_ring_22 : decode cL_ring 22 = .ok (.ireturn, 1) := by decide +kernel
theorem dL_room_0 : decode cL_room 0 = .ok (.aload_n 2, 1) := by decide +kernel
theorem dL_room_1 : decode cL_room 1 = .ok (.iconst 0, 1) := by decide +kernel
theorem dL_room_2 : decode cL_room 2 = .ok (.aload_n 0, 1) := by decide +kernel
theorem dL_room_3 : decode cL_room 3 = .ok (.iload_n 1, 1) := by decide +kernel
theorem dL_room_4 : decode cL_room 4 = .ok (.invokevirtual 52, 3) := by decide +kernel
theorem dL_room_7 : decode cL_room 7 = .ok (.i2l, 1) := by decide +kernel
theorem dL_room_8 : decode cL_room 8 = .ok (.lastore, 1) := by decide +kernel
theorem dL_room_9 : decode cL_room 9 = .ok (.goto 6, 3) := by decide +kernel
theorem dL_room_12 : decode cL_room 12 = .ok (.astore_n 3, 1) := by decide +kernel
theorem dL_room_13 : decode cL_room 13 = .ok (.iconst 1, 1) := by decide +kernel
theorem dL_room_14 : decode cL_room 14 = .ok (.ireturn, 1) := by decide +kernel
theorem dL_room_15 : decode cL_room 15 = .ok (.iconst 0, 1) := by decide +kernel
theorem dL_room_16 : decode cL_room 16 = .ok (.ireturn, 1) := by decide +kernel
theorem dL_value_0 : decode cL_value 0 = .ok (.aload_n 2, 1) := by decide +kernel
theorem dL_value_1 : decode cL_value 1 = .ok (.iconst 0, 1) := by decide +kernel
theorem dL_value_2 : decode cL_value 2 = .ok (.aload_n 0, 1) := by decide +kernel
theorem dL_value_3 : decode cL_value 3 = .ok (.iload_n 1, 1) := by decide +kernel
theorem dL_value_4 : decode cL_value 4 = .ok (.invokevirtual 55, 3) := by decide +kernel
theorem dL_value_7 : decode cL_value 7 = .ok (.i2l, 1) := by decide +kernel
theorem dL_value_8 : decode cL_value 8 = .ok (.lastore, 1) := by decide +kernel
theorem dL_value_9 : decode cL_value 9 = .ok (.goto 6, 3) := by decide +kernel
theorem dL_value_12 : decode cL_value 12 = .ok (.astore_n 3, 1) := by decide +kernel
theorem dL_value_13 : decode cL_value 13 = .ok (.iconst 1, 1) := by decide +kernel
theorem dL_value_14 : decode cL_value 14 = .ok (.ireturn, 1) := by decide +kernel
theorem dL_value_15 : decode cL_value 15 = .ok (.iconst 0, 1) := by decide +kernel
theorem dL_value_16 : decode cL_value 16 = .ok (.ireturn, 1) := by decide +kernel
theorem dL_saving_0 : decode cL_saving 0 = .ok (.aload_n 2, 1) := by decide +kernel
theorem dL_saving_1 : decode cL_saving 1 = .ok (.iconst 0, 1) := by decide +kernel
theorem dL_saving_2 : decode cL_saving 2 = .ok (.aload_n 0, 1) := by decide +kernel
theorem dL_saving_3 : decode cL_saving 3 = .ok (.iload_n 1, 1) := by decide +kernel
theorem dL_saving_4 : decode cL_saving 4 = .ok (.invokevirtual 58, 3) := by decide +kernel
theorem dL_saving_7 : decode cL_saving 7 = .ok (.i2l, 1) := by decide +kernel
theorem dL_saving_8 : decode cL_saving 8 = .ok (.lastore, 1) := by decide +kernel
theorem dL_saving_9 : decode cL_saving 9 = .ok (.goto 6, 3) := by decide +kernel
theorem dL_saving_12 : decode cL_saving 12 = .ok (.astore_n 3, 1) := by decide +kernel
theorem dL_saving_13 : decode cL_saving 13 = .ok (.iconst 1, 1) := by decide +kernel
theorem dL_saving_14 : decode cL_saving 14 = .ok (.ireturn, 1) := by decide +kernel
theorem dL_saving_15 : decode cL_saving 15 = .ok (.iconst 0, 1) := by decide +kernel
theorem dL_saving_16 : decode cL_saving 16 = .ok (.ireturn, 1) := by decide +kernel
theorem dL_ringsWithout_0 : decode cL_ringsWithout 0 = .ok (.aload_n 2, 1) := by decide +kernel
theorem dL_ringsWithout_1 : decode cL_ringsWithout 1 = .ok (.iconst 0, 1) := by decide +kernel
theorem dL_ringsWithout_2 : decode cL_ringsWithout 2 = .ok (.aload_n 0, 1) := by decide +kernel
theorem dL_ringsWithout_3 : decode cL_ringsWithout 3 = .ok (.iload_n 1, 1) := by decide +kernel
theorem dL_ringsWithout_4 : decode cL_ringsWithout 4 = .ok (.invokevirtual 61, 3) := by decide +kernel
theorem dL_ringsWithout_7 : decode cL_ringsWithout 7 = .ok (.i2l, 1) := by decide +kernel
theorem dL_ringsWithout_8 : decode cL_ringsWithout 8 = .ok (.lastore, 1) := by decide +kernel
theorem dL_ringsWithout_9 : decode cL_ringsWithout 9 = .ok (.goto 6, 3) := by decide +kernel
theorem dL_ringsWithout_12 : decode cL_ringsWithout 12 = .ok (.astore_n 3, 1) := by decide +kernel
theorem dL_ringsWithout_13 : decode cL_ringsWithout 13 = .ok (.iconst 1, 1) := by decide +kernel
theorem dL_ringsWithout_14 : decode cL_ringsWithout 14 = .ok (.ireturn, 1) := by decide +kernel
theorem dL_ringsWithout_15 : decode cL_ringsWithout 15 = .ok (.iconst 0, 1) := by decide +kernel
theorem dL_ringsWithout_16 : decode cL_ringsWithout 16 = .ok (.ireturn, 1) := by decide +kernel
theorem dL_mutual_0 : decode cL_mutual 0 = .ok (.aload_n 2, 1) := by decide +kernel
theorem dL_mutual_1 : decode cL_mutual 1 = .ok (.iconst 0, 1) := by decide +kernel
theorem dL_mutual_2 : decode cL_mutual 2 = .ok (.aload_n 0, 1) := by decide +kernel
theorem dL_mutual_3 : decode cL_mutual 3 = .ok (.iload_n 1, 1) := by decide +kernel
theorem dL_mutual_4 : decode cL_mutual 4 = .ok (.invokevirtual 64, 3) := by decide +kernel
theorem dL_mutual_7 : decode cL_mutual 7 = .ok (.i2l, 1) := by decide +kernel
theorem dL_mutual_8 : decode cL_mutual 8 = .ok (.lastore, 1) := by decide +kernel
theorem dL_mutual_9 : decode cL_mutual 9 = .ok (.goto 6, 3) := by decide +kernel
theorem dL_mutual_12 : decode cL_mutual 12 = .ok (.astore_n 3, 1) := by decide +kernel
theorem dL_mutual_13 : decode cL_mutual 13 = .ok (.iconst 1, 1) := by decide +kernel
theorem dL_mutual_14 : decode cL_mutual 14 = .ok (.ireturn, 1) := by decide +kernel
theorem dL_mutual_15 : decode cL_mutual 15 = .ok (.iconst 0, 1) := by decide +kernel
theorem dL_mutual_16 : decode cL_mutual 16 = .ok (.ireturn, 1) := by decide +kernel
theorem dL_append_0 : decode cL_append 0 = .ok (.aload_n 2, 1) := by decide +kernel
theorem dL_append_1 : decode cL_append 1 = .ok (.iconst 0, 1) := by decide +kernel
theorem dL_append_2 : decode cL_append 2 = .ok (.aload_n 0, 1) := by decide +kernel
theorem dL_append_3 : decode cL_append 3 = .ok (.iload_n 1, 1) := by decide +kernel
theorem dL_append_4 : decode cL_append 4 = .ok (.invokevirtual 67, 3) := by decide +kernel
theorem dL_append_7 : decode cL_append 7 = .ok (.i2l, 1) := by decide +kernel
theorem dL_append_8 : decode cL_append 8 = .ok (.lastore, 1) := by decide +kernel
theorem dL_append_9 : decode cL_append 9 = .ok (.goto 9, 3) := by decide +kernel
theorem dL_append_12 : decode cL_append 12 = .ok (.astore_n 3, 1) := by decide +kernel
theorem dL_append_13 : decode cL_append 13 = .ok (.iconst 1, 1) := by decide +kernel
theorem dL_append_14 : decode cL_append 14 = .ok (.ireturn, 1) := by decide +kernel
theorem dL_append_15 : decode cL_append 15 = .ok (.astore_n 3, 1) := by decide +kernel
theorem dL_append_16 : decode cL_append 16 = .ok (.iconst 2, 1) := by decide +kernel
theorem dL_append_17 : decode cL_append 17 = .ok (.ireturn, 1) := by decide +kernel
theorem dL_append_18 : decode cL_append 18 = .ok (.iconst 0, 1) := by decide +kernel
theorem dL_append_19 : decode cL_append 19 = .ok (.ireturn, 1) := by decide +kernel
theorem dL_undo_0 : decode cL_undo 0 = .ok (.aload_n 1, 1) := by decide +kernel
theorem dL_undo_1 : decode cL_undo 1 = .ok (.iconst 0, 1) := by decide +kernel
theorem dL_undo_2 : decode cL_undo 2 = .ok (.aload_n 0, 1) := by decide +kernel
theorem dL_undo_3 : decode cL_undo 3 = .ok (.invokevirtual 70, 3) := by decide +kernel
theorem dL_undo_6 : decode cL_undo 6 = .ok (.i2l, 1) := by decide +kernel
theorem dL_undo_7 : decode cL_undo 7 = .ok (.lastore, 1) := by decide +kernel
theorem dL_undo_8 : decode cL_undo 8 = .ok (.goto 6, 3) := by decide +kernel
theorem dL_undo_11 : decode cL_undo 11 = .ok (.astore_n 2, 1) := by decide +kernel
theorem dL_undo_12 : decode cL_undo 12 = .ok (.iconst 1, 1) := by decide +kernel
theorem dL_undo_13 : decode cL_undo 13 = .ok (.ireturn, 1) := by decide +kernel
theorem dL_undo_14 : decode cL_undo 14 = .ok (.iconst 0, 1) := by decide +kernel
theorem dL_undo_15 : decode cL_undo 15 = .ok (.ireturn, 1) := by decide +kernel
theorem dL_law_0 : decode cL_law 0 = .ok (.new 8, 3) := by decide +kernel
theorem dL_law_3 : decode cL_law 3 = .ok (.dup, 1) := by decide +kernel
theorem dL_law_4 : decode cL_law 4 = .ok (.invokespecial 73, 3) := by decide +kernel
theorem dL_law_7 : decode cL_law 7 = .ok (.astore_n 1, 1) := by decide +kernel
theorem dL_law_8 : decode cL_law 8 = .ok (.new 74, 3) := by decide +kernel
theorem dL_law_11 : decode cL_law 11 = .ok (.dup, 1) := by decide +kernel
theorem dL_law_12 : decode cL_law 12 = .ok (.invokespecial 76, 3) := by decide +kernel
theorem dL_law_15 : decode cL_law 15 = .ok (.astore_n 2, 1) := by decide +kernel
theorem dL_law_16 : decode cL_law 16 = .ok (.iconst 1, 1) := by decide +kernel
theorem dL_law_17 : decode cL_law 17 = .ok (.newarray .long, 2) := by decide +kernel
theorem dL_law_19 : decode cL_law 19 = .ok (.astore_n 3, 1) := by decide +kernel
theorem dL_law_20 : decode cL_law 20 = .ok (.iconst 0, 1) := by decide +kernel
theorem dL_law_21 : decode cL_law 21 = .ok (.istore 4, 2) := by decide +kernel
theorem dL_law_23 : decode cL_law 23 = .ok (.iload 4, 2) := by decide +kernel
theorem dL_law_25 : decode cL_law 25 = .ok (.aload_n 0, 1) := by decide +kernel
theorem dL_law_26 : decode cL_law 26 = .ok (.arraylength, 1) := by decide +kernel
theorem dL_law_27 : decode cL_law 27 = .ok (.iconst 5, 1) := by decide +kernel
theorem dL_law_28 : decode cL_law 28 = .ok (.isub, 1) := by decide +kernel
theorem dL_law_29 : decode cL_law 29 = .ok (.if_icmp .gt 1318, 3) := by decide +kernel
theorem dL_law_32 : decode cL_law 32 = .ok (.aload_n 0, 1) := by decide +kernel
theorem dL_law_33 : decode cL_law 33 = .ok (.iload 4, 2) := by decide +kernel
theorem dL_law_35 : decode cL_law 35 = .ok (.iaload, 1) := by decide +kernel
theorem dL_law_36 : decode cL_law 36 = .ok (.bipush 31, 2) := by decide +kernel
theorem dL_law_38 : decode cL_law 38 = .ok (.iand, 1) := by decide +kernel
theorem dL_law_39 : decode cL_law 39 = .ok (.tableswitch 1302 0 25 #[117, 173, 265, 333, 389, 445, 513, 557, 570, 638, 706, 762, 830, 886, 942, 998, 1011, 1024, 1037, 1093, 1106, 1162, 1218, 1231, 1244, 1288], 117) := by decide +kernel
theorem dL_law_156 : decode cL_law 156 = .ok (.aload_n 1, 1) := by decide +kernel
theorem dL_law_157 : decode cL_law 157 = .ok (.aload_n 0, 1) := by decide +kernel
theorem dL_law_158 : decode cL_law 158 = .ok (.iload 4, 2) := by decide +kernel
theorem dL_law_160 : decode cL_law 160 = .ok (.iconst 1, 1) := by decide +kernel
theorem dL_law_161 : decode cL_law 161 = .ok (.iadd, 1) := by decide +kernel
theorem dL_law_162 : decode cL_law 162 = .ok (.iaload, 1) := by decide +kernel
theorem dL_law_163 : decode cL_law 163 = .ok (.aload_n 3, 1) := by decide +kernel
theorem dL_law_164 : decode cL_law 164 = .ok (.invokestatic 77, 3) := by decide +kernel
theorem dL_law_167 : decode cL_law 167 = .ok (.istore 5, 2) := by decide +kernel
theorem dL_law_169 : decode cL_law 169 = .ok (.aload_n 2, 1) := by decide +kernel
theorem dL_law_170 : decode cL_law 170 = .ok (.aload_n 0, 1) := by decide +kernel
theorem dL_law_171 : decode cL_law 171 = .ok (.iload 4, 2) := by decide +kernel
theorem dL_law_173 : decode cL_law 173 = .ok (.iconst 1, 1) := by decide +kernel
theorem dL_law_174 : decode cL_law 174 = .ok (.iadd, 1) := by decide +kernel
theorem dL_law_175 : decode cL_law 175 = .ok (.iaload, 1) := by decide +kernel
theorem dL_law_176 : decode cL_law 176 = .ok (.invokevirtual 82, 3) := by decide +kernel
theorem dL_law_179 : decode cL_law 179 = .ok (.istore 6, 2) := by decide +kernel
theorem dL_law_181 : decode cL_law 181 = .ok (.aload_n 2, 1) := by decide +kernel
theorem dL_law_182 : decode cL_law 182 = .ok (.invokevirtual 83, 3) := by decide +kernel
theorem dL_law_185 : decode cL_law 185 = .ok (.iload 5, 2) := by decide +kernel
theorem dL_law_187 : decode cL_law 187 = .ok (.if_icmp .eq 5, 3) := by decide +kernel
theorem dL_law_190 : decode cL_law 190 = .ok (.iconst 0, 1) := by decide +kernel
theorem dL_law_191 : decode cL_law 191 = .ok (.ireturn, 1) := by decide +kernel
theorem dL_law_192 : decode cL_law 192 = .ok (.iload 5, 2) := by decide +kernel
theorem dL_law_194 : decode cL_law 194 = .ok (.ifCond .ne 15, 3) := by decide +kernel
theorem dL_law_197 : decode cL_law 197 = .ok (.aload_n 3, 1) := by decide +kernel
theorem dL_law_198 : decode cL_law 198 = .ok (.iconst 0, 1) := by decide +kernel
theorem dL_law_199 : decode cL_law 199 = .ok (.laload, 1) := by decide +kernel
theorem dL_law_200 : decode cL_law 200 = .ok (.iload 6, 2) := by decide +kernel
theorem dL_law_202 : decode cL_law 202 = .ok (.i2l, 1) := by decide +kernel
theorem dL_law_203 : decode cL_law 203 = .ok (.lcmp, 1) := by decide +kernel
theorem dL_law_204 : decode cL_law 204 = .ok (.ifCond .eq 5, 3) := by decide +kernel
theorem dL_law_207 : decode cL_law 207 = .ok (.iconst 0, 1) := by decide +kernel
theorem dL_law_208 : decode cL_law 208 = .ok (.ireturn, 1) := by decide +kernel
theorem dL_law_209 : decode cL_law 209 = .ok (.goto 1132, 3) := by decide +kernel
theorem dL_law_212 : decode cL_law 212 = .ok (.aload_n 1, 1) := by decide +kernel
theorem dL_law_213 : decode cL_law 213 = .ok (.aload_n 0, 1) := by decide +kernel
theorem dL_law_214 : decode cL_law 214 = .ok (.iload 4, 2) := by decide +kernel
theorem dL_law_216 : decode cL_law 216 = .ok (.iconst 1, 1) := by decide +kernel
theorem dL_law_217 : decode cL_law 217 = .ok (.iadd, 1) := by decide +kernel
theorem dL_law_218 : decode cL_law 218 = .ok (.iaload, 1) := by decide +kernel
theorem dL_law_219 : decode cL_law 219 = .ok (.aload_n 0, 1) := by decide +kernel
theorem dL_law_220 : decode cL_law 220 = .ok (.iload 4, 2) := by decide +kernel
theorem dL_law_222 : decode cL_law 222 = .ok (.iconst 2, 1) := by decide +kernel
theorem dL_law_223 : decode cL_law 223 = .ok (.iadd, 1) := by decide +kernel
theorem dL_law_224 : decode cL_law 224 = .ok (.iaload, 1) := by decide +kernel
theorem dL_law_225 : decode cL_law 225 = .ok (.aload_n 0, 1) := by decide +kernel
theorem dL_law_226 : decode cL_law 226 = .ok (.iload 4, 2) := by decide +kernel
theorem dL_law_228 : decode cL_law 228 = .ok (.iconst 3, 1) := by decide +kernel
theorem dL_law_229 : decode cL_law 229 = .ok (.iadd, 1) := by decide +kernel
theorem dL_law_230 : decode cL_law 230 = .ok (.iaload, 1) := by decide +kernel
theorem dL_law_231 : decode cL_law 231 = .ok (.aload_n 0, 1) := by decide +kernel
theorem dL_law_232 : decode cL_law 232 = .ok (.iload 4, 2) := by decide +kernel
theorem dL_law_234 : decode cL_law 234 = .ok (.iconst 4, 1) := by decide +kernel
theorem dL_law_235 : decode cL_law 235 = .ok (.iadd, 1) := by decide +kernel
theorem dL_law_236 : decode cL_law 236 = .ok (.iaload, 1) := by decide +kernel
theorem dL_law_237 : decode cL_law 237 = .ok (.aload_n 3, 1) := by decide +kernel
theorem dL_law_238 : decode cL_law 238 = .ok (.invokestatic 86, 3) := by decide +kernel
theorem dL_law_241 : decode cL_law 241 = .ok (.istore 5, 2) := by decide +kernel
theorem dL_law_243 : decode cL_law 243 = .ok (.aload_n 2, 1) := by decide +kernel
theorem dL_law_244 : decode cL_law 244 = .ok (.aload_n 0, 1) := by decide +kernel
theorem dL_law_245 : decode cL_law 245 = .ok (.iload 4, 2) := by decide +kernel
theorem dL_law_247 : decode cL_law 247 = .ok (.iconst 1, 1) := by decide +kernel
theorem dL_law_248 : decode cL_law 248 = .ok (.iadd, 1) := by decide +kernel
theorem dL_law_249 : decode cL_law 249 = .ok (.iaload, 1) := by decide +kernel
theorem dL_law_250 : decode cL_law 250 = .ok (.aload_n 0, 1) := by decide +kernel
theorem dL_law_251 : decode cL_law 251 = .ok (.iload 4, 2) := by decide +kernel
theorem dL_law_253 : decode cL_law 253 = .ok (.iconst 2, 1) := by decide +kernel
theorem dL_law_254 : decode cL_law 254 = .ok (.iadd, 1) := by decide +kernel
theorem dL_law_255 : decode cL_law 255 = .ok (.iaload, 1) := by decide +kernel
theorem dL_law_256 : decode cL_law 256 = .ok (.aload_n 0, 1) := by decide +kernel
theorem dL_law_257 : decode cL_law 257 = .ok (.iload 4, 2) := by decide +kernel
theorem dL_law_259 : decode cL_law 259 = .ok (.iconst 3, 1) := by decide +kernel
theorem dL_law_260 : decode cL_law 260 = .ok (.iadd, 1) := by decide +kernel
theorem dL_law_261 : decode cL_law 261 = .ok (.iaload, 1) := by decide +kernel
theorem dL_law_262 : decode cL_law 262 = .ok (.aload_n 0, 1) := by decide +kernel
theorem dL_law_263 : decode cL_law 263 = .ok (.iload 4, 2) := by decide +kernel
theorem dL_law_265 : decode cL_law 265 = .ok (.iconst 4, 1) := by decide +kernel
theorem dL_law_266 : decode cL_law 266 = .ok (.iadd, 1) := by decide +kernel
theorem dL_law_267 : decode cL_law 267 = .ok (.iaload, 1) := by decide +kernel
theorem dL_law_268 : decode cL_law 268 = .ok (.invokevirtual 89, 3) := by decide +kernel
theorem dL_law_271 : decode cL_law 271 = .ok (.istore 6, 2) := by decide +kernel
theorem dL_law_273 : decode cL_law 273 = .ok (.aload_n 2, 1) := by decide +kernel
theorem dL_law_274 : decode cL_law 274 = .ok (.invokevirtual 83, 3) := by decide +kernel
theorem dL_law_277 : decode cL_law 277 = .ok (.iload 5, 2) := by decide +kernel
theorem dL_law_279 : decode cL_law 279 = .ok (.if_icmp .eq 5, 3) := by decide +kernel
theorem dL_law_282 : decode cL_law 282 = .ok (.iconst 0, 1) := by decide +kernel
theorem dL_law_283 : decode cL_law 283 = .ok (.ireturn, 1) := by decide +kernel
theorem dL_law_284 : decode cL_law 284 = .ok (.iload 5, 2) := by decide +kernel
theorem dL_law_286 : decode cL_law 286 = .ok (.ifCond .ne 15, 3) := by decide +kernel
theorem dL_law_289 : decode cL_law 289 = .ok (.aload_n 3, 1) := by decide +kernel
theorem dL_law_290 : decode cL_law 290 = .ok (.iconst 0, 1) := by decide +kernel
theorem dL_law_291 : decode cL_law 291 = .ok (.laload, 1) := by decide +kernel
theorem dL_law_292 : decode cL_law 292 = .ok (.iload 6, 2) := by decide +kernel
theorem dL_law_294 : decode cL_law 294 = .ok (.i2l, 1) := by decide +kernel
theorem dL_law_295 : decode cL_law 295 = .ok (.lcmp, 1) := by decide +kernel
theorem dL_law_296 : decode cL_law 296 = .ok (.ifCond .eq 5, 3) := by decide +kernel
theorem dL_law_299 : decode cL_law 299 = .ok (.iconst 0, 1) := by decide +kernel
theorem dL_law_300 : decode cL_law 300 = .ok (.ireturn, 1) := by decide +kernel
theorem dL_law_301 : decode cL_law 301 = .ok (.goto 1040, 3) := by decide +kernel
theorem dL_law_304 : decode cL_law 304 = .ok (.aload_n 1, 1) := by decide +kernel
theorem dL_law_305 : decode cL_law 305 = .ok (.aload_n 0, 1) := by decide +kernel
theorem dL_law_306 : decode cL_law 306 = .ok (.iload 4, 2) := by decide +kernel
theorem dL_law_308 : decode cL_law 308 = .ok (.iconst 1, 1) := by decide +kernel
theorem dL_law_309 : decode cL_law 309 = .ok (.iadd, 1) := by decide +kernel
theorem dL_law_310 : decode cL_law 310 = .ok (.iaload, 1) := by decide +kernel
theorem dL_law_311 : decode cL_law 311 = .ok (.aload_n 0, 1) := by decide +kernel
theorem dL_law_312 : decode cL_law 312 = .ok (.iload 4, 2) := by decide +kernel
theorem dL_law_314 : decode cL_law 314 = .ok (.iconst 2, 1) := by decide +kernel
theorem dL_law_315 : decode cL_law 315 = .ok (.iadd, 1) := by decide +kernel
theorem dL_law_316 : decode cL_law 316 = .ok (.iaload, 1) := by decide +kernel
theorem dL_law_317 : decode cL_law 317 = .ok (.aload_n 3, 1) := by decide +kernel
theorem dL_law_318 : decode cL_law 318 = .ok (.invokestatic 90, 3) := by decide +kernel
theorem dL_law_321 : decode cL_law 321 = .ok (.istore 5, 2) := by decide +kernel
theorem dL_law_323 : decode cL_law 323 = .ok (.aload_n 2, 1) := by decide +kernel
theorem dL_law_324 : decode cL_law 324 = .ok (.aload_n 0, 1) := by decide +kernel
theorem dL_law_325 : decode cL_law 325 = .ok (.iload 4, 2) := by decide +kernel
theorem dL_law_327 : decode cL_law 327 = .ok (.iconst 1, 1) := by decide +kernel
theorem dL_law_328 : decode cL_law 328 = .ok (.iadd, 1) := by decide +kernel
theorem dL_law_329 : decode cL_law 329 = .ok (.iaload, 1) := by decide +kernel
theorem dL_law_330 : decode cL_law 330 = .ok (.aload_n 0, 1) := by decide +kernel
theorem dL_law_331 : decode cL_law 331 = .ok (.iload 4, 2) := by decide +kernel
theorem dL_law_333 : decode cL_law 333 = .ok (.iconst 2, 1) := by decide +kernel
theorem dL_law_334 : decode cL_law 334 = .ok (.iadd, 1) := by decide +kernel
theorem dL_law_335 : decode cL_law 335 = .ok (.iaload, 1) := by decide +kernel
theorem dL_law_336 : decode cL_law 336 = .ok (.invokevirtual 93, 3) := by decide +kernel
theorem dL_law_339 : decode cL_law 339 = .ok (.istore 6, 2) := by decide +kernel
theorem dL_law_341 : decode cL_law 341 = .ok (.aload_n 2, 1) := by decide +kernel
theorem dL_law_342 : decode cL_law 342 = .ok (.invokevirtual 83, 3) := by decide +kernel
theorem dL_law_345 : decode cL_law 345 = .ok (.iload 5, 2) := by decide +kernel
theorem dL_law_347 : decode cL_law 347 = .ok (.if_icmp .eq 5, 3) := by decide +kernel
theorem dL_law_350 : decode cL_law 350 = .ok (.iconst 0, 1) := by decide +kernel
theorem dL_law_351 : decode cL_law 351 = .ok (.ireturn, 1) := by decide +kernel
theorem dL_law_352 : decode cL_law 352 = .ok (.iload 5, 2) := by decide +kernel
theorem dL_law_354 : decode cL_law 354 = .ok (.ifCond .ne 15, 3) := by decide +kernel
theorem dL_law_357 : decode cL_law 357 = .ok (.aload_n 3, 1) := by decide +kernel
theorem dL_law_358 : decode cL_law 358 = .ok (.iconst 0, 1) := by decide +kernel
theorem dL_law_359 : decode cL_law 359 = .ok (.laload, 1) := by decide +kernel
theorem dL_law_360 : decode cL_law 360 = .ok (.iload 6, 2) := by decide +kernel
theorem dL_law_362 : decode cL_law 362 = .ok (.i2l, 1) := by decide +kernel
theorem dL_law_363 : decode cL_law 363 = .ok (.lcmp, 1) := by decide +kernel
theorem dL_law_364 : decode cL_law 364 = .ok (.ifCond .eq 5, 3) := by decide +kernel
theorem dL_law_367 : decode cL_law 367 = .ok (.iconst 0, 1) := by decide +kernel
theorem dL_law_368 : decode cL_law 368 = .ok (.ireturn, 1) := by decide +kernel
theorem dL_law_369 : decode cL_law 369 = .ok (.goto 972, 3) := by decide +kernel
theorem dL_law_372 : decode cL_law 372 = .ok (.aload_n 1, 1) := by decide +kernel
theorem dL_law_373 : decode cL_law 373 = .ok (.aload_n 0, 1) := by decide +kernel
theorem dL_law_374 : decode cL_law 374 = .ok (.iload 4, 2) := by decide +kernel
theorem dL_law_376 : decode cL_law 376 = .ok (.iconst 1, 1) := by decide +kernel
theorem dL_law_377 : decode cL_law 377 = .ok (.iadd, 1) := by decide +kernel
theorem dL_law_378 : decode cL_law 378 = .ok (.iaload, 1) := by decide +kernel
theorem dL_law_379 : decode cL_law 379 = .ok (.aload_n 3, 1) := by decide +kernel
theorem dL_law_380 : decode cL_law 380 = .ok (.invokestatic 94, 3) := by decide +kernel
theorem dL_law_383 : decode cL_law 383 = .ok (.istore 5, 2) := by decide +kernel
theorem dL_law_385 : decode cL_law 385 = .ok (.aload_n 2, 1) := by decide +kernel
theorem dL_law_386 : decode cL_law 386 = .ok (.aload_n 0, 1) := by decide +kernel
theorem dL_law_387 : decode cL_law 387 = .ok (.iload 4, 2) := by decide +kernel
theorem dL_law_389 : decode cL_law 389 = .ok (.iconst 1, 1) := by decide +kernel
theorem dL_law_390 : decode cL_law 390 = .ok (.iadd, 1) := by decide +kernel
theorem dL_law_391 : decode cL_law 391 = .ok (.iaload, 1) := by decide +kernel
theorem dL_law_392 : decode cL_law 392 = .ok (.invokevirtual 96, 3) := by decide +kernel
theorem dL_law_395 : decode cL_law 395 = .ok (.istore 6, 2) := by decide +kernel
theorem dL_law_397 : decode cL_law 397 = .ok (.aload_n 2, 1) := by decide +kernel
theorem dL_law_398 : decode cL_law 398 = .ok (.invokevirtual 83, 3) := by decide +kernel
theorem dL_law_401 : decode cL_law 401 = .ok (.iload 5, 2) := by decide +kernel
theorem dL_law_403 : decode cL_law 403 = .ok (.if_icmp .eq 5, 3) := by decide +kernel
theorem dL_law_406 : decode cL_law 406 = .ok (.iconst 0, 1) := by decide +kernel
theorem dL_law_407 : decode cL_law 407 = .ok (.ireturn, 1) := by decide +kernel
theorem dL_law_408 : decode cL_law 408 = .ok (.iload 5, 2) := by decide +kernel
theorem dL_law_410 : decode cL_law 410 = .ok (.ifCond .ne 15, 3) := by decide +kernel
theorem dL_law_413 : decode cL_law 413 = .ok (.aload_n 3, 1) := by decide +kernel
theorem dL_law_414 : decode cL_law 414 = .ok (.iconst 0, 1) := by decide +kernel
theorem dL_law_415 : decode cL_law 415 = .ok (.laload, 1) := by decide +kernel
theorem dL_law_416 : decode cL_law 416 = .ok (.iload 6, 2) := by decide +kernel
theorem dL_law_418 : decode cL_law 418 = .ok (.i2l, 1) := by decide +kernel
theorem dL_law_419 : decode cL_law 419 = .ok (.lcmp, 1) := by decide +kernel
theorem dL_law_420 : decode cL_law 420 = .ok (.ifCond .eq 5, 3) := by decide +kernel
theorem dL_law_423 : decode cL_law 423 = .ok (.iconst 0, 1) := by decide +kernel
theorem dL_law_424 : decode cL_law 424 = .ok (.ireturn, 1) := by decide +kernel
theorem dL_law_425 : decode cL_law 425 = .ok (.goto 916, 3) := by decide +kernel
theorem dL_law_428 : decode cL_law 428 = .ok (.aload_n 1, 1) := by decide +kernel
theorem dL_law_429 : decode cL_law 429 = .ok (.aload_n 0, 1) := by decide +kernel
theorem dL_law_430 : decode cL_law 430 = .ok (.iload 4, 2) := by decide +kernel
theorem dL_law_432 : decode cL_law 432 = .ok (.iconst 1, 1) := by decide +kernel
theorem dL_law_433 : decode cL_law 433 = .ok (.iadd, 1) := by decide +kernel
theorem dL_law_434 : decode cL_law 434 = .ok (.iaload, 1) := by decide +kernel
theorem dL_law_435 : decode cL_law 435 = .ok (.aload_n 3, 1) := by decide +kernel
theorem dL_law_436 : decode cL_law 436 = .ok (.invokestatic 97, 3) := by decide +kernel
theorem dL_law_439 : decode cL_law 439 = .ok (.istore 5, 2) := by decide +kernel
theorem dL_law_441 : decode cL_law 441 = .ok (.aload_n 2, 1) := by decide +kernel
theorem dL_law_442 : decode cL_law 442 = .ok (.aload_n 0, 1) := by decide +kernel
theorem dL_law_443 : decode cL_law 443 = .ok (.iload 4, 2) := by decide +kernel
theorem dL_law_445 : decode cL_law 445 = .ok (.iconst 1, 1) := by decide +kernel
theorem dL_law_446 : decode cL_law 446 = .ok (.iadd, 1) := by decide +kernel
theorem dL_law_447 : decode cL_law 447 = .ok (.iaload, 1) := by decide +kernel
theorem dL_law_448 : decode cL_law 448 = .ok (.invokevirtual 99, 3) := by decide +kernel
theorem dL_law_451 : decode cL_law 451 = .ok (.istore 6, 2) := by decide +kernel
theorem dL_law_453 : decode cL_law 453 = .ok (.aload_n 2, 1) := by decide +kernel
theorem dL_law_454 : decode cL_law 454 = .ok (.invokevirtual 83, 3) := by decide +kernel
theorem dL_law_457 : decode cL_law 457 = .ok (.iload 5, 2) := by decide +kernel
theorem dL_law_459 : decode cL_law 459 = .ok (.if_icmp .eq 5, 3) := by decide +kernel
theorem dL_law_462 : decode cL_law 462 = .ok (.iconst 0, 1) := by decide +kernel
theorem dL_law_463 : decode cL_law 463 = .ok (.ireturn, 1) := by decide +kernel
theorem dL_law_464 : decode cL_law 464 = .ok (.iload 5, 2) := by decide +kernel
theorem dL_law_466 : decode cL_law 466 = .ok (.ifCond .ne 15, 3) := by decide +kernel
theorem dL_law_469 : decode cL_law 469 = .ok (.aload_n 3, 1) := by decide +kernel
theorem dL_law_470 : decode cL_law 470 = .ok (.iconst 0, 1) := by decide +kernel
theorem dL_law_471 : decode cL_law 471 = .ok (.laload, 1) := by decide +kernel
theorem dL_law_472 : decode cL_law 472 = .ok (.iload 6, 2) := by decide +kernel
theorem dL_law_474 : decode cL_law 474 = .ok (.i2l, 1) := by decide +kernel
theorem dL_law_475 : decode cL_law 475 = .ok (.lcmp, 1) := by decide +kernel
theorem dL_law_476 : decode cL_law 476 = .ok (.ifCond .eq 5, 3) := by decide +kernel
theorem dL_law_479 : decode cL_law 479 = .ok (.iconst 0, 1) := by decide +kernel
theorem dL_law_480 : decode cL_law 480 = .ok (.ireturn, 1) := by decide +kernel
theorem dL_law_481 : decode cL_law 481 = .ok (.goto 860, 3) := by decide +kernel
theorem dL_law_484 : decode cL_law 484 = .ok (.aload_n 1, 1) := by decide +kernel
theorem dL_law_485 : decode cL_law 485 = .ok (.aload_n 0, 1) := by decide +kernel
theorem dL_law_486 : decode cL_law 486 = .ok (.iload 4, 2) := by decide +kernel
theorem dL_law_488 : decode cL_law 488 = .ok (.iconst 1, 1) := by decide +kernel
theorem dL_law_489 : decode cL_law 489 = .ok (.iadd, 1) := by decide +kernel
theorem dL_law_490 : decode cL_law 490 = .ok (.iaload, 1) := by decide +kernel
theorem dL_law_491 : decode cL_law 491 = .ok (.aload_n 0, 1) := by decide +kernel
theorem dL_law_492 : decode cL_law 492 = .ok (.iload 4, 2) := by decide +kernel
theorem dL_law_494 : decode cL_law 494 = .ok (.iconst 2, 1) := by decide +kernel
theorem dL_law_495 : decode cL_law 495 = .ok (.iadd, 1) := by decide +kernel
theorem dL_law_496 : decode cL_law 496 = .ok (.iaload, 1) := by decide +kernel
theorem dL_law_497 : decode cL_law 497 = .ok (.aload_n 3, 1) := by decide +kernel
theorem dL_law_498 : decode cL_law 498 = .ok (.invokestatic 100, 3) := by decide +kernel
theorem dL_law_501 : decode cL_law 501 = .ok (.istore 5, 2) := by decide +kernel
theorem dL_law_503 : decode cL_law 503 = .ok (.aload_n 2, 1) := by decide +kernel
theorem dL_law_504 : decode cL_law 504 = .ok (.aload_n 0, 1) := by decide +kernel
theorem dL_law_505 : decode cL_law 505 = .ok (.iload 4, 2) := by decide +kernel
theorem dL_law_507 : decode cL_law 507 = .ok (.iconst 1, 1) := by decide +kernel
theorem dL_law_508 : decode cL_law 508 = .ok (.iadd, 1) := by decide +kernel
theorem dL_law_509 : decode cL_law 509 = .ok (.iaload, 1) := by decide +kernel
theorem dL_law_510 : decode cL_law 510 = .ok (.aload_n 0, 1) := by decide +kernel
theorem dL_law_511 : decode cL_law 511 = .ok (.iload 4, 2) := by decide +kernel
theorem dL_law_513 : decode cL_law 513 = .ok (.iconst 2, 1) := by decide +kernel
theorem dL_law_514 : decode cL_law 514 = .ok (.iadd, 1) := by decide +kernel
theorem dL_law_515 : decode cL_law 515 = .ok (.iaload, 1) := by decide +kernel
theorem dL_law_516 : decode cL_law 516 = .ok (.invokevirtual 102, 3) := by decide +kernel
theorem dL_law_519 : decode cL_law 519 = .ok (.istore 6, 2) := by decide +kernel
theorem dL_law_521 : decode cL_law 521 = .ok (.aload_n 2, 1) := by decide +kernel
theorem dL_law_522 : decode cL_law 522 = .ok (.invokevirtual 83, 3) := by decide +kernel
theorem dL_law_525 : decode cL_law 525 = .ok (.iload 5, 2) := by decide +kernel
theorem dL_law_527 : decode cL_law 527 = .ok (.if_icmp .eq 5, 3) := by decide +kernel
theorem dL_law_530 : decode cL_law 530 = .ok (.iconst 0, 1) := by decide +kernel
theorem dL_law_531 : decode cL_law 531 = .ok (.ireturn, 1) := by decide +kernel
theorem dL_law_532 : decode cL_law 532 = .ok (.iload 5, 2) := by decide +kernel
theorem dL_law_534 : decode cL_law 534 = .ok (.ifCond .ne 15, 3) := by decide +kernel
theorem dL_law_537 : decode cL_law 537 = .ok (.aload_n 3, 1) := by decide +kernel
theorem dL_law_538 : decode cL_law 538 = .ok (.iconst 0, 1) := by decide +kernel
theorem dL_law_539 : decode cL_law 539 = .ok (.laload, 1) := by decide +kernel
theorem dL_law_540 : decode cL_law 540 = .ok (.iload 6, 2) := by decide +kernel
theorem dL_law_542 : decode cL_law 542 = .ok (.i2l, 1) := by decide +kernel
theorem dL_law_543 : decode cL_law 543 = .ok (.lcmp, 1) := by decide +kernel
theorem dL_law_544 : decode cL_law 544 = .ok (.ifCond .eq 5, 3) := by decide +kernel
theorem dL_law_547 : decode cL_law 547 = .ok (.iconst 0, 1) := by decide +kernel
theorem dL_law_548 : decode cL_law 548 = .ok (.ireturn, 1) := by decide +kernel
theorem dL_law_549 : decode cL_law 549 = .ok (.goto 792, 3) := by decide +kernel
theorem dL_law_552 : decode cL_law 552 = .ok (.aload_n 1, 1) := by decide +kernel
theorem dL_law_553 : decode cL_law 553 = .ok (.aload_n 3, 1) := by decide +kernel
theorem dL_law_554 : decode cL_law 554 = .ok (.invokestatic 103, 3) := by decide +kernel
theorem dL_law_557 : decode cL_law 557 = .ok (.istore 5, 2) := by decide +kernel
theorem dL_law_559 : decode cL_law 559 = .ok (.aload_n 2, 1) := by decide +kernel
theorem dL_law_560 : decode cL_law 560 = .ok (.invokevirtual 106, 3) := by decide +kernel
theorem dL_law_563 : decode cL_law 563 = .ok (.istore 6, 2) := by decide +kernel
theorem dL_law_565 : decode cL_law 565 = .ok (.aload_n 2, 1) := by decide +kernel
theorem dL_law_566 : decode cL_law 566 = .ok (.invokevirtual 83, 3) := by decide +kernel
theorem dL_law_569 : decode cL_law 569 = .ok (.iload 5, 2) := by decide +kernel
theorem dL_law_571 : decode cL_law 571 = .ok (.if_icmp .eq 5, 3) := by decide +kernel
theorem dL_law_574 : decode cL_law 574 = .ok (.iconst 0, 1) := by decide +kernel
theorem dL_law_575 : decode cL_law 575 = .ok (.ireturn, 1) := by decide +kernel
theorem dL_law_576 : decode cL_law 576 = .ok (.iload 5, 2) := by decide +kernel
theorem dL_law_578 : decode cL_law 578 = .ok (.ifCond .ne 15, 3) := by decide +kernel
theorem dL_law_581 : decode cL_law 581 = .ok (.aload_n 3, 1) := by decide +kernel
theorem dL_law_582 : decode cL_law 582 = .ok (.iconst 0, 1) := by decide +kernel
theorem dL_law_583 : decode cL_law 583 = .ok (.laload, 1) := by decide +kernel
theorem dL_law_584 : decode cL_law 584 = .ok (.iload 6, 2) := by decide +kernel
theorem dL_law_586 : decode cL_law 586 = .ok (.i2l, 1) := by decide +kernel
theorem dL_law_587 : decode cL_law 587 = .ok (.lcmp, 1) := by decide +kernel
theorem dL_law_588 : decode cL_law 588 = .ok (.ifCond .eq 5, 3) := by decide +kernel
theorem dL_law_591 : decode cL_law 591 = .ok (.iconst 0, 1) := by decide +kernel
theorem dL_law_592 : decode cL_law 592 = .ok (.ireturn, 1) := by decide +kernel
theorem dL_law_593 : decode cL_law 593 = .ok (.goto 748, 3) := by decide +kernel
theorem dL_law_596 : decode cL_law 596 = .ok (.aload_n 1, 1) := by decide +kernel
theorem dL_law_597 : decode cL_law 597 = .ok (.invokevirtual 107, 3) := by decide +kernel
theorem dL_law_600 : decode cL_law 600 = .ok (.aload_n 2, 1) := by decide +kernel
theorem dL_law_601 : decode cL_law 601 = .ok (.invokevirtual 110, 3) := by decide +kernel
theorem dL_law_604 : decode cL_law 604 = .ok (.if_icmp .eq 737, 3) := by decide +kernel
theorem dL_law_607 : decode cL_law 607 = .ok (.iconst 0, 1) := by decide +kernel
theorem dL_law_608 : decode cL_law 608 = .ok (.ireturn, 1) := by decide +kernel
theorem dL_law_609 : decode cL_law 609 = .ok (.aload_n 1, 1) := by decide +kernel
theorem dL_law_610 : decode cL_law 610 = .ok (.aload_n 0, 1) := by decide +kernel
theorem dL_law_611 : decode cL_law 611 = .ok (.iload 4, 2) := by decide +kernel
theorem dL_law_613 : decode cL_law 613 = .ok (.iconst 1, 1) := by decide +kernel
theorem dL_law_614 : decode cL_law 614 = .ok (.iadd, 1) := by decide +kernel
theorem dL_law_615 : decode cL_law 615 = .ok (.iaload, 1) := by decide +kernel
theorem dL_law_616 : decode cL_law 616 = .ok (.aload_n 0, 1) := by decide +kernel
theorem dL_law_617 : decode cL_law 617 = .ok (.iload 4, 2) := by decide +kernel
theorem dL_law_619 : decode cL_law 619 = .ok (.iconst 2, 1) := by decide +kernel
theorem dL_law_620 : decode cL_law 620 = .ok (.iadd, 1) := by decide +kernel
theorem dL_law_621 : decode cL_law 621 = .ok (.iaload, 1) := by decide +kernel
theorem dL_law_622 : decode cL_law 622 = .ok (.aload_n 3, 1) := by decide +kernel
theorem dL_law_623 : decode cL_law 623 = .ok (.invokestatic 111, 3) := by decide +kernel
theorem dL_law_626 : decode cL_law 626 = .ok (.istore 5, 2) := by decide +kernel
theorem dL_law_628 : decode cL_law 628 = .ok (.aload_n 2, 1) := by decide +kernel
theorem dL_law_629 : decode cL_law 629 = .ok (.aload_n 0, 1) := by decide +kernel
theorem dL_law_630 : decode cL_law 630 = .ok (.iload 4, 2) := by decide +kernel
theorem dL_law_632 : decode cL_law 632 = .ok (.iconst 1, 1) := by decide +kernel
theorem dL_law_633 : decode cL_law 633 = .ok (.iadd, 1) := by decide +kernel
theorem dL_law_634 : decode cL_law 634 = .ok (.iaload, 1) := by decide +kernel
theorem dL_law_635 : decode cL_law 635 = .ok (.aload_n 0, 1) := by decide +kernel
theorem dL_law_636 : decode cL_law 636 = .ok (.iload 4, 2) := by decide +kernel
theorem dL_law_638 : decode cL_law 638 = .ok (.iconst 2, 1) := by decide +kernel
theorem dL_law_639 : decode cL_law 639 = .ok (.iadd, 1) := by decide +kernel
theorem dL_law_640 : decode cL_law 640 = .ok (.iaload, 1) := by decide +kernel
theorem dL_law_641 : decode cL_law 641 = .ok (.invokevirtual 113, 3) := by decide +kernel
theorem dL_law_644 : decode cL_law 644 = .ok (.istore 6, 2) := by decide +kernel
theorem dL_law_646 : decode cL_law 646 = .ok (.aload_n 2, 1) := by decide +kernel
theorem dL_law_647 : decode cL_law 647 = .ok (.invokevirtual 83, 3) := by decide +kernel
theorem dL_law_650 : decode cL_law 650 = .ok (.iload 5, 2) := by decide +kernel
theorem dL_law_652 : decode cL_law 652 = .ok (.if_icmp .eq 5, 3) := by decide +kernel
theorem dL_law_655 : decode cL_law 655 = .ok (.iconst 0, 1) := by decide +kernel
theorem dL_law_656 : decode cL_law 656 = .ok (.ireturn, 1) := by decide +kernel
theorem dL_law_657 : decode cL_law 657 = .ok (.iload 5, 2) := by decide +kernel
theorem dL_law_659 : decode cL_law 659 = .ok (.ifCond .ne 15, 3) := by decide +kernel
theorem dL_law_662 : decode cL_law 662 = .ok (.aload_n 3, 1) := by decide +kernel
theorem dL_law_663 : decode cL_law 663 = .ok (.iconst 0, 1) := by decide +kernel
theorem dL_law_664 : decode cL_law 664 = .ok (.laload, 1) := by decide +kernel
theorem dL_law_665 : decode cL_law 665 = .ok (.iload 6, 2) := by decide +kernel
theorem dL_law_667 : decode cL_law 667 = .ok (.i2l, 1) := by decide +kernel
theorem dL_law_668 : decode cL_law 668 = .ok (.lcmp, 1) := by decide +kernel
theorem dL_law_669 : decode cL_law 669 = .ok (.ifCond .eq 5, 3) := by decide +kernel
theorem dL_law_672 : decode cL_law 672 = .ok (.iconst 0, 1) := by decide +kernel
theorem dL_law_673 : decode cL_law 673 = .ok (.ireturn, 1) := by decide +kernel
theorem dL_law_674 : decode cL_law 674 = .ok (.goto 667, 3) := by decide +kernel
theorem dL_law_677 : decode cL_law 677 = .ok (.aload_n 1, 1) := by decide +kernel
theorem dL_law_678 : decode cL_law 678 = .ok (.aload_n 0, 1) := by decide +kernel
theorem dL_law_679 : decode cL_law 679 = .ok (.iload 4, 2) := by decide +kernel
theorem dL_law_681 : decode cL_law 681 = .ok (.iconst 1, 1) := by decide +kernel
theorem dL_law_682 : decode cL_law 682 = .ok (.iadd, 1) := by decide +kernel
theorem dL_law_683 : decode cL_law 683 = .ok (.iaload, 1) := by decide +kernel
theorem dL_law_684 : decode cL_law 684 = .ok (.aload_n 0, 1) := by decide +kernel
theorem dL_law_685 : decode cL_law 685 = .ok (.iload 4, 2) := by decide +kernel
theorem dL_law_687 : decode cL_law 687 = .ok (.iconst 2, 1) := by decide +kernel
theorem dL_law_688 : decode cL_law 688 = .ok (.iadd, 1) := by decide +kernel
theorem dL_law_689 : decode cL_law 689 = .ok (.iaload, 1) := by decide +kernel
theorem dL_law_690 : decode cL_law 690 = .ok (.aload_n 3, 1) := by decide +kernel
theorem dL_law_691 : decode cL_law 691 = .ok (.invokestatic 114, 3) := by decide +kernel
theorem dL_law_694 : decode cL_law 694 = .ok (.istore 5, 2) := by decide +kernel
theorem dL_law_696 : decode cL_law 696 = .ok (.aload_n 2, 1) := by decide +kernel
theorem dL_law_697 : decode cL_law 697 = .ok (.aload_n 0, 1) := by decide +kernel
theorem dL_law_698 : decode cL_law 698 = .ok (.iload 4, 2) := by decide +kernel
theorem dL_law_700 : decode cL_law 700 = .ok (.iconst 1, 1) := by decide +kernel
theorem dL_law_701 : decode cL_law 701 = .ok (.iadd, 1) := by decide +kernel
theorem dL_law_702 : decode cL_law 702 = .ok (.iaload, 1) := by decide +kernel
theorem dL_law_703 : decode cL_law 703 = .ok (.aload_n 0, 1) := by decide +kernel
theorem dL_law_704 : decode cL_law 704 = .ok (.iload 4, 2) := by decide +kernel
theorem dL_law_706 : decode cL_law 706 = .ok (.iconst 2, 1) := by decide +kernel
theorem dL_law_707 : decode cL_law 707 = .ok (.iadd, 1) := by decide +kernel
theorem dL_law_708 : decode cL_law 708 = .ok (.iaload, 1) := by decide +kernel
theorem dL_law_709 : decode cL_law 709 = .ok (.invokevirtual 116, 3) := by decide +kernel
theorem dL_law_712 : decode cL_law 712 = .ok (.istore 6, 2) := by decide +kernel
theorem dL_law_714 : decode cL_law 714 = .ok (.aload_n 2, 1) := by decide +kernel
theorem dL_law_715 : decode cL_law 715 = .ok (.invokevirtual 83, 3) := by decide +kernel
theorem dL_law_718 : decode cL_law 718 = .ok (.iload 5, 2) := by decide +kernel
theorem dL_law_720 : decode cL_law 720 = .ok (.if_icmp .eq 5, 3) := by decide +kernel
theorem dL_law_723 : decode cL_law 723 = .ok (.iconst 0, 1) := by decide +kernel
theorem dL_law_724 : decode cL_law 724 = .ok (.ireturn, 1) := by decide +kernel
theorem dL_law_725 : decode cL_law 725 = .ok (.iload 5, 2) := by decide +kernel
theorem dL_law_727 : decode cL_law 727 = .ok (.ifCond .ne 15, 3) := by decide +kernel
theorem dL_law_730 : decode cL_law 730 = .ok (.aload_n 3, 1) := by decide +kernel
theorem dL_law_731 : decode cL_law 731 = .ok (.iconst 0, 1) := by decide +kernel
theorem dL_law_732 : decode cL_law 732 = .ok (.laload, 1) := by decide +kernel
theorem dL_law_733 : decode cL_law 733 = .ok (.iload 6, 2) := by decide +kernel
theorem dL_law_735 : decode cL_law 735 = .ok (.i2l, 1) := by decide +kernel
theorem dL_law_736 : decode cL_law 736 = .ok (.lcmp, 1) := by decide +kernel
theorem dL_law_737 : decode cL_law 737 = .ok (.ifCond .eq 5, 3) := by decide +kernel
theorem dL_law_740 : decode cL_law 740 = .ok (.iconst 0, 1) := by decide +kernel
theorem dL_law_741 : decode cL_law 741 = .ok (.ireturn, 1) := by decide +kernel
theorem dL_law_742 : decode cL_law 742 = .ok (.goto 599, 3) := by decide +kernel
theorem dL_law_745 : decode cL_law 745 = .ok (.aload_n 1, 1) := by decide +kernel
theorem dL_law_746 : decode cL_law 746 = .ok (.aload_n 0, 1) := by decide +kernel
theorem dL_law_747 : decode cL_law 747 = .ok (.iload 4, 2) := by decide +kernel
theorem dL_law_749 : decode cL_law 749 = .ok (.iconst 1, 1) := by decide +kernel
theorem dL_law_750 : decode cL_law 750 = .ok (.iadd, 1) := by decide +kernel
theorem dL_law_751 : decode cL_law 751 = .ok (.iaload, 1) := by decide +kernel
theorem dL_law_752 : decode cL_law 752 = .ok (.aload_n 3, 1) := by decide +kernel
theorem dL_law_753 : decode cL_law 753 = .ok (.invokestatic 117, 3) := by decide +kernel
theorem dL_law_756 : decode cL_law 756 = .ok (.istore 5, 2) := by decide +kernel
theorem dL_law_758 : decode cL_law 758 = .ok (.aload_n 2, 1) := by decide +kernel
theorem dL_law_759 : decode cL_law 759 = .ok (.aload_n 0, 1) := by decide +kernel
theorem dL_law_760 : decode cL_law 760 = .ok (.iload 4, 2) := by decide +kernel
theorem dL_law_762 : decode cL_law 762 = .ok (.iconst 1, 1) := by decide +kernel
theorem dL_law_763 : decode cL_law 763 = .ok (.iadd, 1) := by decide +kernel
theorem dL_law_764 : decode cL_law 764 = .ok (.iaload, 1) := by decide +kernel
theorem dL_law_765 : decode cL_law 765 = .ok (.invokevirtual 119, 3) := by decide +kernel
theorem dL_law_768 : decode cL_law 768 = .ok (.istore 6, 2) := by decide +kernel
theorem dL_law_770 : decode cL_law 770 = .ok (.aload_n 2, 1) := by decide +kernel
theorem dL_law_771 : decode cL_law 771 = .ok (.invokevirtual 83, 3) := by decide +kernel
theorem dL_law_774 : decode cL_law 774 = .ok (.iload 5, 2) := by decide +kernel
theorem dL_law_776 : decode cL_law 776 = .ok (.if_icmp .eq 5, 3) := by decide +kernel
theorem dL_law_779 : decode cL_law 779 = .ok (.iconst 0, 1) := by decide +kernel
theorem dL_law_780 : decode cL_law 780 = .ok (.ireturn, 1) := by decide +kernel
theorem dL_law_781 : decode cL_law 781 = .ok (.iload 5, 2) := by decide +kernel
theorem dL_law_783 : decode cL_law 783 = .ok (.ifCond .ne 15, 3) := by decide +kernel
theorem dL_law_786 : decode cL_law 786 = .ok (.aload_n 3, 1) := by decide +kernel
theorem dL_law_787 : decode cL_law 787 = .ok (.iconst 0, 1) := by decide +kernel
theorem dL_law_788 : decode cL_law 788 = .ok (.laload, 1) := by decide +kernel
theorem dL_law_789 : decode cL_law 789 = .ok (.iload 6, 2) := by decide +kernel
theorem dL_law_791 : decode cL_law 791 = .ok (.i2l, 1) := by decide +kernel
theorem dL_law_792 : decode cL_law 792 = .ok (.lcmp, 1) := by decide +kernel
theorem dL_law_793 : decode cL_law 793 = .ok (.ifCond .eq 5, 3) := by decide +kernel
theorem dL_law_796 : decode cL_law 796 = .ok (.iconst 0, 1) := by decide +kernel
theorem dL_law_797 : decode cL_law 797 = .ok (.ireturn, 1) := by decide +kernel
theorem dL_law_798 : decode cL_law 798 = .ok (.goto 543, 3) := by decide +kernel
theorem dL_law_801 : decode cL_law 801 = .ok (.aload_n 1, 1) := by decide +kernel
theorem dL_law_802 : decode cL_law 802 = .ok (.aload_n 0, 1) := by decide +kernel
theorem dL_law_803 : decode cL_law 803 = .ok (.iload 4, 2) := by decide +kernel
theorem dL_law_805 : decode cL_law 805 = .ok (.iconst 1, 1) := by decide +kernel
theorem dL_law_806 : decode cL_law 806 = .ok (.iadd, 1) := by decide +kernel
theorem dL_law_807 : decode cL_law 807 = .ok (.iaload, 1) := by decide +kernel
theorem dL_law_808 : decode cL_law 808 = .ok (.aload_n 0, 1) := by decide +kernel
theorem dL_law_809 : decode cL_law 809 = .ok (.iload 4, 2) := by decide +kernel
theorem dL_law_811 : decode cL_law 811 = .ok (.iconst 2, 1) := by decide +kernel
theorem dL_law_812 : decode cL_law 812 = .ok (.iadd, 1) := by decide +kernel
theorem dL_law_813 : decode cL_law 813 = .ok (.iaload, 1) := by decide +kernel
theorem dL_law_814 : decode cL_law 814 = .ok (.aload_n 3, 1) := by decide +kernel
theorem dL_law_815 : decode cL_law 815 = .ok (.invokestatic 120, 3) := by decide +kernel
theorem dL_law_818 : decode cL_law 818 = .ok (.istore 5, 2) := by decide +kernel
theorem dL_law_820 : decode cL_law 820 = .ok (.aload_n 2, 1) := by decide +kernel
theorem dL_law_821 : decode cL_law 821 = .ok (.aload_n 0, 1) := by decide +kernel
theorem dL_law_822 : decode cL_law 822 = .ok (.iload 4, 2) := by decide +kernel
theorem dL_law_824 : decode cL_law 824 = .ok (.iconst 1, 1) := by decide +kernel
theorem dL_law_825 : decode cL_law 825 = .ok (.iadd, 1) := by decide +kernel
theorem dL_law_826 : decode cL_law 826 = .ok (.iaload, 1) := by decide +kernel
theorem dL_law_827 : decode cL_law 827 = .ok (.aload_n 0, 1) := by decide +kernel
theorem dL_law_828 : decode cL_law 828 = .ok (.iload 4, 2) := by decide +kernel
theorem dL_law_830 : decode cL_law 830 = .ok (.iconst 2, 1) := by decide +kernel
theorem dL_law_831 : decode cL_law 831 = .ok (.iadd, 1) := by decide +kernel
theorem dL_law_832 : decode cL_law 832 = .ok (.iaload, 1) := by decide +kernel
theorem dL_law_833 : decode cL_law 833 = .ok (.invokevirtual 122, 3) := by decide +kernel
theorem dL_law_836 : decode cL_law 836 = .ok (.istore 6, 2) := by decide +kernel
theorem dL_law_838 : decode cL_law 838 = .ok (.aload_n 2, 1) := by decide +kernel
theorem dL_law_839 : decode cL_law 839 = .ok (.invokevirtual 83, 3) := by decide +kernel
theorem dL_law_842 : decode cL_law 842 = .ok (.iload 5, 2) := by decide +kernel
theorem dL_law_844 : decode cL_law 844 = .ok (.if_icmp .eq 5, 3) := by decide +kernel
theorem dL_law_847 : decode cL_law 847 = .ok (.iconst 0, 1) := by decide +kernel
theorem dL_law_848 : decode cL_law 848 = .ok (.ireturn, 1) := by decide +kernel
theorem dL_law_849 : decode cL_law 849 = .ok (.iload 5, 2) := by decide +kernel
theorem dL_law_851 : decode cL_law 851 = .ok (.ifCond .ne 15, 3) := by decide +kernel
theorem dL_law_854 : decode cL_law 854 = .ok (.aload_n 3, 1) := by decide +kernel
theorem dL_law_855 : decode cL_law 855 = .ok (.iconst 0, 1) := by decide +kernel
theorem dL_law_856 : decode cL_law 856 = .ok (.laload, 1) := by decide +kernel
theorem dL_law_857 : decode cL_law 857 = .ok (.iload 6, 2) := by decide +kernel
theorem dL_law_859 : decode cL_law 859 = .ok (.i2l, 1) := by decide +kernel
theorem dL_law_860 : decode cL_law 860 = .ok (.lcmp, 1) := by decide +kernel
theorem dL_law_861 : decode cL_law 861 = .ok (.ifCond .eq 5, 3) := by decide +kernel
theorem dL_law_864 : decode cL_law 864 = .ok (.iconst 0, 1) := by decide +kernel
theorem dL_law_865 : decode cL_law 865 = .ok (.ireturn, 1) := by decide +kernel
theorem dL_law_866 : decode cL_law 866 = .ok (.goto 475, 3) := by decide +kernel
theorem dL_law_869 : decode cL_law 869 = .ok (.aload_n 1, 1) := by decide +kernel
theorem dL_law_870 : decode cL_law 870 = .ok (.aload_n 0, 1) := by decide +kernel
theorem dL_law_871 : decode cL_law 871 = .ok (.iload 4, 2) := by decide +kernel
theorem dL_law_873 : decode cL_law 873 = .ok (.iconst 1, 1) := by decide +kernel
theorem dL_law_874 : decode cL_law 874 = .ok (.iadd, 1) := by decide +kernel
theorem dL_law_875 : decode cL_law 875 = .ok (.iaload, 1) := by decide +kernel
theorem dL_law_876 : decode cL_law 876 = .ok (.aload_n 3, 1) := by decide +kernel
theorem dL_law_877 : decode cL_law 877 = .ok (.invokestatic 123, 3) := by decide +kernel
theorem dL_law_880 : decode cL_law 880 = .ok (.istore 5, 2) := by decide +kernel
theorem dL_law_882 : decode cL_law 882 = .ok (.aload_n 2, 1) := by decide +kernel
theorem dL_law_883 : decode cL_law 883 = .ok (.aload_n 0, 1) := by decide +kernel
theorem dL_law_884 : decode cL_law 884 = .ok (.iload 4, 2) := by decide +kernel
theorem dL_law_886 : decode cL_law 886 = .ok (.iconst 1, 1) := by decide +kernel
theorem dL_law_887 : decode cL_law 887 = .ok (.iadd, 1) := by decide +kernel
theorem dL_law_888 : decode cL_law 888 = .ok (.iaload, 1) := by decide +kernel
theorem dL_law_889 : decode cL_law 889 = .ok (.invokevirtual 125, 3) := by decide +kernel
theorem dL_law_892 : decode cL_law 892 = .ok (.istore 6, 2) := by decide +kernel
theorem dL_law_894 : decode cL_law 894 = .ok (.aload_n 2, 1) := by decide +kernel
theorem dL_law_895 : decode cL_law 895 = .ok (.invokevirtual 83, 3) := by decide +kernel
theorem dL_law_898 : decode cL_law 898 = .ok (.iload 5, 2) := by decide +kernel
theorem dL_law_900 : decode cL_law 900 = .ok (.if_icmp .eq 5, 3) := by decide +kernel
theorem dL_law_903 : decode cL_law 903 = .ok (.iconst 0, 1) := by decide +kernel
theorem dL_law_904 : decode cL_law 904 = .ok (.ireturn, 1) := by decide +kernel
theorem dL_law_905 : decode cL_law 905 = .ok (.iload 5, 2) := by decide +kernel
theorem dL_law_907 : decode cL_law 907 = .ok (.ifCond .ne 15, 3) := by decide +kernel
theorem dL_law_910 : decode cL_law 910 = .ok (.aload_n 3, 1) := by decide +kernel
theorem dL_law_911 : decode cL_law 911 = .ok (.iconst 0, 1) := by decide +kernel
theorem dL_law_912 : decode cL_law 912 = .ok (.laload, 1) := by decide +kernel
theorem dL_law_913 : decode cL_law 913 = .ok (.iload 6, 2) := by decide +kernel
theorem dL_law_915 : decode cL_law 915 = .ok (.i2l, 1) := by decide +kernel
theorem dL_law_916 : decode cL_law 916 = .ok (.lcmp, 1) := by decide +kernel
theorem dL_law_917 : decode cL_law 917 = .ok (.ifCond .eq 5, 3) := by decide +kernel
theorem dL_law_920 : decode cL_law 920 = .ok (.iconst 0, 1) := by decide +kernel
theorem dL_law_921 : decode cL_law 921 = .ok (.ireturn, 1) := by decide +kernel
theorem dL_law_922 : decode cL_law 922 = .ok (.goto 419, 3) := by decide +kernel
theorem dL_law_925 : decode cL_law 925 = .ok (.aload_n 1, 1) := by decide +kernel
theorem dL_law_926 : decode cL_law 926 = .ok (.aload_n 0, 1) := by decide +kernel
theorem dL_law_927 : decode cL_law 927 = .ok (.iload 4, 2) := by decide +kernel
theorem dL_law_929 : decode cL_law 929 = .ok (.iconst 1, 1) := by decide +kernel
theorem dL_law_930 : decode cL_law 930 = .ok (.iadd, 1) := by decide +kernel
theorem dL_law_931 : decode cL_law 931 = .ok (.iaload, 1) := by decide +kernel
theorem dL_law_932 : decode cL_law 932 = .ok (.aload_n 3, 1) := by decide +kernel
theorem dL_law_933 : decode cL_law 933 = .ok (.invokestatic 126, 3) := by decide +kernel
theorem dL_law_936 : decode cL_law 936 = .ok (.istore 5, 2) := by decide +kernel
theorem dL_law_938 : decode cL_law 938 = .ok (.aload_n 2, 1) := by decide +kernel
theorem dL_law_939 : decode cL_law 939 = .ok (.aload_n 0, 1) := by decide +kernel
theorem dL_law_940 : decode cL_law 940 = .ok (.iload 4, 2) := by decide +kernel
theorem dL_law_942 : decode cL_law 942 = .ok (.iconst 1, 1) := by decide +kernel
theorem dL_law_943 : decode cL_law 943 = .ok (.iadd, 1) := by decide +kernel
theorem dL_law_944 : decode cL_law 944 = .ok (.iaload, 1) := by decide +kernel
theorem dL_law_945 : decode cL_law 945 = .ok (.invokevirtual 128, 3) := by decide +kernel
theorem dL_law_948 : decode cL_law 948 = .ok (.istore 6, 2) := by decide +kernel
theorem dL_law_950 : decode cL_law 950 = .ok (.aload_n 2, 1) := by decide +kernel
theorem dL_law_951 : decode cL_law 951 = .ok (.invokevirtual 83, 3) := by decide +kernel
theorem dL_law_954 : decode cL_law 954 = .ok (.iload 5, 2) := by decide +kernel
theorem dL_law_956 : decode cL_law 956 = .ok (.if_icmp .eq 5, 3) := by decide +kernel
theorem dL_law_959 : decode cL_law 959 = .ok (.iconst 0, 1) := by decide +kernel
theorem dL_law_960 : decode cL_law 960 = .ok (.ireturn, 1) := by decide +kernel
theorem dL_law_961 : decode cL_law 961 = .ok (.iload 5, 2) := by decide +kernel
theorem dL_law_963 : decode cL_law 963 = .ok (.ifCond .ne 15, 3) := by decide +kernel
theorem dL_law_966 : decode cL_law 966 = .ok (.aload_n 3, 1) := by decide +kernel
theorem dL_law_967 : decode cL_law 967 = .ok (.iconst 0, 1) := by decide +kernel
theorem dL_law_968 : decode cL_law 968 = .ok (.laload, 1) := by decide +kernel
theorem dL_law_969 : decode cL_law 969 = .ok (.iload 6, 2) := by decide +kernel
theorem dL_law_971 : decode cL_law 971 = .ok (.i2l, 1) := by decide +kernel
theorem dL_law_972 : decode cL_law 972 = .ok (.lcmp, 1) := by decide +kernel
theorem dL_law_973 : decode cL_law 973 = .ok (.ifCond .eq 5, 3) := by decide +kernel
theorem dL_law_976 : decode cL_law 976 = .ok (.iconst 0, 1) := by decide +kernel
theorem dL_law_977 : decode cL_law 977 = .ok (.ireturn, 1) := by decide +kernel
theorem dL_law_978 : decode cL_law 978 = .ok (.goto 363, 3) := by decide +kernel
theorem dL_law_981 : decode cL_law 981 = .ok (.aload_n 1, 1) := by decide +kernel
theorem dL_law_982 : decode cL_law 982 = .ok (.aload_n 0, 1) := by decide +kernel
theorem dL_law_983 : decode cL_law 983 = .ok (.iload 4, 2) := by decide +kernel
theorem dL_law_985 : decode cL_law 985 = .ok (.iconst 1, 1) := by decide +kernel
theorem dL_law_986 : decode cL_law 986 = .ok (.iadd, 1) := by decide +kernel
theorem dL_law_987 : decode cL_law 987 = .ok (.iaload, 1) := by decide +kernel
theorem dL_law_988 : decode cL_law 988 = .ok (.aload_n 3, 1) := by decide +kernel
theorem dL_law_989 : decode cL_law 989 = .ok (.invokestatic 129, 3) := by decide +kernel
theorem dL_law_992 : decode cL_law 992 = .ok (.istore 5, 2) := by decide +kernel
theorem dL_law_994 : decode cL_law 994 = .ok (.aload_n 2, 1) := by decide +kernel
theorem dL_law_995 : decode cL_law 995 = .ok (.aload_n 0, 1) := by decide +kernel
theorem dL_law_996 : decode cL_law 996 = .ok (.iload 4, 2) := by decide +kernel
theorem dL_law_998 : decode cL_law 998 = .ok (.iconst 1, 1) := by decide +kernel
theorem dL_law_999 : decode cL_law 999 = .ok (.iadd, 1) := by decide +kernel
theorem dL_law_1000 : decode cL_law 1000 = .ok (.iaload, 1) := by decide +kernel
theorem dL_law_1001 : decode cL_law 1001 = .ok (.invokevirtual 131, 3) := by decide +kernel
theorem dL_law_1004 : decode cL_law 1004 = .ok (.istore 6, 2) := by decide +kernel
theorem dL_law_1006 : decode cL_law 1006 = .ok (.aload_n 2, 1) := by decide +kernel
theorem dL_law_1007 : decode cL_law 1007 = .ok (.invokevirtual 83, 3) := by decide +kernel
theorem dL_law_1010 : decode cL_law 1010 = .ok (.iload 5, 2) := by decide +kernel
theorem dL_law_1012 : decode cL_law 1012 = .ok (.if_icmp .eq 5, 3) := by decide +kernel
theorem dL_law_1015 : decode cL_law 1015 = .ok (.iconst 0, 1) := by decide +kernel
theorem dL_law_1016 : decode cL_law 1016 = .ok (.ireturn, 1) := by decide +kernel
theorem dL_law_1017 : decode cL_law 1017 = .ok (.iload 5, 2) := by decide +kernel
theorem dL_law_1019 : decode cL_law 1019 = .ok (.ifCond .ne 15, 3) := by decide +kernel
theorem dL_law_1022 : decode cL_law 1022 = .ok (.aload_n 3, 1) := by decide +kernel
theorem dL_law_1023 : decode cL_law 1023 = .ok (.iconst 0, 1) := by decide +kernel
theorem dL_law_1024 : decode cL_law 1024 = .ok (.laload, 1) := by decide +kernel
theorem dL_law_1025 : decode cL_law 1025 = .ok (.iload 6, 2) := by decide +kernel
theorem dL_law_1027 : decode cL_law 1027 = .ok (.i2l, 1) := by decide +kernel
theorem dL_law_1028 : decode cL_law 1028 = .ok (.lcmp, 1) := by decide +kernel
theorem dL_law_1029 : decode cL_law 1029 = .ok (.ifCond .eq 5, 3) := by decide +kernel
theorem dL_law_1032 : decode cL_law 1032 = .ok (.iconst 0, 1) := by decide +kernel
theorem dL_law_1033 : decode cL_law 1033 = .ok (.ireturn, 1) := by decide +kernel
theorem dL_law_1034 : decode cL_law 1034 = .ok (.goto 307, 3) := by decide +kernel
theorem dL_law_1037 : decode cL_law 1037 = .ok (.aload_n 1, 1) := by decide +kernel
theorem dL_law_1038 : decode cL_law 1038 = .ok (.invokevirtual 132, 3) := by decide +kernel
theorem dL_law_1041 : decode cL_law 1041 = .ok (.aload_n 2, 1) := by decide +kernel
theorem dL_law_1042 : decode cL_law 1042 = .ok (.invokevirtual 135, 3) := by decide +kernel
theorem dL_law_1045 : decode cL_law 1045 = .ok (.if_icmp .eq 296, 3) := by decide +kernel
theorem dL_law_1048 : decode cL_law 1048 = .ok (.iconst 0, 1) := by decide +kernel
theorem dL_law_1049 : decode cL_law 1049 = .ok (.ireturn, 1) := by decide +kernel
theorem dL_law_1050 : decode cL_law 1050 = .ok (.aload_n 1, 1) := by decide +kernel
theorem dL_law_1051 : decode cL_law 1051 = .ok (.invokevirtual 136, 3) := by decide +kernel
theorem dL_law_1054 : decode cL_law 1054 = .ok (.aload_n 2, 1) := by decide +kernel
theorem dL_law_1055 : decode cL_law 1055 = .ok (.invokevirtual 139, 3) := by decide +kernel
theorem dL_law_1058 : decode cL_law 1058 = .ok (.if_icmp .eq 283, 3) := by decide +kernel
theorem dL_law_1061 : decode cL_law 1061 = .ok (.iconst 0, 1) := by decide +kernel
theorem dL_law_1062 : decode cL_law 1062 = .ok (.ireturn, 1) := by decide +kernel
theorem dL_law_1063 : decode cL_law 1063 = .ok (.aload_n 1, 1) := by decide +kernel
theorem dL_law_1064 : decode cL_law 1064 = .ok (.invokevirtual 140, 3) := by decide +kernel
theorem dL_law_1067 : decode cL_law 1067 = .ok (.aload_n 2, 1) := by decide +kernel
theorem dL_law_1068 : decode cL_law 1068 = .ok (.invokevirtual 143, 3) := by decide +kernel
theorem dL_law_1071 : decode cL_law 1071 = .ok (.if_icmp .eq 270, 3) := by decide +kernel
theorem dL_law_1074 : decode cL_law 1074 = .ok (.iconst 0, 1) := by decide +kernel
theorem dL_law_1075 : decode cL_law 1075 = .ok (.ireturn, 1) := by decide +kernel
theorem dL_law_1076 : decode cL_law 1076 = .ok (.aload_n 1, 1) := by decide +kernel
theorem dL_law_1077 : decode cL_law 1077 = .ok (.aload_n 0, 1) := by decide +kernel
theorem dL_law_1078 : decode cL_law 1078 = .ok (.iload 4, 2) := by decide +kernel
theorem dL_law_1080 : decode cL_law 1080 = .ok (.iconst 1, 1) := by decide +kernel
theorem dL_law_1081 : decode cL_law 1081 = .ok (.iadd, 1) := by decide +kernel
theorem dL_law_1082 : decode cL_law 1082 = .ok (.iaload, 1) := by decide +kernel
theorem dL_law_1083 : decode cL_law 1083 = .ok (.aload_n 3, 1) := by decide +kernel
theorem dL_law_1084 : decode cL_law 1084 = .ok (.invokestatic 144, 3) := by decide +kernel
theorem dL_law_1087 : decode cL_law 1087 = .ok (.istore 5, 2) := by decide +kernel
theorem dL_law_1089 : decode cL_law 1089 = .ok (.aload_n 2, 1) := by decide +kernel
theorem dL_law_1090 : decode cL_law 1090 = .ok (.aload_n 0, 1) := by decide +kernel
theorem dL_law_1091 : decode cL_law 1091 = .ok (.iload 4, 2) := by decide +kernel
theorem dL_law_1093 : decode cL_law 1093 = .ok (.iconst 1, 1) := by decide +kernel
theorem dL_law_1094 : decode cL_law 1094 = .ok (.iadd, 1) := by decide +kernel
theorem dL_law_1095 : decode cL_law 1095 = .ok (.iaload, 1) := by decide +kernel
theorem dL_law_1096 : decode cL_law 1096 = .ok (.invokevirtual 146, 3) := by decide +kernel
theorem dL_law_1099 : decode cL_law 1099 = .ok (.istore 6, 2) := by decide +kernel
theorem dL_law_1101 : decode cL_law 1101 = .ok (.aload_n 2, 1) := by decide +kernel
theorem dL_law_1102 : decode cL_law 1102 = .ok (.invokevirtual 83, 3) := by decide +kernel
theorem dL_law_1105 : decode cL_law 1105 = .ok (.iload 5, 2) := by decide +kernel
theorem dL_law_1107 : decode cL_law 1107 = .ok (.if_icmp .eq 5, 3) := by decide +kernel
theorem dL_law_1110 : decode cL_law 1110 = .ok (.iconst 0, 1) := by decide +kernel
theorem dL_law_1111 : decode cL_law 1111 = .ok (.ireturn, 1) := by decide +kernel
theorem dL_law_1112 : decode cL_law 1112 = .ok (.iload 5, 2) := by decide +kernel
theorem dL_law_1114 : decode cL_law 1114 = .ok (.ifCond .ne 15, 3) := by decide +kernel
theorem dL_law_1117 : decode cL_law 1117 = .ok (.aload_n 3, 1) := by decide +kernel
theorem dL_law_1118 : decode cL_law 1118 = .ok (.iconst 0, 1) := by decide +kernel
theorem dL_law_1119 : decode cL_law 1119 = .ok (.laload, 1) := by decide +kernel
theorem dL_law_1120 : decode cL_law 1120 = .ok (.iload 6, 2) := by decide +kernel
theorem dL_law_1122 : decode cL_law 1122 = .ok (.i2l, 1) := by decide +kernel
theorem dL_law_1123 : decode cL_law 1123 = .ok (.lcmp, 1) := by decide +kernel
theorem dL_law_1124 : decode cL_law 1124 = .ok (.ifCond .eq 5, 3) := by decide +kernel
theorem dL_law_1127 : decode cL_law 1127 = .ok (.iconst 0, 1) := by decide +kernel
theorem dL_law_1128 : decode cL_law 1128 = .ok (.ireturn, 1) := by decide +kernel
theorem dL_law_1129 : decode cL_law 1129 = .ok (.goto 212, 3) := by decide +kernel
theorem dL_law_1132 : decode cL_law 1132 = .ok (.aload_n 1, 1) := by decide +kernel
theorem dL_law_1133 : decode cL_law 1133 = .ok (.invokevirtual 147, 3) := by decide +kernel
theorem dL_law_1136 : decode cL_law 1136 = .ok (.aload_n 2, 1) := by decide +kernel
theorem dL_law_1137 : decode cL_law 1137 = .ok (.invokevirtual 150, 3) := by decide +kernel
theorem dL_law_1140 : decode cL_law 1140 = .ok (.if_icmp .eq 201, 3) := by decide +kernel
theorem dL_law_1143 : decode cL_law 1143 = .ok (.iconst 0, 1) := by decide +kernel
theorem dL_law_1144 : decode cL_law 1144 = .ok (.ireturn, 1) := by decide +kernel
theorem dL_law_1145 : decode cL_law 1145 = .ok (.aload_n 1, 1) := by decide +kernel
theorem dL_law_1146 : decode cL_law 1146 = .ok (.aload_n 0, 1) := by decide +kernel
theorem dL_law_1147 : decode cL_law 1147 = .ok (.iload 4, 2) := by decide +kernel
theorem dL_law_1149 : decode cL_law 1149 = .ok (.iconst 1, 1) := by decide +kernel
theorem dL_law_1150 : decode cL_law 1150 = .ok (.iadd, 1) := by decide +kernel
theorem dL_law_1151 : decode cL_law 1151 = .ok (.iaload, 1) := by decide +kernel
theorem dL_law_1152 : decode cL_law 1152 = .ok (.aload_n 3, 1) := by decide +kernel
theorem dL_law_1153 : decode cL_law 1153 = .ok (.invokestatic 151, 3) := by decide +kernel
theorem dL_law_1156 : decode cL_law 1156 = .ok (.istore 5, 2) := by decide +kernel
theorem dL_law_1158 : decode cL_law 1158 = .ok (.aload_n 2, 1) := by decide +kernel
theorem dL_law_1159 : decode cL_law 1159 = .ok (.aload_n 0, 1) := by decide +kernel
theorem dL_law_1160 : decode cL_law 1160 = .ok (.iload 4, 2) := by decide +kernel
theorem dL_law_1162 : decode cL_law 1162 = .ok (.iconst 1, 1) := by decide +kernel
theorem dL_law_1163 : decode cL_law 1163 = .ok (.iadd, 1) := by decide +kernel
theorem dL_law_1164 : decode cL_law 1164 = .ok (.iaload, 1) := by decide +kernel
theorem dL_law_1165 : decode cL_law 1165 = .ok (.invokevirtual 153, 3) := by decide +kernel
theorem dL_law_1168 : decode cL_law 1168 = .ok (.istore 6, 2) := by decide +kernel
theorem dL_law_1170 : decode cL_law 1170 = .ok (.aload_n 2, 1) := by decide +kernel
theorem dL_law_1171 : decode cL_law 1171 = .ok (.invokevirtual 83, 3) := by decide +kernel
theorem dL_law_1174 : decode cL_law 1174 = .ok (.iload 5, 2) := by decide +kernel
theorem dL_law_1176 : decode cL_law 1176 = .ok (.if_icmp .eq 5, 3) := by decide +kernel
theorem dL_law_1179 : decode cL_law 1179 = .ok (.iconst 0, 1) := by decide +kernel
theorem dL_law_1180 : decode cL_law 1180 = .ok (.ireturn, 1) := by decide +kernel
theorem dL_law_1181 : decode cL_law 1181 = .ok (.iload 5, 2) := by decide +kernel
theorem dL_law_1183 : decode cL_law 1183 = .ok (.ifCond .ne 15, 3) := by decide +kernel
theorem dL_law_1186 : decode cL_law 1186 = .ok (.aload_n 3, 1) := by decide +kernel
theorem dL_law_1187 : decode cL_law 1187 = .ok (.iconst 0, 1) := by decide +kernel
theorem dL_law_1188 : decode cL_law 1188 = .ok (.laload, 1) := by decide +kernel
theorem dL_law_1189 : decode cL_law 1189 = .ok (.iload 6, 2) := by decide +kernel
theorem dL_law_1191 : decode cL_law 1191 = .ok (.i2l, 1) := by decide +kernel
theorem dL_law_1192 : decode cL_law 1192 = .ok (.lcmp, 1) := by decide +kernel
theorem dL_law_1193 : decode cL_law 1193 = .ok (.ifCond .eq 5, 3) := by decide +kernel
theorem dL_law_1196 : decode cL_law 1196 = .ok (.iconst 0, 1) := by decide +kernel
theorem dL_law_1197 : decode cL_law 1197 = .ok (.ireturn, 1) := by decide +kernel
theorem dL_law_1198 : decode cL_law 1198 = .ok (.goto 143, 3) := by decide +kernel
theorem dL_law_1201 : decode cL_law 1201 = .ok (.aload_n 1, 1) := by decide +kernel
theorem dL_law_1202 : decode cL_law 1202 = .ok (.aload_n 0, 1) := by decide +kernel
theorem dL_law_1203 : decode cL_law 1203 = .ok (.iload 4, 2) := by decide +kernel
theorem dL_law_1205 : decode cL_law 1205 = .ok (.iconst 1, 1) := by decide +kernel
theorem dL_law_1206 : decode cL_law 1206 = .ok (.iadd, 1) := by decide +kernel
theorem dL_law_1207 : decode cL_law 1207 = .ok (.iaload, 1) := by decide +kernel
theorem dL_law_1208 : decode cL_law 1208 = .ok (.aload_n 3, 1) := by decide +kernel
theorem dL_law_1209 : decode cL_law 1209 = .ok (.invokestatic 154, 3) := by decide +kernel
theorem dL_law_1212 : decode cL_law 1212 = .ok (.istore 5, 2) := by decide +kernel
theorem dL_law_1214 : decode cL_law 1214 = .ok (.aload_n 2, 1) := by decide +kernel
theorem dL_law_1215 : decode cL_law 1215 = .ok (.aload_n 0, 1) := by decide +kernel
theorem dL_law_1216 : decode cL_law 1216 = .ok (.iload 4, 2) := by decide +kernel
theorem dL_law_1218 : decode cL_law 1218 = .ok (.iconst 1, 1) := by decide +kernel
theorem dL_law_1219 : decode cL_law 1219 = .ok (.iadd, 1) := by decide +kernel
theorem dL_law_1220 : decode cL_law 1220 = .ok (.iaload, 1) := by decide +kernel
theorem dL_law_1221 : decode cL_law 1221 = .ok (.invokevirtual 156, 3) := by decide +kernel
theorem dL_law_1224 : decode cL_law 1224 = .ok (.istore 6, 2) := by decide +kernel
theorem dL_law_1226 : decode cL_law 1226 = .ok (.aload_n 2, 1) := by decide +kernel
theorem dL_law_1227 : decode cL_law 1227 = .ok (.invokevirtual 83, 3) := by decide +kernel
theorem dL_law_1230 : decode cL_law 1230 = .ok (.iload 5, 2) := by decide +kernel
theorem dL_law_1232 : decode cL_law 1232 = .ok (.if_icmp .eq 5, 3) := by decide +kernel
theorem dL_law_1235 : decode cL_law 1235 = .ok (.iconst 0, 1) := by decide +kernel
theorem dL_law_1236 : decode cL_law 1236 = .ok (.ireturn, 1) := by decide +kernel
theorem dL_law_1237 : decode cL_law 1237 = .ok (.iload 5, 2) := by decide +kernel
theorem dL_law_1239 : decode cL_law 1239 = .ok (.ifCond .ne 15, 3) := by decide +kernel
theorem dL_law_1242 : decode cL_law 1242 = .ok (.aload_n 3, 1) := by decide +kernel
theorem dL_law_1243 : decode cL_law 1243 = .ok (.iconst 0, 1) := by decide +kernel
theorem dL_law_1244 : decode cL_law 1244 = .ok (.laload, 1) := by decide +kernel
theorem dL_law_1245 : decode cL_law 1245 = .ok (.iload 6, 2) := by decide +kernel
theorem dL_law_1247 : decode cL_law 1247 = .ok (.i2l, 1) := by decide +kernel
theorem dL_law_1248 : decode cL_law 1248 = .ok (.lcmp, 1) := by decide +kernel
theorem dL_law_1249 : decode cL_law 1249 = .ok (.ifCond .eq 5, 3) := by decide +kernel
theorem dL_law_1252 : decode cL_law 1252 = .ok (.iconst 0, 1) := by decide +kernel
theorem dL_law_1253 : decode cL_law 1253 = .ok (.ireturn, 1) := by decide +kernel
theorem dL_law_1254 : decode cL_law 1254 = .ok (.goto 87, 3) := by decide +kernel
theorem dL_law_1257 : decode cL_law 1257 = .ok (.aload_n 1, 1) := by decide +kernel
theorem dL_law_1258 : decode cL_law 1258 = .ok (.invokevirtual 157, 3) := by decide +kernel
theorem dL_law_1261 : decode cL_law 1261 = .ok (.aload_n 2, 1) := by decide +kernel
theorem dL_law_1262 : decode cL_law 1262 = .ok (.invokevirtual 160, 3) := by decide +kernel
theorem dL_law_1265 : decode cL_law 1265 = .ok (.if_icmp .eq 76, 3) := by decide +kernel
theorem dL_law_1268 : decode cL_law 1268 = .ok (.iconst 0, 1) := by decide +kernel
theorem dL_law_1269 : decode cL_law 1269 = .ok (.ireturn, 1) := by decide +kernel
theorem dL_law_1270 : decode cL_law 1270 = .ok (.aload_n 1, 1) := by decide +kernel
theorem dL_law_1271 : decode cL_law 1271 = .ok (.invokevirtual 161, 3) := by decide +kernel
theorem dL_law_1274 : decode cL_law 1274 = .ok (.aload_n 2, 1) := by decide +kernel
theorem dL_law_1275 : decode cL_law 1275 = .ok (.invokevirtual 164, 3) := by decide +kernel
theorem dL_law_1278 : decode cL_law 1278 = .ok (.if_icmp .eq 63, 3) := by decide +kernel
theorem dL_law_1281 : decode cL_law 1281 = .ok (.iconst 0, 1) := by decide +kernel
theorem dL_law_1282 : decode cL_law 1282 = .ok (.ireturn, 1) := by decide +kernel
theorem dL_law_1283 : decode cL_law 1283 = .ok (.aload_n 1, 1) := by decide +kernel
theorem dL_law_1284 : decode cL_law 1284 = .ok (.aload_n 3, 1) := by decide +kernel
theorem dL_law_1285 : decode cL_law 1285 = .ok (.invokestatic 165, 3) := by decide +kernel
theorem dL_law_1288 : decode cL_law 1288 = .ok (.istore 5, 2) := by decide +kernel
theorem dL_law_1290 : decode cL_law 1290 = .ok (.aload_n 2, 1) := by decide +kernel
theorem dL_law_1291 : decode cL_law 1291 = .ok (.invokevirtual 167, 3) := by decide +kernel
theorem dL_law_1294 : decode cL_law 1294 = .ok (.istore 6, 2) := by decide +kernel
theorem dL_law_1296 : decode cL_law 1296 = .ok (.aload_n 2, 1) := by decide +kernel
theorem dL_law_1297 : decode cL_law 1297 = .ok (.invokevirtual 83, 3) := by decide +kernel
theorem dL_law_1300 : decode cL_law 1300 = .ok (.iload 5, 2) := by decide +kernel
theorem dL_law_1302 : decode cL_law 1302 = .ok (.if_icmp .eq 5, 3) := by decide +kernel
theorem dL_law_1305 : decode cL_law 1305 = .ok (.iconst 0, 1) := by decide +kernel
theorem dL_law_1306 : decode cL_law 1306 = .ok (.ireturn, 1) := by decide +kernel
theorem dL_law_1307 : decode cL_law 1307 = .ok (.iload 5, 2) := by decide +kernel
theorem dL_law_1309 : decode cL_law 1309 = .ok (.ifCond .ne 15, 3) := by decide +kernel
theorem dL_law_1312 : decode cL_law 1312 = .ok (.aload_n 3, 1) := by decide +kernel
theorem dL_law_1313 : decode cL_law 1313 = .ok (.iconst 0, 1) := by decide +kernel
theorem dL_law_1314 : decode cL_law 1314 = .ok (.laload, 1) := by decide +kernel
theorem dL_law_1315 : decode cL_law 1315 = .ok (.iload 6, 2) := by decide +kernel
theorem dL_law_1317 : decode cL_law 1317 = .ok (.i2l, 1) := by decide +kernel
theorem dL_law_1318 : decode cL_law 1318 = .ok (.lcmp, 1) := by decide +kernel
theorem dL_law_1319 : decode cL_law 1319 = .ok (.ifCond .eq 5, 3) := by decide +kernel
theorem dL_law_1322 : decode cL_law 1322 = .ok (.iconst 0, 1) := by decide +kernel
theorem dL_law_1323 : decode cL_law 1323 = .ok (.ireturn, 1) := by decide +kernel
theorem dL_law_1324 : decode cL_law 1324 = .ok (.goto 17, 3) := by decide +kernel
theorem dL_law_1327 : decode cL_law 1327 = .ok (.aload_n 1, 1) := by decide +kernel
theorem dL_law_1328 : decode cL_law 1328 = .ok (.invokevirtual 168, 3) := by decide +kernel
theorem dL_law_1331 : decode cL_law 1331 = .ok (.aload_n 2, 1) := by decide +kernel
theorem dL_law_1332 : decode cL_law 1332 = .ok (.invokevirtual 172, 3) := by decide +kernel
theorem dL_law_1335 : decode cL_law 1335 = .ok (.lcmp, 1) := by decide +kernel
theorem dL_law_1336 : decode cL_law 1336 = .ok (.ifCond .eq 5, 3) := by decide +kernel
theorem dL_law_1339 : decode cL_law 1339 = .ok (.iconst 0, 1) := by decide +kernel
theorem dL_law_1340 : decode cL_law 1340 = .ok (.ireturn, 1) := by decide +kernel
theorem dL_law_1341 : decode cL_law 1341 = .ok (.iinc 4 5, 3) := by decide +kernel
theorem dL_law_1344 : decode cL_law 1344 = .ok (.goto (-1321), 3) := by decide +kernel
theorem dL_law_1347 : decode cL_law 1347 = .ok (.iconst 1, 1) := by decide +kernel
theorem dL_law_1348 : decode cL_law 1348 = .ok (.ireturn, 1) := by decide +kernel
end
section
theorem zz_probe : True := trivial
end
