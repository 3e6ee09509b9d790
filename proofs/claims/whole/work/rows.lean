section
-- ===== PART A: goes FIRST, ahead of the names: the tables' words, and 'selects' of the private methods out of them =====
/-- a private method of a class that the tables say can be made, by its rows of tables_1 -/
def lw_okq (q : MethodName × Nat) : Prop := (q.1.cls ≠ "java/lang/invoke/MethodHandle" ∧ q.1.cls ≠ "java/lang/invoke/VarHandle") ∧ Cond.instantiable q.1.cls q.2 ∈ tables_1 ∧ Cond.privateMethod q.1 ∈ tables_1 ∧ Cond.instanceMethod q.1 ∈ tables_1
theorem lw_p0 : lw_okq (⟨"BatchSavings$Batches", "freeOrders", "()I"⟩, 5) := ⟨⟨by decide +kernel, by decide +kernel⟩, List.mem_of_getElem? (i := 97) (by decide +kernel), List.mem_of_getElem? (i := 169) (by decide +kernel), List.mem_of_getElem? (i := 170) (by decide +kernel)⟩
theorem lw_p1 : lw_okq (⟨"BatchSavings$Batches", "isFree", "(I)Z"⟩, 5) := ⟨⟨by decide +kernel, by decide +kernel⟩, List.mem_of_getElem? (i := 97) (by decide +kernel), List.mem_of_getElem? (i := 173) (by decide +kernel), List.mem_of_getElem? (i := 174) (by decide +kernel)⟩
theorem lw_p2 : lw_okq (⟨"BatchSavings$Matching", "pairs", "()I"⟩, 5) := ⟨⟨by decide +kernel, by decide +kernel⟩, List.mem_of_getElem? (i := 123) (by decide +kernel), List.mem_of_getElem? (i := 177) (by decide +kernel), List.mem_of_getElem? (i := 178) (by decide +kernel)⟩
theorem lw_p3 : lw_okq (⟨"BatchSavings$Matching", "saved", "()I"⟩, 5) := ⟨⟨by decide +kernel, by decide +kernel⟩, List.mem_of_getElem? (i := 123) (by decide +kernel), List.mem_of_getElem? (i := 181) (by decide +kernel), List.mem_of_getElem? (i := 182) (by decide +kernel)⟩
theorem lw_p4 : lw_okq (⟨"BatchSavings$Orders", "savingOf", "(II)I"⟩, 6) := ⟨⟨by decide +kernel, by decide +kernel⟩, List.mem_of_getElem? (i := 27) (by decide +kernel), List.mem_of_getElem? (i := 185) (by decide +kernel), List.mem_of_getElem? (i := 186) (by decide +kernel)⟩
theorem lw_p5 : lw_okq (⟨"java/lang/Throwable", "fillInStackTrace", "(I)Ljava/lang/Throwable;"⟩, 6) := ⟨⟨by decide +kernel, by decide +kernel⟩, List.mem_of_getElem? (i := 244) (by decide +kernel), List.mem_of_getElem? (i := 242) (by decide +kernel), List.mem_of_getElem? (i := 243) (by decide +kernel)⟩
theorem lw_p6 : lw_okq (⟨"BatchSavings$Orders", "add", "(III)I"⟩, 6) := ⟨⟨by decide +kernel, by decide +kernel⟩, List.mem_of_getElem? (i := 27) (by decide +kernel), List.mem_of_getElem? (i := 290) (by decide +kernel), List.mem_of_getElem? (i := 291) (by decide +kernel)⟩
theorem lw_p7 : lw_okq (⟨"BatchSavings", "needTwoOrders", "(II)V"⟩, 4) := ⟨⟨by decide +kernel, by decide +kernel⟩, List.mem_of_getElem? (i := 19) (by decide +kernel), List.mem_of_getElem? (i := 302) (by decide +kernel), List.mem_of_getElem? (i := 303) (by decide +kernel)⟩
theorem lw_p8 : lw_okq (⟨"BatchSavings", "needOrder", "(I)V"⟩, 4) := ⟨⟨by decide +kernel, by decide +kernel⟩, List.mem_of_getElem? (i := 19) (by decide +kernel), List.mem_of_getElem? (i := 306) (by decide +kernel), List.mem_of_getElem? (i := 307) (by decide +kernel)⟩
theorem lw_p9 : lw_okq (⟨"BatchSavings$Orders", "has", "(I)Z"⟩, 6) := ⟨⟨by decide +kernel, by decide +kernel⟩, List.mem_of_getElem? (i := 27) (by decide +kernel), List.mem_of_getElem? (i := 310) (by decide +kernel), List.mem_of_getElem? (i := 311) (by decide +kernel)⟩
theorem lw_p10 : lw_okq (⟨"BatchSavings$Orders", "putTogether", "(III)V"⟩, 6) := ⟨⟨by decide +kernel, by decide +kernel⟩, List.mem_of_getElem? (i := 27) (by decide +kernel), List.mem_of_getElem? (i := 334) (by decide +kernel), List.mem_of_getElem? (i := 335) (by decide +kernel)⟩
theorem lw_p11 : lw_okq (⟨"BatchSavings$Rules", "bar", "(IIZ)V"⟩, 7) := ⟨⟨by decide +kernel, by decide +kernel⟩, List.mem_of_getElem? (i := 66) (by decide +kernel), List.mem_of_getElem? (i := 353) (by decide +kernel), List.mem_of_getElem? (i := 354) (by decide +kernel)⟩
theorem lw_p12 : lw_okq (⟨"BatchSavings$Rules", "allowPair", "(II)Z"⟩, 7) := ⟨⟨by decide +kernel, by decide +kernel⟩, List.mem_of_getElem? (i := 66) (by decide +kernel), List.mem_of_getElem? (i := 358) (by decide +kernel), List.mem_of_getElem? (i := 359) (by decide +kernel)⟩
theorem lw_p13 : lw_okq (⟨"BatchSavings$Rules", "startSet", "()V"⟩, 7) := ⟨⟨by decide +kernel, by decide +kernel⟩, List.mem_of_getElem? (i := 66) (by decide +kernel), List.mem_of_getElem? (i := 362) (by decide +kernel), List.mem_of_getElem? (i := 363) (by decide +kernel)⟩
theorem lw_p14 : lw_okq (⟨"BatchSavings$Rules", "addToSet", "(I)V"⟩, 7) := ⟨⟨by decide +kernel, by decide +kernel⟩, List.mem_of_getElem? (i := 66) (by decide +kernel), List.mem_of_getElem? (i := 366) (by decide +kernel), List.mem_of_getElem? (i := 367) (by decide +kernel)⟩
theorem lw_p15 : lw_okq (⟨"BatchSavings$Rules", "allowSet", "()Z"⟩, 7) := ⟨⟨by decide +kernel, by decide +kernel⟩, List.mem_of_getElem? (i := 66) (by decide +kernel), List.mem_of_getElem? (i := 370) (by decide +kernel), List.mem_of_getElem? (i := 371) (by decide +kernel)⟩
def lw_privs_1 : List (MethodName × Nat) := [(⟨"BatchSavings$Batches", "freeOrders", "()I"⟩, 5), (⟨"BatchSavings$Batches", "isFree", "(I)Z"⟩, 5), (⟨"BatchSavings$Matching", "pairs", "()I"⟩, 5), (⟨"BatchSavings$Matching", "saved", "()I"⟩, 5), (⟨"BatchSavings$Orders", "savingOf", "(II)I"⟩, 6), (⟨"java/lang/Throwable", "fillInStackTrace", "(I)Ljava/lang/Throwable;"⟩, 6), (⟨"BatchSavings$Orders", "add", "(III)I"⟩, 6), (⟨"BatchSavings", "needTwoOrders", "(II)V"⟩, 4), (⟨"BatchSavings", "needOrder", "(I)V"⟩, 4), (⟨"BatchSavings$Orders", "has", "(I)Z"⟩, 6), (⟨"BatchSavings$Orders", "putTogether", "(III)V"⟩, 6), (⟨"BatchSavings$Rules", "bar", "(IIZ)V"⟩, 7), (⟨"BatchSavings$Rules", "allowPair", "(II)Z"⟩, 7), (⟨"BatchSavings$Rules", "startSet", "()V"⟩, 7), (⟨"BatchSavings$Rules", "addToSet", "(I)V"⟩, 7), (⟨"BatchSavings$Rules", "allowSet", "()Z"⟩, 7)]
theorem lw_r1 : ∀ q ∈ lw_privs_1, lw_okq q := List.forall_mem_cons.mpr ⟨lw_p0, List.forall_mem_cons.mpr ⟨lw_p1, List.forall_mem_cons.mpr ⟨lw_p2, List.forall_mem_cons.mpr ⟨lw_p3, List.forall_mem_cons.mpr ⟨lw_p4, List.forall_mem_cons.mpr ⟨lw_p5, List.forall_mem_cons.mpr ⟨lw_p6, List.forall_mem_cons.mpr ⟨lw_p7, List.forall_mem_cons.mpr ⟨lw_p8, List.forall_mem_cons.mpr ⟨lw_p9, List.forall_mem_cons.mpr ⟨lw_p10, List.forall_mem_cons.mpr ⟨lw_p11, List.forall_mem_cons.mpr ⟨lw_p12, List.forall_mem_cons.mpr ⟨lw_p13, List.forall_mem_cons.mpr ⟨lw_p14, List.forall_mem_cons.mpr ⟨lw_p15, fun _ h => absurd h List.not_mem_nil⟩⟩⟩⟩⟩⟩⟩⟩⟩⟩⟩⟩⟩⟩⟩⟩
theorem lw_p16 : lw_okq (⟨"BatchSavings$Rules", "getAlong", "(II)Z"⟩, 7) := ⟨⟨by decide +kernel, by decide +kernel⟩, List.mem_of_getElem? (i := 66) (by decide +kernel), List.mem_of_getElem? (i := 374) (by decide +kernel), List.mem_of_getElem? (i := 375) (by decide +kernel)⟩
theorem lw_p17 : lw_okq (⟨"BatchSavings", "needFree", "(I)V"⟩, 4) := ⟨⟨by decide +kernel, by decide +kernel⟩, List.mem_of_getElem? (i := 19) (by decide +kernel), List.mem_of_getElem? (i := 386) (by decide +kernel), List.mem_of_getElem? (i := 387) (by decide +kernel)⟩
theorem lw_p18 : lw_okq (⟨"BatchSavings$Rules", "bringNear", "(IIZ)V"⟩, 7) := ⟨⟨by decide +kernel, by decide +kernel⟩, List.mem_of_getElem? (i := 66) (by decide +kernel), List.mem_of_getElem? (i := 414) (by decide +kernel), List.mem_of_getElem? (i := 415) (by decide +kernel)⟩
theorem lw_p19 : lw_okq (⟨"BatchSavings$Rules", "aboveAlone", "()I"⟩, 7) := ⟨⟨by decide +kernel, by decide +kernel⟩, List.mem_of_getElem? (i := 66) (by decide +kernel), List.mem_of_getElem? (i := 425) (by decide +kernel), List.mem_of_getElem? (i := 426) (by decide +kernel)⟩
theorem lw_p20 : lw_okq (⟨"BatchSavings", "takeGains", "()V"⟩, 4) := ⟨⟨by decide +kernel, by decide +kernel⟩, List.mem_of_getElem? (i := 19) (by decide +kernel), List.mem_of_getElem? (i := 436) (by decide +kernel), List.mem_of_getElem? (i := 437) (by decide +kernel)⟩
theorem lw_p21 : lw_okq (⟨"BatchSavings$Matching", "putGain", "(III)V"⟩, 5) := ⟨⟨by decide +kernel, by decide +kernel⟩, List.mem_of_getElem? (i := 123) (by decide +kernel), List.mem_of_getElem? (i := 443) (by decide +kernel), List.mem_of_getElem? (i := 444) (by decide +kernel)⟩
theorem lw_p22 : lw_okq (⟨"BatchSavings$Matching", "pairAnew", "(Z)V"⟩, 5) := ⟨⟨by decide +kernel, by decide +kernel⟩, List.mem_of_getElem? (i := 123) (by decide +kernel), List.mem_of_getElem? (i := 448) (by decide +kernel), List.mem_of_getElem? (i := 449) (by decide +kernel)⟩
theorem lw_p23 : lw_okq (⟨"BatchSavings$Matching", "findSums", "()V"⟩, 5) := ⟨⟨by decide +kernel, by decide +kernel⟩, List.mem_of_getElem? (i := 123) (by decide +kernel), List.mem_of_getElem? (i := 452) (by decide +kernel), List.mem_of_getElem? (i := 453) (by decide +kernel)⟩
theorem lw_p24 : lw_okq (⟨"BatchSavings$Matching", "greatestSum", "(II)I"⟩, 5) := ⟨⟨by decide +kernel, by decide +kernel⟩, List.mem_of_getElem? (i := 123) (by decide +kernel), List.mem_of_getElem? (i := 462) (by decide +kernel), List.mem_of_getElem? (i := 463) (by decide +kernel)⟩
theorem lw_p25 : lw_okq (⟨"BatchSavings$Matching", "mayTake", "(III)Z"⟩, 5) := ⟨⟨by decide +kernel, by decide +kernel⟩, List.mem_of_getElem? (i := 123) (by decide +kernel), List.mem_of_getElem? (i := 466) (by decide +kernel), List.mem_of_getElem? (i := 467) (by decide +kernel)⟩
theorem lw_p26 : lw_okq (⟨"BatchSavings$Matching", "sumWith", "(III)I"⟩, 5) := ⟨⟨by decide +kernel, by decide +kernel⟩, List.mem_of_getElem? (i := 123) (by decide +kernel), List.mem_of_getElem? (i := 470) (by decide +kernel), List.mem_of_getElem? (i := 471) (by decide +kernel)⟩
theorem lw_p27 : lw_okq (⟨"BatchSavings$Matching", "pairBySums", "()V"⟩, 5) := ⟨⟨by decide +kernel, by decide +kernel⟩, List.mem_of_getElem? (i := 123) (by decide +kernel), List.mem_of_getElem? (i := 475) (by decide +kernel), List.mem_of_getElem? (i := 476) (by decide +kernel)⟩
theorem lw_p28 : lw_okq (⟨"BatchSavings$Matching", "firstPartner", "(III)I"⟩, 5) := ⟨⟨by decide +kernel, by decide +kernel⟩, List.mem_of_getElem? (i := 123) (by decide +kernel), List.mem_of_getElem? (i := 479) (by decide +kernel), List.mem_of_getElem? (i := 480) (by decide +kernel)⟩
theorem lw_p29 : lw_okq (⟨"BatchSavings$Matching", "bind", "(II)V"⟩, 5) := ⟨⟨by decide +kernel, by decide +kernel⟩, List.mem_of_getElem? (i := 123) (by decide +kernel), List.mem_of_getElem? (i := 483) (by decide +kernel), List.mem_of_getElem? (i := 484) (by decide +kernel)⟩
theorem lw_p30 : lw_okq (⟨"BatchSavings$Matching", "pairByRule", "()V"⟩, 5) := ⟨⟨by decide +kernel, by decide +kernel⟩, List.mem_of_getElem? (i := 123) (by decide +kernel), List.mem_of_getElem? (i := 487) (by decide +kernel), List.mem_of_getElem? (i := 488) (by decide +kernel)⟩
theorem lw_p31 : lw_okq (⟨"BatchSavings$Matching", "part", "(I)V"⟩, 5) := ⟨⟨by decide +kernel, by decide +kernel⟩, List.mem_of_getElem? (i := 123) (by decide +kernel), List.mem_of_getElem? (i := 506) (by decide +kernel), List.mem_of_getElem? (i := 507) (by decide +kernel)⟩
def lw_privs_2 : List (MethodName × Nat) := [(⟨"BatchSavings$Rules", "getAlong", "(II)Z"⟩, 7), (⟨"BatchSavings", "needFree", "(I)V"⟩, 4), (⟨"BatchSavings$Rules", "bringNear", "(IIZ)V"⟩, 7), (⟨"BatchSavings$Rules", "aboveAlone", "()I"⟩, 7), (⟨"BatchSavings", "takeGains", "()V"⟩, 4), (⟨"BatchSavings$Matching", "putGain", "(III)V"⟩, 5), (⟨"BatchSavings$Matching", "pairAnew", "(Z)V"⟩, 5), (⟨"BatchSavings$Matching", "findSums", "()V"⟩, 5), (⟨"BatchSavings$Matching", "greatestSum", "(II)I"⟩, 5), (⟨"BatchSavings$Matching", "mayTake", "(III)Z"⟩, 5), (⟨"BatchSavings$Matching", "sumWith", "(III)I"⟩, 5), (⟨"BatchSavings$Matching", "pairBySums", "()V"⟩, 5), (⟨"BatchSavings$Matching", "firstPartner", "(III)I"⟩, 5), (⟨"BatchSavings$Matching", "bind", "(II)V"⟩, 5), (⟨"BatchSavings$Matching", "pairByRule", "()V"⟩, 5), (⟨"BatchSavings$Matching", "part", "(I)V"⟩, 5)]
theorem lw_r2 : ∀ q ∈ lw_privs_2, lw_okq q := List.forall_mem_cons.mpr ⟨lw_p16, List.forall_mem_cons.mpr ⟨lw_p17, List.forall_mem_cons.mpr ⟨lw_p18, List.forall_mem_cons.mpr ⟨lw_p19, List.forall_mem_cons.mpr ⟨lw_p20, List.forall_mem_cons.mpr ⟨lw_p21, List.forall_mem_cons.mpr ⟨lw_p22, List.forall_mem_cons.mpr ⟨lw_p23, List.forall_mem_cons.mpr ⟨lw_p24, List.forall_mem_cons.mpr ⟨lw_p25, List.forall_mem_cons.mpr ⟨lw_p26, List.forall_mem_cons.mpr ⟨lw_p27, List.forall_mem_cons.mpr ⟨lw_p28, List.forall_mem_cons.mpr ⟨lw_p29, List.forall_mem_cons.mpr ⟨lw_p30, List.forall_mem_cons.mpr ⟨lw_p31, fun _ h => absurd h List.not_mem_nil⟩⟩⟩⟩⟩⟩⟩⟩⟩⟩⟩⟩⟩⟩⟩⟩
theorem lw_p32 : lw_okq (⟨"BatchSavings$Batches", "addEmpty", "()I"⟩, 5) := ⟨⟨by decide +kernel, by decide +kernel⟩, List.mem_of_getElem? (i := 97) (by decide +kernel), List.mem_of_getElem? (i := 510) (by decide +kernel), List.mem_of_getElem? (i := 511) (by decide +kernel)⟩
theorem lw_p33 : lw_okq (⟨"BatchSavings$Batches", "put", "(II)V"⟩, 5) := ⟨⟨by decide +kernel, by decide +kernel⟩, List.mem_of_getElem? (i := 97) (by decide +kernel), List.mem_of_getElem? (i := 514) (by decide +kernel), List.mem_of_getElem? (i := 515) (by decide +kernel)⟩
theorem lw_p34 : lw_okq (⟨"BatchSavings", "needBatch", "(I)V"⟩, 4) := ⟨⟨by decide +kernel, by decide +kernel⟩, List.mem_of_getElem? (i := 19) (by decide +kernel), List.mem_of_getElem? (i := 525) (by decide +kernel), List.mem_of_getElem? (i := 526) (by decide +kernel)⟩
theorem lw_p35 : lw_okq (⟨"BatchSavings$Batches", "has", "(I)Z"⟩, 5) := ⟨⟨by decide +kernel, by decide +kernel⟩, List.mem_of_getElem? (i := 97) (by decide +kernel), List.mem_of_getElem? (i := 529) (by decide +kernel), List.mem_of_getElem? (i := 530) (by decide +kernel)⟩
theorem lw_p36 : lw_okq (⟨"BatchSavings", "suits", "(II)Z"⟩, 4) := ⟨⟨by decide +kernel, by decide +kernel⟩, List.mem_of_getElem? (i := 19) (by decide +kernel), List.mem_of_getElem? (i := 534) (by decide +kernel), List.mem_of_getElem? (i := 535) (by decide +kernel)⟩
theorem lw_p37 : lw_okq (⟨"BatchSavings$Batches", "orderAt", "(II)I"⟩, 5) := ⟨⟨by decide +kernel, by decide +kernel⟩, List.mem_of_getElem? (i := 97) (by decide +kernel), List.mem_of_getElem? (i := 539) (by decide +kernel), List.mem_of_getElem? (i := 540) (by decide +kernel)⟩
theorem lw_p38 : lw_okq (⟨"BatchSavings$Batches", "savingWithLast", "(II)I"⟩, 5) := ⟨⟨by decide +kernel, by decide +kernel⟩, List.mem_of_getElem? (i := 97) (by decide +kernel), List.mem_of_getElem? (i := 545) (by decide +kernel), List.mem_of_getElem? (i := 546) (by decide +kernel)⟩
theorem lw_p39 : lw_okq (⟨"BatchSavings$Batches", "isFull", "(I)Z"⟩, 5) := ⟨⟨by decide +kernel, by decide +kernel⟩, List.mem_of_getElem? (i := 97) (by decide +kernel), List.mem_of_getElem? (i := 552) (by decide +kernel), List.mem_of_getElem? (i := 553) (by decide +kernel)⟩
theorem lw_p40 : lw_okq (⟨"BatchSavings$Batches", "wayOf", "(I)I"⟩, 5) := ⟨⟨by decide +kernel, by decide +kernel⟩, List.mem_of_getElem? (i := 97) (by decide +kernel), List.mem_of_getElem? (i := 557) (by decide +kernel), List.mem_of_getElem? (i := 558) (by decide +kernel)⟩
theorem lw_p41 : lw_okq (⟨"BatchSavings$Batches", "sumOf", "(I[I)I"⟩, 5) := ⟨⟨by decide +kernel, by decide +kernel⟩, List.mem_of_getElem? (i := 97) (by decide +kernel), List.mem_of_getElem? (i := 561) (by decide +kernel), List.mem_of_getElem? (i := 562) (by decide +kernel)⟩
theorem lw_p42 : lw_okq (⟨"BatchSavings$Batches", "savedBy", "(I)I"⟩, 5) := ⟨⟨by decide +kernel, by decide +kernel⟩, List.mem_of_getElem? (i := 97) (by decide +kernel), List.mem_of_getElem? (i := 565) (by decide +kernel), List.mem_of_getElem? (i := 566) (by decide +kernel)⟩
theorem lw_p43 : lw_okq (⟨"BatchSavings$Batches", "take", "(II)V"⟩, 5) := ⟨⟨by decide +kernel, by decide +kernel⟩, List.mem_of_getElem? (i := 97) (by decide +kernel), List.mem_of_getElem? (i := 577) (by decide +kernel), List.mem_of_getElem? (i := 578) (by decide +kernel)⟩
theorem lw_p44 : lw_okq (⟨"BatchSavings$Batches", "saved", "()I"⟩, 5) := ⟨⟨by decide +kernel, by decide +kernel⟩, List.mem_of_getElem? (i := 97) (by decide +kernel), List.mem_of_getElem? (i := 639) (by decide +kernel), List.mem_of_getElem? (i := 640) (by decide +kernel)⟩
theorem lw_p45 : lw_okq (⟨"BatchSavingsModel", "isOrder", "(I)Z"⟩, 18) := ⟨⟨by decide +kernel, by decide +kernel⟩, List.mem_of_getElem? (i := 643) (by decide +kernel), List.mem_of_getElem? (i := 719) (by decide +kernel), List.mem_of_getElem? (i := 720) (by decide +kernel)⟩
theorem lw_p46 : lw_okq (⟨"BatchSavingsModel", "save", "(II)I"⟩, 18) := ⟨⟨by decide +kernel, by decide +kernel⟩, List.mem_of_getElem? (i := 643) (by decide +kernel), List.mem_of_getElem? (i := 723) (by decide +kernel), List.mem_of_getElem? (i := 724) (by decide +kernel)⟩
theorem lw_p47 : lw_okq (⟨"BatchSavingsModel", "mayPair", "(II)Z"⟩, 18) := ⟨⟨by decide +kernel, by decide +kernel⟩, List.mem_of_getElem? (i := 643) (by decide +kernel), List.mem_of_getElem? (i := 735) (by decide +kernel), List.mem_of_getElem? (i := 736) (by decide +kernel)⟩
def lw_privs_3 : List (MethodName × Nat) := [(⟨"BatchSavings$Batches", "addEmpty", "()I"⟩, 5), (⟨"BatchSavings$Batches", "put", "(II)V"⟩, 5), (⟨"BatchSavings", "needBatch", "(I)V"⟩, 4), (⟨"BatchSavings$Batches", "has", "(I)Z"⟩, 5), (⟨"BatchSavings", "suits", "(II)Z"⟩, 4), (⟨"BatchSavings$Batches", "orderAt", "(II)I"⟩, 5), (⟨"BatchSavings$Batches", "savingWithLast", "(II)I"⟩, 5), (⟨"BatchSavings$Batches", "isFull", "(I)Z"⟩, 5), (⟨"BatchSavings$Batches", "wayOf", "(I)I"⟩, 5), (⟨"BatchSavings$Batches", "sumOf", "(I[I)I"⟩, 5), (⟨"BatchSavings$Batches", "savedBy", "(I)I"⟩, 5), (⟨"BatchSavings$Batches", "take", "(II)V"⟩, 5), (⟨"BatchSavings$Batches", "saved", "()I"⟩, 5), (⟨"BatchSavingsModel", "isOrder", "(I)Z"⟩, 18), (⟨"BatchSavingsModel", "save", "(II)I"⟩, 18), (⟨"BatchSavingsModel", "mayPair", "(II)Z"⟩, 18)]
theorem lw_r3 : ∀ q ∈ lw_privs_3, lw_okq q := List.forall_mem_cons.mpr ⟨lw_p32, List.forall_mem_cons.mpr ⟨lw_p33, List.forall_mem_cons.mpr ⟨lw_p34, List.forall_mem_cons.mpr ⟨lw_p35, List.forall_mem_cons.mpr ⟨lw_p36, List.forall_mem_cons.mpr ⟨lw_p37, List.forall_mem_cons.mpr ⟨lw_p38, List.forall_mem_cons.mpr ⟨lw_p39, List.forall_mem_cons.mpr ⟨lw_p40, List.forall_mem_cons.mpr ⟨lw_p41, List.forall_mem_cons.mpr ⟨lw_p42, List.forall_mem_cons.mpr ⟨lw_p43, List.forall_mem_cons.mpr ⟨lw_p44, List.forall_mem_cons.mpr ⟨lw_p45, List.forall_mem_cons.mpr ⟨lw_p46, List.forall_mem_cons.mpr ⟨lw_p47, fun _ h => absurd h List.not_mem_nil⟩⟩⟩⟩⟩⟩⟩⟩⟩⟩⟩⟩⟩⟩⟩⟩
theorem lw_p48 : lw_okq (⟨"BatchSavingsModel", "mayBe", "(I)Z"⟩, 18) := ⟨⟨by decide +kernel, by decide +kernel⟩, List.mem_of_getElem? (i := 643) (by decide +kernel), List.mem_of_getElem? (i := 739) (by decide +kernel), List.mem_of_getElem? (i := 740) (by decide +kernel)⟩
theorem lw_p49 : lw_okq (⟨"BatchSavingsModel", "isFree", "(I)Z"⟩, 18) := ⟨⟨by decide +kernel, by decide +kernel⟩, List.mem_of_getElem? (i := 643) (by decide +kernel), List.mem_of_getElem? (i := 747) (by decide +kernel), List.mem_of_getElem? (i := 748) (by decide +kernel)⟩
theorem lw_p50 : lw_okq (⟨"BatchSavingsModel", "freeOnes", "()I"⟩, 18) := ⟨⟨by decide +kernel, by decide +kernel⟩, List.mem_of_getElem? (i := 643) (by decide +kernel), List.mem_of_getElem? (i := 763) (by decide +kernel), List.mem_of_getElem? (i := 764) (by decide +kernel)⟩
theorem lw_p51 : lw_okq (⟨"BatchSavingsModel", "exactly", "(I)V"⟩, 18) := ⟨⟨by decide +kernel, by decide +kernel⟩, List.mem_of_getElem? (i := 643) (by decide +kernel), List.mem_of_getElem? (i := 767) (by decide +kernel), List.mem_of_getElem? (i := 768) (by decide +kernel)⟩
theorem lw_p52 : lw_okq (⟨"BatchSavingsModel", "mayMatch", "(II)Z"⟩, 18) := ⟨⟨by decide +kernel, by decide +kernel⟩, List.mem_of_getElem? (i := 643) (by decide +kernel), List.mem_of_getElem? (i := 774) (by decide +kernel), List.mem_of_getElem? (i := 775) (by decide +kernel)⟩
theorem lw_p53 : lw_okq (⟨"BatchSavingsModel", "pair", "(II)V"⟩, 18) := ⟨⟨by decide +kernel, by decide +kernel⟩, List.mem_of_getElem? (i := 643) (by decide +kernel), List.mem_of_getElem? (i := 778) (by decide +kernel), List.mem_of_getElem? (i := 779) (by decide +kernel)⟩
theorem lw_p54 : lw_okq (⟨"BatchSavingsModel", "byRule", "(I)V"⟩, 18) := ⟨⟨by decide +kernel, by decide +kernel⟩, List.mem_of_getElem? (i := 643) (by decide +kernel), List.mem_of_getElem? (i := 782) (by decide +kernel), List.mem_of_getElem? (i := 783) (by decide +kernel)⟩
theorem lw_p55 : lw_okq (⟨"BatchSavingsModel", "pairSavings", "()I"⟩, 18) := ⟨⟨by decide +kernel, by decide +kernel⟩, List.mem_of_getElem? (i := 643) (by decide +kernel), List.mem_of_getElem? (i := 786) (by decide +kernel), List.mem_of_getElem? (i := 787) (by decide +kernel)⟩
theorem lw_p56 : lw_okq (⟨"BatchSavingsModel", "put", "(II)V"⟩, 18) := ⟨⟨by decide +kernel, by decide +kernel⟩, List.mem_of_getElem? (i := 643) (by decide +kernel), List.mem_of_getElem? (i := 802) (by decide +kernel), List.mem_of_getElem? (i := 803) (by decide +kernel)⟩
theorem lw_p57 : lw_okq (⟨"BatchSavingsModel", "unpair", "(I)V"⟩, 18) := ⟨⟨by decide +kernel, by decide +kernel⟩, List.mem_of_getElem? (i := 643) (by decide +kernel), List.mem_of_getElem? (i := 806) (by decide +kernel), List.mem_of_getElem? (i := 807) (by decide +kernel)⟩
theorem lw_p58 : lw_okq (⟨"BatchSavingsModel", "isBatch", "(I)Z"⟩, 18) := ⟨⟨by decide +kernel, by decide +kernel⟩, List.mem_of_getElem? (i := 643) (by decide +kernel), List.mem_of_getElem? (i := 814) (by decide +kernel), List.mem_of_getElem? (i := 815) (by decide +kernel)⟩
theorem lw_p59 : lw_okq (⟨"BatchSavingsModel", "mayCome", "(II)Z"⟩, 18) := ⟨⟨by decide +kernel, by decide +kernel⟩, List.mem_of_getElem? (i := 643) (by decide +kernel), List.mem_of_getElem? (i := 818) (by decide +kernel), List.mem_of_getElem? (i := 819) (by decide +kernel)⟩
theorem lw_p60 : lw_okq (⟨"BatchSavingsModel", "setOf", "(I)I"⟩, 18) := ⟨⟨by decide +kernel, by decide +kernel⟩, List.mem_of_getElem? (i := 643) (by decide +kernel), List.mem_of_getElem? (i := 822) (by decide +kernel), List.mem_of_getElem? (i := 823) (by decide +kernel)⟩
theorem lw_p61 : lw_okq (⟨"BatchSavingsModel", "savingWithLast", "(II)I"⟩, 18) := ⟨⟨by decide +kernel, by decide +kernel⟩, List.mem_of_getElem? (i := 643) (by decide +kernel), List.mem_of_getElem? (i := 826) (by decide +kernel), List.mem_of_getElem? (i := 827) (by decide +kernel)⟩
theorem lw_p62 : lw_okq (⟨"BatchSavingsModel", "way", "(I)I"⟩, 18) := ⟨⟨by decide +kernel, by decide +kernel⟩, List.mem_of_getElem? (i := 643) (by decide +kernel), List.mem_of_getElem? (i := 830) (by decide +kernel), List.mem_of_getElem? (i := 831) (by decide +kernel)⟩
theorem lw_p63 : lw_okq (⟨"BatchSavingsModel", "allSeconds", "(I)I"⟩, 18) := ⟨⟨by decide +kernel, by decide +kernel⟩, List.mem_of_getElem? (i := 643) (by decide +kernel), List.mem_of_getElem? (i := 846) (by decide +kernel), List.mem_of_getElem? (i := 847) (by decide +kernel)⟩
def lw_privs_4 : List (MethodName × Nat) := [(⟨"BatchSavingsModel", "mayBe", "(I)Z"⟩, 18), (⟨"BatchSavingsModel", "isFree", "(I)Z"⟩, 18), (⟨"BatchSavingsModel", "freeOnes", "()I"⟩, 18), (⟨"BatchSavingsModel", "exactly", "(I)V"⟩, 18), (⟨"BatchSavingsModel", "mayMatch", "(II)Z"⟩, 18), (⟨"BatchSavingsModel", "pair", "(II)V"⟩, 18), (⟨"BatchSavingsModel", "byRule", "(I)V"⟩, 18), (⟨"BatchSavingsModel", "pairSavings", "()I"⟩, 18), (⟨"BatchSavingsModel", "put", "(II)V"⟩, 18), (⟨"BatchSavingsModel", "unpair", "(I)V"⟩, 18), (⟨"BatchSavingsModel", "isBatch", "(I)Z"⟩, 18), (⟨"BatchSavingsModel", "mayCome", "(II)Z"⟩, 18), (⟨"BatchSavingsModel", "setOf", "(I)I"⟩, 18), (⟨"BatchSavingsModel", "savingWithLast", "(II)I"⟩, 18), (⟨"BatchSavingsModel", "way", "(I)I"⟩, 18), (⟨"BatchSavingsModel", "allSeconds", "(I)I"⟩, 18)]
theorem lw_r4 : ∀ q ∈ lw_privs_4, lw_okq q := List.forall_mem_cons.mpr ⟨lw_p48, List.forall_mem_cons.mpr ⟨lw_p49, List.forall_mem_cons.mpr ⟨lw_p50, List.forall_mem_cons.mpr ⟨lw_p51, List.forall_mem_cons.mpr ⟨lw_p52, List.forall_mem_cons.mpr ⟨lw_p53, List.forall_mem_cons.mpr ⟨lw_p54, List.forall_mem_cons.mpr ⟨lw_p55, List.forall_mem_cons.mpr ⟨lw_p56, List.forall_mem_cons.mpr ⟨lw_p57, List.forall_mem_cons.mpr ⟨lw_p58, List.forall_mem_cons.mpr ⟨lw_p59, List.forall_mem_cons.mpr ⟨lw_p60, List.forall_mem_cons.mpr ⟨lw_p61, List.forall_mem_cons.mpr ⟨lw_p62, List.forall_mem_cons.mpr ⟨lw_p63, fun _ h => absurd h List.not_mem_nil⟩⟩⟩⟩⟩⟩⟩⟩⟩⟩⟩⟩⟩⟩⟩⟩
theorem lw_p64 : lw_okq (⟨"BatchSavingsModel", "pairs", "()I"⟩, 18) := ⟨⟨by decide +kernel, by decide +kernel⟩, List.mem_of_getElem? (i := 643) (by decide +kernel), List.mem_of_getElem? (i := 867) (by decide +kernel), List.mem_of_getElem? (i := 868) (by decide +kernel)⟩
def lw_privs_5 : List (MethodName × Nat) := [(⟨"BatchSavingsModel", "pairs", "()I"⟩, 18)]
theorem lw_r5 : ∀ q ∈ lw_privs_5, lw_okq q := List.forall_mem_cons.mpr ⟨lw_p64, fun _ h => absurd h List.not_mem_nil⟩
def lw_privs : List (MethodName × Nat) := lw_privs_1 ++ (lw_privs_2 ++ (lw_privs_3 ++ (lw_privs_4 ++ (lw_privs_5))))
def lw_tbl : List Cond := k2_sels lw_privs ++ tables_1
theorem lw_privs_ok : ∀ q ∈ lw_privs, lw_okq q := by
  show ∀ q ∈ lw_privs_1 ++ (lw_privs_2 ++ (lw_privs_3 ++ (lw_privs_4 ++ (lw_privs_5)))), lw_okq q
  exact List.forall_mem_append.mpr ⟨lw_r1, List.forall_mem_append.mpr ⟨lw_r2, List.forall_mem_append.mpr ⟨lw_r3, List.forall_mem_append.mpr ⟨lw_r4, lw_r5⟩⟩⟩⟩
end
section
/-! ===== BEGIN words of one list among another's, by their places ===== -/
theorem goodIn_r {big : List Cond} (ws : List Cond) (ps : List Nat) (hp : ws = ps.filterMap (fun i => big[i]?)) (h : ws.all goodWord = true) : GoodIn big ws := by
  intro w hw
  have h1 := List.all_eq_true.mp h w hw
  rw [hp] at hw
  obtain ⟨i, -, hi⟩ := List.mem_filterMap.mp hw
  have hm : w ∈ big := by first | exact List.mem_of_getElem? hi | exact List.getElem?_mem hi
  exact ⟨hm, good_of_word h1⟩
theorem goodIn_app {big a b : List Cond} (ha : GoodIn big a) (hb : GoodIn big b) : GoodIn big (a ++ b) := fun w h => (List.mem_append.mp h).elim (ha w) (hb w)
theorem goodIn_ca {big a b : List Cond} {c : Cond} (ha : GoodIn big (c :: a)) (hb : GoodIn big b) : GoodIn big (c :: (a ++ b)) := fun w h => (List.mem_cons.mp h).elim (fun e => ha w (List.mem_cons.mpr (Or.inl e))) (fun h => (List.mem_append.mp h).elim (fun h => ha w (List.mem_cons.mpr (Or.inr h))) (hb w))
theorem goodIn_sub {big ws : List Cond} (hm : ∀ w ∈ ws, w ∈ big) (h : ws.all goodWord = true) : GoodIn big ws := fun w hw => ⟨hm w hw, good_of_word (List.all_eq_true.mp h w hw)⟩
/-! ===== END ===== -/

/-! ===== BEGIN exceptions that leave a method, and their catching by the caller (launches without stack traces) ===== -/
section VXA
/-! The laws vx_back, vx_callV, vx_callS, vx_callSW, vx_throw0, vx_throwS follow proofs of the library, with one case more: JvmDerived/Free/Laws.lean (Back.of_free), Shelf42/LK1.lean (callV, callS), Shelf/KitTraced.lean (throwNew0V, throwNewS). -/
/-- where a method has thrown q: the class by its name, the cell, what was written, the world -/
def vx_T (XC : String → State → State → Prop) (st : State) (q : Addr) (t : State) (mc ms : Nat) (free : Addr → Prop) : Prop :=
  ∃ (E : String) (ce : Cell) (L : List Loc), XC E st t ∧ t.heap[q]? = some ce ∧ ce.vm = .none ∧ st.vm.findClass E = some ce.cls ∧ st.WarmedH t.vm ∧ st.sameButNew ({ t with vm := st.vm } : State) L mc ms ∧ ∀ z ∈ L, free z.base
def vx_Q (Qc : Array Value → State → Outcome → State → Prop) (XC : String → State → State → Prop) (mc ms : Nat) (free : Addr → Prop) : Array Value → State → Outcome → State → Prop := fun a st o t =>
  (Qc a st o t ∧ ∃ L, FrameEnd st o t L mc ms ∧ ∀ q ∈ L, free q.base) ∨ ∃ q, o = .threw q ∧ vx_T XC st q t mc ms free
/-- a callee that returns or throws -/
def vx_Met (l : Launch) (y : MethodName) (ws : List Cond) (rm : Room) (Pc : Array Value → State → Prop) (Qc : Array Value → State → Outcome → State → Prop) (XC : String → State → State → Prop) (mc ms : Nat) (free : Addr → Prop) : Prop :=
  MetFree l y (headSpec ws rm) Pc (fun _ _ _ _ _ => True) (vx_Q Qc XC mc ms free)
def vx_Post (XC : String → State → State → Prop) (mc ms : Nat) (free : Addr → Prop) : Pt → Array Value → Addr → Pt → Prop := fun A a q B =>
  ∃ (g : JFrame) (mk : MethodId) (t : State) (L : List Loc) (E : String) (ce : Cell), B.U.heap = t.heap ∧ B.U.vm = t.vm ∧ XC E (A.U.calling g mk a) t ∧ t.heap[q]? = some ce ∧ ce.vm = .none ∧ A.U.vm.findClass E = some ce.cls ∧ B.locs = A.locs ++ L ∧ (∀ z ∈ L, free z.base) ∧ B.cells = A.cells + mc ∧ B.slots = A.slots + ms
def vx_Back (l : Launch) (R : Room) (p : Program) (e : Env) (below : List Frame) (s : State) (sargs : Array Value) (y : MethodName) (len W9 : Nat)
    (Pre : Pt → Array Value → Prop) (Post : Pt → Array Value → Option Value → Pt → Prop) (PostX : Pt → Array Value → Addr → Pt → Prop) : Prop :=
  ∀ (m : MethodId) (meth : Method) (c : Code) (A : Pt) (g : JFrame) (ig : Instr) (mk : MethodId) (a : Array Value),
    Stand p l e R s m sargs below meth c A.U A.locs A.cells A.slots → g.method = m → g.locals.size = c.maxLocals → decode c.code g.pc = .ok (ig, len) →
    2 * g.monitorRoom + (g.stack.map fun v => v.category).sum ≤ W9 → A.U.methodNamed? y = some mk → Pre A a →
    (∃ (v : Option Value) (B : Pt), Stand p l e R s m sargs below meth c B.U B.locs B.cells B.slots ∧ Post A a v B ∧
      Steps p.tables e below (doInvoke e (A.U.setTop g) [] mk a).1 (B.U.setTop { g with pc := g.pc + len, stack := v.toList ++ g.stack })) ∨
    (∃ (q : Addr) (B : Pt), Stand p l e R s m sargs below meth c B.U B.locs B.cells B.slots ∧ PostX A a q B ∧
      Steps p.tables e below (doInvoke e (A.U.setTop g) [] mk a).1 ((B.U.setTop g).pushFrame (.throwing q)))
section Payer
variable {l : Launch} {R : Room} {p : Program} {e : Env} {below : List Frame} {s : State} {sargs : Array Value} {y : MethodName} {len W9 : Nat}
theorem vx_back {ws : List Cond} {rm : Room} {Pc : Array Value → State → Prop} {Qc : Array Value → State → Outcome → State → Prop} {XC : String → State → State → Prop} {mc ms : Nat} {free : Addr → Prop} {bytes : ByteArray} {maxL : Nat} {ret : Option FieldType}
    (hM : vx_Met l y ws rm Pc Qc XC mc ms free) (hblind : FrameBlind Pc) (hrc : rm.cells = mc) (hrs : rm.slots = ms)
    (hframes : rm.frames + 1 ≤ R.frames) (hlocals : W9 + (maxL + 11) + rm.locals ≤ R.locals)
    (hws : ∀ w ∈ ws, ∀ a' U, s.WarmedH U.vm → w.before a' U = true) (hcode : Cond.code y bytes maxL ret ∈ ws) (hinit : ∀ a' U, s.WarmedH U.vm → (Cond.initialized y.cls).before a' U = true) :
    vx_Back l R p e below s sargs y len W9 (PreOf R mc ms Pc) (PostOf Qc mc ms free) (vx_Post XC mc ms free) := by
  intro m meth c A g ig mk a X hg hsize hdg hW hn hp
  have h1 : (headSpec ws rm).pre.before a A.U = true := atoms_intro fun w hw => hws w hw _ _ X.warmed
  have h2 : (Cond.code y bytes maxL ret).before a A.U = true := hws _ hcode _ _ X.warmed
  have h3 : (Cond.initialized y.cls).before a A.U = true := hinit _ _ X.warmed
  have h4 : A.cells + (headSpec ws rm).room.cells ≤ R.cells := by rw [show (headSpec ws rm).room.cells = mc from hrc]; exact hp.1
  have h5 : A.slots + (headSpec ws rm).room.slots ≤ R.slots := by rw [show (headSpec ws rm).room.slots = ms from hrs]; exact hp.2.1
  have hPc : Pc a (A.U.calling g mk a) := hblind _ _ _ _ hp.2.2
  obtain ⟨U, Ls, c0, s0⟩ := A
  dsimp only [Pt.U, Pt.locs, Pt.cells, Pt.slots] at h1 h2 h3 h4 h5 X hn hPc ⊢
  obtain ⟨methY, cY, hmY, hcY, -, hlY, -, -, -, -⟩ := Cond.code_spec hn h2
  obtain ⟨kY, hkY, -⟩ := className_of_methodNamed hn
  have hinitY : kY.init = .initialized := Cond.initialized_spec (findClass_of_methodNamed hn) hkY h3
  have h : At U g.method c below := by rw [hg]; exact X.here
  have hlocals9 : W9 + (maxL + 11) + (headSpec ws rm).room.locals ≤ R.locals := hlocals
  have happ : (headSpec ws rm).appliesLoose y e.platform (U.calling g mk a) = true :=
    Spec.appliesLoose_calling (g := g) h hdg hn hkY hinitY
      (X.room_calling (g := g) (R' := (headSpec ws rm).room) hsize hmY hcY hframes (by rw [hlY]; omega) h4 h5) h1
  obtain ⟨mid, hmid⟩ := h.above
  have hfr : (U.setTop g).frames = (.java g :: mid) ++ below := by rw [State.frames_setTop' g h.top, hmid]; rfl
  obtain ⟨o, s₂, hsteps, -, hend, hq⟩ := Steps.callFree hM p X.admits X.cas X.clock (acts := []) hfr happ hPc trivial
  have hq' : vx_Q Qc XC mc ms free a (U.calling g mk a) o s₂ := hq
  rw [State.frames_setTop' g h.top] at hend
  obtain ⟨g₀, hg0⟩ := Option.isSome_iff_exists.mp h.top
  obtain ⟨r, hr⟩ := State.topJava?_eq_some.mp hg0
  have hr' : (({ U with heap := s₂.heap, slotsUsed := s₂.slotsUsed } : State).setVm s₂.vm).frames = .java g₀ :: r := hr
  rcases hq' with ⟨hqc, L, hfe, hL⟩ | ⟨q, rfl, E, ce, L, hx, hce, hcv, hcl, hW₂, hsm, hL⟩
  · obtain ⟨⟨v, rfl⟩, hW₂, e2, q2, q3, q4, q5, q6⟩ := id hfe
    have e3 : s₂ = ({ (U.calling g mk a).setFrames s₂.frames with heap := s₂.heap, slotsUsed := s₂.slotsUsed } : State).setVm s₂.vm := by
      have : s₂ = ({ s₂ with vm := (U.calling g mk a).vm } : State).setVm s₂.vm := rfl
      rw [e2] at this
      exact this
    obtain ⟨c₂, i₂, len₂, hc₂, hd₂, hf₂⟩ := hend
    have hW' : U.WarmedH s₂.vm := hW₂
    have hcc : c₂ = c := by
      have h1 : s₂.code? g.method = U.code? g.method := by
        rw [State.code?_eq, State.code?_eq, hW'.alike.method?]
      exact Option.some.inj (hc₂.symm.trans (h1.trans h.code))
    subst hcc
    have hlen : len₂ = len := by rw [hdg] at hd₂; cases hd₂; rfl
    subst hlen
    have hs₂ : s₂ = (({ U with heap := s₂.heap, slotsUsed := s₂.slotsUsed } : State).setVm s₂.vm).setTop { g with pc := g.pc + len₂, stack := v.toList ++ g.stack } := by
      refine e3.trans ?_
      rw [hf₂, State.calling_eq h.top, State.setFrames_setFrames, State.setTop_of_frames _ hr', hr]
      rfl
    have hsame : U.sameButNew ({ U with heap := s₂.heap, slotsUsed := s₂.slotsUsed } : State) L mc ms := by
      refine ⟨?_, q2, q3, q4, q5, q6⟩
      obtain ⟨t, ht, -⟩ := State.frames_cons hr
      show ({ U with heap := s₂.heap, slotsUsed := s₂.slotsUsed } : State) = { U.setFrames U.frames with heap := s₂.heap, slotsUsed := s₂.slotsUsed }
      rw [State.setFrames_self ht]
    subst hg
    refine Or.inl ⟨v, ⟨(({ U with heap := s₂.heap, slotsUsed := s₂.slotsUsed } : State).setVm s₂.vm), Ls ++ L, c0 + mc, s0 + ms⟩,
      ⟨X.admits, X.cas, X.clock, X.frames, X.room, X.hears, X.method, X.code, (X.here.setHeapUsed s₂.heap s₂.slotsUsed).setVm hW'.alike, X.tail, State.WarmedH.trans X.warmed hW', X.limits, X.bytes, X.same.trans (hsame.setVm s.vm)⟩,
      ⟨g, mk, s₂, L, rfl, rfl, hqc, rfl, hL, rfl, rfl⟩, ?_⟩
    show Steps p.tables e below _ ((({ U with heap := s₂.heap, slotsUsed := s₂.slotsUsed } : State).setVm s₂.vm).setTop { g with pc := g.pc + len₂, stack := v.toList ++ g.stack })
    rw [← hs₂]
    exact hsteps
  · obtain ⟨e2, q2, q3, q4, q5, q6⟩ := id hsm
    have e3 : s₂ = ({ (U.calling g mk a).setFrames s₂.frames with heap := s₂.heap, slotsUsed := s₂.slotsUsed } : State).setVm s₂.vm := by
      have : s₂ = ({ s₂ with vm := (U.calling g mk a).vm } : State).setVm s₂.vm := rfl
      rw [e2] at this
      exact this
    have hf₂ : s₂.frames = .throwing q :: .java g :: U.frames.tail := hend
    have hW' : U.WarmedH s₂.vm := hW₂
    have hs₂ : s₂ = ((({ U with heap := s₂.heap, slotsUsed := s₂.slotsUsed } : State).setVm s₂.vm).setTop g).pushFrame (.throwing q) := by
      refine e3.trans ?_
      rw [hf₂, State.calling_eq h.top, State.setFrames_setFrames, State.pushFrame, State.frames_setTop _ hr', State.setTop_of_frames _ hr', State.setFrames_setFrames, hr]
      rfl
    have hsame : U.sameButNew ({ U with heap := s₂.heap, slotsUsed := s₂.slotsUsed } : State) L mc ms := by
      refine ⟨?_, q2, q3, q4, q5, q6⟩
      obtain ⟨t, ht, -⟩ := State.frames_cons hr
      show ({ U with heap := s₂.heap, slotsUsed := s₂.slotsUsed } : State) = { U.setFrames U.frames with heap := s₂.heap, slotsUsed := s₂.slotsUsed }
      rw [State.setFrames_self ht]
    subst hg
    refine Or.inr ⟨q, ⟨(({ U with heap := s₂.heap, slotsUsed := s₂.slotsUsed } : State).setVm s₂.vm), Ls ++ L, c0 + mc, s0 + ms⟩,
      ⟨X.admits, X.cas, X.clock, X.frames, X.room, X.hears, X.method, X.code, (X.here.setHeapUsed s₂.heap s₂.slotsUsed).setVm hW'.alike, X.tail, State.WarmedH.trans X.warmed hW', X.limits, X.bytes, X.same.trans (hsame.setVm s.vm)⟩,
      ⟨g, mk, s₂, L, E, ce, rfl, rfl, hx, hce, hcv, hcl, rfl, hL, rfl, rfl⟩, ?_⟩
    show Steps p.tables e below _ (((({ U with heap := s₂.heap, slotsUsed := s₂.slotsUsed } : State).setVm s₂.vm).setTop g).pushFrame (.throwing q))
    rw [← hs₂]
    exact hsteps
end Payer
section Calls
variable {p : Program} {l : Launch} {e : Env} {R : Room} {s : State} {m : MethodId} {args : Array Value} {below : List Frame} {meth : Method} {c : Code} {T : State} {locs : List Loc} {cells slots : Nat}
theorem vx_callV (X : Stand p l e R s m args below meth c T locs cells slots) (hexec : p.tables.exec = Jvm.exec) {own C : String} {index : Nat} {y : MethodName} {bytes : ByteArray} {maxL : Nat} {ret : Option FieldType}
    (hown : s.vm.findClass own = some m.cls) (hlink : (Cond.methodLink own index y).before args s = true) (hinst : (Cond.instanceMethod y).before args s = true) (hsel : (Cond.selects C y y).before args s = true)
    (hcode : (Cond.code y bytes maxL ret).before args s = true) (hy : y.cls ≠ "java/lang/invoke/MethodHandle" ∧ y.cls ≠ "java/lang/invoke/VarHandle")
    {W9 : Nat} {Pre : Pt → Array Value → Prop} {Post : Pt → Array Value → Option Value → Pt → Prop} {PostX : Pt → Array Value → Addr → Pt → Prop} (hK : vx_Back l R p e below s args y 3 W9 Pre Post PostX)
    {b : Addr} {cellB : Cell} (hcell : T.heap[b]? = some cellB) (hobj : cellB.vm.isStatics = false) (hcls : s.vm.findClass C = some cellB.cls)
    {g : JFrame} (hg : g.method = m) (hsize : g.locals.size = c.maxLocals) {argsL rest : List Value} (hlen : ∀ sig, parseMethodDescriptor y.desc = some sig → argsL.length = sig.parameters.length)
    (hstack : g.stack = argsL.reverse ++ .ref b :: rest) (hW : 2 * g.monitorRoom + (rest.map fun v => v.category).sum ≤ W9) (hdg : decode c.code g.pc = .ok (.invokevirtual index, 3))
    (hpre : ∀ vm₁, s.WarmedH vm₁ → Pre ⟨T.setVm vm₁, locs, cells, slots⟩ (Value.ref b :: argsL).toArray) :
    (∃ (v : Option Value) (vm₁ : Vm) (B : Pt), s.WarmedH vm₁ ∧ Stand p l e R s m args below meth c B.U B.locs B.cells B.slots ∧ Post ⟨T.setVm vm₁, locs, cells, slots⟩ (Value.ref b :: argsL).toArray v B ∧
      ∀ target, Steps p.tables e below (B.U.setTop { g with pc := g.pc + 3, stack := v.toList ++ rest }) target → Steps p.tables e below (T.setTop g) target) ∨
    (∃ (q : Addr) (vm₁ : Vm) (B : Pt), s.WarmedH vm₁ ∧ Stand p l e R s m args below meth c B.U B.locs B.cells B.slots ∧ PostX ⟨T.setVm vm₁, locs, cells, slots⟩ (Value.ref b :: argsL).toArray q B ∧
      Steps p.tables e below (T.setTop g) ((B.U.setTop { g with stack := rest }).pushFrame (.throwing q))) := by
  obtain ⟨mk, methM, hnamed, hmethM, hstM, habM⟩ := Cond.instanceMethod_spec hinst
  obtain ⟨methM', cM, hmethM', -, -, -, -, -, -, hsigM⟩ := Cond.code_spec hnamed hcode
  cases hmethM.symm.trans hmethM'
  obtain ⟨c2, r2, m2, q1, q2, q3, q4, kP, hkP, hkPi⟩ := Cond.selects_spec hsel
  cases hcls.symm.trans q1
  cases (State.methodFound?_of_named hnamed hy).symm.trans q2
  cases hnamed.symm.trans q3
  have hselP : selectMethod e.platform s.vm cellB.cls mk = .method mk := by rw [Launch.admits_selectMethod X.admits]; exact q4
  obtain ⟨vm₁, X₁, hstep₁⟩ := X.invokevirtual hexec hown hlink hnamed hmethM hstM hkP hkPi hy (a := b) (cell := cellB) hcell
    (fun z h => by rw [h] at hobj; cases hobj) hselP hmethM habM hkP hkPi (g := g) hg (argsL := argsL) (rest := rest) (hlen _ hsigM) hstack hdg
  rcases hK m meth c ⟨T.setVm vm₁, locs, cells, slots⟩ { g with stack := rest } (.invokevirtual index) mk (Value.ref b :: argsL).toArray X₁ hg hsize hdg hW (X₁.named hnamed) (hpre vm₁ X₁.warmed) with ⟨v, B, X', hpost, hsteps⟩ | ⟨q, B, X', hpost, hsteps⟩
  · exact Or.inl ⟨v, vm₁, B, X₁.warmed, X', hpost, fun target h => hstep₁ _ fun acts => by rw [doInvoke_state]; exact hsteps.trans h⟩
  · exact Or.inr ⟨q, vm₁, B, X₁.warmed, X', hpost, hstep₁ _ fun acts => by rw [doInvoke_state]; exact hsteps⟩
theorem vx_callS (X : Stand p l e R s m args below meth c T locs cells slots) (hexec : p.tables.exec = Jvm.exec) {own : String} {index : Nat} {y : MethodName} {bytes : ByteArray} {maxL : Nat} {ret : Option FieldType}
    (hown : s.vm.findClass own = some m.cls) (hlink : (Cond.methodLink own index y).before args s = true) (hstat : (Cond.static y).before args s = true) (hinit : (Cond.initialized y.cls).before args s = true)
    (hcode : (Cond.code y bytes maxL ret).before args s = true) (hy : y.cls ≠ "java/lang/invoke/MethodHandle" ∧ y.cls ≠ "java/lang/invoke/VarHandle")
    {W9 : Nat} {Pre : Pt → Array Value → Prop} {Post : Pt → Array Value → Option Value → Pt → Prop} {PostX : Pt → Array Value → Addr → Pt → Prop} (hK : vx_Back l R p e below s args y 3 W9 Pre Post PostX)
    {g : JFrame} (hg : g.method = m) (hsize : g.locals.size = c.maxLocals) {argsL rest : List Value} (hlen : ∀ sig, parseMethodDescriptor y.desc = some sig → argsL.length = sig.parameters.length)
    (hstack : g.stack = argsL.reverse ++ rest) (hW : 2 * g.monitorRoom + (rest.map fun v => v.category).sum ≤ W9) (hdg : decode c.code g.pc = .ok (.invokestatic index, 3))
    (hpre : ∀ vm₁, s.WarmedH vm₁ → Pre ⟨T.setVm vm₁, locs, cells, slots⟩ argsL.toArray) :
    (∃ (v : Option Value) (vm₁ : Vm) (B : Pt), s.WarmedH vm₁ ∧ Stand p l e R s m args below meth c B.U B.locs B.cells B.slots ∧ Post ⟨T.setVm vm₁, locs, cells, slots⟩ argsL.toArray v B ∧
      ∀ target, Steps p.tables e below (B.U.setTop { g with pc := g.pc + 3, stack := v.toList ++ rest }) target → Steps p.tables e below (T.setTop g) target) ∨
    (∃ (q : Addr) (vm₁ : Vm) (B : Pt), s.WarmedH vm₁ ∧ Stand p l e R s m args below meth c B.U B.locs B.cells B.slots ∧ PostX ⟨T.setVm vm₁, locs, cells, slots⟩ argsL.toArray q B ∧
      Steps p.tables e below (T.setTop g) ((B.U.setTop { g with stack := rest }).pushFrame (.throwing q))) := by
  obtain ⟨mk, hnamed⟩ := Cond.code_named hcode
  obtain ⟨methM, cM, hmethM, -, -, -, -, -, -, hsigM⟩ := Cond.code_spec hnamed hcode
  have hstatic : methM.isStatic = true := Cond.static_spec hnamed hmethM hstat
  obtain ⟨kP, hkP, -⟩ := className_of_methodNamed hnamed
  have hinitP : kP.init = .initialized := Cond.initialized_spec (findClass_of_methodNamed hnamed) hkP hinit
  obtain ⟨vm₁, X₁, hstep₁⟩ := X.invokestatic hexec hown hlink hnamed hmethM hstatic hkP hinitP hy (g := g) hg (argsL := argsL) (rest := rest) (hlen _ hsigM) hstack hdg
  rcases hK m meth c ⟨T.setVm vm₁, locs, cells, slots⟩ { g with stack := rest } (.invokestatic index) mk argsL.toArray X₁ hg hsize hdg hW (X₁.named hnamed) (hpre vm₁ X₁.warmed) with ⟨v, B, X', hpost, hsteps⟩ | ⟨q, B, X', hpost, hsteps⟩
  · exact Or.inl ⟨v, vm₁, B, X₁.warmed, X', hpost, fun target h => hstep₁ _ fun acts => by rw [doInvoke_state]; exact hsteps.trans h⟩
  · exact Or.inr ⟨q, vm₁, B, X₁.warmed, X', hpost, hstep₁ _ fun acts => by rw [doInvoke_state]; exact hsteps⟩
end Calls
theorem vx_cls {s : State} {T : State} {vm₁ : Vm} {E : String} {k : ClassId} (hW : s.WarmedH vm₁) (h : (T.setVm vm₁).vm.findClass E = some k) : s.vm.findClass E = some k := by
  have h1 : vm₁.findClass E = some k := h
  rw [hW.alike.findClass] at h1
  exact h1
/-- the method's frame g, with q thrown over it -/
def vx_W (p : Program) (l : Launch) (e : Env) (R : Room) (s : State) (m : MethodId) (args : Array Value) (below : List Frame) (meth : Method) (c : Code) (H : Heap) (locs : List Loc) (cells slots : Nat) (Q : State → Prop) (g : JFrame) (q : Addr) : Prop :=
  ∀ T : State, T.heap = H → Stand p l e R s m args below meth c T locs cells slots → ∃ t, Steps p.tables e below ((T.setTop g).pushFrame (.throwing q)) t ∧ Q t
def vx_Run (p : Program) (l : Launch) (e : Env) (R : Room) (s : State) (m : MethodId) (args : Array Value) (below : List Frame) (meth : Method) (c : Code) (H : Heap) (locs : List Loc) (cells slots mc ms : Nat) (g : JFrame) (rest : List Value) (Qa : State → Outcome → State → Prop) (XC : String → State → State → Prop) (free : Addr → Prop) : Prop :=
  ∀ T : State, T.heap = H → Stand p l e R s m args below meth c T locs cells slots →
    (∃ (v : Option Value) (st₀ t T' : State) (L : List Loc), st₀.heap = H ∧ Stand p l e R s m args below meth c T' (locs ++ L) (cells + mc) (slots + ms) ∧ (∀ q ∈ L, free q.base) ∧ T'.heap = t.heap ∧ T'.vm = t.vm ∧ Qa st₀ (.returned v) t ∧
      Goes p e below T g T' { g with pc := g.pc + 3, stack := v.toList ++ rest }) ∨
    (∃ (q : Addr) (st₀ t T' : State) (L : List Loc) (E : String) (ce : Cell), st₀.heap = H ∧ Stand p l e R s m args below meth c T' (locs ++ L) (cells + mc) (slots + ms) ∧ (∀ z ∈ L, free z.base) ∧ T'.heap = t.heap ∧ T'.vm = t.vm ∧ XC E st₀ t ∧ t.heap[q]? = some ce ∧ ce.vm = .none ∧ s.vm.findClass E = some ce.cls ∧
      Steps p.tables e below (T.setTop g) ((T'.setTop { g with stack := rest }).pushFrame (.throwing q)))
def vx_X {S : Type} (px : S → Prop) (B : String → S → State → Prop) (A : Nat → Prop) : String → State → State → Prop := fun E st t => ∃ u : S, px u ∧ B E u t ∧ va_F A st t
section Runs
variable {p : Program} {l : Launch} {e : Env} {R : Room} {s : State} {m : MethodId} {args : Array Value} {below : List Frame} {meth : Method} {c : Code} {H : Heap} {locs : List Loc} {cells slots : Nat}
variable {y : MethodName} {bytes cc : ByteArray} {maxL nL mc ms n index : Nat} {ret : Option FieldType} {ws : List Cond} {rm : Room} {Pc : Array Value → State → Prop} {Qc : Array Value → State → Outcome → State → Prop} {XC : String → State → State → Prop} {free : Addr → Prop} {Ts : List Cond} {own C : String} {b : Addr} {As rest : List Value} {g : JFrame}
theorem vx_callBack (cb : CallB R s args own index y bytes maxL ret ws rm mc ms n) (hM : vx_Met l y ws rm Pc Qc XC mc ms free) (hbl : FrameBlind Pc) : vx_Back l R p e below s args y 3 8 (PreOf R mc ms Pc) (PostOf Qc mc ms free) (vx_Post XC mc ms free) := by
  obtain ⟨hrc, hrs, hfr, hlo, hws, hcw, -, hini, -⟩ := cb
  exact vx_back (bytes := bytes) (maxL := maxL) (ret := ret) hM hbl hrc hrs hfr hlo hws hcw (fun a' U hW => word_at hW (Or.inl (by first | rfl | simp [Cond.onTables, Cond.keeps, Cond.steady])) hini)
theorem vx_runV (S : CallFix p m c cc nL s args Ts own) (hM : vx_Met l y ws rm Pc Qc XC mc ms free) (cw : CallW R s args own C index y bytes maxL ret ws rm mc ms n) (hp : PreV s H C b Pc As)
    (hg : g.method = m) (hn : As.length = n) (hsize : g.locals.size = nL) (hstack : g.stack = As.reverse ++ .ref b :: rest) (hW : 2 * g.monitorRoom + (rest.map fun v => v.category).sum ≤ 8) (hdg : decode cc g.pc = .ok (.invokevirtual index, 3)) (hf : cells + mc ≤ R.cells ∧ slots + ms ≤ R.slots) :
    vx_Run p l e R s m args below meth c H locs cells slots mc ms g rest (Qc (Value.ref b :: As).toArray) XC free := by
  have hK : vx_Back l R p e below s args y 3 8 (PreOf R mc ms Pc) (PostOf Qc mc ms free) (vx_Post XC mc ms free) := vx_callBack cw.1 hM hp.1
  obtain ⟨⟨-, -, -, -, -, -, hcode, -, hy, hlen, hl⟩, hin, hse⟩ := cw
  obtain ⟨hx, hb, hml, ho, -⟩ := S
  obtain ⟨-, ⟨cellB, hcB, hoB, hclB⟩, hPc⟩ := hp
  intro T hT X
  rcases vx_callV X hx (C := C) (bytes := bytes) (maxL := maxL) (ret := ret) ho hl hin hse hcode hy hK (by rw [hT]; exact hcB) hoB hclB hg (hsize.trans hml.symm) (argsL := As) (rest := rest) (fun sig h => hn.trans (hlen sig h)) hstack hW (by rw [hb]; exact hdg)
    (fun vm₁ hW₁ => ⟨hf.1, hf.2, hPc (T.setVm vm₁) hT hW₁⟩) with ⟨v, vm₁, ⟨U', l2, c2, s2⟩, hW₁, X', ⟨g', mk, t, L, e1, e2, hq, h1, hL, h2, h3⟩, st⟩ | ⟨q, vm₁, ⟨U', l2, c2, s2⟩, hW₁, X', ⟨g', mk, t, L, E, ce, e1, e2, hq, hce, hcv, hcl, h1, hL, h2, h3⟩, st⟩
  · dsimp only [Pt.U, Pt.locs, Pt.cells, Pt.slots] at X' e1 e2 h1 h2 h3 st
    subst h1; subst h2; subst h3
    exact Or.inl ⟨v, (T.setVm vm₁).calling g' mk (Value.ref b :: As).toArray, t, U', L, hT, X', hL, e1, e2, hq, st⟩
  · dsimp only [Pt.U, Pt.locs, Pt.cells, Pt.slots] at X' e1 e2 h1 h2 h3 st hcl
    subst h1; subst h2; subst h3
    exact Or.inr ⟨q, (T.setVm vm₁).calling g' mk (Value.ref b :: As).toArray, t, U', L, E, ce, hT, X', hL, e1, e2, hq, hce, hcv, vx_cls hW₁ hcl, st⟩
theorem vx_runS (S : CallFix p m c cc nL s args Ts own) (hM : vx_Met l y ws rm Pc Qc XC mc ms free) (cw : CallB R s args own index y bytes maxL ret ws rm mc ms n ∧ (Cond.static y).before args s = true) (hp : PreS s H Pc As)
    (hg : g.method = m) (hn : As.length = n) (hsize : g.locals.size = nL) (hstack : g.stack = As.reverse ++ rest) (hW : 2 * g.monitorRoom + (rest.map fun v => v.category).sum ≤ 8) (hdg : decode cc g.pc = .ok (.invokestatic index, 3)) (hf : cells + mc ≤ R.cells ∧ slots + ms ≤ R.slots) :
    vx_Run p l e R s m args below meth c H locs cells slots mc ms g rest (Qc As.toArray) XC free := by
  have hK : vx_Back l R p e below s args y 3 8 (PreOf R mc ms Pc) (PostOf Qc mc ms free) (vx_Post XC mc ms free) := vx_callBack cw.1 hM hp.1
  obtain ⟨⟨-, -, -, -, -, -, hcode, hini, hy, hlen, hl⟩, hstt⟩ := cw
  obtain ⟨hx, hb, hml, ho, -⟩ := S
  intro T hT X
  rcases vx_callS X hx (bytes := bytes) (maxL := maxL) (ret := ret) ho hl hstt hini hcode hy hK hg (hsize.trans hml.symm) (argsL := As) (rest := rest) (fun sig h => hn.trans (hlen sig h)) hstack hW (by rw [hb]; exact hdg)
    (fun vm₁ hW₁ => ⟨hf.1, hf.2, hp.2 (T.setVm vm₁) hT hW₁⟩) with ⟨v, vm₁, ⟨U', l2, c2, s2⟩, hW₁, X', ⟨g', mk, t, L, e1, e2, hq, h1, hL, h2, h3⟩, st⟩ | ⟨q, vm₁, ⟨U', l2, c2, s2⟩, hW₁, X', ⟨g', mk, t, L, E, ce, e1, e2, hq, hce, hcv, hcl, h1, hL, h2, h3⟩, st⟩
  · dsimp only [Pt.U, Pt.locs, Pt.cells, Pt.slots] at X' e1 e2 h1 h2 h3 st
    subst h1; subst h2; subst h3
    exact Or.inl ⟨v, (T.setVm vm₁).calling g' mk As.toArray, t, U', L, hT, X', hL, e1, e2, hq, st⟩
  · dsimp only [Pt.U, Pt.locs, Pt.cells, Pt.slots] at X' e1 e2 h1 h2 h3 st hcl
    subst h1; subst h2; subst h3
    exact Or.inr ⟨q, (T.setVm vm₁).calling g' mk As.toArray, t, U', L, E, ce, hT, X', hL, e1, e2, hq, hce, hcv, vx_cls hW₁ hcl, st⟩
end Runs
section Rows
variable {p : Program} {l : Launch} {e : Env} {R : Room} {s : State} {m : MethodId} {args : Array Value} {below : List Frame} {meth : Method} {c : Code} {H : Heap} {locs : List Loc} {cells slots : Nat} {Q : State → Prop}
variable {mc ms : Nat} {free : Addr → Prop} {A0 A1 : Nat → Prop} {H0 : Heap} {a : Array Value} {pc : Nat} {ls : Array Slot} {st0 rest : List Value}
theorem vx_keep {st₀ t T' : State} {L : List Loc} (h0 : st₀.heap = H) (e1 : T'.heap = t.heap) (hS : va_S A0 H0 H locs) (hA : ∀ q, q < H.size → A1 q → A0 q) (hf : ∀ q, free q → A0 q) (hL : ∀ q ∈ L, free q.base) (hF : va_F A1 st₀ t) :
    H.size ≤ T'.heap.size ∧ (∀ q : Nat, q < H.size → ¬ A1 q → T'.heap[q]? = H[q]?) ∧ va_S A0 H0 T'.heap (locs ++ L) := by
  obtain ⟨hz, hk⟩ := hF
  rw [h0] at hz hk
  exact ⟨by rw [e1]; exact hz, fun q h1 h2 => by rw [e1]; exact hk q h1 h2,
    ⟨Nat.le_trans hS.1 (by rw [e1]; exact hz), fun q h1 h2 => by rw [e1, hk q (Nat.lt_of_lt_of_le h1 hS.1) (fun z => h2 (hA q (Nat.lt_of_lt_of_le h1 hS.1) z))]; exact hS.2.1 q h1 h2, fun q hq => by
      rcases List.mem_append.mp hq with h | h
      · exact hS.2.2 q h
      · exact hf _ (hL q h)⟩⟩
theorem vx_calli {S SX : Type} {post : Int32 → S → Prop} {px : SX → Prop} {B : S → State → Prop} {BX : String → SX → State → Prop} {AX : Nat → Prop} (hr : vx_Run p l e R s m args below meth c H locs cells slots mc ms (F0 m pc ls st0) rest (va_Qi post B A1 a) (vx_X px BX AX) free) (hS : va_S A0 H0 H locs) (hA : ∀ q, q < H.size → A1 q → A0 q) (hf : ∀ q, free q → A0 q) (hAX : ∀ q, q < H.size → AX q → A0 q)
    (kx : ∀ (E : String) (ce : Cell) (q9 : Addr) (u : SX) (t : State) (H1 : Heap) (locs1 : List Loc), t.heap = H1 → s.vm.Alike t.vm → px u → BX E u t → H.size ≤ H1.size → (∀ q : Nat, q < H.size → ¬ AX q → H1[q]? = H[q]?) → va_S A0 H0 H1 locs1 → H1[q9]? = some ce → ce.vm = .none → s.vm.findClass E = some ce.cls → vx_W p l e R s m args below meth c H1 locs1 (cells + mc) (slots + ms) Q (F0 m pc ls rest) q9)
    (kk : ∀ (r : Int32) (u : S) (t : State) (H1 : Heap) (locs1 : List Loc), t.heap = H1 → s.vm.Alike t.vm → post r u → B u t → H.size ≤ H1.size → (∀ q : Nat, q < H.size → ¬ A1 q → H1[q]? = H[q]?) → va_S A0 H0 H1 locs1 → W p l e R s m args below meth c H1 locs1 (cells + mc) (slots + ms) Q (F0 m (pc + 3) ls (.int r :: rest))) : W p l e R s m args below meth c H locs cells slots Q (F0 m pc ls st0) := by
  intro T hT X
  rcases hr T hT X with ⟨v, st₀, t, T', L, h0, X', hL, e1, e2, ⟨⟨r, u, hv, hp, hb⟩, hF⟩, st⟩ | ⟨q, st₀, t, T', L, E, ce, h0, X', hL, e1, e2, ⟨u, hp, hb, hF⟩, hce, hcv, hcl, st⟩
  · cases hv
    obtain ⟨k1, k2, k3⟩ := vx_keep h0 e1 hS hA hf hL hF
    obtain ⟨t2, a1, b1⟩ := kk r u t T'.heap (locs ++ L) e1.symm (by rw [← e2]; exact X'.warmed.alike) hp hb k1 k2 k3 T' rfl X'
    exact ⟨t2, st t2 a1, b1⟩
  · obtain ⟨k1, k2, k3⟩ := vx_keep h0 e1 hS hAX hf hL hF
    obtain ⟨t2, a1, b1⟩ := kx E ce q u t T'.heap (locs ++ L) e1.symm (by rw [← e2]; exact X'.warmed.alike) hp hb k1 k2 k3 (by rw [e1]; exact hce) hcv hcl T' rfl X'
    exact ⟨t2, st.trans a1, b1⟩
theorem vx_calll {S SX : Type} {post : Int64 → S → Prop} {px : SX → Prop} {B : S → State → Prop} {BX : String → SX → State → Prop} {AX : Nat → Prop} (hr : vx_Run p l e R s m args below meth c H locs cells slots mc ms (F0 m pc ls st0) rest (va_Ql post B A1 a) (vx_X px BX AX) free) (hS : va_S A0 H0 H locs) (hA : ∀ q, q < H.size → A1 q → A0 q) (hf : ∀ q, free q → A0 q) (hAX : ∀ q, q < H.size → AX q → A0 q)
    (kx : ∀ (E : String) (ce : Cell) (q9 : Addr) (u : SX) (t : State) (H1 : Heap) (locs1 : List Loc), t.heap = H1 → s.vm.Alike t.vm → px u → BX E u t → H.size ≤ H1.size → (∀ q : Nat, q < H.size → ¬ AX q → H1[q]? = H[q]?) → va_S A0 H0 H1 locs1 → H1[q9]? = some ce → ce.vm = .none → s.vm.findClass E = some ce.cls → vx_W p l e R s m args below meth c H1 locs1 (cells + mc) (slots + ms) Q (F0 m pc ls rest) q9)
    (kk : ∀ (r : Int64) (u : S) (t : State) (H1 : Heap) (locs1 : List Loc), t.heap = H1 → s.vm.Alike t.vm → post r u → B u t → H.size ≤ H1.size → (∀ q : Nat, q < H.size → ¬ A1 q → H1[q]? = H[q]?) → va_S A0 H0 H1 locs1 → W p l e R s m args below meth c H1 locs1 (cells + mc) (slots + ms) Q (F0 m (pc + 3) ls (.long r :: rest))) : W p l e R s m args below meth c H locs cells slots Q (F0 m pc ls st0) := by
  intro T hT X
  rcases hr T hT X with ⟨v, st₀, t, T', L, h0, X', hL, e1, e2, ⟨⟨r, u, hv, hp, hb⟩, hF⟩, st⟩ | ⟨q, st₀, t, T', L, E, ce, h0, X', hL, e1, e2, ⟨u, hp, hb, hF⟩, hce, hcv, hcl, st⟩
  · cases hv
    obtain ⟨k1, k2, k3⟩ := vx_keep h0 e1 hS hA hf hL hF
    obtain ⟨t2, a1, b1⟩ := kk r u t T'.heap (locs ++ L) e1.symm (by rw [← e2]; exact X'.warmed.alike) hp hb k1 k2 k3 T' rfl X'
    exact ⟨t2, st t2 a1, b1⟩
  · obtain ⟨k1, k2, k3⟩ := vx_keep h0 e1 hS hAX hf hL hF
    obtain ⟨t2, a1, b1⟩ := kx E ce q u t T'.heap (locs ++ L) e1.symm (by rw [← e2]; exact X'.warmed.alike) hp hb k1 k2 k3 (by rw [e1]; exact hce) hcv hcl T' rfl X'
    exact ⟨t2, st.trans a1, b1⟩
theorem vx_callf {S SX : Type} {post : UInt32 → S → Prop} {px : SX → Prop} {B : S → State → Prop} {BX : String → SX → State → Prop} {AX : Nat → Prop} (hr : vx_Run p l e R s m args below meth c H locs cells slots mc ms (F0 m pc ls st0) rest (va_Qf post B A1 a) (vx_X px BX AX) free) (hS : va_S A0 H0 H locs) (hA : ∀ q, q < H.size → A1 q → A0 q) (hf : ∀ q, free q → A0 q) (hAX : ∀ q, q < H.size → AX q → A0 q)
    (kx : ∀ (E : String) (ce : Cell) (q9 : Addr) (u : SX) (t : State) (H1 : Heap) (locs1 : List Loc), t.heap = H1 → s.vm.Alike t.vm → px u → BX E u t → H.size ≤ H1.size → (∀ q : Nat, q < H.size → ¬ AX q → H1[q]? = H[q]?) → va_S A0 H0 H1 locs1 → H1[q9]? = some ce → ce.vm = .none → s.vm.findClass E = some ce.cls → vx_W p l e R s m args below meth c H1 locs1 (cells + mc) (slots + ms) Q (F0 m pc ls rest) q9)
    (kk : ∀ (r : UInt32) (u : S) (t : State) (H1 : Heap) (locs1 : List Loc), t.heap = H1 → s.vm.Alike t.vm → post r u → B u t → H.size ≤ H1.size → (∀ q : Nat, q < H.size → ¬ A1 q → H1[q]? = H[q]?) → va_S A0 H0 H1 locs1 → W p l e R s m args below meth c H1 locs1 (cells + mc) (slots + ms) Q (F0 m (pc + 3) ls (.float r :: rest))) : W p l e R s m args below meth c H locs cells slots Q (F0 m pc ls st0) := by
  intro T hT X
  rcases hr T hT X with ⟨v, st₀, t, T', L, h0, X', hL, e1, e2, ⟨⟨r, u, hv, hp, hb⟩, hF⟩, st⟩ | ⟨q, st₀, t, T', L, E, ce, h0, X', hL, e1, e2, ⟨u, hp, hb, hF⟩, hce, hcv, hcl, st⟩
  · cases hv
    obtain ⟨k1, k2, k3⟩ := vx_keep h0 e1 hS hA hf hL hF
    obtain ⟨t2, a1, b1⟩ := kk r u t T'.heap (locs ++ L) e1.symm (by rw [← e2]; exact X'.warmed.alike) hp hb k1 k2 k3 T' rfl X'
    exact ⟨t2, st t2 a1, b1⟩
  · obtain ⟨k1, k2, k3⟩ := vx_keep h0 e1 hS hAX hf hL hF
    obtain ⟨t2, a1, b1⟩ := kx E ce q u t T'.heap (locs ++ L) e1.symm (by rw [← e2]; exact X'.warmed.alike) hp hb k1 k2 k3 (by rw [e1]; exact hce) hcv hcl T' rfl X'
    exact ⟨t2, st.trans a1, b1⟩
theorem vx_calld {S SX : Type} {post : UInt64 → S → Prop} {px : SX → Prop} {B : S → State → Prop} {BX : String → SX → State → Prop} {AX : Nat → Prop} (hr : vx_Run p l e R s m args below meth c H locs cells slots mc ms (F0 m pc ls st0) rest (va_Qd post B A1 a) (vx_X px BX AX) free) (hS : va_S A0 H0 H locs) (hA : ∀ q, q < H.size → A1 q → A0 q) (hf : ∀ q, free q → A0 q) (hAX : ∀ q, q < H.size → AX q → A0 q)
    (kx : ∀ (E : String) (ce : Cell) (q9 : Addr) (u : SX) (t : State) (H1 : Heap) (locs1 : List Loc), t.heap = H1 → s.vm.Alike t.vm → px u → BX E u t → H.size ≤ H1.size → (∀ q : Nat, q < H.size → ¬ AX q → H1[q]? = H[q]?) → va_S A0 H0 H1 locs1 → H1[q9]? = some ce → ce.vm = .none → s.vm.findClass E = some ce.cls → vx_W p l e R s m args below meth c H1 locs1 (cells + mc) (slots + ms) Q (F0 m pc ls rest) q9)
    (kk : ∀ (r : UInt64) (u : S) (t : State) (H1 : Heap) (locs1 : List Loc), t.heap = H1 → s.vm.Alike t.vm → post r u → B u t → H.size ≤ H1.size → (∀ q : Nat, q < H.size → ¬ A1 q → H1[q]? = H[q]?) → va_S A0 H0 H1 locs1 → W p l e R s m args below meth c H1 locs1 (cells + mc) (slots + ms) Q (F0 m (pc + 3) ls (.double r :: rest))) : W p l e R s m args below meth c H locs cells slots Q (F0 m pc ls st0) := by
  intro T hT X
  rcases hr T hT X with ⟨v, st₀, t, T', L, h0, X', hL, e1, e2, ⟨⟨r, u, hv, hp, hb⟩, hF⟩, st⟩ | ⟨q, st₀, t, T', L, E, ce, h0, X', hL, e1, e2, ⟨u, hp, hb, hF⟩, hce, hcv, hcl, st⟩
  · cases hv
    obtain ⟨k1, k2, k3⟩ := vx_keep h0 e1 hS hA hf hL hF
    obtain ⟨t2, a1, b1⟩ := kk r u t T'.heap (locs ++ L) e1.symm (by rw [← e2]; exact X'.warmed.alike) hp hb k1 k2 k3 T' rfl X'
    exact ⟨t2, st t2 a1, b1⟩
  · obtain ⟨k1, k2, k3⟩ := vx_keep h0 e1 hS hAX hf hL hF
    obtain ⟨t2, a1, b1⟩ := kx E ce q u t T'.heap (locs ++ L) e1.symm (by rw [← e2]; exact X'.warmed.alike) hp hb k1 k2 k3 (by rw [e1]; exact hce) hcv hcl T' rfl X'
    exact ⟨t2, st.trans a1, b1⟩
theorem vx_callv {S SX : Type} {post : S → Prop} {px : SX → Prop} {B : S → State → Prop} {BX : String → SX → State → Prop} {AX : Nat → Prop} (hr : vx_Run p l e R s m args below meth c H locs cells slots mc ms (F0 m pc ls st0) rest (va_Qv post B A1 a) (vx_X px BX AX) free) (hS : va_S A0 H0 H locs) (hA : ∀ q, q < H.size → A1 q → A0 q) (hf : ∀ q, free q → A0 q) (hAX : ∀ q, q < H.size → AX q → A0 q)
    (kx : ∀ (E : String) (ce : Cell) (q9 : Addr) (u : SX) (t : State) (H1 : Heap) (locs1 : List Loc), t.heap = H1 → s.vm.Alike t.vm → px u → BX E u t → H.size ≤ H1.size → (∀ q : Nat, q < H.size → ¬ AX q → H1[q]? = H[q]?) → va_S A0 H0 H1 locs1 → H1[q9]? = some ce → ce.vm = .none → s.vm.findClass E = some ce.cls → vx_W p l e R s m args below meth c H1 locs1 (cells + mc) (slots + ms) Q (F0 m pc ls rest) q9)
    (kk : ∀ (u : S) (t : State) (H1 : Heap) (locs1 : List Loc), t.heap = H1 → s.vm.Alike t.vm → post u → B u t → H.size ≤ H1.size → (∀ q : Nat, q < H.size → ¬ A1 q → H1[q]? = H[q]?) → va_S A0 H0 H1 locs1 → W p l e R s m args below meth c H1 locs1 (cells + mc) (slots + ms) Q (F0 m (pc + 3) ls (rest))) : W p l e R s m args below meth c H locs cells slots Q (F0 m pc ls st0) := by
  intro T hT X
  rcases hr T hT X with ⟨v, st₀, t, T', L, h0, X', hL, e1, e2, ⟨⟨u, hv, hp, hb⟩, hF⟩, st⟩ | ⟨q, st₀, t, T', L, E, ce, h0, X', hL, e1, e2, ⟨u, hp, hb, hF⟩, hce, hcv, hcl, st⟩
  · cases hv
    obtain ⟨k1, k2, k3⟩ := vx_keep h0 e1 hS hA hf hL hF
    obtain ⟨t2, a1, b1⟩ := kk u t T'.heap (locs ++ L) e1.symm (by rw [← e2]; exact X'.warmed.alike) hp hb k1 k2 k3 T' rfl X'
    exact ⟨t2, st t2 a1, b1⟩
  · obtain ⟨k1, k2, k3⟩ := vx_keep h0 e1 hS hAX hf hL hF
    obtain ⟨t2, a1, b1⟩ := kx E ce q u t T'.heap (locs ++ L) e1.symm (by rw [← e2]; exact X'.warmed.alike) hp hb k1 k2 k3 (by rw [e1]; exact hce) hcv hcl T' rfl X'
    exact ⟨t2, st.trans a1, b1⟩
/-- caught by the row x of this method's table; the rows ahead don't take it -/
theorem vx_catch {own name : String} {E : String} {ce : Cell} {q : Addr} (hown : s.vm.findClass own = some m.cls) (pre : List ExceptionTableEntry) (x : ExceptionTableEntry) (suf : List ExceptionTableEntry) (hsplit : c.exceptionTable.toList = pre ++ x :: suf)
    (hpass : ∀ z ∈ pre, covers z pc = false ∨ (z.catchType ≠ 0 ∧ ∃ nm : String, (Cond.classLink own z.catchType nm).before args s = true ∧ va_Nc E nm s)) (hx : covers x pc = true) (h0 : x.catchType ≠ 0)
    (hlink : (Cond.classLink own x.catchType name).before args s = true) (hcast : (Cond.castable E name).before args s = true) (hcell : H[q]? = some ce) (hv : ce.vm = .none) (hcl : s.vm.findClass E = some ce.cls)
    (kk : W p l e R s m args below meth c H locs cells slots Q (F0 m x.handlerPc ls [.ref q])) : vx_W p l e R s m args below meth c H locs cells slots Q (F0 m pc ls rest) q := by
  intro T hT X
  have hpl : e.platform.magicAccessors = ({} : Platform).magicAccessors := by rw [X.admits.platform]
  obtain ⟨c3, c4, hc3, hc4, hasg⟩ := Cond.castable_spec hcast
  cases Option.some.inj (hc3.symm.trans hcl)
  obtain ⟨c5, hc5, hcl5⟩ := Cond.classLink_spec hown hlink e.platform hpl
  cases Option.some.inj (hc4.symm.trans hc5)
  obtain ⟨vm', X', st⟩ := X.thenCaughtThrough q (g := F0 m pc ls rest) rfl (Steps.refl _) (by rw [hT]; exact hcell) (by rw [hv]; rfl) (by obtain ⟨k9, h9, -⟩ := Vm.findClass_spec hcl; exact ⟨k9, h9⟩) pre x suf hsplit
    (fun z hz => by
      rcases hpass z hz with h | ⟨hz0, nm, hl1, hn1⟩
      · exact Or.inl h
      · obtain ⟨c6, hc6, hcl6⟩ := Cond.classLink_spec hown hl1 e.platform hpl
        obtain ⟨a8, b8, h1, h2, h3⟩ := hn1
        cases Option.some.inj (h1.symm.trans hcl)
        cases Option.some.inj (h2.symm.trans hc6)
        exact Or.inr ⟨hz0, _, hcl6, h3⟩) hx (Or.inr ⟨h0, c4, hcl5, hasg⟩)
  obtain ⟨t, a1, b1⟩ := kk (T.setVm vm') hT X'
  exact ⟨t, st.trans a1, b1⟩
end Rows
section Ends
variable {p : Program} {l : Launch} {e : Env} {R : Room} {s : State} {m : MethodId} {args : Array Value} {below : List Frame} {meth : Method} {c : Code} {H : Heap} {locs : List Loc} {cells slots : Nat} {Q : State → Prop}
variable {mc ms : Nat} {free : Addr → Prop} {A0 A1 : Nat → Prop} {H0 : Heap} {a : Array Value} {ls : Array Slot} {st0 rest : List Value}
variable {Qc : Array Value → State → Outcome → State → Prop} {XC : String → State → State → Prop}
/-- what a body that may throw owes at its end -/
def vx_MQ (below : List Frame) (Qc : Array Value → State → Outcome → State → Prop) (XC : String → State → State → Prop) (a : Array Value) (s : State) (mc ms : Nat) (free : Addr → Prop) : State → Prop := fun t =>
  ∃ o, t.status = .running ∧ Ended t below o ∧ vx_Q Qc XC mc ms free a s o t
theorem vx_ret {g : JFrame} {mc ms : Nat} (k : W p l e R s m args below meth c H locs cells slots (MQ below Qc args s mc ms free) g) : W p l e R s m args below meth c H locs cells slots (vx_MQ below Qc XC args s mc ms free) g := by
  intro T hT X
  obtain ⟨t, a1, o, b1, b2, b3, b4⟩ := k T hT X
  exact ⟨t, a1, o, b1, b2, Or.inl ⟨b3, b4⟩⟩
/-- not caught here: it goes on to the caller -/
theorem vx_widen {g : JFrame} {q : Addr} {k n : Nat} (h1 : cells ≤ k) (h2 : slots ≤ n) (kk : vx_W p l e R s m args below meth c H locs k n Q g q) : vx_W p l e R s m args below meth c H locs cells slots Q g q := fun T hT X => kk T hT (stand_widen X h1 h2)
theorem vx_out {pc : Nat} {E : String} {ce : Cell} {q : Addr} {mc ms : Nat} (hout : ∀ x ∈ c.exceptionTable.toList, covers x pc = false) (hlocks : meth.locks = false) (hcell : H[q]? = some ce) (hv : ce.vm = .none) (hcl : s.vm.findClass E = some ce.cls)
    (hx : ∀ t : State, t.heap = H → s.vm.Alike t.vm → XC E s t) (hf : ∀ z ∈ locs, free z.base) (hc : cells ≤ mc) (hs : slots ≤ ms) :
    vx_W p l e R s m args below meth c H locs cells slots (vx_MQ below Qc XC args s mc ms free) (F0 m pc ls rest) q := by
  intro T hT X
  obtain ⟨st1, hrun, hend, hW, hsm⟩ := X.leaveThrown q (g := F0 m pc ls rest) rfl rfl rfl hout hlocks
  have hcell9 : (T.setFrames (.throwing q :: below)).heap[q]? = some ce := by
    show T.heap[q]? = some ce
    rw [hT]; exact hcell
  exact ⟨_, st1, .threw q, hrun, hend, Or.inr ⟨q, rfl, E, ce, locs, hx _ hT hW.alike, hcell9, hv, hcl, hW, hsm.mono hc hs, hf⟩⟩
theorem vx_frame {U : State} {k n : Nat} (h : s.sameButNew ({ U with vm := s.vm } : State) locs k n) : s.heap.size ≤ U.heap.size ∧ ∀ q : Nat, q < s.heap.size → (∀ z ∈ locs, z.base ≠ q) → U.heap[q]? = s.heap[q]? := by
  obtain ⟨-, h2, -, -, -, h6⟩ := h
  refine ⟨h2, fun q hq hz => ?_⟩
  obtain ⟨c9, e1, e2, e3, e4⟩ := h6 q _ (Array.getElem?_eq_getElem hq)
  have hs : c9.slots = (s.heap[q]).slots := Array.ext_getElem? fun i => e4 i fun hm => hz _ hm rfl
  have h9 : c9 = s.heap[q] := by
    rw [hs] at e2
    exact e2
  have e5 : U.heap[q]? = some c9 := e1
  rw [e5, h9, Array.getElem?_eq_getElem hq]
/-- the words of a throw but the four that speak of the heap -/
def vx_no (w : Cond) : Bool := decide (w ≠ .isRef (.static Bundle.tN "UNASSIGNED_STACK" Bundle.steD)) && decide (w ≠ .isRef (.static Bundle.tN "SUPPRESSED_SENTINEL" Bundle.listD)) && decide (w ≠ .laysStatic Bundle.tN "UNASSIGNED_STACK" Bundle.steD) && decide (w ≠ .laysStatic Bundle.tN "SUPPRESSED_SENTINEL" Bundle.listD)
def vx_at0 (own : String) (ic : Nat) (X : String) (names : List String) : List Cond := (Bundle.ownAtoms0 own ic X names).filter vx_no
def vx_atS (own : String) (ic : Nat) (X : String) (names : List String) : List Cond := (Bundle.ownAtoms own ic X names).filter vx_no
/-- a word that the tables alone decide, or a good one -/
def vx_ot (w : Cond) : Bool := w.onTables || goodWord w
theorem vx_ot_at {args a' : Array Value} {s U : State} {w : Cond} (hW : s.WarmedH U.vm) (hvm : s.vm = U.vm) (hg : vx_ot w = true) (h : w.before args s = true) : w.before a' U = true := by
  simp only [vx_ot, Bool.or_eq_true] at hg
  rcases hg with hg | hg
  · exact va_tabs hg hvm h
  · exact word_at hW (good_of_word hg) h
/-- a list's words: the good ones out of the method's own list, the others by premises of their own -/
theorem vx_hat {args : Array Value} {s : State} {L B : List Cond} (h1 : ∀ w ∈ L.filter goodWord, w.before args s = true) (h2 : ∀ w ∈ L.filter (fun w => !goodWord w), w ∈ B) (h3 : ∀ w ∈ B, w.before args s = true) : ∀ w ∈ L, w.before args s = true := by
  intro w hw
  by_cases g : goodWord w = true
  · exact h1 w (List.mem_filter.mpr ⟨hw, g⟩)
  · refine h3 w (h2 w (List.mem_filter.mpr ⟨hw, ?_⟩))
    show (!goodWord w) = true
    cases hgw : goodWord w
    · rfl
    · exact absurd hgw g
theorem vx_c {args : Array Value} {s : State} {w : Cond} {B : List Cond} (h : w.before args s = true) (t : ∀ w ∈ B, w.before args s = true) : ∀ w' ∈ w :: B, w'.before args s = true := fun w' h' => (List.mem_cons.mp h').elim (fun e => by rw [e]; exact h) (t w')
theorem vx_n {args : Array Value} {s : State} : ∀ w ∈ ([] : List Cond), w.before args s = true := fun _ h => nomatch h
theorem vx_own {args : Array Value} {s : State} {L : List Cond} (h1 : ∀ w ∈ L.filter vx_no, w.before args s = true)
    (hU : (Cond.isRef (.static Bundle.tN "UNASSIGNED_STACK" Bundle.steD)).before args s = true) (hN : (Cond.isRef (.static Bundle.tN "SUPPRESSED_SENTINEL" Bundle.listD)).before args s = true)
    (lU : (Cond.laysStatic Bundle.tN "UNASSIGNED_STACK" Bundle.steD).before args s = true) (lN : (Cond.laysStatic Bundle.tN "SUPPRESSED_SENTINEL" Bundle.listD).before args s = true) : ∀ w ∈ L, w.before args s = true := by
  intro w hw
  by_cases e1 : w = .isRef (.static Bundle.tN "UNASSIGNED_STACK" Bundle.steD)
  · rw [e1]; exact hU
  · by_cases e2 : w = .isRef (.static Bundle.tN "SUPPRESSED_SENTINEL" Bundle.listD)
    · rw [e2]; exact hN
    · by_cases e3 : w = .laysStatic Bundle.tN "UNASSIGNED_STACK" Bundle.steD
      · rw [e3]; exact lU
      · by_cases e4 : w = .laysStatic Bundle.tN "SUPPRESSED_SENTINEL" Bundle.listD
        · rw [e4]; exact lN
        · exact h1 w (List.mem_filter.mpr ⟨hw, by unfold vx_no; rw [decide_eq_true e1, decide_eq_true e2, decide_eq_true e3, decide_eq_true e4]; rfl⟩)
/-- where a static field lies, its class's statics cell in H -/
def vx_L (C n d : String) (A : Nat → Prop) (U : State) (H : Heap) : Prop := ∃ (c : ClassId) (k : Class) (i : Nat) (f : Field) (a : Nat) (cell : Cell), U.vm.findClass C = some c ∧ U.fieldFound? C n d = some (c, k, i, f) ∧ f.isStatic = true ∧ k.statics = some a ∧ H[a]? = some cell ∧ cell.vm.isStatics = true ∧ cell.cls = c ∧ f.slot < cell.slots.size ∧ k.staticTypes[f.slot]? = some f.type ∧ ¬ A a
theorem vx_L.moved {C n d : String} {A : Nat → Prop} {u U : State} {H : Heap} (hvm : u.vm.Alike U.vm) (h : vx_L C n d A u H) : vx_L C n d A U H := by
  obtain ⟨c, k, i, f, a, cell, h1, h2, h3, h4, h5, h6, h7, h8, h9, h10⟩ := h
  obtain ⟨k', hi', he⟩ := State.fieldFound?_setVm hvm h2
  exact ⟨c, k', i, f, a, cell, by rw [hvm.findClass]; exact h1, hi', h3, by rw [he]; exact h4, h5, h6, h7, h8, by rw [he]; exact h9, h10⟩
theorem vx_L.kept {C n d : String} {A : Nat → Prop} {U : State} {H H1 : Heap} (h : vx_L C n d A U H) (hq : ∀ a : Nat, a < H.size → ¬ A a → H1[a]? = H[a]?) : vx_L C n d A U H1 := by
  obtain ⟨c, k, i, f, a, cell, h1, h2, h3, h4, h5, h6, h7, h8, h9, h10⟩ := h
  exact ⟨c, k, i, f, a, cell, h1, h2, h3, h4, by rw [hq a (Array.getElem?_eq_some_iff.mp h5).1 h10]; exact h5, h6, h7, h8, h9, h10⟩
theorem vx_L.narrow {C n d : String} {A B : Nat → Prop} {U : State} {H : Heap} (h : vx_L C n d A U H) (hAB : ∀ q, B q → A q) : vx_L C n d B U H := by
  obtain ⟨c, k, i, f, a, cell, h1, h2, h3, h4, h5, h6, h7, h8, h9, h10⟩ := h
  exact ⟨c, k, i, f, a, cell, h1, h2, h3, h4, h5, h6, h7, h8, h9, fun z => h10 (hAB _ z)⟩
theorem vx_L.word {C n d : String} {A : Nat → Prop} {s : State} {args : Array Value} (h : vx_L C n d A s s.heap) : (Cond.laysStatic C n d).before args s = true := by
  obtain ⟨c, k, i, f, a, cell, h1, h2, h3, h4, h5, h6, h7, h8, h9, -⟩ := h
  show (Cond.laysStatic C n d).holds args s none s [] = true
  exact Cond.laysStatic_of h1 h2 h3 h4 h5 h6 h7 h8 h9
/-- .. and what it holds: null or some reference -/
def vx_Zq (C n d : String) (A : Nat → Prop) (U : State) (H : Heap) : Prop := va_Zq C n d A U H ∧ vx_L C n d A U H
theorem vx_Zq.moved {C n d : String} {A : Nat → Prop} {u U : State} {H : Heap} (hvm : u.vm.Alike U.vm) (h : vx_Zq C n d A u H) : vx_Zq C n d A U H := ⟨va_Zq.moved hvm h.1, vx_L.moved hvm h.2⟩
theorem vx_Zq.kept {C n d : String} {A : Nat → Prop} {U : State} {H H1 : Heap} (h : vx_Zq C n d A U H) (hq : ∀ a : Nat, a < H.size → ¬ A a → H1[a]? = H[a]?) : vx_Zq C n d A U H1 := ⟨va_Zq.kept h.1 hq, vx_L.kept h.2 hq⟩
theorem vx_Zq.narrow {C n d : String} {A B : Nat → Prop} {U : State} {H : Heap} (h : vx_Zq C n d A U H) (hAB : ∀ q, B q → A q) : vx_Zq C n d B U H := ⟨va_Zq.narrow h.1 hAB, vx_L.narrow h.2 hAB⟩
theorem vx_Zqof {args : Array Value} {s : State} {C n d : String} {A : Nat → Prop} (hl : (Cond.laysStatic C n d).before args s = true) (hini : (Cond.initialized C).before args s = true) (h : (Cond.isRef (.static C n d)).before args s = true) (hA : ∀ a : Nat, a < s.heap.size → ¬ A a) : vx_Zq C n d A s s.heap := by
  refine ⟨va_Zqof hl hini h hA, ?_⟩
  obtain ⟨c, k, i, f, a, cell, h1, h2, h3, h4, h5, h6, h7, h8, h9⟩ := Cond.laysStatic_spec hl
  exact ⟨c, k, i, f, a, cell, h1, h2, h3, h4, h5, h6, h7, h8, h9, hA a (Array.getElem?_eq_some_iff.mp h5).1⟩
theorem vx_isRef {C n d : String} {v : Value} {A : Nat → Prop} {s : State} {args : Array Value} (h : va_Z C n d v A s s.heap) (hv : v.isRef = true) : (Cond.isRef (.static C n d)).before args s = true := by
  obtain ⟨cf, kf, fi, f, a, cell, h1, h2, h3, h4, h5, h6, h7, -⟩ := h
  have he : (Term.static C n d).eval args s none [] s = some v := by
    simp [Term.eval, State.fieldNamed?, h1, h2, h4, h5, h6, h7]
  simp only [Cond.before, Cond.holds, Cond.value, he]
  cases v <;> simp_all [Value.isRef]
theorem vx_isRefq {C n d : String} {A : Nat → Prop} {s : State} {args : Array Value} (h : va_Zq C n d A s s.heap) : (Cond.isRef (.static C n d)).before args s = true := by
  rcases h with h | ⟨t, h⟩
  · exact vx_isRef h rfl
  · exact vx_isRef h rfl
/-- the same frame, seen from here: as if the method were called anew in this heap -/
theorem vx_rebase {T : State} (X : Stand p l e R s m args below meth c T locs cells slots) {R' : Room} (hf : R'.frames ≤ R.frames) (hl : R'.locals ≤ R.locals) (hc : cells + R'.cells ≤ R.cells) (hs : slots + R'.slots ≤ R.slots) :
    Stand p l e R' ((T.setVm s.vm).setFrames (.invoking m args :: below)) m args below meth c T [] 0 0 := by
  have htop : (T.setVm s.vm).topJava?.isSome := X.here.top
  have hF : ((T.setVm s.vm).setFrames (.invoking m args :: below)).frames = .invoking m args :: below := State.frames_setFrames _ (State.cur_lt_of_top htop)
  obtain ⟨g₀, hg0⟩ := Option.isSome_iff_exists.mp htop
  obtain ⟨r, hr⟩ := State.topJava?_eq_some.mp hg0
  have hl9 : e.platform.stackLimits (T.setVm s.vm).me = e.platform.stackLimits s.me := X.limits
  have hb9 : (T.setVm s.vm).me.stackBytes = s.me.stackBytes := X.bytes
  refine ⟨X.admits, X.cas, X.clock, hF, ?_, X.hears, X.method, X.code, X.here, X.tail, X.warmed, ?_, ?_, ?_⟩
  · have h := X.room
    have hU : ((T.setVm s.vm).setFrames (.invoking m args :: below)).localsInUse = s.localsInUse := by
      rw [State.localsInUse_invoking hF (meth := meth) (c := c) X.method X.code, State.localsInUse_invoking X.frames X.method X.code]
    simp only [State.hasRoom, Bool.and_eq_true, decide_eq_true_eq] at h ⊢
    obtain ⟨⟨⟨⟨h1, h2, h3, h4, h5, h6⟩, h7⟩, h8⟩, h9⟩ := h
    rw [X.frames, List.length_cons] at h2 h3
    have q1 := X.heapSize
    have q2 := X.used
    simp only [hF, hU, List.length_cons, State.stackLimits_setFrames, State.stackBytes_setFrames, hl9, hb9]
    refine ⟨⟨⟨⟨by omega, by omega, by omega, by omega, by omega, h6⟩, ?_⟩, ?_⟩, X.book⟩
    · show T.heap.size + R'.cells ≤ e.platform.maxCells
      omega
    · show T.slotsUsed + R'.slots ≤ e.platform.maxSlots
      omega
  · rw [State.stackLimits_setFrames]; rfl
  · rw [State.stackBytes_setFrames]; rfl
  · refine ⟨?_, Nat.le_refl _, Nat.le_refl _, ?_, ?_, fun a c9 h9 => ⟨c9, h9, rfl, rfl, fun _ _ => rfl⟩⟩
    · obtain ⟨t, ht, -⟩ := State.frames_cons hr
      show T.setVm s.vm = { ((T.setVm s.vm).setFrames (.invoking m args :: below)).setFrames (T.setVm s.vm).frames with heap := T.heap, slotsUsed := T.slotsUsed }
      rw [State.setFrames_setFrames, State.setFrames_self ht]
      rfl
    · show T.slotsUsed = T.slotsUsed + ((T.heap.toList.drop T.heap.size).map (·.slots.size)).sum
      rw [List.drop_eq_nil_of_le (Nat.le_of_eq Array.length_toList)]
      rfl
    · show ((T.heap.toList.drop T.heap.size).map (·.slots.size)).sum ≤ 0
      rw [List.drop_eq_nil_of_le (Nat.le_of_eq Array.length_toList)]
      exact Nat.le_refl _
/-- 'throw new E()': new; dup; invokespecial; athrow -/
theorem vx_throw0 {cc : ByteArray} {pc : Nat} (hexec : p.tables.exec = Jvm.exec) (hb : c.code = cc) (hl : l.stackTraces = false) {own cls : String} {names : List String} {ik ic mc ms : Nat} {A : Nat → Prop}
    (hown : s.vm.findClass own = some m.cls) (hcls : Bundle.fit cls = true) (hnames : ∀ n ∈ names, Bundle.fit n = true)
    (hk : (Cond.classLink own ik cls).before args s = true) (hini : (Cond.initialized cls).before args s = true) (hat : ∀ w ∈ vx_at0 own ic cls names, w.before args s = true)
    (hgood : ∀ w ∈ Cond.classLink own ik cls :: Cond.initialized cls :: vx_at0 own ic cls names, vx_ot w = true)
    (hU : vx_Zq Bundle.tN "UNASSIGNED_STACK" Bundle.steD A s s.heap) (hN : vx_Zq Bundle.tN "SUPPRESSED_SENTINEL" Bundle.listD A s s.heap) (hS : va_S A s.heap H locs) (hsize : ls.size = c.maxLocals)
    (d0 : decode cc pc = .ok (.new ik, 3)) (d3 : decode cc (pc + 3) = .ok (.dup, 1)) (d4 : decode cc (pc + 4) = .ok (.invokespecial ic, 3)) (d7 : decode cc (pc + 7) = .ok (.athrow, 1))
    (hout : ∀ x ∈ c.exceptionTable.toList, covers x (pc + 7) = false)
    (hRframes : names.length + 3 < R.frames) (hRlocals : (rest.map fun v => v.category).sum + (13 * (names.length + 1) + 42) ≤ R.locals) (hRcells : cells + 1 ≤ R.cells) (hRslots : slots + 6 ≤ R.slots) (hlocks : meth.locks = false)
    (hx : ∀ t : State, s.vm.Alike t.vm → H.size ≤ t.heap.size → (∀ q : Nat, q < H.size → t.heap[q]? = H[q]?) → XC cls s t)
    (hf : ∀ z ∈ locs, free z.base) (hc : cells + 1 ≤ mc) (hs : slots + 6 ≤ ms) :
    W p l e R s m args below meth c H locs cells slots (vx_MQ below Qc XC args s mc ms free) (F0 m pc ls rest) := by
  intro T hT X
  have htr : e.platform.stackTraces = false := (show e.platform.stackTraces = l.stackTraces by rw [X.admits.platform]).trans hl
  have Y := vx_rebase X (R' := { frames := R.frames, locals := R.locals, cells := 1, slots := 6 }) (Nat.le_refl _) (Nat.le_refl _) hRcells hRslots
  obtain ⟨s', hA⟩ : ∃ z, z = (T.setVm s.vm).setFrames (.invoking m args :: below) := ⟨_, rfl⟩
  rw [← hA] at Y
  have hvm : s'.vm = s.vm := by rw [hA]; rfl
  have hhp : s'.heap = H := by rw [hA]; exact hT
  have hW0 : s.WarmedH s'.vm := by rw [hvm]; exact State.WarmedH.refl s
  have hat' : ∀ w ∈ vx_at0 own ic cls names, w.before args s' = true := fun w hw => vx_ot_at hW0 hvm.symm (hgood w (List.mem_cons_of_mem _ (List.mem_cons_of_mem _ hw))) (hat w hw)
  have hk' : (Cond.classLink own ik cls).before args s' = true := vx_ot_at hW0 hvm.symm (hgood _ List.mem_cons_self) hk
  have hini' : (Cond.initialized cls).before args s' = true := vx_ot_at hW0 hvm.symm (hgood _ (List.mem_cons_of_mem _ List.mem_cons_self)) hini
  have hU' : vx_Zq Bundle.tN "UNASSIGNED_STACK" Bundle.steD A s' s'.heap := by rw [hhp]; exact vx_Zq.moved hW0.alike (hU.kept hS.2.1)
  have hN' : vx_Zq Bundle.tN "SUPPRESSED_SENTINEL" Bundle.listD A s' s'.heap := by rw [hhp]; exact vx_Zq.moved hW0.alike (hN.kept hS.2.1)
  have h : ∀ w ∈ Bundle.ownAtoms0 own ic cls names, w.before args s' = true := vx_own hat' (vx_isRefq hU'.1) (vx_isRefq hN'.1) hU'.2.word hN'.2.word
  have hown' : s'.vm.findClass own = some m.cls := by rw [hvm]; exact hown
  have hins : (Cond.instantiable cls 6).before args s' = true := h _ (by simp [Bundle.ownAtoms0])
  obtain ⟨vm₁, cX, kX, hfX, hkX, -, -, X₁, st1⟩ := Y.newCold hexec (own := own) (C := cls) (index := ik) (n := 6) hown' hk' hins hini'
    (g := F0 m pc ls rest) rfl (by rw [hb]; exact d0) (Nat.le_refl _) (Nat.le_refl _)
  generalize hT1 : (T.setVm vm₁).pushCell { cls := cX, slots := kX.instanceTypes.map defaultValue, vm := .none } = T1 at X₁ st1
  have hcat : (Value.ref T.heap.size).category = 1 := rfl
  have hcellA : T1.heap[T.heap.size]? = some (freshCell cX kX) := by rw [← hT1]; exact State.heap_pushCell_size _ _
  have d3' : decode c.code (pc + 3) = .ok (.dup, 1) := by rw [hb]; exact d3
  obtain ⟨U, hsteps, hrun, hend, hW, hsame, ce, hce, hO⟩ := X₁.ctorThrow0 hexec htr (own := own) (cls := cls) (names := names) (ic := ic) hown' hcls hnames h (fun x hx => nomatch hx) hfX hkX hcellA (by rw [hhp, hT]; exact Nat.le_refl _)
    (g := { method := m, pc := pc + 4, locals := ls, stack := .ref T.heap.size :: .ref T.heap.size :: rest, locked := none }) rfl hsize rfl rfl (rest := rest) rfl
    (by rw [hb]; exact d4) (by rw [hb]; exact d7) hout hRframes (by simp only [List.map_cons, List.sum_cons, hcat]; omega) hlocks
  obtain ⟨f1, f2⟩ := vx_frame hsame
  rw [hhp] at f1 f2
  have hWs : s.WarmedH U.vm := State.WarmedH.trans hW0 hW
  have hcl : s.vm.findClass cls = some ce.cls := by
    have h9 := hO.cls
    rw [hvm] at h9
    exact h9
  have hall : s.sameButNew ({ U with vm := s.vm } : State) locs mc ms := by
    subst hA
    obtain ⟨e1, e2⟩ := hsame
    rw [State.setFrames_setFrames] at e1
    have h2 : (T.setVm s.vm).sameButNew ({ U with vm := s.vm } : State) [] (0 + 1) (0 + 6) := ⟨e1, e2⟩
    have h3 := X.same.trans h2
    rw [List.append_nil] at h3
    exact h3.mono hc hs
  refine ⟨U, ?_, .threw T.heap.size, hrun, hend, Or.inr ⟨T.heap.size, rfl, cls, ce, locs, hx U hWs.alike f1 (fun q hq => f2 q hq (fun z hz => nomatch hz)), hce, hO.vm, hcl, hWs, hall, hf⟩⟩
  refine st1 _ ?_
  show Steps p.tables e below (T1.setTop { method := m, pc := pc + 3, locals := ls, stack := .ref T.heap.size :: rest, locked := none }) _
  jvm_step X₁.here [X₁.here.top, hexec, d3', Value.category]
  exact hsteps
/-- 'throw new E("text")': new; dup; ldc; invokespecial; athrow -/
theorem vx_throwS {cc : ByteArray} {pc : Nat} (hexec : p.tables.exec = Jvm.exec) (hb : c.code = cc) (hl : l.stackTraces = false) {own cls text : String} {names : List String} {ik is ic mc ms sa : Nat} {A : Nat → Prop}
    (hown : s.vm.findClass own = some m.cls) (hcls : Bundle.fit cls = true) (hnames : ∀ n ∈ names, Bundle.fit n = true)
    (hk : (Cond.classLink own ik cls).before args s = true) (hini : (Cond.initialized cls).before args s = true) (hstr : vk_R own is text sa s) (hat : ∀ w ∈ vx_atS own ic cls names, w.before args s = true)
    (hgood : ∀ w ∈ Cond.classLink own ik cls :: Cond.initialized cls :: vx_atS own ic cls names, vx_ot w = true)
    (hU : vx_Zq Bundle.tN "UNASSIGNED_STACK" Bundle.steD A s s.heap) (hN : vx_Zq Bundle.tN "SUPPRESSED_SENTINEL" Bundle.listD A s s.heap) (hS : va_S A s.heap H locs) (hsize : ls.size = c.maxLocals)
    (d0 : decode cc pc = .ok (.new ik, 3)) (d3 : decode cc (pc + 3) = .ok (.dup, 1)) (d4 : decode cc (pc + 4) = .ok (.ldc is, 2)) (d6 : decode cc (pc + 6) = .ok (.invokespecial ic, 3)) (d9 : decode cc (pc + 9) = .ok (.athrow, 1))
    (hout : ∀ x ∈ c.exceptionTable.toList, covers x (pc + 9) = false)
    (hRframes : names.length + 3 < R.frames) (hRlocals : (rest.map fun v => v.category).sum + (13 * (names.length + 1) + 43) ≤ R.locals) (hRcells : cells + 1 ≤ R.cells) (hRslots : slots + 6 ≤ R.slots) (hlocks : meth.locks = false)
    (hx : ∀ t : State, s.vm.Alike t.vm → H.size ≤ t.heap.size → (∀ q : Nat, q < H.size → t.heap[q]? = H[q]?) → XC cls s t)
    (hf : ∀ z ∈ locs, free z.base) (hc : cells + 1 ≤ mc) (hs : slots + 6 ≤ ms) :
    W p l e R s m args below meth c H locs cells slots (vx_MQ below Qc XC args s mc ms free) (F0 m pc ls rest) := by
  intro T hT X
  have htr : e.platform.stackTraces = false := (show e.platform.stackTraces = l.stackTraces by rw [X.admits.platform]).trans hl
  have Y := vx_rebase X (R' := { frames := R.frames, locals := R.locals, cells := 1, slots := 6 }) (Nat.le_refl _) (Nat.le_refl _) hRcells hRslots
  obtain ⟨s', hA⟩ : ∃ z, z = (T.setVm s.vm).setFrames (.invoking m args :: below) := ⟨_, rfl⟩
  rw [← hA] at Y
  have hvm : s'.vm = s.vm := by rw [hA]; rfl
  have hhp : s'.heap = H := by rw [hA]; exact hT
  have hW0 : s.WarmedH s'.vm := by rw [hvm]; exact State.WarmedH.refl s
  have hat' : ∀ w ∈ vx_atS own ic cls names, w.before args s' = true := fun w hw => vx_ot_at hW0 hvm.symm (hgood w (List.mem_cons_of_mem _ (List.mem_cons_of_mem _ hw))) (hat w hw)
  have hk' : (Cond.classLink own ik cls).before args s' = true := vx_ot_at hW0 hvm.symm (hgood _ List.mem_cons_self) hk
  have hini' : (Cond.initialized cls).before args s' = true := vx_ot_at hW0 hvm.symm (hgood _ (List.mem_cons_of_mem _ List.mem_cons_self)) hini
  have hU' : vx_Zq Bundle.tN "UNASSIGNED_STACK" Bundle.steD A s' s'.heap := by rw [hhp]; exact vx_Zq.moved hW0.alike (hU.kept hS.2.1)
  have hN' : vx_Zq Bundle.tN "SUPPRESSED_SENTINEL" Bundle.listD A s' s'.heap := by rw [hhp]; exact vx_Zq.moved hW0.alike (hN.kept hS.2.1)
  have h : ∀ w ∈ Bundle.ownAtoms own ic cls names, w.before args s' = true := vx_own hat' (vx_isRefq hU'.1) (vx_isRefq hN'.1) hU'.2.word hN'.2.word
  have hown' : s'.vm.findClass own = some m.cls := by rw [hvm]; exact hown
  have hins : (Cond.instantiable cls 6).before args s' = true := h _ (by simp [Bundle.ownAtoms])
  obtain ⟨vm₁, cX, kX, hfX, hkX, -, -, X₁, st1⟩ := Y.newCold hexec (own := own) (C := cls) (index := ik) (n := 6) hown' hk' hins hini'
    (g := F0 m pc ls rest) rfl (by rw [hb]; exact d0) (Nat.le_refl _) (Nat.le_refl _)
  generalize hT1 : (T.setVm vm₁).pushCell { cls := cX, slots := kX.instanceTypes.map defaultValue, vm := .none } = T1 at X₁ st1
  have hcat : (Value.ref T.heap.size).category = 1 := rfl
  have hcellA : T1.heap[T.heap.size]? = some (freshCell cX kX) := by rw [← hT1]; exact State.heap_pushCell_size _ _
  have d3' : decode c.code (pc + 3) = .ok (.dup, 1) := by rw [hb]; exact d3
  have d4' : decode c.code (pc + 4) = .ok (.ldc is, 2) := by rw [hb]; exact d4
  have hstr' : vk_R own is text sa s' := vk_R.warm hW0 hstr
  obtain ⟨U, hsteps, hrun, hend, hW, hsame, ce, hce, hO⟩ := X₁.ctorThrowS hexec htr (own := own) (cls := cls) (names := names) (ic := ic) hown' hcls hnames h (fun x hx => nomatch hx) hfX hkX hcellA (by rw [hhp, hT]; exact Nat.le_refl _) (msg := .ref sa) rfl
    (g := { method := m, pc := pc + 6, locals := ls, stack := .ref sa :: .ref T.heap.size :: .ref T.heap.size :: rest, locked := none }) rfl hsize rfl rfl (rest := rest) rfl
    (by rw [hb]; exact d6) (by rw [hb]; exact d9) hout hRframes (by simp only [List.map_cons, List.sum_cons, hcat]; omega) hlocks
  obtain ⟨f1, f2⟩ := vx_frame hsame
  rw [hhp] at f1 f2
  have hWs : s.WarmedH U.vm := State.WarmedH.trans hW0 hW
  have hcl : s.vm.findClass cls = some ce.cls := by
    have h9 := hO.cls
    rw [hvm] at h9
    exact h9
  have hall : s.sameButNew ({ U with vm := s.vm } : State) locs mc ms := by
    subst hA
    obtain ⟨e1, e2⟩ := hsame
    rw [State.setFrames_setFrames] at e1
    have h2 : (T.setVm s.vm).sameButNew ({ U with vm := s.vm } : State) [] (0 + 1) (0 + 6) := ⟨e1, e2⟩
    have h3 := X.same.trans h2
    rw [List.append_nil] at h3
    exact h3.mono hc hs
  refine ⟨U, ?_, .threw T.heap.size, hrun, hend, Or.inr ⟨T.heap.size, rfl, cls, ce, locs, hx U hWs.alike f1 (fun q hq => f2 q hq (fun z hz => nomatch hz)), hce, hO.vm, hcl, hWs, hall, hf⟩⟩
  refine st1 _ ?_
  show Steps p.tables e below (T1.setTop { method := m, pc := pc + 3, locals := ls, stack := .ref T.heap.size :: rest, locked := none }) _
  jvm_step X₁.here [X₁.here.top, hexec, d3', Value.category]
  exact X₁.ldcString hexec (own := own) (text := text) (index := is) (a := sa) hown' hstr'.1 hstr'.2
    (g := { method := m, pc := pc + 4, locals := ls, stack := .ref T.heap.size :: .ref T.heap.size :: rest, locked := none }) rfl d4' _ hsteps
/-- 'throw new E("text")', the text by a wide index -/
theorem vx_throwSW {cc : ByteArray} {pc : Nat} (hexec : p.tables.exec = Jvm.exec) (hb : c.code = cc) (hl : l.stackTraces = false) {own cls text : String} {names : List String} {ik is ic mc ms sa : Nat} {A : Nat → Prop}
    (hown : s.vm.findClass own = some m.cls) (hcls : Bundle.fit cls = true) (hnames : ∀ n ∈ names, Bundle.fit n = true)
    (hk : (Cond.classLink own ik cls).before args s = true) (hini : (Cond.initialized cls).before args s = true) (hstr : vk_R own is text sa s) (hat : ∀ w ∈ vx_atS own ic cls names, w.before args s = true)
    (hgood : ∀ w ∈ Cond.classLink own ik cls :: Cond.initialized cls :: vx_atS own ic cls names, vx_ot w = true)
    (hU : vx_Zq Bundle.tN "UNASSIGNED_STACK" Bundle.steD A s s.heap) (hN : vx_Zq Bundle.tN "SUPPRESSED_SENTINEL" Bundle.listD A s s.heap) (hS : va_S A s.heap H locs) (hsize : ls.size = c.maxLocals)
    (d0 : decode cc pc = .ok (.new ik, 3)) (d3 : decode cc (pc + 3) = .ok (.dup, 1)) (d4 : decode cc (pc + 4) = .ok (.ldc_w is, 3)) (d7 : decode cc (pc + 7) = .ok (.invokespecial ic, 3)) (d10 : decode cc (pc + 10) = .ok (.athrow, 1))
    (hout : ∀ x ∈ c.exceptionTable.toList, covers x (pc + 10) = false)
    (hRframes : names.length + 3 < R.frames) (hRlocals : (rest.map fun v => v.category).sum + (13 * (names.length + 1) + 43) ≤ R.locals) (hRcells : cells + 1 ≤ R.cells) (hRslots : slots + 6 ≤ R.slots) (hlocks : meth.locks = false)
    (hx : ∀ t : State, s.vm.Alike t.vm → H.size ≤ t.heap.size → (∀ q : Nat, q < H.size → t.heap[q]? = H[q]?) → XC cls s t)
    (hf : ∀ z ∈ locs, free z.base) (hc : cells + 1 ≤ mc) (hs : slots + 6 ≤ ms) :
    W p l e R s m args below meth c H locs cells slots (vx_MQ below Qc XC args s mc ms free) (F0 m pc ls rest) := by
  intro T hT X
  have htr : e.platform.stackTraces = false := (show e.platform.stackTraces = l.stackTraces by rw [X.admits.platform]).trans hl
  have Y := vx_rebase X (R' := { frames := R.frames, locals := R.locals, cells := 1, slots := 6 }) (Nat.le_refl _) (Nat.le_refl _) hRcells hRslots
  obtain ⟨s', hA⟩ : ∃ z, z = (T.setVm s.vm).setFrames (.invoking m args :: below) := ⟨_, rfl⟩
  rw [← hA] at Y
  have hvm : s'.vm = s.vm := by rw [hA]; rfl
  have hhp : s'.heap = H := by rw [hA]; exact hT
  have hW0 : s.WarmedH s'.vm := by rw [hvm]; exact State.WarmedH.refl s
  have hat' : ∀ w ∈ vx_atS own ic cls names, w.before args s' = true := fun w hw => vx_ot_at hW0 hvm.symm (hgood w (List.mem_cons_of_mem _ (List.mem_cons_of_mem _ hw))) (hat w hw)
  have hk' : (Cond.classLink own ik cls).before args s' = true := vx_ot_at hW0 hvm.symm (hgood _ List.mem_cons_self) hk
  have hini' : (Cond.initialized cls).before args s' = true := vx_ot_at hW0 hvm.symm (hgood _ (List.mem_cons_of_mem _ List.mem_cons_self)) hini
  have hU' : vx_Zq Bundle.tN "UNASSIGNED_STACK" Bundle.steD A s' s'.heap := by rw [hhp]; exact vx_Zq.moved hW0.alike (hU.kept hS.2.1)
  have hN' : vx_Zq Bundle.tN "SUPPRESSED_SENTINEL" Bundle.listD A s' s'.heap := by rw [hhp]; exact vx_Zq.moved hW0.alike (hN.kept hS.2.1)
  have h : ∀ w ∈ Bundle.ownAtoms own ic cls names, w.before args s' = true := vx_own hat' (vx_isRefq hU'.1) (vx_isRefq hN'.1) hU'.2.word hN'.2.word
  have hown' : s'.vm.findClass own = some m.cls := by rw [hvm]; exact hown
  have hins : (Cond.instantiable cls 6).before args s' = true := h _ (by simp [Bundle.ownAtoms])
  obtain ⟨vm₁, cX, kX, hfX, hkX, -, -, X₁, st1⟩ := Y.newCold hexec (own := own) (C := cls) (index := ik) (n := 6) hown' hk' hins hini'
    (g := F0 m pc ls rest) rfl (by rw [hb]; exact d0) (Nat.le_refl _) (Nat.le_refl _)
  generalize hT1 : (T.setVm vm₁).pushCell { cls := cX, slots := kX.instanceTypes.map defaultValue, vm := .none } = T1 at X₁ st1
  have hcat : (Value.ref T.heap.size).category = 1 := rfl
  have hcellA : T1.heap[T.heap.size]? = some (freshCell cX kX) := by rw [← hT1]; exact State.heap_pushCell_size _ _
  have d3' : decode c.code (pc + 3) = .ok (.dup, 1) := by rw [hb]; exact d3
  have d4' : decode c.code (pc + 4) = .ok (.ldc_w is, 3) := by rw [hb]; exact d4
  have hstr' : vk_R own is text sa s' := vk_R.warm hW0 hstr
  obtain ⟨U, hsteps, hrun, hend, hW, hsame, ce, hce, hO⟩ := X₁.ctorThrowS hexec htr (own := own) (cls := cls) (names := names) (ic := ic) hown' hcls hnames h (fun x hx => nomatch hx) hfX hkX hcellA (by rw [hhp, hT]; exact Nat.le_refl _) (msg := .ref sa) rfl
    (g := { method := m, pc := pc + 7, locals := ls, stack := .ref sa :: .ref T.heap.size :: .ref T.heap.size :: rest, locked := none }) rfl hsize rfl rfl (rest := rest) rfl
    (by rw [hb]; exact d7) (by rw [hb]; exact d10) hout hRframes (by simp only [List.map_cons, List.sum_cons, hcat]; omega) hlocks
  obtain ⟨f1, f2⟩ := vx_frame hsame
  rw [hhp] at f1 f2
  have hWs : s.WarmedH U.vm := State.WarmedH.trans hW0 hW
  have hcl : s.vm.findClass cls = some ce.cls := by
    have h9 := hO.cls
    rw [hvm] at h9
    exact h9
  have hall : s.sameButNew ({ U with vm := s.vm } : State) locs mc ms := by
    subst hA
    obtain ⟨e1, e2⟩ := hsame
    rw [State.setFrames_setFrames] at e1
    have h2 : (T.setVm s.vm).sameButNew ({ U with vm := s.vm } : State) [] (0 + 1) (0 + 6) := ⟨e1, e2⟩
    have h3 := X.same.trans h2
    rw [List.append_nil] at h3
    exact h3.mono hc hs
  refine ⟨U, ?_, .threw T.heap.size, hrun, hend, Or.inr ⟨T.heap.size, rfl, cls, ce, locs, hx U hWs.alike f1 (fun q hq => f2 q hq (fun z hz => nomatch hz)), hce, hO.vm, hcl, hWs, hall, hf⟩⟩
  refine st1 _ ?_
  show Steps p.tables e below (T1.setTop { method := m, pc := pc + 3, locals := ls, stack := .ref T.heap.size :: rest, locked := none }) _
  jvm_step X₁.here [X₁.here.top, hexec, d3', Value.category]
  exact X₁.ldcStringW hexec (own := own) (text := text) (index := is) (a := sa) hown' hstr'.1 hstr'.2
    (g := { method := m, pc := pc + 4, locals := ls, stack := .ref T.heap.size :: .ref T.heap.size :: rest, locked := none }) rfl d4' _ hsteps
end Ends
section Bodies
variable {l : Launch}
theorem vx_ofW {y : MethodName} {ws ws' : List Cond} {rm : Room} {Pc : Array Value → State → Prop} {Qc : Array Value → State → Outcome → State → Prop} {XC : String → State → State → Prop} {mc ms : Nat} {free : Addr → Prop} {cc : ByteArray} {maxL : Nat} {ret : Option FieldType}
    (hy : plainName y.cls = true) (hw : ws = Cond.code y cc maxL ret :: ws')
    (body : ∀ p e s m args below meth c s₁, BodyLoose p l y (headSpec ws rm) cc maxL ret e s m args below meth c s₁ → c.maxLocals = maxL → (∀ x ∈ c.exceptionTable.toList, False) → Pc args s →
      W p l e (headSpec ws rm).room s m args below meth c s.heap [] 0 0 (vx_MQ below Qc XC args s mc ms free) (entryFrame m args maxL)) : vx_Met l y ws rm Pc Qc XC mc ms free := by
  refine MetFree.of_bodyS (code := cc) (maxLocals := maxL) (ret := ret) hy ?_ ?_
  · intro args s m h hn
    obtain ⟨meth, c, h1, h2, h3, h4, h5, h6, -, -⟩ := Cond.code_spec hn (atoms_spec (ws := ws) h _ (by rw [hw]; exact List.mem_cons_self))
    exact ⟨meth, c, h1, h2, h3, h4, h5, h6⟩
  · intro p e s m args below meth c s₁ B hml hP _
    have hh0 : s₁.heap = s.heap := by rw [B.state]; rfl
    have ht : ∀ x ∈ c.exceptionTable.toList, False := by
      obtain ⟨meth9, c9, h1, h2, -, -, -, -, h7, -⟩ := Cond.code_spec B.named (atoms_spec (ws := ws) B.pre _ (by rw [hw]; exact List.mem_cons_self))
      cases Option.some.inj (h1.symm.trans B.method)
      cases Option.some.inj (h2.symm.trans (Stand.of_body B).code)
      intro x hx
      rw [Array.isEmpty_iff.mp h7] at hx
      cases hx
    obtain ⟨t, a1, o, b1, b2, b3⟩ := body p e s m args below meth c s₁ B hml ht hP s₁ hh0 (Stand.of_body B)
    exact ⟨t, o, a1, b1, b2, b3⟩
/-- the table of a body with handlers -/
theorem vx_table {p : Program} {x y : MethodName} {S : Spec} {cc bytes : ByteArray} {maxL maxL' : Nat} {ret ret' : Option FieldType} {e : Env} {s s₁ : State} {m : MethodId} {args : Array Value} {below : List Frame} {meth : Method} {c : Code} {hh : List (Nat × Nat × Nat × Nat)}
    (B : BodyLoose p l y S cc maxL ret e s m args below meth c s₁) (h : (Cond.codeWith y bytes maxL' ret' hh).before args s = true) : c.exceptionTable.toList = tableOf hh := by
  obtain ⟨m9, meth9, c9, hn9, h1, h2, -, -, h6, -⟩ := Cond.codeWith_spec h
  cases Option.some.inj (hn9.symm.trans B.named)
  cases Option.some.inj (h1.symm.trans B.method)
  cases Option.some.inj (h2.symm.trans (Stand.of_body B).code)
  rw [← h6, table_eq]
end Bodies
end VXA
/-! ===== END ===== -/
/-! ===== BEGIN a static call of a method with an exception table ===== -/
section VXS
variable {p : Program} {l : Launch} {e : Env} {R : Room} {s : State} {m : MethodId} {args : Array Value} {below : List Frame} {meth : Method} {c : Code} {T : State} {H : Heap} {locs : List Loc} {cells slots : Nat}
abbrev vx_CSW (R : Room) (s : State) (args : Array Value) (own : String) (index : Nat) (y : MethodName) (bytes : ByteArray) (maxL : Nat) (ret : Option FieldType) (hh : List (Nat × Nat × Nat × Nat)) (ws : List Cond) (rm : Room) (mc ms n : Nat) : Prop :=
  (rm.cells = mc ∧ rm.slots = ms ∧ rm.frames + 1 ≤ R.frames ∧ 8 + (maxL + 11) + rm.locals ≤ R.locals ∧ (∀ w ∈ ws, ∀ (a' : Array Value) (U : State), s.WarmedH U.vm → w.before a' U = true) ∧ Cond.codeWith y bytes maxL ret hh ∈ ws) ∧
  (Cond.codeWith y bytes maxL ret hh).before args s = true ∧ (Cond.initialized y.cls).before args s = true ∧ (y.cls ≠ "java/lang/invoke/MethodHandle" ∧ y.cls ≠ "java/lang/invoke/VarHandle") ∧
  (∀ sig, parseMethodDescriptor y.desc = some sig → n = sig.parameters.length) ∧ (Cond.methodLink own index y).before args s = true ∧ (Cond.static y).before args s = true
theorem vx_cwSW {own : String} {index maxL mc ms : Nat} {y : MethodName} {bytes : ByteArray} {ret : Option FieldType} {hh : List (Nat × Nat × Nat × Nat)} {Ts ws ws' : List Cond} {rm : Room} (n : Nat) (ht : ∀ w ∈ Ts, w.before args s = true) (hT : GoodIn Ts (va_wsS own index y ws)) (hw : ws = Cond.codeWith y bytes maxL ret hh :: ws') (hrc : rm.cells = mc) (hrs : rm.slots = ms)
    (hd : y.cls ≠ "java/lang/invoke/MethodHandle" ∧ y.cls ≠ "java/lang/invoke/VarHandle" ∧ (parseMethodDescriptor y.desc).map (fun d => d.parameters.length) = some n) (hR : rm.frames + 1 ≤ R.frames ∧ 8 + (maxL + 11) + rm.locals ≤ R.locals) :
    vx_CSW R s args own index y bytes maxL ret hh ws rm mc ms n := by
  have ok : ∀ w ∈ va_wsS own index y ws, w.before args s = true := fun w h => ht w (hT w h).1
  have hG : GoodIn Ts ws := fun w h => hT w (by unfold va_wsS; exact List.mem_append_right _ h)
  have hc : Cond.codeWith y bytes maxL ret hh ∈ ws := by rw [hw]; exact List.mem_cons_self
  refine ⟨⟨hrc, hrs, hR.1, hR.2, pay_in ht hG, hc⟩, ht _ (hG _ hc).1, ok _ (by simp [va_wsS]), ⟨hd.1, hd.2.1⟩, fun sig h => ?_, ok _ (by simp [va_wsS]), ok _ (by simp [va_wsS])⟩
  have h2 := hd.2.2
  rw [h] at h2
  exact (Option.some.inj h2).symm
theorem vx_callSW (X : Stand p l e R s m args below meth c T locs cells slots) (hexec : p.tables.exec = Jvm.exec) {own : String} {index : Nat} {y : MethodName} {bytes : ByteArray} {maxL : Nat} {ret : Option FieldType} {hh : List (Nat × Nat × Nat × Nat)}
    (hown : s.vm.findClass own = some m.cls) (hlink : (Cond.methodLink own index y).before args s = true) (hstat : (Cond.static y).before args s = true) (hinit : (Cond.initialized y.cls).before args s = true)
    (hcode : (Cond.codeWith y bytes maxL ret hh).before args s = true) (hy : y.cls ≠ "java/lang/invoke/MethodHandle" ∧ y.cls ≠ "java/lang/invoke/VarHandle")
    {W9 : Nat} {Pre : Pt → Array Value → Prop} {Post : Pt → Array Value → Option Value → Pt → Prop} (hK : Back l R p e below s args y 3 W9 Pre Post)
    {g : JFrame} (hg : g.method = m) (hsize : g.locals.size = c.maxLocals) {argsL rest : List Value} (hlen : ∀ sig, parseMethodDescriptor y.desc = some sig → argsL.length = sig.parameters.length)
    (hstack : g.stack = argsL.reverse ++ rest) (hW : 2 * g.monitorRoom + (rest.map fun v => v.category).sum ≤ W9) (hdg : decode c.code g.pc = .ok (.invokestatic index, 3))
    (hpre : ∀ vm₁, s.WarmedH vm₁ → Pre ⟨T.setVm vm₁, locs, cells, slots⟩ argsL.toArray) :
    ∃ (v : Option Value) (vm₁ : Vm) (B : Pt), s.WarmedH vm₁ ∧ Stand p l e R s m args below meth c B.U B.locs B.cells B.slots ∧ Post ⟨T.setVm vm₁, locs, cells, slots⟩ argsL.toArray v B ∧
      ∀ target, Steps p.tables e below (B.U.setTop { g with pc := g.pc + 3, stack := v.toList ++ rest }) target → Steps p.tables e below (T.setTop g) target := by
  obtain ⟨mk, methM, cM, hnamed, hmethM, -, -, -, -, -, -, hsigM⟩ := Cond.codeWith_spec hcode
  have hstatic : methM.isStatic = true := Cond.static_spec hnamed hmethM hstat
  obtain ⟨kP, hkP, -⟩ := className_of_methodNamed hnamed
  have hinitP : kP.init = .initialized := Cond.initialized_spec (findClass_of_methodNamed hnamed) hkP hinit
  obtain ⟨vm₁, X₁, hstep₁⟩ := X.invokestatic hexec hown hlink hnamed hmethM hstatic hkP hinitP hy (g := g) hg (argsL := argsL) (rest := rest) (hlen _ hsigM) hstack hdg
  obtain ⟨v, B, X', hpost, hsteps⟩ := hK m meth c ⟨T.setVm vm₁, locs, cells, slots⟩ { g with stack := rest } (.invokestatic index) mk argsL.toArray X₁ hg hsize hdg hW (X₁.named hnamed) (hpre vm₁ X₁.warmed)
  exact ⟨v, vm₁, B, X₁.warmed, X', hpost, fun target h => hstep₁ _ fun acts => by rw [doInvoke_state]; exact hsteps.trans h⟩
theorem vx_runSW {y : MethodName} {bytes cc : ByteArray} {maxL nL mc ms n index : Nat} {ret : Option FieldType} {hh : List (Nat × Nat × Nat × Nat)} {ws : List Cond} {rm : Room} {Pc : Array Value → State → Prop} {Qc : Array Value → State → Outcome → State → Prop} {free : Addr → Prop} {Ts : List Cond} {own : String} {As rest : List Value} {g : JFrame}
    (S : CallFix p m c cc nL s args Ts own) (hM : Met l y ws rm Pc Qc mc ms free) (cw : vx_CSW R s args own index y bytes maxL ret hh ws rm mc ms n) (hp : PreS s H Pc As)
    (hg : g.method = m) (hn : As.length = n) (hsize : g.locals.size = nL) (hstack : g.stack = As.reverse ++ rest) (hW : 2 * g.monitorRoom + (rest.map fun v => v.category).sum ≤ 8) (hdg : decode cc g.pc = .ok (.invokestatic index, 3)) (hf : cells + mc ≤ R.cells ∧ slots + ms ≤ R.slots) :
    va_Run p l e R s m args below meth c H locs cells slots mc ms g rest (Qc As.toArray) (free) := by
  obtain ⟨⟨hrc, hrs, hfr, hlo, hws, hcw⟩, hcode, hini, hy, hlen, hl, hstt⟩ := cw
  have hK : Back l R p e below s args y 3 8 (PreOf R mc ms Pc) (PostOf Qc mc ms free) := va_backW (hh := hh) (bytes := bytes) (maxL := maxL) (ret := ret) hM hp.1 hrc hrs hfr hlo hws hcw (fun a' U hW => word_at hW (Or.inl (by first | rfl | simp [Cond.onTables, Cond.keeps, Cond.steady])) hini)
  obtain ⟨hx, hb, hml, ho, -⟩ := S
  intro T hT X
  obtain ⟨v, vm₁, ⟨U', l2, c2, s2⟩, hW₁, X', ⟨g', mk, t, L, e1, e2, hq, h1, hL, h2, h3⟩, st⟩ := vx_callSW X hx (hh := hh) (bytes := bytes) (maxL := maxL) (ret := ret) ho hl hstt hini hcode hy hK hg (hsize.trans hml.symm) (argsL := As) (rest := rest) (fun sig h => hn.trans (hlen sig h)) hstack hW (by rw [hb]; exact hdg)
    (fun vm₁ hW₁ => ⟨hf.1, hf.2, hp.2 (T.setVm vm₁) hT hW₁⟩)
  dsimp only [Pt.U, Pt.locs, Pt.cells, Pt.slots] at X' e1 e2 h1 h2 h3 st
  subst h1; subst h2; subst h3
  exact ⟨v, (T.setVm vm₁).calling g' mk As.toArray, t, U', L, hT, X', hL, e1, e2, hq, st⟩
/-- not caught here, past rows that name other classes: it goes on to the caller -/
theorem vx_outP {p : Program} {l : Launch} {e : Env} {R : Room} {s : State} {m : MethodId} {args : Array Value} {below : List Frame} {meth : Method} {c : Code} {H : Heap} {locs : List Loc} {cells slots : Nat} {free : Addr → Prop} {ls : Array Slot} {rest : List Value} {Qc : Array Value → State → Outcome → State → Prop} {XC : String → State → State → Prop}
    {pc : Nat} {own E : String} {ce : Cell} {q : Addr} {mc ms : Nat} (hown : s.vm.findClass own = some m.cls) (hlocks : meth.locks = false)
    (hpass : ∀ z ∈ c.exceptionTable.toList, covers z pc = false ∨ (z.catchType ≠ 0 ∧ ∃ nm : String, (Cond.classLink own z.catchType nm).before args s = true ∧ va_Nc E nm s)) (hcell : H[q]? = some ce) (hv : ce.vm = .none) (hcl : s.vm.findClass E = some ce.cls)
    (hx : ∀ t : State, t.heap = H → s.vm.Alike t.vm → XC E s t) (hf : ∀ z ∈ locs, free z.base) (hc : cells ≤ mc) (hs : slots ≤ ms) :
    vx_W p l e R s m args below meth c H locs cells slots (vx_MQ below Qc XC args s mc ms free) (F0 m pc ls rest) q := by
  intro T hT X
  have hpl : e.platform.magicAccessors = ({} : Platform).magicAccessors := by rw [X.admits.platform]
  obtain ⟨vm', hW', X', st⟩ := X.outThrough hlocks q (g := F0 m pc ls rest) rfl rfl rfl (cell := ce) (by rw [hT]; exact hcell) (by rw [hv]; rfl)
    (by obtain ⟨k9, h9, -⟩ := Vm.findClass_spec hcl; exact ⟨k9, h9⟩) (fun z hz => by
      rcases hpass z hz with h | ⟨hz0, nm, hl1, hn1⟩
      · exact Or.inl h
      · obtain ⟨c6, hc6, hcl6⟩ := Cond.classLink_spec hown hl1 e.platform hpl
        obtain ⟨a8, b8, h1, h2, h3⟩ := hn1
        cases Option.some.inj (h1.symm.trans hcl)
        cases Option.some.inj (h2.symm.trans hc6)
        exact Or.inr ⟨hz0, _, hcl6, h3⟩)
  obtain ⟨g₀, hfr⟩ := X'.frames_eq
  have hcell9 : ((T.setVm vm').setFrames (.throwing q :: below)).heap[q]? = some ce := by
    show T.heap[q]? = some ce
    rw [hT]; exact hcell
  have hend : Ended ((T.setVm vm').setFrames (.throwing q :: below)) below (.threw q) := State.frames_setFrames _ (State.cur_lt_of_frames hfr)
  refine ⟨(T.setVm vm').setFrames (.throwing q :: below), ?_, .threw q, X'.here.running, hend, Or.inr ⟨q, rfl, E, ce, locs, hx _ hT (X'.ends _).1.alike, hcell9, hv, hcl, (X'.ends _).1, (X'.ends _).2.mono hc hs, hf⟩⟩
  rw [X.pushThrowing_eq]
  exact st
/-- a thing of a world lies in the heap -/
theorem vx_lt {D : va_G} {cl : List vw_C} {ws : va_W} {H1 : Heap} (h : va_P D cl ws H1) {k : Nat} {q : Nat × va_E} (hk : ws[k]? = some q) : q.1 < H1.size := (h k q hk).lt
end VXS
/-! ===== END ===== -/
/-! ===== BEGIN methods with a table of their own: called by a name, returning or throwing ===== -/
section VXH
/-! vx_backW, vx_callVX, vx_callSX, vx_callVW, vx_runVW, vx_runVX, vx_runSX, vx_ofWH follow the same proofs as their sisters above (Free/Laws.lean, Shelf42/LK1.lean); vx_outP calls Shelf42/NT130.lean (outThrough). -/
section
variable {l : Launch} {R : Room} {p : Program} {e : Env} {below : List Frame} {s : State} {sargs : Array Value} {y : MethodName} {len W9 : Nat}
theorem vx_backW {ws : List Cond} {rm : Room} {Pc : Array Value → State → Prop} {Qc : Array Value → State → Outcome → State → Prop} {XC : String → State → State → Prop} {mc ms : Nat} {free : Addr → Prop} {bytes : ByteArray} {maxL : Nat} {ret : Option FieldType} {hh : List (Nat × Nat × Nat × Nat)}
    (hM : vx_Met l y ws rm Pc Qc XC mc ms free) (hblind : FrameBlind Pc) (hrc : rm.cells = mc) (hrs : rm.slots = ms)
    (hframes : rm.frames + 1 ≤ R.frames) (hlocals : W9 + (maxL + 11) + rm.locals ≤ R.locals)
    (hws : ∀ w ∈ ws, ∀ a' U, s.WarmedH U.vm → w.before a' U = true) (hcode : Cond.codeWith y bytes maxL ret hh ∈ ws) (hinit : ∀ a' U, s.WarmedH U.vm → (Cond.initialized y.cls).before a' U = true) :
    vx_Back l R p e below s sargs y len W9 (PreOf R mc ms Pc) (PostOf Qc mc ms free) (vx_Post XC mc ms free) := by
  intro m meth c A g ig mk a X hg hsize hdg hW hn hp
  have h1 : (headSpec ws rm).pre.before a A.U = true := atoms_intro fun w hw => hws w hw _ _ X.warmed
  have h2 : (Cond.codeWith y bytes maxL ret hh).before a A.U = true := hws _ hcode _ _ X.warmed
  have h3 : (Cond.initialized y.cls).before a A.U = true := hinit _ _ X.warmed
  have h4 : A.cells + (headSpec ws rm).room.cells ≤ R.cells := by rw [show (headSpec ws rm).room.cells = mc from hrc]; exact hp.1
  have h5 : A.slots + (headSpec ws rm).room.slots ≤ R.slots := by rw [show (headSpec ws rm).room.slots = ms from hrs]; exact hp.2.1
  have hPc : Pc a (A.U.calling g mk a) := hblind _ _ _ _ hp.2.2
  obtain ⟨U, Ls, c0, s0⟩ := A
  dsimp only [Pt.U, Pt.locs, Pt.cells, Pt.slots] at h1 h2 h3 h4 h5 X hn hPc ⊢
  obtain ⟨m9, methY, cY, hn9, hmY, hcY, -, hlY, -⟩ := Cond.codeWith_spec h2
  cases Option.some.inj (hn9.symm.trans hn)
  obtain ⟨kY, hkY, -⟩ := className_of_methodNamed hn
  have hinitY : kY.init = .initialized := Cond.initialized_spec (findClass_of_methodNamed hn) hkY h3
  have h : At U g.method c below := by rw [hg]; exact X.here
  have hlocals9 : W9 + (maxL + 11) + (headSpec ws rm).room.locals ≤ R.locals := hlocals
  have happ : (headSpec ws rm).appliesLoose y e.platform (U.calling g mk a) = true :=
    Spec.appliesLoose_calling (g := g) h hdg hn hkY hinitY
      (X.room_calling (g := g) (R' := (headSpec ws rm).room) hsize hmY hcY hframes (by rw [hlY]; omega) h4 h5) h1
  obtain ⟨mid, hmid⟩ := h.above
  have hfr : (U.setTop g).frames = (.java g :: mid) ++ below := by rw [State.frames_setTop' g h.top, hmid]; rfl
  obtain ⟨o, s₂, hsteps, -, hend, hq⟩ := Steps.callFree hM p X.admits X.cas X.clock (acts := []) hfr happ hPc trivial
  have hq' : vx_Q Qc XC mc ms free a (U.calling g mk a) o s₂ := hq
  rw [State.frames_setTop' g h.top] at hend
  obtain ⟨g₀, hg0⟩ := Option.isSome_iff_exists.mp h.top
  obtain ⟨r, hr⟩ := State.topJava?_eq_some.mp hg0
  have hr' : (({ U with heap := s₂.heap, slotsUsed := s₂.slotsUsed } : State).setVm s₂.vm).frames = .java g₀ :: r := hr
  rcases hq' with ⟨hqc, L, hfe, hL⟩ | ⟨q, rfl, E, ce, L, hx, hce, hcv, hcl, hW₂, hsm, hL⟩
  · obtain ⟨⟨v, rfl⟩, hW₂, e2, q2, q3, q4, q5, q6⟩ := id hfe
    have e3 : s₂ = ({ (U.calling g mk a).setFrames s₂.frames with heap := s₂.heap, slotsUsed := s₂.slotsUsed } : State).setVm s₂.vm := by
      have : s₂ = ({ s₂ with vm := (U.calling g mk a).vm } : State).setVm s₂.vm := rfl
      rw [e2] at this
      exact this
    obtain ⟨c₂, i₂, len₂, hc₂, hd₂, hf₂⟩ := hend
    have hW' : U.WarmedH s₂.vm := hW₂
    have hcc : c₂ = c := by
      have h1 : s₂.code? g.method = U.code? g.method := by
        rw [State.code?_eq, State.code?_eq, hW'.alike.method?]
      exact Option.some.inj (hc₂.symm.trans (h1.trans h.code))
    subst hcc
    have hlen : len₂ = len := by rw [hdg] at hd₂; cases hd₂; rfl
    subst hlen
    have hs₂ : s₂ = (({ U with heap := s₂.heap, slotsUsed := s₂.slotsUsed } : State).setVm s₂.vm).setTop { g with pc := g.pc + len₂, stack := v.toList ++ g.stack } := by
      refine e3.trans ?_
      rw [hf₂, State.calling_eq h.top, State.setFrames_setFrames, State.setTop_of_frames _ hr', hr]
      rfl
    have hsame : U.sameButNew ({ U with heap := s₂.heap, slotsUsed := s₂.slotsUsed } : State) L mc ms := by
      refine ⟨?_, q2, q3, q4, q5, q6⟩
      obtain ⟨t, ht, -⟩ := State.frames_cons hr
      show ({ U with heap := s₂.heap, slotsUsed := s₂.slotsUsed } : State) = { U.setFrames U.frames with heap := s₂.heap, slotsUsed := s₂.slotsUsed }
      rw [State.setFrames_self ht]
    subst hg
    refine Or.inl ⟨v, ⟨(({ U with heap := s₂.heap, slotsUsed := s₂.slotsUsed } : State).setVm s₂.vm), Ls ++ L, c0 + mc, s0 + ms⟩,
      ⟨X.admits, X.cas, X.clock, X.frames, X.room, X.hears, X.method, X.code, (X.here.setHeapUsed s₂.heap s₂.slotsUsed).setVm hW'.alike, X.tail, State.WarmedH.trans X.warmed hW', X.limits, X.bytes, X.same.trans (hsame.setVm s.vm)⟩,
      ⟨g, mk, s₂, L, rfl, rfl, hqc, rfl, hL, rfl, rfl⟩, ?_⟩
    show Steps p.tables e below _ ((({ U with heap := s₂.heap, slotsUsed := s₂.slotsUsed } : State).setVm s₂.vm).setTop { g with pc := g.pc + len₂, stack := v.toList ++ g.stack })
    rw [← hs₂]
    exact hsteps
  · obtain ⟨e2, q2, q3, q4, q5, q6⟩ := id hsm
    have e3 : s₂ = ({ (U.calling g mk a).setFrames s₂.frames with heap := s₂.heap, slotsUsed := s₂.slotsUsed } : State).setVm s₂.vm := by
      have : s₂ = ({ s₂ with vm := (U.calling g mk a).vm } : State).setVm s₂.vm := rfl
      rw [e2] at this
      exact this
    have hf₂ : s₂.frames = .throwing q :: .java g :: U.frames.tail := hend
    have hW' : U.WarmedH s₂.vm := hW₂
    have hs₂ : s₂ = ((({ U with heap := s₂.heap, slotsUsed := s₂.slotsUsed } : State).setVm s₂.vm).setTop g).pushFrame (.throwing q) := by
      refine e3.trans ?_
      rw [hf₂, State.calling_eq h.top, State.setFrames_setFrames, State.pushFrame, State.frames_setTop _ hr', State.setTop_of_frames _ hr', State.setFrames_setFrames, hr]
      rfl
    have hsame : U.sameButNew ({ U with heap := s₂.heap, slotsUsed := s₂.slotsUsed } : State) L mc ms := by
      refine ⟨?_, q2, q3, q4, q5, q6⟩
      obtain ⟨t, ht, -⟩ := State.frames_cons hr
      show ({ U with heap := s₂.heap, slotsUsed := s₂.slotsUsed } : State) = { U.setFrames U.frames with heap := s₂.heap, slotsUsed := s₂.slotsUsed }
      rw [State.setFrames_self ht]
    subst hg
    refine Or.inr ⟨q, ⟨(({ U with heap := s₂.heap, slotsUsed := s₂.slotsUsed } : State).setVm s₂.vm), Ls ++ L, c0 + mc, s0 + ms⟩,
      ⟨X.admits, X.cas, X.clock, X.frames, X.room, X.hears, X.method, X.code, (X.here.setHeapUsed s₂.heap s₂.slotsUsed).setVm hW'.alike, X.tail, State.WarmedH.trans X.warmed hW', X.limits, X.bytes, X.same.trans (hsame.setVm s.vm)⟩,
      ⟨g, mk, s₂, L, E, ce, rfl, rfl, hx, hce, hcv, hcl, rfl, hL, rfl, rfl⟩, ?_⟩
    show Steps p.tables e below _ (((({ U with heap := s₂.heap, slotsUsed := s₂.slotsUsed } : State).setVm s₂.vm).setTop g).pushFrame (.throwing q))
    rw [← hs₂]
    exact hsteps
end
variable {p : Program} {l : Launch} {e : Env} {R : Room} {s : State} {m : MethodId} {args : Array Value} {below : List Frame} {meth : Method} {c : Code} {T : State} {H : Heap} {locs : List Loc} {cells slots : Nat}
theorem vx_callVX (X : Stand p l e R s m args below meth c T locs cells slots) (hexec : p.tables.exec = Jvm.exec) {own C : String} {index : Nat} {y : MethodName} {bytes : ByteArray} {maxL : Nat} {ret : Option FieldType} {hh : List (Nat × Nat × Nat × Nat)}
    (hown : s.vm.findClass own = some m.cls) (hlink : (Cond.methodLink own index y).before args s = true) (hinst : (Cond.instanceMethod y).before args s = true) (hsel : (Cond.selects C y y).before args s = true)
    (hcode : (Cond.codeWith y bytes maxL ret hh).before args s = true) (hy : y.cls ≠ "java/lang/invoke/MethodHandle" ∧ y.cls ≠ "java/lang/invoke/VarHandle")
    {W9 : Nat} {Pre : Pt → Array Value → Prop} {Post : Pt → Array Value → Option Value → Pt → Prop} {PostX : Pt → Array Value → Addr → Pt → Prop} (hK : vx_Back l R p e below s args y 3 W9 Pre Post PostX)
    {b : Addr} {cellB : Cell} (hcell : T.heap[b]? = some cellB) (hobj : cellB.vm.isStatics = false) (hcls : s.vm.findClass C = some cellB.cls)
    {g : JFrame} (hg : g.method = m) (hsize : g.locals.size = c.maxLocals) {argsL rest : List Value} (hlen : ∀ sig, parseMethodDescriptor y.desc = some sig → argsL.length = sig.parameters.length)
    (hstack : g.stack = argsL.reverse ++ .ref b :: rest) (hW : 2 * g.monitorRoom + (rest.map fun v => v.category).sum ≤ W9) (hdg : decode c.code g.pc = .ok (.invokevirtual index, 3))
    (hpre : ∀ vm₁, s.WarmedH vm₁ → Pre ⟨T.setVm vm₁, locs, cells, slots⟩ (Value.ref b :: argsL).toArray) :
    (∃ (v : Option Value) (vm₁ : Vm) (B : Pt), s.WarmedH vm₁ ∧ Stand p l e R s m args below meth c B.U B.locs B.cells B.slots ∧ Post ⟨T.setVm vm₁, locs, cells, slots⟩ (Value.ref b :: argsL).toArray v B ∧
      ∀ target, Steps p.tables e below (B.U.setTop { g with pc := g.pc + 3, stack := v.toList ++ rest }) target → Steps p.tables e below (T.setTop g) target) ∨
    (∃ (q : Addr) (vm₁ : Vm) (B : Pt), s.WarmedH vm₁ ∧ Stand p l e R s m args below meth c B.U B.locs B.cells B.slots ∧ PostX ⟨T.setVm vm₁, locs, cells, slots⟩ (Value.ref b :: argsL).toArray q B ∧
      Steps p.tables e below (T.setTop g) ((B.U.setTop { g with stack := rest }).pushFrame (.throwing q))) := by
  obtain ⟨mk, methM, hnamed, hmethM, hstM, habM⟩ := Cond.instanceMethod_spec hinst
  obtain ⟨m8, methM', cM, hn8, hmethM', -, -, -, -, -, -, hsigM⟩ := Cond.codeWith_spec hcode
  cases Option.some.inj (hn8.symm.trans hnamed)
  cases hmethM.symm.trans hmethM'
  obtain ⟨c2, r2, m2, q1, q2, q3, q4, kP, hkP, hkPi⟩ := Cond.selects_spec hsel
  cases hcls.symm.trans q1
  cases (State.methodFound?_of_named hnamed hy).symm.trans q2
  cases hnamed.symm.trans q3
  have hselP : selectMethod e.platform s.vm cellB.cls mk = .method mk := by rw [Launch.admits_selectMethod X.admits]; exact q4
  obtain ⟨vm₁, X₁, hstep₁⟩ := X.invokevirtual hexec hown hlink hnamed hmethM hstM hkP hkPi hy (a := b) (cell := cellB) hcell
    (fun z h => by rw [h] at hobj; cases hobj) hselP hmethM habM hkP hkPi (g := g) hg (argsL := argsL) (rest := rest) (hlen _ hsigM) hstack hdg
  rcases hK m meth c ⟨T.setVm vm₁, locs, cells, slots⟩ { g with stack := rest } (.invokevirtual index) mk (Value.ref b :: argsL).toArray X₁ hg hsize hdg hW (X₁.named hnamed) (hpre vm₁ X₁.warmed) with ⟨v, B, X', hpost, hsteps⟩ | ⟨q, B, X', hpost, hsteps⟩
  · exact Or.inl ⟨v, vm₁, B, X₁.warmed, X', hpost, fun target h => hstep₁ _ fun acts => by rw [doInvoke_state]; exact hsteps.trans h⟩
  · exact Or.inr ⟨q, vm₁, B, X₁.warmed, X', hpost, hstep₁ _ fun acts => by rw [doInvoke_state]; exact hsteps⟩
theorem vx_callSX (X : Stand p l e R s m args below meth c T locs cells slots) (hexec : p.tables.exec = Jvm.exec) {own : String} {index : Nat} {y : MethodName} {bytes : ByteArray} {maxL : Nat} {ret : Option FieldType} {hh : List (Nat × Nat × Nat × Nat)}
    (hown : s.vm.findClass own = some m.cls) (hlink : (Cond.methodLink own index y).before args s = true) (hstat : (Cond.static y).before args s = true) (hinit : (Cond.initialized y.cls).before args s = true)
    (hcode : (Cond.codeWith y bytes maxL ret hh).before args s = true) (hy : y.cls ≠ "java/lang/invoke/MethodHandle" ∧ y.cls ≠ "java/lang/invoke/VarHandle")
    {W9 : Nat} {Pre : Pt → Array Value → Prop} {Post : Pt → Array Value → Option Value → Pt → Prop} {PostX : Pt → Array Value → Addr → Pt → Prop} (hK : vx_Back l R p e below s args y 3 W9 Pre Post PostX)
    {g : JFrame} (hg : g.method = m) (hsize : g.locals.size = c.maxLocals) {argsL rest : List Value} (hlen : ∀ sig, parseMethodDescriptor y.desc = some sig → argsL.length = sig.parameters.length)
    (hstack : g.stack = argsL.reverse ++ rest) (hW : 2 * g.monitorRoom + (rest.map fun v => v.category).sum ≤ W9) (hdg : decode c.code g.pc = .ok (.invokestatic index, 3))
    (hpre : ∀ vm₁, s.WarmedH vm₁ → Pre ⟨T.setVm vm₁, locs, cells, slots⟩ argsL.toArray) :
    (∃ (v : Option Value) (vm₁ : Vm) (B : Pt), s.WarmedH vm₁ ∧ Stand p l e R s m args below meth c B.U B.locs B.cells B.slots ∧ Post ⟨T.setVm vm₁, locs, cells, slots⟩ argsL.toArray v B ∧
      ∀ target, Steps p.tables e below (B.U.setTop { g with pc := g.pc + 3, stack := v.toList ++ rest }) target → Steps p.tables e below (T.setTop g) target) ∨
    (∃ (q : Addr) (vm₁ : Vm) (B : Pt), s.WarmedH vm₁ ∧ Stand p l e R s m args below meth c B.U B.locs B.cells B.slots ∧ PostX ⟨T.setVm vm₁, locs, cells, slots⟩ argsL.toArray q B ∧
      Steps p.tables e below (T.setTop g) ((B.U.setTop { g with stack := rest }).pushFrame (.throwing q))) := by
  obtain ⟨mk, methM, cM, hnamed, hmethM, -, -, -, -, -, -, hsigM⟩ := Cond.codeWith_spec hcode
  have hstatic : methM.isStatic = true := Cond.static_spec hnamed hmethM hstat
  obtain ⟨kP, hkP, -⟩ := className_of_methodNamed hnamed
  have hinitP : kP.init = .initialized := Cond.initialized_spec (findClass_of_methodNamed hnamed) hkP hinit
  obtain ⟨vm₁, X₁, hstep₁⟩ := X.invokestatic hexec hown hlink hnamed hmethM hstatic hkP hinitP hy (g := g) hg (argsL := argsL) (rest := rest) (hlen _ hsigM) hstack hdg
  rcases hK m meth c ⟨T.setVm vm₁, locs, cells, slots⟩ { g with stack := rest } (.invokestatic index) mk argsL.toArray X₁ hg hsize hdg hW (X₁.named hnamed) (hpre vm₁ X₁.warmed) with ⟨v, B, X', hpost, hsteps⟩ | ⟨q, B, X', hpost, hsteps⟩
  · exact Or.inl ⟨v, vm₁, B, X₁.warmed, X', hpost, fun target h => hstep₁ _ fun acts => by rw [doInvoke_state]; exact hsteps.trans h⟩
  · exact Or.inr ⟨q, vm₁, B, X₁.warmed, X', hpost, hstep₁ _ fun acts => by rw [doInvoke_state]; exact hsteps⟩
theorem vx_callVW (X : Stand p l e R s m args below meth c T locs cells slots) (hexec : p.tables.exec = Jvm.exec) {own C : String} {index : Nat} {y : MethodName} {bytes : ByteArray} {maxL : Nat} {ret : Option FieldType} {hh : List (Nat × Nat × Nat × Nat)}
    (hown : s.vm.findClass own = some m.cls) (hlink : (Cond.methodLink own index y).before args s = true) (hinst : (Cond.instanceMethod y).before args s = true) (hsel : (Cond.selects C y y).before args s = true)
    (hcode : (Cond.codeWith y bytes maxL ret hh).before args s = true) (hy : y.cls ≠ "java/lang/invoke/MethodHandle" ∧ y.cls ≠ "java/lang/invoke/VarHandle")
    {W9 : Nat} {Pre : Pt → Array Value → Prop} {Post : Pt → Array Value → Option Value → Pt → Prop} (hK : Back l R p e below s args y 3 W9 Pre Post)
    {b : Addr} {cellB : Cell} (hcell : T.heap[b]? = some cellB) (hobj : cellB.vm.isStatics = false) (hcls : s.vm.findClass C = some cellB.cls)
    {g : JFrame} (hg : g.method = m) (hsize : g.locals.size = c.maxLocals) {argsL rest : List Value} (hlen : ∀ sig, parseMethodDescriptor y.desc = some sig → argsL.length = sig.parameters.length)
    (hstack : g.stack = argsL.reverse ++ .ref b :: rest) (hW : 2 * g.monitorRoom + (rest.map fun v => v.category).sum ≤ W9) (hdg : decode c.code g.pc = .ok (.invokevirtual index, 3))
    (hpre : ∀ vm₁, s.WarmedH vm₁ → Pre ⟨T.setVm vm₁, locs, cells, slots⟩ (Value.ref b :: argsL).toArray) :
    ∃ (v : Option Value) (vm₁ : Vm) (B : Pt), s.WarmedH vm₁ ∧ Stand p l e R s m args below meth c B.U B.locs B.cells B.slots ∧ Post ⟨T.setVm vm₁, locs, cells, slots⟩ (Value.ref b :: argsL).toArray v B ∧
      ∀ target, Steps p.tables e below (B.U.setTop { g with pc := g.pc + 3, stack := v.toList ++ rest }) target → Steps p.tables e below (T.setTop g) target := by
  obtain ⟨mk, methM, hnamed, hmethM, hstM, habM⟩ := Cond.instanceMethod_spec hinst
  obtain ⟨m8, methM', cM, hn8, hmethM', -, -, -, -, -, -, hsigM⟩ := Cond.codeWith_spec hcode
  cases Option.some.inj (hn8.symm.trans hnamed)
  cases hmethM.symm.trans hmethM'
  obtain ⟨c2, r2, m2, q1, q2, q3, q4, kP, hkP, hkPi⟩ := Cond.selects_spec hsel
  cases hcls.symm.trans q1
  cases (State.methodFound?_of_named hnamed hy).symm.trans q2
  cases hnamed.symm.trans q3
  have hselP : selectMethod e.platform s.vm cellB.cls mk = .method mk := by rw [Launch.admits_selectMethod X.admits]; exact q4
  obtain ⟨vm₁, X₁, hstep₁⟩ := X.invokevirtual hexec hown hlink hnamed hmethM hstM hkP hkPi hy (a := b) (cell := cellB) hcell
    (fun z h => by rw [h] at hobj; cases hobj) hselP hmethM habM hkP hkPi (g := g) hg (argsL := argsL) (rest := rest) (hlen _ hsigM) hstack hdg
  obtain ⟨v, B, X', hpost, hsteps⟩ := hK m meth c ⟨T.setVm vm₁, locs, cells, slots⟩ { g with stack := rest } (.invokevirtual index) mk (Value.ref b :: argsL).toArray X₁ hg hsize hdg hW (X₁.named hnamed) (hpre vm₁ X₁.warmed)
  exact ⟨v, vm₁, B, X₁.warmed, X', hpost, fun target h => hstep₁ _ fun acts => by rw [doInvoke_state]; exact hsteps.trans h⟩
abbrev vx_CVW (R : Room) (s : State) (args : Array Value) (own C : String) (index : Nat) (y : MethodName) (bytes : ByteArray) (maxL : Nat) (ret : Option FieldType) (hh : List (Nat × Nat × Nat × Nat)) (ws : List Cond) (rm : Room) (mc ms n : Nat) : Prop :=
  (rm.cells = mc ∧ rm.slots = ms ∧ rm.frames + 1 ≤ R.frames ∧ 8 + (maxL + 11) + rm.locals ≤ R.locals ∧ (∀ w ∈ ws, ∀ (a' : Array Value) (U : State), s.WarmedH U.vm → w.before a' U = true) ∧ Cond.codeWith y bytes maxL ret hh ∈ ws) ∧
  (Cond.codeWith y bytes maxL ret hh).before args s = true ∧ (Cond.initialized y.cls).before args s = true ∧ (y.cls ≠ "java/lang/invoke/MethodHandle" ∧ y.cls ≠ "java/lang/invoke/VarHandle") ∧
  (∀ sig, parseMethodDescriptor y.desc = some sig → n = sig.parameters.length) ∧ (Cond.methodLink own index y).before args s = true ∧ (Cond.instanceMethod y).before args s = true ∧ (Cond.selects C y y).before args s = true
theorem vx_cwVW {own C : String} {index maxL mc ms : Nat} {y : MethodName} {bytes : ByteArray} {ret : Option FieldType} {hh : List (Nat × Nat × Nat × Nat)} {Ts ws ws' : List Cond} {rm : Room} (n : Nat) (ht : ∀ w ∈ Ts, w.before args s = true) (hT : GoodIn Ts (wsV own index C y ws)) (hw : ws = Cond.codeWith y bytes maxL ret hh :: ws') (hrc : rm.cells = mc) (hrs : rm.slots = ms)
    (hd : y.cls = C ∧ y.cls ≠ "java/lang/invoke/MethodHandle" ∧ y.cls ≠ "java/lang/invoke/VarHandle" ∧ (parseMethodDescriptor y.desc).map (fun d => d.parameters.length) = some n) (hR : rm.frames + 1 ≤ R.frames ∧ 8 + (maxL + 11) + rm.locals ≤ R.locals) :
    vx_CVW R s args own C index y bytes maxL ret hh ws rm mc ms n := by
  obtain ⟨hC, hd⟩ := hd
  subst hC
  have ok : ∀ w ∈ wsV own index y.cls y ws, w.before args s = true := fun w h => ht w (hT w h).1
  have hG : GoodIn Ts ws := fun w h => hT w (by unfold wsV; exact List.mem_append_right _ h)
  have hc : Cond.codeWith y bytes maxL ret hh ∈ ws := by rw [hw]; exact List.mem_cons_self
  refine ⟨⟨hrc, hrs, hR.1, hR.2, pay_in ht hG, hc⟩, ht _ (hG _ hc).1, ok _ (by simp [wsV]), ⟨hd.1, hd.2.1⟩, fun sig h => ?_, ok _ (by simp [wsV]), ok _ (by simp [wsV]), ok _ (by simp [wsV])⟩
  have h2 := hd.2.2
  rw [h] at h2
  exact (Option.some.inj h2).symm
theorem vx_runVW {y : MethodName} {bytes cc : ByteArray} {maxL nL mc ms n index : Nat} {ret : Option FieldType} {hh : List (Nat × Nat × Nat × Nat)} {ws : List Cond} {rm : Room} {Pc : Array Value → State → Prop} {Qc : Array Value → State → Outcome → State → Prop} {free : Addr → Prop} {Ts : List Cond} {own C : String} {b : Addr} {As rest : List Value} {g : JFrame}
    (S : CallFix p m c cc nL s args Ts own) (hM : Met l y ws rm Pc Qc mc ms free) (cw : vx_CVW R s args own C index y bytes maxL ret hh ws rm mc ms n) (hp : PreV s H C b Pc As)
    (hg : g.method = m) (hn : As.length = n) (hsize : g.locals.size = nL) (hstack : g.stack = As.reverse ++ .ref b :: rest) (hW : 2 * g.monitorRoom + (rest.map fun v => v.category).sum ≤ 8) (hdg : decode cc g.pc = .ok (.invokevirtual index, 3)) (hf : cells + mc ≤ R.cells ∧ slots + ms ≤ R.slots) :
    va_Run p l e R s m args below meth c H locs cells slots mc ms g rest (Qc (Value.ref b :: As).toArray) free := by
  obtain ⟨⟨hrc, hrs, hfr, hlo, hws, hcw⟩, hcode, hini, hy, hlen, hl, hin, hse⟩ := cw
  have hK : Back l R p e below s args y 3 8 (PreOf R mc ms Pc) (PostOf Qc mc ms free) := va_backW (hh := hh) (bytes := bytes) (maxL := maxL) (ret := ret) hM hp.1 hrc hrs hfr hlo hws hcw (fun a' U hW => word_at hW (Or.inl (by first | rfl | simp [Cond.onTables, Cond.keeps, Cond.steady])) hini)
  obtain ⟨hx, hb, hml, ho, -⟩ := S
  obtain ⟨-, ⟨cellB, hcB, hoB, hclB⟩, hPc⟩ := hp
  intro T hT X
  obtain ⟨v, vm₁, ⟨U', l2, c2, s2⟩, hW₁, X', ⟨g', mk, t, L, e1, e2, hq, h1, hL, h2, h3⟩, st⟩ := vx_callVW X hx (C := C) (hh := hh) (bytes := bytes) (maxL := maxL) (ret := ret) ho hl hin hse hcode hy hK (by rw [hT]; exact hcB) hoB hclB hg (hsize.trans hml.symm) (argsL := As) (rest := rest) (fun sig h => hn.trans (hlen sig h)) hstack hW (by rw [hb]; exact hdg)
    (fun vm₁ hW₁ => ⟨hf.1, hf.2, hPc (T.setVm vm₁) hT hW₁⟩)
  dsimp only [Pt.U, Pt.locs, Pt.cells, Pt.slots] at X' e1 e2 h1 h2 h3 st
  subst h1; subst h2; subst h3
  exact ⟨v, (T.setVm vm₁).calling g' mk (Value.ref b :: As).toArray, t, U', L, hT, X', hL, e1, e2, hq, st⟩
section
variable {y : MethodName} {bytes cc : ByteArray} {maxL nL mc ms n index : Nat} {ret : Option FieldType} {ws : List Cond} {rm : Room} {Pc : Array Value → State → Prop} {Qc : Array Value → State → Outcome → State → Prop} {XC : String → State → State → Prop} {free : Addr → Prop} {Ts : List Cond} {own C : String} {b : Addr} {As rest : List Value} {g : JFrame}
theorem vx_runVX {hh : List (Nat × Nat × Nat × Nat)} (S : CallFix p m c cc nL s args Ts own) (hM : vx_Met l y ws rm Pc Qc XC mc ms free) (cw : vx_CVW R s args own C index y bytes maxL ret hh ws rm mc ms n) (hp : PreV s H C b Pc As)
    (hg : g.method = m) (hn : As.length = n) (hsize : g.locals.size = nL) (hstack : g.stack = As.reverse ++ .ref b :: rest) (hW : 2 * g.monitorRoom + (rest.map fun v => v.category).sum ≤ 8) (hdg : decode cc g.pc = .ok (.invokevirtual index, 3)) (hf : cells + mc ≤ R.cells ∧ slots + ms ≤ R.slots) :
    vx_Run p l e R s m args below meth c H locs cells slots mc ms g rest (Qc (Value.ref b :: As).toArray) XC free := by
  obtain ⟨⟨hrc, hrs, hfr, hlo, hws, hcw⟩, hcode, hini, hy, hlen, hl, hin, hse⟩ := cw
  have hK : vx_Back l R p e below s args y 3 8 (PreOf R mc ms Pc) (PostOf Qc mc ms free) (vx_Post XC mc ms free) := vx_backW (hh := hh) (bytes := bytes) (maxL := maxL) (ret := ret) hM hp.1 hrc hrs hfr hlo hws hcw (fun a' U hW => word_at hW (Or.inl (by first | rfl | simp [Cond.onTables, Cond.keeps, Cond.steady])) hini)
  obtain ⟨hx, hb, hml, ho, -⟩ := S
  obtain ⟨-, ⟨cellB, hcB, hoB, hclB⟩, hPc⟩ := hp
  intro T hT X
  rcases vx_callVX X hx (C := C) (hh := hh) (bytes := bytes) (maxL := maxL) (ret := ret) ho hl hin hse hcode hy hK (by rw [hT]; exact hcB) hoB hclB hg (hsize.trans hml.symm) (argsL := As) (rest := rest) (fun sig h => hn.trans (hlen sig h)) hstack hW (by rw [hb]; exact hdg)
    (fun vm₁ hW₁ => ⟨hf.1, hf.2, hPc (T.setVm vm₁) hT hW₁⟩) with ⟨v, vm₁, ⟨U', l2, c2, s2⟩, hW₁, X', ⟨g', mk, t, L, e1, e2, hq, h1, hL, h2, h3⟩, st⟩ | ⟨q, vm₁, ⟨U', l2, c2, s2⟩, hW₁, X', ⟨g', mk, t, L, E, ce, e1, e2, hq, hce, hcv, hcl, h1, hL, h2, h3⟩, st⟩
  · dsimp only [Pt.U, Pt.locs, Pt.cells, Pt.slots] at X' e1 e2 h1 h2 h3 st
    subst h1; subst h2; subst h3
    exact Or.inl ⟨v, (T.setVm vm₁).calling g' mk (Value.ref b :: As).toArray, t, U', L, hT, X', hL, e1, e2, hq, st⟩
  · dsimp only [Pt.U, Pt.locs, Pt.cells, Pt.slots] at X' e1 e2 h1 h2 h3 st hcl
    subst h1; subst h2; subst h3
    exact Or.inr ⟨q, (T.setVm vm₁).calling g' mk (Value.ref b :: As).toArray, t, U', L, E, ce, hT, X', hL, e1, e2, hq, hce, hcv, vx_cls hW₁ hcl, st⟩
theorem vx_runSX {hh : List (Nat × Nat × Nat × Nat)} (S : CallFix p m c cc nL s args Ts own) (hM : vx_Met l y ws rm Pc Qc XC mc ms free) (cw : vx_CSW R s args own index y bytes maxL ret hh ws rm mc ms n) (hp : PreS s H Pc As)
    (hg : g.method = m) (hn : As.length = n) (hsize : g.locals.size = nL) (hstack : g.stack = As.reverse ++ rest) (hW : 2 * g.monitorRoom + (rest.map fun v => v.category).sum ≤ 8) (hdg : decode cc g.pc = .ok (.invokestatic index, 3)) (hf : cells + mc ≤ R.cells ∧ slots + ms ≤ R.slots) :
    vx_Run p l e R s m args below meth c H locs cells slots mc ms g rest (Qc As.toArray) XC free := by
  obtain ⟨⟨hrc, hrs, hfr, hlo, hws, hcw⟩, hcode, hini, hy, hlen, hl, hstt⟩ := cw
  have hK : vx_Back l R p e below s args y 3 8 (PreOf R mc ms Pc) (PostOf Qc mc ms free) (vx_Post XC mc ms free) := vx_backW (hh := hh) (bytes := bytes) (maxL := maxL) (ret := ret) hM hp.1 hrc hrs hfr hlo hws hcw (fun a' U hW => word_at hW (Or.inl (by first | rfl | simp [Cond.onTables, Cond.keeps, Cond.steady])) hini)
  obtain ⟨hx, hb, hml, ho, -⟩ := S
  intro T hT X
  rcases vx_callSX X hx (hh := hh) (bytes := bytes) (maxL := maxL) (ret := ret) ho hl hstt hini hcode hy hK hg (hsize.trans hml.symm) (argsL := As) (rest := rest) (fun sig h => hn.trans (hlen sig h)) hstack hW (by rw [hb]; exact hdg)
    (fun vm₁ hW₁ => ⟨hf.1, hf.2, hp.2 (T.setVm vm₁) hT hW₁⟩) with ⟨v, vm₁, ⟨U', l2, c2, s2⟩, hW₁, X', ⟨g', mk, t, L, e1, e2, hq, h1, hL, h2, h3⟩, st⟩ | ⟨q, vm₁, ⟨U', l2, c2, s2⟩, hW₁, X', ⟨g', mk, t, L, E, ce, e1, e2, hq, hce, hcv, hcl, h1, hL, h2, h3⟩, st⟩
  · dsimp only [Pt.U, Pt.locs, Pt.cells, Pt.slots] at X' e1 e2 h1 h2 h3 st
    subst h1; subst h2; subst h3
    exact Or.inl ⟨v, (T.setVm vm₁).calling g' mk As.toArray, t, U', L, hT, X', hL, e1, e2, hq, st⟩
  · dsimp only [Pt.U, Pt.locs, Pt.cells, Pt.slots] at X' e1 e2 h1 h2 h3 st hcl
    subst h1; subst h2; subst h3
    exact Or.inr ⟨q, (T.setVm vm₁).calling g' mk As.toArray, t, U', L, E, ce, hT, X', hL, e1, e2, hq, hce, hcv, vx_cls hW₁ hcl, st⟩
end
end VXH
theorem vx_ofWH {l : Launch} {y : MethodName} {ws ws' : List Cond} {rm : Room} {Pc : Array Value → State → Prop} {Qc : Array Value → State → Outcome → State → Prop} {XC : String → State → State → Prop} {mc ms : Nat} {free : Addr → Prop} {cc : ByteArray} {maxL : Nat} {ret : Option FieldType} {hh : List (Nat × Nat × Nat × Nat)}
    (hy : plainName y.cls = true) (hw : ws = Cond.codeWith y cc maxL ret hh :: ws')
    (body : ∀ p e s m args below meth c s₁, BodyLoose p l y (headSpec ws rm) cc maxL ret e s m args below meth c s₁ → c.maxLocals = maxL → Pc args s →
      W p l e (headSpec ws rm).room s m args below meth c s.heap [] 0 0 (vx_MQ below Qc XC args s mc ms free) (entryFrame m args maxL)) : vx_Met l y ws rm Pc Qc XC mc ms free := by
  refine MetFree.of_bodyS (code := cc) (maxLocals := maxL) (ret := ret) hy ?_ ?_
  · intro args s m h hn
    obtain ⟨m9, meth, c, hn9, h1, h2, h3, h4, -, h5, h6, -⟩ := Cond.codeWith_spec (atoms_spec (ws := ws) h _ (by rw [hw]; exact List.mem_cons_self))
    cases hn.symm.trans hn9
    exact ⟨meth, c, h1, h2, h3, h4, h5, h6⟩
  · intro p e s m args below meth c s₁ B hml hP _
    have hh0 : s₁.heap = s.heap := by rw [B.state]; rfl
    obtain ⟨t, a1, o, b1, b2, b3⟩ := body p e s m args below meth c s₁ B hml hP s₁ hh0 (Stand.of_body B)
    exact ⟨t, o, a1, b1, b2, b3⟩
/-! ===== END ===== -/
end
section
/-! names of methods and their codes, by program out of the claim -/
def y_S_init : MethodName := ⟨"BatchSavings", "<init>", "()V"⟩
abbrev c_S_init : ByteArray := prog_1_method_1_code
def y_S_batch : MethodName := ⟨"BatchSavings", "batch", "(I)I"⟩
abbrev c_S_batch : ByteArray := prog_1_method_15_code
def y_S_best : MethodName := ⟨"BatchSavings", "best", "(I)I"⟩
abbrev c_S_best : ByteArray := prog_1_method_17_code
def y_S_count : MethodName := ⟨"BatchSavings", "count", "(I)I"⟩
abbrev c_S_count : ByteArray := prog_1_method_20_code
def y_S_exact : MethodName := ⟨"BatchSavings", "exact", "()Z"⟩
abbrev c_S_exact : ByteArray := prog_1_method_10_code
def y_S_join : MethodName := ⟨"BatchSavings", "join", "(II)I"⟩
abbrev c_S_join : ByteArray := prog_1_method_13_code
def y_S_joined : MethodName := ⟨"BatchSavings", "joined", "(III)I"⟩
abbrev c_S_joined : ByteArray := prog_1_method_3_code
def y_S_leave : MethodName := ⟨"BatchSavings", "leave", "(I)I"⟩
abbrev c_S_leave : ByteArray := prog_1_method_14_code
def y_S_limit : MethodName := ⟨"BatchSavings", "limit", "(II)I"⟩
abbrev c_S_limit : ByteArray := prog_1_method_8_code
def y_S_match : MethodName := ⟨"BatchSavings", "match", "(I)I"⟩
abbrev c_S_match : ByteArray := prog_1_method_9_code
def y_S_mean : MethodName := ⟨"BatchSavings", "mean", "()I"⟩
abbrev c_S_mean : ByteArray := prog_1_method_19_code
def y_S_near : MethodName := ⟨"BatchSavings", "near", "(IIZ)V"⟩
abbrev c_S_near : ByteArray := prog_1_method_7_code
def y_S_needBatch : MethodName := ⟨"BatchSavings", "needBatch", "(I)V"⟩
abbrev c_S_needBatch : ByteArray := prog_1_method_23_code
def y_S_needDifferent : MethodName := ⟨"BatchSavings", "needDifferent", "(II)V"⟩
abbrev c_S_needDifferent : ByteArray := prog_1_method_26_code
def y_S_needFree : MethodName := ⟨"BatchSavings", "needFree", "(I)V"⟩
abbrev c_S_needFree : ByteArray := prog_1_method_24_code
def y_S_needOrder : MethodName := ⟨"BatchSavings", "needOrder", "(I)V"⟩
abbrev c_S_needOrder : ByteArray := prog_1_method_21_code
def y_S_needRange : MethodName := ⟨"BatchSavings", "needRange", "(III)V"⟩
abbrev c_S_needRange : ByteArray := prog_1_method_25_code
def y_S_needTwoOrders : MethodName := ⟨"BatchSavings", "needTwoOrders", "(II)V"⟩
abbrev c_S_needTwoOrders : ByteArray := prog_1_method_22_code
def y_S_open : MethodName := ⟨"BatchSavings", "open", "(I)I"⟩
abbrev c_S_open : ByteArray := prog_1_method_12_code
def y_S_order : MethodName := ⟨"BatchSavings", "order", "(III)I"⟩
abbrev c_S_order : ByteArray := prog_1_method_2_code
def y_S_pairIndex : MethodName := ⟨"BatchSavings", "pairIndex", "(II)I"⟩
abbrev c_S_pairIndex : ByteArray := prog_1_method_29_code
def y_S_rule : MethodName := ⟨"BatchSavings", "rule", "(IIZ)Z"⟩
abbrev c_S_rule : ByteArray := prog_1_method_5_code
def y_S_saving : MethodName := ⟨"BatchSavings", "saving", "(II)I"⟩
abbrev c_S_saving : ByteArray := prog_1_method_4_code
def y_S_share : MethodName := ⟨"BatchSavings", "share", "(II)I"⟩
abbrev c_S_share : ByteArray := prog_1_method_18_code
def y_S_suits : MethodName := ⟨"BatchSavings", "suits", "(II)Z"⟩
abbrev c_S_suits : ByteArray := prog_1_method_28_code
def y_S_takeGains : MethodName := ⟨"BatchSavings", "takeGains", "()V"⟩
abbrev c_S_takeGains : ByteArray := prog_1_method_27_code
def y_S_told : MethodName := ⟨"BatchSavings", "told", "(III)I"⟩
abbrev c_S_told : ByteArray := prog_1_method_16_code
def y_S_weight : MethodName := ⟨"BatchSavings", "weight", "(II)Z"⟩
abbrev c_S_weight : ByteArray := prog_1_method_6_code
def y_S_with : MethodName := ⟨"BatchSavings", "with", "(I)I"⟩
abbrev c_S_with : ByteArray := prog_1_method_11_code
def y_O_init : MethodName := ⟨"BatchSavings$Orders", "<init>", "()V"⟩
abbrev c_O_init : ByteArray := prog_4_method_1_code
def y_O_add : MethodName := ⟨"BatchSavings$Orders", "add", "(III)I"⟩
abbrev c_O_add : ByteArray := prog_4_method_3_code
def y_O_has : MethodName := ⟨"BatchSavings$Orders", "has", "(I)Z"⟩
abbrev c_O_has : ByteArray := prog_4_method_2_code
def y_O_putTogether : MethodName := ⟨"BatchSavings$Orders", "putTogether", "(III)V"⟩
abbrev c_O_putTogether : ByteArray := prog_4_method_4_code
def y_O_savingOf : MethodName := ⟨"BatchSavings$Orders", "savingOf", "(II)I"⟩
abbrev c_O_savingOf : ByteArray := prog_4_method_5_code
def y_R_init : MethodName := ⟨"BatchSavings$Rules", "<init>", "(LBatchSavings$Orders;)V"⟩
abbrev c_R_init : ByteArray := prog_5_method_1_code
def y_R_aboveAlone : MethodName := ⟨"BatchSavings$Rules", "aboveAlone", "()I"⟩
abbrev c_R_aboveAlone : ByteArray := prog_5_method_4_code
def y_R_addToSet : MethodName := ⟨"BatchSavings$Rules", "addToSet", "(I)V"⟩
abbrev c_R_addToSet : ByteArray := prog_5_method_6_code
def y_R_allowPair : MethodName := ⟨"BatchSavings$Rules", "allowPair", "(II)Z"⟩
abbrev c_R_allowPair : ByteArray := prog_5_method_7_code
def y_R_allowSet : MethodName := ⟨"BatchSavings$Rules", "allowSet", "()Z"⟩
abbrev c_R_allowSet : ByteArray := prog_5_method_8_code
def y_R_bar : MethodName := ⟨"BatchSavings$Rules", "bar", "(IIZ)V"⟩
abbrev c_R_bar : ByteArray := prog_5_method_2_code
def y_R_bringNear : MethodName := ⟨"BatchSavings$Rules", "bringNear", "(IIZ)V"⟩
abbrev c_R_bringNear : ByteArray := prog_5_method_3_code
def y_R_getAlong : MethodName := ⟨"BatchSavings$Rules", "getAlong", "(II)Z"⟩
abbrev c_R_getAlong : ByteArray := prog_5_method_9_code
def y_R_startSet : MethodName := ⟨"BatchSavings$Rules", "startSet", "()V"⟩
abbrev c_R_startSet : ByteArray := prog_5_method_5_code
def y_B_init : MethodName := ⟨"BatchSavings$Batches", "<init>", "(LBatchSavings$Orders;)V"⟩
abbrev c_B_init : ByteArray := prog_2_method_1_code
def y_B_addEmpty : MethodName := ⟨"BatchSavings$Batches", "addEmpty", "()I"⟩
abbrev c_B_addEmpty : ByteArray := prog_2_method_7_code
def y_B_freeOrders : MethodName := ⟨"BatchSavings$Batches", "freeOrders", "()I"⟩
abbrev c_B_freeOrders : ByteArray := prog_2_method_5_code
def y_B_has : MethodName := ⟨"BatchSavings$Batches", "has", "(I)Z"⟩
abbrev c_B_has : ByteArray := prog_2_method_2_code
def y_B_isFree : MethodName := ⟨"BatchSavings$Batches", "isFree", "(I)Z"⟩
abbrev c_B_isFree : ByteArray := prog_2_method_4_code
def y_B_isFull : MethodName := ⟨"BatchSavings$Batches", "isFull", "(I)Z"⟩
abbrev c_B_isFull : ByteArray := prog_2_method_3_code
def y_B_orderAt : MethodName := ⟨"BatchSavings$Batches", "orderAt", "(II)I"⟩
abbrev c_B_orderAt : ByteArray := prog_2_method_6_code
def y_B_put : MethodName := ⟨"BatchSavings$Batches", "put", "(II)V"⟩
abbrev c_B_put : ByteArray := prog_2_method_8_code
def y_B_saved : MethodName := ⟨"BatchSavings$Batches", "saved", "()I"⟩
abbrev c_B_saved : ByteArray := prog_2_method_14_code
def y_B_savedBy : MethodName := ⟨"BatchSavings$Batches", "savedBy", "(I)I"⟩
abbrev c_B_savedBy : ByteArray := prog_2_method_12_code
def y_B_savingWithLast : MethodName := ⟨"BatchSavings$Batches", "savingWithLast", "(II)I"⟩
abbrev c_B_savingWithLast : ByteArray := prog_2_method_10_code
def y_B_sumOf : MethodName := ⟨"BatchSavings$Batches", "sumOf", "(I[I)I"⟩
abbrev c_B_sumOf : ByteArray := prog_2_method_11_code
def y_B_take : MethodName := ⟨"BatchSavings$Batches", "take", "(II)V"⟩
abbrev c_B_take : ByteArray := prog_2_method_9_code
def y_B_wayOf : MethodName := ⟨"BatchSavings$Batches", "wayOf", "(I)I"⟩
abbrev c_B_wayOf : ByteArray := prog_2_method_13_code
def y_M_init : MethodName := ⟨"BatchSavings$Matching", "<init>", "(LBatchSavings$Orders;)V"⟩
abbrev c_M_init : ByteArray := prog_3_method_1_code
def y_M_bind : MethodName := ⟨"BatchSavings$Matching", "bind", "(II)V"⟩
abbrev c_M_bind : ByteArray := prog_3_method_4_code
def y_M_findSums : MethodName := ⟨"BatchSavings$Matching", "findSums", "()V"⟩
abbrev c_M_findSums : ByteArray := prog_3_method_8_code
def y_M_firstPartner : MethodName := ⟨"BatchSavings$Matching", "firstPartner", "(III)I"⟩
abbrev c_M_firstPartner : ByteArray := prog_3_method_13_code
def y_M_greatestSum : MethodName := ⟨"BatchSavings$Matching", "greatestSum", "(II)I"⟩
abbrev c_M_greatestSum : ByteArray := prog_3_method_9_code
def y_M_mayTake : MethodName := ⟨"BatchSavings$Matching", "mayTake", "(III)Z"⟩
abbrev c_M_mayTake : ByteArray := prog_3_method_10_code
def y_M_pairAnew : MethodName := ⟨"BatchSavings$Matching", "pairAnew", "(Z)V"⟩
abbrev c_M_pairAnew : ByteArray := prog_3_method_3_code
def y_M_pairByRule : MethodName := ⟨"BatchSavings$Matching", "pairByRule", "()V"⟩
abbrev c_M_pairByRule : ByteArray := prog_3_method_14_code
def y_M_pairBySums : MethodName := ⟨"BatchSavings$Matching", "pairBySums", "()V"⟩
abbrev c_M_pairBySums : ByteArray := prog_3_method_12_code
def y_M_pairs : MethodName := ⟨"BatchSavings$Matching", "pairs", "()I"⟩
abbrev c_M_pairs : ByteArray := prog_3_method_6_code
def y_M_part : MethodName := ⟨"BatchSavings$Matching", "part", "(I)V"⟩
abbrev c_M_part : ByteArray := prog_3_method_5_code
def y_M_putGain : MethodName := ⟨"BatchSavings$Matching", "putGain", "(III)V"⟩
abbrev c_M_putGain : ByteArray := prog_3_method_2_code
def y_M_saved : MethodName := ⟨"BatchSavings$Matching", "saved", "()I"⟩
abbrev c_M_saved : ByteArray := prog_3_method_7_code
def y_M_sumWith : MethodName := ⟨"BatchSavings$Matching", "sumWith", "(III)I"⟩
abbrev c_M_sumWith : ByteArray := prog_3_method_11_code
def y_Tw_init : MethodName := ⟨"BatchSavingsModel", "<init>", "()V"⟩
abbrev c_Tw_init : ByteArray := prog_7_method_1_code
def y_Tw_allSeconds : MethodName := ⟨"BatchSavingsModel", "allSeconds", "(I)I"⟩
abbrev c_Tw_allSeconds : ByteArray := prog_7_method_38_code
def y_Tw_batch : MethodName := ⟨"BatchSavingsModel", "batch", "(I)I"⟩
abbrev c_Tw_batch : ByteArray := prog_7_method_37_code
def y_Tw_best : MethodName := ⟨"BatchSavingsModel", "best", "(I)I"⟩
abbrev c_Tw_best : ByteArray := prog_7_method_40_code
def y_Tw_byRule : MethodName := ⟨"BatchSavingsModel", "byRule", "(I)V"⟩
abbrev c_Tw_byRule : ByteArray := prog_7_method_21_code
def y_Tw_count : MethodName := ⟨"BatchSavingsModel", "count", "(I)I"⟩
abbrev c_Tw_count : ByteArray := prog_7_method_43_code
def y_Tw_exact : MethodName := ⟨"BatchSavingsModel", "exact", "()Z"⟩
abbrev c_Tw_exact : ByteArray := prog_7_method_26_code
def y_Tw_exactly : MethodName := ⟨"BatchSavingsModel", "exactly", "(I)V"⟩
abbrev c_Tw_exactly : ByteArray := prog_7_method_19_code
def y_Tw_freeOnes : MethodName := ⟨"BatchSavingsModel", "freeOnes", "()I"⟩
abbrev c_Tw_freeOnes : ByteArray := prog_7_method_24_code
def y_Tw_in : MethodName := ⟨"BatchSavingsModel", "in", "(III)Z"⟩
abbrev c_Tw_in : ByteArray := prog_7_method_3_code
def y_Tw_isBatch : MethodName := ⟨"BatchSavingsModel", "isBatch", "(I)Z"⟩
abbrev c_Tw_isBatch : ByteArray := prog_7_method_5_code
def y_Tw_isFree : MethodName := ⟨"BatchSavingsModel", "isFree", "(I)Z"⟩
abbrev c_Tw_isFree : ByteArray := prog_7_method_13_code
def y_Tw_isOrder : MethodName := ⟨"BatchSavingsModel", "isOrder", "(I)Z"⟩
abbrev c_Tw_isOrder : ByteArray := prog_7_method_4_code
def y_Tw_join : MethodName := ⟨"BatchSavingsModel", "join", "(II)I"⟩
abbrev c_Tw_join : ByteArray := prog_7_method_35_code
def y_Tw_joined : MethodName := ⟨"BatchSavingsModel", "joined", "(III)I"⟩
abbrev c_Tw_joined : ByteArray := prog_7_method_8_code
def y_Tw_leave : MethodName := ⟨"BatchSavingsModel", "leave", "(I)I"⟩
abbrev c_Tw_leave : ByteArray := prog_7_method_36_code
def y_Tw_limit : MethodName := ⟨"BatchSavingsModel", "limit", "(II)I"⟩
abbrev c_Tw_limit : ByteArray := prog_7_method_16_code
def y_Tw_lowest : MethodName := ⟨"BatchSavingsModel", "lowest", "(I)I"⟩
abbrev c_Tw_lowest : ByteArray := prog_7_method_18_code
def y_Tw_match : MethodName := ⟨"BatchSavingsModel", "match", "(I)I"⟩
abbrev c_Tw_match : ByteArray := prog_7_method_25_code
def y_Tw_mayBe : MethodName := ⟨"BatchSavingsModel", "mayBe", "(I)Z"⟩
abbrev c_Tw_mayBe : ByteArray := prog_7_method_10_code
def y_Tw_mayCome : MethodName := ⟨"BatchSavingsModel", "mayCome", "(II)Z"⟩
abbrev c_Tw_mayCome : ByteArray := prog_7_method_34_code
def y_Tw_mayMatch : MethodName := ⟨"BatchSavingsModel", "mayMatch", "(II)Z"⟩
abbrev c_Tw_mayMatch : ByteArray := prog_7_method_17_code
def y_Tw_mayPair : MethodName := ⟨"BatchSavingsModel", "mayPair", "(II)Z"⟩
abbrev c_Tw_mayPair : ByteArray := prog_7_method_11_code
def y_Tw_mean : MethodName := ⟨"BatchSavingsModel", "mean", "()I"⟩
abbrev c_Tw_mean : ByteArray := prog_7_method_42_code
def y_Tw_near : MethodName := ⟨"BatchSavingsModel", "near", "(IIZ)V"⟩
abbrev c_Tw_near : ByteArray := prog_7_method_15_code
def y_Tw_open : MethodName := ⟨"BatchSavingsModel", "open", "(I)I"⟩
abbrev c_Tw_open : ByteArray := prog_7_method_30_code
def y_Tw_order : MethodName := ⟨"BatchSavingsModel", "order", "(III)I"⟩
abbrev c_Tw_order : ByteArray := prog_7_method_6_code
def y_Tw_pair : MethodName := ⟨"BatchSavingsModel", "pair", "(II)V"⟩
abbrev c_Tw_pair : ByteArray := prog_7_method_20_code
def y_Tw_pairSavings : MethodName := ⟨"BatchSavingsModel", "pairSavings", "()I"⟩
abbrev c_Tw_pairSavings : ByteArray := prog_7_method_22_code
def y_Tw_pairs : MethodName := ⟨"BatchSavingsModel", "pairs", "()I"⟩
abbrev c_Tw_pairs : ByteArray := prog_7_method_23_code
def y_Tw_put : MethodName := ⟨"BatchSavingsModel", "put", "(II)V"⟩
abbrev c_Tw_put : ByteArray := prog_7_method_29_code
def y_Tw_rule : MethodName := ⟨"BatchSavingsModel", "rule", "(IIZ)Z"⟩
abbrev c_Tw_rule : ByteArray := prog_7_method_12_code
def y_Tw_save : MethodName := ⟨"BatchSavingsModel", "save", "(II)I"⟩
abbrev c_Tw_save : ByteArray := prog_7_method_7_code
def y_Tw_saving : MethodName := ⟨"BatchSavingsModel", "saving", "(II)I"⟩
abbrev c_Tw_saving : ByteArray := prog_7_method_9_code
def y_Tw_savingWithLast : MethodName := ⟨"BatchSavingsModel", "savingWithLast", "(II)I"⟩
abbrev c_Tw_savingWithLast : ByteArray := prog_7_method_33_code
def y_Tw_setOf : MethodName := ⟨"BatchSavingsModel", "setOf", "(I)I"⟩
abbrev c_Tw_setOf : ByteArray := prog_7_method_32_code
def y_Tw_share : MethodName := ⟨"BatchSavingsModel", "share", "(II)I"⟩
abbrev c_Tw_share : ByteArray := prog_7_method_41_code
def y_Tw_thrown : MethodName := ⟨"BatchSavingsModel", "thrown", "()I"⟩
abbrev c_Tw_thrown : ByteArray := prog_7_method_2_code
def y_Tw_told : MethodName := ⟨"BatchSavingsModel", "told", "(III)I"⟩
abbrev c_Tw_told : ByteArray := prog_7_method_39_code
def y_Tw_unpair : MethodName := ⟨"BatchSavingsModel", "unpair", "(I)V"⟩
abbrev c_Tw_unpair : ByteArray := prog_7_method_28_code
def y_Tw_way : MethodName := ⟨"BatchSavingsModel", "way", "(I)I"⟩
abbrev c_Tw_way : ByteArray := prog_7_method_31_code
def y_Tw_weight : MethodName := ⟨"BatchSavingsModel", "weight", "(II)Z"⟩
abbrev c_Tw_weight : ByteArray := prog_7_method_14_code
def y_Tw_with : MethodName := ⟨"BatchSavingsModel", "with", "(I)I"⟩
abbrev c_Tw_with : ByteArray := prog_7_method_27_code
def y_L_batch : MethodName := ⟨"BatchSavingsLaw", "batch", "(LBatchSavings;I[J)I"⟩
abbrev c_L_batch : ByteArray := method_15_code
def y_L_best : MethodName := ⟨"BatchSavingsLaw", "best", "(LBatchSavings;I[J)I"⟩
abbrev c_L_best : ByteArray := method_17_code
def y_L_join : MethodName := ⟨"BatchSavingsLaw", "join", "(LBatchSavings;II[J)I"⟩
abbrev c_L_join : ByteArray := method_13_code
def y_L_joined : MethodName := ⟨"BatchSavingsLaw", "joined", "(LBatchSavings;III[J)I"⟩
abbrev c_L_joined : ByteArray := method_4_code
def y_L_leave : MethodName := ⟨"BatchSavingsLaw", "leave", "(LBatchSavings;I[J)I"⟩
abbrev c_L_leave : ByteArray := method_14_code
def y_L_limit : MethodName := ⟨"BatchSavingsLaw", "limit", "(LBatchSavings;II[J)I"⟩
abbrev c_L_limit : ByteArray := method_9_code
def y_L_match : MethodName := ⟨"BatchSavingsLaw", "match", "(LBatchSavings;I[J)I"⟩
abbrev c_L_match : ByteArray := method_10_code
def y_L_mean : MethodName := ⟨"BatchSavingsLaw", "mean", "(LBatchSavings;[J)I"⟩
abbrev c_L_mean : ByteArray := method_19_code
def y_L_near : MethodName := ⟨"BatchSavingsLaw", "near", "(LBatchSavings;IIZ)I"⟩
abbrev c_L_near : ByteArray := method_8_code
def y_L_open : MethodName := ⟨"BatchSavingsLaw", "open", "(LBatchSavings;I[J)I"⟩
abbrev c_L_open : ByteArray := method_12_code
def y_L_order : MethodName := ⟨"BatchSavingsLaw", "order", "(LBatchSavings;III[J)I"⟩
abbrev c_L_order : ByteArray := method_3_code
def y_L_rule : MethodName := ⟨"BatchSavingsLaw", "rule", "(LBatchSavings;IIZ[J)I"⟩
abbrev c_L_rule : ByteArray := method_6_code
def y_L_saving : MethodName := ⟨"BatchSavingsLaw", "saving", "(LBatchSavings;II[J)I"⟩
abbrev c_L_saving : ByteArray := method_5_code
def y_L_share : MethodName := ⟨"BatchSavingsLaw", "share", "(LBatchSavings;II[J)I"⟩
abbrev c_L_share : ByteArray := method_18_code
def y_L_told : MethodName := ⟨"BatchSavingsLaw", "told", "(LBatchSavings;III[J)I"⟩
abbrev c_L_told : ByteArray := method_16_code
def y_L_weight : MethodName := ⟨"BatchSavingsLaw", "weight", "(LBatchSavings;II[J)I"⟩
abbrev c_L_weight : ByteArray := method_7_code
def y_L_with : MethodName := ⟨"BatchSavingsLaw", "with", "(LBatchSavings;I[J)I"⟩
abbrev c_L_with : ByteArray := method_11_code
def y_A_fill : MethodName := ⟨"java/util/Arrays", "fill", "([II)V"⟩
abbrev c_A_fill : ByteArray := prog_18_method_103_code
def y_I_bitCount : MethodName := ⟨"java/lang/Integer", "bitCount", "(I)I"⟩
abbrev c_I_bitCount : ByteArray := prog_12_method_49_code
def y_Ob_init : MethodName := ⟨"java/lang/Object", "<init>", "()V"⟩
abbrev c_Ob_init : ByteArray := object_method_1_code
def y_Ma_max : MethodName := ⟨"java/lang/Math", "max", "(II)I"⟩
abbrev c_Ma_max : ByteArray := prog_13_method_65_code
def F_S : u_T := fun k => match k with
  | 0 => ("BatchSavings", "orders", "LBatchSavings$Orders;", true)
  | 1 => ("BatchSavings", "rules", "LBatchSavings$Rules;", true)
  | 2 => ("BatchSavings", "batches", "LBatchSavings$Batches;", true)
  | _ => ("BatchSavings", "matching", "LBatchSavings$Matching;", true)
def t_S : Nat → FieldType := fun k => match k with
  | 0 => .object "BatchSavings$Orders"
  | 1 => .object "BatchSavings$Rules"
  | 2 => .object "BatchSavings$Batches"
  | _ => .object "BatchSavings$Matching"
theorem n_S : ∀ a, a < 4 → ∀ b, b < 4 → a ≠ b → (F_S a).2.1 ≠ (F_S b).2.1 := by decide +kernel
theorem to_S : ∀ k, k < 4 → parseFieldDescriptor (F_S k).2.2.1 = some (t_S k) := by decide +kernel
def F_O : u_T := fun k => match k with
  | 0 => ("BatchSavings$Orders", "seconds", "[I", true)
  | 1 => ("BatchSavings$Orders", "sizes", "[I", true)
  | 2 => ("BatchSavings$Orders", "zones", "[I", true)
  | 3 => ("BatchSavings$Orders", "weights", "[I", true)
  | 4 => ("BatchSavings$Orders", "together", "[I", true)
  | _ => ("BatchSavings$Orders", "number", "I", false)
def t_O : Nat → FieldType := fun k => match k with
  | 0 => .array .int
  | 1 => .array .int
  | 2 => .array .int
  | 3 => .array .int
  | 4 => .array .int
  | _ => .int
theorem n_O : ∀ a, a < 6 → ∀ b, b < 6 → a ≠ b → (F_O a).2.1 ≠ (F_O b).2.1 := by decide +kernel
theorem to_O : ∀ k, k < 6 → parseFieldDescriptor (F_O k).2.2.1 = some (t_O k) := by decide +kernel
def F_R : u_T := fun k => match k with
  | 0 => ("BatchSavings$Rules", "orders", "LBatchSavings$Orders;", true)
  | 1 => ("BatchSavings$Rules", "barred", "[Z", true)
  | 2 => ("BatchSavings$Rules", "nearby", "[Z", true)
  | 3 => ("BatchSavings$Rules", "set", "[I", true)
  | 4 => ("BatchSavings$Rules", "setSize", "I", false)
  | 5 => ("BatchSavings$Rules", "weightLimit", "I", false)
  | _ => ("BatchSavings$Rules", "sizeLimit", "I", false)
def t_R : Nat → FieldType := fun k => match k with
  | 0 => .object "BatchSavings$Orders"
  | 1 => .array .boolean
  | 2 => .array .boolean
  | 3 => .array .int
  | 4 => .int
  | 5 => .int
  | _ => .int
theorem n_R : ∀ a, a < 7 → ∀ b, b < 7 → a ≠ b → (F_R a).2.1 ≠ (F_R b).2.1 := by decide +kernel
theorem to_R : ∀ k, k < 7 → parseFieldDescriptor (F_R k).2.2.1 = some (t_R k) := by decide +kernel
def F_B : u_T := fun k => match k with
  | 0 => ("BatchSavings$Batches", "orders", "LBatchSavings$Orders;", true)
  | 1 => ("BatchSavings$Batches", "rows", "[I", true)
  | 2 => ("BatchSavings$Batches", "lengths", "[I", true)
  | 3 => ("BatchSavings$Batches", "homes", "[I", true)
  | _ => ("BatchSavings$Batches", "number", "I", false)
def t_B : Nat → FieldType := fun k => match k with
  | 0 => .object "BatchSavings$Orders"
  | 1 => .array .int
  | 2 => .array .int
  | 3 => .array .int
  | _ => .int
theorem n_B : ∀ a, a < 5 → ∀ b, b < 5 → a ≠ b → (F_B a).2.1 ≠ (F_B b).2.1 := by decide +kernel
theorem to_B : ∀ k, k < 5 → parseFieldDescriptor (F_B k).2.2.1 = some (t_B k) := by decide +kernel
def F_M : u_T := fun k => match k with
  | 0 => ("BatchSavings$Matching", "orders", "LBatchSavings$Orders;", true)
  | 1 => ("BatchSavings$Matching", "partners", "[I", true)
  | 2 => ("BatchSavings$Matching", "gains", "[I", true)
  | 3 => ("BatchSavings$Matching", "sums", "[I", true)
  | _ => ("BatchSavings$Matching", "wasExact", "Z", false)
def t_M : Nat → FieldType := fun k => match k with
  | 0 => .object "BatchSavings$Orders"
  | 1 => .array .int
  | 2 => .array .int
  | 3 => .array .int
  | _ => .boolean
theorem n_M : ∀ a, a < 5 → ∀ b, b < 5 → a ≠ b → (F_M a).2.1 ≠ (F_M b).2.1 := by decide +kernel
theorem to_M : ∀ k, k < 5 → parseFieldDescriptor (F_M k).2.2.1 = some (t_M k) := by decide +kernel
def F_Tw : u_T := fun k => match k with
  | 0 => ("BatchSavingsModel", "code", "I", false)
  | 1 => ("BatchSavingsModel", "orders", "I", false)
  | 2 => ("BatchSavingsModel", "seconds", "[I", true)
  | 3 => ("BatchSavingsModel", "size", "[I", true)
  | 4 => ("BatchSavingsModel", "zone", "[I", true)
  | 5 => ("BatchSavingsModel", "weight", "[I", true)
  | 6 => ("BatchSavingsModel", "joint", "[I", true)
  | 7 => ("BatchSavingsModel", "barred", "[Z", true)
  | 8 => ("BatchSavingsModel", "close", "[Z", true)
  | 9 => ("BatchSavingsModel", "mostWeight", "I", false)
  | 10 => ("BatchSavingsModel", "mostSize", "I", false)
  | 11 => ("BatchSavingsModel", "partner", "[I", true)
  | 12 => ("BatchSavingsModel", "exact", "Z", false)
  | 13 => ("BatchSavingsModel", "batches", "I", false)
  | 14 => ("BatchSavingsModel", "count", "[I", true)
  | 15 => ("BatchSavingsModel", "rows", "[I", true)
  | 16 => ("BatchSavingsModel", "batchOf", "[I", true)
  | _ => ("BatchSavingsModel", "best", "[I", true)
def t_Tw : Nat → FieldType := fun k => match k with
  | 0 => .int
  | 1 => .int
  | 2 => .array .int
  | 3 => .array .int
  | 4 => .array .int
  | 5 => .array .int
  | 6 => .array .int
  | 7 => .array .boolean
  | 8 => .array .boolean
  | 9 => .int
  | 10 => .int
  | 11 => .array .int
  | 12 => .boolean
  | 13 => .int
  | 14 => .array .int
  | 15 => .array .int
  | 16 => .array .int
  | _ => .array .int
theorem n_Tw : ∀ a, a < 18 → ∀ b, b < 18 → a ≠ b → (F_Tw a).2.1 ≠ (F_Tw b).2.1 := by decide +kernel
theorem to_Tw : ∀ k, k < 18 → parseFieldDescriptor (F_Tw k).2.2.1 = some (t_Tw k) := by decide +kernel
abbrev cls9 : List vw_C := [("BatchSavings", F_S, 4), ("BatchSavings$Orders", F_O, 6), ("BatchSavings$Rules", F_R, 7), ("BatchSavings$Batches", F_B, 5), ("BatchSavings$Matching", F_M, 5), ("BatchSavingsModel", F_Tw, 18)]
/-- the good words, for all methods -/
def gws : List Cond := lw_tbl.filter goodWord
/-- a method's words -/
def wz (y : MethodName) (cc : ByteArray) (n : Nat) (ret : Option FieldType) : List Cond := Cond.code y cc n ret :: gws
def wzh (y : MethodName) (cc : ByteArray) (n : Nat) (ret : Option FieldType) (hh : List (Nat × Nat × Nat × Nat)) : List Cond := Cond.codeWith y cc n ret hh :: gws
theorem tw {w : Cond} (i : Nat) (h : tables_1[i]? = some w) (g : goodWord w = true) : w ∈ gws := List.mem_filter.mpr ⟨List.mem_append_right _ (List.mem_of_getElem? h), g⟩
theorem twp {w : Cond} (i : Nat) (h : (k2_sels lw_privs)[i]? = some w) (g : goodWord w = true) : w ∈ gws := List.mem_filter.mpr ⟨List.mem_append_left _ (List.mem_of_getElem? h), g⟩
theorem gws_in {y : MethodName} {cc : ByteArray} {n : Nat} {ret : Option FieldType} {w : Cond} (h : w ∈ gws) : w ∈ wz y cc n ret := List.mem_cons_of_mem _ h
theorem gws_good {big : List Cond} (hb : ∀ w ∈ gws, w ∈ big) {ws : List Cond} (h : ∀ w ∈ ws, w ∈ gws) : GoodIn big ws := fun w hw => ⟨hb w (h w hw), good_of_word (List.mem_filter.mp (h w hw)).2⟩
theorem wz_sub {y : MethodName} {cc : ByteArray} {n : Nat} {ret : Option FieldType} (h : Cond.code y cc n ret ∈ gws) : ∀ w ∈ wz y cc n ret, w ∈ gws := fun w hw => (List.mem_cons.mp hw).elim (fun e => e ▸ h) id
theorem wzh_sub {y : MethodName} {cc : ByteArray} {n : Nat} {ret : Option FieldType} {hh : List (Nat × Nat × Nat × Nat)} (h : Cond.codeWith y cc n ret hh ∈ gws) : ∀ w ∈ wzh y cc n ret hh, w ∈ gws := fun w hw => (List.mem_cons.mp hw).elim (fun e => e ▸ h) id
theorem wsV_sub {own C : String} {i : Nat} {y : MethodName} {ws : List Cond} (h : ∀ w ∈ ws, w ∈ gws) (h1 : Cond.methodLink own i y ∈ gws) (h2 : Cond.instanceMethod y ∈ gws) (h3 : Cond.selects C y y ∈ gws) (h4 : Cond.initialized C ∈ gws) : ∀ w ∈ wsV own i C y ws, w ∈ gws := by
  intro w hw
  rcases List.mem_append.mp hw with h' | h'
  · simp only [List.mem_cons, List.not_mem_nil, or_false] at h'
    rcases h' with rfl | rfl | rfl | rfl <;> assumption
  · exact h w h'
theorem wsS_sub {own : String} {i : Nat} {y : MethodName} {ws : List Cond} (h : ∀ w ∈ ws, w ∈ gws) (h1 : Cond.methodLink own i y ∈ gws) (h2 : Cond.static y ∈ gws) (h4 : Cond.initialized own ∈ gws) : ∀ w ∈ wsS own i y ws, w ∈ gws := by
  intro w hw
  rcases List.mem_append.mp hw with h' | h'
  · simp only [List.mem_cons, List.not_mem_nil, or_false] at h'
    rcases h' with rfl | rfl | rfl <;> assumption
  · exact h w h'
theorem k_0 : (Cond.initialized "BatchSavingsLaw") ∈ gws := tw 0 (by decide +kernel) rfl
theorem k_1 : (Cond.initialized "BatchSavings") ∈ gws := tw 1 (by decide +kernel) rfl
theorem k_2 : (Cond.initialized "BatchSavings$Orders") ∈ gws := tw 2 (by decide +kernel) rfl
theorem k_3 : (Cond.initialized "java/util/Arrays") ∈ gws := tw 3 (by decide +kernel) rfl
theorem k_4 : (Cond.initialized "BatchSavings$Rules") ∈ gws := tw 4 (by decide +kernel) rfl
theorem k_5 : (Cond.initialized "BatchSavings$Batches") ∈ gws := tw 5 (by decide +kernel) rfl
theorem k_6 : (Cond.initialized "BatchSavings$Matching") ∈ gws := tw 6 (by decide +kernel) rfl
theorem k_7 : (Cond.initialized "BatchSavingsModel") ∈ gws := tw 7 (by decide +kernel) rfl
theorem k_8 : (Cond.initialized "java/lang/Throwable") ∈ gws := tw 8 (by decide +kernel) rfl
theorem k_9 : (Cond.initialized "java/lang/Exception") ∈ gws := tw 9 (by decide +kernel) rfl
theorem k_10 : (Cond.initialized "java/lang/RuntimeException") ∈ gws := tw 10 (by decide +kernel) rfl
theorem k_11 : (Cond.initialized "java/lang/IllegalArgumentException") ∈ gws := tw 11 (by decide +kernel) rfl
theorem k_12 : (Cond.initialized "java/lang/UnsupportedOperationException") ∈ gws := tw 12 (by decide +kernel) rfl
theorem k_13 : (Cond.initialized "java/util/NoSuchElementException") ∈ gws := tw 13 (by decide +kernel) rfl
theorem k_14 : (Cond.initialized "java/lang/IllegalStateException") ∈ gws := tw 14 (by decide +kernel) rfl
theorem k_15 : (Cond.initialized "java/lang/Math") ∈ gws := tw 15 (by decide +kernel) rfl
theorem k_16 : (Cond.initialized "java/lang/Integer") ∈ gws := tw 16 (by decide +kernel) rfl
theorem k_17 : (Cond.initialized "java/lang/ArithmeticException") ∈ gws := tw 17 (by decide +kernel) rfl
theorem k_18 : (Cond.classLink "BatchSavingsLaw" 8 "BatchSavings") ∈ gws := tw 18 (by decide +kernel) rfl
theorem k_19 : (Cond.instantiable "BatchSavings" 4) ∈ gws := tw 19 (by decide +kernel) rfl
theorem k_20 : (Cond.methodLink "BatchSavingsLaw" 77 y_S_init) ∈ gws := tw 20 (by decide +kernel) rfl
theorem k_21 : (Cond.instanceMethod y_S_init) ∈ gws := tw 21 (by decide +kernel) rfl
theorem k_22 : (Cond.code y_S_init prog_1_method_1_code 1 none) ∈ gws := tw 22 (by decide +kernel) rfl
theorem k_23 : (Cond.methodLink "BatchSavings" 1 y_Ob_init) ∈ gws := tw 23 (by decide +kernel) rfl
theorem k_24 : (Cond.instanceMethod y_Ob_init) ∈ gws := tw 24 (by decide +kernel) rfl
theorem k_25 : (Cond.code y_Ob_init object_method_1_code 1 none) ∈ gws := tw 25 (by decide +kernel) rfl
theorem k_26 : (Cond.classLink "BatchSavings" 7 "BatchSavings$Orders") ∈ gws := tw 26 (by decide +kernel) rfl
theorem k_27 : (Cond.instantiable "BatchSavings$Orders" 6) ∈ gws := tw 27 (by decide +kernel) rfl
theorem k_29 : (Cond.instanceMethod y_O_init) ∈ gws := tw 29 (by decide +kernel) rfl
theorem k_30 : (Cond.code y_O_init prog_4_method_1_code 1 none) ∈ gws := tw 30 (by decide +kernel) rfl
theorem k_31 : (Cond.methodLink "BatchSavings$Orders" 3 y_Ob_init) ∈ gws := tw 31 (by decide +kernel) rfl
theorem k_32 : (Cond.methodLink "BatchSavings$Orders" 27 y_A_fill) ∈ gws := tw 32 (by decide +kernel) rfl
theorem k_33 : (Cond.static y_A_fill) ∈ gws := tw 33 (by decide +kernel) rfl
theorem k_34 : (Cond.code y_A_fill prog_18_method_103_code 4 none) ∈ gws := tw 34 (by decide +kernel) rfl
theorem k_35 : (Cond.fieldLink "BatchSavings$Orders" 9 "BatchSavings$Orders" "seconds" "[I") ∈ gws := tw 35 (by decide +kernel) rfl
theorem k_37 : (Cond.fieldLink "BatchSavings$Orders" 15 "BatchSavings$Orders" "sizes" "[I") ∈ gws := tw 37 (by decide +kernel) rfl
theorem k_40 : (Cond.fieldLink "BatchSavings$Orders" 18 "BatchSavings$Orders" "zones" "[I") ∈ gws := tw 40 (by decide +kernel) rfl
theorem k_42 : (Cond.fieldLink "BatchSavings$Orders" 21 "BatchSavings$Orders" "weights" "[I") ∈ gws := tw 42 (by decide +kernel) rfl
theorem k_45 : (Cond.fieldLink "BatchSavings$Orders" 24 "BatchSavings$Orders" "together" "[I") ∈ gws := tw 45 (by decide +kernel) rfl
theorem k_46 : (Cond.fieldLink "BatchSavings$Orders" 33 "BatchSavings$Orders" "number" "I") ∈ gws := tw 46 (by decide +kernel) rfl
theorem k_64 : (Cond.arrayClass FieldType.int) ∈ gws := tw 64 (by decide +kernel) rfl
theorem k_65 : (Cond.classLink "BatchSavings" 16 "BatchSavings$Rules") ∈ gws := tw 65 (by decide +kernel) rfl
theorem k_66 : (Cond.instantiable "BatchSavings$Rules" 7) ∈ gws := tw 66 (by decide +kernel) rfl
theorem k_68 : (Cond.instanceMethod y_R_init) ∈ gws := tw 68 (by decide +kernel) rfl
theorem k_69 : (Cond.code y_R_init prog_5_method_1_code 3 none) ∈ gws := tw 69 (by decide +kernel) rfl
theorem k_70 : (Cond.methodLink "BatchSavings$Rules" 3 y_Ob_init) ∈ gws := tw 70 (by decide +kernel) rfl
theorem k_71 : (Cond.fieldLink "BatchSavings$Rules" 29 "BatchSavings$Rules" "orders" "LBatchSavings$Orders;") ∈ gws := tw 71 (by decide +kernel) rfl
theorem k_72 : (Cond.fieldLink "BatchSavings$Rules" 9 "BatchSavings$Rules" "barred" "[Z") ∈ gws := tw 72 (by decide +kernel) rfl
theorem k_73 : (Cond.fieldLink "BatchSavings$Rules" 15 "BatchSavings$Rules" "nearby" "[Z") ∈ gws := tw 73 (by decide +kernel) rfl
theorem k_74 : (Cond.fieldLink "BatchSavings$Rules" 18 "BatchSavings$Rules" "set" "[I") ∈ gws := tw 74 (by decide +kernel) rfl
theorem k_75 : (Cond.fieldLink "BatchSavings$Rules" 48 "BatchSavings$Rules" "setSize" "I") ∈ gws := tw 75 (by decide +kernel) rfl
theorem k_76 : (Cond.fieldLink "BatchSavings$Rules" 22 "BatchSavings$Rules" "weightLimit" "I") ∈ gws := tw 76 (by decide +kernel) rfl
theorem k_78 : (Cond.fieldLink "BatchSavings$Rules" 26 "BatchSavings$Rules" "sizeLimit" "I") ∈ gws := tw 78 (by decide +kernel) rfl
theorem k_95 : (Cond.arrayClass FieldType.boolean) ∈ gws := tw 95 (by decide +kernel) rfl
theorem k_96 : (Cond.classLink "BatchSavings" 25 "BatchSavings$Batches") ∈ gws := tw 96 (by decide +kernel) rfl
theorem k_97 : (Cond.instantiable "BatchSavings$Batches" 5) ∈ gws := tw 97 (by decide +kernel) rfl
theorem k_99 : (Cond.instanceMethod y_B_init) ∈ gws := tw 99 (by decide +kernel) rfl
theorem k_100 : (Cond.code y_B_init prog_2_method_1_code 2 none) ∈ gws := tw 100 (by decide +kernel) rfl
theorem k_101 : (Cond.methodLink "BatchSavings$Batches" 3 y_Ob_init) ∈ gws := tw 101 (by decide +kernel) rfl
theorem k_102 : (Cond.methodLink "BatchSavings$Batches" 25 y_A_fill) ∈ gws := tw 102 (by decide +kernel) rfl
theorem k_103 : (Cond.fieldLink "BatchSavings$Batches" 21 "BatchSavings$Batches" "orders" "LBatchSavings$Orders;") ∈ gws := tw 103 (by decide +kernel) rfl
theorem k_104 : (Cond.fieldLink "BatchSavings$Batches" 9 "BatchSavings$Batches" "rows" "[I") ∈ gws := tw 104 (by decide +kernel) rfl
theorem k_105 : (Cond.fieldLink "BatchSavings$Batches" 15 "BatchSavings$Batches" "lengths" "[I") ∈ gws := tw 105 (by decide +kernel) rfl
theorem k_107 : (Cond.fieldLink "BatchSavings$Batches" 18 "BatchSavings$Batches" "homes" "[I") ∈ gws := tw 107 (by decide +kernel) rfl
theorem k_109 : (Cond.fieldLink "BatchSavings$Batches" 31 "BatchSavings$Batches" "number" "I") ∈ gws := tw 109 (by decide +kernel) rfl
theorem k_122 : (Cond.classLink "BatchSavings" 32 "BatchSavings$Matching") ∈ gws := tw 122 (by decide +kernel) rfl
theorem k_123 : (Cond.instantiable "BatchSavings$Matching" 5) ∈ gws := tw 123 (by decide +kernel) rfl
theorem k_125 : (Cond.instanceMethod y_M_init) ∈ gws := tw 125 (by decide +kernel) rfl
theorem k_126 : (Cond.code y_M_init prog_3_method_1_code 2 none) ∈ gws := tw 126 (by decide +kernel) rfl
theorem k_127 : (Cond.methodLink "BatchSavings$Matching" 3 y_Ob_init) ∈ gws := tw 127 (by decide +kernel) rfl
theorem k_128 : (Cond.methodLink "BatchSavings$Matching" 25 y_A_fill) ∈ gws := tw 128 (by decide +kernel) rfl
theorem k_129 : (Cond.fieldLink "BatchSavings$Matching" 21 "BatchSavings$Matching" "orders" "LBatchSavings$Orders;") ∈ gws := tw 129 (by decide +kernel) rfl
theorem k_130 : (Cond.fieldLink "BatchSavings$Matching" 9 "BatchSavings$Matching" "partners" "[I") ∈ gws := tw 130 (by decide +kernel) rfl
theorem k_132 : (Cond.fieldLink "BatchSavings$Matching" 15 "BatchSavings$Matching" "gains" "[I") ∈ gws := tw 132 (by decide +kernel) rfl
theorem k_133 : (Cond.fieldLink "BatchSavings$Matching" 18 "BatchSavings$Matching" "sums" "[I") ∈ gws := tw 133 (by decide +kernel) rfl
theorem k_134 : (Cond.fieldLink "BatchSavings$Matching" 35 "BatchSavings$Matching" "wasExact" "Z") ∈ gws := tw 134 (by decide +kernel) rfl
theorem k_147 : (Cond.fieldLink "BatchSavings" 10 "BatchSavings" "orders" "LBatchSavings$Orders;") ∈ gws := tw 147 (by decide +kernel) rfl
theorem k_148 : (Cond.fieldLink "BatchSavings" 21 "BatchSavings" "rules" "LBatchSavings$Rules;") ∈ gws := tw 148 (by decide +kernel) rfl
theorem k_149 : (Cond.fieldLink "BatchSavings" 28 "BatchSavings" "batches" "LBatchSavings$Batches;") ∈ gws := tw 149 (by decide +kernel) rfl
theorem k_150 : (Cond.fieldLink "BatchSavings" 35 "BatchSavings" "matching" "LBatchSavings$Matching;") ∈ gws := tw 150 (by decide +kernel) rfl
theorem k_160 : (Cond.methodLink "BatchSavingsLaw" 115 y_S_exact) ∈ gws := tw 160 (by decide +kernel) rfl
theorem k_161 : (Cond.instanceMethod y_S_exact) ∈ gws := tw 161 (by decide +kernel) rfl
theorem k_162 : (Cond.selects "BatchSavings" y_S_exact y_S_exact) ∈ gws := tw 162 (by decide +kernel) rfl
theorem k_163 : (Cond.code y_S_exact prog_1_method_10_code 1 (some FieldType.boolean)) ∈ gws := tw 163 (by decide +kernel) rfl
theorem k_164 : (Cond.methodLink "BatchSavingsLaw" 148 y_S_count) ∈ gws := tw 164 (by decide +kernel) rfl
theorem k_165 : (Cond.instanceMethod y_S_count) ∈ gws := tw 165 (by decide +kernel) rfl
theorem k_166 : (Cond.selects "BatchSavings" y_S_count y_S_count) ∈ gws := tw 166 (by decide +kernel) rfl
theorem k_167 : (Cond.code y_S_count prog_1_method_20_code 2 (some FieldType.int)) ∈ gws := tw 167 (by decide +kernel) rfl
theorem k_170 : (Cond.instanceMethod y_B_freeOrders) ∈ gws := tw 170 (by decide +kernel) rfl
theorem k_171 : (Cond.code y_B_freeOrders prog_2_method_5_code 3 (some FieldType.int)) ∈ gws := tw 171 (by decide +kernel) rfl
theorem k_172 : (Cond.methodLink "BatchSavings$Batches" 38 y_B_isFree) ∈ gws := tw 172 (by decide +kernel) rfl
theorem k_174 : (Cond.instanceMethod y_B_isFree) ∈ gws := tw 174 (by decide +kernel) rfl
theorem k_175 : (Cond.code y_B_isFree prog_2_method_4_code 2 (some FieldType.boolean)) ∈ gws := tw 175 (by decide +kernel) rfl
theorem k_178 : (Cond.instanceMethod y_M_pairs) ∈ gws := tw 178 (by decide +kernel) rfl
theorem k_179 : (Cond.code y_M_pairs prog_3_method_6_code 3 (some FieldType.int)) ∈ gws := tw 179 (by decide +kernel) rfl
theorem k_182 : (Cond.instanceMethod y_M_saved) ∈ gws := tw 182 (by decide +kernel) rfl
theorem k_183 : (Cond.code y_M_saved prog_3_method_7_code 3 (some FieldType.int)) ∈ gws := tw 183 (by decide +kernel) rfl
theorem k_186 : (Cond.instanceMethod y_O_savingOf) ∈ gws := tw 186 (by decide +kernel) rfl
theorem k_187 : (Cond.code y_O_savingOf prog_4_method_5_code 4 (some FieldType.int)) ∈ gws := tw 187 (by decide +kernel) rfl
theorem k_189 : (Cond.static y_S_pairIndex) ∈ gws := tw 189 (by decide +kernel) rfl
theorem k_190 : (Cond.code y_S_pairIndex prog_1_method_29_code 2 (some FieldType.int)) ∈ gws := tw 190 (by decide +kernel) rfl
theorem k_191 : (Cond.methodLink "BatchSavingsLaw" 81 y_L_order) ∈ gws := tw 191 (by decide +kernel) rfl
theorem k_192 : (Cond.static y_L_order) ∈ gws := tw 192 (by decide +kernel) rfl
theorem k_193 : (Cond.codeWith y_L_order method_3_code 6 (some FieldType.int) [(0, 12, 15, 13), (0, 12, 19, 15)]) ∈ gws := tw 193 (by decide +kernel) rfl
theorem k_194 : (Cond.classLink "BatchSavingsLaw" 13 "java/lang/IllegalArgumentException") ∈ gws := tw 194 (by decide +kernel) rfl
theorem k_195 : (Cond.classLink "BatchSavingsLaw" 15 "java/lang/UnsupportedOperationException") ∈ gws := tw 195 (by decide +kernel) rfl
theorem k_196 : (Cond.methodLink "BatchSavingsLaw" 7 y_S_order) ∈ gws := tw 196 (by decide +kernel) rfl
theorem k_197 : (Cond.instanceMethod y_S_order) ∈ gws := tw 197 (by decide +kernel) rfl
theorem k_198 : (Cond.selects "BatchSavings" y_S_order y_S_order) ∈ gws := tw 198 (by decide +kernel) rfl
theorem k_199 : (Cond.code y_S_order prog_1_method_2_code 4 (some FieldType.int)) ∈ gws := tw 199 (by decide +kernel) rfl
theorem k_200 : (Cond.methodLink "BatchSavings" 39 y_S_needRange) ∈ gws := tw 200 (by decide +kernel) rfl
theorem k_201 : (Cond.static y_S_needRange) ∈ gws := tw 201 (by decide +kernel) rfl
theorem k_202 : (Cond.code y_S_needRange prog_1_method_25_code 3 none) ∈ gws := tw 202 (by decide +kernel) rfl
theorem k_203 : (Cond.classLink "BatchSavings" 181 "java/lang/IllegalArgumentException") ∈ gws := tw 203 (by decide +kernel) rfl
theorem k_204 : (Cond.instantiable "java/lang/IllegalArgumentException" 6) ∈ gws := tw 204 (by decide +kernel) rfl
theorem k_224 : (Cond.fieldLink "java/lang/Throwable" 198 "java/lang/Throwable" "backtrace" "Ljava/lang/Object;") ∈ gws := tw 224 (by decide +kernel) rfl
theorem k_228 : (Cond.methodLink "java/lang/Throwable" 1 y_Ob_init) ∈ gws := tw 228 (by decide +kernel) rfl
theorem k_229 : (Cond.fieldLink "java/lang/Throwable" 13 "java/lang/Throwable" "UNASSIGNED_STACK" "[Ljava/lang/StackTraceElement;") ∈ gws := tw 229 (by decide +kernel) rfl
theorem k_231 : (Cond.fieldLink "java/lang/Throwable" 20 "java/lang/Throwable" "SUPPRESSED_SENTINEL" "Ljava/util/List;") ∈ gws := tw 231 (by decide +kernel) rfl
theorem k_244 : (Cond.instantiable "java/lang/Throwable" 6) ∈ gws := tw 244 (by decide +kernel) rfl
theorem k_259 : (Cond.fieldLink "java/lang/Throwable" 198 "java/lang/Throwable" "backtrace" "Ljava/lang/Object;") ∈ gws := tw 259 (by decide +kernel) rfl
theorem k_260 : (Cond.fieldLink "java/lang/Throwable" 31 "java/lang/Throwable" "detailMessage" "Ljava/lang/String;") ∈ gws := tw 260 (by decide +kernel) rfl
theorem k_261 : (Cond.fieldLink "java/lang/Throwable" 7 "java/lang/Throwable" "cause" "Ljava/lang/Throwable;") ∈ gws := tw 261 (by decide +kernel) rfl
theorem k_262 : (Cond.fieldLink "java/lang/Throwable" 17 "java/lang/Throwable" "stackTrace" "[Ljava/lang/StackTraceElement;") ∈ gws := tw 262 (by decide +kernel) rfl
theorem k_263 : (Cond.fieldLink "java/lang/Throwable" 24 "java/lang/Throwable" "suppressedExceptions" "Ljava/util/List;") ∈ gws := tw 263 (by decide +kernel) rfl
theorem k_272 : (Cond.arrayClass FieldType.byte) ∈ gws := tw 272 (by decide +kernel) rfl
theorem k_273 : (Cond.classLink "BatchSavings" 47 "java/lang/UnsupportedOperationException") ∈ gws := tw 273 (by decide +kernel) rfl
theorem k_274 : (Cond.instantiable "java/lang/UnsupportedOperationException" 6) ∈ gws := tw 274 (by decide +kernel) rfl
theorem k_291 : (Cond.instanceMethod y_O_add) ∈ gws := tw 291 (by decide +kernel) rfl
theorem k_292 : (Cond.code y_O_add prog_4_method_3_code 5 (some FieldType.int)) ∈ gws := tw 292 (by decide +kernel) rfl
theorem k_293 : (Cond.methodLink "BatchSavingsLaw" 90 y_L_joined) ∈ gws := tw 293 (by decide +kernel) rfl
theorem k_294 : (Cond.static y_L_joined) ∈ gws := tw 294 (by decide +kernel) rfl
theorem k_295 : (Cond.codeWith y_L_joined method_4_code 6 (some FieldType.int) [(0, 12, 15, 20), (0, 12, 19, 13)]) ∈ gws := tw 295 (by decide +kernel) rfl
theorem k_296 : (Cond.classLink "BatchSavingsLaw" 20 "java/util/NoSuchElementException") ∈ gws := tw 296 (by decide +kernel) rfl
theorem k_297 : (Cond.methodLink "BatchSavingsLaw" 17 y_S_joined) ∈ gws := tw 297 (by decide +kernel) rfl
theorem k_298 : (Cond.instanceMethod y_S_joined) ∈ gws := tw 298 (by decide +kernel) rfl
theorem k_299 : (Cond.selects "BatchSavings" y_S_joined y_S_joined) ∈ gws := tw 299 (by decide +kernel) rfl
theorem k_300 : (Cond.code y_S_joined prog_1_method_3_code 4 (some FieldType.int)) ∈ gws := tw 300 (by decide +kernel) rfl
theorem k_301 : (Cond.methodLink "BatchSavings" 58 y_S_needTwoOrders) ∈ gws := tw 301 (by decide +kernel) rfl
theorem k_303 : (Cond.instanceMethod y_S_needTwoOrders) ∈ gws := tw 303 (by decide +kernel) rfl
theorem k_304 : (Cond.code y_S_needTwoOrders prog_1_method_22_code 3 none) ∈ gws := tw 304 (by decide +kernel) rfl
theorem k_305 : (Cond.methodLink "BatchSavings" 77 y_S_needOrder) ∈ gws := tw 305 (by decide +kernel) rfl
theorem k_307 : (Cond.instanceMethod y_S_needOrder) ∈ gws := tw 307 (by decide +kernel) rfl
theorem k_308 : (Cond.code y_S_needOrder prog_1_method_21_code 2 none) ∈ gws := tw 308 (by decide +kernel) rfl
theorem k_311 : (Cond.instanceMethod y_O_has) ∈ gws := tw 311 (by decide +kernel) rfl
theorem k_312 : (Cond.code y_O_has prog_4_method_2_code 2 (some FieldType.boolean)) ∈ gws := tw 312 (by decide +kernel) rfl
theorem k_313 : (Cond.classLink "BatchSavings" 206 "java/util/NoSuchElementException") ∈ gws := tw 313 (by decide +kernel) rfl
theorem k_314 : (Cond.instantiable "java/util/NoSuchElementException" 6) ∈ gws := tw 314 (by decide +kernel) rfl
theorem k_329 : (Cond.methodLink "BatchSavings" 91 y_S_needDifferent) ∈ gws := tw 329 (by decide +kernel) rfl
theorem k_330 : (Cond.static y_S_needDifferent) ∈ gws := tw 330 (by decide +kernel) rfl
theorem k_331 : (Cond.code y_S_needDifferent prog_1_method_26_code 2 none) ∈ gws := tw 331 (by decide +kernel) rfl
theorem k_335 : (Cond.instanceMethod y_O_putTogether) ∈ gws := tw 335 (by decide +kernel) rfl
theorem k_336 : (Cond.code y_O_putTogether prog_4_method_4_code 4 none) ∈ gws := tw 336 (by decide +kernel) rfl
theorem k_338 : (Cond.methodLink "BatchSavingsLaw" 93 y_L_saving) ∈ gws := tw 338 (by decide +kernel) rfl
theorem k_339 : (Cond.static y_L_saving) ∈ gws := tw 339 (by decide +kernel) rfl
theorem k_340 : (Cond.codeWith y_L_saving method_5_code 5 (some FieldType.int) [(0, 10, 13, 20), (0, 10, 17, 13)]) ∈ gws := tw 340 (by decide +kernel) rfl
theorem k_341 : (Cond.methodLink "BatchSavingsLaw" 22 y_S_saving) ∈ gws := tw 341 (by decide +kernel) rfl
theorem k_342 : (Cond.instanceMethod y_S_saving) ∈ gws := tw 342 (by decide +kernel) rfl
theorem k_343 : (Cond.selects "BatchSavings" y_S_saving y_S_saving) ∈ gws := tw 343 (by decide +kernel) rfl
theorem k_344 : (Cond.code y_S_saving prog_1_method_4_code 3 (some FieldType.int)) ∈ gws := tw 344 (by decide +kernel) rfl
theorem k_345 : (Cond.methodLink "BatchSavingsLaw" 97 y_L_rule) ∈ gws := tw 345 (by decide +kernel) rfl
theorem k_346 : (Cond.static y_L_rule) ∈ gws := tw 346 (by decide +kernel) rfl
theorem k_347 : (Cond.codeWith y_L_rule method_6_code 6 (some FieldType.int) [(0, 19, 22, 20), (0, 19, 26, 13)]) ∈ gws := tw 347 (by decide +kernel) rfl
theorem k_348 : (Cond.methodLink "BatchSavingsLaw" 26 y_S_rule) ∈ gws := tw 348 (by decide +kernel) rfl
theorem k_349 : (Cond.instanceMethod y_S_rule) ∈ gws := tw 349 (by decide +kernel) rfl
theorem k_350 : (Cond.selects "BatchSavings" y_S_rule y_S_rule) ∈ gws := tw 350 (by decide +kernel) rfl
theorem k_351 : (Cond.code y_S_rule prog_1_method_5_code 4 (some FieldType.boolean)) ∈ gws := tw 351 (by decide +kernel) rfl
theorem k_354 : (Cond.instanceMethod y_R_bar) ∈ gws := tw 354 (by decide +kernel) rfl
theorem k_355 : (Cond.code y_R_bar prog_5_method_2_code 4 none) ∈ gws := tw 355 (by decide +kernel) rfl
theorem k_359 : (Cond.instanceMethod y_R_allowPair) ∈ gws := tw 359 (by decide +kernel) rfl
theorem k_360 : (Cond.code y_R_allowPair prog_5_method_7_code 3 (some FieldType.boolean)) ∈ gws := tw 360 (by decide +kernel) rfl
theorem k_361 : (Cond.methodLink "BatchSavings$Rules" 51 y_R_startSet) ∈ gws := tw 361 (by decide +kernel) rfl
theorem k_363 : (Cond.instanceMethod y_R_startSet) ∈ gws := tw 363 (by decide +kernel) rfl
theorem k_364 : (Cond.code y_R_startSet prog_5_method_5_code 1 none) ∈ gws := tw 364 (by decide +kernel) rfl
theorem k_365 : (Cond.methodLink "BatchSavings$Rules" 54 y_R_addToSet) ∈ gws := tw 365 (by decide +kernel) rfl
theorem k_367 : (Cond.instanceMethod y_R_addToSet) ∈ gws := tw 367 (by decide +kernel) rfl
theorem k_368 : (Cond.code y_R_addToSet prog_5_method_6_code 2 none) ∈ gws := tw 368 (by decide +kernel) rfl
theorem k_369 : (Cond.methodLink "BatchSavings$Rules" 58 y_R_allowSet) ∈ gws := tw 369 (by decide +kernel) rfl
theorem k_371 : (Cond.instanceMethod y_R_allowSet) ∈ gws := tw 371 (by decide +kernel) rfl
theorem k_372 : (Cond.code y_R_allowSet prog_5_method_8_code 5 (some FieldType.boolean)) ∈ gws := tw 372 (by decide +kernel) rfl
theorem k_373 : (Cond.methodLink "BatchSavings$Rules" 62 y_R_getAlong) ∈ gws := tw 373 (by decide +kernel) rfl
theorem k_375 : (Cond.instanceMethod y_R_getAlong) ∈ gws := tw 375 (by decide +kernel) rfl
theorem k_376 : (Cond.code y_R_getAlong prog_5_method_9_code 3 (some FieldType.boolean)) ∈ gws := tw 376 (by decide +kernel) rfl
theorem k_377 : (Cond.methodLink "BatchSavingsLaw" 101 y_L_weight) ∈ gws := tw 377 (by decide +kernel) rfl
theorem k_378 : (Cond.static y_L_weight) ∈ gws := tw 378 (by decide +kernel) rfl
theorem k_379 : (Cond.codeWith y_L_weight method_7_code 5 (some FieldType.int) [(0, 17, 20, 20), (0, 17, 24, 13), (0, 17, 28, 34)]) ∈ gws := tw 379 (by decide +kernel) rfl
theorem k_380 : (Cond.classLink "BatchSavingsLaw" 34 "java/lang/IllegalStateException") ∈ gws := tw 380 (by decide +kernel) rfl
theorem k_381 : (Cond.methodLink "BatchSavingsLaw" 30 y_S_weight) ∈ gws := tw 381 (by decide +kernel) rfl
theorem k_382 : (Cond.instanceMethod y_S_weight) ∈ gws := tw 382 (by decide +kernel) rfl
theorem k_383 : (Cond.selects "BatchSavings" y_S_weight y_S_weight) ∈ gws := tw 383 (by decide +kernel) rfl
theorem k_384 : (Cond.code y_S_weight prog_1_method_6_code 3 (some FieldType.boolean)) ∈ gws := tw 384 (by decide +kernel) rfl
theorem k_385 : (Cond.methodLink "BatchSavings" 81 y_S_needFree) ∈ gws := tw 385 (by decide +kernel) rfl
theorem k_387 : (Cond.instanceMethod y_S_needFree) ∈ gws := tw 387 (by decide +kernel) rfl
theorem k_388 : (Cond.code y_S_needFree prog_1_method_24_code 2 none) ∈ gws := tw 388 (by decide +kernel) rfl
theorem k_390 : (Cond.classLink "BatchSavings" 142 "java/lang/IllegalStateException") ∈ gws := tw 390 (by decide +kernel) rfl
theorem k_391 : (Cond.instantiable "java/lang/IllegalStateException" 6) ∈ gws := tw 391 (by decide +kernel) rfl
theorem k_406 : (Cond.methodLink "BatchSavingsLaw" 104 y_L_near) ∈ gws := tw 406 (by decide +kernel) rfl
theorem k_407 : (Cond.static y_L_near) ∈ gws := tw 407 (by decide +kernel) rfl
theorem k_408 : (Cond.codeWith y_L_near method_8_code 5 (some FieldType.int) [(0, 7, 10, 13)]) ∈ gws := tw 408 (by decide +kernel) rfl
theorem k_409 : (Cond.methodLink "BatchSavingsLaw" 36 y_S_near) ∈ gws := tw 409 (by decide +kernel) rfl
theorem k_410 : (Cond.instanceMethod y_S_near) ∈ gws := tw 410 (by decide +kernel) rfl
theorem k_411 : (Cond.selects "BatchSavings" y_S_near y_S_near) ∈ gws := tw 411 (by decide +kernel) rfl
theorem k_412 : (Cond.code y_S_near prog_1_method_7_code 4 none) ∈ gws := tw 412 (by decide +kernel) rfl
theorem k_415 : (Cond.instanceMethod y_R_bringNear) ∈ gws := tw 415 (by decide +kernel) rfl
theorem k_416 : (Cond.code y_R_bringNear prog_5_method_3_code 4 none) ∈ gws := tw 416 (by decide +kernel) rfl
theorem k_417 : (Cond.methodLink "BatchSavingsLaw" 108 y_L_limit) ∈ gws := tw 417 (by decide +kernel) rfl
theorem k_418 : (Cond.static y_L_limit) ∈ gws := tw 418 (by decide +kernel) rfl
theorem k_419 : (Cond.codeWith y_L_limit method_9_code 5 (some FieldType.int) [(0, 10, 13, 13)]) ∈ gws := tw 419 (by decide +kernel) rfl
theorem k_420 : (Cond.methodLink "BatchSavingsLaw" 40 y_S_limit) ∈ gws := tw 420 (by decide +kernel) rfl
theorem k_421 : (Cond.instanceMethod y_S_limit) ∈ gws := tw 421 (by decide +kernel) rfl
theorem k_422 : (Cond.selects "BatchSavings" y_S_limit y_S_limit) ∈ gws := tw 422 (by decide +kernel) rfl
theorem k_423 : (Cond.code y_S_limit prog_1_method_8_code 3 (some FieldType.int)) ∈ gws := tw 423 (by decide +kernel) rfl
theorem k_426 : (Cond.instanceMethod y_R_aboveAlone) ∈ gws := tw 426 (by decide +kernel) rfl
theorem k_427 : (Cond.code y_R_aboveAlone prog_5_method_4_code 3 (some FieldType.int)) ∈ gws := tw 427 (by decide +kernel) rfl
theorem k_428 : (Cond.methodLink "BatchSavingsLaw" 111 y_L_match) ∈ gws := tw 428 (by decide +kernel) rfl
theorem k_429 : (Cond.static y_L_match) ∈ gws := tw 429 (by decide +kernel) rfl
theorem k_430 : (Cond.codeWith y_L_match method_10_code 4 (some FieldType.int) [(0, 9, 12, 13)]) ∈ gws := tw 430 (by decide +kernel) rfl
theorem k_431 : (Cond.methodLink "BatchSavingsLaw" 43 y_S_match) ∈ gws := tw 431 (by decide +kernel) rfl
theorem k_432 : (Cond.instanceMethod y_S_match) ∈ gws := tw 432 (by decide +kernel) rfl
theorem k_433 : (Cond.selects "BatchSavings" y_S_match y_S_match) ∈ gws := tw 433 (by decide +kernel) rfl
theorem k_434 : (Cond.code y_S_match prog_1_method_9_code 2 (some FieldType.int)) ∈ gws := tw 434 (by decide +kernel) rfl
theorem k_435 : (Cond.methodLink "BatchSavings" 104 y_S_takeGains) ∈ gws := tw 435 (by decide +kernel) rfl
theorem k_437 : (Cond.instanceMethod y_S_takeGains) ∈ gws := tw 437 (by decide +kernel) rfl
theorem k_438 : (Cond.code y_S_takeGains prog_1_method_27_code 4 none) ∈ gws := tw 438 (by decide +kernel) rfl
theorem k_439 : (Cond.methodLink "BatchSavings" 223 y_Ma_max) ∈ gws := tw 439 (by decide +kernel) rfl
theorem k_440 : (Cond.static y_Ma_max) ∈ gws := tw 440 (by decide +kernel) rfl
theorem k_441 : (Cond.code y_Ma_max prog_13_method_65_code 2 (some FieldType.int)) ∈ gws := tw 441 (by decide +kernel) rfl
theorem k_444 : (Cond.instanceMethod y_M_putGain) ∈ gws := tw 444 (by decide +kernel) rfl
theorem k_445 : (Cond.code y_M_putGain prog_3_method_2_code 4 none) ∈ gws := tw 445 (by decide +kernel) rfl
theorem k_449 : (Cond.instanceMethod y_M_pairAnew) ∈ gws := tw 449 (by decide +kernel) rfl
theorem k_450 : (Cond.code y_M_pairAnew prog_3_method_3_code 2 none) ∈ gws := tw 450 (by decide +kernel) rfl
theorem k_451 : (Cond.methodLink "BatchSavings$Matching" 39 y_M_findSums) ∈ gws := tw 451 (by decide +kernel) rfl
theorem k_453 : (Cond.instanceMethod y_M_findSums) ∈ gws := tw 453 (by decide +kernel) rfl
theorem k_454 : (Cond.code y_M_findSums prog_3_method_8_code 5 none) ∈ gws := tw 454 (by decide +kernel) rfl
theorem k_455 : (Cond.methodLink "BatchSavings$Matching" 57 y_I_bitCount) ∈ gws := tw 455 (by decide +kernel) rfl
theorem k_456 : (Cond.static y_I_bitCount) ∈ gws := tw 456 (by decide +kernel) rfl
theorem k_457 : (Cond.code y_I_bitCount prog_12_method_49_code 1 (some FieldType.int)) ∈ gws := tw 457 (by decide +kernel) rfl
theorem k_458 : (Cond.constant "java/lang/Integer" 265 (1431655765 : Int32)) ∈ gws := tw 458 (by decide +kernel) rfl
theorem k_459 : (Cond.constant "java/lang/Integer" 266 (858993459 : Int32)) ∈ gws := tw 459 (by decide +kernel) rfl
theorem k_460 : (Cond.constant "java/lang/Integer" 267 (252645135 : Int32)) ∈ gws := tw 460 (by decide +kernel) rfl
theorem k_461 : (Cond.methodLink "BatchSavings$Matching" 63 y_M_greatestSum) ∈ gws := tw 461 (by decide +kernel) rfl
theorem k_463 : (Cond.instanceMethod y_M_greatestSum) ∈ gws := tw 463 (by decide +kernel) rfl
theorem k_464 : (Cond.code y_M_greatestSum prog_3_method_9_code 5 (some FieldType.int)) ∈ gws := tw 464 (by decide +kernel) rfl
theorem k_465 : (Cond.methodLink "BatchSavings$Matching" 66 y_M_mayTake) ∈ gws := tw 465 (by decide +kernel) rfl
theorem k_467 : (Cond.instanceMethod y_M_mayTake) ∈ gws := tw 467 (by decide +kernel) rfl
theorem k_468 : (Cond.code y_M_mayTake prog_3_method_10_code 4 (some FieldType.boolean)) ∈ gws := tw 468 (by decide +kernel) rfl
theorem k_469 : (Cond.methodLink "BatchSavings$Matching" 70 y_M_sumWith) ∈ gws := tw 469 (by decide +kernel) rfl
theorem k_471 : (Cond.instanceMethod y_M_sumWith) ∈ gws := tw 471 (by decide +kernel) rfl
theorem k_472 : (Cond.code y_M_sumWith prog_3_method_11_code 4 (some FieldType.int)) ∈ gws := tw 472 (by decide +kernel) rfl
theorem k_473 : (Cond.methodLink "BatchSavings$Matching" 74 y_Ma_max) ∈ gws := tw 473 (by decide +kernel) rfl
theorem k_474 : (Cond.methodLink "BatchSavings$Matching" 42 y_M_pairBySums) ∈ gws := tw 474 (by decide +kernel) rfl
theorem k_476 : (Cond.instanceMethod y_M_pairBySums) ∈ gws := tw 476 (by decide +kernel) rfl
theorem k_477 : (Cond.code y_M_pairBySums prog_3_method_12_code 5 none) ∈ gws := tw 477 (by decide +kernel) rfl
theorem k_478 : (Cond.methodLink "BatchSavings$Matching" 79 y_M_firstPartner) ∈ gws := tw 478 (by decide +kernel) rfl
theorem k_480 : (Cond.instanceMethod y_M_firstPartner) ∈ gws := tw 480 (by decide +kernel) rfl
theorem k_481 : (Cond.code y_M_firstPartner prog_3_method_13_code 5 (some FieldType.int)) ∈ gws := tw 481 (by decide +kernel) rfl
theorem k_482 : (Cond.methodLink "BatchSavings$Matching" 82 y_M_bind) ∈ gws := tw 482 (by decide +kernel) rfl
theorem k_484 : (Cond.instanceMethod y_M_bind) ∈ gws := tw 484 (by decide +kernel) rfl
theorem k_485 : (Cond.code y_M_bind prog_3_method_4_code 3 none) ∈ gws := tw 485 (by decide +kernel) rfl
theorem k_486 : (Cond.methodLink "BatchSavings$Matching" 45 y_M_pairByRule) ∈ gws := tw 486 (by decide +kernel) rfl
theorem k_488 : (Cond.instanceMethod y_M_pairByRule) ∈ gws := tw 488 (by decide +kernel) rfl
theorem k_489 : (Cond.code y_M_pairByRule prog_3_method_14_code 8 none) ∈ gws := tw 489 (by decide +kernel) rfl
theorem k_490 : (Cond.methodLink "BatchSavingsLaw" 120 y_L_with) ∈ gws := tw 490 (by decide +kernel) rfl
theorem k_491 : (Cond.static y_L_with) ∈ gws := tw 491 (by decide +kernel) rfl
theorem k_492 : (Cond.codeWith y_L_with method_11_code 4 (some FieldType.int) [(0, 9, 12, 20)]) ∈ gws := tw 492 (by decide +kernel) rfl
theorem k_493 : (Cond.methodLink "BatchSavingsLaw" 47 y_S_with) ∈ gws := tw 493 (by decide +kernel) rfl
theorem k_494 : (Cond.instanceMethod y_S_with) ∈ gws := tw 494 (by decide +kernel) rfl
theorem k_495 : (Cond.selects "BatchSavings" y_S_with y_S_with) ∈ gws := tw 495 (by decide +kernel) rfl
theorem k_496 : (Cond.code y_S_with prog_1_method_11_code 2 (some FieldType.int)) ∈ gws := tw 496 (by decide +kernel) rfl
theorem k_497 : (Cond.methodLink "BatchSavingsLaw" 123 y_L_open) ∈ gws := tw 497 (by decide +kernel) rfl
theorem k_498 : (Cond.static y_L_open) ∈ gws := tw 498 (by decide +kernel) rfl
theorem k_499 : (Cond.codeWith y_L_open method_12_code 4 (some FieldType.int) [(0, 9, 12, 20), (0, 9, 15, 34), (0, 9, 18, 15)]) ∈ gws := tw 499 (by decide +kernel) rfl
theorem k_500 : (Cond.methodLink "BatchSavingsLaw" 50 y_S_open) ∈ gws := tw 500 (by decide +kernel) rfl
theorem k_501 : (Cond.instanceMethod y_S_open) ∈ gws := tw 501 (by decide +kernel) rfl
theorem k_502 : (Cond.selects "BatchSavings" y_S_open y_S_open) ∈ gws := tw 502 (by decide +kernel) rfl
theorem k_503 : (Cond.code y_S_open prog_1_method_12_code 4 (some FieldType.int)) ∈ gws := tw 503 (by decide +kernel) rfl
theorem k_507 : (Cond.instanceMethod y_M_part) ∈ gws := tw 507 (by decide +kernel) rfl
theorem k_508 : (Cond.code y_M_part prog_3_method_5_code 3 none) ∈ gws := tw 508 (by decide +kernel) rfl
theorem k_511 : (Cond.instanceMethod y_B_addEmpty) ∈ gws := tw 511 (by decide +kernel) rfl
theorem k_512 : (Cond.code y_B_addEmpty prog_2_method_7_code 2 (some FieldType.int)) ∈ gws := tw 512 (by decide +kernel) rfl
theorem k_515 : (Cond.instanceMethod y_B_put) ∈ gws := tw 515 (by decide +kernel) rfl
theorem k_516 : (Cond.code y_B_put prog_2_method_8_code 3 none) ∈ gws := tw 516 (by decide +kernel) rfl
theorem k_517 : (Cond.methodLink "BatchSavingsLaw" 126 y_L_join) ∈ gws := tw 517 (by decide +kernel) rfl
theorem k_518 : (Cond.static y_L_join) ∈ gws := tw 518 (by decide +kernel) rfl
theorem k_519 : (Cond.codeWith y_L_join method_13_code 5 (some FieldType.int) [(0, 10, 13, 20), (0, 10, 17, 34), (0, 10, 21, 15)]) ∈ gws := tw 519 (by decide +kernel) rfl
theorem k_520 : (Cond.methodLink "BatchSavingsLaw" 53 y_S_join) ∈ gws := tw 520 (by decide +kernel) rfl
theorem k_521 : (Cond.instanceMethod y_S_join) ∈ gws := tw 521 (by decide +kernel) rfl
theorem k_522 : (Cond.selects "BatchSavings" y_S_join y_S_join) ∈ gws := tw 522 (by decide +kernel) rfl
theorem k_523 : (Cond.code y_S_join prog_1_method_13_code 3 (some FieldType.int)) ∈ gws := tw 523 (by decide +kernel) rfl
theorem k_524 : (Cond.methodLink "BatchSavings" 136 y_S_needBatch) ∈ gws := tw 524 (by decide +kernel) rfl
theorem k_526 : (Cond.instanceMethod y_S_needBatch) ∈ gws := tw 526 (by decide +kernel) rfl
theorem k_527 : (Cond.code y_S_needBatch prog_1_method_23_code 2 none) ∈ gws := tw 527 (by decide +kernel) rfl
theorem k_530 : (Cond.instanceMethod y_B_has) ∈ gws := tw 530 (by decide +kernel) rfl
theorem k_531 : (Cond.code y_B_has prog_2_method_2_code 2 (some FieldType.boolean)) ∈ gws := tw 531 (by decide +kernel) rfl
theorem k_533 : (Cond.methodLink "BatchSavings" 139 y_S_suits) ∈ gws := tw 533 (by decide +kernel) rfl
theorem k_535 : (Cond.instanceMethod y_S_suits) ∈ gws := tw 535 (by decide +kernel) rfl
theorem k_536 : (Cond.code y_S_suits prog_1_method_28_code 4 (some FieldType.boolean)) ∈ gws := tw 536 (by decide +kernel) rfl
theorem k_540 : (Cond.instanceMethod y_B_orderAt) ∈ gws := tw 540 (by decide +kernel) rfl
theorem k_541 : (Cond.code y_B_orderAt prog_2_method_6_code 3 (some FieldType.int)) ∈ gws := tw 541 (by decide +kernel) rfl
theorem k_546 : (Cond.instanceMethod y_B_savingWithLast) ∈ gws := tw 546 (by decide +kernel) rfl
theorem k_547 : (Cond.code y_B_savingWithLast prog_2_method_10_code 4 (some FieldType.int)) ∈ gws := tw 547 (by decide +kernel) rfl
theorem k_548 : (Cond.methodLink "BatchSavings$Batches" 42 y_B_orderAt) ∈ gws := tw 548 (by decide +kernel) rfl
theorem k_553 : (Cond.instanceMethod y_B_isFull) ∈ gws := tw 553 (by decide +kernel) rfl
theorem k_554 : (Cond.code y_B_isFull prog_2_method_3_code 2 (some FieldType.boolean)) ∈ gws := tw 554 (by decide +kernel) rfl
theorem k_558 : (Cond.instanceMethod y_B_wayOf) ∈ gws := tw 558 (by decide +kernel) rfl
theorem k_559 : (Cond.code y_B_wayOf prog_2_method_13_code 2 (some FieldType.int)) ∈ gws := tw 559 (by decide +kernel) rfl
theorem k_560 : (Cond.methodLink "BatchSavings$Batches" 52 y_B_sumOf) ∈ gws := tw 560 (by decide +kernel) rfl
theorem k_562 : (Cond.instanceMethod y_B_sumOf) ∈ gws := tw 562 (by decide +kernel) rfl
theorem k_563 : (Cond.code y_B_sumOf prog_2_method_11_code 5 (some FieldType.int)) ∈ gws := tw 563 (by decide +kernel) rfl
theorem k_564 : (Cond.methodLink "BatchSavings$Batches" 56 y_B_savedBy) ∈ gws := tw 564 (by decide +kernel) rfl
theorem k_566 : (Cond.instanceMethod y_B_savedBy) ∈ gws := tw 566 (by decide +kernel) rfl
theorem k_567 : (Cond.code y_B_savedBy prog_2_method_12_code 4 (some FieldType.int)) ∈ gws := tw 567 (by decide +kernel) rfl
theorem k_568 : (Cond.methodLink "BatchSavingsLaw" 129 y_L_leave) ∈ gws := tw 568 (by decide +kernel) rfl
theorem k_569 : (Cond.static y_L_leave) ∈ gws := tw 569 (by decide +kernel) rfl
theorem k_570 : (Cond.codeWith y_L_leave method_14_code 4 (some FieldType.int) [(0, 9, 12, 20), (0, 9, 15, 34)]) ∈ gws := tw 570 (by decide +kernel) rfl
theorem k_571 : (Cond.methodLink "BatchSavingsLaw" 56 y_S_leave) ∈ gws := tw 571 (by decide +kernel) rfl
theorem k_572 : (Cond.instanceMethod y_S_leave) ∈ gws := tw 572 (by decide +kernel) rfl
theorem k_573 : (Cond.selects "BatchSavings" y_S_leave y_S_leave) ∈ gws := tw 573 (by decide +kernel) rfl
theorem k_574 : (Cond.code y_S_leave prog_1_method_14_code 3 (some FieldType.int)) ∈ gws := tw 574 (by decide +kernel) rfl
theorem k_578 : (Cond.instanceMethod y_B_take) ∈ gws := tw 578 (by decide +kernel) rfl
theorem k_579 : (Cond.code y_B_take prog_2_method_9_code 6 none) ∈ gws := tw 579 (by decide +kernel) rfl
theorem k_580 : (Cond.methodLink "BatchSavingsLaw" 132 y_L_batch) ∈ gws := tw 580 (by decide +kernel) rfl
theorem k_581 : (Cond.static y_L_batch) ∈ gws := tw 581 (by decide +kernel) rfl
theorem k_582 : (Cond.codeWith y_L_batch method_15_code 4 (some FieldType.int) [(0, 9, 12, 20)]) ∈ gws := tw 582 (by decide +kernel) rfl
theorem k_583 : (Cond.methodLink "BatchSavingsLaw" 59 y_S_batch) ∈ gws := tw 583 (by decide +kernel) rfl
theorem k_584 : (Cond.instanceMethod y_S_batch) ∈ gws := tw 584 (by decide +kernel) rfl
theorem k_585 : (Cond.selects "BatchSavings" y_S_batch y_S_batch) ∈ gws := tw 585 (by decide +kernel) rfl
theorem k_586 : (Cond.code y_S_batch prog_1_method_15_code 2 (some FieldType.int)) ∈ gws := tw 586 (by decide +kernel) rfl
theorem k_587 : (Cond.methodLink "BatchSavingsLaw" 135 y_L_told) ∈ gws := tw 587 (by decide +kernel) rfl
theorem k_588 : (Cond.static y_L_told) ∈ gws := tw 588 (by decide +kernel) rfl
theorem k_589 : (Cond.codeWith y_L_told method_16_code 6 (some FieldType.int) [(0, 12, 15, 20), (0, 12, 19, 13)]) ∈ gws := tw 589 (by decide +kernel) rfl
theorem k_590 : (Cond.methodLink "BatchSavingsLaw" 62 y_S_told) ∈ gws := tw 590 (by decide +kernel) rfl
theorem k_591 : (Cond.instanceMethod y_S_told) ∈ gws := tw 591 (by decide +kernel) rfl
theorem k_592 : (Cond.selects "BatchSavings" y_S_told y_S_told) ∈ gws := tw 592 (by decide +kernel) rfl
theorem k_593 : (Cond.code y_S_told prog_1_method_16_code 4 (some FieldType.int)) ∈ gws := tw 593 (by decide +kernel) rfl
theorem k_597 : (Cond.methodLink "BatchSavingsLaw" 138 y_L_best) ∈ gws := tw 597 (by decide +kernel) rfl
theorem k_598 : (Cond.static y_L_best) ∈ gws := tw 598 (by decide +kernel) rfl
theorem k_599 : (Cond.codeWith y_L_best method_17_code 4 (some FieldType.int) [(0, 9, 12, 20), (0, 9, 15, 34)]) ∈ gws := tw 599 (by decide +kernel) rfl
theorem k_600 : (Cond.methodLink "BatchSavingsLaw" 65 y_S_best) ∈ gws := tw 600 (by decide +kernel) rfl
theorem k_601 : (Cond.instanceMethod y_S_best) ∈ gws := tw 601 (by decide +kernel) rfl
theorem k_602 : (Cond.selects "BatchSavings" y_S_best y_S_best) ∈ gws := tw 602 (by decide +kernel) rfl
theorem k_603 : (Cond.code y_S_best prog_1_method_17_code 6 (some FieldType.int)) ∈ gws := tw 603 (by decide +kernel) rfl
theorem k_604 : (Cond.methodLink "BatchSavingsLaw" 141 y_L_share) ∈ gws := tw 604 (by decide +kernel) rfl
theorem k_605 : (Cond.static y_L_share) ∈ gws := tw 605 (by decide +kernel) rfl
theorem k_606 : (Cond.codeWith y_L_share method_18_code 5 (some FieldType.int) [(0, 10, 13, 13), (0, 10, 17, 71)]) ∈ gws := tw 606 (by decide +kernel) rfl
theorem k_607 : (Cond.classLink "BatchSavingsLaw" 71 "java/lang/ArithmeticException") ∈ gws := tw 607 (by decide +kernel) rfl
theorem k_608 : (Cond.methodLink "BatchSavingsLaw" 68 y_S_share) ∈ gws := tw 608 (by decide +kernel) rfl
theorem k_609 : (Cond.instanceMethod y_S_share) ∈ gws := tw 609 (by decide +kernel) rfl
theorem k_610 : (Cond.selects "BatchSavings" y_S_share y_S_share) ∈ gws := tw 610 (by decide +kernel) rfl
theorem k_611 : (Cond.code y_S_share prog_1_method_18_code 3 (some FieldType.int)) ∈ gws := tw 611 (by decide +kernel) rfl
theorem k_612 : (Cond.constant "BatchSavings" 189 (1000000 : Int32)) ∈ gws := tw 612 (by decide +kernel) rfl
theorem k_614 : (Cond.classLink "BatchSavings" 192 "java/lang/ArithmeticException") ∈ gws := tw 614 (by decide +kernel) rfl
theorem k_615 : (Cond.instantiable "java/lang/ArithmeticException" 6) ∈ gws := tw 615 (by decide +kernel) rfl
theorem k_630 : (Cond.methodLink "BatchSavingsLaw" 144 y_L_mean) ∈ gws := tw 630 (by decide +kernel) rfl
theorem k_631 : (Cond.static y_L_mean) ∈ gws := tw 631 (by decide +kernel) rfl
theorem k_632 : (Cond.codeWith y_L_mean method_19_code 3 (some FieldType.int) [(0, 8, 11, 71)]) ∈ gws := tw 632 (by decide +kernel) rfl
theorem k_633 : (Cond.methodLink "BatchSavingsLaw" 73 y_S_mean) ∈ gws := tw 633 (by decide +kernel) rfl
theorem k_634 : (Cond.instanceMethod y_S_mean) ∈ gws := tw 634 (by decide +kernel) rfl
theorem k_635 : (Cond.selects "BatchSavings" y_S_mean y_S_mean) ∈ gws := tw 635 (by decide +kernel) rfl
theorem k_636 : (Cond.code y_S_mean prog_1_method_19_code 1 (some FieldType.int)) ∈ gws := tw 636 (by decide +kernel) rfl
theorem k_640 : (Cond.instanceMethod y_B_saved) ∈ gws := tw 640 (by decide +kernel) rfl
theorem k_641 : (Cond.code y_B_saved prog_2_method_14_code 3 (some FieldType.int)) ∈ gws := tw 641 (by decide +kernel) rfl
theorem k_642 : (Cond.classLink "BatchSavingsLaw" 78 "BatchSavingsModel") ∈ gws := tw 642 (by decide +kernel) rfl
theorem k_643 : (Cond.instantiable "BatchSavingsModel" 18) ∈ gws := tw 643 (by decide +kernel) rfl
theorem k_644 : (Cond.methodLink "BatchSavingsLaw" 80 y_Tw_init) ∈ gws := tw 644 (by decide +kernel) rfl
theorem k_645 : (Cond.instanceMethod y_Tw_init) ∈ gws := tw 645 (by decide +kernel) rfl
theorem k_646 : (Cond.code y_Tw_init prog_7_method_1_code 2 none) ∈ gws := tw 646 (by decide +kernel) rfl
theorem k_647 : (Cond.methodLink "BatchSavingsModel" 1 y_Ob_init) ∈ gws := tw 647 (by decide +kernel) rfl
theorem k_648 : (Cond.fieldLink "BatchSavingsModel" 54 "BatchSavingsModel" "code" "I") ∈ gws := tw 648 (by decide +kernel) rfl
theorem k_649 : (Cond.fieldLink "BatchSavingsModel" 57 "BatchSavingsModel" "orders" "I") ∈ gws := tw 649 (by decide +kernel) rfl
theorem k_650 : (Cond.fieldLink "BatchSavingsModel" 7 "BatchSavingsModel" "seconds" "[I") ∈ gws := tw 650 (by decide +kernel) rfl
theorem k_651 : (Cond.fieldLink "BatchSavingsModel" 13 "BatchSavingsModel" "size" "[I") ∈ gws := tw 651 (by decide +kernel) rfl
theorem k_652 : (Cond.fieldLink "BatchSavingsModel" 16 "BatchSavingsModel" "zone" "[I") ∈ gws := tw 652 (by decide +kernel) rfl
theorem k_653 : (Cond.fieldLink "BatchSavingsModel" 19 "BatchSavingsModel" "weight" "[I") ∈ gws := tw 653 (by decide +kernel) rfl
theorem k_654 : (Cond.fieldLink "BatchSavingsModel" 22 "BatchSavingsModel" "joint" "[I") ∈ gws := tw 654 (by decide +kernel) rfl
theorem k_655 : (Cond.fieldLink "BatchSavingsModel" 25 "BatchSavingsModel" "barred" "[Z") ∈ gws := tw 655 (by decide +kernel) rfl
theorem k_656 : (Cond.fieldLink "BatchSavingsModel" 29 "BatchSavingsModel" "close" "[Z") ∈ gws := tw 656 (by decide +kernel) rfl
theorem k_657 : (Cond.fieldLink "BatchSavingsModel" 32 "BatchSavingsModel" "mostWeight" "I") ∈ gws := tw 657 (by decide +kernel) rfl
theorem k_658 : (Cond.fieldLink "BatchSavingsModel" 36 "BatchSavingsModel" "mostSize" "I") ∈ gws := tw 658 (by decide +kernel) rfl
theorem k_659 : (Cond.fieldLink "BatchSavingsModel" 39 "BatchSavingsModel" "partner" "[I") ∈ gws := tw 659 (by decide +kernel) rfl
theorem k_660 : (Cond.fieldLink "BatchSavingsModel" 100 "BatchSavingsModel" "exact" "Z") ∈ gws := tw 660 (by decide +kernel) rfl
theorem k_661 : (Cond.fieldLink "BatchSavingsModel" 64 "BatchSavingsModel" "batches" "I") ∈ gws := tw 661 (by decide +kernel) rfl
theorem k_662 : (Cond.fieldLink "BatchSavingsModel" 42 "BatchSavingsModel" "count" "[I") ∈ gws := tw 662 (by decide +kernel) rfl
theorem k_663 : (Cond.fieldLink "BatchSavingsModel" 45 "BatchSavingsModel" "rows" "[I") ∈ gws := tw 663 (by decide +kernel) rfl
theorem k_664 : (Cond.fieldLink "BatchSavingsModel" 48 "BatchSavingsModel" "batchOf" "[I") ∈ gws := tw 664 (by decide +kernel) rfl
theorem k_665 : (Cond.fieldLink "BatchSavingsModel" 51 "BatchSavingsModel" "best" "[I") ∈ gws := tw 665 (by decide +kernel) rfl
theorem k_703 : (Cond.methodLink "BatchSavingsLaw" 87 y_Tw_thrown) ∈ gws := tw 703 (by decide +kernel) rfl
theorem k_704 : (Cond.instanceMethod y_Tw_thrown) ∈ gws := tw 704 (by decide +kernel) rfl
theorem k_705 : (Cond.selects "BatchSavingsModel" y_Tw_thrown y_Tw_thrown) ∈ gws := tw 705 (by decide +kernel) rfl
theorem k_706 : (Cond.code y_Tw_thrown prog_7_method_2_code 1 (some FieldType.int)) ∈ gws := tw 706 (by decide +kernel) rfl
theorem k_707 : (Cond.methodLink "BatchSavingsLaw" 86 y_Tw_order) ∈ gws := tw 707 (by decide +kernel) rfl
theorem k_708 : (Cond.instanceMethod y_Tw_order) ∈ gws := tw 708 (by decide +kernel) rfl
theorem k_709 : (Cond.selects "BatchSavingsModel" y_Tw_order y_Tw_order) ∈ gws := tw 709 (by decide +kernel) rfl
theorem k_710 : (Cond.code y_Tw_order prog_7_method_6_code 4 (some FieldType.int)) ∈ gws := tw 710 (by decide +kernel) rfl
theorem k_711 : (Cond.methodLink "BatchSavingsModel" 60 y_Tw_in) ∈ gws := tw 711 (by decide +kernel) rfl
theorem k_712 : (Cond.static y_Tw_in) ∈ gws := tw 712 (by decide +kernel) rfl
theorem k_713 : (Cond.code y_Tw_in prog_7_method_3_code 3 (some FieldType.boolean)) ∈ gws := tw 713 (by decide +kernel) rfl
theorem k_714 : (Cond.methodLink "BatchSavingsLaw" 92 y_Tw_joined) ∈ gws := tw 714 (by decide +kernel) rfl
theorem k_715 : (Cond.instanceMethod y_Tw_joined) ∈ gws := tw 715 (by decide +kernel) rfl
theorem k_716 : (Cond.selects "BatchSavingsModel" y_Tw_joined y_Tw_joined) ∈ gws := tw 716 (by decide +kernel) rfl
theorem k_717 : (Cond.code y_Tw_joined prog_7_method_8_code 4 (some FieldType.int)) ∈ gws := tw 717 (by decide +kernel) rfl
theorem k_718 : (Cond.methodLink "BatchSavingsModel" 67 y_Tw_isOrder) ∈ gws := tw 718 (by decide +kernel) rfl
theorem k_720 : (Cond.instanceMethod y_Tw_isOrder) ∈ gws := tw 720 (by decide +kernel) rfl
theorem k_721 : (Cond.code y_Tw_isOrder prog_7_method_4_code 2 (some FieldType.boolean)) ∈ gws := tw 721 (by decide +kernel) rfl
theorem k_722 : (Cond.methodLink "BatchSavingsModel" 71 y_Tw_save) ∈ gws := tw 722 (by decide +kernel) rfl
theorem k_724 : (Cond.instanceMethod y_Tw_save) ∈ gws := tw 724 (by decide +kernel) rfl
theorem k_725 : (Cond.code y_Tw_save prog_7_method_7_code 4 (some FieldType.int)) ∈ gws := tw 725 (by decide +kernel) rfl
theorem k_726 : (Cond.methodLink "BatchSavingsLaw" 96 y_Tw_saving) ∈ gws := tw 726 (by decide +kernel) rfl
theorem k_727 : (Cond.instanceMethod y_Tw_saving) ∈ gws := tw 727 (by decide +kernel) rfl
theorem k_728 : (Cond.selects "BatchSavingsModel" y_Tw_saving y_Tw_saving) ∈ gws := tw 728 (by decide +kernel) rfl
theorem k_729 : (Cond.code y_Tw_saving prog_7_method_9_code 3 (some FieldType.int)) ∈ gws := tw 729 (by decide +kernel) rfl
theorem k_730 : (Cond.methodLink "BatchSavingsLaw" 100 y_Tw_rule) ∈ gws := tw 730 (by decide +kernel) rfl
theorem k_731 : (Cond.instanceMethod y_Tw_rule) ∈ gws := tw 731 (by decide +kernel) rfl
theorem k_732 : (Cond.selects "BatchSavingsModel" y_Tw_rule y_Tw_rule) ∈ gws := tw 732 (by decide +kernel) rfl
theorem k_733 : (Cond.code y_Tw_rule prog_7_method_12_code 4 (some FieldType.boolean)) ∈ gws := tw 733 (by decide +kernel) rfl
theorem k_734 : (Cond.methodLink "BatchSavingsModel" 78 y_Tw_mayPair) ∈ gws := tw 734 (by decide +kernel) rfl
theorem k_736 : (Cond.instanceMethod y_Tw_mayPair) ∈ gws := tw 736 (by decide +kernel) rfl
theorem k_737 : (Cond.code y_Tw_mayPair prog_7_method_11_code 3 (some FieldType.boolean)) ∈ gws := tw 737 (by decide +kernel) rfl
theorem k_738 : (Cond.methodLink "BatchSavingsModel" 75 y_Tw_mayBe) ∈ gws := tw 738 (by decide +kernel) rfl
theorem k_740 : (Cond.instanceMethod y_Tw_mayBe) ∈ gws := tw 740 (by decide +kernel) rfl
theorem k_741 : (Cond.code y_Tw_mayBe prog_7_method_10_code 6 (some FieldType.boolean)) ∈ gws := tw 741 (by decide +kernel) rfl
theorem k_742 : (Cond.methodLink "BatchSavingsLaw" 103 y_Tw_weight) ∈ gws := tw 742 (by decide +kernel) rfl
theorem k_743 : (Cond.instanceMethod y_Tw_weight) ∈ gws := tw 743 (by decide +kernel) rfl
theorem k_744 : (Cond.selects "BatchSavingsModel" y_Tw_weight y_Tw_weight) ∈ gws := tw 744 (by decide +kernel) rfl
theorem k_745 : (Cond.code y_Tw_weight prog_7_method_14_code 3 (some FieldType.boolean)) ∈ gws := tw 745 (by decide +kernel) rfl
theorem k_746 : (Cond.methodLink "BatchSavingsModel" 82 y_Tw_isFree) ∈ gws := tw 746 (by decide +kernel) rfl
theorem k_748 : (Cond.instanceMethod y_Tw_isFree) ∈ gws := tw 748 (by decide +kernel) rfl
theorem k_749 : (Cond.code y_Tw_isFree prog_7_method_13_code 2 (some FieldType.boolean)) ∈ gws := tw 749 (by decide +kernel) rfl
theorem k_750 : (Cond.methodLink "BatchSavingsLaw" 107 y_Tw_near) ∈ gws := tw 750 (by decide +kernel) rfl
theorem k_751 : (Cond.instanceMethod y_Tw_near) ∈ gws := tw 751 (by decide +kernel) rfl
theorem k_752 : (Cond.selects "BatchSavingsModel" y_Tw_near y_Tw_near) ∈ gws := tw 752 (by decide +kernel) rfl
theorem k_753 : (Cond.code y_Tw_near prog_7_method_15_code 4 none) ∈ gws := tw 753 (by decide +kernel) rfl
theorem k_754 : (Cond.methodLink "BatchSavingsLaw" 110 y_Tw_limit) ∈ gws := tw 754 (by decide +kernel) rfl
theorem k_755 : (Cond.instanceMethod y_Tw_limit) ∈ gws := tw 755 (by decide +kernel) rfl
theorem k_756 : (Cond.selects "BatchSavingsModel" y_Tw_limit y_Tw_limit) ∈ gws := tw 756 (by decide +kernel) rfl
theorem k_757 : (Cond.code y_Tw_limit prog_7_method_16_code 5 (some FieldType.int)) ∈ gws := tw 757 (by decide +kernel) rfl
theorem k_758 : (Cond.methodLink "BatchSavingsLaw" 114 y_Tw_match) ∈ gws := tw 758 (by decide +kernel) rfl
theorem k_759 : (Cond.instanceMethod y_Tw_match) ∈ gws := tw 759 (by decide +kernel) rfl
theorem k_760 : (Cond.selects "BatchSavingsModel" y_Tw_match y_Tw_match) ∈ gws := tw 760 (by decide +kernel) rfl
theorem k_761 : (Cond.code y_Tw_match prog_7_method_25_code 4 (some FieldType.int)) ∈ gws := tw 761 (by decide +kernel) rfl
theorem k_762 : (Cond.methodLink "BatchSavingsModel" 96 y_Tw_freeOnes) ∈ gws := tw 762 (by decide +kernel) rfl
theorem k_764 : (Cond.instanceMethod y_Tw_freeOnes) ∈ gws := tw 764 (by decide +kernel) rfl
theorem k_765 : (Cond.code y_Tw_freeOnes prog_7_method_24_code 3 (some FieldType.int)) ∈ gws := tw 765 (by decide +kernel) rfl
theorem k_766 : (Cond.methodLink "BatchSavingsModel" 104 y_Tw_exactly) ∈ gws := tw 766 (by decide +kernel) rfl
theorem k_768 : (Cond.instanceMethod y_Tw_exactly) ∈ gws := tw 768 (by decide +kernel) rfl
theorem k_769 : (Cond.code y_Tw_exactly prog_7_method_19_code 7 none) ∈ gws := tw 769 (by decide +kernel) rfl
theorem k_770 : (Cond.methodLink "BatchSavingsModel" 85 y_Tw_lowest) ∈ gws := tw 770 (by decide +kernel) rfl
theorem k_771 : (Cond.static y_Tw_lowest) ∈ gws := tw 771 (by decide +kernel) rfl
theorem k_772 : (Cond.code y_Tw_lowest prog_7_method_18_code 2 (some FieldType.int)) ∈ gws := tw 772 (by decide +kernel) rfl
theorem k_773 : (Cond.methodLink "BatchSavingsModel" 89 y_Tw_mayMatch) ∈ gws := tw 773 (by decide +kernel) rfl
theorem k_775 : (Cond.instanceMethod y_Tw_mayMatch) ∈ gws := tw 775 (by decide +kernel) rfl
theorem k_776 : (Cond.code y_Tw_mayMatch prog_7_method_17_code 3 (some FieldType.boolean)) ∈ gws := tw 776 (by decide +kernel) rfl
theorem k_777 : (Cond.methodLink "BatchSavingsModel" 92 y_Tw_pair) ∈ gws := tw 777 (by decide +kernel) rfl
theorem k_779 : (Cond.instanceMethod y_Tw_pair) ∈ gws := tw 779 (by decide +kernel) rfl
theorem k_780 : (Cond.code y_Tw_pair prog_7_method_20_code 3 none) ∈ gws := tw 780 (by decide +kernel) rfl
theorem k_781 : (Cond.methodLink "BatchSavingsModel" 108 y_Tw_byRule) ∈ gws := tw 781 (by decide +kernel) rfl
theorem k_783 : (Cond.instanceMethod y_Tw_byRule) ∈ gws := tw 783 (by decide +kernel) rfl
theorem k_784 : (Cond.code y_Tw_byRule prog_7_method_21_code 8 none) ∈ gws := tw 784 (by decide +kernel) rfl
theorem k_785 : (Cond.methodLink "BatchSavingsModel" 111 y_Tw_pairSavings) ∈ gws := tw 785 (by decide +kernel) rfl
theorem k_787 : (Cond.instanceMethod y_Tw_pairSavings) ∈ gws := tw 787 (by decide +kernel) rfl
theorem k_788 : (Cond.code y_Tw_pairSavings prog_7_method_22_code 3 (some FieldType.int)) ∈ gws := tw 788 (by decide +kernel) rfl
theorem k_789 : (Cond.methodLink "BatchSavingsLaw" 119 y_Tw_exact) ∈ gws := tw 789 (by decide +kernel) rfl
theorem k_790 : (Cond.instanceMethod y_Tw_exact) ∈ gws := tw 790 (by decide +kernel) rfl
theorem k_791 : (Cond.selects "BatchSavingsModel" y_Tw_exact y_Tw_exact) ∈ gws := tw 791 (by decide +kernel) rfl
theorem k_792 : (Cond.code y_Tw_exact prog_7_method_26_code 1 (some FieldType.boolean)) ∈ gws := tw 792 (by decide +kernel) rfl
theorem k_793 : (Cond.methodLink "BatchSavingsLaw" 122 y_Tw_with) ∈ gws := tw 793 (by decide +kernel) rfl
theorem k_794 : (Cond.instanceMethod y_Tw_with) ∈ gws := tw 794 (by decide +kernel) rfl
theorem k_795 : (Cond.selects "BatchSavingsModel" y_Tw_with y_Tw_with) ∈ gws := tw 795 (by decide +kernel) rfl
theorem k_796 : (Cond.code y_Tw_with prog_7_method_27_code 2 (some FieldType.int)) ∈ gws := tw 796 (by decide +kernel) rfl
theorem k_797 : (Cond.methodLink "BatchSavingsLaw" 125 y_Tw_open) ∈ gws := tw 797 (by decide +kernel) rfl
theorem k_798 : (Cond.instanceMethod y_Tw_open) ∈ gws := tw 798 (by decide +kernel) rfl
theorem k_799 : (Cond.selects "BatchSavingsModel" y_Tw_open y_Tw_open) ∈ gws := tw 799 (by decide +kernel) rfl
theorem k_800 : (Cond.code y_Tw_open prog_7_method_30_code 3 (some FieldType.int)) ∈ gws := tw 800 (by decide +kernel) rfl
theorem k_801 : (Cond.methodLink "BatchSavingsModel" 117 y_Tw_put) ∈ gws := tw 801 (by decide +kernel) rfl
theorem k_803 : (Cond.instanceMethod y_Tw_put) ∈ gws := tw 803 (by decide +kernel) rfl
theorem k_804 : (Cond.code y_Tw_put prog_7_method_29_code 3 none) ∈ gws := tw 804 (by decide +kernel) rfl
theorem k_805 : (Cond.methodLink "BatchSavingsModel" 114 y_Tw_unpair) ∈ gws := tw 805 (by decide +kernel) rfl
theorem k_807 : (Cond.instanceMethod y_Tw_unpair) ∈ gws := tw 807 (by decide +kernel) rfl
theorem k_808 : (Cond.code y_Tw_unpair prog_7_method_28_code 2 none) ∈ gws := tw 808 (by decide +kernel) rfl
theorem k_809 : (Cond.methodLink "BatchSavingsLaw" 128 y_Tw_join) ∈ gws := tw 809 (by decide +kernel) rfl
theorem k_810 : (Cond.instanceMethod y_Tw_join) ∈ gws := tw 810 (by decide +kernel) rfl
theorem k_811 : (Cond.selects "BatchSavingsModel" y_Tw_join y_Tw_join) ∈ gws := tw 811 (by decide +kernel) rfl
theorem k_812 : (Cond.code y_Tw_join prog_7_method_35_code 3 (some FieldType.int)) ∈ gws := tw 812 (by decide +kernel) rfl
theorem k_813 : (Cond.methodLink "BatchSavingsModel" 126 y_Tw_isBatch) ∈ gws := tw 813 (by decide +kernel) rfl
theorem k_815 : (Cond.instanceMethod y_Tw_isBatch) ∈ gws := tw 815 (by decide +kernel) rfl
theorem k_816 : (Cond.code y_Tw_isBatch prog_7_method_5_code 2 (some FieldType.boolean)) ∈ gws := tw 816 (by decide +kernel) rfl
theorem k_817 : (Cond.methodLink "BatchSavingsModel" 129 y_Tw_mayCome) ∈ gws := tw 817 (by decide +kernel) rfl
theorem k_819 : (Cond.instanceMethod y_Tw_mayCome) ∈ gws := tw 819 (by decide +kernel) rfl
theorem k_820 : (Cond.code y_Tw_mayCome prog_7_method_34_code 3 (some FieldType.boolean)) ∈ gws := tw 820 (by decide +kernel) rfl
theorem k_821 : (Cond.methodLink "BatchSavingsModel" 120 y_Tw_setOf) ∈ gws := tw 821 (by decide +kernel) rfl
theorem k_823 : (Cond.instanceMethod y_Tw_setOf) ∈ gws := tw 823 (by decide +kernel) rfl
theorem k_824 : (Cond.code y_Tw_setOf prog_7_method_32_code 4 (some FieldType.int)) ∈ gws := tw 824 (by decide +kernel) rfl
theorem k_825 : (Cond.methodLink "BatchSavingsModel" 123 y_Tw_savingWithLast) ∈ gws := tw 825 (by decide +kernel) rfl
theorem k_827 : (Cond.instanceMethod y_Tw_savingWithLast) ∈ gws := tw 827 (by decide +kernel) rfl
theorem k_828 : (Cond.code y_Tw_savingWithLast prog_7_method_33_code 3 (some FieldType.int)) ∈ gws := tw 828 (by decide +kernel) rfl
theorem k_829 : (Cond.methodLink "BatchSavingsModel" 132 y_Tw_way) ∈ gws := tw 829 (by decide +kernel) rfl
theorem k_831 : (Cond.instanceMethod y_Tw_way) ∈ gws := tw 831 (by decide +kernel) rfl
theorem k_832 : (Cond.code y_Tw_way prog_7_method_31_code 5 (some FieldType.int)) ∈ gws := tw 832 (by decide +kernel) rfl
theorem k_833 : (Cond.methodLink "BatchSavingsLaw" 131 y_Tw_leave) ∈ gws := tw 833 (by decide +kernel) rfl
theorem k_834 : (Cond.instanceMethod y_Tw_leave) ∈ gws := tw 834 (by decide +kernel) rfl
theorem k_835 : (Cond.selects "BatchSavingsModel" y_Tw_leave y_Tw_leave) ∈ gws := tw 835 (by decide +kernel) rfl
theorem k_836 : (Cond.code y_Tw_leave prog_7_method_36_code 6 (some FieldType.int)) ∈ gws := tw 836 (by decide +kernel) rfl
theorem k_837 : (Cond.methodLink "BatchSavingsLaw" 134 y_Tw_batch) ∈ gws := tw 837 (by decide +kernel) rfl
theorem k_838 : (Cond.instanceMethod y_Tw_batch) ∈ gws := tw 838 (by decide +kernel) rfl
theorem k_839 : (Cond.selects "BatchSavingsModel" y_Tw_batch y_Tw_batch) ∈ gws := tw 839 (by decide +kernel) rfl
theorem k_840 : (Cond.code y_Tw_batch prog_7_method_37_code 2 (some FieldType.int)) ∈ gws := tw 840 (by decide +kernel) rfl
theorem k_841 : (Cond.methodLink "BatchSavingsLaw" 137 y_Tw_told) ∈ gws := tw 841 (by decide +kernel) rfl
theorem k_842 : (Cond.instanceMethod y_Tw_told) ∈ gws := tw 842 (by decide +kernel) rfl
theorem k_843 : (Cond.selects "BatchSavingsModel" y_Tw_told y_Tw_told) ∈ gws := tw 843 (by decide +kernel) rfl
theorem k_844 : (Cond.code y_Tw_told prog_7_method_39_code 6 (some FieldType.int)) ∈ gws := tw 844 (by decide +kernel) rfl
theorem k_845 : (Cond.methodLink "BatchSavingsModel" 135 y_Tw_allSeconds) ∈ gws := tw 845 (by decide +kernel) rfl
theorem k_847 : (Cond.instanceMethod y_Tw_allSeconds) ∈ gws := tw 847 (by decide +kernel) rfl
theorem k_848 : (Cond.code y_Tw_allSeconds prog_7_method_38_code 4 (some FieldType.int)) ∈ gws := tw 848 (by decide +kernel) rfl
theorem k_849 : (Cond.methodLink "BatchSavingsLaw" 140 y_Tw_best) ∈ gws := tw 849 (by decide +kernel) rfl
theorem k_850 : (Cond.instanceMethod y_Tw_best) ∈ gws := tw 850 (by decide +kernel) rfl
theorem k_851 : (Cond.selects "BatchSavingsModel" y_Tw_best y_Tw_best) ∈ gws := tw 851 (by decide +kernel) rfl
theorem k_852 : (Cond.code y_Tw_best prog_7_method_40_code 4 (some FieldType.int)) ∈ gws := tw 852 (by decide +kernel) rfl
theorem k_853 : (Cond.methodLink "BatchSavingsLaw" 143 y_Tw_share) ∈ gws := tw 853 (by decide +kernel) rfl
theorem k_854 : (Cond.instanceMethod y_Tw_share) ∈ gws := tw 854 (by decide +kernel) rfl
theorem k_855 : (Cond.selects "BatchSavingsModel" y_Tw_share y_Tw_share) ∈ gws := tw 855 (by decide +kernel) rfl
theorem k_856 : (Cond.code y_Tw_share prog_7_method_41_code 3 (some FieldType.int)) ∈ gws := tw 856 (by decide +kernel) rfl
theorem k_857 : (Cond.constant "BatchSavingsModel" 138 (1000000 : Int32)) ∈ gws := tw 857 (by decide +kernel) rfl
theorem k_858 : (Cond.methodLink "BatchSavingsLaw" 147 y_Tw_mean) ∈ gws := tw 858 (by decide +kernel) rfl
theorem k_859 : (Cond.instanceMethod y_Tw_mean) ∈ gws := tw 859 (by decide +kernel) rfl
theorem k_860 : (Cond.selects "BatchSavingsModel" y_Tw_mean y_Tw_mean) ∈ gws := tw 860 (by decide +kernel) rfl
theorem k_861 : (Cond.code y_Tw_mean prog_7_method_42_code 3 (some FieldType.int)) ∈ gws := tw 861 (by decide +kernel) rfl
theorem k_862 : (Cond.methodLink "BatchSavingsLaw" 151 y_Tw_count) ∈ gws := tw 862 (by decide +kernel) rfl
theorem k_863 : (Cond.instanceMethod y_Tw_count) ∈ gws := tw 863 (by decide +kernel) rfl
theorem k_864 : (Cond.selects "BatchSavingsModel" y_Tw_count y_Tw_count) ∈ gws := tw 864 (by decide +kernel) rfl
theorem k_865 : (Cond.code y_Tw_count prog_7_method_43_code 2 (some FieldType.int)) ∈ gws := tw 865 (by decide +kernel) rfl
theorem k_866 : (Cond.methodLink "BatchSavingsModel" 139 y_Tw_pairs) ∈ gws := tw 866 (by decide +kernel) rfl
theorem k_868 : (Cond.instanceMethod y_Tw_pairs) ∈ gws := tw 868 (by decide +kernel) rfl
theorem k_869 : (Cond.code y_Tw_pairs prog_7_method_23_code 3 (some FieldType.int)) ∈ gws := tw 869 (by decide +kernel) rfl
theorem k_870 : (Cond.arrayClass FieldType.long) ∈ gws := tw 870 (by decide +kernel) rfl
theorem kp_0 : (Cond.selects "BatchSavings$Batches" y_B_freeOrders y_B_freeOrders) ∈ gws := twp 0 (by decide +kernel) rfl
theorem kp_1 : (Cond.selects "BatchSavings$Batches" y_B_isFree y_B_isFree) ∈ gws := twp 1 (by decide +kernel) rfl
theorem kp_2 : (Cond.selects "BatchSavings$Matching" y_M_pairs y_M_pairs) ∈ gws := twp 2 (by decide +kernel) rfl
theorem kp_3 : (Cond.selects "BatchSavings$Matching" y_M_saved y_M_saved) ∈ gws := twp 3 (by decide +kernel) rfl
theorem kp_4 : (Cond.selects "BatchSavings$Orders" y_O_savingOf y_O_savingOf) ∈ gws := twp 4 (by decide +kernel) rfl
theorem kp_6 : (Cond.selects "BatchSavings$Orders" y_O_add y_O_add) ∈ gws := twp 6 (by decide +kernel) rfl
theorem kp_7 : (Cond.selects "BatchSavings" y_S_needTwoOrders y_S_needTwoOrders) ∈ gws := twp 7 (by decide +kernel) rfl
theorem kp_8 : (Cond.selects "BatchSavings" y_S_needOrder y_S_needOrder) ∈ gws := twp 8 (by decide +kernel) rfl
theorem kp_9 : (Cond.selects "BatchSavings$Orders" y_O_has y_O_has) ∈ gws := twp 9 (by decide +kernel) rfl
theorem kp_10 : (Cond.selects "BatchSavings$Orders" y_O_putTogether y_O_putTogether) ∈ gws := twp 10 (by decide +kernel) rfl
theorem kp_11 : (Cond.selects "BatchSavings$Rules" y_R_bar y_R_bar) ∈ gws := twp 11 (by decide +kernel) rfl
theorem kp_12 : (Cond.selects "BatchSavings$Rules" y_R_allowPair y_R_allowPair) ∈ gws := twp 12 (by decide +kernel) rfl
theorem kp_13 : (Cond.selects "BatchSavings$Rules" y_R_startSet y_R_startSet) ∈ gws := twp 13 (by decide +kernel) rfl
theorem kp_14 : (Cond.selects "BatchSavings$Rules" y_R_addToSet y_R_addToSet) ∈ gws := twp 14 (by decide +kernel) rfl
theorem kp_15 : (Cond.selects "BatchSavings$Rules" y_R_allowSet y_R_allowSet) ∈ gws := twp 15 (by decide +kernel) rfl
theorem kp_16 : (Cond.selects "BatchSavings$Rules" y_R_getAlong y_R_getAlong) ∈ gws := twp 16 (by decide +kernel) rfl
theorem kp_17 : (Cond.selects "BatchSavings" y_S_needFree y_S_needFree) ∈ gws := twp 17 (by decide +kernel) rfl
theorem kp_18 : (Cond.selects "BatchSavings$Rules" y_R_bringNear y_R_bringNear) ∈ gws := twp 18 (by decide +kernel) rfl
theorem kp_19 : (Cond.selects "BatchSavings$Rules" y_R_aboveAlone y_R_aboveAlone) ∈ gws := twp 19 (by decide +kernel) rfl
theorem kp_20 : (Cond.selects "BatchSavings" y_S_takeGains y_S_takeGains) ∈ gws := twp 20 (by decide +kernel) rfl
theorem kp_21 : (Cond.selects "BatchSavings$Matching" y_M_putGain y_M_putGain) ∈ gws := twp 21 (by decide +kernel) rfl
theorem kp_22 : (Cond.selects "BatchSavings$Matching" y_M_pairAnew y_M_pairAnew) ∈ gws := twp 22 (by decide +kernel) rfl
theorem kp_23 : (Cond.selects "BatchSavings$Matching" y_M_findSums y_M_findSums) ∈ gws := twp 23 (by decide +kernel) rfl
theorem kp_24 : (Cond.selects "BatchSavings$Matching" y_M_greatestSum y_M_greatestSum) ∈ gws := twp 24 (by decide +kernel) rfl
theorem kp_25 : (Cond.selects "BatchSavings$Matching" y_M_mayTake y_M_mayTake) ∈ gws := twp 25 (by decide +kernel) rfl
theorem kp_26 : (Cond.selects "BatchSavings$Matching" y_M_sumWith y_M_sumWith) ∈ gws := twp 26 (by decide +kernel) rfl
theorem kp_27 : (Cond.selects "BatchSavings$Matching" y_M_pairBySums y_M_pairBySums) ∈ gws := twp 27 (by decide +kernel) rfl
theorem kp_28 : (Cond.selects "BatchSavings$Matching" y_M_firstPartner y_M_firstPartner) ∈ gws := twp 28 (by decide +kernel) rfl
theorem kp_29 : (Cond.selects "BatchSavings$Matching" y_M_bind y_M_bind) ∈ gws := twp 29 (by decide +kernel) rfl
theorem kp_30 : (Cond.selects "BatchSavings$Matching" y_M_pairByRule y_M_pairByRule) ∈ gws := twp 30 (by decide +kernel) rfl
theorem kp_31 : (Cond.selects "BatchSavings$Matching" y_M_part y_M_part) ∈ gws := twp 31 (by decide +kernel) rfl
theorem kp_32 : (Cond.selects "BatchSavings$Batches" y_B_addEmpty y_B_addEmpty) ∈ gws := twp 32 (by decide +kernel) rfl
theorem kp_33 : (Cond.selects "BatchSavings$Batches" y_B_put y_B_put) ∈ gws := twp 33 (by decide +kernel) rfl
theorem kp_34 : (Cond.selects "BatchSavings" y_S_needBatch y_S_needBatch) ∈ gws := twp 34 (by decide +kernel) rfl
theorem kp_35 : (Cond.selects "BatchSavings$Batches" y_B_has y_B_has) ∈ gws := twp 35 (by decide +kernel) rfl
theorem kp_36 : (Cond.selects "BatchSavings" y_S_suits y_S_suits) ∈ gws := twp 36 (by decide +kernel) rfl
theorem kp_37 : (Cond.selects "BatchSavings$Batches" y_B_orderAt y_B_orderAt) ∈ gws := twp 37 (by decide +kernel) rfl
theorem kp_38 : (Cond.selects "BatchSavings$Batches" y_B_savingWithLast y_B_savingWithLast) ∈ gws := twp 38 (by decide +kernel) rfl
theorem kp_39 : (Cond.selects "BatchSavings$Batches" y_B_isFull y_B_isFull) ∈ gws := twp 39 (by decide +kernel) rfl
theorem kp_40 : (Cond.selects "BatchSavings$Batches" y_B_wayOf y_B_wayOf) ∈ gws := twp 40 (by decide +kernel) rfl
theorem kp_41 : (Cond.selects "BatchSavings$Batches" y_B_sumOf y_B_sumOf) ∈ gws := twp 41 (by decide +kernel) rfl
theorem kp_42 : (Cond.selects "BatchSavings$Batches" y_B_savedBy y_B_savedBy) ∈ gws := twp 42 (by decide +kernel) rfl
theorem kp_43 : (Cond.selects "BatchSavings$Batches" y_B_take y_B_take) ∈ gws := twp 43 (by decide +kernel) rfl
theorem kp_44 : (Cond.selects "BatchSavings$Batches" y_B_saved y_B_saved) ∈ gws := twp 44 (by decide +kernel) rfl
theorem kp_45 : (Cond.selects "BatchSavingsModel" y_Tw_isOrder y_Tw_isOrder) ∈ gws := twp 45 (by decide +kernel) rfl
theorem kp_46 : (Cond.selects "BatchSavingsModel" y_Tw_save y_Tw_save) ∈ gws := twp 46 (by decide +kernel) rfl
theorem kp_47 : (Cond.selects "BatchSavingsModel" y_Tw_mayPair y_Tw_mayPair) ∈ gws := twp 47 (by decide +kernel) rfl
theorem kp_48 : (Cond.selects "BatchSavingsModel" y_Tw_mayBe y_Tw_mayBe) ∈ gws := twp 48 (by decide +kernel) rfl
theorem kp_49 : (Cond.selects "BatchSavingsModel" y_Tw_isFree y_Tw_isFree) ∈ gws := twp 49 (by decide +kernel) rfl
theorem kp_50 : (Cond.selects "BatchSavingsModel" y_Tw_freeOnes y_Tw_freeOnes) ∈ gws := twp 50 (by decide +kernel) rfl
theorem kp_51 : (Cond.selects "BatchSavingsModel" y_Tw_exactly y_Tw_exactly) ∈ gws := twp 51 (by decide +kernel) rfl
theorem kp_52 : (Cond.selects "BatchSavingsModel" y_Tw_mayMatch y_Tw_mayMatch) ∈ gws := twp 52 (by decide +kernel) rfl
theorem kp_53 : (Cond.selects "BatchSavingsModel" y_Tw_pair y_Tw_pair) ∈ gws := twp 53 (by decide +kernel) rfl
theorem kp_54 : (Cond.selects "BatchSavingsModel" y_Tw_byRule y_Tw_byRule) ∈ gws := twp 54 (by decide +kernel) rfl
theorem kp_55 : (Cond.selects "BatchSavingsModel" y_Tw_pairSavings y_Tw_pairSavings) ∈ gws := twp 55 (by decide +kernel) rfl
theorem kp_56 : (Cond.selects "BatchSavingsModel" y_Tw_put y_Tw_put) ∈ gws := twp 56 (by decide +kernel) rfl
theorem kp_57 : (Cond.selects "BatchSavingsModel" y_Tw_unpair y_Tw_unpair) ∈ gws := twp 57 (by decide +kernel) rfl
theorem kp_58 : (Cond.selects "BatchSavingsModel" y_Tw_isBatch y_Tw_isBatch) ∈ gws := twp 58 (by decide +kernel) rfl
theorem kp_59 : (Cond.selects "BatchSavingsModel" y_Tw_mayCome y_Tw_mayCome) ∈ gws := twp 59 (by decide +kernel) rfl
theorem kp_60 : (Cond.selects "BatchSavingsModel" y_Tw_setOf y_Tw_setOf) ∈ gws := twp 60 (by decide +kernel) rfl
theorem kp_61 : (Cond.selects "BatchSavingsModel" y_Tw_savingWithLast y_Tw_savingWithLast) ∈ gws := twp 61 (by decide +kernel) rfl
theorem kp_62 : (Cond.selects "BatchSavingsModel" y_Tw_way y_Tw_way) ∈ gws := twp 62 (by decide +kernel) rfl
theorem kp_63 : (Cond.selects "BatchSavingsModel" y_Tw_allSeconds y_Tw_allSeconds) ∈ gws := twp 63 (by decide +kernel) rfl
theorem kp_64 : (Cond.selects "BatchSavingsModel" y_Tw_pairs y_Tw_pairs) ∈ gws := twp 64 (by decide +kernel) rfl
theorem u_S : ∀ w ∈ u_ws "BatchSavings" F_S 4, w ∈ gws := by
  have h : (u_ws "BatchSavings" F_S 4).all (fun w => decide (w ∈ tables_1) && goodWord w) = true := by decide +kernel
  intro w hw
  have h1 := List.all_eq_true.mp h w hw
  simp only [Bool.and_eq_true, decide_eq_true_eq] at h1
  exact List.mem_filter.mpr ⟨List.mem_append_right _ h1.1, h1.2⟩
theorem u_O : ∀ w ∈ u_ws "BatchSavings$Orders" F_O 6, w ∈ gws := by
  have h : (u_ws "BatchSavings$Orders" F_O 6).all (fun w => decide (w ∈ tables_1) && goodWord w) = true := by decide +kernel
  intro w hw
  have h1 := List.all_eq_true.mp h w hw
  simp only [Bool.and_eq_true, decide_eq_true_eq] at h1
  exact List.mem_filter.mpr ⟨List.mem_append_right _ h1.1, h1.2⟩
theorem u_R : ∀ w ∈ u_ws "BatchSavings$Rules" F_R 7, w ∈ gws := by
  have h : (u_ws "BatchSavings$Rules" F_R 7).all (fun w => decide (w ∈ tables_1) && goodWord w) = true := by decide +kernel
  intro w hw
  have h1 := List.all_eq_true.mp h w hw
  simp only [Bool.and_eq_true, decide_eq_true_eq] at h1
  exact List.mem_filter.mpr ⟨List.mem_append_right _ h1.1, h1.2⟩
theorem u_B : ∀ w ∈ u_ws "BatchSavings$Batches" F_B 5, w ∈ gws := by
  have h : (u_ws "BatchSavings$Batches" F_B 5).all (fun w => decide (w ∈ tables_1) && goodWord w) = true := by decide +kernel
  intro w hw
  have h1 := List.all_eq_true.mp h w hw
  simp only [Bool.and_eq_true, decide_eq_true_eq] at h1
  exact List.mem_filter.mpr ⟨List.mem_append_right _ h1.1, h1.2⟩
theorem u_M : ∀ w ∈ u_ws "BatchSavings$Matching" F_M 5, w ∈ gws := by
  have h : (u_ws "BatchSavings$Matching" F_M 5).all (fun w => decide (w ∈ tables_1) && goodWord w) = true := by decide +kernel
  intro w hw
  have h1 := List.all_eq_true.mp h w hw
  simp only [Bool.and_eq_true, decide_eq_true_eq] at h1
  exact List.mem_filter.mpr ⟨List.mem_append_right _ h1.1, h1.2⟩
theorem u_Tw : ∀ w ∈ u_ws "BatchSavingsModel" F_Tw 18, w ∈ gws := by
  have h : (u_ws "BatchSavingsModel" F_Tw 18).all (fun w => decide (w ∈ tables_1) && goodWord w) = true := by decide +kernel
  intro w hw
  have h1 := List.all_eq_true.mp h w hw
  simp only [Bool.and_eq_true, decide_eq_true_eq] at h1
  exact List.mem_filter.mpr ⟨List.mem_append_right _ h1.1, h1.2⟩
end
section
/-! numbers: every int of the machine as iI z, z a whole number -/
def iI (z : Int) : Int32 := Int32.ofInt z
abbrev InR (z : Int) : Prop := -2147483648 ≤ z ∧ z ≤ 2147483647
theorem iI_add (a b : Int) : iI a + iI b = iI (a + b) := (Int32.ofInt_add a b).symm
theorem iI_sub (a b : Int) : iI a - iI b = iI (a - b) := (Int32.ofInt_sub a b).symm
theorem iI_mul (a b : Int) : iI a * iI b = iI (a * b) := (Int32.ofInt_mul a b).symm
theorem iI_toInt {z : Int} (h : InR z) : (iI z).toInt = z := Int32.toInt_ofInt_of_le (by have := h.1; omega) (by have := h.2; omega)
theorem iI_self (x : Int32) : iI x.toInt = x := Int32.ofInt_toInt x
theorem iI_le {a b : Int} (ha : InR a) (hb : InR b) : iI a ≤ iI b ↔ a ≤ b := by rw [Int32.le_iff_toInt_le, iI_toInt ha, iI_toInt hb]
theorem iI_lt {a b : Int} (ha : InR a) (hb : InR b) : iI a < iI b ↔ a < b := by rw [Int32.lt_iff_toInt_lt, iI_toInt ha, iI_toInt hb]
theorem iI_eq {a b : Int} (ha : InR a) (hb : InR b) : iI a = iI b ↔ a = b := by rw [← Int32.toInt_inj, iI_toInt ha, iI_toInt hb]
theorem iI_0 : (0 : Int32) = iI 0 := rfl
theorem InR_0 : InR 0 := by omega
theorem InR_x (x : Int32) : InR x.toInt := ⟨by have := Int32.le_toInt x; omega, by have := Int32.toInt_lt x; omega⟩
theorem iI_in {i : Int} {n : Nat} (h0 : 0 ≤ i) (h : i < n) (hn : n < 2147483648) : vp_in (iI i) n := by
  rw [vp_in_iff, iI_toInt ⟨by omega, by omega⟩]
  exact ⟨h0, h⟩
theorem iI_cl {i : Int} (h0 : 0 ≤ i) (h : i ≤ 2147483647) : (iI i).toNatClampNeg = i.toNat := by
  rw [← Int32.toNat_toInt, iI_toInt ⟨by omega, h⟩]
theorem iI_nat {n : Nat} : Int32.ofNat n = iI (n : Int) := rfl
/-- an array's place changed -/
def updI (f : Int → Int) (k v : Int) : Int → Int := fun j => if j = k then v else f j
theorem updI_s {f : Int → Int} {k v : Int} : updI f k v k = v := if_pos rfl
theorem updI_n {f : Int → Int} {k v j : Int} (h : j ≠ k) : updI f k v j = f j := if_neg h
/-- an array of ints, by a function of whole numbers -/
def aI (f : Int → Int) : Nat → Int32 := fun j => iI (f (j : Int))
theorem aI_upd {f : Int → Int} {k v : Int} (h0 : 0 ≤ k) : upd (aI f) k.toNat (iI v) = aI (updI f k v) := by
  funext j
  unfold upd aI updI
  by_cases h : j = k.toNat
  · rw [if_pos h, if_pos (by omega)]
  · rw [if_neg h, if_neg (by omega)]
theorem aI_at {f : Int → Int} {k : Int} (h0 : 0 ≤ k) (h : k ≤ 2147483647) : aI f (iI k).toNatClampNeg = iI (f k) := by
  unfold aI
  rw [iI_cl h0 h, Int.toNat_of_nonneg h0]
/-- a bank: what a world's arrays and numbers hold -/
abbrev Bk : Type := Nat → Int → Int
def bu (x : Bk) (k : Nat) (f : Int → Int) : Bk := fun j => if j = k then f else x j
theorem bu_s {x : Bk} {k : Nat} {f : Int → Int} : bu x k f k = f := if_pos rfl
theorem bu_n {x : Bk} {k j : Nat} {f : Int → Int} (h : j ≠ k) : bu x k f j = x j := if_neg h
/-- locals by their places -/
def lvs (i : Nat) (v : Value) (lv : List (Nat × Value)) : List (Nat × Value) := lv.filter (fun q => decide (q.1 < i)) ++ (i, v) :: lv.filter (fun q => decide (i < q.1))
def lv1 (lv : List (Nat × Value)) : Bool := lv.all (fun q => q.2.category == 1)
theorem lvs_has {ls : Array Slot} {nL i : Nat} {v : Value} {lv : List (Nat × Value)} (h1 : lv1 lv = true) (h : lv_has ls nL ((i, v) :: lv.filter (fun q => !(q.1 == i) && !(q.1 + 1 == i && q.2.category == 2)))) : lv_has ls nL (lvs i v lv) := by
  refine ⟨h.1, h.2.1, fun q hq => h.2.2 q ?_⟩
  have key : ∀ q ∈ lv, q.1 ≠ i → q ∈ lv.filter (fun q => !(q.1 == i) && !(q.1 + 1 == i && q.2.category == 2)) := by
    intro q hq hne
    refine List.mem_filter.mpr ⟨hq, ?_⟩
    have hc : (q.2.category == 1) = true := List.all_eq_true.mp h1 q hq
    have hc' : q.2.category = 1 := by simpa using hc
    simp [hne, hc']
  unfold lvs at hq
  rcases List.mem_append.mp hq with h2 | h2
  · obtain ⟨h3, h4⟩ := List.mem_filter.mp h2
    exact List.mem_cons_of_mem _ (key q h3 (by have := of_decide_eq_true h4; omega))
  · rcases List.mem_cons.mp h2 with h2 | h2
    · rw [h2]; exact List.mem_cons_self
    · obtain ⟨h3, h4⟩ := List.mem_filter.mp h2
      exact List.mem_cons_of_mem _ (key q h3 (by have := of_decide_eq_true h4; omega))
section GB
variable {p : Program} {l : Launch} {e : Env} {R : Room} {s : State} {m : MethodId} {args : Array Value} {below : List Frame} {meth : Method} {c : Code} {cells slots : Nat} {Q : State → Prop}
variable {D : va_G} {cl : List vw_C} {tys : List (ClassId × FieldType)} {A : Nat → Prop} {cc : ByteArray} {nL base : Nat} {own : String} {Ts : List Cond} {Z : State → Prop}
variable {ws : va_W} {lv : List (Nat × Value)} {pc : Nat} {st : List Value}
/-- what stays through a method's walk -/
def gC (p : Program) (s : State) (m : MethodId) (args : Array Value) (meth : Method) (c : Code) (D : va_G) (cl : List vw_C) (tys : List (ClassId × FieldType)) (A : Nat → Prop) (cc : ByteArray) (nL : Nat) (own : String) (Ts : List Cond) (base : Nat) (Z : State → Prop) : Prop :=
  CallFix p m c cc nL s args Ts own ∧ va_K D cl tys s ∧ (∀ q : Nat, s.heap.size ≤ q → A q) ∧ (∀ q : Nat, A q → base ≤ q) ∧ base ≤ s.heap.size ∧ (∀ U : State, s.WarmedH U.vm → va_F A s U → Z U) ∧ meth.locks = false
/-- the walk, at a place of the code, with a world, the locals and the stack -/
def gW (p : Program) (l : Launch) (e : Env) (R : Room) (s : State) (m : MethodId) (args : Array Value) (below : List Frame) (meth : Method) (c : Code) (D : va_G) (cl : List vw_C) (A : Nat → Prop) (nL cells slots : Nat) (Q : State → Prop) (ws : va_W) (lv : List (Nat × Value)) (pc : Nat) (st : List Value) : Prop :=
  ∀ (H : Heap) (locs : List Loc) (ls : Array Slot), va_P D cl ws H → va_D A ws → va_S A s.heap H locs → lv_has ls nL lv → W p l e R s m args below meth c H locs cells slots Q (F0 m pc ls st)
theorem g_pc {pc' : Nat} (h : pc = pc') (k : gW p l e R s m args below meth c D cl A nL cells slots Q ws lv pc' st) : gW p l e R s m args below meth c D cl A nL cells slots Q ws lv pc st := h ▸ k
theorem g_ws {ws' : va_W} (h : ws = ws') (k : gW p l e R s m args below meth c D cl A nL cells slots Q ws' lv pc st) : gW p l e R s m args below meth c D cl A nL cells slots Q ws lv pc st := h ▸ k
theorem g_lv {lv' : List (Nat × Value)} (ks : List Nat) (h : lv_pick lv ks = lv') (k : gW p l e R s m args below meth c D cl A nL cells slots Q ws lv' pc st) : gW p l e R s m args below meth c D cl A nL cells slots Q ws lv pc st :=
  fun H locs ls hP hD hS hl => k H locs ls hP hD hS (lv_sub hl ks h)
theorem g_top {z z' : Int} (h : z = z') (k : gW p l e R s m args below meth c D cl A nL cells slots Q ws lv pc (.int (iI z') :: st)) : gW p l e R s m args below meth c D cl A nL cells slots Q ws lv pc (.int (iI z) :: st) := h ▸ k
theorem g_widen {k n : Nat} (h1 : cells ≤ k) (h2 : slots ≤ n) (kk : gW p l e R s m args below meth c D cl A nL k n Q ws lv pc st) : gW p l e R s m args below meth c D cl A nL cells slots Q ws lv pc st :=
  fun H locs ls hP hD hS hl => W.widen h1 h2 (kk H locs ls hP hD hS hl)
theorem g_iconst (C : gC p s m args meth c D cl tys A cc nL own Ts base Z) {n : Int} (hd : decode cc pc = .ok (.iconst n, 1)) (k : gW p l e R s m args below meth c D cl A nL cells slots Q ws lv (pc + 1) (.int (iI n) :: st)) : gW p l e R s m args below meth c D cl A nL cells slots Q ws lv pc st :=
  fun H locs ls hP hD hS hl => lv_iconst C.1.1 C.1.2.1 hd rfl (k H locs ls hP hD hS hl)
theorem g_bipush (C : gC p s m args meth c D cl tys A cc nL own Ts base Z) {n : Int} (hd : decode cc pc = .ok (.bipush n, 2)) (hv : (Int8.ofInt n).toInt32 = iI n) (k : gW p l e R s m args below meth c D cl A nL cells slots Q ws lv (pc + 2) (.int (iI n) :: st)) : gW p l e R s m args below meth c D cl A nL cells slots Q ws lv pc st :=
  fun H locs ls hP hD hS hl => lv_bipush C.1.1 C.1.2.1 hd hv (k H locs ls hP hD hS hl)
theorem g_sipush (C : gC p s m args meth c D cl tys A cc nL own Ts base Z) {n : Int} (hd : decode cc pc = .ok (.sipush n, 3)) (hv : (Int16.ofInt n).toInt32 = iI n) (k : gW p l e R s m args below meth c D cl A nL cells slots Q ws lv (pc + 3) (.int (iI n) :: st)) : gW p l e R s m args below meth c D cl A nL cells slots Q ws lv pc st :=
  fun H locs ls hP hD hS hl => lv_sipush C.1.1 C.1.2.1 hd hv (k H locs ls hP hD hS hl)
theorem g_ldc (C : gC p s m args meth c D cl tys A cc nL own Ts base Z) {n : Int} {index : Nat} (hd : decode cc pc = .ok (.ldc index, 2)) (hk : (Jvm.Cond.constant own index (iI n)).before args s = true) (k : gW p l e R s m args below meth c D cl A nL cells slots Q ws lv (pc + 2) (.int (iI n) :: st)) : gW p l e R s m args below meth c D cl A nL cells slots Q ws lv pc st :=
  fun H locs ls hP hD hS hl => lv_ldc C.1.1 C.1.2.1 C.1.2.2.2.1 hk hd (k H locs ls hP hD hS hl)
theorem g_iload_n (C : gC p s m args meth c D cl tys A cc nL own Ts base Z) {j : Fin 4} {i q : Nat} {x : Int32} (hd : decode cc pc = .ok (.iload_n j, 1)) (hi : (j : Nat) = i) (hq : lv[q]? = some (i, .int x)) (k : gW p l e R s m args below meth c D cl A nL cells slots Q ws lv (pc + 1) (.int x :: st)) : gW p l e R s m args below meth c D cl A nL cells slots Q ws lv pc st :=
  fun H locs ls hP hD hS hl => lv_iload_n C.1.1 C.1.2.1 hd hi (lv_at hl q hq) (k H locs ls hP hD hS hl)
theorem g_iload (C : gC p s m args meth c D cl tys A cc nL own Ts base Z) {i q : Nat} {x : Int32} (hd : decode cc pc = .ok (.iload i, 2)) (hq : lv[q]? = some (i, .int x)) (k : gW p l e R s m args below meth c D cl A nL cells slots Q ws lv (pc + 2) (.int x :: st)) : gW p l e R s m args below meth c D cl A nL cells slots Q ws lv pc st :=
  fun H locs ls hP hD hS hl => lv_iload C.1.1 C.1.2.1 hd (lv_at hl q hq) (k H locs ls hP hD hS hl)
theorem g_aload_n (C : gC p s m args meth c D cl tys A cc nL own Ts base Z) {j : Fin 4} {i q : Nat} {x : Nat} (hd : decode cc pc = .ok (.aload_n j, 1)) (hi : (j : Nat) = i) (hq : lv[q]? = some (i, .ref x)) (k : gW p l e R s m args below meth c D cl A nL cells slots Q ws lv (pc + 1) (.ref x :: st)) : gW p l e R s m args below meth c D cl A nL cells slots Q ws lv pc st :=
  fun H locs ls hP hD hS hl => lv_aload_n C.1.1 C.1.2.1 hd hi (lv_at hl q hq) (k H locs ls hP hD hS hl)
theorem g_aload (C : gC p s m args meth c D cl tys A cc nL own Ts base Z) {i q : Nat} {x : Nat} (hd : decode cc pc = .ok (.aload i, 2)) (hq : lv[q]? = some (i, .ref x)) (k : gW p l e R s m args below meth c D cl A nL cells slots Q ws lv (pc + 2) (.ref x :: st)) : gW p l e R s m args below meth c D cl A nL cells slots Q ws lv pc st :=
  fun H locs ls hP hD hS hl => lv_aload C.1.1 C.1.2.1 hd (lv_at hl q hq) (k H locs ls hP hD hS hl)
theorem g_istore_n (C : gC p s m args meth c D cl tys A cc nL own Ts base Z) {j : Fin 4} {i : Nat} {x : Int32} {lv' : List (Nat × Value)} (hd : decode cc pc = .ok (.istore_n j, 1)) (hi : (j : Nat) = i) (hn : i < nL) (h1 : lv1 lv = true) (hl' : lvs i (.int x) lv = lv') (k : gW p l e R s m args below meth c D cl A nL cells slots Q ws lv' (pc + 1) st) : gW p l e R s m args below meth c D cl A nL cells slots Q ws lv pc (.int x :: st) :=
  fun H locs _ hP hD hS hl => lv_istore_n C.1.1 C.1.2.1 hd hi hl hn rfl (fun ls' h => k H locs ls' hP hD hS (hl' ▸ lvs_has h1 h))
theorem g_istore (C : gC p s m args meth c D cl tys A cc nL own Ts base Z) {i : Nat} {x : Int32} {lv' : List (Nat × Value)} (hd : decode cc pc = .ok (.istore i, 2)) (hn : i < nL) (h1 : lv1 lv = true) (hl' : lvs i (.int x) lv = lv') (k : gW p l e R s m args below meth c D cl A nL cells slots Q ws lv' (pc + 2) st) : gW p l e R s m args below meth c D cl A nL cells slots Q ws lv pc (.int x :: st) :=
  fun H locs _ hP hD hS hl => lv_istore C.1.1 C.1.2.1 hd hl hn rfl (fun ls' h => k H locs ls' hP hD hS (hl' ▸ lvs_has h1 h))
theorem g_astore_n (C : gC p s m args meth c D cl tys A cc nL own Ts base Z) {j : Fin 4} {i : Nat} {x : Nat} {lv' : List (Nat × Value)} (hd : decode cc pc = .ok (.astore_n j, 1)) (hi : (j : Nat) = i) (hn : i < nL) (h1 : lv1 lv = true) (hl' : lvs i (.ref x) lv = lv') (k : gW p l e R s m args below meth c D cl A nL cells slots Q ws lv' (pc + 1) st) : gW p l e R s m args below meth c D cl A nL cells slots Q ws lv pc (.ref x :: st) :=
  fun H locs _ hP hD hS hl => lv_astore_n C.1.1 C.1.2.1 hd hi hl hn rfl (fun ls' h => k H locs ls' hP hD hS (hl' ▸ lvs_has h1 h))
theorem g_astore (C : gC p s m args meth c D cl tys A cc nL own Ts base Z) {i : Nat} {x : Nat} {lv' : List (Nat × Value)} (hd : decode cc pc = .ok (.astore i, 2)) (hn : i < nL) (h1 : lv1 lv = true) (hl' : lvs i (.ref x) lv = lv') (k : gW p l e R s m args below meth c D cl A nL cells slots Q ws lv' (pc + 2) st) : gW p l e R s m args below meth c D cl A nL cells slots Q ws lv pc (.ref x :: st) :=
  fun H locs _ hP hD hS hl => lv_astore C.1.1 C.1.2.1 hd hl hn rfl (fun ls' h => k H locs ls' hP hD hS (hl' ▸ lvs_has h1 h))
theorem g_iinc (C : gC p s m args meth c D cl tys A cc nL own Ts base Z) {i q : Nat} {n z : Int} {lv' : List (Nat × Value)} (hd : decode cc pc = .ok (.iinc i n, 3)) (hq : lv[q]? = some (i, .int (iI z))) (hn : i < nL) (h1 : lv1 lv = true) (hl' : lvs i (.int (iI (z + n))) lv = lv') (k : gW p l e R s m args below meth c D cl A nL cells slots Q ws lv' (pc + 3) st) : gW p l e R s m args below meth c D cl A nL cells slots Q ws lv pc st :=
  fun H locs _ hP hD hS hl => lv_iinc C.1.1 C.1.2.1 hd hl hq (iI_add z n) hn rfl (fun ls' h => k H locs ls' hP hD hS (hl' ▸ lvs_has h1 h))
theorem g_dup (C : gC p s m args meth c D cl tys A cc nL own Ts base Z) {v : Value} (hd : decode cc pc = .ok (.dup, 1)) (hv : v.category = 1) (k : gW p l e R s m args below meth c D cl A nL cells slots Q ws lv (pc + 1) (v :: v :: st)) : gW p l e R s m args below meth c D cl A nL cells slots Q ws lv pc (v :: st) :=
  fun H locs ls hP hD hS hl => lv_dup C.1.1 C.1.2.1 hd hv (k H locs ls hP hD hS hl)
theorem g_pop (C : gC p s m args meth c D cl tys A cc nL own Ts base Z) {v : Value} (hd : decode cc pc = .ok (.pop, 1)) (hv : v.category = 1) (k : gW p l e R s m args below meth c D cl A nL cells slots Q ws lv (pc + 1) st) : gW p l e R s m args below meth c D cl A nL cells slots Q ws lv pc (v :: st) :=
  fun H locs ls hP hD hS hl => lv_pop C.1.1 C.1.2.1 hd hv (k H locs ls hP hD hS hl)
theorem g_iadd (C : gC p s m args meth c D cl tys A cc nL own Ts base Z) {a b : Int} (hd : decode cc pc = .ok (.iadd, 1)) (k : gW p l e R s m args below meth c D cl A nL cells slots Q ws lv (pc + 1) (.int (iI (a + b)) :: st)) : gW p l e R s m args below meth c D cl A nL cells slots Q ws lv pc (.int (iI b) :: .int (iI a) :: st) :=
  fun H locs ls hP hD hS hl => lv_iadd C.1.1 C.1.2.1 hd (by rw [iI_add]; exact k H locs ls hP hD hS hl)
theorem g_isub (C : gC p s m args meth c D cl tys A cc nL own Ts base Z) {a b : Int} (hd : decode cc pc = .ok (.isub, 1)) (k : gW p l e R s m args below meth c D cl A nL cells slots Q ws lv (pc + 1) (.int (iI (a - b)) :: st)) : gW p l e R s m args below meth c D cl A nL cells slots Q ws lv pc (.int (iI b) :: .int (iI a) :: st) :=
  fun H locs ls hP hD hS hl => lv_isub C.1.1 C.1.2.1 hd (by rw [iI_sub]; exact k H locs ls hP hD hS hl)
theorem g_imul (C : gC p s m args meth c D cl tys A cc nL own Ts base Z) {a b : Int} (hd : decode cc pc = .ok (.imul, 1)) (k : gW p l e R s m args below meth c D cl A nL cells slots Q ws lv (pc + 1) (.int (iI (a * b)) :: st)) : gW p l e R s m args below meth c D cl A nL cells slots Q ws lv pc (.int (iI b) :: .int (iI a) :: st) :=
  fun H locs ls hP hD hS hl => lv_imul C.1.1 C.1.2.1 hd (by rw [iI_mul]; exact k H locs ls hP hD hS hl)
theorem g_goto (C : gC p s m args meth c D cl tys A cc nL own Ts base Z) {off : Int} {tgt : Nat} (hd : decode cc pc = .ok (.goto off, 3)) (ht : (pc : Int) + off = (tgt : Int)) (k : gW p l e R s m args below meth c D cl A nL cells slots Q ws lv tgt st) : gW p l e R s m args below meth c D cl A nL cells slots Q ws lv pc st :=
  fun H locs ls hP hD hS hl => lv_goto C.1.1 C.1.2.1 hd ht (k H locs ls hP hD hS hl)
theorem g_icmp_eq (C : gC p s m args meth c D cl tys A cc nL own Ts base Z) {a b : Int} {off : Int} {tgt : Nat} (hd : decode cc pc = .ok (.if_icmp .eq off, 3)) (ht : (pc : Int) + off = (tgt : Int)) (ha : InR a) (hb : InR b) (kt : a = b → gW p l e R s m args below meth c D cl A nL cells slots Q ws lv tgt st) (kf : ¬ a = b → gW p l e R s m args below meth c D cl A nL cells slots Q ws lv (pc + 3) st) : gW p l e R s m args below meth c D cl A nL cells slots Q ws lv pc (.int (iI b) :: .int (iI a) :: st) :=
  fun H locs ls hP hD hS hl => lv_icmp_eq C.1.1 C.1.2.1 hd ht (fun h => kt (by first | exact (iI_eq ha hb).mp h | exact (iI_lt ha hb).mp h | exact (iI_le ha hb).mp h | exact (iI_lt hb ha).mp h | exact (iI_le hb ha).mp h | exact fun q => h ((iI_eq ha hb).mpr q)) H locs ls hP hD hS hl) (fun h => kf (by first | exact (iI_eq ha hb).mp h | exact Classical.byContradiction fun q => h fun z => q ((iI_eq ha hb).mp z) | exact fun q => h ((iI_eq ha hb).mpr q) | exact Int.not_lt.mp fun q => h ((iI_lt ha hb).mpr q) | exact Int.not_le.mp fun q => h ((iI_le ha hb).mpr q) | exact Int.not_lt.mp fun q => h ((iI_lt hb ha).mpr q) | exact Int.not_le.mp fun q => h ((iI_le hb ha).mpr q)) H locs ls hP hD hS hl)
theorem g_if_eq (C : gC p s m args meth c D cl tys A cc nL own Ts base Z) {a : Int} {off : Int} {tgt : Nat} (hd : decode cc pc = .ok (.ifCond .eq off, 3)) (ht : (pc : Int) + off = (tgt : Int)) (ha : InR a) (kt : a = 0 → gW p l e R s m args below meth c D cl A nL cells slots Q ws lv tgt st) (kf : ¬ a = 0 → gW p l e R s m args below meth c D cl A nL cells slots Q ws lv (pc + 3) st) : gW p l e R s m args below meth c D cl A nL cells slots Q ws lv pc (.int (iI a) :: st) := by
  have hb := InR_0
  exact fun H locs ls hP hD hS hl => lv_if_eq C.1.1 C.1.2.1 hd ht (fun h => kt (by first | exact (iI_eq ha hb).mp h | exact (iI_lt ha hb).mp h | exact (iI_le ha hb).mp h | exact (iI_lt hb ha).mp h | exact (iI_le hb ha).mp h | exact fun q => h ((iI_eq ha hb).mpr q)) H locs ls hP hD hS hl) (fun h => kf (by first | exact (iI_eq ha hb).mp h | exact Classical.byContradiction fun q => h fun z => q ((iI_eq ha hb).mp z) | exact fun q => h ((iI_eq ha hb).mpr q) | exact Int.not_lt.mp fun q => h ((iI_lt ha hb).mpr q) | exact Int.not_le.mp fun q => h ((iI_le ha hb).mpr q) | exact Int.not_lt.mp fun q => h ((iI_lt hb ha).mpr q) | exact Int.not_le.mp fun q => h ((iI_le hb ha).mpr q)) H locs ls hP hD hS hl)
theorem g_icmp_ne (C : gC p s m args meth c D cl tys A cc nL own Ts base Z) {a b : Int} {off : Int} {tgt : Nat} (hd : decode cc pc = .ok (.if_icmp .ne off, 3)) (ht : (pc : Int) + off = (tgt : Int)) (ha : InR a) (hb : InR b) (kt : ¬ a = b → gW p l e R s m args below meth c D cl A nL cells slots Q ws lv tgt st) (kf : a = b → gW p l e R s m args below meth c D cl A nL cells slots Q ws lv (pc + 3) st) : gW p l e R s m args below meth c D cl A nL cells slots Q ws lv pc (.int (iI b) :: .int (iI a) :: st) :=
  fun H locs ls hP hD hS hl => lv_icmp_ne C.1.1 C.1.2.1 hd ht (fun h => kt (by first | exact (iI_eq ha hb).mp h | exact (iI_lt ha hb).mp h | exact (iI_le ha hb).mp h | exact (iI_lt hb ha).mp h | exact (iI_le hb ha).mp h | exact fun q => h ((iI_eq ha hb).mpr q)) H locs ls hP hD hS hl) (fun h => kf (by first | exact (iI_eq ha hb).mp h | exact Classical.byContradiction fun q => h fun z => q ((iI_eq ha hb).mp z) | exact fun q => h ((iI_eq ha hb).mpr q) | exact Int.not_lt.mp fun q => h ((iI_lt ha hb).mpr q) | exact Int.not_le.mp fun q => h ((iI_le ha hb).mpr q) | exact Int.not_lt.mp fun q => h ((iI_lt hb ha).mpr q) | exact Int.not_le.mp fun q => h ((iI_le hb ha).mpr q)) H locs ls hP hD hS hl)
theorem g_if_ne (C : gC p s m args meth c D cl tys A cc nL own Ts base Z) {a : Int} {off : Int} {tgt : Nat} (hd : decode cc pc = .ok (.ifCond .ne off, 3)) (ht : (pc : Int) + off = (tgt : Int)) (ha : InR a) (kt : ¬ a = 0 → gW p l e R s m args below meth c D cl A nL cells slots Q ws lv tgt st) (kf : a = 0 → gW p l e R s m args below meth c D cl A nL cells slots Q ws lv (pc + 3) st) : gW p l e R s m args below meth c D cl A nL cells slots Q ws lv pc (.int (iI a) :: st) := by
  have hb := InR_0
  exact fun H locs ls hP hD hS hl => lv_if_ne C.1.1 C.1.2.1 hd ht (fun h => kt (by first | exact (iI_eq ha hb).mp h | exact (iI_lt ha hb).mp h | exact (iI_le ha hb).mp h | exact (iI_lt hb ha).mp h | exact (iI_le hb ha).mp h | exact fun q => h ((iI_eq ha hb).mpr q)) H locs ls hP hD hS hl) (fun h => kf (by first | exact (iI_eq ha hb).mp h | exact Classical.byContradiction fun q => h fun z => q ((iI_eq ha hb).mp z) | exact fun q => h ((iI_eq ha hb).mpr q) | exact Int.not_lt.mp fun q => h ((iI_lt ha hb).mpr q) | exact Int.not_le.mp fun q => h ((iI_le ha hb).mpr q) | exact Int.not_lt.mp fun q => h ((iI_lt hb ha).mpr q) | exact Int.not_le.mp fun q => h ((iI_le hb ha).mpr q)) H locs ls hP hD hS hl)
theorem g_icmp_lt (C : gC p s m args meth c D cl tys A cc nL own Ts base Z) {a b : Int} {off : Int} {tgt : Nat} (hd : decode cc pc = .ok (.if_icmp .lt off, 3)) (ht : (pc : Int) + off = (tgt : Int)) (ha : InR a) (hb : InR b) (kt : a < b → gW p l e R s m args below meth c D cl A nL cells slots Q ws lv tgt st) (kf : b ≤ a → gW p l e R s m args below meth c D cl A nL cells slots Q ws lv (pc + 3) st) : gW p l e R s m args below meth c D cl A nL cells slots Q ws lv pc (.int (iI b) :: .int (iI a) :: st) :=
  fun H locs ls hP hD hS hl => lv_icmp_lt C.1.1 C.1.2.1 hd ht (fun h => kt (by first | exact (iI_eq ha hb).mp h | exact (iI_lt ha hb).mp h | exact (iI_le ha hb).mp h | exact (iI_lt hb ha).mp h | exact (iI_le hb ha).mp h | exact fun q => h ((iI_eq ha hb).mpr q)) H locs ls hP hD hS hl) (fun h => kf (by first | exact (iI_eq ha hb).mp h | exact Classical.byContradiction fun q => h fun z => q ((iI_eq ha hb).mp z) | exact fun q => h ((iI_eq ha hb).mpr q) | exact Int.not_lt.mp fun q => h ((iI_lt ha hb).mpr q) | exact Int.not_le.mp fun q => h ((iI_le ha hb).mpr q) | exact Int.not_lt.mp fun q => h ((iI_lt hb ha).mpr q) | exact Int.not_le.mp fun q => h ((iI_le hb ha).mpr q)) H locs ls hP hD hS hl)
theorem g_if_lt (C : gC p s m args meth c D cl tys A cc nL own Ts base Z) {a : Int} {off : Int} {tgt : Nat} (hd : decode cc pc = .ok (.ifCond .lt off, 3)) (ht : (pc : Int) + off = (tgt : Int)) (ha : InR a) (kt : a < 0 → gW p l e R s m args below meth c D cl A nL cells slots Q ws lv tgt st) (kf : 0 ≤ a → gW p l e R s m args below meth c D cl A nL cells slots Q ws lv (pc + 3) st) : gW p l e R s m args below meth c D cl A nL cells slots Q ws lv pc (.int (iI a) :: st) := by
  have hb := InR_0
  exact fun H locs ls hP hD hS hl => lv_if_lt C.1.1 C.1.2.1 hd ht (fun h => kt (by first | exact (iI_eq ha hb).mp h | exact (iI_lt ha hb).mp h | exact (iI_le ha hb).mp h | exact (iI_lt hb ha).mp h | exact (iI_le hb ha).mp h | exact fun q => h ((iI_eq ha hb).mpr q)) H locs ls hP hD hS hl) (fun h => kf (by first | exact (iI_eq ha hb).mp h | exact Classical.byContradiction fun q => h fun z => q ((iI_eq ha hb).mp z) | exact fun q => h ((iI_eq ha hb).mpr q) | exact Int.not_lt.mp fun q => h ((iI_lt ha hb).mpr q) | exact Int.not_le.mp fun q => h ((iI_le ha hb).mpr q) | exact Int.not_lt.mp fun q => h ((iI_lt hb ha).mpr q) | exact Int.not_le.mp fun q => h ((iI_le hb ha).mpr q)) H locs ls hP hD hS hl)
theorem g_icmp_ge (C : gC p s m args meth c D cl tys A cc nL own Ts base Z) {a b : Int} {off : Int} {tgt : Nat} (hd : decode cc pc = .ok (.if_icmp .ge off, 3)) (ht : (pc : Int) + off = (tgt : Int)) (ha : InR a) (hb : InR b) (kt : b ≤ a → gW p l e R s m args below meth c D cl A nL cells slots Q ws lv tgt st) (kf : a < b → gW p l e R s m args below meth c D cl A nL cells slots Q ws lv (pc + 3) st) : gW p l e R s m args below meth c D cl A nL cells slots Q ws lv pc (.int (iI b) :: .int (iI a) :: st) :=
  fun H locs ls hP hD hS hl => lv_icmp_ge C.1.1 C.1.2.1 hd ht (fun h => kt (by first | exact (iI_eq ha hb).mp h | exact (iI_lt ha hb).mp h | exact (iI_le ha hb).mp h | exact (iI_lt hb ha).mp h | exact (iI_le hb ha).mp h | exact fun q => h ((iI_eq ha hb).mpr q)) H locs ls hP hD hS hl) (fun h => kf (by first | exact (iI_eq ha hb).mp h | exact Classical.byContradiction fun q => h fun z => q ((iI_eq ha hb).mp z) | exact fun q => h ((iI_eq ha hb).mpr q) | exact Int.not_lt.mp fun q => h ((iI_lt ha hb).mpr q) | exact Int.not_le.mp fun q => h ((iI_le ha hb).mpr q) | exact Int.not_lt.mp fun q => h ((iI_lt hb ha).mpr q) | exact Int.not_le.mp fun q => h ((iI_le hb ha).mpr q)) H locs ls hP hD hS hl)
theorem g_if_ge (C : gC p s m args meth c D cl tys A cc nL own Ts base Z) {a : Int} {off : Int} {tgt : Nat} (hd : decode cc pc = .ok (.ifCond .ge off, 3)) (ht : (pc : Int) + off = (tgt : Int)) (ha : InR a) (kt : 0 ≤ a → gW p l e R s m args below meth c D cl A nL cells slots Q ws lv tgt st) (kf : a < 0 → gW p l e R s m args below meth c D cl A nL cells slots Q ws lv (pc + 3) st) : gW p l e R s m args below meth c D cl A nL cells slots Q ws lv pc (.int (iI a) :: st) := by
  have hb := InR_0
  exact fun H locs ls hP hD hS hl => lv_if_ge C.1.1 C.1.2.1 hd ht (fun h => kt (by first | exact (iI_eq ha hb).mp h | exact (iI_lt ha hb).mp h | exact (iI_le ha hb).mp h | exact (iI_lt hb ha).mp h | exact (iI_le hb ha).mp h | exact fun q => h ((iI_eq ha hb).mpr q)) H locs ls hP hD hS hl) (fun h => kf (by first | exact (iI_eq ha hb).mp h | exact Classical.byContradiction fun q => h fun z => q ((iI_eq ha hb).mp z) | exact fun q => h ((iI_eq ha hb).mpr q) | exact Int.not_lt.mp fun q => h ((iI_lt ha hb).mpr q) | exact Int.not_le.mp fun q => h ((iI_le ha hb).mpr q) | exact Int.not_lt.mp fun q => h ((iI_lt hb ha).mpr q) | exact Int.not_le.mp fun q => h ((iI_le hb ha).mpr q)) H locs ls hP hD hS hl)
theorem g_icmp_gt (C : gC p s m args meth c D cl tys A cc nL own Ts base Z) {a b : Int} {off : Int} {tgt : Nat} (hd : decode cc pc = .ok (.if_icmp .gt off, 3)) (ht : (pc : Int) + off = (tgt : Int)) (ha : InR a) (hb : InR b) (kt : b < a → gW p l e R s m args below meth c D cl A nL cells slots Q ws lv tgt st) (kf : a ≤ b → gW p l e R s m args below meth c D cl A nL cells slots Q ws lv (pc + 3) st) : gW p l e R s m args below meth c D cl A nL cells slots Q ws lv pc (.int (iI b) :: .int (iI a) :: st) :=
  fun H locs ls hP hD hS hl => lv_icmp_gt C.1.1 C.1.2.1 hd ht (fun h => kt (by first | exact (iI_eq ha hb).mp h | exact (iI_lt ha hb).mp h | exact (iI_le ha hb).mp h | exact (iI_lt hb ha).mp h | exact (iI_le hb ha).mp h | exact fun q => h ((iI_eq ha hb).mpr q)) H locs ls hP hD hS hl) (fun h => kf (by first | exact (iI_eq ha hb).mp h | exact Classical.byContradiction fun q => h fun z => q ((iI_eq ha hb).mp z) | exact fun q => h ((iI_eq ha hb).mpr q) | exact Int.not_lt.mp fun q => h ((iI_lt ha hb).mpr q) | exact Int.not_le.mp fun q => h ((iI_le ha hb).mpr q) | exact Int.not_lt.mp fun q => h ((iI_lt hb ha).mpr q) | exact Int.not_le.mp fun q => h ((iI_le hb ha).mpr q)) H locs ls hP hD hS hl)
theorem g_if_gt (C : gC p s m args meth c D cl tys A cc nL own Ts base Z) {a : Int} {off : Int} {tgt : Nat} (hd : decode cc pc = .ok (.ifCond .gt off, 3)) (ht : (pc : Int) + off = (tgt : Int)) (ha : InR a) (kt : 0 < a → gW p l e R s m args below meth c D cl A nL cells slots Q ws lv tgt st) (kf : a ≤ 0 → gW p l e R s m args below meth c D cl A nL cells slots Q ws lv (pc + 3) st) : gW p l e R s m args below meth c D cl A nL cells slots Q ws lv pc (.int (iI a) :: st) := by
  have hb := InR_0
  exact fun H locs ls hP hD hS hl => lv_if_gt C.1.1 C.1.2.1 hd ht (fun h => kt (by first | exact (iI_eq ha hb).mp h | exact (iI_lt ha hb).mp h | exact (iI_le ha hb).mp h | exact (iI_lt hb ha).mp h | exact (iI_le hb ha).mp h | exact fun q => h ((iI_eq ha hb).mpr q)) H locs ls hP hD hS hl) (fun h => kf (by first | exact (iI_eq ha hb).mp h | exact Classical.byContradiction fun q => h fun z => q ((iI_eq ha hb).mp z) | exact fun q => h ((iI_eq ha hb).mpr q) | exact Int.not_lt.mp fun q => h ((iI_lt ha hb).mpr q) | exact Int.not_le.mp fun q => h ((iI_le ha hb).mpr q) | exact Int.not_lt.mp fun q => h ((iI_lt hb ha).mpr q) | exact Int.not_le.mp fun q => h ((iI_le hb ha).mpr q)) H locs ls hP hD hS hl)
theorem g_icmp_le (C : gC p s m args meth c D cl tys A cc nL own Ts base Z) {a b : Int} {off : Int} {tgt : Nat} (hd : decode cc pc = .ok (.if_icmp .le off, 3)) (ht : (pc : Int) + off = (tgt : Int)) (ha : InR a) (hb : InR b) (kt : a ≤ b → gW p l e R s m args below meth c D cl A nL cells slots Q ws lv tgt st) (kf : b < a → gW p l e R s m args below meth c D cl A nL cells slots Q ws lv (pc + 3) st) : gW p l e R s m args below meth c D cl A nL cells slots Q ws lv pc (.int (iI b) :: .int (iI a) :: st) :=
  fun H locs ls hP hD hS hl => lv_icmp_le C.1.1 C.1.2.1 hd ht (fun h => kt (by first | exact (iI_eq ha hb).mp h | exact (iI_lt ha hb).mp h | exact (iI_le ha hb).mp h | exact (iI_lt hb ha).mp h | exact (iI_le hb ha).mp h | exact fun q => h ((iI_eq ha hb).mpr q)) H locs ls hP hD hS hl) (fun h => kf (by first | exact (iI_eq ha hb).mp h | exact Classical.byContradiction fun q => h fun z => q ((iI_eq ha hb).mp z) | exact fun q => h ((iI_eq ha hb).mpr q) | exact Int.not_lt.mp fun q => h ((iI_lt ha hb).mpr q) | exact Int.not_le.mp fun q => h ((iI_le ha hb).mpr q) | exact Int.not_lt.mp fun q => h ((iI_lt hb ha).mpr q) | exact Int.not_le.mp fun q => h ((iI_le hb ha).mpr q)) H locs ls hP hD hS hl)
theorem g_if_le (C : gC p s m args meth c D cl tys A cc nL own Ts base Z) {a : Int} {off : Int} {tgt : Nat} (hd : decode cc pc = .ok (.ifCond .le off, 3)) (ht : (pc : Int) + off = (tgt : Int)) (ha : InR a) (kt : a ≤ 0 → gW p l e R s m args below meth c D cl A nL cells slots Q ws lv tgt st) (kf : 0 < a → gW p l e R s m args below meth c D cl A nL cells slots Q ws lv (pc + 3) st) : gW p l e R s m args below meth c D cl A nL cells slots Q ws lv pc (.int (iI a) :: st) := by
  have hb := InR_0
  exact fun H locs ls hP hD hS hl => lv_if_le C.1.1 C.1.2.1 hd ht (fun h => kt (by first | exact (iI_eq ha hb).mp h | exact (iI_lt ha hb).mp h | exact (iI_le ha hb).mp h | exact (iI_lt hb ha).mp h | exact (iI_le hb ha).mp h | exact fun q => h ((iI_eq ha hb).mpr q)) H locs ls hP hD hS hl) (fun h => kf (by first | exact (iI_eq ha hb).mp h | exact Classical.byContradiction fun q => h fun z => q ((iI_eq ha hb).mp z) | exact fun q => h ((iI_eq ha hb).mpr q) | exact Int.not_lt.mp fun q => h ((iI_lt ha hb).mpr q) | exact Int.not_le.mp fun q => h ((iI_le ha hb).mpr q) | exact Int.not_lt.mp fun q => h ((iI_lt hb ha).mpr q) | exact Int.not_le.mp fun q => h ((iI_le hb ha).mpr q)) H locs ls hP hD hS hl)
theorem gC.z (C : gC p s m args meth c D cl tys A cc nL own Ts base Z) : Z s := C.2.2.2.2.2.1 s (State.WarmedH.refl s) ⟨Nat.le_refl _, fun _ _ _ => rfl⟩
theorem g_get (C : gC p s m args meth c D cl tys A cc nL own Ts base Z) {ref Cn : String} {T : u_T} {N ci index a : Nat} {fs : List Value} {v : Value} (q0 k : Nat) (hin : ∀ w ∈ u_ws Cn T N, w ∈ Ts) (hlink : Cond.fieldLink own index ref (T k).2.1 (T k).2.2.1 ∈ Ts) (he : ws[q0]? = some (a, .inr (ci, fs))) (hc : cl[ci]? = some (Cn, T, N)) (hk : k < N) (hsame : (T k).1 = ref) (hv : fs[k]? = some v) (hd : decode cc pc = .ok (.getfield index, 3)) (kk : gW p l e R s m args below meth c D cl A nL cells slots Q ws lv (pc + 3) (v :: st)) : gW p l e R s m args below meth c D cl A nL cells slots Q ws lv pc (.ref a :: st) :=
  fun H locs ls hP hD hS hl => va_get C.1.1 C.1.2.1 C.1.2.2.2.2 hin C.1.2.2.2.1 C.2.1 hP q0 he hc k hk (C.1.2.2.2.2 _ hlink) (fun _ h => hsame ▸ h) hv hd (kk H locs ls hP hD hS hl)
theorem g_getN (C : gC p s m args meth c D cl tys A cc nL own Ts base Z) {ref Cn host : String} {T : u_T} {N ci index a : Nat} {fs : List Value} {v : Value} (q0 k : Nat) (hin : ∀ w ∈ u_ws Cn T N, w ∈ Ts) (hz : va_Nw (Cond.fieldLinkNest own index ref (T k).2.1 (T k).2.2.1 host) s) (he : ws[q0]? = some (a, .inr (ci, fs))) (hc : cl[ci]? = some (Cn, T, N)) (hk : k < N) (hsame : (T k).1 = ref) (hv : fs[k]? = some v) (hd : decode cc pc = .ok (.getfield index, 3)) (kk : gW p l e R s m args below meth c D cl A nL cells slots Q ws lv (pc + 3) (v :: st)) : gW p l e R s m args below meth c D cl A nL cells slots Q ws lv pc (.ref a :: st) :=
  fun H locs ls hP hD hS hl => va_getN C.1.1 C.1.2.1 C.1.2.2.2.2 hin C.1.2.2.2.1 C.2.1 hP q0 he hc k hk (va_Nw.use rfl hz) (fun _ h => hsame ▸ h) hv hd (kk H locs ls hP hD hS hl)
theorem g_put (C : gC p s m args meth c D cl tys A cc nL own Ts base Z) {ref Cn : String} {T : u_T} {N ci index a : Nat} {fs : List Value} {v : Value} {ty : FieldType} {ws' : va_W} (q0 k : Nat) (ty0 : Nat → FieldType) (hty : ∀ k, k < N → parseFieldDescriptor (T k).2.2.1 = some (ty0 k)) (hnm : ∀ a, a < N → ∀ b, b < N → a ≠ b → (T a).2.1 ≠ (T b).2.1) (hin : ∀ w ∈ u_ws Cn T N, w ∈ Ts) (hlink : Cond.fieldLink own index ref (T k).2.1 (T k).2.2.1 ∈ Ts) (he : ws[q0]? = some (a, .inr (ci, fs))) (hc : cl[ci]? = some (Cn, T, N)) (hk : k < N) (hsame : (T k).1 = ref) (hfin : (T k).2.2.2 = false) (hpd : parseFieldDescriptor (T k).2.2.1 = some ty) (hn : narrow ty v = v) (hfit : fits ty v = true) (hlen : k < fs.length) (hd : decode cc pc = .ok (.putfield index, 3)) (hw : ws.set q0 (a, .inr (ci, fs.set k v)) = ws') (kk : gW p l e R s m args below meth c D cl A nL cells slots Q ws' lv (pc + 3) st) : gW p l e R s m args below meth c D cl A nL cells slots Q ws lv pc (v :: .ref a :: st) := by
  subst hw
  exact fun H locs ls hP hD hS hl => va_put C.1.1 C.1.2.1 C.1.2.2.2.2 hin ty0 hty hnm C.1.2.2.2.1 C.2.1 hP hD hS q0 he hc k hk (C.1.2.2.2.2 _ hlink) (fun _ h => hsame ▸ h) hfin hpd hn hfit hlen hd (fun H1 locs1 hP1 hD1 hS1 => kk H1 locs1 ls hP1 hD1 hS1 hl)
theorem g_putN (C : gC p s m args meth c D cl tys A cc nL own Ts base Z) {ref Cn host : String} {T : u_T} {N ci index a : Nat} {fs : List Value} {v : Value} {ty : FieldType} {ws' : va_W} (q0 k : Nat) (ty0 : Nat → FieldType) (hty : ∀ k, k < N → parseFieldDescriptor (T k).2.2.1 = some (ty0 k)) (hnm : ∀ a, a < N → ∀ b, b < N → a ≠ b → (T a).2.1 ≠ (T b).2.1) (hin : ∀ w ∈ u_ws Cn T N, w ∈ Ts) (hz : va_Nw (Cond.fieldLinkNest own index ref (T k).2.1 (T k).2.2.1 host) s) (he : ws[q0]? = some (a, .inr (ci, fs))) (hc : cl[ci]? = some (Cn, T, N)) (hk : k < N) (hsame : (T k).1 = ref) (hfin : (T k).2.2.2 = false) (hpd : parseFieldDescriptor (T k).2.2.1 = some ty) (hn : narrow ty v = v) (hfit : fits ty v = true) (hlen : k < fs.length) (hd : decode cc pc = .ok (.putfield index, 3)) (hw : ws.set q0 (a, .inr (ci, fs.set k v)) = ws') (kk : gW p l e R s m args below meth c D cl A nL cells slots Q ws' lv (pc + 3) st) : gW p l e R s m args below meth c D cl A nL cells slots Q ws lv pc (v :: .ref a :: st) := by
  subst hw
  exact fun H locs ls hP hD hS hl => va_putN C.1.1 C.1.2.1 C.1.2.2.2.2 hin ty0 hty hnm C.1.2.2.2.1 C.2.1 hP hD hS q0 he hc k hk (va_Nw.use rfl hz) (fun _ h => hsame ▸ h) hfin hpd hn hfit hlen hd (fun H1 locs1 hP1 hD1 hS1 => kk H1 locs1 ls hP1 hD1 hS1 hl)
theorem g_putF (C : gC p s m args meth c D cl tys A cc nL own Ts base Z) {ref Cn : String} {T : u_T} {N ci index a : Nat} {fs : List Value} {v : Value} {ty : FieldType} {ws' : va_W} (hin2 : meth.name = "<init>") (q0 k : Nat) (ty0 : Nat → FieldType) (hty : ∀ k, k < N → parseFieldDescriptor (T k).2.2.1 = some (ty0 k)) (hnm : ∀ a, a < N → ∀ b, b < N → a ≠ b → (T a).2.1 ≠ (T b).2.1) (hin : ∀ w ∈ u_ws Cn T N, w ∈ Ts) (hlink : Cond.fieldLink own index ref (T k).2.1 (T k).2.2.1 ∈ Ts) (he : ws[q0]? = some (a, .inr (ci, fs))) (hc : cl[ci]? = some (Cn, T, N)) (hk : k < N) (hsame : (T k).1 = ref) (hfin : (T k).2.2.2 = true) (hdecl : (T k).1 = own) (hpd : parseFieldDescriptor (T k).2.2.1 = some ty) (hn : narrow ty v = v) (hfit : fits ty v = true) (hlen : k < fs.length) (hd : decode cc pc = .ok (.putfield index, 3)) (hw : ws.set q0 (a, .inr (ci, fs.set k v)) = ws') (kk : gW p l e R s m args below meth c D cl A nL cells slots Q ws' lv (pc + 3) st) : gW p l e R s m args below meth c D cl A nL cells slots Q ws lv pc (v :: .ref a :: st) := by
  subst hw
  exact fun H locs ls hP hD hS hl => va_putF C.1.1 C.1.2.1 C.1.2.2.2.2 hin ty0 hty hnm C.1.2.2.2.1 C.2.1 hP hD hS q0 he hc k hk (C.1.2.2.2.2 _ hlink) (fun _ h => hsame ▸ h) hfin hin2 hdecl hpd hn hfit hlen hd (fun H1 locs1 hP1 hD1 hS1 => kk H1 locs1 ls hP1 hD1 hS1 hl)
theorem g_iald (C : gC p s m args meth c D cl tys A cc nL own Ts base Z) {cA : ClassId} {n a : Nat} {f : Int → Int} {i : Int} (q0 t0 : Nat) (ha : ws[q0]? = some (a, .inl (cA, n, .inl (aI f)))) (ht : tys[t0]? = some (cA, .int)) (hn : n ≤ 2147483647) (hi : 0 ≤ i ∧ i < n) (hd : decode cc pc = .ok (.iaload, 1)) (kk : gW p l e R s m args below meth c D cl A nL cells slots Q ws lv (pc + 1) (.int (iI (f i)) :: st)) : gW p l e R s m args below meth c D cl A nL cells slots Q ws lv pc (.int (iI i) :: .ref a :: st) :=
  fun H locs ls hP hD hS hl => va_iald C.1.1 C.1.2.1 C.2.1 hP q0 t0 ha ht (iI_in hi.1 hi.2 (by omega)) hd (by rw [aI_at hi.1 (by omega)]; exact kk H locs ls hP hD hS hl)
theorem g_zald (C : gC p s m args meth c D cl tys A cc nL own Ts base Z) {cA : ClassId} {n a : Nat} {f : Int → Int} {i : Int} (q0 t0 : Nat) (ha : ws[q0]? = some (a, .inl (cA, n, .inl (aI f)))) (ht : tys[t0]? = some (cA, .boolean)) (hn : n ≤ 2147483647) (hi : 0 ≤ i ∧ i < n) (hd : decode cc pc = .ok (.baload, 1)) (kk : gW p l e R s m args below meth c D cl A nL cells slots Q ws lv (pc + 1) (.int (iI (f i)) :: st)) : gW p l e R s m args below meth c D cl A nL cells slots Q ws lv pc (.int (iI i) :: .ref a :: st) :=
  fun H locs ls hP hD hS hl => va_zald C.1.1 C.1.2.1 C.2.1 hP q0 t0 ha ht (iI_in hi.1 hi.2 (by omega)) hd (by rw [aI_at hi.1 (by omega)]; exact kk H locs ls hP hD hS hl)
theorem g_iast (C : gC p s m args meth c D cl tys A cc nL own Ts base Z) {cA : ClassId} {n a : Nat} {f : Int → Int} {i v : Int} {ws' : va_W} (q0 t0 : Nat) (ha : ws[q0]? = some (a, .inl (cA, n, .inl (aI f)))) (ht : tys[t0]? = some (cA, .int)) (hn : n ≤ 2147483647) (hi : 0 ≤ i ∧ i < n) (hd : decode cc pc = .ok (.iastore, 1)) (hw : ws.set q0 (a, .inl (cA, n, .inl (aI (updI f i v)))) = ws') (kk : gW p l e R s m args below meth c D cl A nL cells slots Q ws' lv (pc + 1) st) : gW p l e R s m args below meth c D cl A nL cells slots Q ws lv pc (.int (iI v) :: .int (iI i) :: .ref a :: st) := by
  subst hw
  exact fun H locs ls hP hD hS hl => va_iast C.1.1 C.1.2.1 C.2.1 hP hD hS q0 t0 ha ht (iI_in hi.1 hi.2 (by omega)) hd (fun H1 locs1 hP1 hD1 hS1 => kk H1 locs1 ls (by rw [iI_cl hi.1 (by omega), aI_upd hi.1] at hP1; exact hP1) (by rw [iI_cl hi.1 (by omega), aI_upd hi.1] at hD1; exact hD1) hS1 hl)
theorem nar_z {z : Int} (h : z = 0 ∨ z = 1) : vp_nar .boolean (iI z) = iI z := by
  rcases h with rfl | rfl <;> decide +kernel
theorem g_zast (C : gC p s m args meth c D cl tys A cc nL own Ts base Z) {cA : ClassId} {n a : Nat} {f : Int → Int} {i v : Int} {ws' : va_W} (q0 t0 : Nat) (ha : ws[q0]? = some (a, .inl (cA, n, .inl (aI f)))) (ht : tys[t0]? = some (cA, .boolean)) (hn : n ≤ 2147483647) (hi : 0 ≤ i ∧ i < n) (hv : v = 0 ∨ v = 1) (hd : decode cc pc = .ok (.bastore, 1)) (hw : ws.set q0 (a, .inl (cA, n, .inl (aI (updI f i v)))) = ws') (kk : gW p l e R s m args below meth c D cl A nL cells slots Q ws' lv (pc + 1) st) : gW p l e R s m args below meth c D cl A nL cells slots Q ws lv pc (.int (iI v) :: .int (iI i) :: .ref a :: st) := by
  subst hw
  exact fun H locs ls hP hD hS hl => va_zast C.1.1 C.1.2.1 C.2.1 hP hD hS q0 t0 ha ht (iI_in hi.1 hi.2 (by omega)) hd (fun H1 locs1 hP1 hD1 hS1 => kk H1 locs1 ls (by rw [nar_z hv, iI_cl hi.1 (by omega), aI_upd hi.1] at hP1; exact hP1) (by rw [nar_z hv, iI_cl hi.1 (by omega), aI_upd hi.1] at hD1; exact hD1) hS1 hl)
theorem g_alen (C : gC p s m args meth c D cl tys A cc nL own Ts base Z) {cA : ClassId} {a n : Nat} {x : (Nat → Int32)} {ty : FieldType} (q0 t0 : Nat) (ha : ws[q0]? = some (a, .inl (cA, n, .inl x))) (ht : tys[t0]? = some (cA, ty)) (hd : decode cc pc = .ok (.arraylength, 1)) (kk : gW p l e R s m args below meth c D cl A nL cells slots Q ws lv (pc + 1) (.int (iI (n : Int)) :: st)) : gW p l e R s m args below meth c D cl A nL cells slots Q ws lv pc (.ref a :: st) :=
  fun H locs ls hP hD hS hl => va_alen C.1.1 C.1.2.1 C.2.1 hP q0 t0 ha ht (v := iI (n : Int)) rfl hd (kk H locs ls hP hD hS hl)
/-! contracts -/
def cPre (D : va_G) (cl : List vw_C) (tys : List (ClassId × FieldType)) (base : Nat) (Z : State → Prop) (av : List Value) (ws : va_W) (sz : Nat) : Array Value → State → Prop :=
  va_Pc av (fun U => U.heap.size = sz ∧ base ≤ sz ∧ va_P D cl ws U.heap ∧ va_K D cl tys U ∧ va_D (fun q => base ≤ q) ws ∧ Z U)
def cBeh (D : va_G) (cl : List vw_C) (tys : List (ClassId × FieldType)) (ws : va_W) (sz : Nat) (w : va_W) (t : State) : Prop := va_P D cl w t.heap ∧ va_K D cl tys t ∧ va_D (va_A ws sz) w
abbrev oI (r : Option Int) : Option Value := r.map (fun z => Value.int (iI z))
def Qg (D : va_G) (cl : List vw_C) (tys : List (ClassId × FieldType)) (ws : va_W) (sz : Nat) (po : Option Int → va_W → Prop) : Array Value → State → Outcome → State → Prop :=
  fun _ st oc t => (∃ (r : Option Int) (w : va_W), oc = .returned (oI r) ∧ po r w ∧ cBeh D cl tys ws sz w t) ∧ va_F (va_A ws sz) st t
def Xg (D : va_G) (cl : List vw_C) (tys : List (ClassId × FieldType)) (ws : va_W) (sz : Nat) (px : String → va_W → Prop) : String → State → State → Prop :=
  fun E st t => ∃ w : va_W, px E w ∧ cBeh D cl tys ws sz w t ∧ va_F (va_A ws sz) st t
/-- a method that returns -/
def Cn (l : Launch) (D : va_G) (cl : List vw_C) (tys : List (ClassId × FieldType)) (base : Nat) (Z : State → Prop) (y : MethodName) (wsy : List Cond) (rm : Room) (av : List Value) (ws : va_W) (po : Option Int → va_W → Prop) (mc ms : Nat) : Prop :=
  ∀ sz : Nat, Met l y wsy rm (cPre D cl tys base Z av ws sz) (Qg D cl tys ws sz po) mc ms (va_A ws sz)
/-- a method that returns or throws -/
def Cx (l : Launch) (D : va_G) (cl : List vw_C) (tys : List (ClassId × FieldType)) (base : Nat) (Z : State → Prop) (y : MethodName) (wsy : List Cond) (rm : Room) (av : List Value) (ws : va_W) (po : Option Int → va_W → Prop) (px : String → va_W → Prop) (mc ms : Nat) : Prop :=
  ∀ sz : Nat, vx_Met l y wsy rm (cPre D cl tys base Z av ws sz) (Qg D cl tys ws sz po) (Xg D cl tys ws sz px) mc ms (va_A ws sz)
/-- what a world's own facts are worth at a call -/
def ZB (Z : State → Prop) : Prop := ∀ (U : State) (g : JFrame) (mk : MethodId) (a : Array Value), Z U → Z (U.calling g mk a)
theorem cPre_blind {av : List Value} {wc : va_W} {sz : Nat} (hz : ZB Z) : FrameBlind (cPre D cl tys base Z av wc sz) := by
  intro a U g mk q
  obtain ⟨q0, q1, q2, qP, qK, qD, qZ⟩ := q
  exact ⟨q0, q1, q2, qP, va_K.moved (u := U) (U := U.calling g mk a) (Vm.Alike.refl U.vm) qK, qD, hz U g mk a qZ⟩
theorem cPre_at (C : gC p s m args meth c D cl tys A cc nL own Ts base Z) {av : List Value} {wc : va_W} {H : Heap} {locs : List Loc} (hP : va_P D cl wc H) (hD : va_D A wc) (hS : va_S A s.heap H locs) : ∀ U : State, U.heap = H → s.WarmedH U.vm → cPre D cl tys base Z av wc H.size av.toArray U := by
  intro U hU hW
  refine ⟨rfl, by rw [hU], Nat.le_trans C.2.2.2.2.1 hS.1, by rw [hU]; exact hP, va_K.moved hW.alike C.2.1, hD.weaken (fun _ _ _ h => C.2.2.2.1 _ h), C.2.2.2.2.2.1 U hW (hS.F hU)⟩
/-- behind a call that returns, over any world of the callee -/
theorem g_run {H : Heap} {locs : List Loc} {ls : Array Slot} {mc ms : Nat} {st0 : List Value} {wc : va_W} {po : Option Int → va_W → Prop} {a : Array Value} (hr : va_Run p l e R s m args below meth c H locs cells slots mc ms (F0 m pc ls st0) st (Qg D cl tys wc H.size po a) (va_A wc H.size)) (hS : va_S A s.heap H locs) (hF : ∀ q, va_A wc H.size q → A q)
    (kk : ∀ (r : Option Int) (w : va_W) (H1 : Heap) (locs1 : List Loc), po r w → va_P D cl w H1 → va_D (va_A wc H.size) w → H.size ≤ H1.size → (∀ q : Nat, q < H.size → ¬ va_A wc H.size q → H1[q]? = H[q]?) → va_S A s.heap H1 locs1 → W p l e R s m args below meth c H1 locs1 (cells + mc) (slots + ms) Q (F0 m (pc + 3) ls ((oI r).toList ++ st))) : W p l e R s m args below meth c H locs cells slots Q (F0 m pc ls st0) := by
  intro T hT X
  obtain ⟨v, st₀, t, T', L, h0, X', hL, e1, e2, ⟨⟨r, w, hv, hp, hP1, hK1, hD1⟩, hFr⟩, stp⟩ := hr T hT X
  cases hv
  obtain ⟨k1, k2, k3⟩ := vx_keep h0 e1 hS (fun q _ h => hF q h) hF hL hFr
  obtain ⟨t2, a1, b1⟩ := kk r w T'.heap (locs ++ L) hp (by rw [e1]; exact hP1) hD1 k1 k2 k3 T' rfl X'
  exact ⟨t2, stp t2 a1, b1⟩
/-- the same, of a call that may throw -/
theorem g_runx {H : Heap} {locs : List Loc} {ls : Array Slot} {mc ms : Nat} {st0 : List Value} {wc : va_W} {po : Option Int → va_W → Prop} {px : String → va_W → Prop} {a : Array Value} (hr : vx_Run p l e R s m args below meth c H locs cells slots mc ms (F0 m pc ls st0) st (Qg D cl tys wc H.size po a) (Xg D cl tys wc H.size px) (va_A wc H.size)) (hS : va_S A s.heap H locs) (hF : ∀ q, va_A wc H.size q → A q)
    (kx : ∀ (E : String) (ce : Cell) (q9 : Addr) (w : va_W) (H1 : Heap) (locs1 : List Loc), px E w → va_P D cl w H1 → va_D (va_A wc H.size) w → H.size ≤ H1.size → (∀ q : Nat, q < H.size → ¬ va_A wc H.size q → H1[q]? = H[q]?) → va_S A s.heap H1 locs1 → H1[q9]? = some ce → ce.vm = .none → s.vm.findClass E = some ce.cls → vx_W p l e R s m args below meth c H1 locs1 (cells + mc) (slots + ms) Q (F0 m pc ls st) q9)
    (kk : ∀ (r : Option Int) (w : va_W) (H1 : Heap) (locs1 : List Loc), po r w → va_P D cl w H1 → va_D (va_A wc H.size) w → H.size ≤ H1.size → (∀ q : Nat, q < H.size → ¬ va_A wc H.size q → H1[q]? = H[q]?) → va_S A s.heap H1 locs1 → W p l e R s m args below meth c H1 locs1 (cells + mc) (slots + ms) Q (F0 m (pc + 3) ls ((oI r).toList ++ st))) : W p l e R s m args below meth c H locs cells slots Q (F0 m pc ls st0) := by
  intro T hT X
  rcases hr T hT X with ⟨v, st₀, t, T', L, h0, X', hL, e1, e2, ⟨⟨r, w, hv, hp, hP1, hK1, hD1⟩, hFr⟩, stp⟩ | ⟨q, st₀, t, T', L, E, ce, h0, X', hL, e1, e2, ⟨w, hp, ⟨hP1, hK1, hD1⟩, hFr⟩, hce, hcv, hcl, stp⟩
  · cases hv
    obtain ⟨k1, k2, k3⟩ := vx_keep h0 e1 hS (fun q _ h => hF q h) hF hL hFr
    obtain ⟨t2, a1, b1⟩ := kk r w T'.heap (locs ++ L) hp (by rw [e1]; exact hP1) hD1 k1 k2 k3 T' rfl X'
    exact ⟨t2, stp t2 a1, b1⟩
  · obtain ⟨k1, k2, k3⟩ := vx_keep h0 e1 hS (fun q _ h => hF q h) hF hL hFr
    obtain ⟨t2, a1, b1⟩ := kx E ce q w T'.heap (locs ++ L) hp (by rw [e1]; exact hP1) hD1 k1 k2 k3 (by rw [e1]; exact hce) hcv hcl T' rfl X'
    exact ⟨t2, stp.trans a1, b1⟩
/-- the callee's world is the caller's; or it has none; or it is a part of it -/
theorem jn_self {H H1 : Heap} {locs1 : List Loc} {w : va_W} {A : Nat → Prop} (hF : ∀ q, va_A ws H.size q → A q) (hD1 : va_D (va_A ws H.size) w) : va_D A w := hD1.weaken (fun _ _ _ h => hF _ h)
theorem jn_nil {H H1 : Heap} (hP : va_P D cl ws H) (hk : ∀ q : Nat, q < H.size → ¬ va_A [] H.size q → H1[q]? = H[q]?) : va_P D cl ws H1 :=
  hP.kept (fun k q hq => hk q.1 (hP k q hq).lt (fun h => by
    rcases h with ⟨k', e', h'⟩ | h'
    · simp at h'
    · exact absurd (hP k q hq).lt (Nat.not_lt.mpr h')))
theorem va_A_nil {sz : Nat} {q : Nat} (h : va_A [] sz q) : sz ≤ q := by
  rcases h with ⟨k, e', h⟩ | h
  · simp at h
  · exact h
theorem g_freeW (C : gC p s m args meth c D cl tys A cc nL own Ts base Z) {H : Heap} {locs : List Loc} (hD : va_D A ws) (hS : va_S A s.heap H locs) : ∀ q, va_A ws H.size q → A q := by
  intro q h
  rcases h with ⟨k, e', h⟩ | h
  · exact hD.2 k (q, e') h
  · exact C.2.2.1 q (Nat.le_trans hS.1 h)
theorem g_freeN (C : gC p s m args meth c D cl tys A cc nL own Ts base Z) {H : Heap} {locs : List Loc} (hS : va_S A s.heap H locs) : ∀ q, va_A [] H.size q → A q := fun q h => C.2.2.1 q (Nat.le_trans hS.1 (va_A_nil h))
section GCall
variable {y : MethodName} {bytes : ByteArray} {maxL mc ms n index : Nat} {ret : Option FieldType} {wsy : List Cond} {rm : Room} {po : Option Int → va_W → Prop} {px : String → va_W → Prop} {b ci : Nat} {As : List Value} {st0 : List Value} {Cn0 : String} {host : String} {fs : List Value} {q : vw_C}
/-- invokevirtual, whole world -/
theorem g_V (C : gC p s m args meth c D cl tys A cc nL own Ts base Z) (hz : ZB Z) (hM : Cn l D cl tys base Z y wsy rm (.ref b :: As) ws po mc ms) (cw : CallW R s args own q.1 index y bytes maxL ret wsy rm mc ms n) (q0 : Nat) (he : ws[q0]? = some (b, .inr (ci, fs))) (hc : cl[ci]? = some q) (hn : As.length = n) (hst : st0 = As.reverse ++ .ref b :: st) (hW : (st.map fun v => v.category).sum ≤ 8) (hd : decode cc pc = .ok (.invokevirtual index, 3)) (hf : cells + mc ≤ R.cells ∧ slots + ms ≤ R.slots)
    (kk : ∀ (r : Option Int) (w : va_W), po r w → gW p l e R s m args below meth c D cl A nL (cells + mc) (slots + ms) Q w lv (pc + 3) ((oI r).toList ++ st)) : gW p l e R s m args below meth c D cl A nL cells slots Q ws lv pc st0 := by
  subst hst
  intro H locs ls hP hD hS hl
  exact g_run (va_runV (As := As) (rest := st) C.1 (hM H.size) cw ⟨cPre_blind hz, va_recv C.2.1 hP hc he, cPre_at C hP hD hS⟩ rfl hn hl.1 rfl (lv_room hW) hd hf) hS (g_freeW C hD hS) (fun r w H1 locs1 hp hP1 hD1 _ _ hS1 => kk r w hp H1 locs1 ls hP1 (jn_self (H1 := H1) (locs1 := locs1) (g_freeW C hD hS) hD1) hS1 hl)
/-- invokevirtual of a nest mate's private method, whole world -/
theorem g_VN (C : gC p s m args meth c D cl tys A cc nL own Ts base Z) (hz : ZB Z) (hM : Cn l D cl tys base Z y wsy rm (.ref b :: As) ws po mc ms) (cw : va_CN R s args own index y host bytes maxL ret wsy rm mc ms n ∧ (Cond.instanceMethod y).before args s = true ∧ (Cond.selects q.1 y y).before args s = true) (q0 : Nat) (he : ws[q0]? = some (b, .inr (ci, fs))) (hc : cl[ci]? = some q) (hn : As.length = n) (hst : st0 = As.reverse ++ .ref b :: st) (hW : (st.map fun v => v.category).sum ≤ 8) (hd : decode cc pc = .ok (.invokevirtual index, 3)) (hf : cells + mc ≤ R.cells ∧ slots + ms ≤ R.slots)
    (kk : ∀ (r : Option Int) (w : va_W), po r w → gW p l e R s m args below meth c D cl A nL (cells + mc) (slots + ms) Q w lv (pc + 3) ((oI r).toList ++ st)) : gW p l e R s m args below meth c D cl A nL cells slots Q ws lv pc st0 := by
  subst hst
  intro H locs ls hP hD hS hl
  exact g_run (va_runVN (As := As) (rest := st) C.1 (hM H.size) cw ⟨cPre_blind hz, va_recv C.2.1 hP hc he, cPre_at C hP hD hS⟩ rfl hn hl.1 rfl (lv_room hW) hd hf) hS (g_freeW C hD hS) (fun r w H1 locs1 hp hP1 hD1 _ _ hS1 => kk r w hp H1 locs1 ls hP1 (jn_self (H1 := H1) (locs1 := locs1) (g_freeW C hD hS) hD1) hS1 hl)
/-- invokestatic, no world -/
theorem g_S0 (C : gC p s m args meth c D cl tys A cc nL own Ts base Z) (hz : ZB Z) (hM : Cn l D cl tys base Z y wsy rm As [] po mc ms) (cw : CallB R s args own index y bytes maxL ret wsy rm mc ms n ∧ (Cond.static y).before args s = true) (hn : As.length = n) (hst : st0 = As.reverse ++ st) (hW : (st.map fun v => v.category).sum ≤ 8) (hd : decode cc pc = .ok (.invokestatic index, 3)) (hf : cells + mc ≤ R.cells ∧ slots + ms ≤ R.slots)
    (kk : ∀ (r : Option Int) (w : va_W), po r w → gW p l e R s m args below meth c D cl A nL (cells + mc) (slots + ms) Q ws lv (pc + 3) ((oI r).toList ++ st)) : gW p l e R s m args below meth c D cl A nL cells slots Q ws lv pc st0 := by
  subst hst
  intro H locs ls hP hD hS hl
  exact g_run (va_runS (As := As) (rest := st) C.1 (hM H.size) cw ⟨cPre_blind hz, cPre_at C (fun k q h => by simp at h) (hD.sub [] rfl rfl) hS⟩ rfl hn hl.1 rfl (lv_room hW) hd hf) hS (g_freeN C hS) (fun r w H1 locs1 hp _ _ _ hk hS1 => kk r w hp H1 locs1 ls (jn_nil hP hk) hD hS1 hl)
theorem g_SN0 (C : gC p s m args meth c D cl tys A cc nL own Ts base Z) (hz : ZB Z) (hM : Cn l D cl tys base Z y wsy rm As [] po mc ms) (cw : va_CN R s args own index y host bytes maxL ret wsy rm mc ms n ∧ (Cond.static y).before args s = true ∧ True) (hn : As.length = n) (hst : st0 = As.reverse ++ st) (hW : (st.map fun v => v.category).sum ≤ 8) (hd : decode cc pc = .ok (.invokestatic index, 3)) (hf : cells + mc ≤ R.cells ∧ slots + ms ≤ R.slots)
    (kk : ∀ (r : Option Int) (w : va_W), po r w → gW p l e R s m args below meth c D cl A nL (cells + mc) (slots + ms) Q ws lv (pc + 3) ((oI r).toList ++ st)) : gW p l e R s m args below meth c D cl A nL cells slots Q ws lv pc st0 := by
  subst hst
  intro H locs ls hP hD hS hl
  exact g_run (va_runSN (As := As) (rest := st) C.1 (hM H.size) cw ⟨cPre_blind hz, cPre_at C (fun k q h => by simp at h) (hD.sub [] rfl rfl) hS⟩ rfl hn hl.1 rfl (lv_room hW) hd hf) hS (g_freeN C hS) (fun r w H1 locs1 hp _ _ _ hk hS1 => kk r w hp H1 locs1 ls (jn_nil hP hk) hD hS1 hl)
/-- a frame with q thrown over it -/
def gX (p : Program) (l : Launch) (e : Env) (R : Room) (s : State) (m : MethodId) (args : Array Value) (below : List Frame) (meth : Method) (c : Code) (D : va_G) (cl : List vw_C) (A : Nat → Prop) (nL cells slots : Nat) (Q : State → Prop) (E : String) (ws : va_W) (lv : List (Nat × Value)) (pc : Nat) (st : List Value) : Prop :=
  ∀ (ce : Cell) (q9 : Addr) (H : Heap) (locs : List Loc) (ls : Array Slot), va_P D cl ws H → va_D A ws → va_S A s.heap H locs → lv_has ls nL lv → H[q9]? = some ce → ce.vm = .none → s.vm.findClass E = some ce.cls → vx_W p l e R s m args below meth c H locs cells slots Q (F0 m pc ls st) q9
/-- calls that may throw -/
theorem g_Vx (C : gC p s m args meth c D cl tys A cc nL own Ts base Z) (hz : ZB Z) (hM : Cx l D cl tys base Z y wsy rm (.ref b :: As) ws po px mc ms) (cw : CallW R s args own q.1 index y bytes maxL ret wsy rm mc ms n) (q0 : Nat) (he : ws[q0]? = some (b, .inr (ci, fs))) (hc : cl[ci]? = some q) (hn : As.length = n) (hst : st0 = As.reverse ++ .ref b :: st) (hW : (st.map fun v => v.category).sum ≤ 8) (hd : decode cc pc = .ok (.invokevirtual index, 3)) (hf : cells + mc ≤ R.cells ∧ slots + ms ≤ R.slots)
    (kx : ∀ (E : String) (w : va_W), px E w → gX p l e R s m args below meth c D cl A nL (cells + mc) (slots + ms) Q E w lv pc st)
    (kk : ∀ (r : Option Int) (w : va_W), po r w → gW p l e R s m args below meth c D cl A nL (cells + mc) (slots + ms) Q w lv (pc + 3) ((oI r).toList ++ st)) : gW p l e R s m args below meth c D cl A nL cells slots Q ws lv pc st0 := by
  subst hst
  intro H locs ls hP hD hS hl
  exact g_runx (vx_runV (As := As) (rest := st) C.1 (hM H.size) cw ⟨cPre_blind hz, va_recv C.2.1 hP hc he, cPre_at C hP hD hS⟩ rfl hn hl.1 rfl (lv_room hW) hd hf) hS (g_freeW C hD hS)
    (fun E ce q9 w H1 locs1 hp hP1 hD1 _ _ hS1 h1 h2 h3 => kx E w hp ce q9 H1 locs1 ls hP1 (jn_self (H1 := H1) (locs1 := locs1) (g_freeW C hD hS) hD1) hS1 hl h1 h2 h3)
    (fun r w H1 locs1 hp hP1 hD1 _ _ hS1 => kk r w hp H1 locs1 ls hP1 (jn_self (H1 := H1) (locs1 := locs1) (g_freeW C hD hS) hD1) hS1 hl)
theorem g_Sx0 (C : gC p s m args meth c D cl tys A cc nL own Ts base Z) (hz : ZB Z) (hM : Cx l D cl tys base Z y wsy rm As [] po px mc ms) (cw : CallB R s args own index y bytes maxL ret wsy rm mc ms n ∧ (Cond.static y).before args s = true) (hn : As.length = n) (hst : st0 = As.reverse ++ st) (hW : (st.map fun v => v.category).sum ≤ 8) (hd : decode cc pc = .ok (.invokestatic index, 3)) (hf : cells + mc ≤ R.cells ∧ slots + ms ≤ R.slots)
    (kx : ∀ (E : String) (w : va_W), px E w → gX p l e R s m args below meth c D cl A nL (cells + mc) (slots + ms) Q E ws lv pc st)
    (kk : ∀ (r : Option Int) (w : va_W), po r w → gW p l e R s m args below meth c D cl A nL (cells + mc) (slots + ms) Q ws lv (pc + 3) ((oI r).toList ++ st)) : gW p l e R s m args below meth c D cl A nL cells slots Q ws lv pc st0 := by
  subst hst
  intro H locs ls hP hD hS hl
  exact g_runx (vx_runS (As := As) (rest := st) C.1 (hM H.size) cw ⟨cPre_blind hz, cPre_at C (fun k q h => by simp at h) (hD.sub [] rfl rfl) hS⟩ rfl hn hl.1 rfl (lv_room hW) hd hf) hS (g_freeN C hS)
    (fun E ce q9 w H1 locs1 hp _ _ _ hk hS1 h1 h2 h3 => kx E w hp ce q9 H1 locs1 ls (jn_nil hP hk) hD hS1 hl h1 h2 h3)
    (fun r w H1 locs1 hp _ _ _ hk hS1 => kk r w hp H1 locs1 ls (jn_nil hP hk) hD hS1 hl)
end GCall
/-! ends -/
theorem g_iret (C : gC p s m args meth c D cl tys A cc nL own Ts base Z) {ws0 : va_W} {po : Option Int → va_W → Prop} {r : Int} {mc ms : Nat} (hA : A = va_A ws0 s.heap.size) (hr : meth.sig.returnType = some .int) (hd : decode cc pc = .ok (.ireturn, 1)) (h1 : cells ≤ mc) (h2 : slots ≤ ms) (hp : po (some r) ws) : gW p l e R s m args below meth c D cl A nL cells slots (MQ below (Qg D cl tys ws0 s.heap.size po) args s mc ms (va_A ws0 s.heap.size)) ws lv pc [.int (iI r)] := by
  subst hA
  intro H locs ls hP hD hS hl
  exact W.widen h1 h2 (W.iret C.1.1 C.1.2.1 hr (fun t ht hW => ⟨⟨some r, ws, rfl, hp, by rw [ht]; exact hP, va_K.moved hW.alike C.2.1, hD⟩, hS.F ht⟩) hS.2.2 hd C.2.2.2.2.2.2)
theorem nar_zb {z : Int} (h : z = 0 ∨ z = 1) : narrow .boolean (.int (iI z)) = .int (iI z) := by
  rcases h with rfl | rfl <;> decide +kernel
theorem g_zret (C : gC p s m args meth c D cl tys A cc nL own Ts base Z) {ws0 : va_W} {po : Option Int → va_W → Prop} {r : Int} {mc ms : Nat} (hA : A = va_A ws0 s.heap.size) (hr : meth.sig.returnType = some .boolean) (hd : decode cc pc = .ok (.ireturn, 1)) (h1 : cells ≤ mc) (h2 : slots ≤ ms) (hz : r = 0 ∨ r = 1) (hp : po (some r) ws) : gW p l e R s m args below meth c D cl A nL cells slots (MQ below (Qg D cl tys ws0 s.heap.size po) args s mc ms (va_A ws0 s.heap.size)) ws lv pc [.int (iI r)] := by
  subst hA
  intro H locs ls hP hD hS hl
  exact W.widen h1 h2 (W.zret C.1.1 C.1.2.1 hr (nar_zb hz) (fun t ht hW => ⟨⟨some r, ws, rfl, hp, by rw [ht]; exact hP, va_K.moved hW.alike C.2.1, hD⟩, hS.F ht⟩) hS.2.2 hd C.2.2.2.2.2.2)
theorem g_vret (C : gC p s m args meth c D cl tys A cc nL own Ts base Z) {ws0 : va_W} {po : Option Int → va_W → Prop} {mc ms : Nat} (hA : A = va_A ws0 s.heap.size) (hr : meth.sig.returnType = none) (hd : decode cc pc = .ok (.return_, 1)) (h1 : cells ≤ mc) (h2 : slots ≤ ms) (hp : po none ws) : gW p l e R s m args below meth c D cl A nL cells slots (MQ below (Qg D cl tys ws0 s.heap.size po) args s mc ms (va_A ws0 s.heap.size)) ws lv pc [] := by
  subst hA
  intro H locs ls hP hD hS hl
  exact W.widen h1 h2 (W.vret C.1.1 C.1.2.1 hr (fun t ht hW => ⟨⟨none, ws, rfl, hp, by rw [ht]; exact hP, va_K.moved hW.alike C.2.1, hD⟩, hS.F ht⟩) hS.2.2 hd C.2.2.2.2.2.2)
theorem g_x {Qc : Array Value → State → Outcome → State → Prop} {XC : String → State → State → Prop} {mc ms : Nat} {free : Addr → Prop} (k : gW p l e R s m args below meth c D cl A nL cells slots (MQ below Qc args s mc ms free) ws lv pc st) : gW p l e R s m args below meth c D cl A nL cells slots (vx_MQ below Qc XC args s mc ms free) ws lv pc st :=
  fun H locs ls hP hD hS hl => vx_ret (k H locs ls hP hD hS hl)
theorem g_out (C : gC p s m args meth c D cl tys A cc nL own Ts base Z) {ws0 : va_W} {po : Option Int → va_W → Prop} {px : String → va_W → Prop} {mc ms : Nat} {E : String} (hno : ∀ x ∈ c.exceptionTable.toList, False) (hA : A = va_A ws0 s.heap.size) (h1 : cells ≤ mc) (h2 : slots ≤ ms) (hp : px E ws) : gX p l e R s m args below meth c D cl A nL cells slots (vx_MQ below (Qg D cl tys ws0 s.heap.size po) (Xg D cl tys ws0 s.heap.size px) args s mc ms (va_A ws0 s.heap.size)) E ws lv pc st := by
  subst hA
  intro ce q9 H locs ls hP hD hS hl g1 g2 g3
  exact vx_out (fun x hx => (hno x hx).elim) C.2.2.2.2.2.2 g1 g2 g3 (fun t ht hW => ⟨ws, hp, ⟨by rw [ht]; exact hP, va_K.moved hW C.2.1, hD⟩, hS.F ht⟩) hS.2.2 h1 h2
/-- what a world's facts are worth later: nothing below base was written -/
def ZG (base : Nat) (Z : State → Prop) : Prop := ∀ (s U : State) (A : Nat → Prop), (∀ q : Nat, A q → base ≤ q) → base ≤ s.heap.size → s.WarmedH U.vm → va_F A s U → Z s → Z U
theorem gC_of {y : MethodName} {wsy ws' : List Cond} {rm : Room} {maxL : Nat} {ret : Option FieldType} {av : List Value} {s₁ : State} (hz : ZG base Z) (hw : wsy = Cond.code y cc maxL ret :: ws') (B : BodyLoose p l y (headSpec wsy rm) cc maxL ret e s m args below meth c s₁) (hml : c.maxLocals = maxL) (hv : cPre D cl tys base Z av ws s.heap.size args s) : gC p s m args meth c D cl tys (va_A ws s.heap.size) cc maxL y.cls wsy base Z := by
  obtain ⟨_, _, hb, _, hK, hD, hZ⟩ := hv
  have hAb : ∀ q : Nat, va_A ws s.heap.size q → base ≤ q := by
    intro q h
    rcases h with ⟨k, e', h⟩ | h
    · exact hD.2 k (q, e') h
    · exact Nat.le_trans hb h
  exact ⟨⟨B.exec, B.bytes, hml, findClass_of_methodNamed B.named, atoms_spec (ws := wsy) B.pre⟩, hK, fun q h => Or.inr h, hAb, hb, fun U hW hF => hz s U _ hAb hb hW hF hZ, B.notSynchronized⟩
theorem Cn_of {y : MethodName} {wsy ws' : List Cond} {rm : Room} {maxL mc ms : Nat} {ret : Option FieldType} {av : List Value} {po : Option Int → va_W → Prop} (hz : ZG base Z) (hy : plainName y.cls = true) (hw : wsy = Cond.code y cc maxL ret :: ws') (hlen : (lg_sl av).length ≤ maxL)
    (body : ∀ (p : Program) (e : Env) (s : State) (m : MethodId) (args : Array Value) (below : List Frame) (meth : Method) (c : Code) (A : Nat → Prop), gC p s m args meth c D cl tys A cc maxL y.cls wsy base Z → meth.sig.returnType = ret → A = va_A ws s.heap.size → meth.name = y.name → gW p l e rm s m args below meth c D cl A maxL 0 0 (MQ below (Qg D cl tys ws s.heap.size po) args s mc ms (va_A ws s.heap.size)) ws (lv_args 0 av) 0 []) : Cn l D cl tys base Z y wsy rm av ws po mc ms := by
  intro sz
  refine Met.ofW (cc := cc) (maxL := maxL) (ret := ret) hy hw ?_
  intro p e s m args below meth c s₁ B hml hv
  obtain rfl : s.heap.size = sz := hv.2.1
  have C := gC_of hz hw B hml hv
  obtain ⟨rfl, _, _, hP, hK, hD, hZ⟩ := hv
  have hl := lv_entry av (n := maxL) hlen
  rw [lg_entry_eq]
  exact body p e s m _ below meth c _ C B.returns rfl (name_of_methodNamed B.named B.method).1 s.heap [] _ hP hD.self va_S.rf hl
theorem Cx_of {y : MethodName} {wsy ws' : List Cond} {rm : Room} {maxL mc ms : Nat} {ret : Option FieldType} {av : List Value} {po : Option Int → va_W → Prop} {px : String → va_W → Prop} (hz : ZG base Z) (hy : plainName y.cls = true) (hw : wsy = Cond.code y cc maxL ret :: ws') (hlen : (lg_sl av).length ≤ maxL)
    (body : ∀ (p : Program) (e : Env) (s : State) (m : MethodId) (args : Array Value) (below : List Frame) (meth : Method) (c : Code) (A : Nat → Prop), gC p s m args meth c D cl tys A cc maxL y.cls wsy base Z → meth.sig.returnType = ret → A = va_A ws s.heap.size → (∀ x ∈ c.exceptionTable.toList, False) → gW p l e rm s m args below meth c D cl A maxL 0 0 (vx_MQ below (Qg D cl tys ws s.heap.size po) (Xg D cl tys ws s.heap.size px) args s mc ms (va_A ws s.heap.size)) ws (lv_args 0 av) 0 []) : Cx l D cl tys base Z y wsy rm av ws po px mc ms := by
  intro sz
  refine vx_ofW (cc := cc) (maxL := maxL) (ret := ret) hy hw ?_
  intro p e s m args below meth c s₁ B hml hno hv
  obtain rfl : s.heap.size = sz := hv.2.1
  have C := gC_of hz hw B hml hv
  obtain ⟨rfl, _, _, hP, hK, hD, hZ⟩ := hv
  have hl := lv_entry av (n := maxL) hlen
  rw [lg_entry_eq]
  exact body p e s m _ below meth c _ C B.returns rfl hno s.heap [] _ hP hD.self va_S.rf hl
end GB
end
