-- ===== PART A: goes FIRST, ahead of the names: the tables' words, and 'selects' of the private methods out of them =====
/-- a private method of a class that the tables say can be made, by its rows of tables_1 -/
def lw_okq (q : MethodName × Nat) : Prop := (q.1.cls ≠ "java/lang/invoke/MethodHandle" ∧ q.1.cls ≠ "java/lang/invoke/VarHandle") ∧ Cond.instantiable q.1.cls q.2 ∈ tables_1 ∧ Cond.privateMethod q.1 ∈ tables_1 ∧ Cond.instanceMethod q.1 ∈ tables_1
theorem lw_p0 : lw_okq (⟨"MailCore", "putOfIds", "(IIIIII)I"⟩, 13) := ⟨⟨by decide +kernel, by decide +kernel⟩, List.mem_of_getElem? (i := 11) (by decide +kernel), List.mem_of_getElem? (i := 224) (by decide +kernel), List.mem_of_getElem? (i := 225) (by decide +kernel)⟩
theorem lw_p1 : lw_okq (⟨"MailCore$Call", "begin", "(II)V"⟩, 12) := ⟨⟨by decide +kernel, by decide +kernel⟩, List.mem_of_getElem? (i := 107) (by decide +kernel), List.mem_of_getElem? (i := 228) (by decide +kernel), List.mem_of_getElem? (i := 229) (by decide +kernel)⟩
theorem lw_p2 : lw_okq (⟨"MailCore$Outcome", "clear", "()V"⟩, 3) := ⟨⟨by decide +kernel, by decide +kernel⟩, List.mem_of_getElem? (i := 159) (by decide +kernel), List.mem_of_getElem? (i := 263) (by decide +kernel), List.mem_of_getElem? (i := 264) (by decide +kernel)⟩
theorem lw_p3 : lw_okq (⟨"MailCore", "refusalOf", "(LMailCore$Call;I)I"⟩, 13) := ⟨⟨by decide +kernel, by decide +kernel⟩, List.mem_of_getElem? (i := 11) (by decide +kernel), List.mem_of_getElem? (i := 267) (by decide +kernel), List.mem_of_getElem? (i := 268) (by decide +kernel)⟩
theorem lw_p4 : lw_okq (⟨"MailCore", "doNamedHold", "(LMailCore$Call;I)Z"⟩, 13) := ⟨⟨by decide +kernel, by decide +kernel⟩, List.mem_of_getElem? (i := 11) (by decide +kernel), List.mem_of_getElem? (i := 297) (by decide +kernel), List.mem_of_getElem? (i := 298) (by decide +kernel)⟩
theorem lw_p5 : lw_okq (⟨"MailCore", "isGoodAhead", "(II)Z"⟩, 13) := ⟨⟨by decide +kernel, by decide +kernel⟩, List.mem_of_getElem? (i := 11) (by decide +kernel), List.mem_of_getElem? (i := 301) (by decide +kernel), List.mem_of_getElem? (i := 302) (by decide +kernel)⟩
theorem lw_p6 : lw_okq (⟨"MailCore", "doesOneHold", "(II)Z"⟩, 13) := ⟨⟨by decide +kernel, by decide +kernel⟩, List.mem_of_getElem? (i := 11) (by decide +kernel), List.mem_of_getElem? (i := 305) (by decide +kernel), List.mem_of_getElem? (i := 306) (by decide +kernel)⟩
theorem lw_p7 : lw_okq (⟨"MailCore$Outcome", "count", "(I)I"⟩, 3) := ⟨⟨by decide +kernel, by decide +kernel⟩, List.mem_of_getElem? (i := 159) (by decide +kernel), List.mem_of_getElem? (i := 309) (by decide +kernel), List.mem_of_getElem? (i := 310) (by decide +kernel)⟩
theorem lw_p8 : lw_okq (⟨"MailCore", "act", "(LMailCore$Call;LMailCore$Outcome;)I"⟩, 13) := ⟨⟨by decide +kernel, by decide +kernel⟩, List.mem_of_getElem? (i := 11) (by decide +kernel), List.mem_of_getElem? (i := 316) (by decide +kernel), List.mem_of_getElem? (i := 317) (by decide +kernel)⟩
theorem lw_p9 : lw_okq (⟨"MailCore", "tellIds", "(LMailCore$Call;LMailCore$Outcome;)I"⟩, 13) := ⟨⟨by decide +kernel, by decide +kernel⟩, List.mem_of_getElem? (i := 11) (by decide +kernel), List.mem_of_getElem? (i := 320) (by decide +kernel), List.mem_of_getElem? (i := 321) (by decide +kernel)⟩
theorem lw_p10 : lw_okq (⟨"MailCore", "takeIds", "(LMailCore$Call;)V"⟩, 13) := ⟨⟨by decide +kernel, by decide +kernel⟩, List.mem_of_getElem? (i := 11) (by decide +kernel), List.mem_of_getElem? (i := 324) (by decide +kernel), List.mem_of_getElem? (i := 325) (by decide +kernel)⟩
theorem lw_p11 : lw_okq (⟨"MailCore", "idOf", "(I)I"⟩, 13) := ⟨⟨by decide +kernel, by decide +kernel⟩, List.mem_of_getElem? (i := 11) (by decide +kernel), List.mem_of_getElem? (i := 328) (by decide +kernel), List.mem_of_getElem? (i := 329) (by decide +kernel)⟩
theorem lw_p12 : lw_okq (⟨"MailCore$Outcome", "at", "(II)I"⟩, 3) := ⟨⟨by decide +kernel, by decide +kernel⟩, List.mem_of_getElem? (i := 159) (by decide +kernel), List.mem_of_getElem? (i := 332) (by decide +kernel), List.mem_of_getElem? (i := 333) (by decide +kernel)⟩
theorem lw_p13 : lw_okq (⟨"MailCore", "addId", "(I)V"⟩, 13) := ⟨⟨by decide +kernel, by decide +kernel⟩, List.mem_of_getElem? (i := 11) (by decide +kernel), List.mem_of_getElem? (i := 337) (by decide +kernel), List.mem_of_getElem? (i := 338) (by decide +kernel)⟩
theorem lw_p14 : lw_okq (⟨"MailCore", "kindOf", "(I)LMailCore$Kind;"⟩, 13) := ⟨⟨by decide +kernel, by decide +kernel⟩, List.mem_of_getElem? (i := 11) (by decide +kernel), List.mem_of_getElem? (i := 341) (by decide +kernel), List.mem_of_getElem? (i := 342) (by decide +kernel)⟩
theorem lw_p15 : lw_okq (⟨"MailCore$Kind", "isThere", "(I)Z"⟩, 8) := ⟨⟨by decide +kernel, by decide +kernel⟩, List.mem_of_getElem? (i := 23) (by decide +kernel), List.mem_of_getElem? (i := 345) (by decide +kernel), List.mem_of_getElem? (i := 346) (by decide +kernel)⟩
def lw_privs_1 : List (MethodName × Nat) := [(⟨"MailCore", "putOfIds", "(IIIIII)I"⟩, 13), (⟨"MailCore$Call", "begin", "(II)V"⟩, 12), (⟨"MailCore$Outcome", "clear", "()V"⟩, 3), (⟨"MailCore", "refusalOf", "(LMailCore$Call;I)I"⟩, 13), (⟨"MailCore", "doNamedHold", "(LMailCore$Call;I)Z"⟩, 13), (⟨"MailCore", "isGoodAhead", "(II)Z"⟩, 13), (⟨"MailCore", "doesOneHold", "(II)Z"⟩, 13), (⟨"MailCore$Outcome", "count", "(I)I"⟩, 3), (⟨"MailCore", "act", "(LMailCore$Call;LMailCore$Outcome;)I"⟩, 13), (⟨"MailCore", "tellIds", "(LMailCore$Call;LMailCore$Outcome;)I"⟩, 13), (⟨"MailCore", "takeIds", "(LMailCore$Call;)V"⟩, 13), (⟨"MailCore", "idOf", "(I)I"⟩, 13), (⟨"MailCore$Outcome", "at", "(II)I"⟩, 3), (⟨"MailCore", "addId", "(I)V"⟩, 13), (⟨"MailCore", "kindOf", "(I)LMailCore$Kind;"⟩, 13), (⟨"MailCore$Kind", "isThere", "(I)Z"⟩, 8)]
theorem lw_r1 : ∀ q ∈ lw_privs_1, lw_okq q := List.forall_mem_cons.mpr ⟨lw_p0, List.forall_mem_cons.mpr ⟨lw_p1, List.forall_mem_cons.mpr ⟨lw_p2, List.forall_mem_cons.mpr ⟨lw_p3, List.forall_mem_cons.mpr ⟨lw_p4, List.forall_mem_cons.mpr ⟨lw_p5, List.forall_mem_cons.mpr ⟨lw_p6, List.forall_mem_cons.mpr ⟨lw_p7, List.forall_mem_cons.mpr ⟨lw_p8, List.forall_mem_cons.mpr ⟨lw_p9, List.forall_mem_cons.mpr ⟨lw_p10, List.forall_mem_cons.mpr ⟨lw_p11, List.forall_mem_cons.mpr ⟨lw_p12, List.forall_mem_cons.mpr ⟨lw_p13, List.forall_mem_cons.mpr ⟨lw_p14, List.forall_mem_cons.mpr ⟨lw_p15, fun _ h => absurd h List.not_mem_nil⟩⟩⟩⟩⟩⟩⟩⟩⟩⟩⟩⟩⟩⟩⟩⟩
theorem lw_p16 : lw_okq (⟨"MailCore$Outcome", "add", "(II)V"⟩, 3) := ⟨⟨by decide +kernel, by decide +kernel⟩, List.mem_of_getElem? (i := 159) (by decide +kernel), List.mem_of_getElem? (i := 349) (by decide +kernel), List.mem_of_getElem? (i := 350) (by decide +kernel)⟩
theorem lw_p17 : lw_okq (⟨"MailCore", "tellFitting", "(LMailCore$Call;LMailCore$Outcome;)I"⟩, 13) := ⟨⟨by decide +kernel, by decide +kernel⟩, List.mem_of_getElem? (i := 11) (by decide +kernel), List.mem_of_getElem? (i := 353) (by decide +kernel), List.mem_of_getElem? (i := 354) (by decide +kernel)⟩
theorem lw_p18 : lw_okq (⟨"MailCore", "passes", "(II)Z"⟩, 13) := ⟨⟨by decide +kernel, by decide +kernel⟩, List.mem_of_getElem? (i := 11) (by decide +kernel), List.mem_of_getElem? (i := 357) (by decide +kernel), List.mem_of_getElem? (i := 358) (by decide +kernel)⟩
theorem lw_p19 : lw_okq (⟨"MailCore", "passesOne", "(III)Z"⟩, 13) := ⟨⟨by decide +kernel, by decide +kernel⟩, List.mem_of_getElem? (i := 11) (by decide +kernel), List.mem_of_getElem? (i := 361) (by decide +kernel), List.mem_of_getElem? (i := 362) (by decide +kernel)⟩
theorem lw_p20 : lw_okq (⟨"MailCore", "isIn", "(II)Z"⟩, 13) := ⟨⟨by decide +kernel, by decide +kernel⟩, List.mem_of_getElem? (i := 11) (by decide +kernel), List.mem_of_getElem? (i := 365) (by decide +kernel), List.mem_of_getElem? (i := 366) (by decide +kernel)⟩
theorem lw_p21 : lw_okq (⟨"MailCore$Kind", "value", "(II)I"⟩, 8) := ⟨⟨by decide +kernel, by decide +kernel⟩, List.mem_of_getElem? (i := 23) (by decide +kernel), List.mem_of_getElem? (i := 369) (by decide +kernel), List.mem_of_getElem? (i := 370) (by decide +kernel)⟩
theorem lw_p22 : lw_okq (⟨"MailCore", "sortIds", "(I)V"⟩, 13) := ⟨⟨by decide +kernel, by decide +kernel⟩, List.mem_of_getElem? (i := 11) (by decide +kernel), List.mem_of_getElem? (i := 379) (by decide +kernel), List.mem_of_getElem? (i := 380) (by decide +kernel)⟩
theorem lw_p23 : lw_okq (⟨"MailCore", "weightOf", "(II)I"⟩, 13) := ⟨⟨by decide +kernel, by decide +kernel⟩, List.mem_of_getElem? (i := 11) (by decide +kernel), List.mem_of_getElem? (i := 383) (by decide +kernel), List.mem_of_getElem? (i := 384) (by decide +kernel)⟩
theorem lw_p24 : lw_okq (⟨"MailCore$Log", "tellChanges", "(LMailCore$Call;ILMailCore$Outcome;)I"⟩, 5) := ⟨⟨by decide +kernel, by decide +kernel⟩, List.mem_of_getElem? (i := 61) (by decide +kernel), List.mem_of_getElem? (i := 387) (by decide +kernel), List.mem_of_getElem? (i := 388) (by decide +kernel)⟩
theorem lw_p25 : lw_okq (⟨"MailCore$Log", "lastTellable", "(III)I"⟩, 5) := ⟨⟨by decide +kernel, by decide +kernel⟩, List.mem_of_getElem? (i := 61) (by decide +kernel), List.mem_of_getElem? (i := 392) (by decide +kernel), List.mem_of_getElem? (i := 393) (by decide +kernel)⟩
theorem lw_p26 : lw_okq (⟨"MailCore$Log", "forget", "()V"⟩, 5) := ⟨⟨by decide +kernel, by decide +kernel⟩, List.mem_of_getElem? (i := 61) (by decide +kernel), List.mem_of_getElem? (i := 396) (by decide +kernel), List.mem_of_getElem? (i := 397) (by decide +kernel)⟩
theorem lw_p27 : lw_okq (⟨"MailCore$Log", "isOf", "(III)Z"⟩, 5) := ⟨⟨by decide +kernel, by decide +kernel⟩, List.mem_of_getElem? (i := 61) (by decide +kernel), List.mem_of_getElem? (i := 400) (by decide +kernel), List.mem_of_getElem? (i := 401) (by decide +kernel)⟩
theorem lw_p28 : lw_okq (⟨"MailCore$Log", "at", "(II)I"⟩, 5) := ⟨⟨by decide +kernel, by decide +kernel⟩, List.mem_of_getElem? (i := 61) (by decide +kernel), List.mem_of_getElem? (i := 404) (by decide +kernel), List.mem_of_getElem? (i := 405) (by decide +kernel)⟩
theorem lw_p29 : lw_okq (⟨"MailCore$Log", "meet", "(II)I"⟩, 5) := ⟨⟨by decide +kernel, by decide +kernel⟩, List.mem_of_getElem? (i := 61) (by decide +kernel), List.mem_of_getElem? (i := 408) (by decide +kernel), List.mem_of_getElem? (i := 409) (by decide +kernel)⟩
theorem lw_p30 : lw_okq (⟨"MailCore$Log", "isLastOfState", "(I)Z"⟩, 5) := ⟨⟨by decide +kernel, by decide +kernel⟩, List.mem_of_getElem? (i := 61) (by decide +kernel), List.mem_of_getElem? (i := 412) (by decide +kernel), List.mem_of_getElem? (i := 413) (by decide +kernel)⟩
theorem lw_p31 : lw_okq (⟨"MailCore", "makeBox", "(LMailCore$Call;LMailCore$Outcome;)I"⟩, 13) := ⟨⟨by decide +kernel, by decide +kernel⟩, List.mem_of_getElem? (i := 11) (by decide +kernel), List.mem_of_getElem? (i := 417) (by decide +kernel), List.mem_of_getElem? (i := 418) (by decide +kernel)⟩
def lw_privs_2 : List (MethodName × Nat) := [(⟨"MailCore$Outcome", "add", "(II)V"⟩, 3), (⟨"MailCore", "tellFitting", "(LMailCore$Call;LMailCore$Outcome;)I"⟩, 13), (⟨"MailCore", "passes", "(II)Z"⟩, 13), (⟨"MailCore", "passesOne", "(III)Z"⟩, 13), (⟨"MailCore", "isIn", "(II)Z"⟩, 13), (⟨"MailCore$Kind", "value", "(II)I"⟩, 8), (⟨"MailCore", "sortIds", "(I)V"⟩, 13), (⟨"MailCore", "weightOf", "(II)I"⟩, 13), (⟨"MailCore$Log", "tellChanges", "(LMailCore$Call;ILMailCore$Outcome;)I"⟩, 5), (⟨"MailCore$Log", "lastTellable", "(III)I"⟩, 5), (⟨"MailCore$Log", "forget", "()V"⟩, 5), (⟨"MailCore$Log", "isOf", "(III)Z"⟩, 5), (⟨"MailCore$Log", "at", "(II)I"⟩, 5), (⟨"MailCore$Log", "meet", "(II)I"⟩, 5), (⟨"MailCore$Log", "isLastOfState", "(I)Z"⟩, 5), (⟨"MailCore", "makeBox", "(LMailCore$Call;LMailCore$Outcome;)I"⟩, 13)]
theorem lw_r2 : ∀ q ∈ lw_privs_2, lw_okq q := List.forall_mem_cons.mpr ⟨lw_p16, List.forall_mem_cons.mpr ⟨lw_p17, List.forall_mem_cons.mpr ⟨lw_p18, List.forall_mem_cons.mpr ⟨lw_p19, List.forall_mem_cons.mpr ⟨lw_p20, List.forall_mem_cons.mpr ⟨lw_p21, List.forall_mem_cons.mpr ⟨lw_p22, List.forall_mem_cons.mpr ⟨lw_p23, List.forall_mem_cons.mpr ⟨lw_p24, List.forall_mem_cons.mpr ⟨lw_p25, List.forall_mem_cons.mpr ⟨lw_p26, List.forall_mem_cons.mpr ⟨lw_p27, List.forall_mem_cons.mpr ⟨lw_p28, List.forall_mem_cons.mpr ⟨lw_p29, List.forall_mem_cons.mpr ⟨lw_p30, List.forall_mem_cons.mpr ⟨lw_p31, fun _ h => absurd h List.not_mem_nil⟩⟩⟩⟩⟩⟩⟩⟩⟩⟩⟩⟩⟩⟩⟩⟩
theorem lw_p32 : lw_okq (⟨"MailCore", "parentOf", "(I)I"⟩, 13) := ⟨⟨by decide +kernel, by decide +kernel⟩, List.mem_of_getElem? (i := 11) (by decide +kernel), List.mem_of_getElem? (i := 421) (by decide +kernel), List.mem_of_getElem? (i := 422) (by decide +kernel)⟩
theorem lw_p33 : lw_okq (⟨"MailCore", "isNameTaken", "(III)Z"⟩, 13) := ⟨⟨by decide +kernel, by decide +kernel⟩, List.mem_of_getElem? (i := 11) (by decide +kernel), List.mem_of_getElem? (i := 425) (by decide +kernel), List.mem_of_getElem? (i := 426) (by decide +kernel)⟩
theorem lw_p34 : lw_okq (⟨"MailCore", "depthOf", "(I)I"⟩, 13) := ⟨⟨by decide +kernel, by decide +kernel⟩, List.mem_of_getElem? (i := 11) (by decide +kernel), List.mem_of_getElem? (i := 429) (by decide +kernel), List.mem_of_getElem? (i := 430) (by decide +kernel)⟩
theorem lw_p35 : lw_okq (⟨"MailCore$Kind", "isFull", "()Z"⟩, 8) := ⟨⟨by decide +kernel, by decide +kernel⟩, List.mem_of_getElem? (i := 23) (by decide +kernel), List.mem_of_getElem? (i := 433) (by decide +kernel), List.mem_of_getElem? (i := 434) (by decide +kernel)⟩
theorem lw_p36 : lw_okq (⟨"MailCore$Kind", "add", "()I"⟩, 8) := ⟨⟨by decide +kernel, by decide +kernel⟩, List.mem_of_getElem? (i := 23) (by decide +kernel), List.mem_of_getElem? (i := 437) (by decide +kernel), List.mem_of_getElem? (i := 438) (by decide +kernel)⟩
theorem lw_p37 : lw_okq (⟨"MailCore$Kind", "set", "(III)V"⟩, 8) := ⟨⟨by decide +kernel, by decide +kernel⟩, List.mem_of_getElem? (i := 23) (by decide +kernel), List.mem_of_getElem? (i := 441) (by decide +kernel), List.mem_of_getElem? (i := 442) (by decide +kernel)⟩
theorem lw_p38 : lw_okq (⟨"MailCore$Kind", "touch", "(II)V"⟩, 8) := ⟨⟨by decide +kernel, by decide +kernel⟩, List.mem_of_getElem? (i := 23) (by decide +kernel), List.mem_of_getElem? (i := 445) (by decide +kernel), List.mem_of_getElem? (i := 446) (by decide +kernel)⟩
theorem lw_p39 : lw_okq (⟨"MailCore", "makeMail", "(LMailCore$Call;LMailCore$Outcome;)I"⟩, 13) := ⟨⟨by decide +kernel, by decide +kernel⟩, List.mem_of_getElem? (i := 11) (by decide +kernel), List.mem_of_getElem? (i := 450) (by decide +kernel), List.mem_of_getElem? (i := 451) (by decide +kernel)⟩
theorem lw_p40 : lw_okq (⟨"MailCore", "comeToThread", "(I)V"⟩, 13) := ⟨⟨by decide +kernel, by decide +kernel⟩, List.mem_of_getElem? (i := 11) (by decide +kernel), List.mem_of_getElem? (i := 454) (by decide +kernel), List.mem_of_getElem? (i := 455) (by decide +kernel)⟩
theorem lw_p41 : lw_okq (⟨"MailCore", "threadFor", "(I)I"⟩, 13) := ⟨⟨by decide +kernel, by decide +kernel⟩, List.mem_of_getElem? (i := 11) (by decide +kernel), List.mem_of_getElem? (i := 458) (by decide +kernel), List.mem_of_getElem? (i := 459) (by decide +kernel)⟩
theorem lw_p42 : lw_okq (⟨"MailCore", "doNumbersMeet", "(II)Z"⟩, 13) := ⟨⟨by decide +kernel, by decide +kernel⟩, List.mem_of_getElem? (i := 11) (by decide +kernel), List.mem_of_getElem? (i := 462) (by decide +kernel), List.mem_of_getElem? (i := 463) (by decide +kernel)⟩
theorem lw_p43 : lw_okq (⟨"MailCore", "changeIds", "(LMailCore$Call;LMailCore$Outcome;)I"⟩, 13) := ⟨⟨by decide +kernel, by decide +kernel⟩, List.mem_of_getElem? (i := 11) (by decide +kernel), List.mem_of_getElem? (i := 467) (by decide +kernel), List.mem_of_getElem? (i := 468) (by decide +kernel)⟩
theorem lw_p44 : lw_okq (⟨"MailCore", "keepAll", "()V"⟩, 13) := ⟨⟨by decide +kernel, by decide +kernel⟩, List.mem_of_getElem? (i := 11) (by decide +kernel), List.mem_of_getElem? (i := 471) (by decide +kernel), List.mem_of_getElem? (i := 472) (by decide +kernel)⟩
theorem lw_p45 : lw_okq (⟨"MailCore$Kind", "keep", "()V"⟩, 8) := ⟨⟨by decide +kernel, by decide +kernel⟩, List.mem_of_getElem? (i := 23) (by decide +kernel), List.mem_of_getElem? (i := 475) (by decide +kernel), List.mem_of_getElem? (i := 476) (by decide +kernel)⟩
theorem lw_p46 : lw_okq (⟨"MailCore", "changeBox", "(III)I"⟩, 13) := ⟨⟨by decide +kernel, by decide +kernel⟩, List.mem_of_getElem? (i := 11) (by decide +kernel), List.mem_of_getElem? (i := 480) (by decide +kernel), List.mem_of_getElem? (i := 481) (by decide +kernel)⟩
theorem lw_p47 : lw_okq (⟨"MailCore", "isAnyTooDeep", "()Z"⟩, 13) := ⟨⟨by decide +kernel, by decide +kernel⟩, List.mem_of_getElem? (i := 11) (by decide +kernel), List.mem_of_getElem? (i := 484) (by decide +kernel), List.mem_of_getElem? (i := 485) (by decide +kernel)⟩
def lw_privs_3 : List (MethodName × Nat) := [(⟨"MailCore", "parentOf", "(I)I"⟩, 13), (⟨"MailCore", "isNameTaken", "(III)Z"⟩, 13), (⟨"MailCore", "depthOf", "(I)I"⟩, 13), (⟨"MailCore$Kind", "isFull", "()Z"⟩, 8), (⟨"MailCore$Kind", "add", "()I"⟩, 8), (⟨"MailCore$Kind", "set", "(III)V"⟩, 8), (⟨"MailCore$Kind", "touch", "(II)V"⟩, 8), (⟨"MailCore", "makeMail", "(LMailCore$Call;LMailCore$Outcome;)I"⟩, 13), (⟨"MailCore", "comeToThread", "(I)V"⟩, 13), (⟨"MailCore", "threadFor", "(I)I"⟩, 13), (⟨"MailCore", "doNumbersMeet", "(II)Z"⟩, 13), (⟨"MailCore", "changeIds", "(LMailCore$Call;LMailCore$Outcome;)I"⟩, 13), (⟨"MailCore", "keepAll", "()V"⟩, 13), (⟨"MailCore$Kind", "keep", "()V"⟩, 8), (⟨"MailCore", "changeBox", "(III)I"⟩, 13), (⟨"MailCore", "isAnyTooDeep", "()Z"⟩, 13)]
theorem lw_r3 : ∀ q ∈ lw_privs_3, lw_okq q := List.forall_mem_cons.mpr ⟨lw_p32, List.forall_mem_cons.mpr ⟨lw_p33, List.forall_mem_cons.mpr ⟨lw_p34, List.forall_mem_cons.mpr ⟨lw_p35, List.forall_mem_cons.mpr ⟨lw_p36, List.forall_mem_cons.mpr ⟨lw_p37, List.forall_mem_cons.mpr ⟨lw_p38, List.forall_mem_cons.mpr ⟨lw_p39, List.forall_mem_cons.mpr ⟨lw_p40, List.forall_mem_cons.mpr ⟨lw_p41, List.forall_mem_cons.mpr ⟨lw_p42, List.forall_mem_cons.mpr ⟨lw_p43, List.forall_mem_cons.mpr ⟨lw_p44, List.forall_mem_cons.mpr ⟨lw_p45, List.forall_mem_cons.mpr ⟨lw_p46, List.forall_mem_cons.mpr ⟨lw_p47, fun _ h => absurd h List.not_mem_nil⟩⟩⟩⟩⟩⟩⟩⟩⟩⟩⟩⟩⟩⟩⟩⟩
theorem lw_p48 : lw_okq (⟨"MailCore", "changeMail", "(III)I"⟩, 13) := ⟨⟨by decide +kernel, by decide +kernel⟩, List.mem_of_getElem? (i := 11) (by decide +kernel), List.mem_of_getElem? (i := 488) (by decide +kernel), List.mem_of_getElem? (i := 489) (by decide +kernel)⟩
theorem lw_p49 : lw_okq (⟨"MailCore", "bringAllBack", "()V"⟩, 13) := ⟨⟨by decide +kernel, by decide +kernel⟩, List.mem_of_getElem? (i := 11) (by decide +kernel), List.mem_of_getElem? (i := 492) (by decide +kernel), List.mem_of_getElem? (i := 493) (by decide +kernel)⟩
theorem lw_p50 : lw_okq (⟨"MailCore$Kind", "bringBack", "()V"⟩, 8) := ⟨⟨by decide +kernel, by decide +kernel⟩, List.mem_of_getElem? (i := 23) (by decide +kernel), List.mem_of_getElem? (i := 496) (by decide +kernel), List.mem_of_getElem? (i := 497) (by decide +kernel)⟩
theorem lw_p51 : lw_okq (⟨"MailCore$Kind", "forgetTouched", "()V"⟩, 8) := ⟨⟨by decide +kernel, by decide +kernel⟩, List.mem_of_getElem? (i := 23) (by decide +kernel), List.mem_of_getElem? (i := 500) (by decide +kernel), List.mem_of_getElem? (i := 501) (by decide +kernel)⟩
theorem lw_p52 : lw_okq (⟨"MailCore$Kind", "isTouched", "(I)Z"⟩, 8) := ⟨⟨by decide +kernel, by decide +kernel⟩, List.mem_of_getElem? (i := 23) (by decide +kernel), List.mem_of_getElem? (i := 504) (by decide +kernel), List.mem_of_getElem? (i := 505) (by decide +kernel)⟩
theorem lw_p53 : lw_okq (⟨"MailCore", "destroyIds", "(LMailCore$Call;LMailCore$Outcome;)I"⟩, 13) := ⟨⟨by decide +kernel, by decide +kernel⟩, List.mem_of_getElem? (i := 11) (by decide +kernel), List.mem_of_getElem? (i := 508) (by decide +kernel), List.mem_of_getElem? (i := 509) (by decide +kernel)⟩
theorem lw_p54 : lw_okq (⟨"MailCore", "destroyBox", "(I)I"⟩, 13) := ⟨⟨by decide +kernel, by decide +kernel⟩, List.mem_of_getElem? (i := 11) (by decide +kernel), List.mem_of_getElem? (i := 512) (by decide +kernel), List.mem_of_getElem? (i := 513) (by decide +kernel)⟩
theorem lw_p55 : lw_okq (⟨"MailCore$Kind", "howManyWith", "(II)I"⟩, 8) := ⟨⟨by decide +kernel, by decide +kernel⟩, List.mem_of_getElem? (i := 23) (by decide +kernel), List.mem_of_getElem? (i := 516) (by decide +kernel), List.mem_of_getElem? (i := 517) (by decide +kernel)⟩
theorem lw_p56 : lw_okq (⟨"MailCore", "mailsIn", "(I)I"⟩, 13) := ⟨⟨by decide +kernel, by decide +kernel⟩, List.mem_of_getElem? (i := 11) (by decide +kernel), List.mem_of_getElem? (i := 522) (by decide +kernel), List.mem_of_getElem? (i := 523) (by decide +kernel)⟩
theorem lw_p57 : lw_okq (⟨"MailCore$Kind", "remove", "(I)V"⟩, 8) := ⟨⟨by decide +kernel, by decide +kernel⟩, List.mem_of_getElem? (i := 23) (by decide +kernel), List.mem_of_getElem? (i := 526) (by decide +kernel), List.mem_of_getElem? (i := 527) (by decide +kernel)⟩
theorem lw_p58 : lw_okq (⟨"MailCore", "destroyMail", "(I)I"⟩, 13) := ⟨⟨by decide +kernel, by decide +kernel⟩, List.mem_of_getElem? (i := 11) (by decide +kernel), List.mem_of_getElem? (i := 530) (by decide +kernel), List.mem_of_getElem? (i := 531) (by decide +kernel)⟩
theorem lw_p59 : lw_okq (⟨"MailCore", "leaveThread", "(I)V"⟩, 13) := ⟨⟨by decide +kernel, by decide +kernel⟩, List.mem_of_getElem? (i := 11) (by decide +kernel), List.mem_of_getElem? (i := 534) (by decide +kernel), List.mem_of_getElem? (i := 535) (by decide +kernel)⟩
theorem lw_p60 : lw_okq (⟨"MailCore", "logTouched", "()V"⟩, 13) := ⟨⟨by decide +kernel, by decide +kernel⟩, List.mem_of_getElem? (i := 11) (by decide +kernel), List.mem_of_getElem? (i := 538) (by decide +kernel), List.mem_of_getElem? (i := 539) (by decide +kernel)⟩
theorem lw_p61 : lw_okq (⟨"MailCore$Log", "add", "(IIII)V"⟩, 5) := ⟨⟨by decide +kernel, by decide +kernel⟩, List.mem_of_getElem? (i := 61) (by decide +kernel), List.mem_of_getElem? (i := 542) (by decide +kernel), List.mem_of_getElem? (i := 543) (by decide +kernel)⟩
theorem lw_p62 : lw_okq (⟨"MailCore$Log", "driveOut", "()V"⟩, 5) := ⟨⟨by decide +kernel, by decide +kernel⟩, List.mem_of_getElem? (i := 61) (by decide +kernel), List.mem_of_getElem? (i := 546) (by decide +kernel), List.mem_of_getElem? (i := 547) (by decide +kernel)⟩
theorem lw_p63 : lw_okq (⟨"MailCore$Kind", "howMany", "()I"⟩, 8) := ⟨⟨by decide +kernel, by decide +kernel⟩, List.mem_of_getElem? (i := 23) (by decide +kernel), List.mem_of_getElem? (i := 575) (by decide +kernel), List.mem_of_getElem? (i := 576) (by decide +kernel)⟩
def lw_privs_4 : List (MethodName × Nat) := [(⟨"MailCore", "changeMail", "(III)I"⟩, 13), (⟨"MailCore", "bringAllBack", "()V"⟩, 13), (⟨"MailCore$Kind", "bringBack", "()V"⟩, 8), (⟨"MailCore$Kind", "forgetTouched", "()V"⟩, 8), (⟨"MailCore$Kind", "isTouched", "(I)Z"⟩, 8), (⟨"MailCore", "destroyIds", "(LMailCore$Call;LMailCore$Outcome;)I"⟩, 13), (⟨"MailCore", "destroyBox", "(I)I"⟩, 13), (⟨"MailCore$Kind", "howManyWith", "(II)I"⟩, 8), (⟨"MailCore", "mailsIn", "(I)I"⟩, 13), (⟨"MailCore$Kind", "remove", "(I)V"⟩, 8), (⟨"MailCore", "destroyMail", "(I)I"⟩, 13), (⟨"MailCore", "leaveThread", "(I)V"⟩, 13), (⟨"MailCore", "logTouched", "()V"⟩, 13), (⟨"MailCore$Log", "add", "(IIII)V"⟩, 5), (⟨"MailCore$Log", "driveOut", "()V"⟩, 5), (⟨"MailCore$Kind", "howMany", "()I"⟩, 8)]
theorem lw_r4 : ∀ q ∈ lw_privs_4, lw_okq q := List.forall_mem_cons.mpr ⟨lw_p48, List.forall_mem_cons.mpr ⟨lw_p49, List.forall_mem_cons.mpr ⟨lw_p50, List.forall_mem_cons.mpr ⟨lw_p51, List.forall_mem_cons.mpr ⟨lw_p52, List.forall_mem_cons.mpr ⟨lw_p53, List.forall_mem_cons.mpr ⟨lw_p54, List.forall_mem_cons.mpr ⟨lw_p55, List.forall_mem_cons.mpr ⟨lw_p56, List.forall_mem_cons.mpr ⟨lw_p57, List.forall_mem_cons.mpr ⟨lw_p58, List.forall_mem_cons.mpr ⟨lw_p59, List.forall_mem_cons.mpr ⟨lw_p60, List.forall_mem_cons.mpr ⟨lw_p61, List.forall_mem_cons.mpr ⟨lw_p62, List.forall_mem_cons.mpr ⟨lw_p63, fun _ h => absurd h List.not_mem_nil⟩⟩⟩⟩⟩⟩⟩⟩⟩⟩⟩⟩⟩⟩⟩⟩
theorem lw_p64 : lw_okq (⟨"MailCore$Kind", "idWith", "(III)I"⟩, 8) := ⟨⟨by decide +kernel, by decide +kernel⟩, List.mem_of_getElem? (i := 23) (by decide +kernel), List.mem_of_getElem? (i := 598) (by decide +kernel), List.mem_of_getElem? (i := 599) (by decide +kernel)⟩
theorem lw_p65 : lw_okq (⟨"MailCore$Filters", "isThere", "(I)Z"⟩, 4) := ⟨⟨by decide +kernel, by decide +kernel⟩, List.mem_of_getElem? (i := 85) (by decide +kernel), List.mem_of_getElem? (i := 611) (by decide +kernel), List.mem_of_getElem? (i := 612) (by decide +kernel)⟩
theorem lw_p66 : lw_okq (⟨"MailCore$Filters", "add", "(III)I"⟩, 4) := ⟨⟨by decide +kernel, by decide +kernel⟩, List.mem_of_getElem? (i := 85) (by decide +kernel), List.mem_of_getElem? (i := 615) (by decide +kernel), List.mem_of_getElem? (i := 616) (by decide +kernel)⟩
theorem lw_p67 : lw_okq (⟨"MailCoreModel", "comes", "(IIIIII)I"⟩, 29) := ⟨⟨by decide +kernel, by decide +kernel⟩, List.mem_of_getElem? (i := 623) (by decide +kernel), List.mem_of_getElem? (i := 729) (by decide +kernel), List.mem_of_getElem? (i := 730) (by decide +kernel)⟩
theorem lw_p68 : lw_okq (⟨"MailCoreModel", "keepEntries", "()V"⟩, 29) := ⟨⟨by decide +kernel, by decide +kernel⟩, List.mem_of_getElem? (i := 623) (by decide +kernel), List.mem_of_getElem? (i := 768) (by decide +kernel), List.mem_of_getElem? (i := 769) (by decide +kernel)⟩
theorem lw_p69 : lw_okq (⟨"MailCoreModel", "clearRows", "(I)V"⟩, 29) := ⟨⟨by decide +kernel, by decide +kernel⟩, List.mem_of_getElem? (i := 623) (by decide +kernel), List.mem_of_getElem? (i := 772) (by decide +kernel), List.mem_of_getElem? (i := 773) (by decide +kernel)⟩
theorem lw_p70 : lw_okq (⟨"MailCoreModel", "doCall", "()I"⟩, 29) := ⟨⟨by decide +kernel, by decide +kernel⟩, List.mem_of_getElem? (i := 623) (by decide +kernel), List.mem_of_getElem? (i := 776) (by decide +kernel), List.mem_of_getElem? (i := 777) (by decide +kernel)⟩
theorem lw_p71 : lw_okq (⟨"MailCoreModel", "doGet", "()I"⟩, 29) := ⟨⟨by decide +kernel, by decide +kernel⟩, List.mem_of_getElem? (i := 623) (by decide +kernel), List.mem_of_getElem? (i := 780) (by decide +kernel), List.mem_of_getElem? (i := 781) (by decide +kernel)⟩
theorem lw_p72 : lw_okq (⟨"MailCoreModel", "number", "(I)I"⟩, 29) := ⟨⟨by decide +kernel, by decide +kernel⟩, List.mem_of_getElem? (i := 623) (by decide +kernel), List.mem_of_getElem? (i := 784) (by decide +kernel), List.mem_of_getElem? (i := 785) (by decide +kernel)⟩
theorem lw_p73 : lw_okq (⟨"MailCoreModel", "areIds", "(II)Z"⟩, 29) := ⟨⟨by decide +kernel, by decide +kernel⟩, List.mem_of_getElem? (i := 623) (by decide +kernel), List.mem_of_getElem? (i := 791) (by decide +kernel), List.mem_of_getElem? (i := 792) (by decide +kernel)⟩
theorem lw_p74 : lw_okq (⟨"MailCoreModel", "isOne", "(I)Z"⟩, 29) := ⟨⟨by decide +kernel, by decide +kernel⟩, List.mem_of_getElem? (i := 623) (by decide +kernel), List.mem_of_getElem? (i := 795) (by decide +kernel), List.mem_of_getElem? (i := 796) (by decide +kernel)⟩
theorem lw_p75 : lw_okq (⟨"MailCoreModel", "isKnown", "(I)Z"⟩, 29) := ⟨⟨by decide +kernel, by decide +kernel⟩, List.mem_of_getElem? (i := 623) (by decide +kernel), List.mem_of_getElem? (i := 799) (by decide +kernel), List.mem_of_getElem? (i := 800) (by decide +kernel)⟩
theorem lw_p76 : lw_okq (⟨"MailCoreModel", "takeIds", "(II)V"⟩, 29) := ⟨⟨by decide +kernel, by decide +kernel⟩, List.mem_of_getElem? (i := 623) (by decide +kernel), List.mem_of_getElem? (i := 803) (by decide +kernel), List.mem_of_getElem? (i := 804) (by decide +kernel)⟩
theorem lw_p77 : lw_okq (⟨"MailCoreModel", "oneOf", "(I)I"⟩, 29) := ⟨⟨by decide +kernel, by decide +kernel⟩, List.mem_of_getElem? (i := 623) (by decide +kernel), List.mem_of_getElem? (i := 807) (by decide +kernel), List.mem_of_getElem? (i := 808) (by decide +kernel)⟩
theorem lw_p78 : lw_okq (⟨"MailCoreModel", "isThere", "([III)Z"⟩, 29) := ⟨⟨by decide +kernel, by decide +kernel⟩, List.mem_of_getElem? (i := 623) (by decide +kernel), List.mem_of_getElem? (i := 811) (by decide +kernel), List.mem_of_getElem? (i := 812) (by decide +kernel)⟩
theorem lw_p79 : lw_okq (⟨"MailCoreModel", "isBox", "([II)Z"⟩, 29) := ⟨⟨by decide +kernel, by decide +kernel⟩, List.mem_of_getElem? (i := 623) (by decide +kernel), List.mem_of_getElem? (i := 815) (by decide +kernel), List.mem_of_getElem? (i := 816) (by decide +kernel)⟩
def lw_privs_5 : List (MethodName × Nat) := [(⟨"MailCore$Kind", "idWith", "(III)I"⟩, 8), (⟨"MailCore$Filters", "isThere", "(I)Z"⟩, 4), (⟨"MailCore$Filters", "add", "(III)I"⟩, 4), (⟨"MailCoreModel", "comes", "(IIIIII)I"⟩, 29), (⟨"MailCoreModel", "keepEntries", "()V"⟩, 29), (⟨"MailCoreModel", "clearRows", "(I)V"⟩, 29), (⟨"MailCoreModel", "doCall", "()I"⟩, 29), (⟨"MailCoreModel", "doGet", "()I"⟩, 29), (⟨"MailCoreModel", "number", "(I)I"⟩, 29), (⟨"MailCoreModel", "areIds", "(II)Z"⟩, 29), (⟨"MailCoreModel", "isOne", "(I)Z"⟩, 29), (⟨"MailCoreModel", "isKnown", "(I)Z"⟩, 29), (⟨"MailCoreModel", "takeIds", "(II)V"⟩, 29), (⟨"MailCoreModel", "oneOf", "(I)I"⟩, 29), (⟨"MailCoreModel", "isThere", "([III)Z"⟩, 29), (⟨"MailCoreModel", "isBox", "([II)Z"⟩, 29)]
theorem lw_r5 : ∀ q ∈ lw_privs_5, lw_okq q := List.forall_mem_cons.mpr ⟨lw_p64, List.forall_mem_cons.mpr ⟨lw_p65, List.forall_mem_cons.mpr ⟨lw_p66, List.forall_mem_cons.mpr ⟨lw_p67, List.forall_mem_cons.mpr ⟨lw_p68, List.forall_mem_cons.mpr ⟨lw_p69, List.forall_mem_cons.mpr ⟨lw_p70, List.forall_mem_cons.mpr ⟨lw_p71, List.forall_mem_cons.mpr ⟨lw_p72, List.forall_mem_cons.mpr ⟨lw_p73, List.forall_mem_cons.mpr ⟨lw_p74, List.forall_mem_cons.mpr ⟨lw_p75, List.forall_mem_cons.mpr ⟨lw_p76, List.forall_mem_cons.mpr ⟨lw_p77, List.forall_mem_cons.mpr ⟨lw_p78, List.forall_mem_cons.mpr ⟨lw_p79, fun _ h => absurd h List.not_mem_nil⟩⟩⟩⟩⟩⟩⟩⟩⟩⟩⟩⟩⟩⟩⟩⟩
theorem lw_p80 : lw_okq (⟨"MailCoreModel", "isMail", "([II)Z"⟩, 29) := ⟨⟨by decide +kernel, by decide +kernel⟩, List.mem_of_getElem? (i := 623) (by decide +kernel), List.mem_of_getElem? (i := 819) (by decide +kernel), List.mem_of_getElem? (i := 820) (by decide +kernel)⟩
theorem lw_p81 : lw_okq (⟨"MailCoreModel", "mailsOf", "([II)I"⟩, 29) := ⟨⟨by decide +kernel, by decide +kernel⟩, List.mem_of_getElem? (i := 623) (by decide +kernel), List.mem_of_getElem? (i := 823) (by decide +kernel), List.mem_of_getElem? (i := 824) (by decide +kernel)⟩
theorem lw_p82 : lw_okq (⟨"MailCoreModel", "mailPart", "([III)I"⟩, 29) := ⟨⟨by decide +kernel, by decide +kernel⟩, List.mem_of_getElem? (i := 623) (by decide +kernel), List.mem_of_getElem? (i := 827) (by decide +kernel), List.mem_of_getElem? (i := 828) (by decide +kernel)⟩
theorem lw_p83 : lw_okq (⟨"MailCoreModel", "isGiven", "(III)Z"⟩, 29) := ⟨⟨by decide +kernel, by decide +kernel⟩, List.mem_of_getElem? (i := 623) (by decide +kernel), List.mem_of_getElem? (i := 831) (by decide +kernel), List.mem_of_getElem? (i := 832) (by decide +kernel)⟩
theorem lw_p84 : lw_okq (⟨"MailCoreModel", "give", "(III)V"⟩, 29) := ⟨⟨by decide +kernel, by decide +kernel⟩, List.mem_of_getElem? (i := 623) (by decide +kernel), List.mem_of_getElem? (i := 835) (by decide +kernel), List.mem_of_getElem? (i := 836) (by decide +kernel)⟩
theorem lw_p85 : lw_okq (⟨"MailCoreModel", "doQuery", "()I"⟩, 29) := ⟨⟨by decide +kernel, by decide +kernel⟩, List.mem_of_getElem? (i := 623) (by decide +kernel), List.mem_of_getElem? (i := 839) (by decide +kernel), List.mem_of_getElem? (i := 840) (by decide +kernel)⟩
theorem lw_p86 : lw_okq (⟨"MailCoreModel", "isFit", "(II)Z"⟩, 29) := ⟨⟨by decide +kernel, by decide +kernel⟩, List.mem_of_getElem? (i := 623) (by decide +kernel), List.mem_of_getElem? (i := 843) (by decide +kernel), List.mem_of_getElem? (i := 844) (by decide +kernel)⟩
theorem lw_p87 : lw_okq (⟨"MailCoreModel", "isOneFit", "(II)Z"⟩, 29) := ⟨⟨by decide +kernel, by decide +kernel⟩, List.mem_of_getElem? (i := 623) (by decide +kernel), List.mem_of_getElem? (i := 847) (by decide +kernel), List.mem_of_getElem? (i := 848) (by decide +kernel)⟩
theorem lw_p88 : lw_okq (⟨"MailCoreModel", "isBehind", "(III)Z"⟩, 29) := ⟨⟨by decide +kernel, by decide +kernel⟩, List.mem_of_getElem? (i := 623) (by decide +kernel), List.mem_of_getElem? (i := 851) (by decide +kernel), List.mem_of_getElem? (i := 852) (by decide +kernel)⟩
theorem lw_p89 : lw_okq (⟨"MailCoreModel", "keyOf", "(II)I"⟩, 29) := ⟨⟨by decide +kernel, by decide +kernel⟩, List.mem_of_getElem? (i := 623) (by decide +kernel), List.mem_of_getElem? (i := 855) (by decide +kernel), List.mem_of_getElem? (i := 856) (by decide +kernel)⟩
theorem lw_p90 : lw_okq (⟨"MailCoreModel", "doChanges", "()I"⟩, 29) := ⟨⟨by decide +kernel, by decide +kernel⟩, List.mem_of_getElem? (i := 623) (by decide +kernel), List.mem_of_getElem? (i := 859) (by decide +kernel), List.mem_of_getElem? (i := 860) (by decide +kernel)⟩
theorem lw_p91 : lw_okq (⟨"MailCoreModel", "countBetween", "(III)I"⟩, 29) := ⟨⟨by decide +kernel, by decide +kernel⟩, List.mem_of_getElem? (i := 623) (by decide +kernel), List.mem_of_getElem? (i := 863) (by decide +kernel), List.mem_of_getElem? (i := 864) (by decide +kernel)⟩
theorem lw_p92 : lw_okq (⟨"MailCoreModel", "between", "(IIII)I"⟩, 29) := ⟨⟨by decide +kernel, by decide +kernel⟩, List.mem_of_getElem? (i := 623) (by decide +kernel), List.mem_of_getElem? (i := 867) (by decide +kernel), List.mem_of_getElem? (i := 868) (by decide +kernel)⟩
theorem lw_p93 : lw_okq (⟨"MailCoreModel", "rowOf", "(I)I"⟩, 29) := ⟨⟨by decide +kernel, by decide +kernel⟩, List.mem_of_getElem? (i := 623) (by decide +kernel), List.mem_of_getElem? (i := 871) (by decide +kernel), List.mem_of_getElem? (i := 872) (by decide +kernel)⟩
theorem lw_p94 : lw_okq (⟨"MailCoreModel", "doMake", "()I"⟩, 29) := ⟨⟨by decide +kernel, by decide +kernel⟩, List.mem_of_getElem? (i := 623) (by decide +kernel), List.mem_of_getElem? (i := 875) (by decide +kernel), List.mem_of_getElem? (i := 876) (by decide +kernel)⟩
theorem lw_p95 : lw_okq (⟨"MailCoreModel", "makeBox", "()I"⟩, 29) := ⟨⟨by decide +kernel, by decide +kernel⟩, List.mem_of_getElem? (i := 623) (by decide +kernel), List.mem_of_getElem? (i := 879) (by decide +kernel), List.mem_of_getElem? (i := 880) (by decide +kernel)⟩
def lw_privs_6 : List (MethodName × Nat) := [(⟨"MailCoreModel", "isMail", "([II)Z"⟩, 29), (⟨"MailCoreModel", "mailsOf", "([II)I"⟩, 29), (⟨"MailCoreModel", "mailPart", "([III)I"⟩, 29), (⟨"MailCoreModel", "isGiven", "(III)Z"⟩, 29), (⟨"MailCoreModel", "give", "(III)V"⟩, 29), (⟨"MailCoreModel", "doQuery", "()I"⟩, 29), (⟨"MailCoreModel", "isFit", "(II)Z"⟩, 29), (⟨"MailCoreModel", "isOneFit", "(II)Z"⟩, 29), (⟨"MailCoreModel", "isBehind", "(III)Z"⟩, 29), (⟨"MailCoreModel", "keyOf", "(II)I"⟩, 29), (⟨"MailCoreModel", "doChanges", "()I"⟩, 29), (⟨"MailCoreModel", "countBetween", "(III)I"⟩, 29), (⟨"MailCoreModel", "between", "(IIII)I"⟩, 29), (⟨"MailCoreModel", "rowOf", "(I)I"⟩, 29), (⟨"MailCoreModel", "doMake", "()I"⟩, 29), (⟨"MailCoreModel", "makeBox", "()I"⟩, 29)]
theorem lw_r6 : ∀ q ∈ lw_privs_6, lw_okq q := List.forall_mem_cons.mpr ⟨lw_p80, List.forall_mem_cons.mpr ⟨lw_p81, List.forall_mem_cons.mpr ⟨lw_p82, List.forall_mem_cons.mpr ⟨lw_p83, List.forall_mem_cons.mpr ⟨lw_p84, List.forall_mem_cons.mpr ⟨lw_p85, List.forall_mem_cons.mpr ⟨lw_p86, List.forall_mem_cons.mpr ⟨lw_p87, List.forall_mem_cons.mpr ⟨lw_p88, List.forall_mem_cons.mpr ⟨lw_p89, List.forall_mem_cons.mpr ⟨lw_p90, List.forall_mem_cons.mpr ⟨lw_p91, List.forall_mem_cons.mpr ⟨lw_p92, List.forall_mem_cons.mpr ⟨lw_p93, List.forall_mem_cons.mpr ⟨lw_p94, List.forall_mem_cons.mpr ⟨lw_p95, fun _ h => absurd h List.not_mem_nil⟩⟩⟩⟩⟩⟩⟩⟩⟩⟩⟩⟩⟩⟩⟩⟩
theorem lw_p96 : lw_okq (⟨"MailCoreModel", "isDraft", "(III)Z"⟩, 29) := ⟨⟨by decide +kernel, by decide +kernel⟩, List.mem_of_getElem? (i := 623) (by decide +kernel), List.mem_of_getElem? (i := 883) (by decide +kernel), List.mem_of_getElem? (i := 884) (by decide +kernel)⟩
theorem lw_p97 : lw_okq (⟨"MailCoreModel", "drafted", "(I)I"⟩, 29) := ⟨⟨by decide +kernel, by decide +kernel⟩, List.mem_of_getElem? (i := 623) (by decide +kernel), List.mem_of_getElem? (i := 887) (by decide +kernel), List.mem_of_getElem? (i := 888) (by decide +kernel)⟩
theorem lw_p98 : lw_okq (⟨"MailCoreModel", "deep", "([II)I"⟩, 29) := ⟨⟨by decide +kernel, by decide +kernel⟩, List.mem_of_getElem? (i := 623) (by decide +kernel), List.mem_of_getElem? (i := 891) (by decide +kernel), List.mem_of_getElem? (i := 892) (by decide +kernel)⟩
theorem lw_p99 : lw_okq (⟨"MailCoreModel", "boxPart", "([III)I"⟩, 29) := ⟨⟨by decide +kernel, by decide +kernel⟩, List.mem_of_getElem? (i := 623) (by decide +kernel), List.mem_of_getElem? (i := 895) (by decide +kernel), List.mem_of_getElem? (i := 896) (by decide +kernel)⟩
theorem lw_p100 : lw_okq (⟨"MailCoreModel", "isNamed", "([IIII)Z"⟩, 29) := ⟨⟨by decide +kernel, by decide +kernel⟩, List.mem_of_getElem? (i := 623) (by decide +kernel), List.mem_of_getElem? (i := 899) (by decide +kernel), List.mem_of_getElem? (i := 900) (by decide +kernel)⟩
theorem lw_p101 : lw_okq (⟨"MailCoreModel", "makeMail", "()I"⟩, 29) := ⟨⟨by decide +kernel, by decide +kernel⟩, List.mem_of_getElem? (i := 623) (by decide +kernel), List.mem_of_getElem? (i := 903) (by decide +kernel), List.mem_of_getElem? (i := 904) (by decide +kernel)⟩
theorem lw_p102 : lw_okq (⟨"MailCoreModel", "gathers", "(I)Z"⟩, 29) := ⟨⟨by decide +kernel, by decide +kernel⟩, List.mem_of_getElem? (i := 623) (by decide +kernel), List.mem_of_getElem? (i := 910) (by decide +kernel), List.mem_of_getElem? (i := 911) (by decide +kernel)⟩
theorem lw_p103 : lw_okq (⟨"MailCoreModel", "hasNumber", "(II)Z"⟩, 29) := ⟨⟨by decide +kernel, by decide +kernel⟩, List.mem_of_getElem? (i := 623) (by decide +kernel), List.mem_of_getElem? (i := 914) (by decide +kernel), List.mem_of_getElem? (i := 915) (by decide +kernel)⟩
theorem lw_p104 : lw_okq (⟨"MailCoreModel", "doChange", "()I"⟩, 29) := ⟨⟨by decide +kernel, by decide +kernel⟩, List.mem_of_getElem? (i := 623) (by decide +kernel), List.mem_of_getElem? (i := 918) (by decide +kernel), List.mem_of_getElem? (i := 919) (by decide +kernel)⟩
theorem lw_p105 : lw_okq (⟨"MailCoreModel", "changeBox", "(III)I"⟩, 29) := ⟨⟨by decide +kernel, by decide +kernel⟩, List.mem_of_getElem? (i := 623) (by decide +kernel), List.mem_of_getElem? (i := 922) (by decide +kernel), List.mem_of_getElem? (i := 923) (by decide +kernel)⟩
theorem lw_p106 : lw_okq (⟨"MailCoreModel", "under", "([II)I"⟩, 29) := ⟨⟨by decide +kernel, by decide +kernel⟩, List.mem_of_getElem? (i := 623) (by decide +kernel), List.mem_of_getElem? (i := 926) (by decide +kernel), List.mem_of_getElem? (i := 927) (by decide +kernel)⟩
theorem lw_p107 : lw_okq (⟨"MailCoreModel", "changeMail", "(III)I"⟩, 29) := ⟨⟨by decide +kernel, by decide +kernel⟩, List.mem_of_getElem? (i := 623) (by decide +kernel), List.mem_of_getElem? (i := 930) (by decide +kernel), List.mem_of_getElem? (i := 931) (by decide +kernel)⟩
theorem lw_p108 : lw_okq (⟨"MailCoreModel", "isOther", "(II)Z"⟩, 29) := ⟨⟨by decide +kernel, by decide +kernel⟩, List.mem_of_getElem? (i := 623) (by decide +kernel), List.mem_of_getElem? (i := 934) (by decide +kernel), List.mem_of_getElem? (i := 935) (by decide +kernel)⟩
theorem lw_p109 : lw_okq (⟨"MailCoreModel", "doDestroy", "()I"⟩, 29) := ⟨⟨by decide +kernel, by decide +kernel⟩, List.mem_of_getElem? (i := 623) (by decide +kernel), List.mem_of_getElem? (i := 938) (by decide +kernel), List.mem_of_getElem? (i := 939) (by decide +kernel)⟩
theorem lw_p110 : lw_okq (⟨"MailCoreModel", "destroyOne", "(II)I"⟩, 29) := ⟨⟨by decide +kernel, by decide +kernel⟩, List.mem_of_getElem? (i := 623) (by decide +kernel), List.mem_of_getElem? (i := 942) (by decide +kernel), List.mem_of_getElem? (i := 943) (by decide +kernel)⟩
theorem lw_p111 : lw_okq (⟨"MailCoreModel", "settle", "()V"⟩, 29) := ⟨⟨by decide +kernel, by decide +kernel⟩, List.mem_of_getElem? (i := 623) (by decide +kernel), List.mem_of_getElem? (i := 946) (by decide +kernel), List.mem_of_getElem? (i := 947) (by decide +kernel)⟩
def lw_privs_7 : List (MethodName × Nat) := [(⟨"MailCoreModel", "isDraft", "(III)Z"⟩, 29), (⟨"MailCoreModel", "drafted", "(I)I"⟩, 29), (⟨"MailCoreModel", "deep", "([II)I"⟩, 29), (⟨"MailCoreModel", "boxPart", "([III)I"⟩, 29), (⟨"MailCoreModel", "isNamed", "([IIII)Z"⟩, 29), (⟨"MailCoreModel", "makeMail", "()I"⟩, 29), (⟨"MailCoreModel", "gathers", "(I)Z"⟩, 29), (⟨"MailCoreModel", "hasNumber", "(II)Z"⟩, 29), (⟨"MailCoreModel", "doChange", "()I"⟩, 29), (⟨"MailCoreModel", "changeBox", "(III)I"⟩, 29), (⟨"MailCoreModel", "under", "([II)I"⟩, 29), (⟨"MailCoreModel", "changeMail", "(III)I"⟩, 29), (⟨"MailCoreModel", "isOther", "(II)Z"⟩, 29), (⟨"MailCoreModel", "doDestroy", "()I"⟩, 29), (⟨"MailCoreModel", "destroyOne", "(II)I"⟩, 29), (⟨"MailCoreModel", "settle", "()V"⟩, 29)]
theorem lw_r7 : ∀ q ∈ lw_privs_7, lw_okq q := List.forall_mem_cons.mpr ⟨lw_p96, List.forall_mem_cons.mpr ⟨lw_p97, List.forall_mem_cons.mpr ⟨lw_p98, List.forall_mem_cons.mpr ⟨lw_p99, List.forall_mem_cons.mpr ⟨lw_p100, List.forall_mem_cons.mpr ⟨lw_p101, List.forall_mem_cons.mpr ⟨lw_p102, List.forall_mem_cons.mpr ⟨lw_p103, List.forall_mem_cons.mpr ⟨lw_p104, List.forall_mem_cons.mpr ⟨lw_p105, List.forall_mem_cons.mpr ⟨lw_p106, List.forall_mem_cons.mpr ⟨lw_p107, List.forall_mem_cons.mpr ⟨lw_p108, List.forall_mem_cons.mpr ⟨lw_p109, List.forall_mem_cons.mpr ⟨lw_p110, List.forall_mem_cons.mpr ⟨lw_p111, fun _ h => absurd h List.not_mem_nil⟩⟩⟩⟩⟩⟩⟩⟩⟩⟩⟩⟩⟩⟩⟩⟩
theorem lw_p112 : lw_okq (⟨"MailCoreModel", "whatOf", "(II)I"⟩, 29) := ⟨⟨by decide +kernel, by decide +kernel⟩, List.mem_of_getElem? (i := 623) (by decide +kernel), List.mem_of_getElem? (i := 950) (by decide +kernel), List.mem_of_getElem? (i := 951) (by decide +kernel)⟩
theorem lw_p113 : lw_okq (⟨"MailCoreModel", "note", "(IIII)V"⟩, 29) := ⟨⟨by decide +kernel, by decide +kernel⟩, List.mem_of_getElem? (i := 623) (by decide +kernel), List.mem_of_getElem? (i := 954) (by decide +kernel), List.mem_of_getElem? (i := 955) (by decide +kernel)⟩
theorem lw_p114 : lw_okq (⟨"MailCoreModel", "backToEntries", "()V"⟩, 29) := ⟨⟨by decide +kernel, by decide +kernel⟩, List.mem_of_getElem? (i := 623) (by decide +kernel), List.mem_of_getElem? (i := 958) (by decide +kernel), List.mem_of_getElem? (i := 959) (by decide +kernel)⟩
theorem lw_p115 : lw_okq (⟨"MailCoreModel", "isCall", "(I)Z"⟩, 29) := ⟨⟨by decide +kernel, by decide +kernel⟩, List.mem_of_getElem? (i := 623) (by decide +kernel), List.mem_of_getElem? (i := 966) (by decide +kernel), List.mem_of_getElem? (i := 967) (by decide +kernel)⟩
theorem lw_p116 : lw_okq (⟨"MailCoreModel", "thereOf", "(I)I"⟩, 29) := ⟨⟨by decide +kernel, by decide +kernel⟩, List.mem_of_getElem? (i := 623) (by decide +kernel), List.mem_of_getElem? (i := 986) (by decide +kernel), List.mem_of_getElem? (i := 987) (by decide +kernel)⟩
def lw_privs_8 : List (MethodName × Nat) := [(⟨"MailCoreModel", "whatOf", "(II)I"⟩, 29), (⟨"MailCoreModel", "note", "(IIII)V"⟩, 29), (⟨"MailCoreModel", "backToEntries", "()V"⟩, 29), (⟨"MailCoreModel", "isCall", "(I)Z"⟩, 29), (⟨"MailCoreModel", "thereOf", "(I)I"⟩, 29)]
theorem lw_r8 : ∀ q ∈ lw_privs_8, lw_okq q := List.forall_mem_cons.mpr ⟨lw_p112, List.forall_mem_cons.mpr ⟨lw_p113, List.forall_mem_cons.mpr ⟨lw_p114, List.forall_mem_cons.mpr ⟨lw_p115, List.forall_mem_cons.mpr ⟨lw_p116, fun _ h => absurd h List.not_mem_nil⟩⟩⟩⟩⟩
def lw_privs : List (MethodName × Nat) := lw_privs_1 ++ (lw_privs_2 ++ (lw_privs_3 ++ (lw_privs_4 ++ (lw_privs_5 ++ (lw_privs_6 ++ (lw_privs_7 ++ (lw_privs_8)))))))
def lw_tbl : List Cond := k2_sels lw_privs ++ tables_1
theorem lw_privs_ok : ∀ q ∈ lw_privs, lw_okq q := by
  show ∀ q ∈ lw_privs_1 ++ (lw_privs_2 ++ (lw_privs_3 ++ (lw_privs_4 ++ (lw_privs_5 ++ (lw_privs_6 ++ (lw_privs_7 ++ (lw_privs_8))))))), lw_okq q
  exact List.forall_mem_append.mpr ⟨lw_r1, List.forall_mem_append.mpr ⟨lw_r2, List.forall_mem_append.mpr ⟨lw_r3, List.forall_mem_append.mpr ⟨lw_r4, List.forall_mem_append.mpr ⟨lw_r5, List.forall_mem_append.mpr ⟨lw_r6, List.forall_mem_append.mpr ⟨lw_r7, lw_r8⟩⟩⟩⟩⟩⟩⟩
-- names
def RX0 : String := "MailCore$Call"
def TX0 : u_T := fun k => match k with
  | 0 => ("MailCore$Call", "drafted", "[I", true)
  | 1 => ("MailCore$Call", "task", "I", false)
  | 2 => ("MailCore$Call", "kind", "I", false)
  | 3 => ("MailCore$Call", "c", "I", false)
  | 4 => ("MailCore$Call", "\x72", "I", false)
  | 5 => ("MailCore$Call", "what", "I", false)
  | 6 => ("MailCore$Call", "v", "I", false)
  | 7 => ("MailCore$Call", "filterId", "I", false)
  | 8 => ("MailCore$Call", "key", "I", false)
  | 9 => ("MailCore$Call", "place", "I", false)
  | 10 => ("MailCore$Call", "most", "I", false)
  | _ => ("MailCore$Call", "since", "I", false)
def tyX0 : Nat → FieldType := fun k => match k with
  | 0 => .array .int
  | 1 => .int
  | 2 => .int
  | 3 => .int
  | 4 => .int
  | 5 => .int
  | 6 => .int
  | 7 => .int
  | 8 => .int
  | 9 => .int
  | 10 => .int
  | _ => .int
abbrev wsX00 : List Cond := u_ws RX0 TX0 12
theorem nmX0 : ∀ a, a < 12 → ∀ b, b < 12 → a ≠ b → (TX0 a).2.1 ≠ (TX0 b).2.1 := by decide +kernel
theorem tyX0_ok : ∀ k, k < 12 → parseFieldDescriptor (TX0 k).2.2.1 = some (tyX0 k) := by decide +kernel
abbrev cX0_init : ByteArray := prog_2_method_1_code
def yX0_init : MethodName := ⟨RX0, "<init>", "()V"⟩
abbrev cX0_begin : ByteArray := prog_2_method_2_code
def yX0_begin : MethodName := ⟨RX0, "begin", "(II)V"⟩
def RX1 : String := "MailCore$Filters"
def TX1 : u_T := fun k => match k with
  | 0 => ("MailCore$Filters", "kinds", "[I", true)
  | 1 => ("MailCore$Filters", "as", "[I", true)
  | 2 => ("MailCore$Filters", "bs", "[I", true)
  | _ => ("MailCore$Filters", "count", "I", false)
def tyX1 : Nat → FieldType := fun k => match k with
  | 0 => .array .int
  | 1 => .array .int
  | 2 => .array .int
  | _ => .int
abbrev wsX10 : List Cond := u_ws RX1 TX1 4
theorem nmX1 : ∀ a, a < 4 → ∀ b, b < 4 → a ≠ b → (TX1 a).2.1 ≠ (TX1 b).2.1 := by decide +kernel
theorem tyX1_ok : ∀ k, k < 4 → parseFieldDescriptor (TX1 k).2.2.1 = some (tyX1 k) := by decide +kernel
abbrev cX1_init : ByteArray := prog_3_method_1_code
def yX1_init : MethodName := ⟨RX1, "<init>", "()V"⟩
abbrev cX1_isThere : ByteArray := prog_3_method_2_code
def yX1_isThere : MethodName := ⟨RX1, "isThere", "(I)Z"⟩
abbrev cX1_add : ByteArray := prog_3_method_3_code
def yX1_add : MethodName := ⟨RX1, "add", "(III)I"⟩
def RX2 : String := "MailCore$Kind"
def TX2 : u_T := fun k => match k with
  | 0 => ("MailCore$Kind", "values", "[[I", true)
  | 1 => ("MailCore$Kind", "kept", "[[I", true)
  | 2 => ("MailCore$Kind", "touched", "[I", true)
  | 3 => ("MailCore$Kind", "mostEver", "I", true)
  | 4 => ("MailCore$Kind", "ever", "I", false)
  | 5 => ("MailCore$Kind", "keptEver", "I", false)
  | 6 => ("MailCore$Kind", "changeCount", "I", false)
  | _ => ("MailCore$Kind", "isAnyTouched", "Z", false)
def tyX2 : Nat → FieldType := fun k => match k with
  | 0 => .array (.array .int)
  | 1 => .array (.array .int)
  | 2 => .array .int
  | 3 => .int
  | 4 => .int
  | 5 => .int
  | 6 => .int
  | _ => .boolean
abbrev wsX20 : List Cond := u_ws RX2 TX2 8
theorem nmX2 : ∀ a, a < 8 → ∀ b, b < 8 → a ≠ b → (TX2 a).2.1 ≠ (TX2 b).2.1 := by decide +kernel
theorem tyX2_ok : ∀ k, k < 8 → parseFieldDescriptor (TX2 k).2.2.1 = some (tyX2 k) := by decide +kernel
abbrev cX2_init : ByteArray := prog_4_method_1_code
def yX2_init : MethodName := ⟨RX2, "<init>", "(I)V"⟩
abbrev cX2_isThere : ByteArray := prog_4_method_2_code
def yX2_isThere : MethodName := ⟨RX2, "isThere", "(I)Z"⟩
abbrev cX2_value : ByteArray := prog_4_method_3_code
def yX2_value : MethodName := ⟨RX2, "value", "(II)I"⟩
abbrev cX2_set : ByteArray := prog_4_method_4_code
def yX2_set : MethodName := ⟨RX2, "set", "(III)V"⟩
abbrev cX2_isFull : ByteArray := prog_4_method_5_code
def yX2_isFull : MethodName := ⟨RX2, "isFull", "()Z"⟩
abbrev cX2_add : ByteArray := prog_4_method_6_code
def yX2_add : MethodName := ⟨RX2, "add", "()I"⟩
abbrev cX2_remove : ByteArray := prog_4_method_7_code
def yX2_remove : MethodName := ⟨RX2, "remove", "(I)V"⟩
abbrev cX2_touch : ByteArray := prog_4_method_8_code
def yX2_touch : MethodName := ⟨RX2, "touch", "(II)V"⟩
abbrev cX2_isTouched : ByteArray := prog_4_method_9_code
def yX2_isTouched : MethodName := ⟨RX2, "isTouched", "(I)Z"⟩
abbrev cX2_howMany : ByteArray := prog_4_method_10_code
def yX2_howMany : MethodName := ⟨RX2, "howMany", "()I"⟩
abbrev cX2_howManyWith : ByteArray := prog_4_method_11_code
def yX2_howManyWith : MethodName := ⟨RX2, "howManyWith", "(II)I"⟩
abbrev cX2_idWith : ByteArray := prog_4_method_12_code
def yX2_idWith : MethodName := ⟨RX2, "idWith", "(III)I"⟩
abbrev cX2_keep : ByteArray := prog_4_method_13_code
def yX2_keep : MethodName := ⟨RX2, "keep", "()V"⟩
abbrev cX2_bringBack : ByteArray := prog_4_method_14_code
def yX2_bringBack : MethodName := ⟨RX2, "bringBack", "()V"⟩
abbrev cX2_forgetTouched : ByteArray := prog_4_method_15_code
def yX2_forgetTouched : MethodName := ⟨RX2, "forgetTouched", "()V"⟩
def RX3 : String := "MailCore$Log"
def TX3 : u_T := fun k => match k with
  | 0 => ("MailCore$Log", "entries", "[[I", true)
  | 1 => ("MailCore$Log", "lost", "[I", true)
  | 2 => ("MailCore$Log", "became", "[I", true)
  | 3 => ("MailCore$Log", "first", "I", false)
  | _ => ("MailCore$Log", "count", "I", false)
def tyX3 : Nat → FieldType := fun k => match k with
  | 0 => .array (.array .int)
  | 1 => .array .int
  | 2 => .array .int
  | 3 => .int
  | _ => .int
abbrev wsX30 : List Cond := u_ws RX3 TX3 5
theorem nmX3 : ∀ a, a < 5 → ∀ b, b < 5 → a ≠ b → (TX3 a).2.1 ≠ (TX3 b).2.1 := by decide +kernel
theorem tyX3_ok : ∀ k, k < 5 → parseFieldDescriptor (TX3 k).2.2.1 = some (tyX3 k) := by decide +kernel
abbrev cX3_init : ByteArray := prog_5_method_1_code
def yX3_init : MethodName := ⟨RX3, "<init>", "()V"⟩
abbrev cX3_at : ByteArray := prog_5_method_2_code
def yX3_at : MethodName := ⟨RX3, "at", "(II)I"⟩
abbrev cX3_add : ByteArray := prog_5_method_3_code
def yX3_add : MethodName := ⟨RX3, "add", "(IIII)V"⟩
abbrev cX3_driveOut : ByteArray := prog_5_method_4_code
def yX3_driveOut : MethodName := ⟨RX3, "driveOut", "()V"⟩
abbrev cX3_tellChanges : ByteArray := prog_5_method_5_code
def yX3_tellChanges : MethodName := ⟨RX3, "tellChanges", "(LMailCore$Call;ILMailCore$Outcome;)I"⟩
abbrev cX3_lastTellable : ByteArray := prog_5_method_6_code
def yX3_lastTellable : MethodName := ⟨RX3, "lastTellable", "(III)I"⟩
abbrev cX3_isOf : ByteArray := prog_5_method_7_code
def yX3_isOf : MethodName := ⟨RX3, "isOf", "(III)Z"⟩
abbrev cX3_isLastOfState : ByteArray := prog_5_method_8_code
def yX3_isLastOfState : MethodName := ⟨RX3, "isLastOfState", "(I)Z"⟩
abbrev cX3_forget : ByteArray := prog_5_method_9_code
def yX3_forget : MethodName := ⟨RX3, "forget", "()V"⟩
abbrev cX3_meet : ByteArray := prog_5_method_10_code
def yX3_meet : MethodName := ⟨RX3, "meet", "(II)I"⟩
def RX4 : String := "MailCore$Outcome"
def TX4 : u_T := fun k => match k with
  | 0 => ("MailCore$Outcome", "rows", "[[I", true)
  | 1 => ("MailCore$Outcome", "counts", "[I", true)
  | _ => ("MailCore$Outcome", "code", "I", false)
def tyX4 : Nat → FieldType := fun k => match k with
  | 0 => .array (.array .int)
  | 1 => .array .int
  | _ => .int
abbrev wsX40 : List Cond := u_ws RX4 TX4 3
theorem nmX4 : ∀ a, a < 3 → ∀ b, b < 3 → a ≠ b → (TX4 a).2.1 ≠ (TX4 b).2.1 := by decide +kernel
theorem tyX4_ok : ∀ k, k < 3 → parseFieldDescriptor (TX4 k).2.2.1 = some (tyX4 k) := by decide +kernel
abbrev cX4_init : ByteArray := prog_6_method_1_code
def yX4_init : MethodName := ⟨RX4, "<init>", "()V"⟩
abbrev cX4_clear : ByteArray := prog_6_method_2_code
def yX4_clear : MethodName := ⟨RX4, "clear", "()V"⟩
abbrev cX4_add : ByteArray := prog_6_method_3_code
def yX4_add : MethodName := ⟨RX4, "add", "(II)V"⟩
abbrev cX4_count : ByteArray := prog_6_method_4_code
def yX4_count : MethodName := ⟨RX4, "count", "(I)I"⟩
abbrev cX4_at : ByteArray := prog_6_method_5_code
def yX4_at : MethodName := ⟨RX4, "at", "(II)I"⟩
def RX5 : String := "MailCore"
def TX5 : u_T := fun k => match k with
  | 0 => ("MailCore", "drafted", "[I", true)
  | 1 => ("MailCore", "calls", "[LMailCore$Call;", true)
  | 2 => ("MailCore", "outcomes", "[LMailCore$Outcome;", true)
  | 3 => ("MailCore", "boxes", "LMailCore$Kind;", true)
  | 4 => ("MailCore", "mails", "LMailCore$Kind;", true)
  | 5 => ("MailCore", "threads", "LMailCore$Kind;", true)
  | 6 => ("MailCore", "log", "LMailCore$Log;", true)
  | 7 => ("MailCore", "filters", "LMailCore$Filters;", true)
  | 8 => ("MailCore", "ids", "[I", true)
  | 9 => ("MailCore", "idCount", "I", false)
  | 10 => ("MailCore", "putCount", "I", false)
  | 11 => ("MailCore", "doneCount", "I", false)
  | _ => ("MailCore", "crashing", "Z", false)
def tyX5 : Nat → FieldType := fun k => match k with
  | 0 => .array .int
  | 1 => .array (.object "MailCore$Call")
  | 2 => .array (.object "MailCore$Outcome")
  | 3 => .object "MailCore$Kind"
  | 4 => .object "MailCore$Kind"
  | 5 => .object "MailCore$Kind"
  | 6 => .object "MailCore$Log"
  | 7 => .object "MailCore$Filters"
  | 8 => .array .int
  | 9 => .int
  | 10 => .int
  | 11 => .int
  | _ => .boolean
abbrev wsX50 : List Cond := u_ws RX5 TX5 13
theorem nmX5 : ∀ a, a < 13 → ∀ b, b < 13 → a ≠ b → (TX5 a).2.1 ≠ (TX5 b).2.1 := by decide +kernel
theorem tyX5_ok : ∀ k, k < 13 → parseFieldDescriptor (TX5 k).2.2.1 = some (tyX5 k) := by decide +kernel
abbrev cX5_init : ByteArray := prog_1_method_1_code
def yX5_init : MethodName := ⟨RX5, "<init>", "()V"⟩
abbrev cX5_draft : ByteArray := prog_1_method_2_code
def yX5_draft : MethodName := ⟨RX5, "draft", "(II)I"⟩
abbrev cX5_get : ByteArray := prog_1_method_3_code
def yX5_get : MethodName := ⟨RX5, "get", "(III)I"⟩
abbrev cX5_query : ByteArray := prog_1_method_4_code
def yX5_query : MethodName := ⟨RX5, "query", "(IIII)I"⟩
abbrev cX5_changes : ByteArray := prog_1_method_5_code
def yX5_changes : MethodName := ⟨RX5, "changes", "(III)I"⟩
abbrev cX5_make : ByteArray := prog_1_method_6_code
def yX5_make : MethodName := ⟨RX5, "make", "(II)I"⟩
abbrev cX5_change : ByteArray := prog_1_method_7_code
def yX5_change : MethodName := ⟨RX5, "change", "(IIIII)I"⟩
abbrev cX5_destroy : ByteArray := prog_1_method_8_code
def yX5_destroy : MethodName := ⟨RX5, "destroy", "(III)I"⟩
abbrev cX5_crash : ByteArray := prog_1_method_9_code
def yX5_crash : MethodName := ⟨RX5, "crash", "(I)I"⟩
abbrev cX5_run : ByteArray := prog_1_method_10_code
def yX5_run : MethodName := ⟨RX5, "run", "()I"⟩
abbrev cX5_drop : ByteArray := prog_1_method_11_code
def yX5_drop : MethodName := ⟨RX5, "drop", "()I"⟩
abbrev cX5_status : ByteArray := prog_1_method_12_code
def yX5_status : MethodName := ⟨RX5, "status", "(I)I"⟩
abbrev cX5_many : ByteArray := prog_1_method_13_code
def yX5_many : MethodName := ⟨RX5, "many", "(II)I"⟩
abbrev cX5_given : ByteArray := prog_1_method_14_code
def yX5_given : MethodName := ⟨RX5, "given", "(III)I"⟩
abbrev cX5_state : ByteArray := prog_1_method_15_code
def yX5_state : MethodName := ⟨RX5, "state", "(I)I"⟩
abbrev cX5_told : ByteArray := prog_1_method_16_code
def yX5_told : MethodName := ⟨RX5, "told", "(I)I"⟩
abbrev cX5_box : ByteArray := prog_1_method_17_code
def yX5_box : MethodName := ⟨RX5, "box", "(II)I"⟩
abbrev cX5_mail : ByteArray := prog_1_method_18_code
def yX5_mail : MethodName := ⟨RX5, "mail", "(II)I"⟩
abbrev cX5_thread : ByteArray := prog_1_method_19_code
def yX5_thread : MethodName := ⟨RX5, "thread", "(II)I"⟩
abbrev cX5_entry : ByteArray := prog_1_method_20_code
def yX5_entry : MethodName := ⟨RX5, "entry", "(II)I"⟩
abbrev cX5_filter : ByteArray := prog_1_method_21_code
def yX5_filter : MethodName := ⟨RX5, "filter", "(III)I"⟩
abbrev cX5_fits : ByteArray := prog_1_method_22_code
def yX5_fits : MethodName := ⟨RX5, "fits", "(II)I"⟩
abbrev cX5_putOfIds : ByteArray := prog_1_method_23_code
def yX5_putOfIds : MethodName := ⟨RX5, "putOfIds", "(IIIIII)I"⟩
abbrev cX5_isWithin : ByteArray := prog_1_method_24_code
def yX5_isWithin : MethodName := ⟨RX5, "isWithin", "(III)Z"⟩
abbrev cX5_isKind : ByteArray := prog_1_method_25_code
def yX5_isKind : MethodName := ⟨RX5, "isKind", "(I)Z"⟩
abbrev cX5_isAsTold : ByteArray := prog_1_method_26_code
def yX5_isAsTold : MethodName := ⟨RX5, "isAsTold", "(LMailCore$Call;)Z"⟩
abbrev cX5_areIdsAsTold : ByteArray := prog_1_method_27_code
def yX5_areIdsAsTold : MethodName := ⟨RX5, "areIdsAsTold", "(LMailCore$Call;)Z"⟩
abbrev cX5_isDraftAsTold : ByteArray := prog_1_method_28_code
def yX5_isDraftAsTold : MethodName := ⟨RX5, "isDraftAsTold", "(LMailCore$Call;)Z"⟩
abbrev cX5_isDraftedWithin : ByteArray := prog_1_method_29_code
def yX5_isDraftedWithin : MethodName := ⟨RX5, "isDraftedWithin", "(LMailCore$Call;I)Z"⟩
abbrev cX5_isChangeAsTold : ByteArray := prog_1_method_30_code
def yX5_isChangeAsTold : MethodName := ⟨RX5, "isChangeAsTold", "(LMailCore$Call;)Z"⟩
abbrev cX5_tellsOneByV : ByteArray := prog_1_method_31_code
def yX5_tellsOneByV : MethodName := ⟨RX5, "tellsOneByV", "(LMailCore$Call;)Z"⟩
abbrev cX5_oneBeside : ByteArray := prog_1_method_32_code
def yX5_oneBeside : MethodName := ⟨RX5, "oneBeside", "(LMailCore$Call;)I"⟩
abbrev cX5_isGoodAhead : ByteArray := prog_1_method_33_code
def yX5_isGoodAhead : MethodName := ⟨RX5, "isGoodAhead", "(II)Z"⟩
abbrev cX5_doesOneHold : ByteArray := prog_1_method_34_code
def yX5_doesOneHold : MethodName := ⟨RX5, "doesOneHold", "(II)Z"⟩
abbrev cX5_doNamedHold : ByteArray := prog_1_method_35_code
def yX5_doNamedHold : MethodName := ⟨RX5, "doNamedHold", "(LMailCore$Call;I)Z"⟩
abbrev cX5_idOf : ByteArray := prog_1_method_36_code
def yX5_idOf : MethodName := ⟨RX5, "idOf", "(I)I"⟩
abbrev cX5_parentOf : ByteArray := prog_1_method_37_code
def yX5_parentOf : MethodName := ⟨RX5, "parentOf", "(I)I"⟩
abbrev cX5_takeIds : ByteArray := prog_1_method_38_code
def yX5_takeIds : MethodName := ⟨RX5, "takeIds", "(LMailCore$Call;)V"⟩
abbrev cX5_addId : ByteArray := prog_1_method_39_code
def yX5_addId : MethodName := ⟨RX5, "addId", "(I)V"⟩
abbrev cX5_refusalOf : ByteArray := prog_1_method_40_code
def yX5_refusalOf : MethodName := ⟨RX5, "refusalOf", "(LMailCore$Call;I)I"⟩
abbrev cX5_act : ByteArray := prog_1_method_41_code
def yX5_act : MethodName := ⟨RX5, "act", "(LMailCore$Call;LMailCore$Outcome;)I"⟩
abbrev cX5_kindOf : ByteArray := prog_1_method_42_code
def yX5_kindOf : MethodName := ⟨RX5, "kindOf", "(I)LMailCore$Kind;"⟩
abbrev cX5_keepAll : ByteArray := prog_1_method_43_code
def yX5_keepAll : MethodName := ⟨RX5, "keepAll", "()V"⟩
abbrev cX5_bringAllBack : ByteArray := prog_1_method_44_code
def yX5_bringAllBack : MethodName := ⟨RX5, "bringAllBack", "()V"⟩
abbrev cX5_logTouched : ByteArray := prog_1_method_45_code
def yX5_logTouched : MethodName := ⟨RX5, "logTouched", "()V"⟩
abbrev cX5_tellIds : ByteArray := prog_1_method_46_code
def yX5_tellIds : MethodName := ⟨RX5, "tellIds", "(LMailCore$Call;LMailCore$Outcome;)I"⟩
abbrev cX5_tellFitting : ByteArray := prog_1_method_47_code
def yX5_tellFitting : MethodName := ⟨RX5, "tellFitting", "(LMailCore$Call;LMailCore$Outcome;)I"⟩
abbrev cX5_sortIds : ByteArray := prog_1_method_48_code
def yX5_sortIds : MethodName := ⟨RX5, "sortIds", "(I)V"⟩
abbrev cX5_weightOf : ByteArray := prog_1_method_49_code
def yX5_weightOf : MethodName := ⟨RX5, "weightOf", "(II)I"⟩
abbrev cX5_makeBox : ByteArray := prog_1_method_50_code
def yX5_makeBox : MethodName := ⟨RX5, "makeBox", "(LMailCore$Call;LMailCore$Outcome;)I"⟩
abbrev cX5_makeMail : ByteArray := prog_1_method_51_code
def yX5_makeMail : MethodName := ⟨RX5, "makeMail", "(LMailCore$Call;LMailCore$Outcome;)I"⟩
abbrev cX5_changeIds : ByteArray := prog_1_method_52_code
def yX5_changeIds : MethodName := ⟨RX5, "changeIds", "(LMailCore$Call;LMailCore$Outcome;)I"⟩
abbrev cX5_changeBox : ByteArray := prog_1_method_53_code
def yX5_changeBox : MethodName := ⟨RX5, "changeBox", "(III)I"⟩
abbrev cX5_changeMail : ByteArray := prog_1_method_54_code
def yX5_changeMail : MethodName := ⟨RX5, "changeMail", "(III)I"⟩
abbrev cX5_destroyIds : ByteArray := prog_1_method_55_code
def yX5_destroyIds : MethodName := ⟨RX5, "destroyIds", "(LMailCore$Call;LMailCore$Outcome;)I"⟩
abbrev cX5_destroyBox : ByteArray := prog_1_method_56_code
def yX5_destroyBox : MethodName := ⟨RX5, "destroyBox", "(I)I"⟩
abbrev cX5_destroyMail : ByteArray := prog_1_method_57_code
def yX5_destroyMail : MethodName := ⟨RX5, "destroyMail", "(I)I"⟩
abbrev cX5_isNameTaken : ByteArray := prog_1_method_58_code
def yX5_isNameTaken : MethodName := ⟨RX5, "isNameTaken", "(III)Z"⟩
abbrev cX5_depthOf : ByteArray := prog_1_method_59_code
def yX5_depthOf : MethodName := ⟨RX5, "depthOf", "(I)I"⟩
abbrev cX5_isAnyTooDeep : ByteArray := prog_1_method_60_code
def yX5_isAnyTooDeep : MethodName := ⟨RX5, "isAnyTooDeep", "()Z"⟩
abbrev cX5_bitOf : ByteArray := prog_1_method_61_code
def yX5_bitOf : MethodName := ⟨RX5, "bitOf", "(I)I"⟩
abbrev cX5_isIn : ByteArray := prog_1_method_62_code
def yX5_isIn : MethodName := ⟨RX5, "isIn", "(II)Z"⟩
abbrev cX5_mailsIn : ByteArray := prog_1_method_63_code
def yX5_mailsIn : MethodName := ⟨RX5, "mailsIn", "(I)I"⟩
abbrev cX5_comeToThread : ByteArray := prog_1_method_64_code
def yX5_comeToThread : MethodName := ⟨RX5, "comeToThread", "(I)V"⟩
abbrev cX5_leaveThread : ByteArray := prog_1_method_65_code
def yX5_leaveThread : MethodName := ⟨RX5, "leaveThread", "(I)V"⟩
abbrev cX5_threadFor : ByteArray := prog_1_method_66_code
def yX5_threadFor : MethodName := ⟨RX5, "threadFor", "(I)I"⟩
abbrev cX5_doNumbersMeet : ByteArray := prog_1_method_67_code
def yX5_doNumbersMeet : MethodName := ⟨RX5, "doNumbersMeet", "(II)Z"⟩
abbrev cX5_passes : ByteArray := prog_1_method_68_code
def yX5_passes : MethodName := ⟨RX5, "passes", "(II)Z"⟩
abbrev cX5_hasBit : ByteArray := prog_1_method_69_code
def yX5_hasBit : MethodName := ⟨RX5, "hasBit", "(II)Z"⟩
abbrev cX5_passesOne : ByteArray := prog_1_method_70_code
def yX5_passesOne : MethodName := ⟨RX5, "passesOne", "(III)Z"⟩
def RX6 : String := "MailCoreModel"
def TX6 : u_T := fun k => match k with
  | 0 => ("MailCoreModel", "now", "[I", true)
  | 1 => ("MailCoreModel", "ahead", "[I", true)
  | 2 => ("MailCoreModel", "begin", "[I", true)
  | 3 => ("MailCoreModel", "draft", "[I", true)
  | 4 => ("MailCoreModel", "calls", "I", false)
  | 5 => ("MailCoreModel", "does", "[I", true)
  | 6 => ("MailCoreModel", "numbers", "[I", true)
  | 7 => ("MailCoreModel", "drafts", "[I", true)
  | 8 => ("MailCoreModel", "cut", "I", false)
  | 9 => ("MailCoreModel", "done", "I", false)
  | 10 => ("MailCoreModel", "statuses", "[I", true)
  | 11 => ("MailCoreModel", "rowMany", "[I", true)
  | 12 => ("MailCoreModel", "rowIds", "[I", true)
  | 13 => ("MailCoreModel", "entries", "I", false)
  | 14 => ("MailCoreModel", "entryKind", "[I", true)
  | 15 => ("MailCoreModel", "entryState", "[I", true)
  | 16 => ("MailCoreModel", "entryId", "[I", true)
  | 17 => ("MailCoreModel", "entryWhat", "[I", true)
  | 18 => ("MailCoreModel", "driven", "[I", true)
  | 19 => ("MailCoreModel", "ids", "[I", true)
  | 20 => ("MailCoreModel", "idMany", "I", false)
  | 21 => ("MailCoreModel", "call", "I", false)
  | 22 => ("MailCoreModel", "found", "[I", true)
  | 23 => ("MailCoreModel", "keptEntries", "[I", true)
  | 24 => ("MailCoreModel", "filters", "I", false)
  | 25 => ("MailCoreModel", "filterKind", "[I", true)
  | 26 => ("MailCoreModel", "filterA", "[I", true)
  | 27 => ("MailCoreModel", "filterB", "[I", true)
  | _ => ("MailCoreModel", "fits", "[Z", true)
def tyX6 : Nat → FieldType := fun k => match k with
  | 0 => .array .int
  | 1 => .array .int
  | 2 => .array .int
  | 3 => .array .int
  | 4 => .int
  | 5 => .array .int
  | 6 => .array .int
  | 7 => .array .int
  | 8 => .int
  | 9 => .int
  | 10 => .array .int
  | 11 => .array .int
  | 12 => .array .int
  | 13 => .int
  | 14 => .array .int
  | 15 => .array .int
  | 16 => .array .int
  | 17 => .array .int
  | 18 => .array .int
  | 19 => .array .int
  | 20 => .int
  | 21 => .int
  | 22 => .array .int
  | 23 => .array .int
  | 24 => .int
  | 25 => .array .int
  | 26 => .array .int
  | 27 => .array .int
  | _ => .array .boolean
abbrev wsX60 : List Cond := u_ws RX6 TX6 29
theorem nmX6 : ∀ a, a < 29 → ∀ b, b < 29 → a ≠ b → (TX6 a).2.1 ≠ (TX6 b).2.1 := by decide +kernel
theorem tyX6_ok : ∀ k, k < 29 → parseFieldDescriptor (TX6 k).2.2.1 = some (tyX6 k) := by decide +kernel
abbrev cX6_init : ByteArray := prog_8_method_1_code
def yX6_init : MethodName := ⟨RX6, "<init>", "()V"⟩
abbrev cX6_within : ByteArray := prog_8_method_3_code
def yX6_within : MethodName := ⟨RX6, "within", "(III)Z"⟩
abbrev cX6_copy : ByteArray := prog_8_method_4_code
def yX6_copy : MethodName := ⟨RX6, "copy", "([I[I)V"⟩
abbrev cX6_isBox : ByteArray := prog_8_method_5_code
def yX6_isBox : MethodName := ⟨RX6, "isBox", "([II)Z"⟩
abbrev cX6_isMail : ByteArray := prog_8_method_6_code
def yX6_isMail : MethodName := ⟨RX6, "isMail", "([II)Z"⟩
abbrev cX6_boxPart : ByteArray := prog_8_method_7_code
def yX6_boxPart : MethodName := ⟨RX6, "boxPart", "([III)I"⟩
abbrev cX6_mailPart : ByteArray := prog_8_method_8_code
def yX6_mailPart : MethodName := ⟨RX6, "mailPart", "([III)I"⟩
abbrev cX6_mailsOf : ByteArray := prog_8_method_9_code
def yX6_mailsOf : MethodName := ⟨RX6, "mailsOf", "([II)I"⟩
abbrev cX6_isThere : ByteArray := prog_8_method_10_code
def yX6_isThere : MethodName := ⟨RX6, "isThere", "([III)Z"⟩
abbrev cX6_deep : ByteArray := prog_8_method_11_code
def yX6_deep : MethodName := ⟨RX6, "deep", "([II)I"⟩
abbrev cX6_under : ByteArray := prog_8_method_12_code
def yX6_under : MethodName := ⟨RX6, "under", "([II)I"⟩
abbrev cX6_isNamed : ByteArray := prog_8_method_13_code
def yX6_isNamed : MethodName := ⟨RX6, "isNamed", "([IIII)Z"⟩
abbrev cX6_draft : ByteArray := prog_8_method_14_code
def yX6_draft : MethodName := ⟨RX6, "draft", "(II)I"⟩
abbrev cX6_comes : ByteArray := prog_8_method_15_code
def yX6_comes : MethodName := ⟨RX6, "comes", "(IIIIII)I"⟩
abbrev cX6_get : ByteArray := prog_8_method_16_code
def yX6_get : MethodName := ⟨RX6, "get", "(III)I"⟩
abbrev cX6_query : ByteArray := prog_8_method_17_code
def yX6_query : MethodName := ⟨RX6, "query", "(IIII)I"⟩
abbrev cX6_changes : ByteArray := prog_8_method_18_code
def yX6_changes : MethodName := ⟨RX6, "changes", "(III)I"⟩
abbrev cX6_make : ByteArray := prog_8_method_19_code
def yX6_make : MethodName := ⟨RX6, "make", "(II)I"⟩
abbrev cX6_change : ByteArray := prog_8_method_20_code
def yX6_change : MethodName := ⟨RX6, "change", "(IIIII)I"⟩
abbrev cX6_destroy : ByteArray := prog_8_method_21_code
def yX6_destroy : MethodName := ⟨RX6, "destroy", "(III)I"⟩
abbrev cX6_crash : ByteArray := prog_8_method_22_code
def yX6_crash : MethodName := ⟨RX6, "crash", "(I)I"⟩
abbrev cX6_drop : ByteArray := prog_8_method_23_code
def yX6_drop : MethodName := ⟨RX6, "drop", "()I"⟩
abbrev cX6_give : ByteArray := prog_8_method_24_code
def yX6_give : MethodName := ⟨RX6, "give", "(III)V"⟩
abbrev cX6_isGiven : ByteArray := prog_8_method_25_code
def yX6_isGiven : MethodName := ⟨RX6, "isGiven", "(III)Z"⟩
abbrev cX6_clearRows : ByteArray := prog_8_method_26_code
def yX6_clearRows : MethodName := ⟨RX6, "clearRows", "(I)V"⟩
abbrev cX6_note : ByteArray := prog_8_method_27_code
def yX6_note : MethodName := ⟨RX6, "note", "(IIII)V"⟩
abbrev cX6_isOther : ByteArray := prog_8_method_28_code
def yX6_isOther : MethodName := ⟨RX6, "isOther", "(II)Z"⟩
abbrev cX6_whatOf : ByteArray := prog_8_method_29_code
def yX6_whatOf : MethodName := ⟨RX6, "whatOf", "(II)I"⟩
abbrev cX6_settle : ByteArray := prog_8_method_30_code
def yX6_settle : MethodName := ⟨RX6, "settle", "()V"⟩
abbrev cX6_number : ByteArray := prog_8_method_31_code
def yX6_number : MethodName := ⟨RX6, "number", "(I)I"⟩
abbrev cX6_isKnown : ByteArray := prog_8_method_32_code
def yX6_isKnown : MethodName := ⟨RX6, "isKnown", "(I)Z"⟩
abbrev cX6_isOne : ByteArray := prog_8_method_33_code
def yX6_isOne : MethodName := ⟨RX6, "isOne", "(I)Z"⟩
abbrev cX6_oneOf : ByteArray := prog_8_method_34_code
def yX6_oneOf : MethodName := ⟨RX6, "oneOf", "(I)I"⟩
abbrev cX6_areIds : ByteArray := prog_8_method_35_code
def yX6_areIds : MethodName := ⟨RX6, "areIds", "(II)Z"⟩
abbrev cX6_takeIds : ByteArray := prog_8_method_36_code
def yX6_takeIds : MethodName := ⟨RX6, "takeIds", "(II)V"⟩
abbrev cX6_isRow : ByteArray := prog_8_method_37_code
def yX6_isRow : MethodName := ⟨RX6, "isRow", "(II)Z"⟩
abbrev cX6_doGet : ByteArray := prog_8_method_38_code
def yX6_doGet : MethodName := ⟨RX6, "doGet", "()I"⟩
abbrev cX6_keyOf : ByteArray := prog_8_method_39_code
def yX6_keyOf : MethodName := ⟨RX6, "keyOf", "(II)I"⟩
abbrev cX6_doQuery : ByteArray := prog_8_method_40_code
def yX6_doQuery : MethodName := ⟨RX6, "doQuery", "()I"⟩
abbrev cX6_isBehind : ByteArray := prog_8_method_41_code
def yX6_isBehind : MethodName := ⟨RX6, "isBehind", "(III)Z"⟩
abbrev cX6_between : ByteArray := prog_8_method_42_code
def yX6_between : MethodName := ⟨RX6, "between", "(IIII)I"⟩
abbrev cX6_rowOf : ByteArray := prog_8_method_43_code
def yX6_rowOf : MethodName := ⟨RX6, "rowOf", "(I)I"⟩
abbrev cX6_countBetween : ByteArray := prog_8_method_44_code
def yX6_countBetween : MethodName := ⟨RX6, "countBetween", "(III)I"⟩
abbrev cX6_doChanges : ByteArray := prog_8_method_45_code
def yX6_doChanges : MethodName := ⟨RX6, "doChanges", "()I"⟩
abbrev cX6_drafted : ByteArray := prog_8_method_46_code
def yX6_drafted : MethodName := ⟨RX6, "drafted", "(I)I"⟩
abbrev cX6_isDraft : ByteArray := prog_8_method_47_code
def yX6_isDraft : MethodName := ⟨RX6, "isDraft", "(III)Z"⟩
abbrev cX6_makeBox : ByteArray := prog_8_method_48_code
def yX6_makeBox : MethodName := ⟨RX6, "makeBox", "()I"⟩
abbrev cX6_hasNumber : ByteArray := prog_8_method_49_code
def yX6_hasNumber : MethodName := ⟨RX6, "hasNumber", "(II)Z"⟩
abbrev cX6_gathers : ByteArray := prog_8_method_50_code
def yX6_gathers : MethodName := ⟨RX6, "gathers", "(I)Z"⟩
abbrev cX6_isName : ByteArray := prog_8_method_51_code
def yX6_isName : MethodName := ⟨RX6, "isName", "(I)Z"⟩
abbrev cX6_makeMail : ByteArray := prog_8_method_52_code
def yX6_makeMail : MethodName := ⟨RX6, "makeMail", "()I"⟩
abbrev cX6_doMake : ByteArray := prog_8_method_53_code
def yX6_doMake : MethodName := ⟨RX6, "doMake", "()I"⟩
abbrev cX6_changeBox : ByteArray := prog_8_method_54_code
def yX6_changeBox : MethodName := ⟨RX6, "changeBox", "(III)I"⟩
abbrev cX6_changeMail : ByteArray := prog_8_method_55_code
def yX6_changeMail : MethodName := ⟨RX6, "changeMail", "(III)I"⟩
abbrev cX6_doChange : ByteArray := prog_8_method_56_code
def yX6_doChange : MethodName := ⟨RX6, "doChange", "()I"⟩
abbrev cX6_destroyOne : ByteArray := prog_8_method_57_code
def yX6_destroyOne : MethodName := ⟨RX6, "destroyOne", "(II)I"⟩
abbrev cX6_doDestroy : ByteArray := prog_8_method_58_code
def yX6_doDestroy : MethodName := ⟨RX6, "doDestroy", "()I"⟩
abbrev cX6_doCall : ByteArray := prog_8_method_59_code
def yX6_doCall : MethodName := ⟨RX6, "doCall", "()I"⟩
abbrev cX6_keepEntries : ByteArray := prog_8_method_60_code
def yX6_keepEntries : MethodName := ⟨RX6, "keepEntries", "()V"⟩
abbrev cX6_backToEntries : ByteArray := prog_8_method_61_code
def yX6_backToEntries : MethodName := ⟨RX6, "backToEntries", "()V"⟩
abbrev cX6_run : ByteArray := prog_8_method_62_code
def yX6_run : MethodName := ⟨RX6, "run", "()I"⟩
abbrev cX6_isCall : ByteArray := prog_8_method_63_code
def yX6_isCall : MethodName := ⟨RX6, "isCall", "(I)Z"⟩
abbrev cX6_status : ByteArray := prog_8_method_64_code
def yX6_status : MethodName := ⟨RX6, "status", "(I)I"⟩
abbrev cX6_many : ByteArray := prog_8_method_65_code
def yX6_many : MethodName := ⟨RX6, "many", "(II)I"⟩
abbrev cX6_given : ByteArray := prog_8_method_66_code
def yX6_given : MethodName := ⟨RX6, "given", "(III)I"⟩
abbrev cX6_state : ByteArray := prog_8_method_67_code
def yX6_state : MethodName := ⟨RX6, "state", "(I)I"⟩
abbrev cX6_thereOf : ByteArray := prog_8_method_68_code
def yX6_thereOf : MethodName := ⟨RX6, "thereOf", "(I)I"⟩
abbrev cX6_told : ByteArray := prog_8_method_69_code
def yX6_told : MethodName := ⟨RX6, "told", "(I)I"⟩
abbrev cX6_box : ByteArray := prog_8_method_70_code
def yX6_box : MethodName := ⟨RX6, "box", "(II)I"⟩
abbrev cX6_mail : ByteArray := prog_8_method_71_code
def yX6_mail : MethodName := ⟨RX6, "mail", "(II)I"⟩
abbrev cX6_thread : ByteArray := prog_8_method_72_code
def yX6_thread : MethodName := ⟨RX6, "thread", "(II)I"⟩
abbrev cX6_entry : ByteArray := prog_8_method_73_code
def yX6_entry : MethodName := ⟨RX6, "entry", "(II)I"⟩
abbrev cX6_filter : ByteArray := prog_8_method_74_code
def yX6_filter : MethodName := ⟨RX6, "filter", "(III)I"⟩
abbrev cX6_isOneFit : ByteArray := prog_8_method_75_code
def yX6_isOneFit : MethodName := ⟨RX6, "isOneFit", "(II)Z"⟩
abbrev cX6_isFit : ByteArray := prog_8_method_76_code
def yX6_isFit : MethodName := ⟨RX6, "isFit", "(II)Z"⟩
abbrev cX6_fits : ByteArray := prog_8_method_77_code
def yX6_fits : MethodName := ⟨RX6, "fits", "(II)I"⟩
def RJ6 : String := "java/lang/Integer"
abbrev cJ6_bitCount_0f7a4 : ByteArray := prog_9_method_49_code
def yJ6_bitCount_0f7a4 : MethodName := ⟨RJ6, "bitCount", "(I)I"⟩
def RL : String := "MailCoreLaw"
abbrev cL_law : ByteArray := code
def yL_law : MethodName := ⟨RL, "law", "([I)Z"⟩
abbrev vwCl : List vw_C := [(RX0, TX0, 12), (RX1, TX1, 4), (RX2, TX2, 8), (RX3, TX3, 5), (RX4, TX4, 3), (RX5, TX5, 13), (RX6, TX6, 29)]
def va_AOA (ty : FieldType) (U : State) : Prop := (Cond.arrayOver (.array ty)).before #[] U = true
theorem va_AOA.use {ty : FieldType} {A : Array Value} {U : State} (h : va_AOA ty U) : (Cond.arrayOver (.array ty)).before A U = true := h
/-! ===== BEGIN new T[n][m]: the outer array a place, the inner ones among the pooled ===== -/
/-- f, but v at every address of l -/
def vr_up {α : Type} (f : Nat → α) (l : List Nat) (v : α) : Nat → α := fun a => if a ∈ l then v else f a
theorem vr_up_in {α : Type} {f : Nat → α} {l : List Nat} {v : α} {a : Nat} (h : a ∈ l) : vr_up f l v a = v := if_pos h
theorem vr_up_ne {α : Type} {f : Nat → α} {l : List Nat} {v : α} {a : Nat} (h : a ∉ l) : vr_up f l v a = f a := if_neg h
theorem vr_rows {L l : List Nat} {f : Nat → va_E} {e : va_E} (h : ∀ a, a ∈ l → a ∉ L) : va_pl L f ++ l.map (fun a => (a, e)) = va_pl (L ++ l) (vr_up f l e) := by
  unfold va_pl
  rw [List.map_append]
  congr 1
  · apply List.map_congr_left
    intro a ha
    rw [vr_up_ne (fun q => h a q ha)]
  · apply List.map_congr_left
    intro a ha
    rw [vr_up_in ha]
theorem vr_lay {X rows : va_W} {x : Nat × va_E} {pl : va_W} {D : va_G} {cl : List vw_C} {H : Heap} (hP : va_P D cl (((X ++ pl) ++ [x]) ++ rows) H) : va_P D cl ((X ++ [x]) ++ (pl ++ rows)) H := by
  rw [List.append_assoc (X ++ pl)] at hP
  have h := va_P.swap hP
  rw [← List.append_assoc X] at h
  have h2 := va_P.swap h
  rw [List.append_assoc (X ++ [x])] at h2
  exact h2
theorem vr_layD {X rows : va_W} {x : Nat × va_E} {pl : va_W} {A : Nat → Prop} (hD : va_D A (((X ++ pl) ++ [x]) ++ rows)) : va_D A ((X ++ [x]) ++ (pl ++ rows)) := by
  rw [List.append_assoc (X ++ pl)] at hD
  have h := va_D.swap hD
  rw [← List.append_assoc X] at h
  have h2 := va_D.swap h
  rw [List.append_assoc (X ++ [x])] at h2
  exact h2
theorem vr_outer (c : ClassId) (N h0 : Nat) : ∀ i : Nat, Jvm.Free.Multi.outerC c N h0 i = arrV c N (fun j => va_rf (if j < i then some (h0 + 1 + j) else none))
  | 0 => by
    show ({ cls := c, slots := Array.replicate N .null, vm := .none } : Cell) = _
    rw [arrV_new]
    refine congrArg (arrV c N) (funext fun j => ?_)
    simp [va_rf]
  | i + 1 => by
    show (Jvm.Free.Multi.outerC c N h0 i).setSlot i (.ref (h0 + 1 + i)) = _
    rw [vr_outer c N h0 i, arrV_store]
    refine congrArg (arrV c N) (funext fun j => ?_)
    by_cases e : j = i
    · subst e
      simp [updV, va_rf]
    · by_cases h : j < i
      · simp [updV, e, h, Nat.lt_succ_of_lt h]
      · simp [updV, e, h, show ¬ j < i + 1 by omega]
section VGM
variable {p : Program} {l : Launch} {e : Env} {R : Room} {s : State} {m : MethodId} {args : Array Value} {below : List Frame} {meth : Method} {c : Code} {H : Heap} {locs : List Loc} {cells slots : Nat} {Q : State → Prop}
variable {cc : ByteArray} {pc : Nat} {ls : Array Slot} {rest : List Value} {D : va_G} {cl : List vw_C} {A : Nat → Prop} {a : Nat} {tys : List (ClassId × FieldType)} {ws : va_W} {H0 : Heap}
theorem va_mna {X : va_W} {L : List Nat} {f : Nat → va_E} {cc : ByteArray} (hexec : p.tables.exec = Jvm.exec) (hb : c.code = cc) {own : String} {index : Nat} {ty : FieldType} {cy : ClassId} (hown : s.vm.findClass own = some m.cls) (hclink : (Cond.classLink own index ("[" ++ (FieldType.array ty).toString)).before args s = true) (hover : va_AOA ty s) (harr : (Cond.arrayClass ty).before args s = true) (hcy : s.vm.findClass (FieldType.array ty).toString = some cy)
    (hK : va_K D cl tys s) (hP : va_P D cl (X ++ va_pl L f) H) (hD : va_D A (X ++ va_pl L f)) (hS : va_S A H0 H locs) (hA : ∀ q, H0.size ≤ q → A q) {n k : Int32} {N' K' : Nat} {z : vp_A} (hn : ¬ n < 0) (hk : ¬ k < 0) (hN : n.toNatClampNeg = N') (hM : k.toNatClampNeg = K')
    (hb1 : N' * 4 ≤ 536870912) (hb2 : K' * componentBytes ty ≤ 536870912) (hb3 : K' ≤ 536870912) (hdf : fits ty (defaultValue ty) = true) (hdd : (defaultValue ty).isDefault = true) (hcells : cells + (1 + N') ≤ R.cells) (hslots : slots + (N' + N' * K') ≤ R.slots) (hz : ∀ c : ClassId, Jvm.Free.Multi.innerC c K' (defaultValue ty) = vp_cell c z) (hdg : decode cc pc = .ok (.multianewarray index 2, 4))
    (kk : ∀ (q : Nat) (r : Nat → Nat) (cA : ClassId) (H1 : Heap), (∀ i j : Nat, i < N' → j < N' → r i = r j → i = j) → (∀ i : Nat, i < N' → r i ∉ L) → va_K D cl (tys ++ [(cA, .array ty)]) s →
      va_P D cl ((X ++ [(q, .inl (cA, N', .inr (.inr (.inr (.inr (fun i => if i < N' then some (r i) else none))))))]) ++ va_pl (L ++ (List.range N').map r) (vr_up f ((List.range N').map r) (.inl (cy, z)))) H1 → va_D A ((X ++ [(q, .inl (cA, N', .inr (.inr (.inr (.inr (fun i => if i < N' then some (r i) else none))))))]) ++ va_pl (L ++ (List.range N').map r) (vr_up f ((List.range N').map r) (.inl (cy, z)))) → va_S A H0 H1 locs →
      W p l e R s m args below meth c H1 locs (cells + 1 + N') (slots + N' + N' * K') Q (F0 m (pc + 4) ls (.ref q :: rest))) : W p l e R s m args below meth c H locs cells slots Q (F0 m pc ls (.int k :: .int n :: rest)) := by
  subst hN
  subst hM
  intro T hT Xs
  obtain ⟨vm₁, cA, comp, -, fA, fC, hO, -, X', step⟩ := Xs.multianewarray2F hexec hown hclink (va_AOA.use hover) harr (g := F0 m pc ls (.int k :: .int n :: rest)) rfl (by rw [hb]; exact hdg) rfl hn hk hb1 hb2 hb3 hdf hdd hcells hslots
  have ec : some cy = some comp := hcy.symm.trans fC
  cases ec
  generalize hF : Jvm.Free.Multi.fill (T.setVm vm₁) cA cy n.toNatClampNeg k.toNatClampNeg (defaultValue ty) n.toNatClampNeg = F at X' step
  have hTh : (T.setVm vm₁).heap = H := hT
  obtain ⟨f1, f2, -, -⟩ := Jvm.Free.Multi.fill_facts (T.setVm vm₁) cA cy n.toNatClampNeg k.toNatClampNeg (defaultValue ty) n.toNatClampNeg
  rw [hF, hTh] at f1 f2
  have hold : ∀ x : Nat, x < H.size → F.heap[x]? = H[x]? := fun x hx => by
    have := Jvm.Free.Multi.fill_old (T.setVm vm₁) cA cy n.toNatClampNeg k.toNatClampNeg (defaultValue ty) (a := x) (by rw [hTh]; exact hx) n.toNatClampNeg
    rw [hF, hTh] at this
    exact this
  have hrow : ∀ j : Nat, j < n.toNatClampNeg → F.heap[H.size + 1 + j]? = some (vp_cell cy z) := fun j hj => by
    have := Jvm.Free.Multi.fill_inner (T.setVm vm₁) cA cy n.toNatClampNeg k.toNatClampNeg (defaultValue ty) n.toNatClampNeg j hj
    rw [hF, hTh, hz] at this
    exact this
  have hout : Jvm.Free.Multi.outerC cA n.toNatClampNeg H.size n.toNatClampNeg = vp_cell cA (n.toNatClampNeg, .inr (.inr (.inr (.inr (fun i => if i < n.toNatClampNeg then some (H.size + 1 + i) else none))))) := by
    rw [vp_cell_q]
    exact vr_outer cA n.toNatClampNeg H.size n.toNatClampNeg
  rw [hout] at f2
  have hlt : ∀ a, a ∈ L → a < H.size := fun a ha => by
    obtain ⟨k9, hk9⟩ := va_pl_get (X := X) (f := f) ha
    exact (hP k9 _ hk9).lt
  have hnl : ∀ i : Nat, i < n.toNatClampNeg → H.size + 1 + i ∉ L := fun i _ h => by
    have := hlt _ h
    omega
  have hnm : ∀ a, a ∈ (List.range n.toNatClampNeg).map (fun i => H.size + 1 + i) → a ∉ L := fun a ha h => by
    obtain ⟨i, -, rfl⟩ := List.mem_map.mp ha
    have := hlt _ h
    omega
  have hP0 : va_P D cl (X ++ va_pl L f) F.heap := hP.kept (fun k9 x hx => hold x.1 ((hP k9 x hx).lt))
  have hP1 : va_P D cl ((X ++ va_pl L f) ++ [(H.size, .inl (cA, n.toNatClampNeg, .inr (.inr (.inr (.inr (fun i => if i < n.toNatClampNeg then some (H.size + 1 + i) else none))))))]) F.heap := hP0.app (fun k9 x hx => by
    have h0 : k9 < 1 := (List.getElem?_eq_some_iff.mp hx).1
    rw [show k9 = 0 by omega] at hx
    cases hx
    exact f2)
  have hP2 : va_P D cl (((X ++ va_pl L f) ++ [(H.size, .inl (cA, n.toNatClampNeg, .inr (.inr (.inr (.inr (fun i => if i < n.toNatClampNeg then some (H.size + 1 + i) else none))))))]) ++ ((List.range n.toNatClampNeg).map (fun i => H.size + 1 + i)).map (fun a => (a, .inl (cy, z)))) F.heap := hP1.app (fun k9 x hx => by
    obtain ⟨a, ha, rfl⟩ := List.mem_map.mp (List.mem_of_getElem? hx)
    obtain ⟨i, hi, rfl⟩ := List.mem_map.mp ha
    exact hrow i (List.mem_range.mp hi))
  have hD2 : va_D A (((X ++ va_pl L f) ++ [(H.size, .inl (cA, n.toNatClampNeg, .inr (.inr (.inr (.inr (fun i => if i < n.toNatClampNeg then some (H.size + 1 + i) else none))))))]) ++ ((List.range n.toNatClampNeg).map (fun i => H.size + 1 + i)).map (fun a => (a, .inl (cy, z)))) := by
    have hD1 := hD.push (e := .inl (cA, n.toNatClampNeg, .inr (.inr (.inr (.inr (fun i => if i < n.toNatClampNeg then some (H.size + 1 + i) else none)))))) hP rfl (hA _ hS.1)
    generalize hW1 : (X ++ va_pl L f) ++ [(H.size, .inl (cA, n.toNatClampNeg, .inr (.inr (.inr (.inr (fun i => if i < n.toNatClampNeg then some (H.size + 1 + i) else none))))))] = W1 at hD1 hP1 ⊢
    have hle : ∀ (k9 : Nat) (x : Nat × va_E), W1[k9]? = some x → x.1 ≤ H.size := fun k9 x hx => by
      rw [← hW1] at hx
      by_cases hl : k9 < (X ++ va_pl L f).length
      · rw [List.getElem?_append_left hl] at hx
        exact Nat.le_of_lt ((hP k9 x hx).lt)
      · rw [List.getElem?_append_right (by omega)] at hx
        have h0 : k9 - (X ++ va_pl L f).length < 1 := (List.getElem?_eq_some_iff.mp hx).1
        rw [show k9 - (X ++ va_pl L f).length = 0 by omega] at hx
        cases hx
        exact Nat.le_refl _
    have hr : ∀ (k9 : Nat) (x : Nat × va_E), (((List.range n.toNatClampNeg).map (fun i => H.size + 1 + i)).map (fun a => ((a, .inl (cy, z)) : Nat × va_E)))[k9]? = some x → x.1 = H.size + 1 + k9 := fun k9 x hx => by
      rw [List.getElem?_map, List.getElem?_map] at hx
      by_cases h9 : k9 < n.toNatClampNeg
      · rw [List.getElem?_range h9] at hx
        cases hx
        rfl
      · have hn0 : (List.range n.toNatClampNeg)[k9]? = none := List.getElem?_eq_none (by rw [List.length_range]; omega)
        rw [hn0] at hx
        cases hx
    refine ⟨fun i j x y hi hj hxy => ?_, fun k9 x hx => ?_⟩
    · by_cases h1 : i < W1.length <;> by_cases h2 : j < W1.length
      · rw [List.getElem?_append_left h1] at hi
        rw [List.getElem?_append_left h2] at hj
        exact hD1.1 i j x y hi hj hxy
      · rw [List.getElem?_append_left h1] at hi
        rw [List.getElem?_append_right (by omega)] at hj
        have := hle _ _ hi
        have := hr _ _ hj
        omega
      · rw [List.getElem?_append_right (by omega)] at hi
        rw [List.getElem?_append_left h2] at hj
        have := hle _ _ hj
        have := hr _ _ hi
        omega
      · rw [List.getElem?_append_right (by omega)] at hi hj
        have := hr _ _ hi
        have := hr _ _ hj
        omega
    · by_cases h1 : k9 < W1.length
      · rw [List.getElem?_append_left h1] at hx
        exact hD1.2 k9 x hx
      · rw [List.getElem?_append_right (by omega)] at hx
        have := hr _ _ hx
        exact hA _ (by have := hS.1; omega)
  have hAr : ArrOfT s cA (.array ty) := fun N9 z9 => by
    obtain ⟨-, k9, hk9, cm9, hkk9⟩ := (hO 0 0 0).1
    exact ⟨(fun q hq => by cases hq), k9, hk9, cm9, hkk9⟩
  have hK2 : va_K D cl (tys ++ [(cA, .array ty)]) s := ⟨hK.1, fun k9 x hx => by
    by_cases hl : k9 < tys.length
    · rw [List.getElem?_append_left hl] at hx
      exact hK.2 k9 x hx
    · rw [List.getElem?_append_right (by omega)] at hx
      have h0 : k9 - tys.length < 1 := (List.getElem?_eq_some_iff.mp hx).1
      rw [show k9 - tys.length = 0 by omega] at hx
      cases hx
      exact ⟨hAr, fA⟩⟩
  obtain ⟨t, a1, b1⟩ := kk H.size (fun i => H.size + 1 + i) cA F.heap (fun i j _ _ h => by have h9 : H.size + 1 + i = H.size + 1 + j := h; omega) hnl hK2 (by rw [← vr_rows hnm]; exact vr_lay hP2) (by rw [← vr_rows hnm]; exact vr_layD hD2) ⟨by rw [f1]; have := hS.1; omega, fun x h1 h2 => (hold x (Nat.lt_of_lt_of_le h1 hS.1)).trans (hS.2.1 x h1 h2), hS.2.2⟩ F rfl X'
  refine ⟨t, step t ?_, b1⟩
  have e : T.heap.size = H.size := by rw [hT]
  rw [e]
  exact a1
end VGM
