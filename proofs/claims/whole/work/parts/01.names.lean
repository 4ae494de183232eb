-- ===== PART A: goes FIRST, ahead of the names: the tables' words, and 'selects' of the private methods out of them =====
/-- a private method of a class that the tables say can be made, by its rows of tables_1 -/
def lw_okq (q : MethodName × Nat) : Prop := (q.1.cls ≠ "java/lang/invoke/MethodHandle" ∧ q.1.cls ≠ "java/lang/invoke/VarHandle") ∧ Cond.instantiable q.1.cls q.2 ∈ tables_1 ∧ Cond.privateMethod q.1 ∈ tables_1 ∧ Cond.instanceMethod q.1 ∈ tables_1
theorem lw_p0 : lw_okq (⟨"ThumbCore", "enter", "(II)V"⟩, 8) := ⟨⟨by decide +kernel, by decide +kernel⟩, List.mem_of_getElem? (i := 10) (by decide +kernel), List.mem_of_getElem? (i := 196) (by decide +kernel), List.mem_of_getElem? (i := 197) (by decide +kernel)⟩
theorem lw_p1 : lw_okq (⟨"ThumbCore", "perform", "()Z"⟩, 8) := ⟨⟨by decide +kernel, by decide +kernel⟩, List.mem_of_getElem? (i := 10) (by decide +kernel), List.mem_of_getElem? (i := 227) (by decide +kernel), List.mem_of_getElem? (i := 228) (by decide +kernel)⟩
theorem lw_p2 : lw_okq (⟨"ThumbCore", "moveByConstant", "(I)Z"⟩, 8) := ⟨⟨by decide +kernel, by decide +kernel⟩, List.mem_of_getElem? (i := 10) (by decide +kernel), List.mem_of_getElem? (i := 236) (by decide +kernel), List.mem_of_getElem? (i := 237) (by decide +kernel)⟩
theorem lw_p3 : lw_okq (⟨"ThumbCore", "addThree", "(I)Z"⟩, 8) := ⟨⟨by decide +kernel, by decide +kernel⟩, List.mem_of_getElem? (i := 10) (by decide +kernel), List.mem_of_getElem? (i := 257) (by decide +kernel), List.mem_of_getElem? (i := 258) (by decide +kernel)⟩
theorem lw_p4 : lw_okq (⟨"ThumbCore", "withByte", "(I)Z"⟩, 8) := ⟨⟨by decide +kernel, by decide +kernel⟩, List.mem_of_getElem? (i := 10) (by decide +kernel), List.mem_of_getElem? (i := 266) (by decide +kernel), List.mem_of_getElem? (i := 267) (by decide +kernel)⟩
theorem lw_p5 : lw_okq (⟨"ThumbCore", "combine", "(I)Z"⟩, 8) := ⟨⟨by decide +kernel, by decide +kernel⟩, List.mem_of_getElem? (i := 10) (by decide +kernel), List.mem_of_getElem? (i := 271) (by decide +kernel), List.mem_of_getElem? (i := 272) (by decide +kernel)⟩
theorem lw_p6 : lw_okq (⟨"ThumbCore", "combined", "(III)I"⟩, 8) := ⟨⟨by decide +kernel, by decide +kernel⟩, List.mem_of_getElem? (i := 10) (by decide +kernel), List.mem_of_getElem? (i := 275) (by decide +kernel), List.mem_of_getElem? (i := 276) (by decide +kernel)⟩
theorem lw_p7 : lw_okq (⟨"ThumbCore", "withHigh", "(I)Z"⟩, 8) := ⟨⟨by decide +kernel, by decide +kernel⟩, List.mem_of_getElem? (i := 10) (by decide +kernel), List.mem_of_getElem? (i := 283) (by decide +kernel), List.mem_of_getElem? (i := 284) (by decide +kernel)⟩
theorem lw_p8 : lw_okq (⟨"ThumbCore", "readHigh", "(I)I"⟩, 8) := ⟨⟨by decide +kernel, by decide +kernel⟩, List.mem_of_getElem? (i := 10) (by decide +kernel), List.mem_of_getElem? (i := 287) (by decide +kernel), List.mem_of_getElem? (i := 288) (by decide +kernel)⟩
theorem lw_p9 : lw_okq (⟨"ThumbCore", "here", "()I"⟩, 8) := ⟨⟨by decide +kernel, by decide +kernel⟩, List.mem_of_getElem? (i := 10) (by decide +kernel), List.mem_of_getElem? (i := 291) (by decide +kernel), List.mem_of_getElem? (i := 292) (by decide +kernel)⟩
theorem lw_p10 : lw_okq (⟨"ThumbCore", "put", "(II)V"⟩, 8) := ⟨⟨by decide +kernel, by decide +kernel⟩, List.mem_of_getElem? (i := 10) (by decide +kernel), List.mem_of_getElem? (i := 295) (by decide +kernel), List.mem_of_getElem? (i := 296) (by decide +kernel)⟩
theorem lw_p11 : lw_okq (⟨"ThumbCore", "branchTo", "(IZ)Z"⟩, 8) := ⟨⟨by decide +kernel, by decide +kernel⟩, List.mem_of_getElem? (i := 10) (by decide +kernel), List.mem_of_getElem? (i := 302) (by decide +kernel), List.mem_of_getElem? (i := 303) (by decide +kernel)⟩
theorem lw_p12 : lw_okq (⟨"ThumbCore", "mayGoTo", "(II)Z"⟩, 8) := ⟨⟨by decide +kernel, by decide +kernel⟩, List.mem_of_getElem? (i := 10) (by decide +kernel), List.mem_of_getElem? (i := 306) (by decide +kernel), List.mem_of_getElem? (i := 307) (by decide +kernel)⟩
theorem lw_p13 : lw_okq (⟨"ThumbCore", "isReturn", "(I)Z"⟩, 8) := ⟨⟨by decide +kernel, by decide +kernel⟩, List.mem_of_getElem? (i := 10) (by decide +kernel), List.mem_of_getElem? (i := 310) (by decide +kernel), List.mem_of_getElem? (i := 311) (by decide +kernel)⟩
theorem lw_p14 : lw_okq (⟨"ThumbCore", "goTo", "(I)V"⟩, 8) := ⟨⟨by decide +kernel, by decide +kernel⟩, List.mem_of_getElem? (i := 10) (by decide +kernel), List.mem_of_getElem? (i := 332) (by decide +kernel), List.mem_of_getElem? (i := 333) (by decide +kernel)⟩
theorem lw_p15 : lw_okq (⟨"ThumbCore", "fromBase", "(I)Z"⟩, 8) := ⟨⟨by decide +kernel, by decide +kernel⟩, List.mem_of_getElem? (i := 10) (by decide +kernel), List.mem_of_getElem? (i := 340) (by decide +kernel), List.mem_of_getElem? (i := 341) (by decide +kernel)⟩
def lw_privs_1 : List (MethodName × Nat) := [(⟨"ThumbCore", "enter", "(II)V"⟩, 8), (⟨"ThumbCore", "perform", "()Z"⟩, 8), (⟨"ThumbCore", "moveByConstant", "(I)Z"⟩, 8), (⟨"ThumbCore", "addThree", "(I)Z"⟩, 8), (⟨"ThumbCore", "withByte", "(I)Z"⟩, 8), (⟨"ThumbCore", "combine", "(I)Z"⟩, 8), (⟨"ThumbCore", "combined", "(III)I"⟩, 8), (⟨"ThumbCore", "withHigh", "(I)Z"⟩, 8), (⟨"ThumbCore", "readHigh", "(I)I"⟩, 8), (⟨"ThumbCore", "here", "()I"⟩, 8), (⟨"ThumbCore", "put", "(II)V"⟩, 8), (⟨"ThumbCore", "branchTo", "(IZ)Z"⟩, 8), (⟨"ThumbCore", "mayGoTo", "(II)Z"⟩, 8), (⟨"ThumbCore", "isReturn", "(I)Z"⟩, 8), (⟨"ThumbCore", "goTo", "(I)V"⟩, 8), (⟨"ThumbCore", "fromBase", "(I)Z"⟩, 8)]
theorem lw_r1 : ∀ q ∈ lw_privs_1, lw_okq q := List.forall_mem_cons.mpr ⟨lw_p0, List.forall_mem_cons.mpr ⟨lw_p1, List.forall_mem_cons.mpr ⟨lw_p2, List.forall_mem_cons.mpr ⟨lw_p3, List.forall_mem_cons.mpr ⟨lw_p4, List.forall_mem_cons.mpr ⟨lw_p5, List.forall_mem_cons.mpr ⟨lw_p6, List.forall_mem_cons.mpr ⟨lw_p7, List.forall_mem_cons.mpr ⟨lw_p8, List.forall_mem_cons.mpr ⟨lw_p9, List.forall_mem_cons.mpr ⟨lw_p10, List.forall_mem_cons.mpr ⟨lw_p11, List.forall_mem_cons.mpr ⟨lw_p12, List.forall_mem_cons.mpr ⟨lw_p13, List.forall_mem_cons.mpr ⟨lw_p14, List.forall_mem_cons.mpr ⟨lw_p15, fun _ h => absurd h List.not_mem_nil⟩⟩⟩⟩⟩⟩⟩⟩⟩⟩⟩⟩⟩⟩⟩⟩
theorem lw_p16 : lw_okq (⟨"ThumbCore", "load", "(III)Z"⟩, 8) := ⟨⟨by decide +kernel, by decide +kernel⟩, List.mem_of_getElem? (i := 10) (by decide +kernel), List.mem_of_getElem? (i := 344) (by decide +kernel), List.mem_of_getElem? (i := 345) (by decide +kernel)⟩
theorem lw_p17 : lw_okq (⟨"ThumbCore", "store", "(III)Z"⟩, 8) := ⟨⟨by decide +kernel, by decide +kernel⟩, List.mem_of_getElem? (i := 10) (by decide +kernel), List.mem_of_getElem? (i := 348) (by decide +kernel), List.mem_of_getElem? (i := 349) (by decide +kernel)⟩
theorem lw_p18 : lw_okq (⟨"ThumbCore", "atSum", "(I)Z"⟩, 8) := ⟨⟨by decide +kernel, by decide +kernel⟩, List.mem_of_getElem? (i := 10) (by decide +kernel), List.mem_of_getElem? (i := 352) (by decide +kernel), List.mem_of_getElem? (i := 353) (by decide +kernel)⟩
theorem lw_p19 : lw_okq (⟨"ThumbCore", "loadSigned", "(III)Z"⟩, 8) := ⟨⟨by decide +kernel, by decide +kernel⟩, List.mem_of_getElem? (i := 10) (by decide +kernel), List.mem_of_getElem? (i := 356) (by decide +kernel), List.mem_of_getElem? (i := 357) (by decide +kernel)⟩
theorem lw_p20 : lw_okq (⟨"ThumbCore", "atOffset", "(I)Z"⟩, 8) := ⟨⟨by decide +kernel, by decide +kernel⟩, List.mem_of_getElem? (i := 10) (by decide +kernel), List.mem_of_getElem? (i := 360) (by decide +kernel), List.mem_of_getElem? (i := 361) (by decide +kernel)⟩
theorem lw_p21 : lw_okq (⟨"ThumbCore", "miscellaneous", "(I)Z"⟩, 8) := ⟨⟨by decide +kernel, by decide +kernel⟩, List.mem_of_getElem? (i := 10) (by decide +kernel), List.mem_of_getElem? (i := 364) (by decide +kernel), List.mem_of_getElem? (i := 365) (by decide +kernel)⟩
theorem lw_p22 : lw_okq (⟨"ThumbCore", "moveStack", "(I)V"⟩, 8) := ⟨⟨by decide +kernel, by decide +kernel⟩, List.mem_of_getElem? (i := 10) (by decide +kernel), List.mem_of_getElem? (i := 368) (by decide +kernel), List.mem_of_getElem? (i := 369) (by decide +kernel)⟩
theorem lw_p23 : lw_okq (⟨"ThumbCore", "push", "(I)Z"⟩, 8) := ⟨⟨by decide +kernel, by decide +kernel⟩, List.mem_of_getElem? (i := 10) (by decide +kernel), List.mem_of_getElem? (i := 376) (by decide +kernel), List.mem_of_getElem? (i := 377) (by decide +kernel)⟩
theorem lw_p24 : lw_okq (⟨"ThumbCore", "areThere", "(II)Z"⟩, 8) := ⟨⟨by decide +kernel, by decide +kernel⟩, List.mem_of_getElem? (i := 10) (by decide +kernel), List.mem_of_getElem? (i := 381) (by decide +kernel), List.mem_of_getElem? (i := 382) (by decide +kernel)⟩
theorem lw_p25 : lw_okq (⟨"ThumbCore", "writeList", "(II)V"⟩, 8) := ⟨⟨by decide +kernel, by decide +kernel⟩, List.mem_of_getElem? (i := 10) (by decide +kernel), List.mem_of_getElem? (i := 385) (by decide +kernel), List.mem_of_getElem? (i := 386) (by decide +kernel)⟩
theorem lw_p26 : lw_okq (⟨"ThumbCore", "changeMask", "(I)Z"⟩, 8) := ⟨⟨by decide +kernel, by decide +kernel⟩, List.mem_of_getElem? (i := 10) (by decide +kernel), List.mem_of_getElem? (i := 389) (by decide +kernel), List.mem_of_getElem? (i := 390) (by decide +kernel)⟩
theorem lw_p27 : lw_okq (⟨"ThumbCore", "swapBytes", "(I)Z"⟩, 8) := ⟨⟨by decide +kernel, by decide +kernel⟩, List.mem_of_getElem? (i := 10) (by decide +kernel), List.mem_of_getElem? (i := 395) (by decide +kernel), List.mem_of_getElem? (i := 396) (by decide +kernel)⟩
theorem lw_p28 : lw_okq (⟨"ThumbCore", "pop", "(I)Z"⟩, 8) := ⟨⟨by decide +kernel, by decide +kernel⟩, List.mem_of_getElem? (i := 10) (by decide +kernel), List.mem_of_getElem? (i := 400) (by decide +kernel), List.mem_of_getElem? (i := 401) (by decide +kernel)⟩
theorem lw_p29 : lw_okq (⟨"ThumbCore", "readList", "(II)V"⟩, 8) := ⟨⟨by decide +kernel, by decide +kernel⟩, List.mem_of_getElem? (i := 10) (by decide +kernel), List.mem_of_getElem? (i := 404) (by decide +kernel), List.mem_of_getElem? (i := 405) (by decide +kernel)⟩
theorem lw_p30 : lw_okq (⟨"ThumbCore", "popAndGo", "(I)Z"⟩, 8) := ⟨⟨by decide +kernel, by decide +kernel⟩, List.mem_of_getElem? (i := 10) (by decide +kernel), List.mem_of_getElem? (i := 411) (by decide +kernel), List.mem_of_getElem? (i := 412) (by decide +kernel)⟩
theorem lw_p31 : lw_okq (⟨"ThumbCore", "hint", "(I)Z"⟩, 8) := ⟨⟨by decide +kernel, by decide +kernel⟩, List.mem_of_getElem? (i := 10) (by decide +kernel), List.mem_of_getElem? (i := 415) (by decide +kernel), List.mem_of_getElem? (i := 416) (by decide +kernel)⟩
def lw_privs_2 : List (MethodName × Nat) := [(⟨"ThumbCore", "load", "(III)Z"⟩, 8), (⟨"ThumbCore", "store", "(III)Z"⟩, 8), (⟨"ThumbCore", "atSum", "(I)Z"⟩, 8), (⟨"ThumbCore", "loadSigned", "(III)Z"⟩, 8), (⟨"ThumbCore", "atOffset", "(I)Z"⟩, 8), (⟨"ThumbCore", "miscellaneous", "(I)Z"⟩, 8), (⟨"ThumbCore", "moveStack", "(I)V"⟩, 8), (⟨"ThumbCore", "push", "(I)Z"⟩, 8), (⟨"ThumbCore", "areThere", "(II)Z"⟩, 8), (⟨"ThumbCore", "writeList", "(II)V"⟩, 8), (⟨"ThumbCore", "changeMask", "(I)Z"⟩, 8), (⟨"ThumbCore", "swapBytes", "(I)Z"⟩, 8), (⟨"ThumbCore", "pop", "(I)Z"⟩, 8), (⟨"ThumbCore", "readList", "(II)V"⟩, 8), (⟨"ThumbCore", "popAndGo", "(I)Z"⟩, 8), (⟨"ThumbCore", "hint", "(I)Z"⟩, 8)]
theorem lw_r2 : ∀ q ∈ lw_privs_2, lw_okq q := List.forall_mem_cons.mpr ⟨lw_p16, List.forall_mem_cons.mpr ⟨lw_p17, List.forall_mem_cons.mpr ⟨lw_p18, List.forall_mem_cons.mpr ⟨lw_p19, List.forall_mem_cons.mpr ⟨lw_p20, List.forall_mem_cons.mpr ⟨lw_p21, List.forall_mem_cons.mpr ⟨lw_p22, List.forall_mem_cons.mpr ⟨lw_p23, List.forall_mem_cons.mpr ⟨lw_p24, List.forall_mem_cons.mpr ⟨lw_p25, List.forall_mem_cons.mpr ⟨lw_p26, List.forall_mem_cons.mpr ⟨lw_p27, List.forall_mem_cons.mpr ⟨lw_p28, List.forall_mem_cons.mpr ⟨lw_p29, List.forall_mem_cons.mpr ⟨lw_p30, List.forall_mem_cons.mpr ⟨lw_p31, fun _ h => absurd h List.not_mem_nil⟩⟩⟩⟩⟩⟩⟩⟩⟩⟩⟩⟩⟩⟩⟩⟩
theorem lw_p32 : lw_okq (⟨"ThumbCore", "storeMany", "(II)Z"⟩, 8) := ⟨⟨by decide +kernel, by decide +kernel⟩, List.mem_of_getElem? (i := 10) (by decide +kernel), List.mem_of_getElem? (i := 420) (by decide +kernel), List.mem_of_getElem? (i := 421) (by decide +kernel)⟩
theorem lw_p33 : lw_okq (⟨"ThumbCore", "loadMany", "(II)Z"⟩, 8) := ⟨⟨by decide +kernel, by decide +kernel⟩, List.mem_of_getElem? (i := 10) (by decide +kernel), List.mem_of_getElem? (i := 424) (by decide +kernel), List.mem_of_getElem? (i := 425) (by decide +kernel)⟩
theorem lw_p34 : lw_okq (⟨"ThumbCore", "branchOrCall", "(II)Z"⟩, 8) := ⟨⟨by decide +kernel, by decide +kernel⟩, List.mem_of_getElem? (i := 10) (by decide +kernel), List.mem_of_getElem? (i := 428) (by decide +kernel), List.mem_of_getElem? (i := 429) (by decide +kernel)⟩
theorem lw_p35 : lw_okq (⟨"ThumbCore", "call", "()Z"⟩, 8) := ⟨⟨by decide +kernel, by decide +kernel⟩, List.mem_of_getElem? (i := 10) (by decide +kernel), List.mem_of_getElem? (i := 432) (by decide +kernel), List.mem_of_getElem? (i := 433) (by decide +kernel)⟩
theorem lw_p36 : lw_okq (⟨"ThumbCore$Flags", "even", "(I)Z"⟩, 4) := ⟨⟨by decide +kernel, by decide +kernel⟩, List.mem_of_getElem? (i := 38) (by decide +kernel), List.mem_of_getElem? (i := 440) (by decide +kernel), List.mem_of_getElem? (i := 441) (by decide +kernel)⟩
theorem lw_p37 : lw_okq (⟨"ThumbCore", "branchFar", "(I)Z"⟩, 8) := ⟨⟨by decide +kernel, by decide +kernel⟩, List.mem_of_getElem? (i := 10) (by decide +kernel), List.mem_of_getElem? (i := 444) (by decide +kernel), List.mem_of_getElem? (i := 445) (by decide +kernel)⟩
theorem lw_p38 : lw_okq (⟨"ThumbCore", "fault", "()V"⟩, 8) := ⟨⟨by decide +kernel, by decide +kernel⟩, List.mem_of_getElem? (i := 10) (by decide +kernel), List.mem_of_getElem? (i := 452) (by decide +kernel), List.mem_of_getElem? (i := 453) (by decide +kernel)⟩
theorem lw_p39 : lw_okq (⟨"ThumbCoreModel", "read", "(II)I"⟩, 23) := ⟨⟨by decide +kernel, by decide +kernel⟩, List.mem_of_getElem? (i := 498) (by decide +kernel), List.mem_of_getElem? (i := 508) (by decide +kernel), List.mem_of_getElem? (i := 509) (by decide +kernel)⟩
theorem lw_p40 : lw_okq (⟨"ThumbCoreModel", "there", "(II)Z"⟩, 23) := ⟨⟨by decide +kernel, by decide +kernel⟩, List.mem_of_getElem? (i := 498) (by decide +kernel), List.mem_of_getElem? (i := 512) (by decide +kernel), List.mem_of_getElem? (i := 513) (by decide +kernel)⟩
theorem lw_p41 : lw_okq (⟨"ThumbCoreModel", "flags", "(I)V"⟩, 23) := ⟨⟨by decide +kernel, by decide +kernel⟩, List.mem_of_getElem? (i := 498) (by decide +kernel), List.mem_of_getElem? (i := 516) (by decide +kernel), List.mem_of_getElem? (i := 517) (by decide +kernel)⟩
theorem lw_p42 : lw_okq (⟨"ThumbCoreModel", "bits", "()I"⟩, 23) := ⟨⟨by decide +kernel, by decide +kernel⟩, List.mem_of_getElem? (i := 498) (by decide +kernel), List.mem_of_getElem? (i := 605) (by decide +kernel), List.mem_of_getElem? (i := 606) (by decide +kernel)⟩
theorem lw_p43 : lw_okq (⟨"ThumbCoreModel", "tickOnce", "()V"⟩, 23) := ⟨⟨by decide +kernel, by decide +kernel⟩, List.mem_of_getElem? (i := 498) (by decide +kernel), List.mem_of_getElem? (i := 614) (by decide +kernel), List.mem_of_getElem? (i := 615) (by decide +kernel)⟩
theorem lw_p44 : lw_okq (⟨"ThumbCoreModel", "present", "(Z)I"⟩, 23) := ⟨⟨by decide +kernel, by decide +kernel⟩, List.mem_of_getElem? (i := 498) (by decide +kernel), List.mem_of_getElem? (i := 618) (by decide +kernel), List.mem_of_getElem? (i := 619) (by decide +kernel)⟩
theorem lw_p45 : lw_okq (⟨"ThumbCoreModel", "waiting", "(I)I"⟩, 23) := ⟨⟨by decide +kernel, by decide +kernel⟩, List.mem_of_getElem? (i := 498) (by decide +kernel), List.mem_of_getElem? (i := 622) (by decide +kernel), List.mem_of_getElem? (i := 623) (by decide +kernel)⟩
theorem lw_p46 : lw_okq (⟨"ThumbCoreModel", "enter", "(II)V"⟩, 23) := ⟨⟨by decide +kernel, by decide +kernel⟩, List.mem_of_getElem? (i := 498) (by decide +kernel), List.mem_of_getElem? (i := 626) (by decide +kernel), List.mem_of_getElem? (i := 627) (by decide +kernel)⟩
theorem lw_p47 : lw_okq (⟨"ThumbCoreModel", "write", "(III)V"⟩, 23) := ⟨⟨by decide +kernel, by decide +kernel⟩, List.mem_of_getElem? (i := 498) (by decide +kernel), List.mem_of_getElem? (i := 631) (by decide +kernel), List.mem_of_getElem? (i := 632) (by decide +kernel)⟩
def lw_privs_3 : List (MethodName × Nat) := [(⟨"ThumbCore", "storeMany", "(II)Z"⟩, 8), (⟨"ThumbCore", "loadMany", "(II)Z"⟩, 8), (⟨"ThumbCore", "branchOrCall", "(II)Z"⟩, 8), (⟨"ThumbCore", "call", "()Z"⟩, 8), (⟨"ThumbCore$Flags", "even", "(I)Z"⟩, 4), (⟨"ThumbCore", "branchFar", "(I)Z"⟩, 8), (⟨"ThumbCore", "fault", "()V"⟩, 8), (⟨"ThumbCoreModel", "read", "(II)I"⟩, 23), (⟨"ThumbCoreModel", "there", "(II)Z"⟩, 23), (⟨"ThumbCoreModel", "flags", "(I)V"⟩, 23), (⟨"ThumbCoreModel", "bits", "()I"⟩, 23), (⟨"ThumbCoreModel", "tickOnce", "()V"⟩, 23), (⟨"ThumbCoreModel", "present", "(Z)I"⟩, 23), (⟨"ThumbCoreModel", "waiting", "(I)I"⟩, 23), (⟨"ThumbCoreModel", "enter", "(II)V"⟩, 23), (⟨"ThumbCoreModel", "write", "(III)V"⟩, 23)]
theorem lw_r3 : ∀ q ∈ lw_privs_3, lw_okq q := List.forall_mem_cons.mpr ⟨lw_p32, List.forall_mem_cons.mpr ⟨lw_p33, List.forall_mem_cons.mpr ⟨lw_p34, List.forall_mem_cons.mpr ⟨lw_p35, List.forall_mem_cons.mpr ⟨lw_p36, List.forall_mem_cons.mpr ⟨lw_p37, List.forall_mem_cons.mpr ⟨lw_p38, List.forall_mem_cons.mpr ⟨lw_p39, List.forall_mem_cons.mpr ⟨lw_p40, List.forall_mem_cons.mpr ⟨lw_p41, List.forall_mem_cons.mpr ⟨lw_p42, List.forall_mem_cons.mpr ⟨lw_p43, List.forall_mem_cons.mpr ⟨lw_p44, List.forall_mem_cons.mpr ⟨lw_p45, List.forall_mem_cons.mpr ⟨lw_p46, List.forall_mem_cons.mpr ⟨lw_p47, fun _ h => absurd h List.not_mem_nil⟩⟩⟩⟩⟩⟩⟩⟩⟩⟩⟩⟩⟩⟩⟩⟩
theorem lw_p48 : lw_okq (⟨"ThumbCoreModel", "actives", "()I"⟩, 23) := ⟨⟨by decide +kernel, by decide +kernel⟩, List.mem_of_getElem? (i := 498) (by decide +kernel), List.mem_of_getElem? (i := 635) (by decide +kernel), List.mem_of_getElem? (i := 636) (by decide +kernel)⟩
theorem lw_p49 : lw_okq (⟨"ThumbCoreModel", "instruct", "()V"⟩, 23) := ⟨⟨by decide +kernel, by decide +kernel⟩, List.mem_of_getElem? (i := 498) (by decide +kernel), List.mem_of_getElem? (i := 639) (by decide +kernel), List.mem_of_getElem? (i := 640) (by decide +kernel)⟩
theorem lw_p50 : lw_okq (⟨"ThumbCoreModel", "perform", "()V"⟩, 23) := ⟨⟨by decide +kernel, by decide +kernel⟩, List.mem_of_getElem? (i := 498) (by decide +kernel), List.mem_of_getElem? (i := 643) (by decide +kernel), List.mem_of_getElem? (i := 644) (by decide +kernel)⟩
theorem lw_p51 : lw_okq (⟨"ThumbCoreModel", "field", "(I)I"⟩, 23) := ⟨⟨by decide +kernel, by decide +kernel⟩, List.mem_of_getElem? (i := 498) (by decide +kernel), List.mem_of_getElem? (i := 647) (by decide +kernel), List.mem_of_getElem? (i := 648) (by decide +kernel)⟩
theorem lw_p52 : lw_okq (⟨"ThumbCoreModel", "moved", "(III)I"⟩, 23) := ⟨⟨by decide +kernel, by decide +kernel⟩, List.mem_of_getElem? (i := 498) (by decide +kernel), List.mem_of_getElem? (i := 651) (by decide +kernel), List.mem_of_getElem? (i := 652) (by decide +kernel)⟩
theorem lw_p53 : lw_okq (⟨"ThumbCoreModel", "shown", "(I)I"⟩, 23) := ⟨⟨by decide +kernel, by decide +kernel⟩, List.mem_of_getElem? (i := 498) (by decide +kernel), List.mem_of_getElem? (i := 655) (by decide +kernel), List.mem_of_getElem? (i := 656) (by decide +kernel)⟩
theorem lw_p54 : lw_okq (⟨"ThumbCoreModel", "threes", "()V"⟩, 23) := ⟨⟨by decide +kernel, by decide +kernel⟩, List.mem_of_getElem? (i := 498) (by decide +kernel), List.mem_of_getElem? (i := 660) (by decide +kernel), List.mem_of_getElem? (i := 661) (by decide +kernel)⟩
theorem lw_p55 : lw_okq (⟨"ThumbCoreModel", "sum", "(III)I"⟩, 23) := ⟨⟨by decide +kernel, by decide +kernel⟩, List.mem_of_getElem? (i := 498) (by decide +kernel), List.mem_of_getElem? (i := 664) (by decide +kernel), List.mem_of_getElem? (i := 665) (by decide +kernel)⟩
theorem lw_p56 : lw_okq (⟨"ThumbCoreModel", "bytes", "(I)V"⟩, 23) := ⟨⟨by decide +kernel, by decide +kernel⟩, List.mem_of_getElem? (i := 498) (by decide +kernel), List.mem_of_getElem? (i := 668) (by decide +kernel), List.mem_of_getElem? (i := 669) (by decide +kernel)⟩
theorem lw_p57 : lw_okq (⟨"ThumbCoreModel", "worked", "()V"⟩, 23) := ⟨⟨by decide +kernel, by decide +kernel⟩, List.mem_of_getElem? (i := 498) (by decide +kernel), List.mem_of_getElem? (i := 672) (by decide +kernel), List.mem_of_getElem? (i := 673) (by decide +kernel)⟩
theorem lw_p58 : lw_okq (⟨"ThumbCoreModel", "wide", "()V"⟩, 23) := ⟨⟨by decide +kernel, by decide +kernel⟩, List.mem_of_getElem? (i := 498) (by decide +kernel), List.mem_of_getElem? (i := 676) (by decide +kernel), List.mem_of_getElem? (i := 677) (by decide +kernel)⟩
theorem lw_p59 : lw_okq (⟨"ThumbCoreModel", "put", "(II)V"⟩, 23) := ⟨⟨by decide +kernel, by decide +kernel⟩, List.mem_of_getElem? (i := 498) (by decide +kernel), List.mem_of_getElem? (i := 680) (by decide +kernel), List.mem_of_getElem? (i := 681) (by decide +kernel)⟩
theorem lw_p60 : lw_okq (⟨"ThumbCoreModel", "returns", "(I)Z"⟩, 23) := ⟨⟨by decide +kernel, by decide +kernel⟩, List.mem_of_getElem? (i := 498) (by decide +kernel), List.mem_of_getElem? (i := 684) (by decide +kernel), List.mem_of_getElem? (i := 685) (by decide +kernel)⟩
theorem lw_p61 : lw_okq (⟨"ThumbCoreModel", "goTo", "(I)V"⟩, 23) := ⟨⟨by decide +kernel, by decide +kernel⟩, List.mem_of_getElem? (i := 498) (by decide +kernel), List.mem_of_getElem? (i := 688) (by decide +kernel), List.mem_of_getElem? (i := 689) (by decide +kernel)⟩
theorem lw_p62 : lw_okq (⟨"ThumbCoreModel", "comeBack", "(I)V"⟩, 23) := ⟨⟨by decide +kernel, by decide +kernel⟩, List.mem_of_getElem? (i := 498) (by decide +kernel), List.mem_of_getElem? (i := 692) (by decide +kernel), List.mem_of_getElem? (i := 693) (by decide +kernel)⟩
theorem lw_p63 : lw_okq (⟨"ThumbCoreModel", "moves", "(III)V"⟩, 23) := ⟨⟨by decide +kernel, by decide +kernel⟩, List.mem_of_getElem? (i := 498) (by decide +kernel), List.mem_of_getElem? (i := 696) (by decide +kernel), List.mem_of_getElem? (i := 697) (by decide +kernel)⟩
def lw_privs_4 : List (MethodName × Nat) := [(⟨"ThumbCoreModel", "actives", "()I"⟩, 23), (⟨"ThumbCoreModel", "instruct", "()V"⟩, 23), (⟨"ThumbCoreModel", "perform", "()V"⟩, 23), (⟨"ThumbCoreModel", "field", "(I)I"⟩, 23), (⟨"ThumbCoreModel", "moved", "(III)I"⟩, 23), (⟨"ThumbCoreModel", "shown", "(I)I"⟩, 23), (⟨"ThumbCoreModel", "threes", "()V"⟩, 23), (⟨"ThumbCoreModel", "sum", "(III)I"⟩, 23), (⟨"ThumbCoreModel", "bytes", "(I)V"⟩, 23), (⟨"ThumbCoreModel", "worked", "()V"⟩, 23), (⟨"ThumbCoreModel", "wide", "()V"⟩, 23), (⟨"ThumbCoreModel", "put", "(II)V"⟩, 23), (⟨"ThumbCoreModel", "returns", "(I)Z"⟩, 23), (⟨"ThumbCoreModel", "goTo", "(I)V"⟩, 23), (⟨"ThumbCoreModel", "comeBack", "(I)V"⟩, 23), (⟨"ThumbCoreModel", "moves", "(III)V"⟩, 23)]
theorem lw_r4 : ∀ q ∈ lw_privs_4, lw_okq q := List.forall_mem_cons.mpr ⟨lw_p48, List.forall_mem_cons.mpr ⟨lw_p49, List.forall_mem_cons.mpr ⟨lw_p50, List.forall_mem_cons.mpr ⟨lw_p51, List.forall_mem_cons.mpr ⟨lw_p52, List.forall_mem_cons.mpr ⟨lw_p53, List.forall_mem_cons.mpr ⟨lw_p54, List.forall_mem_cons.mpr ⟨lw_p55, List.forall_mem_cons.mpr ⟨lw_p56, List.forall_mem_cons.mpr ⟨lw_p57, List.forall_mem_cons.mpr ⟨lw_p58, List.forall_mem_cons.mpr ⟨lw_p59, List.forall_mem_cons.mpr ⟨lw_p60, List.forall_mem_cons.mpr ⟨lw_p61, List.forall_mem_cons.mpr ⟨lw_p62, List.forall_mem_cons.mpr ⟨lw_p63, fun _ h => absurd h List.not_mem_nil⟩⟩⟩⟩⟩⟩⟩⟩⟩⟩⟩⟩⟩⟩⟩⟩
theorem lw_p64 : lw_okq (⟨"ThumbCoreModel", "kinds", "()V"⟩, 23) := ⟨⟨by decide +kernel, by decide +kernel⟩, List.mem_of_getElem? (i := 498) (by decide +kernel), List.mem_of_getElem? (i := 700) (by decide +kernel), List.mem_of_getElem? (i := 701) (by decide +kernel)⟩
theorem lw_p65 : lw_okq (⟨"ThumbCoreModel", "push", "()V"⟩, 23) := ⟨⟨by decide +kernel, by decide +kernel⟩, List.mem_of_getElem? (i := 498) (by decide +kernel), List.mem_of_getElem? (i := 705) (by decide +kernel), List.mem_of_getElem? (i := 706) (by decide +kernel)⟩
theorem lw_p66 : lw_okq (⟨"ThumbCoreModel", "listed", "(I)I"⟩, 23) := ⟨⟨by decide +kernel, by decide +kernel⟩, List.mem_of_getElem? (i := 498) (by decide +kernel), List.mem_of_getElem? (i := 709) (by decide +kernel), List.mem_of_getElem? (i := 710) (by decide +kernel)⟩
theorem lw_p67 : lw_okq (⟨"ThumbCoreModel", "allThere", "(II)Z"⟩, 23) := ⟨⟨by decide +kernel, by decide +kernel⟩, List.mem_of_getElem? (i := 498) (by decide +kernel), List.mem_of_getElem? (i := 713) (by decide +kernel), List.mem_of_getElem? (i := 714) (by decide +kernel)⟩
theorem lw_p68 : lw_okq (⟨"ThumbCoreModel", "pop", "()V"⟩, 23) := ⟨⟨by decide +kernel, by decide +kernel⟩, List.mem_of_getElem? (i := 498) (by decide +kernel), List.mem_of_getElem? (i := 723) (by decide +kernel), List.mem_of_getElem? (i := 724) (by decide +kernel)⟩
theorem lw_p69 : lw_okq (⟨"ThumbCoreModel", "several", "(Z)V"⟩, 23) := ⟨⟨by decide +kernel, by decide +kernel⟩, List.mem_of_getElem? (i := 498) (by decide +kernel), List.mem_of_getElem? (i := 728) (by decide +kernel), List.mem_of_getElem? (i := 729) (by decide +kernel)⟩
theorem lw_p70 : lw_okq (⟨"ThumbCoreModel", "branch", "()V"⟩, 23) := ⟨⟨by decide +kernel, by decide +kernel⟩, List.mem_of_getElem? (i := 498) (by decide +kernel), List.mem_of_getElem? (i := 732) (by decide +kernel), List.mem_of_getElem? (i := 733) (by decide +kernel)⟩
theorem lw_p71 : lw_okq (⟨"ThumbCoreModel", "meets", "(I)Z"⟩, 23) := ⟨⟨by decide +kernel, by decide +kernel⟩, List.mem_of_getElem? (i := 498) (by decide +kernel), List.mem_of_getElem? (i := 736) (by decide +kernel), List.mem_of_getElem? (i := 737) (by decide +kernel)⟩
theorem lw_p72 : lw_okq (⟨"ThumbCoreModel", "far", "()V"⟩, 23) := ⟨⟨by decide +kernel, by decide +kernel⟩, List.mem_of_getElem? (i := 498) (by decide +kernel), List.mem_of_getElem? (i := 740) (by decide +kernel), List.mem_of_getElem? (i := 741) (by decide +kernel)⟩
theorem lw_p73 : lw_okq (⟨"ThumbCoreModel", "fault", "()V"⟩, 23) := ⟨⟨by decide +kernel, by decide +kernel⟩, List.mem_of_getElem? (i := 498) (by decide +kernel), List.mem_of_getElem? (i := 745) (by decide +kernel), List.mem_of_getElem? (i := 746) (by decide +kernel)⟩
def lw_privs_5 : List (MethodName × Nat) := [(⟨"ThumbCoreModel", "kinds", "()V"⟩, 23), (⟨"ThumbCoreModel", "push", "()V"⟩, 23), (⟨"ThumbCoreModel", "listed", "(I)I"⟩, 23), (⟨"ThumbCoreModel", "allThere", "(II)Z"⟩, 23), (⟨"ThumbCoreModel", "pop", "()V"⟩, 23), (⟨"ThumbCoreModel", "several", "(Z)V"⟩, 23), (⟨"ThumbCoreModel", "branch", "()V"⟩, 23), (⟨"ThumbCoreModel", "meets", "(I)Z"⟩, 23), (⟨"ThumbCoreModel", "far", "()V"⟩, 23), (⟨"ThumbCoreModel", "fault", "()V"⟩, 23)]
theorem lw_r5 : ∀ q ∈ lw_privs_5, lw_okq q := List.forall_mem_cons.mpr ⟨lw_p64, List.forall_mem_cons.mpr ⟨lw_p65, List.forall_mem_cons.mpr ⟨lw_p66, List.forall_mem_cons.mpr ⟨lw_p67, List.forall_mem_cons.mpr ⟨lw_p68, List.forall_mem_cons.mpr ⟨lw_p69, List.forall_mem_cons.mpr ⟨lw_p70, List.forall_mem_cons.mpr ⟨lw_p71, List.forall_mem_cons.mpr ⟨lw_p72, List.forall_mem_cons.mpr ⟨lw_p73, fun _ h => absurd h List.not_mem_nil⟩⟩⟩⟩⟩⟩⟩⟩⟩⟩
def lw_privs : List (MethodName × Nat) := lw_privs_1 ++ (lw_privs_2 ++ (lw_privs_3 ++ (lw_privs_4 ++ (lw_privs_5))))
def lw_tbl : List Cond := k2_sels lw_privs ++ tables_1
theorem lw_privs_ok : ∀ q ∈ lw_privs, lw_okq q := by
  show ∀ q ∈ lw_privs_1 ++ (lw_privs_2 ++ (lw_privs_3 ++ (lw_privs_4 ++ (lw_privs_5)))), lw_okq q
  exact List.forall_mem_append.mpr ⟨lw_r1, List.forall_mem_append.mpr ⟨lw_r2, List.forall_mem_append.mpr ⟨lw_r3, List.forall_mem_append.mpr ⟨lw_r4, lw_r5⟩⟩⟩⟩
/-- the words of the tables that every call may take along -/
def tcb : List Cond := lw_tbl.filter goodWord
theorem tc_in {w : Cond} (h : w ∈ lw_tbl) (g : goodWord w = true) : w ∈ tcb := List.mem_filter.mpr ⟨h, g⟩
theorem lw_pin_0 : ((⟨"ThumbCore", "enter", "(II)V"⟩, 8) : MethodName × Nat) ∈ lw_privs := (List.mem_append_left _ (List.mem_of_getElem? (i := 0) rfl))
theorem lw_pin_1 : ((⟨"ThumbCore", "perform", "()Z"⟩, 8) : MethodName × Nat) ∈ lw_privs := (List.mem_append_left _ (List.mem_of_getElem? (i := 1) rfl))
theorem lw_pin_2 : ((⟨"ThumbCore", "moveByConstant", "(I)Z"⟩, 8) : MethodName × Nat) ∈ lw_privs := (List.mem_append_left _ (List.mem_of_getElem? (i := 2) rfl))
theorem lw_pin_3 : ((⟨"ThumbCore", "addThree", "(I)Z"⟩, 8) : MethodName × Nat) ∈ lw_privs := (List.mem_append_left _ (List.mem_of_getElem? (i := 3) rfl))
theorem lw_pin_4 : ((⟨"ThumbCore", "withByte", "(I)Z"⟩, 8) : MethodName × Nat) ∈ lw_privs := (List.mem_append_left _ (List.mem_of_getElem? (i := 4) rfl))
theorem lw_pin_5 : ((⟨"ThumbCore", "combine", "(I)Z"⟩, 8) : MethodName × Nat) ∈ lw_privs := (List.mem_append_left _ (List.mem_of_getElem? (i := 5) rfl))
theorem lw_pin_6 : ((⟨"ThumbCore", "combined", "(III)I"⟩, 8) : MethodName × Nat) ∈ lw_privs := (List.mem_append_left _ (List.mem_of_getElem? (i := 6) rfl))
theorem lw_pin_7 : ((⟨"ThumbCore", "withHigh", "(I)Z"⟩, 8) : MethodName × Nat) ∈ lw_privs := (List.mem_append_left _ (List.mem_of_getElem? (i := 7) rfl))
theorem lw_pin_8 : ((⟨"ThumbCore", "readHigh", "(I)I"⟩, 8) : MethodName × Nat) ∈ lw_privs := (List.mem_append_left _ (List.mem_of_getElem? (i := 8) rfl))
theorem lw_pin_9 : ((⟨"ThumbCore", "here", "()I"⟩, 8) : MethodName × Nat) ∈ lw_privs := (List.mem_append_left _ (List.mem_of_getElem? (i := 9) rfl))
theorem lw_pin_10 : ((⟨"ThumbCore", "put", "(II)V"⟩, 8) : MethodName × Nat) ∈ lw_privs := (List.mem_append_left _ (List.mem_of_getElem? (i := 10) rfl))
theorem lw_pin_11 : ((⟨"ThumbCore", "branchTo", "(IZ)Z"⟩, 8) : MethodName × Nat) ∈ lw_privs := (List.mem_append_left _ (List.mem_of_getElem? (i := 11) rfl))
theorem lw_pin_12 : ((⟨"ThumbCore", "mayGoTo", "(II)Z"⟩, 8) : MethodName × Nat) ∈ lw_privs := (List.mem_append_left _ (List.mem_of_getElem? (i := 12) rfl))
theorem lw_pin_13 : ((⟨"ThumbCore", "isReturn", "(I)Z"⟩, 8) : MethodName × Nat) ∈ lw_privs := (List.mem_append_left _ (List.mem_of_getElem? (i := 13) rfl))
theorem lw_pin_14 : ((⟨"ThumbCore", "goTo", "(I)V"⟩, 8) : MethodName × Nat) ∈ lw_privs := (List.mem_append_left _ (List.mem_of_getElem? (i := 14) rfl))
theorem lw_pin_15 : ((⟨"ThumbCore", "fromBase", "(I)Z"⟩, 8) : MethodName × Nat) ∈ lw_privs := (List.mem_append_left _ (List.mem_of_getElem? (i := 15) rfl))
theorem lw_pin_16 : ((⟨"ThumbCore", "load", "(III)Z"⟩, 8) : MethodName × Nat) ∈ lw_privs := (List.mem_append_right _ (List.mem_append_left _ (List.mem_of_getElem? (i := 0) rfl)))
theorem lw_pin_17 : ((⟨"ThumbCore", "store", "(III)Z"⟩, 8) : MethodName × Nat) ∈ lw_privs := (List.mem_append_right _ (List.mem_append_left _ (List.mem_of_getElem? (i := 1) rfl)))
theorem lw_pin_18 : ((⟨"ThumbCore", "atSum", "(I)Z"⟩, 8) : MethodName × Nat) ∈ lw_privs := (List.mem_append_right _ (List.mem_append_left _ (List.mem_of_getElem? (i := 2) rfl)))
theorem lw_pin_19 : ((⟨"ThumbCore", "loadSigned", "(III)Z"⟩, 8) : MethodName × Nat) ∈ lw_privs := (List.mem_append_right _ (List.mem_append_left _ (List.mem_of_getElem? (i := 3) rfl)))
theorem lw_pin_20 : ((⟨"ThumbCore", "atOffset", "(I)Z"⟩, 8) : MethodName × Nat) ∈ lw_privs := (List.mem_append_right _ (List.mem_append_left _ (List.mem_of_getElem? (i := 4) rfl)))
theorem lw_pin_21 : ((⟨"ThumbCore", "miscellaneous", "(I)Z"⟩, 8) : MethodName × Nat) ∈ lw_privs := (List.mem_append_right _ (List.mem_append_left _ (List.mem_of_getElem? (i := 5) rfl)))
theorem lw_pin_22 : ((⟨"ThumbCore", "moveStack", "(I)V"⟩, 8) : MethodName × Nat) ∈ lw_privs := (List.mem_append_right _ (List.mem_append_left _ (List.mem_of_getElem? (i := 6) rfl)))
theorem lw_pin_23 : ((⟨"ThumbCore", "push", "(I)Z"⟩, 8) : MethodName × Nat) ∈ lw_privs := (List.mem_append_right _ (List.mem_append_left _ (List.mem_of_getElem? (i := 7) rfl)))
theorem lw_pin_24 : ((⟨"ThumbCore", "areThere", "(II)Z"⟩, 8) : MethodName × Nat) ∈ lw_privs := (List.mem_append_right _ (List.mem_append_left _ (List.mem_of_getElem? (i := 8) rfl)))
theorem lw_pin_25 : ((⟨"ThumbCore", "writeList", "(II)V"⟩, 8) : MethodName × Nat) ∈ lw_privs := (List.mem_append_right _ (List.mem_append_left _ (List.mem_of_getElem? (i := 9) rfl)))
theorem lw_pin_26 : ((⟨"ThumbCore", "changeMask", "(I)Z"⟩, 8) : MethodName × Nat) ∈ lw_privs := (List.mem_append_right _ (List.mem_append_left _ (List.mem_of_getElem? (i := 10) rfl)))
theorem lw_pin_27 : ((⟨"ThumbCore", "swapBytes", "(I)Z"⟩, 8) : MethodName × Nat) ∈ lw_privs := (List.mem_append_right _ (List.mem_append_left _ (List.mem_of_getElem? (i := 11) rfl)))
theorem lw_pin_28 : ((⟨"ThumbCore", "pop", "(I)Z"⟩, 8) : MethodName × Nat) ∈ lw_privs := (List.mem_append_right _ (List.mem_append_left _ (List.mem_of_getElem? (i := 12) rfl)))
theorem lw_pin_29 : ((⟨"ThumbCore", "readList", "(II)V"⟩, 8) : MethodName × Nat) ∈ lw_privs := (List.mem_append_right _ (List.mem_append_left _ (List.mem_of_getElem? (i := 13) rfl)))
theorem lw_pin_30 : ((⟨"ThumbCore", "popAndGo", "(I)Z"⟩, 8) : MethodName × Nat) ∈ lw_privs := (List.mem_append_right _ (List.mem_append_left _ (List.mem_of_getElem? (i := 14) rfl)))
theorem lw_pin_31 : ((⟨"ThumbCore", "hint", "(I)Z"⟩, 8) : MethodName × Nat) ∈ lw_privs := (List.mem_append_right _ (List.mem_append_left _ (List.mem_of_getElem? (i := 15) rfl)))
theorem lw_pin_32 : ((⟨"ThumbCore", "storeMany", "(II)Z"⟩, 8) : MethodName × Nat) ∈ lw_privs := (List.mem_append_right _ (List.mem_append_right _ (List.mem_append_left _ (List.mem_of_getElem? (i := 0) rfl))))
theorem lw_pin_33 : ((⟨"ThumbCore", "loadMany", "(II)Z"⟩, 8) : MethodName × Nat) ∈ lw_privs := (List.mem_append_right _ (List.mem_append_right _ (List.mem_append_left _ (List.mem_of_getElem? (i := 1) rfl))))
theorem lw_pin_34 : ((⟨"ThumbCore", "branchOrCall", "(II)Z"⟩, 8) : MethodName × Nat) ∈ lw_privs := (List.mem_append_right _ (List.mem_append_right _ (List.mem_append_left _ (List.mem_of_getElem? (i := 2) rfl))))
theorem lw_pin_35 : ((⟨"ThumbCore", "call", "()Z"⟩, 8) : MethodName × Nat) ∈ lw_privs := (List.mem_append_right _ (List.mem_append_right _ (List.mem_append_left _ (List.mem_of_getElem? (i := 3) rfl))))
theorem lw_pin_36 : ((⟨"ThumbCore$Flags", "even", "(I)Z"⟩, 4) : MethodName × Nat) ∈ lw_privs := (List.mem_append_right _ (List.mem_append_right _ (List.mem_append_left _ (List.mem_of_getElem? (i := 4) rfl))))
theorem lw_pin_37 : ((⟨"ThumbCore", "branchFar", "(I)Z"⟩, 8) : MethodName × Nat) ∈ lw_privs := (List.mem_append_right _ (List.mem_append_right _ (List.mem_append_left _ (List.mem_of_getElem? (i := 5) rfl))))
theorem lw_pin_38 : ((⟨"ThumbCore", "fault", "()V"⟩, 8) : MethodName × Nat) ∈ lw_privs := (List.mem_append_right _ (List.mem_append_right _ (List.mem_append_left _ (List.mem_of_getElem? (i := 6) rfl))))
theorem lw_pin_39 : ((⟨"ThumbCoreModel", "read", "(II)I"⟩, 23) : MethodName × Nat) ∈ lw_privs := (List.mem_append_right _ (List.mem_append_right _ (List.mem_append_left _ (List.mem_of_getElem? (i := 7) rfl))))
theorem lw_pin_40 : ((⟨"ThumbCoreModel", "there", "(II)Z"⟩, 23) : MethodName × Nat) ∈ lw_privs := (List.mem_append_right _ (List.mem_append_right _ (List.mem_append_left _ (List.mem_of_getElem? (i := 8) rfl))))
theorem lw_pin_41 : ((⟨"ThumbCoreModel", "flags", "(I)V"⟩, 23) : MethodName × Nat) ∈ lw_privs := (List.mem_append_right _ (List.mem_append_right _ (List.mem_append_left _ (List.mem_of_getElem? (i := 9) rfl))))
theorem lw_pin_42 : ((⟨"ThumbCoreModel", "bits", "()I"⟩, 23) : MethodName × Nat) ∈ lw_privs := (List.mem_append_right _ (List.mem_append_right _ (List.mem_append_left _ (List.mem_of_getElem? (i := 10) rfl))))
theorem lw_pin_43 : ((⟨"ThumbCoreModel", "tickOnce", "()V"⟩, 23) : MethodName × Nat) ∈ lw_privs := (List.mem_append_right _ (List.mem_append_right _ (List.mem_append_left _ (List.mem_of_getElem? (i := 11) rfl))))
theorem lw_pin_44 : ((⟨"ThumbCoreModel", "present", "(Z)I"⟩, 23) : MethodName × Nat) ∈ lw_privs := (List.mem_append_right _ (List.mem_append_right _ (List.mem_append_left _ (List.mem_of_getElem? (i := 12) rfl))))
theorem lw_pin_45 : ((⟨"ThumbCoreModel", "waiting", "(I)I"⟩, 23) : MethodName × Nat) ∈ lw_privs := (List.mem_append_right _ (List.mem_append_right _ (List.mem_append_left _ (List.mem_of_getElem? (i := 13) rfl))))
theorem lw_pin_46 : ((⟨"ThumbCoreModel", "enter", "(II)V"⟩, 23) : MethodName × Nat) ∈ lw_privs := (List.mem_append_right _ (List.mem_append_right _ (List.mem_append_left _ (List.mem_of_getElem? (i := 14) rfl))))
theorem lw_pin_47 : ((⟨"ThumbCoreModel", "write", "(III)V"⟩, 23) : MethodName × Nat) ∈ lw_privs := (List.mem_append_right _ (List.mem_append_right _ (List.mem_append_left _ (List.mem_of_getElem? (i := 15) rfl))))
theorem lw_pin_48 : ((⟨"ThumbCoreModel", "actives", "()I"⟩, 23) : MethodName × Nat) ∈ lw_privs := (List.mem_append_right _ (List.mem_append_right _ (List.mem_append_right _ (List.mem_append_left _ (List.mem_of_getElem? (i := 0) rfl)))))
theorem lw_pin_49 : ((⟨"ThumbCoreModel", "instruct", "()V"⟩, 23) : MethodName × Nat) ∈ lw_privs := (List.mem_append_right _ (List.mem_append_right _ (List.mem_append_right _ (List.mem_append_left _ (List.mem_of_getElem? (i := 1) rfl)))))
theorem lw_pin_50 : ((⟨"ThumbCoreModel", "perform", "()V"⟩, 23) : MethodName × Nat) ∈ lw_privs := (List.mem_append_right _ (List.mem_append_right _ (List.mem_append_right _ (List.mem_append_left _ (List.mem_of_getElem? (i := 2) rfl)))))
theorem lw_pin_51 : ((⟨"ThumbCoreModel", "field", "(I)I"⟩, 23) : MethodName × Nat) ∈ lw_privs := (List.mem_append_right _ (List.mem_append_right _ (List.mem_append_right _ (List.mem_append_left _ (List.mem_of_getElem? (i := 3) rfl)))))
theorem lw_pin_52 : ((⟨"ThumbCoreModel", "moved", "(III)I"⟩, 23) : MethodName × Nat) ∈ lw_privs := (List.mem_append_right _ (List.mem_append_right _ (List.mem_append_right _ (List.mem_append_left _ (List.mem_of_getElem? (i := 4) rfl)))))
theorem lw_pin_53 : ((⟨"ThumbCoreModel", "shown", "(I)I"⟩, 23) : MethodName × Nat) ∈ lw_privs := (List.mem_append_right _ (List.mem_append_right _ (List.mem_append_right _ (List.mem_append_left _ (List.mem_of_getElem? (i := 5) rfl)))))
theorem lw_pin_54 : ((⟨"ThumbCoreModel", "threes", "()V"⟩, 23) : MethodName × Nat) ∈ lw_privs := (List.mem_append_right _ (List.mem_append_right _ (List.mem_append_right _ (List.mem_append_left _ (List.mem_of_getElem? (i := 6) rfl)))))
theorem lw_pin_55 : ((⟨"ThumbCoreModel", "sum", "(III)I"⟩, 23) : MethodName × Nat) ∈ lw_privs := (List.mem_append_right _ (List.mem_append_right _ (List.mem_append_right _ (List.mem_append_left _ (List.mem_of_getElem? (i := 7) rfl)))))
theorem lw_pin_56 : ((⟨"ThumbCoreModel", "bytes", "(I)V"⟩, 23) : MethodName × Nat) ∈ lw_privs := (List.mem_append_right _ (List.mem_append_right _ (List.mem_append_right _ (List.mem_append_left _ (List.mem_of_getElem? (i := 8) rfl)))))
theorem lw_pin_57 : ((⟨"ThumbCoreModel", "worked", "()V"⟩, 23) : MethodName × Nat) ∈ lw_privs := (List.mem_append_right _ (List.mem_append_right _ (List.mem_append_right _ (List.mem_append_left _ (List.mem_of_getElem? (i := 9) rfl)))))
theorem lw_pin_58 : ((⟨"ThumbCoreModel", "wide", "()V"⟩, 23) : MethodName × Nat) ∈ lw_privs := (List.mem_append_right _ (List.mem_append_right _ (List.mem_append_right _ (List.mem_append_left _ (List.mem_of_getElem? (i := 10) rfl)))))
theorem lw_pin_59 : ((⟨"ThumbCoreModel", "put", "(II)V"⟩, 23) : MethodName × Nat) ∈ lw_privs := (List.mem_append_right _ (List.mem_append_right _ (List.mem_append_right _ (List.mem_append_left _ (List.mem_of_getElem? (i := 11) rfl)))))
theorem lw_pin_60 : ((⟨"ThumbCoreModel", "returns", "(I)Z"⟩, 23) : MethodName × Nat) ∈ lw_privs := (List.mem_append_right _ (List.mem_append_right _ (List.mem_append_right _ (List.mem_append_left _ (List.mem_of_getElem? (i := 12) rfl)))))
theorem lw_pin_61 : ((⟨"ThumbCoreModel", "goTo", "(I)V"⟩, 23) : MethodName × Nat) ∈ lw_privs := (List.mem_append_right _ (List.mem_append_right _ (List.mem_append_right _ (List.mem_append_left _ (List.mem_of_getElem? (i := 13) rfl)))))
theorem lw_pin_62 : ((⟨"ThumbCoreModel", "comeBack", "(I)V"⟩, 23) : MethodName × Nat) ∈ lw_privs := (List.mem_append_right _ (List.mem_append_right _ (List.mem_append_right _ (List.mem_append_left _ (List.mem_of_getElem? (i := 14) rfl)))))
theorem lw_pin_63 : ((⟨"ThumbCoreModel", "moves", "(III)V"⟩, 23) : MethodName × Nat) ∈ lw_privs := (List.mem_append_right _ (List.mem_append_right _ (List.mem_append_right _ (List.mem_append_left _ (List.mem_of_getElem? (i := 15) rfl)))))
theorem lw_pin_64 : ((⟨"ThumbCoreModel", "kinds", "()V"⟩, 23) : MethodName × Nat) ∈ lw_privs := (List.mem_append_right _ (List.mem_append_right _ (List.mem_append_right _ (List.mem_append_right _ (List.mem_of_getElem? (i := 0) rfl)))))
theorem lw_pin_65 : ((⟨"ThumbCoreModel", "push", "()V"⟩, 23) : MethodName × Nat) ∈ lw_privs := (List.mem_append_right _ (List.mem_append_right _ (List.mem_append_right _ (List.mem_append_right _ (List.mem_of_getElem? (i := 1) rfl)))))
theorem lw_pin_66 : ((⟨"ThumbCoreModel", "listed", "(I)I"⟩, 23) : MethodName × Nat) ∈ lw_privs := (List.mem_append_right _ (List.mem_append_right _ (List.mem_append_right _ (List.mem_append_right _ (List.mem_of_getElem? (i := 2) rfl)))))
theorem lw_pin_67 : ((⟨"ThumbCoreModel", "allThere", "(II)Z"⟩, 23) : MethodName × Nat) ∈ lw_privs := (List.mem_append_right _ (List.mem_append_right _ (List.mem_append_right _ (List.mem_append_right _ (List.mem_of_getElem? (i := 3) rfl)))))
theorem lw_pin_68 : ((⟨"ThumbCoreModel", "pop", "()V"⟩, 23) : MethodName × Nat) ∈ lw_privs := (List.mem_append_right _ (List.mem_append_right _ (List.mem_append_right _ (List.mem_append_right _ (List.mem_of_getElem? (i := 4) rfl)))))
theorem lw_pin_69 : ((⟨"ThumbCoreModel", "several", "(Z)V"⟩, 23) : MethodName × Nat) ∈ lw_privs := (List.mem_append_right _ (List.mem_append_right _ (List.mem_append_right _ (List.mem_append_right _ (List.mem_of_getElem? (i := 5) rfl)))))
theorem lw_pin_70 : ((⟨"ThumbCoreModel", "branch", "()V"⟩, 23) : MethodName × Nat) ∈ lw_privs := (List.mem_append_right _ (List.mem_append_right _ (List.mem_append_right _ (List.mem_append_right _ (List.mem_of_getElem? (i := 6) rfl)))))
theorem lw_pin_71 : ((⟨"ThumbCoreModel", "meets", "(I)Z"⟩, 23) : MethodName × Nat) ∈ lw_privs := (List.mem_append_right _ (List.mem_append_right _ (List.mem_append_right _ (List.mem_append_right _ (List.mem_of_getElem? (i := 7) rfl)))))
theorem lw_pin_72 : ((⟨"ThumbCoreModel", "far", "()V"⟩, 23) : MethodName × Nat) ∈ lw_privs := (List.mem_append_right _ (List.mem_append_right _ (List.mem_append_right _ (List.mem_append_right _ (List.mem_of_getElem? (i := 8) rfl)))))
theorem lw_pin_73 : ((⟨"ThumbCoreModel", "fault", "()V"⟩, 23) : MethodName × Nat) ∈ lw_privs := (List.mem_append_right _ (List.mem_append_right _ (List.mem_append_right _ (List.mem_append_right _ (List.mem_of_getElem? (i := 9) rfl)))))
abbrev R_Counter : String := "ThumbCore$Counter"
def F_Counter : u_T := fun k => match k with
  | 0 => ("ThumbCore$Counter", "number", "I", false)
  | 1 => ("ThumbCore$Counter", "reload", "I", false)
  | _ => ("ThumbCore$Counter", "on", "Z", false)
def t_Counter : Nat → FieldType := fun k => match k with
  | 0 => .int
  | 1 => .int
  | _ => .boolean
theorem n_Counter : ∀ a, a < 3 → ∀ b, b < 3 → a ≠ b → (F_Counter a).2.1 ≠ (F_Counter b).2.1 := by decide +kernel
theorem t_Counter_ok : ∀ k, k < 3 → parseFieldDescriptor (F_Counter k).2.2.1 = some (t_Counter k) := by decide +kernel
theorem u0_Counter : ∀ w ∈ u_ws R_Counter F_Counter 3, w ∈ lw_tbl := by decide +kernel
theorem u1_Counter : (u_ws R_Counter F_Counter 3).all goodWord = true := by decide +kernel
theorem u_Counter : ∀ w ∈ u_ws R_Counter F_Counter 3, w ∈ tcb := fun w h => tc_in (u0_Counter w h) (List.all_eq_true.mp u1_Counter w h)
abbrev R_Exceptions : String := "ThumbCore$Exceptions"
def F_Exceptions : u_T := fun k => match k with
  | 0 => ("ThumbCore$Exceptions", "priorities", "[I", true)
  | 1 => ("ThumbCore$Exceptions", "pending", "I", false)
  | 2 => ("ThumbCore$Exceptions", "active", "I", false)
  | 3 => ("ThumbCore$Exceptions", "current", "I", false)
  | _ => ("ThumbCore$Exceptions", "masked", "Z", false)
def t_Exceptions : Nat → FieldType := fun k => match k with
  | 0 => .array .int
  | 1 => .int
  | 2 => .int
  | 3 => .int
  | _ => .boolean
theorem n_Exceptions : ∀ a, a < 5 → ∀ b, b < 5 → a ≠ b → (F_Exceptions a).2.1 ≠ (F_Exceptions b).2.1 := by decide +kernel
theorem t_Exceptions_ok : ∀ k, k < 5 → parseFieldDescriptor (F_Exceptions k).2.2.1 = some (t_Exceptions k) := by decide +kernel
theorem u0_Exceptions : ∀ w ∈ u_ws R_Exceptions F_Exceptions 5, w ∈ lw_tbl := by decide +kernel
theorem u1_Exceptions : (u_ws R_Exceptions F_Exceptions 5).all goodWord = true := by decide +kernel
theorem u_Exceptions : ∀ w ∈ u_ws R_Exceptions F_Exceptions 5, w ∈ tcb := fun w h => tc_in (u0_Exceptions w h) (List.all_eq_true.mp u1_Exceptions w h)
abbrev R_Flags : String := "ThumbCore$Flags"
def F_Flags : u_T := fun k => match k with
  | 0 => ("ThumbCore$Flags", "negative", "Z", false)
  | 1 => ("ThumbCore$Flags", "zero", "Z", false)
  | 2 => ("ThumbCore$Flags", "carry", "Z", false)
  | _ => ("ThumbCore$Flags", "overflow", "Z", false)
def t_Flags : Nat → FieldType := fun k => match k with
  | 0 => .boolean
  | 1 => .boolean
  | 2 => .boolean
  | _ => .boolean
theorem n_Flags : ∀ a, a < 4 → ∀ b, b < 4 → a ≠ b → (F_Flags a).2.1 ≠ (F_Flags b).2.1 := by decide +kernel
theorem t_Flags_ok : ∀ k, k < 4 → parseFieldDescriptor (F_Flags k).2.2.1 = some (t_Flags k) := by decide +kernel
theorem u0_Flags : ∀ w ∈ u_ws R_Flags F_Flags 4, w ∈ lw_tbl := by decide +kernel
theorem u1_Flags : (u_ws R_Flags F_Flags 4).all goodWord = true := by decide +kernel
theorem u_Flags : ∀ w ∈ u_ws R_Flags F_Flags 4, w ∈ tcb := fun w h => tc_in (u0_Flags w h) (List.all_eq_true.mp u1_Flags w h)
abbrev R_Memory : String := "ThumbCore$Memory"
def F_Memory : u_T := fun k => match k with
  | 0 => ("ThumbCore$Memory", "size", "I", true)
  | _ => ("ThumbCore$Memory", "words", "[I", true)
def t_Memory : Nat → FieldType := fun k => match k with
  | 0 => .int
  | _ => .array .int
theorem n_Memory : ∀ a, a < 2 → ∀ b, b < 2 → a ≠ b → (F_Memory a).2.1 ≠ (F_Memory b).2.1 := by decide +kernel
theorem t_Memory_ok : ∀ k, k < 2 → parseFieldDescriptor (F_Memory k).2.2.1 = some (t_Memory k) := by decide +kernel
theorem u0_Memory : ∀ w ∈ u_ws R_Memory F_Memory 2, w ∈ lw_tbl := by decide +kernel
theorem u1_Memory : (u_ws R_Memory F_Memory 2).all goodWord = true := by decide +kernel
theorem u_Memory : ∀ w ∈ u_ws R_Memory F_Memory 2, w ∈ tcb := fun w h => tc_in (u0_Memory w h) (List.all_eq_true.mp u1_Memory w h)
abbrev R_ThumbCore : String := "ThumbCore"
def F_ThumbCore : u_T := fun k => match k with
  | 0 => ("ThumbCore", "memory", "LThumbCore$Memory;", true)
  | 1 => ("ThumbCore", "registers", "[I", true)
  | 2 => ("ThumbCore", "flags", "LThumbCore$Flags;", true)
  | 3 => ("ThumbCore", "exceptions", "LThumbCore$Exceptions;", true)
  | 4 => ("ThumbCore", "counter", "LThumbCore$Counter;", true)
  | 5 => ("ThumbCore", "asleep", "Z", false)
  | 6 => ("ThumbCore", "locked", "Z", false)
  | _ => ("ThumbCore", "next", "I", false)
def t_ThumbCore : Nat → FieldType := fun k => match k with
  | 0 => .object "ThumbCore$Memory"
  | 1 => .array .int
  | 2 => .object "ThumbCore$Flags"
  | 3 => .object "ThumbCore$Exceptions"
  | 4 => .object "ThumbCore$Counter"
  | 5 => .boolean
  | 6 => .boolean
  | _ => .int
theorem n_ThumbCore : ∀ a, a < 8 → ∀ b, b < 8 → a ≠ b → (F_ThumbCore a).2.1 ≠ (F_ThumbCore b).2.1 := by decide +kernel
theorem t_ThumbCore_ok : ∀ k, k < 8 → parseFieldDescriptor (F_ThumbCore k).2.2.1 = some (t_ThumbCore k) := by decide +kernel
theorem u0_ThumbCore : ∀ w ∈ u_ws R_ThumbCore F_ThumbCore 8, w ∈ lw_tbl := by decide +kernel
theorem u1_ThumbCore : (u_ws R_ThumbCore F_ThumbCore 8).all goodWord = true := by decide +kernel
theorem u_ThumbCore : ∀ w ∈ u_ws R_ThumbCore F_ThumbCore 8, w ∈ tcb := fun w h => tc_in (u0_ThumbCore w h) (List.all_eq_true.mp u1_ThumbCore w h)
abbrev R_ThumbCoreModel : String := "ThumbCoreModel"
def F_ThumbCoreModel : u_T := fun k => match k with
  | 0 => ("ThumbCoreModel", "size", "I", true)
  | 1 => ("ThumbCoreModel", "memory", "[B", true)
  | 2 => ("ThumbCoreModel", "reg", "[I", true)
  | 3 => ("ThumbCoreModel", "n", "Z", false)
  | 4 => ("ThumbCoreModel", "z", "Z", false)
  | 5 => ("ThumbCoreModel", "c", "Z", false)
  | 6 => ("ThumbCoreModel", "v", "Z", false)
  | 7 => ("ThumbCoreModel", "kept", "[I", true)
  | 8 => ("ThumbCoreModel", "keptFlags", "I", false)
  | 9 => ("ThumbCoreModel", "bad", "Z", false)
  | 10 => ("ThumbCoreModel", "h", "I", false)
  | 11 => ("ThumbCoreModel", "after", "I", false)
  | 12 => ("ThumbCoreModel", "entered", "Z", false)
  | 13 => ("ThumbCoreModel", "mask", "Z", false)
  | 14 => ("ThumbCoreModel", "asleep", "Z", false)
  | 15 => ("ThumbCoreModel", "lockup", "Z", false)
  | 16 => ("ThumbCoreModel", "counts", "Z", false)
  | 17 => ("ThumbCoreModel", "counter", "I", false)
  | 18 => ("ThumbCoreModel", "reload", "I", false)
  | 19 => ("ThumbCoreModel", "current", "I", false)
  | 20 => ("ThumbCoreModel", "pending", "[Z", true)
  | 21 => ("ThumbCoreModel", "active", "[Z", true)
  | _ => ("ThumbCoreModel", "priorities", "[I", true)
def t_ThumbCoreModel : Nat → FieldType := fun k => match k with
  | 0 => .int
  | 1 => .array .byte
  | 2 => .array .int
  | 3 => .boolean
  | 4 => .boolean
  | 5 => .boolean
  | 6 => .boolean
  | 7 => .array .int
  | 8 => .int
  | 9 => .boolean
  | 10 => .int
  | 11 => .int
  | 12 => .boolean
  | 13 => .boolean
  | 14 => .boolean
  | 15 => .boolean
  | 16 => .boolean
  | 17 => .int
  | 18 => .int
  | 19 => .int
  | 20 => .array .boolean
  | 21 => .array .boolean
  | _ => .array .int
theorem n_ThumbCoreModel : ∀ a, a < 23 → ∀ b, b < 23 → a ≠ b → (F_ThumbCoreModel a).2.1 ≠ (F_ThumbCoreModel b).2.1 := by decide +kernel
theorem t_ThumbCoreModel_ok : ∀ k, k < 23 → parseFieldDescriptor (F_ThumbCoreModel k).2.2.1 = some (t_ThumbCoreModel k) := by decide +kernel
theorem u0_ThumbCoreModel : ∀ w ∈ u_ws R_ThumbCoreModel F_ThumbCoreModel 23, w ∈ lw_tbl := by decide +kernel
theorem u1_ThumbCoreModel : (u_ws R_ThumbCoreModel F_ThumbCoreModel 23).all goodWord = true := by decide +kernel
theorem u_ThumbCoreModel : ∀ w ∈ u_ws R_ThumbCoreModel F_ThumbCoreModel 23, w ∈ tcb := fun w h => tc_in (u0_ThumbCoreModel w h) (List.all_eq_true.mp u1_ThumbCoreModel w h)
def R_Law : String := "ThumbCoreLaw"
abbrev tcl : List vw_C := [(R_Counter, F_Counter, 3), (R_Exceptions, F_Exceptions, 5), (R_Flags, F_Flags, 4), (R_Memory, F_Memory, 2), (R_ThumbCore, F_ThumbCore, 8), (R_ThumbCoreModel, F_ThumbCoreModel, 23)]
theorem wi_Counter : Cond.initialized "ThumbCore$Counter" ∈ tcb := tc_in (List.mem_append_right _ (List.mem_append_left _ (List.mem_of_getElem? (i := 6) rfl))) rfl
theorem wn_Counter : Cond.instantiable "ThumbCore$Counter" (3 : Nat) ∈ tcb := tc_in (List.mem_append_right _ (List.mem_append_left _ (List.mem_of_getElem? (i := 84) rfl))) rfl
theorem wi_Exceptions : Cond.initialized "ThumbCore$Exceptions" ∈ tcb := tc_in (List.mem_append_right _ (List.mem_append_left _ (List.mem_of_getElem? (i := 5) rfl))) rfl
theorem wn_Exceptions : Cond.instantiable "ThumbCore$Exceptions" (5 : Nat) ∈ tcb := tc_in (List.mem_append_right _ (List.mem_append_left _ (List.mem_of_getElem? (i := 58) rfl))) rfl
theorem wi_Flags : Cond.initialized "ThumbCore$Flags" ∈ tcb := tc_in (List.mem_append_right _ (List.mem_append_left _ (List.mem_of_getElem? (i := 4) rfl))) rfl
theorem wn_Flags : Cond.instantiable "ThumbCore$Flags" (4 : Nat) ∈ tcb := tc_in (List.mem_append_right _ (List.mem_append_left _ (List.mem_of_getElem? (i := 38) rfl))) rfl
theorem wi_Memory : Cond.initialized "ThumbCore$Memory" ∈ tcb := tc_in (List.mem_append_right _ (List.mem_append_left _ (List.mem_of_getElem? (i := 2) rfl))) rfl
theorem wn_Memory : Cond.instantiable "ThumbCore$Memory" (2 : Nat) ∈ tcb := tc_in (List.mem_append_right _ (List.mem_append_left _ (List.mem_of_getElem? (i := 18) rfl))) rfl
theorem wi_ThumbCore : Cond.initialized "ThumbCore" ∈ tcb := tc_in (List.mem_append_right _ (List.mem_append_left _ (List.mem_of_getElem? (i := 1) rfl))) rfl
theorem wn_ThumbCore : Cond.instantiable "ThumbCore" (8 : Nat) ∈ tcb := tc_in (List.mem_append_right _ (List.mem_append_left _ (List.mem_of_getElem? (i := 10) rfl))) rfl
theorem wi_ThumbCoreModel : Cond.initialized "ThumbCoreModel" ∈ tcb := tc_in (List.mem_append_right _ (List.mem_append_left _ (List.mem_of_getElem? (i := 7) rfl))) rfl
theorem wn_ThumbCoreModel : Cond.instantiable "ThumbCoreModel" (23 : Nat) ∈ tcb := tc_in (List.mem_append_right _ (List.mem_append_right _ (List.mem_append_right _ (List.mem_append_left _ (List.mem_of_getElem? (i := 18) rfl))))) rfl
theorem wi_ThumbCoreLaw : Cond.initialized "ThumbCoreLaw" ∈ tcb := tc_in (List.mem_append_right _ (List.mem_append_left _ (List.mem_of_getElem? (i := 0) rfl))) rfl
theorem wi_Math : Cond.initialized "java/lang/Math" ∈ tcb := tc_in (List.mem_append_right _ (List.mem_append_left _ (List.mem_of_getElem? (i := 3) rfl))) rfl
theorem wi_Integer : Cond.initialized "java/lang/Integer" ∈ tcb := tc_in (List.mem_append_right _ (List.mem_append_left _ (List.mem_of_getElem? (i := 8) rfl))) rfl
theorem wa_int : Cond.arrayClass .int ∈ tcb := tc_in (List.mem_append_right _ (List.mem_append_left _ (List.mem_of_getElem? (i := 36) rfl))) rfl
theorem wa_byte : Cond.arrayClass .byte ∈ tcb := tc_in (List.mem_append_right _ (List.mem_append_right _ (List.mem_append_right _ (List.mem_append_left _ (List.mem_of_getElem? (i := 109) rfl))))) rfl
theorem wa_boolean : Cond.arrayClass .boolean ∈ tcb := tc_in (List.mem_append_right _ (List.mem_append_right _ (List.mem_append_right _ (List.mem_append_left _ (List.mem_of_getElem? (i := 110) rfl))))) rfl
abbrev b_ThumbCore_init : ByteArray := prog_1_method_1_code
def y_ThumbCore_init : MethodName := ⟨"ThumbCore", "<init>", "(I)V"⟩
theorem wc_ThumbCore_init : Cond.code y_ThumbCore_init b_ThumbCore_init 2 none ∈ tcb := tc_in (List.mem_append_right _ (List.mem_append_left _ (List.mem_of_getElem? (i := 13) rfl))) rfl
theorem wm_ThumbCore_init : Cond.instanceMethod y_ThumbCore_init ∈ tcb := tc_in (List.mem_append_right _ (List.mem_append_left _ (List.mem_of_getElem? (i := 12) rfl))) rfl
abbrev b_Object_init : ByteArray := object_method_1_code
def y_Object_init : MethodName := ⟨"java/lang/Object", "<init>", "()V"⟩
theorem wc_Object_init : Cond.code y_Object_init b_Object_init 1 none ∈ tcb := tc_in (List.mem_append_right _ (List.mem_append_left _ (List.mem_of_getElem? (i := 16) rfl))) rfl
theorem wm_Object_init : Cond.instanceMethod y_Object_init ∈ tcb := tc_in (List.mem_append_right _ (List.mem_append_left _ (List.mem_of_getElem? (i := 15) rfl))) rfl
abbrev b_Math_min : ByteArray := prog_9_method_69_code
def y_Math_min : MethodName := ⟨"java/lang/Math", "min", "(II)I"⟩
theorem wc_Math_min : Cond.code y_Math_min b_Math_min 2 (some .int) ∈ tcb := tc_in (List.mem_append_right _ (List.mem_append_left _ (List.mem_of_getElem? (i := 21) rfl))) rfl
theorem wt_Math_min : Cond.static y_Math_min ∈ tcb := tc_in (List.mem_append_right _ (List.mem_append_left _ (List.mem_of_getElem? (i := 20) rfl))) rfl
abbrev b_Math_max : ByteArray := prog_9_method_65_code
def y_Math_max : MethodName := ⟨"java/lang/Math", "max", "(II)I"⟩
theorem wc_Math_max : Cond.code y_Math_max b_Math_max 2 (some .int) ∈ tcb := tc_in (List.mem_append_right _ (List.mem_append_left _ (List.mem_of_getElem? (i := 24) rfl))) rfl
theorem wt_Math_max : Cond.static y_Math_max ∈ tcb := tc_in (List.mem_append_right _ (List.mem_append_left _ (List.mem_of_getElem? (i := 23) rfl))) rfl
abbrev b_Memory_init : ByteArray := prog_5_method_1_code
def y_Memory_init : MethodName := ⟨"ThumbCore$Memory", "<init>", "(I)V"⟩
theorem wc_Memory_init : Cond.code y_Memory_init b_Memory_init 2 none ∈ tcb := tc_in (List.mem_append_right _ (List.mem_append_left _ (List.mem_of_getElem? (i := 27) rfl))) rfl
theorem wm_Memory_init : Cond.instanceMethod y_Memory_init ∈ tcb := tc_in (List.mem_append_right _ (List.mem_append_left _ (List.mem_of_getElem? (i := 26) rfl))) rfl
abbrev b_Flags_init : ByteArray := prog_4_method_1_code
def y_Flags_init : MethodName := ⟨"ThumbCore$Flags", "<init>", "()V"⟩
theorem wc_Flags_init : Cond.code y_Flags_init b_Flags_init 1 none ∈ tcb := tc_in (List.mem_append_right _ (List.mem_append_left _ (List.mem_of_getElem? (i := 41) rfl))) rfl
theorem wm_Flags_init : Cond.instanceMethod y_Flags_init ∈ tcb := tc_in (List.mem_append_right _ (List.mem_append_left _ (List.mem_of_getElem? (i := 40) rfl))) rfl
abbrev b_Exceptions_init : ByteArray := prog_3_method_1_code
def y_Exceptions_init : MethodName := ⟨"ThumbCore$Exceptions", "<init>", "()V"⟩
theorem wc_Exceptions_init : Cond.code y_Exceptions_init b_Exceptions_init 1 none ∈ tcb := tc_in (List.mem_append_right _ (List.mem_append_left _ (List.mem_of_getElem? (i := 61) rfl))) rfl
theorem wm_Exceptions_init : Cond.instanceMethod y_Exceptions_init ∈ tcb := tc_in (List.mem_append_right _ (List.mem_append_left _ (List.mem_of_getElem? (i := 60) rfl))) rfl
abbrev b_Counter_init : ByteArray := prog_2_method_1_code
def y_Counter_init : MethodName := ⟨"ThumbCore$Counter", "<init>", "()V"⟩
theorem wc_Counter_init : Cond.code y_Counter_init b_Counter_init 1 none ∈ tcb := tc_in (List.mem_append_right _ (List.mem_append_left _ (List.mem_of_getElem? (i := 87) rfl))) rfl
theorem wm_Counter_init : Cond.instanceMethod y_Counter_init ∈ tcb := tc_in (List.mem_append_right _ (List.mem_append_left _ (List.mem_of_getElem? (i := 86) rfl))) rfl
abbrev b_ThumbCore_reset : ByteArray := prog_1_method_4_code
def y_ThumbCore_reset : MethodName := ⟨"ThumbCore", "reset", "()V"⟩
theorem wc_ThumbCore_reset : Cond.code y_ThumbCore_reset b_ThumbCore_reset 2 none ∈ tcb := tc_in (List.mem_append_right _ (List.mem_append_left _ (List.mem_of_getElem? (i := 103) rfl))) rfl
theorem wm_ThumbCore_reset : Cond.instanceMethod y_ThumbCore_reset ∈ tcb := tc_in (List.mem_append_right _ (List.mem_append_left _ (List.mem_of_getElem? (i := 101) rfl))) rfl
theorem ws_ThumbCore_reset : Cond.selects "ThumbCore" y_ThumbCore_reset y_ThumbCore_reset ∈ tcb := tc_in (List.mem_append_right _ (List.mem_append_left _ (List.mem_of_getElem? (i := 102) rfl))) rfl
abbrev b_Memory_word : ByteArray := prog_5_method_5_code
def y_Memory_word : MethodName := ⟨"ThumbCore$Memory", "word", "(I)I"⟩
theorem wc_Memory_word : Cond.code y_Memory_word b_Memory_word 2 (some .int) ∈ tcb := tc_in (List.mem_append_right _ (List.mem_append_left _ (List.mem_of_getElem? (i := 107) rfl))) rfl
theorem wm_Memory_word : Cond.instanceMethod y_Memory_word ∈ tcb := tc_in (List.mem_append_right _ (List.mem_append_left _ (List.mem_of_getElem? (i := 105) rfl))) rfl
theorem ws_Memory_word : Cond.selects "ThumbCore$Memory" y_Memory_word y_Memory_word ∈ tcb := tc_in (List.mem_append_right _ (List.mem_append_left _ (List.mem_of_getElem? (i := 106) rfl))) rfl
abbrev b_Flags_take : ByteArray := prog_4_method_3_code
def y_Flags_take : MethodName := ⟨"ThumbCore$Flags", "take", "(I)V"⟩
theorem wc_Flags_take : Cond.code y_Flags_take b_Flags_take 2 none ∈ tcb := tc_in (List.mem_append_right _ (List.mem_append_left _ (List.mem_of_getElem? (i := 111) rfl))) rfl
theorem wm_Flags_take : Cond.instanceMethod y_Flags_take ∈ tcb := tc_in (List.mem_append_right _ (List.mem_append_left _ (List.mem_of_getElem? (i := 109) rfl))) rfl
theorem ws_Flags_take : Cond.selects "ThumbCore$Flags" y_Flags_take y_Flags_take ∈ tcb := tc_in (List.mem_append_right _ (List.mem_append_left _ (List.mem_of_getElem? (i := 110) rfl))) rfl
abbrev b_Exceptions_clear : ByteArray := prog_3_method_2_code
def y_Exceptions_clear : MethodName := ⟨"ThumbCore$Exceptions", "clear", "()V"⟩
theorem wc_Exceptions_clear : Cond.code y_Exceptions_clear b_Exceptions_clear 1 none ∈ tcb := tc_in (List.mem_append_right _ (List.mem_append_left _ (List.mem_of_getElem? (i := 115) rfl))) rfl
theorem wm_Exceptions_clear : Cond.instanceMethod y_Exceptions_clear ∈ tcb := tc_in (List.mem_append_right _ (List.mem_append_left _ (List.mem_of_getElem? (i := 113) rfl))) rfl
theorem ws_Exceptions_clear : Cond.selects "ThumbCore$Exceptions" y_Exceptions_clear y_Exceptions_clear ∈ tcb := tc_in (List.mem_append_right _ (List.mem_append_left _ (List.mem_of_getElem? (i := 114) rfl))) rfl
abbrev b_Counter_begin : ByteArray := prog_2_method_2_code
def y_Counter_begin : MethodName := ⟨"ThumbCore$Counter", "begin", "(IZ)V"⟩
theorem wc_Counter_begin : Cond.code y_Counter_begin b_Counter_begin 3 none ∈ tcb := tc_in (List.mem_append_right _ (List.mem_append_left _ (List.mem_of_getElem? (i := 119) rfl))) rfl
theorem wm_Counter_begin : Cond.instanceMethod y_Counter_begin ∈ tcb := tc_in (List.mem_append_right _ (List.mem_append_left _ (List.mem_of_getElem? (i := 117) rfl))) rfl
theorem ws_Counter_begin : Cond.selects "ThumbCore$Counter" y_Counter_begin y_Counter_begin ∈ tcb := tc_in (List.mem_append_right _ (List.mem_append_left _ (List.mem_of_getElem? (i := 118) rfl))) rfl
abbrev b_ThumbCore_poke : ByteArray := prog_1_method_2_code
def y_ThumbCore_poke : MethodName := ⟨"ThumbCore", "poke", "(III)Z"⟩
theorem wc_ThumbCore_poke : Cond.code y_ThumbCore_poke b_ThumbCore_poke 5 (some .boolean) ∈ tcb := tc_in (List.mem_append_right _ (List.mem_append_left _ (List.mem_of_getElem? (i := 148) rfl))) rfl
theorem wm_ThumbCore_poke : Cond.instanceMethod y_ThumbCore_poke ∈ tcb := tc_in (List.mem_append_right _ (List.mem_append_left _ (List.mem_of_getElem? (i := 146) rfl))) rfl
theorem ws_ThumbCore_poke : Cond.selects "ThumbCore" y_ThumbCore_poke y_ThumbCore_poke ∈ tcb := tc_in (List.mem_append_right _ (List.mem_append_left _ (List.mem_of_getElem? (i := 147) rfl))) rfl
abbrev b_Memory_holds : ByteArray := prog_5_method_2_code
def y_Memory_holds : MethodName := ⟨"ThumbCore$Memory", "holds", "(II)Z"⟩
theorem wc_Memory_holds : Cond.code y_Memory_holds b_Memory_holds 3 (some .boolean) ∈ tcb := tc_in (List.mem_append_right _ (List.mem_append_left _ (List.mem_of_getElem? (i := 152) rfl))) rfl
theorem wm_Memory_holds : Cond.instanceMethod y_Memory_holds ∈ tcb := tc_in (List.mem_append_right _ (List.mem_append_left _ (List.mem_of_getElem? (i := 150) rfl))) rfl
theorem ws_Memory_holds : Cond.selects "ThumbCore$Memory" y_Memory_holds y_Memory_holds ∈ tcb := tc_in (List.mem_append_right _ (List.mem_append_left _ (List.mem_of_getElem? (i := 151) rfl))) rfl
abbrev b_Memory_write : ByteArray := prog_5_method_8_code
def y_Memory_write : MethodName := ⟨"ThumbCore$Memory", "write", "(III)V"⟩
theorem wc_Memory_write : Cond.code y_Memory_write b_Memory_write 6 none ∈ tcb := tc_in (List.mem_append_right _ (List.mem_append_left _ (List.mem_of_getElem? (i := 156) rfl))) rfl
theorem wm_Memory_write : Cond.instanceMethod y_Memory_write ∈ tcb := tc_in (List.mem_append_right _ (List.mem_append_left _ (List.mem_of_getElem? (i := 154) rfl))) rfl
theorem ws_Memory_write : Cond.selects "ThumbCore$Memory" y_Memory_write y_Memory_write ∈ tcb := tc_in (List.mem_append_right _ (List.mem_append_left _ (List.mem_of_getElem? (i := 155) rfl))) rfl
abbrev b_Memory_lowest : ByteArray := prog_5_method_9_code
def y_Memory_lowest : MethodName := ⟨"ThumbCore$Memory", "lowest", "(I)I"⟩
theorem wc_Memory_lowest : Cond.code y_Memory_lowest b_Memory_lowest 1 (some .int) ∈ tcb := tc_in (List.mem_append_right _ (List.mem_append_left _ (List.mem_of_getElem? (i := 159) rfl))) rfl
theorem wt_Memory_lowest : Cond.static y_Memory_lowest ∈ tcb := tc_in (List.mem_append_right _ (List.mem_append_left _ (List.mem_of_getElem? (i := 158) rfl))) rfl
abbrev b_ThumbCore_peek : ByteArray := prog_1_method_3_code
def y_ThumbCore_peek : MethodName := ⟨"ThumbCore", "peek", "(I)I"⟩
theorem wc_ThumbCore_peek : Cond.code y_ThumbCore_peek b_ThumbCore_peek 2 (some .int) ∈ tcb := tc_in (List.mem_append_right _ (List.mem_append_left _ (List.mem_of_getElem? (i := 163) rfl))) rfl
theorem wm_ThumbCore_peek : Cond.instanceMethod y_ThumbCore_peek ∈ tcb := tc_in (List.mem_append_right _ (List.mem_append_left _ (List.mem_of_getElem? (i := 161) rfl))) rfl
theorem ws_ThumbCore_peek : Cond.selects "ThumbCore" y_ThumbCore_peek y_ThumbCore_peek ∈ tcb := tc_in (List.mem_append_right _ (List.mem_append_left _ (List.mem_of_getElem? (i := 162) rfl))) rfl
abbrev b_Memory_read : ByteArray := prog_5_method_7_code
def y_Memory_read : MethodName := ⟨"ThumbCore$Memory", "read", "(II)I"⟩
theorem wc_Memory_read : Cond.code y_Memory_read b_Memory_read 3 (some .int) ∈ tcb := tc_in (List.mem_append_right _ (List.mem_append_left _ (List.mem_of_getElem? (i := 167) rfl))) rfl
theorem wm_Memory_read : Cond.instanceMethod y_Memory_read ∈ tcb := tc_in (List.mem_append_right _ (List.mem_append_left _ (List.mem_of_getElem? (i := 165) rfl))) rfl
theorem ws_Memory_read : Cond.selects "ThumbCore$Memory" y_Memory_read y_Memory_read ∈ tcb := tc_in (List.mem_append_right _ (List.mem_append_left _ (List.mem_of_getElem? (i := 166) rfl))) rfl
abbrev b_ThumbCore_step : ByteArray := prog_1_method_5_code
def y_ThumbCore_step : MethodName := ⟨"ThumbCore", "step", "()I"⟩
theorem wc_ThumbCore_step : Cond.code y_ThumbCore_step b_ThumbCore_step 2 (some .int) ∈ tcb := tc_in (List.mem_append_right _ (List.mem_append_left _ (List.mem_of_getElem? (i := 172) rfl))) rfl
theorem wm_ThumbCore_step : Cond.instanceMethod y_ThumbCore_step ∈ tcb := tc_in (List.mem_append_right _ (List.mem_append_left _ (List.mem_of_getElem? (i := 170) rfl))) rfl
theorem ws_ThumbCore_step : Cond.selects "ThumbCore" y_ThumbCore_step y_ThumbCore_step ∈ tcb := tc_in (List.mem_append_right _ (List.mem_append_left _ (List.mem_of_getElem? (i := 171) rfl))) rfl
abbrev b_Counter_moves : ByteArray := prog_2_method_3_code
def y_Counter_moves : MethodName := ⟨"ThumbCore$Counter", "moves", "()Z"⟩
theorem wc_Counter_moves : Cond.code y_Counter_moves b_Counter_moves 1 (some .boolean) ∈ tcb := tc_in (List.mem_append_right _ (List.mem_append_left _ (List.mem_of_getElem? (i := 176) rfl))) rfl
theorem wm_Counter_moves : Cond.instanceMethod y_Counter_moves ∈ tcb := tc_in (List.mem_append_right _ (List.mem_append_left _ (List.mem_of_getElem? (i := 174) rfl))) rfl
theorem ws_Counter_moves : Cond.selects "ThumbCore$Counter" y_Counter_moves y_Counter_moves ∈ tcb := tc_in (List.mem_append_right _ (List.mem_append_left _ (List.mem_of_getElem? (i := 175) rfl))) rfl
abbrev b_Exceptions_await : ByteArray := prog_3_method_3_code
def y_Exceptions_await : MethodName := ⟨"ThumbCore$Exceptions", "await", "(I)V"⟩
theorem wc_Exceptions_await : Cond.code y_Exceptions_await b_Exceptions_await 2 none ∈ tcb := tc_in (List.mem_append_right _ (List.mem_append_left _ (List.mem_of_getElem? (i := 180) rfl))) rfl
theorem wm_Exceptions_await : Cond.instanceMethod y_Exceptions_await ∈ tcb := tc_in (List.mem_append_right _ (List.mem_append_left _ (List.mem_of_getElem? (i := 178) rfl))) rfl
theorem ws_Exceptions_await : Cond.selects "ThumbCore$Exceptions" y_Exceptions_await y_Exceptions_await ∈ tcb := tc_in (List.mem_append_right _ (List.mem_append_left _ (List.mem_of_getElem? (i := 179) rfl))) rfl
abbrev b_Exceptions_presentUnmasked : ByteArray := prog_3_method_6_code
def y_Exceptions_presentUnmasked : MethodName := ⟨"ThumbCore$Exceptions", "presentUnmasked", "()I"⟩
theorem wc_Exceptions_presentUnmasked : Cond.code y_Exceptions_presentUnmasked b_Exceptions_presentUnmasked 3 (some .int) ∈ tcb := tc_in (List.mem_append_right _ (List.mem_append_left _ (List.mem_of_getElem? (i := 184) rfl))) rfl
theorem wm_Exceptions_presentUnmasked : Cond.instanceMethod y_Exceptions_presentUnmasked ∈ tcb := tc_in (List.mem_append_right _ (List.mem_append_left _ (List.mem_of_getElem? (i := 182) rfl))) rfl
theorem ws_Exceptions_presentUnmasked : Cond.selects "ThumbCore$Exceptions" y_Exceptions_presentUnmasked y_Exceptions_presentUnmasked ∈ tcb := tc_in (List.mem_append_right _ (List.mem_append_left _ (List.mem_of_getElem? (i := 183) rfl))) rfl
abbrev b_Exceptions_mostUrgent : ByteArray := prog_3_method_8_code
def y_Exceptions_mostUrgent : MethodName := ⟨"ThumbCore$Exceptions", "mostUrgent", "(I)I"⟩
theorem wc_Exceptions_mostUrgent : Cond.code y_Exceptions_mostUrgent b_Exceptions_mostUrgent 5 (some .int) ∈ tcb := tc_in (List.mem_append_right _ (List.mem_append_left _ (List.mem_of_getElem? (i := 189) rfl))) rfl
theorem wm_Exceptions_mostUrgent : Cond.instanceMethod y_Exceptions_mostUrgent ∈ tcb := tc_in (List.mem_append_right _ (List.mem_append_left _ (List.mem_of_getElem? (i := 187) rfl))) rfl
theorem ws_Exceptions_mostUrgent : Cond.selects "ThumbCore$Exceptions" y_Exceptions_mostUrgent y_Exceptions_mostUrgent ∈ tcb := tc_in (List.mem_append_right _ (List.mem_append_left _ (List.mem_of_getElem? (i := 188) rfl))) rfl
abbrev b_Exceptions_present : ByteArray := prog_3_method_7_code
def y_Exceptions_present : MethodName := ⟨"ThumbCore$Exceptions", "present", "()I"⟩
theorem wc_Exceptions_present : Cond.code y_Exceptions_present b_Exceptions_present 2 (some .int) ∈ tcb := tc_in (List.mem_append_right _ (List.mem_append_left _ (List.mem_of_getElem? (i := 193) rfl))) rfl
theorem wm_Exceptions_present : Cond.instanceMethod y_Exceptions_present ∈ tcb := tc_in (List.mem_append_right _ (List.mem_append_left _ (List.mem_of_getElem? (i := 191) rfl))) rfl
theorem ws_Exceptions_present : Cond.selects "ThumbCore$Exceptions" y_Exceptions_present y_Exceptions_present ∈ tcb := tc_in (List.mem_append_right _ (List.mem_append_left _ (List.mem_of_getElem? (i := 192) rfl))) rfl
abbrev b_ThumbCore_enter : ByteArray := prog_1_method_53_code
def y_ThumbCore_enter : MethodName := ⟨"ThumbCore", "enter", "(II)V"⟩
theorem wc_ThumbCore_enter : Cond.code y_ThumbCore_enter b_ThumbCore_enter 7 none ∈ tcb := tc_in (List.mem_append_right _ (List.mem_append_left _ (List.mem_of_getElem? (i := 198) rfl))) rfl
theorem wm_ThumbCore_enter : Cond.instanceMethod y_ThumbCore_enter ∈ tcb := tc_in (List.mem_append_right _ (List.mem_append_left _ (List.mem_of_getElem? (i := 197) rfl))) rfl
theorem ws_ThumbCore_enter : Cond.selects "ThumbCore" y_ThumbCore_enter y_ThumbCore_enter ∈ tcb := tc_in (List.mem_append_left _ (List.mem_map.mpr ⟨_, lw_pin_0, rfl⟩)) rfl
abbrev b_Memory_areThere : ByteArray := prog_5_method_4_code
def y_Memory_areThere : MethodName := ⟨"ThumbCore$Memory", "areThere", "(II)Z"⟩
theorem wc_Memory_areThere : Cond.code y_Memory_areThere b_Memory_areThere 3 (some .boolean) ∈ tcb := tc_in (List.mem_append_right _ (List.mem_append_left _ (List.mem_of_getElem? (i := 202) rfl))) rfl
theorem wm_Memory_areThere : Cond.instanceMethod y_Memory_areThere ∈ tcb := tc_in (List.mem_append_right _ (List.mem_append_left _ (List.mem_of_getElem? (i := 200) rfl))) rfl
theorem ws_Memory_areThere : Cond.selects "ThumbCore$Memory" y_Memory_areThere y_Memory_areThere ∈ tcb := tc_in (List.mem_append_right _ (List.mem_append_left _ (List.mem_of_getElem? (i := 201) rfl))) rfl
abbrev b_Memory_putWord : ByteArray := prog_5_method_6_code
def y_Memory_putWord : MethodName := ⟨"ThumbCore$Memory", "putWord", "(II)V"⟩
theorem wc_Memory_putWord : Cond.code y_Memory_putWord b_Memory_putWord 3 none ∈ tcb := tc_in (List.mem_append_right _ (List.mem_append_left _ (List.mem_of_getElem? (i := 208) rfl))) rfl
theorem wm_Memory_putWord : Cond.instanceMethod y_Memory_putWord ∈ tcb := tc_in (List.mem_append_right _ (List.mem_append_left _ (List.mem_of_getElem? (i := 206) rfl))) rfl
theorem ws_Memory_putWord : Cond.selects "ThumbCore$Memory" y_Memory_putWord y_Memory_putWord ∈ tcb := tc_in (List.mem_append_right _ (List.mem_append_left _ (List.mem_of_getElem? (i := 207) rfl))) rfl
abbrev b_ThumbCore_status : ByteArray := prog_1_method_9_code
def y_ThumbCore_status : MethodName := ⟨"ThumbCore", "status", "()I"⟩
theorem wc_ThumbCore_status : Cond.code y_ThumbCore_status b_ThumbCore_status 1 (some .int) ∈ tcb := tc_in (List.mem_append_right _ (List.mem_append_left _ (List.mem_of_getElem? (i := 212) rfl))) rfl
theorem wm_ThumbCore_status : Cond.instanceMethod y_ThumbCore_status ∈ tcb := tc_in (List.mem_append_right _ (List.mem_append_left _ (List.mem_of_getElem? (i := 210) rfl))) rfl
theorem ws_ThumbCore_status : Cond.selects "ThumbCore" y_ThumbCore_status y_ThumbCore_status ∈ tcb := tc_in (List.mem_append_right _ (List.mem_append_left _ (List.mem_of_getElem? (i := 211) rfl))) rfl
abbrev b_Flags_bits : ByteArray := prog_4_method_2_code
def y_Flags_bits : MethodName := ⟨"ThumbCore$Flags", "bits", "()I"⟩
theorem wc_Flags_bits : Cond.code y_Flags_bits b_Flags_bits 1 (some .int) ∈ tcb := tc_in (List.mem_append_right _ (List.mem_append_left _ (List.mem_of_getElem? (i := 216) rfl))) rfl
theorem wm_Flags_bits : Cond.instanceMethod y_Flags_bits ∈ tcb := tc_in (List.mem_append_right _ (List.mem_append_left _ (List.mem_of_getElem? (i := 214) rfl))) rfl
theorem ws_Flags_bits : Cond.selects "ThumbCore$Flags" y_Flags_bits y_Flags_bits ∈ tcb := tc_in (List.mem_append_right _ (List.mem_append_left _ (List.mem_of_getElem? (i := 215) rfl))) rfl
abbrev b_Exceptions_begin : ByteArray := prog_3_method_9_code
def y_Exceptions_begin : MethodName := ⟨"ThumbCore$Exceptions", "begin", "(I)V"⟩
theorem wc_Exceptions_begin : Cond.code y_Exceptions_begin b_Exceptions_begin 2 none ∈ tcb := tc_in (List.mem_append_right _ (List.mem_append_left _ (List.mem_of_getElem? (i := 225) rfl))) rfl
theorem wm_Exceptions_begin : Cond.instanceMethod y_Exceptions_begin ∈ tcb := tc_in (List.mem_append_right _ (List.mem_append_left _ (List.mem_of_getElem? (i := 223) rfl))) rfl
theorem ws_Exceptions_begin : Cond.selects "ThumbCore$Exceptions" y_Exceptions_begin y_Exceptions_begin ∈ tcb := tc_in (List.mem_append_right _ (List.mem_append_left _ (List.mem_of_getElem? (i := 224) rfl))) rfl
abbrev b_ThumbCore_perform : ByteArray := prog_1_method_16_code
def y_ThumbCore_perform : MethodName := ⟨"ThumbCore", "perform", "()Z"⟩
theorem wc_ThumbCore_perform : Cond.code y_ThumbCore_perform b_ThumbCore_perform 2 (some .boolean) ∈ tcb := tc_in (List.mem_append_right _ (List.mem_append_left _ (List.mem_of_getElem? (i := 229) rfl))) rfl
theorem wm_ThumbCore_perform : Cond.instanceMethod y_ThumbCore_perform ∈ tcb := tc_in (List.mem_append_right _ (List.mem_append_left _ (List.mem_of_getElem? (i := 228) rfl))) rfl
theorem ws_ThumbCore_perform : Cond.selects "ThumbCore" y_ThumbCore_perform y_ThumbCore_perform ∈ tcb := tc_in (List.mem_append_left _ (List.mem_map.mpr ⟨_, lw_pin_1, rfl⟩)) rfl
abbrev b_Memory_isThere : ByteArray := prog_5_method_3_code
def y_Memory_isThere : MethodName := ⟨"ThumbCore$Memory", "isThere", "(II)Z"⟩
theorem wc_Memory_isThere : Cond.code y_Memory_isThere b_Memory_isThere 3 (some .boolean) ∈ tcb := tc_in (List.mem_append_right _ (List.mem_append_left _ (List.mem_of_getElem? (i := 233) rfl))) rfl
theorem wm_Memory_isThere : Cond.instanceMethod y_Memory_isThere ∈ tcb := tc_in (List.mem_append_right _ (List.mem_append_left _ (List.mem_of_getElem? (i := 231) rfl))) rfl
theorem ws_Memory_isThere : Cond.selects "ThumbCore$Memory" y_Memory_isThere y_Memory_isThere ∈ tcb := tc_in (List.mem_append_right _ (List.mem_append_left _ (List.mem_of_getElem? (i := 232) rfl))) rfl
abbrev b_ThumbCore_moveByConstant : ByteArray := prog_1_method_18_code
def y_ThumbCore_moveByConstant : MethodName := ⟨"ThumbCore", "moveByConstant", "(I)Z"⟩
theorem wc_ThumbCore_moveByConstant : Cond.code y_ThumbCore_moveByConstant b_ThumbCore_moveByConstant 5 (some .boolean) ∈ tcb := tc_in (List.mem_append_right _ (List.mem_append_left _ (List.mem_of_getElem? (i := 238) rfl))) rfl
theorem wm_ThumbCore_moveByConstant : Cond.instanceMethod y_ThumbCore_moveByConstant ∈ tcb := tc_in (List.mem_append_right _ (List.mem_append_left _ (List.mem_of_getElem? (i := 237) rfl))) rfl
theorem ws_ThumbCore_moveByConstant : Cond.selects "ThumbCore" y_ThumbCore_moveByConstant y_ThumbCore_moveByConstant ∈ tcb := tc_in (List.mem_append_left _ (List.mem_map.mpr ⟨_, lw_pin_2, rfl⟩)) rfl
abbrev b_Flags_moveUp : ByteArray := prog_4_method_6_code
def y_Flags_moveUp : MethodName := ⟨"ThumbCore$Flags", "moveUp", "(II)I"⟩
theorem wc_Flags_moveUp : Cond.code y_Flags_moveUp b_Flags_moveUp 3 (some .int) ∈ tcb := tc_in (List.mem_append_right _ (List.mem_append_right _ (List.mem_append_left _ (List.mem_of_getElem? (i := 2) rfl)))) rfl
theorem wm_Flags_moveUp : Cond.instanceMethod y_Flags_moveUp ∈ tcb := tc_in (List.mem_append_right _ (List.mem_append_right _ (List.mem_append_left _ (List.mem_of_getElem? (i := 0) rfl)))) rfl
theorem ws_Flags_moveUp : Cond.selects "ThumbCore$Flags" y_Flags_moveUp y_Flags_moveUp ∈ tcb := tc_in (List.mem_append_right _ (List.mem_append_right _ (List.mem_append_left _ (List.mem_of_getElem? (i := 1) rfl)))) rfl
abbrev b_Flags_mark : ByteArray := prog_4_method_4_code
def y_Flags_mark : MethodName := ⟨"ThumbCore$Flags", "mark", "(I)I"⟩
theorem wc_Flags_mark : Cond.code y_Flags_mark b_Flags_mark 2 (some .int) ∈ tcb := tc_in (List.mem_append_right _ (List.mem_append_right _ (List.mem_append_left _ (List.mem_of_getElem? (i := 6) rfl)))) rfl
theorem wm_Flags_mark : Cond.instanceMethod y_Flags_mark ∈ tcb := tc_in (List.mem_append_right _ (List.mem_append_right _ (List.mem_append_left _ (List.mem_of_getElem? (i := 4) rfl)))) rfl
theorem ws_Flags_mark : Cond.selects "ThumbCore$Flags" y_Flags_mark y_Flags_mark ∈ tcb := tc_in (List.mem_append_right _ (List.mem_append_right _ (List.mem_append_left _ (List.mem_of_getElem? (i := 5) rfl)))) rfl
abbrev b_Flags_moveDown : ByteArray := prog_4_method_7_code
def y_Flags_moveDown : MethodName := ⟨"ThumbCore$Flags", "moveDown", "(II)I"⟩
theorem wc_Flags_moveDown : Cond.code y_Flags_moveDown b_Flags_moveDown 3 (some .int) ∈ tcb := tc_in (List.mem_append_right _ (List.mem_append_right _ (List.mem_append_left _ (List.mem_of_getElem? (i := 10) rfl)))) rfl
theorem wm_Flags_moveDown : Cond.instanceMethod y_Flags_moveDown ∈ tcb := tc_in (List.mem_append_right _ (List.mem_append_right _ (List.mem_append_left _ (List.mem_of_getElem? (i := 8) rfl)))) rfl
theorem ws_Flags_moveDown : Cond.selects "ThumbCore$Flags" y_Flags_moveDown y_Flags_moveDown ∈ tcb := tc_in (List.mem_append_right _ (List.mem_append_right _ (List.mem_append_left _ (List.mem_of_getElem? (i := 9) rfl)))) rfl
abbrev b_Flags_moveDownSigned : ByteArray := prog_4_method_8_code
def y_Flags_moveDownSigned : MethodName := ⟨"ThumbCore$Flags", "moveDownSigned", "(II)I"⟩
theorem wc_Flags_moveDownSigned : Cond.code y_Flags_moveDownSigned b_Flags_moveDownSigned 3 (some .int) ∈ tcb := tc_in (List.mem_append_right _ (List.mem_append_right _ (List.mem_append_left _ (List.mem_of_getElem? (i := 14) rfl)))) rfl
theorem wm_Flags_moveDownSigned : Cond.instanceMethod y_Flags_moveDownSigned ∈ tcb := tc_in (List.mem_append_right _ (List.mem_append_right _ (List.mem_append_left _ (List.mem_of_getElem? (i := 12) rfl)))) rfl
theorem ws_Flags_moveDownSigned : Cond.selects "ThumbCore$Flags" y_Flags_moveDownSigned y_Flags_moveDownSigned ∈ tcb := tc_in (List.mem_append_right _ (List.mem_append_right _ (List.mem_append_left _ (List.mem_of_getElem? (i := 13) rfl)))) rfl
abbrev b_ThumbCore_addThree : ByteArray := prog_1_method_19_code
def y_ThumbCore_addThree : MethodName := ⟨"ThumbCore", "addThree", "(I)Z"⟩
theorem wc_ThumbCore_addThree : Cond.code y_ThumbCore_addThree b_ThumbCore_addThree 7 (some .boolean) ∈ tcb := tc_in (List.mem_append_right _ (List.mem_append_right _ (List.mem_append_left _ (List.mem_of_getElem? (i := 19) rfl)))) rfl
theorem wm_ThumbCore_addThree : Cond.instanceMethod y_ThumbCore_addThree ∈ tcb := tc_in (List.mem_append_right _ (List.mem_append_right _ (List.mem_append_left _ (List.mem_of_getElem? (i := 18) rfl)))) rfl
theorem ws_ThumbCore_addThree : Cond.selects "ThumbCore" y_ThumbCore_addThree y_ThumbCore_addThree ∈ tcb := tc_in (List.mem_append_left _ (List.mem_map.mpr ⟨_, lw_pin_3, rfl⟩)) rfl
abbrev b_Flags_add : ByteArray := prog_4_method_5_code
def y_Flags_add : MethodName := ⟨"ThumbCore$Flags", "add", "(III)I"⟩
theorem wc_Flags_add : Cond.code y_Flags_add b_Flags_add 9 (some .int) ∈ tcb := tc_in (List.mem_append_right _ (List.mem_append_right _ (List.mem_append_left _ (List.mem_of_getElem? (i := 23) rfl)))) rfl
theorem wm_Flags_add : Cond.instanceMethod y_Flags_add ∈ tcb := tc_in (List.mem_append_right _ (List.mem_append_right _ (List.mem_append_left _ (List.mem_of_getElem? (i := 21) rfl)))) rfl
theorem ws_Flags_add : Cond.selects "ThumbCore$Flags" y_Flags_add y_Flags_add ∈ tcb := tc_in (List.mem_append_right _ (List.mem_append_right _ (List.mem_append_left _ (List.mem_of_getElem? (i := 22) rfl)))) rfl
abbrev b_ThumbCore_withByte : ByteArray := prog_1_method_20_code
def y_ThumbCore_withByte : MethodName := ⟨"ThumbCore", "withByte", "(I)Z"⟩
theorem wc_ThumbCore_withByte : Cond.code y_ThumbCore_withByte b_ThumbCore_withByte 4 (some .boolean) ∈ tcb := tc_in (List.mem_append_right _ (List.mem_append_right _ (List.mem_append_left _ (List.mem_of_getElem? (i := 28) rfl)))) rfl
theorem wm_ThumbCore_withByte : Cond.instanceMethod y_ThumbCore_withByte ∈ tcb := tc_in (List.mem_append_right _ (List.mem_append_right _ (List.mem_append_left _ (List.mem_of_getElem? (i := 27) rfl)))) rfl
theorem ws_ThumbCore_withByte : Cond.selects "ThumbCore" y_ThumbCore_withByte y_ThumbCore_withByte ∈ tcb := tc_in (List.mem_append_left _ (List.mem_map.mpr ⟨_, lw_pin_4, rfl⟩)) rfl
abbrev b_ThumbCore_combine : ByteArray := prog_1_method_21_code
def y_ThumbCore_combine : MethodName := ⟨"ThumbCore", "combine", "(I)Z"⟩
theorem wc_ThumbCore_combine : Cond.code y_ThumbCore_combine b_ThumbCore_combine 6 (some .boolean) ∈ tcb := tc_in (List.mem_append_right _ (List.mem_append_right _ (List.mem_append_left _ (List.mem_of_getElem? (i := 33) rfl)))) rfl
theorem wm_ThumbCore_combine : Cond.instanceMethod y_ThumbCore_combine ∈ tcb := tc_in (List.mem_append_right _ (List.mem_append_right _ (List.mem_append_left _ (List.mem_of_getElem? (i := 32) rfl)))) rfl
theorem ws_ThumbCore_combine : Cond.selects "ThumbCore" y_ThumbCore_combine y_ThumbCore_combine ∈ tcb := tc_in (List.mem_append_left _ (List.mem_map.mpr ⟨_, lw_pin_5, rfl⟩)) rfl
abbrev b_ThumbCore_combined : ByteArray := prog_1_method_22_code
def y_ThumbCore_combined : MethodName := ⟨"ThumbCore", "combined", "(III)I"⟩
theorem wc_ThumbCore_combined : Cond.code y_ThumbCore_combined b_ThumbCore_combined 4 (some .int) ∈ tcb := tc_in (List.mem_append_right _ (List.mem_append_right _ (List.mem_append_left _ (List.mem_of_getElem? (i := 37) rfl)))) rfl
theorem wm_ThumbCore_combined : Cond.instanceMethod y_ThumbCore_combined ∈ tcb := tc_in (List.mem_append_right _ (List.mem_append_right _ (List.mem_append_left _ (List.mem_of_getElem? (i := 36) rfl)))) rfl
theorem ws_ThumbCore_combined : Cond.selects "ThumbCore" y_ThumbCore_combined y_ThumbCore_combined ∈ tcb := tc_in (List.mem_append_left _ (List.mem_map.mpr ⟨_, lw_pin_6, rfl⟩)) rfl
abbrev b_Flags_turnRound : ByteArray := prog_4_method_9_code
def y_Flags_turnRound : MethodName := ⟨"ThumbCore$Flags", "turnRound", "(II)I"⟩
theorem wc_Flags_turnRound : Cond.code y_Flags_turnRound b_Flags_turnRound 5 (some .int) ∈ tcb := tc_in (List.mem_append_right _ (List.mem_append_right _ (List.mem_append_left _ (List.mem_of_getElem? (i := 41) rfl)))) rfl
theorem wm_Flags_turnRound : Cond.instanceMethod y_Flags_turnRound ∈ tcb := tc_in (List.mem_append_right _ (List.mem_append_right _ (List.mem_append_left _ (List.mem_of_getElem? (i := 39) rfl)))) rfl
theorem ws_Flags_turnRound : Cond.selects "ThumbCore$Flags" y_Flags_turnRound y_Flags_turnRound ∈ tcb := tc_in (List.mem_append_right _ (List.mem_append_right _ (List.mem_append_left _ (List.mem_of_getElem? (i := 40) rfl)))) rfl
abbrev b_ThumbCore_withHigh : ByteArray := prog_1_method_23_code
def y_ThumbCore_withHigh : MethodName := ⟨"ThumbCore", "withHigh", "(I)Z"⟩
theorem wc_ThumbCore_withHigh : Cond.code y_ThumbCore_withHigh b_ThumbCore_withHigh 4 (some .boolean) ∈ tcb := tc_in (List.mem_append_right _ (List.mem_append_right _ (List.mem_append_left _ (List.mem_of_getElem? (i := 45) rfl)))) rfl
theorem wm_ThumbCore_withHigh : Cond.instanceMethod y_ThumbCore_withHigh ∈ tcb := tc_in (List.mem_append_right _ (List.mem_append_right _ (List.mem_append_left _ (List.mem_of_getElem? (i := 44) rfl)))) rfl
theorem ws_ThumbCore_withHigh : Cond.selects "ThumbCore" y_ThumbCore_withHigh y_ThumbCore_withHigh ∈ tcb := tc_in (List.mem_append_left _ (List.mem_map.mpr ⟨_, lw_pin_7, rfl⟩)) rfl
abbrev b_ThumbCore_readHigh : ByteArray := prog_1_method_24_code
def y_ThumbCore_readHigh : MethodName := ⟨"ThumbCore", "readHigh", "(I)I"⟩
theorem wc_ThumbCore_readHigh : Cond.code y_ThumbCore_readHigh b_ThumbCore_readHigh 2 (some .int) ∈ tcb := tc_in (List.mem_append_right _ (List.mem_append_right _ (List.mem_append_left _ (List.mem_of_getElem? (i := 49) rfl)))) rfl
theorem wm_ThumbCore_readHigh : Cond.instanceMethod y_ThumbCore_readHigh ∈ tcb := tc_in (List.mem_append_right _ (List.mem_append_right _ (List.mem_append_left _ (List.mem_of_getElem? (i := 48) rfl)))) rfl
theorem ws_ThumbCore_readHigh : Cond.selects "ThumbCore" y_ThumbCore_readHigh y_ThumbCore_readHigh ∈ tcb := tc_in (List.mem_append_left _ (List.mem_map.mpr ⟨_, lw_pin_8, rfl⟩)) rfl
abbrev b_ThumbCore_here : ByteArray := prog_1_method_17_code
def y_ThumbCore_here : MethodName := ⟨"ThumbCore", "here", "()I"⟩
theorem wc_ThumbCore_here : Cond.code y_ThumbCore_here b_ThumbCore_here 1 (some .int) ∈ tcb := tc_in (List.mem_append_right _ (List.mem_append_right _ (List.mem_append_left _ (List.mem_of_getElem? (i := 53) rfl)))) rfl
theorem wm_ThumbCore_here : Cond.instanceMethod y_ThumbCore_here ∈ tcb := tc_in (List.mem_append_right _ (List.mem_append_right _ (List.mem_append_left _ (List.mem_of_getElem? (i := 52) rfl)))) rfl
theorem ws_ThumbCore_here : Cond.selects "ThumbCore" y_ThumbCore_here y_ThumbCore_here ∈ tcb := tc_in (List.mem_append_left _ (List.mem_map.mpr ⟨_, lw_pin_9, rfl⟩)) rfl
abbrev b_ThumbCore_put : ByteArray := prog_1_method_25_code
def y_ThumbCore_put : MethodName := ⟨"ThumbCore", "put", "(II)V"⟩
theorem wc_ThumbCore_put : Cond.code y_ThumbCore_put b_ThumbCore_put 3 none ∈ tcb := tc_in (List.mem_append_right _ (List.mem_append_right _ (List.mem_append_left _ (List.mem_of_getElem? (i := 57) rfl)))) rfl
theorem wm_ThumbCore_put : Cond.instanceMethod y_ThumbCore_put ∈ tcb := tc_in (List.mem_append_right _ (List.mem_append_right _ (List.mem_append_left _ (List.mem_of_getElem? (i := 56) rfl)))) rfl
theorem ws_ThumbCore_put : Cond.selects "ThumbCore" y_ThumbCore_put y_ThumbCore_put ∈ tcb := tc_in (List.mem_append_left _ (List.mem_map.mpr ⟨_, lw_pin_10, rfl⟩)) rfl
abbrev b_ThumbCore_fitting : ByteArray := prog_1_method_15_code
def y_ThumbCore_fitting : MethodName := ⟨"ThumbCore", "fitting", "(II)I"⟩
theorem wc_ThumbCore_fitting : Cond.code y_ThumbCore_fitting b_ThumbCore_fitting 2 (some .int) ∈ tcb := tc_in (List.mem_append_right _ (List.mem_append_right _ (List.mem_append_left _ (List.mem_of_getElem? (i := 60) rfl)))) rfl
theorem wt_ThumbCore_fitting : Cond.static y_ThumbCore_fitting ∈ tcb := tc_in (List.mem_append_right _ (List.mem_append_right _ (List.mem_append_left _ (List.mem_of_getElem? (i := 59) rfl)))) rfl
abbrev b_ThumbCore_branchTo : ByteArray := prog_1_method_26_code
def y_ThumbCore_branchTo : MethodName := ⟨"ThumbCore", "branchTo", "(IZ)Z"⟩
theorem wc_ThumbCore_branchTo : Cond.code y_ThumbCore_branchTo b_ThumbCore_branchTo 3 (some .boolean) ∈ tcb := tc_in (List.mem_append_right _ (List.mem_append_right _ (List.mem_append_left _ (List.mem_of_getElem? (i := 64) rfl)))) rfl
theorem wm_ThumbCore_branchTo : Cond.instanceMethod y_ThumbCore_branchTo ∈ tcb := tc_in (List.mem_append_right _ (List.mem_append_right _ (List.mem_append_left _ (List.mem_of_getElem? (i := 63) rfl)))) rfl
theorem ws_ThumbCore_branchTo : Cond.selects "ThumbCore" y_ThumbCore_branchTo y_ThumbCore_branchTo ∈ tcb := tc_in (List.mem_append_left _ (List.mem_map.mpr ⟨_, lw_pin_11, rfl⟩)) rfl
abbrev b_ThumbCore_mayGoTo : ByteArray := prog_1_method_55_code
def y_ThumbCore_mayGoTo : MethodName := ⟨"ThumbCore", "mayGoTo", "(II)Z"⟩
theorem wc_ThumbCore_mayGoTo : Cond.code y_ThumbCore_mayGoTo b_ThumbCore_mayGoTo 4 (some .boolean) ∈ tcb := tc_in (List.mem_append_right _ (List.mem_append_right _ (List.mem_append_left _ (List.mem_of_getElem? (i := 68) rfl)))) rfl
theorem wm_ThumbCore_mayGoTo : Cond.instanceMethod y_ThumbCore_mayGoTo ∈ tcb := tc_in (List.mem_append_right _ (List.mem_append_right _ (List.mem_append_left _ (List.mem_of_getElem? (i := 67) rfl)))) rfl
theorem ws_ThumbCore_mayGoTo : Cond.selects "ThumbCore" y_ThumbCore_mayGoTo y_ThumbCore_mayGoTo ∈ tcb := tc_in (List.mem_append_left _ (List.mem_map.mpr ⟨_, lw_pin_12, rfl⟩)) rfl
abbrev b_ThumbCore_isReturn : ByteArray := prog_1_method_54_code
def y_ThumbCore_isReturn : MethodName := ⟨"ThumbCore", "isReturn", "(I)Z"⟩
theorem wc_ThumbCore_isReturn : Cond.code y_ThumbCore_isReturn b_ThumbCore_isReturn 2 (some .boolean) ∈ tcb := tc_in (List.mem_append_right _ (List.mem_append_right _ (List.mem_append_left _ (List.mem_of_getElem? (i := 72) rfl)))) rfl
theorem wm_ThumbCore_isReturn : Cond.instanceMethod y_ThumbCore_isReturn ∈ tcb := tc_in (List.mem_append_right _ (List.mem_append_right _ (List.mem_append_left _ (List.mem_of_getElem? (i := 71) rfl)))) rfl
theorem ws_ThumbCore_isReturn : Cond.selects "ThumbCore" y_ThumbCore_isReturn y_ThumbCore_isReturn ∈ tcb := tc_in (List.mem_append_left _ (List.mem_map.mpr ⟨_, lw_pin_13, rfl⟩)) rfl
abbrev b_Exceptions_mayEndLast : ByteArray := prog_3_method_10_code
def y_Exceptions_mayEndLast : MethodName := ⟨"ThumbCore$Exceptions", "mayEndLast", "(I)Z"⟩
theorem wc_Exceptions_mayEndLast : Cond.code y_Exceptions_mayEndLast b_Exceptions_mayEndLast 2 (some .boolean) ∈ tcb := tc_in (List.mem_append_right _ (List.mem_append_right _ (List.mem_append_left _ (List.mem_of_getElem? (i := 76) rfl)))) rfl
theorem wm_Exceptions_mayEndLast : Cond.instanceMethod y_Exceptions_mayEndLast ∈ tcb := tc_in (List.mem_append_right _ (List.mem_append_right _ (List.mem_append_left _ (List.mem_of_getElem? (i := 74) rfl)))) rfl
theorem ws_Exceptions_mayEndLast : Cond.selects "ThumbCore$Exceptions" y_Exceptions_mayEndLast y_Exceptions_mayEndLast ∈ tcb := tc_in (List.mem_append_right _ (List.mem_append_right _ (List.mem_append_left _ (List.mem_of_getElem? (i := 75) rfl)))) rfl
abbrev b_Integer_bitCount : ByteArray := prog_8_method_49_code
def y_Integer_bitCount : MethodName := ⟨"java/lang/Integer", "bitCount", "(I)I"⟩
theorem wc_Integer_bitCount : Cond.code y_Integer_bitCount b_Integer_bitCount 1 (some .int) ∈ tcb := tc_in (List.mem_append_right _ (List.mem_append_right _ (List.mem_append_left _ (List.mem_of_getElem? (i := 79) rfl)))) rfl
theorem wt_Integer_bitCount : Cond.static y_Integer_bitCount ∈ tcb := tc_in (List.mem_append_right _ (List.mem_append_right _ (List.mem_append_left _ (List.mem_of_getElem? (i := 78) rfl)))) rfl
abbrev b_Exceptions_mayEndFor : ByteArray := prog_3_method_11_code
def y_Exceptions_mayEndFor : MethodName := ⟨"ThumbCore$Exceptions", "mayEndFor", "(I)Z"⟩
theorem wc_Exceptions_mayEndFor : Cond.code y_Exceptions_mayEndFor b_Exceptions_mayEndFor 2 (some .boolean) ∈ tcb := tc_in (List.mem_append_right _ (List.mem_append_right _ (List.mem_append_left _ (List.mem_of_getElem? (i := 86) rfl)))) rfl
theorem wm_Exceptions_mayEndFor : Cond.instanceMethod y_Exceptions_mayEndFor ∈ tcb := tc_in (List.mem_append_right _ (List.mem_append_right _ (List.mem_append_left _ (List.mem_of_getElem? (i := 84) rfl)))) rfl
theorem ws_Exceptions_mayEndFor : Cond.selects "ThumbCore$Exceptions" y_Exceptions_mayEndFor y_Exceptions_mayEndFor ∈ tcb := tc_in (List.mem_append_right _ (List.mem_append_right _ (List.mem_append_left _ (List.mem_of_getElem? (i := 85) rfl)))) rfl
abbrev b_Exceptions_isActive : ByteArray := prog_3_method_5_code
def y_Exceptions_isActive : MethodName := ⟨"ThumbCore$Exceptions", "isActive", "(I)Z"⟩
theorem wc_Exceptions_isActive : Cond.code y_Exceptions_isActive b_Exceptions_isActive 2 (some .boolean) ∈ tcb := tc_in (List.mem_append_right _ (List.mem_append_right _ (List.mem_append_left _ (List.mem_of_getElem? (i := 90) rfl)))) rfl
theorem wm_Exceptions_isActive : Cond.instanceMethod y_Exceptions_isActive ∈ tcb := tc_in (List.mem_append_right _ (List.mem_append_right _ (List.mem_append_left _ (List.mem_of_getElem? (i := 88) rfl)))) rfl
theorem ws_Exceptions_isActive : Cond.selects "ThumbCore$Exceptions" y_Exceptions_isActive y_Exceptions_isActive ∈ tcb := tc_in (List.mem_append_right _ (List.mem_append_right _ (List.mem_append_left _ (List.mem_of_getElem? (i := 89) rfl)))) rfl
abbrev b_ThumbCore_goTo : ByteArray := prog_1_method_56_code
def y_ThumbCore_goTo : MethodName := ⟨"ThumbCore", "goTo", "(I)V"⟩
theorem wc_ThumbCore_goTo : Cond.code y_ThumbCore_goTo b_ThumbCore_goTo 5 none ∈ tcb := tc_in (List.mem_append_right _ (List.mem_append_right _ (List.mem_append_left _ (List.mem_of_getElem? (i := 94) rfl)))) rfl
theorem wm_ThumbCore_goTo : Cond.instanceMethod y_ThumbCore_goTo ∈ tcb := tc_in (List.mem_append_right _ (List.mem_append_right _ (List.mem_append_left _ (List.mem_of_getElem? (i := 93) rfl)))) rfl
theorem ws_ThumbCore_goTo : Cond.selects "ThumbCore" y_ThumbCore_goTo y_ThumbCore_goTo ∈ tcb := tc_in (List.mem_append_left _ (List.mem_map.mpr ⟨_, lw_pin_14, rfl⟩)) rfl
abbrev b_Exceptions_endFor : ByteArray := prog_3_method_12_code
def y_Exceptions_endFor : MethodName := ⟨"ThumbCore$Exceptions", "endFor", "(I)V"⟩
theorem wc_Exceptions_endFor : Cond.code y_Exceptions_endFor b_Exceptions_endFor 2 none ∈ tcb := tc_in (List.mem_append_right _ (List.mem_append_right _ (List.mem_append_left _ (List.mem_of_getElem? (i := 98) rfl)))) rfl
theorem wm_Exceptions_endFor : Cond.instanceMethod y_Exceptions_endFor ∈ tcb := tc_in (List.mem_append_right _ (List.mem_append_right _ (List.mem_append_left _ (List.mem_of_getElem? (i := 96) rfl)))) rfl
theorem ws_Exceptions_endFor : Cond.selects "ThumbCore$Exceptions" y_Exceptions_endFor y_Exceptions_endFor ∈ tcb := tc_in (List.mem_append_right _ (List.mem_append_right _ (List.mem_append_left _ (List.mem_of_getElem? (i := 97) rfl)))) rfl
abbrev b_ThumbCore_fromBase : ByteArray := prog_1_method_27_code
def y_ThumbCore_fromBase : MethodName := ⟨"ThumbCore", "fromBase", "(I)Z"⟩
theorem wc_ThumbCore_fromBase : Cond.code y_ThumbCore_fromBase b_ThumbCore_fromBase 5 (some .boolean) ∈ tcb := tc_in (List.mem_append_right _ (List.mem_append_right _ (List.mem_append_left _ (List.mem_of_getElem? (i := 102) rfl)))) rfl
theorem wm_ThumbCore_fromBase : Cond.instanceMethod y_ThumbCore_fromBase ∈ tcb := tc_in (List.mem_append_right _ (List.mem_append_right _ (List.mem_append_left _ (List.mem_of_getElem? (i := 101) rfl)))) rfl
theorem ws_ThumbCore_fromBase : Cond.selects "ThumbCore" y_ThumbCore_fromBase y_ThumbCore_fromBase ∈ tcb := tc_in (List.mem_append_left _ (List.mem_map.mpr ⟨_, lw_pin_15, rfl⟩)) rfl
abbrev b_ThumbCore_load : ByteArray := prog_1_method_31_code
def y_ThumbCore_load : MethodName := ⟨"ThumbCore", "load", "(III)Z"⟩
theorem wc_ThumbCore_load : Cond.code y_ThumbCore_load b_ThumbCore_load 4 (some .boolean) ∈ tcb := tc_in (List.mem_append_right _ (List.mem_append_right _ (List.mem_append_left _ (List.mem_of_getElem? (i := 106) rfl)))) rfl
theorem wm_ThumbCore_load : Cond.instanceMethod y_ThumbCore_load ∈ tcb := tc_in (List.mem_append_right _ (List.mem_append_right _ (List.mem_append_left _ (List.mem_of_getElem? (i := 105) rfl)))) rfl
theorem ws_ThumbCore_load : Cond.selects "ThumbCore" y_ThumbCore_load y_ThumbCore_load ∈ tcb := tc_in (List.mem_append_left _ (List.mem_map.mpr ⟨_, lw_pin_16, rfl⟩)) rfl
abbrev b_ThumbCore_store : ByteArray := prog_1_method_30_code
def y_ThumbCore_store : MethodName := ⟨"ThumbCore", "store", "(III)Z"⟩
theorem wc_ThumbCore_store : Cond.code y_ThumbCore_store b_ThumbCore_store 4 (some .boolean) ∈ tcb := tc_in (List.mem_append_right _ (List.mem_append_right _ (List.mem_append_left _ (List.mem_of_getElem? (i := 110) rfl)))) rfl
theorem wm_ThumbCore_store : Cond.instanceMethod y_ThumbCore_store ∈ tcb := tc_in (List.mem_append_right _ (List.mem_append_right _ (List.mem_append_left _ (List.mem_of_getElem? (i := 109) rfl)))) rfl
theorem ws_ThumbCore_store : Cond.selects "ThumbCore" y_ThumbCore_store y_ThumbCore_store ∈ tcb := tc_in (List.mem_append_left _ (List.mem_map.mpr ⟨_, lw_pin_17, rfl⟩)) rfl
abbrev b_ThumbCore_atSum : ByteArray := prog_1_method_28_code
def y_ThumbCore_atSum : MethodName := ⟨"ThumbCore", "atSum", "(I)Z"⟩
theorem wc_ThumbCore_atSum : Cond.code y_ThumbCore_atSum b_ThumbCore_atSum 4 (some .boolean) ∈ tcb := tc_in (List.mem_append_right _ (List.mem_append_right _ (List.mem_append_left _ (List.mem_of_getElem? (i := 114) rfl)))) rfl
theorem wm_ThumbCore_atSum : Cond.instanceMethod y_ThumbCore_atSum ∈ tcb := tc_in (List.mem_append_right _ (List.mem_append_right _ (List.mem_append_left _ (List.mem_of_getElem? (i := 113) rfl)))) rfl
theorem ws_ThumbCore_atSum : Cond.selects "ThumbCore" y_ThumbCore_atSum y_ThumbCore_atSum ∈ tcb := tc_in (List.mem_append_left _ (List.mem_map.mpr ⟨_, lw_pin_18, rfl⟩)) rfl
abbrev b_ThumbCore_loadSigned : ByteArray := prog_1_method_32_code
def y_ThumbCore_loadSigned : MethodName := ⟨"ThumbCore", "loadSigned", "(III)Z"⟩
theorem wc_ThumbCore_loadSigned : Cond.code y_ThumbCore_loadSigned b_ThumbCore_loadSigned 5 (some .boolean) ∈ tcb := tc_in (List.mem_append_right _ (List.mem_append_right _ (List.mem_append_left _ (List.mem_of_getElem? (i := 118) rfl)))) rfl
theorem wm_ThumbCore_loadSigned : Cond.instanceMethod y_ThumbCore_loadSigned ∈ tcb := tc_in (List.mem_append_right _ (List.mem_append_right _ (List.mem_append_left _ (List.mem_of_getElem? (i := 117) rfl)))) rfl
theorem ws_ThumbCore_loadSigned : Cond.selects "ThumbCore" y_ThumbCore_loadSigned y_ThumbCore_loadSigned ∈ tcb := tc_in (List.mem_append_left _ (List.mem_map.mpr ⟨_, lw_pin_19, rfl⟩)) rfl
abbrev b_ThumbCore_atOffset : ByteArray := prog_1_method_29_code
def y_ThumbCore_atOffset : MethodName := ⟨"ThumbCore", "atOffset", "(I)Z"⟩
theorem wc_ThumbCore_atOffset : Cond.code y_ThumbCore_atOffset b_ThumbCore_atOffset 5 (some .boolean) ∈ tcb := tc_in (List.mem_append_right _ (List.mem_append_right _ (List.mem_append_left _ (List.mem_of_getElem? (i := 122) rfl)))) rfl
theorem wm_ThumbCore_atOffset : Cond.instanceMethod y_ThumbCore_atOffset ∈ tcb := tc_in (List.mem_append_right _ (List.mem_append_right _ (List.mem_append_left _ (List.mem_of_getElem? (i := 121) rfl)))) rfl
theorem ws_ThumbCore_atOffset : Cond.selects "ThumbCore" y_ThumbCore_atOffset y_ThumbCore_atOffset ∈ tcb := tc_in (List.mem_append_left _ (List.mem_map.mpr ⟨_, lw_pin_20, rfl⟩)) rfl
abbrev b_ThumbCore_miscellaneous : ByteArray := prog_1_method_33_code
def y_ThumbCore_miscellaneous : MethodName := ⟨"ThumbCore", "miscellaneous", "(I)Z"⟩
theorem wc_ThumbCore_miscellaneous : Cond.code y_ThumbCore_miscellaneous b_ThumbCore_miscellaneous 2 (some .boolean) ∈ tcb := tc_in (List.mem_append_right _ (List.mem_append_right _ (List.mem_append_left _ (List.mem_of_getElem? (i := 126) rfl)))) rfl
theorem wm_ThumbCore_miscellaneous : Cond.instanceMethod y_ThumbCore_miscellaneous ∈ tcb := tc_in (List.mem_append_right _ (List.mem_append_right _ (List.mem_append_left _ (List.mem_of_getElem? (i := 125) rfl)))) rfl
theorem ws_ThumbCore_miscellaneous : Cond.selects "ThumbCore" y_ThumbCore_miscellaneous y_ThumbCore_miscellaneous ∈ tcb := tc_in (List.mem_append_left _ (List.mem_map.mpr ⟨_, lw_pin_21, rfl⟩)) rfl
abbrev b_ThumbCore_moveStack : ByteArray := prog_1_method_34_code
def y_ThumbCore_moveStack : MethodName := ⟨"ThumbCore", "moveStack", "(I)V"⟩
theorem wc_ThumbCore_moveStack : Cond.code y_ThumbCore_moveStack b_ThumbCore_moveStack 3 none ∈ tcb := tc_in (List.mem_append_right _ (List.mem_append_right _ (List.mem_append_left _ (List.mem_of_getElem? (i := 130) rfl)))) rfl
theorem wm_ThumbCore_moveStack : Cond.instanceMethod y_ThumbCore_moveStack ∈ tcb := tc_in (List.mem_append_right _ (List.mem_append_right _ (List.mem_append_left _ (List.mem_of_getElem? (i := 129) rfl)))) rfl
theorem ws_ThumbCore_moveStack : Cond.selects "ThumbCore" y_ThumbCore_moveStack y_ThumbCore_moveStack ∈ tcb := tc_in (List.mem_append_left _ (List.mem_map.mpr ⟨_, lw_pin_22, rfl⟩)) rfl
abbrev b_ThumbCore_extended : ByteArray := prog_1_method_35_code
def y_ThumbCore_extended : MethodName := ⟨"ThumbCore", "extended", "(II)I"⟩
theorem wc_ThumbCore_extended : Cond.code y_ThumbCore_extended b_ThumbCore_extended 2 (some .int) ∈ tcb := tc_in (List.mem_append_right _ (List.mem_append_right _ (List.mem_append_left _ (List.mem_of_getElem? (i := 133) rfl)))) rfl
theorem wt_ThumbCore_extended : Cond.static y_ThumbCore_extended ∈ tcb := tc_in (List.mem_append_right _ (List.mem_append_right _ (List.mem_append_left _ (List.mem_of_getElem? (i := 132) rfl)))) rfl
abbrev b_ThumbCore_push : ByteArray := prog_1_method_39_code
def y_ThumbCore_push : MethodName := ⟨"ThumbCore", "push", "(I)Z"⟩
theorem wc_ThumbCore_push : Cond.code y_ThumbCore_push b_ThumbCore_push 3 (some .boolean) ∈ tcb := tc_in (List.mem_append_right _ (List.mem_append_right _ (List.mem_append_left _ (List.mem_of_getElem? (i := 138) rfl)))) rfl
theorem wm_ThumbCore_push : Cond.instanceMethod y_ThumbCore_push ∈ tcb := tc_in (List.mem_append_right _ (List.mem_append_right _ (List.mem_append_left _ (List.mem_of_getElem? (i := 137) rfl)))) rfl
theorem ws_ThumbCore_push : Cond.selects "ThumbCore" y_ThumbCore_push y_ThumbCore_push ∈ tcb := tc_in (List.mem_append_left _ (List.mem_map.mpr ⟨_, lw_pin_23, rfl⟩)) rfl
abbrev b_ThumbCore_areThere : ByteArray := prog_1_method_44_code
def y_ThumbCore_areThere : MethodName := ⟨"ThumbCore", "areThere", "(II)Z"⟩
theorem wc_ThumbCore_areThere : Cond.code y_ThumbCore_areThere b_ThumbCore_areThere 3 (some .boolean) ∈ tcb := tc_in (List.mem_append_right _ (List.mem_append_right _ (List.mem_append_left _ (List.mem_of_getElem? (i := 143) rfl)))) rfl
theorem wm_ThumbCore_areThere : Cond.instanceMethod y_ThumbCore_areThere ∈ tcb := tc_in (List.mem_append_right _ (List.mem_append_right _ (List.mem_append_left _ (List.mem_of_getElem? (i := 142) rfl)))) rfl
theorem ws_ThumbCore_areThere : Cond.selects "ThumbCore" y_ThumbCore_areThere y_ThumbCore_areThere ∈ tcb := tc_in (List.mem_append_left _ (List.mem_map.mpr ⟨_, lw_pin_24, rfl⟩)) rfl
abbrev b_ThumbCore_writeList : ByteArray := prog_1_method_46_code
def y_ThumbCore_writeList : MethodName := ⟨"ThumbCore", "writeList", "(II)V"⟩
theorem wc_ThumbCore_writeList : Cond.code y_ThumbCore_writeList b_ThumbCore_writeList 5 none ∈ tcb := tc_in (List.mem_append_right _ (List.mem_append_right _ (List.mem_append_left _ (List.mem_of_getElem? (i := 147) rfl)))) rfl
theorem wm_ThumbCore_writeList : Cond.instanceMethod y_ThumbCore_writeList ∈ tcb := tc_in (List.mem_append_right _ (List.mem_append_right _ (List.mem_append_left _ (List.mem_of_getElem? (i := 146) rfl)))) rfl
theorem ws_ThumbCore_writeList : Cond.selects "ThumbCore" y_ThumbCore_writeList y_ThumbCore_writeList ∈ tcb := tc_in (List.mem_append_left _ (List.mem_map.mpr ⟨_, lw_pin_25, rfl⟩)) rfl
abbrev b_ThumbCore_changeMask : ByteArray := prog_1_method_36_code
def y_ThumbCore_changeMask : MethodName := ⟨"ThumbCore", "changeMask", "(I)Z"⟩
theorem wc_ThumbCore_changeMask : Cond.code y_ThumbCore_changeMask b_ThumbCore_changeMask 2 (some .boolean) ∈ tcb := tc_in (List.mem_append_right _ (List.mem_append_right _ (List.mem_append_left _ (List.mem_of_getElem? (i := 151) rfl)))) rfl
theorem wm_ThumbCore_changeMask : Cond.instanceMethod y_ThumbCore_changeMask ∈ tcb := tc_in (List.mem_append_right _ (List.mem_append_right _ (List.mem_append_left _ (List.mem_of_getElem? (i := 150) rfl)))) rfl
theorem ws_ThumbCore_changeMask : Cond.selects "ThumbCore" y_ThumbCore_changeMask y_ThumbCore_changeMask ∈ tcb := tc_in (List.mem_append_left _ (List.mem_map.mpr ⟨_, lw_pin_26, rfl⟩)) rfl
abbrev b_ThumbCore_swapBytes : ByteArray := prog_1_method_37_code
def y_ThumbCore_swapBytes : MethodName := ⟨"ThumbCore", "swapBytes", "(I)Z"⟩
theorem wc_ThumbCore_swapBytes : Cond.code y_ThumbCore_swapBytes b_ThumbCore_swapBytes 5 (some .boolean) ∈ tcb := tc_in (List.mem_append_right _ (List.mem_append_right _ (List.mem_append_left _ (List.mem_of_getElem? (i := 157) rfl)))) rfl
theorem wm_ThumbCore_swapBytes : Cond.instanceMethod y_ThumbCore_swapBytes ∈ tcb := tc_in (List.mem_append_right _ (List.mem_append_right _ (List.mem_append_left _ (List.mem_of_getElem? (i := 156) rfl)))) rfl
theorem ws_ThumbCore_swapBytes : Cond.selects "ThumbCore" y_ThumbCore_swapBytes y_ThumbCore_swapBytes ∈ tcb := tc_in (List.mem_append_left _ (List.mem_map.mpr ⟨_, lw_pin_27, rfl⟩)) rfl
abbrev b_ThumbCore_pop : ByteArray := prog_1_method_40_code
def y_ThumbCore_pop : MethodName := ⟨"ThumbCore", "pop", "(I)Z"⟩
theorem wc_ThumbCore_pop : Cond.code y_ThumbCore_pop b_ThumbCore_pop 3 (some .boolean) ∈ tcb := tc_in (List.mem_append_right _ (List.mem_append_right _ (List.mem_append_left _ (List.mem_of_getElem? (i := 162) rfl)))) rfl
theorem wm_ThumbCore_pop : Cond.instanceMethod y_ThumbCore_pop ∈ tcb := tc_in (List.mem_append_right _ (List.mem_append_right _ (List.mem_append_left _ (List.mem_of_getElem? (i := 161) rfl)))) rfl
theorem ws_ThumbCore_pop : Cond.selects "ThumbCore" y_ThumbCore_pop y_ThumbCore_pop ∈ tcb := tc_in (List.mem_append_left _ (List.mem_map.mpr ⟨_, lw_pin_28, rfl⟩)) rfl
abbrev b_ThumbCore_readList : ByteArray := prog_1_method_47_code
def y_ThumbCore_readList : MethodName := ⟨"ThumbCore", "readList", "(II)V"⟩
theorem wc_ThumbCore_readList : Cond.code y_ThumbCore_readList b_ThumbCore_readList 5 none ∈ tcb := tc_in (List.mem_append_right _ (List.mem_append_right _ (List.mem_append_left _ (List.mem_of_getElem? (i := 166) rfl)))) rfl
theorem wm_ThumbCore_readList : Cond.instanceMethod y_ThumbCore_readList ∈ tcb := tc_in (List.mem_append_right _ (List.mem_append_right _ (List.mem_append_left _ (List.mem_of_getElem? (i := 165) rfl)))) rfl
theorem ws_ThumbCore_readList : Cond.selects "ThumbCore" y_ThumbCore_readList y_ThumbCore_readList ∈ tcb := tc_in (List.mem_append_left _ (List.mem_map.mpr ⟨_, lw_pin_29, rfl⟩)) rfl
abbrev b_ThumbCore_behind : ByteArray := prog_1_method_45_code
def y_ThumbCore_behind : MethodName := ⟨"ThumbCore", "behind", "(II)I"⟩
theorem wc_ThumbCore_behind : Cond.code y_ThumbCore_behind b_ThumbCore_behind 2 (some .int) ∈ tcb := tc_in (List.mem_append_right _ (List.mem_append_right _ (List.mem_append_left _ (List.mem_of_getElem? (i := 169) rfl)))) rfl
theorem wt_ThumbCore_behind : Cond.static y_ThumbCore_behind ∈ tcb := tc_in (List.mem_append_right _ (List.mem_append_right _ (List.mem_append_left _ (List.mem_of_getElem? (i := 168) rfl)))) rfl
abbrev b_ThumbCore_popAndGo : ByteArray := prog_1_method_41_code
def y_ThumbCore_popAndGo : MethodName := ⟨"ThumbCore", "popAndGo", "(I)Z"⟩
theorem wc_ThumbCore_popAndGo : Cond.code y_ThumbCore_popAndGo b_ThumbCore_popAndGo 5 (some .boolean) ∈ tcb := tc_in (List.mem_append_right _ (List.mem_append_right _ (List.mem_append_left _ (List.mem_of_getElem? (i := 173) rfl)))) rfl
theorem wm_ThumbCore_popAndGo : Cond.instanceMethod y_ThumbCore_popAndGo ∈ tcb := tc_in (List.mem_append_right _ (List.mem_append_right _ (List.mem_append_left _ (List.mem_of_getElem? (i := 172) rfl)))) rfl
theorem ws_ThumbCore_popAndGo : Cond.selects "ThumbCore" y_ThumbCore_popAndGo y_ThumbCore_popAndGo ∈ tcb := tc_in (List.mem_append_left _ (List.mem_map.mpr ⟨_, lw_pin_30, rfl⟩)) rfl
abbrev b_ThumbCore_hint : ByteArray := prog_1_method_38_code
def y_ThumbCore_hint : MethodName := ⟨"ThumbCore", "hint", "(I)Z"⟩
theorem wc_ThumbCore_hint : Cond.code y_ThumbCore_hint b_ThumbCore_hint 2 (some .boolean) ∈ tcb := tc_in (List.mem_append_right _ (List.mem_append_right _ (List.mem_append_left _ (List.mem_of_getElem? (i := 177) rfl)))) rfl
theorem wm_ThumbCore_hint : Cond.instanceMethod y_ThumbCore_hint ∈ tcb := tc_in (List.mem_append_right _ (List.mem_append_right _ (List.mem_append_left _ (List.mem_of_getElem? (i := 176) rfl)))) rfl
theorem ws_ThumbCore_hint : Cond.selects "ThumbCore" y_ThumbCore_hint y_ThumbCore_hint ∈ tcb := tc_in (List.mem_append_left _ (List.mem_map.mpr ⟨_, lw_pin_31, rfl⟩)) rfl
abbrev b_ThumbCore_storeMany : ByteArray := prog_1_method_42_code
def y_ThumbCore_storeMany : MethodName := ⟨"ThumbCore", "storeMany", "(II)Z"⟩
theorem wc_ThumbCore_storeMany : Cond.code y_ThumbCore_storeMany b_ThumbCore_storeMany 6 (some .boolean) ∈ tcb := tc_in (List.mem_append_right _ (List.mem_append_right _ (List.mem_append_left _ (List.mem_of_getElem? (i := 182) rfl)))) rfl
theorem wm_ThumbCore_storeMany : Cond.instanceMethod y_ThumbCore_storeMany ∈ tcb := tc_in (List.mem_append_right _ (List.mem_append_right _ (List.mem_append_left _ (List.mem_of_getElem? (i := 181) rfl)))) rfl
theorem ws_ThumbCore_storeMany : Cond.selects "ThumbCore" y_ThumbCore_storeMany y_ThumbCore_storeMany ∈ tcb := tc_in (List.mem_append_left _ (List.mem_map.mpr ⟨_, lw_pin_32, rfl⟩)) rfl
abbrev b_ThumbCore_loadMany : ByteArray := prog_1_method_43_code
def y_ThumbCore_loadMany : MethodName := ⟨"ThumbCore", "loadMany", "(II)Z"⟩
theorem wc_ThumbCore_loadMany : Cond.code y_ThumbCore_loadMany b_ThumbCore_loadMany 4 (some .boolean) ∈ tcb := tc_in (List.mem_append_right _ (List.mem_append_right _ (List.mem_append_left _ (List.mem_of_getElem? (i := 186) rfl)))) rfl
theorem wm_ThumbCore_loadMany : Cond.instanceMethod y_ThumbCore_loadMany ∈ tcb := tc_in (List.mem_append_right _ (List.mem_append_right _ (List.mem_append_left _ (List.mem_of_getElem? (i := 185) rfl)))) rfl
theorem ws_ThumbCore_loadMany : Cond.selects "ThumbCore" y_ThumbCore_loadMany y_ThumbCore_loadMany ∈ tcb := tc_in (List.mem_append_left _ (List.mem_map.mpr ⟨_, lw_pin_33, rfl⟩)) rfl
abbrev b_ThumbCore_branchOrCall : ByteArray := prog_1_method_48_code
def y_ThumbCore_branchOrCall : MethodName := ⟨"ThumbCore", "branchOrCall", "(II)Z"⟩
theorem wc_ThumbCore_branchOrCall : Cond.code y_ThumbCore_branchOrCall b_ThumbCore_branchOrCall 3 (some .boolean) ∈ tcb := tc_in (List.mem_append_right _ (List.mem_append_right _ (List.mem_append_left _ (List.mem_of_getElem? (i := 190) rfl)))) rfl
theorem wm_ThumbCore_branchOrCall : Cond.instanceMethod y_ThumbCore_branchOrCall ∈ tcb := tc_in (List.mem_append_right _ (List.mem_append_right _ (List.mem_append_left _ (List.mem_of_getElem? (i := 189) rfl)))) rfl
theorem ws_ThumbCore_branchOrCall : Cond.selects "ThumbCore" y_ThumbCore_branchOrCall y_ThumbCore_branchOrCall ∈ tcb := tc_in (List.mem_append_left _ (List.mem_map.mpr ⟨_, lw_pin_34, rfl⟩)) rfl
abbrev b_ThumbCore_call : ByteArray := prog_1_method_49_code
def y_ThumbCore_call : MethodName := ⟨"ThumbCore", "call", "()Z"⟩
theorem wc_ThumbCore_call : Cond.code y_ThumbCore_call b_ThumbCore_call 1 (some .boolean) ∈ tcb := tc_in (List.mem_append_right _ (List.mem_append_right _ (List.mem_append_left _ (List.mem_of_getElem? (i := 194) rfl)))) rfl
theorem wm_ThumbCore_call : Cond.instanceMethod y_ThumbCore_call ∈ tcb := tc_in (List.mem_append_right _ (List.mem_append_right _ (List.mem_append_left _ (List.mem_of_getElem? (i := 193) rfl)))) rfl
theorem ws_ThumbCore_call : Cond.selects "ThumbCore" y_ThumbCore_call y_ThumbCore_call ∈ tcb := tc_in (List.mem_append_left _ (List.mem_map.mpr ⟨_, lw_pin_35, rfl⟩)) rfl
abbrev b_Flags_meet : ByteArray := prog_4_method_10_code
def y_Flags_meet : MethodName := ⟨"ThumbCore$Flags", "meet", "(I)Z"⟩
theorem wc_Flags_meet : Cond.code y_Flags_meet b_Flags_meet 2 (some .boolean) ∈ tcb := tc_in (List.mem_append_right _ (List.mem_append_right _ (List.mem_append_left _ (List.mem_of_getElem? (i := 198) rfl)))) rfl
theorem wm_Flags_meet : Cond.instanceMethod y_Flags_meet ∈ tcb := tc_in (List.mem_append_right _ (List.mem_append_right _ (List.mem_append_left _ (List.mem_of_getElem? (i := 196) rfl)))) rfl
theorem ws_Flags_meet : Cond.selects "ThumbCore$Flags" y_Flags_meet y_Flags_meet ∈ tcb := tc_in (List.mem_append_right _ (List.mem_append_right _ (List.mem_append_left _ (List.mem_of_getElem? (i := 197) rfl)))) rfl
abbrev b_Flags_even : ByteArray := prog_4_method_11_code
def y_Flags_even : MethodName := ⟨"ThumbCore$Flags", "even", "(I)Z"⟩
theorem wc_Flags_even : Cond.code y_Flags_even b_Flags_even 2 (some .boolean) ∈ tcb := tc_in (List.mem_append_right _ (List.mem_append_right _ (List.mem_append_left _ (List.mem_of_getElem? (i := 202) rfl)))) rfl
theorem wm_Flags_even : Cond.instanceMethod y_Flags_even ∈ tcb := tc_in (List.mem_append_right _ (List.mem_append_right _ (List.mem_append_left _ (List.mem_of_getElem? (i := 201) rfl)))) rfl
theorem ws_Flags_even : Cond.selects "ThumbCore$Flags" y_Flags_even y_Flags_even ∈ tcb := tc_in (List.mem_append_left _ (List.mem_map.mpr ⟨_, lw_pin_36, rfl⟩)) rfl
abbrev b_ThumbCore_branchFar : ByteArray := prog_1_method_50_code
def y_ThumbCore_branchFar : MethodName := ⟨"ThumbCore", "branchFar", "(I)Z"⟩
theorem wc_ThumbCore_branchFar : Cond.code y_ThumbCore_branchFar b_ThumbCore_branchFar 4 (some .boolean) ∈ tcb := tc_in (List.mem_append_right _ (List.mem_append_right _ (List.mem_append_left _ (List.mem_of_getElem? (i := 206) rfl)))) rfl
theorem wm_ThumbCore_branchFar : Cond.instanceMethod y_ThumbCore_branchFar ∈ tcb := tc_in (List.mem_append_right _ (List.mem_append_right _ (List.mem_append_left _ (List.mem_of_getElem? (i := 205) rfl)))) rfl
theorem ws_ThumbCore_branchFar : Cond.selects "ThumbCore" y_ThumbCore_branchFar y_ThumbCore_branchFar ∈ tcb := tc_in (List.mem_append_left _ (List.mem_map.mpr ⟨_, lw_pin_37, rfl⟩)) rfl
abbrev b_ThumbCore_farOffset : ByteArray := prog_1_method_51_code
def y_ThumbCore_farOffset : MethodName := ⟨"ThumbCore", "farOffset", "(II)I"⟩
theorem wc_ThumbCore_farOffset : Cond.code y_ThumbCore_farOffset b_ThumbCore_farOffset 5 (some .int) ∈ tcb := tc_in (List.mem_append_right _ (List.mem_append_right _ (List.mem_append_left _ (List.mem_of_getElem? (i := 210) rfl)))) rfl
theorem wt_ThumbCore_farOffset : Cond.static y_ThumbCore_farOffset ∈ tcb := tc_in (List.mem_append_right _ (List.mem_append_right _ (List.mem_append_left _ (List.mem_of_getElem? (i := 209) rfl)))) rfl
abbrev b_ThumbCore_fault : ByteArray := prog_1_method_52_code
def y_ThumbCore_fault : MethodName := ⟨"ThumbCore", "fault", "()V"⟩
theorem wc_ThumbCore_fault : Cond.code y_ThumbCore_fault b_ThumbCore_fault 1 none ∈ tcb := tc_in (List.mem_append_right _ (List.mem_append_right _ (List.mem_append_left _ (List.mem_of_getElem? (i := 214) rfl)))) rfl
theorem wm_ThumbCore_fault : Cond.instanceMethod y_ThumbCore_fault ∈ tcb := tc_in (List.mem_append_right _ (List.mem_append_right _ (List.mem_append_left _ (List.mem_of_getElem? (i := 213) rfl)))) rfl
theorem ws_ThumbCore_fault : Cond.selects "ThumbCore" y_ThumbCore_fault y_ThumbCore_fault ∈ tcb := tc_in (List.mem_append_left _ (List.mem_map.mpr ⟨_, lw_pin_38, rfl⟩)) rfl
abbrev b_ThumbCore_run : ByteArray := prog_1_method_6_code
def y_ThumbCore_run : MethodName := ⟨"ThumbCore", "run", "(I)I"⟩
theorem wc_ThumbCore_run : Cond.code y_ThumbCore_run b_ThumbCore_run 4 (some .int) ∈ tcb := tc_in (List.mem_append_right _ (List.mem_append_right _ (List.mem_append_left _ (List.mem_of_getElem? (i := 218) rfl)))) rfl
theorem wm_ThumbCore_run : Cond.instanceMethod y_ThumbCore_run ∈ tcb := tc_in (List.mem_append_right _ (List.mem_append_right _ (List.mem_append_left _ (List.mem_of_getElem? (i := 216) rfl)))) rfl
theorem ws_ThumbCore_run : Cond.selects "ThumbCore" y_ThumbCore_run y_ThumbCore_run ∈ tcb := tc_in (List.mem_append_right _ (List.mem_append_right _ (List.mem_append_left _ (List.mem_of_getElem? (i := 217) rfl)))) rfl
abbrev b_ThumbCore_register : ByteArray := prog_1_method_7_code
def y_ThumbCore_register : MethodName := ⟨"ThumbCore", "register", "(I)I"⟩
theorem wc_ThumbCore_register : Cond.code y_ThumbCore_register b_ThumbCore_register 2 (some .int) ∈ tcb := tc_in (List.mem_append_right _ (List.mem_append_right _ (List.mem_append_left _ (List.mem_of_getElem? (i := 223) rfl)))) rfl
theorem wm_ThumbCore_register : Cond.instanceMethod y_ThumbCore_register ∈ tcb := tc_in (List.mem_append_right _ (List.mem_append_right _ (List.mem_append_left _ (List.mem_of_getElem? (i := 221) rfl)))) rfl
theorem ws_ThumbCore_register : Cond.selects "ThumbCore" y_ThumbCore_register y_ThumbCore_register ∈ tcb := tc_in (List.mem_append_right _ (List.mem_append_right _ (List.mem_append_left _ (List.mem_of_getElem? (i := 222) rfl)))) rfl
abbrev b_ThumbCore_set : ByteArray := prog_1_method_8_code
def y_ThumbCore_set : MethodName := ⟨"ThumbCore", "set", "(II)Z"⟩
theorem wc_ThumbCore_set : Cond.code y_ThumbCore_set b_ThumbCore_set 3 (some .boolean) ∈ tcb := tc_in (List.mem_append_right _ (List.mem_append_right _ (List.mem_append_left _ (List.mem_of_getElem? (i := 227) rfl)))) rfl
theorem wm_ThumbCore_set : Cond.instanceMethod y_ThumbCore_set ∈ tcb := tc_in (List.mem_append_right _ (List.mem_append_right _ (List.mem_append_left _ (List.mem_of_getElem? (i := 225) rfl)))) rfl
theorem ws_ThumbCore_set : Cond.selects "ThumbCore" y_ThumbCore_set y_ThumbCore_set ∈ tcb := tc_in (List.mem_append_right _ (List.mem_append_right _ (List.mem_append_left _ (List.mem_of_getElem? (i := 226) rfl)))) rfl
abbrev b_ThumbCore_about : ByteArray := prog_1_method_10_code
def y_ThumbCore_about : MethodName := ⟨"ThumbCore", "about", "(I)I"⟩
theorem wc_ThumbCore_about : Cond.code y_ThumbCore_about b_ThumbCore_about 2 (some .int) ∈ tcb := tc_in (List.mem_append_right _ (List.mem_append_right _ (List.mem_append_left _ (List.mem_of_getElem? (i := 232) rfl)))) rfl
theorem wm_ThumbCore_about : Cond.instanceMethod y_ThumbCore_about ∈ tcb := tc_in (List.mem_append_right _ (List.mem_append_right _ (List.mem_append_left _ (List.mem_of_getElem? (i := 230) rfl)))) rfl
theorem ws_ThumbCore_about : Cond.selects "ThumbCore" y_ThumbCore_about y_ThumbCore_about ∈ tcb := tc_in (List.mem_append_right _ (List.mem_append_right _ (List.mem_append_left _ (List.mem_of_getElem? (i := 231) rfl)))) rfl
abbrev b_ThumbCore_pend : ByteArray := prog_1_method_11_code
def y_ThumbCore_pend : MethodName := ⟨"ThumbCore", "pend", "(I)Z"⟩
theorem wc_ThumbCore_pend : Cond.code y_ThumbCore_pend b_ThumbCore_pend 2 (some .boolean) ∈ tcb := tc_in (List.mem_append_right _ (List.mem_append_right _ (List.mem_append_left _ (List.mem_of_getElem? (i := 236) rfl)))) rfl
theorem wm_ThumbCore_pend : Cond.instanceMethod y_ThumbCore_pend ∈ tcb := tc_in (List.mem_append_right _ (List.mem_append_right _ (List.mem_append_left _ (List.mem_of_getElem? (i := 234) rfl)))) rfl
theorem ws_ThumbCore_pend : Cond.selects "ThumbCore" y_ThumbCore_pend y_ThumbCore_pend ∈ tcb := tc_in (List.mem_append_right _ (List.mem_append_right _ (List.mem_append_left _ (List.mem_of_getElem? (i := 235) rfl)))) rfl
abbrev b_ThumbCore_exception : ByteArray := prog_1_method_12_code
def y_ThumbCore_exception : MethodName := ⟨"ThumbCore", "exception", "(I)I"⟩
theorem wc_ThumbCore_exception : Cond.code y_ThumbCore_exception b_ThumbCore_exception 2 (some .int) ∈ tcb := tc_in (List.mem_append_right _ (List.mem_append_right _ (List.mem_append_right _ (List.mem_append_left _ (List.mem_of_getElem? (i := 0) rfl))))) rfl
theorem wm_ThumbCore_exception : Cond.instanceMethod y_ThumbCore_exception ∈ tcb := tc_in (List.mem_append_right _ (List.mem_append_right _ (List.mem_append_left _ (List.mem_of_getElem? (i := 238) rfl)))) rfl
theorem ws_ThumbCore_exception : Cond.selects "ThumbCore" y_ThumbCore_exception y_ThumbCore_exception ∈ tcb := tc_in (List.mem_append_right _ (List.mem_append_right _ (List.mem_append_left _ (List.mem_of_getElem? (i := 239) rfl)))) rfl
abbrev b_Exceptions_isPending : ByteArray := prog_3_method_4_code
def y_Exceptions_isPending : MethodName := ⟨"ThumbCore$Exceptions", "isPending", "(I)Z"⟩
theorem wc_Exceptions_isPending : Cond.code y_Exceptions_isPending b_Exceptions_isPending 2 (some .boolean) ∈ tcb := tc_in (List.mem_append_right _ (List.mem_append_right _ (List.mem_append_right _ (List.mem_append_left _ (List.mem_of_getElem? (i := 4) rfl))))) rfl
theorem wm_Exceptions_isPending : Cond.instanceMethod y_Exceptions_isPending ∈ tcb := tc_in (List.mem_append_right _ (List.mem_append_right _ (List.mem_append_right _ (List.mem_append_left _ (List.mem_of_getElem? (i := 2) rfl))))) rfl
theorem ws_Exceptions_isPending : Cond.selects "ThumbCore$Exceptions" y_Exceptions_isPending y_Exceptions_isPending ∈ tcb := tc_in (List.mem_append_right _ (List.mem_append_right _ (List.mem_append_right _ (List.mem_append_left _ (List.mem_of_getElem? (i := 3) rfl))))) rfl
abbrev b_ThumbCore_priority : ByteArray := prog_1_method_13_code
def y_ThumbCore_priority : MethodName := ⟨"ThumbCore", "priority", "(II)Z"⟩
theorem wc_ThumbCore_priority : Cond.code y_ThumbCore_priority b_ThumbCore_priority 4 (some .boolean) ∈ tcb := tc_in (List.mem_append_right _ (List.mem_append_right _ (List.mem_append_right _ (List.mem_append_left _ (List.mem_of_getElem? (i := 9) rfl))))) rfl
theorem wm_ThumbCore_priority : Cond.instanceMethod y_ThumbCore_priority ∈ tcb := tc_in (List.mem_append_right _ (List.mem_append_right _ (List.mem_append_right _ (List.mem_append_left _ (List.mem_of_getElem? (i := 7) rfl))))) rfl
theorem ws_ThumbCore_priority : Cond.selects "ThumbCore" y_ThumbCore_priority y_ThumbCore_priority ∈ tcb := tc_in (List.mem_append_right _ (List.mem_append_right _ (List.mem_append_right _ (List.mem_append_left _ (List.mem_of_getElem? (i := 8) rfl))))) rfl
abbrev b_ThumbCore_tick : ByteArray := prog_1_method_14_code
def y_ThumbCore_tick : MethodName := ⟨"ThumbCore", "tick", "(IZ)Z"⟩
theorem wc_ThumbCore_tick : Cond.code y_ThumbCore_tick b_ThumbCore_tick 3 (some .boolean) ∈ tcb := tc_in (List.mem_append_right _ (List.mem_append_right _ (List.mem_append_right _ (List.mem_append_left _ (List.mem_of_getElem? (i := 13) rfl))))) rfl
theorem wm_ThumbCore_tick : Cond.instanceMethod y_ThumbCore_tick ∈ tcb := tc_in (List.mem_append_right _ (List.mem_append_right _ (List.mem_append_right _ (List.mem_append_left _ (List.mem_of_getElem? (i := 11) rfl))))) rfl
theorem ws_ThumbCore_tick : Cond.selects "ThumbCore" y_ThumbCore_tick y_ThumbCore_tick ∈ tcb := tc_in (List.mem_append_right _ (List.mem_append_right _ (List.mem_append_right _ (List.mem_append_left _ (List.mem_of_getElem? (i := 12) rfl))))) rfl
abbrev b_ThumbCoreLaw_cell : ByteArray := method_2_code
def y_ThumbCoreLaw_cell : MethodName := ⟨"ThumbCoreLaw", "cell", "([II)I"⟩
theorem wc_ThumbCoreLaw_cell : Cond.code y_ThumbCoreLaw_cell b_ThumbCoreLaw_cell 2 (some .int) ∈ tcb := tc_in (List.mem_append_right _ (List.mem_append_right _ (List.mem_append_right _ (List.mem_append_left _ (List.mem_of_getElem? (i := 16) rfl))))) rfl
theorem wt_ThumbCoreLaw_cell : Cond.static y_ThumbCoreLaw_cell ∈ tcb := tc_in (List.mem_append_right _ (List.mem_append_right _ (List.mem_append_right _ (List.mem_append_left _ (List.mem_of_getElem? (i := 15) rfl))))) rfl
abbrev b_ThumbCoreModel_init : ByteArray := prog_7_method_1_code
def y_ThumbCoreModel_init : MethodName := ⟨"ThumbCoreModel", "<init>", "(I)V"⟩
theorem wc_ThumbCoreModel_init : Cond.code y_ThumbCoreModel_init b_ThumbCoreModel_init 3 none ∈ tcb := tc_in (List.mem_append_right _ (List.mem_append_right _ (List.mem_append_right _ (List.mem_append_left _ (List.mem_of_getElem? (i := 21) rfl))))) rfl
theorem wm_ThumbCoreModel_init : Cond.instanceMethod y_ThumbCoreModel_init ∈ tcb := tc_in (List.mem_append_right _ (List.mem_append_right _ (List.mem_append_right _ (List.mem_append_left _ (List.mem_of_getElem? (i := 20) rfl))))) rfl
abbrev b_ThumbCoreModel_reset : ByteArray := prog_7_method_7_code
def y_ThumbCoreModel_reset : MethodName := ⟨"ThumbCoreModel", "reset", "()V"⟩
theorem wc_ThumbCoreModel_reset : Cond.code y_ThumbCoreModel_reset b_ThumbCoreModel_reset 2 none ∈ tcb := tc_in (List.mem_append_right _ (List.mem_append_right _ (List.mem_append_right _ (List.mem_append_left _ (List.mem_of_getElem? (i := 26) rfl))))) rfl
theorem wm_ThumbCoreModel_reset : Cond.instanceMethod y_ThumbCoreModel_reset ∈ tcb := tc_in (List.mem_append_right _ (List.mem_append_right _ (List.mem_append_right _ (List.mem_append_left _ (List.mem_of_getElem? (i := 24) rfl))))) rfl
theorem ws_ThumbCoreModel_reset : Cond.selects "ThumbCoreModel" y_ThumbCoreModel_reset y_ThumbCoreModel_reset ∈ tcb := tc_in (List.mem_append_right _ (List.mem_append_right _ (List.mem_append_right _ (List.mem_append_left _ (List.mem_of_getElem? (i := 25) rfl))))) rfl
abbrev b_ThumbCoreModel_read : ByteArray := prog_7_method_3_code
def y_ThumbCoreModel_read : MethodName := ⟨"ThumbCoreModel", "read", "(II)I"⟩
theorem wc_ThumbCoreModel_read : Cond.code y_ThumbCoreModel_read b_ThumbCoreModel_read 5 (some .int) ∈ tcb := tc_in (List.mem_append_right _ (List.mem_append_right _ (List.mem_append_right _ (List.mem_append_left _ (List.mem_of_getElem? (i := 30) rfl))))) rfl
theorem wm_ThumbCoreModel_read : Cond.instanceMethod y_ThumbCoreModel_read ∈ tcb := tc_in (List.mem_append_right _ (List.mem_append_right _ (List.mem_append_right _ (List.mem_append_left _ (List.mem_of_getElem? (i := 29) rfl))))) rfl
theorem ws_ThumbCoreModel_read : Cond.selects "ThumbCoreModel" y_ThumbCoreModel_read y_ThumbCoreModel_read ∈ tcb := tc_in (List.mem_append_left _ (List.mem_map.mpr ⟨_, lw_pin_39, rfl⟩)) rfl
abbrev b_ThumbCoreModel_there : ByteArray := prog_7_method_2_code
def y_ThumbCoreModel_there : MethodName := ⟨"ThumbCoreModel", "there", "(II)Z"⟩
theorem wc_ThumbCoreModel_there : Cond.code y_ThumbCoreModel_there b_ThumbCoreModel_there 3 (some .boolean) ∈ tcb := tc_in (List.mem_append_right _ (List.mem_append_right _ (List.mem_append_right _ (List.mem_append_left _ (List.mem_of_getElem? (i := 34) rfl))))) rfl
theorem wm_ThumbCoreModel_there : Cond.instanceMethod y_ThumbCoreModel_there ∈ tcb := tc_in (List.mem_append_right _ (List.mem_append_right _ (List.mem_append_right _ (List.mem_append_left _ (List.mem_of_getElem? (i := 33) rfl))))) rfl
theorem ws_ThumbCoreModel_there : Cond.selects "ThumbCoreModel" y_ThumbCoreModel_there y_ThumbCoreModel_there ∈ tcb := tc_in (List.mem_append_left _ (List.mem_map.mpr ⟨_, lw_pin_40, rfl⟩)) rfl
abbrev b_ThumbCoreModel_flags : ByteArray := prog_7_method_8_code
def y_ThumbCoreModel_flags : MethodName := ⟨"ThumbCoreModel", "flags", "(I)V"⟩
theorem wc_ThumbCoreModel_flags : Cond.code y_ThumbCoreModel_flags b_ThumbCoreModel_flags 2 none ∈ tcb := tc_in (List.mem_append_right _ (List.mem_append_right _ (List.mem_append_right _ (List.mem_append_left _ (List.mem_of_getElem? (i := 38) rfl))))) rfl
theorem wm_ThumbCoreModel_flags : Cond.instanceMethod y_ThumbCoreModel_flags ∈ tcb := tc_in (List.mem_append_right _ (List.mem_append_right _ (List.mem_append_right _ (List.mem_append_left _ (List.mem_of_getElem? (i := 37) rfl))))) rfl
theorem ws_ThumbCoreModel_flags : Cond.selects "ThumbCoreModel" y_ThumbCoreModel_flags y_ThumbCoreModel_flags ∈ tcb := tc_in (List.mem_append_left _ (List.mem_map.mpr ⟨_, lw_pin_41, rfl⟩)) rfl
abbrev b_ThumbCoreModel_poke : ByteArray := prog_7_method_5_code
def y_ThumbCoreModel_poke : MethodName := ⟨"ThumbCoreModel", "poke", "(III)Z"⟩
theorem wc_ThumbCoreModel_poke : Cond.code y_ThumbCoreModel_poke b_ThumbCoreModel_poke 5 (some .boolean) ∈ tcb := tc_in (List.mem_append_right _ (List.mem_append_right _ (List.mem_append_right _ (List.mem_append_left _ (List.mem_of_getElem? (i := 114) rfl))))) rfl
theorem wm_ThumbCoreModel_poke : Cond.instanceMethod y_ThumbCoreModel_poke ∈ tcb := tc_in (List.mem_append_right _ (List.mem_append_right _ (List.mem_append_right _ (List.mem_append_left _ (List.mem_of_getElem? (i := 112) rfl))))) rfl
theorem ws_ThumbCoreModel_poke : Cond.selects "ThumbCoreModel" y_ThumbCoreModel_poke y_ThumbCoreModel_poke ∈ tcb := tc_in (List.mem_append_right _ (List.mem_append_right _ (List.mem_append_right _ (List.mem_append_left _ (List.mem_of_getElem? (i := 113) rfl))))) rfl
abbrev b_ThumbCoreModel_peek : ByteArray := prog_7_method_6_code
def y_ThumbCoreModel_peek : MethodName := ⟨"ThumbCoreModel", "peek", "(I)I"⟩
theorem wc_ThumbCoreModel_peek : Cond.code y_ThumbCoreModel_peek b_ThumbCoreModel_peek 2 (some .int) ∈ tcb := tc_in (List.mem_append_right _ (List.mem_append_right _ (List.mem_append_right _ (List.mem_append_left _ (List.mem_of_getElem? (i := 118) rfl))))) rfl
theorem wm_ThumbCoreModel_peek : Cond.instanceMethod y_ThumbCoreModel_peek ∈ tcb := tc_in (List.mem_append_right _ (List.mem_append_right _ (List.mem_append_right _ (List.mem_append_left _ (List.mem_of_getElem? (i := 116) rfl))))) rfl
theorem ws_ThumbCoreModel_peek : Cond.selects "ThumbCoreModel" y_ThumbCoreModel_peek y_ThumbCoreModel_peek ∈ tcb := tc_in (List.mem_append_right _ (List.mem_append_right _ (List.mem_append_right _ (List.mem_append_left _ (List.mem_of_getElem? (i := 117) rfl))))) rfl
abbrev b_ThumbCoreModel_status : ByteArray := prog_7_method_10_code
def y_ThumbCoreModel_status : MethodName := ⟨"ThumbCoreModel", "status", "()I"⟩
theorem wc_ThumbCoreModel_status : Cond.code y_ThumbCoreModel_status b_ThumbCoreModel_status 1 (some .int) ∈ tcb := tc_in (List.mem_append_right _ (List.mem_append_right _ (List.mem_append_right _ (List.mem_append_left _ (List.mem_of_getElem? (i := 123) rfl))))) rfl
theorem wm_ThumbCoreModel_status : Cond.instanceMethod y_ThumbCoreModel_status ∈ tcb := tc_in (List.mem_append_right _ (List.mem_append_right _ (List.mem_append_right _ (List.mem_append_left _ (List.mem_of_getElem? (i := 121) rfl))))) rfl
theorem ws_ThumbCoreModel_status : Cond.selects "ThumbCoreModel" y_ThumbCoreModel_status y_ThumbCoreModel_status ∈ tcb := tc_in (List.mem_append_right _ (List.mem_append_right _ (List.mem_append_right _ (List.mem_append_left _ (List.mem_of_getElem? (i := 122) rfl))))) rfl
abbrev b_ThumbCoreModel_bits : ByteArray := prog_7_method_9_code
def y_ThumbCoreModel_bits : MethodName := ⟨"ThumbCoreModel", "bits", "()I"⟩
theorem wc_ThumbCoreModel_bits : Cond.code y_ThumbCoreModel_bits b_ThumbCoreModel_bits 1 (some .int) ∈ tcb := tc_in (List.mem_append_right _ (List.mem_append_right _ (List.mem_append_right _ (List.mem_append_left _ (List.mem_of_getElem? (i := 127) rfl))))) rfl
theorem wm_ThumbCoreModel_bits : Cond.instanceMethod y_ThumbCoreModel_bits ∈ tcb := tc_in (List.mem_append_right _ (List.mem_append_right _ (List.mem_append_right _ (List.mem_append_left _ (List.mem_of_getElem? (i := 126) rfl))))) rfl
theorem ws_ThumbCoreModel_bits : Cond.selects "ThumbCoreModel" y_ThumbCoreModel_bits y_ThumbCoreModel_bits ∈ tcb := tc_in (List.mem_append_left _ (List.mem_map.mpr ⟨_, lw_pin_42, rfl⟩)) rfl
abbrev b_ThumbCoreModel_step : ByteArray := prog_7_method_42_code
def y_ThumbCoreModel_step : MethodName := ⟨"ThumbCoreModel", "step", "()I"⟩
theorem wc_ThumbCoreModel_step : Cond.code y_ThumbCoreModel_step b_ThumbCoreModel_step 2 (some .int) ∈ tcb := tc_in (List.mem_append_right _ (List.mem_append_right _ (List.mem_append_right _ (List.mem_append_left _ (List.mem_of_getElem? (i := 132) rfl))))) rfl
theorem wm_ThumbCoreModel_step : Cond.instanceMethod y_ThumbCoreModel_step ∈ tcb := tc_in (List.mem_append_right _ (List.mem_append_right _ (List.mem_append_right _ (List.mem_append_left _ (List.mem_of_getElem? (i := 130) rfl))))) rfl
theorem ws_ThumbCoreModel_step : Cond.selects "ThumbCoreModel" y_ThumbCoreModel_step y_ThumbCoreModel_step ∈ tcb := tc_in (List.mem_append_right _ (List.mem_append_right _ (List.mem_append_right _ (List.mem_append_left _ (List.mem_of_getElem? (i := 131) rfl))))) rfl
abbrev b_ThumbCoreModel_tickOnce : ByteArray := prog_7_method_41_code
def y_ThumbCoreModel_tickOnce : MethodName := ⟨"ThumbCoreModel", "tickOnce", "()V"⟩
theorem wc_ThumbCoreModel_tickOnce : Cond.code y_ThumbCoreModel_tickOnce b_ThumbCoreModel_tickOnce 2 none ∈ tcb := tc_in (List.mem_append_right _ (List.mem_append_right _ (List.mem_append_right _ (List.mem_append_left _ (List.mem_of_getElem? (i := 136) rfl))))) rfl
theorem wm_ThumbCoreModel_tickOnce : Cond.instanceMethod y_ThumbCoreModel_tickOnce ∈ tcb := tc_in (List.mem_append_right _ (List.mem_append_right _ (List.mem_append_right _ (List.mem_append_left _ (List.mem_of_getElem? (i := 135) rfl))))) rfl
theorem ws_ThumbCoreModel_tickOnce : Cond.selects "ThumbCoreModel" y_ThumbCoreModel_tickOnce y_ThumbCoreModel_tickOnce ∈ tcb := tc_in (List.mem_append_left _ (List.mem_map.mpr ⟨_, lw_pin_43, rfl⟩)) rfl
abbrev b_ThumbCoreModel_present : ByteArray := prog_7_method_13_code
def y_ThumbCoreModel_present : MethodName := ⟨"ThumbCoreModel", "present", "(Z)I"⟩
theorem wc_ThumbCoreModel_present : Cond.code y_ThumbCoreModel_present b_ThumbCoreModel_present 4 (some .int) ∈ tcb := tc_in (List.mem_append_right _ (List.mem_append_right _ (List.mem_append_right _ (List.mem_append_left _ (List.mem_of_getElem? (i := 140) rfl))))) rfl
theorem wm_ThumbCoreModel_present : Cond.instanceMethod y_ThumbCoreModel_present ∈ tcb := tc_in (List.mem_append_right _ (List.mem_append_right _ (List.mem_append_right _ (List.mem_append_left _ (List.mem_of_getElem? (i := 139) rfl))))) rfl
theorem ws_ThumbCoreModel_present : Cond.selects "ThumbCoreModel" y_ThumbCoreModel_present y_ThumbCoreModel_present ∈ tcb := tc_in (List.mem_append_left _ (List.mem_map.mpr ⟨_, lw_pin_44, rfl⟩)) rfl
abbrev b_ThumbCoreModel_waiting : ByteArray := prog_7_method_15_code
def y_ThumbCoreModel_waiting : MethodName := ⟨"ThumbCoreModel", "waiting", "(I)I"⟩
theorem wc_ThumbCoreModel_waiting : Cond.code y_ThumbCoreModel_waiting b_ThumbCoreModel_waiting 5 (some .int) ∈ tcb := tc_in (List.mem_append_right _ (List.mem_append_right _ (List.mem_append_right _ (List.mem_append_left _ (List.mem_of_getElem? (i := 144) rfl))))) rfl
theorem wm_ThumbCoreModel_waiting : Cond.instanceMethod y_ThumbCoreModel_waiting ∈ tcb := tc_in (List.mem_append_right _ (List.mem_append_right _ (List.mem_append_right _ (List.mem_append_left _ (List.mem_of_getElem? (i := 143) rfl))))) rfl
theorem ws_ThumbCoreModel_waiting : Cond.selects "ThumbCoreModel" y_ThumbCoreModel_waiting y_ThumbCoreModel_waiting ∈ tcb := tc_in (List.mem_append_left _ (List.mem_map.mpr ⟨_, lw_pin_45, rfl⟩)) rfl
abbrev b_ThumbCoreModel_enter : ByteArray := prog_7_method_16_code
def y_ThumbCoreModel_enter : MethodName := ⟨"ThumbCoreModel", "enter", "(II)V"⟩
theorem wc_ThumbCoreModel_enter : Cond.code y_ThumbCoreModel_enter b_ThumbCoreModel_enter 9 none ∈ tcb := tc_in (List.mem_append_right _ (List.mem_append_right _ (List.mem_append_right _ (List.mem_append_left _ (List.mem_of_getElem? (i := 148) rfl))))) rfl
theorem wm_ThumbCoreModel_enter : Cond.instanceMethod y_ThumbCoreModel_enter ∈ tcb := tc_in (List.mem_append_right _ (List.mem_append_right _ (List.mem_append_right _ (List.mem_append_left _ (List.mem_of_getElem? (i := 147) rfl))))) rfl
theorem ws_ThumbCoreModel_enter : Cond.selects "ThumbCoreModel" y_ThumbCoreModel_enter y_ThumbCoreModel_enter ∈ tcb := tc_in (List.mem_append_left _ (List.mem_map.mpr ⟨_, lw_pin_46, rfl⟩)) rfl
abbrev b_ThumbCoreModel_write : ByteArray := prog_7_method_4_code
def y_ThumbCoreModel_write : MethodName := ⟨"ThumbCoreModel", "write", "(III)V"⟩
theorem wc_ThumbCoreModel_write : Cond.code y_ThumbCoreModel_write b_ThumbCoreModel_write 5 none ∈ tcb := tc_in (List.mem_append_right _ (List.mem_append_right _ (List.mem_append_right _ (List.mem_append_left _ (List.mem_of_getElem? (i := 153) rfl))))) rfl
theorem wm_ThumbCoreModel_write : Cond.instanceMethod y_ThumbCoreModel_write ∈ tcb := tc_in (List.mem_append_right _ (List.mem_append_right _ (List.mem_append_right _ (List.mem_append_left _ (List.mem_of_getElem? (i := 152) rfl))))) rfl
theorem ws_ThumbCoreModel_write : Cond.selects "ThumbCoreModel" y_ThumbCoreModel_write y_ThumbCoreModel_write ∈ tcb := tc_in (List.mem_append_left _ (List.mem_map.mpr ⟨_, lw_pin_47, rfl⟩)) rfl
abbrev b_ThumbCoreModel_actives : ByteArray := prog_7_method_14_code
def y_ThumbCoreModel_actives : MethodName := ⟨"ThumbCoreModel", "actives", "()I"⟩
theorem wc_ThumbCoreModel_actives : Cond.code y_ThumbCoreModel_actives b_ThumbCoreModel_actives 3 (some .int) ∈ tcb := tc_in (List.mem_append_right _ (List.mem_append_right _ (List.mem_append_right _ (List.mem_append_left _ (List.mem_of_getElem? (i := 157) rfl))))) rfl
theorem wm_ThumbCoreModel_actives : Cond.instanceMethod y_ThumbCoreModel_actives ∈ tcb := tc_in (List.mem_append_right _ (List.mem_append_right _ (List.mem_append_right _ (List.mem_append_left _ (List.mem_of_getElem? (i := 156) rfl))))) rfl
theorem ws_ThumbCoreModel_actives : Cond.selects "ThumbCoreModel" y_ThumbCoreModel_actives y_ThumbCoreModel_actives ∈ tcb := tc_in (List.mem_append_left _ (List.mem_map.mpr ⟨_, lw_pin_48, rfl⟩)) rfl
abbrev b_ThumbCoreModel_instruct : ByteArray := prog_7_method_40_code
def y_ThumbCoreModel_instruct : MethodName := ⟨"ThumbCoreModel", "instruct", "()V"⟩
theorem wc_ThumbCoreModel_instruct : Cond.code y_ThumbCoreModel_instruct b_ThumbCoreModel_instruct 2 none ∈ tcb := tc_in (List.mem_append_right _ (List.mem_append_right _ (List.mem_append_right _ (List.mem_append_left _ (List.mem_of_getElem? (i := 161) rfl))))) rfl
theorem wm_ThumbCoreModel_instruct : Cond.instanceMethod y_ThumbCoreModel_instruct ∈ tcb := tc_in (List.mem_append_right _ (List.mem_append_right _ (List.mem_append_right _ (List.mem_append_left _ (List.mem_of_getElem? (i := 160) rfl))))) rfl
theorem ws_ThumbCoreModel_instruct : Cond.selects "ThumbCoreModel" y_ThumbCoreModel_instruct y_ThumbCoreModel_instruct ∈ tcb := tc_in (List.mem_append_left _ (List.mem_map.mpr ⟨_, lw_pin_49, rfl⟩)) rfl
abbrev b_ThumbCoreModel_perform : ByteArray := prog_7_method_39_code
def y_ThumbCoreModel_perform : MethodName := ⟨"ThumbCoreModel", "perform", "()V"⟩
theorem wc_ThumbCoreModel_perform : Cond.code y_ThumbCoreModel_perform b_ThumbCoreModel_perform 6 none ∈ tcb := tc_in (List.mem_append_right _ (List.mem_append_right _ (List.mem_append_right _ (List.mem_append_left _ (List.mem_of_getElem? (i := 165) rfl))))) rfl
theorem wm_ThumbCoreModel_perform : Cond.instanceMethod y_ThumbCoreModel_perform ∈ tcb := tc_in (List.mem_append_right _ (List.mem_append_right _ (List.mem_append_right _ (List.mem_append_left _ (List.mem_of_getElem? (i := 164) rfl))))) rfl
theorem ws_ThumbCoreModel_perform : Cond.selects "ThumbCoreModel" y_ThumbCoreModel_perform y_ThumbCoreModel_perform ∈ tcb := tc_in (List.mem_append_left _ (List.mem_map.mpr ⟨_, lw_pin_50, rfl⟩)) rfl
abbrev b_ThumbCoreModel_field : ByteArray := prog_7_method_22_code
def y_ThumbCoreModel_field : MethodName := ⟨"ThumbCoreModel", "field", "(I)I"⟩
theorem wc_ThumbCoreModel_field : Cond.code y_ThumbCoreModel_field b_ThumbCoreModel_field 2 (some .int) ∈ tcb := tc_in (List.mem_append_right _ (List.mem_append_right _ (List.mem_append_right _ (List.mem_append_left _ (List.mem_of_getElem? (i := 169) rfl))))) rfl
theorem wm_ThumbCoreModel_field : Cond.instanceMethod y_ThumbCoreModel_field ∈ tcb := tc_in (List.mem_append_right _ (List.mem_append_right _ (List.mem_append_right _ (List.mem_append_left _ (List.mem_of_getElem? (i := 168) rfl))))) rfl
theorem ws_ThumbCoreModel_field : Cond.selects "ThumbCoreModel" y_ThumbCoreModel_field y_ThumbCoreModel_field ∈ tcb := tc_in (List.mem_append_left _ (List.mem_map.mpr ⟨_, lw_pin_51, rfl⟩)) rfl
abbrev b_ThumbCoreModel_moved : ByteArray := prog_7_method_21_code
def y_ThumbCoreModel_moved : MethodName := ⟨"ThumbCoreModel", "moved", "(III)I"⟩
theorem wc_ThumbCoreModel_moved : Cond.code y_ThumbCoreModel_moved b_ThumbCoreModel_moved 9 (some .int) ∈ tcb := tc_in (List.mem_append_right _ (List.mem_append_right _ (List.mem_append_right _ (List.mem_append_left _ (List.mem_of_getElem? (i := 173) rfl))))) rfl
theorem wm_ThumbCoreModel_moved : Cond.instanceMethod y_ThumbCoreModel_moved ∈ tcb := tc_in (List.mem_append_right _ (List.mem_append_right _ (List.mem_append_right _ (List.mem_append_left _ (List.mem_of_getElem? (i := 172) rfl))))) rfl
theorem ws_ThumbCoreModel_moved : Cond.selects "ThumbCoreModel" y_ThumbCoreModel_moved y_ThumbCoreModel_moved ∈ tcb := tc_in (List.mem_append_left _ (List.mem_map.mpr ⟨_, lw_pin_52, rfl⟩)) rfl
abbrev b_ThumbCoreModel_shown : ByteArray := prog_7_method_11_code
def y_ThumbCoreModel_shown : MethodName := ⟨"ThumbCoreModel", "shown", "(I)I"⟩
theorem wc_ThumbCoreModel_shown : Cond.code y_ThumbCoreModel_shown b_ThumbCoreModel_shown 2 (some .int) ∈ tcb := tc_in (List.mem_append_right _ (List.mem_append_right _ (List.mem_append_right _ (List.mem_append_left _ (List.mem_of_getElem? (i := 177) rfl))))) rfl
theorem wm_ThumbCoreModel_shown : Cond.instanceMethod y_ThumbCoreModel_shown ∈ tcb := tc_in (List.mem_append_right _ (List.mem_append_right _ (List.mem_append_right _ (List.mem_append_left _ (List.mem_of_getElem? (i := 176) rfl))))) rfl
theorem ws_ThumbCoreModel_shown : Cond.selects "ThumbCoreModel" y_ThumbCoreModel_shown y_ThumbCoreModel_shown ∈ tcb := tc_in (List.mem_append_left _ (List.mem_map.mpr ⟨_, lw_pin_53, rfl⟩)) rfl
abbrev b_ThumbCoreModel_threes : ByteArray := prog_7_method_23_code
def y_ThumbCoreModel_threes : MethodName := ⟨"ThumbCoreModel", "threes", "()V"⟩
theorem wc_ThumbCoreModel_threes : Cond.code y_ThumbCoreModel_threes b_ThumbCoreModel_threes 5 none ∈ tcb := tc_in (List.mem_append_right _ (List.mem_append_right _ (List.mem_append_right _ (List.mem_append_left _ (List.mem_of_getElem? (i := 182) rfl))))) rfl
theorem wm_ThumbCoreModel_threes : Cond.instanceMethod y_ThumbCoreModel_threes ∈ tcb := tc_in (List.mem_append_right _ (List.mem_append_right _ (List.mem_append_right _ (List.mem_append_left _ (List.mem_of_getElem? (i := 181) rfl))))) rfl
theorem ws_ThumbCoreModel_threes : Cond.selects "ThumbCoreModel" y_ThumbCoreModel_threes y_ThumbCoreModel_threes ∈ tcb := tc_in (List.mem_append_left _ (List.mem_map.mpr ⟨_, lw_pin_54, rfl⟩)) rfl
abbrev b_ThumbCoreModel_sum : ByteArray := prog_7_method_12_code
def y_ThumbCoreModel_sum : MethodName := ⟨"ThumbCoreModel", "sum", "(III)I"⟩
theorem wc_ThumbCoreModel_sum : Cond.code y_ThumbCoreModel_sum b_ThumbCoreModel_sum 9 (some .int) ∈ tcb := tc_in (List.mem_append_right _ (List.mem_append_right _ (List.mem_append_right _ (List.mem_append_left _ (List.mem_of_getElem? (i := 186) rfl))))) rfl
theorem wm_ThumbCoreModel_sum : Cond.instanceMethod y_ThumbCoreModel_sum ∈ tcb := tc_in (List.mem_append_right _ (List.mem_append_right _ (List.mem_append_right _ (List.mem_append_left _ (List.mem_of_getElem? (i := 185) rfl))))) rfl
theorem ws_ThumbCoreModel_sum : Cond.selects "ThumbCoreModel" y_ThumbCoreModel_sum y_ThumbCoreModel_sum ∈ tcb := tc_in (List.mem_append_left _ (List.mem_map.mpr ⟨_, lw_pin_55, rfl⟩)) rfl
abbrev b_ThumbCoreModel_bytes : ByteArray := prog_7_method_24_code
def y_ThumbCoreModel_bytes : MethodName := ⟨"ThumbCoreModel", "bytes", "(I)V"⟩
theorem wc_ThumbCoreModel_bytes : Cond.code y_ThumbCoreModel_bytes b_ThumbCoreModel_bytes 5 none ∈ tcb := tc_in (List.mem_append_right _ (List.mem_append_right _ (List.mem_append_right _ (List.mem_append_left _ (List.mem_of_getElem? (i := 190) rfl))))) rfl
theorem wm_ThumbCoreModel_bytes : Cond.instanceMethod y_ThumbCoreModel_bytes ∈ tcb := tc_in (List.mem_append_right _ (List.mem_append_right _ (List.mem_append_right _ (List.mem_append_left _ (List.mem_of_getElem? (i := 189) rfl))))) rfl
theorem ws_ThumbCoreModel_bytes : Cond.selects "ThumbCoreModel" y_ThumbCoreModel_bytes y_ThumbCoreModel_bytes ∈ tcb := tc_in (List.mem_append_left _ (List.mem_map.mpr ⟨_, lw_pin_56, rfl⟩)) rfl
abbrev b_ThumbCoreModel_worked : ByteArray := prog_7_method_25_code
def y_ThumbCoreModel_worked : MethodName := ⟨"ThumbCoreModel", "worked", "()V"⟩
theorem wc_ThumbCoreModel_worked : Cond.code y_ThumbCoreModel_worked b_ThumbCoreModel_worked 6 none ∈ tcb := tc_in (List.mem_append_right _ (List.mem_append_right _ (List.mem_append_right _ (List.mem_append_left _ (List.mem_of_getElem? (i := 194) rfl))))) rfl
theorem wm_ThumbCoreModel_worked : Cond.instanceMethod y_ThumbCoreModel_worked ∈ tcb := tc_in (List.mem_append_right _ (List.mem_append_right _ (List.mem_append_right _ (List.mem_append_left _ (List.mem_of_getElem? (i := 193) rfl))))) rfl
theorem ws_ThumbCoreModel_worked : Cond.selects "ThumbCoreModel" y_ThumbCoreModel_worked y_ThumbCoreModel_worked ∈ tcb := tc_in (List.mem_append_left _ (List.mem_map.mpr ⟨_, lw_pin_57, rfl⟩)) rfl
abbrev b_ThumbCoreModel_wide : ByteArray := prog_7_method_27_code
def y_ThumbCoreModel_wide : MethodName := ⟨"ThumbCoreModel", "wide", "()V"⟩
theorem wc_ThumbCoreModel_wide : Cond.code y_ThumbCoreModel_wide b_ThumbCoreModel_wide 8 none ∈ tcb := tc_in (List.mem_append_right _ (List.mem_append_right _ (List.mem_append_right _ (List.mem_append_left _ (List.mem_of_getElem? (i := 198) rfl))))) rfl
theorem wm_ThumbCoreModel_wide : Cond.instanceMethod y_ThumbCoreModel_wide ∈ tcb := tc_in (List.mem_append_right _ (List.mem_append_right _ (List.mem_append_right _ (List.mem_append_left _ (List.mem_of_getElem? (i := 197) rfl))))) rfl
theorem ws_ThumbCoreModel_wide : Cond.selects "ThumbCoreModel" y_ThumbCoreModel_wide y_ThumbCoreModel_wide ∈ tcb := tc_in (List.mem_append_left _ (List.mem_map.mpr ⟨_, lw_pin_58, rfl⟩)) rfl
abbrev b_ThumbCoreModel_put : ByteArray := prog_7_method_26_code
def y_ThumbCoreModel_put : MethodName := ⟨"ThumbCoreModel", "put", "(II)V"⟩
theorem wc_ThumbCoreModel_put : Cond.code y_ThumbCoreModel_put b_ThumbCoreModel_put 3 none ∈ tcb := tc_in (List.mem_append_right _ (List.mem_append_right _ (List.mem_append_right _ (List.mem_append_left _ (List.mem_of_getElem? (i := 202) rfl))))) rfl
theorem wm_ThumbCoreModel_put : Cond.instanceMethod y_ThumbCoreModel_put ∈ tcb := tc_in (List.mem_append_right _ (List.mem_append_right _ (List.mem_append_right _ (List.mem_append_left _ (List.mem_of_getElem? (i := 201) rfl))))) rfl
theorem ws_ThumbCoreModel_put : Cond.selects "ThumbCoreModel" y_ThumbCoreModel_put y_ThumbCoreModel_put ∈ tcb := tc_in (List.mem_append_left _ (List.mem_map.mpr ⟨_, lw_pin_59, rfl⟩)) rfl
abbrev b_ThumbCoreModel_returns : ByteArray := prog_7_method_19_code
def y_ThumbCoreModel_returns : MethodName := ⟨"ThumbCoreModel", "returns", "(I)Z"⟩
theorem wc_ThumbCoreModel_returns : Cond.code y_ThumbCoreModel_returns b_ThumbCoreModel_returns 2 (some .boolean) ∈ tcb := tc_in (List.mem_append_right _ (List.mem_append_right _ (List.mem_append_right _ (List.mem_append_left _ (List.mem_of_getElem? (i := 206) rfl))))) rfl
theorem wm_ThumbCoreModel_returns : Cond.instanceMethod y_ThumbCoreModel_returns ∈ tcb := tc_in (List.mem_append_right _ (List.mem_append_right _ (List.mem_append_right _ (List.mem_append_left _ (List.mem_of_getElem? (i := 205) rfl))))) rfl
theorem ws_ThumbCoreModel_returns : Cond.selects "ThumbCoreModel" y_ThumbCoreModel_returns y_ThumbCoreModel_returns ∈ tcb := tc_in (List.mem_append_left _ (List.mem_map.mpr ⟨_, lw_pin_60, rfl⟩)) rfl
abbrev b_ThumbCoreModel_goTo : ByteArray := prog_7_method_20_code
def y_ThumbCoreModel_goTo : MethodName := ⟨"ThumbCoreModel", "goTo", "(I)V"⟩
theorem wc_ThumbCoreModel_goTo : Cond.code y_ThumbCoreModel_goTo b_ThumbCoreModel_goTo 2 none ∈ tcb := tc_in (List.mem_append_right _ (List.mem_append_right _ (List.mem_append_right _ (List.mem_append_left _ (List.mem_of_getElem? (i := 210) rfl))))) rfl
theorem wm_ThumbCoreModel_goTo : Cond.instanceMethod y_ThumbCoreModel_goTo ∈ tcb := tc_in (List.mem_append_right _ (List.mem_append_right _ (List.mem_append_right _ (List.mem_append_left _ (List.mem_of_getElem? (i := 209) rfl))))) rfl
theorem ws_ThumbCoreModel_goTo : Cond.selects "ThumbCoreModel" y_ThumbCoreModel_goTo y_ThumbCoreModel_goTo ∈ tcb := tc_in (List.mem_append_left _ (List.mem_map.mpr ⟨_, lw_pin_61, rfl⟩)) rfl
abbrev b_ThumbCoreModel_comeBack : ByteArray := prog_7_method_18_code
def y_ThumbCoreModel_comeBack : MethodName := ⟨"ThumbCoreModel", "comeBack", "(I)V"⟩
theorem wc_ThumbCoreModel_comeBack : Cond.code y_ThumbCoreModel_comeBack b_ThumbCoreModel_comeBack 7 none ∈ tcb := tc_in (List.mem_append_right _ (List.mem_append_right _ (List.mem_append_right _ (List.mem_append_left _ (List.mem_of_getElem? (i := 214) rfl))))) rfl
theorem wm_ThumbCoreModel_comeBack : Cond.instanceMethod y_ThumbCoreModel_comeBack ∈ tcb := tc_in (List.mem_append_right _ (List.mem_append_right _ (List.mem_append_right _ (List.mem_append_left _ (List.mem_of_getElem? (i := 213) rfl))))) rfl
theorem ws_ThumbCoreModel_comeBack : Cond.selects "ThumbCoreModel" y_ThumbCoreModel_comeBack y_ThumbCoreModel_comeBack ∈ tcb := tc_in (List.mem_append_left _ (List.mem_map.mpr ⟨_, lw_pin_62, rfl⟩)) rfl
abbrev b_ThumbCoreModel_moves : ByteArray := prog_7_method_28_code
def y_ThumbCoreModel_moves : MethodName := ⟨"ThumbCoreModel", "moves", "(III)V"⟩
theorem wc_ThumbCoreModel_moves : Cond.code y_ThumbCoreModel_moves b_ThumbCoreModel_moves 4 none ∈ tcb := tc_in (List.mem_append_right _ (List.mem_append_right _ (List.mem_append_right _ (List.mem_append_left _ (List.mem_of_getElem? (i := 218) rfl))))) rfl
theorem wm_ThumbCoreModel_moves : Cond.instanceMethod y_ThumbCoreModel_moves ∈ tcb := tc_in (List.mem_append_right _ (List.mem_append_right _ (List.mem_append_right _ (List.mem_append_left _ (List.mem_of_getElem? (i := 217) rfl))))) rfl
theorem ws_ThumbCoreModel_moves : Cond.selects "ThumbCoreModel" y_ThumbCoreModel_moves y_ThumbCoreModel_moves ∈ tcb := tc_in (List.mem_append_left _ (List.mem_map.mpr ⟨_, lw_pin_63, rfl⟩)) rfl
abbrev b_ThumbCoreModel_kinds : ByteArray := prog_7_method_35_code
def y_ThumbCoreModel_kinds : MethodName := ⟨"ThumbCoreModel", "kinds", "()V"⟩
theorem wc_ThumbCoreModel_kinds : Cond.code y_ThumbCoreModel_kinds b_ThumbCoreModel_kinds 5 none ∈ tcb := tc_in (List.mem_append_right _ (List.mem_append_right _ (List.mem_append_right _ (List.mem_append_left _ (List.mem_of_getElem? (i := 222) rfl))))) rfl
theorem wm_ThumbCoreModel_kinds : Cond.instanceMethod y_ThumbCoreModel_kinds ∈ tcb := tc_in (List.mem_append_right _ (List.mem_append_right _ (List.mem_append_right _ (List.mem_append_left _ (List.mem_of_getElem? (i := 221) rfl))))) rfl
theorem ws_ThumbCoreModel_kinds : Cond.selects "ThumbCoreModel" y_ThumbCoreModel_kinds y_ThumbCoreModel_kinds ∈ tcb := tc_in (List.mem_append_left _ (List.mem_map.mpr ⟨_, lw_pin_64, rfl⟩)) rfl
abbrev b_ThumbCoreModel_push : ByteArray := prog_7_method_31_code
def y_ThumbCoreModel_push : MethodName := ⟨"ThumbCoreModel", "push", "()V"⟩
theorem wc_ThumbCoreModel_push : Cond.code y_ThumbCoreModel_push b_ThumbCoreModel_push 6 none ∈ tcb := tc_in (List.mem_append_right _ (List.mem_append_right _ (List.mem_append_right _ (List.mem_append_left _ (List.mem_of_getElem? (i := 227) rfl))))) rfl
theorem wm_ThumbCoreModel_push : Cond.instanceMethod y_ThumbCoreModel_push ∈ tcb := tc_in (List.mem_append_right _ (List.mem_append_right _ (List.mem_append_right _ (List.mem_append_left _ (List.mem_of_getElem? (i := 226) rfl))))) rfl
theorem ws_ThumbCoreModel_push : Cond.selects "ThumbCoreModel" y_ThumbCoreModel_push y_ThumbCoreModel_push ∈ tcb := tc_in (List.mem_append_left _ (List.mem_map.mpr ⟨_, lw_pin_65, rfl⟩)) rfl
abbrev b_ThumbCoreModel_listed : ByteArray := prog_7_method_29_code
def y_ThumbCoreModel_listed : MethodName := ⟨"ThumbCoreModel", "listed", "(I)I"⟩
theorem wc_ThumbCoreModel_listed : Cond.code y_ThumbCoreModel_listed b_ThumbCoreModel_listed 4 (some .int) ∈ tcb := tc_in (List.mem_append_right _ (List.mem_append_right _ (List.mem_append_right _ (List.mem_append_left _ (List.mem_of_getElem? (i := 231) rfl))))) rfl
theorem wm_ThumbCoreModel_listed : Cond.instanceMethod y_ThumbCoreModel_listed ∈ tcb := tc_in (List.mem_append_right _ (List.mem_append_right _ (List.mem_append_right _ (List.mem_append_left _ (List.mem_of_getElem? (i := 230) rfl))))) rfl
theorem ws_ThumbCoreModel_listed : Cond.selects "ThumbCoreModel" y_ThumbCoreModel_listed y_ThumbCoreModel_listed ∈ tcb := tc_in (List.mem_append_left _ (List.mem_map.mpr ⟨_, lw_pin_66, rfl⟩)) rfl
abbrev b_ThumbCoreModel_allThere : ByteArray := prog_7_method_30_code
def y_ThumbCoreModel_allThere : MethodName := ⟨"ThumbCoreModel", "allThere", "(II)Z"⟩
theorem wc_ThumbCoreModel_allThere : Cond.code y_ThumbCoreModel_allThere b_ThumbCoreModel_allThere 5 (some .boolean) ∈ tcb := tc_in (List.mem_append_right _ (List.mem_append_right _ (List.mem_append_right _ (List.mem_append_left _ (List.mem_of_getElem? (i := 235) rfl))))) rfl
theorem wm_ThumbCoreModel_allThere : Cond.instanceMethod y_ThumbCoreModel_allThere ∈ tcb := tc_in (List.mem_append_right _ (List.mem_append_right _ (List.mem_append_right _ (List.mem_append_left _ (List.mem_of_getElem? (i := 234) rfl))))) rfl
theorem ws_ThumbCoreModel_allThere : Cond.selects "ThumbCoreModel" y_ThumbCoreModel_allThere y_ThumbCoreModel_allThere ∈ tcb := tc_in (List.mem_append_left _ (List.mem_map.mpr ⟨_, lw_pin_67, rfl⟩)) rfl
abbrev b_ThumbCoreModel_turned : ByteArray := prog_7_method_34_code
def y_ThumbCoreModel_turned : MethodName := ⟨"ThumbCoreModel", "turned", "(I)I"⟩
theorem wc_ThumbCoreModel_turned : Cond.code y_ThumbCoreModel_turned b_ThumbCoreModel_turned 1 (some .int) ∈ tcb := tc_in (List.mem_append_right _ (List.mem_append_right _ (List.mem_append_right _ (List.mem_append_right _ (List.mem_of_getElem? (i := 0) rfl))))) rfl
theorem wt_ThumbCoreModel_turned : Cond.static y_ThumbCoreModel_turned ∈ tcb := tc_in (List.mem_append_right _ (List.mem_append_right _ (List.mem_append_right _ (List.mem_append_left _ (List.mem_of_getElem? (i := 239) rfl))))) rfl
abbrev b_ThumbCoreModel_pop : ByteArray := prog_7_method_32_code
def y_ThumbCoreModel_pop : MethodName := ⟨"ThumbCoreModel", "pop", "()V"⟩
theorem wc_ThumbCoreModel_pop : Cond.code y_ThumbCoreModel_pop b_ThumbCoreModel_pop 5 none ∈ tcb := tc_in (List.mem_append_right _ (List.mem_append_right _ (List.mem_append_right _ (List.mem_append_right _ (List.mem_of_getElem? (i := 5) rfl))))) rfl
theorem wm_ThumbCoreModel_pop : Cond.instanceMethod y_ThumbCoreModel_pop ∈ tcb := tc_in (List.mem_append_right _ (List.mem_append_right _ (List.mem_append_right _ (List.mem_append_right _ (List.mem_of_getElem? (i := 4) rfl))))) rfl
theorem ws_ThumbCoreModel_pop : Cond.selects "ThumbCoreModel" y_ThumbCoreModel_pop y_ThumbCoreModel_pop ∈ tcb := tc_in (List.mem_append_left _ (List.mem_map.mpr ⟨_, lw_pin_68, rfl⟩)) rfl
abbrev b_ThumbCoreModel_several : ByteArray := prog_7_method_33_code
def y_ThumbCoreModel_several : MethodName := ⟨"ThumbCoreModel", "several", "(Z)V"⟩
theorem wc_ThumbCoreModel_several : Cond.code y_ThumbCoreModel_several b_ThumbCoreModel_several 10 none ∈ tcb := tc_in (List.mem_append_right _ (List.mem_append_right _ (List.mem_append_right _ (List.mem_append_right _ (List.mem_of_getElem? (i := 10) rfl))))) rfl
theorem wm_ThumbCoreModel_several : Cond.instanceMethod y_ThumbCoreModel_several ∈ tcb := tc_in (List.mem_append_right _ (List.mem_append_right _ (List.mem_append_right _ (List.mem_append_right _ (List.mem_of_getElem? (i := 9) rfl))))) rfl
theorem ws_ThumbCoreModel_several : Cond.selects "ThumbCoreModel" y_ThumbCoreModel_several y_ThumbCoreModel_several ∈ tcb := tc_in (List.mem_append_left _ (List.mem_map.mpr ⟨_, lw_pin_69, rfl⟩)) rfl
abbrev b_ThumbCoreModel_branch : ByteArray := prog_7_method_37_code
def y_ThumbCoreModel_branch : MethodName := ⟨"ThumbCoreModel", "branch", "()V"⟩
theorem wc_ThumbCoreModel_branch : Cond.code y_ThumbCoreModel_branch b_ThumbCoreModel_branch 2 none ∈ tcb := tc_in (List.mem_append_right _ (List.mem_append_right _ (List.mem_append_right _ (List.mem_append_right _ (List.mem_of_getElem? (i := 14) rfl))))) rfl
theorem wm_ThumbCoreModel_branch : Cond.instanceMethod y_ThumbCoreModel_branch ∈ tcb := tc_in (List.mem_append_right _ (List.mem_append_right _ (List.mem_append_right _ (List.mem_append_right _ (List.mem_of_getElem? (i := 13) rfl))))) rfl
theorem ws_ThumbCoreModel_branch : Cond.selects "ThumbCoreModel" y_ThumbCoreModel_branch y_ThumbCoreModel_branch ∈ tcb := tc_in (List.mem_append_left _ (List.mem_map.mpr ⟨_, lw_pin_70, rfl⟩)) rfl
abbrev b_ThumbCoreModel_meets : ByteArray := prog_7_method_36_code
def y_ThumbCoreModel_meets : MethodName := ⟨"ThumbCoreModel", "meets", "(I)Z"⟩
theorem wc_ThumbCoreModel_meets : Cond.code y_ThumbCoreModel_meets b_ThumbCoreModel_meets 3 (some .boolean) ∈ tcb := tc_in (List.mem_append_right _ (List.mem_append_right _ (List.mem_append_right _ (List.mem_append_right _ (List.mem_of_getElem? (i := 18) rfl))))) rfl
theorem wm_ThumbCoreModel_meets : Cond.instanceMethod y_ThumbCoreModel_meets ∈ tcb := tc_in (List.mem_append_right _ (List.mem_append_right _ (List.mem_append_right _ (List.mem_append_right _ (List.mem_of_getElem? (i := 17) rfl))))) rfl
theorem ws_ThumbCoreModel_meets : Cond.selects "ThumbCoreModel" y_ThumbCoreModel_meets y_ThumbCoreModel_meets ∈ tcb := tc_in (List.mem_append_left _ (List.mem_map.mpr ⟨_, lw_pin_71, rfl⟩)) rfl
abbrev b_ThumbCoreModel_far : ByteArray := prog_7_method_38_code
def y_ThumbCoreModel_far : MethodName := ⟨"ThumbCoreModel", "far", "()V"⟩
theorem wc_ThumbCoreModel_far : Cond.code y_ThumbCoreModel_far b_ThumbCoreModel_far 7 none ∈ tcb := tc_in (List.mem_append_right _ (List.mem_append_right _ (List.mem_append_right _ (List.mem_append_right _ (List.mem_of_getElem? (i := 22) rfl))))) rfl
theorem wm_ThumbCoreModel_far : Cond.instanceMethod y_ThumbCoreModel_far ∈ tcb := tc_in (List.mem_append_right _ (List.mem_append_right _ (List.mem_append_right _ (List.mem_append_right _ (List.mem_of_getElem? (i := 21) rfl))))) rfl
theorem ws_ThumbCoreModel_far : Cond.selects "ThumbCoreModel" y_ThumbCoreModel_far y_ThumbCoreModel_far ∈ tcb := tc_in (List.mem_append_left _ (List.mem_map.mpr ⟨_, lw_pin_72, rfl⟩)) rfl
abbrev b_ThumbCoreModel_fault : ByteArray := prog_7_method_17_code
def y_ThumbCoreModel_fault : MethodName := ⟨"ThumbCoreModel", "fault", "()V"⟩
theorem wc_ThumbCoreModel_fault : Cond.code y_ThumbCoreModel_fault b_ThumbCoreModel_fault 1 none ∈ tcb := tc_in (List.mem_append_right _ (List.mem_append_right _ (List.mem_append_right _ (List.mem_append_right _ (List.mem_of_getElem? (i := 27) rfl))))) rfl
theorem wm_ThumbCoreModel_fault : Cond.instanceMethod y_ThumbCoreModel_fault ∈ tcb := tc_in (List.mem_append_right _ (List.mem_append_right _ (List.mem_append_right _ (List.mem_append_right _ (List.mem_of_getElem? (i := 26) rfl))))) rfl
theorem ws_ThumbCoreModel_fault : Cond.selects "ThumbCoreModel" y_ThumbCoreModel_fault y_ThumbCoreModel_fault ∈ tcb := tc_in (List.mem_append_left _ (List.mem_map.mpr ⟨_, lw_pin_73, rfl⟩)) rfl
abbrev b_ThumbCoreModel_run : ByteArray := prog_7_method_43_code
def y_ThumbCoreModel_run : MethodName := ⟨"ThumbCoreModel", "run", "(I)I"⟩
theorem wc_ThumbCoreModel_run : Cond.code y_ThumbCoreModel_run b_ThumbCoreModel_run 5 (some .int) ∈ tcb := tc_in (List.mem_append_right _ (List.mem_append_right _ (List.mem_append_right _ (List.mem_append_right _ (List.mem_of_getElem? (i := 31) rfl))))) rfl
theorem wm_ThumbCoreModel_run : Cond.instanceMethod y_ThumbCoreModel_run ∈ tcb := tc_in (List.mem_append_right _ (List.mem_append_right _ (List.mem_append_right _ (List.mem_append_right _ (List.mem_of_getElem? (i := 29) rfl))))) rfl
theorem ws_ThumbCoreModel_run : Cond.selects "ThumbCoreModel" y_ThumbCoreModel_run y_ThumbCoreModel_run ∈ tcb := tc_in (List.mem_append_right _ (List.mem_append_right _ (List.mem_append_right _ (List.mem_append_right _ (List.mem_of_getElem? (i := 30) rfl))))) rfl
abbrev b_ThumbCoreModel_register : ByteArray := prog_7_method_44_code
def y_ThumbCoreModel_register : MethodName := ⟨"ThumbCoreModel", "register", "(I)I"⟩
theorem wc_ThumbCoreModel_register : Cond.code y_ThumbCoreModel_register b_ThumbCoreModel_register 2 (some .int) ∈ tcb := tc_in (List.mem_append_right _ (List.mem_append_right _ (List.mem_append_right _ (List.mem_append_right _ (List.mem_of_getElem? (i := 36) rfl))))) rfl
theorem wm_ThumbCoreModel_register : Cond.instanceMethod y_ThumbCoreModel_register ∈ tcb := tc_in (List.mem_append_right _ (List.mem_append_right _ (List.mem_append_right _ (List.mem_append_right _ (List.mem_of_getElem? (i := 34) rfl))))) rfl
theorem ws_ThumbCoreModel_register : Cond.selects "ThumbCoreModel" y_ThumbCoreModel_register y_ThumbCoreModel_register ∈ tcb := tc_in (List.mem_append_right _ (List.mem_append_right _ (List.mem_append_right _ (List.mem_append_right _ (List.mem_of_getElem? (i := 35) rfl))))) rfl
abbrev b_ThumbCoreModel_set : ByteArray := prog_7_method_45_code
def y_ThumbCoreModel_set : MethodName := ⟨"ThumbCoreModel", "set", "(II)Z"⟩
theorem wc_ThumbCoreModel_set : Cond.code y_ThumbCoreModel_set b_ThumbCoreModel_set 3 (some .boolean) ∈ tcb := tc_in (List.mem_append_right _ (List.mem_append_right _ (List.mem_append_right _ (List.mem_append_right _ (List.mem_of_getElem? (i := 40) rfl))))) rfl
theorem wm_ThumbCoreModel_set : Cond.instanceMethod y_ThumbCoreModel_set ∈ tcb := tc_in (List.mem_append_right _ (List.mem_append_right _ (List.mem_append_right _ (List.mem_append_right _ (List.mem_of_getElem? (i := 38) rfl))))) rfl
theorem ws_ThumbCoreModel_set : Cond.selects "ThumbCoreModel" y_ThumbCoreModel_set y_ThumbCoreModel_set ∈ tcb := tc_in (List.mem_append_right _ (List.mem_append_right _ (List.mem_append_right _ (List.mem_append_right _ (List.mem_of_getElem? (i := 39) rfl))))) rfl
abbrev b_ThumbCoreModel_about : ByteArray := prog_7_method_46_code
def y_ThumbCoreModel_about : MethodName := ⟨"ThumbCoreModel", "about", "(I)I"⟩
theorem wc_ThumbCoreModel_about : Cond.code y_ThumbCoreModel_about b_ThumbCoreModel_about 2 (some .int) ∈ tcb := tc_in (List.mem_append_right _ (List.mem_append_right _ (List.mem_append_right _ (List.mem_append_right _ (List.mem_of_getElem? (i := 44) rfl))))) rfl
theorem wm_ThumbCoreModel_about : Cond.instanceMethod y_ThumbCoreModel_about ∈ tcb := tc_in (List.mem_append_right _ (List.mem_append_right _ (List.mem_append_right _ (List.mem_append_right _ (List.mem_of_getElem? (i := 42) rfl))))) rfl
theorem ws_ThumbCoreModel_about : Cond.selects "ThumbCoreModel" y_ThumbCoreModel_about y_ThumbCoreModel_about ∈ tcb := tc_in (List.mem_append_right _ (List.mem_append_right _ (List.mem_append_right _ (List.mem_append_right _ (List.mem_of_getElem? (i := 43) rfl))))) rfl
abbrev b_ThumbCoreModel_pend : ByteArray := prog_7_method_48_code
def y_ThumbCoreModel_pend : MethodName := ⟨"ThumbCoreModel", "pend", "(I)Z"⟩
theorem wc_ThumbCoreModel_pend : Cond.code y_ThumbCoreModel_pend b_ThumbCoreModel_pend 2 (some .boolean) ∈ tcb := tc_in (List.mem_append_right _ (List.mem_append_right _ (List.mem_append_right _ (List.mem_append_right _ (List.mem_of_getElem? (i := 48) rfl))))) rfl
theorem wm_ThumbCoreModel_pend : Cond.instanceMethod y_ThumbCoreModel_pend ∈ tcb := tc_in (List.mem_append_right _ (List.mem_append_right _ (List.mem_append_right _ (List.mem_append_right _ (List.mem_of_getElem? (i := 46) rfl))))) rfl
theorem ws_ThumbCoreModel_pend : Cond.selects "ThumbCoreModel" y_ThumbCoreModel_pend y_ThumbCoreModel_pend ∈ tcb := tc_in (List.mem_append_right _ (List.mem_append_right _ (List.mem_append_right _ (List.mem_append_right _ (List.mem_of_getElem? (i := 47) rfl))))) rfl
abbrev b_ThumbCoreModel_canWait : ByteArray := prog_7_method_47_code
def y_ThumbCoreModel_canWait : MethodName := ⟨"ThumbCoreModel", "canWait", "(I)Z"⟩
theorem wc_ThumbCoreModel_canWait : Cond.code y_ThumbCoreModel_canWait b_ThumbCoreModel_canWait 1 (some .boolean) ∈ tcb := tc_in (List.mem_append_right _ (List.mem_append_right _ (List.mem_append_right _ (List.mem_append_right _ (List.mem_of_getElem? (i := 51) rfl))))) rfl
theorem wt_ThumbCoreModel_canWait : Cond.static y_ThumbCoreModel_canWait ∈ tcb := tc_in (List.mem_append_right _ (List.mem_append_right _ (List.mem_append_right _ (List.mem_append_right _ (List.mem_of_getElem? (i := 50) rfl))))) rfl
abbrev b_ThumbCoreModel_exception : ByteArray := prog_7_method_49_code
def y_ThumbCoreModel_exception : MethodName := ⟨"ThumbCoreModel", "exception", "(I)I"⟩
theorem wc_ThumbCoreModel_exception : Cond.code y_ThumbCoreModel_exception b_ThumbCoreModel_exception 2 (some .int) ∈ tcb := tc_in (List.mem_append_right _ (List.mem_append_right _ (List.mem_append_right _ (List.mem_append_right _ (List.mem_of_getElem? (i := 55) rfl))))) rfl
theorem wm_ThumbCoreModel_exception : Cond.instanceMethod y_ThumbCoreModel_exception ∈ tcb := tc_in (List.mem_append_right _ (List.mem_append_right _ (List.mem_append_right _ (List.mem_append_right _ (List.mem_of_getElem? (i := 53) rfl))))) rfl
theorem ws_ThumbCoreModel_exception : Cond.selects "ThumbCoreModel" y_ThumbCoreModel_exception y_ThumbCoreModel_exception ∈ tcb := tc_in (List.mem_append_right _ (List.mem_append_right _ (List.mem_append_right _ (List.mem_append_right _ (List.mem_of_getElem? (i := 54) rfl))))) rfl
abbrev b_ThumbCoreModel_priority : ByteArray := prog_7_method_50_code
def y_ThumbCoreModel_priority : MethodName := ⟨"ThumbCoreModel", "priority", "(II)Z"⟩
theorem wc_ThumbCoreModel_priority : Cond.code y_ThumbCoreModel_priority b_ThumbCoreModel_priority 3 (some .boolean) ∈ tcb := tc_in (List.mem_append_right _ (List.mem_append_right _ (List.mem_append_right _ (List.mem_append_right _ (List.mem_of_getElem? (i := 59) rfl))))) rfl
theorem wm_ThumbCoreModel_priority : Cond.instanceMethod y_ThumbCoreModel_priority ∈ tcb := tc_in (List.mem_append_right _ (List.mem_append_right _ (List.mem_append_right _ (List.mem_append_right _ (List.mem_of_getElem? (i := 57) rfl))))) rfl
theorem ws_ThumbCoreModel_priority : Cond.selects "ThumbCoreModel" y_ThumbCoreModel_priority y_ThumbCoreModel_priority ∈ tcb := tc_in (List.mem_append_right _ (List.mem_append_right _ (List.mem_append_right _ (List.mem_append_right _ (List.mem_of_getElem? (i := 58) rfl))))) rfl
abbrev b_ThumbCoreModel_tick : ByteArray := prog_7_method_51_code
def y_ThumbCoreModel_tick : MethodName := ⟨"ThumbCoreModel", "tick", "(IZ)Z"⟩
theorem wc_ThumbCoreModel_tick : Cond.code y_ThumbCoreModel_tick b_ThumbCoreModel_tick 3 (some .boolean) ∈ tcb := tc_in (List.mem_append_right _ (List.mem_append_right _ (List.mem_append_right _ (List.mem_append_right _ (List.mem_of_getElem? (i := 63) rfl))))) rfl
theorem wm_ThumbCoreModel_tick : Cond.instanceMethod y_ThumbCoreModel_tick ∈ tcb := tc_in (List.mem_append_right _ (List.mem_append_right _ (List.mem_append_right _ (List.mem_append_right _ (List.mem_of_getElem? (i := 61) rfl))))) rfl
theorem ws_ThumbCoreModel_tick : Cond.selects "ThumbCoreModel" y_ThumbCoreModel_tick y_ThumbCoreModel_tick ∈ tcb := tc_in (List.mem_append_right _ (List.mem_append_right _ (List.mem_append_right _ (List.mem_append_right _ (List.mem_of_getElem? (i := 62) rfl))))) rfl
/-- links to private members of nest mates: carried by the contracts themselves -/
def tcn : List Cond := [Cond.methodLinkNest "ThumbCore" 33 y_Flags_init "ThumbCore", Cond.fieldLinkNest "ThumbCore" 219 "ThumbCore$Flags" "carry" "Z" "ThumbCore", Cond.fieldLinkNest "ThumbCore" 152 "ThumbCore$Exceptions" "priorities" "[I" "ThumbCore", Cond.fieldLinkNest "ThumbCore" 131 "ThumbCore$Exceptions" "active" "I" "ThumbCore", Cond.fieldLinkNest "ThumbCore" 128 "ThumbCore$Exceptions" "current" "I" "ThumbCore", Cond.fieldLinkNest "ThumbCore" 139 "ThumbCore$Exceptions" "masked" "Z" "ThumbCore", Cond.methodLinkNest "ThumbCore" 47 y_Counter_init "ThumbCore", Cond.fieldLinkNest "ThumbCore" 142 "ThumbCore$Counter" "number" "I" "ThumbCore"]
theorem wl_ThumbCore_33 : Cond.methodLinkNest "ThumbCore" 33 y_Flags_init "ThumbCore" ∈ tcn := List.mem_of_getElem? (i := 0) rfl
theorem wT_0 : Cond.methodLinkNest "ThumbCore" 33 y_Flags_init "ThumbCore" ∈ lw_tbl := (List.mem_append_right _ (List.mem_append_left _ (List.mem_of_getElem? (i := 39) rfl)))
theorem wf_ThumbCore_219 : Cond.fieldLinkNest "ThumbCore" 219 "ThumbCore$Flags" "carry" "Z" "ThumbCore" ∈ tcn := List.mem_of_getElem? (i := 1) rfl
theorem wT_1 : Cond.fieldLinkNest "ThumbCore" 219 "ThumbCore$Flags" "carry" "Z" "ThumbCore" ∈ lw_tbl := (List.mem_append_right _ (List.mem_append_left _ (List.mem_of_getElem? (i := 46) rfl)))
theorem wf_ThumbCore_152 : Cond.fieldLinkNest "ThumbCore" 152 "ThumbCore$Exceptions" "priorities" "[I" "ThumbCore" ∈ tcn := List.mem_of_getElem? (i := 2) rfl
theorem wT_2 : Cond.fieldLinkNest "ThumbCore" 152 "ThumbCore$Exceptions" "priorities" "[I" "ThumbCore" ∈ lw_tbl := (List.mem_append_right _ (List.mem_append_left _ (List.mem_of_getElem? (i := 64) rfl)))
theorem wf_ThumbCore_131 : Cond.fieldLinkNest "ThumbCore" 131 "ThumbCore$Exceptions" "active" "I" "ThumbCore" ∈ tcn := List.mem_of_getElem? (i := 3) rfl
theorem wT_3 : Cond.fieldLinkNest "ThumbCore" 131 "ThumbCore$Exceptions" "active" "I" "ThumbCore" ∈ lw_tbl := (List.mem_append_right _ (List.mem_append_left _ (List.mem_of_getElem? (i := 67) rfl)))
theorem wf_ThumbCore_128 : Cond.fieldLinkNest "ThumbCore" 128 "ThumbCore$Exceptions" "current" "I" "ThumbCore" ∈ tcn := List.mem_of_getElem? (i := 4) rfl
theorem wT_4 : Cond.fieldLinkNest "ThumbCore" 128 "ThumbCore$Exceptions" "current" "I" "ThumbCore" ∈ lw_tbl := (List.mem_append_right _ (List.mem_append_left _ (List.mem_of_getElem? (i := 69) rfl)))
theorem wf_ThumbCore_139 : Cond.fieldLinkNest "ThumbCore" 139 "ThumbCore$Exceptions" "masked" "Z" "ThumbCore" ∈ tcn := List.mem_of_getElem? (i := 5) rfl
theorem wT_5 : Cond.fieldLinkNest "ThumbCore" 139 "ThumbCore$Exceptions" "masked" "Z" "ThumbCore" ∈ lw_tbl := (List.mem_append_right _ (List.mem_append_left _ (List.mem_of_getElem? (i := 71) rfl)))
theorem wl_ThumbCore_47 : Cond.methodLinkNest "ThumbCore" 47 y_Counter_init "ThumbCore" ∈ tcn := List.mem_of_getElem? (i := 6) rfl
theorem wT_6 : Cond.methodLinkNest "ThumbCore" 47 y_Counter_init "ThumbCore" ∈ lw_tbl := (List.mem_append_right _ (List.mem_append_left _ (List.mem_of_getElem? (i := 85) rfl)))
theorem wf_ThumbCore_142 : Cond.fieldLinkNest "ThumbCore" 142 "ThumbCore$Counter" "number" "I" "ThumbCore" ∈ tcn := List.mem_of_getElem? (i := 7) rfl
theorem wT_7 : Cond.fieldLinkNest "ThumbCore" 142 "ThumbCore$Counter" "number" "I" "ThumbCore" ∈ lw_tbl := (List.mem_append_right _ (List.mem_append_left _ (List.mem_of_getElem? (i := 90) rfl)))
theorem tcn_all {X : Cond → Prop} (h0 : X (Cond.methodLinkNest "ThumbCore" 33 y_Flags_init "ThumbCore")) (h1 : X (Cond.fieldLinkNest "ThumbCore" 219 "ThumbCore$Flags" "carry" "Z" "ThumbCore")) (h2 : X (Cond.fieldLinkNest "ThumbCore" 152 "ThumbCore$Exceptions" "priorities" "[I" "ThumbCore")) (h3 : X (Cond.fieldLinkNest "ThumbCore" 131 "ThumbCore$Exceptions" "active" "I" "ThumbCore")) (h4 : X (Cond.fieldLinkNest "ThumbCore" 128 "ThumbCore$Exceptions" "current" "I" "ThumbCore")) (h5 : X (Cond.fieldLinkNest "ThumbCore" 139 "ThumbCore$Exceptions" "masked" "Z" "ThumbCore")) (h6 : X (Cond.methodLinkNest "ThumbCore" 47 y_Counter_init "ThumbCore")) (h7 : X (Cond.fieldLinkNest "ThumbCore" 142 "ThumbCore$Counter" "number" "I" "ThumbCore")) : ∀ w ∈ tcn, X w := by
  intro w hw
  unfold tcn at hw
  simp only [List.mem_cons, List.not_mem_nil, or_false] at hw
  rcases hw with rfl | rfl | rfl | rfl | rfl | rfl | rfl | rfl
  · exact h0
  · exact h1
  · exact h2
  · exact h3
  · exact h4
  · exact h5
  · exact h6
  · exact h7
def tc_NN (U : State) : Prop := ∀ w ∈ tcn, va_Nw w U
theorem tc_NN.warm {s U : State} (hW : s.WarmedH U.vm) (h : tc_NN s) : tc_NN U := tcn_all (va_Nw.warmM hW (h _ (List.mem_of_getElem? (i := 0) rfl))) (va_Nw.warmF hW (h _ (List.mem_of_getElem? (i := 1) rfl))) (va_Nw.warmF hW (h _ (List.mem_of_getElem? (i := 2) rfl))) (va_Nw.warmF hW (h _ (List.mem_of_getElem? (i := 3) rfl))) (va_Nw.warmF hW (h _ (List.mem_of_getElem? (i := 4) rfl))) (va_Nw.warmF hW (h _ (List.mem_of_getElem? (i := 5) rfl))) (va_Nw.warmM hW (h _ (List.mem_of_getElem? (i := 6) rfl))) (va_Nw.warmF hW (h _ (List.mem_of_getElem? (i := 7) rfl)))
theorem tc_NN.same {u U : State} (e : u.vm = U.vm) (h : tc_NN u) : tc_NN U := tcn_all (va_Nw.same rfl e (h _ (List.mem_of_getElem? (i := 0) rfl))) (va_Nw.same rfl e (h _ (List.mem_of_getElem? (i := 1) rfl))) (va_Nw.same rfl e (h _ (List.mem_of_getElem? (i := 2) rfl))) (va_Nw.same rfl e (h _ (List.mem_of_getElem? (i := 3) rfl))) (va_Nw.same rfl e (h _ (List.mem_of_getElem? (i := 4) rfl))) (va_Nw.same rfl e (h _ (List.mem_of_getElem? (i := 5) rfl))) (va_Nw.same rfl e (h _ (List.mem_of_getElem? (i := 6) rfl))) (va_Nw.same rfl e (h _ (List.mem_of_getElem? (i := 7) rfl)))
theorem wz_ThumbCoreLaw_7 : Cond.classLink "ThumbCoreLaw" 7 "ThumbCore" ∈ tcb := tc_in (List.mem_append_right _ (List.mem_append_left _ (List.mem_of_getElem? (i := 9) rfl))) rfl
theorem wl_ThumbCoreLaw_15 : Cond.methodLink "ThumbCoreLaw" 15 y_ThumbCore_init ∈ tcb := tc_in (List.mem_append_right _ (List.mem_append_left _ (List.mem_of_getElem? (i := 11) rfl))) rfl
theorem wl_ThumbCore_1 : Cond.methodLink "ThumbCore" 1 y_Object_init ∈ tcb := tc_in (List.mem_append_right _ (List.mem_append_left _ (List.mem_of_getElem? (i := 14) rfl))) rfl
theorem wz_ThumbCore_7 : Cond.classLink "ThumbCore" 7 "ThumbCore$Memory" ∈ tcb := tc_in (List.mem_append_right _ (List.mem_append_left _ (List.mem_of_getElem? (i := 17) rfl))) rfl
theorem wl_ThumbCore_9 : Cond.methodLink "ThumbCore" 9 y_Math_min ∈ tcb := tc_in (List.mem_append_right _ (List.mem_append_left _ (List.mem_of_getElem? (i := 19) rfl))) rfl
theorem wl_ThumbCore_15 : Cond.methodLink "ThumbCore" 15 y_Math_max ∈ tcb := tc_in (List.mem_append_right _ (List.mem_append_left _ (List.mem_of_getElem? (i := 22) rfl))) rfl
theorem wl_ThumbCore_18 : Cond.methodLink "ThumbCore" 18 y_Memory_init ∈ tcb := tc_in (List.mem_append_right _ (List.mem_append_left _ (List.mem_of_getElem? (i := 25) rfl))) rfl
theorem wl_Memory_1 : Cond.methodLink "ThumbCore$Memory" 1 y_Object_init ∈ tcb := tc_in (List.mem_append_right _ (List.mem_append_left _ (List.mem_of_getElem? (i := 28) rfl))) rfl
theorem wf_Memory_7 : Cond.fieldLink "ThumbCore$Memory" 7 "ThumbCore$Memory" "size" "I" ∈ tcb := tc_in (List.mem_append_right _ (List.mem_append_left _ (List.mem_of_getElem? (i := 29) rfl))) rfl
theorem wf_Memory_13 : Cond.fieldLink "ThumbCore$Memory" 13 "ThumbCore$Memory" "words" "[I" ∈ tcb := tc_in (List.mem_append_right _ (List.mem_append_left _ (List.mem_of_getElem? (i := 30) rfl))) rfl
theorem wz_ThumbCore_31 : Cond.classLink "ThumbCore" 31 "ThumbCore$Flags" ∈ tcb := tc_in (List.mem_append_right _ (List.mem_append_left _ (List.mem_of_getElem? (i := 37) rfl))) rfl
theorem wl_Flags_1 : Cond.methodLink "ThumbCore$Flags" 1 y_Object_init ∈ tcb := tc_in (List.mem_append_right _ (List.mem_append_left _ (List.mem_of_getElem? (i := 42) rfl))) rfl
theorem wf_Flags_7 : Cond.fieldLink "ThumbCore$Flags" 7 "ThumbCore$Flags" "negative" "Z" ∈ tcb := tc_in (List.mem_append_right _ (List.mem_append_left _ (List.mem_of_getElem? (i := 43) rfl))) rfl
theorem wf_Flags_14 : Cond.fieldLink "ThumbCore$Flags" 14 "ThumbCore$Flags" "zero" "Z" ∈ tcb := tc_in (List.mem_append_right _ (List.mem_append_left _ (List.mem_of_getElem? (i := 44) rfl))) rfl
theorem wf_Flags_18 : Cond.fieldLink "ThumbCore$Flags" 18 "ThumbCore$Flags" "carry" "Z" ∈ tcb := tc_in (List.mem_append_right _ (List.mem_append_left _ (List.mem_of_getElem? (i := 45) rfl))) rfl
theorem wf_Flags_22 : Cond.fieldLink "ThumbCore$Flags" 22 "ThumbCore$Flags" "overflow" "Z" ∈ tcb := tc_in (List.mem_append_right _ (List.mem_append_left _ (List.mem_of_getElem? (i := 47) rfl))) rfl
theorem wz_ThumbCore_38 : Cond.classLink "ThumbCore" 38 "ThumbCore$Exceptions" ∈ tcb := tc_in (List.mem_append_right _ (List.mem_append_left _ (List.mem_of_getElem? (i := 57) rfl))) rfl
theorem wl_ThumbCore_40 : Cond.methodLink "ThumbCore" 40 y_Exceptions_init ∈ tcb := tc_in (List.mem_append_right _ (List.mem_append_left _ (List.mem_of_getElem? (i := 59) rfl))) rfl
theorem wl_Exceptions_3 : Cond.methodLink "ThumbCore$Exceptions" 3 y_Object_init ∈ tcb := tc_in (List.mem_append_right _ (List.mem_append_left _ (List.mem_of_getElem? (i := 62) rfl))) rfl
theorem wf_Exceptions_11 : Cond.fieldLink "ThumbCore$Exceptions" 11 "ThumbCore$Exceptions" "priorities" "[I" ∈ tcb := tc_in (List.mem_append_right _ (List.mem_append_left _ (List.mem_of_getElem? (i := 63) rfl))) rfl
theorem wf_Exceptions_15 : Cond.fieldLink "ThumbCore$Exceptions" 15 "ThumbCore$Exceptions" "pending" "I" ∈ tcb := tc_in (List.mem_append_right _ (List.mem_append_left _ (List.mem_of_getElem? (i := 65) rfl))) rfl
theorem wf_Exceptions_19 : Cond.fieldLink "ThumbCore$Exceptions" 19 "ThumbCore$Exceptions" "active" "I" ∈ tcb := tc_in (List.mem_append_right _ (List.mem_append_left _ (List.mem_of_getElem? (i := 66) rfl))) rfl
theorem wf_Exceptions_22 : Cond.fieldLink "ThumbCore$Exceptions" 22 "ThumbCore$Exceptions" "current" "I" ∈ tcb := tc_in (List.mem_append_right _ (List.mem_append_left _ (List.mem_of_getElem? (i := 68) rfl))) rfl
theorem wf_Exceptions_25 : Cond.fieldLink "ThumbCore$Exceptions" 25 "ThumbCore$Exceptions" "masked" "Z" ∈ tcb := tc_in (List.mem_append_right _ (List.mem_append_left _ (List.mem_of_getElem? (i := 70) rfl))) rfl
theorem wz_ThumbCore_45 : Cond.classLink "ThumbCore" 45 "ThumbCore$Counter" ∈ tcb := tc_in (List.mem_append_right _ (List.mem_append_left _ (List.mem_of_getElem? (i := 83) rfl))) rfl
theorem wl_Counter_1 : Cond.methodLink "ThumbCore$Counter" 1 y_Object_init ∈ tcb := tc_in (List.mem_append_right _ (List.mem_append_left _ (List.mem_of_getElem? (i := 88) rfl))) rfl
theorem wf_Counter_7 : Cond.fieldLink "ThumbCore$Counter" 7 "ThumbCore$Counter" "number" "I" ∈ tcb := tc_in (List.mem_append_right _ (List.mem_append_left _ (List.mem_of_getElem? (i := 89) rfl))) rfl
theorem wf_Counter_13 : Cond.fieldLink "ThumbCore$Counter" 13 "ThumbCore$Counter" "reload" "I" ∈ tcb := tc_in (List.mem_append_right _ (List.mem_append_left _ (List.mem_of_getElem? (i := 91) rfl))) rfl
theorem wf_Counter_16 : Cond.fieldLink "ThumbCore$Counter" 16 "ThumbCore$Counter" "on" "Z" ∈ tcb := tc_in (List.mem_append_right _ (List.mem_append_left _ (List.mem_of_getElem? (i := 92) rfl))) rfl
theorem wl_ThumbCore_52 : Cond.methodLink "ThumbCore" 52 y_ThumbCore_reset ∈ tcb := tc_in (List.mem_append_right _ (List.mem_append_left _ (List.mem_of_getElem? (i := 100) rfl))) rfl
theorem wl_ThumbCore_66 : Cond.methodLink "ThumbCore" 66 y_Memory_word ∈ tcb := tc_in (List.mem_append_right _ (List.mem_append_left _ (List.mem_of_getElem? (i := 104) rfl))) rfl
theorem wl_ThumbCore_70 : Cond.methodLink "ThumbCore" 70 y_Flags_take ∈ tcb := tc_in (List.mem_append_right _ (List.mem_append_left _ (List.mem_of_getElem? (i := 108) rfl))) rfl
theorem wl_ThumbCore_73 : Cond.methodLink "ThumbCore" 73 y_Exceptions_clear ∈ tcb := tc_in (List.mem_append_right _ (List.mem_append_left _ (List.mem_of_getElem? (i := 112) rfl))) rfl
theorem wl_ThumbCore_76 : Cond.methodLink "ThumbCore" 76 y_Counter_begin ∈ tcb := tc_in (List.mem_append_right _ (List.mem_append_left _ (List.mem_of_getElem? (i := 116) rfl))) rfl
theorem wf_ThumbCore_21 : Cond.fieldLink "ThumbCore" 21 "ThumbCore" "memory" "LThumbCore$Memory;" ∈ tcb := tc_in (List.mem_append_right _ (List.mem_append_left _ (List.mem_of_getElem? (i := 120) rfl))) rfl
theorem wf_ThumbCore_27 : Cond.fieldLink "ThumbCore" 27 "ThumbCore" "registers" "[I" ∈ tcb := tc_in (List.mem_append_right _ (List.mem_append_left _ (List.mem_of_getElem? (i := 121) rfl))) rfl
theorem wf_ThumbCore_34 : Cond.fieldLink "ThumbCore" 34 "ThumbCore" "flags" "LThumbCore$Flags;" ∈ tcb := tc_in (List.mem_append_right _ (List.mem_append_left _ (List.mem_of_getElem? (i := 122) rfl))) rfl
theorem wf_ThumbCore_41 : Cond.fieldLink "ThumbCore" 41 "ThumbCore" "exceptions" "LThumbCore$Exceptions;" ∈ tcb := tc_in (List.mem_append_right _ (List.mem_append_left _ (List.mem_of_getElem? (i := 123) rfl))) rfl
theorem wf_ThumbCore_48 : Cond.fieldLink "ThumbCore" 48 "ThumbCore" "counter" "LThumbCore$Counter;" ∈ tcb := tc_in (List.mem_append_right _ (List.mem_append_left _ (List.mem_of_getElem? (i := 124) rfl))) rfl
theorem wf_ThumbCore_80 : Cond.fieldLink "ThumbCore" 80 "ThumbCore" "asleep" "Z" ∈ tcb := tc_in (List.mem_append_right _ (List.mem_append_left _ (List.mem_of_getElem? (i := 125) rfl))) rfl
theorem wf_ThumbCore_84 : Cond.fieldLink "ThumbCore" 84 "ThumbCore" "locked" "Z" ∈ tcb := tc_in (List.mem_append_right _ (List.mem_append_left _ (List.mem_of_getElem? (i := 126) rfl))) rfl
theorem wf_ThumbCore_111 : Cond.fieldLink "ThumbCore" 111 "ThumbCore" "next" "I" ∈ tcb := tc_in (List.mem_append_right _ (List.mem_append_left _ (List.mem_of_getElem? (i := 127) rfl))) rfl
theorem wl_ThumbCoreLaw_21 : Cond.methodLink "ThumbCoreLaw" 21 y_ThumbCore_poke ∈ tcb := tc_in (List.mem_append_right _ (List.mem_append_left _ (List.mem_of_getElem? (i := 145) rfl))) rfl
theorem wl_ThumbCore_55 : Cond.methodLink "ThumbCore" 55 y_Memory_holds ∈ tcb := tc_in (List.mem_append_right _ (List.mem_append_left _ (List.mem_of_getElem? (i := 149) rfl))) rfl
theorem wl_ThumbCore_59 : Cond.methodLink "ThumbCore" 59 y_Memory_write ∈ tcb := tc_in (List.mem_append_right _ (List.mem_append_left _ (List.mem_of_getElem? (i := 153) rfl))) rfl
theorem wl_Memory_21 : Cond.methodLink "ThumbCore$Memory" 21 y_Memory_lowest ∈ tcb := tc_in (List.mem_append_right _ (List.mem_append_left _ (List.mem_of_getElem? (i := 157) rfl))) rfl
theorem wl_ThumbCoreLaw_26 : Cond.methodLink "ThumbCoreLaw" 26 y_ThumbCore_peek ∈ tcb := tc_in (List.mem_append_right _ (List.mem_append_left _ (List.mem_of_getElem? (i := 160) rfl))) rfl
theorem wl_ThumbCore_63 : Cond.methodLink "ThumbCore" 63 y_Memory_read ∈ tcb := tc_in (List.mem_append_right _ (List.mem_append_left _ (List.mem_of_getElem? (i := 164) rfl))) rfl
theorem wl_ThumbCoreLaw_31 : Cond.methodLink "ThumbCoreLaw" 31 y_ThumbCore_reset ∈ tcb := tc_in (List.mem_append_right _ (List.mem_append_left _ (List.mem_of_getElem? (i := 168) rfl))) rfl
theorem wl_ThumbCoreLaw_35 : Cond.methodLink "ThumbCoreLaw" 35 y_ThumbCore_step ∈ tcb := tc_in (List.mem_append_right _ (List.mem_append_left _ (List.mem_of_getElem? (i := 169) rfl))) rfl
theorem wl_ThumbCore_87 : Cond.methodLink "ThumbCore" 87 y_Counter_moves ∈ tcb := tc_in (List.mem_append_right _ (List.mem_append_left _ (List.mem_of_getElem? (i := 173) rfl))) rfl
theorem wl_ThumbCore_91 : Cond.methodLink "ThumbCore" 91 y_Exceptions_await ∈ tcb := tc_in (List.mem_append_right _ (List.mem_append_left _ (List.mem_of_getElem? (i := 177) rfl))) rfl
theorem wl_ThumbCore_94 : Cond.methodLink "ThumbCore" 94 y_Exceptions_presentUnmasked ∈ tcb := tc_in (List.mem_append_right _ (List.mem_append_left _ (List.mem_of_getElem? (i := 181) rfl))) rfl
theorem wl_Exceptions_29 : Cond.methodLink "ThumbCore$Exceptions" 29 y_Math_min ∈ tcb := tc_in (List.mem_append_right _ (List.mem_append_left _ (List.mem_of_getElem? (i := 185) rfl))) rfl
theorem wl_ThumbCore_98 : Cond.methodLink "ThumbCore" 98 y_Exceptions_mostUrgent ∈ tcb := tc_in (List.mem_append_right _ (List.mem_append_left _ (List.mem_of_getElem? (i := 186) rfl))) rfl
theorem wl_ThumbCore_101 : Cond.methodLink "ThumbCore" 101 y_Exceptions_present ∈ tcb := tc_in (List.mem_append_right _ (List.mem_append_left _ (List.mem_of_getElem? (i := 190) rfl))) rfl
theorem wl_Exceptions_35 : Cond.methodLink "ThumbCore$Exceptions" 35 y_Exceptions_presentUnmasked ∈ tcb := tc_in (List.mem_append_right _ (List.mem_append_left _ (List.mem_of_getElem? (i := 194) rfl))) rfl
theorem wl_ThumbCore_104 : Cond.methodLink "ThumbCore" 104 y_ThumbCore_enter ∈ tcb := tc_in (List.mem_append_right _ (List.mem_append_left _ (List.mem_of_getElem? (i := 195) rfl))) rfl
theorem wl_ThumbCore_295 : Cond.methodLink "ThumbCore" 295 y_Memory_areThere ∈ tcb := tc_in (List.mem_append_right _ (List.mem_append_left _ (List.mem_of_getElem? (i := 199) rfl))) rfl
theorem wf_ThumbCore_309 : Cond.fieldLink "ThumbCore" 309 "ThumbCore" "LAID" "[I" ∈ tcb := tc_in (List.mem_append_right _ (List.mem_append_left _ (List.mem_of_getElem? (i := 203) rfl))) rfl
theorem wl_ThumbCore_296 : Cond.methodLink "ThumbCore" 296 y_Memory_putWord ∈ tcb := tc_in (List.mem_append_right _ (List.mem_append_left _ (List.mem_of_getElem? (i := 205) rfl))) rfl
theorem wl_ThumbCore_312 : Cond.methodLink "ThumbCore" 312 y_ThumbCore_status ∈ tcb := tc_in (List.mem_append_right _ (List.mem_append_left _ (List.mem_of_getElem? (i := 209) rfl))) rfl
theorem wl_ThumbCore_124 : Cond.methodLink "ThumbCore" 124 y_Flags_bits ∈ tcb := tc_in (List.mem_append_right _ (List.mem_append_left _ (List.mem_of_getElem? (i := 213) rfl))) rfl
theorem wk_Flags_13 : Cond.constant "ThumbCore$Flags" 13 (-2147483648) ∈ tcb := tc_in (List.mem_append_right _ (List.mem_append_left _ (List.mem_of_getElem? (i := 217) rfl))) rfl
theorem wk_Flags_17 : Cond.constant "ThumbCore$Flags" 17 (1073741824) ∈ tcb := tc_in (List.mem_append_right _ (List.mem_append_left _ (List.mem_of_getElem? (i := 218) rfl))) rfl
theorem wk_Flags_21 : Cond.constant "ThumbCore$Flags" 21 (536870912) ∈ tcb := tc_in (List.mem_append_right _ (List.mem_append_left _ (List.mem_of_getElem? (i := 219) rfl))) rfl
theorem wk_Flags_25 : Cond.constant "ThumbCore$Flags" 25 (268435456) ∈ tcb := tc_in (List.mem_append_right _ (List.mem_append_left _ (List.mem_of_getElem? (i := 220) rfl))) rfl
theorem wk_ThumbCore_127 : Cond.constant "ThumbCore" 127 (16777216) ∈ tcb := tc_in (List.mem_append_right _ (List.mem_append_left _ (List.mem_of_getElem? (i := 221) rfl))) rfl
theorem wl_ThumbCore_315 : Cond.methodLink "ThumbCore" 315 y_Exceptions_begin ∈ tcb := tc_in (List.mem_append_right _ (List.mem_append_left _ (List.mem_of_getElem? (i := 222) rfl))) rfl
theorem wl_ThumbCore_108 : Cond.methodLink "ThumbCore" 108 y_ThumbCore_perform ∈ tcb := tc_in (List.mem_append_right _ (List.mem_append_left _ (List.mem_of_getElem? (i := 226) rfl))) rfl
theorem wl_ThumbCore_155 : Cond.methodLink "ThumbCore" 155 y_Memory_isThere ∈ tcb := tc_in (List.mem_append_right _ (List.mem_append_left _ (List.mem_of_getElem? (i := 230) rfl))) rfl
theorem wl_Memory_17 : Cond.methodLink "ThumbCore$Memory" 17 y_Memory_holds ∈ tcb := tc_in (List.mem_append_right _ (List.mem_append_left _ (List.mem_of_getElem? (i := 234) rfl))) rfl
theorem wl_ThumbCore_158 : Cond.methodLink "ThumbCore" 158 y_ThumbCore_moveByConstant ∈ tcb := tc_in (List.mem_append_right _ (List.mem_append_left _ (List.mem_of_getElem? (i := 235) rfl))) rfl
theorem wl_ThumbCore_200 : Cond.methodLink "ThumbCore" 200 y_Flags_moveUp ∈ tcb := tc_in (List.mem_append_right _ (List.mem_append_left _ (List.mem_of_getElem? (i := 239) rfl))) rfl
theorem wl_Flags_28 : Cond.methodLink "ThumbCore$Flags" 28 y_Flags_mark ∈ tcb := tc_in (List.mem_append_right _ (List.mem_append_right _ (List.mem_append_left _ (List.mem_of_getElem? (i := 3) rfl)))) rfl
theorem wl_ThumbCore_203 : Cond.methodLink "ThumbCore" 203 y_Flags_moveDown ∈ tcb := tc_in (List.mem_append_right _ (List.mem_append_right _ (List.mem_append_left _ (List.mem_of_getElem? (i := 7) rfl)))) rfl
theorem wl_ThumbCore_206 : Cond.methodLink "ThumbCore" 206 y_Flags_moveDownSigned ∈ tcb := tc_in (List.mem_append_right _ (List.mem_append_right _ (List.mem_append_left _ (List.mem_of_getElem? (i := 11) rfl)))) rfl
theorem wl_Flags_32 : Cond.methodLink "ThumbCore$Flags" 32 y_Math_min ∈ tcb := tc_in (List.mem_append_right _ (List.mem_append_right _ (List.mem_append_left _ (List.mem_of_getElem? (i := 15) rfl)))) rfl
theorem wl_ThumbCore_161 : Cond.methodLink "ThumbCore" 161 y_ThumbCore_addThree ∈ tcb := tc_in (List.mem_append_right _ (List.mem_append_right _ (List.mem_append_left _ (List.mem_of_getElem? (i := 16) rfl)))) rfl
theorem wl_ThumbCore_209 : Cond.methodLink "ThumbCore" 209 y_Flags_add ∈ tcb := tc_in (List.mem_append_right _ (List.mem_append_right _ (List.mem_append_left _ (List.mem_of_getElem? (i := 20) rfl)))) rfl
theorem wk_Flags_26 : Cond.constantLong "ThumbCore$Flags" 26 (4294967295) ∈ tcb := tc_in (List.mem_append_right _ (List.mem_append_right _ (List.mem_append_left _ (List.mem_of_getElem? (i := 24) rfl)))) rfl
theorem wl_ThumbCore_164 : Cond.methodLink "ThumbCore" 164 y_ThumbCore_withByte ∈ tcb := tc_in (List.mem_append_right _ (List.mem_append_right _ (List.mem_append_left _ (List.mem_of_getElem? (i := 25) rfl)))) rfl
theorem wl_ThumbCore_213 : Cond.methodLink "ThumbCore" 213 y_Flags_mark ∈ tcb := tc_in (List.mem_append_right _ (List.mem_append_right _ (List.mem_append_left _ (List.mem_of_getElem? (i := 29) rfl)))) rfl
theorem wl_ThumbCore_167 : Cond.methodLink "ThumbCore" 167 y_ThumbCore_combine ∈ tcb := tc_in (List.mem_append_right _ (List.mem_append_right _ (List.mem_append_left _ (List.mem_of_getElem? (i := 30) rfl)))) rfl
theorem wl_ThumbCore_216 : Cond.methodLink "ThumbCore" 216 y_ThumbCore_combined ∈ tcb := tc_in (List.mem_append_right _ (List.mem_append_right _ (List.mem_append_left _ (List.mem_of_getElem? (i := 34) rfl)))) rfl
theorem wl_ThumbCore_222 : Cond.methodLink "ThumbCore" 222 y_Flags_turnRound ∈ tcb := tc_in (List.mem_append_right _ (List.mem_append_right _ (List.mem_append_left _ (List.mem_of_getElem? (i := 38) rfl)))) rfl
theorem wl_ThumbCore_170 : Cond.methodLink "ThumbCore" 170 y_ThumbCore_withHigh ∈ tcb := tc_in (List.mem_append_right _ (List.mem_append_right _ (List.mem_append_left _ (List.mem_of_getElem? (i := 42) rfl)))) rfl
theorem wl_ThumbCore_225 : Cond.methodLink "ThumbCore" 225 y_ThumbCore_readHigh ∈ tcb := tc_in (List.mem_append_right _ (List.mem_append_right _ (List.mem_append_left _ (List.mem_of_getElem? (i := 46) rfl)))) rfl
theorem wl_ThumbCore_194 : Cond.methodLink "ThumbCore" 194 y_ThumbCore_here ∈ tcb := tc_in (List.mem_append_right _ (List.mem_append_right _ (List.mem_append_left _ (List.mem_of_getElem? (i := 50) rfl)))) rfl
theorem wl_ThumbCore_228 : Cond.methodLink "ThumbCore" 228 y_ThumbCore_put ∈ tcb := tc_in (List.mem_append_right _ (List.mem_append_right _ (List.mem_append_left _ (List.mem_of_getElem? (i := 54) rfl)))) rfl
theorem wl_ThumbCore_121 : Cond.methodLink "ThumbCore" 121 y_ThumbCore_fitting ∈ tcb := tc_in (List.mem_append_right _ (List.mem_append_right _ (List.mem_append_left _ (List.mem_of_getElem? (i := 58) rfl)))) rfl
theorem wl_ThumbCore_231 : Cond.methodLink "ThumbCore" 231 y_ThumbCore_branchTo ∈ tcb := tc_in (List.mem_append_right _ (List.mem_append_right _ (List.mem_append_left _ (List.mem_of_getElem? (i := 61) rfl)))) rfl
theorem wl_ThumbCore_235 : Cond.methodLink "ThumbCore" 235 y_ThumbCore_mayGoTo ∈ tcb := tc_in (List.mem_append_right _ (List.mem_append_right _ (List.mem_append_left _ (List.mem_of_getElem? (i := 65) rfl)))) rfl
theorem wl_ThumbCore_238 : Cond.methodLink "ThumbCore" 238 y_ThumbCore_isReturn ∈ tcb := tc_in (List.mem_append_right _ (List.mem_append_right _ (List.mem_append_left _ (List.mem_of_getElem? (i := 69) rfl)))) rfl
theorem wl_ThumbCore_317 : Cond.methodLink "ThumbCore" 317 y_Exceptions_mayEndLast ∈ tcb := tc_in (List.mem_append_right _ (List.mem_append_right _ (List.mem_append_left _ (List.mem_of_getElem? (i := 73) rfl)))) rfl
theorem wl_Exceptions_39 : Cond.methodLink "ThumbCore$Exceptions" 39 y_Integer_bitCount ∈ tcb := tc_in (List.mem_append_right _ (List.mem_append_right _ (List.mem_append_left _ (List.mem_of_getElem? (i := 77) rfl)))) rfl
theorem wk_Integer_265 : Cond.constant "java/lang/Integer" 265 (1431655765) ∈ tcb := tc_in (List.mem_append_right _ (List.mem_append_right _ (List.mem_append_left _ (List.mem_of_getElem? (i := 80) rfl)))) rfl
theorem wk_Integer_266 : Cond.constant "java/lang/Integer" 266 (858993459) ∈ tcb := tc_in (List.mem_append_right _ (List.mem_append_right _ (List.mem_append_left _ (List.mem_of_getElem? (i := 81) rfl)))) rfl
theorem wk_Integer_267 : Cond.constant "java/lang/Integer" 267 (252645135) ∈ tcb := tc_in (List.mem_append_right _ (List.mem_append_right _ (List.mem_append_left _ (List.mem_of_getElem? (i := 82) rfl)))) rfl
theorem wl_ThumbCore_320 : Cond.methodLink "ThumbCore" 320 y_Exceptions_mayEndFor ∈ tcb := tc_in (List.mem_append_right _ (List.mem_append_right _ (List.mem_append_left _ (List.mem_of_getElem? (i := 83) rfl)))) rfl
theorem wl_Exceptions_45 : Cond.methodLink "ThumbCore$Exceptions" 45 y_Exceptions_isActive ∈ tcb := tc_in (List.mem_append_right _ (List.mem_append_right _ (List.mem_append_left _ (List.mem_of_getElem? (i := 87) rfl)))) rfl
theorem wl_ThumbCore_241 : Cond.methodLink "ThumbCore" 241 y_ThumbCore_goTo ∈ tcb := tc_in (List.mem_append_right _ (List.mem_append_right _ (List.mem_append_left _ (List.mem_of_getElem? (i := 91) rfl)))) rfl
theorem wl_ThumbCore_323 : Cond.methodLink "ThumbCore" 323 y_Exceptions_endFor ∈ tcb := tc_in (List.mem_append_right _ (List.mem_append_right _ (List.mem_append_left _ (List.mem_of_getElem? (i := 95) rfl)))) rfl
theorem wl_ThumbCore_173 : Cond.methodLink "ThumbCore" 173 y_ThumbCore_fromBase ∈ tcb := tc_in (List.mem_append_right _ (List.mem_append_right _ (List.mem_append_left _ (List.mem_of_getElem? (i := 99) rfl)))) rfl
theorem wl_ThumbCore_244 : Cond.methodLink "ThumbCore" 244 y_ThumbCore_load ∈ tcb := tc_in (List.mem_append_right _ (List.mem_append_right _ (List.mem_append_left _ (List.mem_of_getElem? (i := 103) rfl)))) rfl
theorem wl_ThumbCore_248 : Cond.methodLink "ThumbCore" 248 y_ThumbCore_store ∈ tcb := tc_in (List.mem_append_right _ (List.mem_append_right _ (List.mem_append_left _ (List.mem_of_getElem? (i := 107) rfl)))) rfl
theorem wl_ThumbCore_176 : Cond.methodLink "ThumbCore" 176 y_ThumbCore_atSum ∈ tcb := tc_in (List.mem_append_right _ (List.mem_append_right _ (List.mem_append_left _ (List.mem_of_getElem? (i := 111) rfl)))) rfl
theorem wl_ThumbCore_251 : Cond.methodLink "ThumbCore" 251 y_ThumbCore_loadSigned ∈ tcb := tc_in (List.mem_append_right _ (List.mem_append_right _ (List.mem_append_left _ (List.mem_of_getElem? (i := 115) rfl)))) rfl
theorem wl_ThumbCore_179 : Cond.methodLink "ThumbCore" 179 y_ThumbCore_atOffset ∈ tcb := tc_in (List.mem_append_right _ (List.mem_append_right _ (List.mem_append_left _ (List.mem_of_getElem? (i := 119) rfl)))) rfl
theorem wl_ThumbCore_182 : Cond.methodLink "ThumbCore" 182 y_ThumbCore_miscellaneous ∈ tcb := tc_in (List.mem_append_right _ (List.mem_append_right _ (List.mem_append_left _ (List.mem_of_getElem? (i := 123) rfl)))) rfl
theorem wl_ThumbCore_254 : Cond.methodLink "ThumbCore" 254 y_ThumbCore_moveStack ∈ tcb := tc_in (List.mem_append_right _ (List.mem_append_right _ (List.mem_append_left _ (List.mem_of_getElem? (i := 127) rfl)))) rfl
theorem wl_ThumbCore_257 : Cond.methodLink "ThumbCore" 257 y_ThumbCore_extended ∈ tcb := tc_in (List.mem_append_right _ (List.mem_append_right _ (List.mem_append_left _ (List.mem_of_getElem? (i := 131) rfl)))) rfl
theorem wk_ThumbCore_278 : Cond.constant "ThumbCore" 278 (65535) ∈ tcb := tc_in (List.mem_append_right _ (List.mem_append_right _ (List.mem_append_left _ (List.mem_of_getElem? (i := 134) rfl)))) rfl
theorem wl_ThumbCore_260 : Cond.methodLink "ThumbCore" 260 y_ThumbCore_push ∈ tcb := tc_in (List.mem_append_right _ (List.mem_append_right _ (List.mem_append_left _ (List.mem_of_getElem? (i := 135) rfl)))) rfl
theorem wl_ThumbCore_134 : Cond.methodLink "ThumbCore" 134 y_Integer_bitCount ∈ tcb := tc_in (List.mem_append_right _ (List.mem_append_right _ (List.mem_append_left _ (List.mem_of_getElem? (i := 139) rfl)))) rfl
theorem wl_ThumbCore_283 : Cond.methodLink "ThumbCore" 283 y_ThumbCore_areThere ∈ tcb := tc_in (List.mem_append_right _ (List.mem_append_right _ (List.mem_append_left _ (List.mem_of_getElem? (i := 140) rfl)))) rfl
theorem wl_ThumbCore_286 : Cond.methodLink "ThumbCore" 286 y_ThumbCore_writeList ∈ tcb := tc_in (List.mem_append_right _ (List.mem_append_right _ (List.mem_append_left _ (List.mem_of_getElem? (i := 144) rfl)))) rfl
theorem wl_ThumbCore_263 : Cond.methodLink "ThumbCore" 263 y_ThumbCore_changeMask ∈ tcb := tc_in (List.mem_append_right _ (List.mem_append_right _ (List.mem_append_left _ (List.mem_of_getElem? (i := 148) rfl)))) rfl
theorem wk_ThumbCore_279 : Cond.constant "ThumbCore" 279 (46690) ∈ tcb := tc_in (List.mem_append_right _ (List.mem_append_right _ (List.mem_append_left _ (List.mem_of_getElem? (i := 152) rfl)))) rfl
theorem wk_ThumbCore_280 : Cond.constant "ThumbCore" 280 (46706) ∈ tcb := tc_in (List.mem_append_right _ (List.mem_append_right _ (List.mem_append_left _ (List.mem_of_getElem? (i := 153) rfl)))) rfl
theorem wl_ThumbCore_266 : Cond.methodLink "ThumbCore" 266 y_ThumbCore_swapBytes ∈ tcb := tc_in (List.mem_append_right _ (List.mem_append_right _ (List.mem_append_left _ (List.mem_of_getElem? (i := 154) rfl)))) rfl
theorem wk_ThumbCore_281 : Cond.constant "ThumbCore" 281 (16711935) ∈ tcb := tc_in (List.mem_append_right _ (List.mem_append_right _ (List.mem_append_left _ (List.mem_of_getElem? (i := 158) rfl)))) rfl
theorem wl_ThumbCore_269 : Cond.methodLink "ThumbCore" 269 y_ThumbCore_pop ∈ tcb := tc_in (List.mem_append_right _ (List.mem_append_right _ (List.mem_append_left _ (List.mem_of_getElem? (i := 159) rfl)))) rfl
theorem wl_ThumbCore_289 : Cond.methodLink "ThumbCore" 289 y_ThumbCore_readList ∈ tcb := tc_in (List.mem_append_right _ (List.mem_append_right _ (List.mem_append_left _ (List.mem_of_getElem? (i := 163) rfl)))) rfl
theorem wl_ThumbCore_292 : Cond.methodLink "ThumbCore" 292 y_ThumbCore_behind ∈ tcb := tc_in (List.mem_append_right _ (List.mem_append_right _ (List.mem_append_left _ (List.mem_of_getElem? (i := 167) rfl)))) rfl
theorem wl_ThumbCore_272 : Cond.methodLink "ThumbCore" 272 y_ThumbCore_popAndGo ∈ tcb := tc_in (List.mem_append_right _ (List.mem_append_right _ (List.mem_append_left _ (List.mem_of_getElem? (i := 170) rfl)))) rfl
theorem wl_ThumbCore_275 : Cond.methodLink "ThumbCore" 275 y_ThumbCore_hint ∈ tcb := tc_in (List.mem_append_right _ (List.mem_append_right _ (List.mem_append_left _ (List.mem_of_getElem? (i := 174) rfl)))) rfl
theorem wk_ThumbCore_282 : Cond.constant "ThumbCore" 282 (48944) ∈ tcb := tc_in (List.mem_append_right _ (List.mem_append_right _ (List.mem_append_left _ (List.mem_of_getElem? (i := 178) rfl)))) rfl
theorem wl_ThumbCore_185 : Cond.methodLink "ThumbCore" 185 y_ThumbCore_storeMany ∈ tcb := tc_in (List.mem_append_right _ (List.mem_append_right _ (List.mem_append_left _ (List.mem_of_getElem? (i := 179) rfl)))) rfl
theorem wl_ThumbCore_188 : Cond.methodLink "ThumbCore" 188 y_ThumbCore_loadMany ∈ tcb := tc_in (List.mem_append_right _ (List.mem_append_right _ (List.mem_append_left _ (List.mem_of_getElem? (i := 183) rfl)))) rfl
theorem wl_ThumbCore_191 : Cond.methodLink "ThumbCore" 191 y_ThumbCore_branchOrCall ∈ tcb := tc_in (List.mem_append_right _ (List.mem_append_right _ (List.mem_append_left _ (List.mem_of_getElem? (i := 187) rfl)))) rfl
theorem wl_ThumbCore_299 : Cond.methodLink "ThumbCore" 299 y_ThumbCore_call ∈ tcb := tc_in (List.mem_append_right _ (List.mem_append_right _ (List.mem_append_left _ (List.mem_of_getElem? (i := 191) rfl)))) rfl
theorem wl_ThumbCore_302 : Cond.methodLink "ThumbCore" 302 y_Flags_meet ∈ tcb := tc_in (List.mem_append_right _ (List.mem_append_right _ (List.mem_append_left _ (List.mem_of_getElem? (i := 195) rfl)))) rfl
theorem wl_Flags_38 : Cond.methodLink "ThumbCore$Flags" 38 y_Flags_even ∈ tcb := tc_in (List.mem_append_right _ (List.mem_append_right _ (List.mem_append_left _ (List.mem_of_getElem? (i := 199) rfl)))) rfl
theorem wl_ThumbCore_197 : Cond.methodLink "ThumbCore" 197 y_ThumbCore_branchFar ∈ tcb := tc_in (List.mem_append_right _ (List.mem_append_right _ (List.mem_append_left _ (List.mem_of_getElem? (i := 203) rfl)))) rfl
theorem wk_ThumbCore_305 : Cond.constant "ThumbCore" 305 (49152) ∈ tcb := tc_in (List.mem_append_right _ (List.mem_append_right _ (List.mem_append_left _ (List.mem_of_getElem? (i := 207) rfl)))) rfl
theorem wl_ThumbCore_306 : Cond.methodLink "ThumbCore" 306 y_ThumbCore_farOffset ∈ tcb := tc_in (List.mem_append_right _ (List.mem_append_right _ (List.mem_append_left _ (List.mem_of_getElem? (i := 208) rfl)))) rfl
theorem wl_ThumbCore_115 : Cond.methodLink "ThumbCore" 115 y_ThumbCore_fault ∈ tcb := tc_in (List.mem_append_right _ (List.mem_append_right _ (List.mem_append_left _ (List.mem_of_getElem? (i := 211) rfl)))) rfl
theorem wl_ThumbCoreLaw_40 : Cond.methodLink "ThumbCoreLaw" 40 y_ThumbCore_run ∈ tcb := tc_in (List.mem_append_right _ (List.mem_append_right _ (List.mem_append_left _ (List.mem_of_getElem? (i := 215) rfl)))) rfl
theorem wl_ThumbCore_118 : Cond.methodLink "ThumbCore" 118 y_ThumbCore_step ∈ tcb := tc_in (List.mem_append_right _ (List.mem_append_right _ (List.mem_append_left _ (List.mem_of_getElem? (i := 219) rfl)))) rfl
theorem wl_ThumbCoreLaw_44 : Cond.methodLink "ThumbCoreLaw" 44 y_ThumbCore_register ∈ tcb := tc_in (List.mem_append_right _ (List.mem_append_right _ (List.mem_append_left _ (List.mem_of_getElem? (i := 220) rfl)))) rfl
theorem wl_ThumbCoreLaw_48 : Cond.methodLink "ThumbCoreLaw" 48 y_ThumbCore_set ∈ tcb := tc_in (List.mem_append_right _ (List.mem_append_right _ (List.mem_append_left _ (List.mem_of_getElem? (i := 224) rfl)))) rfl
theorem wl_ThumbCoreLaw_53 : Cond.methodLink "ThumbCoreLaw" 53 y_ThumbCore_status ∈ tcb := tc_in (List.mem_append_right _ (List.mem_append_right _ (List.mem_append_left _ (List.mem_of_getElem? (i := 228) rfl)))) rfl
theorem wl_ThumbCoreLaw_57 : Cond.methodLink "ThumbCoreLaw" 57 y_ThumbCore_about ∈ tcb := tc_in (List.mem_append_right _ (List.mem_append_right _ (List.mem_append_left _ (List.mem_of_getElem? (i := 229) rfl)))) rfl
theorem wl_ThumbCoreLaw_61 : Cond.methodLink "ThumbCoreLaw" 61 y_ThumbCore_pend ∈ tcb := tc_in (List.mem_append_right _ (List.mem_append_right _ (List.mem_append_left _ (List.mem_of_getElem? (i := 233) rfl)))) rfl
theorem wl_ThumbCoreLaw_66 : Cond.methodLink "ThumbCoreLaw" 66 y_ThumbCore_exception ∈ tcb := tc_in (List.mem_append_right _ (List.mem_append_right _ (List.mem_append_left _ (List.mem_of_getElem? (i := 237) rfl)))) rfl
theorem wl_ThumbCore_145 : Cond.methodLink "ThumbCore" 145 y_Exceptions_isPending ∈ tcb := tc_in (List.mem_append_right _ (List.mem_append_right _ (List.mem_append_right _ (List.mem_append_left _ (List.mem_of_getElem? (i := 1) rfl))))) rfl
theorem wl_ThumbCore_149 : Cond.methodLink "ThumbCore" 149 y_Exceptions_isActive ∈ tcb := tc_in (List.mem_append_right _ (List.mem_append_right _ (List.mem_append_right _ (List.mem_append_left _ (List.mem_of_getElem? (i := 5) rfl))))) rfl
theorem wl_ThumbCoreLaw_70 : Cond.methodLink "ThumbCoreLaw" 70 y_ThumbCore_priority ∈ tcb := tc_in (List.mem_append_right _ (List.mem_append_right _ (List.mem_append_right _ (List.mem_append_left _ (List.mem_of_getElem? (i := 6) rfl))))) rfl
theorem wl_ThumbCoreLaw_74 : Cond.methodLink "ThumbCoreLaw" 74 y_ThumbCore_tick ∈ tcb := tc_in (List.mem_append_right _ (List.mem_append_right _ (List.mem_append_right _ (List.mem_append_left _ (List.mem_of_getElem? (i := 10) rfl))))) rfl
theorem wl_ThumbCoreLaw_9 : Cond.methodLink "ThumbCoreLaw" 9 y_ThumbCoreLaw_cell ∈ tcb := tc_in (List.mem_append_right _ (List.mem_append_right _ (List.mem_append_right _ (List.mem_append_left _ (List.mem_of_getElem? (i := 14) rfl))))) rfl
theorem wz_ThumbCoreLaw_18 : Cond.classLink "ThumbCoreLaw" 18 "ThumbCoreModel" ∈ tcb := tc_in (List.mem_append_right _ (List.mem_append_right _ (List.mem_append_right _ (List.mem_append_left _ (List.mem_of_getElem? (i := 17) rfl))))) rfl
theorem wl_ThumbCoreLaw_20 : Cond.methodLink "ThumbCoreLaw" 20 y_ThumbCoreModel_init ∈ tcb := tc_in (List.mem_append_right _ (List.mem_append_right _ (List.mem_append_right _ (List.mem_append_left _ (List.mem_of_getElem? (i := 19) rfl))))) rfl
theorem wl_ThumbCoreModel_1 : Cond.methodLink "ThumbCoreModel" 1 y_Object_init ∈ tcb := tc_in (List.mem_append_right _ (List.mem_append_right _ (List.mem_append_right _ (List.mem_append_left _ (List.mem_of_getElem? (i := 22) rfl))))) rfl
theorem wl_ThumbCoreModel_34 : Cond.methodLink "ThumbCoreModel" 34 y_ThumbCoreModel_reset ∈ tcb := tc_in (List.mem_append_right _ (List.mem_append_right _ (List.mem_append_right _ (List.mem_append_left _ (List.mem_of_getElem? (i := 23) rfl))))) rfl
theorem wl_ThumbCoreModel_45 : Cond.methodLink "ThumbCoreModel" 45 y_ThumbCoreModel_read ∈ tcb := tc_in (List.mem_append_right _ (List.mem_append_right _ (List.mem_append_right _ (List.mem_append_left _ (List.mem_of_getElem? (i := 27) rfl))))) rfl
theorem wl_ThumbCoreModel_37 : Cond.methodLink "ThumbCoreModel" 37 y_ThumbCoreModel_there ∈ tcb := tc_in (List.mem_append_right _ (List.mem_append_right _ (List.mem_append_right _ (List.mem_append_left _ (List.mem_of_getElem? (i := 31) rfl))))) rfl
theorem wl_ThumbCoreModel_49 : Cond.methodLink "ThumbCoreModel" 49 y_ThumbCoreModel_flags ∈ tcb := tc_in (List.mem_append_right _ (List.mem_append_right _ (List.mem_append_right _ (List.mem_append_left _ (List.mem_of_getElem? (i := 35) rfl))))) rfl
theorem wf_ThumbCoreModel_30 : Cond.fieldLink "ThumbCoreModel" 30 "ThumbCoreModel" "size" "I" ∈ tcb := tc_in (List.mem_append_right _ (List.mem_append_right _ (List.mem_append_right _ (List.mem_append_left _ (List.mem_of_getElem? (i := 39) rfl))))) rfl
theorem wf_ThumbCoreModel_7 : Cond.fieldLink "ThumbCoreModel" 7 "ThumbCoreModel" "memory" "[B" ∈ tcb := tc_in (List.mem_append_right _ (List.mem_append_right _ (List.mem_append_right _ (List.mem_append_left _ (List.mem_of_getElem? (i := 40) rfl))))) rfl
theorem wf_ThumbCoreModel_13 : Cond.fieldLink "ThumbCoreModel" 13 "ThumbCoreModel" "reg" "[I" ∈ tcb := tc_in (List.mem_append_right _ (List.mem_append_right _ (List.mem_append_right _ (List.mem_append_left _ (List.mem_of_getElem? (i := 41) rfl))))) rfl
theorem wf_ThumbCoreModel_74 : Cond.fieldLink "ThumbCoreModel" 74 "ThumbCoreModel" "n" "Z" ∈ tcb := tc_in (List.mem_append_right _ (List.mem_append_right _ (List.mem_append_right _ (List.mem_append_left _ (List.mem_of_getElem? (i := 42) rfl))))) rfl
theorem wf_ThumbCoreModel_77 : Cond.fieldLink "ThumbCoreModel" 77 "ThumbCoreModel" "z" "Z" ∈ tcb := tc_in (List.mem_append_right _ (List.mem_append_right _ (List.mem_append_right _ (List.mem_append_left _ (List.mem_of_getElem? (i := 43) rfl))))) rfl
theorem wf_ThumbCoreModel_80 : Cond.fieldLink "ThumbCoreModel" 80 "ThumbCoreModel" "c" "Z" ∈ tcb := tc_in (List.mem_append_right _ (List.mem_append_right _ (List.mem_append_right _ (List.mem_append_left _ (List.mem_of_getElem? (i := 44) rfl))))) rfl
theorem wf_ThumbCoreModel_83 : Cond.fieldLink "ThumbCoreModel" 83 "ThumbCoreModel" "v" "Z" ∈ tcb := tc_in (List.mem_append_right _ (List.mem_append_right _ (List.mem_append_right _ (List.mem_append_left _ (List.mem_of_getElem? (i := 45) rfl))))) rfl
theorem wf_ThumbCoreModel_17 : Cond.fieldLink "ThumbCoreModel" 17 "ThumbCoreModel" "kept" "[I" ∈ tcb := tc_in (List.mem_append_right _ (List.mem_append_right _ (List.mem_append_right _ (List.mem_append_left _ (List.mem_of_getElem? (i := 46) rfl))))) rfl
theorem wf_ThumbCoreModel_199 : Cond.fieldLink "ThumbCoreModel" 199 "ThumbCoreModel" "keptFlags" "I" ∈ tcb := tc_in (List.mem_append_right _ (List.mem_append_right _ (List.mem_append_right _ (List.mem_append_left _ (List.mem_of_getElem? (i := 47) rfl))))) rfl
theorem wf_ThumbCoreModel_41 : Cond.fieldLink "ThumbCoreModel" 41 "ThumbCoreModel" "bad" "Z" ∈ tcb := tc_in (List.mem_append_right _ (List.mem_append_right _ (List.mem_append_right _ (List.mem_append_left _ (List.mem_of_getElem? (i := 48) rfl))))) rfl
theorem wf_ThumbCoreModel_125 : Cond.fieldLink "ThumbCoreModel" 125 "ThumbCoreModel" "h" "I" ∈ tcb := tc_in (List.mem_append_right _ (List.mem_append_right _ (List.mem_append_right _ (List.mem_append_left _ (List.mem_of_getElem? (i := 49) rfl))))) rfl
theorem wf_ThumbCoreModel_115 : Cond.fieldLink "ThumbCoreModel" 115 "ThumbCoreModel" "after" "I" ∈ tcb := tc_in (List.mem_append_right _ (List.mem_append_right _ (List.mem_append_right _ (List.mem_append_left _ (List.mem_of_getElem? (i := 50) rfl))))) rfl
theorem wf_ThumbCoreModel_167 : Cond.fieldLink "ThumbCoreModel" 167 "ThumbCoreModel" "entered" "Z" ∈ tcb := tc_in (List.mem_append_right _ (List.mem_append_right _ (List.mem_append_right _ (List.mem_append_left _ (List.mem_of_getElem? (i := 51) rfl))))) rfl
theorem wf_ThumbCoreModel_53 : Cond.fieldLink "ThumbCoreModel" 53 "ThumbCoreModel" "mask" "Z" ∈ tcb := tc_in (List.mem_append_right _ (List.mem_append_right _ (List.mem_append_right _ (List.mem_append_left _ (List.mem_of_getElem? (i := 52) rfl))))) rfl
theorem wf_ThumbCoreModel_56 : Cond.fieldLink "ThumbCoreModel" 56 "ThumbCoreModel" "asleep" "Z" ∈ tcb := tc_in (List.mem_append_right _ (List.mem_append_right _ (List.mem_append_right _ (List.mem_append_left _ (List.mem_of_getElem? (i := 53) rfl))))) rfl
theorem wf_ThumbCoreModel_59 : Cond.fieldLink "ThumbCoreModel" 59 "ThumbCoreModel" "lockup" "Z" ∈ tcb := tc_in (List.mem_append_right _ (List.mem_append_right _ (List.mem_append_right _ (List.mem_append_left _ (List.mem_of_getElem? (i := 54) rfl))))) rfl
theorem wf_ThumbCoreModel_62 : Cond.fieldLink "ThumbCoreModel" 62 "ThumbCoreModel" "counts" "Z" ∈ tcb := tc_in (List.mem_append_right _ (List.mem_append_right _ (List.mem_append_right _ (List.mem_append_left _ (List.mem_of_getElem? (i := 55) rfl))))) rfl
theorem wf_ThumbCoreModel_65 : Cond.fieldLink "ThumbCoreModel" 65 "ThumbCoreModel" "counter" "I" ∈ tcb := tc_in (List.mem_append_right _ (List.mem_append_right _ (List.mem_append_right _ (List.mem_append_left _ (List.mem_of_getElem? (i := 56) rfl))))) rfl
theorem wf_ThumbCoreModel_68 : Cond.fieldLink "ThumbCoreModel" 68 "ThumbCoreModel" "reload" "I" ∈ tcb := tc_in (List.mem_append_right _ (List.mem_append_right _ (List.mem_append_right _ (List.mem_append_left _ (List.mem_of_getElem? (i := 57) rfl))))) rfl
theorem wf_ThumbCoreModel_71 : Cond.fieldLink "ThumbCoreModel" 71 "ThumbCoreModel" "current" "I" ∈ tcb := tc_in (List.mem_append_right _ (List.mem_append_right _ (List.mem_append_right _ (List.mem_append_left _ (List.mem_of_getElem? (i := 58) rfl))))) rfl
theorem wf_ThumbCoreModel_20 : Cond.fieldLink "ThumbCoreModel" 20 "ThumbCoreModel" "pending" "[Z" ∈ tcb := tc_in (List.mem_append_right _ (List.mem_append_right _ (List.mem_append_right _ (List.mem_append_left _ (List.mem_of_getElem? (i := 59) rfl))))) rfl
theorem wf_ThumbCoreModel_24 : Cond.fieldLink "ThumbCoreModel" 24 "ThumbCoreModel" "active" "[Z" ∈ tcb := tc_in (List.mem_append_right _ (List.mem_append_right _ (List.mem_append_right _ (List.mem_append_left _ (List.mem_of_getElem? (i := 60) rfl))))) rfl
theorem wf_ThumbCoreModel_27 : Cond.fieldLink "ThumbCoreModel" 27 "ThumbCoreModel" "priorities" "[I" ∈ tcb := tc_in (List.mem_append_right _ (List.mem_append_right _ (List.mem_append_right _ (List.mem_append_left _ (List.mem_of_getElem? (i := 61) rfl))))) rfl
theorem wl_ThumbCoreLaw_25 : Cond.methodLink "ThumbCoreLaw" 25 y_ThumbCoreModel_poke ∈ tcb := tc_in (List.mem_append_right _ (List.mem_append_right _ (List.mem_append_right _ (List.mem_append_left _ (List.mem_of_getElem? (i := 111) rfl))))) rfl
theorem wl_ThumbCoreLaw_30 : Cond.methodLink "ThumbCoreLaw" 30 y_ThumbCoreModel_peek ∈ tcb := tc_in (List.mem_append_right _ (List.mem_append_right _ (List.mem_append_right _ (List.mem_append_left _ (List.mem_of_getElem? (i := 115) rfl))))) rfl
theorem wl_ThumbCoreLaw_34 : Cond.methodLink "ThumbCoreLaw" 34 y_ThumbCoreModel_reset ∈ tcb := tc_in (List.mem_append_right _ (List.mem_append_right _ (List.mem_append_right _ (List.mem_append_left _ (List.mem_of_getElem? (i := 119) rfl))))) rfl
theorem wl_ThumbCoreLaw_56 : Cond.methodLink "ThumbCoreLaw" 56 y_ThumbCoreModel_status ∈ tcb := tc_in (List.mem_append_right _ (List.mem_append_right _ (List.mem_append_right _ (List.mem_append_left _ (List.mem_of_getElem? (i := 120) rfl))))) rfl
theorem wl_ThumbCoreModel_86 : Cond.methodLink "ThumbCoreModel" 86 y_ThumbCoreModel_bits ∈ tcb := tc_in (List.mem_append_right _ (List.mem_append_right _ (List.mem_append_right _ (List.mem_append_left _ (List.mem_of_getElem? (i := 124) rfl))))) rfl
theorem wk_ThumbCoreModel_90 : Cond.constant "ThumbCoreModel" 90 (16777216) ∈ tcb := tc_in (List.mem_append_right _ (List.mem_append_right _ (List.mem_append_right _ (List.mem_append_left _ (List.mem_of_getElem? (i := 128) rfl))))) rfl
theorem wl_ThumbCoreLaw_39 : Cond.methodLink "ThumbCoreLaw" 39 y_ThumbCoreModel_step ∈ tcb := tc_in (List.mem_append_right _ (List.mem_append_right _ (List.mem_append_right _ (List.mem_append_left _ (List.mem_of_getElem? (i := 129) rfl))))) rfl
theorem wl_ThumbCoreModel_208 : Cond.methodLink "ThumbCoreModel" 208 y_ThumbCoreModel_tickOnce ∈ tcb := tc_in (List.mem_append_right _ (List.mem_append_right _ (List.mem_append_right _ (List.mem_append_left _ (List.mem_of_getElem? (i := 133) rfl))))) rfl
theorem wl_ThumbCoreModel_107 : Cond.methodLink "ThumbCoreModel" 107 y_ThumbCoreModel_present ∈ tcb := tc_in (List.mem_append_right _ (List.mem_append_right _ (List.mem_append_right _ (List.mem_append_left _ (List.mem_of_getElem? (i := 137) rfl))))) rfl
theorem wl_ThumbCoreModel_211 : Cond.methodLink "ThumbCoreModel" 211 y_ThumbCoreModel_waiting ∈ tcb := tc_in (List.mem_append_right _ (List.mem_append_right _ (List.mem_append_right _ (List.mem_append_left _ (List.mem_of_getElem? (i := 141) rfl))))) rfl
theorem wl_ThumbCoreModel_111 : Cond.methodLink "ThumbCoreModel" 111 y_ThumbCoreModel_enter ∈ tcb := tc_in (List.mem_append_right _ (List.mem_append_right _ (List.mem_append_right _ (List.mem_append_left _ (List.mem_of_getElem? (i := 145) rfl))))) rfl
theorem wl_ThumbCoreModel_97 : Cond.methodLink "ThumbCoreModel" 97 y_ThumbCoreModel_status ∈ tcb := tc_in (List.mem_append_right _ (List.mem_append_right _ (List.mem_append_right _ (List.mem_append_left _ (List.mem_of_getElem? (i := 149) rfl))))) rfl
theorem wl_ThumbCoreModel_100 : Cond.methodLink "ThumbCoreModel" 100 y_ThumbCoreModel_write ∈ tcb := tc_in (List.mem_append_right _ (List.mem_append_right _ (List.mem_append_right _ (List.mem_append_left _ (List.mem_of_getElem? (i := 150) rfl))))) rfl
theorem wl_ThumbCoreModel_104 : Cond.methodLink "ThumbCoreModel" 104 y_ThumbCoreModel_actives ∈ tcb := tc_in (List.mem_append_right _ (List.mem_append_right _ (List.mem_append_right _ (List.mem_append_left _ (List.mem_of_getElem? (i := 154) rfl))))) rfl
theorem wl_ThumbCoreModel_214 : Cond.methodLink "ThumbCoreModel" 214 y_ThumbCoreModel_instruct ∈ tcb := tc_in (List.mem_append_right _ (List.mem_append_right _ (List.mem_append_right _ (List.mem_append_left _ (List.mem_of_getElem? (i := 158) rfl))))) rfl
theorem wl_ThumbCoreModel_202 : Cond.methodLink "ThumbCoreModel" 202 y_ThumbCoreModel_perform ∈ tcb := tc_in (List.mem_append_right _ (List.mem_append_right _ (List.mem_append_right _ (List.mem_append_left _ (List.mem_of_getElem? (i := 162) rfl))))) rfl
theorem wl_ThumbCoreModel_128 : Cond.methodLink "ThumbCoreModel" 128 y_ThumbCoreModel_field ∈ tcb := tc_in (List.mem_append_right _ (List.mem_append_right _ (List.mem_append_right _ (List.mem_append_left _ (List.mem_of_getElem? (i := 166) rfl))))) rfl
theorem wl_ThumbCoreModel_135 : Cond.methodLink "ThumbCoreModel" 135 y_ThumbCoreModel_moved ∈ tcb := tc_in (List.mem_append_right _ (List.mem_append_right _ (List.mem_append_right _ (List.mem_append_left _ (List.mem_of_getElem? (i := 170) rfl))))) rfl
theorem wl_ThumbCoreModel_93 : Cond.methodLink "ThumbCoreModel" 93 y_ThumbCoreModel_shown ∈ tcb := tc_in (List.mem_append_right _ (List.mem_append_right _ (List.mem_append_right _ (List.mem_append_left _ (List.mem_of_getElem? (i := 174) rfl))))) rfl
theorem wk_ThumbCoreModel_91 : Cond.constantLong "ThumbCoreModel" 91 (4294967295) ∈ tcb := tc_in (List.mem_append_right _ (List.mem_append_right _ (List.mem_append_right _ (List.mem_append_left _ (List.mem_of_getElem? (i := 178) rfl))))) rfl
theorem wl_ThumbCoreModel_171 : Cond.methodLink "ThumbCoreModel" 171 y_ThumbCoreModel_threes ∈ tcb := tc_in (List.mem_append_right _ (List.mem_append_right _ (List.mem_append_right _ (List.mem_append_left _ (List.mem_of_getElem? (i := 179) rfl))))) rfl
theorem wl_ThumbCoreModel_131 : Cond.methodLink "ThumbCoreModel" 131 y_ThumbCoreModel_sum ∈ tcb := tc_in (List.mem_append_right _ (List.mem_append_right _ (List.mem_append_right _ (List.mem_append_left _ (List.mem_of_getElem? (i := 183) rfl))))) rfl
theorem wl_ThumbCoreModel_174 : Cond.methodLink "ThumbCoreModel" 174 y_ThumbCoreModel_bytes ∈ tcb := tc_in (List.mem_append_right _ (List.mem_append_right _ (List.mem_append_right _ (List.mem_append_left _ (List.mem_of_getElem? (i := 187) rfl))))) rfl
theorem wl_ThumbCoreModel_177 : Cond.methodLink "ThumbCoreModel" 177 y_ThumbCoreModel_worked ∈ tcb := tc_in (List.mem_append_right _ (List.mem_append_right _ (List.mem_append_right _ (List.mem_append_left _ (List.mem_of_getElem? (i := 191) rfl))))) rfl
theorem wl_ThumbCoreModel_180 : Cond.methodLink "ThumbCoreModel" 180 y_ThumbCoreModel_wide ∈ tcb := tc_in (List.mem_append_right _ (List.mem_append_right _ (List.mem_append_right _ (List.mem_append_left _ (List.mem_of_getElem? (i := 195) rfl))))) rfl
theorem wl_ThumbCoreModel_138 : Cond.methodLink "ThumbCoreModel" 138 y_ThumbCoreModel_put ∈ tcb := tc_in (List.mem_append_right _ (List.mem_append_right _ (List.mem_append_right _ (List.mem_append_left _ (List.mem_of_getElem? (i := 199) rfl))))) rfl
theorem wl_ThumbCoreModel_118 : Cond.methodLink "ThumbCoreModel" 118 y_ThumbCoreModel_returns ∈ tcb := tc_in (List.mem_append_right _ (List.mem_append_right _ (List.mem_append_right _ (List.mem_append_left _ (List.mem_of_getElem? (i := 203) rfl))))) rfl
theorem wl_ThumbCoreModel_141 : Cond.methodLink "ThumbCoreModel" 141 y_ThumbCoreModel_goTo ∈ tcb := tc_in (List.mem_append_right _ (List.mem_append_right _ (List.mem_append_right _ (List.mem_append_left _ (List.mem_of_getElem? (i := 207) rfl))))) rfl
theorem wl_ThumbCoreModel_122 : Cond.methodLink "ThumbCoreModel" 122 y_ThumbCoreModel_comeBack ∈ tcb := tc_in (List.mem_append_right _ (List.mem_append_right _ (List.mem_append_right _ (List.mem_append_left _ (List.mem_of_getElem? (i := 211) rfl))))) rfl
theorem wl_ThumbCoreModel_183 : Cond.methodLink "ThumbCoreModel" 183 y_ThumbCoreModel_moves ∈ tcb := tc_in (List.mem_append_right _ (List.mem_append_right _ (List.mem_append_right _ (List.mem_append_left _ (List.mem_of_getElem? (i := 215) rfl))))) rfl
theorem wl_ThumbCoreModel_186 : Cond.methodLink "ThumbCoreModel" 186 y_ThumbCoreModel_kinds ∈ tcb := tc_in (List.mem_append_right _ (List.mem_append_right _ (List.mem_append_right _ (List.mem_append_left _ (List.mem_of_getElem? (i := 219) rfl))))) rfl
theorem wk_ThumbCoreModel_151 : Cond.constant "ThumbCoreModel" 151 (65535) ∈ tcb := tc_in (List.mem_append_right _ (List.mem_append_right _ (List.mem_append_right _ (List.mem_append_left _ (List.mem_of_getElem? (i := 223) rfl))))) rfl
theorem wl_ThumbCoreModel_152 : Cond.methodLink "ThumbCoreModel" 152 y_ThumbCoreModel_push ∈ tcb := tc_in (List.mem_append_right _ (List.mem_append_right _ (List.mem_append_right _ (List.mem_append_left _ (List.mem_of_getElem? (i := 224) rfl))))) rfl
theorem wl_ThumbCoreModel_144 : Cond.methodLink "ThumbCoreModel" 144 y_ThumbCoreModel_listed ∈ tcb := tc_in (List.mem_append_right _ (List.mem_append_right _ (List.mem_append_right _ (List.mem_append_left _ (List.mem_of_getElem? (i := 228) rfl))))) rfl
theorem wl_ThumbCoreModel_147 : Cond.methodLink "ThumbCoreModel" 147 y_ThumbCoreModel_allThere ∈ tcb := tc_in (List.mem_append_right _ (List.mem_append_right _ (List.mem_append_right _ (List.mem_append_left _ (List.mem_of_getElem? (i := 232) rfl))))) rfl
theorem wk_ThumbCoreModel_155 : Cond.constant "ThumbCoreModel" 155 (46690) ∈ tcb := tc_in (List.mem_append_right _ (List.mem_append_right _ (List.mem_append_right _ (List.mem_append_left _ (List.mem_of_getElem? (i := 236) rfl))))) rfl
theorem wk_ThumbCoreModel_156 : Cond.constant "ThumbCoreModel" 156 (46706) ∈ tcb := tc_in (List.mem_append_right _ (List.mem_append_right _ (List.mem_append_right _ (List.mem_append_left _ (List.mem_of_getElem? (i := 237) rfl))))) rfl
theorem wl_ThumbCoreModel_157 : Cond.methodLink "ThumbCoreModel" 157 y_ThumbCoreModel_turned ∈ tcb := tc_in (List.mem_append_right _ (List.mem_append_right _ (List.mem_append_right _ (List.mem_append_left _ (List.mem_of_getElem? (i := 238) rfl))))) rfl
theorem wk_ThumbCoreModel_150 : Cond.constant "ThumbCoreModel" 150 (65280) ∈ tcb := tc_in (List.mem_append_right _ (List.mem_append_right _ (List.mem_append_right _ (List.mem_append_right _ (List.mem_of_getElem? (i := 1) rfl))))) rfl
theorem wl_ThumbCoreModel_160 : Cond.methodLink "ThumbCoreModel" 160 y_ThumbCoreModel_pop ∈ tcb := tc_in (List.mem_append_right _ (List.mem_append_right _ (List.mem_append_right _ (List.mem_append_right _ (List.mem_of_getElem? (i := 2) rfl))))) rfl
theorem wk_ThumbCoreModel_163 : Cond.constant "ThumbCoreModel" 163 (48944) ∈ tcb := tc_in (List.mem_append_right _ (List.mem_append_right _ (List.mem_append_right _ (List.mem_append_right _ (List.mem_of_getElem? (i := 6) rfl))))) rfl
theorem wl_ThumbCoreModel_189 : Cond.methodLink "ThumbCoreModel" 189 y_ThumbCoreModel_several ∈ tcb := tc_in (List.mem_append_right _ (List.mem_append_right _ (List.mem_append_right _ (List.mem_append_right _ (List.mem_of_getElem? (i := 7) rfl))))) rfl
theorem wl_ThumbCoreModel_193 : Cond.methodLink "ThumbCoreModel" 193 y_ThumbCoreModel_branch ∈ tcb := tc_in (List.mem_append_right _ (List.mem_append_right _ (List.mem_append_right _ (List.mem_append_right _ (List.mem_of_getElem? (i := 11) rfl))))) rfl
theorem wl_ThumbCoreModel_164 : Cond.methodLink "ThumbCoreModel" 164 y_ThumbCoreModel_meets ∈ tcb := tc_in (List.mem_append_right _ (List.mem_append_right _ (List.mem_append_right _ (List.mem_append_right _ (List.mem_of_getElem? (i := 15) rfl))))) rfl
theorem wl_ThumbCoreModel_196 : Cond.methodLink "ThumbCoreModel" 196 y_ThumbCoreModel_far ∈ tcb := tc_in (List.mem_append_right _ (List.mem_append_right _ (List.mem_append_right _ (List.mem_append_right _ (List.mem_of_getElem? (i := 19) rfl))))) rfl
theorem wk_ThumbCoreModel_170 : Cond.constant "ThumbCoreModel" 170 (49152) ∈ tcb := tc_in (List.mem_append_right _ (List.mem_append_right _ (List.mem_append_right _ (List.mem_append_right _ (List.mem_of_getElem? (i := 23) rfl))))) rfl
theorem wl_ThumbCoreModel_205 : Cond.methodLink "ThumbCoreModel" 205 y_ThumbCoreModel_fault ∈ tcb := tc_in (List.mem_append_right _ (List.mem_append_right _ (List.mem_append_right _ (List.mem_append_right _ (List.mem_of_getElem? (i := 24) rfl))))) rfl
theorem wl_ThumbCoreLaw_43 : Cond.methodLink "ThumbCoreLaw" 43 y_ThumbCoreModel_run ∈ tcb := tc_in (List.mem_append_right _ (List.mem_append_right _ (List.mem_append_right _ (List.mem_append_right _ (List.mem_of_getElem? (i := 28) rfl))))) rfl
theorem wl_ThumbCoreModel_217 : Cond.methodLink "ThumbCoreModel" 217 y_ThumbCoreModel_step ∈ tcb := tc_in (List.mem_append_right _ (List.mem_append_right _ (List.mem_append_right _ (List.mem_append_right _ (List.mem_of_getElem? (i := 32) rfl))))) rfl
theorem wl_ThumbCoreLaw_47 : Cond.methodLink "ThumbCoreLaw" 47 y_ThumbCoreModel_register ∈ tcb := tc_in (List.mem_append_right _ (List.mem_append_right _ (List.mem_append_right _ (List.mem_append_right _ (List.mem_of_getElem? (i := 33) rfl))))) rfl
theorem wl_ThumbCoreLaw_52 : Cond.methodLink "ThumbCoreLaw" 52 y_ThumbCoreModel_set ∈ tcb := tc_in (List.mem_append_right _ (List.mem_append_right _ (List.mem_append_right _ (List.mem_append_right _ (List.mem_of_getElem? (i := 37) rfl))))) rfl
theorem wl_ThumbCoreLaw_60 : Cond.methodLink "ThumbCoreLaw" 60 y_ThumbCoreModel_about ∈ tcb := tc_in (List.mem_append_right _ (List.mem_append_right _ (List.mem_append_right _ (List.mem_append_right _ (List.mem_of_getElem? (i := 41) rfl))))) rfl
theorem wl_ThumbCoreLaw_65 : Cond.methodLink "ThumbCoreLaw" 65 y_ThumbCoreModel_pend ∈ tcb := tc_in (List.mem_append_right _ (List.mem_append_right _ (List.mem_append_right _ (List.mem_append_right _ (List.mem_of_getElem? (i := 45) rfl))))) rfl
theorem wl_ThumbCoreModel_220 : Cond.methodLink "ThumbCoreModel" 220 y_ThumbCoreModel_canWait ∈ tcb := tc_in (List.mem_append_right _ (List.mem_append_right _ (List.mem_append_right _ (List.mem_append_right _ (List.mem_of_getElem? (i := 49) rfl))))) rfl
theorem wl_ThumbCoreLaw_69 : Cond.methodLink "ThumbCoreLaw" 69 y_ThumbCoreModel_exception ∈ tcb := tc_in (List.mem_append_right _ (List.mem_append_right _ (List.mem_append_right _ (List.mem_append_right _ (List.mem_of_getElem? (i := 52) rfl))))) rfl
theorem wl_ThumbCoreLaw_73 : Cond.methodLink "ThumbCoreLaw" 73 y_ThumbCoreModel_priority ∈ tcb := tc_in (List.mem_append_right _ (List.mem_append_right _ (List.mem_append_right _ (List.mem_append_right _ (List.mem_of_getElem? (i := 56) rfl))))) rfl
theorem wl_ThumbCoreLaw_78 : Cond.methodLink "ThumbCoreLaw" 78 y_ThumbCoreModel_tick ∈ tcb := tc_in (List.mem_append_right _ (List.mem_append_right _ (List.mem_append_right _ (List.mem_append_right _ (List.mem_of_getElem? (i := 60) rfl))))) rfl
theorem tc_good (w : Cond) (h : w ∈ tcb) : goodWord w = true := (List.mem_filter.mp h).2
