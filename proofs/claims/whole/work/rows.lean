section
-- ===== PART A: goes FIRST, ahead of the names: the tables' words, and 'selects' of the private methods out of them =====
/-- a private method of a class that the tables say can be made, by its rows of tables_1 -/
def lw_okq (q : MethodName × Nat) : Prop := (q.1.cls ≠ "java/lang/invoke/MethodHandle" ∧ q.1.cls ≠ "java/lang/invoke/VarHandle") ∧ Cond.instantiable q.1.cls q.2 ∈ tables_1 ∧ Cond.privateMethod q.1 ∈ tables_1 ∧ Cond.instanceMethod q.1 ∈ tables_1
theorem lw_p0 : lw_okq (⟨"EndorsedLedger$Result", "clear", "()V"⟩, 2) := ⟨⟨by decide +kernel, by decide +kernel⟩, List.mem_of_getElem? (i := 55) (by decide +kernel), List.mem_of_getElem? (i := 61) (by decide +kernel), List.mem_of_getElem? (i := 62) (by decide +kernel)⟩
theorem lw_p1 : lw_okq (⟨"EndorsedLedger$Program", "addInstruction", "(II)Z"⟩, 6) := ⟨⟨by decide +kernel, by decide +kernel⟩, List.mem_of_getElem? (i := 91) (by decide +kernel), List.mem_of_getElem? (i := 279) (by decide +kernel), List.mem_of_getElem? (i := 280) (by decide +kernel)⟩
theorem lw_p2 : lw_okq (⟨"EndorsedLedger$Program", "addLeaf", "(I)Z"⟩, 6) := ⟨⟨by decide +kernel, by decide +kernel⟩, List.mem_of_getElem? (i := 91) (by decide +kernel), List.mem_of_getElem? (i := 287) (by decide +kernel), List.mem_of_getElem? (i := 288) (by decide +kernel)⟩
theorem lw_p3 : lw_okq (⟨"EndorsedLedger$Program", "putOnTop", "(I)V"⟩, 6) := ⟨⟨by decide +kernel, by decide +kernel⟩, List.mem_of_getElem? (i := 91) (by decide +kernel), List.mem_of_getElem? (i := 291) (by decide +kernel), List.mem_of_getElem? (i := 292) (by decide +kernel)⟩
theorem lw_p4 : lw_okq (⟨"EndorsedLedger$Program", "joinRules", "(II)Z"⟩, 6) := ⟨⟨by decide +kernel, by decide +kernel⟩, List.mem_of_getElem? (i := 91) (by decide +kernel), List.mem_of_getElem? (i := 295) (by decide +kernel), List.mem_of_getElem? (i := 296) (by decide +kernel)⟩
theorem lw_p5 : lw_okq (⟨"EndorsedLedger$Program", "countMetAmongTop", "(II)I"⟩, 6) := ⟨⟨by decide +kernel, by decide +kernel⟩, List.mem_of_getElem? (i := 91) (by decide +kernel), List.mem_of_getElem? (i := 299) (by decide +kernel), List.mem_of_getElem? (i := 300) (by decide +kernel)⟩
theorem lw_p6 : lw_okq (⟨"EndorsedLedger", "isUpPeer", "(I)Z"⟩, 12) := ⟨⟨by decide +kernel, by decide +kernel⟩, List.mem_of_getElem? (i := 15) (by decide +kernel), List.mem_of_getElem? (i := 311) (by decide +kernel), List.mem_of_getElem? (i := 312) (by decide +kernel)⟩
theorem lw_p7 : lw_okq (⟨"EndorsedLedger$Transaction", "isEndorsedBy", "(I)Z"⟩, 5) := ⟨⟨by decide +kernel, by decide +kernel⟩, List.mem_of_getElem? (i := 118) (by decide +kernel), List.mem_of_getElem? (i := 315) (by decide +kernel), List.mem_of_getElem? (i := 316) (by decide +kernel)⟩
theorem lw_p8 : lw_okq (⟨"EndorsedLedger$Run", "succeeds", "(LEndorsedLedger$Program;ILEndorsedLedger$WorldState;)Z"⟩, 5) := ⟨⟨by decide +kernel, by decide +kernel⟩, List.mem_of_getElem? (i := 49) (by decide +kernel), List.mem_of_getElem? (i := 319) (by decide +kernel), List.mem_of_getElem? (i := 320) (by decide +kernel)⟩
theorem lw_p9 : lw_okq (⟨"EndorsedLedger$Run", "step", "(IIILEndorsedLedger$WorldState;)V"⟩, 5) := ⟨⟨by decide +kernel, by decide +kernel⟩, List.mem_of_getElem? (i := 49) (by decide +kernel), List.mem_of_getElem? (i := 324) (by decide +kernel), List.mem_of_getElem? (i := 325) (by decide +kernel)⟩
theorem lw_p10 : lw_okq (⟨"EndorsedLedger$Run", "push", "(I)V"⟩, 5) := ⟨⟨by decide +kernel, by decide +kernel⟩, List.mem_of_getElem? (i := 49) (by decide +kernel), List.mem_of_getElem? (i := 328) (by decide +kernel), List.mem_of_getElem? (i := 329) (by decide +kernel)⟩
theorem lw_p11 : lw_okq (⟨"EndorsedLedger$Run", "calculate", "(I)V"⟩, 5) := ⟨⟨by decide +kernel, by decide +kernel⟩, List.mem_of_getElem? (i := 49) (by decide +kernel), List.mem_of_getElem? (i := 332) (by decide +kernel), List.mem_of_getElem? (i := 333) (by decide +kernel)⟩
theorem lw_p12 : lw_okq (⟨"EndorsedLedger$Run", "pop", "()I"⟩, 5) := ⟨⟨by decide +kernel, by decide +kernel⟩, List.mem_of_getElem? (i := 49) (by decide +kernel), List.mem_of_getElem? (i := 336) (by decide +kernel), List.mem_of_getElem? (i := 337) (by decide +kernel)⟩
theorem lw_p13 : lw_okq (⟨"EndorsedLedger$Run", "duplicateTop", "()V"⟩, 5) := ⟨⟨by decide +kernel, by decide +kernel⟩, List.mem_of_getElem? (i := 49) (by decide +kernel), List.mem_of_getElem? (i := 340) (by decide +kernel), List.mem_of_getElem? (i := 341) (by decide +kernel)⟩
theorem lw_p14 : lw_okq (⟨"EndorsedLedger$Run", "touchState", "(ILEndorsedLedger$WorldState;)V"⟩, 5) := ⟨⟨by decide +kernel, by decide +kernel⟩, List.mem_of_getElem? (i := 49) (by decide +kernel), List.mem_of_getElem? (i := 344) (by decide +kernel), List.mem_of_getElem? (i := 345) (by decide +kernel)⟩
theorem lw_p15 : lw_okq (⟨"EndorsedLedger$Run", "readKey", "(LEndorsedLedger$WorldState;)V"⟩, 5) := ⟨⟨by decide +kernel, by decide +kernel⟩, List.mem_of_getElem? (i := 49) (by decide +kernel), List.mem_of_getElem? (i := 348) (by decide +kernel), List.mem_of_getElem? (i := 349) (by decide +kernel)⟩
def lw_privs_1 : List (MethodName × Nat) := [(⟨"EndorsedLedger$Result", "clear", "()V"⟩, 2), (⟨"EndorsedLedger$Program", "addInstruction", "(II)Z"⟩, 6), (⟨"EndorsedLedger$Program", "addLeaf", "(I)Z"⟩, 6), (⟨"EndorsedLedger$Program", "putOnTop", "(I)V"⟩, 6), (⟨"EndorsedLedger$Program", "joinRules", "(II)Z"⟩, 6), (⟨"EndorsedLedger$Program", "countMetAmongTop", "(II)I"⟩, 6), (⟨"EndorsedLedger", "isUpPeer", "(I)Z"⟩, 12), (⟨"EndorsedLedger$Transaction", "isEndorsedBy", "(I)Z"⟩, 5), (⟨"EndorsedLedger$Run", "succeeds", "(LEndorsedLedger$Program;ILEndorsedLedger$WorldState;)Z"⟩, 5), (⟨"EndorsedLedger$Run", "step", "(IIILEndorsedLedger$WorldState;)V"⟩, 5), (⟨"EndorsedLedger$Run", "push", "(I)V"⟩, 5), (⟨"EndorsedLedger$Run", "calculate", "(I)V"⟩, 5), (⟨"EndorsedLedger$Run", "pop", "()I"⟩, 5), (⟨"EndorsedLedger$Run", "duplicateTop", "()V"⟩, 5), (⟨"EndorsedLedger$Run", "touchState", "(ILEndorsedLedger$WorldState;)V"⟩, 5), (⟨"EndorsedLedger$Run", "readKey", "(LEndorsedLedger$WorldState;)V"⟩, 5)]
theorem lw_r1 : ∀ q ∈ lw_privs_1, lw_okq q := List.forall_mem_cons.mpr ⟨lw_p0, List.forall_mem_cons.mpr ⟨lw_p1, List.forall_mem_cons.mpr ⟨lw_p2, List.forall_mem_cons.mpr ⟨lw_p3, List.forall_mem_cons.mpr ⟨lw_p4, List.forall_mem_cons.mpr ⟨lw_p5, List.forall_mem_cons.mpr ⟨lw_p6, List.forall_mem_cons.mpr ⟨lw_p7, List.forall_mem_cons.mpr ⟨lw_p8, List.forall_mem_cons.mpr ⟨lw_p9, List.forall_mem_cons.mpr ⟨lw_p10, List.forall_mem_cons.mpr ⟨lw_p11, List.forall_mem_cons.mpr ⟨lw_p12, List.forall_mem_cons.mpr ⟨lw_p13, List.forall_mem_cons.mpr ⟨lw_p14, List.forall_mem_cons.mpr ⟨lw_p15, fun _ h => absurd h List.not_mem_nil⟩⟩⟩⟩⟩⟩⟩⟩⟩⟩⟩⟩⟩⟩⟩⟩
theorem lw_p16 : lw_okq (⟨"EndorsedLedger$Run", "popKey", "()I"⟩, 5) := ⟨⟨by decide +kernel, by decide +kernel⟩, List.mem_of_getElem? (i := 49) (by decide +kernel), List.mem_of_getElem? (i := 352) (by decide +kernel), List.mem_of_getElem? (i := 353) (by decide +kernel)⟩
theorem lw_p17 : lw_okq (⟨"EndorsedLedger$Result", "read", "(III)V"⟩, 2) := ⟨⟨by decide +kernel, by decide +kernel⟩, List.mem_of_getElem? (i := 55) (by decide +kernel), List.mem_of_getElem? (i := 356) (by decide +kernel), List.mem_of_getElem? (i := 357) (by decide +kernel)⟩
theorem lw_p18 : lw_okq (⟨"EndorsedLedger$Result", "write", "(III)V"⟩, 2) := ⟨⟨by decide +kernel, by decide +kernel⟩, List.mem_of_getElem? (i := 55) (by decide +kernel), List.mem_of_getElem? (i := 360) (by decide +kernel), List.mem_of_getElem? (i := 361) (by decide +kernel)⟩
theorem lw_p19 : lw_okq (⟨"EndorsedLedger$Run", "addUp", "(LEndorsedLedger$WorldState;)V"⟩, 5) := ⟨⟨by decide +kernel, by decide +kernel⟩, List.mem_of_getElem? (i := 49) (by decide +kernel), List.mem_of_getElem? (i := 364) (by decide +kernel), List.mem_of_getElem? (i := 365) (by decide +kernel)⟩
theorem lw_p20 : lw_okq (⟨"EndorsedLedger$Transaction", "hasResult", "()Z"⟩, 5) := ⟨⟨by decide +kernel, by decide +kernel⟩, List.mem_of_getElem? (i := 118) (by decide +kernel), List.mem_of_getElem? (i := 368) (by decide +kernel), List.mem_of_getElem? (i := 369) (by decide +kernel)⟩
theorem lw_p21 : lw_okq (⟨"EndorsedLedger$Result", "isSame", "(LEndorsedLedger$Result;)Z"⟩, 2) := ⟨⟨by decide +kernel, by decide +kernel⟩, List.mem_of_getElem? (i := 55) (by decide +kernel), List.mem_of_getElem? (i := 372) (by decide +kernel), List.mem_of_getElem? (i := 373) (by decide +kernel)⟩
theorem lw_p22 : lw_okq (⟨"EndorsedLedger$Result", "become", "(LEndorsedLedger$Result;)V"⟩, 2) := ⟨⟨by decide +kernel, by decide +kernel⟩, List.mem_of_getElem? (i := 55) (by decide +kernel), List.mem_of_getElem? (i := 376) (by decide +kernel), List.mem_of_getElem? (i := 377) (by decide +kernel)⟩
theorem lw_p23 : lw_okq (⟨"EndorsedLedger", "supporters", "(I)I"⟩, 12) := ⟨⟨by decide +kernel, by decide +kernel⟩, List.mem_of_getElem? (i := 15) (by decide +kernel), List.mem_of_getElem? (i := 391) (by decide +kernel), List.mem_of_getElem? (i := 392) (by decide +kernel)⟩
theorem lw_p24 : lw_okq (⟨"EndorsedLedger", "isNewer", "(LEndorsedLedger$BlockList;LEndorsedLedger$BlockList;)Z"⟩, 12) := ⟨⟨by decide +kernel, by decide +kernel⟩, List.mem_of_getElem? (i := 15) (by decide +kernel), List.mem_of_getElem? (i := 395) (by decide +kernel), List.mem_of_getElem? (i := 396) (by decide +kernel)⟩
theorem lw_p25 : lw_okq (⟨"EndorsedLedger", "lastTerm", "(LEndorsedLedger$BlockList;)I"⟩, 12) := ⟨⟨by decide +kernel, by decide +kernel⟩, List.mem_of_getElem? (i := 15) (by decide +kernel), List.mem_of_getElem? (i := 399) (by decide +kernel), List.mem_of_getElem? (i := 400) (by decide +kernel)⟩
theorem lw_p26 : lw_okq (⟨"EndorsedLedger", "greatestTerm", "()I"⟩, 12) := ⟨⟨by decide +kernel, by decide +kernel⟩, List.mem_of_getElem? (i := 15) (by decide +kernel), List.mem_of_getElem? (i := 403) (by decide +kernel), List.mem_of_getElem? (i := 404) (by decide +kernel)⟩
theorem lw_p27 : lw_okq (⟨"EndorsedLedger", "isLeader", "(I)Z"⟩, 12) := ⟨⟨by decide +kernel, by decide +kernel⟩, List.mem_of_getElem? (i := 15) (by decide +kernel), List.mem_of_getElem? (i := 414) (by decide +kernel), List.mem_of_getElem? (i := 415) (by decide +kernel)⟩
theorem lw_p28 : lw_okq (⟨"EndorsedLedger$Block", "fill", "([III)V"⟩, 3) := ⟨⟨by decide +kernel, by decide +kernel⟩, List.mem_of_getElem? (i := 146) (by decide +kernel), List.mem_of_getElem? (i := 421) (by decide +kernel), List.mem_of_getElem? (i := 422) (by decide +kernel)⟩
theorem lw_p29 : lw_okq (⟨"EndorsedLedger", "dropFirstWaiting", "(I)V"⟩, 12) := ⟨⟨by decide +kernel, by decide +kernel⟩, List.mem_of_getElem? (i := 15) (by decide +kernel), List.mem_of_getElem? (i := 426) (by decide +kernel), List.mem_of_getElem? (i := 427) (by decide +kernel)⟩
theorem lw_p30 : lw_okq (⟨"EndorsedLedger$BlockList", "add", "(I)V"⟩, 2) := ⟨⟨by decide +kernel, by decide +kernel⟩, List.mem_of_getElem? (i := 31) (by decide +kernel), List.mem_of_getElem? (i := 431) (by decide +kernel), List.mem_of_getElem? (i := 432) (by decide +kernel)⟩
theorem lw_p31 : lw_okq (⟨"EndorsedLedger$BlockList", "sameAtBeginning", "(LEndorsedLedger$BlockList;)I"⟩, 2) := ⟨⟨by decide +kernel, by decide +kernel⟩, List.mem_of_getElem? (i := 31) (by decide +kernel), List.mem_of_getElem? (i := 442) (by decide +kernel), List.mem_of_getElem? (i := 443) (by decide +kernel)⟩
def lw_privs_2 : List (MethodName × Nat) := [(⟨"EndorsedLedger$Run", "popKey", "()I"⟩, 5), (⟨"EndorsedLedger$Result", "read", "(III)V"⟩, 2), (⟨"EndorsedLedger$Result", "write", "(III)V"⟩, 2), (⟨"EndorsedLedger$Run", "addUp", "(LEndorsedLedger$WorldState;)V"⟩, 5), (⟨"EndorsedLedger$Transaction", "hasResult", "()Z"⟩, 5), (⟨"EndorsedLedger$Result", "isSame", "(LEndorsedLedger$Result;)Z"⟩, 2), (⟨"EndorsedLedger$Result", "become", "(LEndorsedLedger$Result;)V"⟩, 2), (⟨"EndorsedLedger", "supporters", "(I)I"⟩, 12), (⟨"EndorsedLedger", "isNewer", "(LEndorsedLedger$BlockList;LEndorsedLedger$BlockList;)Z"⟩, 12), (⟨"EndorsedLedger", "lastTerm", "(LEndorsedLedger$BlockList;)I"⟩, 12), (⟨"EndorsedLedger", "greatestTerm", "()I"⟩, 12), (⟨"EndorsedLedger", "isLeader", "(I)Z"⟩, 12), (⟨"EndorsedLedger$Block", "fill", "([III)V"⟩, 3), (⟨"EndorsedLedger", "dropFirstWaiting", "(I)V"⟩, 12), (⟨"EndorsedLedger$BlockList", "add", "(I)V"⟩, 2), (⟨"EndorsedLedger$BlockList", "sameAtBeginning", "(LEndorsedLedger$BlockList;)I"⟩, 2)]
theorem lw_r2 : ∀ q ∈ lw_privs_2, lw_okq q := List.forall_mem_cons.mpr ⟨lw_p16, List.forall_mem_cons.mpr ⟨lw_p17, List.forall_mem_cons.mpr ⟨lw_p18, List.forall_mem_cons.mpr ⟨lw_p19, List.forall_mem_cons.mpr ⟨lw_p20, List.forall_mem_cons.mpr ⟨lw_p21, List.forall_mem_cons.mpr ⟨lw_p22, List.forall_mem_cons.mpr ⟨lw_p23, List.forall_mem_cons.mpr ⟨lw_p24, List.forall_mem_cons.mpr ⟨lw_p25, List.forall_mem_cons.mpr ⟨lw_p26, List.forall_mem_cons.mpr ⟨lw_p27, List.forall_mem_cons.mpr ⟨lw_p28, List.forall_mem_cons.mpr ⟨lw_p29, List.forall_mem_cons.mpr ⟨lw_p30, List.forall_mem_cons.mpr ⟨lw_p31, fun _ h => absurd h List.not_mem_nil⟩⟩⟩⟩⟩⟩⟩⟩⟩⟩⟩⟩⟩⟩⟩⟩
theorem lw_p32 : lw_okq (⟨"EndorsedLedger", "agreedCount", "(I)I"⟩, 12) := ⟨⟨by decide +kernel, by decide +kernel⟩, List.mem_of_getElem? (i := 15) (by decide +kernel), List.mem_of_getElem? (i := 447) (by decide +kernel), List.mem_of_getElem? (i := 448) (by decide +kernel)⟩
theorem lw_p33 : lw_okq (⟨"EndorsedLedger", "isHeldByAnother", "(III)Z"⟩, 12) := ⟨⟨by decide +kernel, by decide +kernel⟩, List.mem_of_getElem? (i := 15) (by decide +kernel), List.mem_of_getElem? (i := 451) (by decide +kernel), List.mem_of_getElem? (i := 452) (by decide +kernel)⟩
theorem lw_p34 : lw_okq (⟨"EndorsedLedger$BlockList", "becomeFirst", "(LEndorsedLedger$BlockList;I)V"⟩, 2) := ⟨⟨by decide +kernel, by decide +kernel⟩, List.mem_of_getElem? (i := 31) (by decide +kernel), List.mem_of_getElem? (i := 455) (by decide +kernel), List.mem_of_getElem? (i := 456) (by decide +kernel)⟩
theorem lw_p35 : lw_okq (⟨"EndorsedLedger", "powerOrderer", "(IZ)I"⟩, 12) := ⟨⟨by decide +kernel, by decide +kernel⟩, List.mem_of_getElem? (i := 15) (by decide +kernel), List.mem_of_getElem? (i := 464) (by decide +kernel), List.mem_of_getElem? (i := 465) (by decide +kernel)⟩
theorem lw_p36 : lw_okq (⟨"EndorsedLedger", "powerPeer", "(LEndorsedLedger$Peer;Z)I"⟩, 12) := ⟨⟨by decide +kernel, by decide +kernel⟩, List.mem_of_getElem? (i := 15) (by decide +kernel), List.mem_of_getElem? (i := 468) (by decide +kernel), List.mem_of_getElem? (i := 469) (by decide +kernel)⟩
theorem lw_p37 : lw_okq (⟨"EndorsedLedger", "comeBack", "(LEndorsedLedger$Peer;)I"⟩, 12) := ⟨⟨by decide +kernel, by decide +kernel⟩, List.mem_of_getElem? (i := 15) (by decide +kernel), List.mem_of_getElem? (i := 472) (by decide +kernel), List.mem_of_getElem? (i := 473) (by decide +kernel)⟩
theorem lw_p38 : lw_okq (⟨"EndorsedLedger$WorldState", "become", "(LEndorsedLedger$WorldState;)V"⟩, 3) := ⟨⟨by decide +kernel, by decide +kernel⟩, List.mem_of_getElem? (i := 190) (by decide +kernel), List.mem_of_getElem? (i := 476) (by decide +kernel), List.mem_of_getElem? (i := 477) (by decide +kernel)⟩
theorem lw_p39 : lw_okq (⟨"EndorsedLedger", "applyNext", "(LEndorsedLedger$Peer;)I"⟩, 12) := ⟨⟨by decide +kernel, by decide +kernel⟩, List.mem_of_getElem? (i := 15) (by decide +kernel), List.mem_of_getElem? (i := 481) (by decide +kernel), List.mem_of_getElem? (i := 482) (by decide +kernel)⟩
theorem lw_p40 : lw_okq (⟨"EndorsedLedger", "agreedBlock", "(I)LEndorsedLedger$Block;"⟩, 12) := ⟨⟨by decide +kernel, by decide +kernel⟩, List.mem_of_getElem? (i := 15) (by decide +kernel), List.mem_of_getElem? (i := 485) (by decide +kernel), List.mem_of_getElem? (i := 486) (by decide +kernel)⟩
theorem lw_p41 : lw_okq (⟨"EndorsedLedger", "judge", "(LEndorsedLedger$WorldState;II)I"⟩, 12) := ⟨⟨by decide +kernel, by decide +kernel⟩, List.mem_of_getElem? (i := 15) (by decide +kernel), List.mem_of_getElem? (i := 489) (by decide +kernel), List.mem_of_getElem? (i := 490) (by decide +kernel)⟩
theorem lw_p42 : lw_okq (⟨"EndorsedLedger", "standsEarlier", "(III)Z"⟩, 12) := ⟨⟨by decide +kernel, by decide +kernel⟩, List.mem_of_getElem? (i := 15) (by decide +kernel), List.mem_of_getElem? (i := 493) (by decide +kernel), List.mem_of_getElem? (i := 494) (by decide +kernel)⟩
theorem lw_p43 : lw_okq (⟨"EndorsedLedger$Block", "hasAmongFirst", "(II)Z"⟩, 3) := ⟨⟨by decide +kernel, by decide +kernel⟩, List.mem_of_getElem? (i := 146) (by decide +kernel), List.mem_of_getElem? (i := 497) (by decide +kernel), List.mem_of_getElem? (i := 498) (by decide +kernel)⟩
theorem lw_p44 : lw_okq (⟨"EndorsedLedger$Program", "isMetBy", "(I)Z"⟩, 6) := ⟨⟨by decide +kernel, by decide +kernel⟩, List.mem_of_getElem? (i := 91) (by decide +kernel), List.mem_of_getElem? (i := 501) (by decide +kernel), List.mem_of_getElem? (i := 502) (by decide +kernel)⟩
theorem lw_p45 : lw_okq (⟨"EndorsedLedger$Result", "readsHold", "(LEndorsedLedger$WorldState;)Z"⟩, 2) := ⟨⟨by decide +kernel, by decide +kernel⟩, List.mem_of_getElem? (i := 55) (by decide +kernel), List.mem_of_getElem? (i := 505) (by decide +kernel), List.mem_of_getElem? (i := 506) (by decide +kernel)⟩
theorem lw_p46 : lw_okq (⟨"EndorsedLedger$Result", "versionsHold", "(ILEndorsedLedger$WorldState;)Z"⟩, 2) := ⟨⟨by decide +kernel, by decide +kernel⟩, List.mem_of_getElem? (i := 55) (by decide +kernel), List.mem_of_getElem? (i := 509) (by decide +kernel), List.mem_of_getElem? (i := 510) (by decide +kernel)⟩
theorem lw_p47 : lw_okq (⟨"EndorsedLedger$Result", "rangesHold", "(LEndorsedLedger$WorldState;)Z"⟩, 2) := ⟨⟨by decide +kernel, by decide +kernel⟩, List.mem_of_getElem? (i := 55) (by decide +kernel), List.mem_of_getElem? (i := 513) (by decide +kernel), List.mem_of_getElem? (i := 514) (by decide +kernel)⟩
def lw_privs_3 : List (MethodName × Nat) := [(⟨"EndorsedLedger", "agreedCount", "(I)I"⟩, 12), (⟨"EndorsedLedger", "isHeldByAnother", "(III)Z"⟩, 12), (⟨"EndorsedLedger$BlockList", "becomeFirst", "(LEndorsedLedger$BlockList;I)V"⟩, 2), (⟨"EndorsedLedger", "powerOrderer", "(IZ)I"⟩, 12), (⟨"EndorsedLedger", "powerPeer", "(LEndorsedLedger$Peer;Z)I"⟩, 12), (⟨"EndorsedLedger", "comeBack", "(LEndorsedLedger$Peer;)I"⟩, 12), (⟨"EndorsedLedger$WorldState", "become", "(LEndorsedLedger$WorldState;)V"⟩, 3), (⟨"EndorsedLedger", "applyNext", "(LEndorsedLedger$Peer;)I"⟩, 12), (⟨"EndorsedLedger", "agreedBlock", "(I)LEndorsedLedger$Block;"⟩, 12), (⟨"EndorsedLedger", "judge", "(LEndorsedLedger$WorldState;II)I"⟩, 12), (⟨"EndorsedLedger", "standsEarlier", "(III)Z"⟩, 12), (⟨"EndorsedLedger$Block", "hasAmongFirst", "(II)Z"⟩, 3), (⟨"EndorsedLedger$Program", "isMetBy", "(I)Z"⟩, 6), (⟨"EndorsedLedger$Result", "readsHold", "(LEndorsedLedger$WorldState;)Z"⟩, 2), (⟨"EndorsedLedger$Result", "versionsHold", "(ILEndorsedLedger$WorldState;)Z"⟩, 2), (⟨"EndorsedLedger$Result", "rangesHold", "(LEndorsedLedger$WorldState;)Z"⟩, 2)]
theorem lw_r3 : ∀ q ∈ lw_privs_3, lw_okq q := List.forall_mem_cons.mpr ⟨lw_p32, List.forall_mem_cons.mpr ⟨lw_p33, List.forall_mem_cons.mpr ⟨lw_p34, List.forall_mem_cons.mpr ⟨lw_p35, List.forall_mem_cons.mpr ⟨lw_p36, List.forall_mem_cons.mpr ⟨lw_p37, List.forall_mem_cons.mpr ⟨lw_p38, List.forall_mem_cons.mpr ⟨lw_p39, List.forall_mem_cons.mpr ⟨lw_p40, List.forall_mem_cons.mpr ⟨lw_p41, List.forall_mem_cons.mpr ⟨lw_p42, List.forall_mem_cons.mpr ⟨lw_p43, List.forall_mem_cons.mpr ⟨lw_p44, List.forall_mem_cons.mpr ⟨lw_p45, List.forall_mem_cons.mpr ⟨lw_p46, List.forall_mem_cons.mpr ⟨lw_p47, fun _ h => absurd h List.not_mem_nil⟩⟩⟩⟩⟩⟩⟩⟩⟩⟩⟩⟩⟩⟩⟩⟩
theorem lw_p48 : lw_okq (⟨"EndorsedLedger$Result", "writeTo", "(LEndorsedLedger$WorldState;I)V"⟩, 2) := ⟨⟨by decide +kernel, by decide +kernel⟩, List.mem_of_getElem? (i := 55) (by decide +kernel), List.mem_of_getElem? (i := 517) (by decide +kernel), List.mem_of_getElem? (i := 518) (by decide +kernel)⟩
theorem lw_p49 : lw_okq (⟨"EndorsedLedger$Peer", "finishBlock", "()V"⟩, 5) := ⟨⟨by decide +kernel, by decide +kernel⟩, List.mem_of_getElem? (i := 184) (by decide +kernel), List.mem_of_getElem? (i := 521) (by decide +kernel), List.mem_of_getElem? (i := 522) (by decide +kernel)⟩
theorem lw_p50 : lw_okq (⟨"EndorsedLedger", "canStoreNext", "(I)Z"⟩, 12) := ⟨⟨by decide +kernel, by decide +kernel⟩, List.mem_of_getElem? (i := 15) (by decide +kernel), List.mem_of_getElem? (i := 530) (by decide +kernel), List.mem_of_getElem? (i := 531) (by decide +kernel)⟩
theorem lw_p51 : lw_okq (⟨"EndorsedLedger$Result", "readCount", "()I"⟩, 2) := ⟨⟨by decide +kernel, by decide +kernel⟩, List.mem_of_getElem? (i := 55) (by decide +kernel), List.mem_of_getElem? (i := 542) (by decide +kernel), List.mem_of_getElem? (i := 543) (by decide +kernel)⟩
theorem lw_p52 : lw_okq (⟨"EndorsedLedger$Result", "countOtherThan", "(II)I"⟩, 2) := ⟨⟨by decide +kernel, by decide +kernel⟩, List.mem_of_getElem? (i := 55) (by decide +kernel), List.mem_of_getElem? (i := 546) (by decide +kernel), List.mem_of_getElem? (i := 547) (by decide +kernel)⟩
theorem lw_p53 : lw_okq (⟨"EndorsedLedger$Result", "writtenCount", "()I"⟩, 2) := ⟨⟨by decide +kernel, by decide +kernel⟩, List.mem_of_getElem? (i := 55) (by decide +kernel), List.mem_of_getElem? (i := 550) (by decide +kernel), List.mem_of_getElem? (i := 551) (by decide +kernel)⟩
theorem lw_p54 : lw_okq (⟨"EndorsedLedger$Block", "transactionAt", "(I)I"⟩, 3) := ⟨⟨by decide +kernel, by decide +kernel⟩, List.mem_of_getElem? (i := 146) (by decide +kernel), List.mem_of_getElem? (i := 570) (by decide +kernel), List.mem_of_getElem? (i := 571) (by decide +kernel)⟩
theorem lw_p55 : lw_okq (⟨"EndorsedLedger", "nodesUp", "()I"⟩, 12) := ⟨⟨by decide +kernel, by decide +kernel⟩, List.mem_of_getElem? (i := 15) (by decide +kernel), List.mem_of_getElem? (i := 583) (by decide +kernel), List.mem_of_getElem? (i := 584) (by decide +kernel)⟩
theorem lw_p56 : lw_okq (⟨"EndorsedLedgerModel", "there", "(I)Z"⟩, 45) := ⟨⟨by decide +kernel, by decide +kernel⟩, List.mem_of_getElem? (i := 587) (by decide +kernel), List.mem_of_getElem? (i := 749) (by decide +kernel), List.mem_of_getElem? (i := 750) (by decide +kernel)⟩
theorem lw_p57 : lw_okq (⟨"EndorsedLedgerModel", "upright", "(I)Z"⟩, 45) := ⟨⟨by decide +kernel, by decide +kernel⟩, List.mem_of_getElem? (i := 587) (by decide +kernel), List.mem_of_getElem? (i := 753) (by decide +kernel), List.mem_of_getElem? (i := 754) (by decide +kernel)⟩
theorem lw_p58 : lw_okq (⟨"EndorsedLedgerModel", "go", "(I)V"⟩, 45) := ⟨⟨by decide +kernel, by decide +kernel⟩, List.mem_of_getElem? (i := 587) (by decide +kernel), List.mem_of_getElem? (i := 757) (by decide +kernel), List.mem_of_getElem? (i := 758) (by decide +kernel)⟩
theorem lw_p59 : lw_okq (⟨"EndorsedLedgerModel", "flagOf", "(I)I"⟩, 45) := ⟨⟨by decide +kernel, by decide +kernel⟩, List.mem_of_getElem? (i := 587) (by decide +kernel), List.mem_of_getElem? (i := 761) (by decide +kernel), List.mem_of_getElem? (i := 762) (by decide +kernel)⟩
theorem lw_p60 : lw_okq (⟨"EndorsedLedgerModel", "fulfils", "(II)Z"⟩, 45) := ⟨⟨by decide +kernel, by decide +kernel⟩, List.mem_of_getElem? (i := 587) (by decide +kernel), List.mem_of_getElem? (i := 765) (by decide +kernel), List.mem_of_getElem? (i := 766) (by decide +kernel)⟩
theorem lw_p61 : lw_okq (⟨"EndorsedLedgerModel", "run", "(II)V"⟩, 45) := ⟨⟨by decide +kernel, by decide +kernel⟩, List.mem_of_getElem? (i := 587) (by decide +kernel), List.mem_of_getElem? (i := 769) (by decide +kernel), List.mem_of_getElem? (i := 770) (by decide +kernel)⟩
theorem lw_p62 : lw_okq (⟨"EndorsedLedgerModel", "reckon", "(II)V"⟩, 45) := ⟨⟨by decide +kernel, by decide +kernel⟩, List.mem_of_getElem? (i := 587) (by decide +kernel), List.mem_of_getElem? (i := 773) (by decide +kernel), List.mem_of_getElem? (i := 774) (by decide +kernel)⟩
theorem lw_p63 : lw_okq (⟨"EndorsedLedgerModel", "push", "(I)V"⟩, 45) := ⟨⟨by decide +kernel, by decide +kernel⟩, List.mem_of_getElem? (i := 587) (by decide +kernel), List.mem_of_getElem? (i := 777) (by decide +kernel), List.mem_of_getElem? (i := 778) (by decide +kernel)⟩
def lw_privs_4 : List (MethodName × Nat) := [(⟨"EndorsedLedger$Result", "writeTo", "(LEndorsedLedger$WorldState;I)V"⟩, 2), (⟨"EndorsedLedger$Peer", "finishBlock", "()V"⟩, 5), (⟨"EndorsedLedger", "canStoreNext", "(I)Z"⟩, 12), (⟨"EndorsedLedger$Result", "readCount", "()I"⟩, 2), (⟨"EndorsedLedger$Result", "countOtherThan", "(II)I"⟩, 2), (⟨"EndorsedLedger$Result", "writtenCount", "()I"⟩, 2), (⟨"EndorsedLedger$Block", "transactionAt", "(I)I"⟩, 3), (⟨"EndorsedLedger", "nodesUp", "()I"⟩, 12), (⟨"EndorsedLedgerModel", "there", "(I)Z"⟩, 45), (⟨"EndorsedLedgerModel", "upright", "(I)Z"⟩, 45), (⟨"EndorsedLedgerModel", "go", "(I)V"⟩, 45), (⟨"EndorsedLedgerModel", "flagOf", "(I)I"⟩, 45), (⟨"EndorsedLedgerModel", "fulfils", "(II)Z"⟩, 45), (⟨"EndorsedLedgerModel", "run", "(II)V"⟩, 45), (⟨"EndorsedLedgerModel", "reckon", "(II)V"⟩, 45), (⟨"EndorsedLedgerModel", "push", "(I)V"⟩, 45)]
theorem lw_r4 : ∀ q ∈ lw_privs_4, lw_okq q := List.forall_mem_cons.mpr ⟨lw_p48, List.forall_mem_cons.mpr ⟨lw_p49, List.forall_mem_cons.mpr ⟨lw_p50, List.forall_mem_cons.mpr ⟨lw_p51, List.forall_mem_cons.mpr ⟨lw_p52, List.forall_mem_cons.mpr ⟨lw_p53, List.forall_mem_cons.mpr ⟨lw_p54, List.forall_mem_cons.mpr ⟨lw_p55, List.forall_mem_cons.mpr ⟨lw_p56, List.forall_mem_cons.mpr ⟨lw_p57, List.forall_mem_cons.mpr ⟨lw_p58, List.forall_mem_cons.mpr ⟨lw_p59, List.forall_mem_cons.mpr ⟨lw_p60, List.forall_mem_cons.mpr ⟨lw_p61, List.forall_mem_cons.mpr ⟨lw_p62, List.forall_mem_cons.mpr ⟨lw_p63, fun _ h => absurd h List.not_mem_nil⟩⟩⟩⟩⟩⟩⟩⟩⟩⟩⟩⟩⟩⟩⟩⟩
theorem lw_p64 : lw_okq (⟨"EndorsedLedgerModel", "pop", "()I"⟩, 45) := ⟨⟨by decide +kernel, by decide +kernel⟩, List.mem_of_getElem? (i := 587) (by decide +kernel), List.mem_of_getElem? (i := 781) (by decide +kernel), List.mem_of_getElem? (i := 782) (by decide +kernel)⟩
theorem lw_p65 : lw_okq (⟨"EndorsedLedgerModel", "touch", "(I)V"⟩, 45) := ⟨⟨by decide +kernel, by decide +kernel⟩, List.mem_of_getElem? (i := 587) (by decide +kernel), List.mem_of_getElem? (i := 785) (by decide +kernel), List.mem_of_getElem? (i := 786) (by decide +kernel)⟩
theorem lw_p66 : lw_okq (⟨"EndorsedLedgerModel", "range", "(II)V"⟩, 45) := ⟨⟨by decide +kernel, by decide +kernel⟩, List.mem_of_getElem? (i := 587) (by decide +kernel), List.mem_of_getElem? (i := 789) (by decide +kernel), List.mem_of_getElem? (i := 790) (by decide +kernel)⟩
theorem lw_p67 : lw_okq (⟨"EndorsedLedgerModel", "agrees", "(I)Z"⟩, 45) := ⟨⟨by decide +kernel, by decide +kernel⟩, List.mem_of_getElem? (i := 587) (by decide +kernel), List.mem_of_getElem? (i := 793) (by decide +kernel), List.mem_of_getElem? (i := 794) (by decide +kernel)⟩
theorem lw_p68 : lw_okq (⟨"EndorsedLedgerModel", "keep", "(I)V"⟩, 45) := ⟨⟨by decide +kernel, by decide +kernel⟩, List.mem_of_getElem? (i := 587) (by decide +kernel), List.mem_of_getElem? (i := 797) (by decide +kernel), List.mem_of_getElem? (i := 798) (by decide +kernel)⟩
theorem lw_p69 : lw_okq (⟨"EndorsedLedgerModel", "orderer", "(I)Z"⟩, 45) := ⟨⟨by decide +kernel, by decide +kernel⟩, List.mem_of_getElem? (i := 587) (by decide +kernel), List.mem_of_getElem? (i := 809) (by decide +kernel), List.mem_of_getElem? (i := 810) (by decide +kernel)⟩
theorem lw_p70 : lw_okq (⟨"EndorsedLedgerModel", "newer", "(II)Z"⟩, 45) := ⟨⟨by decide +kernel, by decide +kernel⟩, List.mem_of_getElem? (i := 587) (by decide +kernel), List.mem_of_getElem? (i := 813) (by decide +kernel), List.mem_of_getElem? (i := 814) (by decide +kernel)⟩
theorem lw_p71 : lw_okq (⟨"EndorsedLedgerModel", "last", "(I)I"⟩, 45) := ⟨⟨by decide +kernel, by decide +kernel⟩, List.mem_of_getElem? (i := 587) (by decide +kernel), List.mem_of_getElem? (i := 817) (by decide +kernel), List.mem_of_getElem? (i := 818) (by decide +kernel)⟩
theorem lw_p72 : lw_okq (⟨"EndorsedLedgerModel", "at", "(II)I"⟩, 45) := ⟨⟨by decide +kernel, by decide +kernel⟩, List.mem_of_getElem? (i := 587) (by decide +kernel), List.mem_of_getElem? (i := 861) (by decide +kernel), List.mem_of_getElem? (i := 862) (by decide +kernel)⟩
def lw_privs_5 : List (MethodName × Nat) := [(⟨"EndorsedLedgerModel", "pop", "()I"⟩, 45), (⟨"EndorsedLedgerModel", "touch", "(I)V"⟩, 45), (⟨"EndorsedLedgerModel", "range", "(II)V"⟩, 45), (⟨"EndorsedLedgerModel", "agrees", "(I)Z"⟩, 45), (⟨"EndorsedLedgerModel", "keep", "(I)V"⟩, 45), (⟨"EndorsedLedgerModel", "orderer", "(I)Z"⟩, 45), (⟨"EndorsedLedgerModel", "newer", "(II)Z"⟩, 45), (⟨"EndorsedLedgerModel", "last", "(I)I"⟩, 45), (⟨"EndorsedLedgerModel", "at", "(II)I"⟩, 45)]
theorem lw_r5 : ∀ q ∈ lw_privs_5, lw_okq q := List.forall_mem_cons.mpr ⟨lw_p64, List.forall_mem_cons.mpr ⟨lw_p65, List.forall_mem_cons.mpr ⟨lw_p66, List.forall_mem_cons.mpr ⟨lw_p67, List.forall_mem_cons.mpr ⟨lw_p68, List.forall_mem_cons.mpr ⟨lw_p69, List.forall_mem_cons.mpr ⟨lw_p70, List.forall_mem_cons.mpr ⟨lw_p71, List.forall_mem_cons.mpr ⟨lw_p72, fun _ h => absurd h List.not_mem_nil⟩⟩⟩⟩⟩⟩⟩⟩⟩
def lw_privs : List (MethodName × Nat) := lw_privs_1 ++ (lw_privs_2 ++ (lw_privs_3 ++ (lw_privs_4 ++ (lw_privs_5))))
def lw_tbl : List Cond := k2_sels lw_privs ++ tables_1
theorem lw_privs_ok : ∀ q ∈ lw_privs, lw_okq q := by
  show ∀ q ∈ lw_privs_1 ++ (lw_privs_2 ++ (lw_privs_3 ++ (lw_privs_4 ++ (lw_privs_5)))), lw_okq q
  exact List.forall_mem_append.mpr ⟨lw_r1, List.forall_mem_append.mpr ⟨lw_r2, List.forall_mem_append.mpr ⟨lw_r3, List.forall_mem_append.mpr ⟨lw_r4, lw_r5⟩⟩⟩⟩
end
section
/-! TABLES: my numbers of classes, fields, methods; what the pool links; written by wip/whole/draft/gen_tables.py out of the Statement and javap's listing -/
def ew : List Cond := lw_tbl.filter goodWord
theorem T_good : ∀ w ∈ ew, (w.onTables && w.keeps) = true ∨ ∃ ty, w = .arrayClass ty := fun w h => good_of_word (List.mem_filter.mp h).2
/-- a word by its place -/
def ew_is (ix : Nat) (w : Cond) : Bool := decide (lw_tbl[ix]? = some w) && goodWord w
theorem ew_in {ix : Nat} {w : Cond} (h : ew_is ix w = true) : w ∈ ew := by
  unfold ew_is at h
  simp only [Bool.and_eq_true, decide_eq_true_eq] at h
  exact List.mem_filter.mpr ⟨List.mem_of_getElem? h.1, h.2⟩
def oYl : List String := ["EndorsedLedger", "EndorsedLedger$Program", "EndorsedLedger$Run", "EndorsedLedger$Result", "EndorsedLedger$Transaction", "EndorsedLedger$Block", "EndorsedLedger$BlockList", "EndorsedLedger$Orderer", "EndorsedLedger$WorldState", "EndorsedLedger$Peer", "EndorsedLedgerModel", "EndorsedLedgerLaw"]
def oY (o : Nat) : String := oYl.getD o ""
def clFl : List (List (String × String × Bool × FieldType)) := [[("programs", "[LEndorsedLedger$Program;", true, .array (.object "EndorsedLedger$Program")), ("transactions", "[LEndorsedLedger$Transaction;", true, .array (.object "EndorsedLedger$Transaction")), ("proposed", "I", false, .int), ("waiting", "[I", true, .array (.int)), ("waitingCount", "I", false, .int), ("blocks", "[LEndorsedLedger$Block;", true, .array (.object "EndorsedLedger$Block")), ("cutCount", "I", false, .int), ("orderers", "[LEndorsedLedger$Orderer;", true, .array (.object "EndorsedLedger$Orderer")), ("leader", "I", false, .int), ("agreed", "LEndorsedLedger$BlockList;", true, .object "EndorsedLedger$BlockList"), ("peers", "[LEndorsedLedger$Peer;", true, .array (.object "EndorsedLedger$Peer")), ("run", "LEndorsedLedger$Run;", true, .object "EndorsedLedger$Run")],
  [("ops", "[I", true, .array (.int)), ("operands", "[I", true, .array (.int)), ("length", "I", false, .int), ("pile", "[I", true, .array (.int)), ("pileHeight", "I", false, .int), ("rulesMade", "I", false, .int)],
  [("stack", "[I", true, .array (.int)), ("result", "LEndorsedLedger$Result;", true, .object "EndorsedLedger$Result"), ("depth", "I", false, .int), ("leftOut", "I", false, .int), ("failed", "Z", false, .boolean)],
  [("cells", "[I", true, .array (.int)), ("ranges", "I", false, .int)],
  [("program", "I", false, .int), ("argument", "I", false, .int), ("endorsers", "I", false, .int), ("closed", "Z", false, .boolean), ("result", "LEndorsedLedger$Result;", true, .object "EndorsedLedger$Result")],
  [("members", "[I", true, .array (.int)), ("size", "I", false, .int), ("term", "I", false, .int)],
  [("numbers", "[I", true, .array (.int)), ("length", "I", false, .int)],
  [("up", "Z", false, .boolean), ("term", "I", false, .int), ("held", "LEndorsedLedger$BlockList;", true, .object "EndorsedLedger$BlockList")],
  [("versions", "[I", true, .array (.int)), ("values", "[I", true, .array (.int)), ("height", "I", false, .int)],
  [("up", "Z", false, .boolean), ("stored", "I", false, .int), ("current", "LEndorsedLedger$WorldState;", true, .object "EndorsedLedger$WorldState"), ("saved", "LEndorsedLedger$WorldState;", true, .object "EndorsedLedger$WorldState"), ("flags", "[I", true, .array (.int))],
  [("length", "[I", true, .array (.int)), ("op", "[I", true, .array (.int)), ("operand", "[I", true, .array (.int)), ("rules", "[I", true, .array (.int)), ("ruleK", "[I", true, .array (.int)), ("ruleN", "[I", true, .array (.int)), ("part", "[I", true, .array (.int)), ("pile", "[I", true, .array (.int)), ("high", "[I", true, .array (.int)), ("many", "I", false, .int), ("program", "[I", true, .array (.int)), ("argument", "[I", true, .array (.int)), ("endorsers", "[I", true, .array (.int)), ("closed", "[Z", true, .array (.boolean)), ("read", "[I", true, .array (.int)), ("wrote", "[I", true, .array (.int)), ("written", "[I", true, .array (.int)), ("ranges", "[I", true, .array (.int)), ("from", "[I", true, .array (.int)), ("to", "[I", true, .array (.int)), ("seen", "[I", true, .array (.int)), ("stack", "[I", true, .array (.int)), ("depth", "I", false, .int), ("failed", "Z", false, .boolean), ("queue", "[I", true, .array (.int)), ("waiting", "I", false, .int), ("blocks", "I", false, .int), ("block", "[I", true, .array (.int)), ("size", "[I", true, .array (.int)), ("cutIn", "[I", true, .array (.int)), ("off", "[Z", true, .array (.boolean)), ("term", "[I", true, .array (.int)), ("logs", "[I", true, .array (.int)), ("logged", "[I", true, .array (.int)), ("leader", "I", false, .int), ("chained", "[I", true, .array (.int)), ("chains", "I", false, .int), ("down", "[Z", true, .array (.boolean)), ("stored", "[I", true, .array (.int)), ("saved", "[I", true, .array (.int)), ("value", "[I", true, .array (.int)), ("version", "[I", true, .array (.int)), ("flags", "[I", true, .array (.int)), ("met", "[Z", true, .array (.boolean)), ("fulfilled", "[Z", true, .array (.boolean))]]
def clF (ci k : Nat) : String × String × Bool × FieldType := (clFl.getD ci []).getD k ("", "", false, .int)
def clT (ci : Nat) : u_T := fun k => (oY ci, (clF ci k).1, (clF ci k).2.1, (clF ci k).2.2.1)
def clN (ci : Nat) : Nat := (clFl.getD ci []).length
def xT (ci k : Nat) : FieldType := (clF ci k).2.2.2
def kI (ci k : Nat) : Bool := (clF ci k).2.2.1
def vwCl : List vw_C := (List.range 11).map (fun ci => (oY ci, clT ci, clN ci))
def xA : List FieldType := [.int, .boolean, .object "EndorsedLedger$Program", .object "EndorsedLedger$Transaction", .object "EndorsedLedger$Block", .object "EndorsedLedger$Orderer", .object "EndorsedLedger$Peer"]
def nA : List String := ["EndorsedLedger$Program", "EndorsedLedger$Transaction", "EndorsedLedger$Block", "EndorsedLedger$Orderer", "EndorsedLedger$Peer"]
def clLl : List (List Nat) := [[319, 321, 323, 325, 327, 329, 331, 333, 335, 337, 339, 341], [178, 180, 182, 184, 186, 188], [153, 155, 157, 159, 161], [142, 144], [208, 210, 212, 214, 216], [230, 232, 234], [113, 115], [250, 252, 254], [279, 281, 283], [296, 298, 300, 302, 304], [710, 712, 714, 716, 718, 720, 722, 724, 726, 728, 730, 732, 734, 736, 738, 740, 742, 744, 746, 748, 750, 752, 754, 756, 758, 760, 762, 764, 766, 768, 770, 772, 774, 776, 778, 780, 782, 784, 786, 788, 790, 792, 794, 796, 798]]
def clIl : List Nat := [88, 164, 122, 128, 191, 219, 104, 237, 263, 257, 660]
def clJl : List Nat := [74, 78, 76, 77, 79, 80, 75, 81, 83, 82, 84, 73]
def mYl : List MethodName := [⟨"EndorsedLedger", "<init>", "()V"⟩,
  ⟨"EndorsedLedger", "code", "(III)Z"⟩,
  ⟨"EndorsedLedger", "policy", "(III)Z"⟩,
  ⟨"EndorsedLedger", "propose", "(II)I"⟩,
  ⟨"EndorsedLedger", "endorse", "(II)I"⟩,
  ⟨"EndorsedLedger", "submit", "(I)Z"⟩,
  ⟨"EndorsedLedger", "elect", "(I)I"⟩,
  ⟨"EndorsedLedger", "cut", "(I)I"⟩,
  ⟨"EndorsedLedger", "copy", "(II)I"⟩,
  ⟨"EndorsedLedger", "power", "(IZ)I"⟩,
  ⟨"EndorsedLedger", "deliver", "(I)I"⟩,
  ⟨"EndorsedLedger", "tear", "(I)Z"⟩,
  ⟨"EndorsedLedger", "transaction", "(II)I"⟩,
  ⟨"EndorsedLedger", "access", "(III)I"⟩,
  ⟨"EndorsedLedger", "state", "(III)I"⟩,
  ⟨"EndorsedLedger", "flag", "(III)I"⟩,
  ⟨"EndorsedLedger", "chain", "(II)I"⟩,
  ⟨"EndorsedLedger", "log", "(III)I"⟩,
  ⟨"EndorsedLedger", "about", "(I)I"⟩,
  ⟨"EndorsedLedger", "within", "(II)Z"⟩,
  ⟨"EndorsedLedger", "isUpPeer", "(I)Z"⟩,
  ⟨"EndorsedLedger", "isLeader", "(I)Z"⟩,
  ⟨"EndorsedLedger", "nodesUp", "()I"⟩,
  ⟨"EndorsedLedger", "supporters", "(I)I"⟩,
  ⟨"EndorsedLedger", "isNewer", "(LEndorsedLedger$BlockList;LEndorsedLedger$BlockList;)Z"⟩,
  ⟨"EndorsedLedger", "lastTerm", "(LEndorsedLedger$BlockList;)I"⟩,
  ⟨"EndorsedLedger", "greatestTerm", "()I"⟩,
  ⟨"EndorsedLedger", "dropFirstWaiting", "(I)V"⟩,
  ⟨"EndorsedLedger", "bringNearer", "(LEndorsedLedger$BlockList;LEndorsedLedger$BlockList;)I"⟩,
  ⟨"EndorsedLedger", "agreedCount", "(I)I"⟩,
  ⟨"EndorsedLedger", "isHeldByAnother", "(III)Z"⟩,
  ⟨"EndorsedLedger", "powerOrderer", "(IZ)I"⟩,
  ⟨"EndorsedLedger", "powerPeer", "(LEndorsedLedger$Peer;Z)I"⟩,
  ⟨"EndorsedLedger", "comeBack", "(LEndorsedLedger$Peer;)I"⟩,
  ⟨"EndorsedLedger", "canStoreNext", "(I)Z"⟩,
  ⟨"EndorsedLedger", "agreedBlock", "(I)LEndorsedLedger$Block;"⟩,
  ⟨"EndorsedLedger", "applyNext", "(LEndorsedLedger$Peer;)I"⟩,
  ⟨"EndorsedLedger", "judge", "(LEndorsedLedger$WorldState;II)I"⟩,
  ⟨"EndorsedLedger", "standsEarlier", "(III)Z"⟩,
  ⟨"EndorsedLedger$Program", "<init>", "()V"⟩,
  ⟨"EndorsedLedger$Program", "addInstruction", "(II)Z"⟩,
  ⟨"EndorsedLedger$Program", "addLeaf", "(I)Z"⟩,
  ⟨"EndorsedLedger$Program", "joinRules", "(II)Z"⟩,
  ⟨"EndorsedLedger$Program", "countMetAmongTop", "(II)I"⟩,
  ⟨"EndorsedLedger$Program", "putOnTop", "(I)V"⟩,
  ⟨"EndorsedLedger$Program", "isMetBy", "(I)Z"⟩,
  ⟨"EndorsedLedger$Run", "<init>", "()V"⟩,
  ⟨"EndorsedLedger$Run", "succeeds", "(LEndorsedLedger$Program;ILEndorsedLedger$WorldState;)Z"⟩,
  ⟨"EndorsedLedger$Run", "step", "(IIILEndorsedLedger$WorldState;)V"⟩,
  ⟨"EndorsedLedger$Run", "calculate", "(I)V"⟩,
  ⟨"EndorsedLedger$Run", "duplicateTop", "()V"⟩,
  ⟨"EndorsedLedger$Run", "touchState", "(ILEndorsedLedger$WorldState;)V"⟩,
  ⟨"EndorsedLedger$Run", "readKey", "(LEndorsedLedger$WorldState;)V"⟩,
  ⟨"EndorsedLedger$Run", "addUp", "(LEndorsedLedger$WorldState;)V"⟩,
  ⟨"EndorsedLedger$Run", "push", "(I)V"⟩,
  ⟨"EndorsedLedger$Run", "pop", "()I"⟩,
  ⟨"EndorsedLedger$Run", "popKey", "()I"⟩,
  ⟨"EndorsedLedger$Result", "<init>", "()V"⟩,
  ⟨"EndorsedLedger$Result", "clear", "()V"⟩,
  ⟨"EndorsedLedger$Result", "become", "(LEndorsedLedger$Result;)V"⟩,
  ⟨"EndorsedLedger$Result", "isSame", "(LEndorsedLedger$Result;)Z"⟩,
  ⟨"EndorsedLedger$Result", "read", "(III)V"⟩,
  ⟨"EndorsedLedger$Result", "write", "(III)V"⟩,
  ⟨"EndorsedLedger$Result", "readCount", "()I"⟩,
  ⟨"EndorsedLedger$Result", "writtenCount", "()I"⟩,
  ⟨"EndorsedLedger$Result", "countOtherThan", "(II)I"⟩,
  ⟨"EndorsedLedger$Result", "readsHold", "(LEndorsedLedger$WorldState;)Z"⟩,
  ⟨"EndorsedLedger$Result", "rangesHold", "(LEndorsedLedger$WorldState;)Z"⟩,
  ⟨"EndorsedLedger$Result", "versionsHold", "(ILEndorsedLedger$WorldState;)Z"⟩,
  ⟨"EndorsedLedger$Result", "writeTo", "(LEndorsedLedger$WorldState;I)V"⟩,
  ⟨"EndorsedLedger$Transaction", "<init>", "()V"⟩,
  ⟨"EndorsedLedger$Transaction", "isEndorsedBy", "(I)Z"⟩,
  ⟨"EndorsedLedger$Transaction", "hasResult", "()Z"⟩,
  ⟨"EndorsedLedger$Block", "<init>", "()V"⟩,
  ⟨"EndorsedLedger$Block", "fill", "([III)V"⟩,
  ⟨"EndorsedLedger$Block", "transactionAt", "(I)I"⟩,
  ⟨"EndorsedLedger$Block", "hasAmongFirst", "(II)Z"⟩,
  ⟨"EndorsedLedger$BlockList", "<init>", "()V"⟩,
  ⟨"EndorsedLedger$BlockList", "add", "(I)V"⟩,
  ⟨"EndorsedLedger$BlockList", "sameAtBeginning", "(LEndorsedLedger$BlockList;)I"⟩,
  ⟨"EndorsedLedger$BlockList", "becomeFirst", "(LEndorsedLedger$BlockList;I)V"⟩,
  ⟨"EndorsedLedger$Orderer", "<init>", "()V"⟩,
  ⟨"EndorsedLedger$WorldState", "<init>", "()V"⟩,
  ⟨"EndorsedLedger$WorldState", "become", "(LEndorsedLedger$WorldState;)V"⟩,
  ⟨"EndorsedLedger$Peer", "<init>", "()V"⟩,
  ⟨"EndorsedLedger$Peer", "finishBlock", "()V"⟩,
  ⟨"EndorsedLedgerModel", "<init>", "()V"⟩,
  ⟨"EndorsedLedgerModel", "within", "(III)Z"⟩,
  ⟨"EndorsedLedgerModel", "code", "(III)Z"⟩,
  ⟨"EndorsedLedgerModel", "policy", "(III)Z"⟩,
  ⟨"EndorsedLedgerModel", "fulfils", "(II)Z"⟩,
  ⟨"EndorsedLedgerModel", "go", "(I)V"⟩,
  ⟨"EndorsedLedgerModel", "flagOf", "(I)I"⟩,
  ⟨"EndorsedLedgerModel", "pop", "()I"⟩,
  ⟨"EndorsedLedgerModel", "push", "(I)V"⟩,
  ⟨"EndorsedLedgerModel", "run", "(II)V"⟩,
  ⟨"EndorsedLedgerModel", "reckon", "(II)V"⟩,
  ⟨"EndorsedLedgerModel", "touch", "(I)V"⟩,
  ⟨"EndorsedLedgerModel", "range", "(II)V"⟩,
  ⟨"EndorsedLedgerModel", "agrees", "(I)Z"⟩,
  ⟨"EndorsedLedgerModel", "keep", "(I)V"⟩,
  ⟨"EndorsedLedgerModel", "there", "(I)Z"⟩,
  ⟨"EndorsedLedgerModel", "upright", "(I)Z"⟩,
  ⟨"EndorsedLedgerModel", "propose", "(II)I"⟩,
  ⟨"EndorsedLedgerModel", "endorse", "(II)I"⟩,
  ⟨"EndorsedLedgerModel", "submit", "(I)Z"⟩,
  ⟨"EndorsedLedgerModel", "orderer", "(I)Z"⟩,
  ⟨"EndorsedLedgerModel", "last", "(I)I"⟩,
  ⟨"EndorsedLedgerModel", "newer", "(II)Z"⟩,
  ⟨"EndorsedLedgerModel", "elect", "(I)I"⟩,
  ⟨"EndorsedLedgerModel", "cut", "(I)I"⟩,
  ⟨"EndorsedLedgerModel", "copy", "(II)I"⟩,
  ⟨"EndorsedLedgerModel", "power", "(IZ)I"⟩,
  ⟨"EndorsedLedgerModel", "deliver", "(I)I"⟩,
  ⟨"EndorsedLedgerModel", "tear", "(I)Z"⟩,
  ⟨"EndorsedLedgerModel", "transaction", "(II)I"⟩,
  ⟨"EndorsedLedgerModel", "access", "(III)I"⟩,
  ⟨"EndorsedLedgerModel", "state", "(III)I"⟩,
  ⟨"EndorsedLedgerModel", "flag", "(III)I"⟩,
  ⟨"EndorsedLedgerModel", "at", "(II)I"⟩,
  ⟨"EndorsedLedgerModel", "chain", "(II)I"⟩,
  ⟨"EndorsedLedgerModel", "log", "(III)I"⟩,
  ⟨"EndorsedLedgerModel", "about", "(I)I"⟩,
  ⟨"EndorsedLedgerLaw", "law", "([I)Z"⟩]
def mY (j : Nat) : MethodName := mYl.getD j ⟨"", "", ""⟩
def mBl : List ByteArray := [prog_1_method_1_code, prog_1_method_2_code, prog_1_method_3_code, prog_1_method_4_code, prog_1_method_5_code, prog_1_method_6_code, prog_1_method_7_code, prog_1_method_8_code, prog_1_method_9_code, prog_1_method_10_code, prog_1_method_11_code, prog_1_method_12_code, prog_1_method_13_code, prog_1_method_14_code, prog_1_method_15_code, prog_1_method_16_code, prog_1_method_17_code, prog_1_method_18_code, prog_1_method_19_code, prog_1_method_20_code, prog_1_method_21_code, prog_1_method_22_code, prog_1_method_23_code, prog_1_method_24_code, prog_1_method_25_code, prog_1_method_26_code, prog_1_method_27_code, prog_1_method_28_code, prog_1_method_29_code, prog_1_method_30_code, prog_1_method_31_code, prog_1_method_32_code, prog_1_method_33_code, prog_1_method_34_code, prog_1_method_35_code, prog_1_method_36_code, prog_1_method_37_code, prog_1_method_38_code, prog_1_method_39_code, prog_6_method_1_code, prog_6_method_2_code, prog_6_method_3_code, prog_6_method_4_code, prog_6_method_5_code, prog_6_method_6_code, prog_6_method_7_code, prog_8_method_1_code, prog_8_method_2_code, prog_8_method_3_code, prog_8_method_4_code, prog_8_method_5_code, prog_8_method_6_code, prog_8_method_7_code, prog_8_method_8_code, prog_8_method_9_code, prog_8_method_10_code, prog_8_method_11_code, prog_7_method_1_code, prog_7_method_2_code, prog_7_method_3_code, prog_7_method_4_code, prog_7_method_5_code, prog_7_method_6_code, prog_7_method_7_code, prog_7_method_8_code, prog_7_method_9_code, prog_7_method_10_code, prog_7_method_11_code, prog_7_method_12_code, prog_7_method_13_code, prog_9_method_1_code, prog_9_method_2_code, prog_9_method_3_code, prog_2_method_1_code, prog_2_method_2_code, prog_2_method_3_code, prog_2_method_4_code, prog_3_method_1_code, prog_3_method_2_code, prog_3_method_3_code, prog_3_method_4_code, prog_4_method_1_code, prog_10_method_1_code, prog_10_method_2_code, prog_5_method_1_code, prog_5_method_2_code, prog_12_method_1_code, prog_12_method_2_code, prog_12_method_3_code, prog_12_method_4_code, prog_12_method_5_code, prog_12_method_6_code, prog_12_method_7_code, prog_12_method_8_code, prog_12_method_9_code, prog_12_method_10_code, prog_12_method_11_code, prog_12_method_12_code, prog_12_method_13_code, prog_12_method_14_code, prog_12_method_15_code, prog_12_method_16_code, prog_12_method_17_code, prog_12_method_18_code, prog_12_method_19_code, prog_12_method_20_code, prog_12_method_21_code, prog_12_method_22_code, prog_12_method_23_code, prog_12_method_24_code, prog_12_method_25_code, prog_12_method_26_code, prog_12_method_27_code, prog_12_method_28_code, prog_12_method_29_code, prog_12_method_30_code, prog_12_method_31_code, prog_12_method_32_code, prog_12_method_33_code, prog_12_method_34_code, prog_12_method_35_code, prog_12_method_36_code, prog_12_method_37_code, code]
def mB (j : Nat) : ByteArray := mBl.getD j ⟨#[]⟩
def mLl : List Nat := [2, 4, 4, 3, 4, 2, 4, 4, 5, 3, 2, 2, 4, 5, 4, 4, 4, 5, 2, 2, 2, 2, 3, 4, 5, 2, 3, 2, 3, 5, 6, 3, 3, 4, 2, 2, 8, 6, 6, 1, 3, 4, 5, 5, 2, 2, 1, 5, 5, 4, 2, 4, 3, 6, 2, 1, 1, 1, 2, 2, 3, 4, 4, 1, 1, 5, 2, 2, 5, 5, 1, 2, 1, 1, 4, 2, 4, 1, 2, 4, 3, 1, 1, 2, 1, 1, 1, 3, 4, 7, 7, 7, 6, 1, 2, 7, 5, 5, 6, 5, 4, 2, 2, 3, 3, 2, 2, 2, 3, 5, 4, 9, 5, 4, 2, 6, 5, 4, 4, 3, 3, 5, 5, 4]
def mL (j : Nat) : Nat := mLl.getD j 0
def mRl : List (Option FieldType) := [none, (some FieldType.boolean), (some FieldType.boolean), (some FieldType.int), (some FieldType.int), (some FieldType.boolean), (some FieldType.int), (some FieldType.int), (some FieldType.int), (some FieldType.int), (some FieldType.int), (some FieldType.boolean), (some FieldType.int), (some FieldType.int), (some FieldType.int), (some FieldType.int), (some FieldType.int), (some FieldType.int), (some FieldType.int), (some FieldType.boolean), (some FieldType.boolean), (some FieldType.boolean), (some FieldType.int), (some FieldType.int), (some FieldType.boolean), (some FieldType.int), (some FieldType.int), none, (some FieldType.int), (some FieldType.int), (some FieldType.boolean), (some FieldType.int), (some FieldType.int), (some FieldType.int), (some FieldType.boolean), (some (FieldType.object "EndorsedLedger$Block")), (some FieldType.int), (some FieldType.int), (some FieldType.boolean), none, (some FieldType.boolean), (some FieldType.boolean), (some FieldType.boolean), (some FieldType.int), none, (some FieldType.boolean), none, (some FieldType.boolean), none, none, none, none, none, none, none, (some FieldType.int), (some FieldType.int), none, none, none, (some FieldType.boolean), none, none, (some FieldType.int), (some FieldType.int), (some FieldType.int), (some FieldType.boolean), (some FieldType.boolean), (some FieldType.boolean), none, none, (some FieldType.boolean), (some FieldType.boolean), none, none, (some FieldType.int), (some FieldType.boolean), none, none, (some FieldType.int), none, none, none, none, none, none, none, (some FieldType.boolean), (some FieldType.boolean), (some FieldType.boolean), (some FieldType.boolean), none, (some FieldType.int), (some FieldType.int), none, none, none, none, none, (some FieldType.boolean), none, (some FieldType.boolean), (some FieldType.boolean), (some FieldType.int), (some FieldType.int), (some FieldType.boolean), (some FieldType.boolean), (some FieldType.int), (some FieldType.boolean), (some FieldType.int), (some FieldType.int), (some FieldType.int), (some FieldType.int), (some FieldType.int), (some FieldType.boolean), (some FieldType.int), (some FieldType.int), (some FieldType.int), (some FieldType.int), (some FieldType.int), (some FieldType.int), (some FieldType.int), (some FieldType.int), some .boolean]
def mR (j : Nat) : Option FieldType := mRl.getD j none
def mKl : List Nat := [4, 2, 3, 2, 7, 2, 4, 3, 3, 7, 5, 4, 3, 2, 3, 3, 3, 3, 2, 1, 2, 2, 1, 3, 2, 1, 1, 1, 2, 2, 1, 1, 6, 5, 3, 1, 4, 3, 2, 1, 1, 2, 2, 1, 1, 1, 3, 6, 5, 2, 2, 4, 3, 3, 1, 1, 2, 2, 1, 1, 1, 1, 1, 2, 2, 1, 2, 2, 1, 1, 3, 1, 1, 1, 1, 2, 1, 1, 1, 1, 1, 2, 1, 1, 2, 2, 1, 1, 2, 2, 1, 3, 2, 1, 1, 4, 2, 3, 2, 1, 1, 1, 2, 2, 5, 2, 1, 1, 2, 3, 2, 2, 2, 4, 3, 2, 2, 4, 4, 1, 2, 2, 2, 8]
def mK (j : Nat) : Nat := mKl.getD j 0
def mQl : List Nat := [66, 22, 48, 21, 136, 21, 68, 49, 71, 145, 100, 63, 44, 21, 42, 42, 42, 42, 22, 0, 21, 21, 0, 45, 21, 0, 26, 26, 49, 25, 0, 0, 123, 100, 42, 0, 73, 48, 23, 26, 0, 21, 24, 0, 0, 0, 46, 112, 88, 21, 21, 65, 40, 40, 0, 0, 20, 26, 0, 26, 0, 0, 0, 24, 24, 0, 24, 24, 0, 0, 46, 0, 0, 26, 26, 21, 0, 26, 0, 26, 26, 46, 26, 26, 46, 47, 26, 0, 22, 22, 0, 51, 26, 0, 0, 70, 21, 46, 21, 0, 0, 0, 22, 22, 96, 21, 0, 0, 21, 43, 21, 21, 22, 77, 43, 22, 22, 77, 77, 0, 22, 22, 22, 167]
def mQ (j : Nat) : Nat := mQl.getD j 0
def mOl : List Nat := [0, 0, 0, 0, 0, 0, 0, 0, 0, 0, 0, 0, 0, 0, 0, 0, 0, 0, 0, 0, 0, 0, 0, 0, 0, 0, 0, 0, 0, 0, 0, 0, 0, 0, 0, 0, 0, 0, 0, 1, 1, 1, 1, 1, 1, 1, 2, 2, 2, 2, 2, 2, 2, 2, 2, 2, 2, 3, 3, 3, 3, 3, 3, 3, 3, 3, 3, 3, 3, 3, 4, 4, 4, 5, 5, 5, 5, 6, 6, 6, 6, 7, 8, 8, 9, 9, 10, 10, 10, 10, 10, 10, 10, 10, 10, 10, 10, 10, 10, 10, 10, 10, 10, 10, 10, 10, 10, 10, 10, 10, 10, 10, 10, 10, 10, 10, 10, 10, 10, 10, 10, 10, 10, 11]
def mO (j : Nat) : Nat := mOl.getD j 0
def mNl : List Nat := [0, 3, 3, 2, 2, 1, 1, 1, 2, 2, 1, 1, 2, 3, 3, 3, 2, 3, 1, 2, 1, 1, 0, 1, 2, 1, 0, 1, 2, 1, 3, 2, 2, 1, 1, 1, 1, 3, 3, 0, 2, 1, 2, 2, 1, 1, 0, 3, 4, 1, 0, 2, 1, 1, 1, 0, 0, 0, 0, 1, 1, 3, 3, 0, 0, 2, 1, 1, 2, 2, 0, 1, 0, 0, 3, 1, 2, 0, 1, 1, 2, 0, 0, 1, 0, 0, 0, 3, 3, 3, 2, 1, 1, 0, 1, 2, 2, 1, 2, 1, 1, 1, 1, 2, 2, 1, 1, 1, 2, 1, 1, 2, 2, 1, 1, 2, 3, 3, 3, 2, 2, 3, 1, 1]
def mN (j : Nat) : Nat := mNl.getD j 0
def mSl : List Bool := [false, false, false, false, false, false, false, false, false, false, false, false, false, false, false, false, false, false, false, true, false, false, false, false, false, false, false, false, true, false, false, false, false, false, false, false, false, false, false, false, false, false, false, false, false, false, false, false, false, false, false, false, false, false, false, false, false, false, false, false, false, false, false, false, false, false, false, false, false, false, false, false, false, false, false, false, false, false, false, false, false, false, false, false, false, false, false, true, false, false, false, false, false, false, false, false, false, false, false, false, false, false, false, false, false, false, false, false, false, false, false, false, false, false, false, false, false, false, false, false, false, false, false, true]
def mS (j : Nat) : Bool := mSl.getD j false
def nM : Nat := 123
def mCl : List Nat := [91, 347, 358, 378, 382, 458, 462, 485, 510, 535, 601, 609, 613, 629, 633, 637, 641, 650, 654, 350, 386, 489, 658, 466, 470, 474, 478, 501, 513, 522, 526, 539, 543, 547, 605, 560, 556, 564, 568, 167, 354, 362, 370, 374, 366, 576, 125, 394, 399, 407, 415, 419, 423, 439, 403, 411, 427, 131, 136, 451, 447, 431, 435, 617, 625, 621, 580, 588, 584, 592, 194, 390, 443, 222, 496, 645, 572, 107, 506, 517, 530, 240, 266, 551, 260, 596, 663, 808, 805, 812, 840, 832, 836, 856, 852, 844, 848, 860, 864, 868, 872, 824, 828, 816, 820, 876, 884, 892, 888, 880, 896, 900, 904, 908, 912, 916, 920, 924, 928, 936, 932, 940, 944]
/-- owner, index, class, field, nest mate?, the place of the word -/
def kFl : List (Nat × Nat × Nat × Nat × Bool × Nat) := [(6, 9, 6, 0, false, 109), (0, 241, 6, 0, true, 0), (6, 15, 6, 1, false, 111), (0, 155, 6, 1, true, 1), (3, 11, 3, 0, false, 137), (0, 214, 3, 0, true, 2), (3, 15, 3, 1, false, 139), (2, 94, 3, 1, true, 3), (0, 208, 3, 1, true, 4), (2, 9, 2, 0, false, 147), (2, 18, 2, 1, false, 148), (0, 121, 2, 1, true, 5), (2, 22, 2, 2, false, 150), (2, 26, 2, 3, false, 151), (2, 29, 2, 4, false, 152), (1, 9, 1, 0, false, 169), (2, 41, 1, 0, true, 6), (1, 15, 1, 1, false, 171), (2, 44, 1, 1, true, 7), (1, 18, 1, 2, false, 173), (2, 36, 1, 2, true, 8), (1, 22, 1, 3, false, 175), (1, 25, 1, 4, false, 176), (1, 28, 1, 5, false, 177), (4, 7, 4, 0, false, 198), (0, 89, 4, 0, true, 9), (4, 13, 4, 1, false, 200), (0, 92, 4, 1, true, 10), (4, 16, 4, 2, false, 202), (0, 132, 4, 2, true, 11), (4, 19, 4, 3, false, 204), (0, 98, 4, 3, true, 12), (4, 26, 4, 4, false, 206), (0, 117, 4, 4, true, 13), (5, 9, 5, 0, false, 224), (0, 285, 5, 0, true, 14), (5, 15, 5, 1, false, 226), (0, 232, 5, 1, true, 15), (5, 19, 5, 2, false, 228), (0, 244, 5, 2, true, 16), (7, 7, 7, 0, false, 244), (0, 135, 7, 0, true, 17), (7, 13, 7, 1, false, 246), (0, 146, 7, 1, true, 18), (7, 20, 7, 2, false, 248), (0, 152, 7, 2, true, 19), (8, 9, 8, 0, false, 268), (2, 83, 8, 0, true, 20), (3, 36, 8, 0, true, 21), (0, 217, 8, 0, true, 22), (8, 15, 8, 1, false, 272), (2, 91, 8, 1, true, 23), (3, 41, 8, 1, true, 24), (0, 222, 8, 1, true, 25), (8, 18, 8, 2, false, 276), (9, 33, 8, 2, true, 26), (0, 225, 8, 2, true, 27), (9, 9, 9, 0, false, 286), (0, 204, 9, 0, true, 28), (9, 15, 9, 1, false, 288), (0, 197, 9, 1, true, 29), (9, 22, 9, 2, false, 290), (0, 105, 9, 2, true, 30), (9, 26, 9, 3, false, 292), (0, 245, 9, 3, true, 31), (9, 29, 9, 4, false, 294), (0, 235, 9, 4, true, 32), (0, 11, 0, 0, false, 307), (0, 17, 0, 1, false, 308), (0, 21, 0, 2, false, 309), (0, 25, 0, 3, false, 310), (0, 29, 0, 4, false, 311), (0, 34, 0, 5, false, 312), (0, 38, 0, 6, false, 313), (0, 43, 0, 7, false, 314), (0, 47, 0, 8, false, 315), (0, 53, 0, 9, false, 316), (0, 59, 0, 10, false, 317), (0, 66, 0, 11, false, 318), (10, 7, 10, 0, false, 665), (10, 13, 10, 1, false, 666), (10, 16, 10, 2, false, 667), (10, 19, 10, 3, false, 668), (10, 22, 10, 4, false, 669), (10, 25, 10, 5, false, 670), (10, 28, 10, 6, false, 671), (10, 31, 10, 7, false, 672), (10, 34, 10, 8, false, 673), (10, 133, 10, 9, false, 674), (10, 37, 10, 10, false, 675), (10, 40, 10, 11, false, 676), (10, 43, 10, 12, false, 677), (10, 46, 10, 13, false, 678), (10, 50, 10, 14, false, 679), (10, 53, 10, 15, false, 680), (10, 56, 10, 16, false, 681), (10, 59, 10, 17, false, 682), (10, 62, 10, 18, false, 683), (10, 65, 10, 19, false, 684), (10, 68, 10, 20, false, 685), (10, 71, 10, 21, false, 686), (10, 144, 10, 22, false, 687), (10, 147, 10, 23, false, 688), (10, 74, 10, 24, false, 689), (10, 188, 10, 25, false, 690), (10, 200, 10, 26, false, 691), (10, 77, 10, 27, false, 692), (10, 80, 10, 28, false, 693), (10, 83, 10, 29, false, 694), (10, 86, 10, 30, false, 695), (10, 89, 10, 31, false, 696), (10, 92, 10, 32, false, 697), (10, 95, 10, 33, false, 698), (10, 98, 10, 34, false, 699), (10, 102, 10, 35, false, 700), (10, 203, 10, 36, false, 701), (10, 105, 10, 37, false, 702), (10, 108, 10, 38, false, 703), (10, 111, 10, 39, false, 704), (10, 114, 10, 40, false, 705), (10, 117, 10, 41, false, 706), (10, 120, 10, 42, false, 707), (10, 123, 10, 43, false, 708), (10, 126, 10, 44, false, 709)]
def kF (o idx : Nat) : Option (Nat × Nat × Bool) := (kFl.find? (fun q => q.1 == o && q.2.1 == idx)).map (fun q => (q.2.2.1, q.2.2.2.1, q.2.2.2.2.1))
def nWF : List (String × Nat × String × String × String × String) := [("EndorsedLedger", 241, "EndorsedLedger$BlockList", "numbers", "[I", "EndorsedLedger"), ("EndorsedLedger", 155, "EndorsedLedger$BlockList", "length", "I", "EndorsedLedger"), ("EndorsedLedger", 214, "EndorsedLedger$Result", "cells", "[I", "EndorsedLedger"), ("EndorsedLedger$Run", 94, "EndorsedLedger$Result", "ranges", "I", "EndorsedLedger"), ("EndorsedLedger", 208, "EndorsedLedger$Result", "ranges", "I", "EndorsedLedger"), ("EndorsedLedger", 121, "EndorsedLedger$Run", "result", "LEndorsedLedger$Result;", "EndorsedLedger"), ("EndorsedLedger$Run", 41, "EndorsedLedger$Program", "ops", "[I", "EndorsedLedger"), ("EndorsedLedger$Run", 44, "EndorsedLedger$Program", "operands", "[I", "EndorsedLedger"), ("EndorsedLedger$Run", 36, "EndorsedLedger$Program", "length", "I", "EndorsedLedger"), ("EndorsedLedger", 89, "EndorsedLedger$Transaction", "program", "I", "EndorsedLedger"), ("EndorsedLedger", 92, "EndorsedLedger$Transaction", "argument", "I", "EndorsedLedger"), ("EndorsedLedger", 132, "EndorsedLedger$Transaction", "endorsers", "I", "EndorsedLedger"), ("EndorsedLedger", 98, "EndorsedLedger$Transaction", "closed", "Z", "EndorsedLedger"), ("EndorsedLedger", 117, "EndorsedLedger$Transaction", "result", "LEndorsedLedger$Result;", "EndorsedLedger"), ("EndorsedLedger", 285, "EndorsedLedger$Block", "members", "[I", "EndorsedLedger"), ("EndorsedLedger", 232, "EndorsedLedger$Block", "size", "I", "EndorsedLedger"), ("EndorsedLedger", 244, "EndorsedLedger$Block", "term", "I", "EndorsedLedger"), ("EndorsedLedger", 135, "EndorsedLedger$Orderer", "up", "Z", "EndorsedLedger"), ("EndorsedLedger", 146, "EndorsedLedger$Orderer", "term", "I", "EndorsedLedger"), ("EndorsedLedger", 152, "EndorsedLedger$Orderer", "held", "LEndorsedLedger$BlockList;", "EndorsedLedger"), ("EndorsedLedger$Run", 83, "EndorsedLedger$WorldState", "versions", "[I", "EndorsedLedger"), ("EndorsedLedger$Result", 36, "EndorsedLedger$WorldState", "versions", "[I", "EndorsedLedger"), ("EndorsedLedger", 217, "EndorsedLedger$WorldState", "versions", "[I", "EndorsedLedger"), ("EndorsedLedger$Run", 91, "EndorsedLedger$WorldState", "values", "[I", "EndorsedLedger"), ("EndorsedLedger$Result", 41, "EndorsedLedger$WorldState", "values", "[I", "EndorsedLedger"), ("EndorsedLedger", 222, "EndorsedLedger$WorldState", "values", "[I", "EndorsedLedger"), ("EndorsedLedger$Peer", 33, "EndorsedLedger$WorldState", "height", "I", "EndorsedLedger"), ("EndorsedLedger", 225, "EndorsedLedger$WorldState", "height", "I", "EndorsedLedger"), ("EndorsedLedger", 204, "EndorsedLedger$Peer", "up", "Z", "EndorsedLedger"), ("EndorsedLedger", 197, "EndorsedLedger$Peer", "stored", "I", "EndorsedLedger"), ("EndorsedLedger", 105, "EndorsedLedger$Peer", "current", "LEndorsedLedger$WorldState;", "EndorsedLedger"), ("EndorsedLedger", 245, "EndorsedLedger$Peer", "saved", "LEndorsedLedger$WorldState;", "EndorsedLedger"), ("EndorsedLedger", 235, "EndorsedLedger$Peer", "flags", "[I", "EndorsedLedger")]
def nWFi : List Nat := [110, 112, 138, 140, 141, 149, 170, 172, 174, 199, 201, 203, 205, 207, 225, 227, 229, 245, 247, 249, 269, 270, 271, 273, 274, 275, 277, 278, 287, 289, 291, 293, 295]
/-- owner, index, method, how, the places of its words -/
def kMl : List (Nat × Nat × Nat × Nat × Nat × Nat × Nat) := [(0, 1, 0, 6, 92, 0, 0), (0, 52, 77, 5, 0, 106, 0), (0, 65, 46, 5, 1, 124, 0), (0, 70, 39, 5, 2, 166, 0), (0, 71, 70, 5, 3, 193, 0), (0, 72, 73, 5, 4, 221, 0), (0, 73, 81, 5, 5, 239, 0), (0, 74, 84, 5, 6, 259, 0), (0, 75, 19, 1, 348, 349, 0), (0, 79, 40, 3, 7, 353, 1), (0, 82, 41, 3, 8, 361, 2), (0, 86, 42, 3, 9, 369, 4), (0, 95, 20, 0, 383, 385, 6), (0, 102, 71, 3, 10, 389, 7), (0, 109, 47, 3, 11, 393, 8), (0, 113, 72, 3, 12, 442, 20), (0, 122, 60, 3, 13, 446, 21), (0, 128, 59, 3, 14, 450, 22), (0, 138, 23, 0, 463, 465, 23), (0, 142, 26, 0, 475, 477, 26), (0, 149, 21, 0, 486, 488, 27), (0, 158, 0, 8, 490, 0, 0), (0, 164, 74, 3, 15, 495, 28), (0, 168, 27, 0, 498, 500, 29), (0, 172, 78, 3, 16, 505, 30), (0, 175, 28, 1, 511, 512, 0), (0, 179, 29, 0, 519, 521, 32), (0, 182, 80, 3, 17, 529, 34), (0, 186, 31, 0, 536, 538, 35), (0, 190, 32, 0, 540, 542, 36), (0, 194, 34, 0, 602, 604, 50), (0, 200, 36, 0, 553, 555, 39), (0, 205, 63, 3, 18, 616, 51), (0, 211, 64, 3, 19, 624, 53), (0, 228, 35, 0, 557, 559, 40), (0, 238, 75, 3, 20, 644, 54), (0, 248, 22, 0, 655, 657, 55), (0, 251, 24, 0, 467, 469, 24), (0, 255, 25, 0, 471, 473, 25), (0, 259, 0, 7, 479, 0, 0), (0, 262, 0, 9, 502, 0, 0), (0, 268, 79, 3, 21, 516, 31), (0, 271, 30, 0, 523, 525, 33), (0, 275, 33, 0, 544, 546, 37), (0, 278, 83, 3, 22, 550, 38), (0, 281, 37, 0, 561, 563, 41), (0, 288, 69, 3, 23, 591, 48), (0, 292, 85, 3, 24, 595, 49), (0, 295, 38, 0, 565, 567, 42), (0, 298, 45, 3, 25, 575, 44), (0, 301, 66, 3, 26, 579, 45), (0, 305, 67, 3, 27, 587, 47), (0, 308, 76, 3, 28, 571, 43), (1, 3, 0, 6, 168, 0, 0), (1, 31, 44, 0, 363, 365, 3), (1, 35, 43, 0, 371, 373, 5), (2, 3, 0, 6, 126, 0, 0), (2, 17, 57, 5, 29, 130, 0), (2, 33, 58, 3, 30, 135, 0), (2, 47, 48, 0, 396, 398, 9), (2, 51, 54, 0, 400, 402, 10), (2, 55, 49, 0, 404, 406, 11), (2, 58, 50, 0, 412, 414, 13), (2, 61, 55, 0, 408, 410, 12), (2, 65, 51, 0, 416, 418, 14), (2, 69, 52, 0, 420, 422, 15), (2, 73, 56, 0, 424, 426, 16), (2, 76, 62, 3, 31, 434, 18), (2, 80, 53, 0, 436, 438, 19), (2, 88, 61, 3, 32, 430, 17), (3, 3, 0, 6, 132, 0, 0), (3, 19, 58, 0, 133, 135, 0), (3, 22, 0, 9, 452, 0, 0), (3, 28, 65, 0, 618, 620, 52), (3, 32, 68, 0, 581, 583, 46), (4, 1, 0, 6, 195, 0, 0), (4, 25, 57, 5, 33, 130, 0), (5, 3, 0, 6, 223, 0, 0), (5, 22, 0, 9, 497, 0, 0), (5, 28, 19, 4, 34, 349, 0), (6, 3, 0, 6, 108, 0, 0), (6, 19, 0, 8, 518, 0, 0), (6, 25, 0, 9, 531, 0, 0), (7, 1, 0, 6, 241, 0, 0), (7, 19, 77, 5, 35, 106, 0), (8, 3, 0, 6, 267, 0, 0), (8, 22, 0, 9, 552, 0, 0), (9, 3, 0, 6, 261, 0, 0), (9, 21, 82, 5, 36, 265, 0), (9, 36, 83, 3, 37, 550, 38), (10, 1, 0, 6, 664, 0, 0), (10, 129, 87, 1, 806, 807, 0), (10, 136, 92, 0, 833, 835, 59), (10, 140, 90, 0, 837, 839, 60), (10, 151, 96, 0, 845, 847, 62), (10, 155, 93, 0, 853, 855, 64), (10, 159, 97, 0, 857, 859, 65), (10, 163, 94, 0, 849, 851, 63), (10, 166, 98, 0, 861, 863, 66), (10, 169, 101, 0, 821, 823, 56), (10, 173, 102, 0, 825, 827, 57), (10, 176, 91, 0, 829, 831, 58), (10, 179, 95, 0, 841, 843, 61), (10, 182, 99, 0, 865, 867, 67), (10, 185, 100, 0, 869, 871, 68), (10, 191, 107, 0, 889, 891, 71), (10, 194, 106, 0, 881, 883, 69), (10, 197, 108, 0, 885, 887, 70), (10, 206, 119, 0, 933, 935, 72), (11, 9, 0, 2, 89, 90, 0), (11, 12, 86, 2, 661, 662, 0), (11, 13, 1, 0, 344, 345, 346), (11, 17, 88, 0, 802, 803, 804), (11, 18, 2, 0, 355, 356, 357), (11, 21, 89, 0, 809, 810, 811), (11, 22, 3, 0, 375, 376, 377), (11, 26, 103, 0, 813, 814, 815), (11, 27, 4, 0, 379, 380, 381), (11, 30, 104, 0, 817, 818, 819), (11, 31, 5, 0, 455, 456, 457), (11, 35, 105, 0, 873, 874, 875), (11, 36, 6, 0, 459, 460, 461), (11, 40, 109, 0, 877, 878, 879), (11, 41, 7, 0, 482, 483, 484), (11, 44, 110, 0, 893, 894, 895), (11, 45, 8, 0, 507, 508, 509), (11, 48, 111, 0, 897, 898, 899), (11, 49, 9, 0, 532, 533, 534), (11, 53, 112, 0, 901, 902, 903), (11, 54, 10, 0, 598, 599, 600), (11, 57, 113, 0, 905, 906, 907), (11, 58, 11, 0, 606, 607, 608), (11, 61, 114, 0, 909, 910, 911), (11, 62, 12, 0, 610, 611, 612), (11, 65, 115, 0, 913, 914, 915), (11, 66, 13, 0, 626, 627, 628), (11, 70, 116, 0, 917, 918, 919), (11, 71, 14, 0, 630, 631, 632), (11, 74, 117, 0, 921, 922, 923), (11, 75, 15, 0, 634, 635, 636), (11, 78, 118, 0, 925, 926, 927), (11, 79, 16, 0, 638, 639, 640), (11, 82, 120, 0, 929, 930, 931), (11, 83, 17, 0, 647, 648, 649), (11, 86, 121, 0, 937, 938, 939), (11, 87, 18, 0, 651, 652, 653), (11, 90, 122, 0, 941, 942, 943)]
def kM (o idx : Nat) : Option (Nat × Nat) := (kMl.find? (fun q => q.1 == o && q.2.1 == idx)).map (fun q => (q.2.2.1, q.2.2.2.1))
def nWM : List (String × Nat × MethodName × String) := [("EndorsedLedger", 52, ⟨"EndorsedLedger$BlockList", "<init>", "()V"⟩, "EndorsedLedger"), ("EndorsedLedger", 65, ⟨"EndorsedLedger$Run", "<init>", "()V"⟩, "EndorsedLedger"), ("EndorsedLedger", 70, ⟨"EndorsedLedger$Program", "<init>", "()V"⟩, "EndorsedLedger"), ("EndorsedLedger", 71, ⟨"EndorsedLedger$Transaction", "<init>", "()V"⟩, "EndorsedLedger"), ("EndorsedLedger", 72, ⟨"EndorsedLedger$Block", "<init>", "()V"⟩, "EndorsedLedger"), ("EndorsedLedger", 73, ⟨"EndorsedLedger$Orderer", "<init>", "()V"⟩, "EndorsedLedger"), ("EndorsedLedger", 74, ⟨"EndorsedLedger$Peer", "<init>", "()V"⟩, "EndorsedLedger"), ("EndorsedLedger", 79, ⟨"EndorsedLedger$Program", "addInstruction", "(II)Z"⟩, "EndorsedLedger"), ("EndorsedLedger", 82, ⟨"EndorsedLedger$Program", "addLeaf", "(I)Z"⟩, "EndorsedLedger"), ("EndorsedLedger", 86, ⟨"EndorsedLedger$Program", "joinRules", "(II)Z"⟩, "EndorsedLedger"), ("EndorsedLedger", 102, ⟨"EndorsedLedger$Transaction", "isEndorsedBy", "(I)Z"⟩, "EndorsedLedger"), ("EndorsedLedger", 109, ⟨"EndorsedLedger$Run", "succeeds", "(LEndorsedLedger$Program;ILEndorsedLedger$WorldState;)Z"⟩, "EndorsedLedger"), ("EndorsedLedger", 113, ⟨"EndorsedLedger$Transaction", "hasResult", "()Z"⟩, "EndorsedLedger"), ("EndorsedLedger", 122, ⟨"EndorsedLedger$Result", "isSame", "(LEndorsedLedger$Result;)Z"⟩, "EndorsedLedger"), ("EndorsedLedger", 128, ⟨"EndorsedLedger$Result", "become", "(LEndorsedLedger$Result;)V"⟩, "EndorsedLedger"), ("EndorsedLedger", 164, ⟨"EndorsedLedger$Block", "fill", "([III)V"⟩, "EndorsedLedger"), ("EndorsedLedger", 172, ⟨"EndorsedLedger$BlockList", "add", "(I)V"⟩, "EndorsedLedger"), ("EndorsedLedger", 182, ⟨"EndorsedLedger$BlockList", "becomeFirst", "(LEndorsedLedger$BlockList;I)V"⟩, "EndorsedLedger"), ("EndorsedLedger", 205, ⟨"EndorsedLedger$Result", "readCount", "()I"⟩, "EndorsedLedger"), ("EndorsedLedger", 211, ⟨"EndorsedLedger$Result", "writtenCount", "()I"⟩, "EndorsedLedger"), ("EndorsedLedger", 238, ⟨"EndorsedLedger$Block", "transactionAt", "(I)I"⟩, "EndorsedLedger"), ("EndorsedLedger", 268, ⟨"EndorsedLedger$BlockList", "sameAtBeginning", "(LEndorsedLedger$BlockList;)I"⟩, "EndorsedLedger"), ("EndorsedLedger", 278, ⟨"EndorsedLedger$WorldState", "become", "(LEndorsedLedger$WorldState;)V"⟩, "EndorsedLedger"), ("EndorsedLedger", 288, ⟨"EndorsedLedger$Result", "writeTo", "(LEndorsedLedger$WorldState;I)V"⟩, "EndorsedLedger"), ("EndorsedLedger", 292, ⟨"EndorsedLedger$Peer", "finishBlock", "()V"⟩, "EndorsedLedger"), ("EndorsedLedger", 298, ⟨"EndorsedLedger$Program", "isMetBy", "(I)Z"⟩, "EndorsedLedger"), ("EndorsedLedger", 301, ⟨"EndorsedLedger$Result", "readsHold", "(LEndorsedLedger$WorldState;)Z"⟩, "EndorsedLedger"), ("EndorsedLedger", 305, ⟨"EndorsedLedger$Result", "rangesHold", "(LEndorsedLedger$WorldState;)Z"⟩, "EndorsedLedger"), ("EndorsedLedger", 308, ⟨"EndorsedLedger$Block", "hasAmongFirst", "(II)Z"⟩, "EndorsedLedger"), ("EndorsedLedger$Run", 17, ⟨"EndorsedLedger$Result", "<init>", "()V"⟩, "EndorsedLedger"), ("EndorsedLedger$Run", 33, ⟨"EndorsedLedger$Result", "clear", "()V"⟩, "EndorsedLedger"), ("EndorsedLedger$Run", 76, ⟨"EndorsedLedger$Result", "write", "(III)V"⟩, "EndorsedLedger"), ("EndorsedLedger$Run", 88, ⟨"EndorsedLedger$Result", "read", "(III)V"⟩, "EndorsedLedger"), ("EndorsedLedger$Transaction", 25, ⟨"EndorsedLedger$Result", "<init>", "()V"⟩, "EndorsedLedger"), ("EndorsedLedger$Block", 28, ⟨"EndorsedLedger", "within", "(II)Z"⟩, "EndorsedLedger"), ("EndorsedLedger$Orderer", 19, ⟨"EndorsedLedger$BlockList", "<init>", "()V"⟩, "EndorsedLedger"), ("EndorsedLedger$Peer", 21, ⟨"EndorsedLedger$WorldState", "<init>", "()V"⟩, "EndorsedLedger"), ("EndorsedLedger$Peer", 36, ⟨"EndorsedLedger$WorldState", "become", "(LEndorsedLedger$WorldState;)V"⟩, "EndorsedLedger")]
def nWMi : List Nat := [105, 123, 165, 192, 220, 238, 258, 351, 359, 367, 387, 391, 440, 444, 448, 493, 503, 527, 614, 622, 642, 514, 548, 589, 593, 573, 577, 585, 569, 129, 395, 432, 428, 197, 646, 243, 264, 597]
def kCl : List (Nat × Nat × Nat × Nat) := [(0, 9, 1, 95), (0, 15, 4, 97), (0, 32, 5, 99), (0, 41, 7, 101), (0, 50, 6, 103), (0, 57, 9, 119), (0, 63, 2, 121), (2, 15, 3, 127), (4, 23, 3, 196), (7, 17, 6, 242), (9, 19, 8, 262), (11, 7, 0, 87), (11, 10, 10, 659)]
def kC (o idx : Nat) : Option Nat := (kCl.find? (fun q => q.1 == o && q.2.1 == idx)).map (fun q => q.2.2.1)
def kAl : List (Nat × Nat × Nat × Nat) := [(0, 9, 2, 95), (0, 15, 3, 97), (0, 32, 4, 99), (0, 41, 5, 101), (0, 57, 6, 119)]
def kA (o idx : Nat) : Option Nat := (kAl.find? (fun q => q.1 == o && q.2.1 == idx)).map (fun q => q.2.2.1)
def nAi : List Nat := [96, 98, 100, 102, 120]
end
section
set_option maxRecDepth 100000 in
theorem tb_cls : ∀ ci, ci < 11 → ∀ k, k < clN ci → ew_is ((clLl.getD ci []).getD k 0) (u_lay (oY ci) (clT ci) k) = true := by decide +kernel
set_option maxRecDepth 100000 in
theorem tb_ty : ∀ ci, ci < 11 → ∀ k, k < clN ci → parseFieldDescriptor (clT ci k).2.2.1 = some (xT ci k) := by decide +kernel
set_option maxRecDepth 100000 in
theorem tb_nm : ∀ ci, ci < 11 → ∀ a, a < clN ci → ∀ b, b < clN ci → a ≠ b → (clT ci a).2.1 ≠ (clT ci b).2.1 := by decide +kernel
set_option maxRecDepth 100000 in
theorem tb_in : ∀ ci, ci < 11 → ew_is (clIl.getD ci 0) (.instantiable (oY ci) (clN ci)) = true ∧ ew_is (clJl.getD ci 0) (.initialized (oY ci)) = true := by decide +kernel
def tb_k4 (t : FieldType) : Bool := match t with
  | .int => true
  | .boolean => true
  | .object _ => true
  | .array _ => true
  | _ => false
set_option maxRecDepth 100000 in
theorem tb_t4 : ∀ ci, ci < 11 → ∀ k, k < clN ci → tb_k4 (xT ci k) = true := by decide +kernel
def ck_F (q : Nat × Nat × Nat × Nat × Bool × Nat) : Bool := decide (q.2.2.1 < 11) && decide (q.2.2.2.1 < clN q.2.2.1) && (bif q.2.2.2.2.1 then decide (nWF[q.2.2.2.2.2]? = some (oY q.1, q.2.1, oY q.2.2.1, (clT q.2.2.1 q.2.2.2.1).2.1, (clT q.2.2.1 q.2.2.2.1).2.2.1, "EndorsedLedger")) else ew_is q.2.2.2.2.2 (.fieldLink (oY q.1) q.2.1 (oY q.2.2.1) (clT q.2.2.1 q.2.2.2.1).2.1 (clT q.2.2.1 q.2.2.2.1).2.2.1))
set_option maxRecDepth 100000 in
theorem ck_F_ok : kFl.all ck_F = true := by decide +kernel
theorem tb_F (q : Nat × Nat × Nat × Nat × Bool × Nat) (hq : q ∈ kFl) : q.2.2.1 < 11 ∧ q.2.2.2.1 < clN q.2.2.1 ∧ (q.2.2.2.2.1 = true → nWF[q.2.2.2.2.2]? = some (oY q.1, q.2.1, oY q.2.2.1, (clT q.2.2.1 q.2.2.2.1).2.1, (clT q.2.2.1 q.2.2.2.1).2.2.1, "EndorsedLedger")) ∧ (q.2.2.2.2.1 = false → ew_is q.2.2.2.2.2 (.fieldLink (oY q.1) q.2.1 (oY q.2.2.1) (clT q.2.2.1 q.2.2.2.1).2.1 (clT q.2.2.1 q.2.2.2.1).2.2.1) = true) := by
  have h := List.all_eq_true.mp ck_F_ok q hq
  unfold ck_F at h
  simp only [Bool.and_eq_true, decide_eq_true_eq] at h
  obtain ⟨⟨h1, h2⟩, h3⟩ := h
  refine ⟨h1, h2, fun hb => ?_, fun hb => ?_⟩
  · rw [hb] at h3
    exact of_decide_eq_true h3
  · rw [hb] at h3
    exact h3
def tm_P (j : Nat) : Prop := Cond.code (mY j) (mB j) (mL j) (mR j) ∈ ew
set_option maxRecDepth 100000 in
theorem tm_0 : tm_P 0 := List.mem_filter.mpr ⟨List.mem_append_right _ (show _ ∈ tables_1_1 ++ (tables_1_2 ++ (tables_1_3 ++ tables_1_4)) from List.mem_append_left _ (List.mem_of_getElem? (i := 18) (show tables_1_1[18]? = _ from rfl))), rfl⟩
set_option maxRecDepth 100000 in
theorem tm_1 : tm_P 1 := List.mem_filter.mpr ⟨List.mem_append_right _ (show _ ∈ tables_1_1 ++ (tables_1_2 ++ (tables_1_3 ++ tables_1_4)) from List.mem_append_right _ (List.mem_append_left _ (List.mem_of_getElem? (i := 34) (show tables_1_2[34]? = _ from rfl)))), rfl⟩
set_option maxRecDepth 100000 in
theorem tm_2 : tm_P 2 := List.mem_filter.mpr ⟨List.mem_append_right _ (show _ ∈ tables_1_1 ++ (tables_1_2 ++ (tables_1_3 ++ tables_1_4)) from List.mem_append_right _ (List.mem_append_left _ (List.mem_of_getElem? (i := 45) (show tables_1_2[45]? = _ from rfl)))), rfl⟩
set_option maxRecDepth 100000 in
theorem tm_3 : tm_P 3 := List.mem_filter.mpr ⟨List.mem_append_right _ (show _ ∈ tables_1_1 ++ (tables_1_2 ++ (tables_1_3 ++ tables_1_4)) from List.mem_append_right _ (List.mem_append_left _ (List.mem_of_getElem? (i := 65) (show tables_1_2[65]? = _ from rfl)))), rfl⟩
set_option maxRecDepth 100000 in
theorem tm_4 : tm_P 4 := List.mem_filter.mpr ⟨List.mem_append_right _ (show _ ∈ tables_1_1 ++ (tables_1_2 ++ (tables_1_3 ++ tables_1_4)) from List.mem_append_right _ (List.mem_append_left _ (List.mem_of_getElem? (i := 69) (show tables_1_2[69]? = _ from rfl)))), rfl⟩
set_option maxRecDepth 100000 in
theorem tm_5 : tm_P 5 := List.mem_filter.mpr ⟨List.mem_append_right _ (show _ ∈ tables_1_1 ++ (tables_1_2 ++ (tables_1_3 ++ tables_1_4)) from List.mem_append_right _ (List.mem_append_left _ (List.mem_of_getElem? (i := 145) (show tables_1_2[145]? = _ from rfl)))), rfl⟩
set_option maxRecDepth 100000 in
theorem tm_6 : tm_P 6 := List.mem_filter.mpr ⟨List.mem_append_right _ (show _ ∈ tables_1_1 ++ (tables_1_2 ++ (tables_1_3 ++ tables_1_4)) from List.mem_append_right _ (List.mem_append_left _ (List.mem_of_getElem? (i := 149) (show tables_1_2[149]? = _ from rfl)))), rfl⟩
set_option maxRecDepth 100000 in
theorem tm_7 : tm_P 7 := List.mem_filter.mpr ⟨List.mem_append_right _ (show _ ∈ tables_1_1 ++ (tables_1_2 ++ (tables_1_3 ++ tables_1_4)) from List.mem_append_right _ (List.mem_append_left _ (List.mem_of_getElem? (i := 172) (show tables_1_2[172]? = _ from rfl)))), rfl⟩
set_option maxRecDepth 100000 in
theorem tm_8 : tm_P 8 := List.mem_filter.mpr ⟨List.mem_append_right _ (show _ ∈ tables_1_1 ++ (tables_1_2 ++ (tables_1_3 ++ tables_1_4)) from List.mem_append_right _ (List.mem_append_left _ (List.mem_of_getElem? (i := 197) (show tables_1_2[197]? = _ from rfl)))), rfl⟩
set_option maxRecDepth 100000 in
theorem tm_9 : tm_P 9 := List.mem_filter.mpr ⟨List.mem_append_right _ (show _ ∈ tables_1_1 ++ (tables_1_2 ++ (tables_1_3 ++ tables_1_4)) from List.mem_append_right _ (List.mem_append_left _ (List.mem_of_getElem? (i := 222) (show tables_1_2[222]? = _ from rfl)))), rfl⟩
set_option maxRecDepth 100000 in
theorem tm_10 : tm_P 10 := List.mem_filter.mpr ⟨List.mem_append_right _ (show _ ∈ tables_1_1 ++ (tables_1_2 ++ (tables_1_3 ++ tables_1_4)) from List.mem_append_right _ (List.mem_append_right _ (List.mem_append_left _ (List.mem_of_getElem? (i := 48) (show tables_1_3[48]? = _ from rfl))))), rfl⟩
set_option maxRecDepth 100000 in
theorem tm_11 : tm_P 11 := List.mem_filter.mpr ⟨List.mem_append_right _ (show _ ∈ tables_1_1 ++ (tables_1_2 ++ (tables_1_3 ++ tables_1_4)) from List.mem_append_right _ (List.mem_append_right _ (List.mem_append_left _ (List.mem_of_getElem? (i := 56) (show tables_1_3[56]? = _ from rfl))))), rfl⟩
set_option maxRecDepth 100000 in
theorem tm_12 : tm_P 12 := List.mem_filter.mpr ⟨List.mem_append_right _ (show _ ∈ tables_1_1 ++ (tables_1_2 ++ (tables_1_3 ++ tables_1_4)) from List.mem_append_right _ (List.mem_append_right _ (List.mem_append_left _ (List.mem_of_getElem? (i := 60) (show tables_1_3[60]? = _ from rfl))))), rfl⟩
set_option maxRecDepth 100000 in
theorem tm_13 : tm_P 13 := List.mem_filter.mpr ⟨List.mem_append_right _ (show _ ∈ tables_1_1 ++ (tables_1_2 ++ (tables_1_3 ++ tables_1_4)) from List.mem_append_right _ (List.mem_append_right _ (List.mem_append_left _ (List.mem_of_getElem? (i := 76) (show tables_1_3[76]? = _ from rfl))))), rfl⟩
set_option maxRecDepth 100000 in
theorem tm_14 : tm_P 14 := List.mem_filter.mpr ⟨List.mem_append_right _ (show _ ∈ tables_1_1 ++ (tables_1_2 ++ (tables_1_3 ++ tables_1_4)) from List.mem_append_right _ (List.mem_append_right _ (List.mem_append_left _ (List.mem_of_getElem? (i := 80) (show tables_1_3[80]? = _ from rfl))))), rfl⟩
set_option maxRecDepth 100000 in
theorem tm_15 : tm_P 15 := List.mem_filter.mpr ⟨List.mem_append_right _ (show _ ∈ tables_1_1 ++ (tables_1_2 ++ (tables_1_3 ++ tables_1_4)) from List.mem_append_right _ (List.mem_append_right _ (List.mem_append_left _ (List.mem_of_getElem? (i := 84) (show tables_1_3[84]? = _ from rfl))))), rfl⟩
set_option maxRecDepth 100000 in
theorem tm_16 : tm_P 16 := List.mem_filter.mpr ⟨List.mem_append_right _ (show _ ∈ tables_1_1 ++ (tables_1_2 ++ (tables_1_3 ++ tables_1_4)) from List.mem_append_right _ (List.mem_append_right _ (List.mem_append_left _ (List.mem_of_getElem? (i := 88) (show tables_1_3[88]? = _ from rfl))))), rfl⟩
set_option maxRecDepth 100000 in
theorem tm_17 : tm_P 17 := List.mem_filter.mpr ⟨List.mem_append_right _ (show _ ∈ tables_1_1 ++ (tables_1_2 ++ (tables_1_3 ++ tables_1_4)) from List.mem_append_right _ (List.mem_append_right _ (List.mem_append_left _ (List.mem_of_getElem? (i := 97) (show tables_1_3[97]? = _ from rfl))))), rfl⟩
set_option maxRecDepth 100000 in
theorem tm_18 : tm_P 18 := List.mem_filter.mpr ⟨List.mem_append_right _ (show _ ∈ tables_1_1 ++ (tables_1_2 ++ (tables_1_3 ++ tables_1_4)) from List.mem_append_right _ (List.mem_append_right _ (List.mem_append_left _ (List.mem_of_getElem? (i := 101) (show tables_1_3[101]? = _ from rfl))))), rfl⟩
set_option maxRecDepth 100000 in
theorem tm_19 : tm_P 19 := List.mem_filter.mpr ⟨List.mem_append_right _ (show _ ∈ tables_1_1 ++ (tables_1_2 ++ (tables_1_3 ++ tables_1_4)) from List.mem_append_right _ (List.mem_append_left _ (List.mem_of_getElem? (i := 37) (show tables_1_2[37]? = _ from rfl)))), rfl⟩
set_option maxRecDepth 100000 in
theorem tm_20 : tm_P 20 := List.mem_filter.mpr ⟨List.mem_append_right _ (show _ ∈ tables_1_1 ++ (tables_1_2 ++ (tables_1_3 ++ tables_1_4)) from List.mem_append_right _ (List.mem_append_left _ (List.mem_of_getElem? (i := 73) (show tables_1_2[73]? = _ from rfl)))), rfl⟩
set_option maxRecDepth 100000 in
theorem tm_21 : tm_P 21 := List.mem_filter.mpr ⟨List.mem_append_right _ (show _ ∈ tables_1_1 ++ (tables_1_2 ++ (tables_1_3 ++ tables_1_4)) from List.mem_append_right _ (List.mem_append_left _ (List.mem_of_getElem? (i := 176) (show tables_1_2[176]? = _ from rfl)))), rfl⟩
set_option maxRecDepth 100000 in
theorem tm_22 : tm_P 22 := List.mem_filter.mpr ⟨List.mem_append_right _ (show _ ∈ tables_1_1 ++ (tables_1_2 ++ (tables_1_3 ++ tables_1_4)) from List.mem_append_right _ (List.mem_append_right _ (List.mem_append_left _ (List.mem_of_getElem? (i := 105) (show tables_1_3[105]? = _ from rfl))))), rfl⟩
set_option maxRecDepth 100000 in
theorem tm_23 : tm_P 23 := List.mem_filter.mpr ⟨List.mem_append_right _ (show _ ∈ tables_1_1 ++ (tables_1_2 ++ (tables_1_3 ++ tables_1_4)) from List.mem_append_right _ (List.mem_append_left _ (List.mem_of_getElem? (i := 153) (show tables_1_2[153]? = _ from rfl)))), rfl⟩
set_option maxRecDepth 100000 in
theorem tm_24 : tm_P 24 := List.mem_filter.mpr ⟨List.mem_append_right _ (show _ ∈ tables_1_1 ++ (tables_1_2 ++ (tables_1_3 ++ tables_1_4)) from List.mem_append_right _ (List.mem_append_left _ (List.mem_of_getElem? (i := 157) (show tables_1_2[157]? = _ from rfl)))), rfl⟩
set_option maxRecDepth 100000 in
theorem tm_25 : tm_P 25 := List.mem_filter.mpr ⟨List.mem_append_right _ (show _ ∈ tables_1_1 ++ (tables_1_2 ++ (tables_1_3 ++ tables_1_4)) from List.mem_append_right _ (List.mem_append_left _ (List.mem_of_getElem? (i := 161) (show tables_1_2[161]? = _ from rfl)))), rfl⟩
set_option maxRecDepth 100000 in
theorem tm_26 : tm_P 26 := List.mem_filter.mpr ⟨List.mem_append_right _ (show _ ∈ tables_1_1 ++ (tables_1_2 ++ (tables_1_3 ++ tables_1_4)) from List.mem_append_right _ (List.mem_append_left _ (List.mem_of_getElem? (i := 165) (show tables_1_2[165]? = _ from rfl)))), rfl⟩
set_option maxRecDepth 100000 in
theorem tm_27 : tm_P 27 := List.mem_filter.mpr ⟨List.mem_append_right _ (show _ ∈ tables_1_1 ++ (tables_1_2 ++ (tables_1_3 ++ tables_1_4)) from List.mem_append_right _ (List.mem_append_left _ (List.mem_of_getElem? (i := 188) (show tables_1_2[188]? = _ from rfl)))), rfl⟩
set_option maxRecDepth 100000 in
theorem tm_28 : tm_P 28 := List.mem_filter.mpr ⟨List.mem_append_right _ (show _ ∈ tables_1_1 ++ (tables_1_2 ++ (tables_1_3 ++ tables_1_4)) from List.mem_append_right _ (List.mem_append_left _ (List.mem_of_getElem? (i := 200) (show tables_1_2[200]? = _ from rfl)))), rfl⟩
set_option maxRecDepth 100000 in
theorem tm_29 : tm_P 29 := List.mem_filter.mpr ⟨List.mem_append_right _ (show _ ∈ tables_1_1 ++ (tables_1_2 ++ (tables_1_3 ++ tables_1_4)) from List.mem_append_right _ (List.mem_append_left _ (List.mem_of_getElem? (i := 209) (show tables_1_2[209]? = _ from rfl)))), rfl⟩
set_option maxRecDepth 100000 in
theorem tm_30 : tm_P 30 := List.mem_filter.mpr ⟨List.mem_append_right _ (show _ ∈ tables_1_1 ++ (tables_1_2 ++ (tables_1_3 ++ tables_1_4)) from List.mem_append_right _ (List.mem_append_left _ (List.mem_of_getElem? (i := 213) (show tables_1_2[213]? = _ from rfl)))), rfl⟩
set_option maxRecDepth 100000 in
theorem tm_31 : tm_P 31 := List.mem_filter.mpr ⟨List.mem_append_right _ (show _ ∈ tables_1_1 ++ (tables_1_2 ++ (tables_1_3 ++ tables_1_4)) from List.mem_append_right _ (List.mem_append_left _ (List.mem_of_getElem? (i := 226) (show tables_1_2[226]? = _ from rfl)))), rfl⟩
set_option maxRecDepth 100000 in
theorem tm_32 : tm_P 32 := List.mem_filter.mpr ⟨List.mem_append_right _ (show _ ∈ tables_1_1 ++ (tables_1_2 ++ (tables_1_3 ++ tables_1_4)) from List.mem_append_right _ (List.mem_append_left _ (List.mem_of_getElem? (i := 230) (show tables_1_2[230]? = _ from rfl)))), rfl⟩
set_option maxRecDepth 100000 in
theorem tm_33 : tm_P 33 := List.mem_filter.mpr ⟨List.mem_append_right _ (show _ ∈ tables_1_1 ++ (tables_1_2 ++ (tables_1_3 ++ tables_1_4)) from List.mem_append_right _ (List.mem_append_left _ (List.mem_of_getElem? (i := 234) (show tables_1_2[234]? = _ from rfl)))), rfl⟩
set_option maxRecDepth 100000 in
theorem tm_34 : tm_P 34 := List.mem_filter.mpr ⟨List.mem_append_right _ (show _ ∈ tables_1_1 ++ (tables_1_2 ++ (tables_1_3 ++ tables_1_4)) from List.mem_append_right _ (List.mem_append_right _ (List.mem_append_left _ (List.mem_of_getElem? (i := 52) (show tables_1_3[52]? = _ from rfl))))), rfl⟩
set_option maxRecDepth 100000 in
theorem tm_35 : tm_P 35 := List.mem_filter.mpr ⟨List.mem_append_right _ (show _ ∈ tables_1_1 ++ (tables_1_2 ++ (tables_1_3 ++ tables_1_4)) from List.mem_append_right _ (List.mem_append_right _ (List.mem_append_left _ (List.mem_of_getElem? (i := 7) (show tables_1_3[7]? = _ from rfl))))), rfl⟩
set_option maxRecDepth 100000 in
theorem tm_36 : tm_P 36 := List.mem_filter.mpr ⟨List.mem_append_right _ (show _ ∈ tables_1_1 ++ (tables_1_2 ++ (tables_1_3 ++ tables_1_4)) from List.mem_append_right _ (List.mem_append_right _ (List.mem_append_left _ (List.mem_of_getElem? (i := 3) (show tables_1_3[3]? = _ from rfl))))), rfl⟩
set_option maxRecDepth 100000 in
theorem tm_37 : tm_P 37 := List.mem_filter.mpr ⟨List.mem_append_right _ (show _ ∈ tables_1_1 ++ (tables_1_2 ++ (tables_1_3 ++ tables_1_4)) from List.mem_append_right _ (List.mem_append_right _ (List.mem_append_left _ (List.mem_of_getElem? (i := 11) (show tables_1_3[11]? = _ from rfl))))), rfl⟩
set_option maxRecDepth 100000 in
theorem tm_38 : tm_P 38 := List.mem_filter.mpr ⟨List.mem_append_right _ (show _ ∈ tables_1_1 ++ (tables_1_2 ++ (tables_1_3 ++ tables_1_4)) from List.mem_append_right _ (List.mem_append_right _ (List.mem_append_left _ (List.mem_of_getElem? (i := 15) (show tables_1_3[15]? = _ from rfl))))), rfl⟩
set_option maxRecDepth 100000 in
theorem tm_39 : tm_P 39 := List.mem_filter.mpr ⟨List.mem_append_right _ (show _ ∈ tables_1_1 ++ (tables_1_2 ++ (tables_1_3 ++ tables_1_4)) from List.mem_append_left _ (List.mem_of_getElem? (i := 94) (show tables_1_1[94]? = _ from rfl))), rfl⟩
set_option maxRecDepth 100000 in
theorem tm_40 : tm_P 40 := List.mem_filter.mpr ⟨List.mem_append_right _ (show _ ∈ tables_1_1 ++ (tables_1_2 ++ (tables_1_3 ++ tables_1_4)) from List.mem_append_right _ (List.mem_append_left _ (List.mem_of_getElem? (i := 41) (show tables_1_2[41]? = _ from rfl)))), rfl⟩
set_option maxRecDepth 100000 in
theorem tm_41 : tm_P 41 := List.mem_filter.mpr ⟨List.mem_append_right _ (show _ ∈ tables_1_1 ++ (tables_1_2 ++ (tables_1_3 ++ tables_1_4)) from List.mem_append_right _ (List.mem_append_left _ (List.mem_of_getElem? (i := 49) (show tables_1_2[49]? = _ from rfl)))), rfl⟩
set_option maxRecDepth 100000 in
theorem tm_42 : tm_P 42 := List.mem_filter.mpr ⟨List.mem_append_right _ (show _ ∈ tables_1_1 ++ (tables_1_2 ++ (tables_1_3 ++ tables_1_4)) from List.mem_append_right _ (List.mem_append_left _ (List.mem_of_getElem? (i := 57) (show tables_1_2[57]? = _ from rfl)))), rfl⟩
set_option maxRecDepth 100000 in
theorem tm_43 : tm_P 43 := List.mem_filter.mpr ⟨List.mem_append_right _ (show _ ∈ tables_1_1 ++ (tables_1_2 ++ (tables_1_3 ++ tables_1_4)) from List.mem_append_right _ (List.mem_append_left _ (List.mem_of_getElem? (i := 61) (show tables_1_2[61]? = _ from rfl)))), rfl⟩
set_option maxRecDepth 100000 in
theorem tm_44 : tm_P 44 := List.mem_filter.mpr ⟨List.mem_append_right _ (show _ ∈ tables_1_1 ++ (tables_1_2 ++ (tables_1_3 ++ tables_1_4)) from List.mem_append_right _ (List.mem_append_left _ (List.mem_of_getElem? (i := 53) (show tables_1_2[53]? = _ from rfl)))), rfl⟩
set_option maxRecDepth 100000 in
theorem tm_45 : tm_P 45 := List.mem_filter.mpr ⟨List.mem_append_right _ (show _ ∈ tables_1_1 ++ (tables_1_2 ++ (tables_1_3 ++ tables_1_4)) from List.mem_append_right _ (List.mem_append_right _ (List.mem_append_left _ (List.mem_of_getElem? (i := 23) (show tables_1_3[23]? = _ from rfl))))), rfl⟩
set_option maxRecDepth 100000 in
theorem tm_46 : tm_P 46 := List.mem_filter.mpr ⟨List.mem_append_right _ (show _ ∈ tables_1_1 ++ (tables_1_2 ++ (tables_1_3 ++ tables_1_4)) from List.mem_append_left _ (List.mem_of_getElem? (i := 52) (show tables_1_1[52]? = _ from rfl))), rfl⟩
set_option maxRecDepth 100000 in
theorem tm_47 : tm_P 47 := List.mem_filter.mpr ⟨List.mem_append_right _ (show _ ∈ tables_1_1 ++ (tables_1_2 ++ (tables_1_3 ++ tables_1_4)) from List.mem_append_right _ (List.mem_append_left _ (List.mem_of_getElem? (i := 81) (show tables_1_2[81]? = _ from rfl)))), rfl⟩
set_option maxRecDepth 100000 in
theorem tm_48 : tm_P 48 := List.mem_filter.mpr ⟨List.mem_append_right _ (show _ ∈ tables_1_1 ++ (tables_1_2 ++ (tables_1_3 ++ tables_1_4)) from List.mem_append_right _ (List.mem_append_left _ (List.mem_of_getElem? (i := 86) (show tables_1_2[86]? = _ from rfl)))), rfl⟩
set_option maxRecDepth 100000 in
theorem tm_49 : tm_P 49 := List.mem_filter.mpr ⟨List.mem_append_right _ (show _ ∈ tables_1_1 ++ (tables_1_2 ++ (tables_1_3 ++ tables_1_4)) from List.mem_append_right _ (List.mem_append_left _ (List.mem_of_getElem? (i := 94) (show tables_1_2[94]? = _ from rfl)))), rfl⟩
set_option maxRecDepth 100000 in
theorem tm_50 : tm_P 50 := List.mem_filter.mpr ⟨List.mem_append_right _ (show _ ∈ tables_1_1 ++ (tables_1_2 ++ (tables_1_3 ++ tables_1_4)) from List.mem_append_right _ (List.mem_append_left _ (List.mem_of_getElem? (i := 102) (show tables_1_2[102]? = _ from rfl)))), rfl⟩
set_option maxRecDepth 100000 in
theorem tm_51 : tm_P 51 := List.mem_filter.mpr ⟨List.mem_append_right _ (show _ ∈ tables_1_1 ++ (tables_1_2 ++ (tables_1_3 ++ tables_1_4)) from List.mem_append_right _ (List.mem_append_left _ (List.mem_of_getElem? (i := 106) (show tables_1_2[106]? = _ from rfl)))), rfl⟩
set_option maxRecDepth 100000 in
theorem tm_52 : tm_P 52 := List.mem_filter.mpr ⟨List.mem_append_right _ (show _ ∈ tables_1_1 ++ (tables_1_2 ++ (tables_1_3 ++ tables_1_4)) from List.mem_append_right _ (List.mem_append_left _ (List.mem_of_getElem? (i := 110) (show tables_1_2[110]? = _ from rfl)))), rfl⟩
set_option maxRecDepth 100000 in
theorem tm_53 : tm_P 53 := List.mem_filter.mpr ⟨List.mem_append_right _ (show _ ∈ tables_1_1 ++ (tables_1_2 ++ (tables_1_3 ++ tables_1_4)) from List.mem_append_right _ (List.mem_append_left _ (List.mem_of_getElem? (i := 126) (show tables_1_2[126]? = _ from rfl)))), rfl⟩
set_option maxRecDepth 100000 in
theorem tm_54 : tm_P 54 := List.mem_filter.mpr ⟨List.mem_append_right _ (show _ ∈ tables_1_1 ++ (tables_1_2 ++ (tables_1_3 ++ tables_1_4)) from List.mem_append_right _ (List.mem_append_left _ (List.mem_of_getElem? (i := 90) (show tables_1_2[90]? = _ from rfl)))), rfl⟩
set_option maxRecDepth 100000 in
theorem tm_55 : tm_P 55 := List.mem_filter.mpr ⟨List.mem_append_right _ (show _ ∈ tables_1_1 ++ (tables_1_2 ++ (tables_1_3 ++ tables_1_4)) from List.mem_append_right _ (List.mem_append_left _ (List.mem_of_getElem? (i := 98) (show tables_1_2[98]? = _ from rfl)))), rfl⟩
set_option maxRecDepth 100000 in
theorem tm_56 : tm_P 56 := List.mem_filter.mpr ⟨List.mem_append_right _ (show _ ∈ tables_1_1 ++ (tables_1_2 ++ (tables_1_3 ++ tables_1_4)) from List.mem_append_right _ (List.mem_append_left _ (List.mem_of_getElem? (i := 114) (show tables_1_2[114]? = _ from rfl)))), rfl⟩
set_option maxRecDepth 100000 in
theorem tm_57 : tm_P 57 := List.mem_filter.mpr ⟨List.mem_append_right _ (show _ ∈ tables_1_1 ++ (tables_1_2 ++ (tables_1_3 ++ tables_1_4)) from List.mem_append_left _ (List.mem_of_getElem? (i := 58) (show tables_1_1[58]? = _ from rfl))), rfl⟩
set_option maxRecDepth 100000 in
theorem tm_58 : tm_P 58 := List.mem_filter.mpr ⟨List.mem_append_right _ (show _ ∈ tables_1_1 ++ (tables_1_2 ++ (tables_1_3 ++ tables_1_4)) from List.mem_append_left _ (List.mem_of_getElem? (i := 63) (show tables_1_1[63]? = _ from rfl))), rfl⟩
set_option maxRecDepth 100000 in
theorem tm_59 : tm_P 59 := List.mem_filter.mpr ⟨List.mem_append_right _ (show _ ∈ tables_1_1 ++ (tables_1_2 ++ (tables_1_3 ++ tables_1_4)) from List.mem_append_right _ (List.mem_append_left _ (List.mem_of_getElem? (i := 138) (show tables_1_2[138]? = _ from rfl)))), rfl⟩
set_option maxRecDepth 100000 in
theorem tm_60 : tm_P 60 := List.mem_filter.mpr ⟨List.mem_append_right _ (show _ ∈ tables_1_1 ++ (tables_1_2 ++ (tables_1_3 ++ tables_1_4)) from List.mem_append_right _ (List.mem_append_left _ (List.mem_of_getElem? (i := 134) (show tables_1_2[134]? = _ from rfl)))), rfl⟩
set_option maxRecDepth 100000 in
theorem tm_61 : tm_P 61 := List.mem_filter.mpr ⟨List.mem_append_right _ (show _ ∈ tables_1_1 ++ (tables_1_2 ++ (tables_1_3 ++ tables_1_4)) from List.mem_append_right _ (List.mem_append_left _ (List.mem_of_getElem? (i := 118) (show tables_1_2[118]? = _ from rfl)))), rfl⟩
set_option maxRecDepth 100000 in
theorem tm_62 : tm_P 62 := List.mem_filter.mpr ⟨List.mem_append_right _ (show _ ∈ tables_1_1 ++ (tables_1_2 ++ (tables_1_3 ++ tables_1_4)) from List.mem_append_right _ (List.mem_append_left _ (List.mem_of_getElem? (i := 122) (show tables_1_2[122]? = _ from rfl)))), rfl⟩
set_option maxRecDepth 100000 in
theorem tm_63 : tm_P 63 := List.mem_filter.mpr ⟨List.mem_append_right _ (show _ ∈ tables_1_1 ++ (tables_1_2 ++ (tables_1_3 ++ tables_1_4)) from List.mem_append_right _ (List.mem_append_right _ (List.mem_append_left _ (List.mem_of_getElem? (i := 64) (show tables_1_3[64]? = _ from rfl))))), rfl⟩
set_option maxRecDepth 100000 in
theorem tm_64 : tm_P 64 := List.mem_filter.mpr ⟨List.mem_append_right _ (show _ ∈ tables_1_1 ++ (tables_1_2 ++ (tables_1_3 ++ tables_1_4)) from List.mem_append_right _ (List.mem_append_right _ (List.mem_append_left _ (List.mem_of_getElem? (i := 72) (show tables_1_3[72]? = _ from rfl))))), rfl⟩
set_option maxRecDepth 100000 in
theorem tm_65 : tm_P 65 := List.mem_filter.mpr ⟨List.mem_append_right _ (show _ ∈ tables_1_1 ++ (tables_1_2 ++ (tables_1_3 ++ tables_1_4)) from List.mem_append_right _ (List.mem_append_right _ (List.mem_append_left _ (List.mem_of_getElem? (i := 68) (show tables_1_3[68]? = _ from rfl))))), rfl⟩
set_option maxRecDepth 100000 in
theorem tm_66 : tm_P 66 := List.mem_filter.mpr ⟨List.mem_append_right _ (show _ ∈ tables_1_1 ++ (tables_1_2 ++ (tables_1_3 ++ tables_1_4)) from List.mem_append_right _ (List.mem_append_right _ (List.mem_append_left _ (List.mem_of_getElem? (i := 27) (show tables_1_3[27]? = _ from rfl))))), rfl⟩
set_option maxRecDepth 100000 in
theorem tm_67 : tm_P 67 := List.mem_filter.mpr ⟨List.mem_append_right _ (show _ ∈ tables_1_1 ++ (tables_1_2 ++ (tables_1_3 ++ tables_1_4)) from List.mem_append_right _ (List.mem_append_right _ (List.mem_append_left _ (List.mem_of_getElem? (i := 35) (show tables_1_3[35]? = _ from rfl))))), rfl⟩
set_option maxRecDepth 100000 in
theorem tm_68 : tm_P 68 := List.mem_filter.mpr ⟨List.mem_append_right _ (show _ ∈ tables_1_1 ++ (tables_1_2 ++ (tables_1_3 ++ tables_1_4)) from List.mem_append_right _ (List.mem_append_right _ (List.mem_append_left _ (List.mem_of_getElem? (i := 31) (show tables_1_3[31]? = _ from rfl))))), rfl⟩
set_option maxRecDepth 100000 in
theorem tm_69 : tm_P 69 := List.mem_filter.mpr ⟨List.mem_append_right _ (show _ ∈ tables_1_1 ++ (tables_1_2 ++ (tables_1_3 ++ tables_1_4)) from List.mem_append_right _ (List.mem_append_right _ (List.mem_append_left _ (List.mem_of_getElem? (i := 39) (show tables_1_3[39]? = _ from rfl))))), rfl⟩
set_option maxRecDepth 100000 in
theorem tm_70 : tm_P 70 := List.mem_filter.mpr ⟨List.mem_append_right _ (show _ ∈ tables_1_1 ++ (tables_1_2 ++ (tables_1_3 ++ tables_1_4)) from List.mem_append_left _ (List.mem_of_getElem? (i := 121) (show tables_1_1[121]? = _ from rfl))), rfl⟩
set_option maxRecDepth 100000 in
theorem tm_71 : tm_P 71 := List.mem_filter.mpr ⟨List.mem_append_right _ (show _ ∈ tables_1_1 ++ (tables_1_2 ++ (tables_1_3 ++ tables_1_4)) from List.mem_append_right _ (List.mem_append_left _ (List.mem_of_getElem? (i := 77) (show tables_1_2[77]? = _ from rfl)))), rfl⟩
set_option maxRecDepth 100000 in
theorem tm_72 : tm_P 72 := List.mem_filter.mpr ⟨List.mem_append_right _ (show _ ∈ tables_1_1 ++ (tables_1_2 ++ (tables_1_3 ++ tables_1_4)) from List.mem_append_right _ (List.mem_append_left _ (List.mem_of_getElem? (i := 130) (show tables_1_2[130]? = _ from rfl)))), rfl⟩
set_option maxRecDepth 100000 in
theorem tm_73 : tm_P 73 := List.mem_filter.mpr ⟨List.mem_append_right _ (show _ ∈ tables_1_1 ++ (tables_1_2 ++ (tables_1_3 ++ tables_1_4)) from List.mem_append_left _ (List.mem_of_getElem? (i := 149) (show tables_1_1[149]? = _ from rfl))), rfl⟩
set_option maxRecDepth 100000 in
theorem tm_74 : tm_P 74 := List.mem_filter.mpr ⟨List.mem_append_right _ (show _ ∈ tables_1_1 ++ (tables_1_2 ++ (tables_1_3 ++ tables_1_4)) from List.mem_append_right _ (List.mem_append_left _ (List.mem_of_getElem? (i := 183) (show tables_1_2[183]? = _ from rfl)))), rfl⟩
set_option maxRecDepth 100000 in
theorem tm_75 : tm_P 75 := List.mem_filter.mpr ⟨List.mem_append_right _ (show _ ∈ tables_1_1 ++ (tables_1_2 ++ (tables_1_3 ++ tables_1_4)) from List.mem_append_right _ (List.mem_append_right _ (List.mem_append_left _ (List.mem_of_getElem? (i := 92) (show tables_1_3[92]? = _ from rfl))))), rfl⟩
set_option maxRecDepth 100000 in
theorem tm_76 : tm_P 76 := List.mem_filter.mpr ⟨List.mem_append_right _ (show _ ∈ tables_1_1 ++ (tables_1_2 ++ (tables_1_3 ++ tables_1_4)) from List.mem_append_right _ (List.mem_append_right _ (List.mem_append_left _ (List.mem_of_getElem? (i := 19) (show tables_1_3[19]? = _ from rfl))))), rfl⟩
set_option maxRecDepth 100000 in
theorem tm_77 : tm_P 77 := List.mem_filter.mpr ⟨List.mem_append_right _ (show _ ∈ tables_1_1 ++ (tables_1_2 ++ (tables_1_3 ++ tables_1_4)) from List.mem_append_left _ (List.mem_of_getElem? (i := 34) (show tables_1_1[34]? = _ from rfl))), rfl⟩
set_option maxRecDepth 100000 in
theorem tm_78 : tm_P 78 := List.mem_filter.mpr ⟨List.mem_append_right _ (show _ ∈ tables_1_1 ++ (tables_1_2 ++ (tables_1_3 ++ tables_1_4)) from List.mem_append_right _ (List.mem_append_left _ (List.mem_of_getElem? (i := 193) (show tables_1_2[193]? = _ from rfl)))), rfl⟩
set_option maxRecDepth 100000 in
theorem tm_79 : tm_P 79 := List.mem_filter.mpr ⟨List.mem_append_right _ (show _ ∈ tables_1_1 ++ (tables_1_2 ++ (tables_1_3 ++ tables_1_4)) from List.mem_append_right _ (List.mem_append_left _ (List.mem_of_getElem? (i := 204) (show tables_1_2[204]? = _ from rfl)))), rfl⟩
set_option maxRecDepth 100000 in
theorem tm_80 : tm_P 80 := List.mem_filter.mpr ⟨List.mem_append_right _ (show _ ∈ tables_1_1 ++ (tables_1_2 ++ (tables_1_3 ++ tables_1_4)) from List.mem_append_right _ (List.mem_append_left _ (List.mem_of_getElem? (i := 217) (show tables_1_2[217]? = _ from rfl)))), rfl⟩
set_option maxRecDepth 100000 in
theorem tm_81 : tm_P 81 := List.mem_filter.mpr ⟨List.mem_append_right _ (show _ ∈ tables_1_1 ++ (tables_1_2 ++ (tables_1_3 ++ tables_1_4)) from List.mem_append_left _ (List.mem_of_getElem? (i := 167) (show tables_1_1[167]? = _ from rfl))), rfl⟩
set_option maxRecDepth 100000 in
theorem tm_82 : tm_P 82 := List.mem_filter.mpr ⟨List.mem_append_right _ (show _ ∈ tables_1_1 ++ (tables_1_2 ++ (tables_1_3 ++ tables_1_4)) from List.mem_append_left _ (List.mem_of_getElem? (i := 193) (show tables_1_1[193]? = _ from rfl))), rfl⟩
set_option maxRecDepth 100000 in
theorem tm_83 : tm_P 83 := List.mem_filter.mpr ⟨List.mem_append_right _ (show _ ∈ tables_1_1 ++ (tables_1_2 ++ (tables_1_3 ++ tables_1_4)) from List.mem_append_right _ (List.mem_append_left _ (List.mem_of_getElem? (i := 238) (show tables_1_2[238]? = _ from rfl)))), rfl⟩
set_option maxRecDepth 100000 in
theorem tm_84 : tm_P 84 := List.mem_filter.mpr ⟨List.mem_append_right _ (show _ ∈ tables_1_1 ++ (tables_1_2 ++ (tables_1_3 ++ tables_1_4)) from List.mem_append_left _ (List.mem_of_getElem? (i := 187) (show tables_1_1[187]? = _ from rfl))), rfl⟩
set_option maxRecDepth 100000 in
theorem tm_85 : tm_P 85 := List.mem_filter.mpr ⟨List.mem_append_right _ (show _ ∈ tables_1_1 ++ (tables_1_2 ++ (tables_1_3 ++ tables_1_4)) from List.mem_append_right _ (List.mem_append_right _ (List.mem_append_left _ (List.mem_of_getElem? (i := 43) (show tables_1_3[43]? = _ from rfl))))), rfl⟩
set_option maxRecDepth 100000 in
theorem tm_86 : tm_P 86 := List.mem_filter.mpr ⟨List.mem_append_right _ (show _ ∈ tables_1_1 ++ (tables_1_2 ++ (tables_1_3 ++ tables_1_4)) from List.mem_append_right _ (List.mem_append_right _ (List.mem_append_left _ (List.mem_of_getElem? (i := 110) (show tables_1_3[110]? = _ from rfl))))), rfl⟩
set_option maxRecDepth 100000 in
theorem tm_87 : tm_P 87 := List.mem_filter.mpr ⟨List.mem_append_right _ (show _ ∈ tables_1_1 ++ (tables_1_2 ++ (tables_1_3 ++ tables_1_4)) from List.mem_append_right _ (List.mem_append_right _ (List.mem_append_right _ (List.mem_of_getElem? (i := 15) (show tables_1_4[15]? = _ from rfl))))), rfl⟩
set_option maxRecDepth 100000 in
theorem tm_88 : tm_P 88 := List.mem_filter.mpr ⟨List.mem_append_right _ (show _ ∈ tables_1_1 ++ (tables_1_2 ++ (tables_1_3 ++ tables_1_4)) from List.mem_append_right _ (List.mem_append_right _ (List.mem_append_right _ (List.mem_of_getElem? (i := 12) (show tables_1_4[12]? = _ from rfl))))), rfl⟩
set_option maxRecDepth 100000 in
theorem tm_89 : tm_P 89 := List.mem_filter.mpr ⟨List.mem_append_right _ (show _ ∈ tables_1_1 ++ (tables_1_2 ++ (tables_1_3 ++ tables_1_4)) from List.mem_append_right _ (List.mem_append_right _ (List.mem_append_right _ (List.mem_of_getElem? (i := 19) (show tables_1_4[19]? = _ from rfl))))), rfl⟩
set_option maxRecDepth 100000 in
theorem tm_90 : tm_P 90 := List.mem_filter.mpr ⟨List.mem_append_right _ (show _ ∈ tables_1_1 ++ (tables_1_2 ++ (tables_1_3 ++ tables_1_4)) from List.mem_append_right _ (List.mem_append_right _ (List.mem_append_right _ (List.mem_of_getElem? (i := 47) (show tables_1_4[47]? = _ from rfl))))), rfl⟩
set_option maxRecDepth 100000 in
theorem tm_91 : tm_P 91 := List.mem_filter.mpr ⟨List.mem_append_right _ (show _ ∈ tables_1_1 ++ (tables_1_2 ++ (tables_1_3 ++ tables_1_4)) from List.mem_append_right _ (List.mem_append_right _ (List.mem_append_right _ (List.mem_of_getElem? (i := 39) (show tables_1_4[39]? = _ from rfl))))), rfl⟩
set_option maxRecDepth 100000 in
theorem tm_92 : tm_P 92 := List.mem_filter.mpr ⟨List.mem_append_right _ (show _ ∈ tables_1_1 ++ (tables_1_2 ++ (tables_1_3 ++ tables_1_4)) from List.mem_append_right _ (List.mem_append_right _ (List.mem_append_right _ (List.mem_of_getElem? (i := 43) (show tables_1_4[43]? = _ from rfl))))), rfl⟩
set_option maxRecDepth 100000 in
theorem tm_93 : tm_P 93 := List.mem_filter.mpr ⟨List.mem_append_right _ (show _ ∈ tables_1_1 ++ (tables_1_2 ++ (tables_1_3 ++ tables_1_4)) from List.mem_append_right _ (List.mem_append_right _ (List.mem_append_right _ (List.mem_of_getElem? (i := 63) (show tables_1_4[63]? = _ from rfl))))), rfl⟩
set_option maxRecDepth 100000 in
theorem tm_94 : tm_P 94 := List.mem_filter.mpr ⟨List.mem_append_right _ (show _ ∈ tables_1_1 ++ (tables_1_2 ++ (tables_1_3 ++ tables_1_4)) from List.mem_append_right _ (List.mem_append_right _ (List.mem_append_right _ (List.mem_of_getElem? (i := 59) (show tables_1_4[59]? = _ from rfl))))), rfl⟩
set_option maxRecDepth 100000 in
theorem tm_95 : tm_P 95 := List.mem_filter.mpr ⟨List.mem_append_right _ (show _ ∈ tables_1_1 ++ (tables_1_2 ++ (tables_1_3 ++ tables_1_4)) from List.mem_append_right _ (List.mem_append_right _ (List.mem_append_right _ (List.mem_of_getElem? (i := 51) (show tables_1_4[51]? = _ from rfl))))), rfl⟩
set_option maxRecDepth 100000 in
theorem tm_96 : tm_P 96 := List.mem_filter.mpr ⟨List.mem_append_right _ (show _ ∈ tables_1_1 ++ (tables_1_2 ++ (tables_1_3 ++ tables_1_4)) from List.mem_append_right _ (List.mem_append_right _ (List.mem_append_right _ (List.mem_of_getElem? (i := 55) (show tables_1_4[55]? = _ from rfl))))), rfl⟩
set_option maxRecDepth 100000 in
theorem tm_97 : tm_P 97 := List.mem_filter.mpr ⟨List.mem_append_right _ (show _ ∈ tables_1_1 ++ (tables_1_2 ++ (tables_1_3 ++ tables_1_4)) from List.mem_append_right _ (List.mem_append_right _ (List.mem_append_right _ (List.mem_of_getElem? (i := 67) (show tables_1_4[67]? = _ from rfl))))), rfl⟩
set_option maxRecDepth 100000 in
theorem tm_98 : tm_P 98 := List.mem_filter.mpr ⟨List.mem_append_right _ (show _ ∈ tables_1_1 ++ (tables_1_2 ++ (tables_1_3 ++ tables_1_4)) from List.mem_append_right _ (List.mem_append_right _ (List.mem_append_right _ (List.mem_of_getElem? (i := 71) (show tables_1_4[71]? = _ from rfl))))), rfl⟩
set_option maxRecDepth 100000 in
theorem tm_99 : tm_P 99 := List.mem_filter.mpr ⟨List.mem_append_right _ (show _ ∈ tables_1_1 ++ (tables_1_2 ++ (tables_1_3 ++ tables_1_4)) from List.mem_append_right _ (List.mem_append_right _ (List.mem_append_right _ (List.mem_of_getElem? (i := 75) (show tables_1_4[75]? = _ from rfl))))), rfl⟩
set_option maxRecDepth 100000 in
theorem tm_100 : tm_P 100 := List.mem_filter.mpr ⟨List.mem_append_right _ (show _ ∈ tables_1_1 ++ (tables_1_2 ++ (tables_1_3 ++ tables_1_4)) from List.mem_append_right _ (List.mem_append_right _ (List.mem_append_right _ (List.mem_of_getElem? (i := 79) (show tables_1_4[79]? = _ from rfl))))), rfl⟩
set_option maxRecDepth 100000 in
theorem tm_101 : tm_P 101 := List.mem_filter.mpr ⟨List.mem_append_right _ (show _ ∈ tables_1_1 ++ (tables_1_2 ++ (tables_1_3 ++ tables_1_4)) from List.mem_append_right _ (List.mem_append_right _ (List.mem_append_right _ (List.mem_of_getElem? (i := 31) (show tables_1_4[31]? = _ from rfl))))), rfl⟩
set_option maxRecDepth 100000 in
theorem tm_102 : tm_P 102 := List.mem_filter.mpr ⟨List.mem_append_right _ (show _ ∈ tables_1_1 ++ (tables_1_2 ++ (tables_1_3 ++ tables_1_4)) from List.mem_append_right _ (List.mem_append_right _ (List.mem_append_right _ (List.mem_of_getElem? (i := 35) (show tables_1_4[35]? = _ from rfl))))), rfl⟩
set_option maxRecDepth 100000 in
theorem tm_103 : tm_P 103 := List.mem_filter.mpr ⟨List.mem_append_right _ (show _ ∈ tables_1_1 ++ (tables_1_2 ++ (tables_1_3 ++ tables_1_4)) from List.mem_append_right _ (List.mem_append_right _ (List.mem_append_right _ (List.mem_of_getElem? (i := 23) (show tables_1_4[23]? = _ from rfl))))), rfl⟩
set_option maxRecDepth 100000 in
theorem tm_104 : tm_P 104 := List.mem_filter.mpr ⟨List.mem_append_right _ (show _ ∈ tables_1_1 ++ (tables_1_2 ++ (tables_1_3 ++ tables_1_4)) from List.mem_append_right _ (List.mem_append_right _ (List.mem_append_right _ (List.mem_of_getElem? (i := 27) (show tables_1_4[27]? = _ from rfl))))), rfl⟩
set_option maxRecDepth 100000 in
theorem tm_105 : tm_P 105 := List.mem_filter.mpr ⟨List.mem_append_right _ (show _ ∈ tables_1_1 ++ (tables_1_2 ++ (tables_1_3 ++ tables_1_4)) from List.mem_append_right _ (List.mem_append_right _ (List.mem_append_right _ (List.mem_of_getElem? (i := 83) (show tables_1_4[83]? = _ from rfl))))), rfl⟩
set_option maxRecDepth 100000 in
theorem tm_106 : tm_P 106 := List.mem_filter.mpr ⟨List.mem_append_right _ (show _ ∈ tables_1_1 ++ (tables_1_2 ++ (tables_1_3 ++ tables_1_4)) from List.mem_append_right _ (List.mem_append_right _ (List.mem_append_right _ (List.mem_of_getElem? (i := 91) (show tables_1_4[91]? = _ from rfl))))), rfl⟩
set_option maxRecDepth 100000 in
theorem tm_107 : tm_P 107 := List.mem_filter.mpr ⟨List.mem_append_right _ (show _ ∈ tables_1_1 ++ (tables_1_2 ++ (tables_1_3 ++ tables_1_4)) from List.mem_append_right _ (List.mem_append_right _ (List.mem_append_right _ (List.mem_of_getElem? (i := 99) (show tables_1_4[99]? = _ from rfl))))), rfl⟩
set_option maxRecDepth 100000 in
theorem tm_108 : tm_P 108 := List.mem_filter.mpr ⟨List.mem_append_right _ (show _ ∈ tables_1_1 ++ (tables_1_2 ++ (tables_1_3 ++ tables_1_4)) from List.mem_append_right _ (List.mem_append_right _ (List.mem_append_right _ (List.mem_of_getElem? (i := 95) (show tables_1_4[95]? = _ from rfl))))), rfl⟩
set_option maxRecDepth 100000 in
theorem tm_109 : tm_P 109 := List.mem_filter.mpr ⟨List.mem_append_right _ (show _ ∈ tables_1_1 ++ (tables_1_2 ++ (tables_1_3 ++ tables_1_4)) from List.mem_append_right _ (List.mem_append_right _ (List.mem_append_right _ (List.mem_of_getElem? (i := 87) (show tables_1_4[87]? = _ from rfl))))), rfl⟩
set_option maxRecDepth 100000 in
theorem tm_110 : tm_P 110 := List.mem_filter.mpr ⟨List.mem_append_right _ (show _ ∈ tables_1_1 ++ (tables_1_2 ++ (tables_1_3 ++ tables_1_4)) from List.mem_append_right _ (List.mem_append_right _ (List.mem_append_right _ (List.mem_of_getElem? (i := 103) (show tables_1_4[103]? = _ from rfl))))), rfl⟩
set_option maxRecDepth 100000 in
theorem tm_111 : tm_P 111 := List.mem_filter.mpr ⟨List.mem_append_right _ (show _ ∈ tables_1_1 ++ (tables_1_2 ++ (tables_1_3 ++ tables_1_4)) from List.mem_append_right _ (List.mem_append_right _ (List.mem_append_right _ (List.mem_of_getElem? (i := 107) (show tables_1_4[107]? = _ from rfl))))), rfl⟩
set_option maxRecDepth 100000 in
theorem tm_112 : tm_P 112 := List.mem_filter.mpr ⟨List.mem_append_right _ (show _ ∈ tables_1_1 ++ (tables_1_2 ++ (tables_1_3 ++ tables_1_4)) from List.mem_append_right _ (List.mem_append_right _ (List.mem_append_right _ (List.mem_of_getElem? (i := 111) (show tables_1_4[111]? = _ from rfl))))), rfl⟩
set_option maxRecDepth 100000 in
theorem tm_113 : tm_P 113 := List.mem_filter.mpr ⟨List.mem_append_right _ (show _ ∈ tables_1_1 ++ (tables_1_2 ++ (tables_1_3 ++ tables_1_4)) from List.mem_append_right _ (List.mem_append_right _ (List.mem_append_right _ (List.mem_of_getElem? (i := 115) (show tables_1_4[115]? = _ from rfl))))), rfl⟩
set_option maxRecDepth 100000 in
theorem tm_114 : tm_P 114 := List.mem_filter.mpr ⟨List.mem_append_right _ (show _ ∈ tables_1_1 ++ (tables_1_2 ++ (tables_1_3 ++ tables_1_4)) from List.mem_append_right _ (List.mem_append_right _ (List.mem_append_right _ (List.mem_of_getElem? (i := 119) (show tables_1_4[119]? = _ from rfl))))), rfl⟩
set_option maxRecDepth 100000 in
theorem tm_115 : tm_P 115 := List.mem_filter.mpr ⟨List.mem_append_right _ (show _ ∈ tables_1_1 ++ (tables_1_2 ++ (tables_1_3 ++ tables_1_4)) from List.mem_append_right _ (List.mem_append_right _ (List.mem_append_right _ (List.mem_of_getElem? (i := 123) (show tables_1_4[123]? = _ from rfl))))), rfl⟩
set_option maxRecDepth 100000 in
theorem tm_116 : tm_P 116 := List.mem_filter.mpr ⟨List.mem_append_right _ (show _ ∈ tables_1_1 ++ (tables_1_2 ++ (tables_1_3 ++ tables_1_4)) from List.mem_append_right _ (List.mem_append_right _ (List.mem_append_right _ (List.mem_of_getElem? (i := 127) (show tables_1_4[127]? = _ from rfl))))), rfl⟩
set_option maxRecDepth 100000 in
theorem tm_117 : tm_P 117 := List.mem_filter.mpr ⟨List.mem_append_right _ (show _ ∈ tables_1_1 ++ (tables_1_2 ++ (tables_1_3 ++ tables_1_4)) from List.mem_append_right _ (List.mem_append_right _ (List.mem_append_right _ (List.mem_of_getElem? (i := 131) (show tables_1_4[131]? = _ from rfl))))), rfl⟩
set_option maxRecDepth 100000 in
theorem tm_118 : tm_P 118 := List.mem_filter.mpr ⟨List.mem_append_right _ (show _ ∈ tables_1_1 ++ (tables_1_2 ++ (tables_1_3 ++ tables_1_4)) from List.mem_append_right _ (List.mem_append_right _ (List.mem_append_right _ (List.mem_of_getElem? (i := 135) (show tables_1_4[135]? = _ from rfl))))), rfl⟩
set_option maxRecDepth 100000 in
theorem tm_119 : tm_P 119 := List.mem_filter.mpr ⟨List.mem_append_right _ (show _ ∈ tables_1_1 ++ (tables_1_2 ++ (tables_1_3 ++ tables_1_4)) from List.mem_append_right _ (List.mem_append_right _ (List.mem_append_right _ (List.mem_of_getElem? (i := 143) (show tables_1_4[143]? = _ from rfl))))), rfl⟩
set_option maxRecDepth 100000 in
theorem tm_120 : tm_P 120 := List.mem_filter.mpr ⟨List.mem_append_right _ (show _ ∈ tables_1_1 ++ (tables_1_2 ++ (tables_1_3 ++ tables_1_4)) from List.mem_append_right _ (List.mem_append_right _ (List.mem_append_right _ (List.mem_of_getElem? (i := 139) (show tables_1_4[139]? = _ from rfl))))), rfl⟩
set_option maxRecDepth 100000 in
theorem tm_121 : tm_P 121 := List.mem_filter.mpr ⟨List.mem_append_right _ (show _ ∈ tables_1_1 ++ (tables_1_2 ++ (tables_1_3 ++ tables_1_4)) from List.mem_append_right _ (List.mem_append_right _ (List.mem_append_right _ (List.mem_of_getElem? (i := 147) (show tables_1_4[147]? = _ from rfl))))), rfl⟩
set_option maxRecDepth 100000 in
theorem tm_122 : tm_P 122 := List.mem_filter.mpr ⟨List.mem_append_right _ (show _ ∈ tables_1_1 ++ (tables_1_2 ++ (tables_1_3 ++ tables_1_4)) from List.mem_append_right _ (List.mem_append_right _ (List.mem_append_right _ (List.mem_of_getElem? (i := 151) (show tables_1_4[151]? = _ from rfl))))), rfl⟩
theorem tg_0 : ∀ j ∈ [0, 1, 2, 3, 4, 5, 6, 7, 8, 9, 10, 11, 12, 13, 14, 15], tm_P j := List.forall_mem_cons.mpr ⟨tm_0, List.forall_mem_cons.mpr ⟨tm_1, List.forall_mem_cons.mpr ⟨tm_2, List.forall_mem_cons.mpr ⟨tm_3, List.forall_mem_cons.mpr ⟨tm_4, List.forall_mem_cons.mpr ⟨tm_5, List.forall_mem_cons.mpr ⟨tm_6, List.forall_mem_cons.mpr ⟨tm_7, List.forall_mem_cons.mpr ⟨tm_8, List.forall_mem_cons.mpr ⟨tm_9, List.forall_mem_cons.mpr ⟨tm_10, List.forall_mem_cons.mpr ⟨tm_11, List.forall_mem_cons.mpr ⟨tm_12, List.forall_mem_cons.mpr ⟨tm_13, List.forall_mem_cons.mpr ⟨tm_14, List.forall_mem_cons.mpr ⟨tm_15, fun _ h => absurd h List.not_mem_nil⟩⟩⟩⟩⟩⟩⟩⟩⟩⟩⟩⟩⟩⟩⟩⟩
theorem tg_1 : ∀ j ∈ [16, 17, 18, 19, 20, 21, 22, 23, 24, 25, 26, 27, 28, 29, 30, 31], tm_P j := List.forall_mem_cons.mpr ⟨tm_16, List.forall_mem_cons.mpr ⟨tm_17, List.forall_mem_cons.mpr ⟨tm_18, List.forall_mem_cons.mpr ⟨tm_19, List.forall_mem_cons.mpr ⟨tm_20, List.forall_mem_cons.mpr ⟨tm_21, List.forall_mem_cons.mpr ⟨tm_22, List.forall_mem_cons.mpr ⟨tm_23, List.forall_mem_cons.mpr ⟨tm_24, List.forall_mem_cons.mpr ⟨tm_25, List.forall_mem_cons.mpr ⟨tm_26, List.forall_mem_cons.mpr ⟨tm_27, List.forall_mem_cons.mpr ⟨tm_28, List.forall_mem_cons.mpr ⟨tm_29, List.forall_mem_cons.mpr ⟨tm_30, List.forall_mem_cons.mpr ⟨tm_31, fun _ h => absurd h List.not_mem_nil⟩⟩⟩⟩⟩⟩⟩⟩⟩⟩⟩⟩⟩⟩⟩⟩
theorem tg_2 : ∀ j ∈ [32, 33, 34, 35, 36, 37, 38, 39, 40, 41, 42, 43, 44, 45, 46, 47], tm_P j := List.forall_mem_cons.mpr ⟨tm_32, List.forall_mem_cons.mpr ⟨tm_33, List.forall_mem_cons.mpr ⟨tm_34, List.forall_mem_cons.mpr ⟨tm_35, List.forall_mem_cons.mpr ⟨tm_36, List.forall_mem_cons.mpr ⟨tm_37, List.forall_mem_cons.mpr ⟨tm_38, List.forall_mem_cons.mpr ⟨tm_39, List.forall_mem_cons.mpr ⟨tm_40, List.forall_mem_cons.mpr ⟨tm_41, List.forall_mem_cons.mpr ⟨tm_42, List.forall_mem_cons.mpr ⟨tm_43, List.forall_mem_cons.mpr ⟨tm_44, List.forall_mem_cons.mpr ⟨tm_45, List.forall_mem_cons.mpr ⟨tm_46, List.forall_mem_cons.mpr ⟨tm_47, fun _ h => absurd h List.not_mem_nil⟩⟩⟩⟩⟩⟩⟩⟩⟩⟩⟩⟩⟩⟩⟩⟩
theorem tg_3 : ∀ j ∈ [48, 49, 50, 51, 52, 53, 54, 55, 56, 57, 58, 59, 60, 61, 62, 63], tm_P j := List.forall_mem_cons.mpr ⟨tm_48, List.forall_mem_cons.mpr ⟨tm_49, List.forall_mem_cons.mpr ⟨tm_50, List.forall_mem_cons.mpr ⟨tm_51, List.forall_mem_cons.mpr ⟨tm_52, List.forall_mem_cons.mpr ⟨tm_53, List.forall_mem_cons.mpr ⟨tm_54, List.forall_mem_cons.mpr ⟨tm_55, List.forall_mem_cons.mpr ⟨tm_56, List.forall_mem_cons.mpr ⟨tm_57, List.forall_mem_cons.mpr ⟨tm_58, List.forall_mem_cons.mpr ⟨tm_59, List.forall_mem_cons.mpr ⟨tm_60, List.forall_mem_cons.mpr ⟨tm_61, List.forall_mem_cons.mpr ⟨tm_62, List.forall_mem_cons.mpr ⟨tm_63, fun _ h => absurd h List.not_mem_nil⟩⟩⟩⟩⟩⟩⟩⟩⟩⟩⟩⟩⟩⟩⟩⟩
theorem tg_4 : ∀ j ∈ [64, 65, 66, 67, 68, 69, 70, 71, 72, 73, 74, 75, 76, 77, 78, 79], tm_P j := List.forall_mem_cons.mpr ⟨tm_64, List.forall_mem_cons.mpr ⟨tm_65, List.forall_mem_cons.mpr ⟨tm_66, List.forall_mem_cons.mpr ⟨tm_67, List.forall_mem_cons.mpr ⟨tm_68, List.forall_mem_cons.mpr ⟨tm_69, List.forall_mem_cons.mpr ⟨tm_70, List.forall_mem_cons.mpr ⟨tm_71, List.forall_mem_cons.mpr ⟨tm_72, List.forall_mem_cons.mpr ⟨tm_73, List.forall_mem_cons.mpr ⟨tm_74, List.forall_mem_cons.mpr ⟨tm_75, List.forall_mem_cons.mpr ⟨tm_76, List.forall_mem_cons.mpr ⟨tm_77, List.forall_mem_cons.mpr ⟨tm_78, List.forall_mem_cons.mpr ⟨tm_79, fun _ h => absurd h List.not_mem_nil⟩⟩⟩⟩⟩⟩⟩⟩⟩⟩⟩⟩⟩⟩⟩⟩
theorem tg_5 : ∀ j ∈ [80, 81, 82, 83, 84, 85, 86, 87, 88, 89, 90, 91, 92, 93, 94, 95], tm_P j := List.forall_mem_cons.mpr ⟨tm_80, List.forall_mem_cons.mpr ⟨tm_81, List.forall_mem_cons.mpr ⟨tm_82, List.forall_mem_cons.mpr ⟨tm_83, List.forall_mem_cons.mpr ⟨tm_84, List.forall_mem_cons.mpr ⟨tm_85, List.forall_mem_cons.mpr ⟨tm_86, List.forall_mem_cons.mpr ⟨tm_87, List.forall_mem_cons.mpr ⟨tm_88, List.forall_mem_cons.mpr ⟨tm_89, List.forall_mem_cons.mpr ⟨tm_90, List.forall_mem_cons.mpr ⟨tm_91, List.forall_mem_cons.mpr ⟨tm_92, List.forall_mem_cons.mpr ⟨tm_93, List.forall_mem_cons.mpr ⟨tm_94, List.forall_mem_cons.mpr ⟨tm_95, fun _ h => absurd h List.not_mem_nil⟩⟩⟩⟩⟩⟩⟩⟩⟩⟩⟩⟩⟩⟩⟩⟩
theorem tg_6 : ∀ j ∈ [96, 97, 98, 99, 100, 101, 102, 103, 104, 105, 106, 107, 108, 109, 110, 111], tm_P j := List.forall_mem_cons.mpr ⟨tm_96, List.forall_mem_cons.mpr ⟨tm_97, List.forall_mem_cons.mpr ⟨tm_98, List.forall_mem_cons.mpr ⟨tm_99, List.forall_mem_cons.mpr ⟨tm_100, List.forall_mem_cons.mpr ⟨tm_101, List.forall_mem_cons.mpr ⟨tm_102, List.forall_mem_cons.mpr ⟨tm_103, List.forall_mem_cons.mpr ⟨tm_104, List.forall_mem_cons.mpr ⟨tm_105, List.forall_mem_cons.mpr ⟨tm_106, List.forall_mem_cons.mpr ⟨tm_107, List.forall_mem_cons.mpr ⟨tm_108, List.forall_mem_cons.mpr ⟨tm_109, List.forall_mem_cons.mpr ⟨tm_110, List.forall_mem_cons.mpr ⟨tm_111, fun _ h => absurd h List.not_mem_nil⟩⟩⟩⟩⟩⟩⟩⟩⟩⟩⟩⟩⟩⟩⟩⟩
theorem tg_7 : ∀ j ∈ [112, 113, 114, 115, 116, 117, 118, 119, 120, 121, 122], tm_P j := List.forall_mem_cons.mpr ⟨tm_112, List.forall_mem_cons.mpr ⟨tm_113, List.forall_mem_cons.mpr ⟨tm_114, List.forall_mem_cons.mpr ⟨tm_115, List.forall_mem_cons.mpr ⟨tm_116, List.forall_mem_cons.mpr ⟨tm_117, List.forall_mem_cons.mpr ⟨tm_118, List.forall_mem_cons.mpr ⟨tm_119, List.forall_mem_cons.mpr ⟨tm_120, List.forall_mem_cons.mpr ⟨tm_121, List.forall_mem_cons.mpr ⟨tm_122, fun _ h => absurd h List.not_mem_nil⟩⟩⟩⟩⟩⟩⟩⟩⟩⟩⟩
set_option maxRecDepth 100000 in
theorem tb_m (j : Nat) (h : j < nM) : Cond.code (mY j) (mB j) (mL j) (mR j) ∈ ew := by
  have hr : List.range nM = [0, 1, 2, 3, 4, 5, 6, 7, 8, 9, 10, 11, 12, 13, 14, 15] ++ ([16, 17, 18, 19, 20, 21, 22, 23, 24, 25, 26, 27, 28, 29, 30, 31] ++ ([32, 33, 34, 35, 36, 37, 38, 39, 40, 41, 42, 43, 44, 45, 46, 47] ++ ([48, 49, 50, 51, 52, 53, 54, 55, 56, 57, 58, 59, 60, 61, 62, 63] ++ ([64, 65, 66, 67, 68, 69, 70, 71, 72, 73, 74, 75, 76, 77, 78, 79] ++ ([80, 81, 82, 83, 84, 85, 86, 87, 88, 89, 90, 91, 92, 93, 94, 95] ++ ([96, 97, 98, 99, 100, 101, 102, 103, 104, 105, 106, 107, 108, 109, 110, 111] ++ ([112, 113, 114, 115, 116, 117, 118, 119, 120, 121, 122]))))))) := by decide +kernel
  have hj : j ∈ List.range nM := List.mem_range.mpr h
  rw [hr] at hj
  exact (List.forall_mem_append.mpr ⟨tg_0, List.forall_mem_append.mpr ⟨tg_1, List.forall_mem_append.mpr ⟨tg_2, List.forall_mem_append.mpr ⟨tg_3, List.forall_mem_append.mpr ⟨tg_4, List.forall_mem_append.mpr ⟨tg_5, List.forall_mem_append.mpr ⟨tg_6, tg_7⟩⟩⟩⟩⟩⟩⟩) j hj
set_option maxRecDepth 100000 in
theorem tb_j : ∀ j, j < nM → mO j < 11 ∧ ew_is (clJl.getD (mO j) 0) (.initialized (mY j).cls) = true ∧ ((mY j).cls ≠ "java/lang/invoke/MethodHandle" ∧ (mY j).cls ≠ "java/lang/invoke/VarHandle") ∧ (parseMethodDescriptor (mY j).desc).map (fun d => d.parameters.length) = some (mN j) ∧ mL j ≤ 40 ∧ plainName (mY j).cls = true ∧ oY (mO j) = (mY j).cls ∧ mN j + (bif mS j then 0 else 1) ≤ mL j := by decide +kernel
def ck_M (q : Nat × Nat × Nat × Nat × Nat × Nat × Nat) : Bool := match q.2.2.2.1 with
  | 0 => decide (q.2.2.1 < nM) && !mS q.2.2.1 && ew_is q.2.2.2.2.1 (.methodLink (oY q.1) q.2.1 (mY q.2.2.1)) && ew_is q.2.2.2.2.2.1 (.instanceMethod (mY q.2.2.1)) && ew_is q.2.2.2.2.2.2 (.selects (mY q.2.2.1).cls (mY q.2.2.1) (mY q.2.2.1))
  | 1 => decide (q.2.2.1 < nM) && mS q.2.2.1 && ew_is q.2.2.2.2.1 (.methodLink (oY q.1) q.2.1 (mY q.2.2.1)) && ew_is q.2.2.2.2.2.1 (.static (mY q.2.2.1))
  | 2 => decide (q.2.2.1 < nM) && !mS q.2.2.1 && ew_is q.2.2.2.2.1 (.methodLink (oY q.1) q.2.1 (mY q.2.2.1)) && ew_is q.2.2.2.2.2.1 (.instanceMethod (mY q.2.2.1)) && decide ((mY q.2.2.1).name = "<init>") && decide (mR q.2.2.1 = none)
  | 3 => decide (q.2.2.1 < nM) && !mS q.2.2.1 && decide (nWM[q.2.2.2.2.1]? = some (oY q.1, q.2.1, mY q.2.2.1, "EndorsedLedger")) && ew_is q.2.2.2.2.2.1 (.instanceMethod (mY q.2.2.1)) && ew_is q.2.2.2.2.2.2 (.selects (mY q.2.2.1).cls (mY q.2.2.1) (mY q.2.2.1))
  | 4 => decide (q.2.2.1 < nM) && mS q.2.2.1 && decide (nWM[q.2.2.2.2.1]? = some (oY q.1, q.2.1, mY q.2.2.1, "EndorsedLedger")) && ew_is q.2.2.2.2.2.1 (.static (mY q.2.2.1))
  | 5 => decide (q.2.2.1 < nM) && !mS q.2.2.1 && decide (nWM[q.2.2.2.2.1]? = some (oY q.1, q.2.1, mY q.2.2.1, "EndorsedLedger")) && ew_is q.2.2.2.2.2.1 (.instanceMethod (mY q.2.2.1)) && decide ((mY q.2.2.1).name = "<init>") && decide (mR q.2.2.1 = none)
  | 6 => ew_is q.2.2.2.2.1 (.methodLink (oY q.1) q.2.1 objectInit)
  | 7 => ew_is q.2.2.2.2.1 (.methodLink (oY q.1) q.2.1 Lib.Math.max.name)
  | 8 => ew_is q.2.2.2.2.1 (.methodLink (oY q.1) q.2.1 Lib.Math.min.name)
  | _ => ew_is q.2.2.2.2.1 (.methodLink (oY q.1) q.2.1 arraycopyName)
set_option maxRecDepth 100000 in
theorem ck_M_ok : kMl.all ck_M = true := by decide +kernel
set_option maxRecDepth 100000 in
theorem tb_C : ∀ q ∈ kCl, q.2.2.1 < 11 ∧ ew_is q.2.2.2 (.classLink (oY q.1) q.2.1 (oY q.2.2.1)) = true := by decide +kernel
set_option maxRecDepth 100000 in
theorem tb_A : ∀ q ∈ kAl, 2 ≤ q.2.2.1 ∧ q.2.2.1 < 7 ∧ ew_is q.2.2.2 (.classLink (oY q.1) q.2.1 (nA.getD (q.2.2.1 - 2) "")) = true ∧ xA[q.2.2.1]? = some (.object (nA.getD (q.2.2.1 - 2) "")) := by decide +kernel
set_option maxRecDepth 100000 in
theorem tb_nA : ∀ k, k < 5 → lw_tbl[nAi.getD k 0]? = some (.arrayOver (.object (nA.getD k ""))) := by decide +kernel
set_option maxRecDepth 100000 in
theorem tb_nF : ∀ k, k < nWF.length → (nWF[k]?).map (fun q => Cond.fieldLinkNest q.1 q.2.1 q.2.2.1 q.2.2.2.1 q.2.2.2.2.1 q.2.2.2.2.2) = lw_tbl[nWFi.getD k 0]? := by decide +kernel
set_option maxRecDepth 100000 in
theorem tb_nM : ∀ k, k < nWM.length → (nWM[k]?).map (fun q => Cond.methodLinkNest q.1 q.2.1 q.2.2.1 q.2.2.2) = lw_tbl[nWMi.getD k 0]? := by decide +kernel
set_option maxRecDepth 100000 in
theorem T_AI : Cond.arrayClass (newarray.typeOf .int) ∈ ew := ew_in (ix := 118) (by decide +kernel)
set_option maxRecDepth 100000 in
theorem T_AZ : Cond.arrayClass (newarray.typeOf .boolean) ∈ ew := ew_in (ix := 801) (by decide +kernel)
set_option maxRecDepth 100000 in
theorem tb_6 : ew_is 93 (.instanceMethod objectInit) = true ∧ Cond.code objectInit ⟨#[0xb1]⟩ 1 none ∈ ew := ⟨by decide +kernel, List.mem_filter.mpr ⟨List.mem_append_right _ (show _ ∈ tables_1_1 ++ (tables_1_2 ++ (tables_1_3 ++ tables_1_4)) from List.mem_append_left _ (List.mem_of_getElem? (i := 21) (show tables_1_1[21]? = _ from rfl))), rfl⟩⟩
set_option maxRecDepth 100000 in
theorem tb_7 : ew_is 480 (.static Lib.Math.max.name) = true ∧ ew_is 86 (.initialized "java/lang/Math") = true ∧ Cond.code Lib.Math.max.name Lib.Math.max.code 2 (some .int) ∈ ew := ⟨by decide +kernel, by decide +kernel, List.mem_filter.mpr ⟨List.mem_append_right _ (show _ ∈ tables_1_1 ++ (tables_1_2 ++ (tables_1_3 ++ tables_1_4)) from List.mem_append_right _ (List.mem_append_left _ (List.mem_of_getElem? (i := 168) (show tables_1_2[168]? = _ from rfl)))), rfl⟩⟩
set_option maxRecDepth 100000 in
theorem tb_8 : ew_is 491 (.static Lib.Math.min.name) = true ∧ ew_is 86 (.initialized "java/lang/Math") = true ∧ Cond.code Lib.Math.min.name Lib.Math.min.code 2 (some .int) ∈ ew := ⟨by decide +kernel, by decide +kernel, List.mem_filter.mpr ⟨List.mem_append_right _ (show _ ∈ tables_1_1 ++ (tables_1_2 ++ (tables_1_3 ++ tables_1_4)) from List.mem_append_right _ (List.mem_append_left _ (List.mem_of_getElem? (i := 179) (show tables_1_2[179]? = _ from rfl)))), rfl⟩⟩
set_option maxRecDepth 100000 in
theorem tb_9 : ew_is 454 (.native arraycopyName) = true ∧ ew_is 453 (.static arraycopyName) = true ∧ ew_is 85 (.initialized "java/lang/System") = true := by decide +kernel
/-! what the engine asks of the tables -/
theorem T_A0 : xA[0]? = some .int := rfl
theorem T_A1 : xA[1]? = some .boolean := rfl
theorem vwCl_at {ci : Nat} (h : ci < 11) : vwCl[ci]? = some (oY ci, clT ci, clN ci) := by
  unfold vwCl
  rw [List.getElem?_map, List.getElem?_range h]
  rfl
theorem vwCl_of {ci N : Nat} {C : String} {T : u_T} (h : vwCl[ci]? = some (C, T, N)) : ci < 11 ∧ C = oY ci ∧ T = clT ci ∧ N = clN ci := by
  have hl : ci < 11 := by
    have := (List.getElem?_eq_some_iff.mp h).1
    simpa [vwCl] using this
  rw [vwCl_at hl] at h
  cases h
  exact ⟨hl, rfl, rfl, rfl⟩
theorem T_cls {ci N : Nat} {C : String} {T : u_T} (h : vwCl[ci]? = some (C, T, N)) : (∀ w ∈ u_ws C T N, w ∈ ew) ∧ (∀ k, k < N → parseFieldDescriptor (T k).2.2.1 = some (xT ci k)) ∧ (∀ a, a < N → ∀ b, b < N → a ≠ b → (T a).2.1 ≠ (T b).2.1) ∧ Cond.instantiable C N ∈ ew ∧ Cond.initialized C ∈ ew ∧ ci < 99 := by
  obtain ⟨hl, rfl, rfl, rfl⟩ := vwCl_of h
  refine ⟨fun w hw => ?_, tb_ty ci hl, tb_nm ci hl, ew_in (tb_in ci hl).1, ew_in (tb_in ci hl).2, by omega⟩
  obtain ⟨k, hk, rfl⟩ := List.mem_map.mp hw
  exact ew_in (tb_cls ci hl k (List.mem_range.mp hk))
theorem T_ty {ci N k : Nat} {C : String} {T : u_T} (h : vwCl[ci]? = some (C, T, N)) (hk : k < N) : xT ci k = .int ∨ xT ci k = .boolean ∨ (∃ C, xT ci k = .object C) ∨ ∃ t, xT ci k = .array t := by
  obtain ⟨hl, rfl, rfl, rfl⟩ := vwCl_of h
  have h4 := tb_t4 ci hl k hk
  cases hx : xT ci k <;> rw [hx] at h4 <;> simp [tb_k4] at h4 ⊢
theorem T_I {ci N k : Nat} {C : String} {T : u_T} (h : vwCl[ci]? = some (C, T, N)) (hk : k < N) : kI ci k = (T k).2.2.2 := by
  obtain ⟨hl, rfl, rfl, rfl⟩ := vwCl_of h
  rfl
theorem T_oY {ci N : Nat} {C : String} {T : u_T} (h : vwCl[ci]? = some (C, T, N)) : C = oY ci := (vwCl_of h).2.1
theorem find_q {α β : Type} {l : List α} {p : α → Bool} {f : α → β} {y : β} (h : (l.find? p).map f = some y) : ∃ q, q ∈ l ∧ p q = true ∧ f q = y := by
  cases hf : l.find? p with
  | none => rw [hf] at h; cases h
  | some q =>
    rw [hf] at h
    exact ⟨q, List.mem_of_find?_eq_some hf, List.find?_some hf, Option.some.inj h⟩
theorem T_F {o idx ci k : Nat} {nb : Bool} (h : kF o idx = some (ci, k, nb)) : ∃ (C : String) (T : u_T) (N : Nat) (host : String), vwCl[ci]? = some (C, T, N) ∧ k < N ∧ (T k).1 = C ∧ (nb = false → Cond.fieldLink (oY o) idx C (T k).2.1 (T k).2.2.1 ∈ ew) ∧ (nb = true → (oY o, idx, C, (T k).2.1, (T k).2.2.1, host) ∈ nWF) := by
  obtain ⟨q, hq, hp, hf⟩ := find_q h
  simp only [Bool.and_eq_true, beq_iff_eq] at hp
  cases hf
  obtain ⟨rfl, rfl⟩ := hp
  obtain ⟨h1, h2, h3, h4⟩ := tb_F q hq
  exact ⟨_, _, _, "EndorsedLedger", vwCl_at h1, h2, rfl, fun hb => ew_in (h4 hb), fun hb => List.mem_of_getElem? (h3 hb)⟩
theorem T_j {j : Nat} (h : j < nM) : Cond.code (mY j) (mB j) (mL j) (mR j) ∈ ew ∧ Cond.initialized (mY j).cls ∈ ew ∧ ((mY j).cls ≠ "java/lang/invoke/MethodHandle" ∧ (mY j).cls ≠ "java/lang/invoke/VarHandle") ∧ (parseMethodDescriptor (mY j).desc).map (fun d => d.parameters.length) = some (mN j) ∧ mL j ≤ 40 ∧ plainName (mY j).cls = true ∧ oY (mO j) = (mY j).cls ∧ mN j + (bif mS j then 0 else 1) ≤ mL j ∧ (mS j = false → ∃ (C : String) (T : u_T) (N : Nat), vwCl[mO j]? = some (C, T, N) ∧ C = (mY j).cls) := by
  obtain ⟨h1, h2, h3, h4, h5, h6, h7, h8⟩ := tb_j j h
  exact ⟨tb_m j h, ew_in h2, h3, h4, h5, h6, h7, h8, fun _ => ⟨_, _, _, vwCl_at h1, h7⟩⟩
theorem tb_Mq {o idx j md : Nat} (h : kM o idx = some (j, md)) : ∃ q, q ∈ kMl ∧ q.1 = o ∧ q.2.1 = idx ∧ q.2.2.1 = j ∧ q.2.2.2.1 = md := by
  obtain ⟨q, hq, hp, hf⟩ := find_q h
  simp only [Bool.and_eq_true, beq_iff_eq] at hp
  cases hf
  exact ⟨q, hq, hp.1, hp.2, rfl, rfl⟩
theorem T_V {o idx j : Nat} (h : kM o idx = some (j, 0)) : j < nM ∧ mS j = false ∧ Cond.methodLink (oY o) idx (mY j) ∈ ew ∧ Cond.instanceMethod (mY j) ∈ ew ∧ Cond.selects (mY j).cls (mY j) (mY j) ∈ ew := by
  obtain ⟨q, hq, rfl, rfl, rfl, hm⟩ := tb_Mq h
  have h1 := List.all_eq_true.mp ck_M_ok q hq
  unfold ck_M at h1
  rw [hm] at h1
  simp only [Bool.and_eq_true, decide_eq_true_eq, Bool.not_eq_true'] at h1
  obtain ⟨⟨⟨⟨a1, a2⟩, a3⟩, a4⟩, a5⟩ := h1
  exact ⟨a1, a2, ew_in a3, ew_in a4, ew_in a5⟩
theorem T_S {o idx j : Nat} (h : kM o idx = some (j, 1)) : j < nM ∧ mS j = true ∧ Cond.methodLink (oY o) idx (mY j) ∈ ew ∧ Cond.static (mY j) ∈ ew := by
  obtain ⟨q, hq, rfl, rfl, rfl, hm⟩ := tb_Mq h
  have h1 := List.all_eq_true.mp ck_M_ok q hq
  unfold ck_M at h1
  rw [hm] at h1
  simp only [Bool.and_eq_true, decide_eq_true_eq, Bool.not_eq_true'] at h1
  obtain ⟨⟨⟨a1, a2⟩, a3⟩, a4⟩ := h1
  exact ⟨a1, a2, ew_in a3, ew_in a4⟩
theorem T_I2 {o idx j : Nat} (h : kM o idx = some (j, 2)) : j < nM ∧ mS j = false ∧ Cond.methodLink (oY o) idx (mY j) ∈ ew ∧ Cond.instanceMethod (mY j) ∈ ew ∧ (mY j).name = "<init>" ∧ mR j = none := by
  obtain ⟨q, hq, rfl, rfl, rfl, hm⟩ := tb_Mq h
  have h1 := List.all_eq_true.mp ck_M_ok q hq
  unfold ck_M at h1
  rw [hm] at h1
  simp only [Bool.and_eq_true, decide_eq_true_eq, Bool.not_eq_true'] at h1
  obtain ⟨⟨⟨⟨⟨a1, a2⟩, a3⟩, a4⟩, a5⟩, a6⟩ := h1
  exact ⟨a1, a2, ew_in a3, ew_in a4, a5, a6⟩
theorem T_VN {o idx j : Nat} (h : kM o idx = some (j, 3)) : j < nM ∧ mS j = false ∧ ∃ host, (oY o, idx, mY j, host) ∈ nWM ∧ Cond.instanceMethod (mY j) ∈ ew ∧ Cond.selects (mY j).cls (mY j) (mY j) ∈ ew := by
  obtain ⟨q, hq, rfl, rfl, rfl, hm⟩ := tb_Mq h
  have h1 := List.all_eq_true.mp ck_M_ok q hq
  unfold ck_M at h1
  rw [hm] at h1
  simp only [Bool.and_eq_true, decide_eq_true_eq, Bool.not_eq_true'] at h1
  obtain ⟨⟨⟨⟨a1, a2⟩, a3⟩, a4⟩, a5⟩ := h1
  exact ⟨a1, a2, _, List.mem_of_getElem? a3, ew_in a4, ew_in a5⟩
theorem T_SN {o idx j : Nat} (h : kM o idx = some (j, 4)) : j < nM ∧ mS j = true ∧ ∃ host, (oY o, idx, mY j, host) ∈ nWM ∧ Cond.static (mY j) ∈ ew := by
  obtain ⟨q, hq, rfl, rfl, rfl, hm⟩ := tb_Mq h
  have h1 := List.all_eq_true.mp ck_M_ok q hq
  unfold ck_M at h1
  rw [hm] at h1
  simp only [Bool.and_eq_true, decide_eq_true_eq, Bool.not_eq_true'] at h1
  obtain ⟨⟨⟨a1, a2⟩, a3⟩, a4⟩ := h1
  exact ⟨a1, a2, _, List.mem_of_getElem? a3, ew_in a4⟩
theorem T_IN {o idx j : Nat} (h : kM o idx = some (j, 5)) : j < nM ∧ mS j = false ∧ ∃ host, (oY o, idx, mY j, host) ∈ nWM ∧ Cond.instanceMethod (mY j) ∈ ew ∧ (mY j).name = "<init>" ∧ mR j = none := by
  obtain ⟨q, hq, rfl, rfl, rfl, hm⟩ := tb_Mq h
  have h1 := List.all_eq_true.mp ck_M_ok q hq
  unfold ck_M at h1
  rw [hm] at h1
  simp only [Bool.and_eq_true, decide_eq_true_eq, Bool.not_eq_true'] at h1
  obtain ⟨⟨⟨⟨⟨a1, a2⟩, a3⟩, a4⟩, a5⟩, a6⟩ := h1
  exact ⟨a1, a2, _, List.mem_of_getElem? a3, ew_in a4, a5, a6⟩
theorem T_N6 {o idx j : Nat} (h : kM o idx = some (j, 6)) : Cond.methodLink (oY o) idx objectInit ∈ ew ∧ Cond.instanceMethod objectInit ∈ ew ∧ Cond.code objectInit ⟨#[0xb1]⟩ 1 none ∈ ew := by
  obtain ⟨q, hq, rfl, rfl, rfl, hm⟩ := tb_Mq h
  have h1 := List.all_eq_true.mp ck_M_ok q hq
  unfold ck_M at h1
  rw [hm] at h1
  exact ⟨ew_in h1, ew_in tb_6.1, tb_6.2⟩
theorem T_N7 {o idx j : Nat} (h : kM o idx = some (j, 7)) : Cond.methodLink (oY o) idx Lib.Math.max.name ∈ ew ∧ Cond.static Lib.Math.max.name ∈ ew ∧ Cond.initialized "java/lang/Math" ∈ ew ∧ Cond.code Lib.Math.max.name Lib.Math.max.code 2 (some .int) ∈ ew := by
  obtain ⟨q, hq, rfl, rfl, rfl, hm⟩ := tb_Mq h
  have h1 := List.all_eq_true.mp ck_M_ok q hq
  unfold ck_M at h1
  rw [hm] at h1
  exact ⟨ew_in h1, ew_in tb_7.1, ew_in tb_7.2.1, tb_7.2.2⟩
theorem T_N8 {o idx j : Nat} (h : kM o idx = some (j, 8)) : Cond.methodLink (oY o) idx Lib.Math.min.name ∈ ew ∧ Cond.static Lib.Math.min.name ∈ ew ∧ Cond.initialized "java/lang/Math" ∈ ew ∧ Cond.code Lib.Math.min.name Lib.Math.min.code 2 (some .int) ∈ ew := by
  obtain ⟨q, hq, rfl, rfl, rfl, hm⟩ := tb_Mq h
  have h1 := List.all_eq_true.mp ck_M_ok q hq
  unfold ck_M at h1
  rw [hm] at h1
  exact ⟨ew_in h1, ew_in tb_8.1, ew_in tb_8.2.1, tb_8.2.2⟩
theorem T_N9 {o idx j : Nat} (h : kM o idx = some (j, 9)) : Cond.methodLink (oY o) idx arraycopyName ∈ ew ∧ Cond.native arraycopyName ∈ ew ∧ Cond.static arraycopyName ∈ ew ∧ Cond.initialized "java/lang/System" ∈ ew := by
  obtain ⟨q, hq, rfl, rfl, rfl, hm⟩ := tb_Mq h
  have h1 := List.all_eq_true.mp ck_M_ok q hq
  unfold ck_M at h1
  rw [hm] at h1
  exact ⟨ew_in h1, ew_in tb_9.1, ew_in tb_9.2.1, ew_in tb_9.2.2⟩
theorem T_C {o idx ci N : Nat} {C : String} {T : u_T} (h : kC o idx = some ci) (hc : vwCl[ci]? = some (C, T, N)) : Cond.classLink (oY o) idx C ∈ ew := by
  obtain ⟨q, hq, hp, hf⟩ := find_q h
  simp only [Bool.and_eq_true, beq_iff_eq] at hp
  cases hf
  obtain ⟨rfl, rfl⟩ := hp
  obtain ⟨h1, h2⟩ := tb_C q hq
  rw [T_oY hc]
  exact ew_in h2
theorem T_A {o idx t : Nat} (h : kA o idx = some t) : ∃ C, xA[t]? = some (.object C) ∧ Cond.classLink (oY o) idx C ∈ ew ∧ C ∈ nA := by
  obtain ⟨q, hq, hp, hf⟩ := find_q h
  simp only [Bool.and_eq_true, beq_iff_eq] at hp
  cases hf
  obtain ⟨rfl, rfl⟩ := hp
  obtain ⟨h1, h2, h3, h4⟩ := tb_A q hq
  refine ⟨_, h4, ew_in h3, ?_⟩
  have : q.2.2.1 - 2 < nA.length := by show q.2.2.1 - 2 < 5; omega
  rw [List.getD_eq_getElem?_getD, List.getElem?_eq_getElem this]
  exact List.getElem_mem this
end
section
/-! THE ENGINE: a memory of ints and references by abstract addresses; a judgement 'en_Go' (from this place of this method, with these locals, this stack, this memory: the method returns r with a memory M' such that P r M'); a rule an instruction; the rule of a call is nested. -/
abbrev en_M : Type := List (Nat × Nat) × (Nat → Nat → Int32) × (Nat → Nat → Option Nat)
def en_sl (M : en_M) : Nat := (M.1.map Prod.snd).sum
def en_u2 {α : Type} (f : Nat → Nat → α) (a k : Nat) (x : α) : Nat → Nat → α := fun b j => if b = a then (if j = k then x else f b j) else f b j
theorem en_u2_row {f : Nat → Nat → Int32} {a k : Nat} {x : Int32} : en_u2 f a k x a = upd (f a) k x := by
  funext j
  simp [en_u2, upd]
theorem en_u2_off {α : Type} {f : Nat → Nat → α} {a k b : Nat} {x : α} (h : b ≠ a) : en_u2 f a k x b = f b := by
  funext j
  simp [en_u2, h]
/-- a row of an array, whole -/
def en_ur {α : Type} (f : Nat → Nat → α) (a : Nat) (g : Nat → α) : Nat → Nat → α := fun b => if b = a then g else f b
theorem en_ur_row {α : Type} {f : Nat → Nat → α} {a : Nat} {g : Nat → α} : en_ur f a g a = g := by simp [en_ur]
theorem en_ur_off {α : Type} {f : Nat → Nat → α} {a b : Nat} {g : Nat → α} (h : b ≠ a) : en_ur f a g b = f b := by simp [en_ur, h]
def en_ad (b0 bS : Nat) (a : Nat) : Nat := match a with
  | 0 => bS
  | a + 1 => b0 + a
def en_v (b0 bS : Nat) (v : Value) : Value := match v with
  | .ref a => .ref (en_ad b0 bS a)
  | v => v
def en_xr (ci k : Nat) : Bool := match xT ci k with
  | .int => false
  | .boolean => false
  | _ => true
def en_f (b0 bS : Nat) (M : en_M) (ci a k : Nat) : Value := if en_xr ci k = true then va_rf ((M.2.2 a k).map (en_ad b0 bS)) else .int (M.2.1 a k)
def en_e (b0 bS : Nat) (cA : Nat → ClassId) (M : en_M) (a : Nat) (q : Nat × Nat) : va_E :=
  if q.1 < 99 then .inr (q.1, (List.range q.2).map (en_f b0 bS M q.1 a))
  else .inl (cA (q.1 - 100), q.2, if q.1 < 102 then .inl (M.2.1 a) else .inr (.inr (.inr (.inr (fun k => (M.2.2 a k).map (en_ad b0 bS))))))
def en_w (b0 bS : Nat) (cA : Nat → ClassId) (M : en_M) : va_W := (List.range (M.1.length - 1)).map (fun j => (b0 + j, en_e b0 bS cA M (j + 1) (M.1.getD (j + 1) (0, 0))))
def en_ty (cA : Nat → ClassId) : List (ClassId × FieldType) := (List.range xA.length).map (fun t => (cA t, xA.getD t .int))
theorem en_ty_at {cA : Nat → ClassId} {t : Nat} {ty : FieldType} (h : xA[t]? = some ty) : (en_ty cA)[t]? = some (cA t, ty) := by
  have hl : t < xA.length := (List.getElem?_eq_some_iff.mp h).1
  unfold en_ty
  rw [List.getElem?_map, List.getElem?_range hl]
  simp [List.getD_eq_getElem?_getD, h]
section ENW
variable {b0 bS : Nat} {cA : Nat → ClassId} {M M' : en_M} {a n : Nat} {q : Nat × Nat}
theorem en_w_len : (en_w b0 bS cA M).length = M.1.length - 1 := by simp [en_w]
theorem en_w_at (h : M.1[a + 1]? = some q) : (en_w b0 bS cA M)[a]? = some (b0 + a, en_e b0 bS cA M (a + 1) q) := by
  have hl : a + 1 < M.1.length := (List.getElem?_eq_some_iff.mp h).1
  unfold en_w
  rw [List.getElem?_map, List.getElem?_range (by omega)]
  simp [List.getD_eq_getElem?_getD, h]
theorem en_w_key {k : Nat} {x : Nat × va_E} (h : (en_w b0 bS cA M)[k]? = some x) : x.1 = b0 + k := by
  obtain ⟨hlt, he⟩ := List.getElem?_eq_some_iff.mp h
  rw [← he]
  simp [en_w]
theorem en_w_D : va_D (fun q => b0 ≤ q) (en_w b0 bS cA M) := by
  refine ⟨fun i j x y hi hj e => ?_, fun k x hk => ?_⟩
  · have h1 := en_w_key hi
    have h2 := en_w_key hj
    omega
  · have h1 := en_w_key hk
    show b0 ≤ x.1
    omega
theorem en_e_congr (h1 : M'.2.1 a = M.2.1 a) (h2 : M'.2.2 a = M.2.2 a) : en_e b0 bS cA M' a q = en_e b0 bS cA M a q := by
  have h3 : en_f b0 bS M' q.1 a = en_f b0 bS M q.1 a := by
    funext k
    simp only [en_f, h1, h2]
  unfold en_e
  rw [h3, h1, h2]
theorem en_w_set (h : M.1[a + 1]? = some q) (h1 : M'.1 = M.1) (h2 : ∀ b, b ≠ a + 1 → M'.2.1 b = M.2.1 b) (h3 : ∀ b, b ≠ a + 1 → M'.2.2 b = M.2.2 b) :
    en_w b0 bS cA M' = (en_w b0 bS cA M).set a (b0 + a, en_e b0 bS cA M' (a + 1) q) := by
  have hl : a + 1 < M.1.length := (List.getElem?_eq_some_iff.mp h).1
  apply List.ext_getElem?
  intro j
  rw [List.getElem?_set]
  by_cases hj : a = j
  · subst hj
    rw [if_pos rfl, if_pos (by rw [en_w_len]; omega)]
    exact en_w_at (by rw [h1]; exact h)
  · rw [if_neg hj]
    by_cases hjl : j + 1 < M.1.length
    · have e : M.1[j + 1]? = some (M.1[j + 1]) := List.getElem?_eq_getElem hjl
      rw [en_w_at (M := M') (by rw [h1]; exact e), en_w_at e, en_e_congr (h2 _ (by omega)) (h3 _ (by omega))]
    · rw [List.getElem?_eq_none (by rw [en_w_len, h1]; omega), List.getElem?_eq_none (by rw [en_w_len]; omega)]
theorem en_fs_set {ci k : Nat} {v : Value} (hk : k < n) (ho : ∀ j, j ≠ k → en_f b0 bS M' ci a j = en_f b0 bS M ci a j) (hv : en_f b0 bS M' ci a k = v) :
    ((List.range n).map (en_f b0 bS M ci a)).set k v = (List.range n).map (en_f b0 bS M' ci a) := by
  apply List.ext_getElem?
  intro j
  rw [List.getElem?_set]
  by_cases hj : k = j
  · subst hj
    rw [if_pos rfl, if_pos (by simpa using hk), List.getElem?_map, List.getElem?_range hk]
    simp [hv]
  · rw [if_neg hj]
    by_cases hjl : j < n
    · rw [List.getElem?_map, List.getElem?_map, List.getElem?_range hjl]
      simp [ho j (fun z => hj z.symm)]
    · rw [List.getElem?_eq_none (by simp; omega), List.getElem?_eq_none (by simp; omega)]
end ENW
/-! locals: a list as long as the frame's; what stands there as a long is not known -/
def en_l (b0 bS : Nat) (L : List Value) : List (Nat × Value) := (List.range L.length).filterMap (fun i => (L[i]?).bind (fun v => if v.category = 1 then some (i, en_v b0 bS v) else none))
theorem en_l_mem {b0 bS : Nat} {L : List Value} {q : Nat × Value} : q ∈ en_l b0 bS L ↔ ∃ v, L[q.1]? = some v ∧ v.category = 1 ∧ q.2 = en_v b0 bS v := by
  unfold en_l
  rw [List.mem_filterMap]
  constructor
  · rintro ⟨i, hi, h⟩
    cases hv : L[i]? with
    | none => rw [hv] at h; cases h
    | some v =>
      rw [hv] at h
      simp only [Option.bind_some] at h
      by_cases hc : v.category = 1
      · rw [if_pos hc] at h
        cases h
        exact ⟨v, hv, hc, rfl⟩
      · rw [if_neg hc] at h
        cases h
  · rintro ⟨v, hv, hc, he⟩
    have hl : q.1 < L.length := (List.getElem?_eq_some_iff.mp hv).1
    refine ⟨q.1, List.mem_range.mpr hl, ?_⟩
    rw [hv]
    simp only [Option.bind_some]
    rw [if_pos hc, ← he]
theorem en_v_cat (b0 bS : Nat) (v : Value) : (en_v b0 bS v).category = v.category := by cases v <;> rfl
def en_L (b0 bS : Nat) (ls : Array Slot) (nL : Nat) (L : List Value) : Prop := L.length = nL ∧ lv_has ls nL (en_l b0 bS L)
theorem en_L_at {b0 bS : Nat} {ls : Array Slot} {nL k : Nat} {L : List Value} {v : Value} (h : en_L b0 bS ls nL L) (hk : L[k]? = some v) (hc : v.category = 1) : ls[k]? = some (.val (en_v b0 bS v)) :=
  h.2.2.2 (k, en_v b0 bS v) (en_l_mem.mpr ⟨v, hk, hc, rfl⟩)
theorem en_L_set {b0 bS : Nat} {ls : Array Slot} {nL k : Nat} {L : List Value} {v : Value} (hl : L.length = nL)
    (h' : lv_has ls nL ((k, en_v b0 bS v) :: (en_l b0 bS L).filter (fun q => !(q.1 == k) && !(q.1 + 1 == k && q.2.category == 2)))) : en_L b0 bS ls nL (L.set k v) := by
  refine ⟨by rw [List.length_set]; exact hl, h'.1, h'.2.1, fun q hq => ?_⟩
  obtain ⟨w, hw, hwc, he⟩ := en_l_mem.mp hq
  rw [List.getElem?_set] at hw
  by_cases hk : k = q.1
  · rw [if_pos hk] at hw
    split at hw
    · cases hw
      have := h'.2.2 (k, en_v b0 bS v) List.mem_cons_self
      rw [he, ← hk]
      exact this
    · cases hw
  · rw [if_neg hk] at hw
    refine h'.2.2 q (List.mem_cons_of_mem _ (List.mem_filter.mpr ⟨en_l_mem.mpr ⟨w, hw, hwc, he⟩, ?_⟩))
    have h2 : q.2.category = 1 := by rw [he, en_v_cat]; exact hwc
    simp [h2]
    exact fun z => hk z.symm
/-- the locals with which method j begins -/
def en_in (j : Nat) (as : List Value) : List Value := as ++ List.replicate (mL j - as.length) (.long 0)
theorem en_args_mem : ∀ (vs : List Value) (k j : Nat) (v : Value), (∀ w ∈ vs, w.category = 1) → vs[j]? = some v → (k + j, v) ∈ lv_args k vs := by
  intro vs
  induction vs with
  | nil => intro k j v _ h; simp at h
  | cons a l ih =>
    intro k j v hc h
    have ha : a.category = 1 := hc a List.mem_cons_self
    unfold lv_args
    cases j with
    | zero =>
      simp at h
      subst h
      exact List.mem_cons_self
    | succ j =>
      refine List.mem_cons_of_mem _ ?_
      rw [if_neg (by omega)]
      have := ih (k + 1) j v (fun w hw => hc w (List.mem_cons_of_mem _ hw)) (by simpa using h)
      rw [show k + (j + 1) = k + 1 + j by omega]
      exact this
theorem en_sl_len : ∀ (vs : List Value), (∀ w ∈ vs, w.category = 1) → (lg_sl vs).length = vs.length := by
  intro vs
  induction vs with
  | nil => intro _; rfl
  | cons a l ih =>
    intro hc
    have ha : a.category = 1 := hc a List.mem_cons_self
    have h2 := ih (fun w hw => hc w (List.mem_cons_of_mem _ hw))
    unfold lg_sl at h2 ⊢
    rw [List.flatMap_cons, if_neg (by omega), List.length_append, h2]
    simp
    omega
theorem en_L_entry {b0 bS n : Nat} {as : List Value} (hc : ∀ v ∈ as, v.category = 1) (hn : as.length ≤ n) :
    en_L b0 bS ((lg_sl (as.map (en_v b0 bS)) ++ List.replicate (n - (lg_sl (as.map (en_v b0 bS))).length) Slot.unset).toArray) n (as ++ List.replicate (n - as.length) (.long 0)) := by
  have hcm : ∀ w ∈ as.map (en_v b0 bS), w.category = 1 := by
    intro w hw
    obtain ⟨v, hv, rfl⟩ := List.mem_map.mp hw
    rw [en_v_cat]
    exact hc v hv
  have hs := en_sl_len _ hcm
  rw [List.length_map] at hs
  have h := lv_entry (as.map (en_v b0 bS)) (n := n) (by rw [hs]; exact hn)
  refine ⟨by rw [List.length_append, List.length_replicate]; omega, h.1, h.2.1, fun q hq => ?_⟩
  obtain ⟨v, hv, hc', he⟩ := en_l_mem.mp hq
  by_cases hq1 : q.1 < as.length
  · rw [List.getElem?_append_left hq1] at hv
    refine h.2.2 q ?_
    have h3 := en_args_mem (as.map (en_v b0 bS)) 0 q.1 q.2 hcm (by rw [List.getElem?_map, hv, he]; rfl)
    rw [Nat.zero_add] at h3
    exact h3
  · rw [List.getElem?_append_right (by omega), List.getElem?_replicate] at hv
    split at hv
    · cases hv
      exact absurd hc' (by decide)
    · cases hv
/-! the context of a frame -/
def en_N (U : State) : Prop := (∀ q ∈ nWF, va_Nw (.fieldLinkNest q.1 q.2.1 q.2.2.1 q.2.2.2.1 q.2.2.2.2.1 q.2.2.2.2.2) U) ∧ (∀ q ∈ nWM, va_Nw (.methodLinkNest q.1 q.2.1 q.2.2.1 q.2.2.2) U) ∧ ∀ C ∈ nA, va_AO C U
theorem en_N.warm {s U : State} (hW : s.WarmedH U.vm) (h : en_N s) : en_N U := ⟨fun q hq => va_Nw.warmF hW (h.1 q hq), fun q hq => va_Nw.warmM hW (h.2.1 q hq), fun C hC => va_AO.moved hW.alike (h.2.2 C hC)⟩
theorem en_N.same {s U : State} (hvm : s.vm = U.vm) (h : en_N s) : en_N U := ⟨fun q hq => va_Nw.same rfl hvm (h.1 q hq), fun q hq => va_Nw.same rfl hvm (h.2.1 q hq), fun C hC => va_AO.moved (by rw [hvm]; exact Vm.Alike.refl _) (h.2.2 C hC)⟩
def en_rt (i : Nat) (ins : Instr) (r : Option Value) : Prop :=
  (ins = .ireturn ∧ mR i = some .int ∧ ∃ x, r = some (.int x)) ∨ (ins = .ireturn ∧ mR i = some .boolean ∧ ∃ x : Int32, r = some (.int x) ∧ (x = 0 ∨ x = 1)) ∨ (ins = .return_ ∧ mR i = none ∧ r = none) ∨ (ins = .areturn ∧ (∃ C, mR i = some (.object C)) ∧ ∃ a, r = some (.ref a))
def en_ok (p : Program) (R : Room) (s : State) (m : MethodId) (args : Array Value) (meth : Method) (c : Code) (D : va_G) (cA : Nat → ClassId) (b0 bS LS z0 y0 nc ns : Nat) (xs : Nat → Int32) (i : Nat) : Prop :=
  p.tables.exec = Jvm.exec ∧ c.code = mB i ∧ c.maxLocals = mL i ∧ s.vm.findClass (oY (mO i)) = some m.cls ∧ (∀ w ∈ ew, w.before args s = true) ∧ en_N s ∧ va_K D vwCl (en_ty cA) s ∧ (meth.name = (mY i).name ∧ meth.sig.returnType = mR i ∧ meth.locks = false) ∧ (mK i ≤ R.frames ∧ mQ i ≤ R.locals) ∧ va_X bS LS xs s s.heap ∧ (bS < b0 ∧ s.heap.size + 1 = b0 + z0 ∧ 1 ≤ z0) ∧ nc ≤ z0 + R.cells ∧ ns ≤ y0 + R.slots
def en_at (s : State) (D : va_G) (cA : Nat → ClassId) (b0 bS LS z0 y0 nc ns : Nat) (xs : Nat → Int32) (M : en_M) (H : Heap) (locs : List Loc) (cells slots : Nat) : Prop :=
  va_P D vwCl (en_w b0 bS cA M) H ∧ va_S (fun q => b0 ≤ q) s.heap H locs ∧ (cells + z0 = M.1.length ∧ slots + y0 = en_sl M) ∧ (M.1.length ≤ nc ∧ en_sl M ≤ ns) ∧ M.1[0]? = some (99, LS) ∧ ∀ k, k < LS → M.2.1 0 k = xs k
def en_Go (nc ns i pc : Nat) (L st : List Value) (M : en_M) (P : Option Value → en_M → Prop) : Prop :=
  ∀ (p : Program) (l : Launch) (e : Env) (R : Room) (s : State) (m : MethodId) (args : Array Value) (below : List Frame) (meth : Method) (c : Code) (Q : State → Prop) (D : va_G) (cA : Nat → ClassId) (b0 bS LS z0 y0 : Nat) (xs : Nat → Int32),
    en_ok p R s m args meth c D cA b0 bS LS z0 y0 nc ns xs i →
    (∀ (r : Option Value) (M' : en_M) (pc' : Nat) (ls' : Array Slot) (H : Heap) (locs : List Loc) (cells slots : Nat) (ins : Instr), P r M' → M'.1.length = nc → en_sl M' = ns → decode (mB i) pc' = .ok (ins, 1) → en_rt i ins r →
      en_at s D cA b0 bS LS z0 y0 nc ns xs M' H locs cells slots → W p l e R s m args below meth c H locs cells slots Q (F0 m pc' ls' (r.toList.map (en_v b0 bS)))) →
    ∀ (H : Heap) (locs : List Loc) (cells slots : Nat) (ls : Array Slot), en_at s D cA b0 bS LS z0 y0 nc ns xs M H locs cells slots → en_L b0 bS ls (mL i) L →
      W p l e R s m args below meth c H locs cells slots Q (F0 m pc ls (st.map (en_v b0 bS)))
/-! what an instruction is, with the next place -/
def en_d (i pc : Nat) (ins : Instr) (n pc' : Nat) : Prop := decode (mB i) pc = .ok (ins, n) ∧ pc + n = pc'
def en_j (i pc : Nat) (ins : Int → Instr) (pc' tgt : Nat) : Prop := ∃ off : Int, decode (mB i) pc = .ok (ins off, 3) ∧ (pc : Int) + off = (tgt : Int) ∧ pc + 3 = pc'
def en_df (i pc ci k : Nat) (nb rf : Bool) (pc' : Nat) : Prop := ∃ idx : Nat, decode (mB i) pc = .ok (.getfield idx, 3) ∧ kF (mO i) idx = some (ci, k, nb) ∧ en_xr ci k = rf ∧ pc + 3 = pc'
def en_dp (i pc ci k : Nat) (nb : Bool) (ty : FieldType) (pc' : Nat) : Prop := ∃ idx : Nat, decode (mB i) pc = .ok (.putfield idx, 3) ∧ kF (mO i) idx = some (ci, k, nb) ∧ xT ci k = ty ∧ pc + 3 = pc'
section ENR
variable {nc ns i pc pc' tgt : Nat} {L L' st : List Value} {M : en_M} {P : Option Value → en_M → Prop}
/-- a step that leaves memory and locals -/
theorem en_st {st' : List Value} (h : ∀ (p : Program) (l : Launch) (e : Env) (R : Room) (s : State) (m : MethodId) (args : Array Value) (below : List Frame) (meth : Method) (c : Code) (Q : State → Prop) (b0 bS : Nat) (H : Heap) (locs : List Loc) (cells slots : Nat) (ls : Array Slot),
      p.tables.exec = Jvm.exec → c.code = mB i → en_L b0 bS ls (mL i) L → W p l e R s m args below meth c H locs cells slots Q (F0 m pc' ls (st'.map (en_v b0 bS))) → W p l e R s m args below meth c H locs cells slots Q (F0 m pc ls (st.map (en_v b0 bS))))
    (k : en_Go nc ns i pc' L st' M P) : en_Go nc ns i pc L st M P := by
  intro p l e R s m args below meth c Q D cA b0 bS LS z0 y0 xs ok hr H locs cells slots ls hat hL
  exact h p l e R s m args below meth c Q b0 bS H locs cells slots ls ok.1 ok.2.1 hL (k p l e R s m args below meth c Q D cA b0 bS LS z0 y0 xs ok hr H locs cells slots ls hat hL)
theorem en_iconst {n : Int} {v : Int32} (hd : en_d i pc (.iconst n) 1 pc') (hv : Int32.ofInt n = v) (k : en_Go nc ns i pc' L (.int v :: st) M P) : en_Go nc ns i pc L st M P := by
  obtain ⟨hd, rfl⟩ := hd
  exact en_st (fun _ _ _ _ _ _ _ _ _ _ _ _ _ _ _ _ _ _ hx hb _ kk => lv_iconst hx hb hd hv kk) k
theorem en_bipush {n : Int} {v : Int32} (hd : en_d i pc (.bipush n) 2 pc') (hv : (Int8.ofInt n).toInt32 = v) (k : en_Go nc ns i pc' L (.int v :: st) M P) : en_Go nc ns i pc L st M P := by
  obtain ⟨hd, rfl⟩ := hd
  exact en_st (fun _ _ _ _ _ _ _ _ _ _ _ _ _ _ _ _ _ _ hx hb _ kk => lv_bipush hx hb hd hv kk) k
theorem en_sipush {n : Int} {v : Int32} (hd : en_d i pc (.sipush n) 3 pc') (hv : (Int16.ofInt n).toInt32 = v) (k : en_Go nc ns i pc' L (.int v :: st) M P) : en_Go nc ns i pc L st M P := by
  obtain ⟨hd, rfl⟩ := hd
  exact en_st (fun _ _ _ _ _ _ _ _ _ _ _ _ _ _ _ _ _ _ hx hb _ kk => lv_sipush hx hb hd hv kk) k
theorem en_iload_n {j : Fin 4} {x : Int32} (hd : en_d i pc (.iload_n j) 1 pc') (hl : L[j.val]? = some (.int x)) (k : en_Go nc ns i pc' L (.int x :: st) M P) : en_Go nc ns i pc L st M P := by
  obtain ⟨hd, rfl⟩ := hd
  exact en_st (fun _ _ _ _ _ _ _ _ _ _ _ b0 bS _ _ _ _ _ hx hb hL kk => lv_iload_n hx hb hd rfl (en_L_at hL hl rfl) kk) k
theorem en_iload {j : Nat} {x : Int32} (hd : en_d i pc (.iload j) 2 pc') (hl : L[j]? = some (.int x)) (k : en_Go nc ns i pc' L (.int x :: st) M P) : en_Go nc ns i pc L st M P := by
  obtain ⟨hd, rfl⟩ := hd
  exact en_st (fun _ _ _ _ _ _ _ _ _ _ _ b0 bS _ _ _ _ _ hx hb hL kk => lv_iload hx hb hd (en_L_at hL hl rfl) kk) k
theorem en_aload_n {j : Fin 4} {x : Nat} (hd : en_d i pc (.aload_n j) 1 pc') (hl : L[j.val]? = some (.ref x)) (k : en_Go nc ns i pc' L (.ref x :: st) M P) : en_Go nc ns i pc L st M P := by
  obtain ⟨hd, rfl⟩ := hd
  exact en_st (fun _ _ _ _ _ _ _ _ _ _ _ b0 bS _ _ _ _ _ hx hb hL kk => lv_aload_n hx hb hd rfl (en_L_at hL hl rfl) kk) k
theorem en_aload {j x : Nat} (hd : en_d i pc (.aload j) 2 pc') (hl : L[j]? = some (.ref x)) (k : en_Go nc ns i pc' L (.ref x :: st) M P) : en_Go nc ns i pc L st M P := by
  obtain ⟨hd, rfl⟩ := hd
  exact en_st (fun _ _ _ _ _ _ _ _ _ _ _ b0 bS _ _ _ _ _ hx hb hL kk => lv_aload hx hb hd (en_L_at hL hl rfl) kk) k
theorem en_istore_n {j : Fin 4} {x : Int32} (hd : en_d i pc (.istore_n j) 1 pc') (hn : j.val < mL i) (hl : L.set j.val (.int x) = L') (k : en_Go nc ns i pc' L' st M P) : en_Go nc ns i pc L (.int x :: st) M P := by
  obtain ⟨hd, rfl⟩ := hd
  subst hl
  intro p l e R s m args below meth c Q D cA b0 bS LS z0 y0 xs ok hr H locs cells slots ls hat hL
  exact lv_istore_n ok.1 ok.2.1 hd rfl hL.2 hn rfl (fun ls' h' => k p l e R s m args below meth c Q D cA b0 bS LS z0 y0 xs ok hr H locs cells slots ls' hat (en_L_set (v := .int x) hL.1 h'))
theorem en_istore {j : Nat} {x : Int32} (hd : en_d i pc (.istore j) 2 pc') (hn : j < mL i) (hl : L.set j (.int x) = L') (k : en_Go nc ns i pc' L' st M P) : en_Go nc ns i pc L (.int x :: st) M P := by
  obtain ⟨hd, rfl⟩ := hd
  subst hl
  intro p l e R s m args below meth c Q D cA b0 bS LS z0 y0 xs ok hr H locs cells slots ls hat hL
  exact lv_istore ok.1 ok.2.1 hd hL.2 hn rfl (fun ls' h' => k p l e R s m args below meth c Q D cA b0 bS LS z0 y0 xs ok hr H locs cells slots ls' hat (en_L_set (v := .int x) hL.1 h'))
theorem en_astore_n {j : Fin 4} {x : Nat} (hd : en_d i pc (.astore_n j) 1 pc') (hn : j.val < mL i) (hl : L.set j.val (.ref x) = L') (k : en_Go nc ns i pc' L' st M P) : en_Go nc ns i pc L (.ref x :: st) M P := by
  obtain ⟨hd, rfl⟩ := hd
  subst hl
  intro p l e R s m args below meth c Q D cA b0 bS LS z0 y0 xs ok hr H locs cells slots ls hat hL
  exact lv_astore_n ok.1 ok.2.1 hd rfl hL.2 hn rfl (fun ls' h' => k p l e R s m args below meth c Q D cA b0 bS LS z0 y0 xs ok hr H locs cells slots ls' hat (en_L_set (v := .ref x) hL.1 h'))
theorem en_astore {j x : Nat} (hd : en_d i pc (.astore j) 2 pc') (hn : j < mL i) (hl : L.set j (.ref x) = L') (k : en_Go nc ns i pc' L' st M P) : en_Go nc ns i pc L (.ref x :: st) M P := by
  obtain ⟨hd, rfl⟩ := hd
  subst hl
  intro p l e R s m args below meth c Q D cA b0 bS LS z0 y0 xs ok hr H locs cells slots ls hat hL
  exact lv_astore ok.1 ok.2.1 hd hL.2 hn rfl (fun ls' h' => k p l e R s m args below meth c Q D cA b0 bS LS z0 y0 xs ok hr H locs cells slots ls' hat (en_L_set (v := .ref x) hL.1 h'))
theorem en_iinc {j : Nat} {n : Int} {x : Int32} (hd : en_d i pc (.iinc j n) 3 pc') (hg : L[j]? = some (.int x)) (hn : j < mL i) (hl : L.set j (.int (x + Int32.ofInt n)) = L') (k : en_Go nc ns i pc' L' st M P) : en_Go nc ns i pc L st M P := by
  obtain ⟨hd, rfl⟩ := hd
  subst hl
  intro p l e R s m args below meth c Q D cA b0 bS LS z0 y0 xs ok hr H locs cells slots ls hat hL
  obtain ⟨kk, hkk⟩ := List.getElem?_of_mem (en_l_mem.mpr ⟨_, hg, rfl, rfl⟩ : (j, en_v b0 bS (.int x)) ∈ en_l b0 bS L)
  exact lv_iinc ok.1 ok.2.1 hd hL.2 (k := kk) hkk rfl hn rfl (fun ls' h' => k p l e R s m args below meth c Q D cA b0 bS LS z0 y0 xs ok hr H locs cells slots ls' hat (en_L_set (v := .int (x + Int32.ofInt n)) hL.1 h'))
theorem en_iadd {x y : Int32} (hd : en_d i pc .iadd 1 pc') (k : en_Go nc ns i pc' L (.int (x + y) :: st) M P) : en_Go nc ns i pc L (.int y :: .int x :: st) M P := by
  obtain ⟨hd, rfl⟩ := hd
  exact en_st (fun _ _ _ _ _ _ _ _ _ _ _ _ _ _ _ _ _ _ hx hb _ kk => lv_iadd hx hb hd kk) k
theorem en_isub {x y : Int32} (hd : en_d i pc .isub 1 pc') (k : en_Go nc ns i pc' L (.int (x - y) :: st) M P) : en_Go nc ns i pc L (.int y :: .int x :: st) M P := by
  obtain ⟨hd, rfl⟩ := hd
  exact en_st (fun _ _ _ _ _ _ _ _ _ _ _ _ _ _ _ _ _ _ hx hb _ kk => lv_isub hx hb hd kk) k
theorem en_imul {x y : Int32} (hd : en_d i pc .imul 1 pc') (k : en_Go nc ns i pc' L (.int (x * y) :: st) M P) : en_Go nc ns i pc L (.int y :: .int x :: st) M P := by
  obtain ⟨hd, rfl⟩ := hd
  exact en_st (fun _ _ _ _ _ _ _ _ _ _ _ _ _ _ _ _ _ _ hx hb _ kk => lv_imul hx hb hd kk) k
theorem en_iand {x y : Int32} (hd : en_d i pc .iand 1 pc') (k : en_Go nc ns i pc' L (.int (x &&& y) :: st) M P) : en_Go nc ns i pc L (.int y :: .int x :: st) M P := by
  obtain ⟨hd, rfl⟩ := hd
  exact en_st (fun _ _ _ _ _ _ _ _ _ _ _ _ _ _ _ _ _ _ hx hb _ kk => lv_iand hx hb hd kk) k
theorem en_ior {x y : Int32} (hd : en_d i pc .ior 1 pc') (k : en_Go nc ns i pc' L (.int (x ||| y) :: st) M P) : en_Go nc ns i pc L (.int y :: .int x :: st) M P := by
  obtain ⟨hd, rfl⟩ := hd
  exact en_st (fun _ _ _ _ _ _ _ _ _ _ _ _ _ _ _ _ _ _ hx hb _ kk => lv_ior hx hb hd kk) k
theorem en_ixor {x y : Int32} (hd : en_d i pc .ixor 1 pc') (k : en_Go nc ns i pc' L (.int (x ^^^ y) :: st) M P) : en_Go nc ns i pc L (.int y :: .int x :: st) M P := by
  obtain ⟨hd, rfl⟩ := hd
  exact en_st (fun _ _ _ _ _ _ _ _ _ _ _ _ _ _ _ _ _ _ hx hb _ kk => lv_ixor hx hb hd kk) k
theorem en_idiv {x y : Int32} (hd : en_d i pc .idiv 1 pc') (hne : ¬ y = 0) (k : en_Go nc ns i pc' L (.int (x / y) :: st) M P) : en_Go nc ns i pc L (.int y :: .int x :: st) M P := by
  obtain ⟨hd, rfl⟩ := hd
  exact en_st (fun _ _ _ _ _ _ _ _ _ _ _ _ _ _ _ _ _ _ hx hb _ kk => lv_idiv hx hb hd hne kk) k
theorem en_irem {x y : Int32} (hd : en_d i pc .irem 1 pc') (hne : ¬ y = 0) (k : en_Go nc ns i pc' L (.int (x - x / y * y) :: st) M P) : en_Go nc ns i pc L (.int y :: .int x :: st) M P := by
  obtain ⟨hd, rfl⟩ := hd
  exact en_st (fun _ _ _ _ _ _ _ _ _ _ _ _ _ _ _ _ _ _ hx hb _ kk => lv_irem hx hb hd hne kk) k
theorem en_ishl {x y : Int32} (hd : en_d i pc .ishl 1 pc') (k : en_Go nc ns i pc' L (.int (x <<< (y &&& 31)) :: st) M P) : en_Go nc ns i pc L (.int y :: .int x :: st) M P := by
  obtain ⟨hd, rfl⟩ := hd
  exact en_st (fun _ _ _ _ _ _ _ _ _ _ _ _ _ _ _ _ _ _ hx hb _ kk => lv_ishl hx hb hd kk) k
theorem en_ishr {x y : Int32} (hd : en_d i pc .ishr 1 pc') (k : en_Go nc ns i pc' L (.int (x >>> (y &&& 31)) :: st) M P) : en_Go nc ns i pc L (.int y :: .int x :: st) M P := by
  obtain ⟨hd, rfl⟩ := hd
  exact en_st (fun _ _ _ _ _ _ _ _ _ _ _ _ _ _ _ _ _ _ hx hb _ kk => lv_ishr hx hb hd kk) k
theorem en_iushr {x y : Int32} (hd : en_d i pc .iushr 1 pc') (k : en_Go nc ns i pc' L (.int ((x.toUInt32 >>> (y.toUInt32 &&& Int32.toUInt32 31)).toInt32) :: st) M P) : en_Go nc ns i pc L (.int y :: .int x :: st) M P := by
  obtain ⟨hd, rfl⟩ := hd
  exact en_st (fun _ _ _ _ _ _ _ _ _ _ _ _ _ _ _ _ _ _ hx hb _ kk => lv_iushr hx hb hd rfl kk) k
theorem en_ineg {x : Int32} (hd : en_d i pc .ineg 1 pc') (k : en_Go nc ns i pc' L (.int (-x) :: st) M P) : en_Go nc ns i pc L (.int x :: st) M P := by
  obtain ⟨hd, rfl⟩ := hd
  exact en_st (fun _ _ _ _ _ _ _ _ _ _ _ _ _ _ _ _ _ _ hx hb _ kk => lv_ineg hx hb hd kk) k
theorem en_dup {v : Value} (hd : en_d i pc .dup 1 pc') (hc : v.category = 1) (k : en_Go nc ns i pc' L (v :: v :: st) M P) : en_Go nc ns i pc L (v :: st) M P := by
  obtain ⟨hd, rfl⟩ := hd
  exact en_st (fun _ _ _ _ _ _ _ _ _ _ _ b0 bS _ _ _ _ _ hx hb _ kk => lv_dup hx hb hd ((en_v_cat b0 bS v).trans hc) kk) k
theorem en_pop {v : Value} (hd : en_d i pc .pop 1 pc') (hc : v.category = 1) (k : en_Go nc ns i pc' L st M P) : en_Go nc ns i pc L (v :: st) M P := by
  obtain ⟨hd, rfl⟩ := hd
  exact en_st (fun _ _ _ _ _ _ _ _ _ _ _ b0 bS _ _ _ _ _ hx hb _ kk => lv_pop hx hb hd ((en_v_cat b0 bS v).trans hc) kk) k
theorem en_dup_x1 {v w : Value} (hd : en_d i pc .dup_x1 1 pc') (hc : v.category = 1) (hw : w.category = 1) (k : en_Go nc ns i pc' L (v :: w :: v :: st) M P) : en_Go nc ns i pc L (v :: w :: st) M P := by
  obtain ⟨hd, rfl⟩ := hd
  exact en_st (fun _ _ _ _ _ _ _ _ _ _ _ b0 bS _ _ _ _ _ hx hb _ kk => lv_dup_x1 hx hb hd ((en_v_cat b0 bS v).trans hc) ((en_v_cat b0 bS w).trans hw) kk) k
theorem en_dup_x2 {v w u : Value} (hd : en_d i pc .dup_x2 1 pc') (hc : v.category = 1) (hw : w.category = 1) (hu : u.category = 1) (k : en_Go nc ns i pc' L (v :: w :: u :: v :: st) M P) : en_Go nc ns i pc L (v :: w :: u :: st) M P := by
  obtain ⟨hd, rfl⟩ := hd
  exact en_st (fun _ _ _ _ _ _ _ _ _ _ _ b0 bS _ _ _ _ _ hx hb _ kk => lv_dup_x2 hx hb hd ((en_v_cat b0 bS v).trans hc) ((en_v_cat b0 bS w).trans hw) ((en_v_cat b0 bS u).trans hu) kk) k
theorem en_dup2 {v w : Value} (hd : en_d i pc .dup2 1 pc') (hc : v.category = 1) (hw : w.category = 1) (k : en_Go nc ns i pc' L (v :: w :: v :: w :: st) M P) : en_Go nc ns i pc L (v :: w :: st) M P := by
  obtain ⟨hd, rfl⟩ := hd
  exact en_st (fun _ _ _ _ _ _ _ _ _ _ _ b0 bS _ _ _ _ _ hx hb _ kk => lv_dup2_11 hx hb hd ((en_v_cat b0 bS v).trans hc) ((en_v_cat b0 bS w).trans hw) kk) k
theorem en_goto (hd : en_j i pc .goto pc' tgt) (k : en_Go nc ns i tgt L st M P) : en_Go nc ns i pc L st M P := by
  obtain ⟨off, hd, ht, rfl⟩ := hd
  exact en_st (fun _ _ _ _ _ _ _ _ _ _ _ _ _ _ _ _ _ _ hx hb _ kk => lv_goto hx hb hd ht kk) k
theorem en_if_eq {x : Int32} (hd : en_j i pc (.ifCond .eq) pc' tgt) (kt : x = 0 → en_Go nc ns i tgt L st M P) (kf : ¬ x = 0 → en_Go nc ns i pc' L st M P) : en_Go nc ns i pc L (.int x :: st) M P := by
  obtain ⟨off, hd, ht, rfl⟩ := hd
  intro p l e R s m args below meth c Q D cA b0 bS LS z0 y0 xs ok hr H locs cells slots ls hat hL
  exact lv_if_eq ok.1 ok.2.1 hd ht (fun h => kt h p l e R s m args below meth c Q D cA b0 bS LS z0 y0 xs ok hr H locs cells slots ls hat hL) (fun h => kf h p l e R s m args below meth c Q D cA b0 bS LS z0 y0 xs ok hr H locs cells slots ls hat hL)
theorem en_if_ne {x : Int32} (hd : en_j i pc (.ifCond .ne) pc' tgt) (kt : ¬ x = 0 → en_Go nc ns i tgt L st M P) (kf : x = 0 → en_Go nc ns i pc' L st M P) : en_Go nc ns i pc L (.int x :: st) M P := by
  obtain ⟨off, hd, ht, rfl⟩ := hd
  intro p l e R s m args below meth c Q D cA b0 bS LS z0 y0 xs ok hr H locs cells slots ls hat hL
  exact lv_if_ne ok.1 ok.2.1 hd ht (fun h => kt h p l e R s m args below meth c Q D cA b0 bS LS z0 y0 xs ok hr H locs cells slots ls hat hL) (fun h => kf h p l e R s m args below meth c Q D cA b0 bS LS z0 y0 xs ok hr H locs cells slots ls hat hL)
theorem en_if_lt {x : Int32} (hd : en_j i pc (.ifCond .lt) pc' tgt) (kt : x < 0 → en_Go nc ns i tgt L st M P) (kf : ¬ x < 0 → en_Go nc ns i pc' L st M P) : en_Go nc ns i pc L (.int x :: st) M P := by
  obtain ⟨off, hd, ht, rfl⟩ := hd
  intro p l e R s m args below meth c Q D cA b0 bS LS z0 y0 xs ok hr H locs cells slots ls hat hL
  exact lv_if_lt ok.1 ok.2.1 hd ht (fun h => kt h p l e R s m args below meth c Q D cA b0 bS LS z0 y0 xs ok hr H locs cells slots ls hat hL) (fun h => kf h p l e R s m args below meth c Q D cA b0 bS LS z0 y0 xs ok hr H locs cells slots ls hat hL)
theorem en_if_ge {x : Int32} (hd : en_j i pc (.ifCond .ge) pc' tgt) (kt : 0 ≤ x → en_Go nc ns i tgt L st M P) (kf : ¬ 0 ≤ x → en_Go nc ns i pc' L st M P) : en_Go nc ns i pc L (.int x :: st) M P := by
  obtain ⟨off, hd, ht, rfl⟩ := hd
  intro p l e R s m args below meth c Q D cA b0 bS LS z0 y0 xs ok hr H locs cells slots ls hat hL
  exact lv_if_ge ok.1 ok.2.1 hd ht (fun h => kt h p l e R s m args below meth c Q D cA b0 bS LS z0 y0 xs ok hr H locs cells slots ls hat hL) (fun h => kf h p l e R s m args below meth c Q D cA b0 bS LS z0 y0 xs ok hr H locs cells slots ls hat hL)
theorem en_if_gt {x : Int32} (hd : en_j i pc (.ifCond .gt) pc' tgt) (kt : 0 < x → en_Go nc ns i tgt L st M P) (kf : ¬ 0 < x → en_Go nc ns i pc' L st M P) : en_Go nc ns i pc L (.int x :: st) M P := by
  obtain ⟨off, hd, ht, rfl⟩ := hd
  intro p l e R s m args below meth c Q D cA b0 bS LS z0 y0 xs ok hr H locs cells slots ls hat hL
  exact lv_if_gt ok.1 ok.2.1 hd ht (fun h => kt h p l e R s m args below meth c Q D cA b0 bS LS z0 y0 xs ok hr H locs cells slots ls hat hL) (fun h => kf h p l e R s m args below meth c Q D cA b0 bS LS z0 y0 xs ok hr H locs cells slots ls hat hL)
theorem en_if_le {x : Int32} (hd : en_j i pc (.ifCond .le) pc' tgt) (kt : x ≤ 0 → en_Go nc ns i tgt L st M P) (kf : ¬ x ≤ 0 → en_Go nc ns i pc' L st M P) : en_Go nc ns i pc L (.int x :: st) M P := by
  obtain ⟨off, hd, ht, rfl⟩ := hd
  intro p l e R s m args below meth c Q D cA b0 bS LS z0 y0 xs ok hr H locs cells slots ls hat hL
  exact lv_if_le ok.1 ok.2.1 hd ht (fun h => kt h p l e R s m args below meth c Q D cA b0 bS LS z0 y0 xs ok hr H locs cells slots ls hat hL) (fun h => kf h p l e R s m args below meth c Q D cA b0 bS LS z0 y0 xs ok hr H locs cells slots ls hat hL)
theorem en_icmp_eq {x y : Int32} (hd : en_j i pc (.if_icmp .eq) pc' tgt) (kt : x = y → en_Go nc ns i tgt L st M P) (kf : ¬ x = y → en_Go nc ns i pc' L st M P) : en_Go nc ns i pc L (.int y :: .int x :: st) M P := by
  obtain ⟨off, hd, ht, rfl⟩ := hd
  intro p l e R s m args below meth c Q D cA b0 bS LS z0 y0 xs ok hr H locs cells slots ls hat hL
  exact lv_icmp_eq ok.1 ok.2.1 hd ht (fun h => kt h p l e R s m args below meth c Q D cA b0 bS LS z0 y0 xs ok hr H locs cells slots ls hat hL) (fun h => kf h p l e R s m args below meth c Q D cA b0 bS LS z0 y0 xs ok hr H locs cells slots ls hat hL)
theorem en_icmp_ne {x y : Int32} (hd : en_j i pc (.if_icmp .ne) pc' tgt) (kt : ¬ x = y → en_Go nc ns i tgt L st M P) (kf : x = y → en_Go nc ns i pc' L st M P) : en_Go nc ns i pc L (.int y :: .int x :: st) M P := by
  obtain ⟨off, hd, ht, rfl⟩ := hd
  intro p l e R s m args below meth c Q D cA b0 bS LS z0 y0 xs ok hr H locs cells slots ls hat hL
  exact lv_icmp_ne ok.1 ok.2.1 hd ht (fun h => kt h p l e R s m args below meth c Q D cA b0 bS LS z0 y0 xs ok hr H locs cells slots ls hat hL) (fun h => kf h p l e R s m args below meth c Q D cA b0 bS LS z0 y0 xs ok hr H locs cells slots ls hat hL)
theorem en_icmp_lt {x y : Int32} (hd : en_j i pc (.if_icmp .lt) pc' tgt) (kt : x < y → en_Go nc ns i tgt L st M P) (kf : ¬ x < y → en_Go nc ns i pc' L st M P) : en_Go nc ns i pc L (.int y :: .int x :: st) M P := by
  obtain ⟨off, hd, ht, rfl⟩ := hd
  intro p l e R s m args below meth c Q D cA b0 bS LS z0 y0 xs ok hr H locs cells slots ls hat hL
  exact lv_icmp_lt ok.1 ok.2.1 hd ht (fun h => kt h p l e R s m args below meth c Q D cA b0 bS LS z0 y0 xs ok hr H locs cells slots ls hat hL) (fun h => kf h p l e R s m args below meth c Q D cA b0 bS LS z0 y0 xs ok hr H locs cells slots ls hat hL)
theorem en_icmp_ge {x y : Int32} (hd : en_j i pc (.if_icmp .ge) pc' tgt) (kt : y ≤ x → en_Go nc ns i tgt L st M P) (kf : ¬ y ≤ x → en_Go nc ns i pc' L st M P) : en_Go nc ns i pc L (.int y :: .int x :: st) M P := by
  obtain ⟨off, hd, ht, rfl⟩ := hd
  intro p l e R s m args below meth c Q D cA b0 bS LS z0 y0 xs ok hr H locs cells slots ls hat hL
  exact lv_icmp_ge ok.1 ok.2.1 hd ht (fun h => kt h p l e R s m args below meth c Q D cA b0 bS LS z0 y0 xs ok hr H locs cells slots ls hat hL) (fun h => kf h p l e R s m args below meth c Q D cA b0 bS LS z0 y0 xs ok hr H locs cells slots ls hat hL)
theorem en_icmp_gt {x y : Int32} (hd : en_j i pc (.if_icmp .gt) pc' tgt) (kt : y < x → en_Go nc ns i tgt L st M P) (kf : ¬ y < x → en_Go nc ns i pc' L st M P) : en_Go nc ns i pc L (.int y :: .int x :: st) M P := by
  obtain ⟨off, hd, ht, rfl⟩ := hd
  intro p l e R s m args below meth c Q D cA b0 bS LS z0 y0 xs ok hr H locs cells slots ls hat hL
  exact lv_icmp_gt ok.1 ok.2.1 hd ht (fun h => kt h p l e R s m args below meth c Q D cA b0 bS LS z0 y0 xs ok hr H locs cells slots ls hat hL) (fun h => kf h p l e R s m args below meth c Q D cA b0 bS LS z0 y0 xs ok hr H locs cells slots ls hat hL)
theorem en_icmp_le {x y : Int32} (hd : en_j i pc (.if_icmp .le) pc' tgt) (kt : x ≤ y → en_Go nc ns i tgt L st M P) (kf : ¬ x ≤ y → en_Go nc ns i pc' L st M P) : en_Go nc ns i pc L (.int y :: .int x :: st) M P := by
  obtain ⟨off, hd, ht, rfl⟩ := hd
  intro p l e R s m args below meth c Q D cA b0 bS LS z0 y0 xs ok hr H locs cells slots ls hat hL
  exact lv_icmp_le ok.1 ok.2.1 hd ht (fun h => kt h p l e R s m args below meth c Q D cA b0 bS LS z0 y0 xs ok hr H locs cells slots ls hat hL) (fun h => kf h p l e R s m args below meth c Q D cA b0 bS LS z0 y0 xs ok hr H locs cells slots ls hat hL)
theorem en_look {x : Int32} {dflt off : Int} {ps : Array (Int × Int)} {len : Nat} (hd : decode (mB i) pc = .ok (.lookupswitch dflt ps, len)) (hp : (ps.toList.zip (ps.toList.drop 1)).all (fun (a, next) => a.1 < next.1) = true) (ho : Op.lookupswitch.offset ps.toList dflt x.toInt = off) (ht : (pc : Int) + off = (tgt : Int)) (k : en_Go nc ns i tgt L st M P) : en_Go nc ns i pc L (.int x :: st) M P :=
  en_st (fun _ _ _ _ _ _ _ _ _ _ _ _ _ _ _ _ _ _ hx hb _ kk => lv_lookup hx hb hd hp ho ht kk) k
theorem en_tabO {x : Int32} {dflt lo hi : Int} {offs : Array Int} {len : Nat} (hd : decode (mB i) pc = .ok (.tableswitch dflt lo hi offs, len)) (h : x.toInt < lo ∨ hi < x.toInt) (ht : (pc : Int) + dflt = (tgt : Int)) (k : en_Go nc ns i tgt L st M P) : en_Go nc ns i pc L (.int x :: st) M P :=
  en_st (fun _ _ _ _ _ _ _ _ _ _ _ _ _ _ _ _ _ _ hx hb _ kk => lv_tableOut hx hb hd h ht kk) k
theorem en_tabI {x : Int32} {dflt lo hi off : Int} {offs : Array Int} {len : Nat} (hd : decode (mB i) pc = .ok (.tableswitch dflt lo hi offs, len)) (h1 : ¬ x.toInt < lo) (h2 : ¬ hi < x.toInt) (ho : offs[(x.toInt - lo).toNat]? = some off) (ht : (pc : Int) + off = (tgt : Int)) (k : en_Go nc ns i tgt L st M P) : en_Go nc ns i pc L (.int x :: st) M P :=
  en_st (fun _ _ _ _ _ _ _ _ _ _ _ _ _ _ _ _ _ _ hx hb _ kk => lv_tableIn hx hb hd h1 h2 ho ht kk) k
/-! returns -/
theorem en_reti {x : Int32} (hd : en_d i pc .ireturn 1 pc') (hR : mR i = some .int) (hc : M.1.length = nc) (hs : en_sl M = ns) (hP : P (some (.int x)) M) : en_Go nc ns i pc L [.int x] M P := by
  intro p l e R s m args below meth c Q D cA b0 bS LS z0 y0 xs ok hr H locs cells slots ls hat hL
  exact hr (some (.int x)) M pc ls H locs cells slots .ireturn hP hc hs hd.1 (Or.inl ⟨rfl, hR, x, rfl⟩) hat
theorem en_retz {x : Int32} (hd : en_d i pc .ireturn 1 pc') (hR : mR i = some .boolean) (hc : M.1.length = nc) (hs : en_sl M = ns) (hx : x = 0 ∨ x = 1) (hP : P (some (.int x)) M) : en_Go nc ns i pc L [.int x] M P := by
  intro p l e R s m args below meth c Q D cA b0 bS LS z0 y0 xs ok hr H locs cells slots ls hat hL
  exact hr (some (.int x)) M pc ls H locs cells slots .ireturn hP hc hs hd.1 (Or.inr (Or.inl ⟨rfl, hR, x, rfl, hx⟩)) hat
theorem en_retv (hd : en_d i pc .return_ 1 pc') (hR : mR i = none) (hc : M.1.length = nc) (hs : en_sl M = ns) (hP : P none M) : en_Go nc ns i pc L [] M P := by
  intro p l e R s m args below meth c Q D cA b0 bS LS z0 y0 xs ok hr H locs cells slots ls hat hL
  exact hr none M pc ls H locs cells slots .return_ hP hc hs hd.1 (Or.inr (Or.inr (Or.inl ⟨rfl, hR, rfl⟩))) hat
theorem en_reta {a : Nat} (hd : en_d i pc .areturn 1 pc') (hR : ∃ C, mR i = some (.object C)) (hc : M.1.length = nc) (hs : en_sl M = ns) (hP : P (some (.ref a)) M) : en_Go nc ns i pc L [.ref a] M P := by
  intro p l e R s m args below meth c Q D cA b0 bS LS z0 y0 xs ok hr H locs cells slots ls hat hL
  exact hr (some (.ref a)) M pc ls H locs cells slots .areturn hP hc hs hd.1 (Or.inr (Or.inr (Or.inr ⟨rfl, hR, a, rfl⟩))) hat
/-- the end may be weaker -/
theorem en_mono {P' : Option Value → en_M → Prop} (h : ∀ r M', P' r M' → P r M') (k : en_Go nc ns i pc L st M P') : en_Go nc ns i pc L st M P := by
  intro p l e R s m args below meth c Q D cA b0 bS LS z0 y0 xs ok hr H locs cells slots ls hat hL
  exact k p l e R s m args below meth c Q D cA b0 bS LS z0 y0 xs ok (fun r M' pc' ls' H locs cells slots ins hP => hr r M' pc' ls' H locs cells slots ins (h r M' hP)) H locs cells slots ls hat hL
end ENR
/-! fields -/
section ENF
variable {p : Program} {l : Launch} {e : Env} {R : Room} {s : State} {m : MethodId} {args : Array Value} {below : List Frame} {meth : Method} {c : Code} {Q : State → Prop} {D : va_G} {cA : Nat → ClassId} {b0 bS LS z0 y0 nc ns : Nat} {xs : Nat → Int32} {i pc : Nat} {H : Heap} {locs : List Loc} {cells slots : Nat} {ls : Array Slot} {rest : List Value} {M M' : en_M}
theorem en_pos {a : Nat} {q : Nat × Nat} (hat : en_at s D cA b0 bS LS z0 y0 nc ns xs M H locs cells slots) (hs : M.1[a]? = some q) (hq : q.1 ≠ 99) : ∃ a', a = a' + 1 := by
  cases a with
  | zero => exact absurd (by rw [hat.2.2.2.2.1] at hs; exact (congrArg Prod.fst (Option.some.inj hs)).symm) hq
  | succ a => exact ⟨a, rfl⟩
theorem en_getW {idx ci k a n : Nat} {nb : Bool} {v : Value} (ok : en_ok p R s m args meth c D cA b0 bS LS z0 y0 nc ns xs i) (hat : en_at s D cA b0 bS LS z0 y0 nc ns xs M H locs cells slots) (hF : kF (mO i) idx = some (ci, k, nb)) (hdg : decode (mB i) pc = .ok (.getfield idx, 3))
    (hs : M.1[a]? = some (ci, n)) (hn : k < n) (hv : en_f b0 bS M ci a k = v) (kk : W p l e R s m args below meth c H locs cells slots Q (F0 m (pc + 3) ls (v :: rest))) : W p l e R s m args below meth c H locs cells slots Q (F0 m pc ls (.ref (en_ad b0 bS a) :: rest)) := by
  obtain ⟨C, T, N, host, hc, hk, hC, hl0, hl1⟩ := T_F hF
  obtain ⟨hin, hty, hnm, -, -, h99⟩ := T_cls hc
  obtain ⟨a', rfl⟩ := en_pos hat hs (by show ci ≠ 99; omega)
  have he : (en_w b0 bS cA M)[a']? = some (b0 + a', .inr (ci, (List.range n).map (en_f b0 bS M ci (a' + 1)))) := by
    rw [en_w_at hs]
    simp [en_e, h99]
  have hv' : ((List.range n).map (en_f b0 bS M ci (a' + 1)))[k]? = some v := by
    rw [List.getElem?_map, List.getElem?_range hn]
    simp [hv]
  obtain ⟨hx, hb, hml, hown, hts, hN, hK, -⟩ := ok
  cases nb with
  | false => exact va_get hx hb hts hin hown hK hat.1 a' he hc k hk (hts _ (hl0 rfl)) (fun x h => by rw [hC] at h; exact h) hv' hdg kk
  | true => exact va_getN hx hb hts hin hown hK hat.1 a' he hc k hk (va_Nw.use rfl (hN.1 _ (hl1 rfl))) (fun x h => by rw [hC] at h; exact h) hv' hdg kk
/-- a write is done: the memory M' in the place of M -/
theorem en_at_set {a' : Nat} {q : Nat × Nat} {e' : va_E} {H1 : Heap} {locs1 : List Loc} (hat : en_at s D cA b0 bS LS z0 y0 nc ns xs M H locs cells slots) (hs : M.1[a' + 1]? = some q) (h1 : M'.1 = M.1) (h2 : ∀ b, b ≠ a' + 1 → M'.2.1 b = M.2.1 b) (h3 : ∀ b, b ≠ a' + 1 → M'.2.2 b = M.2.2 b) (he : en_e b0 bS cA M' (a' + 1) q = e')
    (hP : va_P D vwCl ((en_w b0 bS cA M).set a' (b0 + a', e')) H1) (hS : va_S (fun q => b0 ≤ q) s.heap H1 locs1) : en_at s D cA b0 bS LS z0 y0 nc ns xs M' H1 locs1 cells slots := by
  refine ⟨?_, hS, ?_, ?_, by rw [h1]; exact hat.2.2.2.2.1, fun k hk => ?_⟩
  · rw [en_w_set hs h1 h2 h3, he]
    exact hP
  · have := hat.2.2.1
    unfold en_sl at this ⊢
    rw [h1]
    exact this
  · have := hat.2.2.2.1
    unfold en_sl at this ⊢
    rw [h1]
    exact this
  · rw [h2 0 (by omega)]
    exact hat.2.2.2.2.2 k hk
theorem en_putW {idx ci k a n : Nat} {nb : Bool} {v : Value} (ok : en_ok p R s m args meth c D cA b0 bS LS z0 y0 nc ns xs i) (hat : en_at s D cA b0 bS LS z0 y0 nc ns xs M H locs cells slots) (hF : kF (mO i) idx = some (ci, k, nb)) (hdg : decode (mB i) pc = .ok (.putfield idx, 3))
    (hs : M.1[a]? = some (ci, n)) (hn : k < n) (hnw : narrow (xT ci k) v = v) (hft : fits (xT ci k) v = true) (hini : kI ci k = true → nb = false ∧ (mY i).name = "<init>" ∧ mO i = ci)
    (h1 : M'.1 = M.1) (h2 : ∀ b, b ≠ a → M'.2.1 b = M.2.1 b) (h3 : ∀ b, b ≠ a → M'.2.2 b = M.2.2 b) (ho : ∀ j, j ≠ k → en_f b0 bS M' ci a j = en_f b0 bS M ci a j) (hv : en_f b0 bS M' ci a k = v)
    (kk : ∀ (H1 : Heap) (locs1 : List Loc), en_at s D cA b0 bS LS z0 y0 nc ns xs M' H1 locs1 cells slots → W p l e R s m args below meth c H1 locs1 cells slots Q (F0 m (pc + 3) ls rest)) : W p l e R s m args below meth c H locs cells slots Q (F0 m pc ls (v :: .ref (en_ad b0 bS a) :: rest)) := by
  obtain ⟨C, T, N, host, hc, hk, hC, hl0, hl1⟩ := T_F hF
  obtain ⟨hin, hty, hnm, -, -, h99⟩ := T_cls hc
  obtain ⟨a', rfl⟩ := en_pos hat hs (by show ci ≠ 99; omega)
  have he : (en_w b0 bS cA M)[a']? = some (b0 + a', .inr (ci, (List.range n).map (en_f b0 bS M ci (a' + 1)))) := by
    rw [en_w_at hs]
    simp [en_e, h99]
  have he' : en_e b0 bS cA M' (a' + 1) (ci, n) = .inr (ci, ((List.range n).map (en_f b0 bS M ci (a' + 1))).set k v) := by
    rw [en_fs_set hn ho hv]
    simp [en_e, h99]
  have hlen : k < ((List.range n).map (en_f b0 bS M ci (a' + 1))).length := by simpa using hn
  have hfl := T_I hc hk
  obtain ⟨hx, hb, hml, hown, hts, hN, hK, ⟨hmn, -⟩, -⟩ := ok
  have go : ∀ (H1 : Heap) (locs1 : List Loc), va_P D vwCl ((en_w b0 bS cA M).set a' (b0 + a', .inr (ci, ((List.range n).map (en_f b0 bS M ci (a' + 1))).set k v))) H1 → va_D (fun q => b0 ≤ q) ((en_w b0 bS cA M).set a' (b0 + a', .inr (ci, ((List.range n).map (en_f b0 bS M ci (a' + 1))).set k v))) → va_S (fun q => b0 ≤ q) s.heap H1 locs1 → W p l e R s m args below meth c H1 locs1 cells slots Q (F0 m (pc + 3) ls rest) :=
    fun H1 locs1 hP _ hS => kk H1 locs1 (en_at_set hat hs h1 h2 h3 he' hP hS)
  cases hfin : (T k).2.2.2 with
  | true =>
    obtain ⟨e1, e2, e3⟩ := hini (hfl.trans hfin)
    subst e1
    exact va_putF hx hb hts hin (xT ci) hty hnm hown hK hat.1 en_w_D hat.2.1 a' he hc k hk (hts _ (hl0 rfl)) (fun x h => by rw [hC] at h; exact h) hfin (hmn.trans e2) (by rw [hC, e3]; exact T_oY hc) (hty k hk) hnw hft hlen hdg go
  | false =>
    cases nb with
    | false => exact va_put hx hb hts hin (xT ci) hty hnm hown hK hat.1 en_w_D hat.2.1 a' he hc k hk (hts _ (hl0 rfl)) (fun x h => by rw [hC] at h; exact h) hfin (hty k hk) hnw hft hlen hdg go
    | true => exact va_putN hx hb hts hin (xT ci) hty hnm hown hK hat.1 en_w_D hat.2.1 a' he hc k hk (va_Nw.use rfl (hN.1 _ (hl1 rfl))) (fun x h => by rw [hC] at h; exact h) hfin (hty k hk) hnw hft hlen hdg go
end ENF
section ENG
variable {nc ns i pc pc' tgt : Nat} {L L' st : List Value} {M : en_M} {P : Option Value → en_M → Prop} {a ci k n : Nat} {nb : Bool}
theorem en_geti (hd : en_df i pc ci k nb false pc') (hs : M.1[a]? = some (ci, n)) (hn : k < n) (kk : en_Go nc ns i pc' L (.int (M.2.1 a k) :: st) M P) : en_Go nc ns i pc L (.ref a :: st) M P := by
  obtain ⟨idx, hd, hF, hx, rfl⟩ := hd
  intro p l e R s m args below meth c Q D cA b0 bS LS z0 y0 xs ok hr H locs cells slots ls hat hL
  exact en_getW ok hat hF hd hs hn (v := .int (M.2.1 a k)) (by simp [en_f, hx]) (kk p l e R s m args below meth c Q D cA b0 bS LS z0 y0 xs ok hr H locs cells slots ls hat hL)
theorem en_getr {b : Nat} (hd : en_df i pc ci k nb true pc') (hs : M.1[a]? = some (ci, n)) (hn : k < n) (hb : M.2.2 a k = some b) (kk : en_Go nc ns i pc' L (.ref b :: st) M P) : en_Go nc ns i pc L (.ref a :: st) M P := by
  obtain ⟨idx, hd, hF, hx, rfl⟩ := hd
  intro p l e R s m args below meth c Q D cA b0 bS LS z0 y0 xs ok hr H locs cells slots ls hat hL
  exact en_getW ok hat hF hd hs hn (v := .ref (en_ad b0 bS b)) (by simp [en_f, hx, hb, va_rf]) (kk p l e R s m args below meth c Q D cA b0 bS LS z0 y0 xs ok hr H locs cells slots ls hat hL)
theorem en_puti {x : Int32} (hd : en_dp i pc ci k nb .int pc') (hini : kI ci k = true → nb = false ∧ (mY i).name = "<init>" ∧ mO i = ci) (hs : M.1[a]? = some (ci, n)) (hn : k < n) (kk : en_Go nc ns i pc' L st (M.1, en_u2 M.2.1 a k x, M.2.2) P) : en_Go nc ns i pc L (.int x :: .ref a :: st) M P := by
  obtain ⟨idx, hd, hF, hx, rfl⟩ := hd
  intro p l e R s m args below meth c Q D cA b0 bS LS z0 y0 xs ok hr H locs cells slots ls hat hL
  exact en_putW (M' := (M.1, en_u2 M.2.1 a k x, M.2.2)) (v := .int x) ok hat hF hd hs hn (by rw [hx]; rfl) (by rw [hx]; rfl) hini rfl (fun b hb => en_u2_off hb) (fun b hb => rfl)
    (fun j hj => by simp [en_f, en_u2, hj]) (by simp [en_f, en_u2, en_xr, hx])
    (fun H1 locs1 hat1 => kk p l e R s m args below meth c Q D cA b0 bS LS z0 y0 xs ok hr H1 locs1 cells slots ls hat1 hL)
theorem en_putz {x : Int32} (hd : en_dp i pc ci k nb .boolean pc') (hini : kI ci k = true → nb = false ∧ (mY i).name = "<init>" ∧ mO i = ci) (hs : M.1[a]? = some (ci, n)) (hn : k < n) (hx1 : x = 0 ∨ x = 1) (kk : en_Go nc ns i pc' L st (M.1, en_u2 M.2.1 a k x, M.2.2) P) : en_Go nc ns i pc L (.int x :: .ref a :: st) M P := by
  obtain ⟨idx, hd, hF, hx, rfl⟩ := hd
  intro p l e R s m args below meth c Q D cA b0 bS LS z0 y0 xs ok hr H locs cells slots ls hat hL
  exact en_putW (M' := (M.1, en_u2 M.2.1 a k x, M.2.2)) (v := .int x) ok hat hF hd hs hn (by rw [hx]; rcases hx1 with rfl | rfl <;> rfl) (by rw [hx]; rcases hx1 with rfl | rfl <;> rfl) hini rfl (fun b hb => en_u2_off hb) (fun b hb => rfl)
    (fun j hj => by simp [en_f, en_u2, hj]) (by simp [en_f, en_u2, en_xr, hx])
    (fun H1 locs1 hat1 => kk p l e R s m args below meth c Q D cA b0 bS LS z0 y0 xs ok hr H1 locs1 cells slots ls hat1 hL)
theorem en_putr {b : Nat} {ty : FieldType} (hd : en_dp i pc ci k nb ty pc') (hty : (∃ C, ty = .object C) ∨ ∃ t, ty = .array t) (hini : kI ci k = true → nb = false ∧ (mY i).name = "<init>" ∧ mO i = ci) (hs : M.1[a]? = some (ci, n)) (hn : k < n) (kk : en_Go nc ns i pc' L st (M.1, M.2.1, en_u2 M.2.2 a k (some b)) P) : en_Go nc ns i pc L (.ref b :: .ref a :: st) M P := by
  obtain ⟨idx, hd, hF, hx, rfl⟩ := hd
  have hxr : en_xr ci k = true := by unfold en_xr; rcases hty with ⟨C, rfl⟩ | ⟨t, rfl⟩ <;> rw [hx]
  intro p l e R s m args below meth c Q D cA b0 bS LS z0 y0 xs ok hr H locs cells slots ls hat hL
  exact en_putW (M' := (M.1, M.2.1, en_u2 M.2.2 a k (some b))) (v := .ref (en_ad b0 bS b)) ok hat hF hd hs hn (by rcases hty with ⟨C, rfl⟩ | ⟨t, rfl⟩ <;> rw [hx] <;> rfl) (by rcases hty with ⟨C, rfl⟩ | ⟨t, rfl⟩ <;> rw [hx] <;> rfl) hini rfl (fun b hb => rfl) (fun b hb => en_u2_off hb)
    (fun j hj => by simp [en_f, en_u2, hj]) (by simp [en_f, en_u2, hxr, va_rf])
    (fun H1 locs1 hat1 => kk p l e R s m args below meth c Q D cA b0 bS LS z0 y0 xs ok hr H1 locs1 cells slots ls hat1 hL)
/-! arrays; 99 is the script, 100 ints, 101 booleans, others references -/
theorem en_iald {x : Int32} (hd : en_d i pc .iaload 1 pc') (hs : M.1[a]? = some (100, n)) (hin : vp_in x n) (kk : en_Go nc ns i pc' L (.int (M.2.1 a x.toNatClampNeg) :: st) M P) : en_Go nc ns i pc L (.int x :: .ref a :: st) M P := by
  obtain ⟨hd, rfl⟩ := hd
  intro p l e R s m args below meth c Q D cA b0 bS LS z0 y0 xs ok hr H locs cells slots ls hat hL
  obtain ⟨a', rfl⟩ := en_pos hat hs (by show (100 : Nat) ≠ 99; decide)
  have he : (en_w b0 bS cA M)[a']? = some (b0 + a', .inl (cA 0, n, .inl (M.2.1 (a' + 1)))) := by
    rw [en_w_at hs]
    simp [en_e]
  exact va_iald ok.1 ok.2.1 ok.2.2.2.2.2.2.1 hat.1 a' 0 he (en_ty_at T_A0) hin hd (kk p l e R s m args below meth c Q D cA b0 bS LS z0 y0 xs ok hr H locs cells slots ls hat hL)
theorem en_zald {x : Int32} (hd : en_d i pc .baload 1 pc') (hs : M.1[a]? = some (101, n)) (hin : vp_in x n) (kk : en_Go nc ns i pc' L (.int (M.2.1 a x.toNatClampNeg) :: st) M P) : en_Go nc ns i pc L (.int x :: .ref a :: st) M P := by
  obtain ⟨hd, rfl⟩ := hd
  intro p l e R s m args below meth c Q D cA b0 bS LS z0 y0 xs ok hr H locs cells slots ls hat hL
  obtain ⟨a', rfl⟩ := en_pos hat hs (by show (101 : Nat) ≠ 99; decide)
  have he : (en_w b0 bS cA M)[a']? = some (b0 + a', .inl (cA 1, n, .inl (M.2.1 (a' + 1)))) := by
    rw [en_w_at hs]
    simp [en_e]
  exact va_zald ok.1 ok.2.1 ok.2.2.2.2.2.2.1 hat.1 a' 1 he (en_ty_at T_A1) hin hd (kk p l e R s m args below meth c Q D cA b0 bS LS z0 y0 xs ok hr H locs cells slots ls hat hL)
theorem en_aald {x : Int32} {t b : Nat} (hd : en_d i pc .aaload 1 pc') (hs : M.1[a]? = some (100 + (t + 2), n)) (ht : ∃ C, xA[t + 2]? = some (.object C)) (hin : vp_in x n) (hb : M.2.2 a x.toNatClampNeg = some b) (kk : en_Go nc ns i pc' L (.ref b :: st) M P) : en_Go nc ns i pc L (.int x :: .ref a :: st) M P := by
  obtain ⟨hd, rfl⟩ := hd
  obtain ⟨C, ht⟩ := ht
  intro p l e R s m args below meth c Q D cA b0 bS LS z0 y0 xs ok hr H locs cells slots ls hat hL
  obtain ⟨a', rfl⟩ := en_pos hat hs (by show 100 + (t + 2) ≠ 99; omega)
  have he : (en_w b0 bS cA M)[a']? = some (b0 + a', .inl (cA (t + 2), n, .inr (.inr (.inr (.inr (fun k => (M.2.2 (a' + 1) k).map (en_ad b0 bS))))))) := by
    rw [en_w_at hs]
    unfold en_e
    rw [if_neg (by show ¬ 100 + (t + 2) < 99; omega), if_neg (by show ¬ 100 + (t + 2) < 102; omega)]
    rw [show (100 + (t + 2), n).1 - 100 = t + 2 from Nat.add_sub_cancel_left 100 (t + 2)]
  refine va_aldq ok.1 ok.2.1 ok.2.2.2.2.2.2.1 hat.1 a' (t + 2) he (en_ty_at ht) hin hd ?_
  rw [hb]
  exact kk p l e R s m args below meth c Q D cA b0 bS LS z0 y0 xs ok hr H locs cells slots ls hat hL
theorem en_sald {x : Int32} (hd : en_d i pc .iaload 1 pc') (hs : M.1[0]? = some (99, n)) (hin : vp_in x n) (kk : en_Go nc ns i pc' L (.int (M.2.1 0 x.toNatClampNeg) :: st) M P) : en_Go nc ns i pc L (.int x :: .ref 0 :: st) M P := by
  obtain ⟨hd, rfl⟩ := hd
  intro p l e R s m args below meth c Q D cA b0 bS LS z0 y0 xs ok hr H locs cells slots ls hat hL
  have hn : LS = n := by
    have := hat.2.2.2.2.1.symm.trans hs
    exact congrArg Prod.snd (Option.some.inj this)
  subst hn
  have hlt : x.toNatClampNeg < LS := Nat.not_le.mp fun q => hin (Or.inr q)
  obtain ⟨hb1, hb2, hb3⟩ := ok.2.2.2.2.2.2.2.2.2.2.1
  refine va_sld (b := bS) (A := fun q => b0 ≤ q) ok.1 ok.2.1 ok.2.2.2.2.2.2.2.2.2.1 (by omega) (by show ¬ b0 ≤ bS; omega) hat.2.1 hin hd ?_
  rw [← hat.2.2.2.2.2 _ hlt]
  exact kk p l e R s m args below meth c Q D cA b0 bS LS z0 y0 xs ok hr H locs cells slots ls hat hL
theorem en_slen (hd : en_d i pc .arraylength 1 pc') (hs : M.1[0]? = some (99, n)) (kk : en_Go nc ns i pc' L (.int (Int32.ofNat n) :: st) M P) : en_Go nc ns i pc L (.ref 0 :: st) M P := by
  obtain ⟨hd, rfl⟩ := hd
  intro p l e R s m args below meth c Q D cA b0 bS LS z0 y0 xs ok hr H locs cells slots ls hat hL
  have hn : LS = n := by
    have := hat.2.2.2.2.1.symm.trans hs
    exact congrArg Prod.snd (Option.some.inj this)
  subst hn
  obtain ⟨hb1, hb2, hb3⟩ := ok.2.2.2.2.2.2.2.2.2.2.1
  exact va_slen (b := bS) (A := fun q => b0 ≤ q) ok.1 ok.2.1 ok.2.2.2.2.2.2.2.2.2.1 (by omega) (by show ¬ b0 ≤ bS; omega) hat.2.1 hd (kk p l e R s m args below meth c Q D cA b0 bS LS z0 y0 xs ok hr H locs cells slots ls hat hL)
theorem en_iast {x v : Int32} (hd : en_d i pc .iastore 1 pc') (hs : M.1[a]? = some (100, n)) (hin : vp_in x n) (kk : en_Go nc ns i pc' L st (M.1, en_u2 M.2.1 a x.toNatClampNeg v, M.2.2) P) : en_Go nc ns i pc L (.int v :: .int x :: .ref a :: st) M P := by
  obtain ⟨hd, rfl⟩ := hd
  intro p l e R s m args below meth c Q D cA b0 bS LS z0 y0 xs ok hr H locs cells slots ls hat hL
  obtain ⟨a', rfl⟩ := en_pos hat hs (by show (100 : Nat) ≠ 99; decide)
  have he : (en_w b0 bS cA M)[a']? = some (b0 + a', .inl (cA 0, n, .inl (M.2.1 (a' + 1)))) := by
    rw [en_w_at hs]
    simp [en_e]
  exact va_iast ok.1 ok.2.1 ok.2.2.2.2.2.2.1 hat.1 en_w_D hat.2.1 a' 0 he (en_ty_at T_A0) hin hd (fun H1 locs1 hP _ hS => kk p l e R s m args below meth c Q D cA b0 bS LS z0 y0 xs ok hr H1 locs1 cells slots ls
    (en_at_set (M' := (M.1, en_u2 M.2.1 (a' + 1) x.toNatClampNeg v, M.2.2)) hat hs rfl (fun b hb => en_u2_off hb) (fun b hb => rfl) (by simp [en_e, en_u2_row]) hP hS) hL)
theorem en_zast {x v : Int32} (hd : en_d i pc .bastore 1 pc') (hs : M.1[a]? = some (101, n)) (hin : vp_in x n) (hv : v = 0 ∨ v = 1) (kk : en_Go nc ns i pc' L st (M.1, en_u2 M.2.1 a x.toNatClampNeg v, M.2.2) P) : en_Go nc ns i pc L (.int v :: .int x :: .ref a :: st) M P := by
  obtain ⟨hd, rfl⟩ := hd
  intro p l e R s m args below meth c Q D cA b0 bS LS z0 y0 xs ok hr H locs cells slots ls hat hL
  obtain ⟨a', rfl⟩ := en_pos hat hs (by show (101 : Nat) ≠ 99; decide)
  have he : (en_w b0 bS cA M)[a']? = some (b0 + a', .inl (cA 1, n, .inl (M.2.1 (a' + 1)))) := by
    rw [en_w_at hs]
    simp [en_e]
  have hvn : vp_nar .boolean v = v := by rcases hv with rfl | rfl <;> rfl
  exact va_zast ok.1 ok.2.1 ok.2.2.2.2.2.2.1 hat.1 en_w_D hat.2.1 a' 1 he (en_ty_at T_A1) hin hd (fun H1 locs1 hP _ hS => kk p l e R s m args below meth c Q D cA b0 bS LS z0 y0 xs ok hr H1 locs1 cells slots ls
    (en_at_set (M' := (M.1, en_u2 M.2.1 (a' + 1) x.toNatClampNeg v, M.2.2)) hat hs rfl (fun b hb => en_u2_off hb) (fun b hb => rfl) (by simp [en_e, en_u2_row, hvn]) hP hS) hL)
theorem en_aast {x : Int32} {t b n' N : Nat} {C : String} {T : u_T} (hd : en_d i pc .aastore 1 pc') (hs : M.1[a]? = some (100 + (t + 2), n)) (hb : M.1[b]? = some (ci, n')) (hc : vwCl[ci]? = some (C, T, N)) (ht : xA[t + 2]? = some (.object C)) (hin : vp_in x n) (kk : en_Go nc ns i pc' L st (M.1, M.2.1, en_u2 M.2.2 a x.toNatClampNeg (some b)) P) : en_Go nc ns i pc L (.ref b :: .int x :: .ref a :: st) M P := by
  obtain ⟨hd, rfl⟩ := hd
  obtain ⟨-, -, -, -, -, h99⟩ := T_cls hc
  intro p l e R s m args below meth c Q D cA b0 bS LS z0 y0 xs ok hr H locs cells slots ls hat hL
  obtain ⟨a', rfl⟩ := en_pos hat hs (by show 100 + (t + 2) ≠ 99; omega)
  obtain ⟨b', rfl⟩ := en_pos hat hb (by show ci ≠ 99; omega)
  have he : (en_w b0 bS cA M)[a']? = some (b0 + a', .inl (cA (t + 2), n, .inr (.inr (.inr (.inr (fun k => (M.2.2 (a' + 1) k).map (en_ad b0 bS))))))) := by
    rw [en_w_at hs]
    unfold en_e
    rw [if_neg (by show ¬ 100 + (t + 2) < 99; omega), if_neg (by show ¬ 100 + (t + 2) < 102; omega)]
    rw [show (100 + (t + 2), n).1 - 100 = t + 2 from Nat.add_sub_cancel_left 100 (t + 2)]
  have hev : (en_w b0 bS cA M)[b']? = some (b0 + b', .inr (ci, (List.range n').map (en_f b0 bS M ci (b' + 1)))) := by
    rw [en_w_at hb]
    simp [en_e, h99]
  refine va_astq ok.1 ok.2.1 ok.2.2.2.2.2.2.1 hat.1 en_w_D hat.2.1 a' (t + 2) b' ci he (en_ty_at ht) hev hc hin hd (fun H1 locs1 hP _ hS => kk p l e R s m args below meth c Q D cA b0 bS LS z0 y0 xs ok hr H1 locs1 cells slots ls
    (en_at_set (M' := (M.1, M.2.1, en_u2 M.2.2 (a' + 1) x.toNatClampNeg (some (b' + 1)))) hat hs rfl (fun b hb => rfl) (fun b hb => en_u2_off hb) ?_ hP hS) hL)
  unfold en_e
  rw [if_neg (by show ¬ 100 + (t + 2) < 99; omega), if_neg (by show ¬ 100 + (t + 2) < 102; omega)]
  rw [show (100 + (t + 2), n).1 - 100 = t + 2 from Nat.add_sub_cancel_left 100 (t + 2)]
  have hf : (fun k => (en_u2 M.2.2 (a' + 1) x.toNatClampNeg (some (b' + 1)) (a' + 1) k).map (en_ad b0 bS)) = va_up (fun k => (M.2.2 (a' + 1) k).map (en_ad b0 bS)) x.toNatClampNeg (some (b0 + b')) := by
    funext k
    by_cases hk : k = x.toNatClampNeg
    · simp [en_u2, va_up, hk, en_ad]
    · simp [en_u2, va_up, hk]
  show (Sum.inl (cA (t + 2), n, Sum.inr (Sum.inr (Sum.inr (Sum.inr (fun k => (en_u2 M.2.2 (a' + 1) x.toNatClampNeg (some (b' + 1)) (a' + 1) k).map (en_ad b0 bS)))))) : va_E) = _
  rw [hf]
end ENG
/-! new cells -/
section ENN
variable {p : Program} {l : Launch} {e : Env} {R : Room} {s : State} {m : MethodId} {args : Array Value} {below : List Frame} {meth : Method} {c : Code} {Q : State → Prop} {D : va_G} {cA : Nat → ClassId} {b0 bS LS z0 y0 nc ns : Nat} {xs : Nat → Int32} {i pc : Nat} {H : Heap} {locs : List Loc} {cells slots : Nat} {ls : Array Slot} {rest : List Value} {M M' : en_M} {T : State}
theorem en_size (ok : en_ok p R s m args meth c D cA b0 bS LS z0 y0 nc ns xs i) (hat : en_at s D cA b0 bS LS z0 y0 nc ns xs M H locs cells slots) (hT : T.heap = H) (X : Stand p l e R s m args below meth c T locs cells slots) : H.size + 1 = b0 + M.1.length := by
  have h1 : (T.setVm s.vm).heap.size ≤ s.heap.size + cells := X.same.2.2.1
  have h2 : (T.setVm s.vm).heap.size = H.size := by rw [← hT]; rfl
  obtain ⟨hb1, hb2, hb3⟩ := ok.2.2.2.2.2.2.2.2.2.2.1
  have h3 := hat.2.2.1.1
  have h4 := hat.2.1.1
  by_cases hl : M.1.length = z0
  · omega
  · have hlt : (M.1.length - 2) + 1 < M.1.length := by omega
    have he := en_w_at (b0 := b0) (bS := bS) (cA := cA) (List.getElem?_eq_getElem hlt)
    have h5 := (hat.1 _ _ he).lt
    have h6 : b0 + (M.1.length - 2) < H.size := h5
    omega
theorem en_w_push {q : Nat × Nat} (hl : 1 ≤ M.1.length) (h1 : M'.1 = M.1 ++ [q]) (h2 : ∀ b, b < M.1.length → M'.2.1 b = M.2.1 b) (h3 : ∀ b, b < M.1.length → M'.2.2 b = M.2.2 b) :
    en_w b0 bS cA M' = en_w b0 bS cA M ++ [(b0 + (M.1.length - 1), en_e b0 bS cA M' M.1.length q)] := by
  have hlen : M'.1.length = M.1.length + 1 := by rw [h1]; simp
  apply List.ext_getElem?
  intro j
  by_cases hj : j < M.1.length - 1
  · have e1 : M.1[j + 1]? = some (M.1[j + 1]) := List.getElem?_eq_getElem (by omega)
    have e2 : M'.1[j + 1]? = some (M.1[j + 1]) := by rw [h1, List.getElem?_append_left (by omega)]; exact e1
    rw [List.getElem?_append_left (by rw [en_w_len]; exact hj), en_w_at e2, en_w_at e1, en_e_congr (h2 _ (by omega)) (h3 _ (by omega))]
  · by_cases hj2 : j = M.1.length - 1
    · subst hj2
      have e2 : M'.1[M.1.length - 1 + 1]? = some q := by
        rw [h1, show M.1.length - 1 + 1 = M.1.length by omega, List.getElem?_append_right (Nat.le_refl _)]
        simp
      rw [en_w_at e2, List.getElem?_append_right (by rw [en_w_len]; exact Nat.le_refl _), en_w_len, Nat.sub_self]
      rw [show M.1.length - 1 + 1 = M.1.length by omega]
      rfl
    · rw [List.getElem?_eq_none (by rw [en_w_len]; omega), List.getElem?_eq_none (by rw [List.length_append, en_w_len]; simp; omega)]
theorem en_fresh {q : Nat} {x : va_E} {H1 : Heap} (hl : 1 ≤ M.1.length) (hP : va_P D vwCl (en_w b0 bS cA M ++ [(q, x)]) H1) (hD : va_D (fun q => b0 ≤ q) (en_w b0 bS cA M ++ [(q, x)])) (hsz : H1.size ≤ b0 + M.1.length) : q = b0 + (M.1.length - 1) := by
  have hlast : (en_w b0 bS cA M ++ [(q, x)])[M.1.length - 1]? = some (q, x) := by
    rw [List.getElem?_append_right (by rw [en_w_len]; exact Nat.le_refl _), en_w_len, Nat.sub_self]
    rfl
  have h1 : q < H1.size := (hP _ _ hlast).lt
  have h2 : b0 ≤ q := hD.2 _ _ hlast
  by_cases h : q = b0 + (M.1.length - 1)
  · exact h
  · exfalso
    have hj : (q - b0) + 1 < M.1.length := by omega
    have e1 : (en_w b0 bS cA M)[q - b0]? = _ := en_w_at (List.getElem?_eq_getElem hj)
    have e2 : (en_w b0 bS cA M ++ [(q, x)])[q - b0]? = some (b0 + (q - b0), en_e b0 bS cA M (q - b0 + 1) (M.1[q - b0 + 1])) := by
      rw [List.getElem?_append_left (by rw [en_w_len]; omega)]
      exact e1
    have := hD.1 _ _ _ _ e2 hlast (by show b0 + (q - b0) = q; omega)
    omega
theorem en_at_push {q : Nat × Nat} {H1 : Heap} {locs1 : List Loc} (hat : en_at s D cA b0 bS LS z0 y0 nc ns xs M H locs cells slots) (hl : 1 ≤ M.1.length) (h1 : M'.1 = M.1 ++ [q]) (h2 : ∀ b, b < M.1.length → M'.2.1 b = M.2.1 b) (h3 : ∀ b, b < M.1.length → M'.2.2 b = M.2.2 b) (hnc : M.1.length + 1 ≤ nc) (hns : en_sl M + q.2 ≤ ns)
    (hP : va_P D vwCl (en_w b0 bS cA M ++ [(b0 + (M.1.length - 1), en_e b0 bS cA M' M.1.length q)]) H1) (hS : va_S (fun q => b0 ≤ q) s.heap H1 locs1) : en_at s D cA b0 bS LS z0 y0 nc ns xs M' H1 locs1 (cells + 1) (slots + q.2) := by
  have hsl : en_sl M' = en_sl M + q.2 := by unfold en_sl; rw [h1]; simp
  have hlen : M'.1.length = M.1.length + 1 := by rw [h1]; simp
  have a1 := hat.2.2.1
  refine ⟨?_, hS, ?_, ?_, ?_, fun k hk => ?_⟩
  · rw [en_w_push hl h1 h2 h3]
    exact hP
  · rw [hlen, hsl]
    omega
  · rw [hlen, hsl]
    omega
  · rw [h1, List.getElem?_append_left (by omega)]
    exact hat.2.2.2.2.1
  · rw [h2 0 (by omega)]
    exact hat.2.2.2.2.2 k hk
end ENN
def en_nw (M : en_M) (kd n : Nat) : en_M := (M.1 ++ [(kd, n)], en_ur M.2.1 M.1.length (fun _ => 0), en_ur M.2.2 M.1.length (fun _ => none))
def en_dw (i pc ci pc' : Nat) : Prop := ∃ idx : Nat, decode (mB i) pc = .ok (.new idx, 3) ∧ kC (mO i) idx = some ci ∧ pc + 3 = pc'
def en_dq (i pc t pc' : Nat) : Prop := ∃ idx : Nat, decode (mB i) pc = .ok (.anewarray idx, 3) ∧ kA (mO i) idx = some t ∧ pc + 3 = pc'
section ENK
variable {nc ns i pc pc' tgt : Nat} {L L' st : List Value} {M : en_M} {P : Option Value → en_M → Prop} {a ci k n : Nat} {nb : Bool}
theorem en_new {C : String} {T : u_T} {N : Nat} (hd : en_dw i pc ci pc') (hc : vwCl[ci]? = some (C, T, N)) (hl : 1 ≤ M.1.length) (hnc : M.1.length + 1 ≤ nc) (hns : en_sl M + N ≤ ns) (kk : en_Go nc ns i pc' L (.ref M.1.length :: st) (en_nw M ci N) P) : en_Go nc ns i pc L st M P := by
  obtain ⟨idx, hd, hC, rfl⟩ := hd
  obtain ⟨hin, hty, hnm, hins, hini, h99⟩ := T_cls hc
  intro p l e R s m args below meth c Q D cA b0 bS LS z0 y0 xs ok hr H locs cells slots ls hat hL
  have a1 := hat.2.2.1
  have a2 := ok.2.2.2.2.2.2.2.2.2.2.2
  have hts := ok.2.2.2.2.1
  have hfs : ∀ j, j < N → defaultValue (xT ci j) = vp_V ((List.range N).map (en_f b0 bS (en_nw M ci N) ci M.1.length)) j := by
    intro j hj
    have e1 : vp_V ((List.range N).map (en_f b0 bS (en_nw M ci N) ci M.1.length)) j = en_f b0 bS (en_nw M ci N) ci M.1.length j := by
      unfold vp_V
      rw [List.getD_eq_getElem?_getD, List.getElem?_map, List.getElem?_range hj]
      rfl
    rw [e1]
    have r1 : (en_nw M ci N).2.1 M.1.length = fun _ => 0 := en_ur_row
    have r2 : (en_nw M ci N).2.2 M.1.length = fun _ => none := en_ur_row
    unfold en_f
    rw [r1, r2]
    rcases T_ty hc hj with h | h | ⟨C, h⟩ | ⟨t, h⟩ <;> simp [en_xr, h, defaultValue, va_rf]
  refine va_new (ci := ci) ok.1 ok.2.1 hts hin (xT ci) hty ok.2.2.2.1 (hts _ (T_C hC hc)) (hts _ hins) (hts _ hini) ok.2.2.2.2.2.2.1 hat.1 en_w_D hat.2.1 (fun q hq => by have := ok.2.2.2.2.2.2.2.2.2.2.1; show b0 ≤ q; omega) hc hfs (by omega) (by omega) hd (fun q H1 hP hD hS => ?_)
  intro T hT X
  have h1 : (T.setVm s.vm).heap.size ≤ s.heap.size + (cells + 1) := X.same.2.2.1
  have h2 : (T.setVm s.vm).heap.size = H1.size := by rw [← hT]; rfl
  have h3 := ok.2.2.2.2.2.2.2.2.2.2.1
  have hq := en_fresh hl hP hD (by omega)
  subst hq
  have hP' : va_P D vwCl (en_w b0 bS cA M ++ [(b0 + (M.1.length - 1), en_e b0 bS cA (en_nw M ci N) M.1.length (ci, N))]) H1 := by
    have : en_e b0 bS cA (en_nw M ci N) M.1.length (ci, N) = .inr (ci, (List.range N).map (en_f b0 bS (en_nw M ci N) ci M.1.length)) := by simp [en_e, h99]
    rw [this]
    exact hP
  have hat' := en_at_push (M' := en_nw M ci N) (q := (ci, N)) hat hl rfl (fun b hb => en_ur_off (by omega)) (fun b hb => en_ur_off (by omega)) hnc hns hP' hS
  have := kk p l e R s m args below meth c Q D cA b0 bS LS z0 y0 xs ok hr H1 locs (cells + 1) (slots + N) ls hat' hL T hT X
  obtain ⟨ll, hll⟩ : ∃ ll, M.1.length = ll + 1 := ⟨M.1.length - 1, by omega⟩
  rw [List.map_cons, hll] at this
  rw [hll]
  exact this
theorem en_newi {x : Int32} (hd : en_d i pc (.newarray .int) 2 pc') (hx : ¬ x < 0) (hN : x.toNatClampNeg = n) (hn : n ≤ 100000) (hl : 1 ≤ M.1.length) (hnc : M.1.length + 1 ≤ nc) (hns : en_sl M + n ≤ ns) (kk : en_Go nc ns i pc' L (.ref M.1.length :: st) (en_nw M 100 n) P) : en_Go nc ns i pc L (.int x :: st) M P := by
  obtain ⟨hd, rfl⟩ := hd
  intro p l e R s m args below meth c Q D cA b0 bS LS z0 y0 xs ok hr H locs cells slots ls hat hL
  have a1 := hat.2.2.1
  have a2 := ok.2.2.2.2.2.2.2.2.2.2.2
  have hts := ok.2.2.2.2.1
  have hK := ok.2.2.2.2.2.2.1
  refine va_newa (ty := .int) (a0 := (n, .inl (fun _ => 0))) ok.1 ok.2.1 (hts _ T_AI) rfl hK hat.1 en_w_D hat.2.1 (fun q hq => by have := ok.2.2.2.2.2.2.2.2.2.2.1; show b0 ≤ q; omega) (fun _ => rfl) hx hN (Nat.le_trans (Nat.mul_le_mul_right _ hn) (by decide)) (by omega) (by omega) hd (fun q cA' H1 hK' hP hD hS => ?_)
  intro T hT X
  have h1 : (T.setVm s.vm).heap.size ≤ s.heap.size + (cells + 1) := X.same.2.2.1
  have h2 : (T.setVm s.vm).heap.size = H1.size := by rw [← hT]; rfl
  have h3 := ok.2.2.2.2.2.2.2.2.2.2.1
  have hq := en_fresh hl hP hD (by omega)
  subst hq
  have hcA : cA' = cA 0 := by
    have e1 : va_RA s cA' .int := (hK'.2 (en_ty cA).length (cA', .int) (by rw [List.getElem?_append_right (Nat.le_refl _), Nat.sub_self]; rfl)).2
    have e2 : va_RA s (cA 0) .int := (hK.2 0 _ (en_ty_at T_A0)).2
    exact Option.some.inj (e1.symm.trans e2)
  subst hcA
  have hP' : va_P D vwCl (en_w b0 bS cA M ++ [(b0 + (M.1.length - 1), en_e b0 bS cA (en_nw M 100 n) M.1.length (100, n))]) H1 := by
    have : en_e b0 bS cA (en_nw M 100 n) M.1.length (100, n) = .inl (cA 0, n, .inl (fun _ => 0)) := by simp [en_e, en_nw, en_ur_row]
    rw [this]
    exact hP
  have hat' := en_at_push (M' := en_nw M 100 n) (q := (100, n)) hat hl rfl (fun b hb => en_ur_off (by omega)) (fun b hb => en_ur_off (by omega)) hnc hns hP' hS
  have := kk p l e R s m args below meth c Q D cA b0 bS LS z0 y0 xs ok hr H1 locs (cells + 1) (slots + n) ls hat' hL T hT X
  obtain ⟨ll, hll⟩ : ∃ ll, M.1.length = ll + 1 := ⟨M.1.length - 1, by omega⟩
  rw [List.map_cons, hll] at this
  rw [hll]
  exact this
theorem en_newz {x : Int32} (hd : en_d i pc (.newarray .boolean) 2 pc') (hx : ¬ x < 0) (hN : x.toNatClampNeg = n) (hn : n ≤ 100000) (hl : 1 ≤ M.1.length) (hnc : M.1.length + 1 ≤ nc) (hns : en_sl M + n ≤ ns) (kk : en_Go nc ns i pc' L (.ref M.1.length :: st) (en_nw M 101 n) P) : en_Go nc ns i pc L (.int x :: st) M P := by
  obtain ⟨hd, rfl⟩ := hd
  intro p l e R s m args below meth c Q D cA b0 bS LS z0 y0 xs ok hr H locs cells slots ls hat hL
  have a1 := hat.2.2.1
  have a2 := ok.2.2.2.2.2.2.2.2.2.2.2
  have hts := ok.2.2.2.2.1
  have hK := ok.2.2.2.2.2.2.1
  refine va_newa (ty := .boolean) (a0 := (n, .inl (fun _ => 0))) ok.1 ok.2.1 (hts _ T_AZ) rfl hK hat.1 en_w_D hat.2.1 (fun q hq => by have := ok.2.2.2.2.2.2.2.2.2.2.1; show b0 ≤ q; omega) (fun _ => rfl) hx hN (Nat.le_trans (Nat.mul_le_mul_right _ hn) (by decide)) (by omega) (by omega) hd (fun q cA' H1 hK' hP hD hS => ?_)
  intro T hT X
  have h1 : (T.setVm s.vm).heap.size ≤ s.heap.size + (cells + 1) := X.same.2.2.1
  have h2 : (T.setVm s.vm).heap.size = H1.size := by rw [← hT]; rfl
  have h3 := ok.2.2.2.2.2.2.2.2.2.2.1
  have hq := en_fresh hl hP hD (by omega)
  subst hq
  have hcA : cA' = cA 1 := by
    have e1 : va_RA s cA' .boolean := (hK'.2 (en_ty cA).length (cA', .boolean) (by rw [List.getElem?_append_right (Nat.le_refl _), Nat.sub_self]; rfl)).2
    have e2 : va_RA s (cA 1) .boolean := (hK.2 1 _ (en_ty_at T_A1)).2
    exact Option.some.inj (e1.symm.trans e2)
  subst hcA
  have hP' : va_P D vwCl (en_w b0 bS cA M ++ [(b0 + (M.1.length - 1), en_e b0 bS cA (en_nw M 101 n) M.1.length (101, n))]) H1 := by
    have : en_e b0 bS cA (en_nw M 101 n) M.1.length (101, n) = .inl (cA 1, n, .inl (fun _ => 0)) := by simp [en_e, en_nw, en_ur_row]
    rw [this]
    exact hP
  have hat' := en_at_push (M' := en_nw M 101 n) (q := (101, n)) hat hl rfl (fun b hb => en_ur_off (by omega)) (fun b hb => en_ur_off (by omega)) hnc hns hP' hS
  have := kk p l e R s m args below meth c Q D cA b0 bS LS z0 y0 xs ok hr H1 locs (cells + 1) (slots + n) ls hat' hL T hT X
  obtain ⟨ll, hll⟩ : ∃ ll, M.1.length = ll + 1 := ⟨M.1.length - 1, by omega⟩
  rw [List.map_cons, hll] at this
  rw [hll]
  exact this
theorem en_newq {x : Int32} {t : Nat} (hd : en_dq i pc (t + 2) pc') (hx : ¬ x < 0) (hN : x.toNatClampNeg = n) (hn : n ≤ 100000) (hl : 1 ≤ M.1.length) (hnc : M.1.length + 1 ≤ nc) (hns : en_sl M + n ≤ ns) (kk : en_Go nc ns i pc' L (.ref M.1.length :: st) (en_nw M (100 + (t + 2)) n) P) : en_Go nc ns i pc L (.int x :: st) M P := by
  obtain ⟨idx, hd, hA, rfl⟩ := hd
  obtain ⟨C, hxA, hlk, hCn⟩ := T_A hA
  intro p l e R s m args below meth c Q D cA b0 bS LS z0 y0 xs ok hr H locs cells slots ls hat hL
  have a1 := hat.2.2.1
  have a2 := ok.2.2.2.2.2.2.2.2.2.2.2
  have hts := ok.2.2.2.2.1
  have hK := ok.2.2.2.2.2.2.1
  have hN' := ok.2.2.2.2.2.1
  refine va_newq ok.1 ok.2.1 ok.2.2.2.1 (hts _ hlk) (hN'.2.2 _ hCn) hK hat.1 en_w_D hat.2.1 (fun q hq => by have := ok.2.2.2.2.2.2.2.2.2.2.1; show b0 ≤ q; omega) hx hN (by omega) (by omega) (by omega) hd (fun q cA' H1 hK' hP hD hS => ?_)
  intro T hT X
  have h1 : (T.setVm s.vm).heap.size ≤ s.heap.size + (cells + 1) := X.same.2.2.1
  have h2 : (T.setVm s.vm).heap.size = H1.size := by rw [← hT]; rfl
  have h3 := ok.2.2.2.2.2.2.2.2.2.2.1
  have hq := en_fresh hl hP hD (by omega)
  subst hq
  have hcA : cA' = cA (t + 2) := by
    have e1 : va_RA s cA' (.object C) := (hK'.2 (en_ty cA).length (cA', .object C) (by rw [List.getElem?_append_right (Nat.le_refl _), Nat.sub_self]; rfl)).2
    have e2 : va_RA s (cA (t + 2)) (.object C) := (hK.2 (t + 2) _ (en_ty_at hxA)).2
    obtain ⟨_, _, _, _, _, f1⟩ := e1
    obtain ⟨_, _, _, _, _, f2⟩ := e2
    exact Option.some.inj (f1.symm.trans f2)
  subst hcA
  have hP' : va_P D vwCl (en_w b0 bS cA M ++ [(b0 + (M.1.length - 1), en_e b0 bS cA (en_nw M (100 + (t + 2)) n) M.1.length (100 + (t + 2), n))]) H1 := by
    have : en_e b0 bS cA (en_nw M (100 + (t + 2)) n) M.1.length (100 + (t + 2), n) = .inl (cA (t + 2), n, .inr (.inr (.inr (.inr (fun _ => none))))) := by
      unfold en_e
      rw [if_neg (by show ¬ 100 + (t + 2) < 99; omega), if_neg (by show ¬ 100 + (t + 2) < 102; omega)]
      rw [show (100 + (t + 2), n).1 - 100 = t + 2 from Nat.add_sub_cancel_left 100 (t + 2)]
      simp [en_nw, en_ur_row]
    rw [this]
    exact hP
  have hat' := en_at_push (M' := en_nw M (100 + (t + 2)) n) (q := (100 + (t + 2), n)) hat hl rfl (fun b hb => en_ur_off (by omega)) (fun b hb => en_ur_off (by omega)) hnc hns hP' hS
  have := kk p l e R s m args below meth c Q D cA b0 bS LS z0 y0 xs ok hr H1 locs (cells + 1) (slots + n) ls hat' hL T hT X
  obtain ⟨ll, hll⟩ : ∃ ll, M.1.length = ll + 1 := ⟨M.1.length - 1, by omega⟩
  rw [List.map_cons, hll] at this
  rw [hll]
  exact this
end ENK
end
section
/-! calls -/
/-- a call of another method of the class: which one, and how it is linked (0 virtual, 1 static, 2 init; 3, 4, 5 the same among nest mates) -/
def en_dv (i pc j : Nat) (nb : Bool) (pc' : Nat) : Prop := ∃ idx : Nat, decode (mB i) pc = .ok (.invokevirtual idx, 3) ∧ kM (mO i) idx = some (j, if nb then 3 else 0) ∧ pc + 3 = pc' ∧ mK j < mK i ∧ 19 + mL j + mQ j ≤ mQ i
def en_dS (i pc j : Nat) (nb : Bool) (pc' : Nat) : Prop := ∃ idx : Nat, decode (mB i) pc = .ok (.invokestatic idx, 3) ∧ kM (mO i) idx = some (j, if nb then 4 else 1) ∧ pc + 3 = pc' ∧ mK j < mK i ∧ 19 + mL j + mQ j ≤ mQ i
def en_dI (i pc j : Nat) (nb : Bool) (pc' : Nat) : Prop := ∃ idx : Nat, decode (mB i) pc = .ok (.invokespecial idx, 3) ∧ kM (mO i) idx = some (j, if nb then 5 else 2) ∧ pc + 3 = pc' ∧ mK j < mK i ∧ 19 + mL j + mQ j ≤ mQ i
/-- a native, by its number: 6 Object.<init>, 7 Math.max, 8 Math.min, 9 System.arraycopy -/
def en_dn (i pc n pc' : Nat) : Prop := ∃ idx : Nat, decode (mB i) pc = .ok (if n = 6 then .invokespecial idx else .invokestatic idx, 3) ∧ kM (mO i) idx = some (0, n) ∧ pc + 3 = pc' ∧ 1 ≤ mK i ∧ 26 ≤ mQ i
def en_room (j nc ns : Nat) (M : en_M) : Room := { frames := mK j, cells := nc - M.1.length, slots := ns - en_sl M, locals := mQ j }
def en_Pc (D : va_G) (cA : Nat → ClassId) (b0 bS LS : Nat) (xs : Nat → Int32) (as : List Value) (M : en_M) : Array Value → State → Prop := va_Pc (as.map (en_v b0 bS)) (fun U => U.heap.size + 1 = b0 + M.1.length ∧ va_P D vwCl (en_w b0 bS cA M) U.heap ∧ va_K D vwCl (en_ty cA) U ∧ en_N U ∧ va_X bS LS xs U U.heap)
def en_Qc (D : va_G) (cA : Nat → ClassId) (b0 bS LS nc ns : Nat) (xs : Nat → Int32) (P : Option Value → en_M → Prop) : Array Value → State → Outcome → State → Prop := fun _ st oc t =>
  (∃ (r : Option Value) (M' : en_M), P r M' ∧ (M'.1.length = nc ∧ en_sl M' = ns) ∧ M'.1[0]? = some (99, LS) ∧ (∀ k, k < LS → M'.2.1 0 k = xs k) ∧ oc = .returned (r.map (en_v b0 bS)) ∧ va_P D vwCl (en_w b0 bS cA M') t.heap) ∧ va_F (fun q => b0 ≤ q) st t
theorem en_Pc_blind {D : va_G} {cA : Nat → ClassId} {b0 bS LS : Nat} {xs : Nat → Int32} {as : List Value} {M : en_M} : FrameBlind (en_Pc D cA b0 bS LS xs as M) := by
  intro a U g mk h
  obtain ⟨h0, h1, h2, h3, h4, h5⟩ := h
  exact ⟨h0, h1, h2, va_K.moved (u := U) (U := U.calling g mk a) (Vm.Alike.refl U.vm) h3, en_N.same (s := U) (U := U.calling g mk a) rfl h4, va_X.moved (u := U) (U := U.calling g mk a) (Vm.Alike.refl U.vm) h5⟩
theorem en_good (j : Nat) (h : Cond.code (mY j) (mB j) (mL j) (mR j) ∈ ew) : GoodIn ew (Cond.code (mY j) (mB j) (mL j) (mR j) :: ew) := by
  intro w hw
  have h1 : w ∈ ew := by
    rcases List.mem_cons.mp hw with rfl | h2
    · exact h
    · exact h2
  exact ⟨h1, T_good w h1⟩
theorem en_met {l : Launch} {D : va_G} {cA : Nat → ClassId} {b0 bS LS nc ns j : Nat} {xs : Nat → Int32} {as : List Value} {M : en_M} {P : Option Value → en_M → Prop}
    (h : en_Go nc ns j 0 (en_in j as) [] M P) (hpl : plainName (mY j).cls = true) (hcat : ∀ v ∈ as, v.category = 1) (hlen : as.length ≤ mL j) (h0 : M.1[0]? = some (99, LS)) (hxs : ∀ k, k < LS → M.2.1 0 k = xs k) (hbS : bS < b0) (hnc : M.1.length ≤ nc) (hns : en_sl M ≤ ns) (hoY : oY (mO j) = (mY j).cls) :
    Met l (mY j) (Cond.code (mY j) (mB j) (mL j) (mR j) :: ew) (en_room j nc ns M) (en_Pc D cA b0 bS LS xs as M) (en_Qc D cA b0 bS LS nc ns xs P) (nc - M.1.length) (ns - en_sl M) (fun q => b0 ≤ q) := by
  refine Met.ofW (cc := mB j) (maxL := mL j) (ret := mR j) hpl rfl ?_
  intro p e s m args below meth c s₁ B hml hv
  obtain ⟨rfl, hsz, hP, hK, hN, hX⟩ := hv
  have hts := atoms_spec (ws := Cond.code (mY j) (mB j) (mL j) (mR j) :: ew) B.pre
  have hown : s.vm.findClass (mY j).cls = some m.cls := findClass_of_methodNamed B.named
  have hlocks := B.notSynchronized
  have hin : meth.name = (mY j).name := (name_of_methodNamed B.named B.method).1
  have hl1 : 1 ≤ M.1.length := (List.getElem?_eq_some_iff.mp h0).1
  rw [lg_entry_eq]
  refine h p l e _ s m _ below meth c _ D cA b0 bS LS M.1.length (en_sl M) xs ⟨B.exec, B.bytes, hml, by rw [hoY]; exact hown, fun w hw => hts w (List.mem_cons_of_mem _ hw), hN, hK, ⟨hin, B.returns, hlocks⟩, ⟨Nat.le_refl _, Nat.le_refl _⟩, hX, ⟨hbS, hsz, hl1⟩, by show nc ≤ M.1.length + (nc - M.1.length); omega, by show ns ≤ en_sl M + (ns - en_sl M); omega⟩ ?_ s.heap [] 0 0 _ ⟨hP, va_S.rf, ⟨Nat.zero_add _, Nat.zero_add _⟩, ⟨hnc, hns⟩, h0, hxs⟩ (en_L_entry hcat hlen)
  intro r M' pc' ls' H locs cells slots ins hPr hc hs hd hrt hat
  have ec : nc - M.1.length = cells := by have := hat.2.2.1.1; omega
  have es : ns - en_sl M = slots := by have := hat.2.2.1.2; omega
  rw [ec, es]
  have fin : ∀ t : State, t.heap = H → ∀ oc, oc = Outcome.returned (r.map (en_v b0 bS)) → en_Qc D cA b0 bS LS nc ns xs P (as.map (en_v b0 bS)).toArray s oc t := fun t ht oc ho =>
    ⟨⟨r, M', hPr, ⟨hc, hs⟩, hat.2.2.2.2.1, hat.2.2.2.2.2, ho, by rw [ht]; exact hat.1⟩, hat.2.1.F ht⟩
  rcases hrt with ⟨rfl, hR, x, rfl⟩ | ⟨rfl, hR, x, rfl, hx⟩ | ⟨rfl, hR, rfl⟩ | ⟨rfl, ⟨C, hR⟩, a, rfl⟩
  · exact W.iret (v := x) B.exec B.bytes (B.returns.trans hR) (fun t ht hW => fin t ht _ rfl) hat.2.1.2.2 hd
  · exact W.zret (v := x) (ty := .boolean) B.exec B.bytes (B.returns.trans hR) (by rcases hx with rfl | rfl <;> rfl) (fun t ht hW => fin t ht _ rfl) hat.2.1.2.2 hd
  · exact W.vret B.exec B.bytes (B.returns.trans hR) (fun t ht hW => fin t ht _ rfl) hat.2.1.2.2 hd
  · exact W.aret (v := .ref (en_ad b0 bS a)) (rt := .object C) B.exec B.bytes (B.returns.trans hR) (Or.inl ⟨C, rfl⟩) (Or.inr ⟨_, rfl⟩) (fun t ht hW => fin t ht _ rfl) hat.2.1.2.2 hd
section ENC
variable {p : Program} {l : Launch} {e : Env} {R : Room} {s : State} {m : MethodId} {args : Array Value} {below : List Frame} {meth : Method} {c : Code} {Q : State → Prop} {D : va_G} {cA : Nat → ClassId} {b0 bS LS z0 y0 nc ns nc' ns' : Nat} {xs : Nat → Int32} {i pc : Nat} {H : Heap} {locs : List Loc} {cells slots : Nat} {ls : Array Slot} {rest st0 : List Value} {M M' : en_M} {T : State} {P : Option Value → en_M → Prop} {a : Array Value}
theorem en_after (hr : va_Run p l e R s m args below meth c H locs cells slots (nc' - M.1.length) (ns' - en_sl M) (F0 m pc ls st0) rest (en_Qc D cA b0 bS LS nc' ns' xs P a) (fun q => b0 ≤ q))
    (hat : en_at s D cA b0 bS LS z0 y0 nc ns xs M H locs cells slots) (h1 : M.1.length ≤ nc') (h2 : nc' ≤ nc) (h3 : en_sl M ≤ ns') (h4 : ns' ≤ ns)
    (kk : ∀ (r : Option Value) (M' : en_M) (H1 : Heap) (locs1 : List Loc) (cells1 slots1 : Nat), P r M' → en_at s D cA b0 bS LS z0 y0 nc ns xs M' H1 locs1 cells1 slots1 → W p l e R s m args below meth c H1 locs1 cells1 slots1 Q (F0 m (pc + 3) ls (r.toList.map (en_v b0 bS) ++ rest))) : W p l e R s m args below meth c H locs cells slots Q (F0 m pc ls st0) := by
  intro T hT X
  obtain ⟨v, st₀, t, T', L, h0, X', hL, e1, e2, ⟨⟨r, M', hPr, ⟨hc, hs⟩, g0, gx, hv, hP⟩, hz, hk⟩, st⟩ := hr T hT X
  cases hv
  rw [h0] at hz hk
  have hS := hat.2.1
  have hS1 : va_S (fun q => b0 ≤ q) s.heap T'.heap (locs ++ L) := ⟨Nat.le_trans hS.1 (by rw [e1]; exact hz), fun q h1 h2 => by rw [e1, hk q (Nat.lt_of_lt_of_le h1 hS.1) h2]; exact hS.2.1 q h1 h2, fun q hq => by
      rcases List.mem_append.mp hq with h | h
      · exact hS.2.2 q h
      · exact hL q h⟩
  have a1 := hat.2.2.1
  have hat' : en_at s D cA b0 bS LS z0 y0 nc ns xs M' T'.heap (locs ++ L) (cells + (nc' - M.1.length)) (slots + (ns' - en_sl M)) := ⟨by rw [e1]; exact hP, hS1, ⟨by omega, by omega⟩, ⟨by omega, by omega⟩, g0, gx⟩
  obtain ⟨t2, b1, b2⟩ := kk r M' T'.heap (locs ++ L) _ _ hPr hat' T' rfl X'
  refine ⟨t2, st t2 ?_, b2⟩
  have : (r.map (en_v b0 bS)).toList = r.toList.map (en_v b0 bS) := by cases r <;> rfl
  rw [this]
  exact b1
theorem en_pre (ok : en_ok p R s m args meth c D cA b0 bS LS z0 y0 nc ns xs i) (hat : en_at s D cA b0 bS LS z0 y0 nc ns xs M H locs cells slots) (hsz : H.size + 1 = b0 + M.1.length) (as : List Value) : ∀ U : State, U.heap = H → s.WarmedH U.vm → en_Pc D cA b0 bS LS xs as M (as.map (en_v b0 bS)).toArray U := by
  intro U hU hW
  obtain ⟨hb1, hb2, hb3⟩ := ok.2.2.2.2.2.2.2.2.2.2.1
  have hX : va_X bS LS xs s H := va_X.kept ok.2.2.2.2.2.2.2.2.2.1 (hat.2.1.2.1 bS (by omega) (by show ¬ b0 ≤ bS; omega))
  exact ⟨rfl, by rw [hU]; exact hsz, by rw [hU]; exact hat.1, va_K.moved hW.alike ok.2.2.2.2.2.2.1, en_N.warm hW ok.2.2.2.2.2.1, by rw [hU]; exact va_X.moved hW.alike hX⟩
theorem en_cat (hr : (rest.map fun v => v.category).sum ≤ 8) : ((rest.map (en_v b0 bS)).map fun v => v.category).sum ≤ 8 := by
  rw [List.map_map]
  have : ((fun v : Value => v.category) ∘ en_v b0 bS) = fun v : Value => v.category := by
    funext v
    exact en_v_cat b0 bS v
  rw [this]
  exact hr
end ENC
section ENV
variable {nc ns nc' ns' i j pc pc' : Nat} {L as rest : List Value} {M : en_M} {P : Option Value → en_M → Prop} {a n : Nat} {nb : Bool}
theorem en_inv (hd : en_dv i pc j nb pc') (hs : M.1[a]? = some (mO j, n)) (hcat : ∀ v ∈ as, v.category = 1) (hlen : as.length = mN j) (hrest : (rest.map fun v => v.category).sum ≤ 8) (h1 : M.1.length ≤ nc') (h2 : nc' ≤ nc) (h3 : en_sl M ≤ ns') (h4 : ns' ≤ ns)
    (kk : en_Go nc' ns' j 0 (en_in j (.ref a :: as)) [] M (fun r M' => en_Go nc ns i pc' L (r.toList ++ rest) M' P)) : en_Go nc ns i pc L (as.reverse ++ .ref a :: rest) M P := by
  obtain ⟨idx, hd, hM, rfl, hK⟩ := hd
  have hjm : j < nM ∧ mS j = false := by
    cases nb with
    | false => exact ⟨(T_V hM).1, (T_V hM).2.1⟩
    | true => exact ⟨(T_VN hM).1, (T_VN hM).2.1⟩
  obtain ⟨hcode, hini, hy, hpar, hmL, hpl, hoY, hlenL, hcls⟩ := T_j hjm.1
  obtain ⟨C, T, N, hcl, hC⟩ := hcls hjm.2
  rw [hjm.2] at hlenL
  intro p l e R s m args below meth c Q D cA b0 bS LS z0 y0 xs ok hr H locs cells slots ls hat hL
  intro T0 hT X
  have hsz := en_size ok hat hT X
  obtain ⟨-, -, -, -, -, h99⟩ := T_cls hcl
  obtain ⟨a', rfl⟩ := en_pos hat hs (by show mO j ≠ 99; omega)
  have hrcv := va_recv ok.2.2.2.2.2.2.1 hat.1 hcl (q0 := a') (by rw [en_w_at hs]; unfold en_e; rw [if_pos h99])
  have hts := ok.2.2.2.2.1
  have hfr := ok.2.2.2.2.2.2.2.2.1
  have hb := ok.2.2.2.2.2.2.2.2.2.2.1
  have hbud := ok.2.2.2.2.2.2.2.2.2.2.2
  have a1 := hat.2.2.1
  have hmet := en_met (l := l) (D := D) (cA := cA) (b0 := b0) (bS := bS) (LS := LS) (xs := xs) kk hpl (fun v hv => by rcases List.mem_cons.mp hv with rfl | hv; rfl; exact hcat v hv) (by rw [List.length_cons, hlen]; exact hlenL) hat.2.2.2.2.1 hat.2.2.2.2.2 hb.1 h1 h3 hoY
  have hG := en_good j hcode
  have hR : (en_room j nc' ns' M).frames + 1 ≤ R.frames ∧ 8 + (mL j + 11) + (en_room j nc' ns' M).locals ≤ R.locals := by
    show mK j + 1 ≤ R.frames ∧ 8 + (mL j + 11) + mQ j ≤ R.locals
    omega
  have hpv : PreV s H C (b0 + a') (en_Pc D cA b0 bS LS xs (.ref (a' + 1) :: as) M) (as.map (en_v b0 bS)) := ⟨en_Pc_blind, hrcv, en_pre ok hat hsz (.ref (a' + 1) :: as)⟩
  have hCy : C = (mY j).cls := hC
  have hrun : va_Run p l e R s m args below meth c H locs cells slots (nc' - M.1.length) (ns' - en_sl M) (F0 m pc ls ((as.reverse ++ .ref (a' + 1) :: rest).map (en_v b0 bS))) (rest.map (en_v b0 bS)) (en_Qc D cA b0 bS LS nc' ns' xs (fun r M' => en_Go nc ns i (pc + 3) L (r.toList ++ rest) M' P) (Value.ref (b0 + a') :: as.map (en_v b0 bS)).toArray) (fun q => b0 ≤ q) := by
    have hstk : (as.reverse ++ .ref (a' + 1) :: rest).map (en_v b0 bS) = (as.map (en_v b0 bS)).reverse ++ .ref (b0 + a') :: rest.map (en_v b0 bS) := by
      rw [List.map_append, List.map_reverse, List.map_cons]
      rfl
    rw [hstk]
    cases nb with
    | false =>
      obtain ⟨-, -, g1, g2, g3⟩ := T_V hM
      exact va_runV (nL := mL i) ⟨ok.1, ok.2.1, ok.2.2.1, ok.2.2.2.1, hts⟩ hmet ⟨callB_of (mN j) hts hG rfl rfl rfl (hts _ hini) (hts _ g1) ⟨hy.1, hy.2, hpar⟩ hR, hts _ g2, by rw [hCy]; exact hts _ g3⟩ hpv rfl (by rw [List.length_map]; exact hlen) hL.2.1 rfl (lv_room (en_cat hrest)) hd ⟨by omega, by omega⟩
    | true =>
      obtain ⟨-, -, host, g1, g2, g3⟩ := T_VN hM
      exact va_runVN (nL := mL i) ⟨ok.1, ok.2.1, ok.2.2.1, ok.2.2.2.1, hts⟩ hmet ⟨va_cnB (mN j) hts hG rfl rfl rfl (ok.2.2.2.2.2.1.2.1 _ g1) (hts _ hini) ⟨hy.1, hy.2, hpar⟩ hR, hts _ g2, by rw [hCy]; exact hts _ g3⟩ hpv rfl (by rw [List.length_map]; exact hlen) hL.2.1 rfl (lv_room (en_cat hrest)) hd ⟨by omega, by omega⟩
  refine en_after hrun hat h1 h2 h3 h4 (fun r M' H1 locs1 cells1 slots1 hP hat1 => ?_) T0 hT X
  have := hP p l e R s m args below meth c Q D cA b0 bS LS z0 y0 xs ok hr H1 locs1 cells1 slots1 ls hat1 hL
  rw [List.map_append] at this
  exact this
theorem en_invS (hd : en_dS i pc j nb pc') (hcat : ∀ v ∈ as, v.category = 1) (hlen : as.length = mN j) (hrest : (rest.map fun v => v.category).sum ≤ 8) (h1 : M.1.length ≤ nc') (h2 : nc' ≤ nc) (h3 : en_sl M ≤ ns') (h4 : ns' ≤ ns)
    (kk : en_Go nc' ns' j 0 (en_in j as) [] M (fun r M' => en_Go nc ns i pc' L (r.toList ++ rest) M' P)) : en_Go nc ns i pc L (as.reverse ++ rest) M P := by
  obtain ⟨idx, hd, hM, rfl, hK⟩ := hd
  have hjm : j < nM ∧ mS j = true := by
    cases nb with
    | false => exact ⟨(T_S hM).1, (T_S hM).2.1⟩
    | true => exact ⟨(T_SN hM).1, (T_SN hM).2.1⟩
  obtain ⟨hcode, hini, hy, hpar, hmL, hpl, hoY, hlenL, -⟩ := T_j hjm.1
  rw [hjm.2] at hlenL
  intro p l e R s m args below meth c Q D cA b0 bS LS z0 y0 xs ok hr H locs cells slots ls hat hL
  intro T0 hT X
  have hsz := en_size ok hat hT X
  have hts := ok.2.2.2.2.1
  have hfr := ok.2.2.2.2.2.2.2.2.1
  have hb := ok.2.2.2.2.2.2.2.2.2.2.1
  have hbud := ok.2.2.2.2.2.2.2.2.2.2.2
  have a1 := hat.2.2.1
  have hmet := en_met (l := l) (D := D) (cA := cA) (b0 := b0) (bS := bS) (LS := LS) (xs := xs) kk hpl hcat (by rw [hlen]; exact hlenL) hat.2.2.2.2.1 hat.2.2.2.2.2 hb.1 h1 h3 hoY
  have hG := en_good j hcode
  have hR : (en_room j nc' ns' M).frames + 1 ≤ R.frames ∧ 8 + (mL j + 11) + (en_room j nc' ns' M).locals ≤ R.locals := by
    show mK j + 1 ≤ R.frames ∧ 8 + (mL j + 11) + mQ j ≤ R.locals
    omega
  have hpv : PreS s H (en_Pc D cA b0 bS LS xs as M) (as.map (en_v b0 bS)) := ⟨en_Pc_blind, en_pre ok hat hsz as⟩
  have hrun : va_Run p l e R s m args below meth c H locs cells slots (nc' - M.1.length) (ns' - en_sl M) (F0 m pc ls ((as.reverse ++ rest).map (en_v b0 bS))) (rest.map (en_v b0 bS)) (en_Qc D cA b0 bS LS nc' ns' xs (fun r M' => en_Go nc ns i (pc + 3) L (r.toList ++ rest) M' P) (as.map (en_v b0 bS)).toArray) (fun q => b0 ≤ q) := by
    have hstk : (as.reverse ++ rest).map (en_v b0 bS) = (as.map (en_v b0 bS)).reverse ++ rest.map (en_v b0 bS) := by
      rw [List.map_append, List.map_reverse]
    rw [hstk]
    cases nb with
    | false =>
      obtain ⟨-, -, g1, g2⟩ := T_S hM
      exact va_runS (nL := mL i) ⟨ok.1, ok.2.1, ok.2.2.1, ok.2.2.2.1, hts⟩ hmet ⟨callB_of (mN j) hts hG rfl rfl rfl (hts _ hini) (hts _ g1) ⟨hy.1, hy.2, hpar⟩ hR, hts _ g2⟩ hpv rfl (by rw [List.length_map]; exact hlen) hL.2.1 rfl (lv_room (en_cat hrest)) hd ⟨by omega, by omega⟩
    | true =>
      obtain ⟨-, -, host, g1, g2⟩ := T_SN hM
      exact va_runSN (nL := mL i) ⟨ok.1, ok.2.1, ok.2.2.1, ok.2.2.2.1, hts⟩ hmet ⟨va_cnB (mN j) hts hG rfl rfl rfl (ok.2.2.2.2.2.1.2.1 _ g1) (hts _ hini) ⟨hy.1, hy.2, hpar⟩ hR, hts _ g2, trivial⟩ hpv rfl (by rw [List.length_map]; exact hlen) hL.2.1 rfl (lv_room (en_cat hrest)) hd ⟨by omega, by omega⟩
  refine en_after hrun hat h1 h2 h3 h4 (fun r M' H1 locs1 cells1 slots1 hP hat1 => ?_) T0 hT X
  have := hP p l e R s m args below meth c Q D cA b0 bS LS z0 y0 xs ok hr H1 locs1 cells1 slots1 ls hat1 hL
  rw [List.map_append] at this
  exact this
theorem en_invI {a : Nat} (hd : en_dI i pc j nb pc') (ha : 0 < a) (hcat : ∀ v ∈ as, v.category = 1) (hlen : as.length = mN j) (hrest : (rest.map fun v => v.category).sum ≤ 8) (h1 : M.1.length ≤ nc') (h2 : nc' ≤ nc) (h3 : en_sl M ≤ ns') (h4 : ns' ≤ ns)
    (kk : en_Go nc' ns' j 0 (en_in j (.ref a :: as)) [] M (fun r M' => r = none ∧ en_Go nc ns i pc' L rest M' P)) : en_Go nc ns i pc L (as.reverse ++ .ref a :: rest) M P := by
  obtain ⟨a', rfl⟩ : ∃ a', a = a' + 1 := ⟨a - 1, by omega⟩
  obtain ⟨idx, hd, hM, rfl, hK⟩ := hd
  have hjm : j < nM ∧ mS j = false := by
    cases nb with
    | false => exact ⟨(T_I2 hM).1, (T_I2 hM).2.1⟩
    | true => exact ⟨(T_IN hM).1, (T_IN hM).2.1⟩
  obtain ⟨hcode, hini, hy, hpar, hmL, hpl, hoY, hlenL, -⟩ := T_j hjm.1
  rw [hjm.2] at hlenL
  intro p l e R s m args below meth c Q D cA b0 bS LS z0 y0 xs ok hr H locs cells slots ls hat hL
  intro T0 hT X
  have hsz := en_size ok hat hT X
  have hts := ok.2.2.2.2.1
  have hfr := ok.2.2.2.2.2.2.2.2.1
  have hb := ok.2.2.2.2.2.2.2.2.2.2.1
  have hbud := ok.2.2.2.2.2.2.2.2.2.2.2
  have a1 := hat.2.2.1
  have hmet := en_met (l := l) (D := D) (cA := cA) (b0 := b0) (bS := bS) (LS := LS) (xs := xs) kk hpl (fun v hv => by rcases List.mem_cons.mp hv with rfl | hv; rfl; exact hcat v hv) (by rw [List.length_cons, hlen]; exact hlenL) hat.2.2.2.2.1 hat.2.2.2.2.2 hb.1 h1 h3 hoY
  have hG := en_good j hcode
  have hR : (en_room j nc' ns' M).frames + 1 ≤ R.frames ∧ 8 + (mL j + 11) + (en_room j nc' ns' M).locals ≤ R.locals := by
    show mK j + 1 ≤ R.frames ∧ 8 + (mL j + 11) + mQ j ≤ R.locals
    omega
  have hpv : PreS s H (en_Pc D cA b0 bS LS xs (.ref (a' + 1) :: as) M) (.ref (b0 + a') :: as.map (en_v b0 bS)) := ⟨en_Pc_blind, en_pre ok hat hsz (.ref (a' + 1) :: as)⟩
  have hrun : va_Run p l e R s m args below meth c H locs cells slots (nc' - M.1.length) (ns' - en_sl M) (F0 m pc ls ((as.reverse ++ .ref (a' + 1) :: rest).map (en_v b0 bS))) (rest.map (en_v b0 bS)) (en_Qc D cA b0 bS LS nc' ns' xs (fun r M' => r = none ∧ en_Go nc ns i (pc + 3) L rest M' P) (Value.ref (b0 + a') :: as.map (en_v b0 bS)).toArray) (fun q => b0 ≤ q) := by
    have hstk : (as.reverse ++ .ref (a' + 1) :: rest).map (en_v b0 bS) = (as.map (en_v b0 bS)).reverse ++ .ref (b0 + a') :: rest.map (en_v b0 bS) := by
      rw [List.map_append, List.map_reverse, List.map_cons]
      rfl
    rw [hstk]
    cases nb with
    | false =>
      obtain ⟨-, -, g1, g2, g3, g4⟩ := T_I2 hM
      rw [g4] at hmet hG
      exact va_runI (nL := mL i) ⟨ok.1, ok.2.1, ok.2.2.1, ok.2.2.2.1, hts⟩ hmet ⟨callB_of (mN j) hts hG rfl rfl rfl (hts _ hini) (hts _ g1) ⟨hy.1, hy.2, hpar⟩ hR, g3, hts _ g2⟩ hpv rfl (by rw [List.length_map]; exact hlen) hL.2.1 rfl (lv_room (en_cat hrest)) hd ⟨by omega, by omega⟩
    | true =>
      obtain ⟨-, -, host, g1, g2, g3, g4⟩ := T_IN hM
      rw [g4] at hmet hG
      exact va_runIN (nL := mL i) ⟨ok.1, ok.2.1, ok.2.2.1, ok.2.2.2.1, hts⟩ hmet ⟨va_cnB (mN j) hts hG rfl rfl rfl (ok.2.2.2.2.2.1.2.1 _ g1) (hts _ hini) ⟨hy.1, hy.2, hpar⟩ hR, g3, hts _ g2⟩ hpv rfl (by rw [List.length_map]; exact hlen) hL.2.1 rfl (lv_room (en_cat hrest)) hd ⟨by omega, by omega⟩
  refine en_after hrun hat h1 h2 h3 h4 (fun r M' H1 locs1 cells1 slots1 hP hat1 => ?_) T0 hT X
  obtain ⟨rfl, hP⟩ := hP
  exact hP p l e R s m args below meth c Q D cA b0 bS LS z0 y0 xs ok hr H1 locs1 cells1 slots1 ls hat1 hL
/-! the JDK's own -/
theorem en_obj {a : Nat} (hd : en_dn i pc 6 pc') (ha : 0 < a) (hrest : (rest.map fun v => v.category).sum ≤ 8) (kk : en_Go nc ns i pc' L rest M P) : en_Go nc ns i pc L (.ref a :: rest) M P := by
  obtain ⟨a', rfl⟩ : ∃ a', a = a' + 1 := ⟨a - 1, by omega⟩
  obtain ⟨idx, hd, hM, rfl, hK⟩ := hd
  rw [if_pos rfl] at hd
  obtain ⟨g1, g2, g3⟩ := T_N6 hM
  intro p l e R s m args below meth c Q D cA b0 bS LS z0 y0 xs ok hr H locs cells slots ls hat hL
  have hts := ok.2.2.2.2.1
  have hfr := ok.2.2.2.2.2.2.2.2.1
  have hcat := en_cat (b0 := b0) (bS := bS) hrest
  have hroom := lv_room (m := m) (pc := pc) (ls := ls) (rest := (.ref (b0 + a') :: rest.map (en_v b0 bS))) hcat
  exact W.objInit (g := F0 m pc ls (.ref (b0 + a') :: rest.map (en_v b0 bS))) ok.1 ok.2.1 ok.2.2.2.1 (hts _ g1) (hts _ g2) (hts _ g3) rfl (by rw [ok.2.2.1]; exact hL.2.1) rfl hd (by omega) (by omega) (kk p l e R s m args below meth c Q D cA b0 bS LS z0 y0 xs ok hr H locs cells slots ls hat hL)
theorem en_max {x y : Int32} (hd : en_dn i pc 7 pc') (hrest : (rest.map fun v => v.category).sum ≤ 8) (kk : en_Go nc ns i pc' L (.int (if x < y then y else x) :: rest) M P) : en_Go nc ns i pc L (.int y :: .int x :: rest) M P := by
  obtain ⟨idx, hd, hM, rfl, hK⟩ := hd
  rw [if_neg (by decide)] at hd
  obtain ⟨g1, g2, g3, g4⟩ := T_N7 hM
  intro p l e R s m args below meth c Q D cA b0 bS LS z0 y0 xs ok hr H locs cells slots ls hat hL
  have hts := ok.2.2.2.2.1
  have hfr := ok.2.2.2.2.2.2.2.2.1
  have hcat := en_cat (b0 := b0) (bS := bS) hrest
  have a1 := hat.2.2.1
  have a2 := hat.2.2.2.1
  have hbud := ok.2.2.2.2.2.2.2.2.2.2.2
  exact va_mmax ok.1 ok.2.1 (by rw [ok.2.2.1]; exact hL.2.1.symm) ok.2.2.2.1 (hts _ g1) (hts _ g2) (hts _ g3) (hts _ g4) (by omega) (by omega) (by omega) (by omega) hd (kk p l e R s m args below meth c Q D cA b0 bS LS z0 y0 xs ok hr H locs cells slots ls hat hL)
theorem en_min {x y : Int32} (hd : en_dn i pc 8 pc') (hrest : (rest.map fun v => v.category).sum ≤ 8) (kk : en_Go nc ns i pc' L (.int (if y < x then y else x) :: rest) M P) : en_Go nc ns i pc L (.int y :: .int x :: rest) M P := by
  obtain ⟨idx, hd, hM, rfl, hK⟩ := hd
  rw [if_neg (by decide)] at hd
  obtain ⟨g1, g2, g3, g4⟩ := T_N8 hM
  intro p l e R s m args below meth c Q D cA b0 bS LS z0 y0 xs ok hr H locs cells slots ls hat hL
  have hts := ok.2.2.2.2.1
  have hfr := ok.2.2.2.2.2.2.2.2.1
  have hcat := en_cat (b0 := b0) (bS := bS) hrest
  have a1 := hat.2.2.1
  have a2 := hat.2.2.2.1
  have hbud := ok.2.2.2.2.2.2.2.2.2.2.2
  exact va_mmin ok.1 ok.2.1 (by rw [ok.2.2.1]; exact hL.2.1.symm) ok.2.2.2.1 (hts _ g1) (hts _ g2) (hts _ g3) (hts _ g4) (by omega) (by omega) (by omega) (by omega) hd (kk p l e R s m args below meth c Q D cA b0 bS LS z0 y0 xs ok hr H locs cells slots ls hat hL)
theorem en_copy {a a1 n0 n1 : Nat} {sp dp x : Int32} (hd : en_dn i pc 9 pc') (hrest : (rest.map fun v => v.category).sum ≤ 8) (hs0 : M.1[a]? = some (100, n0)) (hs1 : M.1[a1]? = some (100, n1)) (q1 : ¬ sp < 0) (q2 : ¬ dp < 0) (q3 : ¬ x < 0) (q4 : sp.toNatClampNeg + x.toNatClampNeg ≤ n0) (q5 : dp.toNatClampNeg + x.toNatClampNeg ≤ n1)
    (kk : en_Go nc ns i pc' L rest (M.1, en_ur M.2.1 a1 (va_cpy (M.2.1 a) (M.2.1 a1) sp.toNatClampNeg dp.toNatClampNeg x.toNatClampNeg), M.2.2) P) : en_Go nc ns i pc L (.int x :: .int dp :: .ref a1 :: .int sp :: .ref a :: rest) M P := by
  obtain ⟨idx, hd, hM, rfl, hK⟩ := hd
  rw [if_neg (by decide)] at hd
  obtain ⟨g1, g2, g3, g4⟩ := T_N9 hM
  intro p l e R s m args below meth c Q D cA b0 bS LS z0 y0 xs ok hr H locs cells slots ls hat hL
  have hts := ok.2.2.2.2.1
  have hfr := ok.2.2.2.2.2.2.2.2.1
  have hcat := en_cat (b0 := b0) (bS := bS) hrest
  obtain ⟨a', rfl⟩ := en_pos hat hs0 (by show (100 : Nat) ≠ 99; decide)
  obtain ⟨a1', rfl⟩ := en_pos hat hs1 (by show (100 : Nat) ≠ 99; decide)
  have he0 : (en_w b0 bS cA M)[a']? = some (b0 + a', .inl (cA 0, n0, .inl (M.2.1 (a' + 1)))) := by
    rw [en_w_at hs0]
    simp [en_e]
  have he1 : (en_w b0 bS cA M)[a1']? = some (b0 + a1', .inl (cA 0, n1, .inl (M.2.1 (a1' + 1)))) := by
    rw [en_w_at hs1]
    simp [en_e]
  have hnf : nativeFrameWords "java/lang/System" "arraycopy" 5 ≤ 7 := by decide
  exact va_copyi ok.1 ok.2.1 (by rw [ok.2.2.1]; exact hL.2.1.symm) ok.2.2.2.1 (hts _ g1) (hts _ g2) (hts _ g3) (hts _ g4) ok.2.2.2.2.2.2.1 hat.1 en_w_D hat.2.1 a' a1' 0 0 he0 he1 (en_ty_at T_A0) (en_ty_at T_A0) rfl q1 q2 q3 q4 q5 (fun _ _ => rfl) (by omega) (by omega) hd
    (fun H1 locs1 hP _ hS => kk p l e R s m args below meth c Q D cA b0 bS LS z0 y0 xs ok hr H1 locs1 cells slots ls
      (en_at_set (M' := (M.1, en_ur M.2.1 (a1' + 1) (va_cpy (M.2.1 (a' + 1)) (M.2.1 (a1' + 1)) sp.toNatClampNeg dp.toNatClampNeg x.toNatClampNeg), M.2.2)) hat hs1 rfl (fun b hb => en_ur_off hb) (fun b hb => rfl) (by simp [en_e, en_ur_row]) hP hS) hL)
end ENV
end
section
/-! THE SHAPE of the memory behind both constructors: cell 0 is the script, 1 the ledger, 371 the reference. (kind, slots): kinds are the classes' numbers, 100 ints, 101 booleans, 102 .. arrays of references -/
def shPr : List (Nat × Nat) := [(1, 6), (100, 12), (100, 12), (100, 9)]
def shTx : List (Nat × Nat) := [(4, 5), (3, 2), (100, 80)]
def shBl : List (Nat × Nat) := [(5, 3), (100, 4)]
def shOr : List (Nat × Nat) := [(7, 3), (6, 2), (100, 40)]
def shPe : List (Nat × Nat) := [(9, 5), (8, 3), (100, 16), (100, 16), (8, 3), (100, 16), (100, 16), (100, 160)]
def shL0 : List (Nat × Nat) := [(0, 12), (102, 4), (103, 60), (100, 20), (104, 60), (105, 3), (6, 2), (100, 40), (106, 4), (2, 5), (100, 8), (3, 2), (100, 80)]
def shMo : List (Nat × Nat) := [(10, 45), (100, 4), (100, 48), (100, 48), (100, 4), (100, 36), (100, 36), (100, 144), (100, 36), (100, 4), (100, 61), (100, 61), (100, 61), (101, 61), (100, 976), (100, 976), (100, 976), (100, 61), (100, 122), (100, 122), (100, 1952), (100, 8), (100, 20), (100, 240), (100, 60), (100, 60), (101, 3), (100, 3), (100, 120), (100, 3), (100, 40), (101, 4), (100, 4), (100, 4), (100, 16), (100, 16), (100, 4), (101, 60), (101, 9)]
def shRep (n : Nat) (l : List (Nat × Nat)) : List (Nat × Nat) := (List.replicate n l).flatten
def SHt : List (Nat × Nat) := shL0 ++ (shRep 4 shPr ++ (shRep 60 shTx ++ (shRep 60 shBl ++ (shRep 3 shOr ++ (shRep 4 shPe ++ shMo)))))
def SH (LS : Nat) : List (Nat × Nat) := (99, LS) :: SHt
theorem SH_at {LS a : Nat} {q : Nat × Nat} (h : SHt[a]? = some q) : (SH LS)[a + 1]? = some q := h
end
section
/-! THE SAME RULES where the shape SH and the references rm stand still: only the ints im change -/
def Gm (LS : Nat) (rm : Nat → Nat → Option Nat) (i pc : Nat) (L st : List Value) (im : Nat → Nat → Int32) (P : Option Value → (Nat → Nat → Int32) → Prop) : Prop :=
  en_Go (SH LS).length ((SH LS).map Prod.snd).sum i pc L st (SH LS, im, rm) (fun r M' => ∃ im', M' = (SH LS, im', rm) ∧ P r im')
section GM
variable {LS : Nat} {rm : Nat → Nat → Option Nat} {i j pc pc' tgt : Nat} {L L' st rest : List Value} {im : Nat → Nat → Int32} {P : Option Value → (Nat → Nat → Int32) → Prop} {a ci k n : Nat} {nb : Bool}
theorem g_iconst {n : Int} {v : Int32} (hd : en_d i pc (.iconst n) 1 pc') (hv : Int32.ofInt n = v) (kk : Gm LS rm i pc' L (.int v :: st) im P) : Gm LS rm i pc L st im P := en_iconst hd hv kk
theorem g_bipush {n : Int} {v : Int32} (hd : en_d i pc (.bipush n) 2 pc') (hv : (Int8.ofInt n).toInt32 = v) (kk : Gm LS rm i pc' L (.int v :: st) im P) : Gm LS rm i pc L st im P := en_bipush hd hv kk
theorem g_sipush {n : Int} {v : Int32} (hd : en_d i pc (.sipush n) 3 pc') (hv : (Int16.ofInt n).toInt32 = v) (kk : Gm LS rm i pc' L (.int v :: st) im P) : Gm LS rm i pc L st im P := en_sipush hd hv kk
theorem g_iload_n {j : Fin 4} {x : Int32} (hd : en_d i pc (.iload_n j) 1 pc') (hl : L[j.val]? = some (.int x)) (kk : Gm LS rm i pc' L (.int x :: st) im P) : Gm LS rm i pc L st im P := en_iload_n hd hl kk
theorem g_iload {j : Nat} {x : Int32} (hd : en_d i pc (.iload j) 2 pc') (hl : L[j]? = some (.int x)) (kk : Gm LS rm i pc' L (.int x :: st) im P) : Gm LS rm i pc L st im P := en_iload hd hl kk
theorem g_aload_n {j : Fin 4} {x : Nat} (hd : en_d i pc (.aload_n j) 1 pc') (hl : L[j.val]? = some (.ref x)) (kk : Gm LS rm i pc' L (.ref x :: st) im P) : Gm LS rm i pc L st im P := en_aload_n hd hl kk
theorem g_aload {j x : Nat} (hd : en_d i pc (.aload j) 2 pc') (hl : L[j]? = some (.ref x)) (kk : Gm LS rm i pc' L (.ref x :: st) im P) : Gm LS rm i pc L st im P := en_aload hd hl kk
theorem g_istore_n {j : Fin 4} {x : Int32} (hd : en_d i pc (.istore_n j) 1 pc') (hn : j.val < mL i) (hl : L.set j.val (.int x) = L') (kk : Gm LS rm i pc' L' st im P) : Gm LS rm i pc L (.int x :: st) im P := en_istore_n hd hn hl kk
theorem g_istore {j : Nat} {x : Int32} (hd : en_d i pc (.istore j) 2 pc') (hn : j < mL i) (hl : L.set j (.int x) = L') (kk : Gm LS rm i pc' L' st im P) : Gm LS rm i pc L (.int x :: st) im P := en_istore hd hn hl kk
theorem g_astore_n {j : Fin 4} {x : Nat} (hd : en_d i pc (.astore_n j) 1 pc') (hn : j.val < mL i) (hl : L.set j.val (.ref x) = L') (kk : Gm LS rm i pc' L' st im P) : Gm LS rm i pc L (.ref x :: st) im P := en_astore_n hd hn hl kk
theorem g_astore {j x : Nat} (hd : en_d i pc (.astore j) 2 pc') (hn : j < mL i) (hl : L.set j (.ref x) = L') (kk : Gm LS rm i pc' L' st im P) : Gm LS rm i pc L (.ref x :: st) im P := en_astore hd hn hl kk
theorem g_iinc {j : Nat} {n : Int} {x : Int32} (hd : en_d i pc (.iinc j n) 3 pc') (hg : L[j]? = some (.int x)) (hn : j < mL i) (hl : L.set j (.int (x + Int32.ofInt n)) = L') (kk : Gm LS rm i pc' L' st im P) : Gm LS rm i pc L st im P := en_iinc hd hg hn hl kk
theorem g_iadd {x y : Int32} (hd : en_d i pc .iadd 1 pc') (kk : Gm LS rm i pc' L (.int (x + y) :: st) im P) : Gm LS rm i pc L (.int y :: .int x :: st) im P := en_iadd hd kk
theorem g_isub {x y : Int32} (hd : en_d i pc .isub 1 pc') (kk : Gm LS rm i pc' L (.int (x - y) :: st) im P) : Gm LS rm i pc L (.int y :: .int x :: st) im P := en_isub hd kk
theorem g_imul {x y : Int32} (hd : en_d i pc .imul 1 pc') (kk : Gm LS rm i pc' L (.int (x * y) :: st) im P) : Gm LS rm i pc L (.int y :: .int x :: st) im P := en_imul hd kk
theorem g_iand {x y : Int32} (hd : en_d i pc .iand 1 pc') (kk : Gm LS rm i pc' L (.int (x &&& y) :: st) im P) : Gm LS rm i pc L (.int y :: .int x :: st) im P := en_iand hd kk
theorem g_ior {x y : Int32} (hd : en_d i pc .ior 1 pc') (kk : Gm LS rm i pc' L (.int (x ||| y) :: st) im P) : Gm LS rm i pc L (.int y :: .int x :: st) im P := en_ior hd kk
theorem g_ixor {x y : Int32} (hd : en_d i pc .ixor 1 pc') (kk : Gm LS rm i pc' L (.int (x ^^^ y) :: st) im P) : Gm LS rm i pc L (.int y :: .int x :: st) im P := en_ixor hd kk
theorem g_ishl {x y : Int32} (hd : en_d i pc .ishl 1 pc') (kk : Gm LS rm i pc' L (.int (x <<< (y &&& 31)) :: st) im P) : Gm LS rm i pc L (.int y :: .int x :: st) im P := en_ishl hd kk
theorem g_ishr {x y : Int32} (hd : en_d i pc .ishr 1 pc') (kk : Gm LS rm i pc' L (.int (x >>> (y &&& 31)) :: st) im P) : Gm LS rm i pc L (.int y :: .int x :: st) im P := en_ishr hd kk
theorem g_iushr {x y : Int32} (hd : en_d i pc .iushr 1 pc') (kk : Gm LS rm i pc' L (.int ((x.toUInt32 >>> (y.toUInt32 &&& Int32.toUInt32 31)).toInt32) :: st) im P) : Gm LS rm i pc L (.int y :: .int x :: st) im P := en_iushr hd kk
theorem g_idiv {x y : Int32} (hd : en_d i pc .idiv 1 pc') (hne : ¬ y = 0) (kk : Gm LS rm i pc' L (.int (x / y) :: st) im P) : Gm LS rm i pc L (.int y :: .int x :: st) im P := en_idiv hd hne kk
theorem g_irem {x y : Int32} (hd : en_d i pc .irem 1 pc') (hne : ¬ y = 0) (kk : Gm LS rm i pc' L (.int (x - x / y * y) :: st) im P) : Gm LS rm i pc L (.int y :: .int x :: st) im P := en_irem hd hne kk
theorem g_ineg {x : Int32} (hd : en_d i pc .ineg 1 pc') (kk : Gm LS rm i pc' L (.int (-x) :: st) im P) : Gm LS rm i pc L (.int x :: st) im P := en_ineg hd kk
theorem g_dup {v : Value} (hd : en_d i pc .dup 1 pc') (hc : v.category = 1) (kk : Gm LS rm i pc' L (v :: v :: st) im P) : Gm LS rm i pc L (v :: st) im P := en_dup hd hc kk
theorem g_pop {v : Value} (hd : en_d i pc .pop 1 pc') (hc : v.category = 1) (kk : Gm LS rm i pc' L st im P) : Gm LS rm i pc L (v :: st) im P := en_pop hd hc kk
theorem g_dup_x1 {v w : Value} (hd : en_d i pc .dup_x1 1 pc') (hc : v.category = 1) (hw : w.category = 1) (kk : Gm LS rm i pc' L (v :: w :: v :: st) im P) : Gm LS rm i pc L (v :: w :: st) im P := en_dup_x1 hd hc hw kk
theorem g_dup_x2 {v w u : Value} (hd : en_d i pc .dup_x2 1 pc') (hc : v.category = 1) (hw : w.category = 1) (hu : u.category = 1) (kk : Gm LS rm i pc' L (v :: w :: u :: v :: st) im P) : Gm LS rm i pc L (v :: w :: u :: st) im P := en_dup_x2 hd hc hw hu kk
theorem g_dup2 {v w : Value} (hd : en_d i pc .dup2 1 pc') (hc : v.category = 1) (hw : w.category = 1) (kk : Gm LS rm i pc' L (v :: w :: v :: w :: st) im P) : Gm LS rm i pc L (v :: w :: st) im P := en_dup2 hd hc hw kk
theorem g_goto (hd : en_j i pc .goto pc' tgt) (kk : Gm LS rm i tgt L st im P) : Gm LS rm i pc L st im P := en_goto hd kk
theorem g_if_eq {x : Int32} (hd : en_j i pc (.ifCond .eq) pc' tgt) (kt : x = 0 → Gm LS rm i tgt L st im P) (kf : ¬ x = 0 → Gm LS rm i pc' L st im P) : Gm LS rm i pc L (.int x :: st) im P := en_if_eq hd kt kf
theorem g_if_ne {x : Int32} (hd : en_j i pc (.ifCond .ne) pc' tgt) (kt : ¬ x = 0 → Gm LS rm i tgt L st im P) (kf : x = 0 → Gm LS rm i pc' L st im P) : Gm LS rm i pc L (.int x :: st) im P := en_if_ne hd kt kf
theorem g_if_lt {x : Int32} (hd : en_j i pc (.ifCond .lt) pc' tgt) (kt : x < 0 → Gm LS rm i tgt L st im P) (kf : ¬ x < 0 → Gm LS rm i pc' L st im P) : Gm LS rm i pc L (.int x :: st) im P := en_if_lt hd kt kf
theorem g_if_ge {x : Int32} (hd : en_j i pc (.ifCond .ge) pc' tgt) (kt : 0 ≤ x → Gm LS rm i tgt L st im P) (kf : ¬ 0 ≤ x → Gm LS rm i pc' L st im P) : Gm LS rm i pc L (.int x :: st) im P := en_if_ge hd kt kf
theorem g_if_gt {x : Int32} (hd : en_j i pc (.ifCond .gt) pc' tgt) (kt : 0 < x → Gm LS rm i tgt L st im P) (kf : ¬ 0 < x → Gm LS rm i pc' L st im P) : Gm LS rm i pc L (.int x :: st) im P := en_if_gt hd kt kf
theorem g_if_le {x : Int32} (hd : en_j i pc (.ifCond .le) pc' tgt) (kt : x ≤ 0 → Gm LS rm i tgt L st im P) (kf : ¬ x ≤ 0 → Gm LS rm i pc' L st im P) : Gm LS rm i pc L (.int x :: st) im P := en_if_le hd kt kf
theorem g_icmp_eq {x y : Int32} (hd : en_j i pc (.if_icmp .eq) pc' tgt) (kt : x = y → Gm LS rm i tgt L st im P) (kf : ¬ x = y → Gm LS rm i pc' L st im P) : Gm LS rm i pc L (.int y :: .int x :: st) im P := en_icmp_eq hd kt kf
theorem g_icmp_ne {x y : Int32} (hd : en_j i pc (.if_icmp .ne) pc' tgt) (kt : ¬ x = y → Gm LS rm i tgt L st im P) (kf : x = y → Gm LS rm i pc' L st im P) : Gm LS rm i pc L (.int y :: .int x :: st) im P := en_icmp_ne hd kt kf
theorem g_icmp_lt {x y : Int32} (hd : en_j i pc (.if_icmp .lt) pc' tgt) (kt : x < y → Gm LS rm i tgt L st im P) (kf : ¬ x < y → Gm LS rm i pc' L st im P) : Gm LS rm i pc L (.int y :: .int x :: st) im P := en_icmp_lt hd kt kf
theorem g_icmp_ge {x y : Int32} (hd : en_j i pc (.if_icmp .ge) pc' tgt) (kt : y ≤ x → Gm LS rm i tgt L st im P) (kf : ¬ y ≤ x → Gm LS rm i pc' L st im P) : Gm LS rm i pc L (.int y :: .int x :: st) im P := en_icmp_ge hd kt kf
theorem g_icmp_gt {x y : Int32} (hd : en_j i pc (.if_icmp .gt) pc' tgt) (kt : y < x → Gm LS rm i tgt L st im P) (kf : ¬ y < x → Gm LS rm i pc' L st im P) : Gm LS rm i pc L (.int y :: .int x :: st) im P := en_icmp_gt hd kt kf
theorem g_icmp_le {x y : Int32} (hd : en_j i pc (.if_icmp .le) pc' tgt) (kt : x ≤ y → Gm LS rm i tgt L st im P) (kf : ¬ x ≤ y → Gm LS rm i pc' L st im P) : Gm LS rm i pc L (.int y :: .int x :: st) im P := en_icmp_le hd kt kf
theorem g_look {x : Int32} {dflt off : Int} {ps : Array (Int × Int)} {len : Nat} (hd : decode (mB i) pc = .ok (.lookupswitch dflt ps, len)) (hp : (ps.toList.zip (ps.toList.drop 1)).all (fun (a, next) => a.1 < next.1) = true) (ho : Op.lookupswitch.offset ps.toList dflt x.toInt = off) (ht : (pc : Int) + off = (tgt : Int)) (kk : Gm LS rm i tgt L st im P) : Gm LS rm i pc L (.int x :: st) im P := en_look hd hp ho ht kk
theorem g_tabO {x : Int32} {dflt lo hi : Int} {offs : Array Int} {len : Nat} (hd : decode (mB i) pc = .ok (.tableswitch dflt lo hi offs, len)) (h : x.toInt < lo ∨ hi < x.toInt) (ht : (pc : Int) + dflt = (tgt : Int)) (kk : Gm LS rm i tgt L st im P) : Gm LS rm i pc L (.int x :: st) im P := en_tabO hd h ht kk
theorem g_tabI {x : Int32} {dflt lo hi off : Int} {offs : Array Int} {len : Nat} (hd : decode (mB i) pc = .ok (.tableswitch dflt lo hi offs, len)) (h1 : ¬ x.toInt < lo) (h2 : ¬ hi < x.toInt) (ho : offs[(x.toInt - lo).toNat]? = some off) (ht : (pc : Int) + off = (tgt : Int)) (kk : Gm LS rm i tgt L st im P) : Gm LS rm i pc L (.int x :: st) im P := en_tabI hd h1 h2 ho ht kk
theorem g_reti {x : Int32} (hd : en_d i pc .ireturn 1 pc') (hR : mR i = some .int) (hP : P (some (.int x)) im) : Gm LS rm i pc L [.int x] im P := en_reti hd hR rfl rfl ⟨im, rfl, hP⟩
theorem g_retz {x : Int32} (hd : en_d i pc .ireturn 1 pc') (hR : mR i = some .boolean) (hx : x = 0 ∨ x = 1) (hP : P (some (.int x)) im) : Gm LS rm i pc L [.int x] im P := en_retz hd hR rfl rfl hx ⟨im, rfl, hP⟩
theorem g_retv (hd : en_d i pc .return_ 1 pc') (hR : mR i = none) (hP : P none im) : Gm LS rm i pc L [] im P := en_retv hd hR rfl rfl ⟨im, rfl, hP⟩
theorem g_reta {a : Nat} (hd : en_d i pc .areturn 1 pc') (hR : ∃ C, mR i = some (.object C)) (hP : P (some (.ref a)) im) : Gm LS rm i pc L [.ref a] im P := en_reta hd hR rfl rfl ⟨im, rfl, hP⟩
theorem g_mono {P' : Option Value → (Nat → Nat → Int32) → Prop} (h : ∀ r im', P' r im' → P r im') (kk : Gm LS rm i pc L st im P') : Gm LS rm i pc L st im P := en_mono (fun r M' hM => by obtain ⟨im', e, hp⟩ := hM; exact ⟨im', e, h r im' hp⟩) kk
theorem g_geti (hd : en_df i pc ci k nb false pc') (hs : (SH LS)[a]? = some (ci, n)) (hn : k < n) (kk : Gm LS rm i pc' L (.int (im a k) :: st) im P) : Gm LS rm i pc L (.ref a :: st) im P := en_geti (M := (SH LS, im, rm)) hd hs hn kk
theorem g_getr {b : Nat} (hd : en_df i pc ci k nb true pc') (hs : (SH LS)[a]? = some (ci, n)) (hn : k < n) (hb : rm a k = some b) (kk : Gm LS rm i pc' L (.ref b :: st) im P) : Gm LS rm i pc L (.ref a :: st) im P := en_getr (M := (SH LS, im, rm)) hd hs hn hb kk
theorem g_puti {x : Int32} (hd : en_dp i pc ci k nb .int pc') (hini : kI ci k = true → nb = false ∧ (mY i).name = "<init>" ∧ mO i = ci) (hs : (SH LS)[a]? = some (ci, n)) (hn : k < n) (kk : Gm LS rm i pc' L st (en_u2 im a k x) P) : Gm LS rm i pc L (.int x :: .ref a :: st) im P := en_puti (M := (SH LS, im, rm)) hd hini hs hn kk
theorem g_putz {x : Int32} (hd : en_dp i pc ci k nb .boolean pc') (hini : kI ci k = true → nb = false ∧ (mY i).name = "<init>" ∧ mO i = ci) (hs : (SH LS)[a]? = some (ci, n)) (hn : k < n) (hx1 : x = 0 ∨ x = 1) (kk : Gm LS rm i pc' L st (en_u2 im a k x) P) : Gm LS rm i pc L (.int x :: .ref a :: st) im P := en_putz (M := (SH LS, im, rm)) hd hini hs hn hx1 kk
theorem g_iald {x : Int32} (hd : en_d i pc .iaload 1 pc') (hs : (SH LS)[a]? = some (100, n)) (hin : vp_in x n) (kk : Gm LS rm i pc' L (.int (im a x.toNatClampNeg) :: st) im P) : Gm LS rm i pc L (.int x :: .ref a :: st) im P := en_iald (M := (SH LS, im, rm)) hd hs hin kk
theorem g_zald {x : Int32} (hd : en_d i pc .baload 1 pc') (hs : (SH LS)[a]? = some (101, n)) (hin : vp_in x n) (kk : Gm LS rm i pc' L (.int (im a x.toNatClampNeg) :: st) im P) : Gm LS rm i pc L (.int x :: .ref a :: st) im P := en_zald (M := (SH LS, im, rm)) hd hs hin kk
theorem g_aald {x : Int32} {t b : Nat} (hd : en_d i pc .aaload 1 pc') (hs : (SH LS)[a]? = some (100 + (t + 2), n)) (ht : ∃ C, xA[t + 2]? = some (.object C)) (hin : vp_in x n) (hb : rm a x.toNatClampNeg = some b) (kk : Gm LS rm i pc' L (.ref b :: st) im P) : Gm LS rm i pc L (.int x :: .ref a :: st) im P := en_aald (M := (SH LS, im, rm)) hd hs ht hin hb kk
theorem g_iast {x v : Int32} (hd : en_d i pc .iastore 1 pc') (hs : (SH LS)[a]? = some (100, n)) (hin : vp_in x n) (kk : Gm LS rm i pc' L st (en_u2 im a x.toNatClampNeg v) P) : Gm LS rm i pc L (.int v :: .int x :: .ref a :: st) im P := en_iast (M := (SH LS, im, rm)) hd hs hin kk
theorem g_zast {x v : Int32} (hd : en_d i pc .bastore 1 pc') (hs : (SH LS)[a]? = some (101, n)) (hin : vp_in x n) (hv : v = 0 ∨ v = 1) (kk : Gm LS rm i pc' L st (en_u2 im a x.toNatClampNeg v) P) : Gm LS rm i pc L (.int v :: .int x :: .ref a :: st) im P := en_zast (M := (SH LS, im, rm)) hd hs hin hv kk
theorem g_copy {a a1 n0 n1 : Nat} {sp dp x : Int32} (hd : en_dn i pc 9 pc') (hrest : (rest.map fun v => v.category).sum ≤ 8) (hs0 : (SH LS)[a]? = some (100, n0)) (hs1 : (SH LS)[a1]? = some (100, n1)) (q1 : ¬ sp < 0) (q2 : ¬ dp < 0) (q3 : ¬ x < 0) (q4 : sp.toNatClampNeg + x.toNatClampNeg ≤ n0) (q5 : dp.toNatClampNeg + x.toNatClampNeg ≤ n1)
    (kk : Gm LS rm i pc' L rest (en_ur im a1 (va_cpy (im a) (im a1) sp.toNatClampNeg dp.toNatClampNeg x.toNatClampNeg)) P) : Gm LS rm i pc L (.int x :: .int dp :: .ref a1 :: .int sp :: .ref a :: rest) im P := en_copy (M := (SH LS, im, rm)) hd hrest hs0 hs1 q1 q2 q3 q4 q5 kk
theorem g_max {x y : Int32} (hd : en_dn i pc 7 pc') (hrest : (rest.map fun v => v.category).sum ≤ 8) (kk : Gm LS rm i pc' L (.int (if x < y then y else x) :: rest) im P) : Gm LS rm i pc L (.int y :: .int x :: rest) im P := en_max hd hrest kk
theorem g_min {x y : Int32} (hd : en_dn i pc 8 pc') (hrest : (rest.map fun v => v.category).sum ≤ 8) (kk : Gm LS rm i pc' L (.int (if y < x then y else x) :: rest) im P) : Gm LS rm i pc L (.int y :: .int x :: rest) im P := en_min hd hrest kk
theorem g_inv0 (hd : en_dv i pc j nb pc') (hs : (SH LS)[a]? = some (mO j, n))  (hlen : 0 = mN j) (hrest : (rest.map fun v => v.category).sum ≤ 8) (kk : Gm LS rm j 0 (en_in j [.ref a]) [] im (fun r im' => Gm LS rm i pc' L (r.toList ++ rest) im' P)) : Gm LS rm i pc L (.ref a :: rest) im P :=
  en_inv (M := (SH LS, im, rm)) (as := []) (rest := rest) hd hs (fun v hv => by cases hv) hlen hrest (Nat.le_refl _) (Nat.le_refl _) (Nat.le_refl _) (Nat.le_refl _) (en_mono (fun r M' hM => by obtain ⟨im', e, hp⟩ := hM; subst e; exact hp) kk)
theorem g_invS0 (hd : en_dS i pc j nb pc')  (hlen : 0 = mN j) (hrest : (rest.map fun v => v.category).sum ≤ 8) (kk : Gm LS rm j 0 (en_in j []) [] im (fun r im' => Gm LS rm i pc' L (r.toList ++ rest) im' P)) : Gm LS rm i pc L (rest) im P :=
  en_invS (M := (SH LS, im, rm)) (as := []) (rest := rest) hd (fun v hv => by cases hv) hlen hrest (Nat.le_refl _) (Nat.le_refl _) (Nat.le_refl _) (Nat.le_refl _) (en_mono (fun r M' hM => by obtain ⟨im', e, hp⟩ := hM; subst e; exact hp) kk)
theorem g_inv1 {v0 : Value} (hd : en_dv i pc j nb pc') (hs : (SH LS)[a]? = some (mO j, n)) (c0 : v0.category = 1) (hlen : 1 = mN j) (hrest : (rest.map fun v => v.category).sum ≤ 8) (kk : Gm LS rm j 0 (en_in j [.ref a, v0]) [] im (fun r im' => Gm LS rm i pc' L (r.toList ++ rest) im' P)) : Gm LS rm i pc L (v0 :: .ref a :: rest) im P :=
  en_inv (M := (SH LS, im, rm)) (as := [v0]) (rest := rest) hd hs (fun v hv => by simp only [List.mem_cons, List.not_mem_nil, or_false] at hv; rcases hv with rfl <;> assumption) hlen hrest (Nat.le_refl _) (Nat.le_refl _) (Nat.le_refl _) (Nat.le_refl _) (en_mono (fun r M' hM => by obtain ⟨im', e, hp⟩ := hM; subst e; exact hp) kk)
theorem g_invS1 {v0 : Value} (hd : en_dS i pc j nb pc') (c0 : v0.category = 1) (hlen : 1 = mN j) (hrest : (rest.map fun v => v.category).sum ≤ 8) (kk : Gm LS rm j 0 (en_in j [v0]) [] im (fun r im' => Gm LS rm i pc' L (r.toList ++ rest) im' P)) : Gm LS rm i pc L (v0 :: rest) im P :=
  en_invS (M := (SH LS, im, rm)) (as := [v0]) (rest := rest) hd (fun v hv => by simp only [List.mem_cons, List.not_mem_nil, or_false] at hv; rcases hv with rfl <;> assumption) hlen hrest (Nat.le_refl _) (Nat.le_refl _) (Nat.le_refl _) (Nat.le_refl _) (en_mono (fun r M' hM => by obtain ⟨im', e, hp⟩ := hM; subst e; exact hp) kk)
theorem g_inv2 {v0 v1 : Value} (hd : en_dv i pc j nb pc') (hs : (SH LS)[a]? = some (mO j, n)) (c0 : v0.category = 1) (c1 : v1.category = 1) (hlen : 2 = mN j) (hrest : (rest.map fun v => v.category).sum ≤ 8) (kk : Gm LS rm j 0 (en_in j [.ref a, v0, v1]) [] im (fun r im' => Gm LS rm i pc' L (r.toList ++ rest) im' P)) : Gm LS rm i pc L (v1 :: v0 :: .ref a :: rest) im P :=
  en_inv (M := (SH LS, im, rm)) (as := [v0, v1]) (rest := rest) hd hs (fun v hv => by simp only [List.mem_cons, List.not_mem_nil, or_false] at hv; rcases hv with rfl | rfl <;> assumption) hlen hrest (Nat.le_refl _) (Nat.le_refl _) (Nat.le_refl _) (Nat.le_refl _) (en_mono (fun r M' hM => by obtain ⟨im', e, hp⟩ := hM; subst e; exact hp) kk)
theorem g_invS2 {v0 v1 : Value} (hd : en_dS i pc j nb pc') (c0 : v0.category = 1) (c1 : v1.category = 1) (hlen : 2 = mN j) (hrest : (rest.map fun v => v.category).sum ≤ 8) (kk : Gm LS rm j 0 (en_in j [v0, v1]) [] im (fun r im' => Gm LS rm i pc' L (r.toList ++ rest) im' P)) : Gm LS rm i pc L (v1 :: v0 :: rest) im P :=
  en_invS (M := (SH LS, im, rm)) (as := [v0, v1]) (rest := rest) hd (fun v hv => by simp only [List.mem_cons, List.not_mem_nil, or_false] at hv; rcases hv with rfl | rfl <;> assumption) hlen hrest (Nat.le_refl _) (Nat.le_refl _) (Nat.le_refl _) (Nat.le_refl _) (en_mono (fun r M' hM => by obtain ⟨im', e, hp⟩ := hM; subst e; exact hp) kk)
theorem g_inv3 {v0 v1 v2 : Value} (hd : en_dv i pc j nb pc') (hs : (SH LS)[a]? = some (mO j, n)) (c0 : v0.category = 1) (c1 : v1.category = 1) (c2 : v2.category = 1) (hlen : 3 = mN j) (hrest : (rest.map fun v => v.category).sum ≤ 8) (kk : Gm LS rm j 0 (en_in j [.ref a, v0, v1, v2]) [] im (fun r im' => Gm LS rm i pc' L (r.toList ++ rest) im' P)) : Gm LS rm i pc L (v2 :: v1 :: v0 :: .ref a :: rest) im P :=
  en_inv (M := (SH LS, im, rm)) (as := [v0, v1, v2]) (rest := rest) hd hs (fun v hv => by simp only [List.mem_cons, List.not_mem_nil, or_false] at hv; rcases hv with rfl | rfl | rfl <;> assumption) hlen hrest (Nat.le_refl _) (Nat.le_refl _) (Nat.le_refl _) (Nat.le_refl _) (en_mono (fun r M' hM => by obtain ⟨im', e, hp⟩ := hM; subst e; exact hp) kk)
theorem g_invS3 {v0 v1 v2 : Value} (hd : en_dS i pc j nb pc') (c0 : v0.category = 1) (c1 : v1.category = 1) (c2 : v2.category = 1) (hlen : 3 = mN j) (hrest : (rest.map fun v => v.category).sum ≤ 8) (kk : Gm LS rm j 0 (en_in j [v0, v1, v2]) [] im (fun r im' => Gm LS rm i pc' L (r.toList ++ rest) im' P)) : Gm LS rm i pc L (v2 :: v1 :: v0 :: rest) im P :=
  en_invS (M := (SH LS, im, rm)) (as := [v0, v1, v2]) (rest := rest) hd (fun v hv => by simp only [List.mem_cons, List.not_mem_nil, or_false] at hv; rcases hv with rfl | rfl | rfl <;> assumption) hlen hrest (Nat.le_refl _) (Nat.le_refl _) (Nat.le_refl _) (Nat.le_refl _) (en_mono (fun r M' hM => by obtain ⟨im', e, hp⟩ := hM; subst e; exact hp) kk)
theorem g_inv4 {v0 v1 v2 v3 : Value} (hd : en_dv i pc j nb pc') (hs : (SH LS)[a]? = some (mO j, n)) (c0 : v0.category = 1) (c1 : v1.category = 1) (c2 : v2.category = 1) (c3 : v3.category = 1) (hlen : 4 = mN j) (hrest : (rest.map fun v => v.category).sum ≤ 8) (kk : Gm LS rm j 0 (en_in j [.ref a, v0, v1, v2, v3]) [] im (fun r im' => Gm LS rm i pc' L (r.toList ++ rest) im' P)) : Gm LS rm i pc L (v3 :: v2 :: v1 :: v0 :: .ref a :: rest) im P :=
  en_inv (M := (SH LS, im, rm)) (as := [v0, v1, v2, v3]) (rest := rest) hd hs (fun v hv => by simp only [List.mem_cons, List.not_mem_nil, or_false] at hv; rcases hv with rfl | rfl | rfl | rfl <;> assumption) hlen hrest (Nat.le_refl _) (Nat.le_refl _) (Nat.le_refl _) (Nat.le_refl _) (en_mono (fun r M' hM => by obtain ⟨im', e, hp⟩ := hM; subst e; exact hp) kk)
theorem g_invS4 {v0 v1 v2 v3 : Value} (hd : en_dS i pc j nb pc') (c0 : v0.category = 1) (c1 : v1.category = 1) (c2 : v2.category = 1) (c3 : v3.category = 1) (hlen : 4 = mN j) (hrest : (rest.map fun v => v.category).sum ≤ 8) (kk : Gm LS rm j 0 (en_in j [v0, v1, v2, v3]) [] im (fun r im' => Gm LS rm i pc' L (r.toList ++ rest) im' P)) : Gm LS rm i pc L (v3 :: v2 :: v1 :: v0 :: rest) im P :=
  en_invS (M := (SH LS, im, rm)) (as := [v0, v1, v2, v3]) (rest := rest) hd (fun v hv => by simp only [List.mem_cons, List.not_mem_nil, or_false] at hv; rcases hv with rfl | rfl | rfl | rfl <;> assumption) hlen hrest (Nat.le_refl _) (Nat.le_refl _) (Nat.le_refl _) (Nat.le_refl _) (en_mono (fun r M' hM => by obtain ⟨im', e, hp⟩ := hM; subst e; exact hp) kk)
theorem g_inv5 {v0 v1 v2 v3 v4 : Value} (hd : en_dv i pc j nb pc') (hs : (SH LS)[a]? = some (mO j, n)) (c0 : v0.category = 1) (c1 : v1.category = 1) (c2 : v2.category = 1) (c3 : v3.category = 1) (c4 : v4.category = 1) (hlen : 5 = mN j) (hrest : (rest.map fun v => v.category).sum ≤ 8) (kk : Gm LS rm j 0 (en_in j [.ref a, v0, v1, v2, v3, v4]) [] im (fun r im' => Gm LS rm i pc' L (r.toList ++ rest) im' P)) : Gm LS rm i pc L (v4 :: v3 :: v2 :: v1 :: v0 :: .ref a :: rest) im P :=
  en_inv (M := (SH LS, im, rm)) (as := [v0, v1, v2, v3, v4]) (rest := rest) hd hs (fun v hv => by simp only [List.mem_cons, List.not_mem_nil, or_false] at hv; rcases hv with rfl | rfl | rfl | rfl | rfl <;> assumption) hlen hrest (Nat.le_refl _) (Nat.le_refl _) (Nat.le_refl _) (Nat.le_refl _) (en_mono (fun r M' hM => by obtain ⟨im', e, hp⟩ := hM; subst e; exact hp) kk)
theorem g_invS5 {v0 v1 v2 v3 v4 : Value} (hd : en_dS i pc j nb pc') (c0 : v0.category = 1) (c1 : v1.category = 1) (c2 : v2.category = 1) (c3 : v3.category = 1) (c4 : v4.category = 1) (hlen : 5 = mN j) (hrest : (rest.map fun v => v.category).sum ≤ 8) (kk : Gm LS rm j 0 (en_in j [v0, v1, v2, v3, v4]) [] im (fun r im' => Gm LS rm i pc' L (r.toList ++ rest) im' P)) : Gm LS rm i pc L (v4 :: v3 :: v2 :: v1 :: v0 :: rest) im P :=
  en_invS (M := (SH LS, im, rm)) (as := [v0, v1, v2, v3, v4]) (rest := rest) hd (fun v hv => by simp only [List.mem_cons, List.not_mem_nil, or_false] at hv; rcases hv with rfl | rfl | rfl | rfl | rfl <;> assumption) hlen hrest (Nat.le_refl _) (Nat.le_refl _) (Nat.le_refl _) (Nat.le_refl _) (en_mono (fun r M' hM => by obtain ⟨im', e, hp⟩ := hM; subst e; exact hp) kk)
/-! the same with named values: an index is nI q, a value read has a name -/
theorem g_top {x y : Int32} (h : x = y) (kk : Gm LS rm i pc L (.int y :: st) im P) : Gm LS rm i pc L (.int x :: st) im P := h ▸ kk
theorem g_im {im' : Nat → Nat → Int32} (h : im = im') (kk : Gm LS rm i pc L st im' P) : Gm LS rm i pc L st im P := h ▸ kk
theorem g_getv {v : Int32} (hd : en_df i pc ci k nb false pc') (hs : (SH LS)[a]? = some (ci, n)) (hn : k < n) (hv : im a k = v) (kk : Gm LS rm i pc' L (.int v :: st) im P) : Gm LS rm i pc L (.ref a :: st) im P := g_geti hd hs hn (hv ▸ kk)
theorem g_ialv {q : Nat} {v : Int32} (hd : en_d i pc .iaload 1 pc') (hs : (SH LS)[a]? = some (100, n)) (hq : q < n) (hn : n < 2 ^ 31) (hv : im a q = v) (kk : Gm LS rm i pc' L (.int v :: st) im P) : Gm LS rm i pc L (.int (nI q) :: .ref a :: st) im P := by
  refine g_iald hd hs (vp_in_nI hq hn) ?_
  rw [nI_clamp (by omega), hv]
  exact kk
theorem g_zalv {q : Nat} {v : Int32} (hd : en_d i pc .baload 1 pc') (hs : (SH LS)[a]? = some (101, n)) (hq : q < n) (hn : n < 2 ^ 31) (hv : im a q = v) (kk : Gm LS rm i pc' L (.int v :: st) im P) : Gm LS rm i pc L (.int (nI q) :: .ref a :: st) im P := by
  refine g_zald hd hs (vp_in_nI hq hn) ?_
  rw [nI_clamp (by omega), hv]
  exact kk
theorem g_aalv {q t b : Nat} (hd : en_d i pc .aaload 1 pc') (hs : (SH LS)[a]? = some (100 + (t + 2), n)) (ht : ∃ C, xA[t + 2]? = some (.object C)) (hq : q < n) (hn : n < 2 ^ 31) (hb : rm a q = some b) (kk : Gm LS rm i pc' L (.ref b :: st) im P) : Gm LS rm i pc L (.int (nI q) :: .ref a :: st) im P :=
  g_aald hd hs ht (vp_in_nI hq hn) (by rw [nI_clamp (by omega)]; exact hb) kk
theorem g_iasv {q : Nat} {v : Int32} (hd : en_d i pc .iastore 1 pc') (hs : (SH LS)[a]? = some (100, n)) (hq : q < n) (hn : n < 2 ^ 31) (kk : Gm LS rm i pc' L st (en_u2 im a q v) P) : Gm LS rm i pc L (.int v :: .int (nI q) :: .ref a :: st) im P := by
  refine g_iast hd hs (vp_in_nI hq hn) ?_
  rw [nI_clamp (by omega)]
  exact kk
theorem g_zasv {q : Nat} {v : Int32} (hd : en_d i pc .bastore 1 pc') (hs : (SH LS)[a]? = some (101, n)) (hq : q < n) (hn : n < 2 ^ 31) (hv : v = 0 ∨ v = 1) (kk : Gm LS rm i pc' L st (en_u2 im a q v) P) : Gm LS rm i pc L (.int v :: .int (nI q) :: .ref a :: st) im P := by
  refine g_zast hd hs (vp_in_nI hq hn) hv ?_
  rw [nI_clamp (by omega)]
  exact kk
end GM
end
section
/-! 39: EndorsedLedger$Program.<init>()V -/
theorem k39_0 : en_d 39 0 (.aload_n 0) 1 1 := ⟨by decide +kernel, rfl⟩
theorem k39_1 : en_dn 39 1 6 4 := ⟨3, by decide +kernel, by decide +kernel, rfl, by decide +kernel, by decide +kernel⟩
theorem k39_4 : en_d 39 4 (.aload_n 0) 1 5 := ⟨by decide +kernel, rfl⟩
theorem k39_5 : en_d 39 5 (.bipush 12) 2 7 := ⟨by decide +kernel, rfl⟩
theorem k39_7 : en_d 39 7 (.newarray .int) 2 9 := ⟨by decide +kernel, rfl⟩
theorem k39_9 : en_dp 39 9 1 0 false (.array .int) 12 := ⟨9, by decide +kernel, by decide +kernel, by decide +kernel, rfl⟩
theorem k39_12 : en_d 39 12 (.aload_n 0) 1 13 := ⟨by decide +kernel, rfl⟩
theorem k39_13 : en_d 39 13 (.bipush 12) 2 15 := ⟨by decide +kernel, rfl⟩
theorem k39_15 : en_d 39 15 (.newarray .int) 2 17 := ⟨by decide +kernel, rfl⟩
theorem k39_17 : en_dp 39 17 1 1 false (.array .int) 20 := ⟨15, by decide +kernel, by decide +kernel, by decide +kernel, rfl⟩
theorem k39_20 : en_d 39 20 (.aload_n 0) 1 21 := ⟨by decide +kernel, rfl⟩
theorem k39_21 : en_d 39 21 (.iconst 0) 1 22 := ⟨by decide +kernel, rfl⟩
theorem k39_22 : en_dp 39 22 1 2 false .int 25 := ⟨18, by decide +kernel, by decide +kernel, by decide +kernel, rfl⟩
theorem k39_25 : en_d 39 25 (.aload_n 0) 1 26 := ⟨by decide +kernel, rfl⟩
theorem k39_26 : en_d 39 26 (.bipush 9) 2 28 := ⟨by decide +kernel, rfl⟩
theorem k39_28 : en_d 39 28 (.newarray .int) 2 30 := ⟨by decide +kernel, rfl⟩
theorem k39_30 : en_dp 39 30 1 3 false (.array .int) 33 := ⟨22, by decide +kernel, by decide +kernel, by decide +kernel, rfl⟩
theorem k39_33 : en_d 39 33 (.aload_n 0) 1 34 := ⟨by decide +kernel, rfl⟩
theorem k39_34 : en_d 39 34 (.iconst 0) 1 35 := ⟨by decide +kernel, rfl⟩
theorem k39_35 : en_dp 39 35 1 4 false .int 38 := ⟨25, by decide +kernel, by decide +kernel, by decide +kernel, rfl⟩
theorem k39_38 : en_d 39 38 (.aload_n 0) 1 39 := ⟨by decide +kernel, rfl⟩
theorem k39_39 : en_d 39 39 (.iconst 0) 1 40 := ⟨by decide +kernel, rfl⟩
theorem k39_40 : en_dp 39 40 1 5 false .int 43 := ⟨28, by decide +kernel, by decide +kernel, by decide +kernel, rfl⟩
theorem k39_43 : en_d 39 43 .return_ 1 44 := ⟨by decide +kernel, rfl⟩
/-! 40: EndorsedLedger$Program.addInstruction(II)Z -/
theorem k40_0 : en_d 40 0 (.aload_n 0) 1 1 := ⟨by decide +kernel, rfl⟩
theorem k40_1 : en_df 40 1 1 2 false false 4 := ⟨18, by decide +kernel, by decide +kernel, by decide +kernel, rfl⟩
theorem k40_4 : en_d 40 4 (.bipush 12) 2 6 := ⟨by decide +kernel, rfl⟩
theorem k40_6 : en_j 40 6 (.if_icmp .lt) 9 11 := ⟨5, by decide +kernel, by decide, rfl⟩
theorem k40_9 : en_d 40 9 (.iconst 0) 1 10 := ⟨by decide +kernel, rfl⟩
theorem k40_10 : en_d 40 10 .ireturn 1 11 := ⟨by decide +kernel, rfl⟩
theorem k40_11 : en_d 40 11 (.aload_n 0) 1 12 := ⟨by decide +kernel, rfl⟩
theorem k40_12 : en_df 40 12 1 0 false true 15 := ⟨9, by decide +kernel, by decide +kernel, by decide +kernel, rfl⟩
theorem k40_15 : en_d 40 15 (.aload_n 0) 1 16 := ⟨by decide +kernel, rfl⟩
theorem k40_16 : en_df 40 16 1 2 false false 19 := ⟨18, by decide +kernel, by decide +kernel, by decide +kernel, rfl⟩
theorem k40_19 : en_d 40 19 (.iload_n 1) 1 20 := ⟨by decide +kernel, rfl⟩
theorem k40_20 : en_d 40 20 .iastore 1 21 := ⟨by decide +kernel, rfl⟩
theorem k40_21 : en_d 40 21 (.aload_n 0) 1 22 := ⟨by decide +kernel, rfl⟩
theorem k40_22 : en_df 40 22 1 1 false true 25 := ⟨15, by decide +kernel, by decide +kernel, by decide +kernel, rfl⟩
theorem k40_25 : en_d 40 25 (.aload_n 0) 1 26 := ⟨by decide +kernel, rfl⟩
theorem k40_26 : en_df 40 26 1 2 false false 29 := ⟨18, by decide +kernel, by decide +kernel, by decide +kernel, rfl⟩
theorem k40_29 : en_d 40 29 (.iload_n 2) 1 30 := ⟨by decide +kernel, rfl⟩
theorem k40_30 : en_d 40 30 .iastore 1 31 := ⟨by decide +kernel, rfl⟩
theorem k40_31 : en_d 40 31 (.aload_n 0) 1 32 := ⟨by decide +kernel, rfl⟩
theorem k40_32 : en_d 40 32 .dup 1 33 := ⟨by decide +kernel, rfl⟩
theorem k40_33 : en_df 40 33 1 2 false false 36 := ⟨18, by decide +kernel, by decide +kernel, by decide +kernel, rfl⟩
theorem k40_36 : en_d 40 36 (.iconst 1) 1 37 := ⟨by decide +kernel, rfl⟩
theorem k40_37 : en_d 40 37 .iadd 1 38 := ⟨by decide +kernel, rfl⟩
theorem k40_38 : en_dp 40 38 1 2 false .int 41 := ⟨18, by decide +kernel, by decide +kernel, by decide +kernel, rfl⟩
theorem k40_41 : en_d 40 41 (.iconst 1) 1 42 := ⟨by decide +kernel, rfl⟩
theorem k40_42 : en_d 40 42 .ireturn 1 43 := ⟨by decide +kernel, rfl⟩
/-! 41: EndorsedLedger$Program.addLeaf(I)Z -/
theorem k41_0 : en_d 41 0 (.aload_n 0) 1 1 := ⟨by decide +kernel, rfl⟩
theorem k41_1 : en_df 41 1 1 5 false false 4 := ⟨28, by decide +kernel, by decide +kernel, by decide +kernel, rfl⟩
theorem k41_4 : en_d 41 4 (.bipush 9) 2 6 := ⟨by decide +kernel, rfl⟩
theorem k41_6 : en_j 41 6 (.if_icmp .lt) 9 11 := ⟨5, by decide +kernel, by decide, rfl⟩
theorem k41_9 : en_d 41 9 (.iconst 0) 1 10 := ⟨by decide +kernel, rfl⟩
theorem k41_10 : en_d 41 10 .ireturn 1 11 := ⟨by decide +kernel, rfl⟩
theorem k41_11 : en_d 41 11 (.iconst 0) 1 12 := ⟨by decide +kernel, rfl⟩
theorem k41_12 : en_d 41 12 (.istore_n 2) 1 13 := ⟨by decide +kernel, rfl⟩
theorem k41_13 : en_d 41 13 (.iconst 0) 1 14 := ⟨by decide +kernel, rfl⟩
theorem k41_14 : en_d 41 14 (.istore_n 3) 1 15 := ⟨by decide +kernel, rfl⟩
theorem k41_15 : en_d 41 15 (.iload_n 3) 1 16 := ⟨by decide +kernel, rfl⟩
theorem k41_16 : en_d 41 16 (.bipush 16) 2 18 := ⟨by decide +kernel, rfl⟩
theorem k41_18 : en_j 41 18 (.if_icmp .ge) 21 37 := ⟨19, by decide +kernel, by decide, rfl⟩
theorem k41_21 : en_d 41 21 (.iload_n 2) 1 22 := ⟨by decide +kernel, rfl⟩
theorem k41_22 : en_d 41 22 (.iload_n 3) 1 23 := ⟨by decide +kernel, rfl⟩
theorem k41_23 : en_d 41 23 (.iload_n 1) 1 24 := ⟨by decide +kernel, rfl⟩
theorem k41_24 : en_d 41 24 .ishr 1 25 := ⟨by decide +kernel, rfl⟩
theorem k41_25 : en_d 41 25 (.iconst 1) 1 26 := ⟨by decide +kernel, rfl⟩
theorem k41_26 : en_d 41 26 .iand 1 27 := ⟨by decide +kernel, rfl⟩
theorem k41_27 : en_d 41 27 (.iload_n 3) 1 28 := ⟨by decide +kernel, rfl⟩
theorem k41_28 : en_d 41 28 .ishl 1 29 := ⟨by decide +kernel, rfl⟩
theorem k41_29 : en_d 41 29 .ior 1 30 := ⟨by decide +kernel, rfl⟩
theorem k41_30 : en_d 41 30 (.istore_n 2) 1 31 := ⟨by decide +kernel, rfl⟩
theorem k41_31 : en_d 41 31 (.iinc 3 1) 3 34 := ⟨by decide +kernel, rfl⟩
theorem k41_34 : en_j 41 34 .goto 37 15 := ⟨(-19), by decide +kernel, by decide, rfl⟩
theorem k41_37 : en_d 41 37 (.aload_n 0) 1 38 := ⟨by decide +kernel, rfl⟩
theorem k41_38 : en_d 41 38 (.iload_n 2) 1 39 := ⟨by decide +kernel, rfl⟩
theorem k41_39 : en_dv 41 39 44 false 42 := ⟨31, by decide +kernel, by decide +kernel, rfl, by decide +kernel, by decide +kernel⟩
theorem k41_42 : en_d 41 42 (.iconst 1) 1 43 := ⟨by decide +kernel, rfl⟩
theorem k41_43 : en_d 41 43 .ireturn 1 44 := ⟨by decide +kernel, rfl⟩
/-! 42: EndorsedLedger$Program.joinRules(II)Z -/
theorem k42_0 : en_d 42 0 (.aload_n 0) 1 1 := ⟨by decide +kernel, rfl⟩
theorem k42_1 : en_df 42 1 1 5 false false 4 := ⟨28, by decide +kernel, by decide +kernel, by decide +kernel, rfl⟩
theorem k42_4 : en_d 42 4 (.bipush 9) 2 6 := ⟨by decide +kernel, rfl⟩
theorem k42_6 : en_j 42 6 (.if_icmp .ge) 9 17 := ⟨11, by decide +kernel, by decide, rfl⟩
theorem k42_9 : en_d 42 9 (.aload_n 0) 1 10 := ⟨by decide +kernel, rfl⟩
theorem k42_10 : en_df 42 10 1 4 false false 13 := ⟨25, by decide +kernel, by decide +kernel, by decide +kernel, rfl⟩
theorem k42_13 : en_d 42 13 (.iload_n 2) 1 14 := ⟨by decide +kernel, rfl⟩
theorem k42_14 : en_j 42 14 (.if_icmp .ge) 17 19 := ⟨5, by decide +kernel, by decide, rfl⟩
theorem k42_17 : en_d 42 17 (.iconst 0) 1 18 := ⟨by decide +kernel, rfl⟩
theorem k42_18 : en_d 42 18 .ireturn 1 19 := ⟨by decide +kernel, rfl⟩
theorem k42_19 : en_d 42 19 (.iconst 0) 1 20 := ⟨by decide +kernel, rfl⟩
theorem k42_20 : en_d 42 20 (.istore_n 3) 1 21 := ⟨by decide +kernel, rfl⟩
theorem k42_21 : en_d 42 21 (.iconst 0) 1 22 := ⟨by decide +kernel, rfl⟩
theorem k42_22 : en_d 42 22 (.istore 4) 2 24 := ⟨by decide +kernel, rfl⟩
theorem k42_24 : en_d 42 24 (.iload 4) 2 26 := ⟨by decide +kernel, rfl⟩
theorem k42_26 : en_d 42 26 (.bipush 16) 2 28 := ⟨by decide +kernel, rfl⟩
theorem k42_28 : en_j 42 28 (.if_icmp .ge) 31 55 := ⟨27, by decide +kernel, by decide, rfl⟩
theorem k42_31 : en_d 42 31 (.aload_n 0) 1 32 := ⟨by decide +kernel, rfl⟩
theorem k42_32 : en_d 42 32 (.iload_n 2) 1 33 := ⟨by decide +kernel, rfl⟩
theorem k42_33 : en_d 42 33 (.iload 4) 2 35 := ⟨by decide +kernel, rfl⟩
theorem k42_35 : en_dv 42 35 43 false 38 := ⟨35, by decide +kernel, by decide +kernel, rfl, by decide +kernel, by decide +kernel⟩
theorem k42_38 : en_d 42 38 (.iload_n 1) 1 39 := ⟨by decide +kernel, rfl⟩
theorem k42_39 : en_j 42 39 (.if_icmp .lt) 42 49 := ⟨10, by decide +kernel, by decide, rfl⟩
theorem k42_42 : en_d 42 42 (.iload_n 3) 1 43 := ⟨by decide +kernel, rfl⟩
theorem k42_43 : en_d 42 43 (.iconst 1) 1 44 := ⟨by decide +kernel, rfl⟩
theorem k42_44 : en_d 42 44 (.iload 4) 2 46 := ⟨by decide +kernel, rfl⟩
theorem k42_46 : en_d 42 46 .ishl 1 47 := ⟨by decide +kernel, rfl⟩
theorem k42_47 : en_d 42 47 .ior 1 48 := ⟨by decide +kernel, rfl⟩
theorem k42_48 : en_d 42 48 (.istore_n 3) 1 49 := ⟨by decide +kernel, rfl⟩
theorem k42_49 : en_d 42 49 (.iinc 4 1) 3 52 := ⟨by decide +kernel, rfl⟩
theorem k42_52 : en_j 42 52 .goto 55 24 := ⟨(-28), by decide +kernel, by decide, rfl⟩
theorem k42_55 : en_d 42 55 (.aload_n 0) 1 56 := ⟨by decide +kernel, rfl⟩
theorem k42_56 : en_d 42 56 .dup 1 57 := ⟨by decide +kernel, rfl⟩
theorem k42_57 : en_df 42 57 1 4 false false 60 := ⟨25, by decide +kernel, by decide +kernel, by decide +kernel, rfl⟩
theorem k42_60 : en_d 42 60 (.iload_n 2) 1 61 := ⟨by decide +kernel, rfl⟩
theorem k42_61 : en_d 42 61 .isub 1 62 := ⟨by decide +kernel, rfl⟩
theorem k42_62 : en_dp 42 62 1 4 false .int 65 := ⟨25, by decide +kernel, by decide +kernel, by decide +kernel, rfl⟩
theorem k42_65 : en_d 42 65 (.aload_n 0) 1 66 := ⟨by decide +kernel, rfl⟩
theorem k42_66 : en_d 42 66 (.iload_n 3) 1 67 := ⟨by decide +kernel, rfl⟩
theorem k42_67 : en_dv 42 67 44 false 70 := ⟨31, by decide +kernel, by decide +kernel, rfl, by decide +kernel, by decide +kernel⟩
theorem k42_70 : en_d 42 70 (.iconst 1) 1 71 := ⟨by decide +kernel, rfl⟩
theorem k42_71 : en_d 42 71 .ireturn 1 72 := ⟨by decide +kernel, rfl⟩
/-! 43: EndorsedLedger$Program.countMetAmongTop(II)I -/
theorem k43_0 : en_d 43 0 (.iconst 0) 1 1 := ⟨by decide +kernel, rfl⟩
theorem k43_1 : en_d 43 1 (.istore_n 3) 1 2 := ⟨by decide +kernel, rfl⟩
theorem k43_2 : en_d 43 2 (.aload_n 0) 1 3 := ⟨by decide +kernel, rfl⟩
theorem k43_3 : en_df 43 3 1 4 false false 6 := ⟨25, by decide +kernel, by decide +kernel, by decide +kernel, rfl⟩
theorem k43_6 : en_d 43 6 (.iload_n 1) 1 7 := ⟨by decide +kernel, rfl⟩
theorem k43_7 : en_d 43 7 .isub 1 8 := ⟨by decide +kernel, rfl⟩
theorem k43_8 : en_d 43 8 (.istore 4) 2 10 := ⟨by decide +kernel, rfl⟩
theorem k43_10 : en_d 43 10 (.iload 4) 2 12 := ⟨by decide +kernel, rfl⟩
theorem k43_12 : en_d 43 12 (.aload_n 0) 1 13 := ⟨by decide +kernel, rfl⟩
theorem k43_13 : en_df 43 13 1 4 false false 16 := ⟨25, by decide +kernel, by decide +kernel, by decide +kernel, rfl⟩
theorem k43_16 : en_j 43 16 (.if_icmp .ge) 19 39 := ⟨23, by decide +kernel, by decide, rfl⟩
theorem k43_19 : en_d 43 19 (.iload_n 3) 1 20 := ⟨by decide +kernel, rfl⟩
theorem k43_20 : en_d 43 20 (.aload_n 0) 1 21 := ⟨by decide +kernel, rfl⟩
theorem k43_21 : en_df 43 21 1 3 false true 24 := ⟨22, by decide +kernel, by decide +kernel, by decide +kernel, rfl⟩
theorem k43_24 : en_d 43 24 (.iload 4) 2 26 := ⟨by decide +kernel, rfl⟩
theorem k43_26 : en_d 43 26 .iaload 1 27 := ⟨by decide +kernel, rfl⟩
theorem k43_27 : en_d 43 27 (.iload_n 2) 1 28 := ⟨by decide +kernel, rfl⟩
theorem k43_28 : en_d 43 28 .ishr 1 29 := ⟨by decide +kernel, rfl⟩
theorem k43_29 : en_d 43 29 (.iconst 1) 1 30 := ⟨by decide +kernel, rfl⟩
theorem k43_30 : en_d 43 30 .iand 1 31 := ⟨by decide +kernel, rfl⟩
theorem k43_31 : en_d 43 31 .iadd 1 32 := ⟨by decide +kernel, rfl⟩
theorem k43_32 : en_d 43 32 (.istore_n 3) 1 33 := ⟨by decide +kernel, rfl⟩
theorem k43_33 : en_d 43 33 (.iinc 4 1) 3 36 := ⟨by decide +kernel, rfl⟩
theorem k43_36 : en_j 43 36 .goto 39 10 := ⟨(-26), by decide +kernel, by decide, rfl⟩
theorem k43_39 : en_d 43 39 (.iload_n 3) 1 40 := ⟨by decide +kernel, rfl⟩
theorem k43_40 : en_d 43 40 .ireturn 1 41 := ⟨by decide +kernel, rfl⟩
/-! 44: EndorsedLedger$Program.putOnTop(I)V -/
theorem k44_0 : en_d 44 0 (.aload_n 0) 1 1 := ⟨by decide +kernel, rfl⟩
theorem k44_1 : en_df 44 1 1 3 false true 4 := ⟨22, by decide +kernel, by decide +kernel, by decide +kernel, rfl⟩
theorem k44_4 : en_d 44 4 (.aload_n 0) 1 5 := ⟨by decide +kernel, rfl⟩
theorem k44_5 : en_df 44 5 1 4 false false 8 := ⟨25, by decide +kernel, by decide +kernel, by decide +kernel, rfl⟩
theorem k44_8 : en_d 44 8 (.iload_n 1) 1 9 := ⟨by decide +kernel, rfl⟩
theorem k44_9 : en_d 44 9 .iastore 1 10 := ⟨by decide +kernel, rfl⟩
theorem k44_10 : en_d 44 10 (.aload_n 0) 1 11 := ⟨by decide +kernel, rfl⟩
theorem k44_11 : en_d 44 11 .dup 1 12 := ⟨by decide +kernel, rfl⟩
theorem k44_12 : en_df 44 12 1 4 false false 15 := ⟨25, by decide +kernel, by decide +kernel, by decide +kernel, rfl⟩
theorem k44_15 : en_d 44 15 (.iconst 1) 1 16 := ⟨by decide +kernel, rfl⟩
theorem k44_16 : en_d 44 16 .iadd 1 17 := ⟨by decide +kernel, rfl⟩
theorem k44_17 : en_dp 44 17 1 4 false .int 20 := ⟨25, by decide +kernel, by decide +kernel, by decide +kernel, rfl⟩
theorem k44_20 : en_d 44 20 (.aload_n 0) 1 21 := ⟨by decide +kernel, rfl⟩
theorem k44_21 : en_d 44 21 .dup 1 22 := ⟨by decide +kernel, rfl⟩
theorem k44_22 : en_df 44 22 1 5 false false 25 := ⟨28, by decide +kernel, by decide +kernel, by decide +kernel, rfl⟩
theorem k44_25 : en_d 44 25 (.iconst 1) 1 26 := ⟨by decide +kernel, rfl⟩
theorem k44_26 : en_d 44 26 .iadd 1 27 := ⟨by decide +kernel, rfl⟩
theorem k44_27 : en_dp 44 27 1 5 false .int 30 := ⟨28, by decide +kernel, by decide +kernel, by decide +kernel, rfl⟩
theorem k44_30 : en_d 44 30 .return_ 1 31 := ⟨by decide +kernel, rfl⟩
/-! 45: EndorsedLedger$Program.isMetBy(I)Z -/
theorem k45_0 : en_d 45 0 (.aload_n 0) 1 1 := ⟨by decide +kernel, rfl⟩
theorem k45_1 : en_df 45 1 1 4 false false 4 := ⟨25, by decide +kernel, by decide +kernel, by decide +kernel, rfl⟩
theorem k45_4 : en_j 45 4 (.ifCond .le) 7 30 := ⟨26, by decide +kernel, by decide, rfl⟩
theorem k45_7 : en_d 45 7 (.aload_n 0) 1 8 := ⟨by decide +kernel, rfl⟩
theorem k45_8 : en_df 45 8 1 3 false true 11 := ⟨22, by decide +kernel, by decide +kernel, by decide +kernel, rfl⟩
theorem k45_11 : en_d 45 11 (.aload_n 0) 1 12 := ⟨by decide +kernel, rfl⟩
theorem k45_12 : en_df 45 12 1 4 false false 15 := ⟨25, by decide +kernel, by decide +kernel, by decide +kernel, rfl⟩
theorem k45_15 : en_d 45 15 (.iconst 1) 1 16 := ⟨by decide +kernel, rfl⟩
theorem k45_16 : en_d 45 16 .isub 1 17 := ⟨by decide +kernel, rfl⟩
theorem k45_17 : en_d 45 17 .iaload 1 18 := ⟨by decide +kernel, rfl⟩
theorem k45_18 : en_d 45 18 (.iload_n 1) 1 19 := ⟨by decide +kernel, rfl⟩
theorem k45_19 : en_d 45 19 .ishr 1 20 := ⟨by decide +kernel, rfl⟩
theorem k45_20 : en_d 45 20 (.iconst 1) 1 21 := ⟨by decide +kernel, rfl⟩
theorem k45_21 : en_d 45 21 .iand 1 22 := ⟨by decide +kernel, rfl⟩
theorem k45_22 : en_d 45 22 (.iconst 1) 1 23 := ⟨by decide +kernel, rfl⟩
theorem k45_23 : en_j 45 23 (.if_icmp .ne) 26 30 := ⟨7, by decide +kernel, by decide, rfl⟩
theorem k45_26 : en_d 45 26 (.iconst 1) 1 27 := ⟨by decide +kernel, rfl⟩
theorem k45_27 : en_j 45 27 .goto 30 31 := ⟨4, by decide +kernel, by decide, rfl⟩
theorem k45_30 : en_d 45 30 (.iconst 0) 1 31 := ⟨by decide +kernel, rfl⟩
theorem k45_31 : en_d 45 31 .ireturn 1 32 := ⟨by decide +kernel, rfl⟩
/-! 46: EndorsedLedger$Run.<init>()V -/
theorem k46_0 : en_d 46 0 (.aload_n 0) 1 1 := ⟨by decide +kernel, rfl⟩
theorem k46_1 : en_dn 46 1 6 4 := ⟨3, by decide +kernel, by decide +kernel, rfl, by decide +kernel, by decide +kernel⟩
theorem k46_4 : en_d 46 4 (.aload_n 0) 1 5 := ⟨by decide +kernel, rfl⟩
theorem k46_5 : en_d 46 5 (.bipush 8) 2 7 := ⟨by decide +kernel, rfl⟩
theorem k46_7 : en_d 46 7 (.newarray .int) 2 9 := ⟨by decide +kernel, rfl⟩
theorem k46_9 : en_dp 46 9 2 0 false (.array .int) 12 := ⟨9, by decide +kernel, by decide +kernel, by decide +kernel, rfl⟩
theorem k46_12 : en_d 46 12 (.aload_n 0) 1 13 := ⟨by decide +kernel, rfl⟩
theorem k46_13 : en_dw 46 13 3 16 := ⟨15, by decide +kernel, by decide +kernel, rfl⟩
theorem k46_16 : en_d 46 16 .dup 1 17 := ⟨by decide +kernel, rfl⟩
theorem k46_17 : en_dI 46 17 57 true 20 := ⟨17, by decide +kernel, by decide +kernel, rfl, by decide +kernel, by decide +kernel⟩
theorem k46_20 : en_dp 46 20 2 1 false (.object "EndorsedLedger$Result") 23 := ⟨18, by decide +kernel, by decide +kernel, by decide +kernel, rfl⟩
theorem k46_23 : en_d 46 23 (.aload_n 0) 1 24 := ⟨by decide +kernel, rfl⟩
theorem k46_24 : en_d 46 24 (.iconst 0) 1 25 := ⟨by decide +kernel, rfl⟩
theorem k46_25 : en_dp 46 25 2 2 false .int 28 := ⟨22, by decide +kernel, by decide +kernel, by decide +kernel, rfl⟩
theorem k46_28 : en_d 46 28 (.aload_n 0) 1 29 := ⟨by decide +kernel, rfl⟩
theorem k46_29 : en_d 46 29 (.iconst 0) 1 30 := ⟨by decide +kernel, rfl⟩
theorem k46_30 : en_dp 46 30 2 3 false .int 33 := ⟨26, by decide +kernel, by decide +kernel, by decide +kernel, rfl⟩
theorem k46_33 : en_d 46 33 (.aload_n 0) 1 34 := ⟨by decide +kernel, rfl⟩
theorem k46_34 : en_d 46 34 (.iconst 0) 1 35 := ⟨by decide +kernel, rfl⟩
theorem k46_35 : en_dp 46 35 2 4 false .boolean 38 := ⟨29, by decide +kernel, by decide +kernel, by decide +kernel, rfl⟩
theorem k46_38 : en_d 46 38 .return_ 1 39 := ⟨by decide +kernel, rfl⟩
/-! 47: EndorsedLedger$Run.succeeds(LEndorsedLedger$Program;ILEndorsedLedger$WorldState;)Z -/
theorem k47_0 : en_d 47 0 (.aload_n 0) 1 1 := ⟨by decide +kernel, rfl⟩
theorem k47_1 : en_d 47 1 (.iconst 0) 1 2 := ⟨by decide +kernel, rfl⟩
theorem k47_2 : en_dp 47 2 2 2 false .int 5 := ⟨22, by decide +kernel, by decide +kernel, by decide +kernel, rfl⟩
theorem k47_5 : en_d 47 5 (.aload_n 0) 1 6 := ⟨by decide +kernel, rfl⟩
theorem k47_6 : en_d 47 6 (.iconst 0) 1 7 := ⟨by decide +kernel, rfl⟩
theorem k47_7 : en_dp 47 7 2 3 false .int 10 := ⟨26, by decide +kernel, by decide +kernel, by decide +kernel, rfl⟩
theorem k47_10 : en_d 47 10 (.aload_n 0) 1 11 := ⟨by decide +kernel, rfl⟩
theorem k47_11 : en_d 47 11 (.iconst 0) 1 12 := ⟨by decide +kernel, rfl⟩
theorem k47_12 : en_dp 47 12 2 4 false .boolean 15 := ⟨29, by decide +kernel, by decide +kernel, by decide +kernel, rfl⟩
theorem k47_15 : en_d 47 15 (.aload_n 0) 1 16 := ⟨by decide +kernel, rfl⟩
theorem k47_16 : en_df 47 16 2 1 false true 19 := ⟨18, by decide +kernel, by decide +kernel, by decide +kernel, rfl⟩
theorem k47_19 : en_dv 47 19 58 true 22 := ⟨33, by decide +kernel, by decide +kernel, rfl, by decide +kernel, by decide +kernel⟩
theorem k47_22 : en_d 47 22 (.iconst 0) 1 23 := ⟨by decide +kernel, rfl⟩
theorem k47_23 : en_d 47 23 (.istore 4) 2 25 := ⟨by decide +kernel, rfl⟩
theorem k47_25 : en_d 47 25 (.iload 4) 2 27 := ⟨by decide +kernel, rfl⟩
theorem k47_27 : en_d 47 27 (.aload_n 1) 1 28 := ⟨by decide +kernel, rfl⟩
theorem k47_28 : en_df 47 28 1 2 true false 31 := ⟨36, by decide +kernel, by decide +kernel, by decide +kernel, rfl⟩
theorem k47_31 : en_j 47 31 (.if_icmp .ge) 34 87 := ⟨56, by decide +kernel, by decide, rfl⟩
theorem k47_34 : en_d 47 34 (.aload_n 0) 1 35 := ⟨by decide +kernel, rfl⟩
theorem k47_35 : en_df 47 35 2 4 false false 38 := ⟨29, by decide +kernel, by decide +kernel, by decide +kernel, rfl⟩
theorem k47_38 : en_j 47 38 (.ifCond .ne) 41 87 := ⟨49, by decide +kernel, by decide, rfl⟩
theorem k47_41 : en_d 47 41 (.aload_n 0) 1 42 := ⟨by decide +kernel, rfl⟩
theorem k47_42 : en_df 47 42 2 3 false false 45 := ⟨26, by decide +kernel, by decide +kernel, by decide +kernel, rfl⟩
theorem k47_45 : en_j 47 45 (.ifCond .le) 48 61 := ⟨16, by decide +kernel, by decide, rfl⟩
theorem k47_48 : en_d 47 48 (.aload_n 0) 1 49 := ⟨by decide +kernel, rfl⟩
theorem k47_49 : en_d 47 49 .dup 1 50 := ⟨by decide +kernel, rfl⟩
theorem k47_50 : en_df 47 50 2 3 false false 53 := ⟨26, by decide +kernel, by decide +kernel, by decide +kernel, rfl⟩
theorem k47_53 : en_d 47 53 (.iconst 1) 1 54 := ⟨by decide +kernel, rfl⟩
theorem k47_54 : en_d 47 54 .isub 1 55 := ⟨by decide +kernel, rfl⟩
theorem k47_55 : en_dp 47 55 2 3 false .int 58 := ⟨26, by decide +kernel, by decide +kernel, by decide +kernel, rfl⟩
theorem k47_58 : en_j 47 58 .goto 61 81 := ⟨23, by decide +kernel, by decide, rfl⟩
theorem k47_61 : en_d 47 61 (.aload_n 0) 1 62 := ⟨by decide +kernel, rfl⟩
theorem k47_62 : en_d 47 62 (.aload_n 1) 1 63 := ⟨by decide +kernel, rfl⟩
theorem k47_63 : en_df 47 63 1 0 true true 66 := ⟨41, by decide +kernel, by decide +kernel, by decide +kernel, rfl⟩
theorem k47_66 : en_d 47 66 (.iload 4) 2 68 := ⟨by decide +kernel, rfl⟩
theorem k47_68 : en_d 47 68 .iaload 1 69 := ⟨by decide +kernel, rfl⟩
theorem k47_69 : en_d 47 69 (.aload_n 1) 1 70 := ⟨by decide +kernel, rfl⟩
theorem k47_70 : en_df 47 70 1 1 true true 73 := ⟨44, by decide +kernel, by decide +kernel, by decide +kernel, rfl⟩
theorem k47_73 : en_d 47 73 (.iload 4) 2 75 := ⟨by decide +kernel, rfl⟩
theorem k47_75 : en_d 47 75 .iaload 1 76 := ⟨by decide +kernel, rfl⟩
theorem k47_76 : en_d 47 76 (.iload_n 2) 1 77 := ⟨by decide +kernel, rfl⟩
theorem k47_77 : en_d 47 77 (.aload_n 3) 1 78 := ⟨by decide +kernel, rfl⟩
theorem k47_78 : en_dv 47 78 48 false 81 := ⟨47, by decide +kernel, by decide +kernel, rfl, by decide +kernel, by decide +kernel⟩
theorem k47_81 : en_d 47 81 (.iinc 4 1) 3 84 := ⟨by decide +kernel, rfl⟩
theorem k47_84 : en_j 47 84 .goto 87 25 := ⟨(-59), by decide +kernel, by decide, rfl⟩
theorem k47_87 : en_d 47 87 (.aload_n 0) 1 88 := ⟨by decide +kernel, rfl⟩
theorem k47_88 : en_df 47 88 2 4 false false 91 := ⟨29, by decide +kernel, by decide +kernel, by decide +kernel, rfl⟩
theorem k47_91 : en_j 47 91 (.ifCond .ne) 94 98 := ⟨7, by decide +kernel, by decide, rfl⟩
theorem k47_94 : en_d 47 94 (.iconst 1) 1 95 := ⟨by decide +kernel, rfl⟩
theorem k47_95 : en_j 47 95 .goto 98 99 := ⟨4, by decide +kernel, by decide, rfl⟩
theorem k47_98 : en_d 47 98 (.iconst 0) 1 99 := ⟨by decide +kernel, rfl⟩
theorem k47_99 : en_d 47 99 .ireturn 1 100 := ⟨by decide +kernel, rfl⟩
/-! 48: EndorsedLedger$Run.step(IIILEndorsedLedger$WorldState;)V -/
theorem k48_0 : en_d 48 0 (.iload_n 1) 1 1 := ⟨by decide +kernel, rfl⟩
theorem k48_1 : decode (mB 48) 1 = .ok (.tableswitch 93 0 6 #[43, 51, 59, 59, 59, 67, 74], 43) := by decide +kernel
theorem k48_44 : en_d 48 44 (.aload_n 0) 1 45 := ⟨by decide +kernel, rfl⟩
theorem k48_45 : en_d 48 45 (.iload_n 2) 1 46 := ⟨by decide +kernel, rfl⟩
theorem k48_46 : en_dv 48 46 54 false 49 := ⟨51, by decide +kernel, by decide +kernel, rfl, by decide +kernel, by decide +kernel⟩
theorem k48_49 : en_j 48 49 .goto 52 101 := ⟨52, by decide +kernel, by decide, rfl⟩
theorem k48_52 : en_d 48 52 (.aload_n 0) 1 53 := ⟨by decide +kernel, rfl⟩
theorem k48_53 : en_d 48 53 (.iload_n 3) 1 54 := ⟨by decide +kernel, rfl⟩
theorem k48_54 : en_dv 48 54 54 false 57 := ⟨51, by decide +kernel, by decide +kernel, rfl, by decide +kernel, by decide +kernel⟩
theorem k48_57 : en_j 48 57 .goto 60 101 := ⟨44, by decide +kernel, by decide, rfl⟩
theorem k48_60 : en_d 48 60 (.aload_n 0) 1 61 := ⟨by decide +kernel, rfl⟩
theorem k48_61 : en_d 48 61 (.iload_n 1) 1 62 := ⟨by decide +kernel, rfl⟩
theorem k48_62 : en_dv 48 62 49 false 65 := ⟨55, by decide +kernel, by decide +kernel, rfl, by decide +kernel, by decide +kernel⟩
theorem k48_65 : en_j 48 65 .goto 68 101 := ⟨36, by decide +kernel, by decide, rfl⟩
theorem k48_68 : en_d 48 68 (.aload_n 0) 1 69 := ⟨by decide +kernel, rfl⟩
theorem k48_69 : en_dv 48 69 50 false 72 := ⟨58, by decide +kernel, by decide +kernel, rfl, by decide +kernel, by decide +kernel⟩
theorem k48_72 : en_j 48 72 .goto 75 101 := ⟨29, by decide +kernel, by decide, rfl⟩
theorem k48_75 : en_d 48 75 (.aload_n 0) 1 76 := ⟨by decide +kernel, rfl⟩
theorem k48_76 : en_d 48 76 (.aload_n 0) 1 77 := ⟨by decide +kernel, rfl⟩
theorem k48_77 : en_dv 48 77 55 false 80 := ⟨61, by decide +kernel, by decide +kernel, rfl, by decide +kernel, by decide +kernel⟩
theorem k48_80 : en_j 48 80 (.ifCond .ne) 83 87 := ⟨7, by decide +kernel, by decide, rfl⟩
theorem k48_83 : en_d 48 83 (.iload_n 2) 1 84 := ⟨by decide +kernel, rfl⟩
theorem k48_84 : en_j 48 84 .goto 87 88 := ⟨4, by decide +kernel, by decide, rfl⟩
theorem k48_87 : en_d 48 87 (.iconst 0) 1 88 := ⟨by decide +kernel, rfl⟩
theorem k48_88 : en_dp 48 88 2 3 false .int 91 := ⟨26, by decide +kernel, by decide +kernel, by decide +kernel, rfl⟩
theorem k48_91 : en_j 48 91 .goto 94 101 := ⟨10, by decide +kernel, by decide, rfl⟩
theorem k48_94 : en_d 48 94 (.aload_n 0) 1 95 := ⟨by decide +kernel, rfl⟩
theorem k48_95 : en_d 48 95 (.iload_n 1) 1 96 := ⟨by decide +kernel, rfl⟩
theorem k48_96 : en_d 48 96 (.aload 4) 2 98 := ⟨by decide +kernel, rfl⟩
theorem k48_98 : en_dv 48 98 51 false 101 := ⟨65, by decide +kernel, by decide +kernel, rfl, by decide +kernel, by decide +kernel⟩
theorem k48_101 : en_d 48 101 .return_ 1 102 := ⟨by decide +kernel, rfl⟩
/-! 49: EndorsedLedger$Run.calculate(I)V -/
theorem k49_0 : en_d 49 0 (.aload_n 0) 1 1 := ⟨by decide +kernel, rfl⟩
theorem k49_1 : en_dv 49 1 55 false 4 := ⟨61, by decide +kernel, by decide +kernel, rfl, by decide +kernel, by decide +kernel⟩
theorem k49_4 : en_d 49 4 (.istore_n 2) 1 5 := ⟨by decide +kernel, rfl⟩
theorem k49_5 : en_d 49 5 (.aload_n 0) 1 6 := ⟨by decide +kernel, rfl⟩
theorem k49_6 : en_dv 49 6 55 false 9 := ⟨61, by decide +kernel, by decide +kernel, rfl, by decide +kernel, by decide +kernel⟩
theorem k49_9 : en_d 49 9 (.istore_n 3) 1 10 := ⟨by decide +kernel, rfl⟩
theorem k49_10 : en_d 49 10 (.iload_n 1) 1 11 := ⟨by decide +kernel, rfl⟩
theorem k49_11 : en_d 49 11 (.iconst 2) 1 12 := ⟨by decide +kernel, rfl⟩
theorem k49_12 : en_j 49 12 (.if_icmp .ne) 15 25 := ⟨13, by decide +kernel, by decide, rfl⟩
theorem k49_15 : en_d 49 15 (.aload_n 0) 1 16 := ⟨by decide +kernel, rfl⟩
theorem k49_16 : en_d 49 16 (.iload_n 3) 1 17 := ⟨by decide +kernel, rfl⟩
theorem k49_17 : en_d 49 17 (.iload_n 2) 1 18 := ⟨by decide +kernel, rfl⟩
theorem k49_18 : en_d 49 18 .iadd 1 19 := ⟨by decide +kernel, rfl⟩
theorem k49_19 : en_dv 49 19 54 false 22 := ⟨51, by decide +kernel, by decide +kernel, rfl, by decide +kernel, by decide +kernel⟩
theorem k49_22 : en_j 49 22 .goto 25 54 := ⟨32, by decide +kernel, by decide, rfl⟩
theorem k49_25 : en_d 49 25 (.iload_n 1) 1 26 := ⟨by decide +kernel, rfl⟩
theorem k49_26 : en_d 49 26 (.iconst 3) 1 27 := ⟨by decide +kernel, rfl⟩
theorem k49_27 : en_j 49 27 (.if_icmp .ne) 30 40 := ⟨13, by decide +kernel, by decide, rfl⟩
theorem k49_30 : en_d 49 30 (.aload_n 0) 1 31 := ⟨by decide +kernel, rfl⟩
theorem k49_31 : en_d 49 31 (.iload_n 3) 1 32 := ⟨by decide +kernel, rfl⟩
theorem k49_32 : en_d 49 32 (.iload_n 2) 1 33 := ⟨by decide +kernel, rfl⟩
theorem k49_33 : en_d 49 33 .isub 1 34 := ⟨by decide +kernel, rfl⟩
theorem k49_34 : en_dv 49 34 54 false 37 := ⟨51, by decide +kernel, by decide +kernel, rfl, by decide +kernel, by decide +kernel⟩
theorem k49_37 : en_j 49 37 .goto 40 54 := ⟨17, by decide +kernel, by decide, rfl⟩
theorem k49_40 : en_d 49 40 (.aload_n 0) 1 41 := ⟨by decide +kernel, rfl⟩
theorem k49_41 : en_d 49 41 (.iload_n 3) 1 42 := ⟨by decide +kernel, rfl⟩
theorem k49_42 : en_d 49 42 (.iload_n 2) 1 43 := ⟨by decide +kernel, rfl⟩
theorem k49_43 : en_j 49 43 (.if_icmp .ge) 46 50 := ⟨7, by decide +kernel, by decide, rfl⟩
theorem k49_46 : en_d 49 46 (.iconst 1) 1 47 := ⟨by decide +kernel, rfl⟩
theorem k49_47 : en_j 49 47 .goto 50 51 := ⟨4, by decide +kernel, by decide, rfl⟩
theorem k49_50 : en_d 49 50 (.iconst 0) 1 51 := ⟨by decide +kernel, rfl⟩
theorem k49_51 : en_dv 49 51 54 false 54 := ⟨51, by decide +kernel, by decide +kernel, rfl, by decide +kernel, by decide +kernel⟩
theorem k49_54 : en_d 49 54 .return_ 1 55 := ⟨by decide +kernel, rfl⟩
/-! 50: EndorsedLedger$Run.duplicateTop()V -/
theorem k50_0 : en_d 50 0 (.aload_n 0) 1 1 := ⟨by decide +kernel, rfl⟩
theorem k50_1 : en_dv 50 1 55 false 4 := ⟨61, by decide +kernel, by decide +kernel, rfl, by decide +kernel, by decide +kernel⟩
theorem k50_4 : en_d 50 4 (.istore_n 1) 1 5 := ⟨by decide +kernel, rfl⟩
theorem k50_5 : en_d 50 5 (.aload_n 0) 1 6 := ⟨by decide +kernel, rfl⟩
theorem k50_6 : en_d 50 6 (.iload_n 1) 1 7 := ⟨by decide +kernel, rfl⟩
theorem k50_7 : en_dv 50 7 54 false 10 := ⟨51, by decide +kernel, by decide +kernel, rfl, by decide +kernel, by decide +kernel⟩
theorem k50_10 : en_d 50 10 (.aload_n 0) 1 11 := ⟨by decide +kernel, rfl⟩
theorem k50_11 : en_d 50 11 (.iload_n 1) 1 12 := ⟨by decide +kernel, rfl⟩
theorem k50_12 : en_dv 50 12 54 false 15 := ⟨51, by decide +kernel, by decide +kernel, rfl, by decide +kernel, by decide +kernel⟩
theorem k50_15 : en_d 50 15 .return_ 1 16 := ⟨by decide +kernel, rfl⟩
/-! 51: EndorsedLedger$Run.touchState(ILEndorsedLedger$WorldState;)V -/
theorem k51_0 : en_d 51 0 (.iload_n 1) 1 1 := ⟨by decide +kernel, rfl⟩
theorem k51_1 : decode (mB 51) 1 = .ok (.tableswitch 84 7 10 #[31, 39, 60, 76], 31) := by decide +kernel
theorem k51_32 : en_d 51 32 (.aload_n 0) 1 33 := ⟨by decide +kernel, rfl⟩
theorem k51_33 : en_d 51 33 (.aload_n 2) 1 34 := ⟨by decide +kernel, rfl⟩
theorem k51_34 : en_dv 51 34 52 false 37 := ⟨69, by decide +kernel, by decide +kernel, rfl, by decide +kernel, by decide +kernel⟩
theorem k51_37 : en_j 51 37 .goto 40 85 := ⟨48, by decide +kernel, by decide, rfl⟩
theorem k51_40 : en_d 51 40 (.aload_n 0) 1 41 := ⟨by decide +kernel, rfl⟩
theorem k51_41 : en_dv 51 41 55 false 44 := ⟨61, by decide +kernel, by decide +kernel, rfl, by decide +kernel, by decide +kernel⟩
theorem k51_44 : en_d 51 44 (.istore_n 3) 1 45 := ⟨by decide +kernel, rfl⟩
theorem k51_45 : en_d 51 45 (.aload_n 0) 1 46 := ⟨by decide +kernel, rfl⟩
theorem k51_46 : en_df 51 46 2 1 false true 49 := ⟨18, by decide +kernel, by decide +kernel, by decide +kernel, rfl⟩
theorem k51_49 : en_d 51 49 (.aload_n 0) 1 50 := ⟨by decide +kernel, rfl⟩
theorem k51_50 : en_dv 51 50 56 false 53 := ⟨73, by decide +kernel, by decide +kernel, rfl, by decide +kernel, by decide +kernel⟩
theorem k51_53 : en_d 51 53 (.iconst 1) 1 54 := ⟨by decide +kernel, rfl⟩
theorem k51_54 : en_d 51 54 (.iload_n 3) 1 55 := ⟨by decide +kernel, rfl⟩
theorem k51_55 : en_dv 51 55 62 true 58 := ⟨76, by decide +kernel, by decide +kernel, rfl, by decide +kernel, by decide +kernel⟩
theorem k51_58 : en_j 51 58 .goto 61 85 := ⟨27, by decide +kernel, by decide, rfl⟩
theorem k51_61 : en_d 51 61 (.aload_n 0) 1 62 := ⟨by decide +kernel, rfl⟩
theorem k51_62 : en_df 51 62 2 1 false true 65 := ⟨18, by decide +kernel, by decide +kernel, by decide +kernel, rfl⟩
theorem k51_65 : en_d 51 65 (.aload_n 0) 1 66 := ⟨by decide +kernel, rfl⟩
theorem k51_66 : en_dv 51 66 56 false 69 := ⟨73, by decide +kernel, by decide +kernel, rfl, by decide +kernel, by decide +kernel⟩
theorem k51_69 : en_d 51 69 (.iconst 2) 1 70 := ⟨by decide +kernel, rfl⟩
theorem k51_70 : en_d 51 70 (.iconst 0) 1 71 := ⟨by decide +kernel, rfl⟩
theorem k51_71 : en_dv 51 71 62 true 74 := ⟨76, by decide +kernel, by decide +kernel, rfl, by decide +kernel, by decide +kernel⟩
theorem k51_74 : en_j 51 74 .goto 77 85 := ⟨11, by decide +kernel, by decide, rfl⟩
theorem k51_77 : en_d 51 77 (.aload_n 0) 1 78 := ⟨by decide +kernel, rfl⟩
theorem k51_78 : en_d 51 78 (.aload_n 2) 1 79 := ⟨by decide +kernel, rfl⟩
theorem k51_79 : en_dv 51 79 53 false 82 := ⟨80, by decide +kernel, by decide +kernel, rfl, by decide +kernel, by decide +kernel⟩
theorem k51_82 : en_j 51 82 .goto 85 85 := ⟨3, by decide +kernel, by decide, rfl⟩
theorem k51_85 : en_d 51 85 .return_ 1 86 := ⟨by decide +kernel, rfl⟩
/-! 52: EndorsedLedger$Run.readKey(LEndorsedLedger$WorldState;)V -/
theorem k52_0 : en_d 52 0 (.aload_n 0) 1 1 := ⟨by decide +kernel, rfl⟩
theorem k52_1 : en_dv 52 1 56 false 4 := ⟨73, by decide +kernel, by decide +kernel, rfl, by decide +kernel, by decide +kernel⟩
theorem k52_4 : en_d 52 4 (.istore_n 2) 1 5 := ⟨by decide +kernel, rfl⟩
theorem k52_5 : en_d 52 5 (.aload_n 0) 1 6 := ⟨by decide +kernel, rfl⟩
theorem k52_6 : en_df 52 6 2 1 false true 9 := ⟨18, by decide +kernel, by decide +kernel, by decide +kernel, rfl⟩
theorem k52_9 : en_d 52 9 (.iconst 0) 1 10 := ⟨by decide +kernel, rfl⟩
theorem k52_10 : en_d 52 10 (.iload_n 2) 1 11 := ⟨by decide +kernel, rfl⟩
theorem k52_11 : en_d 52 11 (.aload_n 1) 1 12 := ⟨by decide +kernel, rfl⟩
theorem k52_12 : en_df 52 12 8 0 true true 15 := ⟨83, by decide +kernel, by decide +kernel, by decide +kernel, rfl⟩
theorem k52_15 : en_d 52 15 (.iload_n 2) 1 16 := ⟨by decide +kernel, rfl⟩
theorem k52_16 : en_d 52 16 .iaload 1 17 := ⟨by decide +kernel, rfl⟩
theorem k52_17 : en_dv 52 17 61 true 20 := ⟨88, by decide +kernel, by decide +kernel, rfl, by decide +kernel, by decide +kernel⟩
theorem k52_20 : en_d 52 20 (.aload_n 0) 1 21 := ⟨by decide +kernel, rfl⟩
theorem k52_21 : en_d 52 21 (.aload_n 1) 1 22 := ⟨by decide +kernel, rfl⟩
theorem k52_22 : en_df 52 22 8 1 true true 25 := ⟨91, by decide +kernel, by decide +kernel, by decide +kernel, rfl⟩
theorem k52_25 : en_d 52 25 (.iload_n 2) 1 26 := ⟨by decide +kernel, rfl⟩
theorem k52_26 : en_d 52 26 .iaload 1 27 := ⟨by decide +kernel, rfl⟩
theorem k52_27 : en_dv 52 27 54 false 30 := ⟨51, by decide +kernel, by decide +kernel, rfl, by decide +kernel, by decide +kernel⟩
theorem k52_30 : en_d 52 30 .return_ 1 31 := ⟨by decide +kernel, rfl⟩
/-! 53: EndorsedLedger$Run.addUp(LEndorsedLedger$WorldState;)V -/
theorem k53_0 : en_d 53 0 (.aload_n 0) 1 1 := ⟨by decide +kernel, rfl⟩
theorem k53_1 : en_dv 53 1 56 false 4 := ⟨73, by decide +kernel, by decide +kernel, rfl, by decide +kernel, by decide +kernel⟩
theorem k53_4 : en_d 53 4 (.istore_n 2) 1 5 := ⟨by decide +kernel, rfl⟩
theorem k53_5 : en_d 53 5 (.aload_n 0) 1 6 := ⟨by decide +kernel, rfl⟩
theorem k53_6 : en_dv 53 6 56 false 9 := ⟨73, by decide +kernel, by decide +kernel, rfl, by decide +kernel, by decide +kernel⟩
theorem k53_9 : en_d 53 9 (.istore_n 3) 1 10 := ⟨by decide +kernel, rfl⟩
theorem k53_10 : en_d 53 10 (.aload_n 0) 1 11 := ⟨by decide +kernel, rfl⟩
theorem k53_11 : en_df 53 11 2 1 false true 14 := ⟨18, by decide +kernel, by decide +kernel, by decide +kernel, rfl⟩
theorem k53_14 : en_df 53 14 3 1 true false 17 := ⟨94, by decide +kernel, by decide +kernel, by decide +kernel, rfl⟩
theorem k53_17 : en_d 53 17 (.iconst 2) 1 18 := ⟨by decide +kernel, rfl⟩
theorem k53_18 : en_j 53 18 (.if_icmp .lt) 21 27 := ⟨9, by decide +kernel, by decide, rfl⟩
theorem k53_21 : en_d 53 21 (.aload_n 0) 1 22 := ⟨by decide +kernel, rfl⟩
theorem k53_22 : en_d 53 22 (.iconst 1) 1 23 := ⟨by decide +kernel, rfl⟩
theorem k53_23 : en_dp 53 23 2 4 false .boolean 26 := ⟨29, by decide +kernel, by decide +kernel, by decide +kernel, rfl⟩
theorem k53_26 : en_d 53 26 .return_ 1 27 := ⟨by decide +kernel, rfl⟩
theorem k53_27 : en_d 53 27 (.iconst 0) 1 28 := ⟨by decide +kernel, rfl⟩
theorem k53_28 : en_d 53 28 (.istore 4) 2 30 := ⟨by decide +kernel, rfl⟩
theorem k53_30 : en_d 53 30 (.iload_n 3) 1 31 := ⟨by decide +kernel, rfl⟩
theorem k53_31 : en_d 53 31 (.istore 5) 2 33 := ⟨by decide +kernel, rfl⟩
theorem k53_33 : en_d 53 33 (.iload 5) 2 35 := ⟨by decide +kernel, rfl⟩
theorem k53_35 : en_d 53 35 (.iload_n 2) 1 36 := ⟨by decide +kernel, rfl⟩
theorem k53_36 : en_j 53 36 (.if_icmp .gt) 39 82 := ⟨46, by decide +kernel, by decide, rfl⟩
theorem k53_39 : en_d 53 39 (.aload_n 0) 1 40 := ⟨by decide +kernel, rfl⟩
theorem k53_40 : en_df 53 40 2 1 false true 43 := ⟨18, by decide +kernel, by decide +kernel, by decide +kernel, rfl⟩
theorem k53_43 : en_d 53 43 (.iconst 1) 1 44 := ⟨by decide +kernel, rfl⟩
theorem k53_44 : en_d 53 44 (.aload_n 0) 1 45 := ⟨by decide +kernel, rfl⟩
theorem k53_45 : en_df 53 45 2 1 false true 48 := ⟨18, by decide +kernel, by decide +kernel, by decide +kernel, rfl⟩
theorem k53_48 : en_df 53 48 3 1 true false 51 := ⟨94, by decide +kernel, by decide +kernel, by decide +kernel, rfl⟩
theorem k53_51 : en_d 53 51 .iadd 1 52 := ⟨by decide +kernel, rfl⟩
theorem k53_52 : en_d 53 52 (.iload 5) 2 54 := ⟨by decide +kernel, rfl⟩
theorem k53_54 : en_d 53 54 (.aload_n 1) 1 55 := ⟨by decide +kernel, rfl⟩
theorem k53_55 : en_df 53 55 8 0 true true 58 := ⟨83, by decide +kernel, by decide +kernel, by decide +kernel, rfl⟩
theorem k53_58 : en_d 53 58 (.iload 5) 2 60 := ⟨by decide +kernel, rfl⟩
theorem k53_60 : en_d 53 60 .iaload 1 61 := ⟨by decide +kernel, rfl⟩
theorem k53_61 : en_dv 53 61 61 true 64 := ⟨88, by decide +kernel, by decide +kernel, rfl, by decide +kernel, by decide +kernel⟩
theorem k53_64 : en_d 53 64 (.iload 4) 2 66 := ⟨by decide +kernel, rfl⟩
theorem k53_66 : en_d 53 66 (.aload_n 1) 1 67 := ⟨by decide +kernel, rfl⟩
theorem k53_67 : en_df 53 67 8 1 true true 70 := ⟨91, by decide +kernel, by decide +kernel, by decide +kernel, rfl⟩
theorem k53_70 : en_d 53 70 (.iload 5) 2 72 := ⟨by decide +kernel, rfl⟩
theorem k53_72 : en_d 53 72 .iaload 1 73 := ⟨by decide +kernel, rfl⟩
theorem k53_73 : en_d 53 73 .iadd 1 74 := ⟨by decide +kernel, rfl⟩
theorem k53_74 : en_d 53 74 (.istore 4) 2 76 := ⟨by decide +kernel, rfl⟩
theorem k53_76 : en_d 53 76 (.iinc 5 1) 3 79 := ⟨by decide +kernel, rfl⟩
theorem k53_79 : en_j 53 79 .goto 82 33 := ⟨(-46), by decide +kernel, by decide, rfl⟩
theorem k53_82 : en_d 53 82 (.aload_n 0) 1 83 := ⟨by decide +kernel, rfl⟩
theorem k53_83 : en_df 53 83 2 1 false true 86 := ⟨18, by decide +kernel, by decide +kernel, by decide +kernel, rfl⟩
theorem k53_86 : en_d 53 86 .dup 1 87 := ⟨by decide +kernel, rfl⟩
theorem k53_87 : en_df 53 87 3 1 true false 90 := ⟨94, by decide +kernel, by decide +kernel, by decide +kernel, rfl⟩
theorem k53_90 : en_d 53 90 (.iconst 1) 1 91 := ⟨by decide +kernel, rfl⟩
theorem k53_91 : en_d 53 91 .iadd 1 92 := ⟨by decide +kernel, rfl⟩
theorem k53_92 : en_dp 53 92 3 1 true .int 95 := ⟨94, by decide +kernel, by decide +kernel, by decide +kernel, rfl⟩
theorem k53_95 : en_d 53 95 (.aload_n 0) 1 96 := ⟨by decide +kernel, rfl⟩
theorem k53_96 : en_d 53 96 (.iload 4) 2 98 := ⟨by decide +kernel, rfl⟩
theorem k53_98 : en_dv 53 98 54 false 101 := ⟨51, by decide +kernel, by decide +kernel, rfl, by decide +kernel, by decide +kernel⟩
theorem k53_101 : en_d 53 101 .return_ 1 102 := ⟨by decide +kernel, rfl⟩
/-! 54: EndorsedLedger$Run.push(I)V -/
theorem k54_0 : en_d 54 0 (.aload_n 0) 1 1 := ⟨by decide +kernel, rfl⟩
theorem k54_1 : en_df 54 1 2 2 false false 4 := ⟨22, by decide +kernel, by decide +kernel, by decide +kernel, rfl⟩
theorem k54_4 : en_d 54 4 (.bipush 8) 2 6 := ⟨by decide +kernel, rfl⟩
theorem k54_6 : en_j 54 6 (.if_icmp .lt) 9 15 := ⟨9, by decide +kernel, by decide, rfl⟩
theorem k54_9 : en_d 54 9 (.aload_n 0) 1 10 := ⟨by decide +kernel, rfl⟩
theorem k54_10 : en_d 54 10 (.iconst 1) 1 11 := ⟨by decide +kernel, rfl⟩
theorem k54_11 : en_dp 54 11 2 4 false .boolean 14 := ⟨29, by decide +kernel, by decide +kernel, by decide +kernel, rfl⟩
theorem k54_14 : en_d 54 14 .return_ 1 15 := ⟨by decide +kernel, rfl⟩
theorem k54_15 : en_d 54 15 (.aload_n 0) 1 16 := ⟨by decide +kernel, rfl⟩
theorem k54_16 : en_df 54 16 2 0 false true 19 := ⟨9, by decide +kernel, by decide +kernel, by decide +kernel, rfl⟩
theorem k54_19 : en_d 54 19 (.aload_n 0) 1 20 := ⟨by decide +kernel, rfl⟩
theorem k54_20 : en_df 54 20 2 2 false false 23 := ⟨22, by decide +kernel, by decide +kernel, by decide +kernel, rfl⟩
theorem k54_23 : en_d 54 23 (.iload_n 1) 1 24 := ⟨by decide +kernel, rfl⟩
theorem k54_24 : en_d 54 24 .iastore 1 25 := ⟨by decide +kernel, rfl⟩
theorem k54_25 : en_d 54 25 (.aload_n 0) 1 26 := ⟨by decide +kernel, rfl⟩
theorem k54_26 : en_d 54 26 .dup 1 27 := ⟨by decide +kernel, rfl⟩
theorem k54_27 : en_df 54 27 2 2 false false 30 := ⟨22, by decide +kernel, by decide +kernel, by decide +kernel, rfl⟩
theorem k54_30 : en_d 54 30 (.iconst 1) 1 31 := ⟨by decide +kernel, rfl⟩
theorem k54_31 : en_d 54 31 .iadd 1 32 := ⟨by decide +kernel, rfl⟩
theorem k54_32 : en_dp 54 32 2 2 false .int 35 := ⟨22, by decide +kernel, by decide +kernel, by decide +kernel, rfl⟩
theorem k54_35 : en_d 54 35 .return_ 1 36 := ⟨by decide +kernel, rfl⟩
/-! 55: EndorsedLedger$Run.pop()I -/
theorem k55_0 : en_d 55 0 (.aload_n 0) 1 1 := ⟨by decide +kernel, rfl⟩
theorem k55_1 : en_df 55 1 2 2 false false 4 := ⟨22, by decide +kernel, by decide +kernel, by decide +kernel, rfl⟩
theorem k55_4 : en_j 55 4 (.ifCond .gt) 7 14 := ⟨10, by decide +kernel, by decide, rfl⟩
theorem k55_7 : en_d 55 7 (.aload_n 0) 1 8 := ⟨by decide +kernel, rfl⟩
theorem k55_8 : en_d 55 8 (.iconst 1) 1 9 := ⟨by decide +kernel, rfl⟩
theorem k55_9 : en_dp 55 9 2 4 false .boolean 12 := ⟨29, by decide +kernel, by decide +kernel, by decide +kernel, rfl⟩
theorem k55_12 : en_d 55 12 (.iconst 0) 1 13 := ⟨by decide +kernel, rfl⟩
theorem k55_13 : en_d 55 13 .ireturn 1 14 := ⟨by decide +kernel, rfl⟩
theorem k55_14 : en_d 55 14 (.aload_n 0) 1 15 := ⟨by decide +kernel, rfl⟩
theorem k55_15 : en_d 55 15 .dup 1 16 := ⟨by decide +kernel, rfl⟩
theorem k55_16 : en_df 55 16 2 2 false false 19 := ⟨22, by decide +kernel, by decide +kernel, by decide +kernel, rfl⟩
theorem k55_19 : en_d 55 19 (.iconst 1) 1 20 := ⟨by decide +kernel, rfl⟩
theorem k55_20 : en_d 55 20 .isub 1 21 := ⟨by decide +kernel, rfl⟩
theorem k55_21 : en_dp 55 21 2 2 false .int 24 := ⟨22, by decide +kernel, by decide +kernel, by decide +kernel, rfl⟩
theorem k55_24 : en_d 55 24 (.aload_n 0) 1 25 := ⟨by decide +kernel, rfl⟩
theorem k55_25 : en_df 55 25 2 0 false true 28 := ⟨9, by decide +kernel, by decide +kernel, by decide +kernel, rfl⟩
theorem k55_28 : en_d 55 28 (.aload_n 0) 1 29 := ⟨by decide +kernel, rfl⟩
theorem k55_29 : en_df 55 29 2 2 false false 32 := ⟨22, by decide +kernel, by decide +kernel, by decide +kernel, rfl⟩
theorem k55_32 : en_d 55 32 .iaload 1 33 := ⟨by decide +kernel, rfl⟩
theorem k55_33 : en_d 55 33 .ireturn 1 34 := ⟨by decide +kernel, rfl⟩
/-! 56: EndorsedLedger$Run.popKey()I -/
theorem k56_0 : en_d 56 0 (.aload_n 0) 1 1 := ⟨by decide +kernel, rfl⟩
theorem k56_1 : en_dv 56 1 55 false 4 := ⟨61, by decide +kernel, by decide +kernel, rfl, by decide +kernel, by decide +kernel⟩
theorem k56_4 : en_d 56 4 (.bipush 15) 2 6 := ⟨by decide +kernel, rfl⟩
theorem k56_6 : en_d 56 6 .iand 1 7 := ⟨by decide +kernel, rfl⟩
theorem k56_7 : en_d 56 7 .ireturn 1 8 := ⟨by decide +kernel, rfl⟩
/-! 57: EndorsedLedger$Result.<init>()V -/
theorem k57_0 : en_d 57 0 (.aload_n 0) 1 1 := ⟨by decide +kernel, rfl⟩
theorem k57_1 : en_dn 57 1 6 4 := ⟨3, by decide +kernel, by decide +kernel, rfl, by decide +kernel, by decide +kernel⟩
theorem k57_4 : en_d 57 4 (.aload_n 0) 1 5 := ⟨by decide +kernel, rfl⟩
theorem k57_5 : en_d 57 5 (.bipush 80) 2 7 := ⟨by decide +kernel, rfl⟩
theorem k57_7 : en_d 57 7 (.newarray .int) 2 9 := ⟨by decide +kernel, rfl⟩
theorem k57_9 : en_dp 57 9 3 0 false (.array .int) 12 := ⟨11, by decide +kernel, by decide +kernel, by decide +kernel, rfl⟩
theorem k57_12 : en_d 57 12 (.aload_n 0) 1 13 := ⟨by decide +kernel, rfl⟩
theorem k57_13 : en_d 57 13 (.iconst 0) 1 14 := ⟨by decide +kernel, rfl⟩
theorem k57_14 : en_dp 57 14 3 1 false .int 17 := ⟨15, by decide +kernel, by decide +kernel, by decide +kernel, rfl⟩
theorem k57_17 : en_d 57 17 (.aload_n 0) 1 18 := ⟨by decide +kernel, rfl⟩
theorem k57_18 : en_dv 57 18 58 false 21 := ⟨19, by decide +kernel, by decide +kernel, rfl, by decide +kernel, by decide +kernel⟩
theorem k57_21 : en_d 57 21 .return_ 1 22 := ⟨by decide +kernel, rfl⟩
/-! 58: EndorsedLedger$Result.clear()V -/
theorem k58_0 : en_d 58 0 (.iconst 0) 1 1 := ⟨by decide +kernel, rfl⟩
theorem k58_1 : en_d 58 1 (.istore_n 1) 1 2 := ⟨by decide +kernel, rfl⟩
theorem k58_2 : en_d 58 2 (.iload_n 1) 1 3 := ⟨by decide +kernel, rfl⟩
theorem k58_3 : en_d 58 3 (.bipush 80) 2 5 := ⟨by decide +kernel, rfl⟩
theorem k58_5 : en_j 58 5 (.if_icmp .ge) 8 31 := ⟨26, by decide +kernel, by decide, rfl⟩
theorem k58_8 : en_d 58 8 (.aload_n 0) 1 9 := ⟨by decide +kernel, rfl⟩
theorem k58_9 : en_df 58 9 3 0 false true 12 := ⟨11, by decide +kernel, by decide +kernel, by decide +kernel, rfl⟩
theorem k58_12 : en_d 58 12 (.iload_n 1) 1 13 := ⟨by decide +kernel, rfl⟩
theorem k58_13 : en_d 58 13 (.iload_n 1) 1 14 := ⟨by decide +kernel, rfl⟩
theorem k58_14 : en_d 58 14 (.bipush 48) 2 16 := ⟨by decide +kernel, rfl⟩
theorem k58_16 : en_j 58 16 (.if_icmp .ge) 19 23 := ⟨7, by decide +kernel, by decide, rfl⟩
theorem k58_19 : en_d 58 19 (.iconst (-1)) 1 20 := ⟨by decide +kernel, rfl⟩
theorem k58_20 : en_j 58 20 .goto 23 24 := ⟨4, by decide +kernel, by decide, rfl⟩
theorem k58_23 : en_d 58 23 (.iconst 0) 1 24 := ⟨by decide +kernel, rfl⟩
theorem k58_24 : en_d 58 24 .iastore 1 25 := ⟨by decide +kernel, rfl⟩
theorem k58_25 : en_d 58 25 (.iinc 1 1) 3 28 := ⟨by decide +kernel, rfl⟩
theorem k58_28 : en_j 58 28 .goto 31 2 := ⟨(-26), by decide +kernel, by decide, rfl⟩
theorem k58_31 : en_d 58 31 (.aload_n 0) 1 32 := ⟨by decide +kernel, rfl⟩
theorem k58_32 : en_d 58 32 (.iconst 0) 1 33 := ⟨by decide +kernel, rfl⟩
theorem k58_33 : en_dp 58 33 3 1 false .int 36 := ⟨15, by decide +kernel, by decide +kernel, by decide +kernel, rfl⟩
theorem k58_36 : en_d 58 36 .return_ 1 37 := ⟨by decide +kernel, rfl⟩
/-! 59: EndorsedLedger$Result.become(LEndorsedLedger$Result;)V -/
theorem k59_0 : en_d 59 0 (.aload_n 1) 1 1 := ⟨by decide +kernel, rfl⟩
theorem k59_1 : en_df 59 1 3 0 false true 4 := ⟨11, by decide +kernel, by decide +kernel, by decide +kernel, rfl⟩
theorem k59_4 : en_d 59 4 (.iconst 0) 1 5 := ⟨by decide +kernel, rfl⟩
theorem k59_5 : en_d 59 5 (.aload_n 0) 1 6 := ⟨by decide +kernel, rfl⟩
theorem k59_6 : en_df 59 6 3 0 false true 9 := ⟨11, by decide +kernel, by decide +kernel, by decide +kernel, rfl⟩
theorem k59_9 : en_d 59 9 (.iconst 0) 1 10 := ⟨by decide +kernel, rfl⟩
theorem k59_10 : en_d 59 10 (.bipush 80) 2 12 := ⟨by decide +kernel, rfl⟩
theorem k59_12 : en_dn 59 12 9 15 := ⟨22, by decide +kernel, by decide +kernel, rfl, by decide +kernel, by decide +kernel⟩
theorem k59_15 : en_d 59 15 (.aload_n 0) 1 16 := ⟨by decide +kernel, rfl⟩
theorem k59_16 : en_d 59 16 (.aload_n 1) 1 17 := ⟨by decide +kernel, rfl⟩
theorem k59_17 : en_df 59 17 3 1 false false 20 := ⟨15, by decide +kernel, by decide +kernel, by decide +kernel, rfl⟩
theorem k59_20 : en_dp 59 20 3 1 false .int 23 := ⟨15, by decide +kernel, by decide +kernel, by decide +kernel, rfl⟩
theorem k59_23 : en_d 59 23 .return_ 1 24 := ⟨by decide +kernel, rfl⟩
/-! 60: EndorsedLedger$Result.isSame(LEndorsedLedger$Result;)Z -/
theorem k60_0 : en_d 60 0 (.iconst 0) 1 1 := ⟨by decide +kernel, rfl⟩
theorem k60_1 : en_d 60 1 (.istore_n 2) 1 2 := ⟨by decide +kernel, rfl⟩
theorem k60_2 : en_d 60 2 (.iload_n 2) 1 3 := ⟨by decide +kernel, rfl⟩
theorem k60_3 : en_d 60 3 (.bipush 80) 2 5 := ⟨by decide +kernel, rfl⟩
theorem k60_5 : en_j 60 5 (.if_icmp .ge) 8 31 := ⟨26, by decide +kernel, by decide, rfl⟩
theorem k60_8 : en_d 60 8 (.aload_n 0) 1 9 := ⟨by decide +kernel, rfl⟩
theorem k60_9 : en_df 60 9 3 0 false true 12 := ⟨11, by decide +kernel, by decide +kernel, by decide +kernel, rfl⟩
theorem k60_12 : en_d 60 12 (.iload_n 2) 1 13 := ⟨by decide +kernel, rfl⟩
theorem k60_13 : en_d 60 13 .iaload 1 14 := ⟨by decide +kernel, rfl⟩
theorem k60_14 : en_d 60 14 (.aload_n 1) 1 15 := ⟨by decide +kernel, rfl⟩
theorem k60_15 : en_df 60 15 3 0 false true 18 := ⟨11, by decide +kernel, by decide +kernel, by decide +kernel, rfl⟩
theorem k60_18 : en_d 60 18 (.iload_n 2) 1 19 := ⟨by decide +kernel, rfl⟩
theorem k60_19 : en_d 60 19 .iaload 1 20 := ⟨by decide +kernel, rfl⟩
theorem k60_20 : en_j 60 20 (.if_icmp .eq) 23 25 := ⟨5, by decide +kernel, by decide, rfl⟩
theorem k60_23 : en_d 60 23 (.iconst 0) 1 24 := ⟨by decide +kernel, rfl⟩
theorem k60_24 : en_d 60 24 .ireturn 1 25 := ⟨by decide +kernel, rfl⟩
theorem k60_25 : en_d 60 25 (.iinc 2 1) 3 28 := ⟨by decide +kernel, rfl⟩
theorem k60_28 : en_j 60 28 .goto 31 2 := ⟨(-26), by decide +kernel, by decide, rfl⟩
theorem k60_31 : en_d 60 31 (.aload_n 0) 1 32 := ⟨by decide +kernel, rfl⟩
theorem k60_32 : en_df 60 32 3 1 false false 35 := ⟨15, by decide +kernel, by decide +kernel, by decide +kernel, rfl⟩
theorem k60_35 : en_d 60 35 (.aload_n 1) 1 36 := ⟨by decide +kernel, rfl⟩
theorem k60_36 : en_df 60 36 3 1 false false 39 := ⟨15, by decide +kernel, by decide +kernel, by decide +kernel, rfl⟩
theorem k60_39 : en_j 60 39 (.if_icmp .ne) 42 46 := ⟨7, by decide +kernel, by decide, rfl⟩
theorem k60_42 : en_d 60 42 (.iconst 1) 1 43 := ⟨by decide +kernel, rfl⟩
theorem k60_43 : en_j 60 43 .goto 46 47 := ⟨4, by decide +kernel, by decide, rfl⟩
theorem k60_46 : en_d 60 46 (.iconst 0) 1 47 := ⟨by decide +kernel, rfl⟩
theorem k60_47 : en_d 60 47 .ireturn 1 48 := ⟨by decide +kernel, rfl⟩
/-! 61: EndorsedLedger$Result.read(III)V -/
theorem k61_0 : en_d 61 0 (.aload_n 0) 1 1 := ⟨by decide +kernel, rfl⟩
theorem k61_1 : en_df 61 1 3 0 false true 4 := ⟨11, by decide +kernel, by decide +kernel, by decide +kernel, rfl⟩
theorem k61_4 : en_d 61 4 (.iload_n 1) 1 5 := ⟨by decide +kernel, rfl⟩
theorem k61_5 : en_d 61 5 (.bipush 16) 2 7 := ⟨by decide +kernel, rfl⟩
theorem k61_7 : en_d 61 7 .imul 1 8 := ⟨by decide +kernel, rfl⟩
theorem k61_8 : en_d 61 8 (.iload_n 2) 1 9 := ⟨by decide +kernel, rfl⟩
theorem k61_9 : en_d 61 9 .iadd 1 10 := ⟨by decide +kernel, rfl⟩
theorem k61_10 : en_d 61 10 (.iload_n 3) 1 11 := ⟨by decide +kernel, rfl⟩
theorem k61_11 : en_d 61 11 .iastore 1 12 := ⟨by decide +kernel, rfl⟩
theorem k61_12 : en_d 61 12 .return_ 1 13 := ⟨by decide +kernel, rfl⟩
/-! 62: EndorsedLedger$Result.write(III)V -/
theorem k62_0 : en_d 62 0 (.aload_n 0) 1 1 := ⟨by decide +kernel, rfl⟩
theorem k62_1 : en_df 62 1 3 0 false true 4 := ⟨11, by decide +kernel, by decide +kernel, by decide +kernel, rfl⟩
theorem k62_4 : en_d 62 4 (.bipush 48) 2 6 := ⟨by decide +kernel, rfl⟩
theorem k62_6 : en_d 62 6 (.iload_n 1) 1 7 := ⟨by decide +kernel, rfl⟩
theorem k62_7 : en_d 62 7 .iadd 1 8 := ⟨by decide +kernel, rfl⟩
theorem k62_8 : en_d 62 8 (.iload_n 2) 1 9 := ⟨by decide +kernel, rfl⟩
theorem k62_9 : en_d 62 9 .iastore 1 10 := ⟨by decide +kernel, rfl⟩
theorem k62_10 : en_d 62 10 (.aload_n 0) 1 11 := ⟨by decide +kernel, rfl⟩
theorem k62_11 : en_df 62 11 3 0 false true 14 := ⟨11, by decide +kernel, by decide +kernel, by decide +kernel, rfl⟩
theorem k62_14 : en_d 62 14 (.bipush 64) 2 16 := ⟨by decide +kernel, rfl⟩
theorem k62_16 : en_d 62 16 (.iload_n 1) 1 17 := ⟨by decide +kernel, rfl⟩
theorem k62_17 : en_d 62 17 .iadd 1 18 := ⟨by decide +kernel, rfl⟩
theorem k62_18 : en_d 62 18 (.iload_n 3) 1 19 := ⟨by decide +kernel, rfl⟩
theorem k62_19 : en_d 62 19 .iastore 1 20 := ⟨by decide +kernel, rfl⟩
theorem k62_20 : en_d 62 20 .return_ 1 21 := ⟨by decide +kernel, rfl⟩
/-! 63: EndorsedLedger$Result.readCount()I -/
theorem k63_0 : en_d 63 0 (.aload_n 0) 1 1 := ⟨by decide +kernel, rfl⟩
theorem k63_1 : en_d 63 1 (.iconst 0) 1 2 := ⟨by decide +kernel, rfl⟩
theorem k63_2 : en_d 63 2 (.iconst (-1)) 1 3 := ⟨by decide +kernel, rfl⟩
theorem k63_3 : en_dv 63 3 65 false 6 := ⟨28, by decide +kernel, by decide +kernel, rfl, by decide +kernel, by decide +kernel⟩
theorem k63_6 : en_d 63 6 .ireturn 1 7 := ⟨by decide +kernel, rfl⟩
/-! 64: EndorsedLedger$Result.writtenCount()I -/
theorem k64_0 : en_d 64 0 (.aload_n 0) 1 1 := ⟨by decide +kernel, rfl⟩
theorem k64_1 : en_d 64 1 (.iconst 3) 1 2 := ⟨by decide +kernel, rfl⟩
theorem k64_2 : en_d 64 2 (.iconst 0) 1 3 := ⟨by decide +kernel, rfl⟩
theorem k64_3 : en_dv 64 3 65 false 6 := ⟨28, by decide +kernel, by decide +kernel, rfl, by decide +kernel, by decide +kernel⟩
theorem k64_6 : en_d 64 6 .ireturn 1 7 := ⟨by decide +kernel, rfl⟩
/-! 65: EndorsedLedger$Result.countOtherThan(II)I -/
theorem k65_0 : en_d 65 0 (.iconst 0) 1 1 := ⟨by decide +kernel, rfl⟩
theorem k65_1 : en_d 65 1 (.istore_n 3) 1 2 := ⟨by decide +kernel, rfl⟩
theorem k65_2 : en_d 65 2 (.iconst 0) 1 3 := ⟨by decide +kernel, rfl⟩
theorem k65_3 : en_d 65 3 (.istore 4) 2 5 := ⟨by decide +kernel, rfl⟩
theorem k65_5 : en_d 65 5 (.iload 4) 2 7 := ⟨by decide +kernel, rfl⟩
theorem k65_7 : en_d 65 7 (.bipush 16) 2 9 := ⟨by decide +kernel, rfl⟩
theorem k65_9 : en_j 65 9 (.if_icmp .ge) 12 37 := ⟨28, by decide +kernel, by decide, rfl⟩
theorem k65_12 : en_d 65 12 (.aload_n 0) 1 13 := ⟨by decide +kernel, rfl⟩
theorem k65_13 : en_df 65 13 3 0 false true 16 := ⟨11, by decide +kernel, by decide +kernel, by decide +kernel, rfl⟩
theorem k65_16 : en_d 65 16 (.iload_n 1) 1 17 := ⟨by decide +kernel, rfl⟩
theorem k65_17 : en_d 65 17 (.bipush 16) 2 19 := ⟨by decide +kernel, rfl⟩
theorem k65_19 : en_d 65 19 .imul 1 20 := ⟨by decide +kernel, rfl⟩
theorem k65_20 : en_d 65 20 (.iload 4) 2 22 := ⟨by decide +kernel, rfl⟩
theorem k65_22 : en_d 65 22 .iadd 1 23 := ⟨by decide +kernel, rfl⟩
theorem k65_23 : en_d 65 23 .iaload 1 24 := ⟨by decide +kernel, rfl⟩
theorem k65_24 : en_d 65 24 (.iload_n 2) 1 25 := ⟨by decide +kernel, rfl⟩
theorem k65_25 : en_j 65 25 (.if_icmp .eq) 28 31 := ⟨6, by decide +kernel, by decide, rfl⟩
theorem k65_28 : en_d 65 28 (.iinc 3 1) 3 31 := ⟨by decide +kernel, rfl⟩
theorem k65_31 : en_d 65 31 (.iinc 4 1) 3 34 := ⟨by decide +kernel, rfl⟩
theorem k65_34 : en_j 65 34 .goto 37 5 := ⟨(-29), by decide +kernel, by decide, rfl⟩
theorem k65_37 : en_d 65 37 (.iload_n 3) 1 38 := ⟨by decide +kernel, rfl⟩
theorem k65_38 : en_d 65 38 .ireturn 1 39 := ⟨by decide +kernel, rfl⟩
/-! 66: EndorsedLedger$Result.readsHold(LEndorsedLedger$WorldState;)Z -/
theorem k66_0 : en_d 66 0 (.aload_n 0) 1 1 := ⟨by decide +kernel, rfl⟩
theorem k66_1 : en_d 66 1 (.iconst 0) 1 2 := ⟨by decide +kernel, rfl⟩
theorem k66_2 : en_d 66 2 (.aload_n 1) 1 3 := ⟨by decide +kernel, rfl⟩
theorem k66_3 : en_dv 66 3 68 false 6 := ⟨32, by decide +kernel, by decide +kernel, rfl, by decide +kernel, by decide +kernel⟩
theorem k66_6 : en_d 66 6 .ireturn 1 7 := ⟨by decide +kernel, rfl⟩
/-! 67: EndorsedLedger$Result.rangesHold(LEndorsedLedger$WorldState;)Z -/
theorem k67_0 : en_d 67 0 (.aload_n 0) 1 1 := ⟨by decide +kernel, rfl⟩
theorem k67_1 : en_d 67 1 (.iconst 1) 1 2 := ⟨by decide +kernel, rfl⟩
theorem k67_2 : en_d 67 2 (.aload_n 1) 1 3 := ⟨by decide +kernel, rfl⟩
theorem k67_3 : en_dv 67 3 68 false 6 := ⟨32, by decide +kernel, by decide +kernel, rfl, by decide +kernel, by decide +kernel⟩
theorem k67_6 : en_j 67 6 (.ifCond .eq) 9 22 := ⟨16, by decide +kernel, by decide, rfl⟩
theorem k67_9 : en_d 67 9 (.aload_n 0) 1 10 := ⟨by decide +kernel, rfl⟩
theorem k67_10 : en_d 67 10 (.iconst 2) 1 11 := ⟨by decide +kernel, rfl⟩
theorem k67_11 : en_d 67 11 (.aload_n 1) 1 12 := ⟨by decide +kernel, rfl⟩
theorem k67_12 : en_dv 67 12 68 false 15 := ⟨32, by decide +kernel, by decide +kernel, rfl, by decide +kernel, by decide +kernel⟩
theorem k67_15 : en_j 67 15 (.ifCond .eq) 18 22 := ⟨7, by decide +kernel, by decide, rfl⟩
theorem k67_18 : en_d 67 18 (.iconst 1) 1 19 := ⟨by decide +kernel, rfl⟩
theorem k67_19 : en_j 67 19 .goto 22 23 := ⟨4, by decide +kernel, by decide, rfl⟩
theorem k67_22 : en_d 67 22 (.iconst 0) 1 23 := ⟨by decide +kernel, rfl⟩
theorem k67_23 : en_d 67 23 .ireturn 1 24 := ⟨by decide +kernel, rfl⟩
/-! 68: EndorsedLedger$Result.versionsHold(ILEndorsedLedger$WorldState;)Z -/
theorem k68_0 : en_d 68 0 (.iconst 0) 1 1 := ⟨by decide +kernel, rfl⟩
theorem k68_1 : en_d 68 1 (.istore_n 3) 1 2 := ⟨by decide +kernel, rfl⟩
theorem k68_2 : en_d 68 2 (.iload_n 3) 1 3 := ⟨by decide +kernel, rfl⟩
theorem k68_3 : en_d 68 3 (.bipush 16) 2 5 := ⟨by decide +kernel, rfl⟩
theorem k68_5 : en_j 68 5 (.if_icmp .ge) 8 46 := ⟨41, by decide +kernel, by decide, rfl⟩
theorem k68_8 : en_d 68 8 (.aload_n 0) 1 9 := ⟨by decide +kernel, rfl⟩
theorem k68_9 : en_df 68 9 3 0 false true 12 := ⟨11, by decide +kernel, by decide +kernel, by decide +kernel, rfl⟩
theorem k68_12 : en_d 68 12 (.iload_n 1) 1 13 := ⟨by decide +kernel, rfl⟩
theorem k68_13 : en_d 68 13 (.bipush 16) 2 15 := ⟨by decide +kernel, rfl⟩
theorem k68_15 : en_d 68 15 .imul 1 16 := ⟨by decide +kernel, rfl⟩
theorem k68_16 : en_d 68 16 (.iload_n 3) 1 17 := ⟨by decide +kernel, rfl⟩
theorem k68_17 : en_d 68 17 .iadd 1 18 := ⟨by decide +kernel, rfl⟩
theorem k68_18 : en_d 68 18 .iaload 1 19 := ⟨by decide +kernel, rfl⟩
theorem k68_19 : en_d 68 19 (.istore 4) 2 21 := ⟨by decide +kernel, rfl⟩
theorem k68_21 : en_d 68 21 (.iload 4) 2 23 := ⟨by decide +kernel, rfl⟩
theorem k68_23 : en_d 68 23 (.iconst (-1)) 1 24 := ⟨by decide +kernel, rfl⟩
theorem k68_24 : en_j 68 24 (.if_icmp .eq) 27 40 := ⟨16, by decide +kernel, by decide, rfl⟩
theorem k68_27 : en_d 68 27 (.iload 4) 2 29 := ⟨by decide +kernel, rfl⟩
theorem k68_29 : en_d 68 29 (.aload_n 2) 1 30 := ⟨by decide +kernel, rfl⟩
theorem k68_30 : en_df 68 30 8 0 true true 33 := ⟨36, by decide +kernel, by decide +kernel, by decide +kernel, rfl⟩
theorem k68_33 : en_d 68 33 (.iload_n 3) 1 34 := ⟨by decide +kernel, rfl⟩
theorem k68_34 : en_d 68 34 .iaload 1 35 := ⟨by decide +kernel, rfl⟩
theorem k68_35 : en_j 68 35 (.if_icmp .eq) 38 40 := ⟨5, by decide +kernel, by decide, rfl⟩
theorem k68_38 : en_d 68 38 (.iconst 0) 1 39 := ⟨by decide +kernel, rfl⟩
theorem k68_39 : en_d 68 39 .ireturn 1 40 := ⟨by decide +kernel, rfl⟩
theorem k68_40 : en_d 68 40 (.iinc 3 1) 3 43 := ⟨by decide +kernel, rfl⟩
theorem k68_43 : en_j 68 43 .goto 46 2 := ⟨(-41), by decide +kernel, by decide, rfl⟩
theorem k68_46 : en_d 68 46 (.iconst 1) 1 47 := ⟨by decide +kernel, rfl⟩
theorem k68_47 : en_d 68 47 .ireturn 1 48 := ⟨by decide +kernel, rfl⟩
/-! 69: EndorsedLedger$Result.writeTo(LEndorsedLedger$WorldState;I)V -/
theorem k69_0 : en_d 69 0 (.iconst 0) 1 1 := ⟨by decide +kernel, rfl⟩
theorem k69_1 : en_d 69 1 (.istore_n 3) 1 2 := ⟨by decide +kernel, rfl⟩
theorem k69_2 : en_d 69 2 (.iload_n 3) 1 3 := ⟨by decide +kernel, rfl⟩
theorem k69_3 : en_d 69 3 (.bipush 16) 2 5 := ⟨by decide +kernel, rfl⟩
theorem k69_5 : en_j 69 5 (.if_icmp .ge) 8 62 := ⟨57, by decide +kernel, by decide, rfl⟩
theorem k69_8 : en_d 69 8 (.aload_n 0) 1 9 := ⟨by decide +kernel, rfl⟩
theorem k69_9 : en_df 69 9 3 0 false true 12 := ⟨11, by decide +kernel, by decide +kernel, by decide +kernel, rfl⟩
theorem k69_12 : en_d 69 12 (.bipush 48) 2 14 := ⟨by decide +kernel, rfl⟩
theorem k69_14 : en_d 69 14 (.iload_n 3) 1 15 := ⟨by decide +kernel, rfl⟩
theorem k69_15 : en_d 69 15 .iadd 1 16 := ⟨by decide +kernel, rfl⟩
theorem k69_16 : en_d 69 16 .iaload 1 17 := ⟨by decide +kernel, rfl⟩
theorem k69_17 : en_d 69 17 (.istore 4) 2 19 := ⟨by decide +kernel, rfl⟩
theorem k69_19 : en_d 69 19 (.iload 4) 2 21 := ⟨by decide +kernel, rfl⟩
theorem k69_21 : en_j 69 21 (.ifCond .eq) 24 56 := ⟨35, by decide +kernel, by decide, rfl⟩
theorem k69_24 : en_d 69 24 (.aload_n 1) 1 25 := ⟨by decide +kernel, rfl⟩
theorem k69_25 : en_df 69 25 8 0 true true 28 := ⟨36, by decide +kernel, by decide +kernel, by decide +kernel, rfl⟩
theorem k69_28 : en_d 69 28 (.iload_n 3) 1 29 := ⟨by decide +kernel, rfl⟩
theorem k69_29 : en_d 69 29 (.iload 4) 2 31 := ⟨by decide +kernel, rfl⟩
theorem k69_31 : en_d 69 31 (.iconst 2) 1 32 := ⟨by decide +kernel, rfl⟩
theorem k69_32 : en_j 69 32 (.if_icmp .ne) 35 39 := ⟨7, by decide +kernel, by decide, rfl⟩
theorem k69_35 : en_d 69 35 (.iconst 0) 1 36 := ⟨by decide +kernel, rfl⟩
theorem k69_36 : en_j 69 36 .goto 39 40 := ⟨4, by decide +kernel, by decide, rfl⟩
theorem k69_39 : en_d 69 39 (.iload_n 2) 1 40 := ⟨by decide +kernel, rfl⟩
theorem k69_40 : en_d 69 40 .iastore 1 41 := ⟨by decide +kernel, rfl⟩
theorem k69_41 : en_d 69 41 (.aload_n 1) 1 42 := ⟨by decide +kernel, rfl⟩
theorem k69_42 : en_df 69 42 8 1 true true 45 := ⟨41, by decide +kernel, by decide +kernel, by decide +kernel, rfl⟩
theorem k69_45 : en_d 69 45 (.iload_n 3) 1 46 := ⟨by decide +kernel, rfl⟩
theorem k69_46 : en_d 69 46 (.aload_n 0) 1 47 := ⟨by decide +kernel, rfl⟩
theorem k69_47 : en_df 69 47 3 0 false true 50 := ⟨11, by decide +kernel, by decide +kernel, by decide +kernel, rfl⟩
theorem k69_50 : en_d 69 50 (.bipush 64) 2 52 := ⟨by decide +kernel, rfl⟩
theorem k69_52 : en_d 69 52 (.iload_n 3) 1 53 := ⟨by decide +kernel, rfl⟩
theorem k69_53 : en_d 69 53 .iadd 1 54 := ⟨by decide +kernel, rfl⟩
theorem k69_54 : en_d 69 54 .iaload 1 55 := ⟨by decide +kernel, rfl⟩
theorem k69_55 : en_d 69 55 .iastore 1 56 := ⟨by decide +kernel, rfl⟩
theorem k69_56 : en_d 69 56 (.iinc 3 1) 3 59 := ⟨by decide +kernel, rfl⟩
theorem k69_59 : en_j 69 59 .goto 62 2 := ⟨(-57), by decide +kernel, by decide, rfl⟩
theorem k69_62 : en_d 69 62 .return_ 1 63 := ⟨by decide +kernel, rfl⟩
/-! 70: EndorsedLedger$Transaction.<init>()V -/
theorem k70_0 : en_d 70 0 (.aload_n 0) 1 1 := ⟨by decide +kernel, rfl⟩
theorem k70_1 : en_dn 70 1 6 4 := ⟨1, by decide +kernel, by decide +kernel, rfl, by decide +kernel, by decide +kernel⟩
theorem k70_4 : en_d 70 4 (.aload_n 0) 1 5 := ⟨by decide +kernel, rfl⟩
theorem k70_5 : en_d 70 5 (.iconst 0) 1 6 := ⟨by decide +kernel, rfl⟩
theorem k70_6 : en_dp 70 6 4 0 false .int 9 := ⟨7, by decide +kernel, by decide +kernel, by decide +kernel, rfl⟩
theorem k70_9 : en_d 70 9 (.aload_n 0) 1 10 := ⟨by decide +kernel, rfl⟩
theorem k70_10 : en_d 70 10 (.iconst 0) 1 11 := ⟨by decide +kernel, rfl⟩
theorem k70_11 : en_dp 70 11 4 1 false .int 14 := ⟨13, by decide +kernel, by decide +kernel, by decide +kernel, rfl⟩
theorem k70_14 : en_d 70 14 (.aload_n 0) 1 15 := ⟨by decide +kernel, rfl⟩
theorem k70_15 : en_d 70 15 (.iconst 0) 1 16 := ⟨by decide +kernel, rfl⟩
theorem k70_16 : en_dp 70 16 4 2 false .int 19 := ⟨16, by decide +kernel, by decide +kernel, by decide +kernel, rfl⟩
theorem k70_19 : en_d 70 19 (.aload_n 0) 1 20 := ⟨by decide +kernel, rfl⟩
theorem k70_20 : en_d 70 20 (.iconst 0) 1 21 := ⟨by decide +kernel, rfl⟩
theorem k70_21 : en_dp 70 21 4 3 false .boolean 24 := ⟨19, by decide +kernel, by decide +kernel, by decide +kernel, rfl⟩
theorem k70_24 : en_d 70 24 (.aload_n 0) 1 25 := ⟨by decide +kernel, rfl⟩
theorem k70_25 : en_dw 70 25 3 28 := ⟨23, by decide +kernel, by decide +kernel, rfl⟩
theorem k70_28 : en_d 70 28 .dup 1 29 := ⟨by decide +kernel, rfl⟩
theorem k70_29 : en_dI 70 29 57 true 32 := ⟨25, by decide +kernel, by decide +kernel, rfl, by decide +kernel, by decide +kernel⟩
theorem k70_32 : en_dp 70 32 4 4 false (.object "EndorsedLedger$Result") 35 := ⟨26, by decide +kernel, by decide +kernel, by decide +kernel, rfl⟩
theorem k70_35 : en_d 70 35 .return_ 1 36 := ⟨by decide +kernel, rfl⟩
/-! 71: EndorsedLedger$Transaction.isEndorsedBy(I)Z -/
theorem k71_0 : en_d 71 0 (.aload_n 0) 1 1 := ⟨by decide +kernel, rfl⟩
theorem k71_1 : en_df 71 1 4 2 false false 4 := ⟨16, by decide +kernel, by decide +kernel, by decide +kernel, rfl⟩
theorem k71_4 : en_d 71 4 (.iload_n 1) 1 5 := ⟨by decide +kernel, rfl⟩
theorem k71_5 : en_d 71 5 .ishr 1 6 := ⟨by decide +kernel, rfl⟩
theorem k71_6 : en_d 71 6 (.iconst 1) 1 7 := ⟨by decide +kernel, rfl⟩
theorem k71_7 : en_d 71 7 .iand 1 8 := ⟨by decide +kernel, rfl⟩
theorem k71_8 : en_d 71 8 (.iconst 1) 1 9 := ⟨by decide +kernel, rfl⟩
theorem k71_9 : en_j 71 9 (.if_icmp .ne) 12 16 := ⟨7, by decide +kernel, by decide, rfl⟩
theorem k71_12 : en_d 71 12 (.iconst 1) 1 13 := ⟨by decide +kernel, rfl⟩
theorem k71_13 : en_j 71 13 .goto 16 17 := ⟨4, by decide +kernel, by decide, rfl⟩
theorem k71_16 : en_d 71 16 (.iconst 0) 1 17 := ⟨by decide +kernel, rfl⟩
theorem k71_17 : en_d 71 17 .ireturn 1 18 := ⟨by decide +kernel, rfl⟩
/-! 72: EndorsedLedger$Transaction.hasResult()Z -/
theorem k72_0 : en_d 72 0 (.aload_n 0) 1 1 := ⟨by decide +kernel, rfl⟩
theorem k72_1 : en_df 72 1 4 2 false false 4 := ⟨16, by decide +kernel, by decide +kernel, by decide +kernel, rfl⟩
theorem k72_4 : en_j 72 4 (.ifCond .eq) 7 11 := ⟨7, by decide +kernel, by decide, rfl⟩
theorem k72_7 : en_d 72 7 (.iconst 1) 1 8 := ⟨by decide +kernel, rfl⟩
theorem k72_8 : en_j 72 8 .goto 11 12 := ⟨4, by decide +kernel, by decide, rfl⟩
theorem k72_11 : en_d 72 11 (.iconst 0) 1 12 := ⟨by decide +kernel, rfl⟩
theorem k72_12 : en_d 72 12 .ireturn 1 13 := ⟨by decide +kernel, rfl⟩
/-! 73: EndorsedLedger$Block.<init>()V -/
theorem k73_0 : en_d 73 0 (.aload_n 0) 1 1 := ⟨by decide +kernel, rfl⟩
theorem k73_1 : en_dn 73 1 6 4 := ⟨3, by decide +kernel, by decide +kernel, rfl, by decide +kernel, by decide +kernel⟩
theorem k73_4 : en_d 73 4 (.aload_n 0) 1 5 := ⟨by decide +kernel, rfl⟩
theorem k73_5 : en_d 73 5 (.iconst 4) 1 6 := ⟨by decide +kernel, rfl⟩
theorem k73_6 : en_d 73 6 (.newarray .int) 2 8 := ⟨by decide +kernel, rfl⟩
theorem k73_8 : en_dp 73 8 5 0 false (.array .int) 11 := ⟨9, by decide +kernel, by decide +kernel, by decide +kernel, rfl⟩
theorem k73_11 : en_d 73 11 (.aload_n 0) 1 12 := ⟨by decide +kernel, rfl⟩
theorem k73_12 : en_d 73 12 (.iconst 0) 1 13 := ⟨by decide +kernel, rfl⟩
theorem k73_13 : en_dp 73 13 5 1 false .int 16 := ⟨15, by decide +kernel, by decide +kernel, by decide +kernel, rfl⟩
theorem k73_16 : en_d 73 16 (.aload_n 0) 1 17 := ⟨by decide +kernel, rfl⟩
theorem k73_17 : en_d 73 17 (.iconst 0) 1 18 := ⟨by decide +kernel, rfl⟩
theorem k73_18 : en_dp 73 18 5 2 false .int 21 := ⟨19, by decide +kernel, by decide +kernel, by decide +kernel, rfl⟩
theorem k73_21 : en_d 73 21 .return_ 1 22 := ⟨by decide +kernel, rfl⟩
/-! 74: EndorsedLedger$Block.fill([III)V -/
theorem k74_0 : en_d 74 0 (.aload_n 1) 1 1 := ⟨by decide +kernel, rfl⟩
theorem k74_1 : en_d 74 1 (.iconst 0) 1 2 := ⟨by decide +kernel, rfl⟩
theorem k74_2 : en_d 74 2 (.aload_n 0) 1 3 := ⟨by decide +kernel, rfl⟩
theorem k74_3 : en_df 74 3 5 0 false true 6 := ⟨9, by decide +kernel, by decide +kernel, by decide +kernel, rfl⟩
theorem k74_6 : en_d 74 6 (.iconst 0) 1 7 := ⟨by decide +kernel, rfl⟩
theorem k74_7 : en_d 74 7 (.iload_n 2) 1 8 := ⟨by decide +kernel, rfl⟩
theorem k74_8 : en_dn 74 8 9 11 := ⟨22, by decide +kernel, by decide +kernel, rfl, by decide +kernel, by decide +kernel⟩
theorem k74_11 : en_d 74 11 (.aload_n 0) 1 12 := ⟨by decide +kernel, rfl⟩
theorem k74_12 : en_d 74 12 (.iload_n 2) 1 13 := ⟨by decide +kernel, rfl⟩
theorem k74_13 : en_dp 74 13 5 1 false .int 16 := ⟨15, by decide +kernel, by decide +kernel, by decide +kernel, rfl⟩
theorem k74_16 : en_d 74 16 (.aload_n 0) 1 17 := ⟨by decide +kernel, rfl⟩
theorem k74_17 : en_d 74 17 (.iload_n 3) 1 18 := ⟨by decide +kernel, rfl⟩
theorem k74_18 : en_dp 74 18 5 2 false .int 21 := ⟨19, by decide +kernel, by decide +kernel, by decide +kernel, rfl⟩
theorem k74_21 : en_d 74 21 .return_ 1 22 := ⟨by decide +kernel, rfl⟩
/-! 75: EndorsedLedger$Block.transactionAt(I)I -/
theorem k75_0 : en_d 75 0 (.iload_n 1) 1 1 := ⟨by decide +kernel, rfl⟩
theorem k75_1 : en_d 75 1 (.aload_n 0) 1 2 := ⟨by decide +kernel, rfl⟩
theorem k75_2 : en_df 75 2 5 1 false false 5 := ⟨15, by decide +kernel, by decide +kernel, by decide +kernel, rfl⟩
theorem k75_5 : en_dS 75 5 19 true 8 := ⟨28, by decide +kernel, by decide +kernel, rfl, by decide +kernel, by decide +kernel⟩
theorem k75_8 : en_j 75 8 (.ifCond .eq) 11 20 := ⟨12, by decide +kernel, by decide, rfl⟩
theorem k75_11 : en_d 75 11 (.aload_n 0) 1 12 := ⟨by decide +kernel, rfl⟩
theorem k75_12 : en_df 75 12 5 0 false true 15 := ⟨9, by decide +kernel, by decide +kernel, by decide +kernel, rfl⟩
theorem k75_15 : en_d 75 15 (.iload_n 1) 1 16 := ⟨by decide +kernel, rfl⟩
theorem k75_16 : en_d 75 16 .iaload 1 17 := ⟨by decide +kernel, rfl⟩
theorem k75_17 : en_j 75 17 .goto 20 21 := ⟨4, by decide +kernel, by decide, rfl⟩
theorem k75_20 : en_d 75 20 (.iconst (-1)) 1 21 := ⟨by decide +kernel, rfl⟩
theorem k75_21 : en_d 75 21 .ireturn 1 22 := ⟨by decide +kernel, rfl⟩
/-! 76: EndorsedLedger$Block.hasAmongFirst(II)Z -/
theorem k76_0 : en_d 76 0 (.iconst 0) 1 1 := ⟨by decide +kernel, rfl⟩
theorem k76_1 : en_d 76 1 (.istore_n 3) 1 2 := ⟨by decide +kernel, rfl⟩
theorem k76_2 : en_d 76 2 (.iload_n 3) 1 3 := ⟨by decide +kernel, rfl⟩
theorem k76_3 : en_d 76 3 (.iload_n 1) 1 4 := ⟨by decide +kernel, rfl⟩
theorem k76_4 : en_j 76 4 (.if_icmp .ge) 7 25 := ⟨21, by decide +kernel, by decide, rfl⟩
theorem k76_7 : en_d 76 7 (.aload_n 0) 1 8 := ⟨by decide +kernel, rfl⟩
theorem k76_8 : en_df 76 8 5 0 false true 11 := ⟨9, by decide +kernel, by decide +kernel, by decide +kernel, rfl⟩
theorem k76_11 : en_d 76 11 (.iload_n 3) 1 12 := ⟨by decide +kernel, rfl⟩
theorem k76_12 : en_d 76 12 .iaload 1 13 := ⟨by decide +kernel, rfl⟩
theorem k76_13 : en_d 76 13 (.iload_n 2) 1 14 := ⟨by decide +kernel, rfl⟩
theorem k76_14 : en_j 76 14 (.if_icmp .ne) 17 19 := ⟨5, by decide +kernel, by decide, rfl⟩
theorem k76_17 : en_d 76 17 (.iconst 1) 1 18 := ⟨by decide +kernel, rfl⟩
theorem k76_18 : en_d 76 18 .ireturn 1 19 := ⟨by decide +kernel, rfl⟩
theorem k76_19 : en_d 76 19 (.iinc 3 1) 3 22 := ⟨by decide +kernel, rfl⟩
theorem k76_22 : en_j 76 22 .goto 25 2 := ⟨(-20), by decide +kernel, by decide, rfl⟩
theorem k76_25 : en_d 76 25 (.iconst 0) 1 26 := ⟨by decide +kernel, rfl⟩
theorem k76_26 : en_d 76 26 .ireturn 1 27 := ⟨by decide +kernel, rfl⟩
/-! 77: EndorsedLedger$BlockList.<init>()V -/
theorem k77_0 : en_d 77 0 (.aload_n 0) 1 1 := ⟨by decide +kernel, rfl⟩
theorem k77_1 : en_dn 77 1 6 4 := ⟨3, by decide +kernel, by decide +kernel, rfl, by decide +kernel, by decide +kernel⟩
theorem k77_4 : en_d 77 4 (.aload_n 0) 1 5 := ⟨by decide +kernel, rfl⟩
theorem k77_5 : en_d 77 5 (.bipush 40) 2 7 := ⟨by decide +kernel, rfl⟩
theorem k77_7 : en_d 77 7 (.newarray .int) 2 9 := ⟨by decide +kernel, rfl⟩
theorem k77_9 : en_dp 77 9 6 0 false (.array .int) 12 := ⟨9, by decide +kernel, by decide +kernel, by decide +kernel, rfl⟩
theorem k77_12 : en_d 77 12 (.aload_n 0) 1 13 := ⟨by decide +kernel, rfl⟩
theorem k77_13 : en_d 77 13 (.iconst 0) 1 14 := ⟨by decide +kernel, rfl⟩
theorem k77_14 : en_dp 77 14 6 1 false .int 17 := ⟨15, by decide +kernel, by decide +kernel, by decide +kernel, rfl⟩
theorem k77_17 : en_d 77 17 .return_ 1 18 := ⟨by decide +kernel, rfl⟩
/-! 78: EndorsedLedger$BlockList.add(I)V -/
theorem k78_0 : en_d 78 0 (.aload_n 0) 1 1 := ⟨by decide +kernel, rfl⟩
theorem k78_1 : en_df 78 1 6 1 false false 4 := ⟨15, by decide +kernel, by decide +kernel, by decide +kernel, rfl⟩
theorem k78_4 : en_d 78 4 (.bipush 40) 2 6 := ⟨by decide +kernel, rfl⟩
theorem k78_6 : en_j 78 6 (.if_icmp .ge) 9 29 := ⟨23, by decide +kernel, by decide, rfl⟩
theorem k78_9 : en_d 78 9 (.aload_n 0) 1 10 := ⟨by decide +kernel, rfl⟩
theorem k78_10 : en_df 78 10 6 0 false true 13 := ⟨9, by decide +kernel, by decide +kernel, by decide +kernel, rfl⟩
theorem k78_13 : en_d 78 13 (.aload_n 0) 1 14 := ⟨by decide +kernel, rfl⟩
theorem k78_14 : en_df 78 14 6 1 false false 17 := ⟨15, by decide +kernel, by decide +kernel, by decide +kernel, rfl⟩
theorem k78_17 : en_d 78 17 (.iload_n 1) 1 18 := ⟨by decide +kernel, rfl⟩
theorem k78_18 : en_d 78 18 .iastore 1 19 := ⟨by decide +kernel, rfl⟩
theorem k78_19 : en_d 78 19 (.aload_n 0) 1 20 := ⟨by decide +kernel, rfl⟩
theorem k78_20 : en_d 78 20 .dup 1 21 := ⟨by decide +kernel, rfl⟩
theorem k78_21 : en_df 78 21 6 1 false false 24 := ⟨15, by decide +kernel, by decide +kernel, by decide +kernel, rfl⟩
theorem k78_24 : en_d 78 24 (.iconst 1) 1 25 := ⟨by decide +kernel, rfl⟩
theorem k78_25 : en_d 78 25 .iadd 1 26 := ⟨by decide +kernel, rfl⟩
theorem k78_26 : en_dp 78 26 6 1 false .int 29 := ⟨15, by decide +kernel, by decide +kernel, by decide +kernel, rfl⟩
theorem k78_29 : en_d 78 29 .return_ 1 30 := ⟨by decide +kernel, rfl⟩
/-! 79: EndorsedLedger$BlockList.sameAtBeginning(LEndorsedLedger$BlockList;)I -/
theorem k79_0 : en_d 79 0 (.aload_n 0) 1 1 := ⟨by decide +kernel, rfl⟩
theorem k79_1 : en_df 79 1 6 1 false false 4 := ⟨15, by decide +kernel, by decide +kernel, by decide +kernel, rfl⟩
theorem k79_4 : en_d 79 4 (.aload_n 1) 1 5 := ⟨by decide +kernel, rfl⟩
theorem k79_5 : en_df 79 5 6 1 false false 8 := ⟨15, by decide +kernel, by decide +kernel, by decide +kernel, rfl⟩
theorem k79_8 : en_dn 79 8 8 11 := ⟨19, by decide +kernel, by decide +kernel, rfl, by decide +kernel, by decide +kernel⟩
theorem k79_11 : en_d 79 11 (.istore_n 2) 1 12 := ⟨by decide +kernel, rfl⟩
theorem k79_12 : en_d 79 12 (.iconst 0) 1 13 := ⟨by decide +kernel, rfl⟩
theorem k79_13 : en_d 79 13 (.istore_n 3) 1 14 := ⟨by decide +kernel, rfl⟩
theorem k79_14 : en_d 79 14 (.iload_n 3) 1 15 := ⟨by decide +kernel, rfl⟩
theorem k79_15 : en_d 79 15 (.iload_n 2) 1 16 := ⟨by decide +kernel, rfl⟩
theorem k79_16 : en_j 79 16 (.if_icmp .ge) 19 42 := ⟨26, by decide +kernel, by decide, rfl⟩
theorem k79_19 : en_d 79 19 (.aload_n 0) 1 20 := ⟨by decide +kernel, rfl⟩
theorem k79_20 : en_df 79 20 6 0 false true 23 := ⟨9, by decide +kernel, by decide +kernel, by decide +kernel, rfl⟩
theorem k79_23 : en_d 79 23 (.iload_n 3) 1 24 := ⟨by decide +kernel, rfl⟩
theorem k79_24 : en_d 79 24 .iaload 1 25 := ⟨by decide +kernel, rfl⟩
theorem k79_25 : en_d 79 25 (.aload_n 1) 1 26 := ⟨by decide +kernel, rfl⟩
theorem k79_26 : en_df 79 26 6 0 false true 29 := ⟨9, by decide +kernel, by decide +kernel, by decide +kernel, rfl⟩
theorem k79_29 : en_d 79 29 (.iload_n 3) 1 30 := ⟨by decide +kernel, rfl⟩
theorem k79_30 : en_d 79 30 .iaload 1 31 := ⟨by decide +kernel, rfl⟩
theorem k79_31 : en_j 79 31 (.if_icmp .eq) 34 36 := ⟨5, by decide +kernel, by decide, rfl⟩
theorem k79_34 : en_d 79 34 (.iload_n 3) 1 35 := ⟨by decide +kernel, rfl⟩
theorem k79_35 : en_d 79 35 .ireturn 1 36 := ⟨by decide +kernel, rfl⟩
theorem k79_36 : en_d 79 36 (.iinc 3 1) 3 39 := ⟨by decide +kernel, rfl⟩
theorem k79_39 : en_j 79 39 .goto 42 14 := ⟨(-25), by decide +kernel, by decide, rfl⟩
theorem k79_42 : en_d 79 42 (.iload_n 2) 1 43 := ⟨by decide +kernel, rfl⟩
theorem k79_43 : en_d 79 43 .ireturn 1 44 := ⟨by decide +kernel, rfl⟩
/-! 80: EndorsedLedger$BlockList.becomeFirst(LEndorsedLedger$BlockList;I)V -/
theorem k80_0 : en_d 80 0 (.aload_n 1) 1 1 := ⟨by decide +kernel, rfl⟩
theorem k80_1 : en_df 80 1 6 0 false true 4 := ⟨9, by decide +kernel, by decide +kernel, by decide +kernel, rfl⟩
theorem k80_4 : en_d 80 4 (.iconst 0) 1 5 := ⟨by decide +kernel, rfl⟩
theorem k80_5 : en_d 80 5 (.aload_n 0) 1 6 := ⟨by decide +kernel, rfl⟩
theorem k80_6 : en_df 80 6 6 0 false true 9 := ⟨9, by decide +kernel, by decide +kernel, by decide +kernel, rfl⟩
theorem k80_9 : en_d 80 9 (.iconst 0) 1 10 := ⟨by decide +kernel, rfl⟩
theorem k80_10 : en_d 80 10 (.iload_n 2) 1 11 := ⟨by decide +kernel, rfl⟩
theorem k80_11 : en_dn 80 11 9 14 := ⟨25, by decide +kernel, by decide +kernel, rfl, by decide +kernel, by decide +kernel⟩
theorem k80_14 : en_d 80 14 (.aload_n 0) 1 15 := ⟨by decide +kernel, rfl⟩
theorem k80_15 : en_d 80 15 (.iload_n 2) 1 16 := ⟨by decide +kernel, rfl⟩
theorem k80_16 : en_dp 80 16 6 1 false .int 19 := ⟨15, by decide +kernel, by decide +kernel, by decide +kernel, rfl⟩
theorem k80_19 : en_d 80 19 .return_ 1 20 := ⟨by decide +kernel, rfl⟩
/-! 81: EndorsedLedger$Orderer.<init>()V -/
theorem k81_0 : en_d 81 0 (.aload_n 0) 1 1 := ⟨by decide +kernel, rfl⟩
theorem k81_1 : en_dn 81 1 6 4 := ⟨1, by decide +kernel, by decide +kernel, rfl, by decide +kernel, by decide +kernel⟩
theorem k81_4 : en_d 81 4 (.aload_n 0) 1 5 := ⟨by decide +kernel, rfl⟩
theorem k81_5 : en_d 81 5 (.iconst 1) 1 6 := ⟨by decide +kernel, rfl⟩
theorem k81_6 : en_dp 81 6 7 0 false .boolean 9 := ⟨7, by decide +kernel, by decide +kernel, by decide +kernel, rfl⟩
theorem k81_9 : en_d 81 9 (.aload_n 0) 1 10 := ⟨by decide +kernel, rfl⟩
theorem k81_10 : en_d 81 10 (.iconst 0) 1 11 := ⟨by decide +kernel, rfl⟩
theorem k81_11 : en_dp 81 11 7 1 false .int 14 := ⟨13, by decide +kernel, by decide +kernel, by decide +kernel, rfl⟩
theorem k81_14 : en_d 81 14 (.aload_n 0) 1 15 := ⟨by decide +kernel, rfl⟩
theorem k81_15 : en_dw 81 15 6 18 := ⟨17, by decide +kernel, by decide +kernel, rfl⟩
theorem k81_18 : en_d 81 18 .dup 1 19 := ⟨by decide +kernel, rfl⟩
theorem k81_19 : en_dI 81 19 77 true 22 := ⟨19, by decide +kernel, by decide +kernel, rfl, by decide +kernel, by decide +kernel⟩
theorem k81_22 : en_dp 81 22 7 2 false (.object "EndorsedLedger$BlockList") 25 := ⟨20, by decide +kernel, by decide +kernel, by decide +kernel, rfl⟩
theorem k81_25 : en_d 81 25 .return_ 1 26 := ⟨by decide +kernel, rfl⟩
/-! 82: EndorsedLedger$WorldState.<init>()V -/
theorem k82_0 : en_d 82 0 (.aload_n 0) 1 1 := ⟨by decide +kernel, rfl⟩
theorem k82_1 : en_dn 82 1 6 4 := ⟨3, by decide +kernel, by decide +kernel, rfl, by decide +kernel, by decide +kernel⟩
theorem k82_4 : en_d 82 4 (.aload_n 0) 1 5 := ⟨by decide +kernel, rfl⟩
theorem k82_5 : en_d 82 5 (.bipush 16) 2 7 := ⟨by decide +kernel, rfl⟩
theorem k82_7 : en_d 82 7 (.newarray .int) 2 9 := ⟨by decide +kernel, rfl⟩
theorem k82_9 : en_dp 82 9 8 0 false (.array .int) 12 := ⟨9, by decide +kernel, by decide +kernel, by decide +kernel, rfl⟩
theorem k82_12 : en_d 82 12 (.aload_n 0) 1 13 := ⟨by decide +kernel, rfl⟩
theorem k82_13 : en_d 82 13 (.bipush 16) 2 15 := ⟨by decide +kernel, rfl⟩
theorem k82_15 : en_d 82 15 (.newarray .int) 2 17 := ⟨by decide +kernel, rfl⟩
theorem k82_17 : en_dp 82 17 8 1 false (.array .int) 20 := ⟨15, by decide +kernel, by decide +kernel, by decide +kernel, rfl⟩
theorem k82_20 : en_d 82 20 (.aload_n 0) 1 21 := ⟨by decide +kernel, rfl⟩
theorem k82_21 : en_d 82 21 (.iconst 0) 1 22 := ⟨by decide +kernel, rfl⟩
theorem k82_22 : en_dp 82 22 8 2 false .int 25 := ⟨18, by decide +kernel, by decide +kernel, by decide +kernel, rfl⟩
theorem k82_25 : en_d 82 25 .return_ 1 26 := ⟨by decide +kernel, rfl⟩
/-! 83: EndorsedLedger$WorldState.become(LEndorsedLedger$WorldState;)V -/
theorem k83_0 : en_d 83 0 (.aload_n 1) 1 1 := ⟨by decide +kernel, rfl⟩
theorem k83_1 : en_df 83 1 8 0 false true 4 := ⟨9, by decide +kernel, by decide +kernel, by decide +kernel, rfl⟩
theorem k83_4 : en_d 83 4 (.iconst 0) 1 5 := ⟨by decide +kernel, rfl⟩
theorem k83_5 : en_d 83 5 (.aload_n 0) 1 6 := ⟨by decide +kernel, rfl⟩
theorem k83_6 : en_df 83 6 8 0 false true 9 := ⟨9, by decide +kernel, by decide +kernel, by decide +kernel, rfl⟩
theorem k83_9 : en_d 83 9 (.iconst 0) 1 10 := ⟨by decide +kernel, rfl⟩
theorem k83_10 : en_d 83 10 (.bipush 16) 2 12 := ⟨by decide +kernel, rfl⟩
theorem k83_12 : en_dn 83 12 9 15 := ⟨22, by decide +kernel, by decide +kernel, rfl, by decide +kernel, by decide +kernel⟩
theorem k83_15 : en_d 83 15 (.aload_n 1) 1 16 := ⟨by decide +kernel, rfl⟩
theorem k83_16 : en_df 83 16 8 1 false true 19 := ⟨15, by decide +kernel, by decide +kernel, by decide +kernel, rfl⟩
theorem k83_19 : en_d 83 19 (.iconst 0) 1 20 := ⟨by decide +kernel, rfl⟩
theorem k83_20 : en_d 83 20 (.aload_n 0) 1 21 := ⟨by decide +kernel, rfl⟩
theorem k83_21 : en_df 83 21 8 1 false true 24 := ⟨15, by decide +kernel, by decide +kernel, by decide +kernel, rfl⟩
theorem k83_24 : en_d 83 24 (.iconst 0) 1 25 := ⟨by decide +kernel, rfl⟩
theorem k83_25 : en_d 83 25 (.bipush 16) 2 27 := ⟨by decide +kernel, rfl⟩
theorem k83_27 : en_dn 83 27 9 30 := ⟨22, by decide +kernel, by decide +kernel, rfl, by decide +kernel, by decide +kernel⟩
theorem k83_30 : en_d 83 30 (.aload_n 0) 1 31 := ⟨by decide +kernel, rfl⟩
theorem k83_31 : en_d 83 31 (.aload_n 1) 1 32 := ⟨by decide +kernel, rfl⟩
theorem k83_32 : en_df 83 32 8 2 false false 35 := ⟨18, by decide +kernel, by decide +kernel, by decide +kernel, rfl⟩
theorem k83_35 : en_dp 83 35 8 2 false .int 38 := ⟨18, by decide +kernel, by decide +kernel, by decide +kernel, rfl⟩
theorem k83_38 : en_d 83 38 .return_ 1 39 := ⟨by decide +kernel, rfl⟩
/-! 84: EndorsedLedger$Peer.<init>()V -/
theorem k84_0 : en_d 84 0 (.aload_n 0) 1 1 := ⟨by decide +kernel, rfl⟩
theorem k84_1 : en_dn 84 1 6 4 := ⟨3, by decide +kernel, by decide +kernel, rfl, by decide +kernel, by decide +kernel⟩
theorem k84_4 : en_d 84 4 (.aload_n 0) 1 5 := ⟨by decide +kernel, rfl⟩
theorem k84_5 : en_d 84 5 (.iconst 1) 1 6 := ⟨by decide +kernel, rfl⟩
theorem k84_6 : en_dp 84 6 9 0 false .boolean 9 := ⟨9, by decide +kernel, by decide +kernel, by decide +kernel, rfl⟩
theorem k84_9 : en_d 84 9 (.aload_n 0) 1 10 := ⟨by decide +kernel, rfl⟩
theorem k84_10 : en_d 84 10 (.iconst 0) 1 11 := ⟨by decide +kernel, rfl⟩
theorem k84_11 : en_dp 84 11 9 1 false .int 14 := ⟨15, by decide +kernel, by decide +kernel, by decide +kernel, rfl⟩
theorem k84_14 : en_d 84 14 (.aload_n 0) 1 15 := ⟨by decide +kernel, rfl⟩
theorem k84_15 : en_dw 84 15 8 18 := ⟨19, by decide +kernel, by decide +kernel, rfl⟩
theorem k84_18 : en_d 84 18 .dup 1 19 := ⟨by decide +kernel, rfl⟩
theorem k84_19 : en_dI 84 19 82 true 22 := ⟨21, by decide +kernel, by decide +kernel, rfl, by decide +kernel, by decide +kernel⟩
theorem k84_22 : en_dp 84 22 9 2 false (.object "EndorsedLedger$WorldState") 25 := ⟨22, by decide +kernel, by decide +kernel, by decide +kernel, rfl⟩
theorem k84_25 : en_d 84 25 (.aload_n 0) 1 26 := ⟨by decide +kernel, rfl⟩
theorem k84_26 : en_dw 84 26 8 29 := ⟨19, by decide +kernel, by decide +kernel, rfl⟩
theorem k84_29 : en_d 84 29 .dup 1 30 := ⟨by decide +kernel, rfl⟩
theorem k84_30 : en_dI 84 30 82 true 33 := ⟨21, by decide +kernel, by decide +kernel, rfl, by decide +kernel, by decide +kernel⟩
theorem k84_33 : en_dp 84 33 9 3 false (.object "EndorsedLedger$WorldState") 36 := ⟨26, by decide +kernel, by decide +kernel, by decide +kernel, rfl⟩
theorem k84_36 : en_d 84 36 (.aload_n 0) 1 37 := ⟨by decide +kernel, rfl⟩
theorem k84_37 : en_d 84 37 (.sipush 160) 3 40 := ⟨by decide +kernel, rfl⟩
theorem k84_40 : en_d 84 40 (.newarray .int) 2 42 := ⟨by decide +kernel, rfl⟩
theorem k84_42 : en_dp 84 42 9 4 false (.array .int) 45 := ⟨29, by decide +kernel, by decide +kernel, by decide +kernel, rfl⟩
theorem k84_45 : en_d 84 45 .return_ 1 46 := ⟨by decide +kernel, rfl⟩
/-! 85: EndorsedLedger$Peer.finishBlock()V -/
theorem k85_0 : en_d 85 0 (.aload_n 0) 1 1 := ⟨by decide +kernel, rfl⟩
theorem k85_1 : en_df 85 1 9 2 false true 4 := ⟨22, by decide +kernel, by decide +kernel, by decide +kernel, rfl⟩
theorem k85_4 : en_d 85 4 .dup 1 5 := ⟨by decide +kernel, rfl⟩
theorem k85_5 : en_df 85 5 8 2 true false 8 := ⟨33, by decide +kernel, by decide +kernel, by decide +kernel, rfl⟩
theorem k85_8 : en_d 85 8 (.iconst 1) 1 9 := ⟨by decide +kernel, rfl⟩
theorem k85_9 : en_d 85 9 .iadd 1 10 := ⟨by decide +kernel, rfl⟩
theorem k85_10 : en_dp 85 10 8 2 true .int 13 := ⟨33, by decide +kernel, by decide +kernel, by decide +kernel, rfl⟩
theorem k85_13 : en_d 85 13 (.aload_n 0) 1 14 := ⟨by decide +kernel, rfl⟩
theorem k85_14 : en_df 85 14 9 2 false true 17 := ⟨22, by decide +kernel, by decide +kernel, by decide +kernel, rfl⟩
theorem k85_17 : en_df 85 17 8 2 true false 20 := ⟨33, by decide +kernel, by decide +kernel, by decide +kernel, rfl⟩
theorem k85_20 : en_d 85 20 (.iconst 4) 1 21 := ⟨by decide +kernel, rfl⟩
theorem k85_21 : en_d 85 21 .irem 1 22 := ⟨by decide +kernel, rfl⟩
theorem k85_22 : en_j 85 22 (.ifCond .ne) 25 36 := ⟨14, by decide +kernel, by decide, rfl⟩
theorem k85_25 : en_d 85 25 (.aload_n 0) 1 26 := ⟨by decide +kernel, rfl⟩
theorem k85_26 : en_df 85 26 9 3 false true 29 := ⟨26, by decide +kernel, by decide +kernel, by decide +kernel, rfl⟩
theorem k85_29 : en_d 85 29 (.aload_n 0) 1 30 := ⟨by decide +kernel, rfl⟩
theorem k85_30 : en_df 85 30 9 2 false true 33 := ⟨22, by decide +kernel, by decide +kernel, by decide +kernel, rfl⟩
theorem k85_33 : en_dv 85 33 83 true 36 := ⟨36, by decide +kernel, by decide +kernel, rfl, by decide +kernel, by decide +kernel⟩
theorem k85_36 : en_d 85 36 .return_ 1 37 := ⟨by decide +kernel, rfl⟩
end
