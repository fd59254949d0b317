section
-- ===== PART A: goes FIRST, ahead of the names: the tables' words, and 'selects' of the private methods out of them =====
/-- a private method of a class that the tables say can be made, by its rows of tables_1 -/
def lw_okq (q : MethodName × Nat) : Prop := (q.1.cls ≠ "java/lang/invoke/MethodHandle" ∧ q.1.cls ≠ "java/lang/invoke/VarHandle") ∧ Cond.instantiable q.1.cls q.2 ∈ tables_1 ∧ Cond.privateMethod q.1 ∈ tables_1 ∧ Cond.instanceMethod q.1 ∈ tables_1
theorem lw_p0 : lw_okq (⟨"EndorsedLedger$Result", "clear", "()V"⟩, 2) := ⟨⟨by decide +kernel, by decide +kernel⟩, List.mem_of_getElem? (i := 55) (by decide +kernel), List.mem_of_getElem? (i := 61) (by decide +kernel), List.mem_of_getElem? (i := 62) (by decide +kernel)⟩
theorem lw_p1 : lw_okq (⟨"EndorsedLedger$Program", "addInstruction", "(II)Z"⟩, 6) := ⟨⟨by decide +kernel, by decide +kernel⟩, List.mem_of_getElem? (i := 91) (by decide +kernel), List.mem_of_getElem? (i := 279) (by decide +kernel), List.mem_of_getElem? (i := 280) (by decide +kernel)⟩
theorem lw_p2 : lw_okq (⟨"EndorsedLedger$Program", "addLeaf", "(I)Z"⟩, 6) := ⟨⟨by decide +kernel, by decide +kernel⟩, List.mem_of_getElem? (i := 91) (by decide +kernel), List.mem_of_getElem? (i := 287) (by decide +kernel), List.mem_of_getElem? (i := 288) (by decide +kernel)⟩
theorem lw_p3 : lw_okq (⟨"EndorsedLedger$Program", "putOnTop", "(I)V"⟩, 6) := ⟨⟨by decide +kernel, by decide +kernel⟩, List.mem_of_getElem? (i := 91) (by decide +kernel), List.mem_of_getElem? (i := 291) (by decide +kernel), List.mem_of_getElem? (i := 292) (by decide +kernel)⟩
theorem lw_p4 : lw_okq (⟨"EndorsedLedger$Program", "joinRules", "(II)Z"⟩, 6) := ⟨⟨by decide +kernel, by decide +kernel⟩, List.mem_of_getElem? (i := 91) (by decide +kernel), List.mem_of_getElem? (i := 295) (by decide +kernel), List.mem_of_getElem? (i := 296) (by decide +kernel)⟩
theorem lw_p5 : lw_okq (⟨"EndorsedLedger$Program", "countMetAmongTop", "(II)I"⟩, 6) := ⟨⟨by decide +kernel, by decide +kernel⟩, List.mem_of_getElem? (i := 91) (by decide +kernel), List.mem_of_getElem? (i := 299) (by decide +kernel), List.mem_of_getElem? (i := 300) (by decide +kernel)⟩
theorem lw_p6 : lw_okq (⟨"EndorsedLedger", "isUpPeer", "(I)Z"⟩, 12) := ⟨⟨by decide +kernel, by decide +kernel⟩, List.mem_of_getElem? (i := 15) (by decide +kernel), List.mem_of_getElem? (i := 311) (by decide +kernel), List.mem_of_getElem? (i := 312) (by decide +kernel)⟩
theorem lw_p7 : lw_okq (⟨"EndorsedLedger$Transaction", "isEndorsedBy", "(I)Z"⟩, 5) := ⟨⟨by decide +kernel, by decide +kernel⟩, List.mem_of_getElem? (i := 118) (by decide +kernel), List.mem_of_getElem? (i := 315) (by decide +kernel), List.mem_of_getElem? (i := 316) (by decide +kernel)⟩
theorem lw_p8 : lw_okq (⟨"EndorsedLedger$Run", "succeeds", "(LEndorsedLedger$Program;ILEndorsedLedger$WorldState;)Z"⟩, 5) := ⟨⟨by decide +kernel, by decide +kernel⟩, List.mem_of_getElem? (i := 49) (by decide +kernel), List.mem_of_getElem? (i := 319) (by decide +kernel), List.mem_of_getElem? (i := 320) (by decide +kernel)⟩
theorem lw_p9 : lw_okq (⟨"EndorsedLedger$Run", "step", "(IIILEndorsedLedger$WorldState;)V"⟩, 5) := ⟨⟨by decide +kernel, by decide +kernel⟩, List.mem_of_getElem? (i := 49) (by decide +kernel), List.mem_of_getElem? (i := 324) (by decide +kernel), List.mem_of_getElem? (i := 325) (by decide +kernel)⟩
theorem lw_p10 : lw_okq (⟨"EndorsedLedger$Run", "push", "(I)V"⟩, 5) := ⟨⟨by decide +kernel, by decide +kernel⟩, List.mem_of_getElem? (i := 49) (by decide +kernel), List.mem_of_getElem? (i := 328) (by decide +kernel), List.mem_of_getElem? (i := 329) (by decide +kernel)⟩
theorem lw_p11 : lw_okq (⟨"EndorsedLedger$Run", "calculate", "(I)V"⟩, 5) := ⟨⟨by decide +kernel, by decide +kernel⟩, List.mem_of_getElem? (i := 49) (by decide +kernel), List.mem_of_getElem? (i := 332) (by decide +kernel), List.mem_of_getElem? (i := 333) (by decide +kernel)⟩
theorem lw_p12 : lw_okq (⟨"EndorsedLedger$Run", "pop", "()I"⟩, 5) := ⟨⟨by decide +kernel, by decide +kernel⟩, List.mem_of_getElem? (i := 49) (by decide +kernel), List.mem_of_getElem? (i := 336) (by decide +kernel), List.mem_of_getElem? (i := 337) (by decide +kernel)⟩
theorem lw_p13 : lw_okq (⟨"EndorsedLedger$Run", "duplicateTop", "()V"⟩, 5) := ⟨⟨by decide +kernel, by decide +kernel⟩, List.mem_of_getElem? (i := 49) (by decide +kernel), List.mem_of_getElem? (i := 340) (by decide +kernel), List.mem_of_getElem? (i := 341) (by decide +kernel)⟩
theorem lw_p14 : lw_okq (⟨"EndorsedLedger$Run", "touchState", "(ILEndorsedLedger$WorldState;)V"⟩, 5) := ⟨⟨by decide +kernel, by decide +kernel⟩, List.mem_of_getElem? (i := 49) (by decide +kernel), List.mem_of_getElem? (i := 344) (by decide +kernel), List.mem_of_getElem? (i := 345) (by decide +kernel)⟩
theorem lw_p15 : lw_okq (⟨"EndorsedLedger$Run", "readKey", "(LEndorsedLedger$WorldState;)V"⟩, 5) := ⟨⟨by decide +kernel, by decide +kernel⟩, List.mem_of_getElem? (i := 49) (by decide +kernel), List.mem_of_getElem? (i := 348) (by decide +kernel), List.mem_of_getElem? (i := 349) (by decide +kernel)⟩
def lw_privs_1 : List (MethodName × Nat) := [(⟨"EndorsedLedger$Result", "clear", "()V"⟩, 2), (⟨"EndorsedLedger$Program", "addInstruction", "(II)Z"⟩, 6), (⟨"EndorsedLedger$Program", "addLeaf", "(I)Z"⟩, 6), (⟨"EndorsedLedger$Program", "putOnTop", "(I)V"⟩, 6), (⟨"EndorsedLedger$Program", "joinRules", "(II)Z"⟩, 6), (⟨"EndorsedLedger$Program", "countMetAmongTop", "(II)I"⟩, 6), (⟨"EndorsedLedger", "isUpPeer", "(I)Z"⟩, 12), (⟨"EndorsedLedger$Transaction", "isEndorsedBy", "(I)Z"⟩, 5), (⟨"EndorsedLedger$Run", "succeeds", "(LEndorsedLedger$Program;ILEndorsedLedger$WorldState;)Z"⟩, 5), (⟨"EndorsedLedger$Run", "step", "(IIILEndorsedLedger$WorldState;)V"⟩, 5), (⟨"EndorsedLedger$Run", "push", "(I)V"⟩, 5), (⟨"EndorsedLedger$Run", "calculate", "(I)V"⟩, 5), (⟨"EndorsedLedger$Run", "pop", "()I"⟩, 5), (⟨"EndorsedLedger$Run", "duplicateTop", "()V"⟩, 5), (⟨"EndorsedLedger$Run", "touchState", "(ILEndorsedLedger$WorldState;)V"⟩, 5), (⟨"EndorsedLedger$Run", "readKey", "(LEndorsedLedger$WorldState;)V"⟩, 5)]
theorem lw_r1 : ∀ q ∈ lw_privs_1, lw_okq q := List.forall_mem_cons.mpr ⟨lw_p0, List.forall_mem_cons.mpr ⟨lw_p1, List.forall_mem_cons.mpr ⟨lw_p2, List.forall_mem_cons.mpr ⟨lw_p3, List.forall_mem_cons.mpr ⟨lw_p4, List.forall_mem_cons.mpr ⟨lw_p5, List.forall_mem_cons.mpr ⟨lw_p6, List.forall_mem_cons.mpr ⟨lw_p7, List.forall_mem_cons.mpr ⟨lw_p8, List.forall_mem_cons.mpr ⟨lw_p9, List.forall_mem_cons.mpr ⟨lw_p10, List.forall_mem_cons.mpr ⟨lw_p11, List.forall_mem_cons.mpr ⟨lw_p12, List.forall_mem_cons.mpr ⟨lw_p13, List.forall_mem_cons.mpr ⟨lw_p14, List.forall_mem_cons.mpr ⟨lw_p15, fun _ h => absurd h List.not_mem_nil⟩⟩⟩⟩⟩⟩⟩⟩⟩⟩⟩⟩⟩⟩⟩⟩
theorem lw_p16 : lw_okq (⟨"EndorsedLedger$Run", "popKey", "()I"⟩, 5) := ⟨⟨by decide +kernel, by decide +kernel⟩, List.mem_of_getElem? (i := 49) (by decide +kernel), List.mem_of_getElem? (i := 352) (by decide +kernel), List.mem_of_getElem? (i := 353) (by decide +kernel)⟩
theorem lw_p17 : lw_okq (⟨"EndorsedLedger$Result", "read", "(III)V"⟩, 2) := ⟨⟨by decide +kernel, by decide +kernel⟩, List.mem_of_getElem? (i := 55) (by decide +kernel), List.mem_of_getElem? (i := 356) (by decide +kernel), List.mem_of_getElem? (i := 357) (by decide +kernel)⟩
theorem lw_p18 : lw_okq (⟨"EndorsedLedger$Result", "write", "(III)V"⟩, 2) := ⟨⟨by decide +kernel, by decide +kernel⟩, List.mem_of_getElem? (i := 55) (by decide +kernel), List.mem_of_getElem? (i := 360) (by decide +kernel), List.mem_of_getElem? (i := 361) (by decide +kernel)⟩
theorem lw_p19 : lw_okq (⟨"EndorsedLedger$Run", "addUp", "(LEndorsedLedger$WorldState;)V"⟩, 5) := ⟨⟨by decide +kernel, by decide +kernel⟩, List.mem_of_getElem? (i := 49) (by decide +kernel), List.mem_of_getElem? (i := 364) (by decide +kernel), List.mem_of_getElem? (i := 365) (by decide +kernel)⟩
theorem lw_p20 : lw_okq (⟨"EndorsedLedger$Transaction", "hasResult", "()Z"⟩, 5) := ⟨⟨by decide +kernel, by decide +kernel⟩, List.mem_of_getElem? (i := 118) (by decide +kernel), List.mem_of_getElem? (i := 368) (by decide +kernel), List.mem_of_getElem? (i := 369) (by decide +kernel)⟩
theorem lw_p21 : lw_okq (⟨"EndorsedLedger$Result", "isSame", "(LEndorsedLedger$Result;)Z"⟩, 2) := ⟨⟨by decide +kernel, by decide +kernel⟩, List.mem_of_getElem? (i := 55) (by decide +kernel), List.mem_of_getElem? (i := 372) (by decide +kernel), List.mem_of_getElem? (i := 373) (by decide +kernel)⟩
theorem lw_p22 : lw_okq (⟨"EndorsedLedger$Result", "become", "(LEndorsedLedger$Result;)V"⟩, 2) := ⟨⟨by decide +kernel, by decide +kernel⟩, List.mem_of_getElem? (i := 55) (by decide +kernel), List.mem_of_getElem? (i := 376) (by decide +kernel), List.mem_of_getElem? (i := 377) (by decide +kernel)⟩
theorem lw_p23 : lw_okq (⟨"EndorsedLedger", "supporters", "(I)I"⟩, 12) := ⟨⟨by decide +kernel, by decide +kernel⟩, List.mem_of_getElem? (i := 15) (by decide +kernel), List.mem_of_getElem? (i := 391) (by decide +kernel), List.mem_of_getElem? (i := 392) (by decide +kernel)⟩
theorem lw_p24 : lw_okq (⟨"EndorsedLedger", "isNewer", "(LEndorsedLedger$BlockList;LEndorsedLedger$BlockList;)Z"⟩, 12) := ⟨⟨by decide +kernel, by decide +kernel⟩, List.mem_of_getElem? (i := 15) (by decide +kernel), List.mem_of_getElem? (i := 395) (by decide +kernel), List.mem_of_getElem? (i := 396) (by decide +kernel)⟩
theorem lw_p25 : lw_okq (⟨"EndorsedLedger", "lastTerm", "(LEndorsedLedger$BlockList;)I"⟩, 12) := ⟨⟨by decide +kernel, by decide +kernel⟩, List.mem_of_getElem? (i := 15) (by decide +kernel), List.mem_of_getElem? (i := 399) (by decide +kernel), List.mem_of_getElem? (i := 400) (by decide +kernel)⟩
theorem lw_p26 : lw_okq (⟨"EndorsedLedger", "greatestTerm", "()I"⟩, 12) := ⟨⟨by decide +kernel, by decide +kernel⟩, List.mem_of_getElem? (i := 15) (by decide +kernel), List.mem_of_getElem? (i := 403) (by decide +kernel), List.mem_of_getElem? (i := 404) (by decide +kernel)⟩
theorem lw_p27 : lw_okq (⟨"EndorsedLedger", "isLeader", "(I)Z"⟩, 12) := ⟨⟨by decide +kernel, by decide +kernel⟩, List.mem_of_getElem? (i := 15) (by decide +kernel), List.mem_of_getElem? (i := 414) (by decide +kernel), List.mem_of_getElem? (i := 415) (by decide +kernel)⟩
theorem lw_p28 : lw_okq (⟨"EndorsedLedger$Block", "fill", "([III)V"⟩, 3) := ⟨⟨by decide +kernel, by decide +kernel⟩, List.mem_of_getElem? (i := 146) (by decide +kernel), List.mem_of_getElem? (i := 421) (by decide +kernel), List.mem_of_getElem? (i := 422) (by decide +kernel)⟩
theorem lw_p29 : lw_okq (⟨"EndorsedLedger", "dropFirstWaiting", "(I)V"⟩, 12) := ⟨⟨by decide +kernel, by decide +kernel⟩, List.mem_of_getElem? (i := 15) (by decide +kernel), List.mem_of_getElem? (i := 426) (by decide +kernel), List.mem_of_getElem? (i := 427) (by decide +kernel)⟩
theorem lw_p30 : lw_okq (⟨"EndorsedLedger$BlockList", "add", "(I)V"⟩, 2) := ⟨⟨by decide +kernel, by decide +kernel⟩, List.mem_of_getElem? (i := 31) (by decide +kernel), List.mem_of_getElem? (i := 431) (by decide +kernel), List.mem_of_getElem? (i := 432) (by decide +kernel)⟩
theorem lw_p31 : lw_okq (⟨"EndorsedLedger$BlockList", "sameAtBeginning", "(LEndorsedLedger$BlockList;)I"⟩, 2) := ⟨⟨by decide +kernel, by decide +kernel⟩, List.mem_of_getElem? (i := 31) (by decide +kernel), List.mem_of_getElem? (i := 442) (by decide +kernel), List.mem_of_getElem? (i := 443) (by decide +kernel)⟩
def lw_privs_2 : List (MethodName × Nat) := [(⟨"EndorsedLedger$Run", "popKey", "()I"⟩, 5), (⟨"EndorsedLedger$Result", "read", "(III)V"⟩, 2), (⟨"EndorsedLedger$Result", "write", "(III)V"⟩, 2), (⟨"EndorsedLedger$Run", "addUp", "(LEndorsedLedger$WorldState;)V"⟩, 5), (⟨"EndorsedLedger$Transaction", "hasResult", "()Z"⟩, 5), (⟨"EndorsedLedger$Result", "isSame", "(LEndorsedLedger$Result;)Z"⟩, 2), (⟨"EndorsedLedger$Result", "become", "(LEndorsedLedger$Result;)V"⟩, 2), (⟨"EndorsedLedger", "supporters", "(I)I"⟩, 12), (⟨"EndorsedLedger", "isNewer", "(LEndorsedLedger$BlockList;LEndorsedLedger$BlockList;)Z"⟩, 12), (⟨"EndorsedLedger", "lastTerm", "(LEndorsedLedger$BlockList;)I"⟩, 12), (⟨"EndorsedLedger", "greatestTerm", "()I"⟩, 12), (⟨"EndorsedLedger", "isLeader", "(I)Z"⟩, 12), (⟨"EndorsedLedger$Block", "fill", "([III)V"⟩, 3), (⟨"EndorsedLedger", "dropFirstWaiting", "(I)V"⟩, 12), (⟨"EndorsedLedger$BlockList", "add", "(I)V"⟩, 2), (⟨"EndorsedLedger$BlockList", "sameAtBeginning", "(LEndorsedLedger$BlockList;)I"⟩, 2)]
theorem lw_r2 : ∀ q ∈ lw_privs_2, lw_okq q := List.forall_mem_cons.mpr ⟨lw_p16, List.forall_mem_cons.mpr ⟨lw_p17, List.forall_mem_cons.mpr ⟨lw_p18, List.forall_mem_cons.mpr ⟨lw_p19, List.forall_mem_cons.mpr ⟨lw_p20, List.forall_mem_cons.mpr ⟨lw_p21, List.forall_mem_cons.mpr ⟨lw_p22, List.forall_mem_cons.mpr ⟨lw_p23, List.forall_mem_cons.mpr ⟨lw_p24, List.forall_mem_cons.mpr ⟨lw_p25, List.forall_mem_cons.mpr ⟨lw_p26, List.forall_mem_cons.mpr ⟨lw_p27, List.forall_mem_cons.mpr ⟨lw_p28, List.forall_mem_cons.mpr ⟨lw_p29, List.forall_mem_cons.mpr ⟨lw_p30, List.forall_mem_cons.mpr ⟨lw_p31, fun _ h => absurd h List.not_mem_nil⟩⟩⟩⟩⟩⟩⟩⟩⟩⟩⟩⟩⟩⟩⟩⟩
theorem lw_p32 : lw_okq (⟨"EndorsedLedger", "agreedCount", "(I)I"⟩, 12) := ⟨⟨by decide +kernel, by decide +kernel⟩, List.mem_of_getElem? (i := 15) (by decide +kernel), List.mem_of_getElem? (i := 447) (by decide +kernel), List.mem_of_getElem? (i := 448) (by decide +kernel)⟩
theorem lw_p33 : lw_okq (⟨"EndorsedLedger", "isHeldByAnother", "(III)Z"⟩, 12) := ⟨⟨by decide +kernel, by decide +kernel⟩, List.mem_of_getElem? (i := 15) (by decide +kernel), List.mem_of_getElem? (i := 451) (by decide +kernel), List.mem_of_getElem? (i := 452) (by decide +kernel)⟩
theorem lw_p34 : lw_okq (⟨"EndorsedLedger$BlockList", "becomeFirst", "(LEndorsedLedger$BlockList;I)V"⟩, 2) := ⟨⟨by decide +kernel, by decide +kernel⟩, List.mem_of_getElem? (i := 31) (by decide +kernel), List.mem_of_getElem? (i := 455) (by decide +kernel), List.mem_of_getElem? (i := 456) (by decide +kernel)⟩
theorem lw_p35 : lw_okq (⟨"EndorsedLedger", "powerOrderer", "(IZ)I"⟩, 12) := ⟨⟨by decide +kernel, by decide +kernel⟩, List.mem_of_getElem? (i := 15) (by decide +kernel), List.mem_of_getElem? (i := 464) (by decide +kernel), List.mem_of_getElem? (i := 465) (by decide +kernel)⟩
theorem lw_p36 : lw_okq (⟨"EndorsedLedger", "powerPeer", "(LEndorsedLedger$Peer;Z)I"⟩, 12) := ⟨⟨by decide +kernel, by decide +kernel⟩, List.mem_of_getElem? (i := 15) (by decide +kernel), List.mem_of_getElem? (i := 468) (by decide +kernel), List.mem_of_getElem? (i := 469) (by decide +kernel)⟩
theorem lw_p37 : lw_okq (⟨"EndorsedLedger", "comeBack", "(LEndorsedLedger$Peer;)I"⟩, 12) := ⟨⟨by decide +kernel, by decide +kernel⟩, List.mem_of_getElem? (i := 15) (by decide +kernel), List.mem_of_getElem? (i := 472) (by decide +kernel), List.mem_of_getElem? (i := 473) (by decide +kernel)⟩
theorem lw_p38 : lw_okq (⟨"EndorsedLedger$WorldState", "become", "(LEndorsedLedger$WorldState;)V"⟩, 3) := ⟨⟨by decide +kernel, by decide +kernel⟩, List.mem_of_getElem? (i := 190) (by decide +kernel), List.mem_of_getElem? (i := 476) (by decide +kernel), List.mem_of_getElem? (i := 477) (by decide +kernel)⟩
theorem lw_p39 : lw_okq (⟨"EndorsedLedger", "applyNext", "(LEndorsedLedger$Peer;)I"⟩, 12) := ⟨⟨by decide +kernel, by decide +kernel⟩, List.mem_of_getElem? (i := 15) (by decide +kernel), List.mem_of_getElem? (i := 481) (by decide +kernel), List.mem_of_getElem? (i := 482) (by decide +kernel)⟩
theorem lw_p40 : lw_okq (⟨"EndorsedLedger", "agreedBlock", "(I)LEndorsedLedger$Block;"⟩, 12) := ⟨⟨by decide +kernel, by decide +kernel⟩, List.mem_of_getElem? (i := 15) (by decide +kernel), List.mem_of_getElem? (i := 485) (by decide +kernel), List.mem_of_getElem? (i := 486) (by decide +kernel)⟩
theorem lw_p41 : lw_okq (⟨"EndorsedLedger", "judge", "(LEndorsedLedger$WorldState;II)I"⟩, 12) := ⟨⟨by decide +kernel, by decide +kernel⟩, List.mem_of_getElem? (i := 15) (by decide +kernel), List.mem_of_getElem? (i := 489) (by decide +kernel), List.mem_of_getElem? (i := 490) (by decide +kernel)⟩
theorem lw_p42 : lw_okq (⟨"EndorsedLedger", "standsEarlier", "(III)Z"⟩, 12) := ⟨⟨by decide +kernel, by decide +kernel⟩, List.mem_of_getElem? (i := 15) (by decide +kernel), List.mem_of_getElem? (i := 493) (by decide +kernel), List.mem_of_getElem? (i := 494) (by decide +kernel)⟩
theorem lw_p43 : lw_okq (⟨"EndorsedLedger$Block", "hasAmongFirst", "(II)Z"⟩, 3) := ⟨⟨by decide +kernel, by decide +kernel⟩, List.mem_of_getElem? (i := 146) (by decide +kernel), List.mem_of_getElem? (i := 497) (by decide +kernel), List.mem_of_getElem? (i := 498) (by decide +kernel)⟩
theorem lw_p44 : lw_okq (⟨"EndorsedLedger$Program", "isMetBy", "(I)Z"⟩, 6) := ⟨⟨by decide +kernel, by decide +kernel⟩, List.mem_of_getElem? (i := 91) (by decide +kernel), List.mem_of_getElem? (i := 501) (by decide +kernel), List.mem_of_getElem? (i := 502) (by decide +kernel)⟩
theorem lw_p45 : lw_okq (⟨"EndorsedLedger$Result", "readsHold", "(LEndorsedLedger$WorldState;)Z"⟩, 2) := ⟨⟨by decide +kernel, by decide +kernel⟩, List.mem_of_getElem? (i := 55) (by decide +kernel), List.mem_of_getElem? (i := 505) (by decide +kernel), List.mem_of_getElem? (i := 506) (by decide +kernel)⟩
theorem lw_p46 : lw_okq (⟨"EndorsedLedger$Result", "versionsHold", "(ILEndorsedLedger$WorldState;)Z"⟩, 2) := ⟨⟨by decide +kernel, by decide +kernel⟩, List.mem_of_getElem? (i := 55) (by decide +kernel), List.mem_of_getElem? (i := 509) (by decide +kernel), List.mem_of_getElem? (i := 510) (by decide +kernel)⟩
theorem lw_p47 : lw_okq (⟨"EndorsedLedger$Result", "rangesHold", "(LEndorsedLedger$WorldState;)Z"⟩, 2) := ⟨⟨by decide +kernel, by decide +kernel⟩, List.mem_of_getElem? (i := 55) (by decide +kernel), List.mem_of_getElem? (i := 513) (by decide +kernel), List.mem_of_getElem? (i := 514) (by decide +kernel)⟩
def lw_privs_3 : List (MethodName × Nat) := [(⟨"EndorsedLedger", "agreedCount", "(I)I"⟩, 12), (⟨"EndorsedLedger", "isHeldByAnother", "(III)Z"⟩, 12), (⟨"EndorsedLedger$BlockList", "becomeFirst", "(LEndorsedLedger$BlockList;I)V"⟩, 2), (⟨"EndorsedLedger", "powerOrderer", "(IZ)I"⟩, 12), (⟨"EndorsedLedger", "powerPeer", "(LEndorsedLedger$Peer;Z)I"⟩, 12), (⟨"EndorsedLedger", "comeBack", "(LEndorsedLedger$Peer;)I"⟩, 12), (⟨"EndorsedLedger$WorldState", "become", "(LEndorsedLedger$WorldState;)V"⟩, 3), (⟨"EndorsedLedger", "applyNext", "(LEndorsedLedger$Peer;)I"⟩, 12), (⟨"EndorsedLedger", "agreedBlock", "(I)LEndorsedLedger$Block;"⟩, 12), (⟨"EndorsedLedger", "judge", "(LEndorsedLedger$WorldState;II)I"⟩, 12), (⟨"EndorsedLedger", "standsEarlier", "(III)Z"⟩, 12), (⟨"EndorsedLedger$Block", "hasAmongFirst", "(II)Z"⟩, 3), (⟨"EndorsedLedger$Program", "isMetBy", "(I)Z"⟩, 6), (⟨"EndorsedLedger$Result", "readsHold", "(LEndorsedLedger$WorldState;)Z"⟩, 2), (⟨"EndorsedLedger$Result", "versionsHold", "(ILEndorsedLedger$WorldState;)Z"⟩, 2), (⟨"EndorsedLedger$Result", "rangesHold", "(LEndorsedLedger$WorldState;)Z"⟩, 2)]
theorem lw_r3 : ∀ q ∈ lw_privs_3, lw_okq q := List.forall_mem_cons.mpr ⟨lw_p32, List.forall_mem_cons.mpr ⟨lw_p33, List.forall_mem_cons.mpr ⟨lw_p34, List.forall_mem_cons.mpr ⟨lw_p35, List.forall_mem_cons.mpr ⟨lw_p36, List.forall_mem_cons.mpr ⟨lw_p37, List.forall_mem_cons.mpr ⟨lw_p38, List.forall_mem_cons.mpr ⟨lw_p39, List.forall_mem_cons.mpr ⟨lw_p40, List.forall_mem_cons.mpr ⟨lw_p41, List.forall_mem_cons.mpr ⟨lw_p42, List.forall_mem_cons.mpr ⟨lw_p43, List.forall_mem_cons.mpr ⟨lw_p44, List.forall_mem_cons.mpr ⟨lw_p45, List.forall_mem_cons.mpr ⟨lw_p46, List.forall_mem_cons.mpr ⟨lw_p47, fun _ h => absurd h List.not_mem_nil⟩⟩⟩⟩⟩⟩⟩⟩⟩⟩⟩⟩⟩⟩⟩⟩
theorem lw_p48 : lw_okq (⟨"EndorsedLedger$Result", "writeTo", "(LEndorsedLedger$WorldState;I)V"⟩, 2) := ⟨⟨by decide +kernel, by decide +kernel⟩, List.mem_of_getElem? (i := 55) (by decide +kernel), List.mem_of_getElem? (i := 517) (by decide +kernel), List.mem_of_getElem? (i := 518) (by decide +kernel)⟩
theorem lw_p49 : lw_okq (⟨"EndorsedLedger$Peer", "finishBlock", "()V"⟩, 5) := ⟨⟨by decide +kernel, by decide +kernel⟩, List.mem_of_getElem? (i := 184) (by decide +kernel), List.mem_of_getElem? (i := 521) (by decide +kernel), List.mem_of_getElem? (i := 522) (by decide +kernel)⟩
theorem lw_p50 : lw_okq (⟨"EndorsedLedger", "canStoreNext", "(I)Z"⟩, 12) := ⟨⟨by decide +kernel, by decide +kernel⟩, List.mem_of_getElem? (i := 15) (by decide +kernel), List.mem_of_getElem? (i := 530) (by decide +kernel), List.mem_of_getElem? (i := 531) (by decide +kernel)⟩
theorem lw_p51 : lw_okq (⟨"EndorsedLedger$Result", "readCount", "()I"⟩, 2) := ⟨⟨by decide +kernel, by decide +kernel⟩, List.mem_of_getElem? (i := 55) (by decide +kernel), List.mem_of_getElem? (i := 542) (by decide +kernel), List.mem_of_getElem? (i := 543) (by decide +kernel)⟩
theorem lw_p52 : lw_okq (⟨"EndorsedLedger$Result", "countOtherThan", "(II)I"⟩, 2) := ⟨⟨by decide +kernel, by decide +kernel⟩, List.mem_of_getElem? (i := 55) (by decide +kernel), List.mem_of_getElem? (i := 546) (by decide +kernel), List.mem_of_getElem? (i := 547) (by decide +kernel)⟩
theorem lw_p53 : lw_okq (⟨"EndorsedLedger$Result", "writtenCount", "()I"⟩, 2) := ⟨⟨by decide +kernel, by decide +kernel⟩, List.mem_of_getElem? (i := 55) (by decide +kernel), List.mem_of_getElem? (i := 550) (by decide +kernel), List.mem_of_getElem? (i := 551) (by decide +kernel)⟩
theorem lw_p54 : lw_okq (⟨"EndorsedLedger$Block", "transactionAt", "(I)I"⟩, 3) := ⟨⟨by decide +kernel, by decide +kernel⟩, List.mem_of_getElem? (i := 146) (by decide +kernel), List.mem_of_getElem? (i := 570) (by decide +kernel), List.mem_of_getElem? (i := 571) (by decide +kernel)⟩
theorem lw_p55 : lw_okq (⟨"EndorsedLedger", "nodesUp", "()I"⟩, 12) := ⟨⟨by decide +kernel, by decide +kernel⟩, List.mem_of_getElem? (i := 15) (by decide +kernel), List.mem_of_getElem? (i := 583) (by decide +kernel), List.mem_of_getElem? (i := 584) (by decide +kernel)⟩
theorem lw_p56 : lw_okq (⟨"EndorsedLedgerModel", "there", "(I)Z"⟩, 45) := ⟨⟨by decide +kernel, by decide +kernel⟩, List.mem_of_getElem? (i := 587) (by decide +kernel), List.mem_of_getElem? (i := 749) (by decide +kernel), List.mem_of_getElem? (i := 750) (by decide +kernel)⟩
theorem lw_p57 : lw_okq (⟨"EndorsedLedgerModel", "upright", "(I)Z"⟩, 45) := ⟨⟨by decide +kernel, by decide +kernel⟩, List.mem_of_getElem? (i := 587) (by decide +kernel), List.mem_of_getElem? (i := 753) (by decide +kernel), List.mem_of_getElem? (i := 754) (by decide +kernel)⟩
theorem lw_p58 : lw_okq (⟨"EndorsedLedgerModel", "go", "(I)V"⟩, 45) := ⟨⟨by decide +kernel, by decide +kernel⟩, List.mem_of_getElem? (i := 587) (by decide +kernel), List.mem_of_getElem? (i := 757) (by decide +kernel), List.mem_of_getElem? (i := 758) (by decide +kernel)⟩
theorem lw_p59 : lw_okq (⟨"EndorsedLedgerModel", "flagOf", "(I)I"⟩, 45) := ⟨⟨by decide +kernel, by decide +kernel⟩, List.mem_of_getElem? (i := 587) (by decide +kernel), List.mem_of_getElem? (i := 761) (by decide +kernel), List.mem_of_getElem? (i := 762) (by decide +kernel)⟩
theorem lw_p60 : lw_okq (⟨"EndorsedLedgerModel", "fulfils", "(II)Z"⟩, 45) := ⟨⟨by decide +kernel, by decide +kernel⟩, List.mem_of_getElem? (i := 587) (by decide +kernel), List.mem_of_getElem? (i := 765) (by decide +kernel), List.mem_of_getElem? (i := 766) (by decide +kernel)⟩
theorem lw_p61 : lw_okq (⟨"EndorsedLedgerModel", "run", "(II)V"⟩, 45) := ⟨⟨by decide +kernel, by decide +kernel⟩, List.mem_of_getElem? (i := 587) (by decide +kernel), List.mem_of_getElem? (i := 769) (by decide +kernel), List.mem_of_getElem? (i := 770) (by decide +kernel)⟩
theorem lw_p62 : lw_okq (⟨"EndorsedLedgerModel", "reckon", "(II)V"⟩, 45) := ⟨⟨by decide +kernel, by decide +kernel⟩, List.mem_of_getElem? (i := 587) (by decide +kernel), List.mem_of_getElem? (i := 773) (by decide +kernel), List.mem_of_getElem? (i := 774) (by decide +kernel)⟩
theorem lw_p63 : lw_okq (⟨"EndorsedLedgerModel", "push", "(I)V"⟩, 45) := ⟨⟨by decide +kernel, by decide +kernel⟩, List.mem_of_getElem? (i := 587) (by decide +kernel), List.mem_of_getElem? (i := 777) (by decide +kernel), List.mem_of_getElem? (i := 778) (by decide +kernel)⟩
def lw_privs_4 : List (MethodName × Nat) := [(⟨"EndorsedLedger$Result", "writeTo", "(LEndorsedLedger$WorldState;I)V"⟩, 2), (⟨"EndorsedLedger$Peer", "finishBlock", "()V"⟩, 5), (⟨"EndorsedLedger", "canStoreNext", "(I)Z"⟩, 12), (⟨"EndorsedLedger$Result", "readCount", "()I"⟩, 2), (⟨"EndorsedLedger$Result", "countOtherThan", "(II)I"⟩, 2), (⟨"EndorsedLedger$Result", "writtenCount", "()I"⟩, 2), (⟨"EndorsedLedger$Block", "transactionAt", "(I)I"⟩, 3), (⟨"EndorsedLedger", "nodesUp", "()I"⟩, 12), (⟨"EndorsedLedgerModel", "there", "(I)Z"⟩, 45), (⟨"EndorsedLedgerModel", "upright", "(I)Z"⟩, 45), (⟨"EndorsedLedgerModel", "go", "(I)V"⟩, 45), (⟨"EndorsedLedgerModel", "flagOf", "(I)I"⟩, 45), (⟨"EndorsedLedgerModel", "fulfils", "(II)Z"⟩, 45), (⟨"EndorsedLedgerModel", "run", "(II)V"⟩, 45), (⟨"EndorsedLedgerModel", "reckon", "(II)V"⟩, 45), (⟨"EndorsedLedgerModel", "push", "(I)V"⟩, 45)]
theorem lw_r4 : ∀ q ∈ lw_privs_4, lw_okq q := List.forall_mem_cons.mpr ⟨lw_p48, List.forall_mem_cons.mpr ⟨lw_p49, List.forall_mem_cons.mpr ⟨lw_p50, List.forall_mem_cons.mpr ⟨lw_p51, List.forall_mem_cons.mpr ⟨lw_p52, List.forall_mem_cons.mpr ⟨lw_p53, List.forall_mem_cons.mpr ⟨lw_p54, List.forall_mem_cons.mpr ⟨lw_p55, List.forall_mem_cons.mpr ⟨lw_p56, List.forall_mem_cons.mpr ⟨lw_p57, List.forall_mem_cons.mpr ⟨lw_p58, List.forall_mem_cons.mpr ⟨lw_p59, List.forall_mem_cons.mpr ⟨lw_p60, List.forall_mem_cons.mpr ⟨lw_p61, List.forall_mem_cons.mpr ⟨lw_p62, List.forall_mem_cons.mpr ⟨lw_p63, fun _ h => absurd h List.not_mem_nil⟩⟩⟩⟩⟩⟩⟩⟩⟩⟩⟩⟩⟩⟩⟩⟩
theorem lw_p64 : lw_okq (⟨"EndorsedLedgerModel", "pop", "()I"⟩, 45) := ⟨⟨by decide +kernel, by decide +kernel⟩, List.mem_of_getElem? (i := 587) (by decide +kernel), List.mem_of_getElem? (i := 781) (by decide +kernel), List.mem_of_getElem? (i := 782) (by decide +kernel)⟩
theorem lw_p65 : lw_okq (⟨"EndorsedLedgerModel", "touch", "(I)V"⟩, 45) := ⟨⟨by decide +kernel, by decide +kernel⟩, List.mem_of_getElem? (i := 587) (by decide +kernel), List.mem_of_getElem? (i := 785) (by decide +kernel), List.mem_of_getElem? (i := 786) (by decide +kernel)⟩
theorem lw_p66 : lw_okq (⟨"EndorsedLedgerModel", "range", "(II)V"⟩, 45) := ⟨⟨by decide +kernel, by decide +kernel⟩, List.mem_of_getElem? (i := 587) (by decide +kernel), List.mem_of_getElem? (i := 789) (by decide +kernel), List.mem_of_getElem? (i := 790) (by decide +kernel)⟩
theorem lw_p67 : lw_okq (⟨"EndorsedLedgerModel", "agrees", "(I)Z"⟩, 45) := ⟨⟨by decide +kernel, by decide +kernel⟩, List.mem_of_getElem? (i := 587) (by decide +kernel), List.mem_of_getElem? (i := 793) (by decide +kernel), List.mem_of_getElem? (i := 794) (by decide +kernel)⟩
theorem lw_p68 : lw_okq (⟨"EndorsedLedgerModel", "keep", "(I)V"⟩, 45) := ⟨⟨by decide +kernel, by decide +kernel⟩, List.mem_of_getElem? (i := 587) (by decide +kernel), List.mem_of_getElem? (i := 797) (by decide +kernel), List.mem_of_getElem? (i := 798) (by decide +kernel)⟩
theorem lw_p69 : lw_okq (⟨"EndorsedLedgerModel", "orderer", "(I)Z"⟩, 45) := ⟨⟨by decide +kernel, by decide +kernel⟩, List.mem_of_getElem? (i := 587) (by decide +kernel), List.mem_of_getElem? (i := 809) (by decide +kernel), List.mem_of_getElem? (i := 810) (by decide +kernel)⟩
theorem lw_p70 : lw_okq (⟨"EndorsedLedgerModel", "newer", "(II)Z"⟩, 45) := ⟨⟨by decide +kernel, by decide +kernel⟩, List.mem_of_getElem? (i := 587) (by decide +kernel), List.mem_of_getElem? (i := 813) (by decide +kernel), List.mem_of_getElem? (i := 814) (by decide +kernel)⟩
theorem lw_p71 : lw_okq (⟨"EndorsedLedgerModel", "last", "(I)I"⟩, 45) := ⟨⟨by decide +kernel, by decide +kernel⟩, List.mem_of_getElem? (i := 587) (by decide +kernel), List.mem_of_getElem? (i := 817) (by decide +kernel), List.mem_of_getElem? (i := 818) (by decide +kernel)⟩
theorem lw_p72 : lw_okq (⟨"EndorsedLedgerModel", "at", "(II)I"⟩, 45) := ⟨⟨by decide +kernel, by decide +kernel⟩, List.mem_of_getElem? (i := 587) (by decide +kernel), List.mem_of_getElem? (i := 861) (by decide +kernel), List.mem_of_getElem? (i := 862) (by decide +kernel)⟩
def lw_privs_5 : List (MethodName × Nat) := [(⟨"EndorsedLedgerModel", "pop", "()I"⟩, 45), (⟨"EndorsedLedgerModel", "touch", "(I)V"⟩, 45), (⟨"EndorsedLedgerModel", "range", "(II)V"⟩, 45), (⟨"EndorsedLedgerModel", "agrees", "(I)Z"⟩, 45), (⟨"EndorsedLedgerModel", "keep", "(I)V"⟩, 45), (⟨"EndorsedLedgerModel", "orderer", "(I)Z"⟩, 45), (⟨"EndorsedLedgerModel", "newer", "(II)Z"⟩, 45), (⟨"EndorsedLedgerModel", "last", "(I)I"⟩, 45), (⟨"EndorsedLedgerModel", "at", "(II)I"⟩, 45)]
theorem lw_r5 : ∀ q ∈ lw_privs_5, lw_okq q := List.forall_mem_cons.mpr ⟨lw_p64, List.forall_mem_cons.mpr ⟨lw_p65, List.forall_mem_cons.mpr ⟨lw_p66, List.forall_mem_cons.mpr ⟨lw_p67, List.forall_mem_cons.mpr ⟨lw_p68, List.forall_mem_cons.mpr ⟨lw_p69, List.forall_mem_cons.mpr ⟨lw_p70, List.forall_mem_cons.mpr ⟨lw_p71, List.forall_mem_cons.mpr ⟨lw_p72, fun _ h => absurd h List.not_mem_nil⟩⟩⟩⟩⟩⟩⟩⟩⟩
def lw_privs : List (MethodName × Nat) := lw_privs_1 ++ (lw_privs_2 ++ (lw_privs_3 ++ (lw_privs_4 ++ (lw_privs_5))))
def lw_tbl : List Cond := k2_sels lw_privs ++ tables_1
theorem lw_privs_ok : ∀ q ∈ lw_privs, lw_okq q := by
  show ∀ q ∈ lw_privs_1 ++ (lw_privs_2 ++ (lw_privs_3 ++ (lw_privs_4 ++ (lw_privs_5)))), lw_okq q
  exact List.forall_mem_append.mpr ⟨lw_r1, List.forall_mem_append.mpr ⟨lw_r2, List.forall_mem_append.mpr ⟨lw_r3, List.forall_mem_append.mpr ⟨lw_r4, lw_r5⟩⟩⟩⟩
end
section
/-! TABLES: my numbers of classes, fields, methods; what the pool links; written by wip/whole/draft/gen_tables.py out of the Statement and javap's listing -/
def ew : List Cond := lw_tbl.filter goodWord
theorem T_good : ∀ w ∈ ew, (w.onTables && w.keeps) = true ∨ ∃ ty, w = .arrayClass ty := fun w h => good_of_word (List.mem_filter.mp h).2
/-- a word by its place -/
def ew_is (ix : Nat) (w : Cond) : Bool := decide (lw_tbl[ix]? = some w) && goodWord w
theorem ew_in {ix : Nat} {w : Cond} (h : ew_is ix w = true) : w ∈ ew := by
  unfold ew_is at h
  simp only [Bool.and_eq_true, decide_eq_true_eq] at h
  exact List.mem_filter.mpr ⟨List.mem_of_getElem? h.1, h.2⟩
def oYl : List String := ["EndorsedLedger", "EndorsedLedger$Program", "EndorsedLedger$Run", "EndorsedLedger$Result", "EndorsedLedger$Transaction", "EndorsedLedger$Block", "EndorsedLedger$BlockList", "EndorsedLedger$Orderer", "EndorsedLedger$WorldState", "EndorsedLedger$Peer", "EndorsedLedgerModel", "EndorsedLedgerLaw"]
def oY (o : Nat) : String := oYl.getD o ""
def clFl : List (List (String × String × Bool × FieldType)) := [[("programs", "[LEndorsedLedger$Program;", true, .array (.object "EndorsedLedger$Program")), ("transactions", "[LEndorsedLedger$Transaction;", true, .array (.object "EndorsedLedger$Transaction")), ("proposed", "I", false, .int), ("waiting", "[I", true, .array (.int)), ("waitingCount", "I", false, .int), ("blocks", "[LEndorsedLedger$Block;", true, .array (.object "EndorsedLedger$Block")), ("cutCount", "I", false, .int), ("orderers", "[LEndorsedLedger$Orderer;", true, .array (.object "EndorsedLedger$Orderer")), ("leader", "I", false, .int), ("agreed", "LEndorsedLedger$BlockList;", true, .object "EndorsedLedger$BlockList"), ("peers", "[LEndorsedLedger$Peer;", true, .array (.object "EndorsedLedger$Peer")), ("run", "LEndorsedLedger$Run;", true, .object "EndorsedLedger$Run")],
  [("ops", "[I", true, .array (.int)), ("operands", "[I", true, .array (.int)), ("length", "I", false, .int), ("pile", "[I", true, .array (.int)), ("pileHeight", "I", false, .int), ("rulesMade", "I", false, .int)],
  [("stack", "[I", true, .array (.int)), ("result", "LEndorsedLedger$Result;", true, .object "EndorsedLedger$Result"), ("depth", "I", false, .int), ("leftOut", "I", false, .int), ("failed", "Z", false, .boolean)],
  [("cells", "[I", true, .array (.int)), ("ranges", "I", false, .int)],
  [("program", "I", false, .int), ("argument", "I", false, .int), ("endorsers", "I", false, .int), ("closed", "Z", false, .boolean), ("result", "LEndorsedLedger$Result;", true, .object "EndorsedLedger$Result")],
  [("members", "[I", true, .array (.int)), ("size", "I", false, .int), ("term", "I", false, .int)],
  [("numbers", "[I", true, .array (.int)), ("length", "I", false, .int)],
  [("up", "Z", false, .boolean), ("term", "I", false, .int), ("held", "LEndorsedLedger$BlockList;", true, .object "EndorsedLedger$BlockList")],
  [("versions", "[I", true, .array (.int)), ("values", "[I", true, .array (.int)), ("height", "I", false, .int)],
  [("up", "Z", false, .boolean), ("stored", "I", false, .int), ("current", "LEndorsedLedger$WorldState;", true, .object "EndorsedLedger$WorldState"), ("saved", "LEndorsedLedger$WorldState;", true, .object "EndorsedLedger$WorldState"), ("flags", "[I", true, .array (.int))],
  [("length", "[I", true, .array (.int)), ("op", "[I", true, .array (.int)), ("operand", "[I", true, .array (.int)), ("rules", "[I", true, .array (.int)), ("ruleK", "[I", true, .array (.int)), ("ruleN", "[I", true, .array (.int)), ("part", "[I", true, .array (.int)), ("pile", "[I", true, .array (.int)), ("high", "[I", true, .array (.int)), ("many", "I", false, .int), ("program", "[I", true, .array (.int)), ("argument", "[I", true, .array (.int)), ("endorsers", "[I", true, .array (.int)), ("closed", "[Z", true, .array (.boolean)), ("read", "[I", true, .array (.int)), ("wrote", "[I", true, .array (.int)), ("written", "[I", true, .array (.int)), ("ranges", "[I", true, .array (.int)), ("from", "[I", true, .array (.int)), ("to", "[I", true, .array (.int)), ("seen", "[I", true, .array (.int)), ("stack", "[I", true, .array (.int)), ("depth", "I", false, .int), ("failed", "Z", false, .boolean), ("queue", "[I", true, .array (.int)), ("waiting", "I", false, .int), ("blocks", "I", false, .int), ("block", "[I", true, .array (.int)), ("size", "[I", true, .array (.int)), ("cutIn", "[I", true, .array (.int)), ("off", "[Z", true, .array (.boolean)), ("term", "[I", true, .array (.int)), ("logs", "[I", true, .array (.int)), ("logged", "[I", true, .array (.int)), ("leader", "I", false, .int), ("chained", "[I", true, .array (.int)), ("chains", "I", false, .int), ("down", "[Z", true, .array (.boolean)), ("stored", "[I", true, .array (.int)), ("saved", "[I", true, .array (.int)), ("value", "[I", true, .array (.int)), ("version", "[I", true, .array (.int)), ("flags", "[I", true, .array (.int)), ("met", "[Z", true, .array (.boolean)), ("fulfilled", "[Z", true, .array (.boolean))]]
def clF (ci k : Nat) : String × String × Bool × FieldType := (clFl.getD ci []).getD k ("", "", false, .int)
def clT (ci : Nat) : u_T := fun k => (oY ci, (clF ci k).1, (clF ci k).2.1, (clF ci k).2.2.1)
def clN (ci : Nat) : Nat := (clFl.getD ci []).length
def xT (ci k : Nat) : FieldType := (clF ci k).2.2.2
def kI (ci k : Nat) : Bool := (clF ci k).2.2.1
def vwCl : List vw_C := (List.range 11).map (fun ci => (oY ci, clT ci, clN ci))
def xA : List FieldType := [.int, .boolean, .object "EndorsedLedger$Program", .object "EndorsedLedger$Transaction", .object "EndorsedLedger$Block", .object "EndorsedLedger$Orderer", .object "EndorsedLedger$Peer"]
def nA : List String := ["EndorsedLedger$Program", "EndorsedLedger$Transaction", "EndorsedLedger$Block", "EndorsedLedger$Orderer", "EndorsedLedger$Peer"]
def clLl : List (List Nat) := [[319, 321, 323, 325, 327, 329, 331, 333, 335, 337, 339, 341], [178, 180, 182, 184, 186, 188], [153, 155, 157, 159, 161], [142, 144], [208, 210, 212, 214, 216], [230, 232, 234], [113, 115], [250, 252, 254], [279, 281, 283], [296, 298, 300, 302, 304], [710, 712, 714, 716, 718, 720, 722, 724, 726, 728, 730, 732, 734, 736, 738, 740, 742, 744, 746, 748, 750, 752, 754, 756, 758, 760, 762, 764, 766, 768, 770, 772, 774, 776, 778, 780, 782, 784, 786, 788, 790, 792, 794, 796, 798]]
def clIl : List Nat := [88, 164, 122, 128, 191, 219, 104, 237, 263, 257, 660]
def clJl : List Nat := [74, 78, 76, 77, 79, 80, 75, 81, 83, 82, 84, 73]
def mYl : List MethodName := [⟨"EndorsedLedger", "<init>", "()V"⟩,
  ⟨"EndorsedLedger", "code", "(III)Z"⟩,
  ⟨"EndorsedLedger", "policy", "(III)Z"⟩,
  ⟨"EndorsedLedger", "propose", "(II)I"⟩,
  ⟨"EndorsedLedger", "endorse", "(II)I"⟩,
  ⟨"EndorsedLedger", "submit", "(I)Z"⟩,
  ⟨"EndorsedLedger", "elect", "(I)I"⟩,
  ⟨"EndorsedLedger", "cut", "(I)I"⟩,
  ⟨"EndorsedLedger", "copy", "(II)I"⟩,
  ⟨"EndorsedLedger", "power", "(IZ)I"⟩,
  ⟨"EndorsedLedger", "deliver", "(I)I"⟩,
  ⟨"EndorsedLedger", "tear", "(I)Z"⟩,
  ⟨"EndorsedLedger", "transaction", "(II)I"⟩,
  ⟨"EndorsedLedger", "access", "(III)I"⟩,
  ⟨"EndorsedLedger", "state", "(III)I"⟩,
  ⟨"EndorsedLedger", "flag", "(III)I"⟩,
  ⟨"EndorsedLedger", "chain", "(II)I"⟩,
  ⟨"EndorsedLedger", "log", "(III)I"⟩,
  ⟨"EndorsedLedger", "about", "(I)I"⟩,
  ⟨"EndorsedLedger", "within", "(II)Z"⟩,
  ⟨"EndorsedLedger", "isUpPeer", "(I)Z"⟩,
  ⟨"EndorsedLedger", "isLeader", "(I)Z"⟩,
  ⟨"EndorsedLedger", "nodesUp", "()I"⟩,
  ⟨"EndorsedLedger", "supporters", "(I)I"⟩,
  ⟨"EndorsedLedger", "isNewer", "(LEndorsedLedger$BlockList;LEndorsedLedger$BlockList;)Z"⟩,
  ⟨"EndorsedLedger", "lastTerm", "(LEndorsedLedger$BlockList;)I"⟩,
  ⟨"EndorsedLedger", "greatestTerm", "()I"⟩,
  ⟨"EndorsedLedger", "dropFirstWaiting", "(I)V"⟩,
  ⟨"EndorsedLedger", "bringNearer", "(LEndorsedLedger$BlockList;LEndorsedLedger$BlockList;)I"⟩,
  ⟨"EndorsedLedger", "agreedCount", "(I)I"⟩,
  ⟨"EndorsedLedger", "isHeldByAnother", "(III)Z"⟩,
  ⟨"EndorsedLedger", "powerOrderer", "(IZ)I"⟩,
  ⟨"EndorsedLedger", "powerPeer", "(LEndorsedLedger$Peer;Z)I"⟩,
  ⟨"EndorsedLedger", "comeBack", "(LEndorsedLedger$Peer;)I"⟩,
  ⟨"EndorsedLedger", "canStoreNext", "(I)Z"⟩,
  ⟨"EndorsedLedger", "agreedBlock", "(I)LEndorsedLedger$Block;"⟩,
  ⟨"EndorsedLedger", "applyNext", "(LEndorsedLedger$Peer;)I"⟩,
  ⟨"EndorsedLedger", "judge", "(LEndorsedLedger$WorldState;II)I"⟩,
  ⟨"EndorsedLedger", "standsEarlier", "(III)Z"⟩,
  ⟨"EndorsedLedger$Program", "<init>", "()V"⟩,
  ⟨"EndorsedLedger$Program", "addInstruction", "(II)Z"⟩,
  ⟨"EndorsedLedger$Program", "addLeaf", "(I)Z"⟩,
  ⟨"EndorsedLedger$Program", "joinRules", "(II)Z"⟩,
  ⟨"EndorsedLedger$Program", "countMetAmongTop", "(II)I"⟩,
  ⟨"EndorsedLedger$Program", "putOnTop", "(I)V"⟩,
  ⟨"EndorsedLedger$Program", "isMetBy", "(I)Z"⟩,
  ⟨"EndorsedLedger$Run", "<init>", "()V"⟩,
  ⟨"EndorsedLedger$Run", "succeeds", "(LEndorsedLedger$Program;ILEndorsedLedger$WorldState;)Z"⟩,
  ⟨"EndorsedLedger$Run", "step", "(IIILEndorsedLedger$WorldState;)V"⟩,
  ⟨"EndorsedLedger$Run", "calculate", "(I)V"⟩,
  ⟨"EndorsedLedger$Run", "duplicateTop", "()V"⟩,
  ⟨"EndorsedLedger$Run", "touchState", "(ILEndorsedLedger$WorldState;)V"⟩,
  ⟨"EndorsedLedger$Run", "readKey", "(LEndorsedLedger$WorldState;)V"⟩,
  ⟨"EndorsedLedger$Run", "addUp", "(LEndorsedLedger$WorldState;)V"⟩,
  ⟨"EndorsedLedger$Run", "push", "(I)V"⟩,
  ⟨"EndorsedLedger$Run", "pop", "()I"⟩,
  ⟨"EndorsedLedger$Run", "popKey", "()I"⟩,
  ⟨"EndorsedLedger$Result", "<init>", "()V"⟩,
  ⟨"EndorsedLedger$Result", "clear", "()V"⟩,
  ⟨"EndorsedLedger$Result", "become", "(LEndorsedLedger$Result;)V"⟩,
  ⟨"EndorsedLedger$Result", "isSame", "(LEndorsedLedger$Result;)Z"⟩,
  ⟨"EndorsedLedger$Result", "read", "(III)V"⟩,
  ⟨"EndorsedLedger$Result", "write", "(III)V"⟩,
  ⟨"EndorsedLedger$Result", "readCount", "()I"⟩,
  ⟨"EndorsedLedger$Result", "writtenCount", "()I"⟩,
  ⟨"EndorsedLedger$Result", "countOtherThan", "(II)I"⟩,
  ⟨"EndorsedLedger$Result", "readsHold", "(LEndorsedLedger$WorldState;)Z"⟩,
  ⟨"EndorsedLedger$Result", "rangesHold", "(LEndorsedLedger$WorldState;)Z"⟩,
  ⟨"EndorsedLedger$Result", "versionsHold", "(ILEndorsedLedger$WorldState;)Z"⟩,
  ⟨"EndorsedLedger$Result", "writeTo", "(LEndorsedLedger$WorldState;I)V"⟩,
  ⟨"EndorsedLedger$Transaction", "<init>", "()V"⟩,
  ⟨"EndorsedLedger$Transaction", "isEndorsedBy", "(I)Z"⟩,
  ⟨"EndorsedLedger$Transaction", "hasResult", "()Z"⟩,
  ⟨"EndorsedLedger$Block", "<init>", "()V"⟩,
  ⟨"EndorsedLedger$Block", "fill", "([III)V"⟩,
  ⟨"EndorsedLedger$Block", "transactionAt", "(I)I"⟩,
  ⟨"EndorsedLedger$Block", "hasAmongFirst", "(II)Z"⟩,
  ⟨"EndorsedLedger$BlockList", "<init>", "()V"⟩,
  ⟨"EndorsedLedger$BlockList", "add", "(I)V"⟩,
  ⟨"EndorsedLedger$BlockList", "sameAtBeginning", "(LEndorsedLedger$BlockList;)I"⟩,
  ⟨"EndorsedLedger$BlockList", "becomeFirst", "(LEndorsedLedger$BlockList;I)V"⟩,
  ⟨"EndorsedLedger$Orderer", "<init>", "()V"⟩,
  ⟨"EndorsedLedger$WorldState", "<init>", "()V"⟩,
  ⟨"EndorsedLedger$WorldState", "become", "(LEndorsedLedger$WorldState;)V"⟩,
  ⟨"EndorsedLedger$Peer", "<init>", "()V"⟩,
  ⟨"EndorsedLedger$Peer", "finishBlock", "()V"⟩,
  ⟨"EndorsedLedgerModel", "<init>", "()V"⟩,
  ⟨"EndorsedLedgerModel", "within", "(III)Z"⟩,
  ⟨"EndorsedLedgerModel", "code", "(III)Z"⟩,
  ⟨"EndorsedLedgerModel", "policy", "(III)Z"⟩,
  ⟨"EndorsedLedgerModel", "fulfils", "(II)Z"⟩,
  ⟨"EndorsedLedgerModel", "go", "(I)V"⟩,
  ⟨"EndorsedLedgerModel", "flagOf", "(I)I"⟩,
  ⟨"EndorsedLedgerModel", "pop", "()I"⟩,
  ⟨"EndorsedLedgerModel", "push", "(I)V"⟩,
  ⟨"EndorsedLedgerModel", "run", "(II)V"⟩,
  ⟨"EndorsedLedgerModel", "reckon", "(II)V"⟩,
  ⟨"EndorsedLedgerModel", "touch", "(I)V"⟩,
  ⟨"EndorsedLedgerModel", "range", "(II)V"⟩,
  ⟨"EndorsedLedgerModel", "agrees", "(I)Z"⟩,
  ⟨"EndorsedLedgerModel", "keep", "(I)V"⟩,
  ⟨"EndorsedLedgerModel", "there", "(I)Z"⟩,
  ⟨"EndorsedLedgerModel", "upright", "(I)Z"⟩,
  ⟨"EndorsedLedgerModel", "propose", "(II)I"⟩,
  ⟨"EndorsedLedgerModel", "endorse", "(II)I"⟩,
  ⟨"EndorsedLedgerModel", "submit", "(I)Z"⟩,
  ⟨"EndorsedLedgerModel", "orderer", "(I)Z"⟩,
  ⟨"EndorsedLedgerModel", "last", "(I)I"⟩,
  ⟨"EndorsedLedgerModel", "newer", "(II)Z"⟩,
  ⟨"EndorsedLedgerModel", "elect", "(I)I"⟩,
  ⟨"EndorsedLedgerModel", "cut", "(I)I"⟩,
  ⟨"EndorsedLedgerModel", "copy", "(II)I"⟩,
  ⟨"EndorsedLedgerModel", "power", "(IZ)I"⟩,
  ⟨"EndorsedLedgerModel", "deliver", "(I)I"⟩,
  ⟨"EndorsedLedgerModel", "tear", "(I)Z"⟩,
  ⟨"EndorsedLedgerModel", "transaction", "(II)I"⟩,
  ⟨"EndorsedLedgerModel", "access", "(III)I"⟩,
  ⟨"EndorsedLedgerModel", "state", "(III)I"⟩,
  ⟨"EndorsedLedgerModel", "flag", "(III)I"⟩,
  ⟨"EndorsedLedgerModel", "at", "(II)I"⟩,
  ⟨"EndorsedLedgerModel", "chain", "(II)I"⟩,
  ⟨"EndorsedLedgerModel", "log", "(III)I"⟩,
  ⟨"EndorsedLedgerModel", "about", "(I)I"⟩,
  ⟨"EndorsedLedgerLaw", "law", "([I)Z"⟩]
def mY (j : Nat) : MethodName := mYl.getD j ⟨"", "", ""⟩
def mBl : List ByteArray := [prog_1_method_1_code, prog_1_method_2_code, prog_1_method_3_code, prog_1_method_4_code, prog_1_method_5_code, prog_1_method_6_code, prog_1_method_7_code, prog_1_method_8_code, prog_1_method_9_code, prog_1_method_10_code, prog_1_method_11_code, prog_1_method_12_code, prog_1_method_13_code, prog_1_method_14_code, prog_1_method_15_code, prog_1_method_16_code, prog_1_method_17_code, prog_1_method_18_code, prog_1_method_19_code, prog_1_method_20_code, prog_1_method_21_code, prog_1_method_22_code, prog_1_method_23_code, prog_1_method_24_code, prog_1_method_25_code, prog_1_method_26_code, prog_1_method_27_code, prog_1_method_28_code, prog_1_method_29_code, prog_1_method_30_code, prog_1_method_31_code, prog_1_method_32_code, prog_1_method_33_code, prog_1_method_34_code, prog_1_method_35_code, prog_1_method_36_code, prog_1_method_37_code, prog_1_method_38_code, prog_1_method_39_code, prog_6_method_1_code, prog_6_method_2_code, prog_6_method_3_code, prog_6_method_4_code, prog_6_method_5_code, prog_6_method_6_code, prog_6_method_7_code, prog_8_method_1_code, prog_8_method_2_code, prog_8_method_3_code, prog_8_method_4_code, prog_8_method_5_code, prog_8_method_6_code, prog_8_method_7_code, prog_8_method_8_code, prog_8_method_9_code, prog_8_method_10_code, prog_8_method_11_code, prog_7_method_1_code, prog_7_method_2_code, prog_7_method_3_code, prog_7_method_4_code, prog_7_method_5_code, prog_7_method_6_code, prog_7_method_7_code, prog_7_method_8_code, prog_7_method_9_code, prog_7_method_10_code, prog_7_method_11_code, prog_7_method_12_code, prog_7_method_13_code, prog_9_method_1_code, prog_9_method_2_code, prog_9_method_3_code, prog_2_method_1_code, prog_2_method_2_code, prog_2_method_3_code, prog_2_method_4_code, prog_3_method_1_code, prog_3_method_2_code, prog_3_method_3_code, prog_3_method_4_code, prog_4_method_1_code, prog_10_method_1_code, prog_10_method_2_code, prog_5_method_1_code, prog_5_method_2_code, prog_12_method_1_code, prog_12_method_2_code, prog_12_method_3_code, prog_12_method_4_code, prog_12_method_5_code, prog_12_method_6_code, prog_12_method_7_code, prog_12_method_8_code, prog_12_method_9_code, prog_12_method_10_code, prog_12_method_11_code, prog_12_method_12_code, prog_12_method_13_code, prog_12_method_14_code, prog_12_method_15_code, prog_12_method_16_code, prog_12_method_17_code, prog_12_method_18_code, prog_12_method_19_code, prog_12_method_20_code, prog_12_method_21_code, prog_12_method_22_code, prog_12_method_23_code, prog_12_method_24_code, prog_12_method_25_code, prog_12_method_26_code, prog_12_method_27_code, prog_12_method_28_code, prog_12_method_29_code, prog_12_method_30_code, prog_12_method_31_code, prog_12_method_32_code, prog_12_method_33_code, prog_12_method_34_code, prog_12_method_35_code, prog_12_method_36_code, prog_12_method_37_code, code]
def mB (j : Nat) : ByteArray := mBl.getD j ⟨#[]⟩
def mLl : List Nat := [2, 4, 4, 3, 4, 2, 4, 4, 5, 3, 2, 2, 4, 5, 4, 4, 4, 5, 2, 2, 2, 2, 3, 4, 5, 2, 3, 2, 3, 5, 6, 3, 3, 4, 2, 2, 8, 6, 6, 1, 3, 4, 5, 5, 2, 2, 1, 5, 5, 4, 2, 4, 3, 6, 2, 1, 1, 1, 2, 2, 3, 4, 4, 1, 1, 5, 2, 2, 5, 5, 1, 2, 1, 1, 4, 2, 4, 1, 2, 4, 3, 1, 1, 2, 1, 1, 1, 3, 4, 7, 7, 7, 6, 1, 2, 7, 5, 5, 6, 5, 4, 2, 2, 3, 3, 2, 2, 2, 3, 5, 4, 9, 5, 4, 2, 6, 5, 4, 4, 3, 3, 5, 5, 4]
def mL (j : Nat) : Nat := mLl.getD j 0
def mRl : List (Option FieldType) := [none, (some FieldType.boolean), (some FieldType.boolean), (some FieldType.int), (some FieldType.int), (some FieldType.boolean), (some FieldType.int), (some FieldType.int), (some FieldType.int), (some FieldType.int), (some FieldType.int), (some FieldType.boolean), (some FieldType.int), (some FieldType.int), (some FieldType.int), (some FieldType.int), (some FieldType.int), (some FieldType.int), (some FieldType.int), (some FieldType.boolean), (some FieldType.boolean), (some FieldType.boolean), (some FieldType.int), (some FieldType.int), (some FieldType.boolean), (some FieldType.int), (some FieldType.int), none, (some FieldType.int), (some FieldType.int), (some FieldType.boolean), (some FieldType.int), (some FieldType.int), (some FieldType.int), (some FieldType.boolean), (some (FieldType.object "EndorsedLedger$Block")), (some FieldType.int), (some FieldType.int), (some FieldType.boolean), none, (some FieldType.boolean), (some FieldType.boolean), (some FieldType.boolean), (some FieldType.int), none, (some FieldType.boolean), none, (some FieldType.boolean), none, none, none, none, none, none, none, (some FieldType.int), (some FieldType.int), none, none, none, (some FieldType.boolean), none, none, (some FieldType.int), (some FieldType.int), (some FieldType.int), (some FieldType.boolean), (some FieldType.boolean), (some FieldType.boolean), none, none, (some FieldType.boolean), (some FieldType.boolean), none, none, (some FieldType.int), (some FieldType.boolean), none, none, (some FieldType.int), none, none, none, none, none, none, none, (some FieldType.boolean), (some FieldType.boolean), (some FieldType.boolean), (some FieldType.boolean), none, (some FieldType.int), (some FieldType.int), none, none, none, none, none, (some FieldType.boolean), none, (some FieldType.boolean), (some FieldType.boolean), (some FieldType.int), (some FieldType.int), (some FieldType.boolean), (some FieldType.boolean), (some FieldType.int), (some FieldType.boolean), (some FieldType.int), (some FieldType.int), (some FieldType.int), (some FieldType.int), (some FieldType.int), (some FieldType.boolean), (some FieldType.int), (some FieldType.int), (some FieldType.int), (some FieldType.int), (some FieldType.int), (some FieldType.int), (some FieldType.int), (some FieldType.int), some .boolean]
def mR (j : Nat) : Option FieldType := mRl.getD j none
def mKl : List Nat := [4, 2, 3, 2, 7, 2, 4, 3, 3, 7, 5, 4, 3, 2, 3, 3, 3, 3, 2, 1, 2, 2, 1, 3, 2, 1, 1, 1, 2, 2, 1, 1, 6, 5, 3, 1, 4, 3, 2, 1, 1, 2, 2, 1, 1, 1, 3, 6, 5, 2, 2, 4, 3, 3, 1, 1, 2, 2, 1, 1, 1, 1, 1, 2, 2, 1, 2, 2, 1, 1, 3, 1, 1, 1, 1, 2, 1, 1, 1, 1, 1, 2, 1, 1, 2, 2, 1, 1, 2, 2, 1, 3, 2, 1, 1, 4, 2, 3, 2, 1, 1, 1, 2, 2, 5, 2, 1, 1, 2, 3, 2, 2, 2, 4, 3, 2, 2, 4, 4, 1, 2, 2, 2, 8]
def mK (j : Nat) : Nat := mKl.getD j 0
def mQl : List Nat := [66, 22, 48, 21, 136, 21, 68, 49, 71, 145, 100, 63, 44, 21, 42, 42, 42, 42, 22, 0, 21, 21, 0, 45, 21, 0, 26, 26, 49, 25, 0, 0, 123, 100, 42, 0, 73, 48, 23, 26, 0, 21, 24, 0, 0, 0, 46, 112, 88, 21, 21, 65, 40, 40, 0, 0, 20, 26, 0, 26, 0, 0, 0, 24, 24, 0, 24, 24, 0, 0, 46, 0, 0, 26, 26, 21, 0, 26, 0, 26, 26, 46, 26, 26, 46, 47, 26, 0, 22, 22, 0, 51, 26, 0, 0, 70, 21, 46, 21, 0, 0, 0, 22, 22, 96, 21, 0, 0, 21, 43, 21, 21, 22, 77, 43, 22, 22, 77, 77, 0, 22, 22, 22, 167]
def mQ (j : Nat) : Nat := mQl.getD j 0
def mOl : List Nat := [0, 0, 0, 0, 0, 0, 0, 0, 0, 0, 0, 0, 0, 0, 0, 0, 0, 0, 0, 0, 0, 0, 0, 0, 0, 0, 0, 0, 0, 0, 0, 0, 0, 0, 0, 0, 0, 0, 0, 1, 1, 1, 1, 1, 1, 1, 2, 2, 2, 2, 2, 2, 2, 2, 2, 2, 2, 3, 3, 3, 3, 3, 3, 3, 3, 3, 3, 3, 3, 3, 4, 4, 4, 5, 5, 5, 5, 6, 6, 6, 6, 7, 8, 8, 9, 9, 10, 10, 10, 10, 10, 10, 10, 10, 10, 10, 10, 10, 10, 10, 10, 10, 10, 10, 10, 10, 10, 10, 10, 10, 10, 10, 10, 10, 10, 10, 10, 10, 10, 10, 10, 10, 10, 11]
def mO (j : Nat) : Nat := mOl.getD j 0
def mNl : List Nat := [0, 3, 3, 2, 2, 1, 1, 1, 2, 2, 1, 1, 2, 3, 3, 3, 2, 3, 1, 2, 1, 1, 0, 1, 2, 1, 0, 1, 2, 1, 3, 2, 2, 1, 1, 1, 1, 3, 3, 0, 2, 1, 2, 2, 1, 1, 0, 3, 4, 1, 0, 2, 1, 1, 1, 0, 0, 0, 0, 1, 1, 3, 3, 0, 0, 2, 1, 1, 2, 2, 0, 1, 0, 0, 3, 1, 2, 0, 1, 1, 2, 0, 0, 1, 0, 0, 0, 3, 3, 3, 2, 1, 1, 0, 1, 2, 2, 1, 2, 1, 1, 1, 1, 2, 2, 1, 1, 1, 2, 1, 1, 2, 2, 1, 1, 2, 3, 3, 3, 2, 2, 3, 1, 1]
def mN (j : Nat) : Nat := mNl.getD j 0
def mSl : List Bool := [false, false, false, false, false, false, false, false, false, false, false, false, false, false, false, false, false, false, false, true, false, false, false, false, false, false, false, false, true, false, false, false, false, false, false, false, false, false, false, false, false, false, false, false, false, false, false, false, false, false, false, false, false, false, false, false, false, false, false, false, false, false, false, false, false, false, false, false, false, false, false, false, false, false, false, false, false, false, false, false, false, false, false, false, false, false, false, true, false, false, false, false, false, false, false, false, false, false, false, false, false, false, false, false, false, false, false, false, false, false, false, false, false, false, false, false, false, false, false, false, false, false, false, true]
def mS (j : Nat) : Bool := mSl.getD j false
def nM : Nat := 123
def mCl : List Nat := [91, 347, 358, 378, 382, 458, 462, 485, 510, 535, 601, 609, 613, 629, 633, 637, 641, 650, 654, 350, 386, 489, 658, 466, 470, 474, 478, 501, 513, 522, 526, 539, 543, 547, 605, 560, 556, 564, 568, 167, 354, 362, 370, 374, 366, 576, 125, 394, 399, 407, 415, 419, 423, 439, 403, 411, 427, 131, 136, 451, 447, 431, 435, 617, 625, 621, 580, 588, 584, 592, 194, 390, 443, 222, 496, 645, 572, 107, 506, 517, 530, 240, 266, 551, 260, 596, 663, 808, 805, 812, 840, 832, 836, 856, 852, 844, 848, 860, 864, 868, 872, 824, 828, 816, 820, 876, 884, 892, 888, 880, 896, 900, 904, 908, 912, 916, 920, 924, 928, 936, 932, 940, 944]
/-- owner, index, class, field, nest mate?, the place of the word -/
def kFl : List (Nat × Nat × Nat × Nat × Bool × Nat) := [(6, 9, 6, 0, false, 109), (0, 241, 6, 0, true, 0), (6, 15, 6, 1, false, 111), (0, 155, 6, 1, true, 1), (3, 11, 3, 0, false, 137), (0, 214, 3, 0, true, 2), (3, 15, 3, 1, false, 139), (2, 94, 3, 1, true, 3), (0, 208, 3, 1, true, 4), (2, 9, 2, 0, false, 147), (2, 18, 2, 1, false, 148), (0, 121, 2, 1, true, 5), (2, 22, 2, 2, false, 150), (2, 26, 2, 3, false, 151), (2, 29, 2, 4, false, 152), (1, 9, 1, 0, false, 169), (2, 41, 1, 0, true, 6), (1, 15, 1, 1, false, 171), (2, 44, 1, 1, true, 7), (1, 18, 1, 2, false, 173), (2, 36, 1, 2, true, 8), (1, 22, 1, 3, false, 175), (1, 25, 1, 4, false, 176), (1, 28, 1, 5, false, 177), (4, 7, 4, 0, false, 198), (0, 89, 4, 0, true, 9), (4, 13, 4, 1, false, 200), (0, 92, 4, 1, true, 10), (4, 16, 4, 2, false, 202), (0, 132, 4, 2, true, 11), (4, 19, 4, 3, false, 204), (0, 98, 4, 3, true, 12), (4, 26, 4, 4, false, 206), (0, 117, 4, 4, true, 13), (5, 9, 5, 0, false, 224), (0, 285, 5, 0, true, 14), (5, 15, 5, 1, false, 226), (0, 232, 5, 1, true, 15), (5, 19, 5, 2, false, 228), (0, 244, 5, 2, true, 16), (7, 7, 7, 0, false, 244), (0, 135, 7, 0, true, 17), (7, 13, 7, 1, false, 246), (0, 146, 7, 1, true, 18), (7, 20, 7, 2, false, 248), (0, 152, 7, 2, true, 19), (8, 9, 8, 0, false, 268), (2, 83, 8, 0, true, 20), (3, 36, 8, 0, true, 21), (0, 217, 8, 0, true, 22), (8, 15, 8, 1, false, 272), (2, 91, 8, 1, true, 23), (3, 41, 8, 1, true, 24), (0, 222, 8, 1, true, 25), (8, 18, 8, 2, false, 276), (9, 33, 8, 2, true, 26), (0, 225, 8, 2, true, 27), (9, 9, 9, 0, false, 286), (0, 204, 9, 0, true, 28), (9, 15, 9, 1, false, 288), (0, 197, 9, 1, true, 29), (9, 22, 9, 2, false, 290), (0, 105, 9, 2, true, 30), (9, 26, 9, 3, false, 292), (0, 245, 9, 3, true, 31), (9, 29, 9, 4, false, 294), (0, 235, 9, 4, true, 32), (0, 11, 0, 0, false, 307), (0, 17, 0, 1, false, 308), (0, 21, 0, 2, false, 309), (0, 25, 0, 3, false, 310), (0, 29, 0, 4, false, 311), (0, 34, 0, 5, false, 312), (0, 38, 0, 6, false, 313), (0, 43, 0, 7, false, 314), (0, 47, 0, 8, false, 315), (0, 53, 0, 9, false, 316), (0, 59, 0, 10, false, 317), (0, 66, 0, 11, false, 318), (10, 7, 10, 0, false, 665), (10, 13, 10, 1, false, 666), (10, 16, 10, 2, false, 667), (10, 19, 10, 3, false, 668), (10, 22, 10, 4, false, 669), (10, 25, 10, 5, false, 670), (10, 28, 10, 6, false, 671), (10, 31, 10, 7, false, 672), (10, 34, 10, 8, false, 673), (10, 133, 10, 9, false, 674), (10, 37, 10, 10, false, 675), (10, 40, 10, 11, false, 676), (10, 43, 10, 12, false, 677), (10, 46, 10, 13, false, 678), (10, 50, 10, 14, false, 679), (10, 53, 10, 15, false, 680), (10, 56, 10, 16, false, 681), (10, 59, 10, 17, false, 682), (10, 62, 10, 18, false, 683), (10, 65, 10, 19, false, 684), (10, 68, 10, 20, false, 685), (10, 71, 10, 21, false, 686), (10, 144, 10, 22, false, 687), (10, 147, 10, 23, false, 688), (10, 74, 10, 24, false, 689), (10, 188, 10, 25, false, 690), (10, 200, 10, 26, false, 691), (10, 77, 10, 27, false, 692), (10, 80, 10, 28, false, 693), (10, 83, 10, 29, false, 694), (10, 86, 10, 30, false, 695), (10, 89, 10, 31, false, 696), (10, 92, 10, 32, false, 697), (10, 95, 10, 33, false, 698), (10, 98, 10, 34, false, 699), (10, 102, 10, 35, false, 700), (10, 203, 10, 36, false, 701), (10, 105, 10, 37, false, 702), (10, 108, 10, 38, false, 703), (10, 111, 10, 39, false, 704), (10, 114, 10, 40, false, 705), (10, 117, 10, 41, false, 706), (10, 120, 10, 42, false, 707), (10, 123, 10, 43, false, 708), (10, 126, 10, 44, false, 709)]
def kF (o idx : Nat) : Option (Nat × Nat × Bool) := (kFl.find? (fun q => q.1 == o && q.2.1 == idx)).map (fun q => (q.2.2.1, q.2.2.2.1, q.2.2.2.2.1))
def nWF : List (String × Nat × String × String × String × String) := [("EndorsedLedger", 241, "EndorsedLedger$BlockList", "numbers", "[I", "EndorsedLedger"), ("EndorsedLedger", 155, "EndorsedLedger$BlockList", "length", "I", "EndorsedLedger"), ("EndorsedLedger", 214, "EndorsedLedger$Result", "cells", "[I", "EndorsedLedger"), ("EndorsedLedger$Run", 94, "EndorsedLedger$Result", "ranges", "I", "EndorsedLedger"), ("EndorsedLedger", 208, "EndorsedLedger$Result", "ranges", "I", "EndorsedLedger"), ("EndorsedLedger", 121, "EndorsedLedger$Run", "result", "LEndorsedLedger$Result;", "EndorsedLedger"), ("EndorsedLedger$Run", 41, "EndorsedLedger$Program", "ops", "[I", "EndorsedLedger"), ("EndorsedLedger$Run", 44, "EndorsedLedger$Program", "operands", "[I", "EndorsedLedger"), ("EndorsedLedger$Run", 36, "EndorsedLedger$Program", "length", "I", "EndorsedLedger"), ("EndorsedLedger", 89, "EndorsedLedger$Transaction", "program", "I", "EndorsedLedger"), ("EndorsedLedger", 92, "EndorsedLedger$Transaction", "argument", "I", "EndorsedLedger"), ("EndorsedLedger", 132, "EndorsedLedger$Transaction", "endorsers", "I", "EndorsedLedger"), ("EndorsedLedger", 98, "EndorsedLedger$Transaction", "closed", "Z", "EndorsedLedger"), ("EndorsedLedger", 117, "EndorsedLedger$Transaction", "result", "LEndorsedLedger$Result;", "EndorsedLedger"), ("EndorsedLedger", 285, "EndorsedLedger$Block", "members", "[I", "EndorsedLedger"), ("EndorsedLedger", 232, "EndorsedLedger$Block", "size", "I", "EndorsedLedger"), ("EndorsedLedger", 244, "EndorsedLedger$Block", "term", "I", "EndorsedLedger"), ("EndorsedLedger", 135, "EndorsedLedger$Orderer", "up", "Z", "EndorsedLedger"), ("EndorsedLedger", 146, "EndorsedLedger$Orderer", "term", "I", "EndorsedLedger"), ("EndorsedLedger", 152, "EndorsedLedger$Orderer", "held", "LEndorsedLedger$BlockList;", "EndorsedLedger"), ("EndorsedLedger$Run", 83, "EndorsedLedger$WorldState", "versions", "[I", "EndorsedLedger"), ("EndorsedLedger$Result", 36, "EndorsedLedger$WorldState", "versions", "[I", "EndorsedLedger"), ("EndorsedLedger", 217, "EndorsedLedger$WorldState", "versions", "[I", "EndorsedLedger"), ("EndorsedLedger$Run", 91, "EndorsedLedger$WorldState", "values", "[I", "EndorsedLedger"), ("EndorsedLedger$Result", 41, "EndorsedLedger$WorldState", "values", "[I", "EndorsedLedger"), ("EndorsedLedger", 222, "EndorsedLedger$WorldState", "values", "[I", "EndorsedLedger"), ("EndorsedLedger$Peer", 33, "EndorsedLedger$WorldState", "height", "I", "EndorsedLedger"), ("EndorsedLedger", 225, "EndorsedLedger$WorldState", "height", "I", "EndorsedLedger"), ("EndorsedLedger", 204, "EndorsedLedger$Peer", "up", "Z", "EndorsedLedger"), ("EndorsedLedger", 197, "EndorsedLedger$Peer", "stored", "I", "EndorsedLedger"), ("EndorsedLedger", 105, "EndorsedLedger$Peer", "current", "LEndorsedLedger$WorldState;", "EndorsedLedger"), ("EndorsedLedger", 245, "EndorsedLedger$Peer", "saved", "LEndorsedLedger$WorldState;", "EndorsedLedger"), ("EndorsedLedger", 235, "EndorsedLedger$Peer", "flags", "[I", "EndorsedLedger")]
def nWFi : List Nat := [110, 112, 138, 140, 141, 149, 170, 172, 174, 199, 201, 203, 205, 207, 225, 227, 229, 245, 247, 249, 269, 270, 271, 273, 274, 275, 277, 278, 287, 289, 291, 293, 295]
/-- owner, index, method, how, the places of its words -/
def kMl : List (Nat × Nat × Nat × Nat × Nat × Nat × Nat) := [(0, 1, 0, 6, 92, 0, 0), (0, 52, 77, 5, 0, 106, 0), (0, 65, 46, 5, 1, 124, 0), (0, 70, 39, 5, 2, 166, 0), (0, 71, 70, 5, 3, 193, 0), (0, 72, 73, 5, 4, 221, 0), (0, 73, 81, 5, 5, 239, 0), (0, 74, 84, 5, 6, 259, 0), (0, 75, 19, 1, 348, 349, 0), (0, 79, 40, 3, 7, 353, 1), (0, 82, 41, 3, 8, 361, 2), (0, 86, 42, 3, 9, 369, 4), (0, 95, 20, 0, 383, 385, 6), (0, 102, 71, 3, 10, 389, 7), (0, 109, 47, 3, 11, 393, 8), (0, 113, 72, 3, 12, 442, 20), (0, 122, 60, 3, 13, 446, 21), (0, 128, 59, 3, 14, 450, 22), (0, 138, 23, 0, 463, 465, 23), (0, 142, 26, 0, 475, 477, 26), (0, 149, 21, 0, 486, 488, 27), (0, 158, 0, 8, 490, 0, 0), (0, 164, 74, 3, 15, 495, 28), (0, 168, 27, 0, 498, 500, 29), (0, 172, 78, 3, 16, 505, 30), (0, 175, 28, 1, 511, 512, 0), (0, 179, 29, 0, 519, 521, 32), (0, 182, 80, 3, 17, 529, 34), (0, 186, 31, 0, 536, 538, 35), (0, 190, 32, 0, 540, 542, 36), (0, 194, 34, 0, 602, 604, 50), (0, 200, 36, 0, 553, 555, 39), (0, 205, 63, 3, 18, 616, 51), (0, 211, 64, 3, 19, 624, 53), (0, 228, 35, 0, 557, 559, 40), (0, 238, 75, 3, 20, 644, 54), (0, 248, 22, 0, 655, 657, 55), (0, 251, 24, 0, 467, 469, 24), (0, 255, 25, 0, 471, 473, 25), (0, 259, 0, 7, 479, 0, 0), (0, 262, 0, 9, 502, 0, 0), (0, 268, 79, 3, 21, 516, 31), (0, 271, 30, 0, 523, 525, 33), (0, 275, 33, 0, 544, 546, 37), (0, 278, 83, 3, 22, 550, 38), (0, 281, 37, 0, 561, 563, 41), (0, 288, 69, 3, 23, 591, 48), (0, 292, 85, 3, 24, 595, 49), (0, 295, 38, 0, 565, 567, 42), (0, 298, 45, 3, 25, 575, 44), (0, 301, 66, 3, 26, 579, 45), (0, 305, 67, 3, 27, 587, 47), (0, 308, 76, 3, 28, 571, 43), (1, 3, 0, 6, 168, 0, 0), (1, 31, 44, 0, 363, 365, 3), (1, 35, 43, 0, 371, 373, 5), (2, 3, 0, 6, 126, 0, 0), (2, 17, 57, 5, 29, 130, 0), (2, 33, 58, 3, 30, 135, 0), (2, 47, 48, 0, 396, 398, 9), (2, 51, 54, 0, 400, 402, 10), (2, 55, 49, 0, 404, 406, 11), (2, 58, 50, 0, 412, 414, 13), (2, 61, 55, 0, 408, 410, 12), (2, 65, 51, 0, 416, 418, 14), (2, 69, 52, 0, 420, 422, 15), (2, 73, 56, 0, 424, 426, 16), (2, 76, 62, 3, 31, 434, 18), (2, 80, 53, 0, 436, 438, 19), (2, 88, 61, 3, 32, 430, 17), (3, 3, 0, 6, 132, 0, 0), (3, 19, 58, 0, 133, 135, 0), (3, 22, 0, 9, 452, 0, 0), (3, 28, 65, 0, 618, 620, 52), (3, 32, 68, 0, 581, 583, 46), (4, 1, 0, 6, 195, 0, 0), (4, 25, 57, 5, 33, 130, 0), (5, 3, 0, 6, 223, 0, 0), (5, 22, 0, 9, 497, 0, 0), (5, 28, 19, 4, 34, 349, 0), (6, 3, 0, 6, 108, 0, 0), (6, 19, 0, 8, 518, 0, 0), (6, 25, 0, 9, 531, 0, 0), (7, 1, 0, 6, 241, 0, 0), (7, 19, 77, 5, 35, 106, 0), (8, 3, 0, 6, 267, 0, 0), (8, 22, 0, 9, 552, 0, 0), (9, 3, 0, 6, 261, 0, 0), (9, 21, 82, 5, 36, 265, 0), (9, 36, 83, 3, 37, 550, 38), (10, 1, 0, 6, 664, 0, 0), (10, 129, 87, 1, 806, 807, 0), (10, 136, 92, 0, 833, 835, 59), (10, 140, 90, 0, 837, 839, 60), (10, 151, 96, 0, 845, 847, 62), (10, 155, 93, 0, 853, 855, 64), (10, 159, 97, 0, 857, 859, 65), (10, 163, 94, 0, 849, 851, 63), (10, 166, 98, 0, 861, 863, 66), (10, 169, 101, 0, 821, 823, 56), (10, 173, 102, 0, 825, 827, 57), (10, 176, 91, 0, 829, 831, 58), (10, 179, 95, 0, 841, 843, 61), (10, 182, 99, 0, 865, 867, 67), (10, 185, 100, 0, 869, 871, 68), (10, 191, 107, 0, 889, 891, 71), (10, 194, 106, 0, 881, 883, 69), (10, 197, 108, 0, 885, 887, 70), (10, 206, 119, 0, 933, 935, 72), (11, 9, 0, 2, 89, 90, 0), (11, 12, 86, 2, 661, 662, 0), (11, 13, 1, 0, 344, 345, 346), (11, 17, 88, 0, 802, 803, 804), (11, 18, 2, 0, 355, 356, 357), (11, 21, 89, 0, 809, 810, 811), (11, 22, 3, 0, 375, 376, 377), (11, 26, 103, 0, 813, 814, 815), (11, 27, 4, 0, 379, 380, 381), (11, 30, 104, 0, 817, 818, 819), (11, 31, 5, 0, 455, 456, 457), (11, 35, 105, 0, 873, 874, 875), (11, 36, 6, 0, 459, 460, 461), (11, 40, 109, 0, 877, 878, 879), (11, 41, 7, 0, 482, 483, 484), (11, 44, 110, 0, 893, 894, 895), (11, 45, 8, 0, 507, 508, 509), (11, 48, 111, 0, 897, 898, 899), (11, 49, 9, 0, 532, 533, 534), (11, 53, 112, 0, 901, 902, 903), (11, 54, 10, 0, 598, 599, 600), (11, 57, 113, 0, 905, 906, 907), (11, 58, 11, 0, 606, 607, 608), (11, 61, 114, 0, 909, 910, 911), (11, 62, 12, 0, 610, 611, 612), (11, 65, 115, 0, 913, 914, 915), (11, 66, 13, 0, 626, 627, 628), (11, 70, 116, 0, 917, 918, 919), (11, 71, 14, 0, 630, 631, 632), (11, 74, 117, 0, 921, 922, 923), (11, 75, 15, 0, 634, 635, 636), (11, 78, 118, 0, 925, 926, 927), (11, 79, 16, 0, 638, 639, 640), (11, 82, 120, 0, 929, 930, 931), (11, 83, 17, 0, 647, 648, 649), (11, 86, 121, 0, 937, 938, 939), (11, 87, 18, 0, 651, 652, 653), (11, 90, 122, 0, 941, 942, 943)]
def kM (o idx : Nat) : Option (Nat × Nat) := (kMl.find? (fun q => q.1 == o && q.2.1 == idx)).map (fun q => (q.2.2.1, q.2.2.2.1))
def nWM : List (String × Nat × MethodName × String) := [("EndorsedLedger", 52, ⟨"EndorsedLedger$BlockList", "<init>", "()V"⟩, "EndorsedLedger"), ("EndorsedLedger", 65, ⟨"EndorsedLedger$Run", "<init>", "()V"⟩, "EndorsedLedger"), ("EndorsedLedger", 70, ⟨"EndorsedLedger$Program", "<init>", "()V"⟩, "EndorsedLedger"), ("EndorsedLedger", 71, ⟨"EndorsedLedger$Transaction", "<init>", "()V"⟩, "EndorsedLedger"), ("EndorsedLedger", 72, ⟨"EndorsedLedger$Block", "<init>", "()V"⟩, "EndorsedLedger"), ("EndorsedLedger", 73, ⟨"EndorsedLedger$Orderer", "<init>", "()V"⟩, "EndorsedLedger"), ("EndorsedLedger", 74, ⟨"EndorsedLedger$Peer", "<init>", "()V"⟩, "EndorsedLedger"), ("EndorsedLedger", 79, ⟨"EndorsedLedger$Program", "addInstruction", "(II)Z"⟩, "EndorsedLedger"), ("EndorsedLedger", 82, ⟨"EndorsedLedger$Program", "addLeaf", "(I)Z"⟩, "EndorsedLedger"), ("EndorsedLedger", 86, ⟨"EndorsedLedger$Program", "joinRules", "(II)Z"⟩, "EndorsedLedger"), ("EndorsedLedger", 102, ⟨"EndorsedLedger$Transaction", "isEndorsedBy", "(I)Z"⟩, "EndorsedLedger"), ("EndorsedLedger", 109, ⟨"EndorsedLedger$Run", "succeeds", "(LEndorsedLedger$Program;ILEndorsedLedger$WorldState;)Z"⟩, "EndorsedLedger"), ("EndorsedLedger", 113, ⟨"EndorsedLedger$Transaction", "hasResult", "()Z"⟩, "EndorsedLedger"), ("EndorsedLedger", 122, ⟨"EndorsedLedger$Result", "isSame", "(LEndorsedLedger$Result;)Z"⟩, "EndorsedLedger"), ("EndorsedLedger", 128, ⟨"EndorsedLedger$Result", "become", "(LEndorsedLedger$Result;)V"⟩, "EndorsedLedger"), ("EndorsedLedger", 164, ⟨"EndorsedLedger$Block", "fill", "([III)V"⟩, "EndorsedLedger"), ("EndorsedLedger", 172, ⟨"EndorsedLedger$BlockList", "add", "(I)V"⟩, "EndorsedLedger"), ("EndorsedLedger", 182, ⟨"EndorsedLedger$BlockList", "becomeFirst", "(LEndorsedLedger$BlockList;I)V"⟩, "EndorsedLedger"), ("EndorsedLedger", 205, ⟨"EndorsedLedger$Result", "readCount", "()I"⟩, "EndorsedLedger"), ("EndorsedLedger", 211, ⟨"EndorsedLedger$Result", "writtenCount", "()I"⟩, "EndorsedLedger"), ("EndorsedLedger", 238, ⟨"EndorsedLedger$Block", "transactionAt", "(I)I"⟩, "EndorsedLedger"), ("EndorsedLedger", 268, ⟨"EndorsedLedger$BlockList", "sameAtBeginning", "(LEndorsedLedger$BlockList;)I"⟩, "EndorsedLedger"), ("EndorsedLedger", 278, ⟨"EndorsedLedger$WorldState", "become", "(LEndorsedLedger$WorldState;)V"⟩, "EndorsedLedger"), ("EndorsedLedger", 288, ⟨"EndorsedLedger$Result", "writeTo", "(LEndorsedLedger$WorldState;I)V"⟩, "EndorsedLedger"), ("EndorsedLedger", 292, ⟨"EndorsedLedger$Peer", "finishBlock", "()V"⟩, "EndorsedLedger"), ("EndorsedLedger", 298, ⟨"EndorsedLedger$Program", "isMetBy", "(I)Z"⟩, "EndorsedLedger"), ("EndorsedLedger", 301, ⟨"EndorsedLedger$Result", "readsHold", "(LEndorsedLedger$WorldState;)Z"⟩, "EndorsedLedger"), ("EndorsedLedger", 305, ⟨"EndorsedLedger$Result", "rangesHold", "(LEndorsedLedger$WorldState;)Z"⟩, "EndorsedLedger"), ("EndorsedLedger", 308, ⟨"EndorsedLedger$Block", "hasAmongFirst", "(II)Z"⟩, "EndorsedLedger"), ("EndorsedLedger$Run", 17, ⟨"EndorsedLedger$Result", "<init>", "()V"⟩, "EndorsedLedger"), ("EndorsedLedger$Run", 33, ⟨"EndorsedLedger$Result", "clear", "()V"⟩, "EndorsedLedger"), ("EndorsedLedger$Run", 76, ⟨"EndorsedLedger$Result", "write", "(III)V"⟩, "EndorsedLedger"), ("EndorsedLedger$Run", 88, ⟨"EndorsedLedger$Result", "read", "(III)V"⟩, "EndorsedLedger"), ("EndorsedLedger$Transaction", 25, ⟨"EndorsedLedger$Result", "<init>", "()V"⟩, "EndorsedLedger"), ("EndorsedLedger$Block", 28, ⟨"EndorsedLedger", "within", "(II)Z"⟩, "EndorsedLedger"), ("EndorsedLedger$Orderer", 19, ⟨"EndorsedLedger$BlockList", "<init>", "()V"⟩, "EndorsedLedger"), ("EndorsedLedger$Peer", 21, ⟨"EndorsedLedger$WorldState", "<init>", "()V"⟩, "EndorsedLedger"), ("EndorsedLedger$Peer", 36, ⟨"EndorsedLedger$WorldState", "become", "(LEndorsedLedger$WorldState;)V"⟩, "EndorsedLedger")]
def nWMi : List Nat := [105, 123, 165, 192, 220, 238, 258, 351, 359, 367, 387, 391, 440, 444, 448, 493, 503, 527, 614, 622, 642, 514, 548, 589, 593, 573, 577, 585, 569, 129, 395, 432, 428, 197, 646, 243, 264, 597]
def kCl : List (Nat × Nat × Nat × Nat) := [(0, 9, 1, 95), (0, 15, 4, 97), (0, 32, 5, 99), (0, 41, 7, 101), (0, 50, 6, 103), (0, 57, 9, 119), (0, 63, 2, 121), (2, 15, 3, 127), (4, 23, 3, 196), (7, 17, 6, 242), (9, 19, 8, 262), (11, 7, 0, 87), (11, 10, 10, 659)]
def kC (o idx : Nat) : Option Nat := (kCl.find? (fun q => q.1 == o && q.2.1 == idx)).map (fun q => q.2.2.1)
def kAl : List (Nat × Nat × Nat × Nat) := [(0, 9, 2, 95), (0, 15, 3, 97), (0, 32, 4, 99), (0, 41, 5, 101), (0, 57, 6, 119)]
def kA (o idx : Nat) : Option Nat := (kAl.find? (fun q => q.1 == o && q.2.1 == idx)).map (fun q => q.2.2.1)
def nAi : List Nat := [96, 98, 100, 102, 120]
end
section
set_option maxRecDepth 100000 in
theorem tb_cls : ∀ ci, ci < 11 → ∀ k, k < clN ci → ew_is ((clLl.getD ci []).getD k 0) (u_lay (oY ci) (clT ci) k) = true := by decide +kernel
set_option maxRecDepth 100000 in
theorem tb_ty : ∀ ci, ci < 11 → ∀ k, k < clN ci → parseFieldDescriptor (clT ci k).2.2.1 = some (xT ci k) := by decide +kernel
set_option maxRecDepth 100000 in
theorem tb_nm : ∀ ci, ci < 11 → ∀ a, a < clN ci → ∀ b, b < clN ci → a ≠ b → (clT ci a).2.1 ≠ (clT ci b).2.1 := by decide +kernel
set_option maxRecDepth 100000 in
theorem tb_in : ∀ ci, ci < 11 → ew_is (clIl.getD ci 0) (.instantiable (oY ci) (clN ci)) = true ∧ ew_is (clJl.getD ci 0) (.initialized (oY ci)) = true := by decide +kernel
def tb_k4 (t : FieldType) : Bool := match t with
  | .int => true
  | .boolean => true
  | .object _ => true
  | .array _ => true
  | _ => false
set_option maxRecDepth 100000 in
theorem tb_t4 : ∀ ci, ci < 11 → ∀ k, k < clN ci → tb_k4 (xT ci k) = true := by decide +kernel
def ck_F (q : Nat × Nat × Nat × Nat × Bool × Nat) : Bool := decide (q.2.2.1 < 11) && decide (q.2.2.2.1 < clN q.2.2.1) && (bif q.2.2.2.2.1 then decide (nWF[q.2.2.2.2.2]? = some (oY q.1, q.2.1, oY q.2.2.1, (clT q.2.2.1 q.2.2.2.1).2.1, (clT q.2.2.1 q.2.2.2.1).2.2.1, "EndorsedLedger")) else ew_is q.2.2.2.2.2 (.fieldLink (oY q.1) q.2.1 (oY q.2.2.1) (clT q.2.2.1 q.2.2.2.1).2.1 (clT q.2.2.1 q.2.2.2.1).2.2.1))
set_option maxRecDepth 100000 in
theorem ck_F_ok : kFl.all ck_F = true := by decide +kernel
theorem tb_F (q : Nat × Nat × Nat × Nat × Bool × Nat) (hq : q ∈ kFl) : q.2.2.1 < 11 ∧ q.2.2.2.1 < clN q.2.2.1 ∧ (q.2.2.2.2.1 = true → nWF[q.2.2.2.2.2]? = some (oY q.1, q.2.1, oY q.2.2.1, (clT q.2.2.1 q.2.2.2.1).2.1, (clT q.2.2.1 q.2.2.2.1).2.2.1, "EndorsedLedger")) ∧ (q.2.2.2.2.1 = false → ew_is q.2.2.2.2.2 (.fieldLink (oY q.1) q.2.1 (oY q.2.2.1) (clT q.2.2.1 q.2.2.2.1).2.1 (clT q.2.2.1 q.2.2.2.1).2.2.1) = true) := by
  have h := List.all_eq_true.mp ck_F_ok q hq
  unfold ck_F at h
  simp only [Bool.and_eq_true, decide_eq_true_eq] at h
  obtain ⟨⟨h1, h2⟩, h3⟩ := h
  refine ⟨h1, h2, fun hb => ?_, fun hb => ?_⟩
  · rw [hb] at h3
    exact of_decide_eq_true h3
  · rw [hb] at h3
    exact h3
def tm_P (j : Nat) : Prop := Cond.code (mY j) (mB j) (mL j) (mR j) ∈ ew
set_option maxRecDepth 100000 in
theorem tm_0 : tm_P 0 := List.mem_filter.mpr ⟨List.mem_append_right _ (show _ ∈ tables_1_1 ++ (tables_1_2 ++ (tables_1_3 ++ tables_1_4)) from List.mem_append_left _ (List.mem_of_getElem? (i := 18) (show tables_1_1[18]? = _ from rfl))), rfl⟩
set_option maxRecDepth 100000 in
theorem tm_1 : tm_P 1 := List.mem_filter.mpr ⟨List.mem_append_right _ (show _ ∈ tables_1_1 ++ (tables_1_2 ++ (tables_1_3 ++ tables_1_4)) from List.mem_append_right _ (List.mem_append_left _ (List.mem_of_getElem? (i := 34) (show tables_1_2[34]? = _ from rfl)))), rfl⟩
set_option maxRecDepth 100000 in
theorem tm_2 : tm_P 2 := List.mem_filter.mpr ⟨List.mem_append_right _ (show _ ∈ tables_1_1 ++ (tables_1_2 ++ (tables_1_3 ++ tables_1_4)) from List.mem_append_right _ (List.mem_append_left _ (List.mem_of_getElem? (i := 45) (show tables_1_2[45]? = _ from rfl)))), rfl⟩
set_option maxRecDepth 100000 in
theorem tm_3 : tm_P 3 := List.mem_filter.mpr ⟨List.mem_append_right _ (show _ ∈ tables_1_1 ++ (tables_1_2 ++ (tables_1_3 ++ tables_1_4)) from List.mem_append_right _ (List.mem_append_left _ (List.mem_of_getElem? (i := 65) (show tables_1_2[65]? = _ from rfl)))), rfl⟩
set_option maxRecDepth 100000 in
theorem tm_4 : tm_P 4 := List.mem_filter.mpr ⟨List.mem_append_right _ (show _ ∈ tables_1_1 ++ (tables_1_2 ++ (tables_1_3 ++ tables_1_4)) from List.mem_append_right _ (List.mem_append_left _ (List.mem_of_getElem? (i := 69) (show tables_1_2[69]? = _ from rfl)))), rfl⟩
set_option maxRecDepth 100000 in
theorem tm_5 : tm_P 5 := List.mem_filter.mpr ⟨List.mem_append_right _ (show _ ∈ tables_1_1 ++ (tables_1_2 ++ (tables_1_3 ++ tables_1_4)) from List.mem_append_right _ (List.mem_append_left _ (List.mem_of_getElem? (i := 145) (show tables_1_2[145]? = _ from rfl)))), rfl⟩
set_option maxRecDepth 100000 in
theorem tm_6 : tm_P 6 := List.mem_filter.mpr ⟨List.mem_append_right _ (show _ ∈ tables_1_1 ++ (tables_1_2 ++ (tables_1_3 ++ tables_1_4)) from List.mem_append_right _ (List.mem_append_left _ (List.mem_of_getElem? (i := 149) (show tables_1_2[149]? = _ from rfl)))), rfl⟩
set_option maxRecDepth 100000 in
theorem tm_7 : tm_P 7 := List.mem_filter.mpr ⟨List.mem_append_right _ (show _ ∈ tables_1_1 ++ (tables_1_2 ++ (tables_1_3 ++ tables_1_4)) from List.mem_append_right _ (List.mem_append_left _ (List.mem_of_getElem? (i := 172) (show tables_1_2[172]? = _ from rfl)))), rfl⟩
set_option maxRecDepth 100000 in
theorem tm_8 : tm_P 8 := List.mem_filter.mpr ⟨List.mem_append_right _ (show _ ∈ tables_1_1 ++ (tables_1_2 ++ (tables_1_3 ++ tables_1_4)) from List.mem_append_right _ (List.mem_append_left _ (List.mem_of_getElem? (i := 197) (show tables_1_2[197]? = _ from rfl)))), rfl⟩
set_option maxRecDepth 100000 in
theorem tm_9 : tm_P 9 := List.mem_filter.mpr ⟨List.mem_append_right _ (show _ ∈ tables_1_1 ++ (tables_1_2 ++ (tables_1_3 ++ tables_1_4)) from List.mem_append_right _ (List.mem_append_left _ (List.mem_of_getElem? (i := 222) (show tables_1_2[222]? = _ from rfl)))), rfl⟩
set_option maxRecDepth 100000 in
theorem tm_10 : tm_P 10 := List.mem_filter.mpr ⟨List.mem_append_right _ (show _ ∈ tables_1_1 ++ (tables_1_2 ++ (tables_1_3 ++ tables_1_4)) from List.mem_append_right _ (List.mem_append_right _ (List.mem_append_left _ (List.mem_of_getElem? (i := 48) (show tables_1_3[48]? = _ from rfl))))), rfl⟩
set_option maxRecDepth 100000 in
theorem tm_11 : tm_P 11 := List.mem_filter.mpr ⟨List.mem_append_right _ (show _ ∈ tables_1_1 ++ (tables_1_2 ++ (tables_1_3 ++ tables_1_4)) from List.mem_append_right _ (List.mem_append_right _ (List.mem_append_left _ (List.mem_of_getElem? (i := 56) (show tables_1_3[56]? = _ from rfl))))), rfl⟩
set_option maxRecDepth 100000 in
theorem tm_12 : tm_P 12 := List.mem_filter.mpr ⟨List.mem_append_right _ (show _ ∈ tables_1_1 ++ (tables_1_2 ++ (tables_1_3 ++ tables_1_4)) from List.mem_append_right _ (List.mem_append_right _ (List.mem_append_left _ (List.mem_of_getElem? (i := 60) (show tables_1_3[60]? = _ from rfl))))), rfl⟩
set_option maxRecDepth 100000 in
theorem tm_13 : tm_P 13 := List.mem_filter.mpr ⟨List.mem_append_right _ (show _ ∈ tables_1_1 ++ (tables_1_2 ++ (tables_1_3 ++ tables_1_4)) from List.mem_append_right _ (List.mem_append_right _ (List.mem_append_left _ (List.mem_of_getElem? (i := 76) (show tables_1_3[76]? = _ from rfl))))), rfl⟩
set_option maxRecDepth 100000 in
theorem tm_14 : tm_P 14 := List.mem_filter.mpr ⟨List.mem_append_right _ (show _ ∈ tables_1_1 ++ (tables_1_2 ++ (tables_1_3 ++ tables_1_4)) from List.mem_append_right _ (List.mem_append_right _ (List.mem_append_left _ (List.mem_of_getElem? (i := 80) (show tables_1_3[80]? = _ from rfl))))), rfl⟩
set_option maxRecDepth 100000 in
theorem tm_15 : tm_P 15 := List.mem_filter.mpr ⟨List.mem_append_right _ (show _ ∈ tables_1_1 ++ (tables_1_2 ++ (tables_1_3 ++ tables_1_4)) from List.mem_append_right _ (List.mem_append_right _ (List.mem_append_left _ (List.mem_of_getElem? (i := 84) (show tables_1_3[84]? = _ from rfl))))), rfl⟩
set_option maxRecDepth 100000 in
theorem tm_16 : tm_P 16 := List.mem_filter.mpr ⟨List.mem_append_right _ (show _ ∈ tables_1_1 ++ (tables_1_2 ++ (tables_1_3 ++ tables_1_4)) from List.mem_append_right _ (List.mem_append_right _ (List.mem_append_left _ (List.mem_of_getElem? (i := 88) (show tables_1_3[88]? = _ from rfl))))), rfl⟩
set_option maxRecDepth 100000 in
theorem tm_17 : tm_P 17 := List.mem_filter.mpr ⟨List.mem_append_right _ (show _ ∈ tables_1_1 ++ (tables_1_2 ++ (tables_1_3 ++ tables_1_4)) from List.mem_append_right _ (List.mem_append_right _ (List.mem_append_left _ (List.mem_of_getElem? (i := 97) (show tables_1_3[97]? = _ from rfl))))), rfl⟩
set_option maxRecDepth 100000 in
theorem tm_18 : tm_P 18 := List.mem_filter.mpr ⟨List.mem_append_right _ (show _ ∈ tables_1_1 ++ (tables_1_2 ++ (tables_1_3 ++ tables_1_4)) from List.mem_append_right _ (List.mem_append_right _ (List.mem_append_left _ (List.mem_of_getElem? (i := 101) (show tables_1_3[101]? = _ from rfl))))), rfl⟩
set_option maxRecDepth 100000 in
theorem tm_19 : tm_P 19 := List.mem_filter.mpr ⟨List.mem_append_right _ (show _ ∈ tables_1_1 ++ (tables_1_2 ++ (tables_1_3 ++ tables_1_4)) from List.mem_append_right _ (List.mem_append_left _ (List.mem_of_getElem? (i := 37) (show tables_1_2[37]? = _ from rfl)))), rfl⟩
set_option maxRecDepth 100000 in
theorem tm_20 : tm_P 20 := List.mem_filter.mpr ⟨List.mem_append_right _ (show _ ∈ tables_1_1 ++ (tables_1_2 ++ (tables_1_3 ++ tables_1_4)) from List.mem_append_right _ (List.mem_append_left _ (List.mem_of_getElem? (i := 73) (show tables_1_2[73]? = _ from rfl)))), rfl⟩
set_option maxRecDepth 100000 in
theorem tm_21 : tm_P 21 := List.mem_filter.mpr ⟨List.mem_append_right _ (show _ ∈ tables_1_1 ++ (tables_1_2 ++ (tables_1_3 ++ tables_1_4)) from List.mem_append_right _ (List.mem_append_left _ (List.mem_of_getElem? (i := 176) (show tables_1_2[176]? = _ from rfl)))), rfl⟩
set_option maxRecDepth 100000 in
theorem tm_22 : tm_P 22 := List.mem_filter.mpr ⟨List.mem_append_right _ (show _ ∈ tables_1_1 ++ (tables_1_2 ++ (tables_1_3 ++ tables_1_4)) from List.mem_append_right _ (List.mem_append_right _ (List.mem_append_left _ (List.mem_of_getElem? (i := 105) (show tables_1_3[105]? = _ from rfl))))), rfl⟩
set_option maxRecDepth 100000 in
theorem tm_23 : tm_P 23 := List.mem_filter.mpr ⟨List.mem_append_right _ (show _ ∈ tables_1_1 ++ (tables_1_2 ++ (tables_1_3 ++ tables_1_4)) from List.mem_append_right _ (List.mem_append_left _ (List.mem_of_getElem? (i := 153) (show tables_1_2[153]? = _ from rfl)))), rfl⟩
set_option maxRecDepth 100000 in
theorem tm_24 : tm_P 24 := List.mem_filter.mpr ⟨List.mem_append_right _ (show _ ∈ tables_1_1 ++ (tables_1_2 ++ (tables_1_3 ++ tables_1_4)) from List.mem_append_right _ (List.mem_append_left _ (List.mem_of_getElem? (i := 157) (show tables_1_2[157]? = _ from rfl)))), rfl⟩
set_option maxRecDepth 100000 in
theorem tm_25 : tm_P 25 := List.mem_filter.mpr ⟨List.mem_append_right _ (show _ ∈ tables_1_1 ++ (tables_1_2 ++ (tables_1_3 ++ tables_1_4)) from List.mem_append_right _ (List.mem_append_left _ (List.mem_of_getElem? (i := 161) (show tables_1_2[161]? = _ from rfl)))), rfl⟩
set_option maxRecDepth 100000 in
theorem tm_26 : tm_P 26 := List.mem_filter.mpr ⟨List.mem_append_right _ (show _ ∈ tables_1_1 ++ (tables_1_2 ++ (tables_1_3 ++ tables_1_4)) from List.mem_append_right _ (List.mem_append_left _ (List.mem_of_getElem? (i := 165) (show tables_1_2[165]? = _ from rfl)))), rfl⟩
set_option maxRecDepth 100000 in
theorem tm_27 : tm_P 27 := List.mem_filter.mpr ⟨List.mem_append_right _ (show _ ∈ tables_1_1 ++ (tables_1_2 ++ (tables_1_3 ++ tables_1_4)) from List.mem_append_right _ (List.mem_append_left _ (List.mem_of_getElem? (i := 188) (show tables_1_2[188]? = _ from rfl)))), rfl⟩
set_option maxRecDepth 100000 in
theorem tm_28 : tm_P 28 := List.mem_filter.mpr ⟨List.mem_append_right _ (show _ ∈ tables_1_1 ++ (tables_1_2 ++ (tables_1_3 ++ tables_1_4)) from List.mem_append_right _ (List.mem_append_left _ (List.mem_of_getElem? (i := 200) (show tables_1_2[200]? = _ from rfl)))), rfl⟩
set_option maxRecDepth 100000 in
theorem tm_29 : tm_P 29 := List.mem_filter.mpr ⟨List.mem_append_right _ (show _ ∈ tables_1_1 ++ (tables_1_2 ++ (tables_1_3 ++ tables_1_4)) from List.mem_append_right _ (List.mem_append_left _ (List.mem_of_getElem? (i := 209) (show tables_1_2[209]? = _ from rfl)))), rfl⟩
set_option maxRecDepth 100000 in
theorem tm_30 : tm_P 30 := List.mem_filter.mpr ⟨List.mem_append_right _ (show _ ∈ tables_1_1 ++ (tables_1_2 ++ (tables_1_3 ++ tables_1_4)) from List.mem_append_right _ (List.mem_append_left _ (List.mem_of_getElem? (i := 213) (show tables_1_2[213]? = _ from rfl)))), rfl⟩
set_option maxRecDepth 100000 in
theorem tm_31 : tm_P 31 := List.mem_filter.mpr ⟨List.mem_append_right _ (show _ ∈ tables_1_1 ++ (tables_1_2 ++ (tables_1_3 ++ tables_1_4)) from List.mem_append_right _ (List.mem_append_left _ (List.mem_of_getElem? (i := 226) (show tables_1_2[226]? = _ from rfl)))), rfl⟩
set_option maxRecDepth 100000 in
theorem tm_32 : tm_P 32 := List.mem_filter.mpr ⟨List.mem_append_right _ (show _ ∈ tables_1_1 ++ (tables_1_2 ++ (tables_1_3 ++ tables_1_4)) from List.mem_append_right _ (List.mem_append_left _ (List.mem_of_getElem? (i := 230) (show tables_1_2[230]? = _ from rfl)))), rfl⟩
set_option maxRecDepth 100000 in
theorem tm_33 : tm_P 33 := List.mem_filter.mpr ⟨List.mem_append_right _ (show _ ∈ tables_1_1 ++ (tables_1_2 ++ (tables_1_3 ++ tables_1_4)) from List.mem_append_right _ (List.mem_append_left _ (List.mem_of_getElem? (i := 234) (show tables_1_2[234]? = _ from rfl)))), rfl⟩
set_option maxRecDepth 100000 in
theorem tm_34 : tm_P 34 := List.mem_filter.mpr ⟨List.mem_append_right _ (show _ ∈ tables_1_1 ++ (tables_1_2 ++ (tables_1_3 ++ tables_1_4)) from List.mem_append_right _ (List.mem_append_right _ (List.mem_append_left _ (List.mem_of_getElem? (i := 52) (show tables_1_3[52]? = _ from rfl))))), rfl⟩
set_option maxRecDepth 100000 in
theorem tm_35 : tm_P 35 := List.mem_filter.mpr ⟨List.mem_append_right _ (show _ ∈ tables_1_1 ++ (tables_1_2 ++ (tables_1_3 ++ tables_1_4)) from List.mem_append_right _ (List.mem_append_right _ (List.mem_append_left _ (List.mem_of_getElem? (i := 7) (show tables_1_3[7]? = _ from rfl))))), rfl⟩
set_option maxRecDepth 100000 in
theorem tm_36 : tm_P 36 := List.mem_filter.mpr ⟨List.mem_append_right _ (show _ ∈ tables_1_1 ++ (tables_1_2 ++ (tables_1_3 ++ tables_1_4)) from List.mem_append_right _ (List.mem_append_right _ (List.mem_append_left _ (List.mem_of_getElem? (i := 3) (show tables_1_3[3]? = _ from rfl))))), rfl⟩
set_option maxRecDepth 100000 in
theorem tm_37 : tm_P 37 := List.mem_filter.mpr ⟨List.mem_append_right _ (show _ ∈ tables_1_1 ++ (tables_1_2 ++ (tables_1_3 ++ tables_1_4)) from List.mem_append_right _ (List.mem_append_right _ (List.mem_append_left _ (List.mem_of_getElem? (i := 11) (show tables_1_3[11]? = _ from rfl))))), rfl⟩
set_option maxRecDepth 100000 in
theorem tm_38 : tm_P 38 := List.mem_filter.mpr ⟨List.mem_append_right _ (show _ ∈ tables_1_1 ++ (tables_1_2 ++ (tables_1_3 ++ tables_1_4)) from List.mem_append_right _ (List.mem_append_right _ (List.mem_append_left _ (List.mem_of_getElem? (i := 15) (show tables_1_3[15]? = _ from rfl))))), rfl⟩
set_option maxRecDepth 100000 in
theorem tm_39 : tm_P 39 := List.mem_filter.mpr ⟨List.mem_append_right _ (show _ ∈ tables_1_1 ++ (tables_1_2 ++ (tables_1_3 ++ tables_1_4)) from List.mem_append_left _ (List.mem_of_getElem? (i := 94) (show tables_1_1[94]? = _ from rfl))), rfl⟩
set_option maxRecDepth 100000 in
theorem tm_40 : tm_P 40 := List.mem_filter.mpr ⟨List.mem_append_right _ (show _ ∈ tables_1_1 ++ (tables_1_2 ++ (tables_1_3 ++ tables_1_4)) from List.mem_append_right _ (List.mem_append_left _ (List.mem_of_getElem? (i := 41) (show tables_1_2[41]? = _ from rfl)))), rfl⟩
set_option maxRecDepth 100000 in
theorem tm_41 : tm_P 41 := List.mem_filter.mpr ⟨List.mem_append_right _ (show _ ∈ tables_1_1 ++ (tables_1_2 ++ (tables_1_3 ++ tables_1_4)) from List.mem_append_right _ (List.mem_append_left _ (List.mem_of_getElem? (i := 49) (show tables_1_2[49]? = _ from rfl)))), rfl⟩
set_option maxRecDepth 100000 in
theorem tm_42 : tm_P 42 := List.mem_filter.mpr ⟨List.mem_append_right _ (show _ ∈ tables_1_1 ++ (tables_1_2 ++ (tables_1_3 ++ tables_1_4)) from List.mem_append_right _ (List.mem_append_left _ (List.mem_of_getElem? (i := 57) (show tables_1_2[57]? = _ from rfl)))), rfl⟩
set_option maxRecDepth 100000 in
theorem tm_43 : tm_P 43 := List.mem_filter.mpr ⟨List.mem_append_right _ (show _ ∈ tables_1_1 ++ (tables_1_2 ++ (tables_1_3 ++ tables_1_4)) from List.mem_append_right _ (List.mem_append_left _ (List.mem_of_getElem? (i := 61) (show tables_1_2[61]? = _ from rfl)))), rfl⟩
set_option maxRecDepth 100000 in
theorem tm_44 : tm_P 44 := List.mem_filter.mpr ⟨List.mem_append_right _ (show _ ∈ tables_1_1 ++ (tables_1_2 ++ (tables_1_3 ++ tables_1_4)) from List.mem_append_right _ (List.mem_append_left _ (List.mem_of_getElem? (i := 53) (show tables_1_2[53]? = _ from rfl)))), rfl⟩
set_option maxRecDepth 100000 in
theorem tm_45 : tm_P 45 := List.mem_filter.mpr ⟨List.mem_append_right _ (show _ ∈ tables_1_1 ++ (tables_1_2 ++ (tables_1_3 ++ tables_1_4)) from List.mem_append_right _ (List.mem_append_right _ (List.mem_append_left _ (List.mem_of_getElem? (i := 23) (show tables_1_3[23]? = _ from rfl))))), rfl⟩
set_option maxRecDepth 100000 in
theorem tm_46 : tm_P 46 := List.mem_filter.mpr ⟨List.mem_append_right _ (show _ ∈ tables_1_1 ++ (tables_1_2 ++ (tables_1_3 ++ tables_1_4)) from List.mem_append_left _ (List.mem_of_getElem? (i := 52) (show tables_1_1[52]? = _ from rfl))), rfl⟩
set_option maxRecDepth 100000 in
theorem tm_47 : tm_P 47 := List.mem_filter.mpr ⟨List.mem_append_right _ (show _ ∈ tables_1_1 ++ (tables_1_2 ++ (tables_1_3 ++ tables_1_4)) from List.mem_append_right _ (List.mem_append_left _ (List.mem_of_getElem? (i := 81) (show tables_1_2[81]? = _ from rfl)))), rfl⟩
set_option maxRecDepth 100000 in
theorem tm_48 : tm_P 48 := List.mem_filter.mpr ⟨List.mem_append_right _ (show _ ∈ tables_1_1 ++ (tables_1_2 ++ (tables_1_3 ++ tables_1_4)) from List.mem_append_right _ (List.mem_append_left _ (List.mem_of_getElem? (i := 86) (show tables_1_2[86]? = _ from rfl)))), rfl⟩
set_option maxRecDepth 100000 in
theorem tm_49 : tm_P 49 := List.mem_filter.mpr ⟨List.mem_append_right _ (show _ ∈ tables_1_1 ++ (tables_1_2 ++ (tables_1_3 ++ tables_1_4)) from List.mem_append_right _ (List.mem_append_left _ (List.mem_of_getElem? (i := 94) (show tables_1_2[94]? = _ from rfl)))), rfl⟩
set_option maxRecDepth 100000 in
theorem tm_50 : tm_P 50 := List.mem_filter.mpr ⟨List.mem_append_right _ (show _ ∈ tables_1_1 ++ (tables_1_2 ++ (tables_1_3 ++ tables_1_4)) from List.mem_append_right _ (List.mem_append_left _ (List.mem_of_getElem? (i := 102) (show tables_1_2[102]? = _ from rfl)))), rfl⟩
set_option maxRecDepth 100000 in
theorem tm_51 : tm_P 51 := List.mem_filter.mpr ⟨List.mem_append_right _ (show _ ∈ tables_1_1 ++ (tables_1_2 ++ (tables_1_3 ++ tables_1_4)) from List.mem_append_right _ (List.mem_append_left _ (List.mem_of_getElem? (i := 106) (show tables_1_2[106]? = _ from rfl)))), rfl⟩
set_option maxRecDepth 100000 in
theorem tm_52 : tm_P 52 := List.mem_filter.mpr ⟨List.mem_append_right _ (show _ ∈ tables_1_1 ++ (tables_1_2 ++ (tables_1_3 ++ tables_1_4)) from List.mem_append_right _ (List.mem_append_left _ (List.mem_of_getElem? (i := 110) (show tables_1_2[110]? = _ from rfl)))), rfl⟩
set_option maxRecDepth 100000 in
theorem tm_53 : tm_P 53 := List.mem_filter.mpr ⟨List.mem_append_right _ (show _ ∈ tables_1_1 ++ (tables_1_2 ++ (tables_1_3 ++ tables_1_4)) from List.mem_append_right _ (List.mem_append_left _ (List.mem_of_getElem? (i := 126) (show tables_1_2[126]? = _ from rfl)))), rfl⟩
set_option maxRecDepth 100000 in
theorem tm_54 : tm_P 54 := List.mem_filter.mpr ⟨List.mem_append_right _ (show _ ∈ tables_1_1 ++ (tables_1_2 ++ (tables_1_3 ++ tables_1_4)) from List.mem_append_right _ (List.mem_append_left _ (List.mem_of_getElem? (i := 90) (show tables_1_2[90]? = _ from rfl)))), rfl⟩
set_option maxRecDepth 100000 in
theorem tm_55 : tm_P 55 := List.mem_filter.mpr ⟨List.mem_append_right _ (show _ ∈ tables_1_1 ++ (tables_1_2 ++ (tables_1_3 ++ tables_1_4)) from List.mem_append_right _ (List.mem_append_left _ (List.mem_of_getElem? (i := 98) (show tables_1_2[98]? = _ from rfl)))), rfl⟩
set_option maxRecDepth 100000 in
theorem tm_56 : tm_P 56 := List.mem_filter.mpr ⟨List.mem_append_right _ (show _ ∈ tables_1_1 ++ (tables_1_2 ++ (tables_1_3 ++ tables_1_4)) from List.mem_append_right _ (List.mem_append_left _ (List.mem_of_getElem? (i := 114) (show tables_1_2[114]? = _ from rfl)))), rfl⟩
set_option maxRecDepth 100000 in
theorem tm_57 : tm_P 57 := List.mem_filter.mpr ⟨List.mem_append_right _ (show _ ∈ tables_1_1 ++ (tables_1_2 ++ (tables_1_3 ++ tables_1_4)) from List.mem_append_left _ (List.mem_of_getElem? (i := 58) (show tables_1_1[58]? = _ from rfl))), rfl⟩
set_option maxRecDepth 100000 in
theorem tm_58 : tm_P 58 := List.mem_filter.mpr ⟨List.mem_append_right _ (show _ ∈ tables_1_1 ++ (tables_1_2 ++ (tables_1_3 ++ tables_1_4)) from List.mem_append_left _ (List.mem_of_getElem? (i := 63) (show tables_1_1[63]? = _ from rfl))), rfl⟩
set_option maxRecDepth 100000 in
theorem tm_59 : tm_P 59 := List.mem_filter.mpr ⟨List.mem_append_right _ (show _ ∈ tables_1_1 ++ (tables_1_2 ++ (tables_1_3 ++ tables_1_4)) from List.mem_append_right _ (List.mem_append_left _ (List.mem_of_getElem? (i := 138) (show tables_1_2[138]? = _ from rfl)))), rfl⟩
set_option maxRecDepth 100000 in
theorem tm_60 : tm_P 60 := List.mem_filter.mpr ⟨List.mem_append_right _ (show _ ∈ tables_1_1 ++ (tables_1_2 ++ (tables_1_3 ++ tables_1_4)) from List.mem_append_right _ (List.mem_append_left _ (List.mem_of_getElem? (i := 134) (show tables_1_2[134]? = _ from rfl)))), rfl⟩
set_option maxRecDepth 100000 in
theorem tm_61 : tm_P 61 := List.mem_filter.mpr ⟨List.mem_append_right _ (show _ ∈ tables_1_1 ++ (tables_1_2 ++ (tables_1_3 ++ tables_1_4)) from List.mem_append_right _ (List.mem_append_left _ (List.mem_of_getElem? (i := 118) (show tables_1_2[118]? = _ from rfl)))), rfl⟩
set_option maxRecDepth 100000 in
theorem tm_62 : tm_P 62 := List.mem_filter.mpr ⟨List.mem_append_right _ (show _ ∈ tables_1_1 ++ (tables_1_2 ++ (tables_1_3 ++ tables_1_4)) from List.mem_append_right _ (List.mem_append_left _ (List.mem_of_getElem? (i := 122) (show tables_1_2[122]? = _ from rfl)))), rfl⟩
set_option maxRecDepth 100000 in
theorem tm_63 : tm_P 63 := List.mem_filter.mpr ⟨List.mem_append_right _ (show _ ∈ tables_1_1 ++ (tables_1_2 ++ (tables_1_3 ++ tables_1_4)) from List.mem_append_right _ (List.mem_append_right _ (List.mem_append_left _ (List.mem_of_getElem? (i := 64) (show tables_1_3[64]? = _ from rfl))))), rfl⟩
set_option maxRecDepth 100000 in
theorem tm_64 : tm_P 64 := List.mem_filter.mpr ⟨List.mem_append_right _ (show _ ∈ tables_1_1 ++ (tables_1_2 ++ (tables_1_3 ++ tables_1_4)) from List.mem_append_right _ (List.mem_append_right _ (List.mem_append_left _ (List.mem_of_getElem? (i := 72) (show tables_1_3[72]? = _ from rfl))))), rfl⟩
set_option maxRecDepth 100000 in
theorem tm_65 : tm_P 65 := List.mem_filter.mpr ⟨List.mem_append_right _ (show _ ∈ tables_1_1 ++ (tables_1_2 ++ (tables_1_3 ++ tables_1_4)) from List.mem_append_right _ (List.mem_append_right _ (List.mem_append_left _ (List.mem_of_getElem? (i := 68) (show tables_1_3[68]? = _ from rfl))))), rfl⟩
set_option maxRecDepth 100000 in
theorem tm_66 : tm_P 66 := List.mem_filter.mpr ⟨List.mem_append_right _ (show _ ∈ tables_1_1 ++ (tables_1_2 ++ (tables_1_3 ++ tables_1_4)) from List.mem_append_right _ (List.mem_append_right _ (List.mem_append_left _ (List.mem_of_getElem? (i := 27) (show tables_1_3[27]? = _ from rfl))))), rfl⟩
set_option maxRecDepth 100000 in
theorem tm_67 : tm_P 67 := List.mem_filter.mpr ⟨List.mem_append_right _ (show _ ∈ tables_1_1 ++ (tables_1_2 ++ (tables_1_3 ++ tables_1_4)) from List.mem_append_right _ (List.mem_append_right _ (List.mem_append_left _ (List.mem_of_getElem? (i := 35) (show tables_1_3[35]? = _ from rfl))))), rfl⟩
set_option maxRecDepth 100000 in
theorem tm_68 : tm_P 68 := List.mem_filter.mpr ⟨List.mem_append_right _ (show _ ∈ tables_1_1 ++ (tables_1_2 ++ (tables_1_3 ++ tables_1_4)) from List.mem_append_right _ (List.mem_append_right _ (List.mem_append_left _ (List.mem_of_getElem? (i := 31) (show tables_1_3[31]? = _ from rfl))))), rfl⟩
set_option maxRecDepth 100000 in
theorem tm_69 : tm_P 69 := List.mem_filter.mpr ⟨List.mem_append_right _ (show _ ∈ tables_1_1 ++ (tables_1_2 ++ (tables_1_3 ++ tables_1_4)) from List.mem_append_right _ (List.mem_append_right _ (List.mem_append_left _ (List.mem_of_getElem? (i := 39) (show tables_1_3[39]? = _ from rfl))))), rfl⟩
set_option maxRecDepth 100000 in
theorem tm_70 : tm_P 70 := List.mem_filter.mpr ⟨List.mem_append_right _ (show _ ∈ tables_1_1 ++ (tables_1_2 ++ (tables_1_3 ++ tables_1_4)) from List.mem_append_left _ (List.mem_of_getElem? (i := 121) (show tables_1_1[121]? = _ from rfl))), rfl⟩
set_option maxRecDepth 100000 in
theorem tm_71 : tm_P 71 := List.mem_filter.mpr ⟨List.mem_append_right _ (show _ ∈ tables_1_1 ++ (tables_1_2 ++ (tables_1_3 ++ tables_1_4)) from List.mem_append_right _ (List.mem_append_left _ (List.mem_of_getElem? (i := 77) (show tables_1_2[77]? = _ from rfl)))), rfl⟩
set_option maxRecDepth 100000 in
theorem tm_72 : tm_P 72 := List.mem_filter.mpr ⟨List.mem_append_right _ (show _ ∈ tables_1_1 ++ (tables_1_2 ++ (tables_1_3 ++ tables_1_4)) from List.mem_append_right _ (List.mem_append_left _ (List.mem_of_getElem? (i := 130) (show tables_1_2[130]? = _ from rfl)))), rfl⟩
set_option maxRecDepth 100000 in
theorem tm_73 : tm_P 73 := List.mem_filter.mpr ⟨List.mem_append_right _ (show _ ∈ tables_1_1 ++ (tables_1_2 ++ (tables_1_3 ++ tables_1_4)) from List.mem_append_left _ (List.mem_of_getElem? (i := 149) (show tables_1_1[149]? = _ from rfl))), rfl⟩
set_option maxRecDepth 100000 in
theorem tm_74 : tm_P 74 := List.mem_filter.mpr ⟨List.mem_append_right _ (show _ ∈ tables_1_1 ++ (tables_1_2 ++ (tables_1_3 ++ tables_1_4)) from List.mem_append_right _ (List.mem_append_left _ (List.mem_of_getElem? (i := 183) (show tables_1_2[183]? = _ from rfl)))), rfl⟩
set_option maxRecDepth 100000 in
theorem tm_75 : tm_P 75 := List.mem_filter.mpr ⟨List.mem_append_right _ (show _ ∈ tables_1_1 ++ (tables_1_2 ++ (tables_1_3 ++ tables_1_4)) from List.mem_append_right _ (List.mem_append_right _ (List.mem_append_left _ (List.mem_of_getElem? (i := 92) (show tables_1_3[92]? = _ from rfl))))), rfl⟩
set_option maxRecDepth 100000 in
theorem tm_76 : tm_P 76 := List.mem_filter.mpr ⟨List.mem_append_right _ (show _ ∈ tables_1_1 ++ (tables_1_2 ++ (tables_1_3 ++ tables_1_4)) from List.mem_append_right _ (List.mem_append_right _ (List.mem_append_left _ (List.mem_of_getElem? (i := 19) (show tables_1_3[19]? = _ from rfl))))), rfl⟩
set_option maxRecDepth 100000 in
theorem tm_77 : tm_P 77 := List.mem_filter.mpr ⟨List.mem_append_right _ (show _ ∈ tables_1_1 ++ (tables_1_2 ++ (tables_1_3 ++ tables_1_4)) from List.mem_append_left _ (List.mem_of_getElem? (i := 34) (show tables_1_1[34]? = _ from rfl))), rfl⟩
set_option maxRecDepth 100000 in
theorem tm_78 : tm_P 78 := List.mem_filter.mpr ⟨List.mem_append_right _ (show _ ∈ tables_1_1 ++ (tables_1_2 ++ (tables_1_3 ++ tables_1_4)) from List.mem_append_right _ (List.mem_append_left _ (List.mem_of_getElem? (i := 193) (show tables_1_2[193]? = _ from rfl)))), rfl⟩
set_option maxRecDepth 100000 in
theorem tm_79 : tm_P 79 := List.mem_filter.mpr ⟨List.mem_append_right _ (show _ ∈ tables_1_1 ++ (tables_1_2 ++ (tables_1_3 ++ tables_1_4)) from List.mem_append_right _ (List.mem_append_left _ (List.mem_of_getElem? (i := 204) (show tables_1_2[204]? = _ from rfl)))), rfl⟩
set_option maxRecDepth 100000 in
theorem tm_80 : tm_P 80 := List.mem_filter.mpr ⟨List.mem_append_right _ (show _ ∈ tables_1_1 ++ (tables_1_2 ++ (tables_1_3 ++ tables_1_4)) from List.mem_append_right _ (List.mem_append_left _ (List.mem_of_getElem? (i := 217) (show tables_1_2[217]? = _ from rfl)))), rfl⟩
set_option maxRecDepth 100000 in
theorem tm_81 : tm_P 81 := List.mem_filter.mpr ⟨List.mem_append_right _ (show _ ∈ tables_1_1 ++ (tables_1_2 ++ (tables_1_3 ++ tables_1_4)) from List.mem_append_left _ (List.mem_of_getElem? (i := 167) (show tables_1_1[167]? = _ from rfl))), rfl⟩
set_option maxRecDepth 100000 in
theorem tm_82 : tm_P 82 := List.mem_filter.mpr ⟨List.mem_append_right _ (show _ ∈ tables_1_1 ++ (tables_1_2 ++ (tables_1_3 ++ tables_1_4)) from List.mem_append_left _ (List.mem_of_getElem? (i := 193) (show tables_1_1[193]? = _ from rfl))), rfl⟩
set_option maxRecDepth 100000 in
theorem tm_83 : tm_P 83 := List.mem_filter.mpr ⟨List.mem_append_right _ (show _ ∈ tables_1_1 ++ (tables_1_2 ++ (tables_1_3 ++ tables_1_4)) from List.mem_append_right _ (List.mem_append_left _ (List.mem_of_getElem? (i := 238) (show tables_1_2[238]? = _ from rfl)))), rfl⟩
set_option maxRecDepth 100000 in
theorem tm_84 : tm_P 84 := List.mem_filter.mpr ⟨List.mem_append_right _ (show _ ∈ tables_1_1 ++ (tables_1_2 ++ (tables_1_3 ++ tables_1_4)) from List.mem_append_left _ (List.mem_of_getElem? (i := 187) (show tables_1_1[187]? = _ from rfl))), rfl⟩
set_option maxRecDepth 100000 in
theorem tm_85 : tm_P 85 := List.mem_filter.mpr ⟨List.mem_append_right _ (show _ ∈ tables_1_1 ++ (tables_1_2 ++ (tables_1_3 ++ tables_1_4)) from List.mem_append_right _ (List.mem_append_right _ (List.mem_append_left _ (List.mem_of_getElem? (i := 43) (show tables_1_3[43]? = _ from rfl))))), rfl⟩
set_option maxRecDepth 100000 in
theorem tm_86 : tm_P 86 := List.mem_filter.mpr ⟨List.mem_append_right _ (show _ ∈ tables_1_1 ++ (tables_1_2 ++ (tables_1_3 ++ tables_1_4)) from List.mem_append_right _ (List.mem_append_right _ (List.mem_append_left _ (List.mem_of_getElem? (i := 110) (show tables_1_3[110]? = _ from rfl))))), rfl⟩
set_option maxRecDepth 100000 in
theorem tm_87 : tm_P 87 := List.mem_filter.mpr ⟨List.mem_append_right _ (show _ ∈ tables_1_1 ++ (tables_1_2 ++ (tables_1_3 ++ tables_1_4)) from List.mem_append_right _ (List.mem_append_right _ (List.mem_append_right _ (List.mem_of_getElem? (i := 15) (show tables_1_4[15]? = _ from rfl))))), rfl⟩
set_option maxRecDepth 100000 in
theorem tm_88 : tm_P 88 := List.mem_filter.mpr ⟨List.mem_append_right _ (show _ ∈ tables_1_1 ++ (tables_1_2 ++ (tables_1_3 ++ tables_1_4)) from List.mem_append_right _ (List.mem_append_right _ (List.mem_append_right _ (List.mem_of_getElem? (i := 12) (show tables_1_4[12]? = _ from rfl))))), rfl⟩
set_option maxRecDepth 100000 in
theorem tm_89 : tm_P 89 := List.mem_filter.mpr ⟨List.mem_append_right _ (show _ ∈ tables_1_1 ++ (tables_1_2 ++ (tables_1_3 ++ tables_1_4)) from List.mem_append_right _ (List.mem_append_right _ (List.mem_append_right _ (List.mem_of_getElem? (i := 19) (show tables_1_4[19]? = _ from rfl))))), rfl⟩
set_option maxRecDepth 100000 in
theorem tm_90 : tm_P 90 := List.mem_filter.mpr ⟨List.mem_append_right _ (show _ ∈ tables_1_1 ++ (tables_1_2 ++ (tables_1_3 ++ tables_1_4)) from List.mem_append_right _ (List.mem_append_right _ (List.mem_append_right _ (List.mem_of_getElem? (i := 47) (show tables_1_4[47]? = _ from rfl))))), rfl⟩
set_option maxRecDepth 100000 in
theorem tm_91 : tm_P 91 := List.mem_filter.mpr ⟨List.mem_append_right _ (show _ ∈ tables_1_1 ++ (tables_1_2 ++ (tables_1_3 ++ tables_1_4)) from List.mem_append_right _ (List.mem_append_right _ (List.mem_append_right _ (List.mem_of_getElem? (i := 39) (show tables_1_4[39]? = _ from rfl))))), rfl⟩
set_option maxRecDepth 100000 in
theorem tm_92 : tm_P 92 := List.mem_filter.mpr ⟨List.mem_append_right _ (show _ ∈ tables_1_1 ++ (tables_1_2 ++ (tables_1_3 ++ tables_1_4)) from List.mem_append_right _ (List.mem_append_right _ (List.mem_append_right _ (List.mem_of_getElem? (i := 43) (show tables_1_4[43]? = _ from rfl))))), rfl⟩
set_option maxRecDepth 100000 in
theorem tm_93 : tm_P 93 := List.mem_filter.mpr ⟨List.mem_append_right _ (show _ ∈ tables_1_1 ++ (tables_1_2 ++ (tables_1_3 ++ tables_1_4)) from List.mem_append_right _ (List.mem_append_right _ (List.mem_append_right _ (List.mem_of_getElem? (i := 63) (show tables_1_4[63]? = _ from rfl))))), rfl⟩
set_option maxRecDepth 100000 in
theorem tm_94 : tm_P 94 := List.mem_filter.mpr ⟨List.mem_append_right _ (show _ ∈ tables_1_1 ++ (tables_1_2 ++ (tables_1_3 ++ tables_1_4)) from List.mem_append_right _ (List.mem_append_right _ (List.mem_append_right _ (List.mem_of_getElem? (i := 59) (show tables_1_4[59]? = _ from rfl))))), rfl⟩
set_option maxRecDepth 100000 in
theorem tm_95 : tm_P 95 := List.mem_filter.mpr ⟨List.mem_append_right _ (show _ ∈ tables_1_1 ++ (tables_1_2 ++ (tables_1_3 ++ tables_1_4)) from List.mem_append_right _ (List.mem_append_right _ (List.mem_append_right _ (List.mem_of_getElem? (i := 51) (show tables_1_4[51]? = _ from rfl))))), rfl⟩
set_option maxRecDepth 100000 in
theorem tm_96 : tm_P 96 := List.mem_filter.mpr ⟨List.mem_append_right _ (show _ ∈ tables_1_1 ++ (tables_1_2 ++ (tables_1_3 ++ tables_1_4)) from List.mem_append_right _ (List.mem_append_right _ (List.mem_append_right _ (List.mem_of_getElem? (i := 55) (show tables_1_4[55]? = _ from rfl))))), rfl⟩
set_option maxRecDepth 100000 in
theorem tm_97 : tm_P 97 := List.mem_filter.mpr ⟨List.mem_append_right _ (show _ ∈ tables_1_1 ++ (tables_1_2 ++ (tables_1_3 ++ tables_1_4)) from List.mem_append_right _ (List.mem_append_right _ (List.mem_append_right _ (List.mem_of_getElem? (i := 67) (show tables_1_4[67]? = _ from rfl))))), rfl⟩
set_option maxRecDepth 100000 in
theorem tm_98 : tm_P 98 := List.mem_filter.mpr ⟨List.mem_append_right _ (show _ ∈ tables_1_1 ++ (tables_1_2 ++ (tables_1_3 ++ tables_1_4)) from List.mem_append_right _ (List.mem_append_right _ (List.mem_append_right _ (List.mem_of_getElem? (i := 71) (show tables_1_4[71]? = _ from rfl))))), rfl⟩
set_option maxRecDepth 100000 in
theorem tm_99 : tm_P 99 := List.mem_filter.mpr ⟨List.mem_append_right _ (show _ ∈ tables_1_1 ++ (tables_1_2 ++ (tables_1_3 ++ tables_1_4)) from List.mem_append_right _ (List.mem_append_right _ (List.mem_append_right _ (List.mem_of_getElem? (i := 75) (show tables_1_4[75]? = _ from rfl))))), rfl⟩
set_option maxRecDepth 100000 in
theorem tm_100 : tm_P 100 := List.mem_filter.mpr ⟨List.mem_append_right _ (show _ ∈ tables_1_1 ++ (tables_1_2 ++ (tables_1_3 ++ tables_1_4)) from List.mem_append_right _ (List.mem_append_right _ (List.mem_append_right _ (List.mem_of_getElem? (i := 79) (show tables_1_4[79]? = _ from rfl))))), rfl⟩
set_option maxRecDepth 100000 in
theorem tm_101 : tm_P 101 := List.mem_filter.mpr ⟨List.mem_append_right _ (show _ ∈ tables_1_1 ++ (tables_1_2 ++ (tables_1_3 ++ tables_1_4)) from List.mem_append_right _ (List.mem_append_right _ (List.mem_append_right _ (List.mem_of_getElem? (i := 31) (show tables_1_4[31]? = _ from rfl))))), rfl⟩
set_option maxRecDepth 100000 in
theorem tm_102 : tm_P 102 := List.mem_filter.mpr ⟨List.mem_append_right _ (show _ ∈ tables_1_1 ++ (tables_1_2 ++ (tables_1_3 ++ tables_1_4)) from List.mem_append_right _ (List.mem_append_right _ (List.mem_append_right _ (List.mem_of_getElem? (i := 35) (show tables_1_4[35]? = _ from rfl))))), rfl⟩
set_option maxRecDepth 100000 in
theorem tm_103 : tm_P 103 := List.mem_filter.mpr ⟨List.mem_append_right _ (show _ ∈ tables_1_1 ++ (tables_1_2 ++ (tables_1_3 ++ tables_1_4)) from List.mem_append_right _ (List.mem_append_right _ (List.mem_append_right _ (List.mem_of_getElem? (i := 23) (show tables_1_4[23]? = _ from rfl))))), rfl⟩
set_option maxRecDepth 100000 in
theorem tm_104 : tm_P 104 := List.mem_filter.mpr ⟨List.mem_append_right _ (show _ ∈ tables_1_1 ++ (tables_1_2 ++ (tables_1_3 ++ tables_1_4)) from List.mem_append_right _ (List.mem_append_right _ (List.mem_append_right _ (List.mem_of_getElem? (i := 27) (show tables_1_4[27]? = _ from rfl))))), rfl⟩
set_option maxRecDepth 100000 in
theorem tm_105 : tm_P 105 := List.mem_filter.mpr ⟨List.mem_append_right _ (show _ ∈ tables_1_1 ++ (tables_1_2 ++ (tables_1_3 ++ tables_1_4)) from List.mem_append_right _ (List.mem_append_right _ (List.mem_append_right _ (List.mem_of_getElem? (i := 83) (show tables_1_4[83]? = _ from rfl))))), rfl⟩
set_option maxRecDepth 100000 in
theorem tm_106 : tm_P 106 := List.mem_filter.mpr ⟨List.mem_append_right _ (show _ ∈ tables_1_1 ++ (tables_1_2 ++ (tables_1_3 ++ tables_1_4)) from List.mem_append_right _ (List.mem_append_right _ (List.mem_append_right _ (List.mem_of_getElem? (i := 91) (show tables_1_4[91]? = _ from rfl))))), rfl⟩
set_option maxRecDepth 100000 in
theorem tm_107 : tm_P 107 := List.mem_filter.mpr ⟨List.mem_append_right _ (show _ ∈ tables_1_1 ++ (tables_1_2 ++ (tables_1_3 ++ tables_1_4)) from List.mem_append_right _ (List.mem_append_right _ (List.mem_append_right _ (List.mem_of_getElem? (i := 99) (show tables_1_4[99]? = _ from rfl))))), rfl⟩
set_option maxRecDepth 100000 in
theorem tm_108 : tm_P 108 := List.mem_filter.mpr ⟨List.mem_append_right _ (show _ ∈ tables_1_1 ++ (tables_1_2 ++ (tables_1_3 ++ tables_1_4)) from List.mem_append_right _ (List.mem_append_right _ (List.mem_append_right _ (List.mem_of_getElem? (i := 95) (show tables_1_4[95]? = _ from rfl))))), rfl⟩
set_option maxRecDepth 100000 in
theorem tm_109 : tm_P 109 := List.mem_filter.mpr ⟨List.mem_append_right _ (show _ ∈ tables_1_1 ++ (tables_1_2 ++ (tables_1_3 ++ tables_1_4)) from List.mem_append_right _ (List.mem_append_right _ (List.mem_append_right _ (List.mem_of_getElem? (i := 87) (show tables_1_4[87]? = _ from rfl))))), rfl⟩
set_option maxRecDepth 100000 in
theorem tm_110 : tm_P 110 := List.mem_filter.mpr ⟨List.mem_append_right _ (show _ ∈ tables_1_1 ++ (tables_1_2 ++ (tables_1_3 ++ tables_1_4)) from List.mem_append_right _ (List.mem_append_right _ (List.mem_append_right _ (List.mem_of_getElem? (i := 103) (show tables_1_4[103]? = _ from rfl))))), rfl⟩
set_option maxRecDepth 100000 in
theorem tm_111 : tm_P 111 := List.mem_filter.mpr ⟨List.mem_append_right _ (show _ ∈ tables_1_1 ++ (tables_1_2 ++ (tables_1_3 ++ tables_1_4)) from List.mem_append_right _ (List.mem_append_right _ (List.mem_append_right _ (List.mem_of_getElem? (i := 107) (show tables_1_4[107]? = _ from rfl))))), rfl⟩
set_option maxRecDepth 100000 in
theorem tm_112 : tm_P 112 := List.mem_filter.mpr ⟨List.mem_append_right _ (show _ ∈ tables_1_1 ++ (tables_1_2 ++ (tables_1_3 ++ tables_1_4)) from List.mem_append_right _ (List.mem_append_right _ (List.mem_append_right _ (List.mem_of_getElem? (i := 111) (show tables_1_4[111]? = _ from rfl))))), rfl⟩
set_option maxRecDepth 100000 in
theorem tm_113 : tm_P 113 := List.mem_filter.mpr ⟨List.mem_append_right _ (show _ ∈ tables_1_1 ++ (tables_1_2 ++ (tables_1_3 ++ tables_1_4)) from List.mem_append_right _ (List.mem_append_right _ (List.mem_append_right _ (List.mem_of_getElem? (i := 115) (show tables_1_4[115]? = _ from rfl))))), rfl⟩
set_option maxRecDepth 100000 in
theorem tm_114 : tm_P 114 := List.mem_filter.mpr ⟨List.mem_append_right _ (show _ ∈ tables_1_1 ++ (tables_1_2 ++ (tables_1_3 ++ tables_1_4)) from List.mem_append_right _ (List.mem_append_right _ (List.mem_append_right _ (List.mem_of_getElem? (i := 119) (show tables_1_4[119]? = _ from rfl))))), rfl⟩
set_option maxRecDepth 100000 in
theorem tm_115 : tm_P 115 := List.mem_filter.mpr ⟨List.mem_append_right _ (show _ ∈ tables_1_1 ++ (tables_1_2 ++ (tables_1_3 ++ tables_1_4)) from List.mem_append_right _ (List.mem_append_right _ (List.mem_append_right _ (List.mem_of_getElem? (i := 123) (show tables_1_4[123]? = _ from rfl))))), rfl⟩
set_option maxRecDepth 100000 in
theorem tm_116 : tm_P 116 := List.mem_filter.mpr ⟨List.mem_append_right _ (show _ ∈ tables_1_1 ++ (tables_1_2 ++ (tables_1_3 ++ tables_1_4)) from List.mem_append_right _ (List.mem_append_right _ (List.mem_append_right _ (List.mem_of_getElem? (i := 127) (show tables_1_4[127]? = _ from rfl))))), rfl⟩
set_option maxRecDepth 100000 in
theorem tm_117 : tm_P 117 := List.mem_filter.mpr ⟨List.mem_append_right _ (show _ ∈ tables_1_1 ++ (tables_1_2 ++ (tables_1_3 ++ tables_1_4)) from List.mem_append_right _ (List.mem_append_right _ (List.mem_append_right _ (List.mem_of_getElem? (i := 131) (show tables_1_4[131]? = _ from rfl))))), rfl⟩
set_option maxRecDepth 100000 in
theorem tm_118 : tm_P 118 := List.mem_filter.mpr ⟨List.mem_append_right _ (show _ ∈ tables_1_1 ++ (tables_1_2 ++ (tables_1_3 ++ tables_1_4)) from List.mem_append_right _ (List.mem_append_right _ (List.mem_append_right _ (List.mem_of_getElem? (i := 135) (show tables_1_4[135]? = _ from rfl))))), rfl⟩
set_option maxRecDepth 100000 in
theorem tm_119 : tm_P 119 := List.mem_filter.mpr ⟨List.mem_append_right _ (show _ ∈ tables_1_1 ++ (tables_1_2 ++ (tables_1_3 ++ tables_1_4)) from List.mem_append_right _ (List.mem_append_right _ (List.mem_append_right _ (List.mem_of_getElem? (i := 143) (show tables_1_4[143]? = _ from rfl))))), rfl⟩
set_option maxRecDepth 100000 in
theorem tm_120 : tm_P 120 := List.mem_filter.mpr ⟨List.mem_append_right _ (show _ ∈ tables_1_1 ++ (tables_1_2 ++ (tables_1_3 ++ tables_1_4)) from List.mem_append_right _ (List.mem_append_right _ (List.mem_append_right _ (List.mem_of_getElem? (i := 139) (show tables_1_4[139]? = _ from rfl))))), rfl⟩
set_option maxRecDepth 100000 in
theorem tm_121 : tm_P 121 := List.mem_filter.mpr ⟨List.mem_append_right _ (show _ ∈ tables_1_1 ++ (tables_1_2 ++ (tables_1_3 ++ tables_1_4)) from List.mem_append_right _ (List.mem_append_right _ (List.mem_append_right _ (List.mem_of_getElem? (i := 147) (show tables_1_4[147]? = _ from rfl))))), rfl⟩
set_option maxRecDepth 100000 in
theorem tm_122 : tm_P 122 := List.mem_filter.mpr ⟨List.mem_append_right _ (show _ ∈ tables_1_1 ++ (tables_1_2 ++ (tables_1_3 ++ tables_1_4)) from List.mem_append_right _ (List.mem_append_right _ (List.mem_append_right _ (List.mem_of_getElem? (i := 151) (show tables_1_4[151]? = _ from rfl))))), rfl⟩
theorem tg_0 : ∀ j ∈ [0, 1, 2, 3, 4, 5, 6, 7, 8, 9, 10, 11, 12, 13, 14, 15], tm_P j := List.forall_mem_cons.mpr ⟨tm_0, List.forall_mem_cons.mpr ⟨tm_1, List.forall_mem_cons.mpr ⟨tm_2, List.forall_mem_cons.mpr ⟨tm_3, List.forall_mem_cons.mpr ⟨tm_4, List.forall_mem_cons.mpr ⟨tm_5, List.forall_mem_cons.mpr ⟨tm_6, List.forall_mem_cons.mpr ⟨tm_7, List.forall_mem_cons.mpr ⟨tm_8, List.forall_mem_cons.mpr ⟨tm_9, List.forall_mem_cons.mpr ⟨tm_10, List.forall_mem_cons.mpr ⟨tm_11, List.forall_mem_cons.mpr ⟨tm_12, List.forall_mem_cons.mpr ⟨tm_13, List.forall_mem_cons.mpr ⟨tm_14, List.forall_mem_cons.mpr ⟨tm_15, fun _ h => absurd h List.not_mem_nil⟩⟩⟩⟩⟩⟩⟩⟩⟩⟩⟩⟩⟩⟩⟩⟩
theorem tg_1 : ∀ j ∈ [16, 17, 18, 19, 20, 21, 22, 23, 24, 25, 26, 27, 28, 29, 30, 31], tm_P j := List.forall_mem_cons.mpr ⟨tm_16, List.forall_mem_cons.mpr ⟨tm_17, List.forall_mem_cons.mpr ⟨tm_18, List.forall_mem_cons.mpr ⟨tm_19, List.forall_mem_cons.mpr ⟨tm_20, List.forall_mem_cons.mpr ⟨tm_21, List.forall_mem_cons.mpr ⟨tm_22, List.forall_mem_cons.mpr ⟨tm_23, List.forall_mem_cons.mpr ⟨tm_24, List.forall_mem_cons.mpr ⟨tm_25, List.forall_mem_cons.mpr ⟨tm_26, List.forall_mem_cons.mpr ⟨tm_27, List.forall_mem_cons.mpr ⟨tm_28, List.forall_mem_cons.mpr ⟨tm_29, List.forall_mem_cons.mpr ⟨tm_30, List.forall_mem_cons.mpr ⟨tm_31, fun _ h => absurd h List.not_mem_nil⟩⟩⟩⟩⟩⟩⟩⟩⟩⟩⟩⟩⟩⟩⟩⟩
theorem tg_2 : ∀ j ∈ [32, 33, 34, 35, 36, 37, 38, 39, 40, 41, 42, 43, 44, 45, 46, 47], tm_P j := List.forall_mem_cons.mpr ⟨tm_32, List.forall_mem_cons.mpr ⟨tm_33, List.forall_mem_cons.mpr ⟨tm_34, List.forall_mem_cons.mpr ⟨tm_35, List.forall_mem_cons.mpr ⟨tm_36, List.forall_mem_cons.mpr ⟨tm_37, List.forall_mem_cons.mpr ⟨tm_38, List.forall_mem_cons.mpr ⟨tm_39, List.forall_mem_cons.mpr ⟨tm_40, List.forall_mem_cons.mpr ⟨tm_41, List.forall_mem_cons.mpr ⟨tm_42, List.forall_mem_cons.mpr ⟨tm_43, List.forall_mem_cons.mpr ⟨tm_44, List.forall_mem_cons.mpr ⟨tm_45, List.forall_mem_cons.mpr ⟨tm_46, List.forall_mem_cons.mpr ⟨tm_47, fun _ h => absurd h List.not_mem_nil⟩⟩⟩⟩⟩⟩⟩⟩⟩⟩⟩⟩⟩⟩⟩⟩
theorem tg_3 : ∀ j ∈ [48, 49, 50, 51, 52, 53, 54, 55, 56, 57, 58, 59, 60, 61, 62, 63], tm_P j := List.forall_mem_cons.mpr ⟨tm_48, List.forall_mem_cons.mpr ⟨tm_49, List.forall_mem_cons.mpr ⟨tm_50, List.forall_mem_cons.mpr ⟨tm_51, List.forall_mem_cons.mpr ⟨tm_52, List.forall_mem_cons.mpr ⟨tm_53, List.forall_mem_cons.mpr ⟨tm_54, List.forall_mem_cons.mpr ⟨tm_55, List.forall_mem_cons.mpr ⟨tm_56, List.forall_mem_cons.mpr ⟨tm_57, List.forall_mem_cons.mpr ⟨tm_58, List.forall_mem_cons.mpr ⟨tm_59, List.forall_mem_cons.mpr ⟨tm_60, List.forall_mem_cons.mpr ⟨tm_61, List.forall_mem_cons.mpr ⟨tm_62, List.forall_mem_cons.mpr ⟨tm_63, fun _ h => absurd h List.not_mem_nil⟩⟩⟩⟩⟩⟩⟩⟩⟩⟩⟩⟩⟩⟩⟩⟩
theorem tg_4 : ∀ j ∈ [64, 65, 66, 67, 68, 69, 70, 71, 72, 73, 74, 75, 76, 77, 78, 79], tm_P j := List.forall_mem_cons.mpr ⟨tm_64, List.forall_mem_cons.mpr ⟨tm_65, List.forall_mem_cons.mpr ⟨tm_66, List.forall_mem_cons.mpr ⟨tm_67, List.forall_mem_cons.mpr ⟨tm_68, List.forall_mem_cons.mpr ⟨tm_69, List.forall_mem_cons.mpr ⟨tm_70, List.forall_mem_cons.mpr ⟨tm_71, List.forall_mem_cons.mpr ⟨tm_72, List.forall_mem_cons.mpr ⟨tm_73, List.forall_mem_cons.mpr ⟨tm_74, List.forall_mem_cons.mpr ⟨tm_75, List.forall_mem_cons.mpr ⟨tm_76, List.forall_mem_cons.mpr ⟨tm_77, List.forall_mem_cons.mpr ⟨tm_78, List.forall_mem_cons.mpr ⟨tm_79, fun _ h => absurd h List.not_mem_nil⟩⟩⟩⟩⟩⟩⟩⟩⟩⟩⟩⟩⟩⟩⟩⟩
theorem tg_5 : ∀ j ∈ [80, 81, 82, 83, 84, 85, 86, 87, 88, 89, 90, 91, 92, 93, 94, 95], tm_P j := List.forall_mem_cons.mpr ⟨tm_80, List.forall_mem_cons.mpr ⟨tm_81, List.forall_mem_cons.mpr ⟨tm_82, List.forall_mem_cons.mpr ⟨tm_83, List.forall_mem_cons.mpr ⟨tm_84, List.forall_mem_cons.mpr ⟨tm_85, List.forall_mem_cons.mpr ⟨tm_86, List.forall_mem_cons.mpr ⟨tm_87, List.forall_mem_cons.mpr ⟨tm_88, List.forall_mem_cons.mpr ⟨tm_89, List.forall_mem_cons.mpr ⟨tm_90, List.forall_mem_cons.mpr ⟨tm_91, List.forall_mem_cons.mpr ⟨tm_92, List.forall_mem_cons.mpr ⟨tm_93, List.forall_mem_cons.mpr ⟨tm_94, List.forall_mem_cons.mpr ⟨tm_95, fun _ h => absurd h List.not_mem_nil⟩⟩⟩⟩⟩⟩⟩⟩⟩⟩⟩⟩⟩⟩⟩⟩
theorem tg_6 : ∀ j ∈ [96, 97, 98, 99, 100, 101, 102, 103, 104, 105, 106, 107, 108, 109, 110, 111], tm_P j := List.forall_mem_cons.mpr ⟨tm_96, List.forall_mem_cons.mpr ⟨tm_97, List.forall_mem_cons.mpr ⟨tm_98, List.forall_mem_cons.mpr ⟨tm_99, List.forall_mem_cons.mpr ⟨tm_100, List.forall_mem_cons.mpr ⟨tm_101, List.forall_mem_cons.mpr ⟨tm_102, List.forall_mem_cons.mpr ⟨tm_103, List.forall_mem_cons.mpr ⟨tm_104, List.forall_mem_cons.mpr ⟨tm_105, List.forall_mem_cons.mpr ⟨tm_106, List.forall_mem_cons.mpr ⟨tm_107, List.forall_mem_cons.mpr ⟨tm_108, List.forall_mem_cons.mpr ⟨tm_109, List.forall_mem_cons.mpr ⟨tm_110, List.forall_mem_cons.mpr ⟨tm_111, fun _ h => absurd h List.not_mem_nil⟩⟩⟩⟩⟩⟩⟩⟩⟩⟩⟩⟩⟩⟩⟩⟩
theorem tg_7 : ∀ j ∈ [112, 113, 114, 115, 116, 117, 118, 119, 120, 121, 122], tm_P j := List.forall_mem_cons.mpr ⟨tm_112, List.forall_mem_cons.mpr ⟨tm_113, List.forall_mem_cons.mpr ⟨tm_114, List.forall_mem_cons.mpr ⟨tm_115, List.forall_mem_cons.mpr ⟨tm_116, List.forall_mem_cons.mpr ⟨tm_117, List.forall_mem_cons.mpr ⟨tm_118, List.forall_mem_cons.mpr ⟨tm_119, List.forall_mem_cons.mpr ⟨tm_120, List.forall_mem_cons.mpr ⟨tm_121, List.forall_mem_cons.mpr ⟨tm_122, fun _ h => absurd h List.not_mem_nil⟩⟩⟩⟩⟩⟩⟩⟩⟩⟩⟩
set_option maxRecDepth 100000 in
theorem tb_m (j : Nat) (h : j < nM) : Cond.code (mY j) (mB j) (mL j) (mR j) ∈ ew := by
  have hr : List.range nM = [0, 1, 2, 3, 4, 5, 6, 7, 8, 9, 10, 11, 12, 13, 14, 15] ++ ([16, 17, 18, 19, 20, 21, 22, 23, 24, 25, 26, 27, 28, 29, 30, 31] ++ ([32, 33, 34, 35, 36, 37, 38, 39, 40, 41, 42, 43, 44, 45, 46, 47] ++ ([48, 49, 50, 51, 52, 53, 54, 55, 56, 57, 58, 59, 60, 61, 62, 63] ++ ([64, 65, 66, 67, 68, 69, 70, 71, 72, 73, 74, 75, 76, 77, 78, 79] ++ ([80, 81, 82, 83, 84, 85, 86, 87, 88, 89, 90, 91, 92, 93, 94, 95] ++ ([96, 97, 98, 99, 100, 101, 102, 103, 104, 105, 106, 107, 108, 109, 110, 111] ++ ([112, 113, 114, 115, 116, 117, 118, 119, 120, 121, 122]))))))) := by decide +kernel
  have hj : j ∈ List.range nM := List.mem_range.mpr h
  rw [hr] at hj
  exact (List.forall_mem_append.mpr ⟨tg_0, List.forall_mem_append.mpr ⟨tg_1, List.forall_mem_append.mpr ⟨tg_2, List.forall_mem_append.mpr ⟨tg_3, List.forall_mem_append.mpr ⟨tg_4, List.forall_mem_append.mpr ⟨tg_5, List.forall_mem_append.mpr ⟨tg_6, tg_7⟩⟩⟩⟩⟩⟩⟩) j hj
set_option maxRecDepth 100000 in
theorem tb_j : ∀ j, j < nM → mO j < 11 ∧ ew_is (clJl.getD (mO j) 0) (.initialized (mY j).cls) = true ∧ ((mY j).cls ≠ "java/lang/invoke/MethodHandle" ∧ (mY j).cls ≠ "java/lang/invoke/VarHandle") ∧ (parseMethodDescriptor (mY j).desc).map (fun d => d.parameters.length) = some (mN j) ∧ mL j ≤ 40 ∧ plainName (mY j).cls = true ∧ oY (mO j) = (mY j).cls ∧ mN j + (bif mS j then 0 else 1) ≤ mL j := by decide +kernel
def ck_M (q : Nat × Nat × Nat × Nat × Nat × Nat × Nat) : Bool := match q.2.2.2.1 with
  | 0 => decide (q.2.2.1 < nM) && !mS q.2.2.1 && ew_is q.2.2.2.2.1 (.methodLink (oY q.1) q.2.1 (mY q.2.2.1)) && ew_is q.2.2.2.2.2.1 (.instanceMethod (mY q.2.2.1)) && ew_is q.2.2.2.2.2.2 (.selects (mY q.2.2.1).cls (mY q.2.2.1) (mY q.2.2.1))
  | 1 => decide (q.2.2.1 < nM) && mS q.2.2.1 && ew_is q.2.2.2.2.1 (.methodLink (oY q.1) q.2.1 (mY q.2.2.1)) && ew_is q.2.2.2.2.2.1 (.static (mY q.2.2.1))
  | 2 => decide (q.2.2.1 < nM) && !mS q.2.2.1 && ew_is q.2.2.2.2.1 (.methodLink (oY q.1) q.2.1 (mY q.2.2.1)) && ew_is q.2.2.2.2.2.1 (.instanceMethod (mY q.2.2.1)) && decide ((mY q.2.2.1).name = "<init>") && decide (mR q.2.2.1 = none)
  | 3 => decide (q.2.2.1 < nM) && !mS q.2.2.1 && decide (nWM[q.2.2.2.2.1]? = some (oY q.1, q.2.1, mY q.2.2.1, "EndorsedLedger")) && ew_is q.2.2.2.2.2.1 (.instanceMethod (mY q.2.2.1)) && ew_is q.2.2.2.2.2.2 (.selects (mY q.2.2.1).cls (mY q.2.2.1) (mY q.2.2.1))
  | 4 => decide (q.2.2.1 < nM) && mS q.2.2.1 && decide (nWM[q.2.2.2.2.1]? = some (oY q.1, q.2.1, mY q.2.2.1, "EndorsedLedger")) && ew_is q.2.2.2.2.2.1 (.static (mY q.2.2.1))
  | 5 => decide (q.2.2.1 < nM) && !mS q.2.2.1 && decide (nWM[q.2.2.2.2.1]? = some (oY q.1, q.2.1, mY q.2.2.1, "EndorsedLedger")) && ew_is q.2.2.2.2.2.1 (.instanceMethod (mY q.2.2.1)) && decide ((mY q.2.2.1).name = "<init>") && decide (mR q.2.2.1 = none)
  | 6 => ew_is q.2.2.2.2.1 (.methodLink (oY q.1) q.2.1 objectInit)
  | 7 => ew_is q.2.2.2.2.1 (.methodLink (oY q.1) q.2.1 Lib.Math.max.name)
  | 8 => ew_is q.2.2.2.2.1 (.methodLink (oY q.1) q.2.1 Lib.Math.min.name)
  | _ => ew_is q.2.2.2.2.1 (.methodLink (oY q.1) q.2.1 arraycopyName)
set_option maxRecDepth 100000 in
theorem ck_M_ok : kMl.all ck_M = true := by decide +kernel
set_option maxRecDepth 100000 in
theorem tb_C : ∀ q ∈ kCl, q.2.2.1 < 11 ∧ ew_is q.2.2.2 (.classLink (oY q.1) q.2.1 (oY q.2.2.1)) = true := by decide +kernel
set_option maxRecDepth 100000 in
theorem tb_A : ∀ q ∈ kAl, 2 ≤ q.2.2.1 ∧ q.2.2.1 < 7 ∧ ew_is q.2.2.2 (.classLink (oY q.1) q.2.1 (nA.getD (q.2.2.1 - 2) "")) = true ∧ xA[q.2.2.1]? = some (.object (nA.getD (q.2.2.1 - 2) "")) := by decide +kernel
set_option maxRecDepth 100000 in
theorem tb_nA : ∀ k, k < 5 → lw_tbl[nAi.getD k 0]? = some (.arrayOver (.object (nA.getD k ""))) := by decide +kernel
set_option maxRecDepth 100000 in
theorem tb_nF : ∀ k, k < nWF.length → (nWF[k]?).map (fun q => Cond.fieldLinkNest q.1 q.2.1 q.2.2.1 q.2.2.2.1 q.2.2.2.2.1 q.2.2.2.2.2) = lw_tbl[nWFi.getD k 0]? := by decide +kernel
set_option maxRecDepth 100000 in
theorem tb_nM : ∀ k, k < nWM.length → (nWM[k]?).map (fun q => Cond.methodLinkNest q.1 q.2.1 q.2.2.1 q.2.2.2) = lw_tbl[nWMi.getD k 0]? := by decide +kernel
set_option maxRecDepth 100000 in
theorem T_AI : Cond.arrayClass (newarray.typeOf .int) ∈ ew := ew_in (ix := 118) (by decide +kernel)
set_option maxRecDepth 100000 in
theorem T_AZ : Cond.arrayClass (newarray.typeOf .boolean) ∈ ew := ew_in (ix := 801) (by decide +kernel)
set_option maxRecDepth 100000 in
theorem tb_6 : ew_is 93 (.instanceMethod objectInit) = true ∧ Cond.code objectInit ⟨#[0xb1]⟩ 1 none ∈ ew := ⟨by decide +kernel, List.mem_filter.mpr ⟨List.mem_append_right _ (show _ ∈ tables_1_1 ++ (tables_1_2 ++ (tables_1_3 ++ tables_1_4)) from List.mem_append_left _ (List.mem_of_getElem? (i := 21) (show tables_1_1[21]? = _ from rfl))), rfl⟩⟩
set_option maxRecDepth 100000 in
theorem tb_7 : ew_is 480 (.static Lib.Math.max.name) = true ∧ ew_is 86 (.initialized "java/lang/Math") = true ∧ Cond.code Lib.Math.max.name Lib.Math.max.code 2 (some .int) ∈ ew := ⟨by decide +kernel, by decide +kernel, List.mem_filter.mpr ⟨List.mem_append_right _ (show _ ∈ tables_1_1 ++ (tables_1_2 ++ (tables_1_3 ++ tables_1_4)) from List.mem_append_right _ (List.mem_append_left _ (List.mem_of_getElem? (i := 168) (show tables_1_2[168]? = _ from rfl)))), rfl⟩⟩
set_option maxRecDepth 100000 in
theorem tb_8 : ew_is 491 (.static Lib.Math.min.name) = true ∧ ew_is 86 (.initialized "java/lang/Math") = true ∧ Cond.code Lib.Math.min.name Lib.Math.min.code 2 (some .int) ∈ ew := ⟨by decide +kernel, by decide +kernel, List.mem_filter.mpr ⟨List.mem_append_right _ (show _ ∈ tables_1_1 ++ (tables_1_2 ++ (tables_1_3 ++ tables_1_4)) from List.mem_append_right _ (List.mem_append_left _ (List.mem_of_getElem? (i := 179) (show tables_1_2[179]? = _ from rfl)))), rfl⟩⟩
set_option maxRecDepth 100000 in
theorem tb_9 : ew_is 454 (.native arraycopyName) = true ∧ ew_is 453 (.static arraycopyName) = true ∧ ew_is 85 (.initialized "java/lang/System") = true := by decide +kernel
/-! what the engine asks of the tables -/
theorem T_A0 : xA[0]? = some .int := rfl
theorem T_A1 : xA[1]? = some .boolean := rfl
theorem vwCl_at {ci : Nat} (h : ci < 11) : vwCl[ci]? = some (oY ci, clT ci, clN ci) := by
  unfold vwCl
  rw [List.getElem?_map, List.getElem?_range h]
  rfl
theorem vwCl_of {ci N : Nat} {C : String} {T : u_T} (h : vwCl[ci]? = some (C, T, N)) : ci < 11 ∧ C = oY ci ∧ T = clT ci ∧ N = clN ci := by
  have hl : ci < 11 := by
    have := (List.getElem?_eq_some_iff.mp h).1
    simpa [vwCl] using this
  rw [vwCl_at hl] at h
  cases h
  exact ⟨hl, rfl, rfl, rfl⟩
theorem T_cls {ci N : Nat} {C : String} {T : u_T} (h : vwCl[ci]? = some (C, T, N)) : (∀ w ∈ u_ws C T N, w ∈ ew) ∧ (∀ k, k < N → parseFieldDescriptor (T k).2.2.1 = some (xT ci k)) ∧ (∀ a, a < N → ∀ b, b < N → a ≠ b → (T a).2.1 ≠ (T b).2.1) ∧ Cond.instantiable C N ∈ ew ∧ Cond.initialized C ∈ ew ∧ ci < 99 := by
  obtain ⟨hl, rfl, rfl, rfl⟩ := vwCl_of h
  refine ⟨fun w hw => ?_, tb_ty ci hl, tb_nm ci hl, ew_in (tb_in ci hl).1, ew_in (tb_in ci hl).2, by omega⟩
  obtain ⟨k, hk, rfl⟩ := List.mem_map.mp hw
  exact ew_in (tb_cls ci hl k (List.mem_range.mp hk))
theorem T_ty {ci N k : Nat} {C : String} {T : u_T} (h : vwCl[ci]? = some (C, T, N)) (hk : k < N) : xT ci k = .int ∨ xT ci k = .boolean ∨ (∃ C, xT ci k = .object C) ∨ ∃ t, xT ci k = .array t := by
  obtain ⟨hl, rfl, rfl, rfl⟩ := vwCl_of h
  have h4 := tb_t4 ci hl k hk
  cases hx : xT ci k <;> rw [hx] at h4 <;> simp [tb_k4] at h4 ⊢
theorem T_I {ci N k : Nat} {C : String} {T : u_T} (h : vwCl[ci]? = some (C, T, N)) (hk : k < N) : kI ci k = (T k).2.2.2 := by
  obtain ⟨hl, rfl, rfl, rfl⟩ := vwCl_of h
  rfl
theorem T_oY {ci N : Nat} {C : String} {T : u_T} (h : vwCl[ci]? = some (C, T, N)) : C = oY ci := (vwCl_of h).2.1
theorem find_q {α β : Type} {l : List α} {p : α → Bool} {f : α → β} {y : β} (h : (l.find? p).map f = some y) : ∃ q, q ∈ l ∧ p q = true ∧ f q = y := by
  cases hf : l.find? p with
  | none => rw [hf] at h; cases h
  | some q =>
    rw [hf] at h
    exact ⟨q, List.mem_of_find?_eq_some hf, List.find?_some hf, Option.some.inj h⟩
theorem T_F {o idx ci k : Nat} {nb : Bool} (h : kF o idx = some (ci, k, nb)) : ∃ (C : String) (T : u_T) (N : Nat) (host : String), vwCl[ci]? = some (C, T, N) ∧ k < N ∧ (T k).1 = C ∧ (nb = false → Cond.fieldLink (oY o) idx C (T k).2.1 (T k).2.2.1 ∈ ew) ∧ (nb = true → (oY o, idx, C, (T k).2.1, (T k).2.2.1, host) ∈ nWF) := by
  obtain ⟨q, hq, hp, hf⟩ := find_q h
  simp only [Bool.and_eq_true, beq_iff_eq] at hp
  cases hf
  obtain ⟨rfl, rfl⟩ := hp
  obtain ⟨h1, h2, h3, h4⟩ := tb_F q hq
  exact ⟨_, _, _, "EndorsedLedger", vwCl_at h1, h2, rfl, fun hb => ew_in (h4 hb), fun hb => List.mem_of_getElem? (h3 hb)⟩
theorem T_j {j : Nat} (h : j < nM) : Cond.code (mY j) (mB j) (mL j) (mR j) ∈ ew ∧ Cond.initialized (mY j).cls ∈ ew ∧ ((mY j).cls ≠ "java/lang/invoke/MethodHandle" ∧ (mY j).cls ≠ "java/lang/invoke/VarHandle") ∧ (parseMethodDescriptor (mY j).desc).map (fun d => d.parameters.length) = some (mN j) ∧ mL j ≤ 40 ∧ plainName (mY j).cls = true ∧ oY (mO j) = (mY j).cls ∧ mN j + (bif mS j then 0 else 1) ≤ mL j ∧ (mS j = false → ∃ (C : String) (T : u_T) (N : Nat), vwCl[mO j]? = some (C, T, N) ∧ C = (mY j).cls) := by
  obtain ⟨h1, h2, h3, h4, h5, h6, h7, h8⟩ := tb_j j h
  exact ⟨tb_m j h, ew_in h2, h3, h4, h5, h6, h7, h8, fun _ => ⟨_, _, _, vwCl_at h1, h7⟩⟩
theorem tb_Mq {o idx j md : Nat} (h : kM o idx = some (j, md)) : ∃ q, q ∈ kMl ∧ q.1 = o ∧ q.2.1 = idx ∧ q.2.2.1 = j ∧ q.2.2.2.1 = md := by
  obtain ⟨q, hq, hp, hf⟩ := find_q h
  simp only [Bool.and_eq_true, beq_iff_eq] at hp
  cases hf
  exact ⟨q, hq, hp.1, hp.2, rfl, rfl⟩
theorem T_V {o idx j : Nat} (h : kM o idx = some (j, 0)) : j < nM ∧ mS j = false ∧ Cond.methodLink (oY o) idx (mY j) ∈ ew ∧ Cond.instanceMethod (mY j) ∈ ew ∧ Cond.selects (mY j).cls (mY j) (mY j) ∈ ew := by
  obtain ⟨q, hq, rfl, rfl, rfl, hm⟩ := tb_Mq h
  have h1 := List.all_eq_true.mp ck_M_ok q hq
  unfold ck_M at h1
  rw [hm] at h1
  simp only [Bool.and_eq_true, decide_eq_true_eq, Bool.not_eq_true'] at h1
  obtain ⟨⟨⟨⟨a1, a2⟩, a3⟩, a4⟩, a5⟩ := h1
  exact ⟨a1, a2, ew_in a3, ew_in a4, ew_in a5⟩
theorem T_S {o idx j : Nat} (h : kM o idx = some (j, 1)) : j < nM ∧ mS j = true ∧ Cond.methodLink (oY o) idx (mY j) ∈ ew ∧ Cond.static (mY j) ∈ ew := by
  obtain ⟨q, hq, rfl, rfl, rfl, hm⟩ := tb_Mq h
  have h1 := List.all_eq_true.mp ck_M_ok q hq
  unfold ck_M at h1
  rw [hm] at h1
  simp only [Bool.and_eq_true, decide_eq_true_eq, Bool.not_eq_true'] at h1
  obtain ⟨⟨⟨a1, a2⟩, a3⟩, a4⟩ := h1
  exact ⟨a1, a2, ew_in a3, ew_in a4⟩
theorem T_I2 {o idx j : Nat} (h : kM o idx = some (j, 2)) : j < nM ∧ mS j = false ∧ Cond.methodLink (oY o) idx (mY j) ∈ ew ∧ Cond.instanceMethod (mY j) ∈ ew ∧ (mY j).name = "<init>" ∧ mR j = none := by
  obtain ⟨q, hq, rfl, rfl, rfl, hm⟩ := tb_Mq h
  have h1 := List.all_eq_true.mp ck_M_ok q hq
  unfold ck_M at h1
  rw [hm] at h1
  simp only [Bool.and_eq_true, decide_eq_true_eq, Bool.not_eq_true'] at h1
  obtain ⟨⟨⟨⟨⟨a1, a2⟩, a3⟩, a4⟩, a5⟩, a6⟩ := h1
  exact ⟨a1, a2, ew_in a3, ew_in a4, a5, a6⟩
theorem T_VN {o idx j : Nat} (h : kM o idx = some (j, 3)) : j < nM ∧ mS j = false ∧ ∃ host, (oY o, idx, mY j, host) ∈ nWM ∧ Cond.instanceMethod (mY j) ∈ ew ∧ Cond.selects (mY j).cls (mY j) (mY j) ∈ ew := by
  obtain ⟨q, hq, rfl, rfl, rfl, hm⟩ := tb_Mq h
  have h1 := List.all_eq_true.mp ck_M_ok q hq
  unfold ck_M at h1
  rw [hm] at h1
  simp only [Bool.and_eq_true, decide_eq_true_eq, Bool.not_eq_true'] at h1
  obtain ⟨⟨⟨⟨a1, a2⟩, a3⟩, a4⟩, a5⟩ := h1
  exact ⟨a1, a2, _, List.mem_of_getElem? a3, ew_in a4, ew_in a5⟩
theorem T_SN {o idx j : Nat} (h : kM o idx = some (j, 4)) : j < nM ∧ mS j = true ∧ ∃ host, (oY o, idx, mY j, host) ∈ nWM ∧ Cond.static (mY j) ∈ ew := by
  obtain ⟨q, hq, rfl, rfl, rfl, hm⟩ := tb_Mq h
  have h1 := List.all_eq_true.mp ck_M_ok q hq
  unfold ck_M at h1
  rw [hm] at h1
  simp only [Bool.and_eq_true, decide_eq_true_eq, Bool.not_eq_true'] at h1
  obtain ⟨⟨⟨a1, a2⟩, a3⟩, a4⟩ := h1
  exact ⟨a1, a2, _, List.mem_of_getElem? a3, ew_in a4⟩
theorem T_IN {o idx j : Nat} (h : kM o idx = some (j, 5)) : j < nM ∧ mS j = false ∧ ∃ host, (oY o, idx, mY j, host) ∈ nWM ∧ Cond.instanceMethod (mY j) ∈ ew ∧ (mY j).name = "<init>" ∧ mR j = none := by
  obtain ⟨q, hq, rfl, rfl, rfl, hm⟩ := tb_Mq h
  have h1 := List.all_eq_true.mp ck_M_ok q hq
  unfold ck_M at h1
  rw [hm] at h1
  simp only [Bool.and_eq_true, decide_eq_true_eq, Bool.not_eq_true'] at h1
  obtain ⟨⟨⟨⟨⟨a1, a2⟩, a3⟩, a4⟩, a5⟩, a6⟩ := h1
  exact ⟨a1, a2, _, List.mem_of_getElem? a3, ew_in a4, a5, a6⟩
theorem T_N6 {o idx j : Nat} (h : kM o idx = some (j, 6)) : Cond.methodLink (oY o) idx objectInit ∈ ew ∧ Cond.instanceMethod objectInit ∈ ew ∧ Cond.code objectInit ⟨#[0xb1]⟩ 1 none ∈ ew := by
  obtain ⟨q, hq, rfl, rfl, rfl, hm⟩ := tb_Mq h
  have h1 := List.all_eq_true.mp ck_M_ok q hq
  unfold ck_M at h1
  rw [hm] at h1
  exact ⟨ew_in h1, ew_in tb_6.1, tb_6.2⟩
theorem T_N7 {o idx j : Nat} (h : kM o idx = some (j, 7)) : Cond.methodLink (oY o) idx Lib.Math.max.name ∈ ew ∧ Cond.static Lib.Math.max.name ∈ ew ∧ Cond.initialized "java/lang/Math" ∈ ew ∧ Cond.code Lib.Math.max.name Lib.Math.max.code 2 (some .int) ∈ ew := by
  obtain ⟨q, hq, rfl, rfl, rfl, hm⟩ := tb_Mq h
  have h1 := List.all_eq_true.mp ck_M_ok q hq
  unfold ck_M at h1
  rw [hm] at h1
  exact ⟨ew_in h1, ew_in tb_7.1, ew_in tb_7.2.1, tb_7.2.2⟩
theorem T_N8 {o idx j : Nat} (h : kM o idx = some (j, 8)) : Cond.methodLink (oY o) idx Lib.Math.min.name ∈ ew ∧ Cond.static Lib.Math.min.name ∈ ew ∧ Cond.initialized "java/lang/Math" ∈ ew ∧ Cond.code Lib.Math.min.name Lib.Math.min.code 2 (some .int) ∈ ew := by
  obtain ⟨q, hq, rfl, rfl, rfl, hm⟩ := tb_Mq h
  have h1 := List.all_eq_true.mp ck_M_ok q hq
  unfold ck_M at h1
  rw [hm] at h1
  exact ⟨ew_in h1, ew_in tb_8.1, ew_in tb_8.2.1, tb_8.2.2⟩
theorem T_N9 {o idx j : Nat} (h : kM o idx = some (j, 9)) : Cond.methodLink (oY o) idx arraycopyName ∈ ew ∧ Cond.native arraycopyName ∈ ew ∧ Cond.static arraycopyName ∈ ew ∧ Cond.initialized "java/lang/System" ∈ ew := by
  obtain ⟨q, hq, rfl, rfl, rfl, hm⟩ := tb_Mq h
  have h1 := List.all_eq_true.mp ck_M_ok q hq
  unfold ck_M at h1
  rw [hm] at h1
  exact ⟨ew_in h1, ew_in tb_9.1, ew_in tb_9.2.1, ew_in tb_9.2.2⟩
theorem T_C {o idx ci N : Nat} {C : String} {T : u_T} (h : kC o idx = some ci) (hc : vwCl[ci]? = some (C, T, N)) : Cond.classLink (oY o) idx C ∈ ew := by
  obtain ⟨q, hq, hp, hf⟩ := find_q h
  simp only [Bool.and_eq_true, beq_iff_eq] at hp
  cases hf
  obtain ⟨rfl, rfl⟩ := hp
  obtain ⟨h1, h2⟩ := tb_C q hq
  rw [T_oY hc]
  exact ew_in h2
theorem T_A {o idx t : Nat} (h : kA o idx = some t) : ∃ C, xA[t]? = some (.object C) ∧ Cond.classLink (oY o) idx C ∈ ew ∧ C ∈ nA := by
  obtain ⟨q, hq, hp, hf⟩ := find_q h
  simp only [Bool.and_eq_true, beq_iff_eq] at hp
  cases hf
  obtain ⟨rfl, rfl⟩ := hp
  obtain ⟨h1, h2, h3, h4⟩ := tb_A q hq
  refine ⟨_, h4, ew_in h3, ?_⟩
  have : q.2.2.1 - 2 < nA.length := by show q.2.2.1 - 2 < 5; omega
  rw [List.getD_eq_getElem?_getD, List.getElem?_eq_getElem this]
  exact List.getElem_mem this
end
section
/-! THE ENGINE: a memory of ints and references by abstract addresses; a judgement 'en_Go' (from this place of this method, with these locals, this stack, this memory: the method returns r with a memory M' such that P r M'); a rule an instruction; the rule of a call is nested. -/
abbrev en_M : Type := List (Nat × Nat) × (Nat → Nat → Int32) × (Nat → Nat → Option Nat)
def en_sl (M : en_M) : Nat := (M.1.map Prod.snd).sum
def en_u2 {α : Type} (f : Nat → Nat → α) (a k : Nat) (x : α) : Nat → Nat → α := fun b j => if b = a then (if j = k then x else f b j) else f b j
theorem en_u2_row {f : Nat → Nat → Int32} {a k : Nat} {x : Int32} : en_u2 f a k x a = upd (f a) k x := by
  funext j
  simp [en_u2, upd]
theorem en_u2_off {α : Type} {f : Nat → Nat → α} {a k b : Nat} {x : α} (h : b ≠ a) : en_u2 f a k x b = f b := by
  funext j
  simp [en_u2, h]
/-- a row of an array, whole -/
def en_ur {α : Type} (f : Nat → Nat → α) (a : Nat) (g : Nat → α) : Nat → Nat → α := fun b => if b = a then g else f b
theorem en_ur_row {α : Type} {f : Nat → Nat → α} {a : Nat} {g : Nat → α} : en_ur f a g a = g := by simp [en_ur]
theorem en_ur_off {α : Type} {f : Nat → Nat → α} {a b : Nat} {g : Nat → α} (h : b ≠ a) : en_ur f a g b = f b := by simp [en_ur, h]
def en_ad (b0 bS : Nat) (a : Nat) : Nat := match a with
  | 0 => bS
  | a + 1 => b0 + a
def en_v (b0 bS : Nat) (v : Value) : Value := match v with
  | .ref a => .ref (en_ad b0 bS a)
  | v => v
def en_xr (ci k : Nat) : Bool := match xT ci k with
  | .int => false
  | .boolean => false
  | _ => true
def en_f (b0 bS : Nat) (M : en_M) (ci a k : Nat) : Value := if en_xr ci k = true then va_rf ((M.2.2 a k).map (en_ad b0 bS)) else .int (M.2.1 a k)
def en_e (b0 bS : Nat) (cA : Nat → ClassId) (M : en_M) (a : Nat) (q : Nat × Nat) : va_E :=
  if q.1 < 99 then .inr (q.1, (List.range q.2).map (en_f b0 bS M q.1 a))
  else .inl (cA (q.1 - 100), q.2, if q.1 < 102 then .inl (M.2.1 a) else .inr (.inr (.inr (.inr (fun k => (M.2.2 a k).map (en_ad b0 bS))))))
def en_w (b0 bS : Nat) (cA : Nat → ClassId) (M : en_M) : va_W := (List.range (M.1.length - 1)).map (fun j => (b0 + j, en_e b0 bS cA M (j + 1) (M.1.getD (j + 1) (0, 0))))
def en_ty (cA : Nat → ClassId) : List (ClassId × FieldType) := (List.range xA.length).map (fun t => (cA t, xA.getD t .int))
theorem en_ty_at {cA : Nat → ClassId} {t : Nat} {ty : FieldType} (h : xA[t]? = some ty) : (en_ty cA)[t]? = some (cA t, ty) := by
  have hl : t < xA.length := (List.getElem?_eq_some_iff.mp h).1
  unfold en_ty
  rw [List.getElem?_map, List.getElem?_range hl]
  simp [List.getD_eq_getElem?_getD, h]
section ENW
variable {b0 bS : Nat} {cA : Nat → ClassId} {M M' : en_M} {a n : Nat} {q : Nat × Nat}
theorem en_w_len : (en_w b0 bS cA M).length = M.1.length - 1 := by simp [en_w]
theorem en_w_at (h : M.1[a + 1]? = some q) : (en_w b0 bS cA M)[a]? = some (b0 + a, en_e b0 bS cA M (a + 1) q) := by
  have hl : a + 1 < M.1.length := (List.getElem?_eq_some_iff.mp h).1
  unfold en_w
  rw [List.getElem?_map, List.getElem?_range (by omega)]
  simp [List.getD_eq_getElem?_getD, h]
theorem en_w_key {k : Nat} {x : Nat × va_E} (h : (en_w b0 bS cA M)[k]? = some x) : x.1 = b0 + k := by
  obtain ⟨hlt, he⟩ := List.getElem?_eq_some_iff.mp h
  rw [← he]
  simp [en_w]
theorem en_w_D : va_D (fun q => b0 ≤ q) (en_w b0 bS cA M) := by
  refine ⟨fun i j x y hi hj e => ?_, fun k x hk => ?_⟩
  · have h1 := en_w_key hi
    have h2 := en_w_key hj
    omega
  · have h1 := en_w_key hk
    show b0 ≤ x.1
    omega
theorem en_e_congr (h1 : M'.2.1 a = M.2.1 a) (h2 : M'.2.2 a = M.2.2 a) : en_e b0 bS cA M' a q = en_e b0 bS cA M a q := by
  have h3 : en_f b0 bS M' q.1 a = en_f b0 bS M q.1 a := by
    funext k
    simp only [en_f, h1, h2]
  unfold en_e
  rw [h3, h1, h2]
theorem en_w_set (h : M.1[a + 1]? = some q) (h1 : M'.1 = M.1) (h2 : ∀ b, b ≠ a + 1 → M'.2.1 b = M.2.1 b) (h3 : ∀ b, b ≠ a + 1 → M'.2.2 b = M.2.2 b) :
    en_w b0 bS cA M' = (en_w b0 bS cA M).set a (b0 + a, en_e b0 bS cA M' (a + 1) q) := by
  have hl : a + 1 < M.1.length := (List.getElem?_eq_some_iff.mp h).1
  apply List.ext_getElem?
  intro j
  rw [List.getElem?_set]
  by_cases hj : a = j
  · subst hj
    rw [if_pos rfl, if_pos (by rw [en_w_len]; omega)]
    exact en_w_at (by rw [h1]; exact h)
  · rw [if_neg hj]
    by_cases hjl : j + 1 < M.1.length
    · have e : M.1[j + 1]? = some (M.1[j + 1]) := List.getElem?_eq_getElem hjl
      rw [en_w_at (M := M') (by rw [h1]; exact e), en_w_at e, en_e_congr (h2 _ (by omega)) (h3 _ (by omega))]
    · rw [List.getElem?_eq_none (by rw [en_w_len, h1]; omega), List.getElem?_eq_none (by rw [en_w_len]; omega)]
theorem en_fs_set {ci k : Nat} {v : Value} (hk : k < n) (ho : ∀ j, j ≠ k → en_f b0 bS M' ci a j = en_f b0 bS M ci a j) (hv : en_f b0 bS M' ci a k = v) :
    ((List.range n).map (en_f b0 bS M ci a)).set k v = (List.range n).map (en_f b0 bS M' ci a) := by
  apply List.ext_getElem?
  intro j
  rw [List.getElem?_set]
  by_cases hj : k = j
  · subst hj
    rw [if_pos rfl, if_pos (by simpa using hk), List.getElem?_map, List.getElem?_range hk]
    simp [hv]
  · rw [if_neg hj]
    by_cases hjl : j < n
    · rw [List.getElem?_map, List.getElem?_map, List.getElem?_range hjl]
      simp [ho j (fun z => hj z.symm)]
    · rw [List.getElem?_eq_none (by simp; omega), List.getElem?_eq_none (by simp; omega)]
end ENW
/-! locals: a list as long as the frame's; what stands there as a long is not known -/
def en_l (b0 bS : Nat) (L : List Value) : List (Nat × Value) := (List.range L.length).filterMap (fun i => (L[i]?).bind (fun v => if v.category = 1 then some (i, en_v b0 bS v) else none))
theorem en_l_mem {b0 bS : Nat} {L : List Value} {q : Nat × Value} : q ∈ en_l b0 bS L ↔ ∃ v, L[q.1]? = some v ∧ v.category = 1 ∧ q.2 = en_v b0 bS v := by
  unfold en_l
  rw [List.mem_filterMap]
  constructor
  · rintro ⟨i, hi, h⟩
    cases hv : L[i]? with
    | none => rw [hv] at h; cases h
    | some v =>
      rw [hv] at h
      simp only [Option.bind_some] at h
      by_cases hc : v.category = 1
      · rw [if_pos hc] at h
        cases h
        exact ⟨v, hv, hc, rfl⟩
      · rw [if_neg hc] at h
        cases h
  · rintro ⟨v, hv, hc, he⟩
    have hl : q.1 < L.length := (List.getElem?_eq_some_iff.mp hv).1
    refine ⟨q.1, List.mem_range.mpr hl, ?_⟩
    rw [hv]
    simp only [Option.bind_some]
    rw [if_pos hc, ← he]
theorem en_v_cat (b0 bS : Nat) (v : Value) : (en_v b0 bS v).category = v.category := by cases v <;> rfl
def en_L (b0 bS : Nat) (ls : Array Slot) (nL : Nat) (L : List Value) : Prop := L.length = nL ∧ lv_has ls nL (en_l b0 bS L)
theorem en_L_at {b0 bS : Nat} {ls : Array Slot} {nL k : Nat} {L : List Value} {v : Value} (h : en_L b0 bS ls nL L) (hk : L[k]? = some v) (hc : v.category = 1) : ls[k]? = some (.val (en_v b0 bS v)) :=
  h.2.2.2 (k, en_v b0 bS v) (en_l_mem.mpr ⟨v, hk, hc, rfl⟩)
theorem en_L_set {b0 bS : Nat} {ls : Array Slot} {nL k : Nat} {L : List Value} {v : Value} (hl : L.length = nL)
    (h' : lv_has ls nL ((k, en_v b0 bS v) :: (en_l b0 bS L).filter (fun q => !(q.1 == k) && !(q.1 + 1 == k && q.2.category == 2)))) : en_L b0 bS ls nL (L.set k v) := by
  refine ⟨by rw [List.length_set]; exact hl, h'.1, h'.2.1, fun q hq => ?_⟩
  obtain ⟨w, hw, hwc, he⟩ := en_l_mem.mp hq
  rw [List.getElem?_set] at hw
  by_cases hk : k = q.1
  · rw [if_pos hk] at hw
    split at hw
    · cases hw
      have := h'.2.2 (k, en_v b0 bS v) List.mem_cons_self
      rw [he, ← hk]
      exact this
    · cases hw
  · rw [if_neg hk] at hw
    refine h'.2.2 q (List.mem_cons_of_mem _ (List.mem_filter.mpr ⟨en_l_mem.mpr ⟨w, hw, hwc, he⟩, ?_⟩))
    have h2 : q.2.category = 1 := by rw [he, en_v_cat]; exact hwc
    simp [h2]
    exact fun z => hk z.symm
/-- the locals with which method j begins -/
def en_in (j : Nat) (as : List Value) : List Value := as ++ List.replicate (mL j - as.length) (.long 0)
theorem en_args_mem : ∀ (vs : List Value) (k j : Nat) (v : Value), (∀ w ∈ vs, w.category = 1) → vs[j]? = some v → (k + j, v) ∈ lv_args k vs := by
  intro vs
  induction vs with
  | nil => intro k j v _ h; simp at h
  | cons a l ih =>
    intro k j v hc h
    have ha : a.category = 1 := hc a List.mem_cons_self
    unfold lv_args
    cases j with
    | zero =>
      simp at h
      subst h
      exact List.mem_cons_self
    | succ j =>
      refine List.mem_cons_of_mem _ ?_
      rw [if_neg (by omega)]
      have := ih (k + 1) j v (fun w hw => hc w (List.mem_cons_of_mem _ hw)) (by simpa using h)
      rw [show k + (j + 1) = k + 1 + j by omega]
      exact this
theorem en_sl_len : ∀ (vs : List Value), (∀ w ∈ vs, w.category = 1) → (lg_sl vs).length = vs.length := by
  intro vs
  induction vs with
  | nil => intro _; rfl
  | cons a l ih =>
    intro hc
    have ha : a.category = 1 := hc a List.mem_cons_self
    have h2 := ih (fun w hw => hc w (List.mem_cons_of_mem _ hw))
    unfold lg_sl at h2 ⊢
    rw [List.flatMap_cons, if_neg (by omega), List.length_append, h2]
    simp
    omega
theorem en_L_entry {b0 bS n : Nat} {as : List Value} (hc : ∀ v ∈ as, v.category = 1) (hn : as.length ≤ n) :
    en_L b0 bS ((lg_sl (as.map (en_v b0 bS)) ++ List.replicate (n - (lg_sl (as.map (en_v b0 bS))).length) Slot.unset).toArray) n (as ++ List.replicate (n - as.length) (.long 0)) := by
  have hcm : ∀ w ∈ as.map (en_v b0 bS), w.category = 1 := by
    intro w hw
    obtain ⟨v, hv, rfl⟩ := List.mem_map.mp hw
    rw [en_v_cat]
    exact hc v hv
  have hs := en_sl_len _ hcm
  rw [List.length_map] at hs
  have h := lv_entry (as.map (en_v b0 bS)) (n := n) (by rw [hs]; exact hn)
  refine ⟨by rw [List.length_append, List.length_replicate]; omega, h.1, h.2.1, fun q hq => ?_⟩
  obtain ⟨v, hv, hc', he⟩ := en_l_mem.mp hq
  by_cases hq1 : q.1 < as.length
  · rw [List.getElem?_append_left hq1] at hv
    refine h.2.2 q ?_
    have h3 := en_args_mem (as.map (en_v b0 bS)) 0 q.1 q.2 hcm (by rw [List.getElem?_map, hv, he]; rfl)
    rw [Nat.zero_add] at h3
    exact h3
  · rw [List.getElem?_append_right (by omega), List.getElem?_replicate] at hv
    split at hv
    · cases hv
      exact absurd hc' (by decide)
    · cases hv
/-! the context of a frame -/
def en_N (U : State) : Prop := (∀ q ∈ nWF, va_Nw (.fieldLinkNest q.1 q.2.1 q.2.2.1 q.2.2.2.1 q.2.2.2.2.1 q.2.2.2.2.2) U) ∧ (∀ q ∈ nWM, va_Nw (.methodLinkNest q.1 q.2.1 q.2.2.1 q.2.2.2) U) ∧ ∀ C ∈ nA, va_AO C U
theorem en_N.warm {s U : State} (hW : s.WarmedH U.vm) (h : en_N s) : en_N U := ⟨fun q hq => va_Nw.warmF hW (h.1 q hq), fun q hq => va_Nw.warmM hW (h.2.1 q hq), fun C hC => va_AO.moved hW.alike (h.2.2 C hC)⟩
theorem en_N.same {s U : State} (hvm : s.vm = U.vm) (h : en_N s) : en_N U := ⟨fun q hq => va_Nw.same rfl hvm (h.1 q hq), fun q hq => va_Nw.same rfl hvm (h.2.1 q hq), fun C hC => va_AO.moved (by rw [hvm]; exact Vm.Alike.refl _) (h.2.2 C hC)⟩
def en_rt (i : Nat) (ins : Instr) (r : Option Value) : Prop :=
  (ins = .ireturn ∧ mR i = some .int ∧ ∃ x, r = some (.int x)) ∨ (ins = .ireturn ∧ mR i = some .boolean ∧ ∃ x : Int32, r = some (.int x) ∧ (x = 0 ∨ x = 1)) ∨ (ins = .return_ ∧ mR i = none ∧ r = none) ∨ (ins = .areturn ∧ (∃ C, mR i = some (.object C)) ∧ ∃ a, r = some (.ref a))
def en_ok (p : Program) (R : Room) (s : State) (m : MethodId) (args : Array Value) (meth : Method) (c : Code) (D : va_G) (cA : Nat → ClassId) (b0 bS LS z0 y0 nc ns : Nat) (xs : Nat → Int32) (i : Nat) : Prop :=
  p.tables.exec = Jvm.exec ∧ c.code = mB i ∧ c.maxLocals = mL i ∧ s.vm.findClass (oY (mO i)) = some m.cls ∧ (∀ w ∈ ew, w.before args s = true) ∧ en_N s ∧ va_K D vwCl (en_ty cA) s ∧ (meth.name = (mY i).name ∧ meth.sig.returnType = mR i ∧ meth.locks = false) ∧ (mK i ≤ R.frames ∧ mQ i ≤ R.locals) ∧ va_X bS LS xs s s.heap ∧ (bS < b0 ∧ s.heap.size + 1 = b0 + z0 ∧ 1 ≤ z0) ∧ nc ≤ z0 + R.cells ∧ ns ≤ y0 + R.slots
def en_at (s : State) (D : va_G) (cA : Nat → ClassId) (b0 bS LS z0 y0 nc ns : Nat) (xs : Nat → Int32) (M : en_M) (H : Heap) (locs : List Loc) (cells slots : Nat) : Prop :=
  va_P D vwCl (en_w b0 bS cA M) H ∧ va_S (fun q => b0 ≤ q) s.heap H locs ∧ (cells + z0 = M.1.length ∧ slots + y0 = en_sl M) ∧ (M.1.length ≤ nc ∧ en_sl M ≤ ns) ∧ M.1[0]? = some (99, LS) ∧ ∀ k, k < LS → M.2.1 0 k = xs k
def en_Go (nc ns i pc : Nat) (L st : List Value) (M : en_M) (P : Option Value → en_M → Prop) : Prop :=
  ∀ (p : Program) (l : Launch) (e : Env) (R : Room) (s : State) (m : MethodId) (args : Array Value) (below : List Frame) (meth : Method) (c : Code) (Q : State → Prop) (D : va_G) (cA : Nat → ClassId) (b0 bS LS z0 y0 : Nat) (xs : Nat → Int32),
    en_ok p R s m args meth c D cA b0 bS LS z0 y0 nc ns xs i →
    (∀ (r : Option Value) (M' : en_M) (pc' : Nat) (ls' : Array Slot) (H : Heap) (locs : List Loc) (cells slots : Nat) (ins : Instr), P r M' → M'.1.length = nc → en_sl M' = ns → decode (mB i) pc' = .ok (ins, 1) → en_rt i ins r →
      en_at s D cA b0 bS LS z0 y0 nc ns xs M' H locs cells slots → W p l e R s m args below meth c H locs cells slots Q (F0 m pc' ls' (r.toList.map (en_v b0 bS)))) →
    ∀ (H : Heap) (locs : List Loc) (cells slots : Nat) (ls : Array Slot), en_at s D cA b0 bS LS z0 y0 nc ns xs M H locs cells slots → en_L b0 bS ls (mL i) L →
      W p l e R s m args below meth c H locs cells slots Q (F0 m pc ls (st.map (en_v b0 bS)))
/-! what an instruction is, with the next place -/
def en_d (i pc : Nat) (ins : Instr) (n pc' : Nat) : Prop := decode (mB i) pc = .ok (ins, n) ∧ pc + n = pc'
def en_j (i pc : Nat) (ins : Int → Instr) (pc' tgt : Nat) : Prop := ∃ off : Int, decode (mB i) pc = .ok (ins off, 3) ∧ (pc : Int) + off = (tgt : Int) ∧ pc + 3 = pc'
def en_df (i pc ci k : Nat) (nb rf : Bool) (pc' : Nat) : Prop := ∃ idx : Nat, decode (mB i) pc = .ok (.getfield idx, 3) ∧ kF (mO i) idx = some (ci, k, nb) ∧ en_xr ci k = rf ∧ pc + 3 = pc'
def en_dp (i pc ci k : Nat) (nb : Bool) (ty : FieldType) (pc' : Nat) : Prop := ∃ idx : Nat, decode (mB i) pc = .ok (.putfield idx, 3) ∧ kF (mO i) idx = some (ci, k, nb) ∧ xT ci k = ty ∧ pc + 3 = pc'
section ENR
variable {nc ns i pc pc' tgt : Nat} {L L' st : List Value} {M : en_M} {P : Option Value → en_M → Prop}
/-- a step that leaves memory and locals -/
theorem en_st {st' : List Value} (h : ∀ (p : Program) (l : Launch) (e : Env) (R : Room) (s : State) (m : MethodId) (args : Array Value) (below : List Frame) (meth : Method) (c : Code) (Q : State → Prop) (b0 bS : Nat) (H : Heap) (locs : List Loc) (cells slots : Nat) (ls : Array Slot),
      p.tables.exec = Jvm.exec → c.code = mB i → en_L b0 bS ls (mL i) L → W p l e R s m args below meth c H locs cells slots Q (F0 m pc' ls (st'.map (en_v b0 bS))) → W p l e R s m args below meth c H locs cells slots Q (F0 m pc ls (st.map (en_v b0 bS))))
    (k : en_Go nc ns i pc' L st' M P) : en_Go nc ns i pc L st M P := by
  intro p l e R s m args below meth c Q D cA b0 bS LS z0 y0 xs ok hr H locs cells slots ls hat hL
  exact h p l e R s m args below meth c Q b0 bS H locs cells slots ls ok.1 ok.2.1 hL (k p l e R s m args below meth c Q D cA b0 bS LS z0 y0 xs ok hr H locs cells slots ls hat hL)
theorem en_iconst {n : Int} {v : Int32} (hd : en_d i pc (.iconst n) 1 pc') (hv : Int32.ofInt n = v) (k : en_Go nc ns i pc' L (.int v :: st) M P) : en_Go nc ns i pc L st M P := by
  obtain ⟨hd, rfl⟩ := hd
  exact en_st (fun _ _ _ _ _ _ _ _ _ _ _ _ _ _ _ _ _ _ hx hb _ kk => lv_iconst hx hb hd hv kk) k
theorem en_bipush {n : Int} {v : Int32} (hd : en_d i pc (.bipush n) 2 pc') (hv : (Int8.ofInt n).toInt32 = v) (k : en_Go nc ns i pc' L (.int v :: st) M P) : en_Go nc ns i pc L st M P := by
  obtain ⟨hd, rfl⟩ := hd
  exact en_st (fun _ _ _ _ _ _ _ _ _ _ _ _ _ _ _ _ _ _ hx hb _ kk => lv_bipush hx hb hd hv kk) k
theorem en_sipush {n : Int} {v : Int32} (hd : en_d i pc (.sipush n) 3 pc') (hv : (Int16.ofInt n).toInt32 = v) (k : en_Go nc ns i pc' L (.int v :: st) M P) : en_Go nc ns i pc L st M P := by
  obtain ⟨hd, rfl⟩ := hd
  exact en_st (fun _ _ _ _ _ _ _ _ _ _ _ _ _ _ _ _ _ _ hx hb _ kk => lv_sipush hx hb hd hv kk) k
theorem en_iload_n {j : Fin 4} {x : Int32} (hd : en_d i pc (.iload_n j) 1 pc') (hl : L[j.val]? = some (.int x)) (k : en_Go nc ns i pc' L (.int x :: st) M P) : en_Go nc ns i pc L st M P := by
  obtain ⟨hd, rfl⟩ := hd
  exact en_st (fun _ _ _ _ _ _ _ _ _ _ _ b0 bS _ _ _ _ _ hx hb hL kk => lv_iload_n hx hb hd rfl (en_L_at hL hl rfl) kk) k
theorem en_iload {j : Nat} {x : Int32} (hd : en_d i pc (.iload j) 2 pc') (hl : L[j]? = some (.int x)) (k : en_Go nc ns i pc' L (.int x :: st) M P) : en_Go nc ns i pc L st M P := by
  obtain ⟨hd, rfl⟩ := hd
  exact en_st (fun _ _ _ _ _ _ _ _ _ _ _ b0 bS _ _ _ _ _ hx hb hL kk => lv_iload hx hb hd (en_L_at hL hl rfl) kk) k
theorem en_aload_n {j : Fin 4} {x : Nat} (hd : en_d i pc (.aload_n j) 1 pc') (hl : L[j.val]? = some (.ref x)) (k : en_Go nc ns i pc' L (.ref x :: st) M P) : en_Go nc ns i pc L st M P := by
  obtain ⟨hd, rfl⟩ := hd
  exact en_st (fun _ _ _ _ _ _ _ _ _ _ _ b0 bS _ _ _ _ _ hx hb hL kk => lv_aload_n hx hb hd rfl (en_L_at hL hl rfl) kk) k
theorem en_aload {j x : Nat} (hd : en_d i pc (.aload j) 2 pc') (hl : L[j]? = some (.ref x)) (k : en_Go nc ns i pc' L (.ref x :: st) M P) : en_Go nc ns i pc L st M P := by
  obtain ⟨hd, rfl⟩ := hd
  exact en_st (fun _ _ _ _ _ _ _ _ _ _ _ b0 bS _ _ _ _ _ hx hb hL kk => lv_aload hx hb hd (en_L_at hL hl rfl) kk) k
theorem en_istore_n {j : Fin 4} {x : Int32} (hd : en_d i pc (.istore_n j) 1 pc') (hn : j.val < mL i) (hl : L.set j.val (.int x) = L') (k : en_Go nc ns i pc' L' st M P) : en_Go nc ns i pc L (.int x :: st) M P := by
  obtain ⟨hd, rfl⟩ := hd
  subst hl
  intro p l e R s m args below meth c Q D cA b0 bS LS z0 y0 xs ok hr H locs cells slots ls hat hL
  exact lv_istore_n ok.1 ok.2.1 hd rfl hL.2 hn rfl (fun ls' h' => k p l e R s m args below meth c Q D cA b0 bS LS z0 y0 xs ok hr H locs cells slots ls' hat (en_L_set (v := .int x) hL.1 h'))
theorem en_istore {j : Nat} {x : Int32} (hd : en_d i pc (.istore j) 2 pc') (hn : j < mL i) (hl : L.set j (.int x) = L') (k : en_Go nc ns i pc' L' st M P) : en_Go nc ns i pc L (.int x :: st) M P := by
  obtain ⟨hd, rfl⟩ := hd
  subst hl
  intro p l e R s m args below meth c Q D cA b0 bS LS z0 y0 xs ok hr H locs cells slots ls hat hL
  exact lv_istore ok.1 ok.2.1 hd hL.2 hn rfl (fun ls' h' => k p l e R s m args below meth c Q D cA b0 bS LS z0 y0 xs ok hr H locs cells slots ls' hat (en_L_set (v := .int x) hL.1 h'))
theorem en_astore_n {j : Fin 4} {x : Nat} (hd : en_d i pc (.astore_n j) 1 pc') (hn : j.val < mL i) (hl : L.set j.val (.ref x) = L') (k : en_Go nc ns i pc' L' st M P) : en_Go nc ns i pc L (.ref x :: st) M P := by
  obtain ⟨hd, rfl⟩ := hd
  subst hl
  intro p l e R s m args below meth c Q D cA b0 bS LS z0 y0 xs ok hr H locs cells slots ls hat hL
  exact lv_astore_n ok.1 ok.2.1 hd rfl hL.2 hn rfl (fun ls' h' => k p l e R s m args below meth c Q D cA b0 bS LS z0 y0 xs ok hr H locs cells slots ls' hat (en_L_set (v := .ref x) hL.1 h'))
theorem en_astore {j x : Nat} (hd : en_d i pc (.astore j) 2 pc') (hn : j < mL i) (hl : L.set j (.ref x) = L') (k : en_Go nc ns i pc' L' st M P) : en_Go nc ns i pc L (.ref x :: st) M P := by
  obtain ⟨hd, rfl⟩ := hd
  subst hl
  intro p l e R s m args below meth c Q D cA b0 bS LS z0 y0 xs ok hr H locs cells slots ls hat hL
  exact lv_astore ok.1 ok.2.1 hd hL.2 hn rfl (fun ls' h' => k p l e R s m args below meth c Q D cA b0 bS LS z0 y0 xs ok hr H locs cells slots ls' hat (en_L_set (v := .ref x) hL.1 h'))
theorem en_iinc {j : Nat} {n : Int} {x : Int32} (hd : en_d i pc (.iinc j n) 3 pc') (hg : L[j]? = some (.int x)) (hn : j < mL i) (hl : L.set j (.int (x + Int32.ofInt n)) = L') (k : en_Go nc ns i pc' L' st M P) : en_Go nc ns i pc L st M P := by
  obtain ⟨hd, rfl⟩ := hd
  subst hl
  intro p l e R s m args below meth c Q D cA b0 bS LS z0 y0 xs ok hr H locs cells slots ls hat hL
  obtain ⟨kk, hkk⟩ := List.getElem?_of_mem (en_l_mem.mpr ⟨_, hg, rfl, rfl⟩ : (j, en_v b0 bS (.int x)) ∈ en_l b0 bS L)
  exact lv_iinc ok.1 ok.2.1 hd hL.2 (k := kk) hkk rfl hn rfl (fun ls' h' => k p l e R s m args below meth c Q D cA b0 bS LS z0 y0 xs ok hr H locs cells slots ls' hat (en_L_set (v := .int (x + Int32.ofInt n)) hL.1 h'))
theorem en_iadd {x y : Int32} (hd : en_d i pc .iadd 1 pc') (k : en_Go nc ns i pc' L (.int (x + y) :: st) M P) : en_Go nc ns i pc L (.int y :: .int x :: st) M P := by
  obtain ⟨hd, rfl⟩ := hd
  exact en_st (fun _ _ _ _ _ _ _ _ _ _ _ _ _ _ _ _ _ _ hx hb _ kk => lv_iadd hx hb hd kk) k
theorem en_isub {x y : Int32} (hd : en_d i pc .isub 1 pc') (k : en_Go nc ns i pc' L (.int (x - y) :: st) M P) : en_Go nc ns i pc L (.int y :: .int x :: st) M P := by
  obtain ⟨hd, rfl⟩ := hd
  exact en_st (fun _ _ _ _ _ _ _ _ _ _ _ _ _ _ _ _ _ _ hx hb _ kk => lv_isub hx hb hd kk) k
theorem en_imul {x y : Int32} (hd : en_d i pc .imul 1 pc') (k : en_Go nc ns i pc' L (.int (x * y) :: st) M P) : en_Go nc ns i pc L (.int y :: .int x :: st) M P := by
  obtain ⟨hd, rfl⟩ := hd
  exact en_st (fun _ _ _ _ _ _ _ _ _ _ _ _ _ _ _ _ _ _ hx hb _ kk => lv_imul hx hb hd kk) k
theorem en_iand {x y : Int32} (hd : en_d i pc .iand 1 pc') (k : en_Go nc ns i pc' L (.int (x &&& y) :: st) M P) : en_Go nc ns i pc L (.int y :: .int x :: st) M P := by
  obtain ⟨hd, rfl⟩ := hd
  exact en_st (fun _ _ _ _ _ _ _ _ _ _ _ _ _ _ _ _ _ _ hx hb _ kk => lv_iand hx hb hd kk) k
theorem en_ior {x y : Int32} (hd : en_d i pc .ior 1 pc') (k : en_Go nc ns i pc' L (.int (x ||| y) :: st) M P) : en_Go nc ns i pc L (.int y :: .int x :: st) M P := by
  obtain ⟨hd, rfl⟩ := hd
  exact en_st (fun _ _ _ _ _ _ _ _ _ _ _ _ _ _ _ _ _ _ hx hb _ kk => lv_ior hx hb hd kk) k
theorem en_ixor {x y : Int32} (hd : en_d i pc .ixor 1 pc') (k : en_Go nc ns i pc' L (.int (x ^^^ y) :: st) M P) : en_Go nc ns i pc L (.int y :: .int x :: st) M P := by
  obtain ⟨hd, rfl⟩ := hd
  exact en_st (fun _ _ _ _ _ _ _ _ _ _ _ _ _ _ _ _ _ _ hx hb _ kk => lv_ixor hx hb hd kk) k
theorem en_idiv {x y : Int32} (hd : en_d i pc .idiv 1 pc') (hne : ¬ y = 0) (k : en_Go nc ns i pc' L (.int (x / y) :: st) M P) : en_Go nc ns i pc L (.int y :: .int x :: st) M P := by
  obtain ⟨hd, rfl⟩ := hd
  exact en_st (fun _ _ _ _ _ _ _ _ _ _ _ _ _ _ _ _ _ _ hx hb _ kk => lv_idiv hx hb hd hne kk) k
theorem en_irem {x y : Int32} (hd : en_d i pc .irem 1 pc') (hne : ¬ y = 0) (k : en_Go nc ns i pc' L (.int (x - x / y * y) :: st) M P) : en_Go nc ns i pc L (.int y :: .int x :: st) M P := by
  obtain ⟨hd, rfl⟩ := hd
  exact en_st (fun _ _ _ _ _ _ _ _ _ _ _ _ _ _ _ _ _ _ hx hb _ kk => lv_irem hx hb hd hne kk) k
theorem en_ishl {x y : Int32} (hd : en_d i pc .ishl 1 pc') (k : en_Go nc ns i pc' L (.int (x <<< (y &&& 31)) :: st) M P) : en_Go nc ns i pc L (.int y :: .int x :: st) M P := by
  obtain ⟨hd, rfl⟩ := hd
  exact en_st (fun _ _ _ _ _ _ _ _ _ _ _ _ _ _ _ _ _ _ hx hb _ kk => lv_ishl hx hb hd kk) k
theorem en_ishr {x y : Int32} (hd : en_d i pc .ishr 1 pc') (k : en_Go nc ns i pc' L (.int (x >>> (y &&& 31)) :: st) M P) : en_Go nc ns i pc L (.int y :: .int x :: st) M P := by
  obtain ⟨hd, rfl⟩ := hd
  exact en_st (fun _ _ _ _ _ _ _ _ _ _ _ _ _ _ _ _ _ _ hx hb _ kk => lv_ishr hx hb hd kk) k
theorem en_iushr {x y : Int32} (hd : en_d i pc .iushr 1 pc') (k : en_Go nc ns i pc' L (.int ((x.toUInt32 >>> (y.toUInt32 &&& Int32.toUInt32 31)).toInt32) :: st) M P) : en_Go nc ns i pc L (.int y :: .int x :: st) M P := by
  obtain ⟨hd, rfl⟩ := hd
  exact en_st (fun _ _ _ _ _ _ _ _ _ _ _ _ _ _ _ _ _ _ hx hb _ kk => lv_iushr hx hb hd rfl kk) k
theorem en_ineg {x : Int32} (hd : en_d i pc .ineg 1 pc') (k : en_Go nc ns i pc' L (.int (-x) :: st) M P) : en_Go nc ns i pc L (.int x :: st) M P := by
  obtain ⟨hd, rfl⟩ := hd
  exact en_st (fun _ _ _ _ _ _ _ _ _ _ _ _ _ _ _ _ _ _ hx hb _ kk => lv_ineg hx hb hd kk) k
theorem en_dup {v : Value} (hd : en_d i pc .dup 1 pc') (hc : v.category = 1) (k : en_Go nc ns i pc' L (v :: v :: st) M P) : en_Go nc ns i pc L (v :: st) M P := by
  obtain ⟨hd, rfl⟩ := hd
  exact en_st (fun _ _ _ _ _ _ _ _ _ _ _ b0 bS _ _ _ _ _ hx hb _ kk => lv_dup hx hb hd ((en_v_cat b0 bS v).trans hc) kk) k
theorem en_pop {v : Value} (hd : en_d i pc .pop 1 pc') (hc : v.category = 1) (k : en_Go nc ns i pc' L st M P) : en_Go nc ns i pc L (v :: st) M P := by
  obtain ⟨hd, rfl⟩ := hd
  exact en_st (fun _ _ _ _ _ _ _ _ _ _ _ b0 bS _ _ _ _ _ hx hb _ kk => lv_pop hx hb hd ((en_v_cat b0 bS v).trans hc) kk) k
theorem en_dup_x1 {v w : Value} (hd : en_d i pc .dup_x1 1 pc') (hc : v.category = 1) (hw : w.category = 1) (k : en_Go nc ns i pc' L (v :: w :: v :: st) M P) : en_Go nc ns i pc L (v :: w :: st) M P := by
  obtain ⟨hd, rfl⟩ := hd
  exact en_st (fun _ _ _ _ _ _ _ _ _ _ _ b0 bS _ _ _ _ _ hx hb _ kk => lv_dup_x1 hx hb hd ((en_v_cat b0 bS v).trans hc) ((en_v_cat b0 bS w).trans hw) kk) k
theorem en_dup_x2 {v w u : Value} (hd : en_d i pc .dup_x2 1 pc') (hc : v.category = 1) (hw : w.category = 1) (hu : u.category = 1) (k : en_Go nc ns i pc' L (v :: w :: u :: v :: st) M P) : en_Go nc ns i pc L (v :: w :: u :: st) M P := by
  obtain ⟨hd, rfl⟩ := hd
  exact en_st (fun _ _ _ _ _ _ _ _ _ _ _ b0 bS _ _ _ _ _ hx hb _ kk => lv_dup_x2 hx hb hd ((en_v_cat b0 bS v).trans hc) ((en_v_cat b0 bS w).trans hw) ((en_v_cat b0 bS u).trans hu) kk) k
theorem en_dup2 {v w : Value} (hd : en_d i pc .dup2 1 pc') (hc : v.category = 1) (hw : w.category = 1) (k : en_Go nc ns i pc' L (v :: w :: v :: w :: st) M P) : en_Go nc ns i pc L (v :: w :: st) M P := by
  obtain ⟨hd, rfl⟩ := hd
  exact en_st (fun _ _ _ _ _ _ _ _ _ _ _ b0 bS _ _ _ _ _ hx hb _ kk => lv_dup2_11 hx hb hd ((en_v_cat b0 bS v).trans hc) ((en_v_cat b0 bS w).trans hw) kk) k
theorem en_goto (hd : en_j i pc .goto pc' tgt) (k : en_Go nc ns i tgt L st M P) : en_Go nc ns i pc L st M P := by
  obtain ⟨off, hd, ht, rfl⟩ := hd
  exact en_st (fun _ _ _ _ _ _ _ _ _ _ _ _ _ _ _ _ _ _ hx hb _ kk => lv_goto hx hb hd ht kk) k
theorem en_if_eq {x : Int32} (hd : en_j i pc (.ifCond .eq) pc' tgt) (kt : x = 0 → en_Go nc ns i tgt L st M P) (kf : ¬ x = 0 → en_Go nc ns i pc' L st M P) : en_Go nc ns i pc L (.int x :: st) M P := by
  obtain ⟨off, hd, ht, rfl⟩ := hd
  intro p l e R s m args below meth c Q D cA b0 bS LS z0 y0 xs ok hr H locs cells slots ls hat hL
  exact lv_if_eq ok.1 ok.2.1 hd ht (fun h => kt h p l e R s m args below meth c Q D cA b0 bS LS z0 y0 xs ok hr H locs cells slots ls hat hL) (fun h => kf h p l e R s m args below meth c Q D cA b0 bS LS z0 y0 xs ok hr H locs cells slots ls hat hL)
theorem en_if_ne {x : Int32} (hd : en_j i pc (.ifCond .ne) pc' tgt) (kt : ¬ x = 0 → en_Go nc ns i tgt L st M P) (kf : x = 0 → en_Go nc ns i pc' L st M P) : en_Go nc ns i pc L (.int x :: st) M P := by
  obtain ⟨off, hd, ht, rfl⟩ := hd
  intro p l e R s m args below meth c Q D cA b0 bS LS z0 y0 xs ok hr H locs cells slots ls hat hL
  exact lv_if_ne ok.1 ok.2.1 hd ht (fun h => kt h p l e R s m args below meth c Q D cA b0 bS LS z0 y0 xs ok hr H locs cells slots ls hat hL) (fun h => kf h p l e R s m args below meth c Q D cA b0 bS LS z0 y0 xs ok hr H locs cells slots ls hat hL)
theorem en_if_lt {x : Int32} (hd : en_j i pc (.ifCond .lt) pc' tgt) (kt : x < 0 → en_Go nc ns i tgt L st M P) (kf : ¬ x < 0 → en_Go nc ns i pc' L st M P) : en_Go nc ns i pc L (.int x :: st) M P := by
  obtain ⟨off, hd, ht, rfl⟩ := hd
  intro p l e R s m args below meth c Q D cA b0 bS LS z0 y0 xs ok hr H locs cells slots ls hat hL
  exact lv_if_lt ok.1 ok.2.1 hd ht (fun h => kt h p l e R s m args below meth c Q D cA b0 bS LS z0 y0 xs ok hr H locs cells slots ls hat hL) (fun h => kf h p l e R s m args below meth c Q D cA b0 bS LS z0 y0 xs ok hr H locs cells slots ls hat hL)
theorem en_if_ge {x : Int32} (hd : en_j i pc (.ifCond .ge) pc' tgt) (kt : 0 ≤ x → en_Go nc ns i tgt L st M P) (kf : ¬ 0 ≤ x → en_Go nc ns i pc' L st M P) : en_Go nc ns i pc L (.int x :: st) M P := by
  obtain ⟨off, hd, ht, rfl⟩ := hd
  intro p l e R s m args below meth c Q D cA b0 bS LS z0 y0 xs ok hr H locs cells slots ls hat hL
  exact lv_if_ge ok.1 ok.2.1 hd ht (fun h => kt h p l e R s m args below meth c Q D cA b0 bS LS z0 y0 xs ok hr H locs cells slots ls hat hL) (fun h => kf h p l e R s m args below meth c Q D cA b0 bS LS z0 y0 xs ok hr H locs cells slots ls hat hL)
theorem en_if_gt {x : Int32} (hd : en_j i pc (.ifCond .gt) pc' tgt) (kt : 0 < x → en_Go nc ns i tgt L st M P) (kf : ¬ 0 < x → en_Go nc ns i pc' L st M P) : en_Go nc ns i pc L (.int x :: st) M P := by
  obtain ⟨off, hd, ht, rfl⟩ := hd
  intro p l e R s m args below meth c Q D cA b0 bS LS z0 y0 xs ok hr H locs cells slots ls hat hL
  exact lv_if_gt ok.1 ok.2.1 hd ht (fun h => kt h p l e R s m args below meth c Q D cA b0 bS LS z0 y0 xs ok hr H locs cells slots ls hat hL) (fun h => kf h p l e R s m args below meth c Q D cA b0 bS LS z0 y0 xs ok hr H locs cells slots ls hat hL)
theorem en_if_le {x : Int32} (hd : en_j i pc (.ifCond .le) pc' tgt) (kt : x ≤ 0 → en_Go nc ns i tgt L st M P) (kf : ¬ x ≤ 0 → en_Go nc ns i pc' L st M P) : en_Go nc ns i pc L (.int x :: st) M P := by
  obtain ⟨off, hd, ht, rfl⟩ := hd
  intro p l e R s m args below meth c Q D cA b0 bS LS z0 y0 xs ok hr H locs cells slots ls hat hL
  exact lv_if_le ok.1 ok.2.1 hd ht (fun h => kt h p l e R s m args below meth c Q D cA b0 bS LS z0 y0 xs ok hr H locs cells slots ls hat hL) (fun h => kf h p l e R s m args below meth c Q D cA b0 bS LS z0 y0 xs ok hr H locs cells slots ls hat hL)
theorem en_icmp_eq {x y : Int32} (hd : en_j i pc (.if_icmp .eq) pc' tgt) (kt : x = y → en_Go nc ns i tgt L st M P) (kf : ¬ x = y → en_Go nc ns i pc' L st M P) : en_Go nc ns i pc L (.int y :: .int x :: st) M P := by
  obtain ⟨off, hd, ht, rfl⟩ := hd
  intro p l e R s m args below meth c Q D cA b0 bS LS z0 y0 xs ok hr H locs cells slots ls hat hL
  exact lv_icmp_eq ok.1 ok.2.1 hd ht (fun h => kt h p l e R s m args below meth c Q D cA b0 bS LS z0 y0 xs ok hr H locs cells slots ls hat hL) (fun h => kf h p l e R s m args below meth c Q D cA b0 bS LS z0 y0 xs ok hr H locs cells slots ls hat hL)
theorem en_icmp_ne {x y : Int32} (hd : en_j i pc (.if_icmp .ne) pc' tgt) (kt : ¬ x = y → en_Go nc ns i tgt L st M P) (kf : x = y → en_Go nc ns i pc' L st M P) : en_Go nc ns i pc L (.int y :: .int x :: st) M P := by
  obtain ⟨off, hd, ht, rfl⟩ := hd
  intro p l e R s m args below meth c Q D cA b0 bS LS z0 y0 xs ok hr H locs cells slots ls hat hL
  exact lv_icmp_ne ok.1 ok.2.1 hd ht (fun h => kt h p l e R s m args below meth c Q D cA b0 bS LS z0 y0 xs ok hr H locs cells slots ls hat hL) (fun h => kf h p l e R s m args below meth c Q D cA b0 bS LS z0 y0 xs ok hr H locs cells slots ls hat hL)
theorem en_icmp_lt {x y : Int32} (hd : en_j i pc (.if_icmp .lt) pc' tgt) (kt : x < y → en_Go nc ns i tgt L st M P) (kf : ¬ x < y → en_Go nc ns i pc' L st M P) : en_Go nc ns i pc L (.int y :: .int x :: st) M P := by
  obtain ⟨off, hd, ht, rfl⟩ := hd
  intro p l e R s m args below meth c Q D cA b0 bS LS z0 y0 xs ok hr H locs cells slots ls hat hL
  exact lv_icmp_lt ok.1 ok.2.1 hd ht (fun h => kt h p l e R s m args below meth c Q D cA b0 bS LS z0 y0 xs ok hr H locs cells slots ls hat hL) (fun h => kf h p l e R s m args below meth c Q D cA b0 bS LS z0 y0 xs ok hr H locs cells slots ls hat hL)
theorem en_icmp_ge {x y : Int32} (hd : en_j i pc (.if_icmp .ge) pc' tgt) (kt : y ≤ x → en_Go nc ns i tgt L st M P) (kf : ¬ y ≤ x → en_Go nc ns i pc' L st M P) : en_Go nc ns i pc L (.int y :: .int x :: st) M P := by
  obtain ⟨off, hd, ht, rfl⟩ := hd
  intro p l e R s m args below meth c Q D cA b0 bS LS z0 y0 xs ok hr H locs cells slots ls hat hL
  exact lv_icmp_ge ok.1 ok.2.1 hd ht (fun h => kt h p l e R s m args below meth c Q D cA b0 bS LS z0 y0 xs ok hr H locs cells slots ls hat hL) (fun h => kf h p l e R s m args below meth c Q D cA b0 bS LS z0 y0 xs ok hr H locs cells slots ls hat hL)
theorem en_icmp_gt {x y : Int32} (hd : en_j i pc (.if_icmp .gt) pc' tgt) (kt : y < x → en_Go nc ns i tgt L st M P) (kf : ¬ y < x → en_Go nc ns i pc' L st M P) : en_Go nc ns i pc L (.int y :: .int x :: st) M P := by
  obtain ⟨off, hd, ht, rfl⟩ := hd
  intro p l e R s m args below meth c Q D cA b0 bS LS z0 y0 xs ok hr H locs cells slots ls hat hL
  exact lv_icmp_gt ok.1 ok.2.1 hd ht (fun h => kt h p l e R s m args below meth c Q D cA b0 bS LS z0 y0 xs ok hr H locs cells slots ls hat hL) (fun h => kf h p l e R s m args below meth c Q D cA b0 bS LS z0 y0 xs ok hr H locs cells slots ls hat hL)
theorem en_icmp_le {x y : Int32} (hd : en_j i pc (.if_icmp .le) pc' tgt) (kt : x ≤ y → en_Go nc ns i tgt L st M P) (kf : ¬ x ≤ y → en_Go nc ns i pc' L st M P) : en_Go nc ns i pc L (.int y :: .int x :: st) M P := by
  obtain ⟨off, hd, ht, rfl⟩ := hd
  intro p l e R s m args below meth c Q D cA b0 bS LS z0 y0 xs ok hr H locs cells slots ls hat hL
  exact lv_icmp_le ok.1 ok.2.1 hd ht (fun h => kt h p l e R s m args below meth c Q D cA b0 bS LS z0 y0 xs ok hr H locs cells slots ls hat hL) (fun h => kf h p l e R s m args below meth c Q D cA b0 bS LS z0 y0 xs ok hr H locs cells slots ls hat hL)
theorem en_look {x : Int32} {dflt off : Int} {ps : Array (Int × Int)} {len : Nat} (hd : decode (mB i) pc = .ok (.lookupswitch dflt ps, len)) (hp : (ps.toList.zip (ps.toList.drop 1)).all (fun (a, next) => a.1 < next.1) = true) (ho : Op.lookupswitch.offset ps.toList dflt x.toInt = off) (ht : (pc : Int) + off = (tgt : Int)) (k : en_Go nc ns i tgt L st M P) : en_Go nc ns i pc L (.int x :: st) M P :=
  en_st (fun _ _ _ _ _ _ _ _ _ _ _ _ _ _ _ _ _ _ hx hb _ kk => lv_lookup hx hb hd hp ho ht kk) k
theorem en_tabO {x : Int32} {dflt lo hi : Int} {offs : Array Int} {len : Nat} (hd : decode (mB i) pc = .ok (.tableswitch dflt lo hi offs, len)) (h : x.toInt < lo ∨ hi < x.toInt) (ht : (pc : Int) + dflt = (tgt : Int)) (k : en_Go nc ns i tgt L st M P) : en_Go nc ns i pc L (.int x :: st) M P :=
  en_st (fun _ _ _ _ _ _ _ _ _ _ _ _ _ _ _ _ _ _ hx hb _ kk => lv_tableOut hx hb hd h ht kk) k
theorem en_tabI {x : Int32} {dflt lo hi off : Int} {offs : Array Int} {len : Nat} (hd : decode (mB i) pc = .ok (.tableswitch dflt lo hi offs, len)) (h1 : ¬ x.toInt < lo) (h2 : ¬ hi < x.toInt) (ho : offs[(x.toInt - lo).toNat]? = some off) (ht : (pc : Int) + off = (tgt : Int)) (k : en_Go nc ns i tgt L st M P) : en_Go nc ns i pc L (.int x :: st) M P :=
  en_st (fun _ _ _ _ _ _ _ _ _ _ _ _ _ _ _ _ _ _ hx hb _ kk => lv_tableIn hx hb hd h1 h2 ho ht kk) k
/-! returns -/
theorem en_reti {x : Int32} (hd : en_d i pc .ireturn 1 pc') (hR : mR i = some .int) (hc : M.1.length = nc) (hs : en_sl M = ns) (hP : P (some (.int x)) M) : en_Go nc ns i pc L [.int x] M P := by
  intro p l e R s m args below meth c Q D cA b0 bS LS z0 y0 xs ok hr H locs cells slots ls hat hL
  exact hr (some (.int x)) M pc ls H locs cells slots .ireturn hP hc hs hd.1 (Or.inl ⟨rfl, hR, x, rfl⟩) hat
theorem en_retz {x : Int32} (hd : en_d i pc .ireturn 1 pc') (hR : mR i = some .boolean) (hc : M.1.length = nc) (hs : en_sl M = ns) (hx : x = 0 ∨ x = 1) (hP : P (some (.int x)) M) : en_Go nc ns i pc L [.int x] M P := by
  intro p l e R s m args below meth c Q D cA b0 bS LS z0 y0 xs ok hr H locs cells slots ls hat hL
  exact hr (some (.int x)) M pc ls H locs cells slots .ireturn hP hc hs hd.1 (Or.inr (Or.inl ⟨rfl, hR, x, rfl, hx⟩)) hat
theorem en_retv (hd : en_d i pc .return_ 1 pc') (hR : mR i = none) (hc : M.1.length = nc) (hs : en_sl M = ns) (hP : P none M) : en_Go nc ns i pc L [] M P := by
  intro p l e R s m args below meth c Q D cA b0 bS LS z0 y0 xs ok hr H locs cells slots ls hat hL
  exact hr none M pc ls H locs cells slots .return_ hP hc hs hd.1 (Or.inr (Or.inr (Or.inl ⟨rfl, hR, rfl⟩))) hat
theorem en_reta {a : Nat} (hd : en_d i pc .areturn 1 pc') (hR : ∃ C, mR i = some (.object C)) (hc : M.1.length = nc) (hs : en_sl M = ns) (hP : P (some (.ref a)) M) : en_Go nc ns i pc L [.ref a] M P := by
  intro p l e R s m args below meth c Q D cA b0 bS LS z0 y0 xs ok hr H locs cells slots ls hat hL
  exact hr (some (.ref a)) M pc ls H locs cells slots .areturn hP hc hs hd.1 (Or.inr (Or.inr (Or.inr ⟨rfl, hR, a, rfl⟩))) hat
/-- the end may be weaker -/
theorem en_mono {P' : Option Value → en_M → Prop} (h : ∀ r M', P' r M' → P r M') (k : en_Go nc ns i pc L st M P') : en_Go nc ns i pc L st M P := by
  intro p l e R s m args below meth c Q D cA b0 bS LS z0 y0 xs ok hr H locs cells slots ls hat hL
  exact k p l e R s m args below meth c Q D cA b0 bS LS z0 y0 xs ok (fun r M' pc' ls' H locs cells slots ins hP => hr r M' pc' ls' H locs cells slots ins (h r M' hP)) H locs cells slots ls hat hL
end ENR
/-! fields -/
section ENF
variable {p : Program} {l : Launch} {e : Env} {R : Room} {s : State} {m : MethodId} {args : Array Value} {below : List Frame} {meth : Method} {c : Code} {Q : State → Prop} {D : va_G} {cA : Nat → ClassId} {b0 bS LS z0 y0 nc ns : Nat} {xs : Nat → Int32} {i pc : Nat} {H : Heap} {locs : List Loc} {cells slots : Nat} {ls : Array Slot} {rest : List Value} {M M' : en_M}
theorem en_pos {a : Nat} {q : Nat × Nat} (hat : en_at s D cA b0 bS LS z0 y0 nc ns xs M H locs cells slots) (hs : M.1[a]? = some q) (hq : q.1 ≠ 99) : ∃ a', a = a' + 1 := by
  cases a with
  | zero => exact absurd (by rw [hat.2.2.2.2.1] at hs; exact (congrArg Prod.fst (Option.some.inj hs)).symm) hq
  | succ a => exact ⟨a, rfl⟩
theorem en_getW {idx ci k a n : Nat} {nb : Bool} {v : Value} (ok : en_ok p R s m args meth c D cA b0 bS LS z0 y0 nc ns xs i) (hat : en_at s D cA b0 bS LS z0 y0 nc ns xs M H locs cells slots) (hF : kF (mO i) idx = some (ci, k, nb)) (hdg : decode (mB i) pc = .ok (.getfield idx, 3))
    (hs : M.1[a]? = some (ci, n)) (hn : k < n) (hv : en_f b0 bS M ci a k = v) (kk : W p l e R s m args below meth c H locs cells slots Q (F0 m (pc + 3) ls (v :: rest))) : W p l e R s m args below meth c H locs cells slots Q (F0 m pc ls (.ref (en_ad b0 bS a) :: rest)) := by
  obtain ⟨C, T, N, host, hc, hk, hC, hl0, hl1⟩ := T_F hF
  obtain ⟨hin, hty, hnm, -, -, h99⟩ := T_cls hc
  obtain ⟨a', rfl⟩ := en_pos hat hs (by show ci ≠ 99; omega)
  have he : (en_w b0 bS cA M)[a']? = some (b0 + a', .inr (ci, (List.range n).map (en_f b0 bS M ci (a' + 1)))) := by
    rw [en_w_at hs]
    simp [en_e, h99]
  have hv' : ((List.range n).map (en_f b0 bS M ci (a' + 1)))[k]? = some v := by
    rw [List.getElem?_map, List.getElem?_range hn]
    simp [hv]
  obtain ⟨hx, hb, hml, hown, hts, hN, hK, -⟩ := ok
  cases nb with
  | false => exact va_get hx hb hts hin hown hK hat.1 a' he hc k hk (hts _ (hl0 rfl)) (fun x h => by rw [hC] at h; exact h) hv' hdg kk
  | true => exact va_getN hx hb hts hin hown hK hat.1 a' he hc k hk (va_Nw.use rfl (hN.1 _ (hl1 rfl))) (fun x h => by rw [hC] at h; exact h) hv' hdg kk
/-- a write is done: the memory M' in the place of M -/
theorem en_at_set {a' : Nat} {q : Nat × Nat} {e' : va_E} {H1 : Heap} {locs1 : List Loc} (hat : en_at s D cA b0 bS LS z0 y0 nc ns xs M H locs cells slots) (hs : M.1[a' + 1]? = some q) (h1 : M'.1 = M.1) (h2 : ∀ b, b ≠ a' + 1 → M'.2.1 b = M.2.1 b) (h3 : ∀ b, b ≠ a' + 1 → M'.2.2 b = M.2.2 b) (he : en_e b0 bS cA M' (a' + 1) q = e')
    (hP : va_P D vwCl ((en_w b0 bS cA M).set a' (b0 + a', e')) H1) (hS : va_S (fun q => b0 ≤ q) s.heap H1 locs1) : en_at s D cA b0 bS LS z0 y0 nc ns xs M' H1 locs1 cells slots := by
  refine ⟨?_, hS, ?_, ?_, by rw [h1]; exact hat.2.2.2.2.1, fun k hk => ?_⟩
  · rw [en_w_set hs h1 h2 h3, he]
    exact hP
  · have := hat.2.2.1
    unfold en_sl at this ⊢
    rw [h1]
    exact this
  · have := hat.2.2.2.1
    unfold en_sl at this ⊢
    rw [h1]
    exact this
  · rw [h2 0 (by omega)]
    exact hat.2.2.2.2.2 k hk
theorem en_putW {idx ci k a n : Nat} {nb : Bool} {v : Value} (ok : en_ok p R s m args meth c D cA b0 bS LS z0 y0 nc ns xs i) (hat : en_at s D cA b0 bS LS z0 y0 nc ns xs M H locs cells slots) (hF : kF (mO i) idx = some (ci, k, nb)) (hdg : decode (mB i) pc = .ok (.putfield idx, 3))
    (hs : M.1[a]? = some (ci, n)) (hn : k < n) (hnw : narrow (xT ci k) v = v) (hft : fits (xT ci k) v = true) (hini : kI ci k = true → nb = false ∧ (mY i).name = "<init>" ∧ mO i = ci)
    (h1 : M'.1 = M.1) (h2 : ∀ b, b ≠ a → M'.2.1 b = M.2.1 b) (h3 : ∀ b, b ≠ a → M'.2.2 b = M.2.2 b) (ho : ∀ j, j ≠ k → en_f b0 bS M' ci a j = en_f b0 bS M ci a j) (hv : en_f b0 bS M' ci a k = v)
    (kk : ∀ (H1 : Heap) (locs1 : List Loc), en_at s D cA b0 bS LS z0 y0 nc ns xs M' H1 locs1 cells slots → W p l e R s m args below meth c H1 locs1 cells slots Q (F0 m (pc + 3) ls rest)) : W p l e R s m args below meth c H locs cells slots Q (F0 m pc ls (v :: .ref (en_ad b0 bS a) :: rest)) := by
  obtain ⟨C, T, N, host, hc, hk, hC, hl0, hl1⟩ := T_F hF
  obtain ⟨hin, hty, hnm, -, -, h99⟩ := T_cls hc
  obtain ⟨a', rfl⟩ := en_pos hat hs (by show ci ≠ 99; omega)
  have he : (en_w b0 bS cA M)[a']? = some (b0 + a', .inr (ci, (List.range n).map (en_f b0 bS M ci (a' + 1)))) := by
    rw [en_w_at hs]
    simp [en_e, h99]
  have he' : en_e b0 bS cA M' (a' + 1) (ci, n) = .inr (ci, ((List.range n).map (en_f b0 bS M ci (a' + 1))).set k v) := by
    rw [en_fs_set hn ho hv]
    simp [en_e, h99]
  have hlen : k < ((List.range n).map (en_f b0 bS M ci (a' + 1))).length := by simpa using hn
  have hfl := T_I hc hk
  obtain ⟨hx, hb, hml, hown, hts, hN, hK, ⟨hmn, -⟩, -⟩ := ok
  have go : ∀ (H1 : Heap) (locs1 : List Loc), va_P D vwCl ((en_w b0 bS cA M).set a' (b0 + a', .inr (ci, ((List.range n).map (en_f b0 bS M ci (a' + 1))).set k v))) H1 → va_D (fun q => b0 ≤ q) ((en_w b0 bS cA M).set a' (b0 + a', .inr (ci, ((List.range n).map (en_f b0 bS M ci (a' + 1))).set k v))) → va_S (fun q => b0 ≤ q) s.heap H1 locs1 → W p l e R s m args below meth c H1 locs1 cells slots Q (F0 m (pc + 3) ls rest) :=
    fun H1 locs1 hP _ hS => kk H1 locs1 (en_at_set hat hs h1 h2 h3 he' hP hS)
  cases hfin : (T k).2.2.2 with
  | true =>
    obtain ⟨e1, e2, e3⟩ := hini (hfl.trans hfin)
    subst e1
    exact va_putF hx hb hts hin (xT ci) hty hnm hown hK hat.1 en_w_D hat.2.1 a' he hc k hk (hts _ (hl0 rfl)) (fun x h => by rw [hC] at h; exact h) hfin (hmn.trans e2) (by rw [hC, e3]; exact T_oY hc) (hty k hk) hnw hft hlen hdg go
  | false =>
    cases nb with
    | false => exact va_put hx hb hts hin (xT ci) hty hnm hown hK hat.1 en_w_D hat.2.1 a' he hc k hk (hts _ (hl0 rfl)) (fun x h => by rw [hC] at h; exact h) hfin (hty k hk) hnw hft hlen hdg go
    | true => exact va_putN hx hb hts hin (xT ci) hty hnm hown hK hat.1 en_w_D hat.2.1 a' he hc k hk (va_Nw.use rfl (hN.1 _ (hl1 rfl))) (fun x h => by rw [hC] at h; exact h) hfin (hty k hk) hnw hft hlen hdg go
end ENF
section ENG
variable {nc ns i pc pc' tgt : Nat} {L L' st : List Value} {M : en_M} {P : Option Value → en_M → Prop} {a ci k n : Nat} {nb : Bool}
theorem en_geti (hd : en_df i pc ci k nb false pc') (hs : M.1[a]? = some (ci, n)) (hn : k < n) (kk : en_Go nc ns i pc' L (.int (M.2.1 a k) :: st) M P) : en_Go nc ns i pc L (.ref a :: st) M P := by
  obtain ⟨idx, hd, hF, hx, rfl⟩ := hd
  intro p l e R s m args below meth c Q D cA b0 bS LS z0 y0 xs ok hr H locs cells slots ls hat hL
  exact en_getW ok hat hF hd hs hn (v := .int (M.2.1 a k)) (by simp [en_f, hx]) (kk p l e R s m args below meth c Q D cA b0 bS LS z0 y0 xs ok hr H locs cells slots ls hat hL)
theorem en_getr {b : Nat} (hd : en_df i pc ci k nb true pc') (hs : M.1[a]? = some (ci, n)) (hn : k < n) (hb : M.2.2 a k = some b) (kk : en_Go nc ns i pc' L (.ref b :: st) M P) : en_Go nc ns i pc L (.ref a :: st) M P := by
  obtain ⟨idx, hd, hF, hx, rfl⟩ := hd
  intro p l e R s m args below meth c Q D cA b0 bS LS z0 y0 xs ok hr H locs cells slots ls hat hL
  exact en_getW ok hat hF hd hs hn (v := .ref (en_ad b0 bS b)) (by simp [en_f, hx, hb, va_rf]) (kk p l e R s m args below meth c Q D cA b0 bS LS z0 y0 xs ok hr H locs cells slots ls hat hL)
theorem en_puti {x : Int32} (hd : en_dp i pc ci k nb .int pc') (hini : kI ci k = true → nb = false ∧ (mY i).name = "<init>" ∧ mO i = ci) (hs : M.1[a]? = some (ci, n)) (hn : k < n) (kk : en_Go nc ns i pc' L st (M.1, en_u2 M.2.1 a k x, M.2.2) P) : en_Go nc ns i pc L (.int x :: .ref a :: st) M P := by
  obtain ⟨idx, hd, hF, hx, rfl⟩ := hd
  intro p l e R s m args below meth c Q D cA b0 bS LS z0 y0 xs ok hr H locs cells slots ls hat hL
  exact en_putW (M' := (M.1, en_u2 M.2.1 a k x, M.2.2)) (v := .int x) ok hat hF hd hs hn (by rw [hx]; rfl) (by rw [hx]; rfl) hini rfl (fun b hb => en_u2_off hb) (fun b hb => rfl)
    (fun j hj => by simp [en_f, en_u2, hj]) (by simp [en_f, en_u2, en_xr, hx])
    (fun H1 locs1 hat1 => kk p l e R s m args below meth c Q D cA b0 bS LS z0 y0 xs ok hr H1 locs1 cells slots ls hat1 hL)
theorem en_putz {x : Int32} (hd : en_dp i pc ci k nb .boolean pc') (hini : kI ci k = true → nb = false ∧ (mY i).name = "<init>" ∧ mO i = ci) (hs : M.1[a]? = some (ci, n)) (hn : k < n) (hx1 : x = 0 ∨ x = 1) (kk : en_Go nc ns i pc' L st (M.1, en_u2 M.2.1 a k x, M.2.2) P) : en_Go nc ns i pc L (.int x :: .ref a :: st) M P := by
  obtain ⟨idx, hd, hF, hx, rfl⟩ := hd
  intro p l e R s m args below meth c Q D cA b0 bS LS z0 y0 xs ok hr H locs cells slots ls hat hL
  exact en_putW (M' := (M.1, en_u2 M.2.1 a k x, M.2.2)) (v := .int x) ok hat hF hd hs hn (by rw [hx]; rcases hx1 with rfl | rfl <;> rfl) (by rw [hx]; rcases hx1 with rfl | rfl <;> rfl) hini rfl (fun b hb => en_u2_off hb) (fun b hb => rfl)
    (fun j hj => by simp [en_f, en_u2, hj]) (by simp [en_f, en_u2, en_xr, hx])
    (fun H1 locs1 hat1 => kk p l e R s m args below meth c Q D cA b0 bS LS z0 y0 xs ok hr H1 locs1 cells slots ls hat1 hL)
theorem en_putr {b : Nat} {ty : FieldType} (hd : en_dp i pc ci k nb ty pc') (hty : (∃ C, ty = .object C) ∨ ∃ t, ty = .array t) (hini : kI ci k = true → nb = false ∧ (mY i).name = "<init>" ∧ mO i = ci) (hs : M.1[a]? = some (ci, n)) (hn : k < n) (kk : en_Go nc ns i pc' L st (M.1, M.2.1, en_u2 M.2.2 a k (some b)) P) : en_Go nc ns i pc L (.ref b :: .ref a :: st) M P := by
  obtain ⟨idx, hd, hF, hx, rfl⟩ := hd
  have hxr : en_xr ci k = true := by unfold en_xr; rcases hty with ⟨C, rfl⟩ | ⟨t, rfl⟩ <;> rw [hx]
  intro p l e R s m args below meth c Q D cA b0 bS LS z0 y0 xs ok hr H locs cells slots ls hat hL
  exact en_putW (M' := (M.1, M.2.1, en_u2 M.2.2 a k (some b))) (v := .ref (en_ad b0 bS b)) ok hat hF hd hs hn (by rcases hty with ⟨C, rfl⟩ | ⟨t, rfl⟩ <;> rw [hx] <;> rfl) (by rcases hty with ⟨C, rfl⟩ | ⟨t, rfl⟩ <;> rw [hx] <;> rfl) hini rfl (fun b hb => rfl) (fun b hb => en_u2_off hb)
    (fun j hj => by simp [en_f, en_u2, hj]) (by simp [en_f, en_u2, hxr, va_rf])
    (fun H1 locs1 hat1 => kk p l e R s m args below meth c Q D cA b0 bS LS z0 y0 xs ok hr H1 locs1 cells slots ls hat1 hL)
/-! arrays; 99 is the script, 100 ints, 101 booleans, others references -/
theorem en_iald {x : Int32} (hd : en_d i pc .iaload 1 pc') (hs : M.1[a]? = some (100, n)) (hin : vp_in x n) (kk : en_Go nc ns i pc' L (.int (M.2.1 a x.toNatClampNeg) :: st) M P) : en_Go nc ns i pc L (.int x :: .ref a :: st) M P := by
  obtain ⟨hd, rfl⟩ := hd
  intro p l e R s m args below meth c Q D cA b0 bS LS z0 y0 xs ok hr H locs cells slots ls hat hL
  obtain ⟨a', rfl⟩ := en_pos hat hs (by show (100 : Nat) ≠ 99; decide)
  have he : (en_w b0 bS cA M)[a']? = some (b0 + a', .inl (cA 0, n, .inl (M.2.1 (a' + 1)))) := by
    rw [en_w_at hs]
    simp [en_e]
  exact va_iald ok.1 ok.2.1 ok.2.2.2.2.2.2.1 hat.1 a' 0 he (en_ty_at T_A0) hin hd (kk p l e R s m args below meth c Q D cA b0 bS LS z0 y0 xs ok hr H locs cells slots ls hat hL)
theorem en_zald {x : Int32} (hd : en_d i pc .baload 1 pc') (hs : M.1[a]? = some (101, n)) (hin : vp_in x n) (kk : en_Go nc ns i pc' L (.int (M.2.1 a x.toNatClampNeg) :: st) M P) : en_Go nc ns i pc L (.int x :: .ref a :: st) M P := by
  obtain ⟨hd, rfl⟩ := hd
  intro p l e R s m args below meth c Q D cA b0 bS LS z0 y0 xs ok hr H locs cells slots ls hat hL
  obtain ⟨a', rfl⟩ := en_pos hat hs (by show (101 : Nat) ≠ 99; decide)
  have he : (en_w b0 bS cA M)[a']? = some (b0 + a', .inl (cA 1, n, .inl (M.2.1 (a' + 1)))) := by
    rw [en_w_at hs]
    simp [en_e]
  exact va_zald ok.1 ok.2.1 ok.2.2.2.2.2.2.1 hat.1 a' 1 he (en_ty_at T_A1) hin hd (kk p l e R s m args below meth c Q D cA b0 bS LS z0 y0 xs ok hr H locs cells slots ls hat hL)
theorem en_aald {x : Int32} {t b : Nat} (hd : en_d i pc .aaload 1 pc') (hs : M.1[a]? = some (100 + (t + 2), n)) (ht : ∃ C, xA[t + 2]? = some (.object C)) (hin : vp_in x n) (hb : M.2.2 a x.toNatClampNeg = some b) (kk : en_Go nc ns i pc' L (.ref b :: st) M P) : en_Go nc ns i pc L (.int x :: .ref a :: st) M P := by
  obtain ⟨hd, rfl⟩ := hd
  obtain ⟨C, ht⟩ := ht
  intro p l e R s m args below meth c Q D cA b0 bS LS z0 y0 xs ok hr H locs cells slots ls hat hL
  obtain ⟨a', rfl⟩ := en_pos hat hs (by show 100 + (t + 2) ≠ 99; omega)
  have he : (en_w b0 bS cA M)[a']? = some (b0 + a', .inl (cA (t + 2), n, .inr (.inr (.inr (.inr (fun k => (M.2.2 (a' + 1) k).map (en_ad b0 bS))))))) := by
    rw [en_w_at hs]
    unfold en_e
    rw [if_neg (by show ¬ 100 + (t + 2) < 99; omega), if_neg (by show ¬ 100 + (t + 2) < 102; omega)]
    rw [show (100 + (t + 2), n).1 - 100 = t + 2 from Nat.add_sub_cancel_left 100 (t + 2)]
  refine va_aldq ok.1 ok.2.1 ok.2.2.2.2.2.2.1 hat.1 a' (t + 2) he (en_ty_at ht) hin hd ?_
  rw [hb]
  exact kk p l e R s m args below meth c Q D cA b0 bS LS z0 y0 xs ok hr H locs cells slots ls hat hL
theorem en_sald {x : Int32} (hd : en_d i pc .iaload 1 pc') (hs : M.1[0]? = some (99, n)) (hin : vp_in x n) (kk : en_Go nc ns i pc' L (.int (M.2.1 0 x.toNatClampNeg) :: st) M P) : en_Go nc ns i pc L (.int x :: .ref 0 :: st) M P := by
  obtain ⟨hd, rfl⟩ := hd
  intro p l e R s m args below meth c Q D cA b0 bS LS z0 y0 xs ok hr H locs cells slots ls hat hL
  have hn : LS = n := by
    have := hat.2.2.2.2.1.symm.trans hs
    exact congrArg Prod.snd (Option.some.inj this)
  subst hn
  have hlt : x.toNatClampNeg < LS := Nat.not_le.mp fun q => hin (Or.inr q)
  obtain ⟨hb1, hb2, hb3⟩ := ok.2.2.2.2.2.2.2.2.2.2.1
  refine va_sld (b := bS) (A := fun q => b0 ≤ q) ok.1 ok.2.1 ok.2.2.2.2.2.2.2.2.2.1 (by omega) (by show ¬ b0 ≤ bS; omega) hat.2.1 hin hd ?_
  rw [← hat.2.2.2.2.2 _ hlt]
  exact kk p l e R s m args below meth c Q D cA b0 bS LS z0 y0 xs ok hr H locs cells slots ls hat hL
theorem en_slen (hd : en_d i pc .arraylength 1 pc') (hs : M.1[0]? = some (99, n)) (kk : en_Go nc ns i pc' L (.int (Int32.ofNat n) :: st) M P) : en_Go nc ns i pc L (.ref 0 :: st) M P := by
  obtain ⟨hd, rfl⟩ := hd
  intro p l e R s m args below meth c Q D cA b0 bS LS z0 y0 xs ok hr H locs cells slots ls hat hL
  have hn : LS = n := by
    have := hat.2.2.2.2.1.symm.trans hs
    exact congrArg Prod.snd (Option.some.inj this)
  subst hn
  obtain ⟨hb1, hb2, hb3⟩ := ok.2.2.2.2.2.2.2.2.2.2.1
  exact va_slen (b := bS) (A := fun q => b0 ≤ q) ok.1 ok.2.1 ok.2.2.2.2.2.2.2.2.2.1 (by omega) (by show ¬ b0 ≤ bS; omega) hat.2.1 hd (kk p l e R s m args below meth c Q D cA b0 bS LS z0 y0 xs ok hr H locs cells slots ls hat hL)
theorem en_iast {x v : Int32} (hd : en_d i pc .iastore 1 pc') (hs : M.1[a]? = some (100, n)) (hin : vp_in x n) (kk : en_Go nc ns i pc' L st (M.1, en_u2 M.2.1 a x.toNatClampNeg v, M.2.2) P) : en_Go nc ns i pc L (.int v :: .int x :: .ref a :: st) M P := by
  obtain ⟨hd, rfl⟩ := hd
  intro p l e R s m args below meth c Q D cA b0 bS LS z0 y0 xs ok hr H locs cells slots ls hat hL
  obtain ⟨a', rfl⟩ := en_pos hat hs (by show (100 : Nat) ≠ 99; decide)
  have he : (en_w b0 bS cA M)[a']? = some (b0 + a', .inl (cA 0, n, .inl (M.2.1 (a' + 1)))) := by
    rw [en_w_at hs]
    simp [en_e]
  exact va_iast ok.1 ok.2.1 ok.2.2.2.2.2.2.1 hat.1 en_w_D hat.2.1 a' 0 he (en_ty_at T_A0) hin hd (fun H1 locs1 hP _ hS => kk p l e R s m args below meth c Q D cA b0 bS LS z0 y0 xs ok hr H1 locs1 cells slots ls
    (en_at_set (M' := (M.1, en_u2 M.2.1 (a' + 1) x.toNatClampNeg v, M.2.2)) hat hs rfl (fun b hb => en_u2_off hb) (fun b hb => rfl) (by simp [en_e, en_u2_row]) hP hS) hL)
theorem en_zast {x v : Int32} (hd : en_d i pc .bastore 1 pc') (hs : M.1[a]? = some (101, n)) (hin : vp_in x n) (hv : v = 0 ∨ v = 1) (kk : en_Go nc ns i pc' L st (M.1, en_u2 M.2.1 a x.toNatClampNeg v, M.2.2) P) : en_Go nc ns i pc L (.int v :: .int x :: .ref a :: st) M P := by
  obtain ⟨hd, rfl⟩ := hd
  intro p l e R s m args below meth c Q D cA b0 bS LS z0 y0 xs ok hr H locs cells slots ls hat hL
  obtain ⟨a', rfl⟩ := en_pos hat hs (by show (101 : Nat) ≠ 99; decide)
  have he : (en_w b0 bS cA M)[a']? = some (b0 + a', .inl (cA 1, n, .inl (M.2.1 (a' + 1)))) := by
    rw [en_w_at hs]
    simp [en_e]
  have hvn : vp_nar .boolean v = v := by rcases hv with rfl | rfl <;> rfl
  exact va_zast ok.1 ok.2.1 ok.2.2.2.2.2.2.1 hat.1 en_w_D hat.2.1 a' 1 he (en_ty_at T_A1) hin hd (fun H1 locs1 hP _ hS => kk p l e R s m args below meth c Q D cA b0 bS LS z0 y0 xs ok hr H1 locs1 cells slots ls
    (en_at_set (M' := (M.1, en_u2 M.2.1 (a' + 1) x.toNatClampNeg v, M.2.2)) hat hs rfl (fun b hb => en_u2_off hb) (fun b hb => rfl) (by simp [en_e, en_u2_row, hvn]) hP hS) hL)
theorem en_aast {x : Int32} {t b n' N : Nat} {C : String} {T : u_T} (hd : en_d i pc .aastore 1 pc') (hs : M.1[a]? = some (100 + (t + 2), n)) (hb : M.1[b]? = some (ci, n')) (hc : vwCl[ci]? = some (C, T, N)) (ht : xA[t + 2]? = some (.object C)) (hin : vp_in x n) (kk : en_Go nc ns i pc' L st (M.1, M.2.1, en_u2 M.2.2 a x.toNatClampNeg (some b)) P) : en_Go nc ns i pc L (.ref b :: .int x :: .ref a :: st) M P := by
  obtain ⟨hd, rfl⟩ := hd
  obtain ⟨-, -, -, -, -, h99⟩ := T_cls hc
  intro p l e R s m args below meth c Q D cA b0 bS LS z0 y0 xs ok hr H locs cells slots ls hat hL
  obtain ⟨a', rfl⟩ := en_pos hat hs (by show 100 + (t + 2) ≠ 99; omega)
  obtain ⟨b', rfl⟩ := en_pos hat hb (by show ci ≠ 99; omega)
  have he : (en_w b0 bS cA M)[a']? = some (b0 + a', .inl (cA (t + 2), n, .inr (.inr (.inr (.inr (fun k => (M.2.2 (a' + 1) k).map (en_ad b0 bS))))))) := by
    rw [en_w_at hs]
    unfold en_e
    rw [if_neg (by show ¬ 100 + (t + 2) < 99; omega), if_neg (by show ¬ 100 + (t + 2) < 102; omega)]
    rw [show (100 + (t + 2), n).1 - 100 = t + 2 from Nat.add_sub_cancel_left 100 (t + 2)]
  have hev : (en_w b0 bS cA M)[b']? = some (b0 + b', .inr (ci, (List.range n').map (en_f b0 bS M ci (b' + 1)))) := by
    rw [en_w_at hb]
    simp [en_e, h99]
  refine va_astq ok.1 ok.2.1 ok.2.2.2.2.2.2.1 hat.1 en_w_D hat.2.1 a' (t + 2) b' ci he (en_ty_at ht) hev hc hin hd (fun H1 locs1 hP _ hS => kk p l e R s m args below meth c Q D cA b0 bS LS z0 y0 xs ok hr H1 locs1 cells slots ls
    (en_at_set (M' := (M.1, M.2.1, en_u2 M.2.2 (a' + 1) x.toNatClampNeg (some (b' + 1)))) hat hs rfl (fun b hb => rfl) (fun b hb => en_u2_off hb) ?_ hP hS) hL)
  unfold en_e
  rw [if_neg (by show ¬ 100 + (t + 2) < 99; omega), if_neg (by show ¬ 100 + (t + 2) < 102; omega)]
  rw [show (100 + (t + 2), n).1 - 100 = t + 2 from Nat.add_sub_cancel_left 100 (t + 2)]
  have hf : (fun k => (en_u2 M.2.2 (a' + 1) x.toNatClampNeg (some (b' + 1)) (a' + 1) k).map (en_ad b0 bS)) = va_up (fun k => (M.2.2 (a' + 1) k).map (en_ad b0 bS)) x.toNatClampNeg (some (b0 + b')) := by
    funext k
    by_cases hk : k = x.toNatClampNeg
    · simp [en_u2, va_up, hk, en_ad]
    · simp [en_u2, va_up, hk]
  show (Sum.inl (cA (t + 2), n, Sum.inr (Sum.inr (Sum.inr (Sum.inr (fun k => (en_u2 M.2.2 (a' + 1) x.toNatClampNeg (some (b' + 1)) (a' + 1) k).map (en_ad b0 bS)))))) : va_E) = _
  rw [hf]
end ENG
/-! new cells -/
section ENN
variable {p : Program} {l : Launch} {e : Env} {R : Room} {s : State} {m : MethodId} {args : Array Value} {below : List Frame} {meth : Method} {c : Code} {Q : State → Prop} {D : va_G} {cA : Nat → ClassId} {b0 bS LS z0 y0 nc ns : Nat} {xs : Nat → Int32} {i pc : Nat} {H : Heap} {locs : List Loc} {cells slots : Nat} {ls : Array Slot} {rest : List Value} {M M' : en_M} {T : State}
theorem en_size (ok : en_ok p R s m args meth c D cA b0 bS LS z0 y0 nc ns xs i) (hat : en_at s D cA b0 bS LS z0 y0 nc ns xs M H locs cells slots) (hT : T.heap = H) (X : Stand p l e R s m args below meth c T locs cells slots) : H.size + 1 = b0 + M.1.length := by
  have h1 : (T.setVm s.vm).heap.size ≤ s.heap.size + cells := X.same.2.2.1
  have h2 : (T.setVm s.vm).heap.size = H.size := by rw [← hT]; rfl
  obtain ⟨hb1, hb2, hb3⟩ := ok.2.2.2.2.2.2.2.2.2.2.1
  have h3 := hat.2.2.1.1
  have h4 := hat.2.1.1
  by_cases hl : M.1.length = z0
  · omega
  · have hlt : (M.1.length - 2) + 1 < M.1.length := by omega
    have he := en_w_at (b0 := b0) (bS := bS) (cA := cA) (List.getElem?_eq_getElem hlt)
    have h5 := (hat.1 _ _ he).lt
    have h6 : b0 + (M.1.length - 2) < H.size := h5
    omega
theorem en_w_push {q : Nat × Nat} (hl : 1 ≤ M.1.length) (h1 : M'.1 = M.1 ++ [q]) (h2 : ∀ b, b < M.1.length → M'.2.1 b = M.2.1 b) (h3 : ∀ b, b < M.1.length → M'.2.2 b = M.2.2 b) :
    en_w b0 bS cA M' = en_w b0 bS cA M ++ [(b0 + (M.1.length - 1), en_e b0 bS cA M' M.1.length q)] := by
  have hlen : M'.1.length = M.1.length + 1 := by rw [h1]; simp
  apply List.ext_getElem?
  intro j
  by_cases hj : j < M.1.length - 1
  · have e1 : M.1[j + 1]? = some (M.1[j + 1]) := List.getElem?_eq_getElem (by omega)
    have e2 : M'.1[j + 1]? = some (M.1[j + 1]) := by rw [h1, List.getElem?_append_left (by omega)]; exact e1
    rw [List.getElem?_append_left (by rw [en_w_len]; exact hj), en_w_at e2, en_w_at e1, en_e_congr (h2 _ (by omega)) (h3 _ (by omega))]
  · by_cases hj2 : j = M.1.length - 1
    · subst hj2
      have e2 : M'.1[M.1.length - 1 + 1]? = some q := by
        rw [h1, show M.1.length - 1 + 1 = M.1.length by omega, List.getElem?_append_right (Nat.le_refl _)]
        simp
      rw [en_w_at e2, List.getElem?_append_right (by rw [en_w_len]; exact Nat.le_refl _), en_w_len, Nat.sub_self]
      rw [show M.1.length - 1 + 1 = M.1.length by omega]
      rfl
    · rw [List.getElem?_eq_none (by rw [en_w_len]; omega), List.getElem?_eq_none (by rw [List.length_append, en_w_len]; simp; omega)]
theorem en_fresh {q : Nat} {x : va_E} {H1 : Heap} (hl : 1 ≤ M.1.length) (hP : va_P D vwCl (en_w b0 bS cA M ++ [(q, x)]) H1) (hD : va_D (fun q => b0 ≤ q) (en_w b0 bS cA M ++ [(q, x)])) (hsz : H1.size ≤ b0 + M.1.length) : q = b0 + (M.1.length - 1) := by
  have hlast : (en_w b0 bS cA M ++ [(q, x)])[M.1.length - 1]? = some (q, x) := by
    rw [List.getElem?_append_right (by rw [en_w_len]; exact Nat.le_refl _), en_w_len, Nat.sub_self]
    rfl
  have h1 : q < H1.size := (hP _ _ hlast).lt
  have h2 : b0 ≤ q := hD.2 _ _ hlast
  by_cases h : q = b0 + (M.1.length - 1)
  · exact h
  · exfalso
    have hj : (q - b0) + 1 < M.1.length := by omega
    have e1 : (en_w b0 bS cA M)[q - b0]? = _ := en_w_at (List.getElem?_eq_getElem hj)
    have e2 : (en_w b0 bS cA M ++ [(q, x)])[q - b0]? = some (b0 + (q - b0), en_e b0 bS cA M (q - b0 + 1) (M.1[q - b0 + 1])) := by
      rw [List.getElem?_append_left (by rw [en_w_len]; omega)]
      exact e1
    have := hD.1 _ _ _ _ e2 hlast (by show b0 + (q - b0) = q; omega)
    omega
theorem en_at_push {q : Nat × Nat} {H1 : Heap} {locs1 : List Loc} (hat : en_at s D cA b0 bS LS z0 y0 nc ns xs M H locs cells slots) (hl : 1 ≤ M.1.length) (h1 : M'.1 = M.1 ++ [q]) (h2 : ∀ b, b < M.1.length → M'.2.1 b = M.2.1 b) (h3 : ∀ b, b < M.1.length → M'.2.2 b = M.2.2 b) (hnc : M.1.length + 1 ≤ nc) (hns : en_sl M + q.2 ≤ ns)
    (hP : va_P D vwCl (en_w b0 bS cA M ++ [(b0 + (M.1.length - 1), en_e b0 bS cA M' M.1.length q)]) H1) (hS : va_S (fun q => b0 ≤ q) s.heap H1 locs1) : en_at s D cA b0 bS LS z0 y0 nc ns xs M' H1 locs1 (cells + 1) (slots + q.2) := by
  have hsl : en_sl M' = en_sl M + q.2 := by unfold en_sl; rw [h1]; simp
  have hlen : M'.1.length = M.1.length + 1 := by rw [h1]; simp
  have a1 := hat.2.2.1
  refine ⟨?_, hS, ?_, ?_, ?_, fun k hk => ?_⟩
  · rw [en_w_push hl h1 h2 h3]
    exact hP
  · rw [hlen, hsl]
    omega
  · rw [hlen, hsl]
    omega
  · rw [h1, List.getElem?_append_left (by omega)]
    exact hat.2.2.2.2.1
  · rw [h2 0 (by omega)]
    exact hat.2.2.2.2.2 k hk
end ENN
def en_nw (M : en_M) (kd n : Nat) : en_M := (M.1 ++ [(kd, n)], en_ur M.2.1 M.1.length (fun _ => 0), en_ur M.2.2 M.1.length (fun _ => none))
def en_dw (i pc ci pc' : Nat) : Prop := ∃ idx : Nat, decode (mB i) pc = .ok (.new idx, 3) ∧ kC (mO i) idx = some ci ∧ pc + 3 = pc'
def en_dq (i pc t pc' : Nat) : Prop := ∃ idx : Nat, decode (mB i) pc = .ok (.anewarray idx, 3) ∧ kA (mO i) idx = some t ∧ pc + 3 = pc'
section ENK
variable {nc ns i pc pc' tgt : Nat} {L L' st : List Value} {M : en_M} {P : Option Value → en_M → Prop} {a ci k n : Nat} {nb : Bool}
theorem en_new {C : String} {T : u_T} {N : Nat} (hd : en_dw i pc ci pc') (hc : vwCl[ci]? = some (C, T, N)) (hl : 1 ≤ M.1.length) (hnc : M.1.length + 1 ≤ nc) (hns : en_sl M + N ≤ ns) (kk : en_Go nc ns i pc' L (.ref M.1.length :: st) (en_nw M ci N) P) : en_Go nc ns i pc L st M P := by
  obtain ⟨idx, hd, hC, rfl⟩ := hd
  obtain ⟨hin, hty, hnm, hins, hini, h99⟩ := T_cls hc
  intro p l e R s m args below meth c Q D cA b0 bS LS z0 y0 xs ok hr H locs cells slots ls hat hL
  have a1 := hat.2.2.1
  have a2 := ok.2.2.2.2.2.2.2.2.2.2.2
  have hts := ok.2.2.2.2.1
  have hfs : ∀ j, j < N → defaultValue (xT ci j) = vp_V ((List.range N).map (en_f b0 bS (en_nw M ci N) ci M.1.length)) j := by
    intro j hj
    have e1 : vp_V ((List.range N).map (en_f b0 bS (en_nw M ci N) ci M.1.length)) j = en_f b0 bS (en_nw M ci N) ci M.1.length j := by
      unfold vp_V
      rw [List.getD_eq_getElem?_getD, List.getElem?_map, List.getElem?_range hj]
      rfl
    rw [e1]
    have r1 : (en_nw M ci N).2.1 M.1.length = fun _ => 0 := en_ur_row
    have r2 : (en_nw M ci N).2.2 M.1.length = fun _ => none := en_ur_row
    unfold en_f
    rw [r1, r2]
    rcases T_ty hc hj with h | h | ⟨C, h⟩ | ⟨t, h⟩ <;> simp [en_xr, h, defaultValue, va_rf]
  refine va_new (ci := ci) ok.1 ok.2.1 hts hin (xT ci) hty ok.2.2.2.1 (hts _ (T_C hC hc)) (hts _ hins) (hts _ hini) ok.2.2.2.2.2.2.1 hat.1 en_w_D hat.2.1 (fun q hq => by have := ok.2.2.2.2.2.2.2.2.2.2.1; show b0 ≤ q; omega) hc hfs (by omega) (by omega) hd (fun q H1 hP hD hS => ?_)
  intro T hT X
  have h1 : (T.setVm s.vm).heap.size ≤ s.heap.size + (cells + 1) := X.same.2.2.1
  have h2 : (T.setVm s.vm).heap.size = H1.size := by rw [← hT]; rfl
  have h3 := ok.2.2.2.2.2.2.2.2.2.2.1
  have hq := en_fresh hl hP hD (by omega)
  subst hq
  have hP' : va_P D vwCl (en_w b0 bS cA M ++ [(b0 + (M.1.length - 1), en_e b0 bS cA (en_nw M ci N) M.1.length (ci, N))]) H1 := by
    have : en_e b0 bS cA (en_nw M ci N) M.1.length (ci, N) = .inr (ci, (List.range N).map (en_f b0 bS (en_nw M ci N) ci M.1.length)) := by simp [en_e, h99]
    rw [this]
    exact hP
  have hat' := en_at_push (M' := en_nw M ci N) (q := (ci, N)) hat hl rfl (fun b hb => en_ur_off (by omega)) (fun b hb => en_ur_off (by omega)) hnc hns hP' hS
  have := kk p l e R s m args below meth c Q D cA b0 bS LS z0 y0 xs ok hr H1 locs (cells + 1) (slots + N) ls hat' hL T hT X
  obtain ⟨ll, hll⟩ : ∃ ll, M.1.length = ll + 1 := ⟨M.1.length - 1, by omega⟩
  rw [List.map_cons, hll] at this
  rw [hll]
  exact this
theorem en_newi {x : Int32} (hd : en_d i pc (.newarray .int) 2 pc') (hx : ¬ x < 0) (hN : x.toNatClampNeg = n) (hn : n ≤ 100000) (hl : 1 ≤ M.1.length) (hnc : M.1.length + 1 ≤ nc) (hns : en_sl M + n ≤ ns) (kk : en_Go nc ns i pc' L (.ref M.1.length :: st) (en_nw M 100 n) P) : en_Go nc ns i pc L (.int x :: st) M P := by
  obtain ⟨hd, rfl⟩ := hd
  intro p l e R s m args below meth c Q D cA b0 bS LS z0 y0 xs ok hr H locs cells slots ls hat hL
  have a1 := hat.2.2.1
  have a2 := ok.2.2.2.2.2.2.2.2.2.2.2
  have hts := ok.2.2.2.2.1
  have hK := ok.2.2.2.2.2.2.1
  refine va_newa (ty := .int) (a0 := (n, .inl (fun _ => 0))) ok.1 ok.2.1 (hts _ T_AI) rfl hK hat.1 en_w_D hat.2.1 (fun q hq => by have := ok.2.2.2.2.2.2.2.2.2.2.1; show b0 ≤ q; omega) (fun _ => rfl) hx hN (Nat.le_trans (Nat.mul_le_mul_right _ hn) (by decide)) (by omega) (by omega) hd (fun q cA' H1 hK' hP hD hS => ?_)
  intro T hT X
  have h1 : (T.setVm s.vm).heap.size ≤ s.heap.size + (cells + 1) := X.same.2.2.1
  have h2 : (T.setVm s.vm).heap.size = H1.size := by rw [← hT]; rfl
  have h3 := ok.2.2.2.2.2.2.2.2.2.2.1
  have hq := en_fresh hl hP hD (by omega)
  subst hq
  have hcA : cA' = cA 0 := by
    have e1 : va_RA s cA' .int := (hK'.2 (en_ty cA).length (cA', .int) (by rw [List.getElem?_append_right (Nat.le_refl _), Nat.sub_self]; rfl)).2
    have e2 : va_RA s (cA 0) .int := (hK.2 0 _ (en_ty_at T_A0)).2
    exact Option.some.inj (e1.symm.trans e2)
  subst hcA
  have hP' : va_P D vwCl (en_w b0 bS cA M ++ [(b0 + (M.1.length - 1), en_e b0 bS cA (en_nw M 100 n) M.1.length (100, n))]) H1 := by
    have : en_e b0 bS cA (en_nw M 100 n) M.1.length (100, n) = .inl (cA 0, n, .inl (fun _ => 0)) := by simp [en_e, en_nw, en_ur_row]
    rw [this]
    exact hP
  have hat' := en_at_push (M' := en_nw M 100 n) (q := (100, n)) hat hl rfl (fun b hb => en_ur_off (by omega)) (fun b hb => en_ur_off (by omega)) hnc hns hP' hS
  have := kk p l e R s m args below meth c Q D cA b0 bS LS z0 y0 xs ok hr H1 locs (cells + 1) (slots + n) ls hat' hL T hT X
  obtain ⟨ll, hll⟩ : ∃ ll, M.1.length = ll + 1 := ⟨M.1.length - 1, by omega⟩
  rw [List.map_cons, hll] at this
  rw [hll]
  exact this
theorem en_newz {x : Int32} (hd : en_d i pc (.newarray .boolean) 2 pc') (hx : ¬ x < 0) (hN : x.toNatClampNeg = n) (hn : n ≤ 100000) (hl : 1 ≤ M.1.length) (hnc : M.1.length + 1 ≤ nc) (hns : en_sl M + n ≤ ns) (kk : en_Go nc ns i pc' L (.ref M.1.length :: st) (en_nw M 101 n) P) : en_Go nc ns i pc L (.int x :: st) M P := by
  obtain ⟨hd, rfl⟩ := hd
  intro p l e R s m args below meth c Q D cA b0 bS LS z0 y0 xs ok hr H locs cells slots ls hat hL
  have a1 := hat.2.2.1
  have a2 := ok.2.2.2.2.2.2.2.2.2.2.2
  have hts := ok.2.2.2.2.1
  have hK := ok.2.2.2.2.2.2.1
  refine va_newa (ty := .boolean) (a0 := (n, .inl (fun _ => 0))) ok.1 ok.2.1 (hts _ T_AZ) rfl hK hat.1 en_w_D hat.2.1 (fun q hq => by have := ok.2.2.2.2.2.2.2.2.2.2.1; show b0 ≤ q; omega) (fun _ => rfl) hx hN (Nat.le_trans (Nat.mul_le_mul_right _ hn) (by decide)) (by omega) (by omega) hd (fun q cA' H1 hK' hP hD hS => ?_)
  intro T hT X
  have h1 : (T.setVm s.vm).heap.size ≤ s.heap.size + (cells + 1) := X.same.2.2.1
  have h2 : (T.setVm s.vm).heap.size = H1.size := by rw [← hT]; rfl
  have h3 := ok.2.2.2.2.2.2.2.2.2.2.1
  have hq := en_fresh hl hP hD (by omega)
  subst hq
  have hcA : cA' = cA 1 := by
    have e1 : va_RA s cA' .boolean := (hK'.2 (en_ty cA).length (cA', .boolean) (by rw [List.getElem?_append_right (Nat.le_refl _), Nat.sub_self]; rfl)).2
    have e2 : va_RA s (cA 1) .boolean := (hK.2 1 _ (en_ty_at T_A1)).2
    exact Option.some.inj (e1.symm.trans e2)
  subst hcA
  have hP' : va_P D vwCl (en_w b0 bS cA M ++ [(b0 + (M.1.length - 1), en_e b0 bS cA (en_nw M 101 n) M.1.length (101, n))]) H1 := by
    have : en_e b0 bS cA (en_nw M 101 n) M.1.length (101, n) = .inl (cA 1, n, .inl (fun _ => 0)) := by simp [en_e, en_nw, en_ur_row]
    rw [this]
    exact hP
  have hat' := en_at_push (M' := en_nw M 101 n) (q := (101, n)) hat hl rfl (fun b hb => en_ur_off (by omega)) (fun b hb => en_ur_off (by omega)) hnc hns hP' hS
  have := kk p l e R s m args below meth c Q D cA b0 bS LS z0 y0 xs ok hr H1 locs (cells + 1) (slots + n) ls hat' hL T hT X
  obtain ⟨ll, hll⟩ : ∃ ll, M.1.length = ll + 1 := ⟨M.1.length - 1, by omega⟩
  rw [List.map_cons, hll] at this
  rw [hll]
  exact this
theorem en_newq {x : Int32} {t : Nat} (hd : en_dq i pc (t + 2) pc') (hx : ¬ x < 0) (hN : x.toNatClampNeg = n) (hn : n ≤ 100000) (hl : 1 ≤ M.1.length) (hnc : M.1.length + 1 ≤ nc) (hns : en_sl M + n ≤ ns) (kk : en_Go nc ns i pc' L (.ref M.1.length :: st) (en_nw M (100 + (t + 2)) n) P) : en_Go nc ns i pc L (.int x :: st) M P := by
  obtain ⟨idx, hd, hA, rfl⟩ := hd
  obtain ⟨C, hxA, hlk, hCn⟩ := T_A hA
  intro p l e R s m args below meth c Q D cA b0 bS LS z0 y0 xs ok hr H locs cells slots ls hat hL
  have a1 := hat.2.2.1
  have a2 := ok.2.2.2.2.2.2.2.2.2.2.2
  have hts := ok.2.2.2.2.1
  have hK := ok.2.2.2.2.2.2.1
  have hN' := ok.2.2.2.2.2.1
  refine va_newq ok.1 ok.2.1 ok.2.2.2.1 (hts _ hlk) (hN'.2.2 _ hCn) hK hat.1 en_w_D hat.2.1 (fun q hq => by have := ok.2.2.2.2.2.2.2.2.2.2.1; show b0 ≤ q; omega) hx hN (by omega) (by omega) (by omega) hd (fun q cA' H1 hK' hP hD hS => ?_)
  intro T hT X
  have h1 : (T.setVm s.vm).heap.size ≤ s.heap.size + (cells + 1) := X.same.2.2.1
  have h2 : (T.setVm s.vm).heap.size = H1.size := by rw [← hT]; rfl
  have h3 := ok.2.2.2.2.2.2.2.2.2.2.1
  have hq := en_fresh hl hP hD (by omega)
  subst hq
  have hcA : cA' = cA (t + 2) := by
    have e1 : va_RA s cA' (.object C) := (hK'.2 (en_ty cA).length (cA', .object C) (by rw [List.getElem?_append_right (Nat.le_refl _), Nat.sub_self]; rfl)).2
    have e2 : va_RA s (cA (t + 2)) (.object C) := (hK.2 (t + 2) _ (en_ty_at hxA)).2
    obtain ⟨_, _, _, _, _, f1⟩ := e1
    obtain ⟨_, _, _, _, _, f2⟩ := e2
    exact Option.some.inj (f1.symm.trans f2)
  subst hcA
  have hP' : va_P D vwCl (en_w b0 bS cA M ++ [(b0 + (M.1.length - 1), en_e b0 bS cA (en_nw M (100 + (t + 2)) n) M.1.length (100 + (t + 2), n))]) H1 := by
    have : en_e b0 bS cA (en_nw M (100 + (t + 2)) n) M.1.length (100 + (t + 2), n) = .inl (cA (t + 2), n, .inr (.inr (.inr (.inr (fun _ => none))))) := by
      unfold en_e
      rw [if_neg (by show ¬ 100 + (t + 2) < 99; omega), if_neg (by show ¬ 100 + (t + 2) < 102; omega)]
      rw [show (100 + (t + 2), n).1 - 100 = t + 2 from Nat.add_sub_cancel_left 100 (t + 2)]
      simp [en_nw, en_ur_row]
    rw [this]
    exact hP
  have hat' := en_at_push (M' := en_nw M (100 + (t + 2)) n) (q := (100 + (t + 2), n)) hat hl rfl (fun b hb => en_ur_off (by omega)) (fun b hb => en_ur_off (by omega)) hnc hns hP' hS
  have := kk p l e R s m args below meth c Q D cA b0 bS LS z0 y0 xs ok hr H1 locs (cells + 1) (slots + n) ls hat' hL T hT X
  obtain ⟨ll, hll⟩ : ∃ ll, M.1.length = ll + 1 := ⟨M.1.length - 1, by omega⟩
  rw [List.map_cons, hll] at this
  rw [hll]
  exact this
end ENK
end
section
/-! calls -/
/-- a call of another method of the class: which one, and how it is linked (0 virtual, 1 static, 2 init; 3, 4, 5 the same among nest mates) -/
def en_dv (i pc j : Nat) (nb : Bool) (pc' : Nat) : Prop := ∃ idx : Nat, decode (mB i) pc = .ok (.invokevirtual idx, 3) ∧ kM (mO i) idx = some (j, if nb then 3 else 0) ∧ pc + 3 = pc' ∧ mK j < mK i ∧ 19 + mL j + mQ j ≤ mQ i
def en_dS (i pc j : Nat) (nb : Bool) (pc' : Nat) : Prop := ∃ idx : Nat, decode (mB i) pc = .ok (.invokestatic idx, 3) ∧ kM (mO i) idx = some (j, if nb then 4 else 1) ∧ pc + 3 = pc' ∧ mK j < mK i ∧ 19 + mL j + mQ j ≤ mQ i
def en_dI (i pc j : Nat) (nb : Bool) (pc' : Nat) : Prop := ∃ idx : Nat, decode (mB i) pc = .ok (.invokespecial idx, 3) ∧ kM (mO i) idx = some (j, if nb then 5 else 2) ∧ pc + 3 = pc' ∧ mK j < mK i ∧ 19 + mL j + mQ j ≤ mQ i
/-- a native, by its number: 6 Object.<init>, 7 Math.max, 8 Math.min, 9 System.arraycopy -/
def en_dn (i pc n pc' : Nat) : Prop := ∃ idx : Nat, decode (mB i) pc = .ok (if n = 6 then .invokespecial idx else .invokestatic idx, 3) ∧ kM (mO i) idx = some (0, n) ∧ pc + 3 = pc' ∧ 1 ≤ mK i ∧ 26 ≤ mQ i
def en_room (j nc ns : Nat) (M : en_M) : Room := { frames := mK j, cells := nc - M.1.length, slots := ns - en_sl M, locals := mQ j }
def en_Pc (D : va_G) (cA : Nat → ClassId) (b0 bS LS : Nat) (xs : Nat → Int32) (as : List Value) (M : en_M) : Array Value → State → Prop := va_Pc (as.map (en_v b0 bS)) (fun U => U.heap.size + 1 = b0 + M.1.length ∧ va_P D vwCl (en_w b0 bS cA M) U.heap ∧ va_K D vwCl (en_ty cA) U ∧ en_N U ∧ va_X bS LS xs U U.heap)
def en_Qc (D : va_G) (cA : Nat → ClassId) (b0 bS LS nc ns : Nat) (xs : Nat → Int32) (P : Option Value → en_M → Prop) : Array Value → State → Outcome → State → Prop := fun _ st oc t =>
  (∃ (r : Option Value) (M' : en_M), P r M' ∧ (M'.1.length = nc ∧ en_sl M' = ns) ∧ M'.1[0]? = some (99, LS) ∧ (∀ k, k < LS → M'.2.1 0 k = xs k) ∧ oc = .returned (r.map (en_v b0 bS)) ∧ va_P D vwCl (en_w b0 bS cA M') t.heap) ∧ va_F (fun q => b0 ≤ q) st t
theorem en_Pc_blind {D : va_G} {cA : Nat → ClassId} {b0 bS LS : Nat} {xs : Nat → Int32} {as : List Value} {M : en_M} : FrameBlind (en_Pc D cA b0 bS LS xs as M) := by
  intro a U g mk h
  obtain ⟨h0, h1, h2, h3, h4, h5⟩ := h
  exact ⟨h0, h1, h2, va_K.moved (u := U) (U := U.calling g mk a) (Vm.Alike.refl U.vm) h3, en_N.same (s := U) (U := U.calling g mk a) rfl h4, va_X.moved (u := U) (U := U.calling g mk a) (Vm.Alike.refl U.vm) h5⟩
theorem en_good (j : Nat) (h : Cond.code (mY j) (mB j) (mL j) (mR j) ∈ ew) : GoodIn ew (Cond.code (mY j) (mB j) (mL j) (mR j) :: ew) := by
  intro w hw
  have h1 : w ∈ ew := by
    rcases List.mem_cons.mp hw with rfl | h2
    · exact h
    · exact h2
  exact ⟨h1, T_good w h1⟩
theorem en_met {l : Launch} {D : va_G} {cA : Nat → ClassId} {b0 bS LS nc ns j : Nat} {xs : Nat → Int32} {as : List Value} {M : en_M} {P : Option Value → en_M → Prop}
    (h : en_Go nc ns j 0 (en_in j as) [] M P) (hpl : plainName (mY j).cls = true) (hcat : ∀ v ∈ as, v.category = 1) (hlen : as.length ≤ mL j) (h0 : M.1[0]? = some (99, LS)) (hxs : ∀ k, k < LS → M.2.1 0 k = xs k) (hbS : bS < b0) (hnc : M.1.length ≤ nc) (hns : en_sl M ≤ ns) (hoY : oY (mO j) = (mY j).cls) :
    Met l (mY j) (Cond.code (mY j) (mB j) (mL j) (mR j) :: ew) (en_room j nc ns M) (en_Pc D cA b0 bS LS xs as M) (en_Qc D cA b0 bS LS nc ns xs P) (nc - M.1.length) (ns - en_sl M) (fun q => b0 ≤ q) := by
  refine Met.ofW (cc := mB j) (maxL := mL j) (ret := mR j) hpl rfl ?_
  intro p e s m args below meth c s₁ B hml hv
  obtain ⟨rfl, hsz, hP, hK, hN, hX⟩ := hv
  have hts := atoms_spec (ws := Cond.code (mY j) (mB j) (mL j) (mR j) :: ew) B.pre
  have hown : s.vm.findClass (mY j).cls = some m.cls := findClass_of_methodNamed B.named
  have hlocks := B.notSynchronized
  have hin : meth.name = (mY j).name := (name_of_methodNamed B.named B.method).1
  have hl1 : 1 ≤ M.1.length := (List.getElem?_eq_some_iff.mp h0).1
  rw [lg_entry_eq]
  refine h p l e _ s m _ below meth c _ D cA b0 bS LS M.1.length (en_sl M) xs ⟨B.exec, B.bytes, hml, by rw [hoY]; exact hown, fun w hw => hts w (List.mem_cons_of_mem _ hw), hN, hK, ⟨hin, B.returns, hlocks⟩, ⟨Nat.le_refl _, Nat.le_refl _⟩, hX, ⟨hbS, hsz, hl1⟩, by show nc ≤ M.1.length + (nc - M.1.length); omega, by show ns ≤ en_sl M + (ns - en_sl M); omega⟩ ?_ s.heap [] 0 0 _ ⟨hP, va_S.rf, ⟨Nat.zero_add _, Nat.zero_add _⟩, ⟨hnc, hns⟩, h0, hxs⟩ (en_L_entry hcat hlen)
  intro r M' pc' ls' H locs cells slots ins hPr hc hs hd hrt hat
  have ec : nc - M.1.length = cells := by have := hat.2.2.1.1; omega
  have es : ns - en_sl M = slots := by have := hat.2.2.1.2; omega
  rw [ec, es]
  have fin : ∀ t : State, t.heap = H → ∀ oc, oc = Outcome.returned (r.map (en_v b0 bS)) → en_Qc D cA b0 bS LS nc ns xs P (as.map (en_v b0 bS)).toArray s oc t := fun t ht oc ho =>
    ⟨⟨r, M', hPr, ⟨hc, hs⟩, hat.2.2.2.2.1, hat.2.2.2.2.2, ho, by rw [ht]; exact hat.1⟩, hat.2.1.F ht⟩
  rcases hrt with ⟨rfl, hR, x, rfl⟩ | ⟨rfl, hR, x, rfl, hx⟩ | ⟨rfl, hR, rfl⟩ | ⟨rfl, ⟨C, hR⟩, a, rfl⟩
  · exact W.iret (v := x) B.exec B.bytes (B.returns.trans hR) (fun t ht hW => fin t ht _ rfl) hat.2.1.2.2 hd
  · exact W.zret (v := x) (ty := .boolean) B.exec B.bytes (B.returns.trans hR) (by rcases hx with rfl | rfl <;> rfl) (fun t ht hW => fin t ht _ rfl) hat.2.1.2.2 hd
  · exact W.vret B.exec B.bytes (B.returns.trans hR) (fun t ht hW => fin t ht _ rfl) hat.2.1.2.2 hd
  · exact W.aret (v := .ref (en_ad b0 bS a)) (rt := .object C) B.exec B.bytes (B.returns.trans hR) (Or.inl ⟨C, rfl⟩) (Or.inr ⟨_, rfl⟩) (fun t ht hW => fin t ht _ rfl) hat.2.1.2.2 hd
section ENC
variable {p : Program} {l : Launch} {e : Env} {R : Room} {s : State} {m : MethodId} {args : Array Value} {below : List Frame} {meth : Method} {c : Code} {Q : State → Prop} {D : va_G} {cA : Nat → ClassId} {b0 bS LS z0 y0 nc ns nc' ns' : Nat} {xs : Nat → Int32} {i pc : Nat} {H : Heap} {locs : List Loc} {cells slots : Nat} {ls : Array Slot} {rest st0 : List Value} {M M' : en_M} {T : State} {P : Option Value → en_M → Prop} {a : Array Value}
theorem en_after (hr : va_Run p l e R s m args below meth c H locs cells slots (nc' - M.1.length) (ns' - en_sl M) (F0 m pc ls st0) rest (en_Qc D cA b0 bS LS nc' ns' xs P a) (fun q => b0 ≤ q))
    (hat : en_at s D cA b0 bS LS z0 y0 nc ns xs M H locs cells slots) (h1 : M.1.length ≤ nc') (h2 : nc' ≤ nc) (h3 : en_sl M ≤ ns') (h4 : ns' ≤ ns)
    (kk : ∀ (r : Option Value) (M' : en_M) (H1 : Heap) (locs1 : List Loc) (cells1 slots1 : Nat), P r M' → en_at s D cA b0 bS LS z0 y0 nc ns xs M' H1 locs1 cells1 slots1 → W p l e R s m args below meth c H1 locs1 cells1 slots1 Q (F0 m (pc + 3) ls (r.toList.map (en_v b0 bS) ++ rest))) : W p l e R s m args below meth c H locs cells slots Q (F0 m pc ls st0) := by
  intro T hT X
  obtain ⟨v, st₀, t, T', L, h0, X', hL, e1, e2, ⟨⟨r, M', hPr, ⟨hc, hs⟩, g0, gx, hv, hP⟩, hz, hk⟩, st⟩ := hr T hT X
  cases hv
  rw [h0] at hz hk
  have hS := hat.2.1
  have hS1 : va_S (fun q => b0 ≤ q) s.heap T'.heap (locs ++ L) := ⟨Nat.le_trans hS.1 (by rw [e1]; exact hz), fun q h1 h2 => by rw [e1, hk q (Nat.lt_of_lt_of_le h1 hS.1) h2]; exact hS.2.1 q h1 h2, fun q hq => by
      rcases List.mem_append.mp hq with h | h
      · exact hS.2.2 q h
      · exact hL q h⟩
  have a1 := hat.2.2.1
  have hat' : en_at s D cA b0 bS LS z0 y0 nc ns xs M' T'.heap (locs ++ L) (cells + (nc' - M.1.length)) (slots + (ns' - en_sl M)) := ⟨by rw [e1]; exact hP, hS1, ⟨by omega, by omega⟩, ⟨by omega, by omega⟩, g0, gx⟩
  obtain ⟨t2, b1, b2⟩ := kk r M' T'.heap (locs ++ L) _ _ hPr hat' T' rfl X'
  refine ⟨t2, st t2 ?_, b2⟩
  have : (r.map (en_v b0 bS)).toList = r.toList.map (en_v b0 bS) := by cases r <;> rfl
  rw [this]
  exact b1
theorem en_pre (ok : en_ok p R s m args meth c D cA b0 bS LS z0 y0 nc ns xs i) (hat : en_at s D cA b0 bS LS z0 y0 nc ns xs M H locs cells slots) (hsz : H.size + 1 = b0 + M.1.length) (as : List Value) : ∀ U : State, U.heap = H → s.WarmedH U.vm → en_Pc D cA b0 bS LS xs as M (as.map (en_v b0 bS)).toArray U := by
  intro U hU hW
  obtain ⟨hb1, hb2, hb3⟩ := ok.2.2.2.2.2.2.2.2.2.2.1
  have hX : va_X bS LS xs s H := va_X.kept ok.2.2.2.2.2.2.2.2.2.1 (hat.2.1.2.1 bS (by omega) (by show ¬ b0 ≤ bS; omega))
  exact ⟨rfl, by rw [hU]; exact hsz, by rw [hU]; exact hat.1, va_K.moved hW.alike ok.2.2.2.2.2.2.1, en_N.warm hW ok.2.2.2.2.2.1, by rw [hU]; exact va_X.moved hW.alike hX⟩
theorem en_cat (hr : (rest.map fun v => v.category).sum ≤ 8) : ((rest.map (en_v b0 bS)).map fun v => v.category).sum ≤ 8 := by
  rw [List.map_map]
  have : ((fun v : Value => v.category) ∘ en_v b0 bS) = fun v : Value => v.category := by
    funext v
    exact en_v_cat b0 bS v
  rw [this]
  exact hr
end ENC
section ENV
variable {nc ns nc' ns' i j pc pc' : Nat} {L as rest : List Value} {M : en_M} {P : Option Value → en_M → Prop} {a n : Nat} {nb : Bool}
theorem en_inv (hd : en_dv i pc j nb pc') (hs : M.1[a]? = some (mO j, n)) (hcat : ∀ v ∈ as, v.category = 1) (hlen : as.length = mN j) (hrest : (rest.map fun v => v.category).sum ≤ 8) (h1 : M.1.length ≤ nc') (h2 : nc' ≤ nc) (h3 : en_sl M ≤ ns') (h4 : ns' ≤ ns)
    (kk : en_Go nc' ns' j 0 (en_in j (.ref a :: as)) [] M (fun r M' => en_Go nc ns i pc' L (r.toList ++ rest) M' P)) : en_Go nc ns i pc L (as.reverse ++ .ref a :: rest) M P := by
  obtain ⟨idx, hd, hM, rfl, hK⟩ := hd
  have hjm : j < nM ∧ mS j = false := by
    cases nb with
    | false => exact ⟨(T_V hM).1, (T_V hM).2.1⟩
    | true => exact ⟨(T_VN hM).1, (T_VN hM).2.1⟩
  obtain ⟨hcode, hini, hy, hpar, hmL, hpl, hoY, hlenL, hcls⟩ := T_j hjm.1
  obtain ⟨C, T, N, hcl, hC⟩ := hcls hjm.2
  rw [hjm.2] at hlenL
  intro p l e R s m args below meth c Q D cA b0 bS LS z0 y0 xs ok hr H locs cells slots ls hat hL
  intro T0 hT X
  have hsz := en_size ok hat hT X
  obtain ⟨-, -, -, -, -, h99⟩ := T_cls hcl
  obtain ⟨a', rfl⟩ := en_pos hat hs (by show mO j ≠ 99; omega)
  have hrcv := va_recv ok.2.2.2.2.2.2.1 hat.1 hcl (q0 := a') (by rw [en_w_at hs]; unfold en_e; rw [if_pos h99])
  have hts := ok.2.2.2.2.1
  have hfr := ok.2.2.2.2.2.2.2.2.1
  have hb := ok.2.2.2.2.2.2.2.2.2.2.1
  have hbud := ok.2.2.2.2.2.2.2.2.2.2.2
  have a1 := hat.2.2.1
  have hmet := en_met (l := l) (D := D) (cA := cA) (b0 := b0) (bS := bS) (LS := LS) (xs := xs) kk hpl (fun v hv => by rcases List.mem_cons.mp hv with rfl | hv; rfl; exact hcat v hv) (by rw [List.length_cons, hlen]; exact hlenL) hat.2.2.2.2.1 hat.2.2.2.2.2 hb.1 h1 h3 hoY
  have hG := en_good j hcode
  have hR : (en_room j nc' ns' M).frames + 1 ≤ R.frames ∧ 8 + (mL j + 11) + (en_room j nc' ns' M).locals ≤ R.locals := by
    show mK j + 1 ≤ R.frames ∧ 8 + (mL j + 11) + mQ j ≤ R.locals
    omega
  have hpv : PreV s H C (b0 + a') (en_Pc D cA b0 bS LS xs (.ref (a' + 1) :: as) M) (as.map (en_v b0 bS)) := ⟨en_Pc_blind, hrcv, en_pre ok hat hsz (.ref (a' + 1) :: as)⟩
  have hCy : C = (mY j).cls := hC
  have hrun : va_Run p l e R s m args below meth c H locs cells slots (nc' - M.1.length) (ns' - en_sl M) (F0 m pc ls ((as.reverse ++ .ref (a' + 1) :: rest).map (en_v b0 bS))) (rest.map (en_v b0 bS)) (en_Qc D cA b0 bS LS nc' ns' xs (fun r M' => en_Go nc ns i (pc + 3) L (r.toList ++ rest) M' P) (Value.ref (b0 + a') :: as.map (en_v b0 bS)).toArray) (fun q => b0 ≤ q) := by
    have hstk : (as.reverse ++ .ref (a' + 1) :: rest).map (en_v b0 bS) = (as.map (en_v b0 bS)).reverse ++ .ref (b0 + a') :: rest.map (en_v b0 bS) := by
      rw [List.map_append, List.map_reverse, List.map_cons]
      rfl
    rw [hstk]
    cases nb with
    | false =>
      obtain ⟨-, -, g1, g2, g3⟩ := T_V hM
      exact va_runV (nL := mL i) ⟨ok.1, ok.2.1, ok.2.2.1, ok.2.2.2.1, hts⟩ hmet ⟨callB_of (mN j) hts hG rfl rfl rfl (hts _ hini) (hts _ g1) ⟨hy.1, hy.2, hpar⟩ hR, hts _ g2, by rw [hCy]; exact hts _ g3⟩ hpv rfl (by rw [List.length_map]; exact hlen) hL.2.1 rfl (lv_room (en_cat hrest)) hd ⟨by omega, by omega⟩
    | true =>
      obtain ⟨-, -, host, g1, g2, g3⟩ := T_VN hM
      exact va_runVN (nL := mL i) ⟨ok.1, ok.2.1, ok.2.2.1, ok.2.2.2.1, hts⟩ hmet ⟨va_cnB (mN j) hts hG rfl rfl rfl (ok.2.2.2.2.2.1.2.1 _ g1) (hts _ hini) ⟨hy.1, hy.2, hpar⟩ hR, hts _ g2, by rw [hCy]; exact hts _ g3⟩ hpv rfl (by rw [List.length_map]; exact hlen) hL.2.1 rfl (lv_room (en_cat hrest)) hd ⟨by omega, by omega⟩
  refine en_after hrun hat h1 h2 h3 h4 (fun r M' H1 locs1 cells1 slots1 hP hat1 => ?_) T0 hT X
  have := hP p l e R s m args below meth c Q D cA b0 bS LS z0 y0 xs ok hr H1 locs1 cells1 slots1 ls hat1 hL
  rw [List.map_append] at this
  exact this
theorem en_invS (hd : en_dS i pc j nb pc') (hcat : ∀ v ∈ as, v.category = 1) (hlen : as.length = mN j) (hrest : (rest.map fun v => v.category).sum ≤ 8) (h1 : M.1.length ≤ nc') (h2 : nc' ≤ nc) (h3 : en_sl M ≤ ns') (h4 : ns' ≤ ns)
    (kk : en_Go nc' ns' j 0 (en_in j as) [] M (fun r M' => en_Go nc ns i pc' L (r.toList ++ rest) M' P)) : en_Go nc ns i pc L (as.reverse ++ rest) M P := by
  obtain ⟨idx, hd, hM, rfl, hK⟩ := hd
  have hjm : j < nM ∧ mS j = true := by
    cases nb with
    | false => exact ⟨(T_S hM).1, (T_S hM).2.1⟩
    | true => exact ⟨(T_SN hM).1, (T_SN hM).2.1⟩
  obtain ⟨hcode, hini, hy, hpar, hmL, hpl, hoY, hlenL, -⟩ := T_j hjm.1
  rw [hjm.2] at hlenL
  intro p l e R s m args below meth c Q D cA b0 bS LS z0 y0 xs ok hr H locs cells slots ls hat hL
  intro T0 hT X
  have hsz := en_size ok hat hT X
  have hts := ok.2.2.2.2.1
  have hfr := ok.2.2.2.2.2.2.2.2.1
  have hb := ok.2.2.2.2.2.2.2.2.2.2.1
  have hbud := ok.2.2.2.2.2.2.2.2.2.2.2
  have a1 := hat.2.2.1
  have hmet := en_met (l := l) (D := D) (cA := cA) (b0 := b0) (bS := bS) (LS := LS) (xs := xs) kk hpl hcat (by rw [hlen]; exact hlenL) hat.2.2.2.2.1 hat.2.2.2.2.2 hb.1 h1 h3 hoY
  have hG := en_good j hcode
  have hR : (en_room j nc' ns' M).frames + 1 ≤ R.frames ∧ 8 + (mL j + 11) + (en_room j nc' ns' M).locals ≤ R.locals := by
    show mK j + 1 ≤ R.frames ∧ 8 + (mL j + 11) + mQ j ≤ R.locals
    omega
  have hpv : PreS s H (en_Pc D cA b0 bS LS xs as M) (as.map (en_v b0 bS)) := ⟨en_Pc_blind, en_pre ok hat hsz as⟩
  have hrun : va_Run p l e R s m args below meth c H locs cells slots (nc' - M.1.length) (ns' - en_sl M) (F0 m pc ls ((as.reverse ++ rest).map (en_v b0 bS))) (rest.map (en_v b0 bS)) (en_Qc D cA b0 bS LS nc' ns' xs (fun r M' => en_Go nc ns i (pc + 3) L (r.toList ++ rest) M' P) (as.map (en_v b0 bS)).toArray) (fun q => b0 ≤ q) := by
    have hstk : (as.reverse ++ rest).map (en_v b0 bS) = (as.map (en_v b0 bS)).reverse ++ rest.map (en_v b0 bS) := by
      rw [List.map_append, List.map_reverse]
    rw [hstk]
    cases nb with
    | false =>
      obtain ⟨-, -, g1, g2⟩ := T_S hM
      exact va_runS (nL := mL i) ⟨ok.1, ok.2.1, ok.2.2.1, ok.2.2.2.1, hts⟩ hmet ⟨callB_of (mN j) hts hG rfl rfl rfl (hts _ hini) (hts _ g1) ⟨hy.1, hy.2, hpar⟩ hR, hts _ g2⟩ hpv rfl (by rw [List.length_map]; exact hlen) hL.2.1 rfl (lv_room (en_cat hrest)) hd ⟨by omega, by omega⟩
    | true =>
      obtain ⟨-, -, host, g1, g2⟩ := T_SN hM
      exact va_runSN (nL := mL i) ⟨ok.1, ok.2.1, ok.2.2.1, ok.2.2.2.1, hts⟩ hmet ⟨va_cnB (mN j) hts hG rfl rfl rfl (ok.2.2.2.2.2.1.2.1 _ g1) (hts _ hini) ⟨hy.1, hy.2, hpar⟩ hR, hts _ g2, trivial⟩ hpv rfl (by rw [List.length_map]; exact hlen) hL.2.1 rfl (lv_room (en_cat hrest)) hd ⟨by omega, by omega⟩
  refine en_after hrun hat h1 h2 h3 h4 (fun r M' H1 locs1 cells1 slots1 hP hat1 => ?_) T0 hT X
  have := hP p l e R s m args below meth c Q D cA b0 bS LS z0 y0 xs ok hr H1 locs1 cells1 slots1 ls hat1 hL
  rw [List.map_append] at this
  exact this
theorem en_invI {a : Nat} (hd : en_dI i pc j nb pc') (ha : 0 < a) (hcat : ∀ v ∈ as, v.category = 1) (hlen : as.length = mN j) (hrest : (rest.map fun v => v.category).sum ≤ 8) (h1 : M.1.length ≤ nc') (h2 : nc' ≤ nc) (h3 : en_sl M ≤ ns') (h4 : ns' ≤ ns)
    (kk : en_Go nc' ns' j 0 (en_in j (.ref a :: as)) [] M (fun r M' => r = none ∧ en_Go nc ns i pc' L rest M' P)) : en_Go nc ns i pc L (as.reverse ++ .ref a :: rest) M P := by
  obtain ⟨a', rfl⟩ : ∃ a', a = a' + 1 := ⟨a - 1, by omega⟩
  obtain ⟨idx, hd, hM, rfl, hK⟩ := hd
  have hjm : j < nM ∧ mS j = false := by
    cases nb with
    | false => exact ⟨(T_I2 hM).1, (T_I2 hM).2.1⟩
    | true => exact ⟨(T_IN hM).1, (T_IN hM).2.1⟩
  obtain ⟨hcode, hini, hy, hpar, hmL, hpl, hoY, hlenL, -⟩ := T_j hjm.1
  rw [hjm.2] at hlenL
  intro p l e R s m args below meth c Q D cA b0 bS LS z0 y0 xs ok hr H locs cells slots ls hat hL
  intro T0 hT X
  have hsz := en_size ok hat hT X
  have hts := ok.2.2.2.2.1
  have hfr := ok.2.2.2.2.2.2.2.2.1
  have hb := ok.2.2.2.2.2.2.2.2.2.2.1
  have hbud := ok.2.2.2.2.2.2.2.2.2.2.2
  have a1 := hat.2.2.1
  have hmet := en_met (l := l) (D := D) (cA := cA) (b0 := b0) (bS := bS) (LS := LS) (xs := xs) kk hpl (fun v hv => by rcases List.mem_cons.mp hv with rfl | hv; rfl; exact hcat v hv) (by rw [List.length_cons, hlen]; exact hlenL) hat.2.2.2.2.1 hat.2.2.2.2.2 hb.1 h1 h3 hoY
  have hG := en_good j hcode
  have hR : (en_room j nc' ns' M).frames + 1 ≤ R.frames ∧ 8 + (mL j + 11) + (en_room j nc' ns' M).locals ≤ R.locals := by
    show mK j + 1 ≤ R.frames ∧ 8 + (mL j + 11) + mQ j ≤ R.locals
    omega
  have hpv : PreS s H (en_Pc D cA b0 bS LS xs (.ref (a' + 1) :: as) M) (.ref (b0 + a') :: as.map (en_v b0 bS)) := ⟨en_Pc_blind, en_pre ok hat hsz (.ref (a' + 1) :: as)⟩
  have hrun : va_Run p l e R s m args below meth c H locs cells slots (nc' - M.1.length) (ns' - en_sl M) (F0 m pc ls ((as.reverse ++ .ref (a' + 1) :: rest).map (en_v b0 bS))) (rest.map (en_v b0 bS)) (en_Qc D cA b0 bS LS nc' ns' xs (fun r M' => r = none ∧ en_Go nc ns i (pc + 3) L rest M' P) (Value.ref (b0 + a') :: as.map (en_v b0 bS)).toArray) (fun q => b0 ≤ q) := by
    have hstk : (as.reverse ++ .ref (a' + 1) :: rest).map (en_v b0 bS) = (as.map (en_v b0 bS)).reverse ++ .ref (b0 + a') :: rest.map (en_v b0 bS) := by
      rw [List.map_append, List.map_reverse, List.map_cons]
      rfl
    rw [hstk]
    cases nb with
    | false =>
      obtain ⟨-, -, g1, g2, g3, g4⟩ := T_I2 hM
      rw [g4] at hmet hG
      exact va_runI (nL := mL i) ⟨ok.1, ok.2.1, ok.2.2.1, ok.2.2.2.1, hts⟩ hmet ⟨callB_of (mN j) hts hG rfl rfl rfl (hts _ hini) (hts _ g1) ⟨hy.1, hy.2, hpar⟩ hR, g3, hts _ g2⟩ hpv rfl (by rw [List.length_map]; exact hlen) hL.2.1 rfl (lv_room (en_cat hrest)) hd ⟨by omega, by omega⟩
    | true =>
      obtain ⟨-, -, host, g1, g2, g3, g4⟩ := T_IN hM
      rw [g4] at hmet hG
      exact va_runIN (nL := mL i) ⟨ok.1, ok.2.1, ok.2.2.1, ok.2.2.2.1, hts⟩ hmet ⟨va_cnB (mN j) hts hG rfl rfl rfl (ok.2.2.2.2.2.1.2.1 _ g1) (hts _ hini) ⟨hy.1, hy.2, hpar⟩ hR, g3, hts _ g2⟩ hpv rfl (by rw [List.length_map]; exact hlen) hL.2.1 rfl (lv_room (en_cat hrest)) hd ⟨by omega, by omega⟩
  refine en_after hrun hat h1 h2 h3 h4 (fun r M' H1 locs1 cells1 slots1 hP hat1 => ?_) T0 hT X
  obtain ⟨rfl, hP⟩ := hP
  exact hP p l e R s m args below meth c Q D cA b0 bS LS z0 y0 xs ok hr H1 locs1 cells1 slots1 ls hat1 hL
/-! the JDK's own -/
theorem en_obj {a : Nat} (hd : en_dn i pc 6 pc') (ha : 0 < a) (hrest : (rest.map fun v => v.category).sum ≤ 8) (kk : en_Go nc ns i pc' L rest M P) : en_Go nc ns i pc L (.ref a :: rest) M P := by
  obtain ⟨a', rfl⟩ : ∃ a', a = a' + 1 := ⟨a - 1, by omega⟩
  obtain ⟨idx, hd, hM, rfl, hK⟩ := hd
  rw [if_pos rfl] at hd
  obtain ⟨g1, g2, g3⟩ := T_N6 hM
  intro p l e R s m args below meth c Q D cA b0 bS LS z0 y0 xs ok hr H locs cells slots ls hat hL
  have hts := ok.2.2.2.2.1
  have hfr := ok.2.2.2.2.2.2.2.2.1
  have hcat := en_cat (b0 := b0) (bS := bS) hrest
  have hroom := lv_room (m := m) (pc := pc) (ls := ls) (rest := (.ref (b0 + a') :: rest.map (en_v b0 bS))) hcat
  exact W.objInit (g := F0 m pc ls (.ref (b0 + a') :: rest.map (en_v b0 bS))) ok.1 ok.2.1 ok.2.2.2.1 (hts _ g1) (hts _ g2) (hts _ g3) rfl (by rw [ok.2.2.1]; exact hL.2.1) rfl hd (by omega) (by omega) (kk p l e R s m args below meth c Q D cA b0 bS LS z0 y0 xs ok hr H locs cells slots ls hat hL)
theorem en_max {x y : Int32} (hd : en_dn i pc 7 pc') (hrest : (rest.map fun v => v.category).sum ≤ 8) (kk : en_Go nc ns i pc' L (.int (if x < y then y else x) :: rest) M P) : en_Go nc ns i pc L (.int y :: .int x :: rest) M P := by
  obtain ⟨idx, hd, hM, rfl, hK⟩ := hd
  rw [if_neg (by decide)] at hd
  obtain ⟨g1, g2, g3, g4⟩ := T_N7 hM
  intro p l e R s m args below meth c Q D cA b0 bS LS z0 y0 xs ok hr H locs cells slots ls hat hL
  have hts := ok.2.2.2.2.1
  have hfr := ok.2.2.2.2.2.2.2.2.1
  have hcat := en_cat (b0 := b0) (bS := bS) hrest
  have a1 := hat.2.2.1
  have a2 := hat.2.2.2.1
  have hbud := ok.2.2.2.2.2.2.2.2.2.2.2
  exact va_mmax ok.1 ok.2.1 (by rw [ok.2.2.1]; exact hL.2.1.symm) ok.2.2.2.1 (hts _ g1) (hts _ g2) (hts _ g3) (hts _ g4) (by omega) (by omega) (by omega) (by omega) hd (kk p l e R s m args below meth c Q D cA b0 bS LS z0 y0 xs ok hr H locs cells slots ls hat hL)
theorem en_min {x y : Int32} (hd : en_dn i pc 8 pc') (hrest : (rest.map fun v => v.category).sum ≤ 8) (kk : en_Go nc ns i pc' L (.int (if y < x then y else x) :: rest) M P) : en_Go nc ns i pc L (.int y :: .int x :: rest) M P := by
  obtain ⟨idx, hd, hM, rfl, hK⟩ := hd
  rw [if_neg (by decide)] at hd
  obtain ⟨g1, g2, g3, g4⟩ := T_N8 hM
  intro p l e R s m args below meth c Q D cA b0 bS LS z0 y0 xs ok hr H locs cells slots ls hat hL
  have hts := ok.2.2.2.2.1
  have hfr := ok.2.2.2.2.2.2.2.2.1
  have hcat := en_cat (b0 := b0) (bS := bS) hrest
  have a1 := hat.2.2.1
  have a2 := hat.2.2.2.1
  have hbud := ok.2.2.2.2.2.2.2.2.2.2.2
  exact va_mmin ok.1 ok.2.1 (by rw [ok.2.2.1]; exact hL.2.1.symm) ok.2.2.2.1 (hts _ g1) (hts _ g2) (hts _ g3) (hts _ g4) (by omega) (by omega) (by omega) (by omega) hd (kk p l e R s m args below meth c Q D cA b0 bS LS z0 y0 xs ok hr H locs cells slots ls hat hL)
theorem en_copy {a a1 n0 n1 : Nat} {sp dp x : Int32} (hd : en_dn i pc 9 pc') (hrest : (rest.map fun v => v.category).sum ≤ 8) (hs0 : M.1[a]? = some (100, n0)) (hs1 : M.1[a1]? = some (100, n1)) (q1 : ¬ sp < 0) (q2 : ¬ dp < 0) (q3 : ¬ x < 0) (q4 : sp.toNatClampNeg + x.toNatClampNeg ≤ n0) (q5 : dp.toNatClampNeg + x.toNatClampNeg ≤ n1)
    (kk : en_Go nc ns i pc' L rest (M.1, en_ur M.2.1 a1 (va_cpy (M.2.1 a) (M.2.1 a1) sp.toNatClampNeg dp.toNatClampNeg x.toNatClampNeg), M.2.2) P) : en_Go nc ns i pc L (.int x :: .int dp :: .ref a1 :: .int sp :: .ref a :: rest) M P := by
  obtain ⟨idx, hd, hM, rfl, hK⟩ := hd
  rw [if_neg (by decide)] at hd
  obtain ⟨g1, g2, g3, g4⟩ := T_N9 hM
  intro p l e R s m args below meth c Q D cA b0 bS LS z0 y0 xs ok hr H locs cells slots ls hat hL
  have hts := ok.2.2.2.2.1
  have hfr := ok.2.2.2.2.2.2.2.2.1
  have hcat := en_cat (b0 := b0) (bS := bS) hrest
  obtain ⟨a', rfl⟩ := en_pos hat hs0 (by show (100 : Nat) ≠ 99; decide)
  obtain ⟨a1', rfl⟩ := en_pos hat hs1 (by show (100 : Nat) ≠ 99; decide)
  have he0 : (en_w b0 bS cA M)[a']? = some (b0 + a', .inl (cA 0, n0, .inl (M.2.1 (a' + 1)))) := by
    rw [en_w_at hs0]
    simp [en_e]
  have he1 : (en_w b0 bS cA M)[a1']? = some (b0 + a1', .inl (cA 0, n1, .inl (M.2.1 (a1' + 1)))) := by
    rw [en_w_at hs1]
    simp [en_e]
  have hnf : nativeFrameWords "java/lang/System" "arraycopy" 5 ≤ 7 := by decide
  exact va_copyi ok.1 ok.2.1 (by rw [ok.2.2.1]; exact hL.2.1.symm) ok.2.2.2.1 (hts _ g1) (hts _ g2) (hts _ g3) (hts _ g4) ok.2.2.2.2.2.2.1 hat.1 en_w_D hat.2.1 a' a1' 0 0 he0 he1 (en_ty_at T_A0) (en_ty_at T_A0) rfl q1 q2 q3 q4 q5 (fun _ _ => rfl) (by omega) (by omega) hd
    (fun H1 locs1 hP _ hS => kk p l e R s m args below meth c Q D cA b0 bS LS z0 y0 xs ok hr H1 locs1 cells slots ls
      (en_at_set (M' := (M.1, en_ur M.2.1 (a1' + 1) (va_cpy (M.2.1 (a' + 1)) (M.2.1 (a1' + 1)) sp.toNatClampNeg dp.toNatClampNeg x.toNatClampNeg), M.2.2)) hat hs1 rfl (fun b hb => en_ur_off hb) (fun b hb => rfl) (by simp [en_e, en_ur_row]) hP hS) hL)
end ENV
end
section
/-! THE SHAPE of the memory behind both constructors: cell 0 is the script, 1 the ledger, 371 the reference. (kind, slots): kinds are the classes' numbers, 100 ints, 101 booleans, 102 .. arrays of references -/
def shPr : List (Nat × Nat) := [(1, 6), (100, 12), (100, 12), (100, 9)]
def shTx : List (Nat × Nat) := [(4, 5), (3, 2), (100, 80)]
def shBl : List (Nat × Nat) := [(5, 3), (100, 4)]
def shOr : List (Nat × Nat) := [(7, 3), (6, 2), (100, 40)]
def shPe : List (Nat × Nat) := [(9, 5), (8, 3), (100, 16), (100, 16), (8, 3), (100, 16), (100, 16), (100, 160)]
def shL0 : List (Nat × Nat) := [(0, 12), (102, 4), (103, 60), (100, 20), (104, 60), (105, 3), (6, 2), (100, 40), (106, 4), (2, 5), (100, 8), (3, 2), (100, 80)]
def shMo : List (Nat × Nat) := [(10, 45), (100, 4), (100, 48), (100, 48), (100, 4), (100, 36), (100, 36), (100, 144), (100, 36), (100, 4), (100, 61), (100, 61), (100, 61), (101, 61), (100, 976), (100, 976), (100, 976), (100, 61), (100, 122), (100, 122), (100, 1952), (100, 8), (100, 20), (100, 240), (100, 60), (100, 60), (101, 3), (100, 3), (100, 120), (100, 3), (100, 40), (101, 4), (100, 4), (100, 4), (100, 16), (100, 16), (100, 4), (101, 60), (101, 9)]
def shRep (n : Nat) (l : List (Nat × Nat)) : List (Nat × Nat) := (List.replicate n l).flatten
def SHt : List (Nat × Nat) := shL0 ++ (shRep 4 shPr ++ (shRep 60 shTx ++ (shRep 60 shBl ++ (shRep 3 shOr ++ (shRep 4 shPe ++ shMo)))))
def SH (LS : Nat) : List (Nat × Nat) := (99, LS) :: SHt
theorem SH_at {LS a : Nat} {q : Nat × Nat} (h : SHt[a]? = some q) : (SH LS)[a + 1]? = some q := h
end
section
/-! THE SAME RULES where the shape SH and the references rm stand still: only the ints im change -/
def Gm (LS : Nat) (rm : Nat → Nat → Option Nat) (i pc : Nat) (L st : List Value) (im : Nat → Nat → Int32) (P : Option Value → (Nat → Nat → Int32) → Prop) : Prop :=
  en_Go (SH LS).length ((SH LS).map Prod.snd).sum i pc L st (SH LS, im, rm) (fun r M' => ∃ im', M' = (SH LS, im', rm) ∧ P r im')
section GM
variable {LS : Nat} {rm : Nat → Nat → Option Nat} {i j pc pc' tgt : Nat} {L L' st rest : List Value} {im : Nat → Nat → Int32} {P : Option Value → (Nat → Nat → Int32) → Prop} {a ci k n : Nat} {nb : Bool}
theorem g_iconst {n : Int} {v : Int32} (hd : en_d i pc (.iconst n) 1 pc') (hv : Int32.ofInt n = v) (kk : Gm LS rm i pc' L (.int v :: st) im P) : Gm LS rm i pc L st im P := en_iconst hd hv kk
theorem g_bipush {n : Int} {v : Int32} (hd : en_d i pc (.bipush n) 2 pc') (hv : (Int8.ofInt n).toInt32 = v) (kk : Gm LS rm i pc' L (.int v :: st) im P) : Gm LS rm i pc L st im P := en_bipush hd hv kk
theorem g_sipush {n : Int} {v : Int32} (hd : en_d i pc (.sipush n) 3 pc') (hv : (Int16.ofInt n).toInt32 = v) (kk : Gm LS rm i pc' L (.int v :: st) im P) : Gm LS rm i pc L st im P := en_sipush hd hv kk
theorem g_iload_n {j : Fin 4} {x : Int32} (hd : en_d i pc (.iload_n j) 1 pc') (hl : L[j.val]? = some (.int x)) (kk : Gm LS rm i pc' L (.int x :: st) im P) : Gm LS rm i pc L st im P := en_iload_n hd hl kk
theorem g_iload {j : Nat} {x : Int32} (hd : en_d i pc (.iload j) 2 pc') (hl : L[j]? = some (.int x)) (kk : Gm LS rm i pc' L (.int x :: st) im P) : Gm LS rm i pc L st im P := en_iload hd hl kk
theorem g_aload_n {j : Fin 4} {x : Nat} (hd : en_d i pc (.aload_n j) 1 pc') (hl : L[j.val]? = some (.ref x)) (kk : Gm LS rm i pc' L (.ref x :: st) im P) : Gm LS rm i pc L st im P := en_aload_n hd hl kk
theorem g_aload {j x : Nat} (hd : en_d i pc (.aload j) 2 pc') (hl : L[j]? = some (.ref x)) (kk : Gm LS rm i pc' L (.ref x :: st) im P) : Gm LS rm i pc L st im P := en_aload hd hl kk
theorem g_istore_n {j : Fin 4} {x : Int32} (hd : en_d i pc (.istore_n j) 1 pc') (hn : j.val < mL i) (hl : L.set j.val (.int x) = L') (kk : Gm LS rm i pc' L' st im P) : Gm LS rm i pc L (.int x :: st) im P := en_istore_n hd hn hl kk
theorem g_istore {j : Nat} {x : Int32} (hd : en_d i pc (.istore j) 2 pc') (hn : j < mL i) (hl : L.set j (.int x) = L') (kk : Gm LS rm i pc' L' st im P) : Gm LS rm i pc L (.int x :: st) im P := en_istore hd hn hl kk
theorem g_astore_n {j : Fin 4} {x : Nat} (hd : en_d i pc (.astore_n j) 1 pc') (hn : j.val < mL i) (hl : L.set j.val (.ref x) = L') (kk : Gm LS rm i pc' L' st im P) : Gm LS rm i pc L (.ref x :: st) im P := en_astore_n hd hn hl kk
theorem g_astore {j x : Nat} (hd : en_d i pc (.astore j) 2 pc') (hn : j < mL i) (hl : L.set j (.ref x) = L') (kk : Gm LS rm i pc' L' st im P) : Gm LS rm i pc L (.ref x :: st) im P := en_astore hd hn hl kk
theorem g_iinc {j : Nat} {n : Int} {x : Int32} (hd : en_d i pc (.iinc j n) 3 pc') (hg : L[j]? = some (.int x)) (hn : j < mL i) (hl : L.set j (.int (x + Int32.ofInt n)) = L') (kk : Gm LS rm i pc' L' st im P) : Gm LS rm i pc L st im P := en_iinc hd hg hn hl kk
theorem g_iadd {x y : Int32} (hd : en_d i pc .iadd 1 pc') (kk : Gm LS rm i pc' L (.int (x + y) :: st) im P) : Gm LS rm i pc L (.int y :: .int x :: st) im P := en_iadd hd kk
theorem g_isub {x y : Int32} (hd : en_d i pc .isub 1 pc') (kk : Gm LS rm i pc' L (.int (x - y) :: st) im P) : Gm LS rm i pc L (.int y :: .int x :: st) im P := en_isub hd kk
theorem g_imul {x y : Int32} (hd : en_d i pc .imul 1 pc') (kk : Gm LS rm i pc' L (.int (x * y) :: st) im P) : Gm LS rm i pc L (.int y :: .int x :: st) im P := en_imul hd kk
theorem g_iand {x y : Int32} (hd : en_d i pc .iand 1 pc') (kk : Gm LS rm i pc' L (.int (x &&& y) :: st) im P) : Gm LS rm i pc L (.int y :: .int x :: st) im P := en_iand hd kk
theorem g_ior {x y : Int32} (hd : en_d i pc .ior 1 pc') (kk : Gm LS rm i pc' L (.int (x ||| y) :: st) im P) : Gm LS rm i pc L (.int y :: .int x :: st) im P := en_ior hd kk
theorem g_ixor {x y : Int32} (hd : en_d i pc .ixor 1 pc') (kk : Gm LS rm i pc' L (.int (x ^^^ y) :: st) im P) : Gm LS rm i pc L (.int y :: .int x :: st) im P := en_ixor hd kk
theorem g_ishl {x y : Int32} (hd : en_d i pc .ishl 1 pc') (kk : Gm LS rm i pc' L (.int (x <<< (y &&& 31)) :: st) im P) : Gm LS rm i pc L (.int y :: .int x :: st) im P := en_ishl hd kk
theorem g_ishr {x y : Int32} (hd : en_d i pc .ishr 1 pc') (kk : Gm LS rm i pc' L (.int (x >>> (y &&& 31)) :: st) im P) : Gm LS rm i pc L (.int y :: .int x :: st) im P := en_ishr hd kk
theorem g_iushr {x y : Int32} (hd : en_d i pc .iushr 1 pc') (kk : Gm LS rm i pc' L (.int ((x.toUInt32 >>> (y.toUInt32 &&& Int32.toUInt32 31)).toInt32) :: st) im P) : Gm LS rm i pc L (.int y :: .int x :: st) im P := en_iushr hd kk
theorem g_idiv {x y : Int32} (hd : en_d i pc .idiv 1 pc') (hne : ¬ y = 0) (kk : Gm LS rm i pc' L (.int (x / y) :: st) im P) : Gm LS rm i pc L (.int y :: .int x :: st) im P := en_idiv hd hne kk
theorem g_irem {x y : Int32} (hd : en_d i pc .irem 1 pc') (hne : ¬ y = 0) (kk : Gm LS rm i pc' L (.int (x - x / y * y) :: st) im P) : Gm LS rm i pc L (.int y :: .int x :: st) im P := en_irem hd hne kk
theorem g_ineg {x : Int32} (hd : en_d i pc .ineg 1 pc') (kk : Gm LS rm i pc' L (.int (-x) :: st) im P) : Gm LS rm i pc L (.int x :: st) im P := en_ineg hd kk
theorem g_dup {v : Value} (hd : en_d i pc .dup 1 pc') (hc : v.category = 1) (kk : Gm LS rm i pc' L (v :: v :: st) im P) : Gm LS rm i pc L (v :: st) im P := en_dup hd hc kk
theorem g_pop {v : Value} (hd : en_d i pc .pop 1 pc') (hc : v.category = 1) (kk : Gm LS rm i pc' L st im P) : Gm LS rm i pc L (v :: st) im P := en_pop hd hc kk
theorem g_dup_x1 {v w : Value} (hd : en_d i pc .dup_x1 1 pc') (hc : v.category = 1) (hw : w.category = 1) (kk : Gm LS rm i pc' L (v :: w :: v :: st) im P) : Gm LS rm i pc L (v :: w :: st) im P := en_dup_x1 hd hc hw kk
theorem g_dup_x2 {v w u : Value} (hd : en_d i pc .dup_x2 1 pc') (hc : v.category = 1) (hw : w.category = 1) (hu : u.category = 1) (kk : Gm LS rm i pc' L (v :: w :: u :: v :: st) im P) : Gm LS rm i pc L (v :: w :: u :: st) im P := en_dup_x2 hd hc hw hu kk
theorem g_dup2 {v w : Value} (hd : en_d i pc .dup2 1 pc') (hc : v.category = 1) (hw : w.category = 1) (kk : Gm LS rm i pc' L (v :: w :: v :: w :: st) im P) : Gm LS rm i pc L (v :: w :: st) im P := en_dup2 hd hc hw kk
theorem g_goto (hd : en_j i pc .goto pc' tgt) (kk : Gm LS rm i tgt L st im P) : Gm LS rm i pc L st im P := en_goto hd kk
theorem g_if_eq {x : Int32} (hd : en_j i pc (.ifCond .eq) pc' tgt) (kt : x = 0 → Gm LS rm i tgt L st im P) (kf : ¬ x = 0 → Gm LS rm i pc' L st im P) : Gm LS rm i pc L (.int x :: st) im P := en_if_eq hd kt kf
theorem g_if_ne {x : Int32} (hd : en_j i pc (.ifCond .ne) pc' tgt) (kt : ¬ x = 0 → Gm LS rm i tgt L st im P) (kf : x = 0 → Gm LS rm i pc' L st im P) : Gm LS rm i pc L (.int x :: st) im P := en_if_ne hd kt kf
theorem g_if_lt {x : Int32} (hd : en_j i pc (.ifCond .lt) pc' tgt) (kt : x < 0 → Gm LS rm i tgt L st im P) (kf : ¬ x < 0 → Gm LS rm i pc' L st im P) : Gm LS rm i pc L (.int x :: st) im P := en_if_lt hd kt kf
theorem g_if_ge {x : Int32} (hd : en_j i pc (.ifCond .ge) pc' tgt) (kt : 0 ≤ x → Gm LS rm i tgt L st im P) (kf : ¬ 0 ≤ x → Gm LS rm i pc' L st im P) : Gm LS rm i pc L (.int x :: st) im P := en_if_ge hd kt kf
theorem g_if_gt {x : Int32} (hd : en_j i pc (.ifCond .gt) pc' tgt) (kt : 0 < x → Gm LS rm i tgt L st im P) (kf : ¬ 0 < x → Gm LS rm i pc' L st im P) : Gm LS rm i pc L (.int x :: st) im P := en_if_gt hd kt kf
theorem g_if_le {x : Int32} (hd : en_j i pc (.ifCond .le) pc' tgt) (kt : x ≤ 0 → Gm LS rm i tgt L st im P) (kf : ¬ x ≤ 0 → Gm LS rm i pc' L st im P) : Gm LS rm i pc L (.int x :: st) im P := en_if_le hd kt kf
theorem g_icmp_eq {x y : Int32} (hd : en_j i pc (.if_icmp .eq) pc' tgt) (kt : x = y → Gm LS rm i tgt L st im P) (kf : ¬ x = y → Gm LS rm i pc' L st im P) : Gm LS rm i pc L (.int y :: .int x :: st) im P := en_icmp_eq hd kt kf
theorem g_icmp_ne {x y : Int32} (hd : en_j i pc (.if_icmp .ne) pc' tgt) (kt : ¬ x = y → Gm LS rm i tgt L st im P) (kf : x = y → Gm LS rm i pc' L st im P) : Gm LS rm i pc L (.int y :: .int x :: st) im P := en_icmp_ne hd kt kf
theorem g_icmp_lt {x y : Int32} (hd : en_j i pc (.if_icmp .lt) pc' tgt) (kt : x < y → Gm LS rm i tgt L st im P) (kf : ¬ x < y → Gm LS rm i pc' L st im P) : Gm LS rm i pc L (.int y :: .int x :: st) im P := en_icmp_lt hd kt kf
theorem g_icmp_ge {x y : Int32} (hd : en_j i pc (.if_icmp .ge) pc' tgt) (kt : y ≤ x → Gm LS rm i tgt L st im P) (kf : ¬ y ≤ x → Gm LS rm i pc' L st im P) : Gm LS rm i pc L (.int y :: .int x :: st) im P := en_icmp_ge hd kt kf
theorem g_icmp_gt {x y : Int32} (hd : en_j i pc (.if_icmp .gt) pc' tgt) (kt : y < x → Gm LS rm i tgt L st im P) (kf : ¬ y < x → Gm LS rm i pc' L st im P) : Gm LS rm i pc L (.int y :: .int x :: st) im P := en_icmp_gt hd kt kf
theorem g_icmp_le {x y : Int32} (hd : en_j i pc (.if_icmp .le) pc' tgt) (kt : x ≤ y → Gm LS rm i tgt L st im P) (kf : ¬ x ≤ y → Gm LS rm i pc' L st im P) : Gm LS rm i pc L (.int y :: .int x :: st) im P := en_icmp_le hd kt kf
theorem g_look {x : Int32} {dflt off : Int} {ps : Array (Int × Int)} {len : Nat} (hd : decode (mB i) pc = .ok (.lookupswitch dflt ps, len)) (hp : (ps.toList.zip (ps.toList.drop 1)).all (fun (a, next) => a.1 < next.1) = true) (ho : Op.lookupswitch.offset ps.toList dflt x.toInt = off) (ht : (pc : Int) + off = (tgt : Int)) (kk : Gm LS rm i tgt L st im P) : Gm LS rm i pc L (.int x :: st) im P := en_look hd hp ho ht kk
theorem g_tabO {x : Int32} {dflt lo hi : Int} {offs : Array Int} {len : Nat} (hd : decode (mB i) pc = .ok (.tableswitch dflt lo hi offs, len)) (h : x.toInt < lo ∨ hi < x.toInt) (ht : (pc : Int) + dflt = (tgt : Int)) (kk : Gm LS rm i tgt L st im P) : Gm LS rm i pc L (.int x :: st) im P := en_tabO hd h ht kk
theorem g_tabI {x : Int32} {dflt lo hi off : Int} {offs : Array Int} {len : Nat} (hd : decode (mB i) pc = .ok (.tableswitch dflt lo hi offs, len)) (h1 : ¬ x.toInt < lo) (h2 : ¬ hi < x.toInt) (ho : offs[(x.toInt - lo).toNat]? = some off) (ht : (pc : Int) + off = (tgt : Int)) (kk : Gm LS rm i tgt L st im P) : Gm LS rm i pc L (.int x :: st) im P := en_tabI hd h1 h2 ho ht kk
theorem g_reti {x : Int32} (hd : en_d i pc .ireturn 1 pc') (hR : mR i = some .int) (hP : P (some (.int x)) im) : Gm LS rm i pc L [.int x] im P := en_reti hd hR rfl rfl ⟨im, rfl, hP⟩
theorem g_retz {x : Int32} (hd : en_d i pc .ireturn 1 pc') (hR : mR i = some .boolean) (hx : x = 0 ∨ x = 1) (hP : P (some (.int x)) im) : Gm LS rm i pc L [.int x] im P := en_retz hd hR rfl rfl hx ⟨im, rfl, hP⟩
theorem g_retv (hd : en_d i pc .return_ 1 pc') (hR : mR i = none) (hP : P none im) : Gm LS rm i pc L [] im P := en_retv hd hR rfl rfl ⟨im, rfl, hP⟩
theorem g_reta {a : Nat} (hd : en_d i pc .areturn 1 pc') (hR : ∃ C, mR i = some (.object C)) (hP : P (some (.ref a)) im) : Gm LS rm i pc L [.ref a] im P := en_reta hd hR rfl rfl ⟨im, rfl, hP⟩
theorem g_mono {P' : Option Value → (Nat → Nat → Int32) → Prop} (h : ∀ r im', P' r im' → P r im') (kk : Gm LS rm i pc L st im P') : Gm LS rm i pc L st im P := en_mono (fun r M' hM => by obtain ⟨im', e, hp⟩ := hM; exact ⟨im', e, h r im' hp⟩) kk
theorem g_geti (hd : en_df i pc ci k nb false pc') (hs : (SH LS)[a]? = some (ci, n)) (hn : k < n) (kk : Gm LS rm i pc' L (.int (im a k) :: st) im P) : Gm LS rm i pc L (.ref a :: st) im P := en_geti (M := (SH LS, im, rm)) hd hs hn kk
theorem g_getr {b : Nat} (hd : en_df i pc ci k nb true pc') (hs : (SH LS)[a]? = some (ci, n)) (hn : k < n) (hb : rm a k = some b) (kk : Gm LS rm i pc' L (.ref b :: st) im P) : Gm LS rm i pc L (.ref a :: st) im P := en_getr (M := (SH LS, im, rm)) hd hs hn hb kk
theorem g_puti {x : Int32} (hd : en_dp i pc ci k nb .int pc') (hini : kI ci k = true → nb = false ∧ (mY i).name = "<init>" ∧ mO i = ci) (hs : (SH LS)[a]? = some (ci, n)) (hn : k < n) (kk : Gm LS rm i pc' L st (en_u2 im a k x) P) : Gm LS rm i pc L (.int x :: .ref a :: st) im P := en_puti (M := (SH LS, im, rm)) hd hini hs hn kk
theorem g_putz {x : Int32} (hd : en_dp i pc ci k nb .boolean pc') (hini : kI ci k = true → nb = false ∧ (mY i).name = "<init>" ∧ mO i = ci) (hs : (SH LS)[a]? = some (ci, n)) (hn : k < n) (hx1 : x = 0 ∨ x = 1) (kk : Gm LS rm i pc' L st (en_u2 im a k x) P) : Gm LS rm i pc L (.int x :: .ref a :: st) im P := en_putz (M := (SH LS, im, rm)) hd hini hs hn hx1 kk
theorem g_iald {x : Int32} (hd : en_d i pc .iaload 1 pc') (hs : (SH LS)[a]? = some (100, n)) (hin : vp_in x n) (kk : Gm LS rm i pc' L (.int (im a x.toNatClampNeg) :: st) im P) : Gm LS rm i pc L (.int x :: .ref a :: st) im P := en_iald (M := (SH LS, im, rm)) hd hs hin kk
theorem g_zald {x : Int32} (hd : en_d i pc .baload 1 pc') (hs : (SH LS)[a]? = some (101, n)) (hin : vp_in x n) (kk : Gm LS rm i pc' L (.int (im a x.toNatClampNeg) :: st) im P) : Gm LS rm i pc L (.int x :: .ref a :: st) im P := en_zald (M := (SH LS, im, rm)) hd hs hin kk
theorem g_aald {x : Int32} {t b : Nat} (hd : en_d i pc .aaload 1 pc') (hs : (SH LS)[a]? = some (100 + (t + 2), n)) (ht : ∃ C, xA[t + 2]? = some (.object C)) (hin : vp_in x n) (hb : rm a x.toNatClampNeg = some b) (kk : Gm LS rm i pc' L (.ref b :: st) im P) : Gm LS rm i pc L (.int x :: .ref a :: st) im P := en_aald (M := (SH LS, im, rm)) hd hs ht hin hb kk
theorem g_iast {x v : Int32} (hd : en_d i pc .iastore 1 pc') (hs : (SH LS)[a]? = some (100, n)) (hin : vp_in x n) (kk : Gm LS rm i pc' L st (en_u2 im a x.toNatClampNeg v) P) : Gm LS rm i pc L (.int v :: .int x :: .ref a :: st) im P := en_iast (M := (SH LS, im, rm)) hd hs hin kk
theorem g_zast {x v : Int32} (hd : en_d i pc .bastore 1 pc') (hs : (SH LS)[a]? = some (101, n)) (hin : vp_in x n) (hv : v = 0 ∨ v = 1) (kk : Gm LS rm i pc' L st (en_u2 im a x.toNatClampNeg v) P) : Gm LS rm i pc L (.int v :: .int x :: .ref a :: st) im P := en_zast (M := (SH LS, im, rm)) hd hs hin hv kk
theorem g_copy {a a1 n0 n1 : Nat} {sp dp x : Int32} (hd : en_dn i pc 9 pc') (hrest : (rest.map fun v => v.category).sum ≤ 8) (hs0 : (SH LS)[a]? = some (100, n0)) (hs1 : (SH LS)[a1]? = some (100, n1)) (q1 : ¬ sp < 0) (q2 : ¬ dp < 0) (q3 : ¬ x < 0) (q4 : sp.toNatClampNeg + x.toNatClampNeg ≤ n0) (q5 : dp.toNatClampNeg + x.toNatClampNeg ≤ n1)
    (kk : Gm LS rm i pc' L rest (en_ur im a1 (va_cpy (im a) (im a1) sp.toNatClampNeg dp.toNatClampNeg x.toNatClampNeg)) P) : Gm LS rm i pc L (.int x :: .int dp :: .ref a1 :: .int sp :: .ref a :: rest) im P := en_copy (M := (SH LS, im, rm)) hd hrest hs0 hs1 q1 q2 q3 q4 q5 kk
theorem g_max {x y : Int32} (hd : en_dn i pc 7 pc') (hrest : (rest.map fun v => v.category).sum ≤ 8) (kk : Gm LS rm i pc' L (.int (if x < y then y else x) :: rest) im P) : Gm LS rm i pc L (.int y :: .int x :: rest) im P := en_max hd hrest kk
theorem g_min {x y : Int32} (hd : en_dn i pc 8 pc') (hrest : (rest.map fun v => v.category).sum ≤ 8) (kk : Gm LS rm i pc' L (.int (if y < x then y else x) :: rest) im P) : Gm LS rm i pc L (.int y :: .int x :: rest) im P := en_min hd hrest kk
theorem g_inv0 (hd : en_dv i pc j nb pc') (hs : (SH LS)[a]? = some (mO j, n))  (hlen : 0 = mN j) (hrest : (rest.map fun v => v.category).sum ≤ 8) (kk : Gm LS rm j 0 (en_in j [.ref a]) [] im (fun r im' => Gm LS rm i pc' L (r.toList ++ rest) im' P)) : Gm LS rm i pc L (.ref a :: rest) im P :=
  en_inv (M := (SH LS, im, rm)) (as := []) (rest := rest) hd hs (fun v hv => by cases hv) hlen hrest (Nat.le_refl _) (Nat.le_refl _) (Nat.le_refl _) (Nat.le_refl _) (en_mono (fun r M' hM => by obtain ⟨im', e, hp⟩ := hM; subst e; exact hp) kk)
theorem g_invS0 (hd : en_dS i pc j nb pc')  (hlen : 0 = mN j) (hrest : (rest.map fun v => v.category).sum ≤ 8) (kk : Gm LS rm j 0 (en_in j []) [] im (fun r im' => Gm LS rm i pc' L (r.toList ++ rest) im' P)) : Gm LS rm i pc L (rest) im P :=
  en_invS (M := (SH LS, im, rm)) (as := []) (rest := rest) hd (fun v hv => by cases hv) hlen hrest (Nat.le_refl _) (Nat.le_refl _) (Nat.le_refl _) (Nat.le_refl _) (en_mono (fun r M' hM => by obtain ⟨im', e, hp⟩ := hM; subst e; exact hp) kk)
theorem g_inv1 {v0 : Value} (hd : en_dv i pc j nb pc') (hs : (SH LS)[a]? = some (mO j, n)) (c0 : v0.category = 1) (hlen : 1 = mN j) (hrest : (rest.map fun v => v.category).sum ≤ 8) (kk : Gm LS rm j 0 (en_in j [.ref a, v0]) [] im (fun r im' => Gm LS rm i pc' L (r.toList ++ rest) im' P)) : Gm LS rm i pc L (v0 :: .ref a :: rest) im P :=
  en_inv (M := (SH LS, im, rm)) (as := [v0]) (rest := rest) hd hs (fun v hv => by simp only [List.mem_cons, List.not_mem_nil, or_false] at hv; rcases hv with rfl <;> assumption) hlen hrest (Nat.le_refl _) (Nat.le_refl _) (Nat.le_refl _) (Nat.le_refl _) (en_mono (fun r M' hM => by obtain ⟨im', e, hp⟩ := hM; subst e; exact hp) kk)
theorem g_invS1 {v0 : Value} (hd : en_dS i pc j nb pc') (c0 : v0.category = 1) (hlen : 1 = mN j) (hrest : (rest.map fun v => v.category).sum ≤ 8) (kk : Gm LS rm j 0 (en_in j [v0]) [] im (fun r im' => Gm LS rm i pc' L (r.toList ++ rest) im' P)) : Gm LS rm i pc L (v0 :: rest) im P :=
  en_invS (M := (SH LS, im, rm)) (as := [v0]) (rest := rest) hd (fun v hv => by simp only [List.mem_cons, List.not_mem_nil, or_false] at hv; rcases hv with rfl <;> assumption) hlen hrest (Nat.le_refl _) (Nat.le_refl _) (Nat.le_refl _) (Nat.le_refl _) (en_mono (fun r M' hM => by obtain ⟨im', e, hp⟩ := hM; subst e; exact hp) kk)
theorem g_inv2 {v0 v1 : Value} (hd : en_dv i pc j nb pc') (hs : (SH LS)[a]? = some (mO j, n)) (c0 : v0.category = 1) (c1 : v1.category = 1) (hlen : 2 = mN j) (hrest : (rest.map fun v => v.category).sum ≤ 8) (kk : Gm LS rm j 0 (en_in j [.ref a, v0, v1]) [] im (fun r im' => Gm LS rm i pc' L (r.toList ++ rest) im' P)) : Gm LS rm i pc L (v1 :: v0 :: .ref a :: rest) im P :=
  en_inv (M := (SH LS, im, rm)) (as := [v0, v1]) (rest := rest) hd hs (fun v hv => by simp only [List.mem_cons, List.not_mem_nil, or_false] at hv; rcases hv with rfl | rfl <;> assumption) hlen hrest (Nat.le_refl _) (Nat.le_refl _) (Nat.le_refl _) (Nat.le_refl _) (en_mono (fun r M' hM => by obtain ⟨im', e, hp⟩ := hM; subst e; exact hp) kk)
theorem g_invS2 {v0 v1 : Value} (hd : en_dS i pc j nb pc') (c0 : v0.category = 1) (c1 : v1.category = 1) (hlen : 2 = mN j) (hrest : (rest.map fun v => v.category).sum ≤ 8) (kk : Gm LS rm j 0 (en_in j [v0, v1]) [] im (fun r im' => Gm LS rm i pc' L (r.toList ++ rest) im' P)) : Gm LS rm i pc L (v1 :: v0 :: rest) im P :=
  en_invS (M := (SH LS, im, rm)) (as := [v0, v1]) (rest := rest) hd (fun v hv => by simp only [List.mem_cons, List.not_mem_nil, or_false] at hv; rcases hv with rfl | rfl <;> assumption) hlen hrest (Nat.le_refl _) (Nat.le_refl _) (Nat.le_refl _) (Nat.le_refl _) (en_mono (fun r M' hM => by obtain ⟨im', e, hp⟩ := hM; subst e; exact hp) kk)
theorem g_inv3 {v0 v1 v2 : Value} (hd : en_dv i pc j nb pc') (hs : (SH LS)[a]? = some (mO j, n)) (c0 : v0.category = 1) (c1 : v1.category = 1) (c2 : v2.category = 1) (hlen : 3 = mN j) (hrest : (rest.map fun v => v.category).sum ≤ 8) (kk : Gm LS rm j 0 (en_in j [.ref a, v0, v1, v2]) [] im (fun r im' => Gm LS rm i pc' L (r.toList ++ rest) im' P)) : Gm LS rm i pc L (v2 :: v1 :: v0 :: .ref a :: rest) im P :=
  en_inv (M := (SH LS, im, rm)) (as := [v0, v1, v2]) (rest := rest) hd hs (fun v hv => by simp only [List.mem_cons, List.not_mem_nil, or_false] at hv; rcases hv with rfl | rfl | rfl <;> assumption) hlen hrest (Nat.le_refl _) (Nat.le_refl _) (Nat.le_refl _) (Nat.le_refl _) (en_mono (fun r M' hM => by obtain ⟨im', e, hp⟩ := hM; subst e; exact hp) kk)
theorem g_invS3 {v0 v1 v2 : Value} (hd : en_dS i pc j nb pc') (c0 : v0.category = 1) (c1 : v1.category = 1) (c2 : v2.category = 1) (hlen : 3 = mN j) (hrest : (rest.map fun v => v.category).sum ≤ 8) (kk : Gm LS rm j 0 (en_in j [v0, v1, v2]) [] im (fun r im' => Gm LS rm i pc' L (r.toList ++ rest) im' P)) : Gm LS rm i pc L (v2 :: v1 :: v0 :: rest) im P :=
  en_invS (M := (SH LS, im, rm)) (as := [v0, v1, v2]) (rest := rest) hd (fun v hv => by simp only [List.mem_cons, List.not_mem_nil, or_false] at hv; rcases hv with rfl | rfl | rfl <;> assumption) hlen hrest (Nat.le_refl _) (Nat.le_refl _) (Nat.le_refl _) (Nat.le_refl _) (en_mono (fun r M' hM => by obtain ⟨im', e, hp⟩ := hM; subst e; exact hp) kk)
theorem g_inv4 {v0 v1 v2 v3 : Value} (hd : en_dv i pc j nb pc') (hs : (SH LS)[a]? = some (mO j, n)) (c0 : v0.category = 1) (c1 : v1.category = 1) (c2 : v2.category = 1) (c3 : v3.category = 1) (hlen : 4 = mN j) (hrest : (rest.map fun v => v.category).sum ≤ 8) (kk : Gm LS rm j 0 (en_in j [.ref a, v0, v1, v2, v3]) [] im (fun r im' => Gm LS rm i pc' L (r.toList ++ rest) im' P)) : Gm LS rm i pc L (v3 :: v2 :: v1 :: v0 :: .ref a :: rest) im P :=
  en_inv (M := (SH LS, im, rm)) (as := [v0, v1, v2, v3]) (rest := rest) hd hs (fun v hv => by simp only [List.mem_cons, List.not_mem_nil, or_false] at hv; rcases hv with rfl | rfl | rfl | rfl <;> assumption) hlen hrest (Nat.le_refl _) (Nat.le_refl _) (Nat.le_refl _) (Nat.le_refl _) (en_mono (fun r M' hM => by obtain ⟨im', e, hp⟩ := hM; subst e; exact hp) kk)
theorem g_invS4 {v0 v1 v2 v3 : Value} (hd : en_dS i pc j nb pc') (c0 : v0.category = 1) (c1 : v1.category = 1) (c2 : v2.category = 1) (c3 : v3.category = 1) (hlen : 4 = mN j) (hrest : (rest.map fun v => v.category).sum ≤ 8) (kk : Gm LS rm j 0 (en_in j [v0, v1, v2, v3]) [] im (fun r im' => Gm LS rm i pc' L (r.toList ++ rest) im' P)) : Gm LS rm i pc L (v3 :: v2 :: v1 :: v0 :: rest) im P :=
  en_invS (M := (SH LS, im, rm)) (as := [v0, v1, v2, v3]) (rest := rest) hd (fun v hv => by simp only [List.mem_cons, List.not_mem_nil, or_false] at hv; rcases hv with rfl | rfl | rfl | rfl <;> assumption) hlen hrest (Nat.le_refl _) (Nat.le_refl _) (Nat.le_refl _) (Nat.le_refl _) (en_mono (fun r M' hM => by obtain ⟨im', e, hp⟩ := hM; subst e; exact hp) kk)
theorem g_inv5 {v0 v1 v2 v3 v4 : Value} (hd : en_dv i pc j nb pc') (hs : (SH LS)[a]? = some (mO j, n)) (c0 : v0.category = 1) (c1 : v1.category = 1) (c2 : v2.category = 1) (c3 : v3.category = 1) (c4 : v4.category = 1) (hlen : 5 = mN j) (hrest : (rest.map fun v => v.category).sum ≤ 8) (kk : Gm LS rm j 0 (en_in j [.ref a, v0, v1, v2, v3, v4]) [] im (fun r im' => Gm LS rm i pc' L (r.toList ++ rest) im' P)) : Gm LS rm i pc L (v4 :: v3 :: v2 :: v1 :: v0 :: .ref a :: rest) im P :=
  en_inv (M := (SH LS, im, rm)) (as := [v0, v1, v2, v3, v4]) (rest := rest) hd hs (fun v hv => by simp only [List.mem_cons, List.not_mem_nil, or_false] at hv; rcases hv with rfl | rfl | rfl | rfl | rfl <;> assumption) hlen hrest (Nat.le_refl _) (Nat.le_refl _) (Nat.le_refl _) (Nat.le_refl _) (en_mono (fun r M' hM => by obtain ⟨im', e, hp⟩ := hM; subst e; exact hp) kk)
theorem g_invS5 {v0 v1 v2 v3 v4 : Value} (hd : en_dS i pc j nb pc') (c0 : v0.category = 1) (c1 : v1.category = 1) (c2 : v2.category = 1) (c3 : v3.category = 1) (c4 : v4.category = 1) (hlen : 5 = mN j) (hrest : (rest.map fun v => v.category).sum ≤ 8) (kk : Gm LS rm j 0 (en_in j [v0, v1, v2, v3, v4]) [] im (fun r im' => Gm LS rm i pc' L (r.toList ++ rest) im' P)) : Gm LS rm i pc L (v4 :: v3 :: v2 :: v1 :: v0 :: rest) im P :=
  en_invS (M := (SH LS, im, rm)) (as := [v0, v1, v2, v3, v4]) (rest := rest) hd (fun v hv => by simp only [List.mem_cons, List.not_mem_nil, or_false] at hv; rcases hv with rfl | rfl | rfl | rfl | rfl <;> assumption) hlen hrest (Nat.le_refl _) (Nat.le_refl _) (Nat.le_refl _) (Nat.le_refl _) (en_mono (fun r M' hM => by obtain ⟨im', e, hp⟩ := hM; subst e; exact hp) kk)
/-! the same with named values: an index is nI q, a value read has a name -/
theorem g_top {x y : Int32} (h : x = y) (kk : Gm LS rm i pc L (.int y :: st) im P) : Gm LS rm i pc L (.int x :: st) im P := h ▸ kk
theorem g_im {im' : Nat → Nat → Int32} (h : im = im') (kk : Gm LS rm i pc L st im' P) : Gm LS rm i pc L st im P := h ▸ kk
theorem g_getv {v : Int32} (hd : en_df i pc ci k nb false pc') (hs : (SH LS)[a]? = some (ci, n)) (hn : k < n) (hv : im a k = v) (kk : Gm LS rm i pc' L (.int v :: st) im P) : Gm LS rm i pc L (.ref a :: st) im P := g_geti hd hs hn (hv ▸ kk)
theorem g_ialv {q : Nat} {v : Int32} (hd : en_d i pc .iaload 1 pc') (hs : (SH LS)[a]? = some (100, n)) (hq : q < n) (hn : n < 2 ^ 31) (hv : im a q = v) (kk : Gm LS rm i pc' L (.int v :: st) im P) : Gm LS rm i pc L (.int (nI q) :: .ref a :: st) im P := by
  refine g_iald hd hs (vp_in_nI hq hn) ?_
  rw [nI_clamp (by omega), hv]
  exact kk
theorem g_zalv {q : Nat} {v : Int32} (hd : en_d i pc .baload 1 pc') (hs : (SH LS)[a]? = some (101, n)) (hq : q < n) (hn : n < 2 ^ 31) (hv : im a q = v) (kk : Gm LS rm i pc' L (.int v :: st) im P) : Gm LS rm i pc L (.int (nI q) :: .ref a :: st) im P := by
  refine g_zald hd hs (vp_in_nI hq hn) ?_
  rw [nI_clamp (by omega), hv]
  exact kk
theorem g_aalv {q t b : Nat} (hd : en_d i pc .aaload 1 pc') (hs : (SH LS)[a]? = some (100 + (t + 2), n)) (ht : ∃ C, xA[t + 2]? = some (.object C)) (hq : q < n) (hn : n < 2 ^ 31) (hb : rm a q = some b) (kk : Gm LS rm i pc' L (.ref b :: st) im P) : Gm LS rm i pc L (.int (nI q) :: .ref a :: st) im P :=
  g_aald hd hs ht (vp_in_nI hq hn) (by rw [nI_clamp (by omega)]; exact hb) kk
theorem g_iasv {q : Nat} {v : Int32} (hd : en_d i pc .iastore 1 pc') (hs : (SH LS)[a]? = some (100, n)) (hq : q < n) (hn : n < 2 ^ 31) (kk : Gm LS rm i pc' L st (en_u2 im a q v) P) : Gm LS rm i pc L (.int v :: .int (nI q) :: .ref a :: st) im P := by
  refine g_iast hd hs (vp_in_nI hq hn) ?_
  rw [nI_clamp (by omega)]
  exact kk
theorem g_zasv {q : Nat} {v : Int32} (hd : en_d i pc .bastore 1 pc') (hs : (SH LS)[a]? = some (101, n)) (hq : q < n) (hn : n < 2 ^ 31) (hv : v = 0 ∨ v = 1) (kk : Gm LS rm i pc' L st (en_u2 im a q v) P) : Gm LS rm i pc L (.int v :: .int (nI q) :: .ref a :: st) im P := by
  refine g_zast hd hs (vp_in_nI hq hn) hv ?_
  rw [nI_clamp (by omega)]
  exact kk
end GM
end
section
/-! 39: EndorsedLedger$Program.<init>()V -/
theorem k39_0 : en_d 39 0 (.aload_n 0) 1 1 := ⟨by decide +kernel, rfl⟩
theorem k39_1 : en_dn 39 1 6 4 := ⟨3, by decide +kernel, by decide +kernel, rfl, by decide +kernel, by decide +kernel⟩
theorem k39_4 : en_d 39 4 (.aload_n 0) 1 5 := ⟨by decide +kernel, rfl⟩
theorem k39_5 : en_d 39 5 (.bipush 12) 2 7 := ⟨by decide +kernel, rfl⟩
theorem k39_7 : en_d 39 7 (.newarray .int) 2 9 := ⟨by decide +kernel, rfl⟩
theorem k39_9 : en_dp 39 9 1 0 false (.array .int) 12 := ⟨9, by decide +kernel, by decide +kernel, by decide +kernel, rfl⟩
theorem k39_12 : en_d 39 12 (.aload_n 0) 1 13 := ⟨by decide +kernel, rfl⟩
theorem k39_13 : en_d 39 13 (.bipush 12) 2 15 := ⟨by decide +kernel, rfl⟩
theorem k39_15 : en_d 39 15 (.newarray .int) 2 17 := ⟨by decide +kernel, rfl⟩
theorem k39_17 : en_dp 39 17 1 1 false (.array .int) 20 := ⟨15, by decide +kernel, by decide +kernel, by decide +kernel, rfl⟩
theorem k39_20 : en_d 39 20 (.aload_n 0) 1 21 := ⟨by decide +kernel, rfl⟩
theorem k39_21 : en_d 39 21 (.iconst 0) 1 22 := ⟨by decide +kernel, rfl⟩
theorem k39_22 : en_dp 39 22 1 2 false .int 25 := ⟨18, by decide +kernel, by decide +kernel, by decide +kernel, rfl⟩
theorem k39_25 : en_d 39 25 (.aload_n 0) 1 26 := ⟨by decide +kernel, rfl⟩
theorem k39_26 : en_d 39 26 (.bipush 9) 2 28 := ⟨by decide +kernel, rfl⟩
theorem k39_28 : en_d 39 28 (.newarray .int) 2 30 := ⟨by decide +kernel, rfl⟩
theorem k39_30 : en_dp 39 30 1 3 false (.array .int) 33 := ⟨22, by decide +kernel, by decide +kernel, by decide +kernel, rfl⟩
theorem k39_33 : en_d 39 33 (.aload_n 0) 1 34 := ⟨by decide +kernel, rfl⟩
theorem k39_34 : en_d 39 34 (.iconst 0) 1 35 := ⟨by decide +kernel, rfl⟩
theorem k39_35 : en_dp 39 35 1 4 false .int 38 := ⟨25, by decide +kernel, by decide +kernel, by decide +kernel, rfl⟩
theorem k39_38 : en_d 39 38 (.aload_n 0) 1 39 := ⟨by decide +kernel, rfl⟩
theorem k39_39 : en_d 39 39 (.iconst 0) 1 40 := ⟨by decide +kernel, rfl⟩
theorem k39_40 : en_dp 39 40 1 5 false .int 43 := ⟨28, by decide +kernel, by decide +kernel, by decide +kernel, rfl⟩
theorem k39_43 : en_d 39 43 .return_ 1 44 := ⟨by decide +kernel, rfl⟩
/-! 40: EndorsedLedger$Program.addInstruction(II)Z -/
theorem k40_0 : en_d 40 0 (.aload_n 0) 1 1 := ⟨by decide +kernel, rfl⟩
theorem k40_1 : en_df 40 1 1 2 false false 4 := ⟨18, by decide +kernel, by decide +kernel, by decide +kernel, rfl⟩
theorem k40_4 : en_d 40 4 (.bipush 12) 2 6 := ⟨by decide +kernel, rfl⟩
theorem k40_6 : en_j 40 6 (.if_icmp .lt) 9 11 := ⟨5, by decide +kernel, by decide, rfl⟩
theorem k40_9 : en_d 40 9 (.iconst 0) 1 10 := ⟨by decide +kernel, rfl⟩
theorem k40_10 : en_d 40 10 .ireturn 1 11 := ⟨by decide +kernel, rfl⟩
theorem k40_11 : en_d 40 11 (.aload_n 0) 1 12 := ⟨by decide +kernel, rfl⟩
theorem k40_12 : en_df 40 12 1 0 false true 15 := ⟨9, by decide +kernel, by decide +kernel, by decide +kernel, rfl⟩
theorem k40_15 : en_d 40 15 (.aload_n 0) 1 16 := ⟨by decide +kernel, rfl⟩
theorem k40_16 : en_df 40 16 1 2 false false 19 := ⟨18, by decide +kernel, by decide +kernel, by decide +kernel, rfl⟩
theorem k40_19 : en_d 40 19 (.iload_n 1) 1 20 := ⟨by decide +kernel, rfl⟩
theorem k40_20 : en_d 40 20 .iastore 1 21 := ⟨by decide +kernel, rfl⟩
theorem k40_21 : en_d 40 21 (.aload_n 0) 1 22 := ⟨by decide +kernel, rfl⟩
theorem k40_22 : en_df 40 22 1 1 false true 25 := ⟨15, by decide +kernel, by decide +kernel, by decide +kernel, rfl⟩
theorem k40_25 : en_d 40 25 (.aload_n 0) 1 26 := ⟨by decide +kernel, rfl⟩
theorem k40_26 : en_df 40 26 1 2 false false 29 := ⟨18, by decide +kernel, by decide +kernel, by decide +kernel, rfl⟩
theorem k40_29 : en_d 40 29 (.iload_n 2) 1 30 := ⟨by decide +kernel, rfl⟩
theorem k40_30 : en_d 40 30 .iastore 1 31 := ⟨by decide +kernel, rfl⟩
theorem k40_31 : en_d 40 31 (.aload_n 0) 1 32 := ⟨by decide +kernel, rfl⟩
theorem k40_32 : en_d 40 32 .dup 1 33 := ⟨by decide +kernel, rfl⟩
theorem k40_33 : en_df 40 33 1 2 false false 36 := ⟨18, by decide +kernel, by decide +kernel, by decide +kernel, rfl⟩
theorem k40_36 : en_d 40 36 (.iconst 1) 1 37 := ⟨by decide +kernel, rfl⟩
theorem k40_37 : en_d 40 37 .iadd 1 38 := ⟨by decide +kernel, rfl⟩
theorem k40_38 : en_dp 40 38 1 2 false .int 41 := ⟨18, by decide +kernel, by decide +kernel, by decide +kernel, rfl⟩
theorem k40_41 : en_d 40 41 (.iconst 1) 1 42 := ⟨by decide +kernel, rfl⟩
theorem k40_42 : en_d 40 42 .ireturn 1 43 := ⟨by decide +kernel, rfl⟩
/-! 41: EndorsedLedger$Program.addLeaf(I)Z -/
theorem k41_0 : en_d 41 0 (.aload_n 0) 1 1 := ⟨by decide +kernel, rfl⟩
theorem k41_1 : en_df 41 1 1 5 false false 4 := ⟨28, by decide +kernel, by decide +kernel, by decide +kernel, rfl⟩
theorem k41_4 : en_d 41 4 (.bipush 9) 2 6 := ⟨by decide +kernel, rfl⟩
theorem k41_6 : en_j 41 6 (.if_icmp .lt) 9 11 := ⟨5, by decide +kernel, by decide, rfl⟩
theorem k41_9 : en_d 41 9 (.iconst 0) 1 10 := ⟨by decide +kernel, rfl⟩
theorem k41_10 : en_d 41 10 .ireturn 1 11 := ⟨by decide +kernel, rfl⟩
theorem k41_11 : en_d 41 11 (.iconst 0) 1 12 := ⟨by decide +kernel, rfl⟩
theorem k41_12 : en_d 41 12 (.istore_n 2) 1 13 := ⟨by decide +kernel, rfl⟩
theorem k41_13 : en_d 41 13 (.iconst 0) 1 14 := ⟨by decide +kernel, rfl⟩
theorem k41_14 : en_d 41 14 (.istore_n 3) 1 15 := ⟨by decide +kernel, rfl⟩
theorem k41_15 : en_d 41 15 (.iload_n 3) 1 16 := ⟨by decide +kernel, rfl⟩
theorem k41_16 : en_d 41 16 (.bipush 16) 2 18 := ⟨by decide +kernel, rfl⟩
theorem k41_18 : en_j 41 18 (.if_icmp .ge) 21 37 := ⟨19, by decide +kernel, by decide, rfl⟩
theorem k41_21 : en_d 41 21 (.iload_n 2) 1 22 := ⟨by decide +kernel, rfl⟩
theorem k41_22 : en_d 41 22 (.iload_n 3) 1 23 := ⟨by decide +kernel, rfl⟩
theorem k41_23 : en_d 41 23 (.iload_n 1) 1 24 := ⟨by decide +kernel, rfl⟩
theorem k41_24 : en_d 41 24 .ishr 1 25 := ⟨by decide +kernel, rfl⟩
theorem k41_25 : en_d 41 25 (.iconst 1) 1 26 := ⟨by decide +kernel, rfl⟩
theorem k41_26 : en_d 41 26 .iand 1 27 := ⟨by decide +kernel, rfl⟩
theorem k41_27 : en_d 41 27 (.iload_n 3) 1 28 := ⟨by decide +kernel, rfl⟩
theorem k41_28 : en_d 41 28 .ishl 1 29 := ⟨by decide +kernel, rfl⟩
theorem k41_29 : en_d 41 29 .ior 1 30 := ⟨by decide +kernel, rfl⟩
theorem k41_30 : en_d 41 30 (.istore_n 2) 1 31 := ⟨by decide +kernel, rfl⟩
theorem k41_31 : en_d 41 31 (.iinc 3 1) 3 34 := ⟨by decide +kernel, rfl⟩
theorem k41_34 : en_j 41 34 .goto 37 15 := ⟨(-19), by decide +kernel, by decide, rfl⟩
theorem k41_37 : en_d 41 37 (.aload_n 0) 1 38 := ⟨by decide +kernel, rfl⟩
theorem k41_38 : en_d 41 38 (.iload_n 2) 1 39 := ⟨by decide +kernel, rfl⟩
theorem k41_39 : en_dv 41 39 44 false 42 := ⟨31, by decide +kernel, by decide +kernel, rfl, by decide +kernel, by decide +kernel⟩
theorem k41_42 : en_d 41 42 (.iconst 1) 1 43 := ⟨by decide +kernel, rfl⟩
theorem k41_43 : en_d 41 43 .ireturn 1 44 := ⟨by decide +kernel, rfl⟩
/-! 42: EndorsedLedger$Program.joinRules(II)Z -/
theorem k42_0 : en_d 42 0 (.aload_n 0) 1 1 := ⟨by decide +kernel, rfl⟩
theorem k42_1 : en_df 42 1 1 5 false false 4 := ⟨28, by decide +kernel, by decide +kernel, by decide +kernel, rfl⟩
theorem k42_4 : en_d 42 4 (.bipush 9) 2 6 := ⟨by decide +kernel, rfl⟩
theorem k42_6 : en_j 42 6 (.if_icmp .ge) 9 17 := ⟨11, by decide +kernel, by decide, rfl⟩
theorem k42_9 : en_d 42 9 (.aload_n 0) 1 10 := ⟨by decide +kernel, rfl⟩
theorem k42_10 : en_df 42 10 1 4 false false 13 := ⟨25, by decide +kernel, by decide +kernel, by decide +kernel, rfl⟩
theorem k42_13 : en_d 42 13 (.iload_n 2) 1 14 := ⟨by decide +kernel, rfl⟩
theorem k42_14 : en_j 42 14 (.if_icmp .ge) 17 19 := ⟨5, by decide +kernel, by decide, rfl⟩
theorem k42_17 : en_d 42 17 (.iconst 0) 1 18 := ⟨by decide +kernel, rfl⟩
theorem k42_18 : en_d 42 18 .ireturn 1 19 := ⟨by decide +kernel, rfl⟩
theorem k42_19 : en_d 42 19 (.iconst 0) 1 20 := ⟨by decide +kernel, rfl⟩
theorem k42_20 : en_d 42 20 (.istore_n 3) 1 21 := ⟨by decide +kernel, rfl⟩
theorem k42_21 : en_d 42 21 (.iconst 0) 1 22 := ⟨by decide +kernel, rfl⟩
theorem k42_22 : en_d 42 22 (.istore 4) 2 24 := ⟨by decide +kernel, rfl⟩
theorem k42_24 : en_d 42 24 (.iload 4) 2 26 := ⟨by decide +kernel, rfl⟩
theorem k42_26 : en_d 42 26 (.bipush 16) 2 28 := ⟨by decide +kernel, rfl⟩
theorem k42_28 : en_j 42 28 (.if_icmp .ge) 31 55 := ⟨27, by decide +kernel, by decide, rfl⟩
theorem k42_31 : en_d 42 31 (.aload_n 0) 1 32 := ⟨by decide +kernel, rfl⟩
theorem k42_32 : en_d 42 32 (.iload_n 2) 1 33 := ⟨by decide +kernel, rfl⟩
theorem k42_33 : en_d 42 33 (.iload 4) 2 35 := ⟨by decide +kernel, rfl⟩
theorem k42_35 : en_dv 42 35 43 false 38 := ⟨35, by decide +kernel, by decide +kernel, rfl, by decide +kernel, by decide +kernel⟩
theorem k42_38 : en_d 42 38 (.iload_n 1) 1 39 := ⟨by decide +kernel, rfl⟩
theorem k42_39 : en_j 42 39 (.if_icmp .lt) 42 49 := ⟨10, by decide +kernel, by decide, rfl⟩
theorem k42_42 : en_d 42 42 (.iload_n 3) 1 43 := ⟨by decide +kernel, rfl⟩
theorem k42_43 : en_d 42 43 (.iconst 1) 1 44 := ⟨by decide +kernel, rfl⟩
theorem k42_44 : en_d 42 44 (.iload 4) 2 46 := ⟨by decide +kernel, rfl⟩
theorem k42_46 : en_d 42 46 .ishl 1 47 := ⟨by decide +kernel, rfl⟩
theorem k42_47 : en_d 42 47 .ior 1 48 := ⟨by decide +kernel, rfl⟩
theorem k42_48 : en_d 42 48 (.istore_n 3) 1 49 := ⟨by decide +kernel, rfl⟩
theorem k42_49 : en_d 42 49 (.iinc 4 1) 3 52 := ⟨by decide +kernel, rfl⟩
theorem k42_52 : en_j 42 52 .goto 55 24 := ⟨(-28), by decide +kernel, by decide, rfl⟩
theorem k42_55 : en_d 42 55 (.aload_n 0) 1 56 := ⟨by decide +kernel, rfl⟩
theorem k42_56 : en_d 42 56 .dup 1 57 := ⟨by decide +kernel, rfl⟩
theorem k42_57 : en_df 42 57 1 4 false false 60 := ⟨25, by decide +kernel, by decide +kernel, by decide +kernel, rfl⟩
theorem k42_60 : en_d 42 60 (.iload_n 2) 1 61 := ⟨by decide +kernel, rfl⟩
theorem k42_61 : en_d 42 61 .isub 1 62 := ⟨by decide +kernel, rfl⟩
theorem k42_62 : en_dp 42 62 1 4 false .int 65 := ⟨25, by decide +kernel, by decide +kernel, by decide +kernel, rfl⟩
theorem k42_65 : en_d 42 65 (.aload_n 0) 1 66 := ⟨by decide +kernel, rfl⟩
theorem k42_66 : en_d 42 66 (.iload_n 3) 1 67 := ⟨by decide +kernel, rfl⟩
theorem k42_67 : en_dv 42 67 44 false 70 := ⟨31, by decide +kernel, by decide +kernel, rfl, by decide +kernel, by decide +kernel⟩
theorem k42_70 : en_d 42 70 (.iconst 1) 1 71 := ⟨by decide +kernel, rfl⟩
theorem k42_71 : en_d 42 71 .ireturn 1 72 := ⟨by decide +kernel, rfl⟩
/-! 43: EndorsedLedger$Program.countMetAmongTop(II)I -/
theorem k43_0 : en_d 43 0 (.iconst 0) 1 1 := ⟨by decide +kernel, rfl⟩
theorem k43_1 : en_d 43 1 (.istore_n 3) 1 2 := ⟨by decide +kernel, rfl⟩
theorem k43_2 : en_d 43 2 (.aload_n 0) 1 3 := ⟨by decide +kernel, rfl⟩
theorem k43_3 : en_df 43 3 1 4 false false 6 := ⟨25, by decide +kernel, by decide +kernel, by decide +kernel, rfl⟩
theorem k43_6 : en_d 43 6 (.iload_n 1) 1 7 := ⟨by decide +kernel, rfl⟩
theorem k43_7 : en_d 43 7 .isub 1 8 := ⟨by decide +kernel, rfl⟩
theorem k43_8 : en_d 43 8 (.istore 4) 2 10 := ⟨by decide +kernel, rfl⟩
theorem k43_10 : en_d 43 10 (.iload 4) 2 12 := ⟨by decide +kernel, rfl⟩
theorem k43_12 : en_d 43 12 (.aload_n 0) 1 13 := ⟨by decide +kernel, rfl⟩
theorem k43_13 : en_df 43 13 1 4 false false 16 := ⟨25, by decide +kernel, by decide +kernel, by decide +kernel, rfl⟩
theorem k43_16 : en_j 43 16 (.if_icmp .ge) 19 39 := ⟨23, by decide +kernel, by decide, rfl⟩
theorem k43_19 : en_d 43 19 (.iload_n 3) 1 20 := ⟨by decide +kernel, rfl⟩
theorem k43_20 : en_d 43 20 (.aload_n 0) 1 21 := ⟨by decide +kernel, rfl⟩
theorem k43_21 : en_df 43 21 1 3 false true 24 := ⟨22, by decide +kernel, by decide +kernel, by decide +kernel, rfl⟩
theorem k43_24 : en_d 43 24 (.iload 4) 2 26 := ⟨by decide +kernel, rfl⟩
theorem k43_26 : en_d 43 26 .iaload 1 27 := ⟨by decide +kernel, rfl⟩
theorem k43_27 : en_d 43 27 (.iload_n 2) 1 28 := ⟨by decide +kernel, rfl⟩
theorem k43_28 : en_d 43 28 .ishr 1 29 := ⟨by decide +kernel, rfl⟩
theorem k43_29 : en_d 43 29 (.iconst 1) 1 30 := ⟨by decide +kernel, rfl⟩
theorem k43_30 : en_d 43 30 .iand 1 31 := ⟨by decide +kernel, rfl⟩
theorem k43_31 : en_d 43 31 .iadd 1 32 := ⟨by decide +kernel, rfl⟩
theorem k43_32 : en_d 43 32 (.istore_n 3) 1 33 := ⟨by decide +kernel, rfl⟩
theorem k43_33 : en_d 43 33 (.iinc 4 1) 3 36 := ⟨by decide +kernel, rfl⟩
theorem k43_36 : en_j 43 36 .goto 39 10 := ⟨(-26), by decide +kernel, by decide, rfl⟩
theorem k43_39 : en_d 43 39 (.iload_n 3) 1 40 := ⟨by decide +kernel, rfl⟩
theorem k43_40 : en_d 43 40 .ireturn 1 41 := ⟨by decide +kernel, rfl⟩
/-! 44: EndorsedLedger$Program.putOnTop(I)V -/
theorem k44_0 : en_d 44 0 (.aload_n 0) 1 1 := ⟨by decide +kernel, rfl⟩
theorem k44_1 : en_df 44 1 1 3 false true 4 := ⟨22, by decide +kernel, by decide +kernel, by decide +kernel, rfl⟩
theorem k44_4 : en_d 44 4 (.aload_n 0) 1 5 := ⟨by decide +kernel, rfl⟩
theorem k44_5 : en_df 44 5 1 4 false false 8 := ⟨25, by decide +kernel, by decide +kernel, by decide +kernel, rfl⟩
theorem k44_8 : en_d 44 8 (.iload_n 1) 1 9 := ⟨by decide +kernel, rfl⟩
theorem k44_9 : en_d 44 9 .iastore 1 10 := ⟨by decide +kernel, rfl⟩
theorem k44_10 : en_d 44 10 (.aload_n 0) 1 11 := ⟨by decide +kernel, rfl⟩
theorem k44_11 : en_d 44 11 .dup 1 12 := ⟨by decide +kernel, rfl⟩
theorem k44_12 : en_df 44 12 1 4 false false 15 := ⟨25, by decide +kernel, by decide +kernel, by decide +kernel, rfl⟩
theorem k44_15 : en_d 44 15 (.iconst 1) 1 16 := ⟨by decide +kernel, rfl⟩
theorem k44_16 : en_d 44 16 .iadd 1 17 := ⟨by decide +kernel, rfl⟩
theorem k44_17 : en_dp 44 17 1 4 false .int 20 := ⟨25, by decide +kernel, by decide +kernel, by decide +kernel, rfl⟩
theorem k44_20 : en_d 44 20 (.aload_n 0) 1 21 := ⟨by decide +kernel, rfl⟩
theorem k44_21 : en_d 44 21 .dup 1 22 := ⟨by decide +kernel, rfl⟩
theorem k44_22 : en_df 44 22 1 5 false false 25 := ⟨28, by decide +kernel, by decide +kernel, by decide +kernel, rfl⟩
theorem k44_25 : en_d 44 25 (.iconst 1) 1 26 := ⟨by decide +kernel, rfl⟩
theorem k44_26 : en_d 44 26 .iadd 1 27 := ⟨by decide +kernel, rfl⟩
theorem k44_27 : en_dp 44 27 1 5 false .int 30 := ⟨28, by decide +kernel, by decide +kernel, by decide +kernel, rfl⟩
theorem k44_30 : en_d 44 30 .return_ 1 31 := ⟨by decide +kernel, rfl⟩
/-! 45: EndorsedLedger$Program.isMetBy(I)Z -/
theorem k45_0 : en_d 45 0 (.aload_n 0) 1 1 := ⟨by decide +kernel, rfl⟩
theorem k45_1 : en_df 45 1 1 4 false false 4 := ⟨25, by decide +kernel, by decide +kernel, by decide +kernel, rfl⟩
theorem k45_4 : en_j 45 4 (.ifCond .le) 7 30 := ⟨26, by decide +kernel, by decide, rfl⟩
theorem k45_7 : en_d 45 7 (.aload_n 0) 1 8 := ⟨by decide +kernel, rfl⟩
theorem k45_8 : en_df 45 8 1 3 false true 11 := ⟨22, by decide +kernel, by decide +kernel, by decide +kernel, rfl⟩
theorem k45_11 : en_d 45 11 (.aload_n 0) 1 12 := ⟨by decide +kernel, rfl⟩
theorem k45_12 : en_df 45 12 1 4 false false 15 := ⟨25, by decide +kernel, by decide +kernel, by decide +kernel, rfl⟩
theorem k45_15 : en_d 45 15 (.iconst 1) 1 16 := ⟨by decide +kernel, rfl⟩
theorem k45_16 : en_d 45 16 .isub 1 17 := ⟨by decide +kernel, rfl⟩
theorem k45_17 : en_d 45 17 .iaload 1 18 := ⟨by decide +kernel, rfl⟩
theorem k45_18 : en_d 45 18 (.iload_n 1) 1 19 := ⟨by decide +kernel, rfl⟩
theorem k45_19 : en_d 45 19 .ishr 1 20 := ⟨by decide +kernel, rfl⟩
theorem k45_20 : en_d 45 20 (.iconst 1) 1 21 := ⟨by decide +kernel, rfl⟩
theorem k45_21 : en_d 45 21 .iand 1 22 := ⟨by decide +kernel, rfl⟩
theorem k45_22 : en_d 45 22 (.iconst 1) 1 23 := ⟨by decide +kernel, rfl⟩
theorem k45_23 : en_j 45 23 (.if_icmp .ne) 26 30 := ⟨7, by decide +kernel, by decide, rfl⟩
theorem k45_26 : en_d 45 26 (.iconst 1) 1 27 := ⟨by decide +kernel, rfl⟩
theorem k45_27 : en_j 45 27 .goto 30 31 := ⟨4, by decide +kernel, by decide, rfl⟩
theorem k45_30 : en_d 45 30 (.iconst 0) 1 31 := ⟨by decide +kernel, rfl⟩
theorem k45_31 : en_d 45 31 .ireturn 1 32 := ⟨by decide +kernel, rfl⟩
/-! 46: EndorsedLedger$Run.<init>()V -/
theorem k46_0 : en_d 46 0 (.aload_n 0) 1 1 := ⟨by decide +kernel, rfl⟩
theorem k46_1 : en_dn 46 1 6 4 := ⟨3, by decide +kernel, by decide +kernel, rfl, by decide +kernel, by decide +kernel⟩
theorem k46_4 : en_d 46 4 (.aload_n 0) 1 5 := ⟨by decide +kernel, rfl⟩
theorem k46_5 : en_d 46 5 (.bipush 8) 2 7 := ⟨by decide +kernel, rfl⟩
theorem k46_7 : en_d 46 7 (.newarray .int) 2 9 := ⟨by decide +kernel, rfl⟩
theorem k46_9 : en_dp 46 9 2 0 false (.array .int) 12 := ⟨9, by decide +kernel, by decide +kernel, by decide +kernel, rfl⟩
theorem k46_12 : en_d 46 12 (.aload_n 0) 1 13 := ⟨by decide +kernel, rfl⟩
theorem k46_13 : en_dw 46 13 3 16 := ⟨15, by decide +kernel, by decide +kernel, rfl⟩
theorem k46_16 : en_d 46 16 .dup 1 17 := ⟨by decide +kernel, rfl⟩
theorem k46_17 : en_dI 46 17 57 true 20 := ⟨17, by decide +kernel, by decide +kernel, rfl, by decide +kernel, by decide +kernel⟩
theorem k46_20 : en_dp 46 20 2 1 false (.object "EndorsedLedger$Result") 23 := ⟨18, by decide +kernel, by decide +kernel, by decide +kernel, rfl⟩
theorem k46_23 : en_d 46 23 (.aload_n 0) 1 24 := ⟨by decide +kernel, rfl⟩
theorem k46_24 : en_d 46 24 (.iconst 0) 1 25 := ⟨by decide +kernel, rfl⟩
theorem k46_25 : en_dp 46 25 2 2 false .int 28 := ⟨22, by decide +kernel, by decide +kernel, by decide +kernel, rfl⟩
theorem k46_28 : en_d 46 28 (.aload_n 0) 1 29 := ⟨by decide +kernel, rfl⟩
theorem k46_29 : en_d 46 29 (.iconst 0) 1 30 := ⟨by decide +kernel, rfl⟩
theorem k46_30 : en_dp 46 30 2 3 false .int 33 := ⟨26, by decide +kernel, by decide +kernel, by decide +kernel, rfl⟩
theorem k46_33 : en_d 46 33 (.aload_n 0) 1 34 := ⟨by decide +kernel, rfl⟩
theorem k46_34 : en_d 46 34 (.iconst 0) 1 35 := ⟨by decide +kernel, rfl⟩
theorem k46_35 : en_dp 46 35 2 4 false .boolean 38 := ⟨29, by decide +kernel, by decide +kernel, by decide +kernel, rfl⟩
theorem k46_38 : en_d 46 38 .return_ 1 39 := ⟨by decide +kernel, rfl⟩
/-! 47: EndorsedLedger$Run.succeeds(LEndorsedLedger$Program;ILEndorsedLedger$WorldState;)Z -/
theorem k47_0 : en_d 47 0 (.aload_n 0) 1 1 := ⟨by decide +kernel, rfl⟩
theorem k47_1 : en_d 47 1 (.iconst 0) 1 2 := ⟨by decide +kernel, rfl⟩
theorem k47_2 : en_dp 47 2 2 2 false .int 5 := ⟨22, by decide +kernel, by decide +kernel, by decide +kernel, rfl⟩
theorem k47_5 : en_d 47 5 (.aload_n 0) 1 6 := ⟨by decide +kernel, rfl⟩
theorem k47_6 : en_d 47 6 (.iconst 0) 1 7 := ⟨by decide +kernel, rfl⟩
theorem k47_7 : en_dp 47 7 2 3 false .int 10 := ⟨26, by decide +kernel, by decide +kernel, by decide +kernel, rfl⟩
theorem k47_10 : en_d 47 10 (.aload_n 0) 1 11 := ⟨by decide +kernel, rfl⟩
theorem k47_11 : en_d 47 11 (.iconst 0) 1 12 := ⟨by decide +kernel, rfl⟩
theorem k47_12 : en_dp 47 12 2 4 false .boolean 15 := ⟨29, by decide +kernel, by decide +kernel, by decide +kernel, rfl⟩
theorem k47_15 : en_d 47 15 (.aload_n 0) 1 16 := ⟨by decide +kernel, rfl⟩
theorem k47_16 : en_df 47 16 2 1 false true 19 := ⟨18, by decide +kernel, by decide +kernel, by decide +kernel, rfl⟩
theorem k47_19 : en_dv 47 19 58 true 22 := ⟨33, by decide +kernel, by decide +kernel, rfl, by decide +kernel, by decide +kernel⟩
theorem k47_22 : en_d 47 22 (.iconst 0) 1 23 := ⟨by decide +kernel, rfl⟩
theorem k47_23 : en_d 47 23 (.istore 4) 2 25 := ⟨by decide +kernel, rfl⟩
theorem k47_25 : en_d 47 25 (.iload 4) 2 27 := ⟨by decide +kernel, rfl⟩
theorem k47_27 : en_d 47 27 (.aload_n 1) 1 28 := ⟨by decide +kernel, rfl⟩
theorem k47_28 : en_df 47 28 1 2 true false 31 := ⟨36, by decide +kernel, by decide +kernel, by decide +kernel, rfl⟩
theorem k47_31 : en_j 47 31 (.if_icmp .ge) 34 87 := ⟨56, by decide +kernel, by decide, rfl⟩
theorem k47_34 : en_d 47 34 (.aload_n 0) 1 35 := ⟨by decide +kernel, rfl⟩
theorem k47_35 : en_df 47 35 2 4 false false 38 := ⟨29, by decide +kernel, by decide +kernel, by decide +kernel, rfl⟩
theorem k47_38 : en_j 47 38 (.ifCond .ne) 41 87 := ⟨49, by decide +kernel, by decide, rfl⟩
theorem k47_41 : en_d 47 41 (.aload_n 0) 1 42 := ⟨by decide +kernel, rfl⟩
theorem k47_42 : en_df 47 42 2 3 false false 45 := ⟨26, by decide +kernel, by decide +kernel, by decide +kernel, rfl⟩
theorem k47_45 : en_j 47 45 (.ifCond .le) 48 61 := ⟨16, by decide +kernel, by decide, rfl⟩
theorem k47_48 : en_d 47 48 (.aload_n 0) 1 49 := ⟨by decide +kernel, rfl⟩
theorem k47_49 : en_d 47 49 .dup 1 50 := ⟨by decide +kernel, rfl⟩
theorem k47_50 : en_df 47 50 2 3 false false 53 := ⟨26, by decide +kernel, by decide +kernel, by decide +kernel, rfl⟩
theorem k47_53 : en_d 47 53 (.iconst 1) 1 54 := ⟨by decide +kernel, rfl⟩
theorem k47_54 : en_d 47 54 .isub 1 55 := ⟨by decide +kernel, rfl⟩
theorem k47_55 : en_dp 47 55 2 3 false .int 58 := ⟨26, by decide +kernel, by decide +kernel, by decide +kernel, rfl⟩
theorem k47_58 : en_j 47 58 .goto 61 81 := ⟨23, by decide +kernel, by decide, rfl⟩
theorem k47_61 : en_d 47 61 (.aload_n 0) 1 62 := ⟨by decide +kernel, rfl⟩
theorem k47_62 : en_d 47 62 (.aload_n 1) 1 63 := ⟨by decide +kernel, rfl⟩
theorem k47_63 : en_df 47 63 1 0 true true 66 := ⟨41, by decide +kernel, by decide +kernel, by decide +kernel, rfl⟩
theorem k47_66 : en_d 47 66 (.iload 4) 2 68 := ⟨by decide +kernel, rfl⟩
theorem k47_68 : en_d 47 68 .iaload 1 69 := ⟨by decide +kernel, rfl⟩
theorem k47_69 : en_d 47 69 (.aload_n 1) 1 70 := ⟨by decide +kernel, rfl⟩
theorem k47_70 : en_df 47 70 1 1 true true 73 := ⟨44, by decide +kernel, by decide +kernel, by decide +kernel, rfl⟩
theorem k47_73 : en_d 47 73 (.iload 4) 2 75 := ⟨by decide +kernel, rfl⟩
theorem k47_75 : en_d 47 75 .iaload 1 76 := ⟨by decide +kernel, rfl⟩
theorem k47_76 : en_d 47 76 (.iload_n 2) 1 77 := ⟨by decide +kernel, rfl⟩
theorem k47_77 : en_d 47 77 (.aload_n 3) 1 78 := ⟨by decide +kernel, rfl⟩
theorem k47_78 : en_dv 47 78 48 false 81 := ⟨47, by decide +kernel, by decide +kernel, rfl, by decide +kernel, by decide +kernel⟩
theorem k47_81 : en_d 47 81 (.iinc 4 1) 3 84 := ⟨by decide +kernel, rfl⟩
theorem k47_84 : en_j 47 84 .goto 87 25 := ⟨(-59), by decide +kernel, by decide, rfl⟩
theorem k47_87 : en_d 47 87 (.aload_n 0) 1 88 := ⟨by decide +kernel, rfl⟩
theorem k47_88 : en_df 47 88 2 4 false false 91 := ⟨29, by decide +kernel, by decide +kernel, by decide +kernel, rfl⟩
theorem k47_91 : en_j 47 91 (.ifCond .ne) 94 98 := ⟨7, by decide +kernel, by decide, rfl⟩
theorem k47_94 : en_d 47 94 (.iconst 1) 1 95 := ⟨by decide +kernel, rfl⟩
theorem k47_95 : en_j 47 95 .goto 98 99 := ⟨4, by decide +kernel, by decide, rfl⟩
theorem k47_98 : en_d 47 98 (.iconst 0) 1 99 := ⟨by decide +kernel, rfl⟩
theorem k47_99 : en_d 47 99 .ireturn 1 100 := ⟨by decide +kernel, rfl⟩
/-! 48: EndorsedLedger$Run.step(IIILEndorsedLedger$WorldState;)V -/
theorem k48_0 : en_d 48 0 (.iload_n 1) 1 1 := ⟨by decide +kernel, rfl⟩
theorem k48_1 : decode (mB 48) 1 = .ok (.tableswitch 93 0 6 #[43, 51, 59, 59, 59, 67, 74], 43) := by decide +kernel
theorem k48_44 : en_d 48 44 (.aload_n 0) 1 45 := ⟨by decide +kernel, rfl⟩
theorem k48_45 : en_d 48 45 (.iload_n 2) 1 46 := ⟨by decide +kernel, rfl⟩
theorem k48_46 : en_dv 48 46 54 false 49 := ⟨51, by decide +kernel, by decide +kernel, rfl, by decide +kernel, by decide +kernel⟩
theorem k48_49 : en_j 48 49 .goto 52 101 := ⟨52, by decide +kernel, by decide, rfl⟩
theorem k48_52 : en_d 48 52 (.aload_n 0) 1 53 := ⟨by decide +kernel, rfl⟩
theorem k48_53 : en_d 48 53 (.iload_n 3) 1 54 := ⟨by decide +kernel, rfl⟩
theorem k48_54 : en_dv 48 54 54 false 57 := ⟨51, by decide +kernel, by decide +kernel, rfl, by decide +kernel, by decide +kernel⟩
theorem k48_57 : en_j 48 57 .goto 60 101 := ⟨44, by decide +kernel, by decide, rfl⟩
theorem k48_60 : en_d 48 60 (.aload_n 0) 1 61 := ⟨by decide +kernel, rfl⟩
theorem k48_61 : en_d 48 61 (.iload_n 1) 1 62 := ⟨by decide +kernel, rfl⟩
theorem k48_62 : en_dv 48 62 49 false 65 := ⟨55, by decide +kernel, by decide +kernel, rfl, by decide +kernel, by decide +kernel⟩
theorem k48_65 : en_j 48 65 .goto 68 101 := ⟨36, by decide +kernel, by decide, rfl⟩
theorem k48_68 : en_d 48 68 (.aload_n 0) 1 69 := ⟨by decide +kernel, rfl⟩
theorem k48_69 : en_dv 48 69 50 false 72 := ⟨58, by decide +kernel, by decide +kernel, rfl, by decide +kernel, by decide +kernel⟩
theorem k48_72 : en_j 48 72 .goto 75 101 := ⟨29, by decide +kernel, by decide, rfl⟩
theorem k48_75 : en_d 48 75 (.aload_n 0) 1 76 := ⟨by decide +kernel, rfl⟩
theorem k48_76 : en_d 48 76 (.aload_n 0) 1 77 := ⟨by decide +kernel, rfl⟩
theorem k48_77 : en_dv 48 77 55 false 80 := ⟨61, by decide +kernel, by decide +kernel, rfl, by decide +kernel, by decide +kernel⟩
theorem k48_80 : en_j 48 80 (.ifCond .ne) 83 87 := ⟨7, by decide +kernel, by decide, rfl⟩
theorem k48_83 : en_d 48 83 (.iload_n 2) 1 84 := ⟨by decide +kernel, rfl⟩
theorem k48_84 : en_j 48 84 .goto 87 88 := ⟨4, by decide +kernel, by decide, rfl⟩
theorem k48_87 : en_d 48 87 (.iconst 0) 1 88 := ⟨by decide +kernel, rfl⟩
theorem k48_88 : en_dp 48 88 2 3 false .int 91 := ⟨26, by decide +kernel, by decide +kernel, by decide +kernel, rfl⟩
theorem k48_91 : en_j 48 91 .goto 94 101 := ⟨10, by decide +kernel, by decide, rfl⟩
theorem k48_94 : en_d 48 94 (.aload_n 0) 1 95 := ⟨by decide +kernel, rfl⟩
theorem k48_95 : en_d 48 95 (.iload_n 1) 1 96 := ⟨by decide +kernel, rfl⟩
theorem k48_96 : en_d 48 96 (.aload 4) 2 98 := ⟨by decide +kernel, rfl⟩
theorem k48_98 : en_dv 48 98 51 false 101 := ⟨65, by decide +kernel, by decide +kernel, rfl, by decide +kernel, by decide +kernel⟩
theorem k48_101 : en_d 48 101 .return_ 1 102 := ⟨by decide +kernel, rfl⟩
/-! 49: EndorsedLedger$Run.calculate(I)V -/
theorem k49_0 : en_d 49 0 (.aload_n 0) 1 1 := ⟨by decide +kernel, rfl⟩
theorem k49_1 : en_dv 49 1 55 false 4 := ⟨61, by decide +kernel, by decide +kernel, rfl, by decide +kernel, by decide +kernel⟩
theorem k49_4 : en_d 49 4 (.istore_n 2) 1 5 := ⟨by decide +kernel, rfl⟩
theorem k49_5 : en_d 49 5 (.aload_n 0) 1 6 := ⟨by decide +kernel, rfl⟩
theorem k49_6 : en_dv 49 6 55 false 9 := ⟨61, by decide +kernel, by decide +kernel, rfl, by decide +kernel, by decide +kernel⟩
theorem k49_9 : en_d 49 9 (.istore_n 3) 1 10 := ⟨by decide +kernel, rfl⟩
theorem k49_10 : en_d 49 10 (.iload_n 1) 1 11 := ⟨by decide +kernel, rfl⟩
theorem k49_11 : en_d 49 11 (.iconst 2) 1 12 := ⟨by decide +kernel, rfl⟩
theorem k49_12 : en_j 49 12 (.if_icmp .ne) 15 25 := ⟨13, by decide +kernel, by decide, rfl⟩
theorem k49_15 : en_d 49 15 (.aload_n 0) 1 16 := ⟨by decide +kernel, rfl⟩
theorem k49_16 : en_d 49 16 (.iload_n 3) 1 17 := ⟨by decide +kernel, rfl⟩
theorem k49_17 : en_d 49 17 (.iload_n 2) 1 18 := ⟨by decide +kernel, rfl⟩
theorem k49_18 : en_d 49 18 .iadd 1 19 := ⟨by decide +kernel, rfl⟩
theorem k49_19 : en_dv 49 19 54 false 22 := ⟨51, by decide +kernel, by decide +kernel, rfl, by decide +kernel, by decide +kernel⟩
theorem k49_22 : en_j 49 22 .goto 25 54 := ⟨32, by decide +kernel, by decide, rfl⟩
theorem k49_25 : en_d 49 25 (.iload_n 1) 1 26 := ⟨by decide +kernel, rfl⟩
theorem k49_26 : en_d 49 26 (.iconst 3) 1 27 := ⟨by decide +kernel, rfl⟩
theorem k49_27 : en_j 49 27 (.if_icmp .ne) 30 40 := ⟨13, by decide +kernel, by decide, rfl⟩
theorem k49_30 : en_d 49 30 (.aload_n 0) 1 31 := ⟨by decide +kernel, rfl⟩
theorem k49_31 : en_d 49 31 (.iload_n 3) 1 32 := ⟨by decide +kernel, rfl⟩
theorem k49_32 : en_d 49 32 (.iload_n 2) 1 33 := ⟨by decide +kernel, rfl⟩
theorem k49_33 : en_d 49 33 .isub 1 34 := ⟨by decide +kernel, rfl⟩
theorem k49_34 : en_dv 49 34 54 false 37 := ⟨51, by decide +kernel, by decide +kernel, rfl, by decide +kernel, by decide +kernel⟩
theorem k49_37 : en_j 49 37 .goto 40 54 := ⟨17, by decide +kernel, by decide, rfl⟩
theorem k49_40 : en_d 49 40 (.aload_n 0) 1 41 := ⟨by decide +kernel, rfl⟩
theorem k49_41 : en_d 49 41 (.iload_n 3) 1 42 := ⟨by decide +kernel, rfl⟩
theorem k49_42 : en_d 49 42 (.iload_n 2) 1 43 := ⟨by decide +kernel, rfl⟩
theorem k49_43 : en_j 49 43 (.if_icmp .ge) 46 50 := ⟨7, by decide +kernel, by decide, rfl⟩
theorem k49_46 : en_d 49 46 (.iconst 1) 1 47 := ⟨by decide +kernel, rfl⟩
theorem k49_47 : en_j 49 47 .goto 50 51 := ⟨4, by decide +kernel, by decide, rfl⟩
theorem k49_50 : en_d 49 50 (.iconst 0) 1 51 := ⟨by decide +kernel, rfl⟩
theorem k49_51 : en_dv 49 51 54 false 54 := ⟨51, by decide +kernel, by decide +kernel, rfl, by decide +kernel, by decide +kernel⟩
theorem k49_54 : en_d 49 54 .return_ 1 55 := ⟨by decide +kernel, rfl⟩
/-! 50: EndorsedLedger$Run.duplicateTop()V -/
theorem k50_0 : en_d 50 0 (.aload_n 0) 1 1 := ⟨by decide +kernel, rfl⟩
theorem k50_1 : en_dv 50 1 55 false 4 := ⟨61, by decide +kernel, by decide +kernel, rfl, by decide +kernel, by decide +kernel⟩
theorem k50_4 : en_d 50 4 (.istore_n 1) 1 5 := ⟨by decide +kernel, rfl⟩
theorem k50_5 : en_d 50 5 (.aload_n 0) 1 6 := ⟨by decide +kernel, rfl⟩
theorem k50_6 : en_d 50 6 (.iload_n 1) 1 7 := ⟨by decide +kernel, rfl⟩
theorem k50_7 : en_dv 50 7 54 false 10 := ⟨51, by decide +kernel, by decide +kernel, rfl, by decide +kernel, by decide +kernel⟩
theorem k50_10 : en_d 50 10 (.aload_n 0) 1 11 := ⟨by decide +kernel, rfl⟩
theorem k50_11 : en_d 50 11 (.iload_n 1) 1 12 := ⟨by decide +kernel, rfl⟩
theorem k50_12 : en_dv 50 12 54 false 15 := ⟨51, by decide +kernel, by decide +kernel, rfl, by decide +kernel, by decide +kernel⟩
theorem k50_15 : en_d 50 15 .return_ 1 16 := ⟨by decide +kernel, rfl⟩
/-! 51: EndorsedLedger$Run.touchState(ILEndorsedLedger$WorldState;)V -/
theorem k51_0 : en_d 51 0 (.iload_n 1) 1 1 := ⟨by decide +kernel, rfl⟩
theorem k51_1 : decode (mB 51) 1 = .ok (.tableswitch 84 7 10 #[31, 39, 60, 76], 31) := by decide +kernel
theorem k51_32 : en_d 51 32 (.aload_n 0) 1 33 := ⟨by decide +kernel, rfl⟩
theorem k51_33 : en_d 51 33 (.aload_n 2) 1 34 := ⟨by decide +kernel, rfl⟩
theorem k51_34 : en_dv 51 34 52 false 37 := ⟨69, by decide +kernel, by decide +kernel, rfl, by decide +kernel, by decide +kernel⟩
theorem k51_37 : en_j 51 37 .goto 40 85 := ⟨48, by decide +kernel, by decide, rfl⟩
theorem k51_40 : en_d 51 40 (.aload_n 0) 1 41 := ⟨by decide +kernel, rfl⟩
theorem k51_41 : en_dv 51 41 55 false 44 := ⟨61, by decide +kernel, by decide +kernel, rfl, by decide +kernel, by decide +kernel⟩
theorem k51_44 : en_d 51 44 (.istore_n 3) 1 45 := ⟨by decide +kernel, rfl⟩
theorem k51_45 : en_d 51 45 (.aload_n 0) 1 46 := ⟨by decide +kernel, rfl⟩
theorem k51_46 : en_df 51 46 2 1 false true 49 := ⟨18, by decide +kernel, by decide +kernel, by decide +kernel, rfl⟩
theorem k51_49 : en_d 51 49 (.aload_n 0) 1 50 := ⟨by decide +kernel, rfl⟩
theorem k51_50 : en_dv 51 50 56 false 53 := ⟨73, by decide +kernel, by decide +kernel, rfl, by decide +kernel, by decide +kernel⟩
theorem k51_53 : en_d 51 53 (.iconst 1) 1 54 := ⟨by decide +kernel, rfl⟩
theorem k51_54 : en_d 51 54 (.iload_n 3) 1 55 := ⟨by decide +kernel, rfl⟩
theorem k51_55 : en_dv 51 55 62 true 58 := ⟨76, by decide +kernel, by decide +kernel, rfl, by decide +kernel, by decide +kernel⟩
theorem k51_58 : en_j 51 58 .goto 61 85 := ⟨27, by decide +kernel, by decide, rfl⟩
theorem k51_61 : en_d 51 61 (.aload_n 0) 1 62 := ⟨by decide +kernel, rfl⟩
theorem k51_62 : en_df 51 62 2 1 false true 65 := ⟨18, by decide +kernel, by decide +kernel, by decide +kernel, rfl⟩
theorem k51_65 : en_d 51 65 (.aload_n 0) 1 66 := ⟨by decide +kernel, rfl⟩
theorem k51_66 : en_dv 51 66 56 false 69 := ⟨73, by decide +kernel, by decide +kernel, rfl, by decide +kernel, by decide +kernel⟩
theorem k51_69 : en_d 51 69 (.iconst 2) 1 70 := ⟨by decide +kernel, rfl⟩
theorem k51_70 : en_d 51 70 (.iconst 0) 1 71 := ⟨by decide +kernel, rfl⟩
theorem k51_71 : en_dv 51 71 62 true 74 := ⟨76, by decide +kernel, by decide +kernel, rfl, by decide +kernel, by decide +kernel⟩
theorem k51_74 : en_j 51 74 .goto 77 85 := ⟨11, by decide +kernel, by decide, rfl⟩
theorem k51_77 : en_d 51 77 (.aload_n 0) 1 78 := ⟨by decide +kernel, rfl⟩
theorem k51_78 : en_d 51 78 (.aload_n 2) 1 79 := ⟨by decide +kernel, rfl⟩
theorem k51_79 : en_dv 51 79 53 false 82 := ⟨80, by decide +kernel, by decide +kernel, rfl, by decide +kernel, by decide +kernel⟩
theorem k51_82 : en_j 51 82 .goto 85 85 := ⟨3, by decide +kernel, by decide, rfl⟩
theorem k51_85 : en_d 51 85 .return_ 1 86 := ⟨by decide +kernel, rfl⟩
/-! 52: EndorsedLedger$Run.readKey(LEndorsedLedger$WorldState;)V -/
theorem k52_0 : en_d 52 0 (.aload_n 0) 1 1 := ⟨by decide +kernel, rfl⟩
theorem k52_1 : en_dv 52 1 56 false 4 := ⟨73, by decide +kernel, by decide +kernel, rfl, by decide +kernel, by decide +kernel⟩
theorem k52_4 : en_d 52 4 (.istore_n 2) 1 5 := ⟨by decide +kernel, rfl⟩
theorem k52_5 : en_d 52 5 (.aload_n 0) 1 6 := ⟨by decide +kernel, rfl⟩
theorem k52_6 : en_df 52 6 2 1 false true 9 := ⟨18, by decide +kernel, by decide +kernel, by decide +kernel, rfl⟩
theorem k52_9 : en_d 52 9 (.iconst 0) 1 10 := ⟨by decide +kernel, rfl⟩
theorem k52_10 : en_d 52 10 (.iload_n 2) 1 11 := ⟨by decide +kernel, rfl⟩
theorem k52_11 : en_d 52 11 (.aload_n 1) 1 12 := ⟨by decide +kernel, rfl⟩
theorem k52_12 : en_df 52 12 8 0 true true 15 := ⟨83, by decide +kernel, by decide +kernel, by decide +kernel, rfl⟩
theorem k52_15 : en_d 52 15 (.iload_n 2) 1 16 := ⟨by decide +kernel, rfl⟩
theorem k52_16 : en_d 52 16 .iaload 1 17 := ⟨by decide +kernel, rfl⟩
theorem k52_17 : en_dv 52 17 61 true 20 := ⟨88, by decide +kernel, by decide +kernel, rfl, by decide +kernel, by decide +kernel⟩
theorem k52_20 : en_d 52 20 (.aload_n 0) 1 21 := ⟨by decide +kernel, rfl⟩
theorem k52_21 : en_d 52 21 (.aload_n 1) 1 22 := ⟨by decide +kernel, rfl⟩
theorem k52_22 : en_df 52 22 8 1 true true 25 := ⟨91, by decide +kernel, by decide +kernel, by decide +kernel, rfl⟩
theorem k52_25 : en_d 52 25 (.iload_n 2) 1 26 := ⟨by decide +kernel, rfl⟩
theorem k52_26 : en_d 52 26 .iaload 1 27 := ⟨by decide +kernel, rfl⟩
theorem k52_27 : en_dv 52 27 54 false 30 := ⟨51, by decide +kernel, by decide +kernel, rfl, by decide +kernel, by decide +kernel⟩
theorem k52_30 : en_d 52 30 .return_ 1 31 := ⟨by decide +kernel, rfl⟩
/-! 53: EndorsedLedger$Run.addUp(LEndorsedLedger$WorldState;)V -/
theorem k53_0 : en_d 53 0 (.aload_n 0) 1 1 := ⟨by decide +kernel, rfl⟩
theorem k53_1 : en_dv 53 1 56 false 4 := ⟨73, by decide +kernel, by decide +kernel, rfl, by decide +kernel, by decide +kernel⟩
theorem k53_4 : en_d 53 4 (.istore_n 2) 1 5 := ⟨by decide +kernel, rfl⟩
theorem k53_5 : en_d 53 5 (.aload_n 0) 1 6 := ⟨by decide +kernel, rfl⟩
theorem k53_6 : en_dv 53 6 56 false 9 := ⟨73, by decide +kernel, by decide +kernel, rfl, by decide +kernel, by decide +kernel⟩
theorem k53_9 : en_d 53 9 (.istore_n 3) 1 10 := ⟨by decide +kernel, rfl⟩
theorem k53_10 : en_d 53 10 (.aload_n 0) 1 11 := ⟨by decide +kernel, rfl⟩
theorem k53_11 : en_df 53 11 2 1 false true 14 := ⟨18, by decide +kernel, by decide +kernel, by decide +kernel, rfl⟩
theorem k53_14 : en_df 53 14 3 1 true false 17 := ⟨94, by decide +kernel, by decide +kernel, by decide +kernel, rfl⟩
theorem k53_17 : en_d 53 17 (.iconst 2) 1 18 := ⟨by decide +kernel, rfl⟩
theorem k53_18 : en_j 53 18 (.if_icmp .lt) 21 27 := ⟨9, by decide +kernel, by decide, rfl⟩
theorem k53_21 : en_d 53 21 (.aload_n 0) 1 22 := ⟨by decide +kernel, rfl⟩
theorem k53_22 : en_d 53 22 (.iconst 1) 1 23 := ⟨by decide +kernel, rfl⟩
theorem k53_23 : en_dp 53 23 2 4 false .boolean 26 := ⟨29, by decide +kernel, by decide +kernel, by decide +kernel, rfl⟩
theorem k53_26 : en_d 53 26 .return_ 1 27 := ⟨by decide +kernel, rfl⟩
theorem k53_27 : en_d 53 27 (.iconst 0) 1 28 := ⟨by decide +kernel, rfl⟩
theorem k53_28 : en_d 53 28 (.istore 4) 2 30 := ⟨by decide +kernel, rfl⟩
theorem k53_30 : en_d 53 30 (.iload_n 3) 1 31 := ⟨by decide +kernel, rfl⟩
theorem k53_31 : en_d 53 31 (.istore 5) 2 33 := ⟨by decide +kernel, rfl⟩
theorem k53_33 : en_d 53 33 (.iload 5) 2 35 := ⟨by decide +kernel, rfl⟩
theorem k53_35 : en_d 53 35 (.iload_n 2) 1 36 := ⟨by decide +kernel, rfl⟩
theorem k53_36 : en_j 53 36 (.if_icmp .gt) 39 82 := ⟨46, by decide +kernel, by decide, rfl⟩
theorem k53_39 : en_d 53 39 (.aload_n 0) 1 40 := ⟨by decide +kernel, rfl⟩
theorem k53_40 : en_df 53 40 2 1 false true 43 := ⟨18, by decide +kernel, by decide +kernel, by decide +kernel, rfl⟩
theorem k53_43 : en_d 53 43 (.iconst 1) 1 44 := ⟨by decide +kernel, rfl⟩
theorem k53_44 : en_d 53 44 (.aload_n 0) 1 45 := ⟨by decide +kernel, rfl⟩
theorem k53_45 : en_df 53 45 2 1 false true 48 := ⟨18, by decide +kernel, by decide +kernel, by decide +kernel, rfl⟩
theorem k53_48 : en_df 53 48 3 1 true false 51 := ⟨94, by decide +kernel, by decide +kernel, by decide +kernel, rfl⟩
theorem k53_51 : en_d 53 51 .iadd 1 52 := ⟨by decide +kernel, rfl⟩
theorem k53_52 : en_d 53 52 (.iload 5) 2 54 := ⟨by decide +kernel, rfl⟩
theorem k53_54 : en_d 53 54 (.aload_n 1) 1 55 := ⟨by decide +kernel, rfl⟩
theorem k53_55 : en_df 53 55 8 0 true true 58 := ⟨83, by decide +kernel, by decide +kernel, by decide +kernel, rfl⟩
theorem k53_58 : en_d 53 58 (.iload 5) 2 60 := ⟨by decide +kernel, rfl⟩
theorem k53_60 : en_d 53 60 .iaload 1 61 := ⟨by decide +kernel, rfl⟩
theorem k53_61 : en_dv 53 61 61 true 64 := ⟨88, by decide +kernel, by decide +kernel, rfl, by decide +kernel, by decide +kernel⟩
theorem k53_64 : en_d 53 64 (.iload 4) 2 66 := ⟨by decide +kernel, rfl⟩
theorem k53_66 : en_d 53 66 (.aload_n 1) 1 67 := ⟨by decide +kernel, rfl⟩
theorem k53_67 : en_df 53 67 8 1 true true 70 := ⟨91, by decide +kernel, by decide +kernel, by decide +kernel, rfl⟩
theorem k53_70 : en_d 53 70 (.iload 5) 2 72 := ⟨by decide +kernel, rfl⟩
theorem k53_72 : en_d 53 72 .iaload 1 73 := ⟨by decide +kernel, rfl⟩
theorem k53_73 : en_d 53 73 .iadd 1 74 := ⟨by decide +kernel, rfl⟩
theorem k53_74 : en_d 53 74 (.istore 4) 2 76 := ⟨by decide +kernel, rfl⟩
theorem k53_76 : en_d 53 76 (.iinc 5 1) 3 79 := ⟨by decide +kernel, rfl⟩
theorem k53_79 : en_j 53 79 .goto 82 33 := ⟨(-46), by decide +kernel, by decide, rfl⟩
theorem k53_82 : en_d 53 82 (.aload_n 0) 1 83 := ⟨by decide +kernel, rfl⟩
theorem k53_83 : en_df 53 83 2 1 false true 86 := ⟨18, by decide +kernel, by decide +kernel, by decide +kernel, rfl⟩
theorem k53_86 : en_d 53 86 .dup 1 87 := ⟨by decide +kernel, rfl⟩
theorem k53_87 : en_df 53 87 3 1 true false 90 := ⟨94, by decide +kernel, by decide +kernel, by decide +kernel, rfl⟩
theorem k53_90 : en_d 53 90 (.iconst 1) 1 91 := ⟨by decide +kernel, rfl⟩
theorem k53_91 : en_d 53 91 .iadd 1 92 := ⟨by decide +kernel, rfl⟩
theorem k53_92 : en_dp 53 92 3 1 true .int 95 := ⟨94, by decide +kernel, by decide +kernel, by decide +kernel, rfl⟩
theorem k53_95 : en_d 53 95 (.aload_n 0) 1 96 := ⟨by decide +kernel, rfl⟩
theorem k53_96 : en_d 53 96 (.iload 4) 2 98 := ⟨by decide +kernel, rfl⟩
theorem k53_98 : en_dv 53 98 54 false 101 := ⟨51, by decide +kernel, by decide +kernel, rfl, by decide +kernel, by decide +kernel⟩
theorem k53_101 : en_d 53 101 .return_ 1 102 := ⟨by decide +kernel, rfl⟩
/-! 54: EndorsedLedger$Run.push(I)V -/
theorem k54_0 : en_d 54 0 (.aload_n 0) 1 1 := ⟨by decide +kernel, rfl⟩
theorem k54_1 : en_df 54 1 2 2 false false 4 := ⟨22, by decide +kernel, by decide +kernel, by decide +kernel, rfl⟩
theorem k54_4 : en_d 54 4 (.bipush 8) 2 6 := ⟨by decide +kernel, rfl⟩
theorem k54_6 : en_j 54 6 (.if_icmp .lt) 9 15 := ⟨9, by decide +kernel, by decide, rfl⟩
theorem k54_9 : en_d 54 9 (.aload_n 0) 1 10 := ⟨by decide +kernel, rfl⟩
theorem k54_10 : en_d 54 10 (.iconst 1) 1 11 := ⟨by decide +kernel, rfl⟩
theorem k54_11 : en_dp 54 11 2 4 false .boolean 14 := ⟨29, by decide +kernel, by decide +kernel, by decide +kernel, rfl⟩
theorem k54_14 : en_d 54 14 .return_ 1 15 := ⟨by decide +kernel, rfl⟩
theorem k54_15 : en_d 54 15 (.aload_n 0) 1 16 := ⟨by decide +kernel, rfl⟩
theorem k54_16 : en_df 54 16 2 0 false true 19 := ⟨9, by decide +kernel, by decide +kernel, by decide +kernel, rfl⟩
theorem k54_19 : en_d 54 19 (.aload_n 0) 1 20 := ⟨by decide +kernel, rfl⟩
theorem k54_20 : en_df 54 20 2 2 false false 23 := ⟨22, by decide +kernel, by decide +kernel, by decide +kernel, rfl⟩
theorem k54_23 : en_d 54 23 (.iload_n 1) 1 24 := ⟨by decide +kernel, rfl⟩
theorem k54_24 : en_d 54 24 .iastore 1 25 := ⟨by decide +kernel, rfl⟩
theorem k54_25 : en_d 54 25 (.aload_n 0) 1 26 := ⟨by decide +kernel, rfl⟩
theorem k54_26 : en_d 54 26 .dup 1 27 := ⟨by decide +kernel, rfl⟩
theorem k54_27 : en_df 54 27 2 2 false false 30 := ⟨22, by decide +kernel, by decide +kernel, by decide +kernel, rfl⟩
theorem k54_30 : en_d 54 30 (.iconst 1) 1 31 := ⟨by decide +kernel, rfl⟩
theorem k54_31 : en_d 54 31 .iadd 1 32 := ⟨by decide +kernel, rfl⟩
theorem k54_32 : en_dp 54 32 2 2 false .int 35 := ⟨22, by decide +kernel, by decide +kernel, by decide +kernel, rfl⟩
theorem k54_35 : en_d 54 35 .return_ 1 36 := ⟨by decide +kernel, rfl⟩
/-! 55: EndorsedLedger$Run.pop()I -/
theorem k55_0 : en_d 55 0 (.aload_n 0) 1 1 := ⟨by decide +kernel, rfl⟩
theorem k55_1 : en_df 55 1 2 2 false false 4 := ⟨22, by decide +kernel, by decide +kernel, by decide +kernel, rfl⟩
theorem k55_4 : en_j 55 4 (.ifCond .gt) 7 14 := ⟨10, by decide +kernel, by decide, rfl⟩
theorem k55_7 : en_d 55 7 (.aload_n 0) 1 8 := ⟨by decide +kernel, rfl⟩
theorem k55_8 : en_d 55 8 (.iconst 1) 1 9 := ⟨by decide +kernel, rfl⟩
theorem k55_9 : en_dp 55 9 2 4 false .boolean 12 := ⟨29, by decide +kernel, by decide +kernel, by decide +kernel, rfl⟩
theorem k55_12 : en_d 55 12 (.iconst 0) 1 13 := ⟨by decide +kernel, rfl⟩
theorem k55_13 : en_d 55 13 .ireturn 1 14 := ⟨by decide +kernel, rfl⟩
theorem k55_14 : en_d 55 14 (.aload_n 0) 1 15 := ⟨by decide +kernel, rfl⟩
theorem k55_15 : en_d 55 15 .dup 1 16 := ⟨by decide +kernel, rfl⟩
theorem k55_16 : en_df 55 16 2 2 false false 19 := ⟨22, by decide +kernel, by decide +kernel, by decide +kernel, rfl⟩
theorem k55_19 : en_d 55 19 (.iconst 1) 1 20 := ⟨by decide +kernel, rfl⟩
theorem k55_20 : en_d 55 20 .isub 1 21 := ⟨by decide +kernel, rfl⟩
theorem k55_21 : en_dp 55 21 2 2 false .int 24 := ⟨22, by decide +kernel, by decide +kernel, by decide +kernel, rfl⟩
theorem k55_24 : en_d 55 24 (.aload_n 0) 1 25 := ⟨by decide +kernel, rfl⟩
theorem k55_25 : en_df 55 25 2 0 false true 28 := ⟨9, by decide +kernel, by decide +kernel, by decide +kernel, rfl⟩
theorem k55_28 : en_d 55 28 (.aload_n 0) 1 29 := ⟨by decide +kernel, rfl⟩
theorem k55_29 : en_df 55 29 2 2 false false 32 := ⟨22, by decide +kernel, by decide +kernel, by decide +kernel, rfl⟩
theorem k55_32 : en_d 55 32 .iaload 1 33 := ⟨by decide +kernel, rfl⟩
theorem k55_33 : en_d 55 33 .ireturn 1 34 := ⟨by decide +kernel, rfl⟩
/-! 56: EndorsedLedger$Run.popKey()I -/
theorem k56_0 : en_d 56 0 (.aload_n 0) 1 1 := ⟨by decide +kernel, rfl⟩
theorem k56_1 : en_dv 56 1 55 false 4 := ⟨61, by decide +kernel, by decide +kernel, rfl, by decide +kernel, by decide +kernel⟩
theorem k56_4 : en_d 56 4 (.bipush 15) 2 6 := ⟨by decide +kernel, rfl⟩
theorem k56_6 : en_d 56 6 .iand 1 7 := ⟨by decide +kernel, rfl⟩
theorem k56_7 : en_d 56 7 .ireturn 1 8 := ⟨by decide +kernel, rfl⟩
/-! 57: EndorsedLedger$Result.<init>()V -/
theorem k57_0 : en_d 57 0 (.aload_n 0) 1 1 := ⟨by decide +kernel, rfl⟩
theorem k57_1 : en_dn 57 1 6 4 := ⟨3, by decide +kernel, by decide +kernel, rfl, by decide +kernel, by decide +kernel⟩
theorem k57_4 : en_d 57 4 (.aload_n 0) 1 5 := ⟨by decide +kernel, rfl⟩
theorem k57_5 : en_d 57 5 (.bipush 80) 2 7 := ⟨by decide +kernel, rfl⟩
theorem k57_7 : en_d 57 7 (.newarray .int) 2 9 := ⟨by decide +kernel, rfl⟩
theorem k57_9 : en_dp 57 9 3 0 false (.array .int) 12 := ⟨11, by decide +kernel, by decide +kernel, by decide +kernel, rfl⟩
theorem k57_12 : en_d 57 12 (.aload_n 0) 1 13 := ⟨by decide +kernel, rfl⟩
theorem k57_13 : en_d 57 13 (.iconst 0) 1 14 := ⟨by decide +kernel, rfl⟩
theorem k57_14 : en_dp 57 14 3 1 false .int 17 := ⟨15, by decide +kernel, by decide +kernel, by decide +kernel, rfl⟩
theorem k57_17 : en_d 57 17 (.aload_n 0) 1 18 := ⟨by decide +kernel, rfl⟩
theorem k57_18 : en_dv 57 18 58 false 21 := ⟨19, by decide +kernel, by decide +kernel, rfl, by decide +kernel, by decide +kernel⟩
theorem k57_21 : en_d 57 21 .return_ 1 22 := ⟨by decide +kernel, rfl⟩
/-! 58: EndorsedLedger$Result.clear()V -/
theorem k58_0 : en_d 58 0 (.iconst 0) 1 1 := ⟨by decide +kernel, rfl⟩
theorem k58_1 : en_d 58 1 (.istore_n 1) 1 2 := ⟨by decide +kernel, rfl⟩
theorem k58_2 : en_d 58 2 (.iload_n 1) 1 3 := ⟨by decide +kernel, rfl⟩
theorem k58_3 : en_d 58 3 (.bipush 80) 2 5 := ⟨by decide +kernel, rfl⟩
theorem k58_5 : en_j 58 5 (.if_icmp .ge) 8 31 := ⟨26, by decide +kernel, by decide, rfl⟩
theorem k58_8 : en_d 58 8 (.aload_n 0) 1 9 := ⟨by decide +kernel, rfl⟩
theorem k58_9 : en_df 58 9 3 0 false true 12 := ⟨11, by decide +kernel, by decide +kernel, by decide +kernel, rfl⟩
theorem k58_12 : en_d 58 12 (.iload_n 1) 1 13 := ⟨by decide +kernel, rfl⟩
theorem k58_13 : en_d 58 13 (.iload_n 1) 1 14 := ⟨by decide +kernel, rfl⟩
theorem k58_14 : en_d 58 14 (.bipush 48) 2 16 := ⟨by decide +kernel, rfl⟩
theorem k58_16 : en_j 58 16 (.if_icmp .ge) 19 23 := ⟨7, by decide +kernel, by decide, rfl⟩
theorem k58_19 : en_d 58 19 (.iconst (-1)) 1 20 := ⟨by decide +kernel, rfl⟩
theorem k58_20 : en_j 58 20 .goto 23 24 := ⟨4, by decide +kernel, by decide, rfl⟩
theorem k58_23 : en_d 58 23 (.iconst 0) 1 24 := ⟨by decide +kernel, rfl⟩
theorem k58_24 : en_d 58 24 .iastore 1 25 := ⟨by decide +kernel, rfl⟩
theorem k58_25 : en_d 58 25 (.iinc 1 1) 3 28 := ⟨by decide +kernel, rfl⟩
theorem k58_28 : en_j 58 28 .goto 31 2 := ⟨(-26), by decide +kernel, by decide, rfl⟩
theorem k58_31 : en_d 58 31 (.aload_n 0) 1 32 := ⟨by decide +kernel, rfl⟩
theorem k58_32 : en_d 58 32 (.iconst 0) 1 33 := ⟨by decide +kernel, rfl⟩
theorem k58_33 : en_dp 58 33 3 1 false .int 36 := ⟨15, by decide +kernel, by decide +kernel, by decide +kernel, rfl⟩
theorem k58_36 : en_d 58 36 .return_ 1 37 := ⟨by decide +kernel, rfl⟩
/-! 59: EndorsedLedger$Result.become(LEndorsedLedger$Result;)V -/
theorem k59_0 : en_d 59 0 (.aload_n 1) 1 1 := ⟨by decide +kernel, rfl⟩
theorem k59_1 : en_df 59 1 3 0 false true 4 := ⟨11, by decide +kernel, by decide +kernel, by decide +kernel, rfl⟩
theorem k59_4 : en_d 59 4 (.iconst 0) 1 5 := ⟨by decide +kernel, rfl⟩
theorem k59_5 : en_d 59 5 (.aload_n 0) 1 6 := ⟨by decide +kernel, rfl⟩
theorem k59_6 : en_df 59 6 3 0 false true 9 := ⟨11, by decide +kernel, by decide +kernel, by decide +kernel, rfl⟩
theorem k59_9 : en_d 59 9 (.iconst 0) 1 10 := ⟨by decide +kernel, rfl⟩
theorem k59_10 : en_d 59 10 (.bipush 80) 2 12 := ⟨by decide +kernel, rfl⟩
theorem k59_12 : en_dn 59 12 9 15 := ⟨22, by decide +kernel, by decide +kernel, rfl, by decide +kernel, by decide +kernel⟩
theorem k59_15 : en_d 59 15 (.aload_n 0) 1 16 := ⟨by decide +kernel, rfl⟩
theorem k59_16 : en_d 59 16 (.aload_n 1) 1 17 := ⟨by decide +kernel, rfl⟩
theorem k59_17 : en_df 59 17 3 1 false false 20 := ⟨15, by decide +kernel, by decide +kernel, by decide +kernel, rfl⟩
theorem k59_20 : en_dp 59 20 3 1 false .int 23 := ⟨15, by decide +kernel, by decide +kernel, by decide +kernel, rfl⟩
theorem k59_23 : en_d 59 23 .return_ 1 24 := ⟨by decide +kernel, rfl⟩
/-! 60: EndorsedLedger$Result.isSame(LEndorsedLedger$Result;)Z -/
theorem k60_0 : en_d 60 0 (.iconst 0) 1 1 := ⟨by decide +kernel, rfl⟩
theorem k60_1 : en_d 60 1 (.istore_n 2) 1 2 := ⟨by decide +kernel, rfl⟩
theorem k60_2 : en_d 60 2 (.iload_n 2) 1 3 := ⟨by decide +kernel, rfl⟩
theorem k60_3 : en_d 60 3 (.bipush 80) 2 5 := ⟨by decide +kernel, rfl⟩
theorem k60_5 : en_j 60 5 (.if_icmp .ge) 8 31 := ⟨26, by decide +kernel, by decide, rfl⟩
theorem k60_8 : en_d 60 8 (.aload_n 0) 1 9 := ⟨by decide +kernel, rfl⟩
theorem k60_9 : en_df 60 9 3 0 false true 12 := ⟨11, by decide +kernel, by decide +kernel, by decide +kernel, rfl⟩
theorem k60_12 : en_d 60 12 (.iload_n 2) 1 13 := ⟨by decide +kernel, rfl⟩
theorem k60_13 : en_d 60 13 .iaload 1 14 := ⟨by decide +kernel, rfl⟩
theorem k60_14 : en_d 60 14 (.aload_n 1) 1 15 := ⟨by decide +kernel, rfl⟩
theorem k60_15 : en_df 60 15 3 0 false true 18 := ⟨11, by decide +kernel, by decide +kernel, by decide +kernel, rfl⟩
theorem k60_18 : en_d 60 18 (.iload_n 2) 1 19 := ⟨by decide +kernel, rfl⟩
theorem k60_19 : en_d 60 19 .iaload 1 20 := ⟨by decide +kernel, rfl⟩
theorem k60_20 : en_j 60 20 (.if_icmp .eq) 23 25 := ⟨5, by decide +kernel, by decide, rfl⟩
theorem k60_23 : en_d 60 23 (.iconst 0) 1 24 := ⟨by decide +kernel, rfl⟩
theorem k60_24 : en_d 60 24 .ireturn 1 25 := ⟨by decide +kernel, rfl⟩
theorem k60_25 : en_d 60 25 (.iinc 2 1) 3 28 := ⟨by decide +kernel, rfl⟩
theorem k60_28 : en_j 60 28 .goto 31 2 := ⟨(-26), by decide +kernel, by decide, rfl⟩
theorem k60_31 : en_d 60 31 (.aload_n 0) 1 32 := ⟨by decide +kernel, rfl⟩
theorem k60_32 : en_df 60 32 3 1 false false 35 := ⟨15, by decide +kernel, by decide +kernel, by decide +kernel, rfl⟩
theorem k60_35 : en_d 60 35 (.aload_n 1) 1 36 := ⟨by decide +kernel, rfl⟩
theorem k60_36 : en_df 60 36 3 1 false false 39 := ⟨15, by decide +kernel, by decide +kernel, by decide +kernel, rfl⟩
theorem k60_39 : en_j 60 39 (.if_icmp .ne) 42 46 := ⟨7, by decide +kernel, by decide, rfl⟩
theorem k60_42 : en_d 60 42 (.iconst 1) 1 43 := ⟨by decide +kernel, rfl⟩
theorem k60_43 : en_j 60 43 .goto 46 47 := ⟨4, by decide +kernel, by decide, rfl⟩
theorem k60_46 : en_d 60 46 (.iconst 0) 1 47 := ⟨by decide +kernel, rfl⟩
theorem k60_47 : en_d 60 47 .ireturn 1 48 := ⟨by decide +kernel, rfl⟩
/-! 61: EndorsedLedger$Result.read(III)V -/
theorem k61_0 : en_d 61 0 (.aload_n 0) 1 1 := ⟨by decide +kernel, rfl⟩
theorem k61_1 : en_df 61 1 3 0 false true 4 := ⟨11, by decide +kernel, by decide +kernel, by decide +kernel, rfl⟩
theorem k61_4 : en_d 61 4 (.iload_n 1) 1 5 := ⟨by decide +kernel, rfl⟩
theorem k61_5 : en_d 61 5 (.bipush 16) 2 7 := ⟨by decide +kernel, rfl⟩
theorem k61_7 : en_d 61 7 .imul 1 8 := ⟨by decide +kernel, rfl⟩
theorem k61_8 : en_d 61 8 (.iload_n 2) 1 9 := ⟨by decide +kernel, rfl⟩
theorem k61_9 : en_d 61 9 .iadd 1 10 := ⟨by decide +kernel, rfl⟩
theorem k61_10 : en_d 61 10 (.iload_n 3) 1 11 := ⟨by decide +kernel, rfl⟩
theorem k61_11 : en_d 61 11 .iastore 1 12 := ⟨by decide +kernel, rfl⟩
theorem k61_12 : en_d 61 12 .return_ 1 13 := ⟨by decide +kernel, rfl⟩
/-! 62: EndorsedLedger$Result.write(III)V -/
theorem k62_0 : en_d 62 0 (.aload_n 0) 1 1 := ⟨by decide +kernel, rfl⟩
theorem k62_1 : en_df 62 1 3 0 false true 4 := ⟨11, by decide +kernel, by decide +kernel, by decide +kernel, rfl⟩
theorem k62_4 : en_d 62 4 (.bipush 48) 2 6 := ⟨by decide +kernel, rfl⟩
theorem k62_6 : en_d 62 6 (.iload_n 1) 1 7 := ⟨by decide +kernel, rfl⟩
theorem k62_7 : en_d 62 7 .iadd 1 8 := ⟨by decide +kernel, rfl⟩
theorem k62_8 : en_d 62 8 (.iload_n 2) 1 9 := ⟨by decide +kernel, rfl⟩
theorem k62_9 : en_d 62 9 .iastore 1 10 := ⟨by decide +kernel, rfl⟩
theorem k62_10 : en_d 62 10 (.aload_n 0) 1 11 := ⟨by decide +kernel, rfl⟩
theorem k62_11 : en_df 62 11 3 0 false true 14 := ⟨11, by decide +kernel, by decide +kernel, by decide +kernel, rfl⟩
theorem k62_14 : en_d 62 14 (.bipush 64) 2 16 := ⟨by decide +kernel, rfl⟩
theorem k62_16 : en_d 62 16 (.iload_n 1) 1 17 := ⟨by decide +kernel, rfl⟩
theorem k62_17 : en_d 62 17 .iadd 1 18 := ⟨by decide +kernel, rfl⟩
theorem k62_18 : en_d 62 18 (.iload_n 3) 1 19 := ⟨by decide +kernel, rfl⟩
theorem k62_19 : en_d 62 19 .iastore 1 20 := ⟨by decide +kernel, rfl⟩
theorem k62_20 : en_d 62 20 .return_ 1 21 := ⟨by decide +kernel, rfl⟩
/-! 63: EndorsedLedger$Result.readCount()I -/
theorem k63_0 : en_d 63 0 (.aload_n 0) 1 1 := ⟨by decide +kernel, rfl⟩
theorem k63_1 : en_d 63 1 (.iconst 0) 1 2 := ⟨by decide +kernel, rfl⟩
theorem k63_2 : en_d 63 2 (.iconst (-1)) 1 3 := ⟨by decide +kernel, rfl⟩
theorem k63_3 : en_dv 63 3 65 false 6 := ⟨28, by decide +kernel, by decide +kernel, rfl, by decide +kernel, by decide +kernel⟩
theorem k63_6 : en_d 63 6 .ireturn 1 7 := ⟨by decide +kernel, rfl⟩
/-! 64: EndorsedLedger$Result.writtenCount()I -/
theorem k64_0 : en_d 64 0 (.aload_n 0) 1 1 := ⟨by decide +kernel, rfl⟩
theorem k64_1 : en_d 64 1 (.iconst 3) 1 2 := ⟨by decide +kernel, rfl⟩
theorem k64_2 : en_d 64 2 (.iconst 0) 1 3 := ⟨by decide +kernel, rfl⟩
theorem k64_3 : en_dv 64 3 65 false 6 := ⟨28, by decide +kernel, by decide +kernel, rfl, by decide +kernel, by decide +kernel⟩
theorem k64_6 : en_d 64 6 .ireturn 1 7 := ⟨by decide +kernel, rfl⟩
/-! 65: EndorsedLedger$Result.countOtherThan(II)I -/
theorem k65_0 : en_d 65 0 (.iconst 0) 1 1 := ⟨by decide +kernel, rfl⟩
theorem k65_1 : en_d 65 1 (.istore_n 3) 1 2 := ⟨by decide +kernel, rfl⟩
theorem k65_2 : en_d 65 2 (.iconst 0) 1 3 := ⟨by decide +kernel, rfl⟩
theorem k65_3 : en_d 65 3 (.istore 4) 2 5 := ⟨by decide +kernel, rfl⟩
theorem k65_5 : en_d 65 5 (.iload 4) 2 7 := ⟨by decide +kernel, rfl⟩
theorem k65_7 : en_d 65 7 (.bipush 16) 2 9 := ⟨by decide +kernel, rfl⟩
theorem k65_9 : en_j 65 9 (.if_icmp .ge) 12 37 := ⟨28, by decide +kernel, by decide, rfl⟩
theorem k65_12 : en_d 65 12 (.aload_n 0) 1 13 := ⟨by decide +kernel, rfl⟩
theorem k65_13 : en_df 65 13 3 0 false true 16 := ⟨11, by decide +kernel, by decide +kernel, by decide +kernel, rfl⟩
theorem k65_16 : en_d 65 16 (.iload_n 1) 1 17 := ⟨by decide +kernel, rfl⟩
theorem k65_17 : en_d 65 17 (.bipush 16) 2 19 := ⟨by decide +kernel, rfl⟩
theorem k65_19 : en_d 65 19 .imul 1 20 := ⟨by decide +kernel, rfl⟩
theorem k65_20 : en_d 65 20 (.iload 4) 2 22 := ⟨by decide +kernel, rfl⟩
theorem k65_22 : en_d 65 22 .iadd 1 23 := ⟨by decide +kernel, rfl⟩
theorem k65_23 : en_d 65 23 .iaload 1 24 := ⟨by decide +kernel, rfl⟩
theorem k65_24 : en_d 65 24 (.iload_n 2) 1 25 := ⟨by decide +kernel, rfl⟩
theorem k65_25 : en_j 65 25 (.if_icmp .eq) 28 31 := ⟨6, by decide +kernel, by decide, rfl⟩
theorem k65_28 : en_d 65 28 (.iinc 3 1) 3 31 := ⟨by decide +kernel, rfl⟩
theorem k65_31 : en_d 65 31 (.iinc 4 1) 3 34 := ⟨by decide +kernel, rfl⟩
theorem k65_34 : en_j 65 34 .goto 37 5 := ⟨(-29), by decide +kernel, by decide, rfl⟩
theorem k65_37 : en_d 65 37 (.iload_n 3) 1 38 := ⟨by decide +kernel, rfl⟩
theorem k65_38 : en_d 65 38 .ireturn 1 39 := ⟨by decide +kernel, rfl⟩
/-! 66: EndorsedLedger$Result.readsHold(LEndorsedLedger$WorldState;)Z -/
theorem k66_0 : en_d 66 0 (.aload_n 0) 1 1 := ⟨by decide +kernel, rfl⟩
theorem k66_1 : en_d 66 1 (.iconst 0) 1 2 := ⟨by decide +kernel, rfl⟩
theorem k66_2 : en_d 66 2 (.aload_n 1) 1 3 := ⟨by decide +kernel, rfl⟩
theorem k66_3 : en_dv 66 3 68 false 6 := ⟨32, by decide +kernel, by decide +kernel, rfl, by decide +kernel, by decide +kernel⟩
theorem k66_6 : en_d 66 6 .ireturn 1 7 := ⟨by decide +kernel, rfl⟩
/-! 67: EndorsedLedger$Result.rangesHold(LEndorsedLedger$WorldState;)Z -/
theorem k67_0 : en_d 67 0 (.aload_n 0) 1 1 := ⟨by decide +kernel, rfl⟩
theorem k67_1 : en_d 67 1 (.iconst 1) 1 2 := ⟨by decide +kernel, rfl⟩
theorem k67_2 : en_d 67 2 (.aload_n 1) 1 3 := ⟨by decide +kernel, rfl⟩
theorem k67_3 : en_dv 67 3 68 false 6 := ⟨32, by decide +kernel, by decide +kernel, rfl, by decide +kernel, by decide +kernel⟩
theorem k67_6 : en_j 67 6 (.ifCond .eq) 9 22 := ⟨16, by decide +kernel, by decide, rfl⟩
theorem k67_9 : en_d 67 9 (.aload_n 0) 1 10 := ⟨by decide +kernel, rfl⟩
theorem k67_10 : en_d 67 10 (.iconst 2) 1 11 := ⟨by decide +kernel, rfl⟩
theorem k67_11 : en_d 67 11 (.aload_n 1) 1 12 := ⟨by decide +kernel, rfl⟩
theorem k67_12 : en_dv 67 12 68 false 15 := ⟨32, by decide +kernel, by decide +kernel, rfl, by decide +kernel, by decide +kernel⟩
theorem k67_15 : en_j 67 15 (.ifCond .eq) 18 22 := ⟨7, by decide +kernel, by decide, rfl⟩
theorem k67_18 : en_d 67 18 (.iconst 1) 1 19 := ⟨by decide +kernel, rfl⟩
theorem k67_19 : en_j 67 19 .goto 22 23 := ⟨4, by decide +kernel, by decide, rfl⟩
theorem k67_22 : en_d 67 22 (.iconst 0) 1 23 := ⟨by decide +kernel, rfl⟩
theorem k67_23 : en_d 67 23 .ireturn 1 24 := ⟨by decide +kernel, rfl⟩
/-! 68: EndorsedLedger$Result.versionsHold(ILEndorsedLedger$WorldState;)Z -/
theorem k68_0 : en_d 68 0 (.iconst 0) 1 1 := ⟨by decide +kernel, rfl⟩
theorem k68_1 : en_d 68 1 (.istore_n 3) 1 2 := ⟨by decide +kernel, rfl⟩
theorem k68_2 : en_d 68 2 (.iload_n 3) 1 3 := ⟨by decide +kernel, rfl⟩
theorem k68_3 : en_d 68 3 (.bipush 16) 2 5 := ⟨by decide +kernel, rfl⟩
theorem k68_5 : en_j 68 5 (.if_icmp .ge) 8 46 := ⟨41, by decide +kernel, by decide, rfl⟩
theorem k68_8 : en_d 68 8 (.aload_n 0) 1 9 := ⟨by decide +kernel, rfl⟩
theorem k68_9 : en_df 68 9 3 0 false true 12 := ⟨11, by decide +kernel, by decide +kernel, by decide +kernel, rfl⟩
theorem k68_12 : en_d 68 12 (.iload_n 1) 1 13 := ⟨by decide +kernel, rfl⟩
theorem k68_13 : en_d 68 13 (.bipush 16) 2 15 := ⟨by decide +kernel, rfl⟩
theorem k68_15 : en_d 68 15 .imul 1 16 := ⟨by decide +kernel, rfl⟩
theorem k68_16 : en_d 68 16 (.iload_n 3) 1 17 := ⟨by decide +kernel, rfl⟩
theorem k68_17 : en_d 68 17 .iadd 1 18 := ⟨by decide +kernel, rfl⟩
theorem k68_18 : en_d 68 18 .iaload 1 19 := ⟨by decide +kernel, rfl⟩
theorem k68_19 : en_d 68 19 (.istore 4) 2 21 := ⟨by decide +kernel, rfl⟩
theorem k68_21 : en_d 68 21 (.iload 4) 2 23 := ⟨by decide +kernel, rfl⟩
theorem k68_23 : en_d 68 23 (.iconst (-1)) 1 24 := ⟨by decide +kernel, rfl⟩
theorem k68_24 : en_j 68 24 (.if_icmp .eq) 27 40 := ⟨16, by decide +kernel, by decide, rfl⟩
theorem k68_27 : en_d 68 27 (.iload 4) 2 29 := ⟨by decide +kernel, rfl⟩
theorem k68_29 : en_d 68 29 (.aload_n 2) 1 30 := ⟨by decide +kernel, rfl⟩
theorem k68_30 : en_df 68 30 8 0 true true 33 := ⟨36, by decide +kernel, by decide +kernel, by decide +kernel, rfl⟩
theorem k68_33 : en_d 68 33 (.iload_n 3) 1 34 := ⟨by decide +kernel, rfl⟩
theorem k68_34 : en_d 68 34 .iaload 1 35 := ⟨by decide +kernel, rfl⟩
theorem k68_35 : en_j 68 35 (.if_icmp .eq) 38 40 := ⟨5, by decide +kernel, by decide, rfl⟩
theorem k68_38 : en_d 68 38 (.iconst 0) 1 39 := ⟨by decide +kernel, rfl⟩
theorem k68_39 : en_d 68 39 .ireturn 1 40 := ⟨by decide +kernel, rfl⟩
theorem k68_40 : en_d 68 40 (.iinc 3 1) 3 43 := ⟨by decide +kernel, rfl⟩
theorem k68_43 : en_j 68 43 .goto 46 2 := ⟨(-41), by decide +kernel, by decide, rfl⟩
theorem k68_46 : en_d 68 46 (.iconst 1) 1 47 := ⟨by decide +kernel, rfl⟩
theorem k68_47 : en_d 68 47 .ireturn 1 48 := ⟨by decide +kernel, rfl⟩
/-! 69: EndorsedLedger$Result.writeTo(LEndorsedLedger$WorldState;I)V -/
theorem k69_0 : en_d 69 0 (.iconst 0) 1 1 := ⟨by decide +kernel, rfl⟩
theorem k69_1 : en_d 69 1 (.istore_n 3) 1 2 := ⟨by decide +kernel, rfl⟩
theorem k69_2 : en_d 69 2 (.iload_n 3) 1 3 := ⟨by decide +kernel, rfl⟩
theorem k69_3 : en_d 69 3 (.bipush 16) 2 5 := ⟨by decide +kernel, rfl⟩
theorem k69_5 : en_j 69 5 (.if_icmp .ge) 8 62 := ⟨57, by decide +kernel, by decide, rfl⟩
theorem k69_8 : en_d 69 8 (.aload_n 0) 1 9 := ⟨by decide +kernel, rfl⟩
theorem k69_9 : en_df 69 9 3 0 false true 12 := ⟨11, by decide +kernel, by decide +kernel, by decide +kernel, rfl⟩
theorem k69_12 : en_d 69 12 (.bipush 48) 2 14 := ⟨by decide +kernel, rfl⟩
theorem k69_14 : en_d 69 14 (.iload_n 3) 1 15 := ⟨by decide +kernel, rfl⟩
theorem k69_15 : en_d 69 15 .iadd 1 16 := ⟨by decide +kernel, rfl⟩
theorem k69_16 : en_d 69 16 .iaload 1 17 := ⟨by decide +kernel, rfl⟩
theorem k69_17 : en_d 69 17 (.istore 4) 2 19 := ⟨by decide +kernel, rfl⟩
theorem k69_19 : en_d 69 19 (.iload 4) 2 21 := ⟨by decide +kernel, rfl⟩
theorem k69_21 : en_j 69 21 (.ifCond .eq) 24 56 := ⟨35, by decide +kernel, by decide, rfl⟩
theorem k69_24 : en_d 69 24 (.aload_n 1) 1 25 := ⟨by decide +kernel, rfl⟩
theorem k69_25 : en_df 69 25 8 0 true true 28 := ⟨36, by decide +kernel, by decide +kernel, by decide +kernel, rfl⟩
theorem k69_28 : en_d 69 28 (.iload_n 3) 1 29 := ⟨by decide +kernel, rfl⟩
theorem k69_29 : en_d 69 29 (.iload 4) 2 31 := ⟨by decide +kernel, rfl⟩
theorem k69_31 : en_d 69 31 (.iconst 2) 1 32 := ⟨by decide +kernel, rfl⟩
theorem k69_32 : en_j 69 32 (.if_icmp .ne) 35 39 := ⟨7, by decide +kernel, by decide, rfl⟩
theorem k69_35 : en_d 69 35 (.iconst 0) 1 36 := ⟨by decide +kernel, rfl⟩
theorem k69_36 : en_j 69 36 .goto 39 40 := ⟨4, by decide +kernel, by decide, rfl⟩
theorem k69_39 : en_d 69 39 (.iload_n 2) 1 40 := ⟨by decide +kernel, rfl⟩
theorem k69_40 : en_d 69 40 .iastore 1 41 := ⟨by decide +kernel, rfl⟩
theorem k69_41 : en_d 69 41 (.aload_n 1) 1 42 := ⟨by decide +kernel, rfl⟩
theorem k69_42 : en_df 69 42 8 1 true true 45 := ⟨41, by decide +kernel, by decide +kernel, by decide +kernel, rfl⟩
theorem k69_45 : en_d 69 45 (.iload_n 3) 1 46 := ⟨by decide +kernel, rfl⟩
theorem k69_46 : en_d 69 46 (.aload_n 0) 1 47 := ⟨by decide +kernel, rfl⟩
theorem k69_47 : en_df 69 47 3 0 false true 50 := ⟨11, by decide +kernel, by decide +kernel, by decide +kernel, rfl⟩
theorem k69_50 : en_d 69 50 (.bipush 64) 2 52 := ⟨by decide +kernel, rfl⟩
theorem k69_52 : en_d 69 52 (.iload_n 3) 1 53 := ⟨by decide +kernel, rfl⟩
theorem k69_53 : en_d 69 53 .iadd 1 54 := ⟨by decide +kernel, rfl⟩
theorem k69_54 : en_d 69 54 .iaload 1 55 := ⟨by decide +kernel, rfl⟩
theorem k69_55 : en_d 69 55 .iastore 1 56 := ⟨by decide +kernel, rfl⟩
theorem k69_56 : en_d 69 56 (.iinc 3 1) 3 59 := ⟨by decide +kernel, rfl⟩
theorem k69_59 : en_j 69 59 .goto 62 2 := ⟨(-57), by decide +kernel, by decide, rfl⟩
theorem k69_62 : en_d 69 62 .return_ 1 63 := ⟨by decide +kernel, rfl⟩
/-! 70: EndorsedLedger$Transaction.<init>()V -/
theorem k70_0 : en_d 70 0 (.aload_n 0) 1 1 := ⟨by decide +kernel, rfl⟩
theorem k70_1 : en_dn 70 1 6 4 := ⟨1, by decide +kernel, by decide +kernel, rfl, by decide +kernel, by decide +kernel⟩
theorem k70_4 : en_d 70 4 (.aload_n 0) 1 5 := ⟨by decide +kernel, rfl⟩
theorem k70_5 : en_d 70 5 (.iconst 0) 1 6 := ⟨by decide +kernel, rfl⟩
theorem k70_6 : en_dp 70 6 4 0 false .int 9 := ⟨7, by decide +kernel, by decide +kernel, by decide +kernel, rfl⟩
theorem k70_9 : en_d 70 9 (.aload_n 0) 1 10 := ⟨by decide +kernel, rfl⟩
theorem k70_10 : en_d 70 10 (.iconst 0) 1 11 := ⟨by decide +kernel, rfl⟩
theorem k70_11 : en_dp 70 11 4 1 false .int 14 := ⟨13, by decide +kernel, by decide +kernel, by decide +kernel, rfl⟩
theorem k70_14 : en_d 70 14 (.aload_n 0) 1 15 := ⟨by decide +kernel, rfl⟩
theorem k70_15 : en_d 70 15 (.iconst 0) 1 16 := ⟨by decide +kernel, rfl⟩
theorem k70_16 : en_dp 70 16 4 2 false .int 19 := ⟨16, by decide +kernel, by decide +kernel, by decide +kernel, rfl⟩
theorem k70_19 : en_d 70 19 (.aload_n 0) 1 20 := ⟨by decide +kernel, rfl⟩
theorem k70_20 : en_d 70 20 (.iconst 0) 1 21 := ⟨by decide +kernel, rfl⟩
theorem k70_21 : en_dp 70 21 4 3 false .boolean 24 := ⟨19, by decide +kernel, by decide +kernel, by decide +kernel, rfl⟩
theorem k70_24 : en_d 70 24 (.aload_n 0) 1 25 := ⟨by decide +kernel, rfl⟩
theorem k70_25 : en_dw 70 25 3 28 := ⟨23, by decide +kernel, by decide +kernel, rfl⟩
theorem k70_28 : en_d 70 28 .dup 1 29 := ⟨by decide +kernel, rfl⟩
theorem k70_29 : en_dI 70 29 57 true 32 := ⟨25, by decide +kernel, by decide +kernel, rfl, by decide +kernel, by decide +kernel⟩
theorem k70_32 : en_dp 70 32 4 4 false (.object "EndorsedLedger$Result") 35 := ⟨26, by decide +kernel, by decide +kernel, by decide +kernel, rfl⟩
theorem k70_35 : en_d 70 35 .return_ 1 36 := ⟨by decide +kernel, rfl⟩
/-! 71: EndorsedLedger$Transaction.isEndorsedBy(I)Z -/
theorem k71_0 : en_d 71 0 (.aload_n 0) 1 1 := ⟨by decide +kernel, rfl⟩
theorem k71_1 : en_df 71 1 4 2 false false 4 := ⟨16, by decide +kernel, by decide +kernel, by decide +kernel, rfl⟩
theorem k71_4 : en_d 71 4 (.iload_n 1) 1 5 := ⟨by decide +kernel, rfl⟩
theorem k71_5 : en_d 71 5 .ishr 1 6 := ⟨by decide +kernel, rfl⟩
theorem k71_6 : en_d 71 6 (.iconst 1) 1 7 := ⟨by decide +kernel, rfl⟩
theorem k71_7 : en_d 71 7 .iand 1 8 := ⟨by decide +kernel, rfl⟩
theorem k71_8 : en_d 71 8 (.iconst 1) 1 9 := ⟨by decide +kernel, rfl⟩
theorem k71_9 : en_j 71 9 (.if_icmp .ne) 12 16 := ⟨7, by decide +kernel, by decide, rfl⟩
theorem k71_12 : en_d 71 12 (.iconst 1) 1 13 := ⟨by decide +kernel, rfl⟩
theorem k71_13 : en_j 71 13 .goto 16 17 := ⟨4, by decide +kernel, by decide, rfl⟩
theorem k71_16 : en_d 71 16 (.iconst 0) 1 17 := ⟨by decide +kernel, rfl⟩
theorem k71_17 : en_d 71 17 .ireturn 1 18 := ⟨by decide +kernel, rfl⟩
/-! 72: EndorsedLedger$Transaction.hasResult()Z -/
theorem k72_0 : en_d 72 0 (.aload_n 0) 1 1 := ⟨by decide +kernel, rfl⟩
theorem k72_1 : en_df 72 1 4 2 false false 4 := ⟨16, by decide +kernel, by decide +kernel, by decide +kernel, rfl⟩
theorem k72_4 : en_j 72 4 (.ifCond .eq) 7 11 := ⟨7, by decide +kernel, by decide, rfl⟩
theorem k72_7 : en_d 72 7 (.iconst 1) 1 8 := ⟨by decide +kernel, rfl⟩
theorem k72_8 : en_j 72 8 .goto 11 12 := ⟨4, by decide +kernel, by decide, rfl⟩
theorem k72_11 : en_d 72 11 (.iconst 0) 1 12 := ⟨by decide +kernel, rfl⟩
theorem k72_12 : en_d 72 12 .ireturn 1 13 := ⟨by decide +kernel, rfl⟩
/-! 73: EndorsedLedger$Block.<init>()V -/
theorem k73_0 : en_d 73 0 (.aload_n 0) 1 1 := ⟨by decide +kernel, rfl⟩
theorem k73_1 : en_dn 73 1 6 4 := ⟨3, by decide +kernel, by decide +kernel, rfl, by decide +kernel, by decide +kernel⟩
theorem k73_4 : en_d 73 4 (.aload_n 0) 1 5 := ⟨by decide +kernel, rfl⟩
theorem k73_5 : en_d 73 5 (.iconst 4) 1 6 := ⟨by decide +kernel, rfl⟩
theorem k73_6 : en_d 73 6 (.newarray .int) 2 8 := ⟨by decide +kernel, rfl⟩
theorem k73_8 : en_dp 73 8 5 0 false (.array .int) 11 := ⟨9, by decide +kernel, by decide +kernel, by decide +kernel, rfl⟩
theorem k73_11 : en_d 73 11 (.aload_n 0) 1 12 := ⟨by decide +kernel, rfl⟩
theorem k73_12 : en_d 73 12 (.iconst 0) 1 13 := ⟨by decide +kernel, rfl⟩
theorem k73_13 : en_dp 73 13 5 1 false .int 16 := ⟨15, by decide +kernel, by decide +kernel, by decide +kernel, rfl⟩
theorem k73_16 : en_d 73 16 (.aload_n 0) 1 17 := ⟨by decide +kernel, rfl⟩
theorem k73_17 : en_d 73 17 (.iconst 0) 1 18 := ⟨by decide +kernel, rfl⟩
theorem k73_18 : en_dp 73 18 5 2 false .int 21 := ⟨19, by decide +kernel, by decide +kernel, by decide +kernel, rfl⟩
theorem k73_21 : en_d 73 21 .return_ 1 22 := ⟨by decide +kernel, rfl⟩
/-! 74: EndorsedLedger$Block.fill([III)V -/
theorem k74_0 : en_d 74 0 (.aload_n 1) 1 1 := ⟨by decide +kernel, rfl⟩
theorem k74_1 : en_d 74 1 (.iconst 0) 1 2 := ⟨by decide +kernel, rfl⟩
theorem k74_2 : en_d 74 2 (.aload_n 0) 1 3 := ⟨by decide +kernel, rfl⟩
theorem k74_3 : en_df 74 3 5 0 false true 6 := ⟨9, by decide +kernel, by decide +kernel, by decide +kernel, rfl⟩
theorem k74_6 : en_d 74 6 (.iconst 0) 1 7 := ⟨by decide +kernel, rfl⟩
theorem k74_7 : en_d 74 7 (.iload_n 2) 1 8 := ⟨by decide +kernel, rfl⟩
theorem k74_8 : en_dn 74 8 9 11 := ⟨22, by decide +kernel, by decide +kernel, rfl, by decide +kernel, by decide +kernel⟩
theorem k74_11 : en_d 74 11 (.aload_n 0) 1 12 := ⟨by decide +kernel, rfl⟩
theorem k74_12 : en_d 74 12 (.iload_n 2) 1 13 := ⟨by decide +kernel, rfl⟩
theorem k74_13 : en_dp 74 13 5 1 false .int 16 := ⟨15, by decide +kernel, by decide +kernel, by decide +kernel, rfl⟩
theorem k74_16 : en_d 74 16 (.aload_n 0) 1 17 := ⟨by decide +kernel, rfl⟩
theorem k74_17 : en_d 74 17 (.iload_n 3) 1 18 := ⟨by decide +kernel, rfl⟩
theorem k74_18 : en_dp 74 18 5 2 false .int 21 := ⟨19, by decide +kernel, by decide +kernel, by decide +kernel, rfl⟩
theorem k74_21 : en_d 74 21 .return_ 1 22 := ⟨by decide +kernel, rfl⟩
/-! 75: EndorsedLedger$Block.transactionAt(I)I -/
theorem k75_0 : en_d 75 0 (.iload_n 1) 1 1 := ⟨by decide +kernel, rfl⟩
theorem k75_1 : en_d 75 1 (.aload_n 0) 1 2 := ⟨by decide +kernel, rfl⟩
theorem k75_2 : en_df 75 2 5 1 false false 5 := ⟨15, by decide +kernel, by decide +kernel, by decide +kernel, rfl⟩
theorem k75_5 : en_dS 75 5 19 true 8 := ⟨28, by decide +kernel, by decide +kernel, rfl, by decide +kernel, by decide +kernel⟩
theorem k75_8 : en_j 75 8 (.ifCond .eq) 11 20 := ⟨12, by decide +kernel, by decide, rfl⟩
theorem k75_11 : en_d 75 11 (.aload_n 0) 1 12 := ⟨by decide +kernel, rfl⟩
theorem k75_12 : en_df 75 12 5 0 false true 15 := ⟨9, by decide +kernel, by decide +kernel, by decide +kernel, rfl⟩
theorem k75_15 : en_d 75 15 (.iload_n 1) 1 16 := ⟨by decide +kernel, rfl⟩
theorem k75_16 : en_d 75 16 .iaload 1 17 := ⟨by decide +kernel, rfl⟩
theorem k75_17 : en_j 75 17 .goto 20 21 := ⟨4, by decide +kernel, by decide, rfl⟩
theorem k75_20 : en_d 75 20 (.iconst (-1)) 1 21 := ⟨by decide +kernel, rfl⟩
theorem k75_21 : en_d 75 21 .ireturn 1 22 := ⟨by decide +kernel, rfl⟩
/-! 76: EndorsedLedger$Block.hasAmongFirst(II)Z -/
theorem k76_0 : en_d 76 0 (.iconst 0) 1 1 := ⟨by decide +kernel, rfl⟩
theorem k76_1 : en_d 76 1 (.istore_n 3) 1 2 := ⟨by decide +kernel, rfl⟩
theorem k76_2 : en_d 76 2 (.iload_n 3) 1 3 := ⟨by decide +kernel, rfl⟩
theorem k76_3 : en_d 76 3 (.iload_n 1) 1 4 := ⟨by decide +kernel, rfl⟩
theorem k76_4 : en_j 76 4 (.if_icmp .ge) 7 25 := ⟨21, by decide +kernel, by decide, rfl⟩
theorem k76_7 : en_d 76 7 (.aload_n 0) 1 8 := ⟨by decide +kernel, rfl⟩
theorem k76_8 : en_df 76 8 5 0 false true 11 := ⟨9, by decide +kernel, by decide +kernel, by decide +kernel, rfl⟩
theorem k76_11 : en_d 76 11 (.iload_n 3) 1 12 := ⟨by decide +kernel, rfl⟩
theorem k76_12 : en_d 76 12 .iaload 1 13 := ⟨by decide +kernel, rfl⟩
theorem k76_13 : en_d 76 13 (.iload_n 2) 1 14 := ⟨by decide +kernel, rfl⟩
theorem k76_14 : en_j 76 14 (.if_icmp .ne) 17 19 := ⟨5, by decide +kernel, by decide, rfl⟩
theorem k76_17 : en_d 76 17 (.iconst 1) 1 18 := ⟨by decide +kernel, rfl⟩
theorem k76_18 : en_d 76 18 .ireturn 1 19 := ⟨by decide +kernel, rfl⟩
theorem k76_19 : en_d 76 19 (.iinc 3 1) 3 22 := ⟨by decide +kernel, rfl⟩
theorem k76_22 : en_j 76 22 .goto 25 2 := ⟨(-20), by decide +kernel, by decide, rfl⟩
theorem k76_25 : en_d 76 25 (.iconst 0) 1 26 := ⟨by decide +kernel, rfl⟩
theorem k76_26 : en_d 76 26 .ireturn 1 27 := ⟨by decide +kernel, rfl⟩
/-! 77: EndorsedLedger$BlockList.<init>()V -/
theorem k77_0 : en_d 77 0 (.aload_n 0) 1 1 := ⟨by decide +kernel, rfl⟩
theorem k77_1 : en_dn 77 1 6 4 := ⟨3, by decide +kernel, by decide +kernel, rfl, by decide +kernel, by decide +kernel⟩
theorem k77_4 : en_d 77 4 (.aload_n 0) 1 5 := ⟨by decide +kernel, rfl⟩
theorem k77_5 : en_d 77 5 (.bipush 40) 2 7 := ⟨by decide +kernel, rfl⟩
theorem k77_7 : en_d 77 7 (.newarray .int) 2 9 := ⟨by decide +kernel, rfl⟩
theorem k77_9 : en_dp 77 9 6 0 false (.array .int) 12 := ⟨9, by decide +kernel, by decide +kernel, by decide +kernel, rfl⟩
theorem k77_12 : en_d 77 12 (.aload_n 0) 1 13 := ⟨by decide +kernel, rfl⟩
theorem k77_13 : en_d 77 13 (.iconst 0) 1 14 := ⟨by decide +kernel, rfl⟩
theorem k77_14 : en_dp 77 14 6 1 false .int 17 := ⟨15, by decide +kernel, by decide +kernel, by decide +kernel, rfl⟩
theorem k77_17 : en_d 77 17 .return_ 1 18 := ⟨by decide +kernel, rfl⟩
/-! 78: EndorsedLedger$BlockList.add(I)V -/
theorem k78_0 : en_d 78 0 (.aload_n 0) 1 1 := ⟨by decide +kernel, rfl⟩
theorem k78_1 : en_df 78 1 6 1 false false 4 := ⟨15, by decide +kernel, by decide +kernel, by decide +kernel, rfl⟩
theorem k78_4 : en_d 78 4 (.bipush 40) 2 6 := ⟨by decide +kernel, rfl⟩
theorem k78_6 : en_j 78 6 (.if_icmp .ge) 9 29 := ⟨23, by decide +kernel, by decide, rfl⟩
theorem k78_9 : en_d 78 9 (.aload_n 0) 1 10 := ⟨by decide +kernel, rfl⟩
theorem k78_10 : en_df 78 10 6 0 false true 13 := ⟨9, by decide +kernel, by decide +kernel, by decide +kernel, rfl⟩
theorem k78_13 : en_d 78 13 (.aload_n 0) 1 14 := ⟨by decide +kernel, rfl⟩
theorem k78_14 : en_df 78 14 6 1 false false 17 := ⟨15, by decide +kernel, by decide +kernel, by decide +kernel, rfl⟩
theorem k78_17 : en_d 78 17 (.iload_n 1) 1 18 := ⟨by decide +kernel, rfl⟩
theorem k78_18 : en_d 78 18 .iastore 1 19 := ⟨by decide +kernel, rfl⟩
theorem k78_19 : en_d 78 19 (.aload_n 0) 1 20 := ⟨by decide +kernel, rfl⟩
theorem k78_20 : en_d 78 20 .dup 1 21 := ⟨by decide +kernel, rfl⟩
theorem k78_21 : en_df 78 21 6 1 false false 24 := ⟨15, by decide +kernel, by decide +kernel, by decide +kernel, rfl⟩
theorem k78_24 : en_d 78 24 (.iconst 1) 1 25 := ⟨by decide +kernel, rfl⟩
theorem k78_25 : en_d 78 25 .iadd 1 26 := ⟨by decide +kernel, rfl⟩
theorem k78_26 : en_dp 78 26 6 1 false .int 29 := ⟨15, by decide +kernel, by decide +kernel, by decide +kernel, rfl⟩
theorem k78_29 : en_d 78 29 .return_ 1 30 := ⟨by decide +kernel, rfl⟩
/-! 79: EndorsedLedger$BlockList.sameAtBeginning(LEndorsedLedger$BlockList;)I -/
theorem k79_0 : en_d 79 0 (.aload_n 0) 1 1 := ⟨by decide +kernel, rfl⟩
theorem k79_1 : en_df 79 1 6 1 false false 4 := ⟨15, by decide +kernel, by decide +kernel, by decide +kernel, rfl⟩
theorem k79_4 : en_d 79 4 (.aload_n 1) 1 5 := ⟨by decide +kernel, rfl⟩
theorem k79_5 : en_df 79 5 6 1 false false 8 := ⟨15, by decide +kernel, by decide +kernel, by decide +kernel, rfl⟩
theorem k79_8 : en_dn 79 8 8 11 := ⟨19, by decide +kernel, by decide +kernel, rfl, by decide +kernel, by decide +kernel⟩
theorem k79_11 : en_d 79 11 (.istore_n 2) 1 12 := ⟨by decide +kernel, rfl⟩
theorem k79_12 : en_d 79 12 (.iconst 0) 1 13 := ⟨by decide +kernel, rfl⟩
theorem k79_13 : en_d 79 13 (.istore_n 3) 1 14 := ⟨by decide +kernel, rfl⟩
theorem k79_14 : en_d 79 14 (.iload_n 3) 1 15 := ⟨by decide +kernel, rfl⟩
theorem k79_15 : en_d 79 15 (.iload_n 2) 1 16 := ⟨by decide +kernel, rfl⟩
theorem k79_16 : en_j 79 16 (.if_icmp .ge) 19 42 := ⟨26, by decide +kernel, by decide, rfl⟩
theorem k79_19 : en_d 79 19 (.aload_n 0) 1 20 := ⟨by decide +kernel, rfl⟩
theorem k79_20 : en_df 79 20 6 0 false true 23 := ⟨9, by decide +kernel, by decide +kernel, by decide +kernel, rfl⟩
theorem k79_23 : en_d 79 23 (.iload_n 3) 1 24 := ⟨by decide +kernel, rfl⟩
theorem k79_24 : en_d 79 24 .iaload 1 25 := ⟨by decide +kernel, rfl⟩
theorem k79_25 : en_d 79 25 (.aload_n 1) 1 26 := ⟨by decide +kernel, rfl⟩
theorem k79_26 : en_df 79 26 6 0 false true 29 := ⟨9, by decide +kernel, by decide +kernel, by decide +kernel, rfl⟩
theorem k79_29 : en_d 79 29 (.iload_n 3) 1 30 := ⟨by decide +kernel, rfl⟩
theorem k79_30 : en_d 79 30 .iaload 1 31 := ⟨by decide +kernel, rfl⟩
theorem k79_31 : en_j 79 31 (.if_icmp .eq) 34 36 := ⟨5, by decide +kernel, by decide, rfl⟩
theorem k79_34 : en_d 79 34 (.iload_n 3) 1 35 := ⟨by decide +kernel, rfl⟩
theorem k79_35 : en_d 79 35 .ireturn 1 36 := ⟨by decide +kernel, rfl⟩
theorem k79_36 : en_d 79 36 (.iinc 3 1) 3 39 := ⟨by decide +kernel, rfl⟩
theorem k79_39 : en_j 79 39 .goto 42 14 := ⟨(-25), by decide +kernel, by decide, rfl⟩
theorem k79_42 : en_d 79 42 (.iload_n 2) 1 43 := ⟨by decide +kernel, rfl⟩
theorem k79_43 : en_d 79 43 .ireturn 1 44 := ⟨by decide +kernel, rfl⟩
/-! 80: EndorsedLedger$BlockList.becomeFirst(LEndorsedLedger$BlockList;I)V -/
theorem k80_0 : en_d 80 0 (.aload_n 1) 1 1 := ⟨by decide +kernel, rfl⟩
theorem k80_1 : en_df 80 1 6 0 false true 4 := ⟨9, by decide +kernel, by decide +kernel, by decide +kernel, rfl⟩
theorem k80_4 : en_d 80 4 (.iconst 0) 1 5 := ⟨by decide +kernel, rfl⟩
theorem k80_5 : en_d 80 5 (.aload_n 0) 1 6 := ⟨by decide +kernel, rfl⟩
theorem k80_6 : en_df 80 6 6 0 false true 9 := ⟨9, by decide +kernel, by decide +kernel, by decide +kernel, rfl⟩
theorem k80_9 : en_d 80 9 (.iconst 0) 1 10 := ⟨by decide +kernel, rfl⟩
theorem k80_10 : en_d 80 10 (.iload_n 2) 1 11 := ⟨by decide +kernel, rfl⟩
theorem k80_11 : en_dn 80 11 9 14 := ⟨25, by decide +kernel, by decide +kernel, rfl, by decide +kernel, by decide +kernel⟩
theorem k80_14 : en_d 80 14 (.aload_n 0) 1 15 := ⟨by decide +kernel, rfl⟩
theorem k80_15 : en_d 80 15 (.iload_n 2) 1 16 := ⟨by decide +kernel, rfl⟩
theorem k80_16 : en_dp 80 16 6 1 false .int 19 := ⟨15, by decide +kernel, by decide +kernel, by decide +kernel, rfl⟩
theorem k80_19 : en_d 80 19 .return_ 1 20 := ⟨by decide +kernel, rfl⟩
/-! 81: EndorsedLedger$Orderer.<init>()V -/
theorem k81_0 : en_d 81 0 (.aload_n 0) 1 1 := ⟨by decide +kernel, rfl⟩
theorem k81_1 : en_dn 81 1 6 4 := ⟨1, by decide +kernel, by decide +kernel, rfl, by decide +kernel, by decide +kernel⟩
theorem k81_4 : en_d 81 4 (.aload_n 0) 1 5 := ⟨by decide +kernel, rfl⟩
theorem k81_5 : en_d 81 5 (.iconst 1) 1 6 := ⟨by decide +kernel, rfl⟩
theorem k81_6 : en_dp 81 6 7 0 false .boolean 9 := ⟨7, by decide +kernel, by decide +kernel, by decide +kernel, rfl⟩
theorem k81_9 : en_d 81 9 (.aload_n 0) 1 10 := ⟨by decide +kernel, rfl⟩
theorem k81_10 : en_d 81 10 (.iconst 0) 1 11 := ⟨by decide +kernel, rfl⟩
theorem k81_11 : en_dp 81 11 7 1 false .int 14 := ⟨13, by decide +kernel, by decide +kernel, by decide +kernel, rfl⟩
theorem k81_14 : en_d 81 14 (.aload_n 0) 1 15 := ⟨by decide +kernel, rfl⟩
theorem k81_15 : en_dw 81 15 6 18 := ⟨17, by decide +kernel, by decide +kernel, rfl⟩
theorem k81_18 : en_d 81 18 .dup 1 19 := ⟨by decide +kernel, rfl⟩
theorem k81_19 : en_dI 81 19 77 true 22 := ⟨19, by decide +kernel, by decide +kernel, rfl, by decide +kernel, by decide +kernel⟩
theorem k81_22 : en_dp 81 22 7 2 false (.object "EndorsedLedger$BlockList") 25 := ⟨20, by decide +kernel, by decide +kernel, by decide +kernel, rfl⟩
theorem k81_25 : en_d 81 25 .return_ 1 26 := ⟨by decide +kernel, rfl⟩
/-! 82: EndorsedLedger$WorldState.<init>()V -/
theorem k82_0 : en_d 82 0 (.aload_n 0) 1 1 := ⟨by decide +kernel, rfl⟩
theorem k82_1 : en_dn 82 1 6 4 := ⟨3, by decide +kernel, by decide +kernel, rfl, by decide +kernel, by decide +kernel⟩
theorem k82_4 : en_d 82 4 (.aload_n 0) 1 5 := ⟨by decide +kernel, rfl⟩
theorem k82_5 : en_d 82 5 (.bipush 16) 2 7 := ⟨by decide +kernel, rfl⟩
theorem k82_7 : en_d 82 7 (.newarray .int) 2 9 := ⟨by decide +kernel, rfl⟩
theorem k82_9 : en_dp 82 9 8 0 false (.array .int) 12 := ⟨9, by decide +kernel, by decide +kernel, by decide +kernel, rfl⟩
theorem k82_12 : en_d 82 12 (.aload_n 0) 1 13 := ⟨by decide +kernel, rfl⟩
theorem k82_13 : en_d 82 13 (.bipush 16) 2 15 := ⟨by decide +kernel, rfl⟩
theorem k82_15 : en_d 82 15 (.newarray .int) 2 17 := ⟨by decide +kernel, rfl⟩
theorem k82_17 : en_dp 82 17 8 1 false (.array .int) 20 := ⟨15, by decide +kernel, by decide +kernel, by decide +kernel, rfl⟩
theorem k82_20 : en_d 82 20 (.aload_n 0) 1 21 := ⟨by decide +kernel, rfl⟩
theorem k82_21 : en_d 82 21 (.iconst 0) 1 22 := ⟨by decide +kernel, rfl⟩
theorem k82_22 : en_dp 82 22 8 2 false .int 25 := ⟨18, by decide +kernel, by decide +kernel, by decide +kernel, rfl⟩
theorem k82_25 : en_d 82 25 .return_ 1 26 := ⟨by decide +kernel, rfl⟩
/-! 83: EndorsedLedger$WorldState.become(LEndorsedLedger$WorldState;)V -/
theorem k83_0 : en_d 83 0 (.aload_n 1) 1 1 := ⟨by decide +kernel, rfl⟩
theorem k83_1 : en_df 83 1 8 0 false true 4 := ⟨9, by decide +kernel, by decide +kernel, by decide +kernel, rfl⟩
theorem k83_4 : en_d 83 4 (.iconst 0) 1 5 := ⟨by decide +kernel, rfl⟩
theorem k83_5 : en_d 83 5 (.aload_n 0) 1 6 := ⟨by decide +kernel, rfl⟩
theorem k83_6 : en_df 83 6 8 0 false true 9 := ⟨9, by decide +kernel, by decide +kernel, by decide +kernel, rfl⟩
theorem k83_9 : en_d 83 9 (.iconst 0) 1 10 := ⟨by decide +kernel, rfl⟩
theorem k83_10 : en_d 83 10 (.bipush 16) 2 12 := ⟨by decide +kernel, rfl⟩
theorem k83_12 : en_dn 83 12 9 15 := ⟨22, by decide +kernel, by decide +kernel, rfl, by decide +kernel, by decide +kernel⟩
theorem k83_15 : en_d 83 15 (.aload_n 1) 1 16 := ⟨by decide +kernel, rfl⟩
theorem k83_16 : en_df 83 16 8 1 false true 19 := ⟨15, by decide +kernel, by decide +kernel, by decide +kernel, rfl⟩
theorem k83_19 : en_d 83 19 (.iconst 0) 1 20 := ⟨by decide +kernel, rfl⟩
theorem k83_20 : en_d 83 20 (.aload_n 0) 1 21 := ⟨by decide +kernel, rfl⟩
theorem k83_21 : en_df 83 21 8 1 false true 24 := ⟨15, by decide +kernel, by decide +kernel, by decide +kernel, rfl⟩
theorem k83_24 : en_d 83 24 (.iconst 0) 1 25 := ⟨by decide +kernel, rfl⟩
theorem k83_25 : en_d 83 25 (.bipush 16) 2 27 := ⟨by decide +kernel, rfl⟩
theorem k83_27 : en_dn 83 27 9 30 := ⟨22, by decide +kernel, by decide +kernel, rfl, by decide +kernel, by decide +kernel⟩
theorem k83_30 : en_d 83 30 (.aload_n 0) 1 31 := ⟨by decide +kernel, rfl⟩
theorem k83_31 : en_d 83 31 (.aload_n 1) 1 32 := ⟨by decide +kernel, rfl⟩
theorem k83_32 : en_df 83 32 8 2 false false 35 := ⟨18, by decide +kernel, by decide +kernel, by decide +kernel, rfl⟩
theorem k83_35 : en_dp 83 35 8 2 false .int 38 := ⟨18, by decide +kernel, by decide +kernel, by decide +kernel, rfl⟩
theorem k83_38 : en_d 83 38 .return_ 1 39 := ⟨by decide +kernel, rfl⟩
/-! 84: EndorsedLedger$Peer.<init>()V -/
theorem k84_0 : en_d 84 0 (.aload_n 0) 1 1 := ⟨by decide +kernel, rfl⟩
theorem k84_1 : en_dn 84 1 6 4 := ⟨3, by decide +kernel, by decide +kernel, rfl, by decide +kernel, by decide +kernel⟩
theorem k84_4 : en_d 84 4 (.aload_n 0) 1 5 := ⟨by decide +kernel, rfl⟩
theorem k84_5 : en_d 84 5 (.iconst 1) 1 6 := ⟨by decide +kernel, rfl⟩
theorem k84_6 : en_dp 84 6 9 0 false .boolean 9 := ⟨9, by decide +kernel, by decide +kernel, by decide +kernel, rfl⟩
theorem k84_9 : en_d 84 9 (.aload_n 0) 1 10 := ⟨by decide +kernel, rfl⟩
theorem k84_10 : en_d 84 10 (.iconst 0) 1 11 := ⟨by decide +kernel, rfl⟩
theorem k84_11 : en_dp 84 11 9 1 false .int 14 := ⟨15, by decide +kernel, by decide +kernel, by decide +kernel, rfl⟩
theorem k84_14 : en_d 84 14 (.aload_n 0) 1 15 := ⟨by decide +kernel, rfl⟩
theorem k84_15 : en_dw 84 15 8 18 := ⟨19, by decide +kernel, by decide +kernel, rfl⟩
theorem k84_18 : en_d 84 18 .dup 1 19 := ⟨by decide +kernel, rfl⟩
theorem k84_19 : en_dI 84 19 82 true 22 := ⟨21, by decide +kernel, by decide +kernel, rfl, by decide +kernel, by decide +kernel⟩
theorem k84_22 : en_dp 84 22 9 2 false (.object "EndorsedLedger$WorldState") 25 := ⟨22, by decide +kernel, by decide +kernel, by decide +kernel, rfl⟩
theorem k84_25 : en_d 84 25 (.aload_n 0) 1 26 := ⟨by decide +kernel, rfl⟩
theorem k84_26 : en_dw 84 26 8 29 := ⟨19, by decide +kernel, by decide +kernel, rfl⟩
theorem k84_29 : en_d 84 29 .dup 1 30 := ⟨by decide +kernel, rfl⟩
theorem k84_30 : en_dI 84 30 82 true 33 := ⟨21, by decide +kernel, by decide +kernel, rfl, by decide +kernel, by decide +kernel⟩
theorem k84_33 : en_dp 84 33 9 3 false (.object "EndorsedLedger$WorldState") 36 := ⟨26, by decide +kernel, by decide +kernel, by decide +kernel, rfl⟩
theorem k84_36 : en_d 84 36 (.aload_n 0) 1 37 := ⟨by decide +kernel, rfl⟩
theorem k84_37 : en_d 84 37 (.sipush 160) 3 40 := ⟨by decide +kernel, rfl⟩
theorem k84_40 : en_d 84 40 (.newarray .int) 2 42 := ⟨by decide +kernel, rfl⟩
theorem k84_42 : en_dp 84 42 9 4 false (.array .int) 45 := ⟨29, by decide +kernel, by decide +kernel, by decide +kernel, rfl⟩
theorem k84_45 : en_d 84 45 .return_ 1 46 := ⟨by decide +kernel, rfl⟩
/-! 85: EndorsedLedger$Peer.finishBlock()V -/
theorem k85_0 : en_d 85 0 (.aload_n 0) 1 1 := ⟨by decide +kernel, rfl⟩
theorem k85_1 : en_df 85 1 9 2 false true 4 := ⟨22, by decide +kernel, by decide +kernel, by decide +kernel, rfl⟩
theorem k85_4 : en_d 85 4 .dup 1 5 := ⟨by decide +kernel, rfl⟩
theorem k85_5 : en_df 85 5 8 2 true false 8 := ⟨33, by decide +kernel, by decide +kernel, by decide +kernel, rfl⟩
theorem k85_8 : en_d 85 8 (.iconst 1) 1 9 := ⟨by decide +kernel, rfl⟩
theorem k85_9 : en_d 85 9 .iadd 1 10 := ⟨by decide +kernel, rfl⟩
theorem k85_10 : en_dp 85 10 8 2 true .int 13 := ⟨33, by decide +kernel, by decide +kernel, by decide +kernel, rfl⟩
theorem k85_13 : en_d 85 13 (.aload_n 0) 1 14 := ⟨by decide +kernel, rfl⟩
theorem k85_14 : en_df 85 14 9 2 false true 17 := ⟨22, by decide +kernel, by decide +kernel, by decide +kernel, rfl⟩
theorem k85_17 : en_df 85 17 8 2 true false 20 := ⟨33, by decide +kernel, by decide +kernel, by decide +kernel, rfl⟩
theorem k85_20 : en_d 85 20 (.iconst 4) 1 21 := ⟨by decide +kernel, rfl⟩
theorem k85_21 : en_d 85 21 .irem 1 22 := ⟨by decide +kernel, rfl⟩
theorem k85_22 : en_j 85 22 (.ifCond .ne) 25 36 := ⟨14, by decide +kernel, by decide, rfl⟩
theorem k85_25 : en_d 85 25 (.aload_n 0) 1 26 := ⟨by decide +kernel, rfl⟩
theorem k85_26 : en_df 85 26 9 3 false true 29 := ⟨26, by decide +kernel, by decide +kernel, by decide +kernel, rfl⟩
theorem k85_29 : en_d 85 29 (.aload_n 0) 1 30 := ⟨by decide +kernel, rfl⟩
theorem k85_30 : en_df 85 30 9 2 false true 33 := ⟨22, by decide +kernel, by decide +kernel, by decide +kernel, rfl⟩
theorem k85_33 : en_dv 85 33 83 true 36 := ⟨36, by decide +kernel, by decide +kernel, rfl, by decide +kernel, by decide +kernel⟩
theorem k85_36 : en_d 85 36 .return_ 1 37 := ⟨by decide +kernel, rfl⟩
end
section
/-! 0: EndorsedLedger.<init>()V -/
theorem k0_0 : en_d 0 0 (.aload_n 0) 1 1 := ⟨by decide +kernel, rfl⟩
theorem k0_1 : en_dn 0 1 6 4 := ⟨1, by decide +kernel, by decide +kernel, rfl, by decide +kernel, by decide +kernel⟩
theorem k0_4 : en_d 0 4 (.aload_n 0) 1 5 := ⟨by decide +kernel, rfl⟩
theorem k0_5 : en_d 0 5 (.iconst 4) 1 6 := ⟨by decide +kernel, rfl⟩
theorem k0_6 : en_dq 0 6 (0 + 2) 9 := ⟨9, by decide +kernel, by decide +kernel, rfl⟩
theorem k0_9 : en_dp 0 9 0 0 false (.array (.object "EndorsedLedger$Program")) 12 := ⟨11, by decide +kernel, by decide +kernel, by decide +kernel, rfl⟩
theorem k0_12 : en_d 0 12 (.aload_n 0) 1 13 := ⟨by decide +kernel, rfl⟩
theorem k0_13 : en_d 0 13 (.bipush 60) 2 15 := ⟨by decide +kernel, rfl⟩
theorem k0_15 : en_dq 0 15 (1 + 2) 18 := ⟨15, by decide +kernel, by decide +kernel, rfl⟩
theorem k0_18 : en_dp 0 18 0 1 false (.array (.object "EndorsedLedger$Transaction")) 21 := ⟨17, by decide +kernel, by decide +kernel, by decide +kernel, rfl⟩
theorem k0_21 : en_d 0 21 (.aload_n 0) 1 22 := ⟨by decide +kernel, rfl⟩
theorem k0_22 : en_d 0 22 (.iconst 0) 1 23 := ⟨by decide +kernel, rfl⟩
theorem k0_23 : en_dp 0 23 0 2 false .int 26 := ⟨21, by decide +kernel, by decide +kernel, by decide +kernel, rfl⟩
theorem k0_26 : en_d 0 26 (.aload_n 0) 1 27 := ⟨by decide +kernel, rfl⟩
theorem k0_27 : en_d 0 27 (.bipush 20) 2 29 := ⟨by decide +kernel, rfl⟩
theorem k0_29 : en_d 0 29 (.newarray .int) 2 31 := ⟨by decide +kernel, rfl⟩
theorem k0_31 : en_dp 0 31 0 3 false (.array .int) 34 := ⟨25, by decide +kernel, by decide +kernel, by decide +kernel, rfl⟩
theorem k0_34 : en_d 0 34 (.aload_n 0) 1 35 := ⟨by decide +kernel, rfl⟩
theorem k0_35 : en_d 0 35 (.iconst 0) 1 36 := ⟨by decide +kernel, rfl⟩
theorem k0_36 : en_dp 0 36 0 4 false .int 39 := ⟨29, by decide +kernel, by decide +kernel, by decide +kernel, rfl⟩
theorem k0_39 : en_d 0 39 (.aload_n 0) 1 40 := ⟨by decide +kernel, rfl⟩
theorem k0_40 : en_d 0 40 (.bipush 60) 2 42 := ⟨by decide +kernel, rfl⟩
theorem k0_42 : en_dq 0 42 (2 + 2) 45 := ⟨32, by decide +kernel, by decide +kernel, rfl⟩
theorem k0_45 : en_dp 0 45 0 5 false (.array (.object "EndorsedLedger$Block")) 48 := ⟨34, by decide +kernel, by decide +kernel, by decide +kernel, rfl⟩
theorem k0_48 : en_d 0 48 (.aload_n 0) 1 49 := ⟨by decide +kernel, rfl⟩
theorem k0_49 : en_d 0 49 (.iconst 0) 1 50 := ⟨by decide +kernel, rfl⟩
theorem k0_50 : en_dp 0 50 0 6 false .int 53 := ⟨38, by decide +kernel, by decide +kernel, by decide +kernel, rfl⟩
theorem k0_53 : en_d 0 53 (.aload_n 0) 1 54 := ⟨by decide +kernel, rfl⟩
theorem k0_54 : en_d 0 54 (.iconst 3) 1 55 := ⟨by decide +kernel, rfl⟩
theorem k0_55 : en_dq 0 55 (3 + 2) 58 := ⟨41, by decide +kernel, by decide +kernel, rfl⟩
theorem k0_58 : en_dp 0 58 0 7 false (.array (.object "EndorsedLedger$Orderer")) 61 := ⟨43, by decide +kernel, by decide +kernel, by decide +kernel, rfl⟩
theorem k0_61 : en_d 0 61 (.aload_n 0) 1 62 := ⟨by decide +kernel, rfl⟩
theorem k0_62 : en_d 0 62 (.iconst (-1)) 1 63 := ⟨by decide +kernel, rfl⟩
theorem k0_63 : en_dp 0 63 0 8 false .int 66 := ⟨47, by decide +kernel, by decide +kernel, by decide +kernel, rfl⟩
theorem k0_66 : en_d 0 66 (.aload_n 0) 1 67 := ⟨by decide +kernel, rfl⟩
theorem k0_67 : en_dw 0 67 6 70 := ⟨50, by decide +kernel, by decide +kernel, rfl⟩
theorem k0_70 : en_d 0 70 .dup 1 71 := ⟨by decide +kernel, rfl⟩
theorem k0_71 : en_dI 0 71 77 true 74 := ⟨52, by decide +kernel, by decide +kernel, rfl, by decide +kernel, by decide +kernel⟩
theorem k0_74 : en_dp 0 74 0 9 false (.object "EndorsedLedger$BlockList") 77 := ⟨53, by decide +kernel, by decide +kernel, by decide +kernel, rfl⟩
theorem k0_77 : en_d 0 77 (.aload_n 0) 1 78 := ⟨by decide +kernel, rfl⟩
theorem k0_78 : en_d 0 78 (.iconst 4) 1 79 := ⟨by decide +kernel, rfl⟩
theorem k0_79 : en_dq 0 79 (4 + 2) 82 := ⟨57, by decide +kernel, by decide +kernel, rfl⟩
theorem k0_82 : en_dp 0 82 0 10 false (.array (.object "EndorsedLedger$Peer")) 85 := ⟨59, by decide +kernel, by decide +kernel, by decide +kernel, rfl⟩
theorem k0_85 : en_d 0 85 (.aload_n 0) 1 86 := ⟨by decide +kernel, rfl⟩
theorem k0_86 : en_dw 0 86 2 89 := ⟨63, by decide +kernel, by decide +kernel, rfl⟩
theorem k0_89 : en_d 0 89 .dup 1 90 := ⟨by decide +kernel, rfl⟩
theorem k0_90 : en_dI 0 90 46 true 93 := ⟨65, by decide +kernel, by decide +kernel, rfl, by decide +kernel, by decide +kernel⟩
theorem k0_93 : en_dp 0 93 0 11 false (.object "EndorsedLedger$Run") 96 := ⟨66, by decide +kernel, by decide +kernel, by decide +kernel, rfl⟩
theorem k0_96 : en_d 0 96 (.iconst 0) 1 97 := ⟨by decide +kernel, rfl⟩
theorem k0_97 : en_d 0 97 (.istore_n 1) 1 98 := ⟨by decide +kernel, rfl⟩
theorem k0_98 : en_d 0 98 (.iload_n 1) 1 99 := ⟨by decide +kernel, rfl⟩
theorem k0_99 : en_d 0 99 (.iconst 4) 1 100 := ⟨by decide +kernel, rfl⟩
theorem k0_100 : en_j 0 100 (.if_icmp .ge) 103 122 := ⟨22, by decide +kernel, by decide, rfl⟩
theorem k0_103 : en_d 0 103 (.aload_n 0) 1 104 := ⟨by decide +kernel, rfl⟩
theorem k0_104 : en_df 0 104 0 0 false true 107 := ⟨11, by decide +kernel, by decide +kernel, by decide +kernel, rfl⟩
theorem k0_107 : en_d 0 107 (.iload_n 1) 1 108 := ⟨by decide +kernel, rfl⟩
theorem k0_108 : en_dw 0 108 1 111 := ⟨9, by decide +kernel, by decide +kernel, rfl⟩
theorem k0_111 : en_d 0 111 .dup 1 112 := ⟨by decide +kernel, rfl⟩
theorem k0_112 : en_dI 0 112 39 true 115 := ⟨70, by decide +kernel, by decide +kernel, rfl, by decide +kernel, by decide +kernel⟩
theorem k0_115 : en_d 0 115 .aastore 1 116 := ⟨by decide +kernel, rfl⟩
theorem k0_116 : en_d 0 116 (.iinc 1 1) 3 119 := ⟨by decide +kernel, rfl⟩
theorem k0_119 : en_j 0 119 .goto 122 98 := ⟨(-21), by decide +kernel, by decide, rfl⟩
theorem k0_122 : en_d 0 122 (.iconst 0) 1 123 := ⟨by decide +kernel, rfl⟩
theorem k0_123 : en_d 0 123 (.istore_n 1) 1 124 := ⟨by decide +kernel, rfl⟩
theorem k0_124 : en_d 0 124 (.iload_n 1) 1 125 := ⟨by decide +kernel, rfl⟩
theorem k0_125 : en_d 0 125 (.bipush 60) 2 127 := ⟨by decide +kernel, rfl⟩
theorem k0_127 : en_j 0 127 (.if_icmp .ge) 130 149 := ⟨22, by decide +kernel, by decide, rfl⟩
theorem k0_130 : en_d 0 130 (.aload_n 0) 1 131 := ⟨by decide +kernel, rfl⟩
theorem k0_131 : en_df 0 131 0 1 false true 134 := ⟨17, by decide +kernel, by decide +kernel, by decide +kernel, rfl⟩
theorem k0_134 : en_d 0 134 (.iload_n 1) 1 135 := ⟨by decide +kernel, rfl⟩
theorem k0_135 : en_dw 0 135 4 138 := ⟨15, by decide +kernel, by decide +kernel, rfl⟩
theorem k0_138 : en_d 0 138 .dup 1 139 := ⟨by decide +kernel, rfl⟩
theorem k0_139 : en_dI 0 139 70 true 142 := ⟨71, by decide +kernel, by decide +kernel, rfl, by decide +kernel, by decide +kernel⟩
theorem k0_142 : en_d 0 142 .aastore 1 143 := ⟨by decide +kernel, rfl⟩
theorem k0_143 : en_d 0 143 (.iinc 1 1) 3 146 := ⟨by decide +kernel, rfl⟩
theorem k0_146 : en_j 0 146 .goto 149 124 := ⟨(-22), by decide +kernel, by decide, rfl⟩
theorem k0_149 : en_d 0 149 (.iconst 0) 1 150 := ⟨by decide +kernel, rfl⟩
theorem k0_150 : en_d 0 150 (.istore_n 1) 1 151 := ⟨by decide +kernel, rfl⟩
theorem k0_151 : en_d 0 151 (.iload_n 1) 1 152 := ⟨by decide +kernel, rfl⟩
theorem k0_152 : en_d 0 152 (.bipush 60) 2 154 := ⟨by decide +kernel, rfl⟩
theorem k0_154 : en_j 0 154 (.if_icmp .ge) 157 176 := ⟨22, by decide +kernel, by decide, rfl⟩
theorem k0_157 : en_d 0 157 (.aload_n 0) 1 158 := ⟨by decide +kernel, rfl⟩
theorem k0_158 : en_df 0 158 0 5 false true 161 := ⟨34, by decide +kernel, by decide +kernel, by decide +kernel, rfl⟩
theorem k0_161 : en_d 0 161 (.iload_n 1) 1 162 := ⟨by decide +kernel, rfl⟩
theorem k0_162 : en_dw 0 162 5 165 := ⟨32, by decide +kernel, by decide +kernel, rfl⟩
theorem k0_165 : en_d 0 165 .dup 1 166 := ⟨by decide +kernel, rfl⟩
theorem k0_166 : en_dI 0 166 73 true 169 := ⟨72, by decide +kernel, by decide +kernel, rfl, by decide +kernel, by decide +kernel⟩
theorem k0_169 : en_d 0 169 .aastore 1 170 := ⟨by decide +kernel, rfl⟩
theorem k0_170 : en_d 0 170 (.iinc 1 1) 3 173 := ⟨by decide +kernel, rfl⟩
theorem k0_173 : en_j 0 173 .goto 176 151 := ⟨(-22), by decide +kernel, by decide, rfl⟩
theorem k0_176 : en_d 0 176 (.iconst 0) 1 177 := ⟨by decide +kernel, rfl⟩
theorem k0_177 : en_d 0 177 (.istore_n 1) 1 178 := ⟨by decide +kernel, rfl⟩
theorem k0_178 : en_d 0 178 (.iload_n 1) 1 179 := ⟨by decide +kernel, rfl⟩
theorem k0_179 : en_d 0 179 (.iconst 3) 1 180 := ⟨by decide +kernel, rfl⟩
theorem k0_180 : en_j 0 180 (.if_icmp .ge) 183 202 := ⟨22, by decide +kernel, by decide, rfl⟩
theorem k0_183 : en_d 0 183 (.aload_n 0) 1 184 := ⟨by decide +kernel, rfl⟩
theorem k0_184 : en_df 0 184 0 7 false true 187 := ⟨43, by decide +kernel, by decide +kernel, by decide +kernel, rfl⟩
theorem k0_187 : en_d 0 187 (.iload_n 1) 1 188 := ⟨by decide +kernel, rfl⟩
theorem k0_188 : en_dw 0 188 7 191 := ⟨41, by decide +kernel, by decide +kernel, rfl⟩
theorem k0_191 : en_d 0 191 .dup 1 192 := ⟨by decide +kernel, rfl⟩
theorem k0_192 : en_dI 0 192 81 true 195 := ⟨73, by decide +kernel, by decide +kernel, rfl, by decide +kernel, by decide +kernel⟩
theorem k0_195 : en_d 0 195 .aastore 1 196 := ⟨by decide +kernel, rfl⟩
theorem k0_196 : en_d 0 196 (.iinc 1 1) 3 199 := ⟨by decide +kernel, rfl⟩
theorem k0_199 : en_j 0 199 .goto 202 178 := ⟨(-21), by decide +kernel, by decide, rfl⟩
theorem k0_202 : en_d 0 202 (.iconst 0) 1 203 := ⟨by decide +kernel, rfl⟩
theorem k0_203 : en_d 0 203 (.istore_n 1) 1 204 := ⟨by decide +kernel, rfl⟩
theorem k0_204 : en_d 0 204 (.iload_n 1) 1 205 := ⟨by decide +kernel, rfl⟩
theorem k0_205 : en_d 0 205 (.iconst 4) 1 206 := ⟨by decide +kernel, rfl⟩
theorem k0_206 : en_j 0 206 (.if_icmp .ge) 209 228 := ⟨22, by decide +kernel, by decide, rfl⟩
theorem k0_209 : en_d 0 209 (.aload_n 0) 1 210 := ⟨by decide +kernel, rfl⟩
theorem k0_210 : en_df 0 210 0 10 false true 213 := ⟨59, by decide +kernel, by decide +kernel, by decide +kernel, rfl⟩
theorem k0_213 : en_d 0 213 (.iload_n 1) 1 214 := ⟨by decide +kernel, rfl⟩
theorem k0_214 : en_dw 0 214 9 217 := ⟨57, by decide +kernel, by decide +kernel, rfl⟩
theorem k0_217 : en_d 0 217 .dup 1 218 := ⟨by decide +kernel, rfl⟩
theorem k0_218 : en_dI 0 218 84 true 221 := ⟨74, by decide +kernel, by decide +kernel, rfl, by decide +kernel, by decide +kernel⟩
theorem k0_221 : en_d 0 221 .aastore 1 222 := ⟨by decide +kernel, rfl⟩
theorem k0_222 : en_d 0 222 (.iinc 1 1) 3 225 := ⟨by decide +kernel, rfl⟩
theorem k0_225 : en_j 0 225 .goto 228 204 := ⟨(-21), by decide +kernel, by decide, rfl⟩
theorem k0_228 : en_d 0 228 .return_ 1 229 := ⟨by decide +kernel, rfl⟩
/-! 1: EndorsedLedger.code(III)Z -/
theorem k1_0 : en_d 1 0 (.iload_n 1) 1 1 := ⟨by decide +kernel, rfl⟩
theorem k1_1 : en_d 1 1 (.iconst 4) 1 2 := ⟨by decide +kernel, rfl⟩
theorem k1_2 : en_dS 1 2 19 false 5 := ⟨75, by decide +kernel, by decide +kernel, rfl, by decide +kernel, by decide +kernel⟩
theorem k1_5 : en_j 1 5 (.ifCond .eq) 8 24 := ⟨19, by decide +kernel, by decide, rfl⟩
theorem k1_8 : en_d 1 8 (.iload_n 2) 1 9 := ⟨by decide +kernel, rfl⟩
theorem k1_9 : en_d 1 9 (.bipush 11) 2 11 := ⟨by decide +kernel, rfl⟩
theorem k1_11 : en_dS 1 11 19 false 14 := ⟨75, by decide +kernel, by decide +kernel, rfl, by decide +kernel, by decide +kernel⟩
theorem k1_14 : en_j 1 14 (.ifCond .eq) 17 24 := ⟨10, by decide +kernel, by decide, rfl⟩
theorem k1_17 : en_d 1 17 (.aload_n 0) 1 18 := ⟨by decide +kernel, rfl⟩
theorem k1_18 : en_df 1 18 0 2 false false 21 := ⟨21, by decide +kernel, by decide +kernel, by decide +kernel, rfl⟩
theorem k1_21 : en_j 1 21 (.ifCond .le) 24 26 := ⟨5, by decide +kernel, by decide, rfl⟩
theorem k1_24 : en_d 1 24 (.iconst 0) 1 25 := ⟨by decide +kernel, rfl⟩
theorem k1_25 : en_d 1 25 .ireturn 1 26 := ⟨by decide +kernel, rfl⟩
theorem k1_26 : en_d 1 26 (.iload_n 2) 1 27 := ⟨by decide +kernel, rfl⟩
theorem k1_27 : en_d 1 27 (.bipush 6) 2 29 := ⟨by decide +kernel, rfl⟩
theorem k1_29 : en_j 1 29 (.if_icmp .ne) 32 43 := ⟨14, by decide +kernel, by decide, rfl⟩
theorem k1_32 : en_d 1 32 (.iload_n 3) 1 33 := ⟨by decide +kernel, rfl⟩
theorem k1_33 : en_d 1 33 (.bipush 13) 2 35 := ⟨by decide +kernel, rfl⟩
theorem k1_35 : en_dS 1 35 19 false 38 := ⟨75, by decide +kernel, by decide +kernel, rfl, by decide +kernel, by decide +kernel⟩
theorem k1_38 : en_j 1 38 (.ifCond .ne) 41 43 := ⟨5, by decide +kernel, by decide, rfl⟩
theorem k1_41 : en_d 1 41 (.iconst 0) 1 42 := ⟨by decide +kernel, rfl⟩
theorem k1_42 : en_d 1 42 .ireturn 1 43 := ⟨by decide +kernel, rfl⟩
theorem k1_43 : en_d 1 43 (.aload_n 0) 1 44 := ⟨by decide +kernel, rfl⟩
theorem k1_44 : en_df 1 44 0 0 false true 47 := ⟨11, by decide +kernel, by decide +kernel, by decide +kernel, rfl⟩
theorem k1_47 : en_d 1 47 (.iload_n 1) 1 48 := ⟨by decide +kernel, rfl⟩
theorem k1_48 : en_d 1 48 .aaload 1 49 := ⟨by decide +kernel, rfl⟩
theorem k1_49 : en_d 1 49 (.iload_n 2) 1 50 := ⟨by decide +kernel, rfl⟩
theorem k1_50 : en_d 1 50 (.iload_n 3) 1 51 := ⟨by decide +kernel, rfl⟩
theorem k1_51 : en_dv 1 51 40 true 54 := ⟨79, by decide +kernel, by decide +kernel, rfl, by decide +kernel, by decide +kernel⟩
theorem k1_54 : en_d 1 54 .ireturn 1 55 := ⟨by decide +kernel, rfl⟩
/-! 2: EndorsedLedger.policy(III)Z -/
theorem k2_0 : en_d 2 0 (.iload_n 1) 1 1 := ⟨by decide +kernel, rfl⟩
theorem k2_1 : en_d 2 1 (.iconst 4) 1 2 := ⟨by decide +kernel, rfl⟩
theorem k2_2 : en_dS 2 2 19 false 5 := ⟨75, by decide +kernel, by decide +kernel, rfl, by decide +kernel, by decide +kernel⟩
theorem k2_5 : en_j 2 5 (.ifCond .eq) 8 15 := ⟨10, by decide +kernel, by decide, rfl⟩
theorem k2_8 : en_d 2 8 (.aload_n 0) 1 9 := ⟨by decide +kernel, rfl⟩
theorem k2_9 : en_df 2 9 0 2 false false 12 := ⟨21, by decide +kernel, by decide +kernel, by decide +kernel, rfl⟩
theorem k2_12 : en_j 2 12 (.ifCond .le) 15 17 := ⟨5, by decide +kernel, by decide, rfl⟩
theorem k2_15 : en_d 2 15 (.iconst 0) 1 16 := ⟨by decide +kernel, rfl⟩
theorem k2_16 : en_d 2 16 .ireturn 1 17 := ⟨by decide +kernel, rfl⟩
theorem k2_17 : en_d 2 17 (.iload_n 3) 1 18 := ⟨by decide +kernel, rfl⟩
theorem k2_18 : en_j 2 18 (.ifCond .ne) 21 48 := ⟨30, by decide +kernel, by decide, rfl⟩
theorem k2_21 : en_d 2 21 (.iload_n 2) 1 22 := ⟨by decide +kernel, rfl⟩
theorem k2_22 : en_d 2 22 (.iconst 4) 1 23 := ⟨by decide +kernel, rfl⟩
theorem k2_23 : en_dS 2 23 19 false 26 := ⟨75, by decide +kernel, by decide +kernel, rfl, by decide +kernel, by decide +kernel⟩
theorem k2_26 : en_j 2 26 (.ifCond .eq) 29 46 := ⟨20, by decide +kernel, by decide, rfl⟩
theorem k2_29 : en_d 2 29 (.aload_n 0) 1 30 := ⟨by decide +kernel, rfl⟩
theorem k2_30 : en_df 2 30 0 0 false true 33 := ⟨11, by decide +kernel, by decide +kernel, by decide +kernel, rfl⟩
theorem k2_33 : en_d 2 33 (.iload_n 1) 1 34 := ⟨by decide +kernel, rfl⟩
theorem k2_34 : en_d 2 34 .aaload 1 35 := ⟨by decide +kernel, rfl⟩
theorem k2_35 : en_d 2 35 (.iload_n 2) 1 36 := ⟨by decide +kernel, rfl⟩
theorem k2_36 : en_dv 2 36 41 true 39 := ⟨82, by decide +kernel, by decide +kernel, rfl, by decide +kernel, by decide +kernel⟩
theorem k2_39 : en_j 2 39 (.ifCond .eq) 42 46 := ⟨7, by decide +kernel, by decide, rfl⟩
theorem k2_42 : en_d 2 42 (.iconst 1) 1 43 := ⟨by decide +kernel, rfl⟩
theorem k2_43 : en_j 2 43 .goto 46 47 := ⟨4, by decide +kernel, by decide, rfl⟩
theorem k2_46 : en_d 2 46 (.iconst 0) 1 47 := ⟨by decide +kernel, rfl⟩
theorem k2_47 : en_d 2 47 .ireturn 1 48 := ⟨by decide +kernel, rfl⟩
theorem k2_48 : en_d 2 48 (.iload_n 3) 1 49 := ⟨by decide +kernel, rfl⟩
theorem k2_49 : en_d 2 49 (.iconst 2) 1 50 := ⟨by decide +kernel, rfl⟩
theorem k2_50 : en_j 2 50 (.if_icmp .lt) 53 86 := ⟨36, by decide +kernel, by decide, rfl⟩
theorem k2_53 : en_d 2 53 (.iload_n 3) 1 54 := ⟨by decide +kernel, rfl⟩
theorem k2_54 : en_d 2 54 (.iconst 4) 1 55 := ⟨by decide +kernel, rfl⟩
theorem k2_55 : en_j 2 55 (.if_icmp .gt) 58 86 := ⟨31, by decide +kernel, by decide, rfl⟩
theorem k2_58 : en_d 2 58 (.iload_n 2) 1 59 := ⟨by decide +kernel, rfl⟩
theorem k2_59 : en_d 2 59 (.iconst 1) 1 60 := ⟨by decide +kernel, rfl⟩
theorem k2_60 : en_j 2 60 (.if_icmp .lt) 63 86 := ⟨26, by decide +kernel, by decide, rfl⟩
theorem k2_63 : en_d 2 63 (.iload_n 2) 1 64 := ⟨by decide +kernel, rfl⟩
theorem k2_64 : en_d 2 64 (.iload_n 3) 1 65 := ⟨by decide +kernel, rfl⟩
theorem k2_65 : en_j 2 65 (.if_icmp .gt) 68 86 := ⟨21, by decide +kernel, by decide, rfl⟩
theorem k2_68 : en_d 2 68 (.aload_n 0) 1 69 := ⟨by decide +kernel, rfl⟩
theorem k2_69 : en_df 2 69 0 0 false true 72 := ⟨11, by decide +kernel, by decide +kernel, by decide +kernel, rfl⟩
theorem k2_72 : en_d 2 72 (.iload_n 1) 1 73 := ⟨by decide +kernel, rfl⟩
theorem k2_73 : en_d 2 73 .aaload 1 74 := ⟨by decide +kernel, rfl⟩
theorem k2_74 : en_d 2 74 (.iload_n 2) 1 75 := ⟨by decide +kernel, rfl⟩
theorem k2_75 : en_d 2 75 (.iload_n 3) 1 76 := ⟨by decide +kernel, rfl⟩
theorem k2_76 : en_dv 2 76 42 true 79 := ⟨86, by decide +kernel, by decide +kernel, rfl, by decide +kernel, by decide +kernel⟩
theorem k2_79 : en_j 2 79 (.ifCond .eq) 82 86 := ⟨7, by decide +kernel, by decide, rfl⟩
theorem k2_82 : en_d 2 82 (.iconst 1) 1 83 := ⟨by decide +kernel, rfl⟩
theorem k2_83 : en_j 2 83 .goto 86 87 := ⟨4, by decide +kernel, by decide, rfl⟩
theorem k2_86 : en_d 2 86 (.iconst 0) 1 87 := ⟨by decide +kernel, rfl⟩
theorem k2_87 : en_d 2 87 .ireturn 1 88 := ⟨by decide +kernel, rfl⟩
/-! 3: EndorsedLedger.propose(II)I -/
theorem k3_0 : en_d 3 0 (.iload_n 1) 1 1 := ⟨by decide +kernel, rfl⟩
theorem k3_1 : en_d 3 1 (.iconst 4) 1 2 := ⟨by decide +kernel, rfl⟩
theorem k3_2 : en_dS 3 2 19 false 5 := ⟨75, by decide +kernel, by decide +kernel, rfl, by decide +kernel, by decide +kernel⟩
theorem k3_5 : en_j 3 5 (.ifCond .eq) 8 17 := ⟨12, by decide +kernel, by decide, rfl⟩
theorem k3_8 : en_d 3 8 (.aload_n 0) 1 9 := ⟨by decide +kernel, rfl⟩
theorem k3_9 : en_df 3 9 0 2 false false 12 := ⟨21, by decide +kernel, by decide +kernel, by decide +kernel, rfl⟩
theorem k3_12 : en_d 3 12 (.bipush 60) 2 14 := ⟨by decide +kernel, rfl⟩
theorem k3_14 : en_j 3 14 (.if_icmp .lt) 17 19 := ⟨5, by decide +kernel, by decide, rfl⟩
theorem k3_17 : en_d 3 17 (.iconst (-1)) 1 18 := ⟨by decide +kernel, rfl⟩
theorem k3_18 : en_d 3 18 .ireturn 1 19 := ⟨by decide +kernel, rfl⟩
theorem k3_19 : en_d 3 19 (.aload_n 0) 1 20 := ⟨by decide +kernel, rfl⟩
theorem k3_20 : en_df 3 20 0 1 false true 23 := ⟨17, by decide +kernel, by decide +kernel, by decide +kernel, rfl⟩
theorem k3_23 : en_d 3 23 (.aload_n 0) 1 24 := ⟨by decide +kernel, rfl⟩
theorem k3_24 : en_df 3 24 0 2 false false 27 := ⟨21, by decide +kernel, by decide +kernel, by decide +kernel, rfl⟩
theorem k3_27 : en_d 3 27 .aaload 1 28 := ⟨by decide +kernel, rfl⟩
theorem k3_28 : en_d 3 28 (.iload_n 1) 1 29 := ⟨by decide +kernel, rfl⟩
theorem k3_29 : en_dp 3 29 4 0 true .int 32 := ⟨89, by decide +kernel, by decide +kernel, by decide +kernel, rfl⟩
theorem k3_32 : en_d 3 32 (.aload_n 0) 1 33 := ⟨by decide +kernel, rfl⟩
theorem k3_33 : en_df 3 33 0 1 false true 36 := ⟨17, by decide +kernel, by decide +kernel, by decide +kernel, rfl⟩
theorem k3_36 : en_d 3 36 (.aload_n 0) 1 37 := ⟨by decide +kernel, rfl⟩
theorem k3_37 : en_df 3 37 0 2 false false 40 := ⟨21, by decide +kernel, by decide +kernel, by decide +kernel, rfl⟩
theorem k3_40 : en_d 3 40 .aaload 1 41 := ⟨by decide +kernel, rfl⟩
theorem k3_41 : en_d 3 41 (.iload_n 2) 1 42 := ⟨by decide +kernel, rfl⟩
theorem k3_42 : en_dp 3 42 4 1 true .int 45 := ⟨92, by decide +kernel, by decide +kernel, by decide +kernel, rfl⟩
theorem k3_45 : en_d 3 45 (.aload_n 0) 1 46 := ⟨by decide +kernel, rfl⟩
theorem k3_46 : en_d 3 46 .dup 1 47 := ⟨by decide +kernel, rfl⟩
theorem k3_47 : en_df 3 47 0 2 false false 50 := ⟨21, by decide +kernel, by decide +kernel, by decide +kernel, rfl⟩
theorem k3_50 : en_d 3 50 (.iconst 1) 1 51 := ⟨by decide +kernel, rfl⟩
theorem k3_51 : en_d 3 51 .iadd 1 52 := ⟨by decide +kernel, rfl⟩
theorem k3_52 : en_dp 3 52 0 2 false .int 55 := ⟨21, by decide +kernel, by decide +kernel, by decide +kernel, rfl⟩
theorem k3_55 : en_d 3 55 (.aload_n 0) 1 56 := ⟨by decide +kernel, rfl⟩
theorem k3_56 : en_df 3 56 0 2 false false 59 := ⟨21, by decide +kernel, by decide +kernel, by decide +kernel, rfl⟩
theorem k3_59 : en_d 3 59 (.iconst 1) 1 60 := ⟨by decide +kernel, rfl⟩
theorem k3_60 : en_d 3 60 .isub 1 61 := ⟨by decide +kernel, rfl⟩
theorem k3_61 : en_d 3 61 .ireturn 1 62 := ⟨by decide +kernel, rfl⟩
/-! 4: EndorsedLedger.endorse(II)I -/
theorem k4_0 : en_d 4 0 (.iload_n 1) 1 1 := ⟨by decide +kernel, rfl⟩
theorem k4_1 : en_d 4 1 (.aload_n 0) 1 2 := ⟨by decide +kernel, rfl⟩
theorem k4_2 : en_df 4 2 0 2 false false 5 := ⟨21, by decide +kernel, by decide +kernel, by decide +kernel, rfl⟩
theorem k4_5 : en_dS 4 5 19 false 8 := ⟨75, by decide +kernel, by decide +kernel, rfl, by decide +kernel, by decide +kernel⟩
theorem k4_8 : en_j 4 8 (.ifCond .eq) 11 19 := ⟨11, by decide +kernel, by decide, rfl⟩
theorem k4_11 : en_d 4 11 (.aload_n 0) 1 12 := ⟨by decide +kernel, rfl⟩
theorem k4_12 : en_d 4 12 (.iload_n 2) 1 13 := ⟨by decide +kernel, rfl⟩
theorem k4_13 : en_dv 4 13 20 false 16 := ⟨95, by decide +kernel, by decide +kernel, rfl, by decide +kernel, by decide +kernel⟩
theorem k4_16 : en_j 4 16 (.ifCond .ne) 19 21 := ⟨5, by decide +kernel, by decide, rfl⟩
theorem k4_19 : en_d 4 19 (.iconst (-1)) 1 20 := ⟨by decide +kernel, rfl⟩
theorem k4_20 : en_d 4 20 .ireturn 1 21 := ⟨by decide +kernel, rfl⟩
theorem k4_21 : en_d 4 21 (.aload_n 0) 1 22 := ⟨by decide +kernel, rfl⟩
theorem k4_22 : en_df 4 22 0 1 false true 25 := ⟨17, by decide +kernel, by decide +kernel, by decide +kernel, rfl⟩
theorem k4_25 : en_d 4 25 (.iload_n 1) 1 26 := ⟨by decide +kernel, rfl⟩
theorem k4_26 : en_d 4 26 .aaload 1 27 := ⟨by decide +kernel, rfl⟩
theorem k4_27 : en_d 4 27 (.astore_n 3) 1 28 := ⟨by decide +kernel, rfl⟩
theorem k4_28 : en_d 4 28 (.aload_n 3) 1 29 := ⟨by decide +kernel, rfl⟩
theorem k4_29 : en_df 4 29 4 3 true false 32 := ⟨98, by decide +kernel, by decide +kernel, by decide +kernel, rfl⟩
theorem k4_32 : en_j 4 32 (.ifCond .ne) 35 43 := ⟨11, by decide +kernel, by decide, rfl⟩
theorem k4_35 : en_d 4 35 (.aload_n 3) 1 36 := ⟨by decide +kernel, rfl⟩
theorem k4_36 : en_d 4 36 (.iload_n 2) 1 37 := ⟨by decide +kernel, rfl⟩
theorem k4_37 : en_dv 4 37 71 true 40 := ⟨102, by decide +kernel, by decide +kernel, rfl, by decide +kernel, by decide +kernel⟩
theorem k4_40 : en_j 4 40 (.ifCond .eq) 43 45 := ⟨5, by decide +kernel, by decide, rfl⟩
theorem k4_43 : en_d 4 43 (.iconst (-1)) 1 44 := ⟨by decide +kernel, rfl⟩
theorem k4_44 : en_d 4 44 .ireturn 1 45 := ⟨by decide +kernel, rfl⟩
theorem k4_45 : en_d 4 45 (.aload_n 0) 1 46 := ⟨by decide +kernel, rfl⟩
theorem k4_46 : en_df 4 46 0 11 false true 49 := ⟨66, by decide +kernel, by decide +kernel, by decide +kernel, rfl⟩
theorem k4_49 : en_d 4 49 (.aload_n 0) 1 50 := ⟨by decide +kernel, rfl⟩
theorem k4_50 : en_df 4 50 0 0 false true 53 := ⟨11, by decide +kernel, by decide +kernel, by decide +kernel, rfl⟩
theorem k4_53 : en_d 4 53 (.aload_n 3) 1 54 := ⟨by decide +kernel, rfl⟩
theorem k4_54 : en_df 4 54 4 0 true false 57 := ⟨89, by decide +kernel, by decide +kernel, by decide +kernel, rfl⟩
theorem k4_57 : en_d 4 57 .aaload 1 58 := ⟨by decide +kernel, rfl⟩
theorem k4_58 : en_d 4 58 (.aload_n 3) 1 59 := ⟨by decide +kernel, rfl⟩
theorem k4_59 : en_df 4 59 4 1 true false 62 := ⟨92, by decide +kernel, by decide +kernel, by decide +kernel, rfl⟩
theorem k4_62 : en_d 4 62 (.aload_n 0) 1 63 := ⟨by decide +kernel, rfl⟩
theorem k4_63 : en_df 4 63 0 10 false true 66 := ⟨59, by decide +kernel, by decide +kernel, by decide +kernel, rfl⟩
theorem k4_66 : en_d 4 66 (.iload_n 2) 1 67 := ⟨by decide +kernel, rfl⟩
theorem k4_67 : en_d 4 67 .aaload 1 68 := ⟨by decide +kernel, rfl⟩
theorem k4_68 : en_df 4 68 9 2 true true 71 := ⟨105, by decide +kernel, by decide +kernel, by decide +kernel, rfl⟩
theorem k4_71 : en_dv 4 71 47 true 74 := ⟨109, by decide +kernel, by decide +kernel, rfl, by decide +kernel, by decide +kernel⟩
theorem k4_74 : en_j 4 74 (.ifCond .ne) 77 79 := ⟨5, by decide +kernel, by decide, rfl⟩
theorem k4_77 : en_d 4 77 (.iconst 1) 1 78 := ⟨by decide +kernel, rfl⟩
theorem k4_78 : en_d 4 78 .ireturn 1 79 := ⟨by decide +kernel, rfl⟩
theorem k4_79 : en_d 4 79 (.aload_n 3) 1 80 := ⟨by decide +kernel, rfl⟩
theorem k4_80 : en_dv 4 80 72 true 83 := ⟨113, by decide +kernel, by decide +kernel, rfl, by decide +kernel, by decide +kernel⟩
theorem k4_83 : en_j 4 83 (.ifCond .eq) 86 105 := ⟨22, by decide +kernel, by decide, rfl⟩
theorem k4_86 : en_d 4 86 (.aload_n 3) 1 87 := ⟨by decide +kernel, rfl⟩
theorem k4_87 : en_df 4 87 4 4 true true 90 := ⟨117, by decide +kernel, by decide +kernel, by decide +kernel, rfl⟩
theorem k4_90 : en_d 4 90 (.aload_n 0) 1 91 := ⟨by decide +kernel, rfl⟩
theorem k4_91 : en_df 4 91 0 11 false true 94 := ⟨66, by decide +kernel, by decide +kernel, by decide +kernel, rfl⟩
theorem k4_94 : en_df 4 94 2 1 true true 97 := ⟨121, by decide +kernel, by decide +kernel, by decide +kernel, rfl⟩
theorem k4_97 : en_dv 4 97 60 true 100 := ⟨122, by decide +kernel, by decide +kernel, rfl, by decide +kernel, by decide +kernel⟩
theorem k4_100 : en_j 4 100 (.ifCond .ne) 103 105 := ⟨5, by decide +kernel, by decide, rfl⟩
theorem k4_103 : en_d 4 103 (.iconst 2) 1 104 := ⟨by decide +kernel, rfl⟩
theorem k4_104 : en_d 4 104 .ireturn 1 105 := ⟨by decide +kernel, rfl⟩
theorem k4_105 : en_d 4 105 (.aload_n 3) 1 106 := ⟨by decide +kernel, rfl⟩
theorem k4_106 : en_df 4 106 4 4 true true 109 := ⟨117, by decide +kernel, by decide +kernel, by decide +kernel, rfl⟩
theorem k4_109 : en_d 4 109 (.aload_n 0) 1 110 := ⟨by decide +kernel, rfl⟩
theorem k4_110 : en_df 4 110 0 11 false true 113 := ⟨66, by decide +kernel, by decide +kernel, by decide +kernel, rfl⟩
theorem k4_113 : en_df 4 113 2 1 true true 116 := ⟨121, by decide +kernel, by decide +kernel, by decide +kernel, rfl⟩
theorem k4_116 : en_dv 4 116 59 true 119 := ⟨128, by decide +kernel, by decide +kernel, rfl, by decide +kernel, by decide +kernel⟩
theorem k4_119 : en_d 4 119 (.aload_n 3) 1 120 := ⟨by decide +kernel, rfl⟩
theorem k4_120 : en_d 4 120 .dup 1 121 := ⟨by decide +kernel, rfl⟩
theorem k4_121 : en_df 4 121 4 2 true false 124 := ⟨132, by decide +kernel, by decide +kernel, by decide +kernel, rfl⟩
theorem k4_124 : en_d 4 124 (.iconst 1) 1 125 := ⟨by decide +kernel, rfl⟩
theorem k4_125 : en_d 4 125 (.iload_n 2) 1 126 := ⟨by decide +kernel, rfl⟩
theorem k4_126 : en_d 4 126 .ishl 1 127 := ⟨by decide +kernel, rfl⟩
theorem k4_127 : en_d 4 127 .ior 1 128 := ⟨by decide +kernel, rfl⟩
theorem k4_128 : en_dp 4 128 4 2 true .int 131 := ⟨132, by decide +kernel, by decide +kernel, by decide +kernel, rfl⟩
theorem k4_131 : en_d 4 131 (.iconst 0) 1 132 := ⟨by decide +kernel, rfl⟩
theorem k4_132 : en_d 4 132 .ireturn 1 133 := ⟨by decide +kernel, rfl⟩
/-! 5: EndorsedLedger.submit(I)Z -/
theorem k5_0 : en_d 5 0 (.iload_n 1) 1 1 := ⟨by decide +kernel, rfl⟩
theorem k5_1 : en_d 5 1 (.aload_n 0) 1 2 := ⟨by decide +kernel, rfl⟩
theorem k5_2 : en_df 5 2 0 2 false false 5 := ⟨21, by decide +kernel, by decide +kernel, by decide +kernel, rfl⟩
theorem k5_5 : en_dS 5 5 19 false 8 := ⟨75, by decide +kernel, by decide +kernel, rfl, by decide +kernel, by decide +kernel⟩
theorem k5_8 : en_j 5 8 (.ifCond .eq) 11 32 := ⟨24, by decide +kernel, by decide, rfl⟩
theorem k5_11 : en_d 5 11 (.aload_n 0) 1 12 := ⟨by decide +kernel, rfl⟩
theorem k5_12 : en_df 5 12 0 1 false true 15 := ⟨17, by decide +kernel, by decide +kernel, by decide +kernel, rfl⟩
theorem k5_15 : en_d 5 15 (.iload_n 1) 1 16 := ⟨by decide +kernel, rfl⟩
theorem k5_16 : en_d 5 16 .aaload 1 17 := ⟨by decide +kernel, rfl⟩
theorem k5_17 : en_dv 5 17 72 true 20 := ⟨113, by decide +kernel, by decide +kernel, rfl, by decide +kernel, by decide +kernel⟩
theorem k5_20 : en_j 5 20 (.ifCond .eq) 23 32 := ⟨12, by decide +kernel, by decide, rfl⟩
theorem k5_23 : en_d 5 23 (.aload_n 0) 1 24 := ⟨by decide +kernel, rfl⟩
theorem k5_24 : en_df 5 24 0 4 false false 27 := ⟨29, by decide +kernel, by decide +kernel, by decide +kernel, rfl⟩
theorem k5_27 : en_d 5 27 (.bipush 20) 2 29 := ⟨by decide +kernel, rfl⟩
theorem k5_29 : en_j 5 29 (.if_icmp .lt) 32 34 := ⟨5, by decide +kernel, by decide, rfl⟩
theorem k5_32 : en_d 5 32 (.iconst 0) 1 33 := ⟨by decide +kernel, rfl⟩
theorem k5_33 : en_d 5 33 .ireturn 1 34 := ⟨by decide +kernel, rfl⟩
theorem k5_34 : en_d 5 34 (.aload_n 0) 1 35 := ⟨by decide +kernel, rfl⟩
theorem k5_35 : en_df 5 35 0 3 false true 38 := ⟨25, by decide +kernel, by decide +kernel, by decide +kernel, rfl⟩
theorem k5_38 : en_d 5 38 (.aload_n 0) 1 39 := ⟨by decide +kernel, rfl⟩
theorem k5_39 : en_df 5 39 0 4 false false 42 := ⟨29, by decide +kernel, by decide +kernel, by decide +kernel, rfl⟩
theorem k5_42 : en_d 5 42 (.iload_n 1) 1 43 := ⟨by decide +kernel, rfl⟩
theorem k5_43 : en_d 5 43 .iastore 1 44 := ⟨by decide +kernel, rfl⟩
theorem k5_44 : en_d 5 44 (.aload_n 0) 1 45 := ⟨by decide +kernel, rfl⟩
theorem k5_45 : en_d 5 45 .dup 1 46 := ⟨by decide +kernel, rfl⟩
theorem k5_46 : en_df 5 46 0 4 false false 49 := ⟨29, by decide +kernel, by decide +kernel, by decide +kernel, rfl⟩
theorem k5_49 : en_d 5 49 (.iconst 1) 1 50 := ⟨by decide +kernel, rfl⟩
theorem k5_50 : en_d 5 50 .iadd 1 51 := ⟨by decide +kernel, rfl⟩
theorem k5_51 : en_dp 5 51 0 4 false .int 54 := ⟨29, by decide +kernel, by decide +kernel, by decide +kernel, rfl⟩
theorem k5_54 : en_d 5 54 (.aload_n 0) 1 55 := ⟨by decide +kernel, rfl⟩
theorem k5_55 : en_df 5 55 0 1 false true 58 := ⟨17, by decide +kernel, by decide +kernel, by decide +kernel, rfl⟩
theorem k5_58 : en_d 5 58 (.iload_n 1) 1 59 := ⟨by decide +kernel, rfl⟩
theorem k5_59 : en_d 5 59 .aaload 1 60 := ⟨by decide +kernel, rfl⟩
theorem k5_60 : en_d 5 60 (.iconst 1) 1 61 := ⟨by decide +kernel, rfl⟩
theorem k5_61 : en_dp 5 61 4 3 true .boolean 64 := ⟨98, by decide +kernel, by decide +kernel, by decide +kernel, rfl⟩
theorem k5_64 : en_d 5 64 (.iconst 1) 1 65 := ⟨by decide +kernel, rfl⟩
theorem k5_65 : en_d 5 65 .ireturn 1 66 := ⟨by decide +kernel, rfl⟩
/-! 6: EndorsedLedger.elect(I)I -/
theorem k6_0 : en_d 6 0 (.iload_n 1) 1 1 := ⟨by decide +kernel, rfl⟩
theorem k6_1 : en_d 6 1 (.iconst 3) 1 2 := ⟨by decide +kernel, rfl⟩
theorem k6_2 : en_dS 6 2 19 false 5 := ⟨75, by decide +kernel, by decide +kernel, rfl, by decide +kernel, by decide +kernel⟩
theorem k6_5 : en_j 6 5 (.ifCond .eq) 8 29 := ⟨24, by decide +kernel, by decide, rfl⟩
theorem k6_8 : en_d 6 8 (.aload_n 0) 1 9 := ⟨by decide +kernel, rfl⟩
theorem k6_9 : en_df 6 9 0 7 false true 12 := ⟨43, by decide +kernel, by decide +kernel, by decide +kernel, rfl⟩
theorem k6_12 : en_d 6 12 (.iload_n 1) 1 13 := ⟨by decide +kernel, rfl⟩
theorem k6_13 : en_d 6 13 .aaload 1 14 := ⟨by decide +kernel, rfl⟩
theorem k6_14 : en_df 6 14 7 0 true false 17 := ⟨135, by decide +kernel, by decide +kernel, by decide +kernel, rfl⟩
theorem k6_17 : en_j 6 17 (.ifCond .eq) 20 29 := ⟨12, by decide +kernel, by decide, rfl⟩
theorem k6_20 : en_d 6 20 (.aload_n 0) 1 21 := ⟨by decide +kernel, rfl⟩
theorem k6_21 : en_d 6 21 (.iload_n 1) 1 22 := ⟨by decide +kernel, rfl⟩
theorem k6_22 : en_dv 6 22 23 false 25 := ⟨138, by decide +kernel, by decide +kernel, rfl, by decide +kernel, by decide +kernel⟩
theorem k6_25 : en_d 6 25 (.iconst 2) 1 26 := ⟨by decide +kernel, rfl⟩
theorem k6_26 : en_j 6 26 (.if_icmp .ge) 29 31 := ⟨5, by decide +kernel, by decide, rfl⟩
theorem k6_29 : en_d 6 29 (.iconst (-1)) 1 30 := ⟨by decide +kernel, rfl⟩
theorem k6_30 : en_d 6 30 .ireturn 1 31 := ⟨by decide +kernel, rfl⟩
theorem k6_31 : en_d 6 31 (.aload_n 0) 1 32 := ⟨by decide +kernel, rfl⟩
theorem k6_32 : en_dv 6 32 26 false 35 := ⟨142, by decide +kernel, by decide +kernel, rfl, by decide +kernel, by decide +kernel⟩
theorem k6_35 : en_d 6 35 (.iconst 1) 1 36 := ⟨by decide +kernel, rfl⟩
theorem k6_36 : en_d 6 36 .iadd 1 37 := ⟨by decide +kernel, rfl⟩
theorem k6_37 : en_d 6 37 (.istore_n 2) 1 38 := ⟨by decide +kernel, rfl⟩
theorem k6_38 : en_d 6 38 (.iconst 0) 1 39 := ⟨by decide +kernel, rfl⟩
theorem k6_39 : en_d 6 39 (.istore_n 3) 1 40 := ⟨by decide +kernel, rfl⟩
theorem k6_40 : en_d 6 40 (.iload_n 3) 1 41 := ⟨by decide +kernel, rfl⟩
theorem k6_41 : en_d 6 41 (.iconst 3) 1 42 := ⟨by decide +kernel, rfl⟩
theorem k6_42 : en_j 6 42 (.if_icmp .ge) 45 73 := ⟨31, by decide +kernel, by decide, rfl⟩
theorem k6_45 : en_d 6 45 (.aload_n 0) 1 46 := ⟨by decide +kernel, rfl⟩
theorem k6_46 : en_df 6 46 0 7 false true 49 := ⟨43, by decide +kernel, by decide +kernel, by decide +kernel, rfl⟩
theorem k6_49 : en_d 6 49 (.iload_n 3) 1 50 := ⟨by decide +kernel, rfl⟩
theorem k6_50 : en_d 6 50 .aaload 1 51 := ⟨by decide +kernel, rfl⟩
theorem k6_51 : en_df 6 51 7 0 true false 54 := ⟨135, by decide +kernel, by decide +kernel, by decide +kernel, rfl⟩
theorem k6_54 : en_j 6 54 (.ifCond .eq) 57 67 := ⟨13, by decide +kernel, by decide, rfl⟩
theorem k6_57 : en_d 6 57 (.aload_n 0) 1 58 := ⟨by decide +kernel, rfl⟩
theorem k6_58 : en_df 6 58 0 7 false true 61 := ⟨43, by decide +kernel, by decide +kernel, by decide +kernel, rfl⟩
theorem k6_61 : en_d 6 61 (.iload_n 3) 1 62 := ⟨by decide +kernel, rfl⟩
theorem k6_62 : en_d 6 62 .aaload 1 63 := ⟨by decide +kernel, rfl⟩
theorem k6_63 : en_d 6 63 (.iload_n 2) 1 64 := ⟨by decide +kernel, rfl⟩
theorem k6_64 : en_dp 6 64 7 1 true .int 67 := ⟨146, by decide +kernel, by decide +kernel, by decide +kernel, rfl⟩
theorem k6_67 : en_d 6 67 (.iinc 3 1) 3 70 := ⟨by decide +kernel, rfl⟩
theorem k6_70 : en_j 6 70 .goto 73 40 := ⟨(-30), by decide +kernel, by decide, rfl⟩
theorem k6_73 : en_d 6 73 (.aload_n 0) 1 74 := ⟨by decide +kernel, rfl⟩
theorem k6_74 : en_d 6 74 (.iload_n 1) 1 75 := ⟨by decide +kernel, rfl⟩
theorem k6_75 : en_dp 6 75 0 8 false .int 78 := ⟨47, by decide +kernel, by decide +kernel, by decide +kernel, rfl⟩
theorem k6_78 : en_d 6 78 (.iload_n 2) 1 79 := ⟨by decide +kernel, rfl⟩
theorem k6_79 : en_d 6 79 .ireturn 1 80 := ⟨by decide +kernel, rfl⟩
/-! 7: EndorsedLedger.cut(I)I -/
theorem k7_0 : en_d 7 0 (.aload_n 0) 1 1 := ⟨by decide +kernel, rfl⟩
theorem k7_1 : en_d 7 1 (.iload_n 1) 1 2 := ⟨by decide +kernel, rfl⟩
theorem k7_2 : en_dv 7 2 21 false 5 := ⟨149, by decide +kernel, by decide +kernel, rfl, by decide +kernel, by decide +kernel⟩
theorem k7_5 : en_j 7 5 (.ifCond .eq) 8 24 := ⟨19, by decide +kernel, by decide, rfl⟩
theorem k7_8 : en_d 7 8 (.aload_n 0) 1 9 := ⟨by decide +kernel, rfl⟩
theorem k7_9 : en_df 7 9 0 4 false false 12 := ⟨29, by decide +kernel, by decide +kernel, by decide +kernel, rfl⟩
theorem k7_12 : en_j 7 12 (.ifCond .eq) 15 24 := ⟨12, by decide +kernel, by decide, rfl⟩
theorem k7_15 : en_d 7 15 (.aload_n 0) 1 16 := ⟨by decide +kernel, rfl⟩
theorem k7_16 : en_df 7 16 0 6 false false 19 := ⟨38, by decide +kernel, by decide +kernel, by decide +kernel, rfl⟩
theorem k7_19 : en_d 7 19 (.bipush 60) 2 21 := ⟨by decide +kernel, rfl⟩
theorem k7_21 : en_j 7 21 (.if_icmp .lt) 24 26 := ⟨5, by decide +kernel, by decide, rfl⟩
theorem k7_24 : en_d 7 24 (.iconst (-1)) 1 25 := ⟨by decide +kernel, rfl⟩
theorem k7_25 : en_d 7 25 .ireturn 1 26 := ⟨by decide +kernel, rfl⟩
theorem k7_26 : en_d 7 26 (.aload_n 0) 1 27 := ⟨by decide +kernel, rfl⟩
theorem k7_27 : en_df 7 27 0 7 false true 30 := ⟨43, by decide +kernel, by decide +kernel, by decide +kernel, rfl⟩
theorem k7_30 : en_d 7 30 (.iload_n 1) 1 31 := ⟨by decide +kernel, rfl⟩
theorem k7_31 : en_d 7 31 .aaload 1 32 := ⟨by decide +kernel, rfl⟩
theorem k7_32 : en_d 7 32 (.astore_n 2) 1 33 := ⟨by decide +kernel, rfl⟩
theorem k7_33 : en_d 7 33 (.aload_n 2) 1 34 := ⟨by decide +kernel, rfl⟩
theorem k7_34 : en_df 7 34 7 2 true true 37 := ⟨152, by decide +kernel, by decide +kernel, by decide +kernel, rfl⟩
theorem k7_37 : en_df 7 37 6 1 true false 40 := ⟨155, by decide +kernel, by decide +kernel, by decide +kernel, rfl⟩
theorem k7_40 : en_d 7 40 (.bipush 40) 2 42 := ⟨by decide +kernel, rfl⟩
theorem k7_42 : en_j 7 42 (.if_icmp .lt) 45 47 := ⟨5, by decide +kernel, by decide, rfl⟩
theorem k7_45 : en_d 7 45 (.iconst (-1)) 1 46 := ⟨by decide +kernel, rfl⟩
theorem k7_46 : en_d 7 46 .ireturn 1 47 := ⟨by decide +kernel, rfl⟩
theorem k7_47 : en_d 7 47 (.aload_n 0) 1 48 := ⟨by decide +kernel, rfl⟩
theorem k7_48 : en_df 7 48 0 4 false false 51 := ⟨29, by decide +kernel, by decide +kernel, by decide +kernel, rfl⟩
theorem k7_51 : en_d 7 51 (.iconst 4) 1 52 := ⟨by decide +kernel, rfl⟩
theorem k7_52 : en_dn 7 52 8 55 := ⟨158, by decide +kernel, by decide +kernel, rfl, by decide +kernel, by decide +kernel⟩
theorem k7_55 : en_d 7 55 (.istore_n 3) 1 56 := ⟨by decide +kernel, rfl⟩
theorem k7_56 : en_d 7 56 (.aload_n 0) 1 57 := ⟨by decide +kernel, rfl⟩
theorem k7_57 : en_df 7 57 0 5 false true 60 := ⟨34, by decide +kernel, by decide +kernel, by decide +kernel, rfl⟩
theorem k7_60 : en_d 7 60 (.aload_n 0) 1 61 := ⟨by decide +kernel, rfl⟩
theorem k7_61 : en_df 7 61 0 6 false false 64 := ⟨38, by decide +kernel, by decide +kernel, by decide +kernel, rfl⟩
theorem k7_64 : en_d 7 64 .aaload 1 65 := ⟨by decide +kernel, rfl⟩
theorem k7_65 : en_d 7 65 (.aload_n 0) 1 66 := ⟨by decide +kernel, rfl⟩
theorem k7_66 : en_df 7 66 0 3 false true 69 := ⟨25, by decide +kernel, by decide +kernel, by decide +kernel, rfl⟩
theorem k7_69 : en_d 7 69 (.iload_n 3) 1 70 := ⟨by decide +kernel, rfl⟩
theorem k7_70 : en_d 7 70 (.aload_n 2) 1 71 := ⟨by decide +kernel, rfl⟩
theorem k7_71 : en_df 7 71 7 1 true false 74 := ⟨146, by decide +kernel, by decide +kernel, by decide +kernel, rfl⟩
theorem k7_74 : en_dv 7 74 74 true 77 := ⟨164, by decide +kernel, by decide +kernel, rfl, by decide +kernel, by decide +kernel⟩
theorem k7_77 : en_d 7 77 (.aload_n 0) 1 78 := ⟨by decide +kernel, rfl⟩
theorem k7_78 : en_d 7 78 (.iload_n 3) 1 79 := ⟨by decide +kernel, rfl⟩
theorem k7_79 : en_dv 7 79 27 false 82 := ⟨168, by decide +kernel, by decide +kernel, rfl, by decide +kernel, by decide +kernel⟩
theorem k7_82 : en_d 7 82 (.aload_n 2) 1 83 := ⟨by decide +kernel, rfl⟩
theorem k7_83 : en_df 7 83 7 2 true true 86 := ⟨152, by decide +kernel, by decide +kernel, by decide +kernel, rfl⟩
theorem k7_86 : en_d 7 86 (.aload_n 0) 1 87 := ⟨by decide +kernel, rfl⟩
theorem k7_87 : en_df 7 87 0 6 false false 90 := ⟨38, by decide +kernel, by decide +kernel, by decide +kernel, rfl⟩
theorem k7_90 : en_dv 7 90 78 true 93 := ⟨172, by decide +kernel, by decide +kernel, rfl, by decide +kernel, by decide +kernel⟩
theorem k7_93 : en_d 7 93 (.aload_n 0) 1 94 := ⟨by decide +kernel, rfl⟩
theorem k7_94 : en_d 7 94 .dup 1 95 := ⟨by decide +kernel, rfl⟩
theorem k7_95 : en_df 7 95 0 6 false false 98 := ⟨38, by decide +kernel, by decide +kernel, by decide +kernel, rfl⟩
theorem k7_98 : en_d 7 98 (.iconst 1) 1 99 := ⟨by decide +kernel, rfl⟩
theorem k7_99 : en_d 7 99 .iadd 1 100 := ⟨by decide +kernel, rfl⟩
theorem k7_100 : en_dp 7 100 0 6 false .int 103 := ⟨38, by decide +kernel, by decide +kernel, by decide +kernel, rfl⟩
theorem k7_103 : en_d 7 103 (.iload_n 3) 1 104 := ⟨by decide +kernel, rfl⟩
theorem k7_104 : en_d 7 104 .ireturn 1 105 := ⟨by decide +kernel, rfl⟩
/-! 8: EndorsedLedger.copy(II)I -/
theorem k8_0 : en_d 8 0 (.aload_n 0) 1 1 := ⟨by decide +kernel, rfl⟩
theorem k8_1 : en_d 8 1 (.iload_n 1) 1 2 := ⟨by decide +kernel, rfl⟩
theorem k8_2 : en_dv 8 2 21 false 5 := ⟨149, by decide +kernel, by decide +kernel, rfl, by decide +kernel, by decide +kernel⟩
theorem k8_5 : en_j 8 5 (.ifCond .eq) 8 33 := ⟨28, by decide +kernel, by decide, rfl⟩
theorem k8_8 : en_d 8 8 (.iload_n 2) 1 9 := ⟨by decide +kernel, rfl⟩
theorem k8_9 : en_d 8 9 (.iconst 3) 1 10 := ⟨by decide +kernel, rfl⟩
theorem k8_10 : en_dS 8 10 19 false 13 := ⟨75, by decide +kernel, by decide +kernel, rfl, by decide +kernel, by decide +kernel⟩
theorem k8_13 : en_j 8 13 (.ifCond .eq) 16 33 := ⟨20, by decide +kernel, by decide, rfl⟩
theorem k8_16 : en_d 8 16 (.iload_n 1) 1 17 := ⟨by decide +kernel, rfl⟩
theorem k8_17 : en_d 8 17 (.iload_n 2) 1 18 := ⟨by decide +kernel, rfl⟩
theorem k8_18 : en_j 8 18 (.if_icmp .eq) 21 33 := ⟨15, by decide +kernel, by decide, rfl⟩
theorem k8_21 : en_d 8 21 (.aload_n 0) 1 22 := ⟨by decide +kernel, rfl⟩
theorem k8_22 : en_df 8 22 0 7 false true 25 := ⟨43, by decide +kernel, by decide +kernel, by decide +kernel, rfl⟩
theorem k8_25 : en_d 8 25 (.iload_n 2) 1 26 := ⟨by decide +kernel, rfl⟩
theorem k8_26 : en_d 8 26 .aaload 1 27 := ⟨by decide +kernel, rfl⟩
theorem k8_27 : en_df 8 27 7 0 true false 30 := ⟨135, by decide +kernel, by decide +kernel, by decide +kernel, rfl⟩
theorem k8_30 : en_j 8 30 (.ifCond .ne) 33 35 := ⟨5, by decide +kernel, by decide, rfl⟩
theorem k8_33 : en_d 8 33 (.iconst (-1)) 1 34 := ⟨by decide +kernel, rfl⟩
theorem k8_34 : en_d 8 34 .ireturn 1 35 := ⟨by decide +kernel, rfl⟩
theorem k8_35 : en_d 8 35 (.aload_n 0) 1 36 := ⟨by decide +kernel, rfl⟩
theorem k8_36 : en_df 8 36 0 7 false true 39 := ⟨43, by decide +kernel, by decide +kernel, by decide +kernel, rfl⟩
theorem k8_39 : en_d 8 39 (.iload_n 1) 1 40 := ⟨by decide +kernel, rfl⟩
theorem k8_40 : en_d 8 40 .aaload 1 41 := ⟨by decide +kernel, rfl⟩
theorem k8_41 : en_df 8 41 7 2 true true 44 := ⟨152, by decide +kernel, by decide +kernel, by decide +kernel, rfl⟩
theorem k8_44 : en_d 8 44 (.aload_n 0) 1 45 := ⟨by decide +kernel, rfl⟩
theorem k8_45 : en_df 8 45 0 7 false true 48 := ⟨43, by decide +kernel, by decide +kernel, by decide +kernel, rfl⟩
theorem k8_48 : en_d 8 48 (.iload_n 2) 1 49 := ⟨by decide +kernel, rfl⟩
theorem k8_49 : en_d 8 49 .aaload 1 50 := ⟨by decide +kernel, rfl⟩
theorem k8_50 : en_df 8 50 7 2 true true 53 := ⟨152, by decide +kernel, by decide +kernel, by decide +kernel, rfl⟩
theorem k8_53 : en_dS 8 53 28 false 56 := ⟨175, by decide +kernel, by decide +kernel, rfl, by decide +kernel, by decide +kernel⟩
theorem k8_56 : en_d 8 56 (.istore_n 3) 1 57 := ⟨by decide +kernel, rfl⟩
theorem k8_57 : en_d 8 57 (.aload_n 0) 1 58 := ⟨by decide +kernel, rfl⟩
theorem k8_58 : en_df 8 58 0 7 false true 61 := ⟨43, by decide +kernel, by decide +kernel, by decide +kernel, rfl⟩
theorem k8_61 : en_d 8 61 (.iload_n 2) 1 62 := ⟨by decide +kernel, rfl⟩
theorem k8_62 : en_d 8 62 .aaload 1 63 := ⟨by decide +kernel, rfl⟩
theorem k8_63 : en_d 8 63 (.aload_n 0) 1 64 := ⟨by decide +kernel, rfl⟩
theorem k8_64 : en_df 8 64 0 7 false true 67 := ⟨43, by decide +kernel, by decide +kernel, by decide +kernel, rfl⟩
theorem k8_67 : en_d 8 67 (.iload_n 1) 1 68 := ⟨by decide +kernel, rfl⟩
theorem k8_68 : en_d 8 68 .aaload 1 69 := ⟨by decide +kernel, rfl⟩
theorem k8_69 : en_df 8 69 7 1 true false 72 := ⟨146, by decide +kernel, by decide +kernel, by decide +kernel, rfl⟩
theorem k8_72 : en_dp 8 72 7 1 true .int 75 := ⟨146, by decide +kernel, by decide +kernel, by decide +kernel, rfl⟩
theorem k8_75 : en_d 8 75 (.aload_n 0) 1 76 := ⟨by decide +kernel, rfl⟩
theorem k8_76 : en_d 8 76 (.iload_n 1) 1 77 := ⟨by decide +kernel, rfl⟩
theorem k8_77 : en_dv 8 77 29 false 80 := ⟨179, by decide +kernel, by decide +kernel, rfl, by decide +kernel, by decide +kernel⟩
theorem k8_80 : en_d 8 80 (.istore 4) 2 82 := ⟨by decide +kernel, rfl⟩
theorem k8_82 : en_d 8 82 (.iload 4) 2 84 := ⟨by decide +kernel, rfl⟩
theorem k8_84 : en_d 8 84 (.aload_n 0) 1 85 := ⟨by decide +kernel, rfl⟩
theorem k8_85 : en_df 8 85 0 9 false true 88 := ⟨53, by decide +kernel, by decide +kernel, by decide +kernel, rfl⟩
theorem k8_88 : en_df 8 88 6 1 true false 91 := ⟨155, by decide +kernel, by decide +kernel, by decide +kernel, rfl⟩
theorem k8_91 : en_j 8 91 (.if_icmp .le) 94 112 := ⟨21, by decide +kernel, by decide, rfl⟩
theorem k8_94 : en_d 8 94 (.aload_n 0) 1 95 := ⟨by decide +kernel, rfl⟩
theorem k8_95 : en_df 8 95 0 9 false true 98 := ⟨53, by decide +kernel, by decide +kernel, by decide +kernel, rfl⟩
theorem k8_98 : en_d 8 98 (.aload_n 0) 1 99 := ⟨by decide +kernel, rfl⟩
theorem k8_99 : en_df 8 99 0 7 false true 102 := ⟨43, by decide +kernel, by decide +kernel, by decide +kernel, rfl⟩
theorem k8_102 : en_d 8 102 (.iload_n 1) 1 103 := ⟨by decide +kernel, rfl⟩
theorem k8_103 : en_d 8 103 .aaload 1 104 := ⟨by decide +kernel, rfl⟩
theorem k8_104 : en_df 8 104 7 2 true true 107 := ⟨152, by decide +kernel, by decide +kernel, by decide +kernel, rfl⟩
theorem k8_107 : en_d 8 107 (.iload 4) 2 109 := ⟨by decide +kernel, rfl⟩
theorem k8_109 : en_dv 8 109 80 true 112 := ⟨182, by decide +kernel, by decide +kernel, rfl, by decide +kernel, by decide +kernel⟩
theorem k8_112 : en_d 8 112 (.iload_n 3) 1 113 := ⟨by decide +kernel, rfl⟩
theorem k8_113 : en_d 8 113 .ireturn 1 114 := ⟨by decide +kernel, rfl⟩
/-! 9: EndorsedLedger.power(IZ)I -/
theorem k9_0 : en_d 9 0 (.iload_n 1) 1 1 := ⟨by decide +kernel, rfl⟩
theorem k9_1 : en_d 9 1 (.iconst 3) 1 2 := ⟨by decide +kernel, rfl⟩
theorem k9_2 : en_dS 9 2 19 false 5 := ⟨75, by decide +kernel, by decide +kernel, rfl, by decide +kernel, by decide +kernel⟩
theorem k9_5 : en_j 9 5 (.ifCond .eq) 8 15 := ⟨10, by decide +kernel, by decide, rfl⟩
theorem k9_8 : en_d 9 8 (.aload_n 0) 1 9 := ⟨by decide +kernel, rfl⟩
theorem k9_9 : en_d 9 9 (.iload_n 1) 1 10 := ⟨by decide +kernel, rfl⟩
theorem k9_10 : en_d 9 10 (.iload_n 2) 1 11 := ⟨by decide +kernel, rfl⟩
theorem k9_11 : en_dv 9 11 31 false 14 := ⟨186, by decide +kernel, by decide +kernel, rfl, by decide +kernel, by decide +kernel⟩
theorem k9_14 : en_d 9 14 .ireturn 1 15 := ⟨by decide +kernel, rfl⟩
theorem k9_15 : en_d 9 15 (.iload_n 1) 1 16 := ⟨by decide +kernel, rfl⟩
theorem k9_16 : en_d 9 16 (.iconst 3) 1 17 := ⟨by decide +kernel, rfl⟩
theorem k9_17 : en_d 9 17 .isub 1 18 := ⟨by decide +kernel, rfl⟩
theorem k9_18 : en_d 9 18 (.iconst 4) 1 19 := ⟨by decide +kernel, rfl⟩
theorem k9_19 : en_dS 9 19 19 false 22 := ⟨75, by decide +kernel, by decide +kernel, rfl, by decide +kernel, by decide +kernel⟩
theorem k9_22 : en_j 9 22 (.ifCond .eq) 25 39 := ⟨17, by decide +kernel, by decide, rfl⟩
theorem k9_25 : en_d 9 25 (.aload_n 0) 1 26 := ⟨by decide +kernel, rfl⟩
theorem k9_26 : en_d 9 26 (.aload_n 0) 1 27 := ⟨by decide +kernel, rfl⟩
theorem k9_27 : en_df 9 27 0 10 false true 30 := ⟨59, by decide +kernel, by decide +kernel, by decide +kernel, rfl⟩
theorem k9_30 : en_d 9 30 (.iload_n 1) 1 31 := ⟨by decide +kernel, rfl⟩
theorem k9_31 : en_d 9 31 (.iconst 3) 1 32 := ⟨by decide +kernel, rfl⟩
theorem k9_32 : en_d 9 32 .isub 1 33 := ⟨by decide +kernel, rfl⟩
theorem k9_33 : en_d 9 33 .aaload 1 34 := ⟨by decide +kernel, rfl⟩
theorem k9_34 : en_d 9 34 (.iload_n 2) 1 35 := ⟨by decide +kernel, rfl⟩
theorem k9_35 : en_dv 9 35 32 false 38 := ⟨190, by decide +kernel, by decide +kernel, rfl, by decide +kernel, by decide +kernel⟩
theorem k9_38 : en_d 9 38 .ireturn 1 39 := ⟨by decide +kernel, rfl⟩
theorem k9_39 : en_d 9 39 (.iconst (-1)) 1 40 := ⟨by decide +kernel, rfl⟩
theorem k9_40 : en_d 9 40 .ireturn 1 41 := ⟨by decide +kernel, rfl⟩
/-! 10: EndorsedLedger.deliver(I)I -/
theorem k10_0 : en_d 10 0 (.aload_n 0) 1 1 := ⟨by decide +kernel, rfl⟩
theorem k10_1 : en_d 10 1 (.iload_n 1) 1 2 := ⟨by decide +kernel, rfl⟩
theorem k10_2 : en_dv 10 2 34 false 5 := ⟨194, by decide +kernel, by decide +kernel, rfl, by decide +kernel, by decide +kernel⟩
theorem k10_5 : en_j 10 5 (.ifCond .ne) 8 10 := ⟨5, by decide +kernel, by decide, rfl⟩
theorem k10_8 : en_d 10 8 (.iconst (-1)) 1 9 := ⟨by decide +kernel, rfl⟩
theorem k10_9 : en_d 10 9 .ireturn 1 10 := ⟨by decide +kernel, rfl⟩
theorem k10_10 : en_d 10 10 (.aload_n 0) 1 11 := ⟨by decide +kernel, rfl⟩
theorem k10_11 : en_df 10 11 0 10 false true 14 := ⟨59, by decide +kernel, by decide +kernel, by decide +kernel, rfl⟩
theorem k10_14 : en_d 10 14 (.iload_n 1) 1 15 := ⟨by decide +kernel, rfl⟩
theorem k10_15 : en_d 10 15 .aaload 1 16 := ⟨by decide +kernel, rfl⟩
theorem k10_16 : en_d 10 16 .dup 1 17 := ⟨by decide +kernel, rfl⟩
theorem k10_17 : en_df 10 17 9 1 true false 20 := ⟨197, by decide +kernel, by decide +kernel, by decide +kernel, rfl⟩
theorem k10_20 : en_d 10 20 (.iconst 1) 1 21 := ⟨by decide +kernel, rfl⟩
theorem k10_21 : en_d 10 21 .iadd 1 22 := ⟨by decide +kernel, rfl⟩
theorem k10_22 : en_dp 10 22 9 1 true .int 25 := ⟨197, by decide +kernel, by decide +kernel, by decide +kernel, rfl⟩
theorem k10_25 : en_d 10 25 (.aload_n 0) 1 26 := ⟨by decide +kernel, rfl⟩
theorem k10_26 : en_d 10 26 (.aload_n 0) 1 27 := ⟨by decide +kernel, rfl⟩
theorem k10_27 : en_df 10 27 0 10 false true 30 := ⟨59, by decide +kernel, by decide +kernel, by decide +kernel, rfl⟩
theorem k10_30 : en_d 10 30 (.iload_n 1) 1 31 := ⟨by decide +kernel, rfl⟩
theorem k10_31 : en_d 10 31 .aaload 1 32 := ⟨by decide +kernel, rfl⟩
theorem k10_32 : en_dv 10 32 36 false 35 := ⟨200, by decide +kernel, by decide +kernel, rfl, by decide +kernel, by decide +kernel⟩
theorem k10_35 : en_d 10 35 .ireturn 1 36 := ⟨by decide +kernel, rfl⟩
/-! 11: EndorsedLedger.tear(I)Z -/
theorem k11_0 : en_d 11 0 (.aload_n 0) 1 1 := ⟨by decide +kernel, rfl⟩
theorem k11_1 : en_d 11 1 (.iload_n 1) 1 2 := ⟨by decide +kernel, rfl⟩
theorem k11_2 : en_dv 11 2 34 false 5 := ⟨194, by decide +kernel, by decide +kernel, rfl, by decide +kernel, by decide +kernel⟩
theorem k11_5 : en_j 11 5 (.ifCond .ne) 8 10 := ⟨5, by decide +kernel, by decide, rfl⟩
theorem k11_8 : en_d 11 8 (.iconst 0) 1 9 := ⟨by decide +kernel, rfl⟩
theorem k11_9 : en_d 11 9 .ireturn 1 10 := ⟨by decide +kernel, rfl⟩
theorem k11_10 : en_d 11 10 (.aload_n 0) 1 11 := ⟨by decide +kernel, rfl⟩
theorem k11_11 : en_df 11 11 0 10 false true 14 := ⟨59, by decide +kernel, by decide +kernel, by decide +kernel, rfl⟩
theorem k11_14 : en_d 11 14 (.iload_n 1) 1 15 := ⟨by decide +kernel, rfl⟩
theorem k11_15 : en_d 11 15 .aaload 1 16 := ⟨by decide +kernel, rfl⟩
theorem k11_16 : en_d 11 16 .dup 1 17 := ⟨by decide +kernel, rfl⟩
theorem k11_17 : en_df 11 17 9 1 true false 20 := ⟨197, by decide +kernel, by decide +kernel, by decide +kernel, rfl⟩
theorem k11_20 : en_d 11 20 (.iconst 1) 1 21 := ⟨by decide +kernel, rfl⟩
theorem k11_21 : en_d 11 21 .iadd 1 22 := ⟨by decide +kernel, rfl⟩
theorem k11_22 : en_dp 11 22 9 1 true .int 25 := ⟨197, by decide +kernel, by decide +kernel, by decide +kernel, rfl⟩
theorem k11_25 : en_d 11 25 (.aload_n 0) 1 26 := ⟨by decide +kernel, rfl⟩
theorem k11_26 : en_df 11 26 0 10 false true 29 := ⟨59, by decide +kernel, by decide +kernel, by decide +kernel, rfl⟩
theorem k11_29 : en_d 11 29 (.iload_n 1) 1 30 := ⟨by decide +kernel, rfl⟩
theorem k11_30 : en_d 11 30 .aaload 1 31 := ⟨by decide +kernel, rfl⟩
theorem k11_31 : en_d 11 31 (.iconst 0) 1 32 := ⟨by decide +kernel, rfl⟩
theorem k11_32 : en_dp 11 32 9 0 true .boolean 35 := ⟨204, by decide +kernel, by decide +kernel, by decide +kernel, rfl⟩
theorem k11_35 : en_d 11 35 (.iconst 1) 1 36 := ⟨by decide +kernel, rfl⟩
theorem k11_36 : en_d 11 36 .ireturn 1 37 := ⟨by decide +kernel, rfl⟩
/-! 12: EndorsedLedger.transaction(II)I -/
theorem k12_0 : en_d 12 0 (.iload_n 1) 1 1 := ⟨by decide +kernel, rfl⟩
theorem k12_1 : en_d 12 1 (.aload_n 0) 1 2 := ⟨by decide +kernel, rfl⟩
theorem k12_2 : en_df 12 2 0 2 false false 5 := ⟨21, by decide +kernel, by decide +kernel, by decide +kernel, rfl⟩
theorem k12_5 : en_dS 12 5 19 false 8 := ⟨75, by decide +kernel, by decide +kernel, rfl, by decide +kernel, by decide +kernel⟩
theorem k12_8 : en_j 12 8 (.ifCond .ne) 11 13 := ⟨5, by decide +kernel, by decide, rfl⟩
theorem k12_11 : en_d 12 11 (.iconst (-1)) 1 12 := ⟨by decide +kernel, rfl⟩
theorem k12_12 : en_d 12 12 .ireturn 1 13 := ⟨by decide +kernel, rfl⟩
theorem k12_13 : en_d 12 13 (.aload_n 0) 1 14 := ⟨by decide +kernel, rfl⟩
theorem k12_14 : en_df 12 14 0 1 false true 17 := ⟨17, by decide +kernel, by decide +kernel, by decide +kernel, rfl⟩
theorem k12_17 : en_d 12 17 (.iload_n 1) 1 18 := ⟨by decide +kernel, rfl⟩
theorem k12_18 : en_d 12 18 .aaload 1 19 := ⟨by decide +kernel, rfl⟩
theorem k12_19 : en_d 12 19 (.astore_n 3) 1 20 := ⟨by decide +kernel, rfl⟩
theorem k12_20 : en_d 12 20 (.iload_n 2) 1 21 := ⟨by decide +kernel, rfl⟩
theorem k12_21 : decode (mB 12) 21 = .ok (.tableswitch 95 0 6 #[43, 48, 53, 58, 66, 74, 82], 43) := by decide +kernel
theorem k12_64 : en_d 12 64 (.aload_n 3) 1 65 := ⟨by decide +kernel, rfl⟩
theorem k12_65 : en_df 12 65 4 0 true false 68 := ⟨89, by decide +kernel, by decide +kernel, by decide +kernel, rfl⟩
theorem k12_68 : en_d 12 68 .ireturn 1 69 := ⟨by decide +kernel, rfl⟩
theorem k12_69 : en_d 12 69 (.aload_n 3) 1 70 := ⟨by decide +kernel, rfl⟩
theorem k12_70 : en_df 12 70 4 1 true false 73 := ⟨92, by decide +kernel, by decide +kernel, by decide +kernel, rfl⟩
theorem k12_73 : en_d 12 73 .ireturn 1 74 := ⟨by decide +kernel, rfl⟩
theorem k12_74 : en_d 12 74 (.aload_n 3) 1 75 := ⟨by decide +kernel, rfl⟩
theorem k12_75 : en_df 12 75 4 2 true false 78 := ⟨132, by decide +kernel, by decide +kernel, by decide +kernel, rfl⟩
theorem k12_78 : en_d 12 78 .ireturn 1 79 := ⟨by decide +kernel, rfl⟩
theorem k12_79 : en_d 12 79 (.aload_n 3) 1 80 := ⟨by decide +kernel, rfl⟩
theorem k12_80 : en_df 12 80 4 4 true true 83 := ⟨117, by decide +kernel, by decide +kernel, by decide +kernel, rfl⟩
theorem k12_83 : en_dv 12 83 63 true 86 := ⟨205, by decide +kernel, by decide +kernel, rfl, by decide +kernel, by decide +kernel⟩
theorem k12_86 : en_d 12 86 .ireturn 1 87 := ⟨by decide +kernel, rfl⟩
theorem k12_87 : en_d 12 87 (.aload_n 3) 1 88 := ⟨by decide +kernel, rfl⟩
theorem k12_88 : en_df 12 88 4 4 true true 91 := ⟨117, by decide +kernel, by decide +kernel, by decide +kernel, rfl⟩
theorem k12_91 : en_df 12 91 3 1 true false 94 := ⟨208, by decide +kernel, by decide +kernel, by decide +kernel, rfl⟩
theorem k12_94 : en_d 12 94 .ireturn 1 95 := ⟨by decide +kernel, rfl⟩
theorem k12_95 : en_d 12 95 (.aload_n 3) 1 96 := ⟨by decide +kernel, rfl⟩
theorem k12_96 : en_df 12 96 4 4 true true 99 := ⟨117, by decide +kernel, by decide +kernel, by decide +kernel, rfl⟩
theorem k12_99 : en_dv 12 99 64 true 102 := ⟨211, by decide +kernel, by decide +kernel, rfl, by decide +kernel, by decide +kernel⟩
theorem k12_102 : en_d 12 102 .ireturn 1 103 := ⟨by decide +kernel, rfl⟩
theorem k12_103 : en_d 12 103 (.aload_n 3) 1 104 := ⟨by decide +kernel, rfl⟩
theorem k12_104 : en_df 12 104 4 3 true false 107 := ⟨98, by decide +kernel, by decide +kernel, by decide +kernel, rfl⟩
theorem k12_107 : en_j 12 107 (.ifCond .eq) 110 114 := ⟨7, by decide +kernel, by decide, rfl⟩
theorem k12_110 : en_d 12 110 (.iconst 1) 1 111 := ⟨by decide +kernel, rfl⟩
theorem k12_111 : en_j 12 111 .goto 114 115 := ⟨4, by decide +kernel, by decide, rfl⟩
theorem k12_114 : en_d 12 114 (.iconst 0) 1 115 := ⟨by decide +kernel, rfl⟩
theorem k12_115 : en_d 12 115 .ireturn 1 116 := ⟨by decide +kernel, rfl⟩
theorem k12_116 : en_d 12 116 (.iconst (-1)) 1 117 := ⟨by decide +kernel, rfl⟩
theorem k12_117 : en_d 12 117 .ireturn 1 118 := ⟨by decide +kernel, rfl⟩
/-! 13: EndorsedLedger.access(III)I -/
theorem k13_0 : en_d 13 0 (.iload_n 1) 1 1 := ⟨by decide +kernel, rfl⟩
theorem k13_1 : en_d 13 1 (.aload_n 0) 1 2 := ⟨by decide +kernel, rfl⟩
theorem k13_2 : en_df 13 2 0 2 false false 5 := ⟨21, by decide +kernel, by decide +kernel, by decide +kernel, rfl⟩
theorem k13_5 : en_dS 13 5 19 false 8 := ⟨75, by decide +kernel, by decide +kernel, rfl, by decide +kernel, by decide +kernel⟩
theorem k13_8 : en_j 13 8 (.ifCond .eq) 11 28 := ⟨20, by decide +kernel, by decide, rfl⟩
theorem k13_11 : en_d 13 11 (.iload_n 2) 1 12 := ⟨by decide +kernel, rfl⟩
theorem k13_12 : en_d 13 12 (.bipush 16) 2 14 := ⟨by decide +kernel, rfl⟩
theorem k13_14 : en_dS 13 14 19 false 17 := ⟨75, by decide +kernel, by decide +kernel, rfl, by decide +kernel, by decide +kernel⟩
theorem k13_17 : en_j 13 17 (.ifCond .eq) 20 28 := ⟨11, by decide +kernel, by decide, rfl⟩
theorem k13_20 : en_d 13 20 (.iload_n 3) 1 21 := ⟨by decide +kernel, rfl⟩
theorem k13_21 : en_d 13 21 (.iconst 5) 1 22 := ⟨by decide +kernel, rfl⟩
theorem k13_22 : en_dS 13 22 19 false 25 := ⟨75, by decide +kernel, by decide +kernel, rfl, by decide +kernel, by decide +kernel⟩
theorem k13_25 : en_j 13 25 (.ifCond .ne) 28 30 := ⟨5, by decide +kernel, by decide, rfl⟩
theorem k13_28 : en_d 13 28 (.iconst (-1)) 1 29 := ⟨by decide +kernel, rfl⟩
theorem k13_29 : en_d 13 29 .ireturn 1 30 := ⟨by decide +kernel, rfl⟩
theorem k13_30 : en_d 13 30 (.aload_n 0) 1 31 := ⟨by decide +kernel, rfl⟩
theorem k13_31 : en_df 13 31 0 1 false true 34 := ⟨17, by decide +kernel, by decide +kernel, by decide +kernel, rfl⟩
theorem k13_34 : en_d 13 34 (.iload_n 1) 1 35 := ⟨by decide +kernel, rfl⟩
theorem k13_35 : en_d 13 35 .aaload 1 36 := ⟨by decide +kernel, rfl⟩
theorem k13_36 : en_d 13 36 (.astore 4) 2 38 := ⟨by decide +kernel, rfl⟩
theorem k13_38 : en_d 13 38 (.aload 4) 2 40 := ⟨by decide +kernel, rfl⟩
theorem k13_40 : en_dv 13 40 72 true 43 := ⟨113, by decide +kernel, by decide +kernel, rfl, by decide +kernel, by decide +kernel⟩
theorem k13_43 : en_j 13 43 (.ifCond .eq) 46 64 := ⟨21, by decide +kernel, by decide, rfl⟩
theorem k13_46 : en_d 13 46 (.aload 4) 2 48 := ⟨by decide +kernel, rfl⟩
theorem k13_48 : en_df 13 48 4 4 true true 51 := ⟨117, by decide +kernel, by decide +kernel, by decide +kernel, rfl⟩
theorem k13_51 : en_df 13 51 3 0 true true 54 := ⟨214, by decide +kernel, by decide +kernel, by decide +kernel, rfl⟩
theorem k13_54 : en_d 13 54 (.iload_n 3) 1 55 := ⟨by decide +kernel, rfl⟩
theorem k13_55 : en_d 13 55 (.bipush 16) 2 57 := ⟨by decide +kernel, rfl⟩
theorem k13_57 : en_d 13 57 .imul 1 58 := ⟨by decide +kernel, rfl⟩
theorem k13_58 : en_d 13 58 (.iload_n 2) 1 59 := ⟨by decide +kernel, rfl⟩
theorem k13_59 : en_d 13 59 .iadd 1 60 := ⟨by decide +kernel, rfl⟩
theorem k13_60 : en_d 13 60 .iaload 1 61 := ⟨by decide +kernel, rfl⟩
theorem k13_61 : en_j 13 61 .goto 64 65 := ⟨4, by decide +kernel, by decide, rfl⟩
theorem k13_64 : en_d 13 64 (.iconst (-1)) 1 65 := ⟨by decide +kernel, rfl⟩
theorem k13_65 : en_d 13 65 .ireturn 1 66 := ⟨by decide +kernel, rfl⟩
/-! 14: EndorsedLedger.state(III)I -/
theorem k14_0 : en_d 14 0 (.aload_n 0) 1 1 := ⟨by decide +kernel, rfl⟩
theorem k14_1 : en_d 14 1 (.iload_n 1) 1 2 := ⟨by decide +kernel, rfl⟩
theorem k14_2 : en_dv 14 2 20 false 5 := ⟨95, by decide +kernel, by decide +kernel, rfl, by decide +kernel, by decide +kernel⟩
theorem k14_5 : en_j 14 5 (.ifCond .eq) 8 17 := ⟨12, by decide +kernel, by decide, rfl⟩
theorem k14_8 : en_d 14 8 (.iload_n 2) 1 9 := ⟨by decide +kernel, rfl⟩
theorem k14_9 : en_d 14 9 (.bipush 16) 2 11 := ⟨by decide +kernel, rfl⟩
theorem k14_11 : en_dS 14 11 19 false 14 := ⟨75, by decide +kernel, by decide +kernel, rfl, by decide +kernel, by decide +kernel⟩
theorem k14_14 : en_j 14 14 (.ifCond .ne) 17 19 := ⟨5, by decide +kernel, by decide, rfl⟩
theorem k14_17 : en_d 14 17 (.iconst (-1)) 1 18 := ⟨by decide +kernel, rfl⟩
theorem k14_18 : en_d 14 18 .ireturn 1 19 := ⟨by decide +kernel, rfl⟩
theorem k14_19 : en_d 14 19 (.iload_n 3) 1 20 := ⟨by decide +kernel, rfl⟩
theorem k14_20 : decode (mB 14) 20 = .ok (.lookupswitch 58 #[(0, 28), (1, 43)], 28) := by decide +kernel
theorem k14_48 : en_d 14 48 (.aload_n 0) 1 49 := ⟨by decide +kernel, rfl⟩
theorem k14_49 : en_df 14 49 0 10 false true 52 := ⟨59, by decide +kernel, by decide +kernel, by decide +kernel, rfl⟩
theorem k14_52 : en_d 14 52 (.iload_n 1) 1 53 := ⟨by decide +kernel, rfl⟩
theorem k14_53 : en_d 14 53 .aaload 1 54 := ⟨by decide +kernel, rfl⟩
theorem k14_54 : en_df 14 54 9 2 true true 57 := ⟨105, by decide +kernel, by decide +kernel, by decide +kernel, rfl⟩
theorem k14_57 : en_df 14 57 8 0 true true 60 := ⟨217, by decide +kernel, by decide +kernel, by decide +kernel, rfl⟩
theorem k14_60 : en_d 14 60 (.iload_n 2) 1 61 := ⟨by decide +kernel, rfl⟩
theorem k14_61 : en_d 14 61 .iaload 1 62 := ⟨by decide +kernel, rfl⟩
theorem k14_62 : en_d 14 62 .ireturn 1 63 := ⟨by decide +kernel, rfl⟩
theorem k14_63 : en_d 14 63 (.aload_n 0) 1 64 := ⟨by decide +kernel, rfl⟩
theorem k14_64 : en_df 14 64 0 10 false true 67 := ⟨59, by decide +kernel, by decide +kernel, by decide +kernel, rfl⟩
theorem k14_67 : en_d 14 67 (.iload_n 1) 1 68 := ⟨by decide +kernel, rfl⟩
theorem k14_68 : en_d 14 68 .aaload 1 69 := ⟨by decide +kernel, rfl⟩
theorem k14_69 : en_df 14 69 9 2 true true 72 := ⟨105, by decide +kernel, by decide +kernel, by decide +kernel, rfl⟩
theorem k14_72 : en_df 14 72 8 1 true true 75 := ⟨222, by decide +kernel, by decide +kernel, by decide +kernel, rfl⟩
theorem k14_75 : en_d 14 75 (.iload_n 2) 1 76 := ⟨by decide +kernel, rfl⟩
theorem k14_76 : en_d 14 76 .iaload 1 77 := ⟨by decide +kernel, rfl⟩
theorem k14_77 : en_d 14 77 .ireturn 1 78 := ⟨by decide +kernel, rfl⟩
theorem k14_78 : en_d 14 78 (.iconst (-1)) 1 79 := ⟨by decide +kernel, rfl⟩
theorem k14_79 : en_d 14 79 .ireturn 1 80 := ⟨by decide +kernel, rfl⟩
/-! 15: EndorsedLedger.flag(III)I -/
theorem k15_0 : en_d 15 0 (.aload_n 0) 1 1 := ⟨by decide +kernel, rfl⟩
theorem k15_1 : en_d 15 1 (.iload_n 1) 1 2 := ⟨by decide +kernel, rfl⟩
theorem k15_2 : en_dv 15 2 20 false 5 := ⟨95, by decide +kernel, by decide +kernel, rfl, by decide +kernel, by decide +kernel⟩
theorem k15_5 : en_j 15 5 (.ifCond .eq) 8 27 := ⟨22, by decide +kernel, by decide, rfl⟩
theorem k15_8 : en_d 15 8 (.iload_n 2) 1 9 := ⟨by decide +kernel, rfl⟩
theorem k15_9 : en_d 15 9 (.aload_n 0) 1 10 := ⟨by decide +kernel, rfl⟩
theorem k15_10 : en_df 15 10 0 10 false true 13 := ⟨59, by decide +kernel, by decide +kernel, by decide +kernel, rfl⟩
theorem k15_13 : en_d 15 13 (.iload_n 1) 1 14 := ⟨by decide +kernel, rfl⟩
theorem k15_14 : en_d 15 14 .aaload 1 15 := ⟨by decide +kernel, rfl⟩
theorem k15_15 : en_df 15 15 9 2 true true 18 := ⟨105, by decide +kernel, by decide +kernel, by decide +kernel, rfl⟩
theorem k15_18 : en_df 15 18 8 2 true false 21 := ⟨225, by decide +kernel, by decide +kernel, by decide +kernel, rfl⟩
theorem k15_21 : en_dS 15 21 19 false 24 := ⟨75, by decide +kernel, by decide +kernel, rfl, by decide +kernel, by decide +kernel⟩
theorem k15_24 : en_j 15 24 (.ifCond .ne) 27 29 := ⟨5, by decide +kernel, by decide, rfl⟩
theorem k15_27 : en_d 15 27 (.iconst (-1)) 1 28 := ⟨by decide +kernel, rfl⟩
theorem k15_28 : en_d 15 28 .ireturn 1 29 := ⟨by decide +kernel, rfl⟩
theorem k15_29 : en_d 15 29 (.iload_n 3) 1 30 := ⟨by decide +kernel, rfl⟩
theorem k15_30 : en_d 15 30 (.aload_n 0) 1 31 := ⟨by decide +kernel, rfl⟩
theorem k15_31 : en_d 15 31 (.iload_n 2) 1 32 := ⟨by decide +kernel, rfl⟩
theorem k15_32 : en_dv 15 32 35 false 35 := ⟨228, by decide +kernel, by decide +kernel, rfl, by decide +kernel, by decide +kernel⟩
theorem k15_35 : en_df 15 35 5 1 true false 38 := ⟨232, by decide +kernel, by decide +kernel, by decide +kernel, rfl⟩
theorem k15_38 : en_dS 15 38 19 false 41 := ⟨75, by decide +kernel, by decide +kernel, rfl, by decide +kernel, by decide +kernel⟩
theorem k15_41 : en_j 15 41 (.ifCond .ne) 44 46 := ⟨5, by decide +kernel, by decide, rfl⟩
theorem k15_44 : en_d 15 44 (.iconst (-1)) 1 45 := ⟨by decide +kernel, rfl⟩
theorem k15_45 : en_d 15 45 .ireturn 1 46 := ⟨by decide +kernel, rfl⟩
theorem k15_46 : en_d 15 46 (.aload_n 0) 1 47 := ⟨by decide +kernel, rfl⟩
theorem k15_47 : en_df 15 47 0 10 false true 50 := ⟨59, by decide +kernel, by decide +kernel, by decide +kernel, rfl⟩
theorem k15_50 : en_d 15 50 (.iload_n 1) 1 51 := ⟨by decide +kernel, rfl⟩
theorem k15_51 : en_d 15 51 .aaload 1 52 := ⟨by decide +kernel, rfl⟩
theorem k15_52 : en_df 15 52 9 4 true true 55 := ⟨235, by decide +kernel, by decide +kernel, by decide +kernel, rfl⟩
theorem k15_55 : en_d 15 55 (.iload_n 2) 1 56 := ⟨by decide +kernel, rfl⟩
theorem k15_56 : en_d 15 56 (.iconst 4) 1 57 := ⟨by decide +kernel, rfl⟩
theorem k15_57 : en_d 15 57 .imul 1 58 := ⟨by decide +kernel, rfl⟩
theorem k15_58 : en_d 15 58 (.iload_n 3) 1 59 := ⟨by decide +kernel, rfl⟩
theorem k15_59 : en_d 15 59 .iadd 1 60 := ⟨by decide +kernel, rfl⟩
theorem k15_60 : en_d 15 60 .iaload 1 61 := ⟨by decide +kernel, rfl⟩
theorem k15_61 : en_d 15 61 .ireturn 1 62 := ⟨by decide +kernel, rfl⟩
/-! 16: EndorsedLedger.chain(II)I -/
theorem k16_0 : en_d 16 0 (.iload_n 1) 1 1 := ⟨by decide +kernel, rfl⟩
theorem k16_1 : en_d 16 1 (.aload_n 0) 1 2 := ⟨by decide +kernel, rfl⟩
theorem k16_2 : en_df 16 2 0 9 false true 5 := ⟨53, by decide +kernel, by decide +kernel, by decide +kernel, rfl⟩
theorem k16_5 : en_df 16 5 6 1 true false 8 := ⟨155, by decide +kernel, by decide +kernel, by decide +kernel, rfl⟩
theorem k16_8 : en_dS 16 8 19 false 11 := ⟨75, by decide +kernel, by decide +kernel, rfl, by decide +kernel, by decide +kernel⟩
theorem k16_11 : en_j 16 11 (.ifCond .ne) 14 16 := ⟨5, by decide +kernel, by decide, rfl⟩
theorem k16_14 : en_d 16 14 (.iconst (-1)) 1 15 := ⟨by decide +kernel, rfl⟩
theorem k16_15 : en_d 16 15 .ireturn 1 16 := ⟨by decide +kernel, rfl⟩
theorem k16_16 : en_d 16 16 (.aload_n 0) 1 17 := ⟨by decide +kernel, rfl⟩
theorem k16_17 : en_d 16 17 (.iload_n 1) 1 18 := ⟨by decide +kernel, rfl⟩
theorem k16_18 : en_dv 16 18 35 false 21 := ⟨228, by decide +kernel, by decide +kernel, rfl, by decide +kernel, by decide +kernel⟩
theorem k16_21 : en_d 16 21 (.astore_n 3) 1 22 := ⟨by decide +kernel, rfl⟩
theorem k16_22 : en_d 16 22 (.iload_n 2) 1 23 := ⟨by decide +kernel, rfl⟩
theorem k16_23 : en_d 16 23 (.iconst (-1)) 1 24 := ⟨by decide +kernel, rfl⟩
theorem k16_24 : en_j 16 24 (.if_icmp .ne) 27 34 := ⟨10, by decide +kernel, by decide, rfl⟩
theorem k16_27 : en_d 16 27 (.aload_n 3) 1 28 := ⟨by decide +kernel, rfl⟩
theorem k16_28 : en_df 16 28 5 1 true false 31 := ⟨232, by decide +kernel, by decide +kernel, by decide +kernel, rfl⟩
theorem k16_31 : en_j 16 31 .goto 34 39 := ⟨8, by decide +kernel, by decide, rfl⟩
theorem k16_34 : en_d 16 34 (.aload_n 3) 1 35 := ⟨by decide +kernel, rfl⟩
theorem k16_35 : en_d 16 35 (.iload_n 2) 1 36 := ⟨by decide +kernel, rfl⟩
theorem k16_36 : en_dv 16 36 75 true 39 := ⟨238, by decide +kernel, by decide +kernel, rfl, by decide +kernel, by decide +kernel⟩
theorem k16_39 : en_d 16 39 .ireturn 1 40 := ⟨by decide +kernel, rfl⟩
/-! 17: EndorsedLedger.log(III)I -/
theorem k17_0 : en_d 17 0 (.iload_n 1) 1 1 := ⟨by decide +kernel, rfl⟩
theorem k17_1 : en_d 17 1 (.iconst 3) 1 2 := ⟨by decide +kernel, rfl⟩
theorem k17_2 : en_dS 17 2 19 false 5 := ⟨75, by decide +kernel, by decide +kernel, rfl, by decide +kernel, by decide +kernel⟩
theorem k17_5 : en_j 17 5 (.ifCond .eq) 8 27 := ⟨22, by decide +kernel, by decide, rfl⟩
theorem k17_8 : en_d 17 8 (.iload_n 2) 1 9 := ⟨by decide +kernel, rfl⟩
theorem k17_9 : en_d 17 9 (.aload_n 0) 1 10 := ⟨by decide +kernel, rfl⟩
theorem k17_10 : en_df 17 10 0 7 false true 13 := ⟨43, by decide +kernel, by decide +kernel, by decide +kernel, rfl⟩
theorem k17_13 : en_d 17 13 (.iload_n 1) 1 14 := ⟨by decide +kernel, rfl⟩
theorem k17_14 : en_d 17 14 .aaload 1 15 := ⟨by decide +kernel, rfl⟩
theorem k17_15 : en_df 17 15 7 2 true true 18 := ⟨152, by decide +kernel, by decide +kernel, by decide +kernel, rfl⟩
theorem k17_18 : en_df 17 18 6 1 true false 21 := ⟨155, by decide +kernel, by decide +kernel, by decide +kernel, rfl⟩
theorem k17_21 : en_dS 17 21 19 false 24 := ⟨75, by decide +kernel, by decide +kernel, rfl, by decide +kernel, by decide +kernel⟩
theorem k17_24 : en_j 17 24 (.ifCond .ne) 27 29 := ⟨5, by decide +kernel, by decide, rfl⟩
theorem k17_27 : en_d 17 27 (.iconst (-1)) 1 28 := ⟨by decide +kernel, rfl⟩
theorem k17_28 : en_d 17 28 .ireturn 1 29 := ⟨by decide +kernel, rfl⟩
theorem k17_29 : en_d 17 29 (.aload_n 0) 1 30 := ⟨by decide +kernel, rfl⟩
theorem k17_30 : en_df 17 30 0 5 false true 33 := ⟨34, by decide +kernel, by decide +kernel, by decide +kernel, rfl⟩
theorem k17_33 : en_d 17 33 (.aload_n 0) 1 34 := ⟨by decide +kernel, rfl⟩
theorem k17_34 : en_df 17 34 0 7 false true 37 := ⟨43, by decide +kernel, by decide +kernel, by decide +kernel, rfl⟩
theorem k17_37 : en_d 17 37 (.iload_n 1) 1 38 := ⟨by decide +kernel, rfl⟩
theorem k17_38 : en_d 17 38 .aaload 1 39 := ⟨by decide +kernel, rfl⟩
theorem k17_39 : en_df 17 39 7 2 true true 42 := ⟨152, by decide +kernel, by decide +kernel, by decide +kernel, rfl⟩
theorem k17_42 : en_df 17 42 6 0 true true 45 := ⟨241, by decide +kernel, by decide +kernel, by decide +kernel, rfl⟩
theorem k17_45 : en_d 17 45 (.iload_n 2) 1 46 := ⟨by decide +kernel, rfl⟩
theorem k17_46 : en_d 17 46 .iaload 1 47 := ⟨by decide +kernel, rfl⟩
theorem k17_47 : en_d 17 47 .aaload 1 48 := ⟨by decide +kernel, rfl⟩
theorem k17_48 : en_d 17 48 (.astore 4) 2 50 := ⟨by decide +kernel, rfl⟩
theorem k17_50 : en_d 17 50 (.iload_n 3) 1 51 := ⟨by decide +kernel, rfl⟩
theorem k17_51 : en_d 17 51 (.iconst (-1)) 1 52 := ⟨by decide +kernel, rfl⟩
theorem k17_52 : en_j 17 52 (.if_icmp .ne) 55 63 := ⟨11, by decide +kernel, by decide, rfl⟩
theorem k17_55 : en_d 17 55 (.aload 4) 2 57 := ⟨by decide +kernel, rfl⟩
theorem k17_57 : en_df 17 57 5 2 true false 60 := ⟨244, by decide +kernel, by decide +kernel, by decide +kernel, rfl⟩
theorem k17_60 : en_j 17 60 .goto 63 69 := ⟨9, by decide +kernel, by decide, rfl⟩
theorem k17_63 : en_d 17 63 (.aload 4) 2 65 := ⟨by decide +kernel, rfl⟩
theorem k17_65 : en_d 17 65 (.iload_n 3) 1 66 := ⟨by decide +kernel, rfl⟩
theorem k17_66 : en_dv 17 66 75 true 69 := ⟨238, by decide +kernel, by decide +kernel, rfl, by decide +kernel, by decide +kernel⟩
theorem k17_69 : en_d 17 69 .ireturn 1 70 := ⟨by decide +kernel, rfl⟩
/-! 18: EndorsedLedger.about(I)I -/
theorem k18_0 : en_d 18 0 (.iload_n 1) 1 1 := ⟨by decide +kernel, rfl⟩
theorem k18_1 : en_d 18 1 (.iconst 3) 1 2 := ⟨by decide +kernel, rfl⟩
theorem k18_2 : en_dS 18 2 19 false 5 := ⟨75, by decide +kernel, by decide +kernel, rfl, by decide +kernel, by decide +kernel⟩
theorem k18_5 : en_j 18 5 (.ifCond .eq) 8 18 := ⟨13, by decide +kernel, by decide, rfl⟩
theorem k18_8 : en_d 18 8 (.aload_n 0) 1 9 := ⟨by decide +kernel, rfl⟩
theorem k18_9 : en_df 18 9 0 7 false true 12 := ⟨43, by decide +kernel, by decide +kernel, by decide +kernel, rfl⟩
theorem k18_12 : en_d 18 12 (.iload_n 1) 1 13 := ⟨by decide +kernel, rfl⟩
theorem k18_13 : en_d 18 13 .aaload 1 14 := ⟨by decide +kernel, rfl⟩
theorem k18_14 : en_df 18 14 7 1 true false 17 := ⟨146, by decide +kernel, by decide +kernel, by decide +kernel, rfl⟩
theorem k18_17 : en_d 18 17 .ireturn 1 18 := ⟨by decide +kernel, rfl⟩
theorem k18_18 : en_d 18 18 (.iload_n 1) 1 19 := ⟨by decide +kernel, rfl⟩
theorem k18_19 : en_d 18 19 (.iconst 3) 1 20 := ⟨by decide +kernel, rfl⟩
theorem k18_20 : en_d 18 20 .isub 1 21 := ⟨by decide +kernel, rfl⟩
theorem k18_21 : en_d 18 21 (.iconst 3) 1 22 := ⟨by decide +kernel, rfl⟩
theorem k18_22 : en_dS 18 22 19 false 25 := ⟨75, by decide +kernel, by decide +kernel, rfl, by decide +kernel, by decide +kernel⟩
theorem k18_25 : en_j 18 25 (.ifCond .eq) 28 43 := ⟨18, by decide +kernel, by decide, rfl⟩
theorem k18_28 : en_d 18 28 (.aload_n 0) 1 29 := ⟨by decide +kernel, rfl⟩
theorem k18_29 : en_df 18 29 0 7 false true 32 := ⟨43, by decide +kernel, by decide +kernel, by decide +kernel, rfl⟩
theorem k18_32 : en_d 18 32 (.iload_n 1) 1 33 := ⟨by decide +kernel, rfl⟩
theorem k18_33 : en_d 18 33 (.iconst 3) 1 34 := ⟨by decide +kernel, rfl⟩
theorem k18_34 : en_d 18 34 .isub 1 35 := ⟨by decide +kernel, rfl⟩
theorem k18_35 : en_d 18 35 .aaload 1 36 := ⟨by decide +kernel, rfl⟩
theorem k18_36 : en_df 18 36 7 2 true true 39 := ⟨152, by decide +kernel, by decide +kernel, by decide +kernel, rfl⟩
theorem k18_39 : en_df 18 39 6 1 true false 42 := ⟨155, by decide +kernel, by decide +kernel, by decide +kernel, rfl⟩
theorem k18_42 : en_d 18 42 .ireturn 1 43 := ⟨by decide +kernel, rfl⟩
theorem k18_43 : en_d 18 43 (.iload_n 1) 1 44 := ⟨by decide +kernel, rfl⟩
theorem k18_44 : en_d 18 44 (.bipush 10) 2 46 := ⟨by decide +kernel, rfl⟩
theorem k18_46 : en_d 18 46 .isub 1 47 := ⟨by decide +kernel, rfl⟩
theorem k18_47 : en_d 18 47 (.iconst 4) 1 48 := ⟨by decide +kernel, rfl⟩
theorem k18_48 : en_dS 18 48 19 false 51 := ⟨75, by decide +kernel, by decide +kernel, rfl, by decide +kernel, by decide +kernel⟩
theorem k18_51 : en_j 18 51 (.ifCond .eq) 54 67 := ⟨16, by decide +kernel, by decide, rfl⟩
theorem k18_54 : en_d 18 54 (.aload_n 0) 1 55 := ⟨by decide +kernel, rfl⟩
theorem k18_55 : en_df 18 55 0 10 false true 58 := ⟨59, by decide +kernel, by decide +kernel, by decide +kernel, rfl⟩
theorem k18_58 : en_d 18 58 (.iload_n 1) 1 59 := ⟨by decide +kernel, rfl⟩
theorem k18_59 : en_d 18 59 (.bipush 10) 2 61 := ⟨by decide +kernel, rfl⟩
theorem k18_61 : en_d 18 61 .isub 1 62 := ⟨by decide +kernel, rfl⟩
theorem k18_62 : en_d 18 62 .aaload 1 63 := ⟨by decide +kernel, rfl⟩
theorem k18_63 : en_df 18 63 9 1 true false 66 := ⟨197, by decide +kernel, by decide +kernel, by decide +kernel, rfl⟩
theorem k18_66 : en_d 18 66 .ireturn 1 67 := ⟨by decide +kernel, rfl⟩
theorem k18_67 : en_d 18 67 (.iload_n 1) 1 68 := ⟨by decide +kernel, rfl⟩
theorem k18_68 : en_d 18 68 (.bipush 14) 2 70 := ⟨by decide +kernel, rfl⟩
theorem k18_70 : en_d 18 70 .isub 1 71 := ⟨by decide +kernel, rfl⟩
theorem k18_71 : en_d 18 71 (.iconst 4) 1 72 := ⟨by decide +kernel, rfl⟩
theorem k18_72 : en_dS 18 72 19 false 75 := ⟨75, by decide +kernel, by decide +kernel, rfl, by decide +kernel, by decide +kernel⟩
theorem k18_75 : en_j 18 75 (.ifCond .eq) 78 94 := ⟨19, by decide +kernel, by decide, rfl⟩
theorem k18_78 : en_d 18 78 (.aload_n 0) 1 79 := ⟨by decide +kernel, rfl⟩
theorem k18_79 : en_df 18 79 0 10 false true 82 := ⟨59, by decide +kernel, by decide +kernel, by decide +kernel, rfl⟩
theorem k18_82 : en_d 18 82 (.iload_n 1) 1 83 := ⟨by decide +kernel, rfl⟩
theorem k18_83 : en_d 18 83 (.bipush 14) 2 85 := ⟨by decide +kernel, rfl⟩
theorem k18_85 : en_d 18 85 .isub 1 86 := ⟨by decide +kernel, rfl⟩
theorem k18_86 : en_d 18 86 .aaload 1 87 := ⟨by decide +kernel, rfl⟩
theorem k18_87 : en_df 18 87 9 3 true true 90 := ⟨245, by decide +kernel, by decide +kernel, by decide +kernel, rfl⟩
theorem k18_90 : en_df 18 90 8 2 true false 93 := ⟨225, by decide +kernel, by decide +kernel, by decide +kernel, rfl⟩
theorem k18_93 : en_d 18 93 .ireturn 1 94 := ⟨by decide +kernel, rfl⟩
theorem k18_94 : en_d 18 94 (.iload_n 1) 1 95 := ⟨by decide +kernel, rfl⟩
theorem k18_95 : decode (mB 18) 95 = .ok (.tableswitch 93 6 18 #[65, 70, 78, 83, 93, 93, 93, 93, 93, 93, 93, 93, 88], 65) := by decide +kernel
theorem k18_160 : en_d 18 160 (.aload_n 0) 1 161 := ⟨by decide +kernel, rfl⟩
theorem k18_161 : en_df 18 161 0 8 false false 164 := ⟨47, by decide +kernel, by decide +kernel, by decide +kernel, rfl⟩
theorem k18_164 : en_d 18 164 .ireturn 1 165 := ⟨by decide +kernel, rfl⟩
theorem k18_165 : en_d 18 165 (.aload_n 0) 1 166 := ⟨by decide +kernel, rfl⟩
theorem k18_166 : en_df 18 166 0 9 false true 169 := ⟨53, by decide +kernel, by decide +kernel, by decide +kernel, rfl⟩
theorem k18_169 : en_df 18 169 6 1 true false 172 := ⟨155, by decide +kernel, by decide +kernel, by decide +kernel, rfl⟩
theorem k18_172 : en_d 18 172 .ireturn 1 173 := ⟨by decide +kernel, rfl⟩
theorem k18_173 : en_d 18 173 (.aload_n 0) 1 174 := ⟨by decide +kernel, rfl⟩
theorem k18_174 : en_df 18 174 0 4 false false 177 := ⟨29, by decide +kernel, by decide +kernel, by decide +kernel, rfl⟩
theorem k18_177 : en_d 18 177 .ireturn 1 178 := ⟨by decide +kernel, rfl⟩
theorem k18_178 : en_d 18 178 (.aload_n 0) 1 179 := ⟨by decide +kernel, rfl⟩
theorem k18_179 : en_df 18 179 0 2 false false 182 := ⟨21, by decide +kernel, by decide +kernel, by decide +kernel, rfl⟩
theorem k18_182 : en_d 18 182 .ireturn 1 183 := ⟨by decide +kernel, rfl⟩
theorem k18_183 : en_d 18 183 (.aload_n 0) 1 184 := ⟨by decide +kernel, rfl⟩
theorem k18_184 : en_dv 18 184 22 false 187 := ⟨248, by decide +kernel, by decide +kernel, rfl, by decide +kernel, by decide +kernel⟩
theorem k18_187 : en_d 18 187 .ireturn 1 188 := ⟨by decide +kernel, rfl⟩
theorem k18_188 : en_d 18 188 (.iconst (-1)) 1 189 := ⟨by decide +kernel, rfl⟩
theorem k18_189 : en_d 18 189 .ireturn 1 190 := ⟨by decide +kernel, rfl⟩
/-! 19: EndorsedLedger.within(II)Z -/
theorem k19_0 : en_d 19 0 (.iload_n 0) 1 1 := ⟨by decide +kernel, rfl⟩
theorem k19_1 : en_j 19 1 (.ifCond .lt) 4 13 := ⟨12, by decide +kernel, by decide, rfl⟩
theorem k19_4 : en_d 19 4 (.iload_n 0) 1 5 := ⟨by decide +kernel, rfl⟩
theorem k19_5 : en_d 19 5 (.iload_n 1) 1 6 := ⟨by decide +kernel, rfl⟩
theorem k19_6 : en_j 19 6 (.if_icmp .ge) 9 13 := ⟨7, by decide +kernel, by decide, rfl⟩
theorem k19_9 : en_d 19 9 (.iconst 1) 1 10 := ⟨by decide +kernel, rfl⟩
theorem k19_10 : en_j 19 10 .goto 13 14 := ⟨4, by decide +kernel, by decide, rfl⟩
theorem k19_13 : en_d 19 13 (.iconst 0) 1 14 := ⟨by decide +kernel, rfl⟩
theorem k19_14 : en_d 19 14 .ireturn 1 15 := ⟨by decide +kernel, rfl⟩
/-! 20: EndorsedLedger.isUpPeer(I)Z -/
theorem k20_0 : en_d 20 0 (.iload_n 1) 1 1 := ⟨by decide +kernel, rfl⟩
theorem k20_1 : en_d 20 1 (.iconst 4) 1 2 := ⟨by decide +kernel, rfl⟩
theorem k20_2 : en_dS 20 2 19 false 5 := ⟨75, by decide +kernel, by decide +kernel, rfl, by decide +kernel, by decide +kernel⟩
theorem k20_5 : en_j 20 5 (.ifCond .eq) 8 24 := ⟨19, by decide +kernel, by decide, rfl⟩
theorem k20_8 : en_d 20 8 (.aload_n 0) 1 9 := ⟨by decide +kernel, rfl⟩
theorem k20_9 : en_df 20 9 0 10 false true 12 := ⟨59, by decide +kernel, by decide +kernel, by decide +kernel, rfl⟩
theorem k20_12 : en_d 20 12 (.iload_n 1) 1 13 := ⟨by decide +kernel, rfl⟩
theorem k20_13 : en_d 20 13 .aaload 1 14 := ⟨by decide +kernel, rfl⟩
theorem k20_14 : en_df 20 14 9 0 true false 17 := ⟨204, by decide +kernel, by decide +kernel, by decide +kernel, rfl⟩
theorem k20_17 : en_j 20 17 (.ifCond .eq) 20 24 := ⟨7, by decide +kernel, by decide, rfl⟩
theorem k20_20 : en_d 20 20 (.iconst 1) 1 21 := ⟨by decide +kernel, rfl⟩
theorem k20_21 : en_j 20 21 .goto 24 25 := ⟨4, by decide +kernel, by decide, rfl⟩
theorem k20_24 : en_d 20 24 (.iconst 0) 1 25 := ⟨by decide +kernel, rfl⟩
theorem k20_25 : en_d 20 25 .ireturn 1 26 := ⟨by decide +kernel, rfl⟩
/-! 21: EndorsedLedger.isLeader(I)Z -/
theorem k21_0 : en_d 21 0 (.iload_n 1) 1 1 := ⟨by decide +kernel, rfl⟩
theorem k21_1 : en_d 21 1 (.iconst 3) 1 2 := ⟨by decide +kernel, rfl⟩
theorem k21_2 : en_dS 21 2 19 false 5 := ⟨75, by decide +kernel, by decide +kernel, rfl, by decide +kernel, by decide +kernel⟩
theorem k21_5 : en_j 21 5 (.ifCond .eq) 8 20 := ⟨15, by decide +kernel, by decide, rfl⟩
theorem k21_8 : en_d 21 8 (.iload_n 1) 1 9 := ⟨by decide +kernel, rfl⟩
theorem k21_9 : en_d 21 9 (.aload_n 0) 1 10 := ⟨by decide +kernel, rfl⟩
theorem k21_10 : en_df 21 10 0 8 false false 13 := ⟨47, by decide +kernel, by decide +kernel, by decide +kernel, rfl⟩
theorem k21_13 : en_j 21 13 (.if_icmp .ne) 16 20 := ⟨7, by decide +kernel, by decide, rfl⟩
theorem k21_16 : en_d 21 16 (.iconst 1) 1 17 := ⟨by decide +kernel, rfl⟩
theorem k21_17 : en_j 21 17 .goto 20 21 := ⟨4, by decide +kernel, by decide, rfl⟩
theorem k21_20 : en_d 21 20 (.iconst 0) 1 21 := ⟨by decide +kernel, rfl⟩
theorem k21_21 : en_d 21 21 .ireturn 1 22 := ⟨by decide +kernel, rfl⟩
/-! 22: EndorsedLedger.nodesUp()I -/
theorem k22_0 : en_d 22 0 (.iconst 0) 1 1 := ⟨by decide +kernel, rfl⟩
theorem k22_1 : en_d 22 1 (.istore_n 1) 1 2 := ⟨by decide +kernel, rfl⟩
theorem k22_2 : en_d 22 2 (.iconst 0) 1 3 := ⟨by decide +kernel, rfl⟩
theorem k22_3 : en_d 22 3 (.istore_n 2) 1 4 := ⟨by decide +kernel, rfl⟩
theorem k22_4 : en_d 22 4 (.iload_n 2) 1 5 := ⟨by decide +kernel, rfl⟩
theorem k22_5 : en_d 22 5 (.iconst 3) 1 6 := ⟨by decide +kernel, rfl⟩
theorem k22_6 : en_j 22 6 (.if_icmp .ge) 9 37 := ⟨31, by decide +kernel, by decide, rfl⟩
theorem k22_9 : en_d 22 9 (.iload_n 1) 1 10 := ⟨by decide +kernel, rfl⟩
theorem k22_10 : en_d 22 10 (.aload_n 0) 1 11 := ⟨by decide +kernel, rfl⟩
theorem k22_11 : en_df 22 11 0 7 false true 14 := ⟨43, by decide +kernel, by decide +kernel, by decide +kernel, rfl⟩
theorem k22_14 : en_d 22 14 (.iload_n 2) 1 15 := ⟨by decide +kernel, rfl⟩
theorem k22_15 : en_d 22 15 .aaload 1 16 := ⟨by decide +kernel, rfl⟩
theorem k22_16 : en_df 22 16 7 0 true false 19 := ⟨135, by decide +kernel, by decide +kernel, by decide +kernel, rfl⟩
theorem k22_19 : en_j 22 19 (.ifCond .eq) 22 28 := ⟨9, by decide +kernel, by decide, rfl⟩
theorem k22_22 : en_d 22 22 (.iconst 1) 1 23 := ⟨by decide +kernel, rfl⟩
theorem k22_23 : en_d 22 23 (.iload_n 2) 1 24 := ⟨by decide +kernel, rfl⟩
theorem k22_24 : en_d 22 24 .ishl 1 25 := ⟨by decide +kernel, rfl⟩
theorem k22_25 : en_j 22 25 .goto 28 29 := ⟨4, by decide +kernel, by decide, rfl⟩
theorem k22_28 : en_d 22 28 (.iconst 0) 1 29 := ⟨by decide +kernel, rfl⟩
theorem k22_29 : en_d 22 29 .iadd 1 30 := ⟨by decide +kernel, rfl⟩
theorem k22_30 : en_d 22 30 (.istore_n 1) 1 31 := ⟨by decide +kernel, rfl⟩
theorem k22_31 : en_d 22 31 (.iinc 2 1) 3 34 := ⟨by decide +kernel, rfl⟩
theorem k22_34 : en_j 22 34 .goto 37 4 := ⟨(-30), by decide +kernel, by decide, rfl⟩
theorem k22_37 : en_d 22 37 (.iconst 0) 1 38 := ⟨by decide +kernel, rfl⟩
theorem k22_38 : en_d 22 38 (.istore_n 2) 1 39 := ⟨by decide +kernel, rfl⟩
theorem k22_39 : en_d 22 39 (.iload_n 2) 1 40 := ⟨by decide +kernel, rfl⟩
theorem k22_40 : en_d 22 40 (.iconst 4) 1 41 := ⟨by decide +kernel, rfl⟩
theorem k22_41 : en_j 22 41 (.if_icmp .ge) 44 74 := ⟨33, by decide +kernel, by decide, rfl⟩
theorem k22_44 : en_d 22 44 (.iload_n 1) 1 45 := ⟨by decide +kernel, rfl⟩
theorem k22_45 : en_d 22 45 (.aload_n 0) 1 46 := ⟨by decide +kernel, rfl⟩
theorem k22_46 : en_df 22 46 0 10 false true 49 := ⟨59, by decide +kernel, by decide +kernel, by decide +kernel, rfl⟩
theorem k22_49 : en_d 22 49 (.iload_n 2) 1 50 := ⟨by decide +kernel, rfl⟩
theorem k22_50 : en_d 22 50 .aaload 1 51 := ⟨by decide +kernel, rfl⟩
theorem k22_51 : en_df 22 51 9 0 true false 54 := ⟨204, by decide +kernel, by decide +kernel, by decide +kernel, rfl⟩
theorem k22_54 : en_j 22 54 (.ifCond .eq) 57 65 := ⟨11, by decide +kernel, by decide, rfl⟩
theorem k22_57 : en_d 22 57 (.iconst 1) 1 58 := ⟨by decide +kernel, rfl⟩
theorem k22_58 : en_d 22 58 (.iconst 3) 1 59 := ⟨by decide +kernel, rfl⟩
theorem k22_59 : en_d 22 59 (.iload_n 2) 1 60 := ⟨by decide +kernel, rfl⟩
theorem k22_60 : en_d 22 60 .iadd 1 61 := ⟨by decide +kernel, rfl⟩
theorem k22_61 : en_d 22 61 .ishl 1 62 := ⟨by decide +kernel, rfl⟩
theorem k22_62 : en_j 22 62 .goto 65 66 := ⟨4, by decide +kernel, by decide, rfl⟩
theorem k22_65 : en_d 22 65 (.iconst 0) 1 66 := ⟨by decide +kernel, rfl⟩
theorem k22_66 : en_d 22 66 .iadd 1 67 := ⟨by decide +kernel, rfl⟩
theorem k22_67 : en_d 22 67 (.istore_n 1) 1 68 := ⟨by decide +kernel, rfl⟩
theorem k22_68 : en_d 22 68 (.iinc 2 1) 3 71 := ⟨by decide +kernel, rfl⟩
theorem k22_71 : en_j 22 71 .goto 74 39 := ⟨(-32), by decide +kernel, by decide, rfl⟩
theorem k22_74 : en_d 22 74 (.iload_n 1) 1 75 := ⟨by decide +kernel, rfl⟩
theorem k22_75 : en_d 22 75 .ireturn 1 76 := ⟨by decide +kernel, rfl⟩
/-! 23: EndorsedLedger.supporters(I)I -/
theorem k23_0 : en_d 23 0 (.iconst 0) 1 1 := ⟨by decide +kernel, rfl⟩
theorem k23_1 : en_d 23 1 (.istore_n 2) 1 2 := ⟨by decide +kernel, rfl⟩
theorem k23_2 : en_d 23 2 (.iconst 0) 1 3 := ⟨by decide +kernel, rfl⟩
theorem k23_3 : en_d 23 3 (.istore_n 3) 1 4 := ⟨by decide +kernel, rfl⟩
theorem k23_4 : en_d 23 4 (.iload_n 3) 1 5 := ⟨by decide +kernel, rfl⟩
theorem k23_5 : en_d 23 5 (.iconst 3) 1 6 := ⟨by decide +kernel, rfl⟩
theorem k23_6 : en_j 23 6 (.if_icmp .ge) 9 55 := ⟨49, by decide +kernel, by decide, rfl⟩
theorem k23_9 : en_d 23 9 (.aload_n 0) 1 10 := ⟨by decide +kernel, rfl⟩
theorem k23_10 : en_df 23 10 0 7 false true 13 := ⟨43, by decide +kernel, by decide +kernel, by decide +kernel, rfl⟩
theorem k23_13 : en_d 23 13 (.iload_n 3) 1 14 := ⟨by decide +kernel, rfl⟩
theorem k23_14 : en_d 23 14 .aaload 1 15 := ⟨by decide +kernel, rfl⟩
theorem k23_15 : en_df 23 15 7 0 true false 18 := ⟨135, by decide +kernel, by decide +kernel, by decide +kernel, rfl⟩
theorem k23_18 : en_j 23 18 (.ifCond .eq) 21 49 := ⟨31, by decide +kernel, by decide, rfl⟩
theorem k23_21 : en_d 23 21 (.aload_n 0) 1 22 := ⟨by decide +kernel, rfl⟩
theorem k23_22 : en_d 23 22 (.aload_n 0) 1 23 := ⟨by decide +kernel, rfl⟩
theorem k23_23 : en_df 23 23 0 7 false true 26 := ⟨43, by decide +kernel, by decide +kernel, by decide +kernel, rfl⟩
theorem k23_26 : en_d 23 26 (.iload_n 3) 1 27 := ⟨by decide +kernel, rfl⟩
theorem k23_27 : en_d 23 27 .aaload 1 28 := ⟨by decide +kernel, rfl⟩
theorem k23_28 : en_df 23 28 7 2 true true 31 := ⟨152, by decide +kernel, by decide +kernel, by decide +kernel, rfl⟩
theorem k23_31 : en_d 23 31 (.aload_n 0) 1 32 := ⟨by decide +kernel, rfl⟩
theorem k23_32 : en_df 23 32 0 7 false true 35 := ⟨43, by decide +kernel, by decide +kernel, by decide +kernel, rfl⟩
theorem k23_35 : en_d 23 35 (.iload_n 1) 1 36 := ⟨by decide +kernel, rfl⟩
theorem k23_36 : en_d 23 36 .aaload 1 37 := ⟨by decide +kernel, rfl⟩
theorem k23_37 : en_df 23 37 7 2 true true 40 := ⟨152, by decide +kernel, by decide +kernel, by decide +kernel, rfl⟩
theorem k23_40 : en_dv 23 40 24 false 43 := ⟨251, by decide +kernel, by decide +kernel, rfl, by decide +kernel, by decide +kernel⟩
theorem k23_43 : en_j 23 43 (.ifCond .ne) 46 49 := ⟨6, by decide +kernel, by decide, rfl⟩
theorem k23_46 : en_d 23 46 (.iinc 2 1) 3 49 := ⟨by decide +kernel, rfl⟩
theorem k23_49 : en_d 23 49 (.iinc 3 1) 3 52 := ⟨by decide +kernel, rfl⟩
theorem k23_52 : en_j 23 52 .goto 55 4 := ⟨(-48), by decide +kernel, by decide, rfl⟩
theorem k23_55 : en_d 23 55 (.iload_n 2) 1 56 := ⟨by decide +kernel, rfl⟩
theorem k23_56 : en_d 23 56 .ireturn 1 57 := ⟨by decide +kernel, rfl⟩
/-! 24: EndorsedLedger.isNewer(LEndorsedLedger$BlockList;LEndorsedLedger$BlockList;)Z -/
theorem k24_0 : en_d 24 0 (.aload_n 0) 1 1 := ⟨by decide +kernel, rfl⟩
theorem k24_1 : en_d 24 1 (.aload_n 1) 1 2 := ⟨by decide +kernel, rfl⟩
theorem k24_2 : en_dv 24 2 25 false 5 := ⟨255, by decide +kernel, by decide +kernel, rfl, by decide +kernel, by decide +kernel⟩
theorem k24_5 : en_d 24 5 (.istore_n 3) 1 6 := ⟨by decide +kernel, rfl⟩
theorem k24_6 : en_d 24 6 (.aload_n 0) 1 7 := ⟨by decide +kernel, rfl⟩
theorem k24_7 : en_d 24 7 (.aload_n 2) 1 8 := ⟨by decide +kernel, rfl⟩
theorem k24_8 : en_dv 24 8 25 false 11 := ⟨255, by decide +kernel, by decide +kernel, rfl, by decide +kernel, by decide +kernel⟩
theorem k24_11 : en_d 24 11 (.istore 4) 2 13 := ⟨by decide +kernel, rfl⟩
theorem k24_13 : en_d 24 13 (.iload_n 3) 1 14 := ⟨by decide +kernel, rfl⟩
theorem k24_14 : en_d 24 14 (.iload 4) 2 16 := ⟨by decide +kernel, rfl⟩
theorem k24_16 : en_j 24 16 (.if_icmp .gt) 19 36 := ⟨20, by decide +kernel, by decide, rfl⟩
theorem k24_19 : en_d 24 19 (.iload_n 3) 1 20 := ⟨by decide +kernel, rfl⟩
theorem k24_20 : en_d 24 20 (.iload 4) 2 22 := ⟨by decide +kernel, rfl⟩
theorem k24_22 : en_j 24 22 (.if_icmp .ne) 25 40 := ⟨18, by decide +kernel, by decide, rfl⟩
theorem k24_25 : en_d 24 25 (.aload_n 1) 1 26 := ⟨by decide +kernel, rfl⟩
theorem k24_26 : en_df 24 26 6 1 true false 29 := ⟨155, by decide +kernel, by decide +kernel, by decide +kernel, rfl⟩
theorem k24_29 : en_d 24 29 (.aload_n 2) 1 30 := ⟨by decide +kernel, rfl⟩
theorem k24_30 : en_df 24 30 6 1 true false 33 := ⟨155, by decide +kernel, by decide +kernel, by decide +kernel, rfl⟩
theorem k24_33 : en_j 24 33 (.if_icmp .le) 36 40 := ⟨7, by decide +kernel, by decide, rfl⟩
theorem k24_36 : en_d 24 36 (.iconst 1) 1 37 := ⟨by decide +kernel, rfl⟩
theorem k24_37 : en_j 24 37 .goto 40 41 := ⟨4, by decide +kernel, by decide, rfl⟩
theorem k24_40 : en_d 24 40 (.iconst 0) 1 41 := ⟨by decide +kernel, rfl⟩
theorem k24_41 : en_d 24 41 .ireturn 1 42 := ⟨by decide +kernel, rfl⟩
/-! 25: EndorsedLedger.lastTerm(LEndorsedLedger$BlockList;)I -/
theorem k25_0 : en_d 25 0 (.aload_n 1) 1 1 := ⟨by decide +kernel, rfl⟩
theorem k25_1 : en_df 25 1 6 1 true false 4 := ⟨155, by decide +kernel, by decide +kernel, by decide +kernel, rfl⟩
theorem k25_4 : en_j 25 4 (.ifCond .ne) 7 11 := ⟨7, by decide +kernel, by decide, rfl⟩
theorem k25_7 : en_d 25 7 (.iconst 0) 1 8 := ⟨by decide +kernel, rfl⟩
theorem k25_8 : en_j 25 8 .goto 11 30 := ⟨22, by decide +kernel, by decide, rfl⟩
theorem k25_11 : en_d 25 11 (.aload_n 0) 1 12 := ⟨by decide +kernel, rfl⟩
theorem k25_12 : en_df 25 12 0 5 false true 15 := ⟨34, by decide +kernel, by decide +kernel, by decide +kernel, rfl⟩
theorem k25_15 : en_d 25 15 (.aload_n 1) 1 16 := ⟨by decide +kernel, rfl⟩
theorem k25_16 : en_df 25 16 6 0 true true 19 := ⟨241, by decide +kernel, by decide +kernel, by decide +kernel, rfl⟩
theorem k25_19 : en_d 25 19 (.aload_n 1) 1 20 := ⟨by decide +kernel, rfl⟩
theorem k25_20 : en_df 25 20 6 1 true false 23 := ⟨155, by decide +kernel, by decide +kernel, by decide +kernel, rfl⟩
theorem k25_23 : en_d 25 23 (.iconst 1) 1 24 := ⟨by decide +kernel, rfl⟩
theorem k25_24 : en_d 25 24 .isub 1 25 := ⟨by decide +kernel, rfl⟩
theorem k25_25 : en_d 25 25 .iaload 1 26 := ⟨by decide +kernel, rfl⟩
theorem k25_26 : en_d 25 26 .aaload 1 27 := ⟨by decide +kernel, rfl⟩
theorem k25_27 : en_df 25 27 5 2 true false 30 := ⟨244, by decide +kernel, by decide +kernel, by decide +kernel, rfl⟩
theorem k25_30 : en_d 25 30 .ireturn 1 31 := ⟨by decide +kernel, rfl⟩
/-! 26: EndorsedLedger.greatestTerm()I -/
theorem k26_0 : en_d 26 0 (.iconst 0) 1 1 := ⟨by decide +kernel, rfl⟩
theorem k26_1 : en_d 26 1 (.istore_n 1) 1 2 := ⟨by decide +kernel, rfl⟩
theorem k26_2 : en_d 26 2 (.iconst 0) 1 3 := ⟨by decide +kernel, rfl⟩
theorem k26_3 : en_d 26 3 (.istore_n 2) 1 4 := ⟨by decide +kernel, rfl⟩
theorem k26_4 : en_d 26 4 (.iload_n 2) 1 5 := ⟨by decide +kernel, rfl⟩
theorem k26_5 : en_d 26 5 (.iconst 3) 1 6 := ⟨by decide +kernel, rfl⟩
theorem k26_6 : en_j 26 6 (.if_icmp .ge) 9 41 := ⟨35, by decide +kernel, by decide, rfl⟩
theorem k26_9 : en_d 26 9 (.aload_n 0) 1 10 := ⟨by decide +kernel, rfl⟩
theorem k26_10 : en_df 26 10 0 7 false true 13 := ⟨43, by decide +kernel, by decide +kernel, by decide +kernel, rfl⟩
theorem k26_13 : en_d 26 13 (.iload_n 2) 1 14 := ⟨by decide +kernel, rfl⟩
theorem k26_14 : en_d 26 14 .aaload 1 15 := ⟨by decide +kernel, rfl⟩
theorem k26_15 : en_df 26 15 7 0 true false 18 := ⟨135, by decide +kernel, by decide +kernel, by decide +kernel, rfl⟩
theorem k26_18 : en_j 26 18 (.ifCond .eq) 21 35 := ⟨17, by decide +kernel, by decide, rfl⟩
theorem k26_21 : en_d 26 21 (.iload_n 1) 1 22 := ⟨by decide +kernel, rfl⟩
theorem k26_22 : en_d 26 22 (.aload_n 0) 1 23 := ⟨by decide +kernel, rfl⟩
theorem k26_23 : en_df 26 23 0 7 false true 26 := ⟨43, by decide +kernel, by decide +kernel, by decide +kernel, rfl⟩
theorem k26_26 : en_d 26 26 (.iload_n 2) 1 27 := ⟨by decide +kernel, rfl⟩
theorem k26_27 : en_d 26 27 .aaload 1 28 := ⟨by decide +kernel, rfl⟩
theorem k26_28 : en_df 26 28 7 1 true false 31 := ⟨146, by decide +kernel, by decide +kernel, by decide +kernel, rfl⟩
theorem k26_31 : en_dn 26 31 7 34 := ⟨259, by decide +kernel, by decide +kernel, rfl, by decide +kernel, by decide +kernel⟩
theorem k26_34 : en_d 26 34 (.istore_n 1) 1 35 := ⟨by decide +kernel, rfl⟩
theorem k26_35 : en_d 26 35 (.iinc 2 1) 3 38 := ⟨by decide +kernel, rfl⟩
theorem k26_38 : en_j 26 38 .goto 41 4 := ⟨(-34), by decide +kernel, by decide, rfl⟩
theorem k26_41 : en_d 26 41 (.iload_n 1) 1 42 := ⟨by decide +kernel, rfl⟩
theorem k26_42 : en_d 26 42 .ireturn 1 43 := ⟨by decide +kernel, rfl⟩
/-! 27: EndorsedLedger.dropFirstWaiting(I)V -/
theorem k27_0 : en_d 27 0 (.aload_n 0) 1 1 := ⟨by decide +kernel, rfl⟩
theorem k27_1 : en_df 27 1 0 3 false true 4 := ⟨25, by decide +kernel, by decide +kernel, by decide +kernel, rfl⟩
theorem k27_4 : en_d 27 4 (.iload_n 1) 1 5 := ⟨by decide +kernel, rfl⟩
theorem k27_5 : en_d 27 5 (.aload_n 0) 1 6 := ⟨by decide +kernel, rfl⟩
theorem k27_6 : en_df 27 6 0 3 false true 9 := ⟨25, by decide +kernel, by decide +kernel, by decide +kernel, rfl⟩
theorem k27_9 : en_d 27 9 (.iconst 0) 1 10 := ⟨by decide +kernel, rfl⟩
theorem k27_10 : en_d 27 10 (.aload_n 0) 1 11 := ⟨by decide +kernel, rfl⟩
theorem k27_11 : en_df 27 11 0 4 false false 14 := ⟨29, by decide +kernel, by decide +kernel, by decide +kernel, rfl⟩
theorem k27_14 : en_d 27 14 (.iload_n 1) 1 15 := ⟨by decide +kernel, rfl⟩
theorem k27_15 : en_d 27 15 .isub 1 16 := ⟨by decide +kernel, rfl⟩
theorem k27_16 : en_dn 27 16 9 19 := ⟨262, by decide +kernel, by decide +kernel, rfl, by decide +kernel, by decide +kernel⟩
theorem k27_19 : en_d 27 19 (.aload_n 0) 1 20 := ⟨by decide +kernel, rfl⟩
theorem k27_20 : en_d 27 20 .dup 1 21 := ⟨by decide +kernel, rfl⟩
theorem k27_21 : en_df 27 21 0 4 false false 24 := ⟨29, by decide +kernel, by decide +kernel, by decide +kernel, rfl⟩
theorem k27_24 : en_d 27 24 (.iload_n 1) 1 25 := ⟨by decide +kernel, rfl⟩
theorem k27_25 : en_d 27 25 .isub 1 26 := ⟨by decide +kernel, rfl⟩
theorem k27_26 : en_dp 27 26 0 4 false .int 29 := ⟨29, by decide +kernel, by decide +kernel, by decide +kernel, rfl⟩
theorem k27_29 : en_d 27 29 .return_ 1 30 := ⟨by decide +kernel, rfl⟩
/-! 28: EndorsedLedger.bringNearer(LEndorsedLedger$BlockList;LEndorsedLedger$BlockList;)I -/
theorem k28_0 : en_d 28 0 (.aload_n 0) 1 1 := ⟨by decide +kernel, rfl⟩
theorem k28_1 : en_d 28 1 (.aload_n 1) 1 2 := ⟨by decide +kernel, rfl⟩
theorem k28_2 : en_dv 28 2 79 true 5 := ⟨268, by decide +kernel, by decide +kernel, rfl, by decide +kernel, by decide +kernel⟩
theorem k28_5 : en_d 28 5 (.istore_n 2) 1 6 := ⟨by decide +kernel, rfl⟩
theorem k28_6 : en_d 28 6 (.aload_n 0) 1 7 := ⟨by decide +kernel, rfl⟩
theorem k28_7 : en_df 28 7 6 1 true false 10 := ⟨155, by decide +kernel, by decide +kernel, by decide +kernel, rfl⟩
theorem k28_10 : en_d 28 10 (.iload_n 2) 1 11 := ⟨by decide +kernel, rfl⟩
theorem k28_11 : en_j 28 11 (.if_icmp .gt) 14 16 := ⟨5, by decide +kernel, by decide, rfl⟩
theorem k28_14 : en_d 28 14 (.iconst 0) 1 15 := ⟨by decide +kernel, rfl⟩
theorem k28_15 : en_d 28 15 .ireturn 1 16 := ⟨by decide +kernel, rfl⟩
theorem k28_16 : en_d 28 16 (.aload_n 1) 1 17 := ⟨by decide +kernel, rfl⟩
theorem k28_17 : en_d 28 17 (.iload_n 2) 1 18 := ⟨by decide +kernel, rfl⟩
theorem k28_18 : en_dp 28 18 6 1 true .int 21 := ⟨155, by decide +kernel, by decide +kernel, by decide +kernel, rfl⟩
theorem k28_21 : en_d 28 21 (.aload_n 1) 1 22 := ⟨by decide +kernel, rfl⟩
theorem k28_22 : en_d 28 22 (.aload_n 0) 1 23 := ⟨by decide +kernel, rfl⟩
theorem k28_23 : en_df 28 23 6 0 true true 26 := ⟨241, by decide +kernel, by decide +kernel, by decide +kernel, rfl⟩
theorem k28_26 : en_d 28 26 (.iload_n 2) 1 27 := ⟨by decide +kernel, rfl⟩
theorem k28_27 : en_d 28 27 .iaload 1 28 := ⟨by decide +kernel, rfl⟩
theorem k28_28 : en_dv 28 28 78 true 31 := ⟨172, by decide +kernel, by decide +kernel, rfl, by decide +kernel, by decide +kernel⟩
theorem k28_31 : en_d 28 31 (.iconst 1) 1 32 := ⟨by decide +kernel, rfl⟩
theorem k28_32 : en_d 28 32 .ireturn 1 33 := ⟨by decide +kernel, rfl⟩
/-! 29: EndorsedLedger.agreedCount(I)I -/
theorem k29_0 : en_d 29 0 (.aload_n 0) 1 1 := ⟨by decide +kernel, rfl⟩
theorem k29_1 : en_df 29 1 0 7 false true 4 := ⟨43, by decide +kernel, by decide +kernel, by decide +kernel, rfl⟩
theorem k29_4 : en_d 29 4 (.iload_n 1) 1 5 := ⟨by decide +kernel, rfl⟩
theorem k29_5 : en_d 29 5 .aaload 1 6 := ⟨by decide +kernel, rfl⟩
theorem k29_6 : en_df 29 6 7 2 true true 9 := ⟨152, by decide +kernel, by decide +kernel, by decide +kernel, rfl⟩
theorem k29_9 : en_d 29 9 (.astore_n 2) 1 10 := ⟨by decide +kernel, rfl⟩
theorem k29_10 : en_d 29 10 (.aload_n 2) 1 11 := ⟨by decide +kernel, rfl⟩
theorem k29_11 : en_df 29 11 6 1 true false 14 := ⟨155, by decide +kernel, by decide +kernel, by decide +kernel, rfl⟩
theorem k29_14 : en_d 29 14 (.istore_n 3) 1 15 := ⟨by decide +kernel, rfl⟩
theorem k29_15 : en_d 29 15 (.iload_n 3) 1 16 := ⟨by decide +kernel, rfl⟩
theorem k29_16 : en_j 29 16 (.ifCond .le) 19 72 := ⟨56, by decide +kernel, by decide, rfl⟩
theorem k29_19 : en_d 29 19 (.aload_n 2) 1 20 := ⟨by decide +kernel, rfl⟩
theorem k29_20 : en_df 29 20 6 0 true true 23 := ⟨241, by decide +kernel, by decide +kernel, by decide +kernel, rfl⟩
theorem k29_23 : en_d 29 23 (.iload_n 3) 1 24 := ⟨by decide +kernel, rfl⟩
theorem k29_24 : en_d 29 24 (.iconst 1) 1 25 := ⟨by decide +kernel, rfl⟩
theorem k29_25 : en_d 29 25 .isub 1 26 := ⟨by decide +kernel, rfl⟩
theorem k29_26 : en_d 29 26 .iaload 1 27 := ⟨by decide +kernel, rfl⟩
theorem k29_27 : en_d 29 27 (.istore 4) 2 29 := ⟨by decide +kernel, rfl⟩
theorem k29_29 : en_d 29 29 (.aload_n 0) 1 30 := ⟨by decide +kernel, rfl⟩
theorem k29_30 : en_df 29 30 0 5 false true 33 := ⟨34, by decide +kernel, by decide +kernel, by decide +kernel, rfl⟩
theorem k29_33 : en_d 29 33 (.iload 4) 2 35 := ⟨by decide +kernel, rfl⟩
theorem k29_35 : en_d 29 35 .aaload 1 36 := ⟨by decide +kernel, rfl⟩
theorem k29_36 : en_df 29 36 5 2 true false 39 := ⟨244, by decide +kernel, by decide +kernel, by decide +kernel, rfl⟩
theorem k29_39 : en_d 29 39 (.aload_n 0) 1 40 := ⟨by decide +kernel, rfl⟩
theorem k29_40 : en_df 29 40 0 7 false true 43 := ⟨43, by decide +kernel, by decide +kernel, by decide +kernel, rfl⟩
theorem k29_43 : en_d 29 43 (.iload_n 1) 1 44 := ⟨by decide +kernel, rfl⟩
theorem k29_44 : en_d 29 44 .aaload 1 45 := ⟨by decide +kernel, rfl⟩
theorem k29_45 : en_df 29 45 7 1 true false 48 := ⟨146, by decide +kernel, by decide +kernel, by decide +kernel, rfl⟩
theorem k29_48 : en_j 29 48 (.if_icmp .ne) 51 66 := ⟨18, by decide +kernel, by decide, rfl⟩
theorem k29_51 : en_d 29 51 (.aload_n 0) 1 52 := ⟨by decide +kernel, rfl⟩
theorem k29_52 : en_d 29 52 (.iload_n 1) 1 53 := ⟨by decide +kernel, rfl⟩
theorem k29_53 : en_d 29 53 (.iload 4) 2 55 := ⟨by decide +kernel, rfl⟩
theorem k29_55 : en_d 29 55 (.iload_n 3) 1 56 := ⟨by decide +kernel, rfl⟩
theorem k29_56 : en_d 29 56 (.iconst 1) 1 57 := ⟨by decide +kernel, rfl⟩
theorem k29_57 : en_d 29 57 .isub 1 58 := ⟨by decide +kernel, rfl⟩
theorem k29_58 : en_dv 29 58 30 false 61 := ⟨271, by decide +kernel, by decide +kernel, rfl, by decide +kernel, by decide +kernel⟩
theorem k29_61 : en_j 29 61 (.ifCond .eq) 64 66 := ⟨5, by decide +kernel, by decide, rfl⟩
theorem k29_64 : en_d 29 64 (.iload_n 3) 1 65 := ⟨by decide +kernel, rfl⟩
theorem k29_65 : en_d 29 65 .ireturn 1 66 := ⟨by decide +kernel, rfl⟩
theorem k29_66 : en_d 29 66 (.iinc 3 (-1)) 3 69 := ⟨by decide +kernel, rfl⟩
theorem k29_69 : en_j 29 69 .goto 72 15 := ⟨(-54), by decide +kernel, by decide, rfl⟩
theorem k29_72 : en_d 29 72 (.iconst 0) 1 73 := ⟨by decide +kernel, rfl⟩
theorem k29_73 : en_d 29 73 .ireturn 1 74 := ⟨by decide +kernel, rfl⟩
/-! 30: EndorsedLedger.isHeldByAnother(III)Z -/
theorem k30_0 : en_d 30 0 (.iconst 0) 1 1 := ⟨by decide +kernel, rfl⟩
theorem k30_1 : en_d 30 1 (.istore 4) 2 3 := ⟨by decide +kernel, rfl⟩
theorem k30_3 : en_d 30 3 (.iload 4) 2 5 := ⟨by decide +kernel, rfl⟩
theorem k30_5 : en_d 30 5 (.iconst 3) 1 6 := ⟨by decide +kernel, rfl⟩
theorem k30_6 : en_j 30 6 (.if_icmp .ge) 9 55 := ⟨49, by decide +kernel, by decide, rfl⟩
theorem k30_9 : en_d 30 9 (.aload_n 0) 1 10 := ⟨by decide +kernel, rfl⟩
theorem k30_10 : en_df 30 10 0 7 false true 13 := ⟨43, by decide +kernel, by decide +kernel, by decide +kernel, rfl⟩
theorem k30_13 : en_d 30 13 (.iload 4) 2 15 := ⟨by decide +kernel, rfl⟩
theorem k30_15 : en_d 30 15 .aaload 1 16 := ⟨by decide +kernel, rfl⟩
theorem k30_16 : en_df 30 16 7 2 true true 19 := ⟨152, by decide +kernel, by decide +kernel, by decide +kernel, rfl⟩
theorem k30_19 : en_d 30 19 (.astore 5) 2 21 := ⟨by decide +kernel, rfl⟩
theorem k30_21 : en_d 30 21 (.iload 4) 2 23 := ⟨by decide +kernel, rfl⟩
theorem k30_23 : en_d 30 23 (.iload_n 1) 1 24 := ⟨by decide +kernel, rfl⟩
theorem k30_24 : en_j 30 24 (.if_icmp .eq) 27 49 := ⟨25, by decide +kernel, by decide, rfl⟩
theorem k30_27 : en_d 30 27 (.iload_n 3) 1 28 := ⟨by decide +kernel, rfl⟩
theorem k30_28 : en_d 30 28 (.aload 5) 2 30 := ⟨by decide +kernel, rfl⟩
theorem k30_30 : en_df 30 30 6 1 true false 33 := ⟨155, by decide +kernel, by decide +kernel, by decide +kernel, rfl⟩
theorem k30_33 : en_j 30 33 (.if_icmp .ge) 36 49 := ⟨16, by decide +kernel, by decide, rfl⟩
theorem k30_36 : en_d 30 36 (.aload 5) 2 38 := ⟨by decide +kernel, rfl⟩
theorem k30_38 : en_df 30 38 6 0 true true 41 := ⟨241, by decide +kernel, by decide +kernel, by decide +kernel, rfl⟩
theorem k30_41 : en_d 30 41 (.iload_n 3) 1 42 := ⟨by decide +kernel, rfl⟩
theorem k30_42 : en_d 30 42 .iaload 1 43 := ⟨by decide +kernel, rfl⟩
theorem k30_43 : en_d 30 43 (.iload_n 2) 1 44 := ⟨by decide +kernel, rfl⟩
theorem k30_44 : en_j 30 44 (.if_icmp .ne) 47 49 := ⟨5, by decide +kernel, by decide, rfl⟩
theorem k30_47 : en_d 30 47 (.iconst 1) 1 48 := ⟨by decide +kernel, rfl⟩
theorem k30_48 : en_d 30 48 .ireturn 1 49 := ⟨by decide +kernel, rfl⟩
theorem k30_49 : en_d 30 49 (.iinc 4 1) 3 52 := ⟨by decide +kernel, rfl⟩
theorem k30_52 : en_j 30 52 .goto 55 3 := ⟨(-49), by decide +kernel, by decide, rfl⟩
theorem k30_55 : en_d 30 55 (.iconst 0) 1 56 := ⟨by decide +kernel, rfl⟩
theorem k30_56 : en_d 30 56 .ireturn 1 57 := ⟨by decide +kernel, rfl⟩
/-! 31: EndorsedLedger.powerOrderer(IZ)I -/
theorem k31_0 : en_d 31 0 (.aload_n 0) 1 1 := ⟨by decide +kernel, rfl⟩
theorem k31_1 : en_df 31 1 0 7 false true 4 := ⟨43, by decide +kernel, by decide +kernel, by decide +kernel, rfl⟩
theorem k31_4 : en_d 31 4 (.iload_n 1) 1 5 := ⟨by decide +kernel, rfl⟩
theorem k31_5 : en_d 31 5 .aaload 1 6 := ⟨by decide +kernel, rfl⟩
theorem k31_6 : en_df 31 6 7 0 true false 9 := ⟨135, by decide +kernel, by decide +kernel, by decide +kernel, rfl⟩
theorem k31_9 : en_d 31 9 (.iload_n 2) 1 10 := ⟨by decide +kernel, rfl⟩
theorem k31_10 : en_j 31 10 (.if_icmp .ne) 13 15 := ⟨5, by decide +kernel, by decide, rfl⟩
theorem k31_13 : en_d 31 13 (.iconst (-1)) 1 14 := ⟨by decide +kernel, rfl⟩
theorem k31_14 : en_d 31 14 .ireturn 1 15 := ⟨by decide +kernel, rfl⟩
theorem k31_15 : en_d 31 15 (.aload_n 0) 1 16 := ⟨by decide +kernel, rfl⟩
theorem k31_16 : en_df 31 16 0 7 false true 19 := ⟨43, by decide +kernel, by decide +kernel, by decide +kernel, rfl⟩
theorem k31_19 : en_d 31 19 (.iload_n 1) 1 20 := ⟨by decide +kernel, rfl⟩
theorem k31_20 : en_d 31 20 .aaload 1 21 := ⟨by decide +kernel, rfl⟩
theorem k31_21 : en_d 31 21 (.iload_n 2) 1 22 := ⟨by decide +kernel, rfl⟩
theorem k31_22 : en_dp 31 22 7 0 true .boolean 25 := ⟨135, by decide +kernel, by decide +kernel, by decide +kernel, rfl⟩
theorem k31_25 : en_d 31 25 (.aload_n 0) 1 26 := ⟨by decide +kernel, rfl⟩
theorem k31_26 : en_df 31 26 0 8 false false 29 := ⟨47, by decide +kernel, by decide +kernel, by decide +kernel, rfl⟩
theorem k31_29 : en_d 31 29 (.iload_n 1) 1 30 := ⟨by decide +kernel, rfl⟩
theorem k31_30 : en_j 31 30 (.if_icmp .ne) 33 38 := ⟨8, by decide +kernel, by decide, rfl⟩
theorem k31_33 : en_d 31 33 (.aload_n 0) 1 34 := ⟨by decide +kernel, rfl⟩
theorem k31_34 : en_d 31 34 (.iconst (-1)) 1 35 := ⟨by decide +kernel, rfl⟩
theorem k31_35 : en_dp 31 35 0 8 false .int 38 := ⟨47, by decide +kernel, by decide +kernel, by decide +kernel, rfl⟩
theorem k31_38 : en_d 31 38 (.iconst 0) 1 39 := ⟨by decide +kernel, rfl⟩
theorem k31_39 : en_d 31 39 .ireturn 1 40 := ⟨by decide +kernel, rfl⟩
/-! 32: EndorsedLedger.powerPeer(LEndorsedLedger$Peer;Z)I -/
theorem k32_0 : en_d 32 0 (.aload_n 1) 1 1 := ⟨by decide +kernel, rfl⟩
theorem k32_1 : en_df 32 1 9 0 true false 4 := ⟨204, by decide +kernel, by decide +kernel, by decide +kernel, rfl⟩
theorem k32_4 : en_d 32 4 (.iload_n 2) 1 5 := ⟨by decide +kernel, rfl⟩
theorem k32_5 : en_j 32 5 (.if_icmp .ne) 8 10 := ⟨5, by decide +kernel, by decide, rfl⟩
theorem k32_8 : en_d 32 8 (.iconst (-1)) 1 9 := ⟨by decide +kernel, rfl⟩
theorem k32_9 : en_d 32 9 .ireturn 1 10 := ⟨by decide +kernel, rfl⟩
theorem k32_10 : en_d 32 10 (.aload_n 1) 1 11 := ⟨by decide +kernel, rfl⟩
theorem k32_11 : en_d 32 11 (.iload_n 2) 1 12 := ⟨by decide +kernel, rfl⟩
theorem k32_12 : en_dp 32 12 9 0 true .boolean 15 := ⟨204, by decide +kernel, by decide +kernel, by decide +kernel, rfl⟩
theorem k32_15 : en_d 32 15 (.iload_n 2) 1 16 := ⟨by decide +kernel, rfl⟩
theorem k32_16 : en_j 32 16 (.ifCond .eq) 19 27 := ⟨11, by decide +kernel, by decide, rfl⟩
theorem k32_19 : en_d 32 19 (.aload_n 0) 1 20 := ⟨by decide +kernel, rfl⟩
theorem k32_20 : en_d 32 20 (.aload_n 1) 1 21 := ⟨by decide +kernel, rfl⟩
theorem k32_21 : en_dv 32 21 33 false 24 := ⟨275, by decide +kernel, by decide +kernel, rfl, by decide +kernel, by decide +kernel⟩
theorem k32_24 : en_j 32 24 .goto 27 28 := ⟨4, by decide +kernel, by decide, rfl⟩
theorem k32_27 : en_d 32 27 (.iconst 0) 1 28 := ⟨by decide +kernel, rfl⟩
theorem k32_28 : en_d 32 28 .ireturn 1 29 := ⟨by decide +kernel, rfl⟩
/-! 33: EndorsedLedger.comeBack(LEndorsedLedger$Peer;)I -/
theorem k33_0 : en_d 33 0 (.aload_n 1) 1 1 := ⟨by decide +kernel, rfl⟩
theorem k33_1 : en_df 33 1 9 2 true true 4 := ⟨105, by decide +kernel, by decide +kernel, by decide +kernel, rfl⟩
theorem k33_4 : en_d 33 4 (.aload_n 1) 1 5 := ⟨by decide +kernel, rfl⟩
theorem k33_5 : en_df 33 5 9 3 true true 8 := ⟨245, by decide +kernel, by decide +kernel, by decide +kernel, rfl⟩
theorem k33_8 : en_dv 33 8 83 true 11 := ⟨278, by decide +kernel, by decide +kernel, rfl, by decide +kernel, by decide +kernel⟩
theorem k33_11 : en_d 33 11 (.aload_n 1) 1 12 := ⟨by decide +kernel, rfl⟩
theorem k33_12 : en_df 33 12 9 1 true false 15 := ⟨197, by decide +kernel, by decide +kernel, by decide +kernel, rfl⟩
theorem k33_15 : en_d 33 15 (.aload_n 1) 1 16 := ⟨by decide +kernel, rfl⟩
theorem k33_16 : en_df 33 16 9 3 true true 19 := ⟨245, by decide +kernel, by decide +kernel, by decide +kernel, rfl⟩
theorem k33_19 : en_df 33 19 8 2 true false 22 := ⟨225, by decide +kernel, by decide +kernel, by decide +kernel, rfl⟩
theorem k33_22 : en_d 33 22 .isub 1 23 := ⟨by decide +kernel, rfl⟩
theorem k33_23 : en_d 33 23 (.istore_n 2) 1 24 := ⟨by decide +kernel, rfl⟩
theorem k33_24 : en_d 33 24 (.iconst 0) 1 25 := ⟨by decide +kernel, rfl⟩
theorem k33_25 : en_d 33 25 (.istore_n 3) 1 26 := ⟨by decide +kernel, rfl⟩
theorem k33_26 : en_d 33 26 (.iload_n 3) 1 27 := ⟨by decide +kernel, rfl⟩
theorem k33_27 : en_d 33 27 (.iload_n 2) 1 28 := ⟨by decide +kernel, rfl⟩
theorem k33_28 : en_j 33 28 (.if_icmp .ge) 31 43 := ⟨15, by decide +kernel, by decide, rfl⟩
theorem k33_31 : en_d 33 31 (.aload_n 0) 1 32 := ⟨by decide +kernel, rfl⟩
theorem k33_32 : en_d 33 32 (.aload_n 1) 1 33 := ⟨by decide +kernel, rfl⟩
theorem k33_33 : en_dv 33 33 36 false 36 := ⟨200, by decide +kernel, by decide +kernel, rfl, by decide +kernel, by decide +kernel⟩
theorem k33_36 : en_d 33 36 .pop 1 37 := ⟨by decide +kernel, rfl⟩
theorem k33_37 : en_d 33 37 (.iinc 3 1) 3 40 := ⟨by decide +kernel, rfl⟩
theorem k33_40 : en_j 33 40 .goto 43 26 := ⟨(-14), by decide +kernel, by decide, rfl⟩
theorem k33_43 : en_d 33 43 (.iload_n 2) 1 44 := ⟨by decide +kernel, rfl⟩
theorem k33_44 : en_d 33 44 .ireturn 1 45 := ⟨by decide +kernel, rfl⟩
/-! 34: EndorsedLedger.canStoreNext(I)Z -/
theorem k34_0 : en_d 34 0 (.aload_n 0) 1 1 := ⟨by decide +kernel, rfl⟩
theorem k34_1 : en_d 34 1 (.iload_n 1) 1 2 := ⟨by decide +kernel, rfl⟩
theorem k34_2 : en_dv 34 2 20 false 5 := ⟨95, by decide +kernel, by decide +kernel, rfl, by decide +kernel, by decide +kernel⟩
theorem k34_5 : en_j 34 5 (.ifCond .eq) 8 31 := ⟨26, by decide +kernel, by decide, rfl⟩
theorem k34_8 : en_d 34 8 (.aload_n 0) 1 9 := ⟨by decide +kernel, rfl⟩
theorem k34_9 : en_df 34 9 0 10 false true 12 := ⟨59, by decide +kernel, by decide +kernel, by decide +kernel, rfl⟩
theorem k34_12 : en_d 34 12 (.iload_n 1) 1 13 := ⟨by decide +kernel, rfl⟩
theorem k34_13 : en_d 34 13 .aaload 1 14 := ⟨by decide +kernel, rfl⟩
theorem k34_14 : en_df 34 14 9 1 true false 17 := ⟨197, by decide +kernel, by decide +kernel, by decide +kernel, rfl⟩
theorem k34_17 : en_d 34 17 (.aload_n 0) 1 18 := ⟨by decide +kernel, rfl⟩
theorem k34_18 : en_df 34 18 0 9 false true 21 := ⟨53, by decide +kernel, by decide +kernel, by decide +kernel, rfl⟩
theorem k34_21 : en_df 34 21 6 1 true false 24 := ⟨155, by decide +kernel, by decide +kernel, by decide +kernel, rfl⟩
theorem k34_24 : en_j 34 24 (.if_icmp .ge) 27 31 := ⟨7, by decide +kernel, by decide, rfl⟩
theorem k34_27 : en_d 34 27 (.iconst 1) 1 28 := ⟨by decide +kernel, rfl⟩
theorem k34_28 : en_j 34 28 .goto 31 32 := ⟨4, by decide +kernel, by decide, rfl⟩
theorem k34_31 : en_d 34 31 (.iconst 0) 1 32 := ⟨by decide +kernel, rfl⟩
theorem k34_32 : en_d 34 32 .ireturn 1 33 := ⟨by decide +kernel, rfl⟩
/-! 35: EndorsedLedger.agreedBlock(I)LEndorsedLedger$Block; -/
theorem k35_0 : en_d 35 0 (.aload_n 0) 1 1 := ⟨by decide +kernel, rfl⟩
theorem k35_1 : en_df 35 1 0 5 false true 4 := ⟨34, by decide +kernel, by decide +kernel, by decide +kernel, rfl⟩
theorem k35_4 : en_d 35 4 (.aload_n 0) 1 5 := ⟨by decide +kernel, rfl⟩
theorem k35_5 : en_df 35 5 0 9 false true 8 := ⟨53, by decide +kernel, by decide +kernel, by decide +kernel, rfl⟩
theorem k35_8 : en_df 35 8 6 0 true true 11 := ⟨241, by decide +kernel, by decide +kernel, by decide +kernel, rfl⟩
theorem k35_11 : en_d 35 11 (.iload_n 1) 1 12 := ⟨by decide +kernel, rfl⟩
theorem k35_12 : en_d 35 12 .iaload 1 13 := ⟨by decide +kernel, rfl⟩
theorem k35_13 : en_d 35 13 .aaload 1 14 := ⟨by decide +kernel, rfl⟩
theorem k35_14 : en_d 35 14 .areturn 1 15 := ⟨by decide +kernel, rfl⟩
/-! 36: EndorsedLedger.applyNext(LEndorsedLedger$Peer;)I -/
theorem k36_0 : en_d 36 0 (.aload_n 1) 1 1 := ⟨by decide +kernel, rfl⟩
theorem k36_1 : en_df 36 1 9 2 true true 4 := ⟨105, by decide +kernel, by decide +kernel, by decide +kernel, rfl⟩
theorem k36_4 : en_df 36 4 8 2 true false 7 := ⟨225, by decide +kernel, by decide +kernel, by decide +kernel, rfl⟩
theorem k36_7 : en_d 36 7 (.istore_n 2) 1 8 := ⟨by decide +kernel, rfl⟩
theorem k36_8 : en_d 36 8 (.aload_n 0) 1 9 := ⟨by decide +kernel, rfl⟩
theorem k36_9 : en_d 36 9 (.iload_n 2) 1 10 := ⟨by decide +kernel, rfl⟩
theorem k36_10 : en_dv 36 10 35 false 13 := ⟨228, by decide +kernel, by decide +kernel, rfl, by decide +kernel, by decide +kernel⟩
theorem k36_13 : en_d 36 13 (.astore_n 3) 1 14 := ⟨by decide +kernel, rfl⟩
theorem k36_14 : en_d 36 14 (.iconst 0) 1 15 := ⟨by decide +kernel, rfl⟩
theorem k36_15 : en_d 36 15 (.istore 4) 2 17 := ⟨by decide +kernel, rfl⟩
theorem k36_17 : en_d 36 17 (.iconst 0) 1 18 := ⟨by decide +kernel, rfl⟩
theorem k36_18 : en_d 36 18 (.istore 5) 2 20 := ⟨by decide +kernel, rfl⟩
theorem k36_20 : en_d 36 20 (.iload 5) 2 22 := ⟨by decide +kernel, rfl⟩
theorem k36_22 : en_d 36 22 (.aload_n 3) 1 23 := ⟨by decide +kernel, rfl⟩
theorem k36_23 : en_df 36 23 5 1 true false 26 := ⟨232, by decide +kernel, by decide +kernel, by decide +kernel, rfl⟩
theorem k36_26 : en_j 36 26 (.if_icmp .ge) 29 103 := ⟨77, by decide +kernel, by decide, rfl⟩
theorem k36_29 : en_d 36 29 (.aload_n 0) 1 30 := ⟨by decide +kernel, rfl⟩
theorem k36_30 : en_d 36 30 (.aload_n 1) 1 31 := ⟨by decide +kernel, rfl⟩
theorem k36_31 : en_df 36 31 9 2 true true 34 := ⟨105, by decide +kernel, by decide +kernel, by decide +kernel, rfl⟩
theorem k36_34 : en_d 36 34 (.iload_n 2) 1 35 := ⟨by decide +kernel, rfl⟩
theorem k36_35 : en_d 36 35 (.iload 5) 2 37 := ⟨by decide +kernel, rfl⟩
theorem k36_37 : en_dv 36 37 37 false 40 := ⟨281, by decide +kernel, by decide +kernel, rfl, by decide +kernel, by decide +kernel⟩
theorem k36_40 : en_d 36 40 (.istore 6) 2 42 := ⟨by decide +kernel, rfl⟩
theorem k36_42 : en_d 36 42 (.aload_n 1) 1 43 := ⟨by decide +kernel, rfl⟩
theorem k36_43 : en_df 36 43 9 4 true true 46 := ⟨235, by decide +kernel, by decide +kernel, by decide +kernel, rfl⟩
theorem k36_46 : en_d 36 46 (.iload_n 2) 1 47 := ⟨by decide +kernel, rfl⟩
theorem k36_47 : en_d 36 47 (.iconst 4) 1 48 := ⟨by decide +kernel, rfl⟩
theorem k36_48 : en_d 36 48 .imul 1 49 := ⟨by decide +kernel, rfl⟩
theorem k36_49 : en_d 36 49 (.iload 5) 2 51 := ⟨by decide +kernel, rfl⟩
theorem k36_51 : en_d 36 51 .iadd 1 52 := ⟨by decide +kernel, rfl⟩
theorem k36_52 : en_d 36 52 (.iload 6) 2 54 := ⟨by decide +kernel, rfl⟩
theorem k36_54 : en_d 36 54 .iastore 1 55 := ⟨by decide +kernel, rfl⟩
theorem k36_55 : en_d 36 55 (.iload 6) 2 57 := ⟨by decide +kernel, rfl⟩
theorem k36_57 : en_j 36 57 (.ifCond .ne) 60 97 := ⟨40, by decide +kernel, by decide, rfl⟩
theorem k36_60 : en_d 36 60 (.iconst 1) 1 61 := ⟨by decide +kernel, rfl⟩
theorem k36_61 : en_d 36 61 (.iconst 4) 1 62 := ⟨by decide +kernel, rfl⟩
theorem k36_62 : en_d 36 62 (.iload_n 2) 1 63 := ⟨by decide +kernel, rfl⟩
theorem k36_63 : en_d 36 63 .imul 1 64 := ⟨by decide +kernel, rfl⟩
theorem k36_64 : en_d 36 64 .iadd 1 65 := ⟨by decide +kernel, rfl⟩
theorem k36_65 : en_d 36 65 (.iload 5) 2 67 := ⟨by decide +kernel, rfl⟩
theorem k36_67 : en_d 36 67 .iadd 1 68 := ⟨by decide +kernel, rfl⟩
theorem k36_68 : en_d 36 68 (.istore 7) 2 70 := ⟨by decide +kernel, rfl⟩
theorem k36_70 : en_d 36 70 (.aload_n 0) 1 71 := ⟨by decide +kernel, rfl⟩
theorem k36_71 : en_df 36 71 0 1 false true 74 := ⟨17, by decide +kernel, by decide +kernel, by decide +kernel, rfl⟩
theorem k36_74 : en_d 36 74 (.aload_n 3) 1 75 := ⟨by decide +kernel, rfl⟩
theorem k36_75 : en_df 36 75 5 0 true true 78 := ⟨285, by decide +kernel, by decide +kernel, by decide +kernel, rfl⟩
theorem k36_78 : en_d 36 78 (.iload 5) 2 80 := ⟨by decide +kernel, rfl⟩
theorem k36_80 : en_d 36 80 .iaload 1 81 := ⟨by decide +kernel, rfl⟩
theorem k36_81 : en_d 36 81 .aaload 1 82 := ⟨by decide +kernel, rfl⟩
theorem k36_82 : en_df 36 82 4 4 true true 85 := ⟨117, by decide +kernel, by decide +kernel, by decide +kernel, rfl⟩
theorem k36_85 : en_d 36 85 (.aload_n 1) 1 86 := ⟨by decide +kernel, rfl⟩
theorem k36_86 : en_df 36 86 9 2 true true 89 := ⟨105, by decide +kernel, by decide +kernel, by decide +kernel, rfl⟩
theorem k36_89 : en_d 36 89 (.iload 7) 2 91 := ⟨by decide +kernel, rfl⟩
theorem k36_91 : en_dv 36 91 69 true 94 := ⟨288, by decide +kernel, by decide +kernel, rfl, by decide +kernel, by decide +kernel⟩
theorem k36_94 : en_d 36 94 (.iinc 4 1) 3 97 := ⟨by decide +kernel, rfl⟩
theorem k36_97 : en_d 36 97 (.iinc 5 1) 3 100 := ⟨by decide +kernel, rfl⟩
theorem k36_100 : en_j 36 100 .goto 103 20 := ⟨(-80), by decide +kernel, by decide, rfl⟩
theorem k36_103 : en_d 36 103 (.aload_n 1) 1 104 := ⟨by decide +kernel, rfl⟩
theorem k36_104 : en_dv 36 104 85 true 107 := ⟨292, by decide +kernel, by decide +kernel, rfl, by decide +kernel, by decide +kernel⟩
theorem k36_107 : en_d 36 107 (.iload 4) 2 109 := ⟨by decide +kernel, rfl⟩
theorem k36_109 : en_d 36 109 .ireturn 1 110 := ⟨by decide +kernel, rfl⟩
/-! 37: EndorsedLedger.judge(LEndorsedLedger$WorldState;II)I -/
theorem k37_0 : en_d 37 0 (.aload_n 0) 1 1 := ⟨by decide +kernel, rfl⟩
theorem k37_1 : en_d 37 1 (.iload_n 2) 1 2 := ⟨by decide +kernel, rfl⟩
theorem k37_2 : en_dv 37 2 35 false 5 := ⟨228, by decide +kernel, by decide +kernel, rfl, by decide +kernel, by decide +kernel⟩
theorem k37_5 : en_df 37 5 5 0 true true 8 := ⟨285, by decide +kernel, by decide +kernel, by decide +kernel, rfl⟩
theorem k37_8 : en_d 37 8 (.iload_n 3) 1 9 := ⟨by decide +kernel, rfl⟩
theorem k37_9 : en_d 37 9 .iaload 1 10 := ⟨by decide +kernel, rfl⟩
theorem k37_10 : en_d 37 10 (.istore 4) 2 12 := ⟨by decide +kernel, rfl⟩
theorem k37_12 : en_d 37 12 (.aload_n 0) 1 13 := ⟨by decide +kernel, rfl⟩
theorem k37_13 : en_df 37 13 0 1 false true 16 := ⟨17, by decide +kernel, by decide +kernel, by decide +kernel, rfl⟩
theorem k37_16 : en_d 37 16 (.iload 4) 2 18 := ⟨by decide +kernel, rfl⟩
theorem k37_18 : en_d 37 18 .aaload 1 19 := ⟨by decide +kernel, rfl⟩
theorem k37_19 : en_d 37 19 (.astore 5) 2 21 := ⟨by decide +kernel, rfl⟩
theorem k37_21 : en_d 37 21 (.aload_n 0) 1 22 := ⟨by decide +kernel, rfl⟩
theorem k37_22 : en_d 37 22 (.iload 4) 2 24 := ⟨by decide +kernel, rfl⟩
theorem k37_24 : en_d 37 24 (.iload_n 2) 1 25 := ⟨by decide +kernel, rfl⟩
theorem k37_25 : en_d 37 25 (.iload_n 3) 1 26 := ⟨by decide +kernel, rfl⟩
theorem k37_26 : en_dv 37 26 38 false 29 := ⟨295, by decide +kernel, by decide +kernel, rfl, by decide +kernel, by decide +kernel⟩
theorem k37_29 : en_j 37 29 (.ifCond .eq) 32 34 := ⟨5, by decide +kernel, by decide, rfl⟩
theorem k37_32 : en_d 37 32 (.iconst 4) 1 33 := ⟨by decide +kernel, rfl⟩
theorem k37_33 : en_d 37 33 .ireturn 1 34 := ⟨by decide +kernel, rfl⟩
theorem k37_34 : en_d 37 34 (.aload_n 0) 1 35 := ⟨by decide +kernel, rfl⟩
theorem k37_35 : en_df 37 35 0 0 false true 38 := ⟨11, by decide +kernel, by decide +kernel, by decide +kernel, rfl⟩
theorem k37_38 : en_d 37 38 (.aload 5) 2 40 := ⟨by decide +kernel, rfl⟩
theorem k37_40 : en_df 37 40 4 0 true false 43 := ⟨89, by decide +kernel, by decide +kernel, by decide +kernel, rfl⟩
theorem k37_43 : en_d 37 43 .aaload 1 44 := ⟨by decide +kernel, rfl⟩
theorem k37_44 : en_d 37 44 (.aload 5) 2 46 := ⟨by decide +kernel, rfl⟩
theorem k37_46 : en_df 37 46 4 2 true false 49 := ⟨132, by decide +kernel, by decide +kernel, by decide +kernel, rfl⟩
theorem k37_49 : en_dv 37 49 45 true 52 := ⟨298, by decide +kernel, by decide +kernel, rfl, by decide +kernel, by decide +kernel⟩
theorem k37_52 : en_j 37 52 (.ifCond .ne) 55 57 := ⟨5, by decide +kernel, by decide, rfl⟩
theorem k37_55 : en_d 37 55 (.iconst 1) 1 56 := ⟨by decide +kernel, rfl⟩
theorem k37_56 : en_d 37 56 .ireturn 1 57 := ⟨by decide +kernel, rfl⟩
theorem k37_57 : en_d 37 57 (.aload 5) 2 59 := ⟨by decide +kernel, rfl⟩
theorem k37_59 : en_df 37 59 4 4 true true 62 := ⟨117, by decide +kernel, by decide +kernel, by decide +kernel, rfl⟩
theorem k37_62 : en_d 37 62 (.aload_n 1) 1 63 := ⟨by decide +kernel, rfl⟩
theorem k37_63 : en_dv 37 63 66 true 66 := ⟨301, by decide +kernel, by decide +kernel, rfl, by decide +kernel, by decide +kernel⟩
theorem k37_66 : en_j 37 66 (.ifCond .ne) 69 71 := ⟨5, by decide +kernel, by decide, rfl⟩
theorem k37_69 : en_d 37 69 (.iconst 2) 1 70 := ⟨by decide +kernel, rfl⟩
theorem k37_70 : en_d 37 70 .ireturn 1 71 := ⟨by decide +kernel, rfl⟩
theorem k37_71 : en_d 37 71 (.aload 5) 2 73 := ⟨by decide +kernel, rfl⟩
theorem k37_73 : en_df 37 73 4 4 true true 76 := ⟨117, by decide +kernel, by decide +kernel, by decide +kernel, rfl⟩
theorem k37_76 : en_d 37 76 (.aload_n 1) 1 77 := ⟨by decide +kernel, rfl⟩
theorem k37_77 : en_dv 37 77 67 true 80 := ⟨305, by decide +kernel, by decide +kernel, rfl, by decide +kernel, by decide +kernel⟩
theorem k37_80 : en_j 37 80 (.ifCond .eq) 83 87 := ⟨7, by decide +kernel, by decide, rfl⟩
theorem k37_83 : en_d 37 83 (.iconst 0) 1 84 := ⟨by decide +kernel, rfl⟩
theorem k37_84 : en_j 37 84 .goto 87 88 := ⟨4, by decide +kernel, by decide, rfl⟩
theorem k37_87 : en_d 37 87 (.iconst 3) 1 88 := ⟨by decide +kernel, rfl⟩
theorem k37_88 : en_d 37 88 .ireturn 1 89 := ⟨by decide +kernel, rfl⟩
/-! 38: EndorsedLedger.standsEarlier(III)Z -/
theorem k38_0 : en_d 38 0 (.iconst 0) 1 1 := ⟨by decide +kernel, rfl⟩
theorem k38_1 : en_d 38 1 (.istore 4) 2 3 := ⟨by decide +kernel, rfl⟩
theorem k38_3 : en_d 38 3 (.iload 4) 2 5 := ⟨by decide +kernel, rfl⟩
theorem k38_5 : en_d 38 5 (.iload_n 2) 1 6 := ⟨by decide +kernel, rfl⟩
theorem k38_6 : en_j 38 6 (.if_icmp .ge) 9 39 := ⟨33, by decide +kernel, by decide, rfl⟩
theorem k38_9 : en_d 38 9 (.aload_n 0) 1 10 := ⟨by decide +kernel, rfl⟩
theorem k38_10 : en_d 38 10 (.iload 4) 2 12 := ⟨by decide +kernel, rfl⟩
theorem k38_12 : en_dv 38 12 35 false 15 := ⟨228, by decide +kernel, by decide +kernel, rfl, by decide +kernel, by decide +kernel⟩
theorem k38_15 : en_d 38 15 (.astore 5) 2 17 := ⟨by decide +kernel, rfl⟩
theorem k38_17 : en_d 38 17 (.aload 5) 2 19 := ⟨by decide +kernel, rfl⟩
theorem k38_19 : en_d 38 19 (.aload 5) 2 21 := ⟨by decide +kernel, rfl⟩
theorem k38_21 : en_df 38 21 5 1 true false 24 := ⟨232, by decide +kernel, by decide +kernel, by decide +kernel, rfl⟩
theorem k38_24 : en_d 38 24 (.iload_n 1) 1 25 := ⟨by decide +kernel, rfl⟩
theorem k38_25 : en_dv 38 25 76 true 28 := ⟨308, by decide +kernel, by decide +kernel, rfl, by decide +kernel, by decide +kernel⟩
theorem k38_28 : en_j 38 28 (.ifCond .eq) 31 33 := ⟨5, by decide +kernel, by decide, rfl⟩
theorem k38_31 : en_d 38 31 (.iconst 1) 1 32 := ⟨by decide +kernel, rfl⟩
theorem k38_32 : en_d 38 32 .ireturn 1 33 := ⟨by decide +kernel, rfl⟩
theorem k38_33 : en_d 38 33 (.iinc 4 1) 3 36 := ⟨by decide +kernel, rfl⟩
theorem k38_36 : en_j 38 36 .goto 39 3 := ⟨(-33), by decide +kernel, by decide, rfl⟩
theorem k38_39 : en_d 38 39 (.aload_n 0) 1 40 := ⟨by decide +kernel, rfl⟩
theorem k38_40 : en_d 38 40 (.iload_n 2) 1 41 := ⟨by decide +kernel, rfl⟩
theorem k38_41 : en_dv 38 41 35 false 44 := ⟨228, by decide +kernel, by decide +kernel, rfl, by decide +kernel, by decide +kernel⟩
theorem k38_44 : en_d 38 44 (.iload_n 3) 1 45 := ⟨by decide +kernel, rfl⟩
theorem k38_45 : en_d 38 45 (.iload_n 1) 1 46 := ⟨by decide +kernel, rfl⟩
theorem k38_46 : en_dv 38 46 76 true 49 := ⟨308, by decide +kernel, by decide +kernel, rfl, by decide +kernel, by decide +kernel⟩
theorem k38_49 : en_d 38 49 .ireturn 1 50 := ⟨by decide +kernel, rfl⟩
end
section
/-! 86: EndorsedLedgerModel.<init>()V -/
theorem k86_0 : en_d 86 0 (.aload_n 0) 1 1 := ⟨by decide +kernel, rfl⟩
theorem k86_1 : en_dn 86 1 6 4 := ⟨1, by decide +kernel, by decide +kernel, rfl, by decide +kernel, by decide +kernel⟩
theorem k86_4 : en_d 86 4 (.aload_n 0) 1 5 := ⟨by decide +kernel, rfl⟩
theorem k86_5 : en_d 86 5 (.iconst 4) 1 6 := ⟨by decide +kernel, rfl⟩
theorem k86_6 : en_d 86 6 (.newarray .int) 2 8 := ⟨by decide +kernel, rfl⟩
theorem k86_8 : en_dp 86 8 10 0 false (.array .int) 11 := ⟨7, by decide +kernel, by decide +kernel, by decide +kernel, rfl⟩
theorem k86_11 : en_d 86 11 (.aload_n 0) 1 12 := ⟨by decide +kernel, rfl⟩
theorem k86_12 : en_d 86 12 (.bipush 48) 2 14 := ⟨by decide +kernel, rfl⟩
theorem k86_14 : en_d 86 14 (.newarray .int) 2 16 := ⟨by decide +kernel, rfl⟩
theorem k86_16 : en_dp 86 16 10 1 false (.array .int) 19 := ⟨13, by decide +kernel, by decide +kernel, by decide +kernel, rfl⟩
theorem k86_19 : en_d 86 19 (.aload_n 0) 1 20 := ⟨by decide +kernel, rfl⟩
theorem k86_20 : en_d 86 20 (.bipush 48) 2 22 := ⟨by decide +kernel, rfl⟩
theorem k86_22 : en_d 86 22 (.newarray .int) 2 24 := ⟨by decide +kernel, rfl⟩
theorem k86_24 : en_dp 86 24 10 2 false (.array .int) 27 := ⟨16, by decide +kernel, by decide +kernel, by decide +kernel, rfl⟩
theorem k86_27 : en_d 86 27 (.aload_n 0) 1 28 := ⟨by decide +kernel, rfl⟩
theorem k86_28 : en_d 86 28 (.iconst 4) 1 29 := ⟨by decide +kernel, rfl⟩
theorem k86_29 : en_d 86 29 (.newarray .int) 2 31 := ⟨by decide +kernel, rfl⟩
theorem k86_31 : en_dp 86 31 10 3 false (.array .int) 34 := ⟨19, by decide +kernel, by decide +kernel, by decide +kernel, rfl⟩
theorem k86_34 : en_d 86 34 (.aload_n 0) 1 35 := ⟨by decide +kernel, rfl⟩
theorem k86_35 : en_d 86 35 (.bipush 36) 2 37 := ⟨by decide +kernel, rfl⟩
theorem k86_37 : en_d 86 37 (.newarray .int) 2 39 := ⟨by decide +kernel, rfl⟩
theorem k86_39 : en_dp 86 39 10 4 false (.array .int) 42 := ⟨22, by decide +kernel, by decide +kernel, by decide +kernel, rfl⟩
theorem k86_42 : en_d 86 42 (.aload_n 0) 1 43 := ⟨by decide +kernel, rfl⟩
theorem k86_43 : en_d 86 43 (.bipush 36) 2 45 := ⟨by decide +kernel, rfl⟩
theorem k86_45 : en_d 86 45 (.newarray .int) 2 47 := ⟨by decide +kernel, rfl⟩
theorem k86_47 : en_dp 86 47 10 5 false (.array .int) 50 := ⟨25, by decide +kernel, by decide +kernel, by decide +kernel, rfl⟩
theorem k86_50 : en_d 86 50 (.aload_n 0) 1 51 := ⟨by decide +kernel, rfl⟩
theorem k86_51 : en_d 86 51 (.sipush 144) 3 54 := ⟨by decide +kernel, rfl⟩
theorem k86_54 : en_d 86 54 (.newarray .int) 2 56 := ⟨by decide +kernel, rfl⟩
theorem k86_56 : en_dp 86 56 10 6 false (.array .int) 59 := ⟨28, by decide +kernel, by decide +kernel, by decide +kernel, rfl⟩
theorem k86_59 : en_d 86 59 (.aload_n 0) 1 60 := ⟨by decide +kernel, rfl⟩
theorem k86_60 : en_d 86 60 (.bipush 36) 2 62 := ⟨by decide +kernel, rfl⟩
theorem k86_62 : en_d 86 62 (.newarray .int) 2 64 := ⟨by decide +kernel, rfl⟩
theorem k86_64 : en_dp 86 64 10 7 false (.array .int) 67 := ⟨31, by decide +kernel, by decide +kernel, by decide +kernel, rfl⟩
theorem k86_67 : en_d 86 67 (.aload_n 0) 1 68 := ⟨by decide +kernel, rfl⟩
theorem k86_68 : en_d 86 68 (.iconst 4) 1 69 := ⟨by decide +kernel, rfl⟩
theorem k86_69 : en_d 86 69 (.newarray .int) 2 71 := ⟨by decide +kernel, rfl⟩
theorem k86_71 : en_dp 86 71 10 8 false (.array .int) 74 := ⟨34, by decide +kernel, by decide +kernel, by decide +kernel, rfl⟩
theorem k86_74 : en_d 86 74 (.aload_n 0) 1 75 := ⟨by decide +kernel, rfl⟩
theorem k86_75 : en_d 86 75 (.bipush 61) 2 77 := ⟨by decide +kernel, rfl⟩
theorem k86_77 : en_d 86 77 (.newarray .int) 2 79 := ⟨by decide +kernel, rfl⟩
theorem k86_79 : en_dp 86 79 10 10 false (.array .int) 82 := ⟨37, by decide +kernel, by decide +kernel, by decide +kernel, rfl⟩
theorem k86_82 : en_d 86 82 (.aload_n 0) 1 83 := ⟨by decide +kernel, rfl⟩
theorem k86_83 : en_d 86 83 (.bipush 61) 2 85 := ⟨by decide +kernel, rfl⟩
theorem k86_85 : en_d 86 85 (.newarray .int) 2 87 := ⟨by decide +kernel, rfl⟩
theorem k86_87 : en_dp 86 87 10 11 false (.array .int) 90 := ⟨40, by decide +kernel, by decide +kernel, by decide +kernel, rfl⟩
theorem k86_90 : en_d 86 90 (.aload_n 0) 1 91 := ⟨by decide +kernel, rfl⟩
theorem k86_91 : en_d 86 91 (.bipush 61) 2 93 := ⟨by decide +kernel, rfl⟩
theorem k86_93 : en_d 86 93 (.newarray .int) 2 95 := ⟨by decide +kernel, rfl⟩
theorem k86_95 : en_dp 86 95 10 12 false (.array .int) 98 := ⟨43, by decide +kernel, by decide +kernel, by decide +kernel, rfl⟩
theorem k86_98 : en_d 86 98 (.aload_n 0) 1 99 := ⟨by decide +kernel, rfl⟩
theorem k86_99 : en_d 86 99 (.bipush 61) 2 101 := ⟨by decide +kernel, rfl⟩
theorem k86_101 : en_d 86 101 (.newarray .boolean) 2 103 := ⟨by decide +kernel, rfl⟩
theorem k86_103 : en_dp 86 103 10 13 false (.array .boolean) 106 := ⟨46, by decide +kernel, by decide +kernel, by decide +kernel, rfl⟩
theorem k86_106 : en_d 86 106 (.aload_n 0) 1 107 := ⟨by decide +kernel, rfl⟩
theorem k86_107 : en_d 86 107 (.sipush 976) 3 110 := ⟨by decide +kernel, rfl⟩
theorem k86_110 : en_d 86 110 (.newarray .int) 2 112 := ⟨by decide +kernel, rfl⟩
theorem k86_112 : en_dp 86 112 10 14 false (.array .int) 115 := ⟨50, by decide +kernel, by decide +kernel, by decide +kernel, rfl⟩
theorem k86_115 : en_d 86 115 (.aload_n 0) 1 116 := ⟨by decide +kernel, rfl⟩
theorem k86_116 : en_d 86 116 (.sipush 976) 3 119 := ⟨by decide +kernel, rfl⟩
theorem k86_119 : en_d 86 119 (.newarray .int) 2 121 := ⟨by decide +kernel, rfl⟩
theorem k86_121 : en_dp 86 121 10 15 false (.array .int) 124 := ⟨53, by decide +kernel, by decide +kernel, by decide +kernel, rfl⟩
theorem k86_124 : en_d 86 124 (.aload_n 0) 1 125 := ⟨by decide +kernel, rfl⟩
theorem k86_125 : en_d 86 125 (.sipush 976) 3 128 := ⟨by decide +kernel, rfl⟩
theorem k86_128 : en_d 86 128 (.newarray .int) 2 130 := ⟨by decide +kernel, rfl⟩
theorem k86_130 : en_dp 86 130 10 16 false (.array .int) 133 := ⟨56, by decide +kernel, by decide +kernel, by decide +kernel, rfl⟩
theorem k86_133 : en_d 86 133 (.aload_n 0) 1 134 := ⟨by decide +kernel, rfl⟩
theorem k86_134 : en_d 86 134 (.bipush 61) 2 136 := ⟨by decide +kernel, rfl⟩
theorem k86_136 : en_d 86 136 (.newarray .int) 2 138 := ⟨by decide +kernel, rfl⟩
theorem k86_138 : en_dp 86 138 10 17 false (.array .int) 141 := ⟨59, by decide +kernel, by decide +kernel, by decide +kernel, rfl⟩
theorem k86_141 : en_d 86 141 (.aload_n 0) 1 142 := ⟨by decide +kernel, rfl⟩
theorem k86_142 : en_d 86 142 (.bipush 122) 2 144 := ⟨by decide +kernel, rfl⟩
theorem k86_144 : en_d 86 144 (.newarray .int) 2 146 := ⟨by decide +kernel, rfl⟩
theorem k86_146 : en_dp 86 146 10 18 false (.array .int) 149 := ⟨62, by decide +kernel, by decide +kernel, by decide +kernel, rfl⟩
theorem k86_149 : en_d 86 149 (.aload_n 0) 1 150 := ⟨by decide +kernel, rfl⟩
theorem k86_150 : en_d 86 150 (.bipush 122) 2 152 := ⟨by decide +kernel, rfl⟩
theorem k86_152 : en_d 86 152 (.newarray .int) 2 154 := ⟨by decide +kernel, rfl⟩
theorem k86_154 : en_dp 86 154 10 19 false (.array .int) 157 := ⟨65, by decide +kernel, by decide +kernel, by decide +kernel, rfl⟩
theorem k86_157 : en_d 86 157 (.aload_n 0) 1 158 := ⟨by decide +kernel, rfl⟩
theorem k86_158 : en_d 86 158 (.sipush 1952) 3 161 := ⟨by decide +kernel, rfl⟩
theorem k86_161 : en_d 86 161 (.newarray .int) 2 163 := ⟨by decide +kernel, rfl⟩
theorem k86_163 : en_dp 86 163 10 20 false (.array .int) 166 := ⟨68, by decide +kernel, by decide +kernel, by decide +kernel, rfl⟩
theorem k86_166 : en_d 86 166 (.aload_n 0) 1 167 := ⟨by decide +kernel, rfl⟩
theorem k86_167 : en_d 86 167 (.bipush 8) 2 169 := ⟨by decide +kernel, rfl⟩
theorem k86_169 : en_d 86 169 (.newarray .int) 2 171 := ⟨by decide +kernel, rfl⟩
theorem k86_171 : en_dp 86 171 10 21 false (.array .int) 174 := ⟨71, by decide +kernel, by decide +kernel, by decide +kernel, rfl⟩
theorem k86_174 : en_d 86 174 (.aload_n 0) 1 175 := ⟨by decide +kernel, rfl⟩
theorem k86_175 : en_d 86 175 (.bipush 20) 2 177 := ⟨by decide +kernel, rfl⟩
theorem k86_177 : en_d 86 177 (.newarray .int) 2 179 := ⟨by decide +kernel, rfl⟩
theorem k86_179 : en_dp 86 179 10 24 false (.array .int) 182 := ⟨74, by decide +kernel, by decide +kernel, by decide +kernel, rfl⟩
theorem k86_182 : en_d 86 182 (.aload_n 0) 1 183 := ⟨by decide +kernel, rfl⟩
theorem k86_183 : en_d 86 183 (.sipush 240) 3 186 := ⟨by decide +kernel, rfl⟩
theorem k86_186 : en_d 86 186 (.newarray .int) 2 188 := ⟨by decide +kernel, rfl⟩
theorem k86_188 : en_dp 86 188 10 27 false (.array .int) 191 := ⟨77, by decide +kernel, by decide +kernel, by decide +kernel, rfl⟩
theorem k86_191 : en_d 86 191 (.aload_n 0) 1 192 := ⟨by decide +kernel, rfl⟩
theorem k86_192 : en_d 86 192 (.bipush 60) 2 194 := ⟨by decide +kernel, rfl⟩
theorem k86_194 : en_d 86 194 (.newarray .int) 2 196 := ⟨by decide +kernel, rfl⟩
theorem k86_196 : en_dp 86 196 10 28 false (.array .int) 199 := ⟨80, by decide +kernel, by decide +kernel, by decide +kernel, rfl⟩
theorem k86_199 : en_d 86 199 (.aload_n 0) 1 200 := ⟨by decide +kernel, rfl⟩
theorem k86_200 : en_d 86 200 (.bipush 60) 2 202 := ⟨by decide +kernel, rfl⟩
theorem k86_202 : en_d 86 202 (.newarray .int) 2 204 := ⟨by decide +kernel, rfl⟩
theorem k86_204 : en_dp 86 204 10 29 false (.array .int) 207 := ⟨83, by decide +kernel, by decide +kernel, by decide +kernel, rfl⟩
theorem k86_207 : en_d 86 207 (.aload_n 0) 1 208 := ⟨by decide +kernel, rfl⟩
theorem k86_208 : en_d 86 208 (.iconst 3) 1 209 := ⟨by decide +kernel, rfl⟩
theorem k86_209 : en_d 86 209 (.newarray .boolean) 2 211 := ⟨by decide +kernel, rfl⟩
theorem k86_211 : en_dp 86 211 10 30 false (.array .boolean) 214 := ⟨86, by decide +kernel, by decide +kernel, by decide +kernel, rfl⟩
theorem k86_214 : en_d 86 214 (.aload_n 0) 1 215 := ⟨by decide +kernel, rfl⟩
theorem k86_215 : en_d 86 215 (.iconst 3) 1 216 := ⟨by decide +kernel, rfl⟩
theorem k86_216 : en_d 86 216 (.newarray .int) 2 218 := ⟨by decide +kernel, rfl⟩
theorem k86_218 : en_dp 86 218 10 31 false (.array .int) 221 := ⟨89, by decide +kernel, by decide +kernel, by decide +kernel, rfl⟩
theorem k86_221 : en_d 86 221 (.aload_n 0) 1 222 := ⟨by decide +kernel, rfl⟩
theorem k86_222 : en_d 86 222 (.bipush 120) 2 224 := ⟨by decide +kernel, rfl⟩
theorem k86_224 : en_d 86 224 (.newarray .int) 2 226 := ⟨by decide +kernel, rfl⟩
theorem k86_226 : en_dp 86 226 10 32 false (.array .int) 229 := ⟨92, by decide +kernel, by decide +kernel, by decide +kernel, rfl⟩
theorem k86_229 : en_d 86 229 (.aload_n 0) 1 230 := ⟨by decide +kernel, rfl⟩
theorem k86_230 : en_d 86 230 (.iconst 3) 1 231 := ⟨by decide +kernel, rfl⟩
theorem k86_231 : en_d 86 231 (.newarray .int) 2 233 := ⟨by decide +kernel, rfl⟩
theorem k86_233 : en_dp 86 233 10 33 false (.array .int) 236 := ⟨95, by decide +kernel, by decide +kernel, by decide +kernel, rfl⟩
theorem k86_236 : en_d 86 236 (.aload_n 0) 1 237 := ⟨by decide +kernel, rfl⟩
theorem k86_237 : en_d 86 237 (.iconst (-1)) 1 238 := ⟨by decide +kernel, rfl⟩
theorem k86_238 : en_dp 86 238 10 34 false .int 241 := ⟨98, by decide +kernel, by decide +kernel, by decide +kernel, rfl⟩
theorem k86_241 : en_d 86 241 (.aload_n 0) 1 242 := ⟨by decide +kernel, rfl⟩
theorem k86_242 : en_d 86 242 (.bipush 40) 2 244 := ⟨by decide +kernel, rfl⟩
theorem k86_244 : en_d 86 244 (.newarray .int) 2 246 := ⟨by decide +kernel, rfl⟩
theorem k86_246 : en_dp 86 246 10 35 false (.array .int) 249 := ⟨102, by decide +kernel, by decide +kernel, by decide +kernel, rfl⟩
theorem k86_249 : en_d 86 249 (.aload_n 0) 1 250 := ⟨by decide +kernel, rfl⟩
theorem k86_250 : en_d 86 250 (.iconst 4) 1 251 := ⟨by decide +kernel, rfl⟩
theorem k86_251 : en_d 86 251 (.newarray .boolean) 2 253 := ⟨by decide +kernel, rfl⟩
theorem k86_253 : en_dp 86 253 10 37 false (.array .boolean) 256 := ⟨105, by decide +kernel, by decide +kernel, by decide +kernel, rfl⟩
theorem k86_256 : en_d 86 256 (.aload_n 0) 1 257 := ⟨by decide +kernel, rfl⟩
theorem k86_257 : en_d 86 257 (.iconst 4) 1 258 := ⟨by decide +kernel, rfl⟩
theorem k86_258 : en_d 86 258 (.newarray .int) 2 260 := ⟨by decide +kernel, rfl⟩
theorem k86_260 : en_dp 86 260 10 38 false (.array .int) 263 := ⟨108, by decide +kernel, by decide +kernel, by decide +kernel, rfl⟩
theorem k86_263 : en_d 86 263 (.aload_n 0) 1 264 := ⟨by decide +kernel, rfl⟩
theorem k86_264 : en_d 86 264 (.iconst 4) 1 265 := ⟨by decide +kernel, rfl⟩
theorem k86_265 : en_d 86 265 (.newarray .int) 2 267 := ⟨by decide +kernel, rfl⟩
theorem k86_267 : en_dp 86 267 10 39 false (.array .int) 270 := ⟨111, by decide +kernel, by decide +kernel, by decide +kernel, rfl⟩
theorem k86_270 : en_d 86 270 (.aload_n 0) 1 271 := ⟨by decide +kernel, rfl⟩
theorem k86_271 : en_d 86 271 (.bipush 16) 2 273 := ⟨by decide +kernel, rfl⟩
theorem k86_273 : en_d 86 273 (.newarray .int) 2 275 := ⟨by decide +kernel, rfl⟩
theorem k86_275 : en_dp 86 275 10 40 false (.array .int) 278 := ⟨114, by decide +kernel, by decide +kernel, by decide +kernel, rfl⟩
theorem k86_278 : en_d 86 278 (.aload_n 0) 1 279 := ⟨by decide +kernel, rfl⟩
theorem k86_279 : en_d 86 279 (.bipush 16) 2 281 := ⟨by decide +kernel, rfl⟩
theorem k86_281 : en_d 86 281 (.newarray .int) 2 283 := ⟨by decide +kernel, rfl⟩
theorem k86_283 : en_dp 86 283 10 41 false (.array .int) 286 := ⟨117, by decide +kernel, by decide +kernel, by decide +kernel, rfl⟩
theorem k86_286 : en_d 86 286 (.aload_n 0) 1 287 := ⟨by decide +kernel, rfl⟩
theorem k86_287 : en_d 86 287 (.iconst 4) 1 288 := ⟨by decide +kernel, rfl⟩
theorem k86_288 : en_d 86 288 (.newarray .int) 2 290 := ⟨by decide +kernel, rfl⟩
theorem k86_290 : en_dp 86 290 10 42 false (.array .int) 293 := ⟨120, by decide +kernel, by decide +kernel, by decide +kernel, rfl⟩
theorem k86_293 : en_d 86 293 (.aload_n 0) 1 294 := ⟨by decide +kernel, rfl⟩
theorem k86_294 : en_d 86 294 (.bipush 60) 2 296 := ⟨by decide +kernel, rfl⟩
theorem k86_296 : en_d 86 296 (.newarray .boolean) 2 298 := ⟨by decide +kernel, rfl⟩
theorem k86_298 : en_dp 86 298 10 43 false (.array .boolean) 301 := ⟨123, by decide +kernel, by decide +kernel, by decide +kernel, rfl⟩
theorem k86_301 : en_d 86 301 (.aload_n 0) 1 302 := ⟨by decide +kernel, rfl⟩
theorem k86_302 : en_d 86 302 (.bipush 9) 2 304 := ⟨by decide +kernel, rfl⟩
theorem k86_304 : en_d 86 304 (.newarray .boolean) 2 306 := ⟨by decide +kernel, rfl⟩
theorem k86_306 : en_dp 86 306 10 44 false (.array .boolean) 309 := ⟨126, by decide +kernel, by decide +kernel, by decide +kernel, rfl⟩
theorem k86_309 : en_d 86 309 .return_ 1 310 := ⟨by decide +kernel, rfl⟩
/-! 87: EndorsedLedgerModel.within(III)Z -/
theorem k87_0 : en_d 87 0 (.iload_n 0) 1 1 := ⟨by decide +kernel, rfl⟩
theorem k87_1 : en_d 87 1 (.iload_n 1) 1 2 := ⟨by decide +kernel, rfl⟩
theorem k87_2 : en_j 87 2 (.if_icmp .lt) 5 14 := ⟨12, by decide +kernel, by decide, rfl⟩
theorem k87_5 : en_d 87 5 (.iload_n 0) 1 6 := ⟨by decide +kernel, rfl⟩
theorem k87_6 : en_d 87 6 (.iload_n 2) 1 7 := ⟨by decide +kernel, rfl⟩
theorem k87_7 : en_j 87 7 (.if_icmp .gt) 10 14 := ⟨7, by decide +kernel, by decide, rfl⟩
theorem k87_10 : en_d 87 10 (.iconst 1) 1 11 := ⟨by decide +kernel, rfl⟩
theorem k87_11 : en_j 87 11 .goto 14 15 := ⟨4, by decide +kernel, by decide, rfl⟩
theorem k87_14 : en_d 87 14 (.iconst 0) 1 15 := ⟨by decide +kernel, rfl⟩
theorem k87_15 : en_d 87 15 .ireturn 1 16 := ⟨by decide +kernel, rfl⟩
/-! 88: EndorsedLedgerModel.code(III)Z -/
theorem k88_0 : en_d 88 0 (.iload_n 1) 1 1 := ⟨by decide +kernel, rfl⟩
theorem k88_1 : en_d 88 1 (.iconst 0) 1 2 := ⟨by decide +kernel, rfl⟩
theorem k88_2 : en_d 88 2 (.iconst 3) 1 3 := ⟨by decide +kernel, rfl⟩
theorem k88_3 : en_dS 88 3 87 false 6 := ⟨129, by decide +kernel, by decide +kernel, rfl, by decide +kernel, by decide +kernel⟩
theorem k88_6 : en_j 88 6 (.ifCond .eq) 9 53 := ⟨47, by decide +kernel, by decide, rfl⟩
theorem k88_9 : en_d 88 9 (.iload_n 2) 1 10 := ⟨by decide +kernel, rfl⟩
theorem k88_10 : en_d 88 10 (.iconst 0) 1 11 := ⟨by decide +kernel, rfl⟩
theorem k88_11 : en_d 88 11 (.bipush 10) 2 13 := ⟨by decide +kernel, rfl⟩
theorem k88_13 : en_dS 88 13 87 false 16 := ⟨129, by decide +kernel, by decide +kernel, rfl, by decide +kernel, by decide +kernel⟩
theorem k88_16 : en_j 88 16 (.ifCond .eq) 19 53 := ⟨37, by decide +kernel, by decide, rfl⟩
theorem k88_19 : en_d 88 19 (.iload_n 2) 1 20 := ⟨by decide +kernel, rfl⟩
theorem k88_20 : en_d 88 20 (.bipush 6) 2 22 := ⟨by decide +kernel, rfl⟩
theorem k88_22 : en_j 88 22 (.if_icmp .ne) 25 35 := ⟨13, by decide +kernel, by decide, rfl⟩
theorem k88_25 : en_d 88 25 (.iload_n 3) 1 26 := ⟨by decide +kernel, rfl⟩
theorem k88_26 : en_d 88 26 (.iconst 0) 1 27 := ⟨by decide +kernel, rfl⟩
theorem k88_27 : en_d 88 27 (.bipush 12) 2 29 := ⟨by decide +kernel, rfl⟩
theorem k88_29 : en_dS 88 29 87 false 32 := ⟨129, by decide +kernel, by decide +kernel, rfl, by decide +kernel, by decide +kernel⟩
theorem k88_32 : en_j 88 32 (.ifCond .eq) 35 53 := ⟨21, by decide +kernel, by decide, rfl⟩
theorem k88_35 : en_d 88 35 (.aload_n 0) 1 36 := ⟨by decide +kernel, rfl⟩
theorem k88_36 : en_df 88 36 10 0 false true 39 := ⟨7, by decide +kernel, by decide +kernel, by decide +kernel, rfl⟩
theorem k88_39 : en_d 88 39 (.iload_n 1) 1 40 := ⟨by decide +kernel, rfl⟩
theorem k88_40 : en_d 88 40 .iaload 1 41 := ⟨by decide +kernel, rfl⟩
theorem k88_41 : en_d 88 41 (.bipush 12) 2 43 := ⟨by decide +kernel, rfl⟩
theorem k88_43 : en_j 88 43 (.if_icmp .eq) 46 53 := ⟨10, by decide +kernel, by decide, rfl⟩
theorem k88_46 : en_d 88 46 (.aload_n 0) 1 47 := ⟨by decide +kernel, rfl⟩
theorem k88_47 : en_df 88 47 10 9 false false 50 := ⟨133, by decide +kernel, by decide +kernel, by decide +kernel, rfl⟩
theorem k88_50 : en_j 88 50 (.ifCond .le) 53 55 := ⟨5, by decide +kernel, by decide, rfl⟩
theorem k88_53 : en_d 88 53 (.iconst 0) 1 54 := ⟨by decide +kernel, rfl⟩
theorem k88_54 : en_d 88 54 .ireturn 1 55 := ⟨by decide +kernel, rfl⟩
theorem k88_55 : en_d 88 55 (.aload_n 0) 1 56 := ⟨by decide +kernel, rfl⟩
theorem k88_56 : en_df 88 56 10 1 false true 59 := ⟨13, by decide +kernel, by decide +kernel, by decide +kernel, rfl⟩
theorem k88_59 : en_d 88 59 (.bipush 12) 2 61 := ⟨by decide +kernel, rfl⟩
theorem k88_61 : en_d 88 61 (.iload_n 1) 1 62 := ⟨by decide +kernel, rfl⟩
theorem k88_62 : en_d 88 62 .imul 1 63 := ⟨by decide +kernel, rfl⟩
theorem k88_63 : en_d 88 63 (.aload_n 0) 1 64 := ⟨by decide +kernel, rfl⟩
theorem k88_64 : en_df 88 64 10 0 false true 67 := ⟨7, by decide +kernel, by decide +kernel, by decide +kernel, rfl⟩
theorem k88_67 : en_d 88 67 (.iload_n 1) 1 68 := ⟨by decide +kernel, rfl⟩
theorem k88_68 : en_d 88 68 .iaload 1 69 := ⟨by decide +kernel, rfl⟩
theorem k88_69 : en_d 88 69 .iadd 1 70 := ⟨by decide +kernel, rfl⟩
theorem k88_70 : en_d 88 70 (.iload_n 2) 1 71 := ⟨by decide +kernel, rfl⟩
theorem k88_71 : en_d 88 71 .iastore 1 72 := ⟨by decide +kernel, rfl⟩
theorem k88_72 : en_d 88 72 (.aload_n 0) 1 73 := ⟨by decide +kernel, rfl⟩
theorem k88_73 : en_df 88 73 10 2 false true 76 := ⟨16, by decide +kernel, by decide +kernel, by decide +kernel, rfl⟩
theorem k88_76 : en_d 88 76 (.bipush 12) 2 78 := ⟨by decide +kernel, rfl⟩
theorem k88_78 : en_d 88 78 (.iload_n 1) 1 79 := ⟨by decide +kernel, rfl⟩
theorem k88_79 : en_d 88 79 .imul 1 80 := ⟨by decide +kernel, rfl⟩
theorem k88_80 : en_d 88 80 (.aload_n 0) 1 81 := ⟨by decide +kernel, rfl⟩
theorem k88_81 : en_df 88 81 10 0 false true 84 := ⟨7, by decide +kernel, by decide +kernel, by decide +kernel, rfl⟩
theorem k88_84 : en_d 88 84 (.iload_n 1) 1 85 := ⟨by decide +kernel, rfl⟩
theorem k88_85 : en_d 88 85 .iaload 1 86 := ⟨by decide +kernel, rfl⟩
theorem k88_86 : en_d 88 86 .iadd 1 87 := ⟨by decide +kernel, rfl⟩
theorem k88_87 : en_d 88 87 (.iload_n 3) 1 88 := ⟨by decide +kernel, rfl⟩
theorem k88_88 : en_d 88 88 .iastore 1 89 := ⟨by decide +kernel, rfl⟩
theorem k88_89 : en_d 88 89 (.aload_n 0) 1 90 := ⟨by decide +kernel, rfl⟩
theorem k88_90 : en_df 88 90 10 0 false true 93 := ⟨7, by decide +kernel, by decide +kernel, by decide +kernel, rfl⟩
theorem k88_93 : en_d 88 93 (.iload_n 1) 1 94 := ⟨by decide +kernel, rfl⟩
theorem k88_94 : en_d 88 94 .dup2 1 95 := ⟨by decide +kernel, rfl⟩
theorem k88_95 : en_d 88 95 .iaload 1 96 := ⟨by decide +kernel, rfl⟩
theorem k88_96 : en_d 88 96 (.iconst 1) 1 97 := ⟨by decide +kernel, rfl⟩
theorem k88_97 : en_d 88 97 .iadd 1 98 := ⟨by decide +kernel, rfl⟩
theorem k88_98 : en_d 88 98 .iastore 1 99 := ⟨by decide +kernel, rfl⟩
theorem k88_99 : en_d 88 99 (.iconst 1) 1 100 := ⟨by decide +kernel, rfl⟩
theorem k88_100 : en_d 88 100 .ireturn 1 101 := ⟨by decide +kernel, rfl⟩
/-! 89: EndorsedLedgerModel.policy(III)Z -/
theorem k89_0 : en_d 89 0 (.iload_n 1) 1 1 := ⟨by decide +kernel, rfl⟩
theorem k89_1 : en_d 89 1 (.iconst 0) 1 2 := ⟨by decide +kernel, rfl⟩
theorem k89_2 : en_d 89 2 (.iconst 3) 1 3 := ⟨by decide +kernel, rfl⟩
theorem k89_3 : en_dS 89 3 87 false 6 := ⟨129, by decide +kernel, by decide +kernel, rfl, by decide +kernel, by decide +kernel⟩
theorem k89_6 : en_j 89 6 (.ifCond .eq) 9 29 := ⟨23, by decide +kernel, by decide, rfl⟩
theorem k89_9 : en_d 89 9 (.iload_n 3) 1 10 := ⟨by decide +kernel, rfl⟩
theorem k89_10 : en_j 89 10 (.ifCond .eq) 13 22 := ⟨12, by decide +kernel, by decide, rfl⟩
theorem k89_13 : en_d 89 13 (.iload_n 3) 1 14 := ⟨by decide +kernel, rfl⟩
theorem k89_14 : en_d 89 14 (.iconst 2) 1 15 := ⟨by decide +kernel, rfl⟩
theorem k89_15 : en_d 89 15 (.iconst 4) 1 16 := ⟨by decide +kernel, rfl⟩
theorem k89_16 : en_dS 89 16 87 false 19 := ⟨129, by decide +kernel, by decide +kernel, rfl, by decide +kernel, by decide +kernel⟩
theorem k89_19 : en_j 89 19 (.ifCond .eq) 22 29 := ⟨10, by decide +kernel, by decide, rfl⟩
theorem k89_22 : en_d 89 22 (.aload_n 0) 1 23 := ⟨by decide +kernel, rfl⟩
theorem k89_23 : en_df 89 23 10 9 false false 26 := ⟨133, by decide +kernel, by decide +kernel, by decide +kernel, rfl⟩
theorem k89_26 : en_j 89 26 (.ifCond .le) 29 31 := ⟨5, by decide +kernel, by decide, rfl⟩
theorem k89_29 : en_d 89 29 (.iconst 0) 1 30 := ⟨by decide +kernel, rfl⟩
theorem k89_30 : en_d 89 30 .ireturn 1 31 := ⟨by decide +kernel, rfl⟩
theorem k89_31 : en_d 89 31 (.iload_n 3) 1 32 := ⟨by decide +kernel, rfl⟩
theorem k89_32 : en_j 89 32 (.ifCond .ne) 35 44 := ⟨12, by decide +kernel, by decide, rfl⟩
theorem k89_35 : en_d 89 35 (.iload_n 2) 1 36 := ⟨by decide +kernel, rfl⟩
theorem k89_36 : en_d 89 36 (.iconst 0) 1 37 := ⟨by decide +kernel, rfl⟩
theorem k89_37 : en_d 89 37 (.iconst 3) 1 38 := ⟨by decide +kernel, rfl⟩
theorem k89_38 : en_dS 89 38 87 false 41 := ⟨129, by decide +kernel, by decide +kernel, rfl, by decide +kernel, by decide +kernel⟩
theorem k89_41 : en_j 89 41 .goto 44 50 := ⟨9, by decide +kernel, by decide, rfl⟩
theorem k89_44 : en_d 89 44 (.iload_n 2) 1 45 := ⟨by decide +kernel, rfl⟩
theorem k89_45 : en_d 89 45 (.iconst 1) 1 46 := ⟨by decide +kernel, rfl⟩
theorem k89_46 : en_d 89 46 (.iload_n 3) 1 47 := ⟨by decide +kernel, rfl⟩
theorem k89_47 : en_dS 89 47 87 false 50 := ⟨129, by decide +kernel, by decide +kernel, rfl, by decide +kernel, by decide +kernel⟩
theorem k89_50 : en_d 89 50 (.istore 4) 2 52 := ⟨by decide +kernel, rfl⟩
theorem k89_52 : en_d 89 52 (.iload 4) 2 54 := ⟨by decide +kernel, rfl⟩
theorem k89_54 : en_j 89 54 (.ifCond .eq) 57 78 := ⟨24, by decide +kernel, by decide, rfl⟩
theorem k89_57 : en_d 89 57 (.aload_n 0) 1 58 := ⟨by decide +kernel, rfl⟩
theorem k89_58 : en_df 89 58 10 8 false true 61 := ⟨34, by decide +kernel, by decide +kernel, by decide +kernel, rfl⟩
theorem k89_61 : en_d 89 61 (.iload_n 1) 1 62 := ⟨by decide +kernel, rfl⟩
theorem k89_62 : en_d 89 62 .iaload 1 63 := ⟨by decide +kernel, rfl⟩
theorem k89_63 : en_d 89 63 (.iload_n 3) 1 64 := ⟨by decide +kernel, rfl⟩
theorem k89_64 : en_j 89 64 (.if_icmp .lt) 67 78 := ⟨14, by decide +kernel, by decide, rfl⟩
theorem k89_67 : en_d 89 67 (.aload_n 0) 1 68 := ⟨by decide +kernel, rfl⟩
theorem k89_68 : en_df 89 68 10 3 false true 71 := ⟨19, by decide +kernel, by decide +kernel, by decide +kernel, rfl⟩
theorem k89_71 : en_d 89 71 (.iload_n 1) 1 72 := ⟨by decide +kernel, rfl⟩
theorem k89_72 : en_d 89 72 .iaload 1 73 := ⟨by decide +kernel, rfl⟩
theorem k89_73 : en_d 89 73 (.bipush 9) 2 75 := ⟨by decide +kernel, rfl⟩
theorem k89_75 : en_j 89 75 (.if_icmp .ne) 78 80 := ⟨5, by decide +kernel, by decide, rfl⟩
theorem k89_78 : en_d 89 78 (.iconst 0) 1 79 := ⟨by decide +kernel, rfl⟩
theorem k89_79 : en_d 89 79 .ireturn 1 80 := ⟨by decide +kernel, rfl⟩
theorem k89_80 : en_d 89 80 (.bipush 9) 2 82 := ⟨by decide +kernel, rfl⟩
theorem k89_82 : en_d 89 82 (.iload_n 1) 1 83 := ⟨by decide +kernel, rfl⟩
theorem k89_83 : en_d 89 83 .imul 1 84 := ⟨by decide +kernel, rfl⟩
theorem k89_84 : en_d 89 84 (.aload_n 0) 1 85 := ⟨by decide +kernel, rfl⟩
theorem k89_85 : en_df 89 85 10 3 false true 88 := ⟨19, by decide +kernel, by decide +kernel, by decide +kernel, rfl⟩
theorem k89_88 : en_d 89 88 (.iload_n 1) 1 89 := ⟨by decide +kernel, rfl⟩
theorem k89_89 : en_d 89 89 .iaload 1 90 := ⟨by decide +kernel, rfl⟩
theorem k89_90 : en_d 89 90 .iadd 1 91 := ⟨by decide +kernel, rfl⟩
theorem k89_91 : en_d 89 91 (.istore 5) 2 93 := ⟨by decide +kernel, rfl⟩
theorem k89_93 : en_d 89 93 (.aload_n 0) 1 94 := ⟨by decide +kernel, rfl⟩
theorem k89_94 : en_df 89 94 10 3 false true 97 := ⟨19, by decide +kernel, by decide +kernel, by decide +kernel, rfl⟩
theorem k89_97 : en_d 89 97 (.iload_n 1) 1 98 := ⟨by decide +kernel, rfl⟩
theorem k89_98 : en_d 89 98 .dup2 1 99 := ⟨by decide +kernel, rfl⟩
theorem k89_99 : en_d 89 99 .iaload 1 100 := ⟨by decide +kernel, rfl⟩
theorem k89_100 : en_d 89 100 (.iconst 1) 1 101 := ⟨by decide +kernel, rfl⟩
theorem k89_101 : en_d 89 101 .iadd 1 102 := ⟨by decide +kernel, rfl⟩
theorem k89_102 : en_d 89 102 .iastore 1 103 := ⟨by decide +kernel, rfl⟩
theorem k89_103 : en_d 89 103 (.aload_n 0) 1 104 := ⟨by decide +kernel, rfl⟩
theorem k89_104 : en_df 89 104 10 4 false true 107 := ⟨22, by decide +kernel, by decide +kernel, by decide +kernel, rfl⟩
theorem k89_107 : en_d 89 107 (.iload 5) 2 109 := ⟨by decide +kernel, rfl⟩
theorem k89_109 : en_d 89 109 (.iload_n 2) 1 110 := ⟨by decide +kernel, rfl⟩
theorem k89_110 : en_d 89 110 .iastore 1 111 := ⟨by decide +kernel, rfl⟩
theorem k89_111 : en_d 89 111 (.aload_n 0) 1 112 := ⟨by decide +kernel, rfl⟩
theorem k89_112 : en_df 89 112 10 5 false true 115 := ⟨25, by decide +kernel, by decide +kernel, by decide +kernel, rfl⟩
theorem k89_115 : en_d 89 115 (.iload 5) 2 117 := ⟨by decide +kernel, rfl⟩
theorem k89_117 : en_d 89 117 (.iload_n 3) 1 118 := ⟨by decide +kernel, rfl⟩
theorem k89_118 : en_d 89 118 .iastore 1 119 := ⟨by decide +kernel, rfl⟩
theorem k89_119 : en_d 89 119 (.iconst 0) 1 120 := ⟨by decide +kernel, rfl⟩
theorem k89_120 : en_d 89 120 (.istore 6) 2 122 := ⟨by decide +kernel, rfl⟩
theorem k89_122 : en_d 89 122 (.iload 6) 2 124 := ⟨by decide +kernel, rfl⟩
theorem k89_124 : en_d 89 124 (.iload_n 3) 1 125 := ⟨by decide +kernel, rfl⟩
theorem k89_125 : en_j 89 125 (.if_icmp .ge) 128 172 := ⟨47, by decide +kernel, by decide, rfl⟩
theorem k89_128 : en_d 89 128 (.aload_n 0) 1 129 := ⟨by decide +kernel, rfl⟩
theorem k89_129 : en_df 89 129 10 8 false true 132 := ⟨34, by decide +kernel, by decide +kernel, by decide +kernel, rfl⟩
theorem k89_132 : en_d 89 132 (.iload_n 1) 1 133 := ⟨by decide +kernel, rfl⟩
theorem k89_133 : en_d 89 133 .dup2 1 134 := ⟨by decide +kernel, rfl⟩
theorem k89_134 : en_d 89 134 .iaload 1 135 := ⟨by decide +kernel, rfl⟩
theorem k89_135 : en_d 89 135 (.iconst 1) 1 136 := ⟨by decide +kernel, rfl⟩
theorem k89_136 : en_d 89 136 .isub 1 137 := ⟨by decide +kernel, rfl⟩
theorem k89_137 : en_d 89 137 .iastore 1 138 := ⟨by decide +kernel, rfl⟩
theorem k89_138 : en_d 89 138 (.aload_n 0) 1 139 := ⟨by decide +kernel, rfl⟩
theorem k89_139 : en_df 89 139 10 6 false true 142 := ⟨28, by decide +kernel, by decide +kernel, by decide +kernel, rfl⟩
theorem k89_142 : en_d 89 142 (.iconst 4) 1 143 := ⟨by decide +kernel, rfl⟩
theorem k89_143 : en_d 89 143 (.iload 5) 2 145 := ⟨by decide +kernel, rfl⟩
theorem k89_145 : en_d 89 145 .imul 1 146 := ⟨by decide +kernel, rfl⟩
theorem k89_146 : en_d 89 146 (.iload 6) 2 148 := ⟨by decide +kernel, rfl⟩
theorem k89_148 : en_d 89 148 .iadd 1 149 := ⟨by decide +kernel, rfl⟩
theorem k89_149 : en_d 89 149 (.aload_n 0) 1 150 := ⟨by decide +kernel, rfl⟩
theorem k89_150 : en_df 89 150 10 7 false true 153 := ⟨31, by decide +kernel, by decide +kernel, by decide +kernel, rfl⟩
theorem k89_153 : en_d 89 153 (.bipush 9) 2 155 := ⟨by decide +kernel, rfl⟩
theorem k89_155 : en_d 89 155 (.iload_n 1) 1 156 := ⟨by decide +kernel, rfl⟩
theorem k89_156 : en_d 89 156 .imul 1 157 := ⟨by decide +kernel, rfl⟩
theorem k89_157 : en_d 89 157 (.aload_n 0) 1 158 := ⟨by decide +kernel, rfl⟩
theorem k89_158 : en_df 89 158 10 8 false true 161 := ⟨34, by decide +kernel, by decide +kernel, by decide +kernel, rfl⟩
theorem k89_161 : en_d 89 161 (.iload_n 1) 1 162 := ⟨by decide +kernel, rfl⟩
theorem k89_162 : en_d 89 162 .iaload 1 163 := ⟨by decide +kernel, rfl⟩
theorem k89_163 : en_d 89 163 .iadd 1 164 := ⟨by decide +kernel, rfl⟩
theorem k89_164 : en_d 89 164 .iaload 1 165 := ⟨by decide +kernel, rfl⟩
theorem k89_165 : en_d 89 165 .iastore 1 166 := ⟨by decide +kernel, rfl⟩
theorem k89_166 : en_d 89 166 (.iinc 6 1) 3 169 := ⟨by decide +kernel, rfl⟩
theorem k89_169 : en_j 89 169 .goto 172 122 := ⟨(-47), by decide +kernel, by decide, rfl⟩
theorem k89_172 : en_d 89 172 (.aload_n 0) 1 173 := ⟨by decide +kernel, rfl⟩
theorem k89_173 : en_df 89 173 10 7 false true 176 := ⟨31, by decide +kernel, by decide +kernel, by decide +kernel, rfl⟩
theorem k89_176 : en_d 89 176 (.bipush 9) 2 178 := ⟨by decide +kernel, rfl⟩
theorem k89_178 : en_d 89 178 (.iload_n 1) 1 179 := ⟨by decide +kernel, rfl⟩
theorem k89_179 : en_d 89 179 .imul 1 180 := ⟨by decide +kernel, rfl⟩
theorem k89_180 : en_d 89 180 (.aload_n 0) 1 181 := ⟨by decide +kernel, rfl⟩
theorem k89_181 : en_df 89 181 10 8 false true 184 := ⟨34, by decide +kernel, by decide +kernel, by decide +kernel, rfl⟩
theorem k89_184 : en_d 89 184 (.iload_n 1) 1 185 := ⟨by decide +kernel, rfl⟩
theorem k89_185 : en_d 89 185 .iaload 1 186 := ⟨by decide +kernel, rfl⟩
theorem k89_186 : en_d 89 186 .iadd 1 187 := ⟨by decide +kernel, rfl⟩
theorem k89_187 : en_d 89 187 (.iload 5) 2 189 := ⟨by decide +kernel, rfl⟩
theorem k89_189 : en_d 89 189 .iastore 1 190 := ⟨by decide +kernel, rfl⟩
theorem k89_190 : en_d 89 190 (.aload_n 0) 1 191 := ⟨by decide +kernel, rfl⟩
theorem k89_191 : en_df 89 191 10 8 false true 194 := ⟨34, by decide +kernel, by decide +kernel, by decide +kernel, rfl⟩
theorem k89_194 : en_d 89 194 (.iload_n 1) 1 195 := ⟨by decide +kernel, rfl⟩
theorem k89_195 : en_d 89 195 .dup2 1 196 := ⟨by decide +kernel, rfl⟩
theorem k89_196 : en_d 89 196 .iaload 1 197 := ⟨by decide +kernel, rfl⟩
theorem k89_197 : en_d 89 197 (.iconst 1) 1 198 := ⟨by decide +kernel, rfl⟩
theorem k89_198 : en_d 89 198 .iadd 1 199 := ⟨by decide +kernel, rfl⟩
theorem k89_199 : en_d 89 199 .iastore 1 200 := ⟨by decide +kernel, rfl⟩
theorem k89_200 : en_d 89 200 (.iconst 1) 1 201 := ⟨by decide +kernel, rfl⟩
theorem k89_201 : en_d 89 201 .ireturn 1 202 := ⟨by decide +kernel, rfl⟩
/-! 90: EndorsedLedgerModel.fulfils(II)Z -/
theorem k90_0 : en_d 90 0 (.iconst 0) 1 1 := ⟨by decide +kernel, rfl⟩
theorem k90_1 : en_d 90 1 (.istore_n 3) 1 2 := ⟨by decide +kernel, rfl⟩
theorem k90_2 : en_d 90 2 (.iload_n 3) 1 3 := ⟨by decide +kernel, rfl⟩
theorem k90_3 : en_d 90 3 (.aload_n 0) 1 4 := ⟨by decide +kernel, rfl⟩
theorem k90_4 : en_df 90 4 10 3 false true 7 := ⟨19, by decide +kernel, by decide +kernel, by decide +kernel, rfl⟩
theorem k90_7 : en_d 90 7 (.iload_n 1) 1 8 := ⟨by decide +kernel, rfl⟩
theorem k90_8 : en_d 90 8 .iaload 1 9 := ⟨by decide +kernel, rfl⟩
theorem k90_9 : en_j 90 9 (.if_icmp .ge) 12 141 := ⟨132, by decide +kernel, by decide, rfl⟩
theorem k90_12 : en_d 90 12 (.bipush 9) 2 14 := ⟨by decide +kernel, rfl⟩
theorem k90_14 : en_d 90 14 (.iload_n 1) 1 15 := ⟨by decide +kernel, rfl⟩
theorem k90_15 : en_d 90 15 .imul 1 16 := ⟨by decide +kernel, rfl⟩
theorem k90_16 : en_d 90 16 (.iload_n 3) 1 17 := ⟨by decide +kernel, rfl⟩
theorem k90_17 : en_d 90 17 .iadd 1 18 := ⟨by decide +kernel, rfl⟩
theorem k90_18 : en_d 90 18 (.istore 4) 2 20 := ⟨by decide +kernel, rfl⟩
theorem k90_20 : en_d 90 20 (.iconst 0) 1 21 := ⟨by decide +kernel, rfl⟩
theorem k90_21 : en_d 90 21 (.istore 5) 2 23 := ⟨by decide +kernel, rfl⟩
theorem k90_23 : en_d 90 23 (.iconst 0) 1 24 := ⟨by decide +kernel, rfl⟩
theorem k90_24 : en_d 90 24 (.istore 6) 2 26 := ⟨by decide +kernel, rfl⟩
theorem k90_26 : en_d 90 26 (.iload 6) 2 28 := ⟨by decide +kernel, rfl⟩
theorem k90_28 : en_d 90 28 (.aload_n 0) 1 29 := ⟨by decide +kernel, rfl⟩
theorem k90_29 : en_df 90 29 10 5 false true 32 := ⟨25, by decide +kernel, by decide +kernel, by decide +kernel, rfl⟩
theorem k90_32 : en_d 90 32 (.iload 4) 2 34 := ⟨by decide +kernel, rfl⟩
theorem k90_34 : en_d 90 34 .iaload 1 35 := ⟨by decide +kernel, rfl⟩
theorem k90_35 : en_j 90 35 (.if_icmp .ge) 38 79 := ⟨44, by decide +kernel, by decide, rfl⟩
theorem k90_38 : en_d 90 38 (.iload 5) 2 40 := ⟨by decide +kernel, rfl⟩
theorem k90_40 : en_d 90 40 (.aload_n 0) 1 41 := ⟨by decide +kernel, rfl⟩
theorem k90_41 : en_df 90 41 10 44 false true 44 := ⟨126, by decide +kernel, by decide +kernel, by decide +kernel, rfl⟩
theorem k90_44 : en_d 90 44 (.aload_n 0) 1 45 := ⟨by decide +kernel, rfl⟩
theorem k90_45 : en_df 90 45 10 6 false true 48 := ⟨28, by decide +kernel, by decide +kernel, by decide +kernel, rfl⟩
theorem k90_48 : en_d 90 48 (.iconst 4) 1 49 := ⟨by decide +kernel, rfl⟩
theorem k90_49 : en_d 90 49 (.iload 4) 2 51 := ⟨by decide +kernel, rfl⟩
theorem k90_51 : en_d 90 51 .imul 1 52 := ⟨by decide +kernel, rfl⟩
theorem k90_52 : en_d 90 52 (.iload 6) 2 54 := ⟨by decide +kernel, rfl⟩
theorem k90_54 : en_d 90 54 .iadd 1 55 := ⟨by decide +kernel, rfl⟩
theorem k90_55 : en_d 90 55 .iaload 1 56 := ⟨by decide +kernel, rfl⟩
theorem k90_56 : en_d 90 56 (.bipush 9) 2 58 := ⟨by decide +kernel, rfl⟩
theorem k90_58 : en_d 90 58 (.iload_n 1) 1 59 := ⟨by decide +kernel, rfl⟩
theorem k90_59 : en_d 90 59 .imul 1 60 := ⟨by decide +kernel, rfl⟩
theorem k90_60 : en_d 90 60 .isub 1 61 := ⟨by decide +kernel, rfl⟩
theorem k90_61 : en_d 90 61 .baload 1 62 := ⟨by decide +kernel, rfl⟩
theorem k90_62 : en_j 90 62 (.ifCond .eq) 65 69 := ⟨7, by decide +kernel, by decide, rfl⟩
theorem k90_65 : en_d 90 65 (.iconst 1) 1 66 := ⟨by decide +kernel, rfl⟩
theorem k90_66 : en_j 90 66 .goto 69 70 := ⟨4, by decide +kernel, by decide, rfl⟩
theorem k90_69 : en_d 90 69 (.iconst 0) 1 70 := ⟨by decide +kernel, rfl⟩
theorem k90_70 : en_d 90 70 .iadd 1 71 := ⟨by decide +kernel, rfl⟩
theorem k90_71 : en_d 90 71 (.istore 5) 2 73 := ⟨by decide +kernel, rfl⟩
theorem k90_73 : en_d 90 73 (.iinc 6 1) 3 76 := ⟨by decide +kernel, rfl⟩
theorem k90_76 : en_j 90 76 .goto 79 26 := ⟨(-50), by decide +kernel, by decide, rfl⟩
theorem k90_79 : en_d 90 79 (.aload_n 0) 1 80 := ⟨by decide +kernel, rfl⟩
theorem k90_80 : en_df 90 80 10 44 false true 83 := ⟨126, by decide +kernel, by decide +kernel, by decide +kernel, rfl⟩
theorem k90_83 : en_d 90 83 (.iload_n 3) 1 84 := ⟨by decide +kernel, rfl⟩
theorem k90_84 : en_d 90 84 (.aload_n 0) 1 85 := ⟨by decide +kernel, rfl⟩
theorem k90_85 : en_df 90 85 10 5 false true 88 := ⟨25, by decide +kernel, by decide +kernel, by decide +kernel, rfl⟩
theorem k90_88 : en_d 90 88 (.iload 4) 2 90 := ⟨by decide +kernel, rfl⟩
theorem k90_90 : en_d 90 90 .iaload 1 91 := ⟨by decide +kernel, rfl⟩
theorem k90_91 : en_j 90 91 (.ifCond .ne) 94 117 := ⟨26, by decide +kernel, by decide, rfl⟩
theorem k90_94 : en_d 90 94 (.iload_n 2) 1 95 := ⟨by decide +kernel, rfl⟩
theorem k90_95 : en_d 90 95 (.aload_n 0) 1 96 := ⟨by decide +kernel, rfl⟩
theorem k90_96 : en_df 90 96 10 4 false true 99 := ⟨22, by decide +kernel, by decide +kernel, by decide +kernel, rfl⟩
theorem k90_99 : en_d 90 99 (.iload 4) 2 101 := ⟨by decide +kernel, rfl⟩
theorem k90_101 : en_d 90 101 .iaload 1 102 := ⟨by decide +kernel, rfl⟩
theorem k90_102 : en_d 90 102 .ishr 1 103 := ⟨by decide +kernel, rfl⟩
theorem k90_103 : en_d 90 103 (.iconst 1) 1 104 := ⟨by decide +kernel, rfl⟩
theorem k90_104 : en_d 90 104 .iand 1 105 := ⟨by decide +kernel, rfl⟩
theorem k90_105 : en_d 90 105 (.iconst 1) 1 106 := ⟨by decide +kernel, rfl⟩
theorem k90_106 : en_j 90 106 (.if_icmp .ne) 109 113 := ⟨7, by decide +kernel, by decide, rfl⟩
theorem k90_109 : en_d 90 109 (.iconst 1) 1 110 := ⟨by decide +kernel, rfl⟩
theorem k90_110 : en_j 90 110 .goto 113 134 := ⟨24, by decide +kernel, by decide, rfl⟩
theorem k90_113 : en_d 90 113 (.iconst 0) 1 114 := ⟨by decide +kernel, rfl⟩
theorem k90_114 : en_j 90 114 .goto 117 134 := ⟨20, by decide +kernel, by decide, rfl⟩
theorem k90_117 : en_d 90 117 (.iload 5) 2 119 := ⟨by decide +kernel, rfl⟩
theorem k90_119 : en_d 90 119 (.aload_n 0) 1 120 := ⟨by decide +kernel, rfl⟩
theorem k90_120 : en_df 90 120 10 4 false true 123 := ⟨22, by decide +kernel, by decide +kernel, by decide +kernel, rfl⟩
theorem k90_123 : en_d 90 123 (.iload 4) 2 125 := ⟨by decide +kernel, rfl⟩
theorem k90_125 : en_d 90 125 .iaload 1 126 := ⟨by decide +kernel, rfl⟩
theorem k90_126 : en_j 90 126 (.if_icmp .lt) 129 133 := ⟨7, by decide +kernel, by decide, rfl⟩
theorem k90_129 : en_d 90 129 (.iconst 1) 1 130 := ⟨by decide +kernel, rfl⟩
theorem k90_130 : en_j 90 130 .goto 133 134 := ⟨4, by decide +kernel, by decide, rfl⟩
theorem k90_133 : en_d 90 133 (.iconst 0) 1 134 := ⟨by decide +kernel, rfl⟩
theorem k90_134 : en_d 90 134 .bastore 1 135 := ⟨by decide +kernel, rfl⟩
theorem k90_135 : en_d 90 135 (.iinc 3 1) 3 138 := ⟨by decide +kernel, rfl⟩
theorem k90_138 : en_j 90 138 .goto 141 2 := ⟨(-136), by decide +kernel, by decide, rfl⟩
theorem k90_141 : en_d 90 141 (.aload_n 0) 1 142 := ⟨by decide +kernel, rfl⟩
theorem k90_142 : en_df 90 142 10 8 false true 145 := ⟨34, by decide +kernel, by decide +kernel, by decide +kernel, rfl⟩
theorem k90_145 : en_d 90 145 (.iload_n 1) 1 146 := ⟨by decide +kernel, rfl⟩
theorem k90_146 : en_d 90 146 .iaload 1 147 := ⟨by decide +kernel, rfl⟩
theorem k90_147 : en_j 90 147 (.ifCond .le) 150 185 := ⟨38, by decide +kernel, by decide, rfl⟩
theorem k90_150 : en_d 90 150 (.aload_n 0) 1 151 := ⟨by decide +kernel, rfl⟩
theorem k90_151 : en_df 90 151 10 44 false true 154 := ⟨126, by decide +kernel, by decide +kernel, by decide +kernel, rfl⟩
theorem k90_154 : en_d 90 154 (.aload_n 0) 1 155 := ⟨by decide +kernel, rfl⟩
theorem k90_155 : en_df 90 155 10 7 false true 158 := ⟨31, by decide +kernel, by decide +kernel, by decide +kernel, rfl⟩
theorem k90_158 : en_d 90 158 (.bipush 9) 2 160 := ⟨by decide +kernel, rfl⟩
theorem k90_160 : en_d 90 160 (.iload_n 1) 1 161 := ⟨by decide +kernel, rfl⟩
theorem k90_161 : en_d 90 161 .imul 1 162 := ⟨by decide +kernel, rfl⟩
theorem k90_162 : en_d 90 162 (.aload_n 0) 1 163 := ⟨by decide +kernel, rfl⟩
theorem k90_163 : en_df 90 163 10 8 false true 166 := ⟨34, by decide +kernel, by decide +kernel, by decide +kernel, rfl⟩
theorem k90_166 : en_d 90 166 (.iload_n 1) 1 167 := ⟨by decide +kernel, rfl⟩
theorem k90_167 : en_d 90 167 .iaload 1 168 := ⟨by decide +kernel, rfl⟩
theorem k90_168 : en_d 90 168 .iadd 1 169 := ⟨by decide +kernel, rfl⟩
theorem k90_169 : en_d 90 169 (.iconst 1) 1 170 := ⟨by decide +kernel, rfl⟩
theorem k90_170 : en_d 90 170 .isub 1 171 := ⟨by decide +kernel, rfl⟩
theorem k90_171 : en_d 90 171 .iaload 1 172 := ⟨by decide +kernel, rfl⟩
theorem k90_172 : en_d 90 172 (.bipush 9) 2 174 := ⟨by decide +kernel, rfl⟩
theorem k90_174 : en_d 90 174 (.iload_n 1) 1 175 := ⟨by decide +kernel, rfl⟩
theorem k90_175 : en_d 90 175 .imul 1 176 := ⟨by decide +kernel, rfl⟩
theorem k90_176 : en_d 90 176 .isub 1 177 := ⟨by decide +kernel, rfl⟩
theorem k90_177 : en_d 90 177 .baload 1 178 := ⟨by decide +kernel, rfl⟩
theorem k90_178 : en_j 90 178 (.ifCond .eq) 181 185 := ⟨7, by decide +kernel, by decide, rfl⟩
theorem k90_181 : en_d 90 181 (.iconst 1) 1 182 := ⟨by decide +kernel, rfl⟩
theorem k90_182 : en_j 90 182 .goto 185 186 := ⟨4, by decide +kernel, by decide, rfl⟩
theorem k90_185 : en_d 90 185 (.iconst 0) 1 186 := ⟨by decide +kernel, rfl⟩
theorem k90_186 : en_d 90 186 .ireturn 1 187 := ⟨by decide +kernel, rfl⟩
/-! 91: EndorsedLedgerModel.go(I)V -/
theorem k91_0 : en_d 91 0 (.iconst 0) 1 1 := ⟨by decide +kernel, rfl⟩
theorem k91_1 : en_d 91 1 (.istore_n 2) 1 2 := ⟨by decide +kernel, rfl⟩
theorem k91_2 : en_d 91 2 (.iload_n 2) 1 3 := ⟨by decide +kernel, rfl⟩
theorem k91_3 : en_d 91 3 (.bipush 16) 2 5 := ⟨by decide +kernel, rfl⟩
theorem k91_5 : en_j 91 5 (.if_icmp .ge) 8 28 := ⟨23, by decide +kernel, by decide, rfl⟩
theorem k91_8 : en_d 91 8 (.aload_n 0) 1 9 := ⟨by decide +kernel, rfl⟩
theorem k91_9 : en_df 91 9 10 40 false true 12 := ⟨114, by decide +kernel, by decide +kernel, by decide +kernel, rfl⟩
theorem k91_12 : en_d 91 12 (.iload_n 2) 1 13 := ⟨by decide +kernel, rfl⟩
theorem k91_13 : en_d 91 13 (.iconst 0) 1 14 := ⟨by decide +kernel, rfl⟩
theorem k91_14 : en_d 91 14 .iastore 1 15 := ⟨by decide +kernel, rfl⟩
theorem k91_15 : en_d 91 15 (.aload_n 0) 1 16 := ⟨by decide +kernel, rfl⟩
theorem k91_16 : en_df 91 16 10 41 false true 19 := ⟨117, by decide +kernel, by decide +kernel, by decide +kernel, rfl⟩
theorem k91_19 : en_d 91 19 (.iload_n 2) 1 20 := ⟨by decide +kernel, rfl⟩
theorem k91_20 : en_d 91 20 (.iconst 0) 1 21 := ⟨by decide +kernel, rfl⟩
theorem k91_21 : en_d 91 21 .iastore 1 22 := ⟨by decide +kernel, rfl⟩
theorem k91_22 : en_d 91 22 (.iinc 2 1) 3 25 := ⟨by decide +kernel, rfl⟩
theorem k91_25 : en_j 91 25 .goto 28 2 := ⟨(-23), by decide +kernel, by decide, rfl⟩
theorem k91_28 : en_d 91 28 (.iconst 0) 1 29 := ⟨by decide +kernel, rfl⟩
theorem k91_29 : en_d 91 29 (.istore_n 2) 1 30 := ⟨by decide +kernel, rfl⟩
theorem k91_30 : en_d 91 30 (.iload_n 2) 1 31 := ⟨by decide +kernel, rfl⟩
theorem k91_31 : en_d 91 31 (.bipush 60) 2 33 := ⟨by decide +kernel, rfl⟩
theorem k91_33 : en_j 91 33 (.if_icmp .ge) 36 49 := ⟨16, by decide +kernel, by decide, rfl⟩
theorem k91_36 : en_d 91 36 (.aload_n 0) 1 37 := ⟨by decide +kernel, rfl⟩
theorem k91_37 : en_df 91 37 10 43 false true 40 := ⟨123, by decide +kernel, by decide +kernel, by decide +kernel, rfl⟩
theorem k91_40 : en_d 91 40 (.iload_n 2) 1 41 := ⟨by decide +kernel, rfl⟩
theorem k91_41 : en_d 91 41 (.iconst 0) 1 42 := ⟨by decide +kernel, rfl⟩
theorem k91_42 : en_d 91 42 .bastore 1 43 := ⟨by decide +kernel, rfl⟩
theorem k91_43 : en_d 91 43 (.iinc 2 1) 3 46 := ⟨by decide +kernel, rfl⟩
theorem k91_46 : en_j 91 46 .goto 49 30 := ⟨(-16), by decide +kernel, by decide, rfl⟩
theorem k91_49 : en_d 91 49 (.iconst 0) 1 50 := ⟨by decide +kernel, rfl⟩
theorem k91_50 : en_d 91 50 (.istore_n 2) 1 51 := ⟨by decide +kernel, rfl⟩
theorem k91_51 : en_d 91 51 (.iload_n 2) 1 52 := ⟨by decide +kernel, rfl⟩
theorem k91_52 : en_d 91 52 (.iload_n 1) 1 53 := ⟨by decide +kernel, rfl⟩
theorem k91_53 : en_j 91 53 (.if_icmp .ge) 56 242 := ⟨189, by decide +kernel, by decide, rfl⟩
theorem k91_56 : en_d 91 56 (.aload_n 0) 1 57 := ⟨by decide +kernel, rfl⟩
theorem k91_57 : en_df 91 57 10 35 false true 60 := ⟨102, by decide +kernel, by decide +kernel, by decide +kernel, rfl⟩
theorem k91_60 : en_d 91 60 (.iload_n 2) 1 61 := ⟨by decide +kernel, rfl⟩
theorem k91_61 : en_d 91 61 .iaload 1 62 := ⟨by decide +kernel, rfl⟩
theorem k91_62 : en_d 91 62 (.istore_n 3) 1 63 := ⟨by decide +kernel, rfl⟩
theorem k91_63 : en_d 91 63 (.iconst 0) 1 64 := ⟨by decide +kernel, rfl⟩
theorem k91_64 : en_d 91 64 (.istore 4) 2 66 := ⟨by decide +kernel, rfl⟩
theorem k91_66 : en_d 91 66 (.iload 4) 2 68 := ⟨by decide +kernel, rfl⟩
theorem k91_68 : en_d 91 68 (.aload_n 0) 1 69 := ⟨by decide +kernel, rfl⟩
theorem k91_69 : en_df 91 69 10 28 false true 72 := ⟨80, by decide +kernel, by decide +kernel, by decide +kernel, rfl⟩
theorem k91_72 : en_d 91 72 (.iload_n 3) 1 73 := ⟨by decide +kernel, rfl⟩
theorem k91_73 : en_d 91 73 .iaload 1 74 := ⟨by decide +kernel, rfl⟩
theorem k91_74 : en_j 91 74 (.if_icmp .ge) 77 236 := ⟨162, by decide +kernel, by decide, rfl⟩
theorem k91_77 : en_d 91 77 (.aload_n 0) 1 78 := ⟨by decide +kernel, rfl⟩
theorem k91_78 : en_df 91 78 10 27 false true 81 := ⟨77, by decide +kernel, by decide +kernel, by decide +kernel, rfl⟩
theorem k91_81 : en_d 91 81 (.iconst 4) 1 82 := ⟨by decide +kernel, rfl⟩
theorem k91_82 : en_d 91 82 (.iload_n 3) 1 83 := ⟨by decide +kernel, rfl⟩
theorem k91_83 : en_d 91 83 .imul 1 84 := ⟨by decide +kernel, rfl⟩
theorem k91_84 : en_d 91 84 (.iload 4) 2 86 := ⟨by decide +kernel, rfl⟩
theorem k91_86 : en_d 91 86 .iadd 1 87 := ⟨by decide +kernel, rfl⟩
theorem k91_87 : en_d 91 87 .iaload 1 88 := ⟨by decide +kernel, rfl⟩
theorem k91_88 : en_d 91 88 (.istore 5) 2 90 := ⟨by decide +kernel, rfl⟩
theorem k91_90 : en_d 91 90 (.aload_n 0) 1 91 := ⟨by decide +kernel, rfl⟩
theorem k91_91 : en_df 91 91 10 42 false true 94 := ⟨120, by decide +kernel, by decide +kernel, by decide +kernel, rfl⟩
theorem k91_94 : en_d 91 94 (.iload 4) 2 96 := ⟨by decide +kernel, rfl⟩
theorem k91_96 : en_d 91 96 (.aload_n 0) 1 97 := ⟨by decide +kernel, rfl⟩
theorem k91_97 : en_d 91 97 (.iload 5) 2 99 := ⟨by decide +kernel, rfl⟩
theorem k91_99 : en_dv 91 99 92 false 102 := ⟨136, by decide +kernel, by decide +kernel, rfl, by decide +kernel, by decide +kernel⟩
theorem k91_102 : en_d 91 102 .iastore 1 103 := ⟨by decide +kernel, rfl⟩
theorem k91_103 : en_d 91 103 (.aload_n 0) 1 104 := ⟨by decide +kernel, rfl⟩
theorem k91_104 : en_df 91 104 10 43 false true 107 := ⟨123, by decide +kernel, by decide +kernel, by decide +kernel, rfl⟩
theorem k91_107 : en_d 91 107 (.iload 5) 2 109 := ⟨by decide +kernel, rfl⟩
theorem k91_109 : en_d 91 109 (.iconst 1) 1 110 := ⟨by decide +kernel, rfl⟩
theorem k91_110 : en_d 91 110 .bastore 1 111 := ⟨by decide +kernel, rfl⟩
theorem k91_111 : en_d 91 111 (.iconst 0) 1 112 := ⟨by decide +kernel, rfl⟩
theorem k91_112 : en_d 91 112 (.istore 6) 2 114 := ⟨by decide +kernel, rfl⟩
theorem k91_114 : en_d 91 114 (.iload 6) 2 116 := ⟨by decide +kernel, rfl⟩
theorem k91_116 : en_d 91 116 (.bipush 16) 2 118 := ⟨by decide +kernel, rfl⟩
theorem k91_118 : en_j 91 118 (.if_icmp .ge) 121 230 := ⟨112, by decide +kernel, by decide, rfl⟩
theorem k91_121 : en_d 91 121 (.aload_n 0) 1 122 := ⟨by decide +kernel, rfl⟩
theorem k91_122 : en_df 91 122 10 42 false true 125 := ⟨120, by decide +kernel, by decide +kernel, by decide +kernel, rfl⟩
theorem k91_125 : en_d 91 125 (.iload 4) 2 127 := ⟨by decide +kernel, rfl⟩
theorem k91_127 : en_d 91 127 .iaload 1 128 := ⟨by decide +kernel, rfl⟩
theorem k91_128 : en_j 91 128 (.ifCond .ne) 131 230 := ⟨102, by decide +kernel, by decide, rfl⟩
theorem k91_131 : en_d 91 131 (.aload_n 0) 1 132 := ⟨by decide +kernel, rfl⟩
theorem k91_132 : en_df 91 132 10 15 false true 135 := ⟨53, by decide +kernel, by decide +kernel, by decide +kernel, rfl⟩
theorem k91_135 : en_d 91 135 (.bipush 16) 2 137 := ⟨by decide +kernel, rfl⟩
theorem k91_137 : en_d 91 137 (.iload 5) 2 139 := ⟨by decide +kernel, rfl⟩
theorem k91_139 : en_d 91 139 .imul 1 140 := ⟨by decide +kernel, rfl⟩
theorem k91_140 : en_d 91 140 (.iload 6) 2 142 := ⟨by decide +kernel, rfl⟩
theorem k91_142 : en_d 91 142 .iadd 1 143 := ⟨by decide +kernel, rfl⟩
theorem k91_143 : en_d 91 143 .iaload 1 144 := ⟨by decide +kernel, rfl⟩
theorem k91_144 : en_j 91 144 (.ifCond .le) 147 224 := ⟨80, by decide +kernel, by decide, rfl⟩
theorem k91_147 : en_d 91 147 (.aload_n 0) 1 148 := ⟨by decide +kernel, rfl⟩
theorem k91_148 : en_df 91 148 10 40 false true 151 := ⟨114, by decide +kernel, by decide +kernel, by decide +kernel, rfl⟩
theorem k91_151 : en_d 91 151 (.iload 6) 2 153 := ⟨by decide +kernel, rfl⟩
theorem k91_153 : en_d 91 153 (.aload_n 0) 1 154 := ⟨by decide +kernel, rfl⟩
theorem k91_154 : en_df 91 154 10 15 false true 157 := ⟨53, by decide +kernel, by decide +kernel, by decide +kernel, rfl⟩
theorem k91_157 : en_d 91 157 (.bipush 16) 2 159 := ⟨by decide +kernel, rfl⟩
theorem k91_159 : en_d 91 159 (.iload 5) 2 161 := ⟨by decide +kernel, rfl⟩
theorem k91_161 : en_d 91 161 .imul 1 162 := ⟨by decide +kernel, rfl⟩
theorem k91_162 : en_d 91 162 (.iload 6) 2 164 := ⟨by decide +kernel, rfl⟩
theorem k91_164 : en_d 91 164 .iadd 1 165 := ⟨by decide +kernel, rfl⟩
theorem k91_165 : en_d 91 165 .iaload 1 166 := ⟨by decide +kernel, rfl⟩
theorem k91_166 : en_d 91 166 (.iconst 1) 1 167 := ⟨by decide +kernel, rfl⟩
theorem k91_167 : en_j 91 167 (.if_icmp .ne) 170 186 := ⟨19, by decide +kernel, by decide, rfl⟩
theorem k91_170 : en_d 91 170 (.aload_n 0) 1 171 := ⟨by decide +kernel, rfl⟩
theorem k91_171 : en_df 91 171 10 16 false true 174 := ⟨56, by decide +kernel, by decide +kernel, by decide +kernel, rfl⟩
theorem k91_174 : en_d 91 174 (.bipush 16) 2 176 := ⟨by decide +kernel, rfl⟩
theorem k91_176 : en_d 91 176 (.iload 5) 2 178 := ⟨by decide +kernel, rfl⟩
theorem k91_178 : en_d 91 178 .imul 1 179 := ⟨by decide +kernel, rfl⟩
theorem k91_179 : en_d 91 179 (.iload 6) 2 181 := ⟨by decide +kernel, rfl⟩
theorem k91_181 : en_d 91 181 .iadd 1 182 := ⟨by decide +kernel, rfl⟩
theorem k91_182 : en_d 91 182 .iaload 1 183 := ⟨by decide +kernel, rfl⟩
theorem k91_183 : en_j 91 183 .goto 186 187 := ⟨4, by decide +kernel, by decide, rfl⟩
theorem k91_186 : en_d 91 186 (.iconst 0) 1 187 := ⟨by decide +kernel, rfl⟩
theorem k91_187 : en_d 91 187 .iastore 1 188 := ⟨by decide +kernel, rfl⟩
theorem k91_188 : en_d 91 188 (.aload_n 0) 1 189 := ⟨by decide +kernel, rfl⟩
theorem k91_189 : en_df 91 189 10 41 false true 192 := ⟨117, by decide +kernel, by decide +kernel, by decide +kernel, rfl⟩
theorem k91_192 : en_d 91 192 (.iload 6) 2 194 := ⟨by decide +kernel, rfl⟩
theorem k91_194 : en_d 91 194 (.aload_n 0) 1 195 := ⟨by decide +kernel, rfl⟩
theorem k91_195 : en_df 91 195 10 15 false true 198 := ⟨53, by decide +kernel, by decide +kernel, by decide +kernel, rfl⟩
theorem k91_198 : en_d 91 198 (.bipush 16) 2 200 := ⟨by decide +kernel, rfl⟩
theorem k91_200 : en_d 91 200 (.iload 5) 2 202 := ⟨by decide +kernel, rfl⟩
theorem k91_202 : en_d 91 202 .imul 1 203 := ⟨by decide +kernel, rfl⟩
theorem k91_203 : en_d 91 203 (.iload 6) 2 205 := ⟨by decide +kernel, rfl⟩
theorem k91_205 : en_d 91 205 .iadd 1 206 := ⟨by decide +kernel, rfl⟩
theorem k91_206 : en_d 91 206 .iaload 1 207 := ⟨by decide +kernel, rfl⟩
theorem k91_207 : en_d 91 207 (.iconst 1) 1 208 := ⟨by decide +kernel, rfl⟩
theorem k91_208 : en_j 91 208 (.if_icmp .ne) 211 222 := ⟨14, by decide +kernel, by decide, rfl⟩
theorem k91_211 : en_d 91 211 (.iconst 1) 1 212 := ⟨by decide +kernel, rfl⟩
theorem k91_212 : en_d 91 212 (.iconst 4) 1 213 := ⟨by decide +kernel, rfl⟩
theorem k91_213 : en_d 91 213 (.iload_n 2) 1 214 := ⟨by decide +kernel, rfl⟩
theorem k91_214 : en_d 91 214 .imul 1 215 := ⟨by decide +kernel, rfl⟩
theorem k91_215 : en_d 91 215 .iadd 1 216 := ⟨by decide +kernel, rfl⟩
theorem k91_216 : en_d 91 216 (.iload 4) 2 218 := ⟨by decide +kernel, rfl⟩
theorem k91_218 : en_d 91 218 .iadd 1 219 := ⟨by decide +kernel, rfl⟩
theorem k91_219 : en_j 91 219 .goto 222 223 := ⟨4, by decide +kernel, by decide, rfl⟩
theorem k91_222 : en_d 91 222 (.iconst 0) 1 223 := ⟨by decide +kernel, rfl⟩
theorem k91_223 : en_d 91 223 .iastore 1 224 := ⟨by decide +kernel, rfl⟩
theorem k91_224 : en_d 91 224 (.iinc 6 1) 3 227 := ⟨by decide +kernel, rfl⟩
theorem k91_227 : en_j 91 227 .goto 230 114 := ⟨(-113), by decide +kernel, by decide, rfl⟩
theorem k91_230 : en_d 91 230 (.iinc 4 1) 3 233 := ⟨by decide +kernel, rfl⟩
theorem k91_233 : en_j 91 233 .goto 236 66 := ⟨(-167), by decide +kernel, by decide, rfl⟩
theorem k91_236 : en_d 91 236 (.iinc 2 1) 3 239 := ⟨by decide +kernel, rfl⟩
theorem k91_239 : en_j 91 239 .goto 242 51 := ⟨(-188), by decide +kernel, by decide, rfl⟩
theorem k91_242 : en_d 91 242 .return_ 1 243 := ⟨by decide +kernel, rfl⟩
/-! 92: EndorsedLedgerModel.flagOf(I)I -/
theorem k92_0 : en_d 92 0 (.aload_n 0) 1 1 := ⟨by decide +kernel, rfl⟩
theorem k92_1 : en_df 92 1 10 43 false true 4 := ⟨123, by decide +kernel, by decide +kernel, by decide +kernel, rfl⟩
theorem k92_4 : en_d 92 4 (.iload_n 1) 1 5 := ⟨by decide +kernel, rfl⟩
theorem k92_5 : en_d 92 5 .baload 1 6 := ⟨by decide +kernel, rfl⟩
theorem k92_6 : en_j 92 6 (.ifCond .ne) 9 28 := ⟨22, by decide +kernel, by decide, rfl⟩
theorem k92_9 : en_d 92 9 (.aload_n 0) 1 10 := ⟨by decide +kernel, rfl⟩
theorem k92_10 : en_d 92 10 (.aload_n 0) 1 11 := ⟨by decide +kernel, rfl⟩
theorem k92_11 : en_df 92 11 10 10 false true 14 := ⟨37, by decide +kernel, by decide +kernel, by decide +kernel, rfl⟩
theorem k92_14 : en_d 92 14 (.iload_n 1) 1 15 := ⟨by decide +kernel, rfl⟩
theorem k92_15 : en_d 92 15 .iaload 1 16 := ⟨by decide +kernel, rfl⟩
theorem k92_16 : en_d 92 16 (.aload_n 0) 1 17 := ⟨by decide +kernel, rfl⟩
theorem k92_17 : en_df 92 17 10 12 false true 20 := ⟨43, by decide +kernel, by decide +kernel, by decide +kernel, rfl⟩
theorem k92_20 : en_d 92 20 (.iload_n 1) 1 21 := ⟨by decide +kernel, rfl⟩
theorem k92_21 : en_d 92 21 .iaload 1 22 := ⟨by decide +kernel, rfl⟩
theorem k92_22 : en_dv 92 22 90 false 25 := ⟨140, by decide +kernel, by decide +kernel, rfl, by decide +kernel, by decide +kernel⟩
theorem k92_25 : en_j 92 25 (.ifCond .ne) 28 43 := ⟨18, by decide +kernel, by decide, rfl⟩
theorem k92_28 : en_d 92 28 (.aload_n 0) 1 29 := ⟨by decide +kernel, rfl⟩
theorem k92_29 : en_df 92 29 10 43 false true 32 := ⟨123, by decide +kernel, by decide +kernel, by decide +kernel, rfl⟩
theorem k92_32 : en_d 92 32 (.iload_n 1) 1 33 := ⟨by decide +kernel, rfl⟩
theorem k92_33 : en_d 92 33 .baload 1 34 := ⟨by decide +kernel, rfl⟩
theorem k92_34 : en_j 92 34 (.ifCond .eq) 37 41 := ⟨7, by decide +kernel, by decide, rfl⟩
theorem k92_37 : en_d 92 37 (.iconst 4) 1 38 := ⟨by decide +kernel, rfl⟩
theorem k92_38 : en_j 92 38 .goto 41 42 := ⟨4, by decide +kernel, by decide, rfl⟩
theorem k92_41 : en_d 92 41 (.iconst 1) 1 42 := ⟨by decide +kernel, rfl⟩
theorem k92_42 : en_d 92 42 .ireturn 1 43 := ⟨by decide +kernel, rfl⟩
theorem k92_43 : en_d 92 43 (.iconst 1) 1 44 := ⟨by decide +kernel, rfl⟩
theorem k92_44 : en_d 92 44 (.istore_n 2) 1 45 := ⟨by decide +kernel, rfl⟩
theorem k92_45 : en_d 92 45 (.iconst 1) 1 46 := ⟨by decide +kernel, rfl⟩
theorem k92_46 : en_d 92 46 (.istore_n 3) 1 47 := ⟨by decide +kernel, rfl⟩
theorem k92_47 : en_d 92 47 (.iconst 0) 1 48 := ⟨by decide +kernel, rfl⟩
theorem k92_48 : en_d 92 48 (.istore 4) 2 50 := ⟨by decide +kernel, rfl⟩
theorem k92_50 : en_d 92 50 (.iload 4) 2 52 := ⟨by decide +kernel, rfl⟩
theorem k92_52 : en_d 92 52 (.bipush 16) 2 54 := ⟨by decide +kernel, rfl⟩
theorem k92_54 : en_j 92 54 (.if_icmp .ge) 57 193 := ⟨139, by decide +kernel, by decide, rfl⟩
theorem k92_57 : en_d 92 57 (.iload_n 2) 1 58 := ⟨by decide +kernel, rfl⟩
theorem k92_58 : en_j 92 58 (.ifCond .eq) 61 102 := ⟨44, by decide +kernel, by decide, rfl⟩
theorem k92_61 : en_d 92 61 (.aload_n 0) 1 62 := ⟨by decide +kernel, rfl⟩
theorem k92_62 : en_df 92 62 10 14 false true 65 := ⟨50, by decide +kernel, by decide +kernel, by decide +kernel, rfl⟩
theorem k92_65 : en_d 92 65 (.bipush 16) 2 67 := ⟨by decide +kernel, rfl⟩
theorem k92_67 : en_d 92 67 (.iload_n 1) 1 68 := ⟨by decide +kernel, rfl⟩
theorem k92_68 : en_d 92 68 .imul 1 69 := ⟨by decide +kernel, rfl⟩
theorem k92_69 : en_d 92 69 (.iload 4) 2 71 := ⟨by decide +kernel, rfl⟩
theorem k92_71 : en_d 92 71 .iadd 1 72 := ⟨by decide +kernel, rfl⟩
theorem k92_72 : en_d 92 72 .iaload 1 73 := ⟨by decide +kernel, rfl⟩
theorem k92_73 : en_j 92 73 (.ifCond .lt) 76 98 := ⟨25, by decide +kernel, by decide, rfl⟩
theorem k92_76 : en_d 92 76 (.aload_n 0) 1 77 := ⟨by decide +kernel, rfl⟩
theorem k92_77 : en_df 92 77 10 14 false true 80 := ⟨50, by decide +kernel, by decide +kernel, by decide +kernel, rfl⟩
theorem k92_80 : en_d 92 80 (.bipush 16) 2 82 := ⟨by decide +kernel, rfl⟩
theorem k92_82 : en_d 92 82 (.iload_n 1) 1 83 := ⟨by decide +kernel, rfl⟩
theorem k92_83 : en_d 92 83 .imul 1 84 := ⟨by decide +kernel, rfl⟩
theorem k92_84 : en_d 92 84 (.iload 4) 2 86 := ⟨by decide +kernel, rfl⟩
theorem k92_86 : en_d 92 86 .iadd 1 87 := ⟨by decide +kernel, rfl⟩
theorem k92_87 : en_d 92 87 .iaload 1 88 := ⟨by decide +kernel, rfl⟩
theorem k92_88 : en_d 92 88 (.aload_n 0) 1 89 := ⟨by decide +kernel, rfl⟩
theorem k92_89 : en_df 92 89 10 41 false true 92 := ⟨117, by decide +kernel, by decide +kernel, by decide +kernel, rfl⟩
theorem k92_92 : en_d 92 92 (.iload 4) 2 94 := ⟨by decide +kernel, rfl⟩
theorem k92_94 : en_d 92 94 .iaload 1 95 := ⟨by decide +kernel, rfl⟩
theorem k92_95 : en_j 92 95 (.if_icmp .ne) 98 102 := ⟨7, by decide +kernel, by decide, rfl⟩
theorem k92_98 : en_d 92 98 (.iconst 1) 1 99 := ⟨by decide +kernel, rfl⟩
theorem k92_99 : en_j 92 99 .goto 102 103 := ⟨4, by decide +kernel, by decide, rfl⟩
theorem k92_102 : en_d 92 102 (.iconst 0) 1 103 := ⟨by decide +kernel, rfl⟩
theorem k92_103 : en_d 92 103 (.istore_n 2) 1 104 := ⟨by decide +kernel, rfl⟩
theorem k92_104 : en_d 92 104 (.iconst 2) 1 105 := ⟨by decide +kernel, rfl⟩
theorem k92_105 : en_d 92 105 (.iload_n 1) 1 106 := ⟨by decide +kernel, rfl⟩
theorem k92_106 : en_d 92 106 .imul 1 107 := ⟨by decide +kernel, rfl⟩
theorem k92_107 : en_d 92 107 (.istore 5) 2 109 := ⟨by decide +kernel, rfl⟩
theorem k92_109 : en_d 92 109 (.iload 5) 2 111 := ⟨by decide +kernel, rfl⟩
theorem k92_111 : en_d 92 111 (.iconst 2) 1 112 := ⟨by decide +kernel, rfl⟩
theorem k92_112 : en_d 92 112 (.iload_n 1) 1 113 := ⟨by decide +kernel, rfl⟩
theorem k92_113 : en_d 92 113 .imul 1 114 := ⟨by decide +kernel, rfl⟩
theorem k92_114 : en_d 92 114 (.aload_n 0) 1 115 := ⟨by decide +kernel, rfl⟩
theorem k92_115 : en_df 92 115 10 17 false true 118 := ⟨59, by decide +kernel, by decide +kernel, by decide +kernel, rfl⟩
theorem k92_118 : en_d 92 118 (.iload_n 1) 1 119 := ⟨by decide +kernel, rfl⟩
theorem k92_119 : en_d 92 119 .iaload 1 120 := ⟨by decide +kernel, rfl⟩
theorem k92_120 : en_d 92 120 .iadd 1 121 := ⟨by decide +kernel, rfl⟩
theorem k92_121 : en_j 92 121 (.if_icmp .ge) 124 187 := ⟨66, by decide +kernel, by decide, rfl⟩
theorem k92_124 : en_d 92 124 (.iload_n 3) 1 125 := ⟨by decide +kernel, rfl⟩
theorem k92_125 : en_j 92 125 (.ifCond .eq) 128 179 := ⟨54, by decide +kernel, by decide, rfl⟩
theorem k92_128 : en_d 92 128 (.iload 4) 2 130 := ⟨by decide +kernel, rfl⟩
theorem k92_130 : en_d 92 130 (.aload_n 0) 1 131 := ⟨by decide +kernel, rfl⟩
theorem k92_131 : en_df 92 131 10 18 false true 134 := ⟨62, by decide +kernel, by decide +kernel, by decide +kernel, rfl⟩
theorem k92_134 : en_d 92 134 (.iload 5) 2 136 := ⟨by decide +kernel, rfl⟩
theorem k92_136 : en_d 92 136 .iaload 1 137 := ⟨by decide +kernel, rfl⟩
theorem k92_137 : en_j 92 137 (.if_icmp .lt) 140 175 := ⟨38, by decide +kernel, by decide, rfl⟩
theorem k92_140 : en_d 92 140 (.iload 4) 2 142 := ⟨by decide +kernel, rfl⟩
theorem k92_142 : en_d 92 142 (.aload_n 0) 1 143 := ⟨by decide +kernel, rfl⟩
theorem k92_143 : en_df 92 143 10 19 false true 146 := ⟨65, by decide +kernel, by decide +kernel, by decide +kernel, rfl⟩
theorem k92_146 : en_d 92 146 (.iload 5) 2 148 := ⟨by decide +kernel, rfl⟩
theorem k92_148 : en_d 92 148 .iaload 1 149 := ⟨by decide +kernel, rfl⟩
theorem k92_149 : en_j 92 149 (.if_icmp .gt) 152 175 := ⟨26, by decide +kernel, by decide, rfl⟩
theorem k92_152 : en_d 92 152 (.aload_n 0) 1 153 := ⟨by decide +kernel, rfl⟩
theorem k92_153 : en_df 92 153 10 20 false true 156 := ⟨68, by decide +kernel, by decide +kernel, by decide +kernel, rfl⟩
theorem k92_156 : en_d 92 156 (.bipush 16) 2 158 := ⟨by decide +kernel, rfl⟩
theorem k92_158 : en_d 92 158 (.iload 5) 2 160 := ⟨by decide +kernel, rfl⟩
theorem k92_160 : en_d 92 160 .imul 1 161 := ⟨by decide +kernel, rfl⟩
theorem k92_161 : en_d 92 161 (.iload 4) 2 163 := ⟨by decide +kernel, rfl⟩
theorem k92_163 : en_d 92 163 .iadd 1 164 := ⟨by decide +kernel, rfl⟩
theorem k92_164 : en_d 92 164 .iaload 1 165 := ⟨by decide +kernel, rfl⟩
theorem k92_165 : en_d 92 165 (.aload_n 0) 1 166 := ⟨by decide +kernel, rfl⟩
theorem k92_166 : en_df 92 166 10 41 false true 169 := ⟨117, by decide +kernel, by decide +kernel, by decide +kernel, rfl⟩
theorem k92_169 : en_d 92 169 (.iload 4) 2 171 := ⟨by decide +kernel, rfl⟩
theorem k92_171 : en_d 92 171 .iaload 1 172 := ⟨by decide +kernel, rfl⟩
theorem k92_172 : en_j 92 172 (.if_icmp .ne) 175 179 := ⟨7, by decide +kernel, by decide, rfl⟩
theorem k92_175 : en_d 92 175 (.iconst 1) 1 176 := ⟨by decide +kernel, rfl⟩
theorem k92_176 : en_j 92 176 .goto 179 180 := ⟨4, by decide +kernel, by decide, rfl⟩
theorem k92_179 : en_d 92 179 (.iconst 0) 1 180 := ⟨by decide +kernel, rfl⟩
theorem k92_180 : en_d 92 180 (.istore_n 3) 1 181 := ⟨by decide +kernel, rfl⟩
theorem k92_181 : en_d 92 181 (.iinc 5 1) 3 184 := ⟨by decide +kernel, rfl⟩
theorem k92_184 : en_j 92 184 .goto 187 109 := ⟨(-75), by decide +kernel, by decide, rfl⟩
theorem k92_187 : en_d 92 187 (.iinc 4 1) 3 190 := ⟨by decide +kernel, rfl⟩
theorem k92_190 : en_j 92 190 .goto 193 50 := ⟨(-140), by decide +kernel, by decide, rfl⟩
theorem k92_193 : en_d 92 193 (.iload_n 2) 1 194 := ⟨by decide +kernel, rfl⟩
theorem k92_194 : en_j 92 194 (.ifCond .ne) 197 201 := ⟨7, by decide +kernel, by decide, rfl⟩
theorem k92_197 : en_d 92 197 (.iconst 2) 1 198 := ⟨by decide +kernel, rfl⟩
theorem k92_198 : en_j 92 198 .goto 201 210 := ⟨12, by decide +kernel, by decide, rfl⟩
theorem k92_201 : en_d 92 201 (.iload_n 3) 1 202 := ⟨by decide +kernel, rfl⟩
theorem k92_202 : en_j 92 202 (.ifCond .ne) 205 209 := ⟨7, by decide +kernel, by decide, rfl⟩
theorem k92_205 : en_d 92 205 (.iconst 3) 1 206 := ⟨by decide +kernel, rfl⟩
theorem k92_206 : en_j 92 206 .goto 209 210 := ⟨4, by decide +kernel, by decide, rfl⟩
theorem k92_209 : en_d 92 209 (.iconst 0) 1 210 := ⟨by decide +kernel, rfl⟩
theorem k92_210 : en_d 92 210 .ireturn 1 211 := ⟨by decide +kernel, rfl⟩
/-! 93: EndorsedLedgerModel.pop()I -/
theorem k93_0 : en_d 93 0 (.aload_n 0) 1 1 := ⟨by decide +kernel, rfl⟩
theorem k93_1 : en_df 93 1 10 22 false false 4 := ⟨144, by decide +kernel, by decide +kernel, by decide +kernel, rfl⟩
theorem k93_4 : en_j 93 4 (.ifCond .ne) 7 14 := ⟨10, by decide +kernel, by decide, rfl⟩
theorem k93_7 : en_d 93 7 (.aload_n 0) 1 8 := ⟨by decide +kernel, rfl⟩
theorem k93_8 : en_d 93 8 (.iconst 1) 1 9 := ⟨by decide +kernel, rfl⟩
theorem k93_9 : en_dp 93 9 10 23 false .boolean 12 := ⟨147, by decide +kernel, by decide +kernel, by decide +kernel, rfl⟩
theorem k93_12 : en_d 93 12 (.iconst 0) 1 13 := ⟨by decide +kernel, rfl⟩
theorem k93_13 : en_d 93 13 .ireturn 1 14 := ⟨by decide +kernel, rfl⟩
theorem k93_14 : en_d 93 14 (.aload_n 0) 1 15 := ⟨by decide +kernel, rfl⟩
theorem k93_15 : en_d 93 15 .dup 1 16 := ⟨by decide +kernel, rfl⟩
theorem k93_16 : en_df 93 16 10 22 false false 19 := ⟨144, by decide +kernel, by decide +kernel, by decide +kernel, rfl⟩
theorem k93_19 : en_d 93 19 (.iconst 1) 1 20 := ⟨by decide +kernel, rfl⟩
theorem k93_20 : en_d 93 20 .isub 1 21 := ⟨by decide +kernel, rfl⟩
theorem k93_21 : en_dp 93 21 10 22 false .int 24 := ⟨144, by decide +kernel, by decide +kernel, by decide +kernel, rfl⟩
theorem k93_24 : en_d 93 24 (.aload_n 0) 1 25 := ⟨by decide +kernel, rfl⟩
theorem k93_25 : en_df 93 25 10 21 false true 28 := ⟨71, by decide +kernel, by decide +kernel, by decide +kernel, rfl⟩
theorem k93_28 : en_d 93 28 (.aload_n 0) 1 29 := ⟨by decide +kernel, rfl⟩
theorem k93_29 : en_df 93 29 10 22 false false 32 := ⟨144, by decide +kernel, by decide +kernel, by decide +kernel, rfl⟩
theorem k93_32 : en_d 93 32 .iaload 1 33 := ⟨by decide +kernel, rfl⟩
theorem k93_33 : en_d 93 33 .ireturn 1 34 := ⟨by decide +kernel, rfl⟩
/-! 94: EndorsedLedgerModel.push(I)V -/
theorem k94_0 : en_d 94 0 (.aload_n 0) 1 1 := ⟨by decide +kernel, rfl⟩
theorem k94_1 : en_df 94 1 10 22 false false 4 := ⟨144, by decide +kernel, by decide +kernel, by decide +kernel, rfl⟩
theorem k94_4 : en_d 94 4 (.bipush 8) 2 6 := ⟨by decide +kernel, rfl⟩
theorem k94_6 : en_j 94 6 (.if_icmp .ne) 9 15 := ⟨9, by decide +kernel, by decide, rfl⟩
theorem k94_9 : en_d 94 9 (.aload_n 0) 1 10 := ⟨by decide +kernel, rfl⟩
theorem k94_10 : en_d 94 10 (.iconst 1) 1 11 := ⟨by decide +kernel, rfl⟩
theorem k94_11 : en_dp 94 11 10 23 false .boolean 14 := ⟨147, by decide +kernel, by decide +kernel, by decide +kernel, rfl⟩
theorem k94_14 : en_d 94 14 .return_ 1 15 := ⟨by decide +kernel, rfl⟩
theorem k94_15 : en_d 94 15 (.aload_n 0) 1 16 := ⟨by decide +kernel, rfl⟩
theorem k94_16 : en_df 94 16 10 21 false true 19 := ⟨71, by decide +kernel, by decide +kernel, by decide +kernel, rfl⟩
theorem k94_19 : en_d 94 19 (.aload_n 0) 1 20 := ⟨by decide +kernel, rfl⟩
theorem k94_20 : en_df 94 20 10 22 false false 23 := ⟨144, by decide +kernel, by decide +kernel, by decide +kernel, rfl⟩
theorem k94_23 : en_d 94 23 (.iload_n 1) 1 24 := ⟨by decide +kernel, rfl⟩
theorem k94_24 : en_d 94 24 .iastore 1 25 := ⟨by decide +kernel, rfl⟩
theorem k94_25 : en_d 94 25 (.aload_n 0) 1 26 := ⟨by decide +kernel, rfl⟩
theorem k94_26 : en_d 94 26 .dup 1 27 := ⟨by decide +kernel, rfl⟩
theorem k94_27 : en_df 94 27 10 22 false false 30 := ⟨144, by decide +kernel, by decide +kernel, by decide +kernel, rfl⟩
theorem k94_30 : en_d 94 30 (.iconst 1) 1 31 := ⟨by decide +kernel, rfl⟩
theorem k94_31 : en_d 94 31 .iadd 1 32 := ⟨by decide +kernel, rfl⟩
theorem k94_32 : en_dp 94 32 10 22 false .int 35 := ⟨144, by decide +kernel, by decide +kernel, by decide +kernel, rfl⟩
theorem k94_35 : en_d 94 35 .return_ 1 36 := ⟨by decide +kernel, rfl⟩
/-! 95: EndorsedLedgerModel.run(II)V -/
theorem k95_0 : en_d 95 0 (.iconst 0) 1 1 := ⟨by decide +kernel, rfl⟩
theorem k95_1 : en_d 95 1 (.istore_n 3) 1 2 := ⟨by decide +kernel, rfl⟩
theorem k95_2 : en_d 95 2 (.iload_n 3) 1 3 := ⟨by decide +kernel, rfl⟩
theorem k95_3 : en_d 95 3 (.bipush 16) 2 5 := ⟨by decide +kernel, rfl⟩
theorem k95_5 : en_j 95 5 (.if_icmp .ge) 8 47 := ⟨42, by decide +kernel, by decide, rfl⟩
theorem k95_8 : en_d 95 8 (.aload_n 0) 1 9 := ⟨by decide +kernel, rfl⟩
theorem k95_9 : en_df 95 9 10 14 false true 12 := ⟨50, by decide +kernel, by decide +kernel, by decide +kernel, rfl⟩
theorem k95_12 : en_d 95 12 (.sipush 960) 3 15 := ⟨by decide +kernel, rfl⟩
theorem k95_15 : en_d 95 15 (.iload_n 3) 1 16 := ⟨by decide +kernel, rfl⟩
theorem k95_16 : en_d 95 16 .iadd 1 17 := ⟨by decide +kernel, rfl⟩
theorem k95_17 : en_d 95 17 (.iconst (-1)) 1 18 := ⟨by decide +kernel, rfl⟩
theorem k95_18 : en_d 95 18 .iastore 1 19 := ⟨by decide +kernel, rfl⟩
theorem k95_19 : en_d 95 19 (.aload_n 0) 1 20 := ⟨by decide +kernel, rfl⟩
theorem k95_20 : en_df 95 20 10 15 false true 23 := ⟨53, by decide +kernel, by decide +kernel, by decide +kernel, rfl⟩
theorem k95_23 : en_d 95 23 (.sipush 960) 3 26 := ⟨by decide +kernel, rfl⟩
theorem k95_26 : en_d 95 26 (.iload_n 3) 1 27 := ⟨by decide +kernel, rfl⟩
theorem k95_27 : en_d 95 27 .iadd 1 28 := ⟨by decide +kernel, rfl⟩
theorem k95_28 : en_d 95 28 (.iconst 0) 1 29 := ⟨by decide +kernel, rfl⟩
theorem k95_29 : en_d 95 29 .iastore 1 30 := ⟨by decide +kernel, rfl⟩
theorem k95_30 : en_d 95 30 (.aload_n 0) 1 31 := ⟨by decide +kernel, rfl⟩
theorem k95_31 : en_df 95 31 10 16 false true 34 := ⟨56, by decide +kernel, by decide +kernel, by decide +kernel, rfl⟩
theorem k95_34 : en_d 95 34 (.sipush 960) 3 37 := ⟨by decide +kernel, rfl⟩
theorem k95_37 : en_d 95 37 (.iload_n 3) 1 38 := ⟨by decide +kernel, rfl⟩
theorem k95_38 : en_d 95 38 .iadd 1 39 := ⟨by decide +kernel, rfl⟩
theorem k95_39 : en_d 95 39 (.iconst 0) 1 40 := ⟨by decide +kernel, rfl⟩
theorem k95_40 : en_d 95 40 .iastore 1 41 := ⟨by decide +kernel, rfl⟩
theorem k95_41 : en_d 95 41 (.iinc 3 1) 3 44 := ⟨by decide +kernel, rfl⟩
theorem k95_44 : en_j 95 44 .goto 47 2 := ⟨(-42), by decide +kernel, by decide, rfl⟩
theorem k95_47 : en_d 95 47 (.aload_n 0) 1 48 := ⟨by decide +kernel, rfl⟩
theorem k95_48 : en_df 95 48 10 17 false true 51 := ⟨59, by decide +kernel, by decide +kernel, by decide +kernel, rfl⟩
theorem k95_51 : en_d 95 51 (.bipush 60) 2 53 := ⟨by decide +kernel, rfl⟩
theorem k95_53 : en_d 95 53 (.iconst 0) 1 54 := ⟨by decide +kernel, rfl⟩
theorem k95_54 : en_d 95 54 .iastore 1 55 := ⟨by decide +kernel, rfl⟩
theorem k95_55 : en_d 95 55 (.aload_n 0) 1 56 := ⟨by decide +kernel, rfl⟩
theorem k95_56 : en_d 95 56 (.iconst 0) 1 57 := ⟨by decide +kernel, rfl⟩
theorem k95_57 : en_dp 95 57 10 22 false .int 60 := ⟨144, by decide +kernel, by decide +kernel, by decide +kernel, rfl⟩
theorem k95_60 : en_d 95 60 (.aload_n 0) 1 61 := ⟨by decide +kernel, rfl⟩
theorem k95_61 : en_d 95 61 (.iconst 0) 1 62 := ⟨by decide +kernel, rfl⟩
theorem k95_62 : en_dp 95 62 10 23 false .boolean 65 := ⟨147, by decide +kernel, by decide +kernel, by decide +kernel, rfl⟩
theorem k95_65 : en_d 95 65 (.iconst 0) 1 66 := ⟨by decide +kernel, rfl⟩
theorem k95_66 : en_d 95 66 (.istore_n 3) 1 67 := ⟨by decide +kernel, rfl⟩
theorem k95_67 : en_d 95 67 (.iload_n 3) 1 68 := ⟨by decide +kernel, rfl⟩
theorem k95_68 : en_d 95 68 (.aload_n 0) 1 69 := ⟨by decide +kernel, rfl⟩
theorem k95_69 : en_df 95 69 10 0 false true 72 := ⟨7, by decide +kernel, by decide +kernel, by decide +kernel, rfl⟩
theorem k95_72 : en_d 95 72 (.iload_n 1) 1 73 := ⟨by decide +kernel, rfl⟩
theorem k95_73 : en_d 95 73 .iaload 1 74 := ⟨by decide +kernel, rfl⟩
theorem k95_74 : en_j 95 74 (.if_icmp .ge) 77 179 := ⟨105, by decide +kernel, by decide, rfl⟩
theorem k95_77 : en_d 95 77 (.aload_n 0) 1 78 := ⟨by decide +kernel, rfl⟩
theorem k95_78 : en_df 95 78 10 23 false false 81 := ⟨147, by decide +kernel, by decide +kernel, by decide +kernel, rfl⟩
theorem k95_81 : en_j 95 81 (.ifCond .ne) 84 179 := ⟨98, by decide +kernel, by decide, rfl⟩
theorem k95_84 : en_d 95 84 (.aload_n 0) 1 85 := ⟨by decide +kernel, rfl⟩
theorem k95_85 : en_df 95 85 10 1 false true 88 := ⟨13, by decide +kernel, by decide +kernel, by decide +kernel, rfl⟩
theorem k95_88 : en_d 95 88 (.bipush 12) 2 90 := ⟨by decide +kernel, rfl⟩
theorem k95_90 : en_d 95 90 (.iload_n 1) 1 91 := ⟨by decide +kernel, rfl⟩
theorem k95_91 : en_d 95 91 .imul 1 92 := ⟨by decide +kernel, rfl⟩
theorem k95_92 : en_d 95 92 (.iload_n 3) 1 93 := ⟨by decide +kernel, rfl⟩
theorem k95_93 : en_d 95 93 .iadd 1 94 := ⟨by decide +kernel, rfl⟩
theorem k95_94 : en_d 95 94 .iaload 1 95 := ⟨by decide +kernel, rfl⟩
theorem k95_95 : en_d 95 95 (.istore 4) 2 97 := ⟨by decide +kernel, rfl⟩
theorem k95_97 : en_d 95 97 (.aload_n 0) 1 98 := ⟨by decide +kernel, rfl⟩
theorem k95_98 : en_df 95 98 10 2 false true 101 := ⟨16, by decide +kernel, by decide +kernel, by decide +kernel, rfl⟩
theorem k95_101 : en_d 95 101 (.bipush 12) 2 103 := ⟨by decide +kernel, rfl⟩
theorem k95_103 : en_d 95 103 (.iload_n 1) 1 104 := ⟨by decide +kernel, rfl⟩
theorem k95_104 : en_d 95 104 .imul 1 105 := ⟨by decide +kernel, rfl⟩
theorem k95_105 : en_d 95 105 (.iload_n 3) 1 106 := ⟨by decide +kernel, rfl⟩
theorem k95_106 : en_d 95 106 .iadd 1 107 := ⟨by decide +kernel, rfl⟩
theorem k95_107 : en_d 95 107 .iaload 1 108 := ⟨by decide +kernel, rfl⟩
theorem k95_108 : en_d 95 108 (.istore 5) 2 110 := ⟨by decide +kernel, rfl⟩
theorem k95_110 : en_d 95 110 (.iinc 3 1) 3 113 := ⟨by decide +kernel, rfl⟩
theorem k95_113 : en_d 95 113 (.iload 4) 2 115 := ⟨by decide +kernel, rfl⟩
theorem k95_115 : en_d 95 115 (.bipush 6) 2 117 := ⟨by decide +kernel, rfl⟩
theorem k95_117 : en_j 95 117 (.if_icmp .ge) 120 140 := ⟨23, by decide +kernel, by decide, rfl⟩
theorem k95_120 : en_d 95 120 (.aload_n 0) 1 121 := ⟨by decide +kernel, rfl⟩
theorem k95_121 : en_d 95 121 (.iload 4) 2 123 := ⟨by decide +kernel, rfl⟩
theorem k95_123 : en_d 95 123 (.iload 4) 2 125 := ⟨by decide +kernel, rfl⟩
theorem k95_125 : en_j 95 125 (.ifCond .ne) 128 133 := ⟨8, by decide +kernel, by decide, rfl⟩
theorem k95_128 : en_d 95 128 (.iload 5) 2 130 := ⟨by decide +kernel, rfl⟩
theorem k95_130 : en_j 95 130 .goto 133 134 := ⟨4, by decide +kernel, by decide, rfl⟩
theorem k95_133 : en_d 95 133 (.iload_n 2) 1 134 := ⟨by decide +kernel, rfl⟩
theorem k95_134 : en_dv 95 134 96 false 137 := ⟨151, by decide +kernel, by decide +kernel, rfl, by decide +kernel, by decide +kernel⟩
theorem k95_137 : en_j 95 137 .goto 140 176 := ⟨39, by decide +kernel, by decide, rfl⟩
theorem k95_140 : en_d 95 140 (.iload 4) 2 142 := ⟨by decide +kernel, rfl⟩
theorem k95_142 : en_d 95 142 (.bipush 6) 2 144 := ⟨by decide +kernel, rfl⟩
theorem k95_144 : en_j 95 144 (.if_icmp .ne) 147 170 := ⟨26, by decide +kernel, by decide, rfl⟩
theorem k95_147 : en_d 95 147 (.aload_n 0) 1 148 := ⟨by decide +kernel, rfl⟩
theorem k95_148 : en_dv 95 148 93 false 151 := ⟨155, by decide +kernel, by decide +kernel, rfl, by decide +kernel, by decide +kernel⟩
theorem k95_151 : en_d 95 151 (.istore 6) 2 153 := ⟨by decide +kernel, rfl⟩
theorem k95_153 : en_d 95 153 (.iload 6) 2 155 := ⟨by decide +kernel, rfl⟩
theorem k95_155 : en_j 95 155 (.ifCond .ne) 158 165 := ⟨10, by decide +kernel, by decide, rfl⟩
theorem k95_158 : en_d 95 158 (.iload_n 3) 1 159 := ⟨by decide +kernel, rfl⟩
theorem k95_159 : en_d 95 159 (.iload 5) 2 161 := ⟨by decide +kernel, rfl⟩
theorem k95_161 : en_d 95 161 .iadd 1 162 := ⟨by decide +kernel, rfl⟩
theorem k95_162 : en_j 95 162 .goto 165 166 := ⟨4, by decide +kernel, by decide, rfl⟩
theorem k95_165 : en_d 95 165 (.iload_n 3) 1 166 := ⟨by decide +kernel, rfl⟩
theorem k95_166 : en_d 95 166 (.istore_n 3) 1 167 := ⟨by decide +kernel, rfl⟩
theorem k95_167 : en_j 95 167 .goto 170 176 := ⟨9, by decide +kernel, by decide, rfl⟩
theorem k95_170 : en_d 95 170 (.aload_n 0) 1 171 := ⟨by decide +kernel, rfl⟩
theorem k95_171 : en_d 95 171 (.iload 4) 2 173 := ⟨by decide +kernel, rfl⟩
theorem k95_173 : en_dv 95 173 97 false 176 := ⟨159, by decide +kernel, by decide +kernel, rfl, by decide +kernel, by decide +kernel⟩
theorem k95_176 : en_j 95 176 .goto 179 67 := ⟨(-109), by decide +kernel, by decide, rfl⟩
theorem k95_179 : en_d 95 179 .return_ 1 180 := ⟨by decide +kernel, rfl⟩
/-! 96: EndorsedLedgerModel.reckon(II)V -/
theorem k96_0 : en_d 96 0 (.iload_n 1) 1 1 := ⟨by decide +kernel, rfl⟩
theorem k96_1 : en_d 96 1 (.iconst 2) 1 2 := ⟨by decide +kernel, rfl⟩
theorem k96_2 : en_j 96 2 (.if_icmp .ge) 5 11 := ⟨9, by decide +kernel, by decide, rfl⟩
theorem k96_5 : en_d 96 5 (.aload_n 0) 1 6 := ⟨by decide +kernel, rfl⟩
theorem k96_6 : en_d 96 6 (.iload_n 2) 1 7 := ⟨by decide +kernel, rfl⟩
theorem k96_7 : en_dv 96 7 94 false 10 := ⟨163, by decide +kernel, by decide +kernel, rfl, by decide +kernel, by decide +kernel⟩
theorem k96_10 : en_d 96 10 .return_ 1 11 := ⟨by decide +kernel, rfl⟩
theorem k96_11 : en_d 96 11 (.aload_n 0) 1 12 := ⟨by decide +kernel, rfl⟩
theorem k96_12 : en_dv 96 12 93 false 15 := ⟨155, by decide +kernel, by decide +kernel, rfl, by decide +kernel, by decide +kernel⟩
theorem k96_15 : en_d 96 15 (.istore_n 3) 1 16 := ⟨by decide +kernel, rfl⟩
theorem k96_16 : en_d 96 16 (.iload_n 1) 1 17 := ⟨by decide +kernel, rfl⟩
theorem k96_17 : en_d 96 17 (.iconst 5) 1 18 := ⟨by decide +kernel, rfl⟩
theorem k96_18 : en_j 96 18 (.if_icmp .ne) 21 25 := ⟨7, by decide +kernel, by decide, rfl⟩
theorem k96_21 : en_d 96 21 (.iload_n 3) 1 22 := ⟨by decide +kernel, rfl⟩
theorem k96_22 : en_j 96 22 .goto 25 29 := ⟨7, by decide +kernel, by decide, rfl⟩
theorem k96_25 : en_d 96 25 (.aload_n 0) 1 26 := ⟨by decide +kernel, rfl⟩
theorem k96_26 : en_dv 96 26 93 false 29 := ⟨155, by decide +kernel, by decide +kernel, rfl, by decide +kernel, by decide +kernel⟩
theorem k96_29 : en_d 96 29 (.istore 4) 2 31 := ⟨by decide +kernel, rfl⟩
theorem k96_31 : en_d 96 31 (.aload_n 0) 1 32 := ⟨by decide +kernel, rfl⟩
theorem k96_32 : en_df 96 32 10 23 false false 35 := ⟨147, by decide +kernel, by decide +kernel, by decide +kernel, rfl⟩
theorem k96_35 : en_j 96 35 (.ifCond .eq) 38 39 := ⟨4, by decide +kernel, by decide, rfl⟩
theorem k96_38 : en_d 96 38 .return_ 1 39 := ⟨by decide +kernel, rfl⟩
theorem k96_39 : en_d 96 39 (.aload_n 0) 1 40 := ⟨by decide +kernel, rfl⟩
theorem k96_40 : en_d 96 40 (.iload_n 1) 1 41 := ⟨by decide +kernel, rfl⟩
theorem k96_41 : en_d 96 41 (.iconst 2) 1 42 := ⟨by decide +kernel, rfl⟩
theorem k96_42 : en_j 96 42 (.if_icmp .ne) 45 52 := ⟨10, by decide +kernel, by decide, rfl⟩
theorem k96_45 : en_d 96 45 (.iload 4) 2 47 := ⟨by decide +kernel, rfl⟩
theorem k96_47 : en_d 96 47 (.iload_n 3) 1 48 := ⟨by decide +kernel, rfl⟩
theorem k96_48 : en_d 96 48 .iadd 1 49 := ⟨by decide +kernel, rfl⟩
theorem k96_49 : en_j 96 49 .goto 52 85 := ⟨36, by decide +kernel, by decide, rfl⟩
theorem k96_52 : en_d 96 52 (.iload_n 1) 1 53 := ⟨by decide +kernel, rfl⟩
theorem k96_53 : en_d 96 53 (.iconst 3) 1 54 := ⟨by decide +kernel, rfl⟩
theorem k96_54 : en_j 96 54 (.if_icmp .ne) 57 64 := ⟨10, by decide +kernel, by decide, rfl⟩
theorem k96_57 : en_d 96 57 (.iload 4) 2 59 := ⟨by decide +kernel, rfl⟩
theorem k96_59 : en_d 96 59 (.iload_n 3) 1 60 := ⟨by decide +kernel, rfl⟩
theorem k96_60 : en_d 96 60 .isub 1 61 := ⟨by decide +kernel, rfl⟩
theorem k96_61 : en_j 96 61 .goto 64 85 := ⟨24, by decide +kernel, by decide, rfl⟩
theorem k96_64 : en_d 96 64 (.iload_n 1) 1 65 := ⟨by decide +kernel, rfl⟩
theorem k96_65 : en_d 96 65 (.iconst 4) 1 66 := ⟨by decide +kernel, rfl⟩
theorem k96_66 : en_j 96 66 (.if_icmp .ne) 69 83 := ⟨17, by decide +kernel, by decide, rfl⟩
theorem k96_69 : en_d 96 69 (.iload 4) 2 71 := ⟨by decide +kernel, rfl⟩
theorem k96_71 : en_d 96 71 (.iload_n 3) 1 72 := ⟨by decide +kernel, rfl⟩
theorem k96_72 : en_j 96 72 (.if_icmp .ge) 75 79 := ⟨7, by decide +kernel, by decide, rfl⟩
theorem k96_75 : en_d 96 75 (.iconst 1) 1 76 := ⟨by decide +kernel, rfl⟩
theorem k96_76 : en_j 96 76 .goto 79 85 := ⟨9, by decide +kernel, by decide, rfl⟩
theorem k96_79 : en_d 96 79 (.iconst 0) 1 80 := ⟨by decide +kernel, rfl⟩
theorem k96_80 : en_j 96 80 .goto 83 85 := ⟨5, by decide +kernel, by decide, rfl⟩
theorem k96_83 : en_d 96 83 (.iload 4) 2 85 := ⟨by decide +kernel, rfl⟩
theorem k96_85 : en_dv 96 85 94 false 88 := ⟨163, by decide +kernel, by decide +kernel, rfl, by decide +kernel, by decide +kernel⟩
theorem k96_88 : en_d 96 88 (.iload_n 1) 1 89 := ⟨by decide +kernel, rfl⟩
theorem k96_89 : en_d 96 89 (.iconst 5) 1 90 := ⟨by decide +kernel, rfl⟩
theorem k96_90 : en_j 96 90 (.if_icmp .ne) 93 99 := ⟨9, by decide +kernel, by decide, rfl⟩
theorem k96_93 : en_d 96 93 (.aload_n 0) 1 94 := ⟨by decide +kernel, rfl⟩
theorem k96_94 : en_d 96 94 (.iload 4) 2 96 := ⟨by decide +kernel, rfl⟩
theorem k96_96 : en_dv 96 96 94 false 99 := ⟨163, by decide +kernel, by decide +kernel, rfl, by decide +kernel, by decide +kernel⟩
theorem k96_99 : en_d 96 99 .return_ 1 100 := ⟨by decide +kernel, rfl⟩
/-! 97: EndorsedLedgerModel.touch(I)V -/
theorem k97_0 : en_d 97 0 (.aload_n 0) 1 1 := ⟨by decide +kernel, rfl⟩
theorem k97_1 : en_dv 97 1 93 false 4 := ⟨155, by decide +kernel, by decide +kernel, rfl, by decide +kernel, by decide +kernel⟩
theorem k97_4 : en_d 97 4 (.istore_n 2) 1 5 := ⟨by decide +kernel, rfl⟩
theorem k97_5 : en_d 97 5 (.iload_n 1) 1 6 := ⟨by decide +kernel, rfl⟩
theorem k97_6 : en_d 97 6 (.bipush 8) 2 8 := ⟨by decide +kernel, rfl⟩
theorem k97_8 : en_j 97 8 (.if_icmp .eq) 11 17 := ⟨9, by decide +kernel, by decide, rfl⟩
theorem k97_11 : en_d 97 11 (.iload_n 1) 1 12 := ⟨by decide +kernel, rfl⟩
theorem k97_12 : en_d 97 12 (.bipush 10) 2 14 := ⟨by decide +kernel, rfl⟩
theorem k97_14 : en_j 97 14 (.if_icmp .ne) 17 24 := ⟨10, by decide +kernel, by decide, rfl⟩
theorem k97_17 : en_d 97 17 (.aload_n 0) 1 18 := ⟨by decide +kernel, rfl⟩
theorem k97_18 : en_dv 97 18 93 false 21 := ⟨155, by decide +kernel, by decide +kernel, rfl, by decide +kernel, by decide +kernel⟩
theorem k97_21 : en_j 97 21 .goto 24 25 := ⟨4, by decide +kernel, by decide, rfl⟩
theorem k97_24 : en_d 97 24 (.iload_n 2) 1 25 := ⟨by decide +kernel, rfl⟩
theorem k97_25 : en_d 97 25 (.istore_n 3) 1 26 := ⟨by decide +kernel, rfl⟩
theorem k97_26 : en_d 97 26 (.aload_n 0) 1 27 := ⟨by decide +kernel, rfl⟩
theorem k97_27 : en_df 97 27 10 23 false false 30 := ⟨147, by decide +kernel, by decide +kernel, by decide +kernel, rfl⟩
theorem k97_30 : en_j 97 30 (.ifCond .eq) 33 34 := ⟨4, by decide +kernel, by decide, rfl⟩
theorem k97_33 : en_d 97 33 .return_ 1 34 := ⟨by decide +kernel, rfl⟩
theorem k97_34 : en_d 97 34 (.iload_n 3) 1 35 := ⟨by decide +kernel, rfl⟩
theorem k97_35 : en_d 97 35 (.bipush 15) 2 37 := ⟨by decide +kernel, rfl⟩
theorem k97_37 : en_d 97 37 .iand 1 38 := ⟨by decide +kernel, rfl⟩
theorem k97_38 : en_d 97 38 (.istore 4) 2 40 := ⟨by decide +kernel, rfl⟩
theorem k97_40 : en_d 97 40 (.iload_n 1) 1 41 := ⟨by decide +kernel, rfl⟩
theorem k97_41 : en_d 97 41 (.bipush 7) 2 43 := ⟨by decide +kernel, rfl⟩
theorem k97_43 : en_j 97 43 (.if_icmp .ne) 46 78 := ⟨35, by decide +kernel, by decide, rfl⟩
theorem k97_46 : en_d 97 46 (.aload_n 0) 1 47 := ⟨by decide +kernel, rfl⟩
theorem k97_47 : en_df 97 47 10 14 false true 50 := ⟨50, by decide +kernel, by decide +kernel, by decide +kernel, rfl⟩
theorem k97_50 : en_d 97 50 (.sipush 960) 3 53 := ⟨by decide +kernel, rfl⟩
theorem k97_53 : en_d 97 53 (.iload 4) 2 55 := ⟨by decide +kernel, rfl⟩
theorem k97_55 : en_d 97 55 .iadd 1 56 := ⟨by decide +kernel, rfl⟩
theorem k97_56 : en_d 97 56 (.aload_n 0) 1 57 := ⟨by decide +kernel, rfl⟩
theorem k97_57 : en_df 97 57 10 41 false true 60 := ⟨117, by decide +kernel, by decide +kernel, by decide +kernel, rfl⟩
theorem k97_60 : en_d 97 60 (.iload 4) 2 62 := ⟨by decide +kernel, rfl⟩
theorem k97_62 : en_d 97 62 .iaload 1 63 := ⟨by decide +kernel, rfl⟩
theorem k97_63 : en_d 97 63 .iastore 1 64 := ⟨by decide +kernel, rfl⟩
theorem k97_64 : en_d 97 64 (.aload_n 0) 1 65 := ⟨by decide +kernel, rfl⟩
theorem k97_65 : en_d 97 65 (.aload_n 0) 1 66 := ⟨by decide +kernel, rfl⟩
theorem k97_66 : en_df 97 66 10 40 false true 69 := ⟨114, by decide +kernel, by decide +kernel, by decide +kernel, rfl⟩
theorem k97_69 : en_d 97 69 (.iload 4) 2 71 := ⟨by decide +kernel, rfl⟩
theorem k97_71 : en_d 97 71 .iaload 1 72 := ⟨by decide +kernel, rfl⟩
theorem k97_72 : en_dv 97 72 94 false 75 := ⟨163, by decide +kernel, by decide +kernel, rfl, by decide +kernel, by decide +kernel⟩
theorem k97_75 : en_j 97 75 .goto 78 141 := ⟨66, by decide +kernel, by decide, rfl⟩
theorem k97_78 : en_d 97 78 (.iload_n 1) 1 79 := ⟨by decide +kernel, rfl⟩
theorem k97_79 : en_d 97 79 (.bipush 10) 2 81 := ⟨by decide +kernel, rfl⟩
theorem k97_81 : en_j 97 81 (.if_icmp .ne) 84 97 := ⟨16, by decide +kernel, by decide, rfl⟩
theorem k97_84 : en_d 97 84 (.aload_n 0) 1 85 := ⟨by decide +kernel, rfl⟩
theorem k97_85 : en_d 97 85 (.iload 4) 2 87 := ⟨by decide +kernel, rfl⟩
theorem k97_87 : en_d 97 87 (.iload_n 2) 1 88 := ⟨by decide +kernel, rfl⟩
theorem k97_88 : en_d 97 88 (.bipush 15) 2 90 := ⟨by decide +kernel, rfl⟩
theorem k97_90 : en_d 97 90 .iand 1 91 := ⟨by decide +kernel, rfl⟩
theorem k97_91 : en_dv 97 91 98 false 94 := ⟨166, by decide +kernel, by decide +kernel, rfl, by decide +kernel, by decide +kernel⟩
theorem k97_94 : en_j 97 94 .goto 97 141 := ⟨47, by decide +kernel, by decide, rfl⟩
theorem k97_97 : en_d 97 97 (.aload_n 0) 1 98 := ⟨by decide +kernel, rfl⟩
theorem k97_98 : en_df 97 98 10 15 false true 101 := ⟨53, by decide +kernel, by decide +kernel, by decide +kernel, rfl⟩
theorem k97_101 : en_d 97 101 (.sipush 960) 3 104 := ⟨by decide +kernel, rfl⟩
theorem k97_104 : en_d 97 104 (.iload 4) 2 106 := ⟨by decide +kernel, rfl⟩
theorem k97_106 : en_d 97 106 .iadd 1 107 := ⟨by decide +kernel, rfl⟩
theorem k97_107 : en_d 97 107 (.iload_n 1) 1 108 := ⟨by decide +kernel, rfl⟩
theorem k97_108 : en_d 97 108 (.bipush 8) 2 110 := ⟨by decide +kernel, rfl⟩
theorem k97_110 : en_j 97 110 (.if_icmp .ne) 113 117 := ⟨7, by decide +kernel, by decide, rfl⟩
theorem k97_113 : en_d 97 113 (.iconst 1) 1 114 := ⟨by decide +kernel, rfl⟩
theorem k97_114 : en_j 97 114 .goto 117 118 := ⟨4, by decide +kernel, by decide, rfl⟩
theorem k97_117 : en_d 97 117 (.iconst 2) 1 118 := ⟨by decide +kernel, rfl⟩
theorem k97_118 : en_d 97 118 .iastore 1 119 := ⟨by decide +kernel, rfl⟩
theorem k97_119 : en_d 97 119 (.aload_n 0) 1 120 := ⟨by decide +kernel, rfl⟩
theorem k97_120 : en_df 97 120 10 16 false true 123 := ⟨56, by decide +kernel, by decide +kernel, by decide +kernel, rfl⟩
theorem k97_123 : en_d 97 123 (.sipush 960) 3 126 := ⟨by decide +kernel, rfl⟩
theorem k97_126 : en_d 97 126 (.iload 4) 2 128 := ⟨by decide +kernel, rfl⟩
theorem k97_128 : en_d 97 128 .iadd 1 129 := ⟨by decide +kernel, rfl⟩
theorem k97_129 : en_d 97 129 (.iload_n 1) 1 130 := ⟨by decide +kernel, rfl⟩
theorem k97_130 : en_d 97 130 (.bipush 8) 2 132 := ⟨by decide +kernel, rfl⟩
theorem k97_132 : en_j 97 132 (.if_icmp .ne) 135 139 := ⟨7, by decide +kernel, by decide, rfl⟩
theorem k97_135 : en_d 97 135 (.iload_n 2) 1 136 := ⟨by decide +kernel, rfl⟩
theorem k97_136 : en_j 97 136 .goto 139 140 := ⟨4, by decide +kernel, by decide, rfl⟩
theorem k97_139 : en_d 97 139 (.iconst 0) 1 140 := ⟨by decide +kernel, rfl⟩
theorem k97_140 : en_d 97 140 .iastore 1 141 := ⟨by decide +kernel, rfl⟩
theorem k97_141 : en_d 97 141 .return_ 1 142 := ⟨by decide +kernel, rfl⟩
/-! 98: EndorsedLedgerModel.range(II)V -/
theorem k98_0 : en_d 98 0 (.aload_n 0) 1 1 := ⟨by decide +kernel, rfl⟩
theorem k98_1 : en_df 98 1 10 17 false true 4 := ⟨59, by decide +kernel, by decide +kernel, by decide +kernel, rfl⟩
theorem k98_4 : en_d 98 4 (.bipush 60) 2 6 := ⟨by decide +kernel, rfl⟩
theorem k98_6 : en_d 98 6 .iaload 1 7 := ⟨by decide +kernel, rfl⟩
theorem k98_7 : en_d 98 7 (.iconst 2) 1 8 := ⟨by decide +kernel, rfl⟩
theorem k98_8 : en_j 98 8 (.if_icmp .ne) 11 17 := ⟨9, by decide +kernel, by decide, rfl⟩
theorem k98_11 : en_d 98 11 (.aload_n 0) 1 12 := ⟨by decide +kernel, rfl⟩
theorem k98_12 : en_d 98 12 (.iconst 1) 1 13 := ⟨by decide +kernel, rfl⟩
theorem k98_13 : en_dp 98 13 10 23 false .boolean 16 := ⟨147, by decide +kernel, by decide +kernel, by decide +kernel, rfl⟩
theorem k98_16 : en_d 98 16 .return_ 1 17 := ⟨by decide +kernel, rfl⟩
theorem k98_17 : en_d 98 17 (.bipush 120) 2 19 := ⟨by decide +kernel, rfl⟩
theorem k98_19 : en_d 98 19 (.aload_n 0) 1 20 := ⟨by decide +kernel, rfl⟩
theorem k98_20 : en_df 98 20 10 17 false true 23 := ⟨59, by decide +kernel, by decide +kernel, by decide +kernel, rfl⟩
theorem k98_23 : en_d 98 23 (.bipush 60) 2 25 := ⟨by decide +kernel, rfl⟩
theorem k98_25 : en_d 98 25 .iaload 1 26 := ⟨by decide +kernel, rfl⟩
theorem k98_26 : en_d 98 26 .iadd 1 27 := ⟨by decide +kernel, rfl⟩
theorem k98_27 : en_d 98 27 (.istore_n 3) 1 28 := ⟨by decide +kernel, rfl⟩
theorem k98_28 : en_d 98 28 (.aload_n 0) 1 29 := ⟨by decide +kernel, rfl⟩
theorem k98_29 : en_df 98 29 10 17 false true 32 := ⟨59, by decide +kernel, by decide +kernel, by decide +kernel, rfl⟩
theorem k98_32 : en_d 98 32 (.bipush 60) 2 34 := ⟨by decide +kernel, rfl⟩
theorem k98_34 : en_d 98 34 .dup2 1 35 := ⟨by decide +kernel, rfl⟩
theorem k98_35 : en_d 98 35 .iaload 1 36 := ⟨by decide +kernel, rfl⟩
theorem k98_36 : en_d 98 36 (.iconst 1) 1 37 := ⟨by decide +kernel, rfl⟩
theorem k98_37 : en_d 98 37 .iadd 1 38 := ⟨by decide +kernel, rfl⟩
theorem k98_38 : en_d 98 38 .iastore 1 39 := ⟨by decide +kernel, rfl⟩
theorem k98_39 : en_d 98 39 (.aload_n 0) 1 40 := ⟨by decide +kernel, rfl⟩
theorem k98_40 : en_df 98 40 10 18 false true 43 := ⟨62, by decide +kernel, by decide +kernel, by decide +kernel, rfl⟩
theorem k98_43 : en_d 98 43 (.iload_n 3) 1 44 := ⟨by decide +kernel, rfl⟩
theorem k98_44 : en_d 98 44 (.iload_n 1) 1 45 := ⟨by decide +kernel, rfl⟩
theorem k98_45 : en_d 98 45 (.iload_n 2) 1 46 := ⟨by decide +kernel, rfl⟩
theorem k98_46 : en_j 98 46 (.if_icmp .gt) 49 53 := ⟨7, by decide +kernel, by decide, rfl⟩
theorem k98_49 : en_d 98 49 (.iload_n 1) 1 50 := ⟨by decide +kernel, rfl⟩
theorem k98_50 : en_j 98 50 .goto 53 54 := ⟨4, by decide +kernel, by decide, rfl⟩
theorem k98_53 : en_d 98 53 (.iconst 1) 1 54 := ⟨by decide +kernel, rfl⟩
theorem k98_54 : en_d 98 54 .iastore 1 55 := ⟨by decide +kernel, rfl⟩
theorem k98_55 : en_d 98 55 (.aload_n 0) 1 56 := ⟨by decide +kernel, rfl⟩
theorem k98_56 : en_df 98 56 10 19 false true 59 := ⟨65, by decide +kernel, by decide +kernel, by decide +kernel, rfl⟩
theorem k98_59 : en_d 98 59 (.iload_n 3) 1 60 := ⟨by decide +kernel, rfl⟩
theorem k98_60 : en_d 98 60 (.iload_n 1) 1 61 := ⟨by decide +kernel, rfl⟩
theorem k98_61 : en_d 98 61 (.iload_n 2) 1 62 := ⟨by decide +kernel, rfl⟩
theorem k98_62 : en_j 98 62 (.if_icmp .gt) 65 69 := ⟨7, by decide +kernel, by decide, rfl⟩
theorem k98_65 : en_d 98 65 (.iload_n 2) 1 66 := ⟨by decide +kernel, rfl⟩
theorem k98_66 : en_j 98 66 .goto 69 70 := ⟨4, by decide +kernel, by decide, rfl⟩
theorem k98_69 : en_d 98 69 (.iconst 0) 1 70 := ⟨by decide +kernel, rfl⟩
theorem k98_70 : en_d 98 70 .iastore 1 71 := ⟨by decide +kernel, rfl⟩
theorem k98_71 : en_d 98 71 (.iconst 0) 1 72 := ⟨by decide +kernel, rfl⟩
theorem k98_72 : en_d 98 72 (.istore 4) 2 74 := ⟨by decide +kernel, rfl⟩
theorem k98_74 : en_d 98 74 (.iconst 0) 1 75 := ⟨by decide +kernel, rfl⟩
theorem k98_75 : en_d 98 75 (.istore 5) 2 77 := ⟨by decide +kernel, rfl⟩
theorem k98_77 : en_d 98 77 (.iload 5) 2 79 := ⟨by decide +kernel, rfl⟩
theorem k98_79 : en_d 98 79 (.bipush 16) 2 81 := ⟨by decide +kernel, rfl⟩
theorem k98_81 : en_j 98 81 (.if_icmp .ge) 84 153 := ⟨72, by decide +kernel, by decide, rfl⟩
theorem k98_84 : en_d 98 84 (.aload_n 0) 1 85 := ⟨by decide +kernel, rfl⟩
theorem k98_85 : en_df 98 85 10 20 false true 88 := ⟨68, by decide +kernel, by decide +kernel, by decide +kernel, rfl⟩
theorem k98_88 : en_d 98 88 (.bipush 16) 2 90 := ⟨by decide +kernel, rfl⟩
theorem k98_90 : en_d 98 90 (.iload_n 3) 1 91 := ⟨by decide +kernel, rfl⟩
theorem k98_91 : en_d 98 91 .imul 1 92 := ⟨by decide +kernel, rfl⟩
theorem k98_92 : en_d 98 92 (.iload 5) 2 94 := ⟨by decide +kernel, rfl⟩
theorem k98_94 : en_d 98 94 .iadd 1 95 := ⟨by decide +kernel, rfl⟩
theorem k98_95 : en_d 98 95 (.iload_n 1) 1 96 := ⟨by decide +kernel, rfl⟩
theorem k98_96 : en_d 98 96 (.iload 5) 2 98 := ⟨by decide +kernel, rfl⟩
theorem k98_98 : en_j 98 98 (.if_icmp .gt) 101 117 := ⟨19, by decide +kernel, by decide, rfl⟩
theorem k98_101 : en_d 98 101 (.iload 5) 2 103 := ⟨by decide +kernel, rfl⟩
theorem k98_103 : en_d 98 103 (.iload_n 2) 1 104 := ⟨by decide +kernel, rfl⟩
theorem k98_104 : en_j 98 104 (.if_icmp .gt) 107 117 := ⟨13, by decide +kernel, by decide, rfl⟩
theorem k98_107 : en_d 98 107 (.aload_n 0) 1 108 := ⟨by decide +kernel, rfl⟩
theorem k98_108 : en_df 98 108 10 41 false true 111 := ⟨117, by decide +kernel, by decide +kernel, by decide +kernel, rfl⟩
theorem k98_111 : en_d 98 111 (.iload 5) 2 113 := ⟨by decide +kernel, rfl⟩
theorem k98_113 : en_d 98 113 .iaload 1 114 := ⟨by decide +kernel, rfl⟩
theorem k98_114 : en_j 98 114 .goto 117 118 := ⟨4, by decide +kernel, by decide, rfl⟩
theorem k98_117 : en_d 98 117 (.iconst 0) 1 118 := ⟨by decide +kernel, rfl⟩
theorem k98_118 : en_d 98 118 .iastore 1 119 := ⟨by decide +kernel, rfl⟩
theorem k98_119 : en_d 98 119 (.iload 4) 2 121 := ⟨by decide +kernel, rfl⟩
theorem k98_121 : en_d 98 121 (.iload_n 1) 1 122 := ⟨by decide +kernel, rfl⟩
theorem k98_122 : en_d 98 122 (.iload 5) 2 124 := ⟨by decide +kernel, rfl⟩
theorem k98_124 : en_j 98 124 (.if_icmp .gt) 127 143 := ⟨19, by decide +kernel, by decide, rfl⟩
theorem k98_127 : en_d 98 127 (.iload 5) 2 129 := ⟨by decide +kernel, rfl⟩
theorem k98_129 : en_d 98 129 (.iload_n 2) 1 130 := ⟨by decide +kernel, rfl⟩
theorem k98_130 : en_j 98 130 (.if_icmp .gt) 133 143 := ⟨13, by decide +kernel, by decide, rfl⟩
theorem k98_133 : en_d 98 133 (.aload_n 0) 1 134 := ⟨by decide +kernel, rfl⟩
theorem k98_134 : en_df 98 134 10 40 false true 137 := ⟨114, by decide +kernel, by decide +kernel, by decide +kernel, rfl⟩
theorem k98_137 : en_d 98 137 (.iload 5) 2 139 := ⟨by decide +kernel, rfl⟩
theorem k98_139 : en_d 98 139 .iaload 1 140 := ⟨by decide +kernel, rfl⟩
theorem k98_140 : en_j 98 140 .goto 143 144 := ⟨4, by decide +kernel, by decide, rfl⟩
theorem k98_143 : en_d 98 143 (.iconst 0) 1 144 := ⟨by decide +kernel, rfl⟩
theorem k98_144 : en_d 98 144 .iadd 1 145 := ⟨by decide +kernel, rfl⟩
theorem k98_145 : en_d 98 145 (.istore 4) 2 147 := ⟨by decide +kernel, rfl⟩
theorem k98_147 : en_d 98 147 (.iinc 5 1) 3 150 := ⟨by decide +kernel, rfl⟩
theorem k98_150 : en_j 98 150 .goto 153 77 := ⟨(-73), by decide +kernel, by decide, rfl⟩
theorem k98_153 : en_d 98 153 (.aload_n 0) 1 154 := ⟨by decide +kernel, rfl⟩
theorem k98_154 : en_d 98 154 (.iload 4) 2 156 := ⟨by decide +kernel, rfl⟩
theorem k98_156 : en_dv 98 156 94 false 159 := ⟨163, by decide +kernel, by decide +kernel, rfl, by decide +kernel, by decide +kernel⟩
theorem k98_159 : en_d 98 159 .return_ 1 160 := ⟨by decide +kernel, rfl⟩
/-! 99: EndorsedLedgerModel.agrees(I)Z -/
theorem k99_0 : en_d 99 0 (.aload_n 0) 1 1 := ⟨by decide +kernel, rfl⟩
theorem k99_1 : en_df 99 1 10 17 false true 4 := ⟨59, by decide +kernel, by decide +kernel, by decide +kernel, rfl⟩
theorem k99_4 : en_d 99 4 (.iload_n 1) 1 5 := ⟨by decide +kernel, rfl⟩
theorem k99_5 : en_d 99 5 .iaload 1 6 := ⟨by decide +kernel, rfl⟩
theorem k99_6 : en_d 99 6 (.aload_n 0) 1 7 := ⟨by decide +kernel, rfl⟩
theorem k99_7 : en_df 99 7 10 17 false true 10 := ⟨59, by decide +kernel, by decide +kernel, by decide +kernel, rfl⟩
theorem k99_10 : en_d 99 10 (.bipush 60) 2 12 := ⟨by decide +kernel, rfl⟩
theorem k99_12 : en_d 99 12 .iaload 1 13 := ⟨by decide +kernel, rfl⟩
theorem k99_13 : en_j 99 13 (.if_icmp .ne) 16 20 := ⟨7, by decide +kernel, by decide, rfl⟩
theorem k99_16 : en_d 99 16 (.iconst 1) 1 17 := ⟨by decide +kernel, rfl⟩
theorem k99_17 : en_j 99 17 .goto 20 21 := ⟨4, by decide +kernel, by decide, rfl⟩
theorem k99_20 : en_d 99 20 (.iconst 0) 1 21 := ⟨by decide +kernel, rfl⟩
theorem k99_21 : en_d 99 21 (.istore_n 2) 1 22 := ⟨by decide +kernel, rfl⟩
theorem k99_22 : en_d 99 22 (.iconst 0) 1 23 := ⟨by decide +kernel, rfl⟩
theorem k99_23 : en_d 99 23 (.istore_n 3) 1 24 := ⟨by decide +kernel, rfl⟩
theorem k99_24 : en_d 99 24 (.iload_n 3) 1 25 := ⟨by decide +kernel, rfl⟩
theorem k99_25 : en_d 99 25 (.bipush 16) 2 27 := ⟨by decide +kernel, rfl⟩
theorem k99_27 : en_j 99 27 (.if_icmp .ge) 30 231 := ⟨204, by decide +kernel, by decide, rfl⟩
theorem k99_30 : en_d 99 30 (.iload_n 2) 1 31 := ⟨by decide +kernel, rfl⟩
theorem k99_31 : en_j 99 31 (.ifCond .eq) 34 110 := ⟨79, by decide +kernel, by decide, rfl⟩
theorem k99_34 : en_d 99 34 (.aload_n 0) 1 35 := ⟨by decide +kernel, rfl⟩
theorem k99_35 : en_df 99 35 10 14 false true 38 := ⟨50, by decide +kernel, by decide +kernel, by decide +kernel, rfl⟩
theorem k99_38 : en_d 99 38 (.bipush 16) 2 40 := ⟨by decide +kernel, rfl⟩
theorem k99_40 : en_d 99 40 (.iload_n 1) 1 41 := ⟨by decide +kernel, rfl⟩
theorem k99_41 : en_d 99 41 .imul 1 42 := ⟨by decide +kernel, rfl⟩
theorem k99_42 : en_d 99 42 (.iload_n 3) 1 43 := ⟨by decide +kernel, rfl⟩
theorem k99_43 : en_d 99 43 .iadd 1 44 := ⟨by decide +kernel, rfl⟩
theorem k99_44 : en_d 99 44 .iaload 1 45 := ⟨by decide +kernel, rfl⟩
theorem k99_45 : en_d 99 45 (.aload_n 0) 1 46 := ⟨by decide +kernel, rfl⟩
theorem k99_46 : en_df 99 46 10 14 false true 49 := ⟨50, by decide +kernel, by decide +kernel, by decide +kernel, rfl⟩
theorem k99_49 : en_d 99 49 (.sipush 960) 3 52 := ⟨by decide +kernel, rfl⟩
theorem k99_52 : en_d 99 52 (.iload_n 3) 1 53 := ⟨by decide +kernel, rfl⟩
theorem k99_53 : en_d 99 53 .iadd 1 54 := ⟨by decide +kernel, rfl⟩
theorem k99_54 : en_d 99 54 .iaload 1 55 := ⟨by decide +kernel, rfl⟩
theorem k99_55 : en_j 99 55 (.if_icmp .ne) 58 110 := ⟨55, by decide +kernel, by decide, rfl⟩
theorem k99_58 : en_d 99 58 (.aload_n 0) 1 59 := ⟨by decide +kernel, rfl⟩
theorem k99_59 : en_df 99 59 10 15 false true 62 := ⟨53, by decide +kernel, by decide +kernel, by decide +kernel, rfl⟩
theorem k99_62 : en_d 99 62 (.bipush 16) 2 64 := ⟨by decide +kernel, rfl⟩
theorem k99_64 : en_d 99 64 (.iload_n 1) 1 65 := ⟨by decide +kernel, rfl⟩
theorem k99_65 : en_d 99 65 .imul 1 66 := ⟨by decide +kernel, rfl⟩
theorem k99_66 : en_d 99 66 (.iload_n 3) 1 67 := ⟨by decide +kernel, rfl⟩
theorem k99_67 : en_d 99 67 .iadd 1 68 := ⟨by decide +kernel, rfl⟩
theorem k99_68 : en_d 99 68 .iaload 1 69 := ⟨by decide +kernel, rfl⟩
theorem k99_69 : en_d 99 69 (.aload_n 0) 1 70 := ⟨by decide +kernel, rfl⟩
theorem k99_70 : en_df 99 70 10 15 false true 73 := ⟨53, by decide +kernel, by decide +kernel, by decide +kernel, rfl⟩
theorem k99_73 : en_d 99 73 (.sipush 960) 3 76 := ⟨by decide +kernel, rfl⟩
theorem k99_76 : en_d 99 76 (.iload_n 3) 1 77 := ⟨by decide +kernel, rfl⟩
theorem k99_77 : en_d 99 77 .iadd 1 78 := ⟨by decide +kernel, rfl⟩
theorem k99_78 : en_d 99 78 .iaload 1 79 := ⟨by decide +kernel, rfl⟩
theorem k99_79 : en_j 99 79 (.if_icmp .ne) 82 110 := ⟨31, by decide +kernel, by decide, rfl⟩
theorem k99_82 : en_d 99 82 (.aload_n 0) 1 83 := ⟨by decide +kernel, rfl⟩
theorem k99_83 : en_df 99 83 10 16 false true 86 := ⟨56, by decide +kernel, by decide +kernel, by decide +kernel, rfl⟩
theorem k99_86 : en_d 99 86 (.bipush 16) 2 88 := ⟨by decide +kernel, rfl⟩
theorem k99_88 : en_d 99 88 (.iload_n 1) 1 89 := ⟨by decide +kernel, rfl⟩
theorem k99_89 : en_d 99 89 .imul 1 90 := ⟨by decide +kernel, rfl⟩
theorem k99_90 : en_d 99 90 (.iload_n 3) 1 91 := ⟨by decide +kernel, rfl⟩
theorem k99_91 : en_d 99 91 .iadd 1 92 := ⟨by decide +kernel, rfl⟩
theorem k99_92 : en_d 99 92 .iaload 1 93 := ⟨by decide +kernel, rfl⟩
theorem k99_93 : en_d 99 93 (.aload_n 0) 1 94 := ⟨by decide +kernel, rfl⟩
theorem k99_94 : en_df 99 94 10 16 false true 97 := ⟨56, by decide +kernel, by decide +kernel, by decide +kernel, rfl⟩
theorem k99_97 : en_d 99 97 (.sipush 960) 3 100 := ⟨by decide +kernel, rfl⟩
theorem k99_100 : en_d 99 100 (.iload_n 3) 1 101 := ⟨by decide +kernel, rfl⟩
theorem k99_101 : en_d 99 101 .iadd 1 102 := ⟨by decide +kernel, rfl⟩
theorem k99_102 : en_d 99 102 .iaload 1 103 := ⟨by decide +kernel, rfl⟩
theorem k99_103 : en_j 99 103 (.if_icmp .ne) 106 110 := ⟨7, by decide +kernel, by decide, rfl⟩
theorem k99_106 : en_d 99 106 (.iconst 1) 1 107 := ⟨by decide +kernel, rfl⟩
theorem k99_107 : en_j 99 107 .goto 110 111 := ⟨4, by decide +kernel, by decide, rfl⟩
theorem k99_110 : en_d 99 110 (.iconst 0) 1 111 := ⟨by decide +kernel, rfl⟩
theorem k99_111 : en_d 99 111 (.istore_n 2) 1 112 := ⟨by decide +kernel, rfl⟩
theorem k99_112 : en_d 99 112 (.iconst 0) 1 113 := ⟨by decide +kernel, rfl⟩
theorem k99_113 : en_d 99 113 (.istore 4) 2 115 := ⟨by decide +kernel, rfl⟩
theorem k99_115 : en_d 99 115 (.iload 4) 2 117 := ⟨by decide +kernel, rfl⟩
theorem k99_117 : en_d 99 117 (.aload_n 0) 1 118 := ⟨by decide +kernel, rfl⟩
theorem k99_118 : en_df 99 118 10 17 false true 121 := ⟨59, by decide +kernel, by decide +kernel, by decide +kernel, rfl⟩
theorem k99_121 : en_d 99 121 (.bipush 60) 2 123 := ⟨by decide +kernel, rfl⟩
theorem k99_123 : en_d 99 123 .iaload 1 124 := ⟨by decide +kernel, rfl⟩
theorem k99_124 : en_j 99 124 (.if_icmp .ge) 127 225 := ⟨101, by decide +kernel, by decide, rfl⟩
theorem k99_127 : en_d 99 127 (.iload_n 2) 1 128 := ⟨by decide +kernel, rfl⟩
theorem k99_128 : en_j 99 128 (.ifCond .eq) 131 225 := ⟨97, by decide +kernel, by decide, rfl⟩
theorem k99_131 : en_d 99 131 (.aload_n 0) 1 132 := ⟨by decide +kernel, rfl⟩
theorem k99_132 : en_df 99 132 10 18 false true 135 := ⟨62, by decide +kernel, by decide +kernel, by decide +kernel, rfl⟩
theorem k99_135 : en_d 99 135 (.iconst 2) 1 136 := ⟨by decide +kernel, rfl⟩
theorem k99_136 : en_d 99 136 (.iload_n 1) 1 137 := ⟨by decide +kernel, rfl⟩
theorem k99_137 : en_d 99 137 .imul 1 138 := ⟨by decide +kernel, rfl⟩
theorem k99_138 : en_d 99 138 (.iload 4) 2 140 := ⟨by decide +kernel, rfl⟩
theorem k99_140 : en_d 99 140 .iadd 1 141 := ⟨by decide +kernel, rfl⟩
theorem k99_141 : en_d 99 141 .iaload 1 142 := ⟨by decide +kernel, rfl⟩
theorem k99_142 : en_d 99 142 (.aload_n 0) 1 143 := ⟨by decide +kernel, rfl⟩
theorem k99_143 : en_df 99 143 10 18 false true 146 := ⟨62, by decide +kernel, by decide +kernel, by decide +kernel, rfl⟩
theorem k99_146 : en_d 99 146 (.bipush 120) 2 148 := ⟨by decide +kernel, rfl⟩
theorem k99_148 : en_d 99 148 (.iload 4) 2 150 := ⟨by decide +kernel, rfl⟩
theorem k99_150 : en_d 99 150 .iadd 1 151 := ⟨by decide +kernel, rfl⟩
theorem k99_151 : en_d 99 151 .iaload 1 152 := ⟨by decide +kernel, rfl⟩
theorem k99_152 : en_j 99 152 (.if_icmp .ne) 155 217 := ⟨65, by decide +kernel, by decide, rfl⟩
theorem k99_155 : en_d 99 155 (.aload_n 0) 1 156 := ⟨by decide +kernel, rfl⟩
theorem k99_156 : en_df 99 156 10 19 false true 159 := ⟨65, by decide +kernel, by decide +kernel, by decide +kernel, rfl⟩
theorem k99_159 : en_d 99 159 (.iconst 2) 1 160 := ⟨by decide +kernel, rfl⟩
theorem k99_160 : en_d 99 160 (.iload_n 1) 1 161 := ⟨by decide +kernel, rfl⟩
theorem k99_161 : en_d 99 161 .imul 1 162 := ⟨by decide +kernel, rfl⟩
theorem k99_162 : en_d 99 162 (.iload 4) 2 164 := ⟨by decide +kernel, rfl⟩
theorem k99_164 : en_d 99 164 .iadd 1 165 := ⟨by decide +kernel, rfl⟩
theorem k99_165 : en_d 99 165 .iaload 1 166 := ⟨by decide +kernel, rfl⟩
theorem k99_166 : en_d 99 166 (.aload_n 0) 1 167 := ⟨by decide +kernel, rfl⟩
theorem k99_167 : en_df 99 167 10 19 false true 170 := ⟨65, by decide +kernel, by decide +kernel, by decide +kernel, rfl⟩
theorem k99_170 : en_d 99 170 (.bipush 120) 2 172 := ⟨by decide +kernel, rfl⟩
theorem k99_172 : en_d 99 172 (.iload 4) 2 174 := ⟨by decide +kernel, rfl⟩
theorem k99_174 : en_d 99 174 .iadd 1 175 := ⟨by decide +kernel, rfl⟩
theorem k99_175 : en_d 99 175 .iaload 1 176 := ⟨by decide +kernel, rfl⟩
theorem k99_176 : en_j 99 176 (.if_icmp .ne) 179 217 := ⟨41, by decide +kernel, by decide, rfl⟩
theorem k99_179 : en_d 99 179 (.aload_n 0) 1 180 := ⟨by decide +kernel, rfl⟩
theorem k99_180 : en_df 99 180 10 20 false true 183 := ⟨68, by decide +kernel, by decide +kernel, by decide +kernel, rfl⟩
theorem k99_183 : en_d 99 183 (.bipush 16) 2 185 := ⟨by decide +kernel, rfl⟩
theorem k99_185 : en_d 99 185 (.iconst 2) 1 186 := ⟨by decide +kernel, rfl⟩
theorem k99_186 : en_d 99 186 (.iload_n 1) 1 187 := ⟨by decide +kernel, rfl⟩
theorem k99_187 : en_d 99 187 .imul 1 188 := ⟨by decide +kernel, rfl⟩
theorem k99_188 : en_d 99 188 (.iload 4) 2 190 := ⟨by decide +kernel, rfl⟩
theorem k99_190 : en_d 99 190 .iadd 1 191 := ⟨by decide +kernel, rfl⟩
theorem k99_191 : en_d 99 191 .imul 1 192 := ⟨by decide +kernel, rfl⟩
theorem k99_192 : en_d 99 192 (.iload_n 3) 1 193 := ⟨by decide +kernel, rfl⟩
theorem k99_193 : en_d 99 193 .iadd 1 194 := ⟨by decide +kernel, rfl⟩
theorem k99_194 : en_d 99 194 .iaload 1 195 := ⟨by decide +kernel, rfl⟩
theorem k99_195 : en_d 99 195 (.aload_n 0) 1 196 := ⟨by decide +kernel, rfl⟩
theorem k99_196 : en_df 99 196 10 20 false true 199 := ⟨68, by decide +kernel, by decide +kernel, by decide +kernel, rfl⟩
theorem k99_199 : en_d 99 199 (.bipush 16) 2 201 := ⟨by decide +kernel, rfl⟩
theorem k99_201 : en_d 99 201 (.bipush 120) 2 203 := ⟨by decide +kernel, rfl⟩
theorem k99_203 : en_d 99 203 (.iload 4) 2 205 := ⟨by decide +kernel, rfl⟩
theorem k99_205 : en_d 99 205 .iadd 1 206 := ⟨by decide +kernel, rfl⟩
theorem k99_206 : en_d 99 206 .imul 1 207 := ⟨by decide +kernel, rfl⟩
theorem k99_207 : en_d 99 207 (.iload_n 3) 1 208 := ⟨by decide +kernel, rfl⟩
theorem k99_208 : en_d 99 208 .iadd 1 209 := ⟨by decide +kernel, rfl⟩
theorem k99_209 : en_d 99 209 .iaload 1 210 := ⟨by decide +kernel, rfl⟩
theorem k99_210 : en_j 99 210 (.if_icmp .ne) 213 217 := ⟨7, by decide +kernel, by decide, rfl⟩
theorem k99_213 : en_d 99 213 (.iconst 1) 1 214 := ⟨by decide +kernel, rfl⟩
theorem k99_214 : en_j 99 214 .goto 217 218 := ⟨4, by decide +kernel, by decide, rfl⟩
theorem k99_217 : en_d 99 217 (.iconst 0) 1 218 := ⟨by decide +kernel, rfl⟩
theorem k99_218 : en_d 99 218 (.istore_n 2) 1 219 := ⟨by decide +kernel, rfl⟩
theorem k99_219 : en_d 99 219 (.iinc 4 1) 3 222 := ⟨by decide +kernel, rfl⟩
theorem k99_222 : en_j 99 222 .goto 225 115 := ⟨(-107), by decide +kernel, by decide, rfl⟩
theorem k99_225 : en_d 99 225 (.iinc 3 1) 3 228 := ⟨by decide +kernel, rfl⟩
theorem k99_228 : en_j 99 228 .goto 231 24 := ⟨(-204), by decide +kernel, by decide, rfl⟩
theorem k99_231 : en_d 99 231 (.iload_n 2) 1 232 := ⟨by decide +kernel, rfl⟩
theorem k99_232 : en_d 99 232 .ireturn 1 233 := ⟨by decide +kernel, rfl⟩
/-! 100: EndorsedLedgerModel.keep(I)V -/
theorem k100_0 : en_d 100 0 (.aload_n 0) 1 1 := ⟨by decide +kernel, rfl⟩
theorem k100_1 : en_df 100 1 10 17 false true 4 := ⟨59, by decide +kernel, by decide +kernel, by decide +kernel, rfl⟩
theorem k100_4 : en_d 100 4 (.iload_n 1) 1 5 := ⟨by decide +kernel, rfl⟩
theorem k100_5 : en_d 100 5 (.aload_n 0) 1 6 := ⟨by decide +kernel, rfl⟩
theorem k100_6 : en_df 100 6 10 17 false true 9 := ⟨59, by decide +kernel, by decide +kernel, by decide +kernel, rfl⟩
theorem k100_9 : en_d 100 9 (.bipush 60) 2 11 := ⟨by decide +kernel, rfl⟩
theorem k100_11 : en_d 100 11 .iaload 1 12 := ⟨by decide +kernel, rfl⟩
theorem k100_12 : en_d 100 12 .iastore 1 13 := ⟨by decide +kernel, rfl⟩
theorem k100_13 : en_d 100 13 (.iconst 0) 1 14 := ⟨by decide +kernel, rfl⟩
theorem k100_14 : en_d 100 14 (.istore_n 2) 1 15 := ⟨by decide +kernel, rfl⟩
theorem k100_15 : en_d 100 15 (.iload_n 2) 1 16 := ⟨by decide +kernel, rfl⟩
theorem k100_16 : en_d 100 16 (.bipush 16) 2 18 := ⟨by decide +kernel, rfl⟩
theorem k100_18 : en_j 100 18 (.if_icmp .ge) 21 175 := ⟨157, by decide +kernel, by decide, rfl⟩
theorem k100_21 : en_d 100 21 (.aload_n 0) 1 22 := ⟨by decide +kernel, rfl⟩
theorem k100_22 : en_df 100 22 10 14 false true 25 := ⟨50, by decide +kernel, by decide +kernel, by decide +kernel, rfl⟩
theorem k100_25 : en_d 100 25 (.bipush 16) 2 27 := ⟨by decide +kernel, rfl⟩
theorem k100_27 : en_d 100 27 (.iload_n 1) 1 28 := ⟨by decide +kernel, rfl⟩
theorem k100_28 : en_d 100 28 .imul 1 29 := ⟨by decide +kernel, rfl⟩
theorem k100_29 : en_d 100 29 (.iload_n 2) 1 30 := ⟨by decide +kernel, rfl⟩
theorem k100_30 : en_d 100 30 .iadd 1 31 := ⟨by decide +kernel, rfl⟩
theorem k100_31 : en_d 100 31 (.aload_n 0) 1 32 := ⟨by decide +kernel, rfl⟩
theorem k100_32 : en_df 100 32 10 14 false true 35 := ⟨50, by decide +kernel, by decide +kernel, by decide +kernel, rfl⟩
theorem k100_35 : en_d 100 35 (.sipush 960) 3 38 := ⟨by decide +kernel, rfl⟩
theorem k100_38 : en_d 100 38 (.iload_n 2) 1 39 := ⟨by decide +kernel, rfl⟩
theorem k100_39 : en_d 100 39 .iadd 1 40 := ⟨by decide +kernel, rfl⟩
theorem k100_40 : en_d 100 40 .iaload 1 41 := ⟨by decide +kernel, rfl⟩
theorem k100_41 : en_d 100 41 .iastore 1 42 := ⟨by decide +kernel, rfl⟩
theorem k100_42 : en_d 100 42 (.aload_n 0) 1 43 := ⟨by decide +kernel, rfl⟩
theorem k100_43 : en_df 100 43 10 15 false true 46 := ⟨53, by decide +kernel, by decide +kernel, by decide +kernel, rfl⟩
theorem k100_46 : en_d 100 46 (.bipush 16) 2 48 := ⟨by decide +kernel, rfl⟩
theorem k100_48 : en_d 100 48 (.iload_n 1) 1 49 := ⟨by decide +kernel, rfl⟩
theorem k100_49 : en_d 100 49 .imul 1 50 := ⟨by decide +kernel, rfl⟩
theorem k100_50 : en_d 100 50 (.iload_n 2) 1 51 := ⟨by decide +kernel, rfl⟩
theorem k100_51 : en_d 100 51 .iadd 1 52 := ⟨by decide +kernel, rfl⟩
theorem k100_52 : en_d 100 52 (.aload_n 0) 1 53 := ⟨by decide +kernel, rfl⟩
theorem k100_53 : en_df 100 53 10 15 false true 56 := ⟨53, by decide +kernel, by decide +kernel, by decide +kernel, rfl⟩
theorem k100_56 : en_d 100 56 (.sipush 960) 3 59 := ⟨by decide +kernel, rfl⟩
theorem k100_59 : en_d 100 59 (.iload_n 2) 1 60 := ⟨by decide +kernel, rfl⟩
theorem k100_60 : en_d 100 60 .iadd 1 61 := ⟨by decide +kernel, rfl⟩
theorem k100_61 : en_d 100 61 .iaload 1 62 := ⟨by decide +kernel, rfl⟩
theorem k100_62 : en_d 100 62 .iastore 1 63 := ⟨by decide +kernel, rfl⟩
theorem k100_63 : en_d 100 63 (.aload_n 0) 1 64 := ⟨by decide +kernel, rfl⟩
theorem k100_64 : en_df 100 64 10 16 false true 67 := ⟨56, by decide +kernel, by decide +kernel, by decide +kernel, rfl⟩
theorem k100_67 : en_d 100 67 (.bipush 16) 2 69 := ⟨by decide +kernel, rfl⟩
theorem k100_69 : en_d 100 69 (.iload_n 1) 1 70 := ⟨by decide +kernel, rfl⟩
theorem k100_70 : en_d 100 70 .imul 1 71 := ⟨by decide +kernel, rfl⟩
theorem k100_71 : en_d 100 71 (.iload_n 2) 1 72 := ⟨by decide +kernel, rfl⟩
theorem k100_72 : en_d 100 72 .iadd 1 73 := ⟨by decide +kernel, rfl⟩
theorem k100_73 : en_d 100 73 (.aload_n 0) 1 74 := ⟨by decide +kernel, rfl⟩
theorem k100_74 : en_df 100 74 10 16 false true 77 := ⟨56, by decide +kernel, by decide +kernel, by decide +kernel, rfl⟩
theorem k100_77 : en_d 100 77 (.sipush 960) 3 80 := ⟨by decide +kernel, rfl⟩
theorem k100_80 : en_d 100 80 (.iload_n 2) 1 81 := ⟨by decide +kernel, rfl⟩
theorem k100_81 : en_d 100 81 .iadd 1 82 := ⟨by decide +kernel, rfl⟩
theorem k100_82 : en_d 100 82 .iaload 1 83 := ⟨by decide +kernel, rfl⟩
theorem k100_83 : en_d 100 83 .iastore 1 84 := ⟨by decide +kernel, rfl⟩
theorem k100_84 : en_d 100 84 (.iconst 0) 1 85 := ⟨by decide +kernel, rfl⟩
theorem k100_85 : en_d 100 85 (.istore_n 3) 1 86 := ⟨by decide +kernel, rfl⟩
theorem k100_86 : en_d 100 86 (.iload_n 3) 1 87 := ⟨by decide +kernel, rfl⟩
theorem k100_87 : en_d 100 87 (.aload_n 0) 1 88 := ⟨by decide +kernel, rfl⟩
theorem k100_88 : en_df 100 88 10 17 false true 91 := ⟨59, by decide +kernel, by decide +kernel, by decide +kernel, rfl⟩
theorem k100_91 : en_d 100 91 (.iload_n 1) 1 92 := ⟨by decide +kernel, rfl⟩
theorem k100_92 : en_d 100 92 .iaload 1 93 := ⟨by decide +kernel, rfl⟩
theorem k100_93 : en_j 100 93 (.if_icmp .ge) 96 169 := ⟨76, by decide +kernel, by decide, rfl⟩
theorem k100_96 : en_d 100 96 (.aload_n 0) 1 97 := ⟨by decide +kernel, rfl⟩
theorem k100_97 : en_df 100 97 10 18 false true 100 := ⟨62, by decide +kernel, by decide +kernel, by decide +kernel, rfl⟩
theorem k100_100 : en_d 100 100 (.iconst 2) 1 101 := ⟨by decide +kernel, rfl⟩
theorem k100_101 : en_d 100 101 (.iload_n 1) 1 102 := ⟨by decide +kernel, rfl⟩
theorem k100_102 : en_d 100 102 .imul 1 103 := ⟨by decide +kernel, rfl⟩
theorem k100_103 : en_d 100 103 (.iload_n 3) 1 104 := ⟨by decide +kernel, rfl⟩
theorem k100_104 : en_d 100 104 .iadd 1 105 := ⟨by decide +kernel, rfl⟩
theorem k100_105 : en_d 100 105 (.aload_n 0) 1 106 := ⟨by decide +kernel, rfl⟩
theorem k100_106 : en_df 100 106 10 18 false true 109 := ⟨62, by decide +kernel, by decide +kernel, by decide +kernel, rfl⟩
theorem k100_109 : en_d 100 109 (.bipush 120) 2 111 := ⟨by decide +kernel, rfl⟩
theorem k100_111 : en_d 100 111 (.iload_n 3) 1 112 := ⟨by decide +kernel, rfl⟩
theorem k100_112 : en_d 100 112 .iadd 1 113 := ⟨by decide +kernel, rfl⟩
theorem k100_113 : en_d 100 113 .iaload 1 114 := ⟨by decide +kernel, rfl⟩
theorem k100_114 : en_d 100 114 .iastore 1 115 := ⟨by decide +kernel, rfl⟩
theorem k100_115 : en_d 100 115 (.aload_n 0) 1 116 := ⟨by decide +kernel, rfl⟩
theorem k100_116 : en_df 100 116 10 19 false true 119 := ⟨65, by decide +kernel, by decide +kernel, by decide +kernel, rfl⟩
theorem k100_119 : en_d 100 119 (.iconst 2) 1 120 := ⟨by decide +kernel, rfl⟩
theorem k100_120 : en_d 100 120 (.iload_n 1) 1 121 := ⟨by decide +kernel, rfl⟩
theorem k100_121 : en_d 100 121 .imul 1 122 := ⟨by decide +kernel, rfl⟩
theorem k100_122 : en_d 100 122 (.iload_n 3) 1 123 := ⟨by decide +kernel, rfl⟩
theorem k100_123 : en_d 100 123 .iadd 1 124 := ⟨by decide +kernel, rfl⟩
theorem k100_124 : en_d 100 124 (.aload_n 0) 1 125 := ⟨by decide +kernel, rfl⟩
theorem k100_125 : en_df 100 125 10 19 false true 128 := ⟨65, by decide +kernel, by decide +kernel, by decide +kernel, rfl⟩
theorem k100_128 : en_d 100 128 (.bipush 120) 2 130 := ⟨by decide +kernel, rfl⟩
theorem k100_130 : en_d 100 130 (.iload_n 3) 1 131 := ⟨by decide +kernel, rfl⟩
theorem k100_131 : en_d 100 131 .iadd 1 132 := ⟨by decide +kernel, rfl⟩
theorem k100_132 : en_d 100 132 .iaload 1 133 := ⟨by decide +kernel, rfl⟩
theorem k100_133 : en_d 100 133 .iastore 1 134 := ⟨by decide +kernel, rfl⟩
theorem k100_134 : en_d 100 134 (.aload_n 0) 1 135 := ⟨by decide +kernel, rfl⟩
theorem k100_135 : en_df 100 135 10 20 false true 138 := ⟨68, by decide +kernel, by decide +kernel, by decide +kernel, rfl⟩
theorem k100_138 : en_d 100 138 (.bipush 16) 2 140 := ⟨by decide +kernel, rfl⟩
theorem k100_140 : en_d 100 140 (.iconst 2) 1 141 := ⟨by decide +kernel, rfl⟩
theorem k100_141 : en_d 100 141 (.iload_n 1) 1 142 := ⟨by decide +kernel, rfl⟩
theorem k100_142 : en_d 100 142 .imul 1 143 := ⟨by decide +kernel, rfl⟩
theorem k100_143 : en_d 100 143 (.iload_n 3) 1 144 := ⟨by decide +kernel, rfl⟩
theorem k100_144 : en_d 100 144 .iadd 1 145 := ⟨by decide +kernel, rfl⟩
theorem k100_145 : en_d 100 145 .imul 1 146 := ⟨by decide +kernel, rfl⟩
theorem k100_146 : en_d 100 146 (.iload_n 2) 1 147 := ⟨by decide +kernel, rfl⟩
theorem k100_147 : en_d 100 147 .iadd 1 148 := ⟨by decide +kernel, rfl⟩
theorem k100_148 : en_d 100 148 (.aload_n 0) 1 149 := ⟨by decide +kernel, rfl⟩
theorem k100_149 : en_df 100 149 10 20 false true 152 := ⟨68, by decide +kernel, by decide +kernel, by decide +kernel, rfl⟩
theorem k100_152 : en_d 100 152 (.bipush 16) 2 154 := ⟨by decide +kernel, rfl⟩
theorem k100_154 : en_d 100 154 (.bipush 120) 2 156 := ⟨by decide +kernel, rfl⟩
theorem k100_156 : en_d 100 156 (.iload_n 3) 1 157 := ⟨by decide +kernel, rfl⟩
theorem k100_157 : en_d 100 157 .iadd 1 158 := ⟨by decide +kernel, rfl⟩
theorem k100_158 : en_d 100 158 .imul 1 159 := ⟨by decide +kernel, rfl⟩
theorem k100_159 : en_d 100 159 (.iload_n 2) 1 160 := ⟨by decide +kernel, rfl⟩
theorem k100_160 : en_d 100 160 .iadd 1 161 := ⟨by decide +kernel, rfl⟩
theorem k100_161 : en_d 100 161 .iaload 1 162 := ⟨by decide +kernel, rfl⟩
theorem k100_162 : en_d 100 162 .iastore 1 163 := ⟨by decide +kernel, rfl⟩
theorem k100_163 : en_d 100 163 (.iinc 3 1) 3 166 := ⟨by decide +kernel, rfl⟩
theorem k100_166 : en_j 100 166 .goto 169 86 := ⟨(-80), by decide +kernel, by decide, rfl⟩
theorem k100_169 : en_d 100 169 (.iinc 2 1) 3 172 := ⟨by decide +kernel, rfl⟩
theorem k100_172 : en_j 100 172 .goto 175 15 := ⟨(-157), by decide +kernel, by decide, rfl⟩
theorem k100_175 : en_d 100 175 .return_ 1 176 := ⟨by decide +kernel, rfl⟩
/-! 101: EndorsedLedgerModel.there(I)Z -/
theorem k101_0 : en_d 101 0 (.iload_n 1) 1 1 := ⟨by decide +kernel, rfl⟩
theorem k101_1 : en_j 101 1 (.ifCond .lt) 4 16 := ⟨15, by decide +kernel, by decide, rfl⟩
theorem k101_4 : en_d 101 4 (.iload_n 1) 1 5 := ⟨by decide +kernel, rfl⟩
theorem k101_5 : en_d 101 5 (.aload_n 0) 1 6 := ⟨by decide +kernel, rfl⟩
theorem k101_6 : en_df 101 6 10 9 false false 9 := ⟨133, by decide +kernel, by decide +kernel, by decide +kernel, rfl⟩
theorem k101_9 : en_j 101 9 (.if_icmp .ge) 12 16 := ⟨7, by decide +kernel, by decide, rfl⟩
theorem k101_12 : en_d 101 12 (.iconst 1) 1 13 := ⟨by decide +kernel, rfl⟩
theorem k101_13 : en_j 101 13 .goto 16 17 := ⟨4, by decide +kernel, by decide, rfl⟩
theorem k101_16 : en_d 101 16 (.iconst 0) 1 17 := ⟨by decide +kernel, rfl⟩
theorem k101_17 : en_d 101 17 .ireturn 1 18 := ⟨by decide +kernel, rfl⟩
/-! 102: EndorsedLedgerModel.upright(I)Z -/
theorem k102_0 : en_d 102 0 (.iload_n 1) 1 1 := ⟨by decide +kernel, rfl⟩
theorem k102_1 : en_d 102 1 (.iconst 0) 1 2 := ⟨by decide +kernel, rfl⟩
theorem k102_2 : en_d 102 2 (.iconst 3) 1 3 := ⟨by decide +kernel, rfl⟩
theorem k102_3 : en_dS 102 3 87 false 6 := ⟨129, by decide +kernel, by decide +kernel, rfl, by decide +kernel, by decide +kernel⟩
theorem k102_6 : en_j 102 6 (.ifCond .eq) 9 22 := ⟨16, by decide +kernel, by decide, rfl⟩
theorem k102_9 : en_d 102 9 (.aload_n 0) 1 10 := ⟨by decide +kernel, rfl⟩
theorem k102_10 : en_df 102 10 10 37 false true 13 := ⟨105, by decide +kernel, by decide +kernel, by decide +kernel, rfl⟩
theorem k102_13 : en_d 102 13 (.iload_n 1) 1 14 := ⟨by decide +kernel, rfl⟩
theorem k102_14 : en_d 102 14 .baload 1 15 := ⟨by decide +kernel, rfl⟩
theorem k102_15 : en_j 102 15 (.ifCond .ne) 18 22 := ⟨7, by decide +kernel, by decide, rfl⟩
theorem k102_18 : en_d 102 18 (.iconst 1) 1 19 := ⟨by decide +kernel, rfl⟩
theorem k102_19 : en_j 102 19 .goto 22 23 := ⟨4, by decide +kernel, by decide, rfl⟩
theorem k102_22 : en_d 102 22 (.iconst 0) 1 23 := ⟨by decide +kernel, rfl⟩
theorem k102_23 : en_d 102 23 .ireturn 1 24 := ⟨by decide +kernel, rfl⟩
/-! 103: EndorsedLedgerModel.propose(II)I -/
theorem k103_0 : en_d 103 0 (.iload_n 1) 1 1 := ⟨by decide +kernel, rfl⟩
theorem k103_1 : en_d 103 1 (.iconst 0) 1 2 := ⟨by decide +kernel, rfl⟩
theorem k103_2 : en_d 103 2 (.iconst 3) 1 3 := ⟨by decide +kernel, rfl⟩
theorem k103_3 : en_dS 103 3 87 false 6 := ⟨129, by decide +kernel, by decide +kernel, rfl, by decide +kernel, by decide +kernel⟩
theorem k103_6 : en_j 103 6 (.ifCond .eq) 9 18 := ⟨12, by decide +kernel, by decide, rfl⟩
theorem k103_9 : en_d 103 9 (.aload_n 0) 1 10 := ⟨by decide +kernel, rfl⟩
theorem k103_10 : en_df 103 10 10 9 false false 13 := ⟨133, by decide +kernel, by decide +kernel, by decide +kernel, rfl⟩
theorem k103_13 : en_d 103 13 (.bipush 60) 2 15 := ⟨by decide +kernel, rfl⟩
theorem k103_15 : en_j 103 15 (.if_icmp .ne) 18 20 := ⟨5, by decide +kernel, by decide, rfl⟩
theorem k103_18 : en_d 103 18 (.iconst (-1)) 1 19 := ⟨by decide +kernel, rfl⟩
theorem k103_19 : en_d 103 19 .ireturn 1 20 := ⟨by decide +kernel, rfl⟩
theorem k103_20 : en_d 103 20 (.aload_n 0) 1 21 := ⟨by decide +kernel, rfl⟩
theorem k103_21 : en_df 103 21 10 10 false true 24 := ⟨37, by decide +kernel, by decide +kernel, by decide +kernel, rfl⟩
theorem k103_24 : en_d 103 24 (.aload_n 0) 1 25 := ⟨by decide +kernel, rfl⟩
theorem k103_25 : en_df 103 25 10 9 false false 28 := ⟨133, by decide +kernel, by decide +kernel, by decide +kernel, rfl⟩
theorem k103_28 : en_d 103 28 (.iload_n 1) 1 29 := ⟨by decide +kernel, rfl⟩
theorem k103_29 : en_d 103 29 .iastore 1 30 := ⟨by decide +kernel, rfl⟩
theorem k103_30 : en_d 103 30 (.aload_n 0) 1 31 := ⟨by decide +kernel, rfl⟩
theorem k103_31 : en_df 103 31 10 11 false true 34 := ⟨40, by decide +kernel, by decide +kernel, by decide +kernel, rfl⟩
theorem k103_34 : en_d 103 34 (.aload_n 0) 1 35 := ⟨by decide +kernel, rfl⟩
theorem k103_35 : en_df 103 35 10 9 false false 38 := ⟨133, by decide +kernel, by decide +kernel, by decide +kernel, rfl⟩
theorem k103_38 : en_d 103 38 (.iload_n 2) 1 39 := ⟨by decide +kernel, rfl⟩
theorem k103_39 : en_d 103 39 .iastore 1 40 := ⟨by decide +kernel, rfl⟩
theorem k103_40 : en_d 103 40 (.aload_n 0) 1 41 := ⟨by decide +kernel, rfl⟩
theorem k103_41 : en_d 103 41 .dup 1 42 := ⟨by decide +kernel, rfl⟩
theorem k103_42 : en_df 103 42 10 9 false false 45 := ⟨133, by decide +kernel, by decide +kernel, by decide +kernel, rfl⟩
theorem k103_45 : en_d 103 45 (.iconst 1) 1 46 := ⟨by decide +kernel, rfl⟩
theorem k103_46 : en_d 103 46 .iadd 1 47 := ⟨by decide +kernel, rfl⟩
theorem k103_47 : en_dp 103 47 10 9 false .int 50 := ⟨133, by decide +kernel, by decide +kernel, by decide +kernel, rfl⟩
theorem k103_50 : en_d 103 50 (.aload_n 0) 1 51 := ⟨by decide +kernel, rfl⟩
theorem k103_51 : en_df 103 51 10 9 false false 54 := ⟨133, by decide +kernel, by decide +kernel, by decide +kernel, rfl⟩
theorem k103_54 : en_d 103 54 (.iconst 1) 1 55 := ⟨by decide +kernel, rfl⟩
theorem k103_55 : en_d 103 55 .isub 1 56 := ⟨by decide +kernel, rfl⟩
theorem k103_56 : en_d 103 56 .ireturn 1 57 := ⟨by decide +kernel, rfl⟩
end
section
/-! 104: EndorsedLedgerModel.endorse(II)I -/
theorem k104_0 : en_d 104 0 (.aload_n 0) 1 1 := ⟨by decide +kernel, rfl⟩
theorem k104_1 : en_d 104 1 (.iload_n 1) 1 2 := ⟨by decide +kernel, rfl⟩
theorem k104_2 : en_dv 104 2 101 false 5 := ⟨169, by decide +kernel, by decide +kernel, rfl, by decide +kernel, by decide +kernel⟩
theorem k104_5 : en_j 104 5 (.ifCond .eq) 8 39 := ⟨34, by decide +kernel, by decide, rfl⟩
theorem k104_8 : en_d 104 8 (.aload_n 0) 1 9 := ⟨by decide +kernel, rfl⟩
theorem k104_9 : en_d 104 9 (.iload_n 2) 1 10 := ⟨by decide +kernel, rfl⟩
theorem k104_10 : en_dv 104 10 102 false 13 := ⟨173, by decide +kernel, by decide +kernel, rfl, by decide +kernel, by decide +kernel⟩
theorem k104_13 : en_j 104 13 (.ifCond .eq) 16 39 := ⟨26, by decide +kernel, by decide, rfl⟩
theorem k104_16 : en_d 104 16 (.aload_n 0) 1 17 := ⟨by decide +kernel, rfl⟩
theorem k104_17 : en_df 104 17 10 13 false true 20 := ⟨46, by decide +kernel, by decide +kernel, by decide +kernel, rfl⟩
theorem k104_20 : en_d 104 20 (.iload_n 1) 1 21 := ⟨by decide +kernel, rfl⟩
theorem k104_21 : en_d 104 21 .baload 1 22 := ⟨by decide +kernel, rfl⟩
theorem k104_22 : en_j 104 22 (.ifCond .ne) 25 39 := ⟨17, by decide +kernel, by decide, rfl⟩
theorem k104_25 : en_d 104 25 (.aload_n 0) 1 26 := ⟨by decide +kernel, rfl⟩
theorem k104_26 : en_df 104 26 10 12 false true 29 := ⟨43, by decide +kernel, by decide +kernel, by decide +kernel, rfl⟩
theorem k104_29 : en_d 104 29 (.iload_n 1) 1 30 := ⟨by decide +kernel, rfl⟩
theorem k104_30 : en_d 104 30 .iaload 1 31 := ⟨by decide +kernel, rfl⟩
theorem k104_31 : en_d 104 31 (.iload_n 2) 1 32 := ⟨by decide +kernel, rfl⟩
theorem k104_32 : en_d 104 32 .ishr 1 33 := ⟨by decide +kernel, rfl⟩
theorem k104_33 : en_d 104 33 (.iconst 1) 1 34 := ⟨by decide +kernel, rfl⟩
theorem k104_34 : en_d 104 34 .iand 1 35 := ⟨by decide +kernel, rfl⟩
theorem k104_35 : en_d 104 35 (.iconst 1) 1 36 := ⟨by decide +kernel, rfl⟩
theorem k104_36 : en_j 104 36 (.if_icmp .ne) 39 41 := ⟨5, by decide +kernel, by decide, rfl⟩
theorem k104_39 : en_d 104 39 (.iconst (-1)) 1 40 := ⟨by decide +kernel, rfl⟩
theorem k104_40 : en_d 104 40 .ireturn 1 41 := ⟨by decide +kernel, rfl⟩
theorem k104_41 : en_d 104 41 (.aload_n 0) 1 42 := ⟨by decide +kernel, rfl⟩
theorem k104_42 : en_d 104 42 (.aload_n 0) 1 43 := ⟨by decide +kernel, rfl⟩
theorem k104_43 : en_df 104 43 10 38 false true 46 := ⟨108, by decide +kernel, by decide +kernel, by decide +kernel, rfl⟩
theorem k104_46 : en_d 104 46 (.iload_n 2) 1 47 := ⟨by decide +kernel, rfl⟩
theorem k104_47 : en_d 104 47 .iaload 1 48 := ⟨by decide +kernel, rfl⟩
theorem k104_48 : en_dv 104 48 91 false 51 := ⟨176, by decide +kernel, by decide +kernel, rfl, by decide +kernel, by decide +kernel⟩
theorem k104_51 : en_d 104 51 (.aload_n 0) 1 52 := ⟨by decide +kernel, rfl⟩
theorem k104_52 : en_d 104 52 (.aload_n 0) 1 53 := ⟨by decide +kernel, rfl⟩
theorem k104_53 : en_df 104 53 10 10 false true 56 := ⟨37, by decide +kernel, by decide +kernel, by decide +kernel, rfl⟩
theorem k104_56 : en_d 104 56 (.iload_n 1) 1 57 := ⟨by decide +kernel, rfl⟩
theorem k104_57 : en_d 104 57 .iaload 1 58 := ⟨by decide +kernel, rfl⟩
theorem k104_58 : en_d 104 58 (.aload_n 0) 1 59 := ⟨by decide +kernel, rfl⟩
theorem k104_59 : en_df 104 59 10 11 false true 62 := ⟨40, by decide +kernel, by decide +kernel, by decide +kernel, rfl⟩
theorem k104_62 : en_d 104 62 (.iload_n 1) 1 63 := ⟨by decide +kernel, rfl⟩
theorem k104_63 : en_d 104 63 .iaload 1 64 := ⟨by decide +kernel, rfl⟩
theorem k104_64 : en_dv 104 64 95 false 67 := ⟨179, by decide +kernel, by decide +kernel, rfl, by decide +kernel, by decide +kernel⟩
theorem k104_67 : en_d 104 67 (.aload_n 0) 1 68 := ⟨by decide +kernel, rfl⟩
theorem k104_68 : en_df 104 68 10 23 false false 71 := ⟨147, by decide +kernel, by decide +kernel, by decide +kernel, rfl⟩
theorem k104_71 : en_j 104 71 (.ifCond .eq) 74 76 := ⟨5, by decide +kernel, by decide, rfl⟩
theorem k104_74 : en_d 104 74 (.iconst 1) 1 75 := ⟨by decide +kernel, rfl⟩
theorem k104_75 : en_d 104 75 .ireturn 1 76 := ⟨by decide +kernel, rfl⟩
theorem k104_76 : en_d 104 76 (.aload_n 0) 1 77 := ⟨by decide +kernel, rfl⟩
theorem k104_77 : en_df 104 77 10 12 false true 80 := ⟨43, by decide +kernel, by decide +kernel, by decide +kernel, rfl⟩
theorem k104_80 : en_d 104 80 (.iload_n 1) 1 81 := ⟨by decide +kernel, rfl⟩
theorem k104_81 : en_d 104 81 .iaload 1 82 := ⟨by decide +kernel, rfl⟩
theorem k104_82 : en_j 104 82 (.ifCond .eq) 85 95 := ⟨13, by decide +kernel, by decide, rfl⟩
theorem k104_85 : en_d 104 85 (.aload_n 0) 1 86 := ⟨by decide +kernel, rfl⟩
theorem k104_86 : en_d 104 86 (.iload_n 1) 1 87 := ⟨by decide +kernel, rfl⟩
theorem k104_87 : en_dv 104 87 99 false 90 := ⟨182, by decide +kernel, by decide +kernel, rfl, by decide +kernel, by decide +kernel⟩
theorem k104_90 : en_j 104 90 (.ifCond .ne) 93 95 := ⟨5, by decide +kernel, by decide, rfl⟩
theorem k104_93 : en_d 104 93 (.iconst 2) 1 94 := ⟨by decide +kernel, rfl⟩
theorem k104_94 : en_d 104 94 .ireturn 1 95 := ⟨by decide +kernel, rfl⟩
theorem k104_95 : en_d 104 95 (.aload_n 0) 1 96 := ⟨by decide +kernel, rfl⟩
theorem k104_96 : en_d 104 96 (.iload_n 1) 1 97 := ⟨by decide +kernel, rfl⟩
theorem k104_97 : en_dv 104 97 100 false 100 := ⟨185, by decide +kernel, by decide +kernel, rfl, by decide +kernel, by decide +kernel⟩
theorem k104_100 : en_d 104 100 (.aload_n 0) 1 101 := ⟨by decide +kernel, rfl⟩
theorem k104_101 : en_df 104 101 10 12 false true 104 := ⟨43, by decide +kernel, by decide +kernel, by decide +kernel, rfl⟩
theorem k104_104 : en_d 104 104 (.iload_n 1) 1 105 := ⟨by decide +kernel, rfl⟩
theorem k104_105 : en_d 104 105 .dup2 1 106 := ⟨by decide +kernel, rfl⟩
theorem k104_106 : en_d 104 106 .iaload 1 107 := ⟨by decide +kernel, rfl⟩
theorem k104_107 : en_d 104 107 (.iconst 1) 1 108 := ⟨by decide +kernel, rfl⟩
theorem k104_108 : en_d 104 108 (.iload_n 2) 1 109 := ⟨by decide +kernel, rfl⟩
theorem k104_109 : en_d 104 109 .ishl 1 110 := ⟨by decide +kernel, rfl⟩
theorem k104_110 : en_d 104 110 .iadd 1 111 := ⟨by decide +kernel, rfl⟩
theorem k104_111 : en_d 104 111 .iastore 1 112 := ⟨by decide +kernel, rfl⟩
theorem k104_112 : en_d 104 112 (.iconst 0) 1 113 := ⟨by decide +kernel, rfl⟩
theorem k104_113 : en_d 104 113 .ireturn 1 114 := ⟨by decide +kernel, rfl⟩
/-! 105: EndorsedLedgerModel.submit(I)Z -/
theorem k105_0 : en_d 105 0 (.aload_n 0) 1 1 := ⟨by decide +kernel, rfl⟩
theorem k105_1 : en_d 105 1 (.iload_n 1) 1 2 := ⟨by decide +kernel, rfl⟩
theorem k105_2 : en_dv 105 2 101 false 5 := ⟨169, by decide +kernel, by decide +kernel, rfl, by decide +kernel, by decide +kernel⟩
theorem k105_5 : en_j 105 5 (.ifCond .eq) 8 26 := ⟨21, by decide +kernel, by decide, rfl⟩
theorem k105_8 : en_d 105 8 (.aload_n 0) 1 9 := ⟨by decide +kernel, rfl⟩
theorem k105_9 : en_df 105 9 10 12 false true 12 := ⟨43, by decide +kernel, by decide +kernel, by decide +kernel, rfl⟩
theorem k105_12 : en_d 105 12 (.iload_n 1) 1 13 := ⟨by decide +kernel, rfl⟩
theorem k105_13 : en_d 105 13 .iaload 1 14 := ⟨by decide +kernel, rfl⟩
theorem k105_14 : en_j 105 14 (.ifCond .eq) 17 26 := ⟨12, by decide +kernel, by decide, rfl⟩
theorem k105_17 : en_d 105 17 (.aload_n 0) 1 18 := ⟨by decide +kernel, rfl⟩
theorem k105_18 : en_df 105 18 10 25 false false 21 := ⟨188, by decide +kernel, by decide +kernel, by decide +kernel, rfl⟩
theorem k105_21 : en_d 105 21 (.bipush 20) 2 23 := ⟨by decide +kernel, rfl⟩
theorem k105_23 : en_j 105 23 (.if_icmp .ne) 26 28 := ⟨5, by decide +kernel, by decide, rfl⟩
theorem k105_26 : en_d 105 26 (.iconst 0) 1 27 := ⟨by decide +kernel, rfl⟩
theorem k105_27 : en_d 105 27 .ireturn 1 28 := ⟨by decide +kernel, rfl⟩
theorem k105_28 : en_d 105 28 (.aload_n 0) 1 29 := ⟨by decide +kernel, rfl⟩
theorem k105_29 : en_df 105 29 10 24 false true 32 := ⟨74, by decide +kernel, by decide +kernel, by decide +kernel, rfl⟩
theorem k105_32 : en_d 105 32 (.aload_n 0) 1 33 := ⟨by decide +kernel, rfl⟩
theorem k105_33 : en_df 105 33 10 25 false false 36 := ⟨188, by decide +kernel, by decide +kernel, by decide +kernel, rfl⟩
theorem k105_36 : en_d 105 36 (.iload_n 1) 1 37 := ⟨by decide +kernel, rfl⟩
theorem k105_37 : en_d 105 37 .iastore 1 38 := ⟨by decide +kernel, rfl⟩
theorem k105_38 : en_d 105 38 (.aload_n 0) 1 39 := ⟨by decide +kernel, rfl⟩
theorem k105_39 : en_d 105 39 .dup 1 40 := ⟨by decide +kernel, rfl⟩
theorem k105_40 : en_df 105 40 10 25 false false 43 := ⟨188, by decide +kernel, by decide +kernel, by decide +kernel, rfl⟩
theorem k105_43 : en_d 105 43 (.iconst 1) 1 44 := ⟨by decide +kernel, rfl⟩
theorem k105_44 : en_d 105 44 .iadd 1 45 := ⟨by decide +kernel, rfl⟩
theorem k105_45 : en_dp 105 45 10 25 false .int 48 := ⟨188, by decide +kernel, by decide +kernel, by decide +kernel, rfl⟩
theorem k105_48 : en_d 105 48 (.aload_n 0) 1 49 := ⟨by decide +kernel, rfl⟩
theorem k105_49 : en_df 105 49 10 13 false true 52 := ⟨46, by decide +kernel, by decide +kernel, by decide +kernel, rfl⟩
theorem k105_52 : en_d 105 52 (.iload_n 1) 1 53 := ⟨by decide +kernel, rfl⟩
theorem k105_53 : en_d 105 53 (.iconst 1) 1 54 := ⟨by decide +kernel, rfl⟩
theorem k105_54 : en_d 105 54 .bastore 1 55 := ⟨by decide +kernel, rfl⟩
theorem k105_55 : en_d 105 55 (.iconst 1) 1 56 := ⟨by decide +kernel, rfl⟩
theorem k105_56 : en_d 105 56 .ireturn 1 57 := ⟨by decide +kernel, rfl⟩
/-! 106: EndorsedLedgerModel.orderer(I)Z -/
theorem k106_0 : en_d 106 0 (.iload_n 1) 1 1 := ⟨by decide +kernel, rfl⟩
theorem k106_1 : en_j 106 1 (.ifCond .lt) 4 13 := ⟨12, by decide +kernel, by decide, rfl⟩
theorem k106_4 : en_d 106 4 (.iload_n 1) 1 5 := ⟨by decide +kernel, rfl⟩
theorem k106_5 : en_d 106 5 (.iconst 2) 1 6 := ⟨by decide +kernel, rfl⟩
theorem k106_6 : en_j 106 6 (.if_icmp .gt) 9 13 := ⟨7, by decide +kernel, by decide, rfl⟩
theorem k106_9 : en_d 106 9 (.iconst 1) 1 10 := ⟨by decide +kernel, rfl⟩
theorem k106_10 : en_j 106 10 .goto 13 14 := ⟨4, by decide +kernel, by decide, rfl⟩
theorem k106_13 : en_d 106 13 (.iconst 0) 1 14 := ⟨by decide +kernel, rfl⟩
theorem k106_14 : en_d 106 14 .ireturn 1 15 := ⟨by decide +kernel, rfl⟩
/-! 107: EndorsedLedgerModel.last(I)I -/
theorem k107_0 : en_d 107 0 (.aload_n 0) 1 1 := ⟨by decide +kernel, rfl⟩
theorem k107_1 : en_df 107 1 10 33 false true 4 := ⟨95, by decide +kernel, by decide +kernel, by decide +kernel, rfl⟩
theorem k107_4 : en_d 107 4 (.iload_n 1) 1 5 := ⟨by decide +kernel, rfl⟩
theorem k107_5 : en_d 107 5 .iaload 1 6 := ⟨by decide +kernel, rfl⟩
theorem k107_6 : en_j 107 6 (.ifCond .ne) 9 13 := ⟨7, by decide +kernel, by decide, rfl⟩
theorem k107_9 : en_d 107 9 (.iconst 0) 1 10 := ⟨by decide +kernel, rfl⟩
theorem k107_10 : en_j 107 10 .goto 13 36 := ⟨26, by decide +kernel, by decide, rfl⟩
theorem k107_13 : en_d 107 13 (.aload_n 0) 1 14 := ⟨by decide +kernel, rfl⟩
theorem k107_14 : en_df 107 14 10 29 false true 17 := ⟨83, by decide +kernel, by decide +kernel, by decide +kernel, rfl⟩
theorem k107_17 : en_d 107 17 (.aload_n 0) 1 18 := ⟨by decide +kernel, rfl⟩
theorem k107_18 : en_df 107 18 10 32 false true 21 := ⟨92, by decide +kernel, by decide +kernel, by decide +kernel, rfl⟩
theorem k107_21 : en_d 107 21 (.bipush 40) 2 23 := ⟨by decide +kernel, rfl⟩
theorem k107_23 : en_d 107 23 (.iload_n 1) 1 24 := ⟨by decide +kernel, rfl⟩
theorem k107_24 : en_d 107 24 .imul 1 25 := ⟨by decide +kernel, rfl⟩
theorem k107_25 : en_d 107 25 (.aload_n 0) 1 26 := ⟨by decide +kernel, rfl⟩
theorem k107_26 : en_df 107 26 10 33 false true 29 := ⟨95, by decide +kernel, by decide +kernel, by decide +kernel, rfl⟩
theorem k107_29 : en_d 107 29 (.iload_n 1) 1 30 := ⟨by decide +kernel, rfl⟩
theorem k107_30 : en_d 107 30 .iaload 1 31 := ⟨by decide +kernel, rfl⟩
theorem k107_31 : en_d 107 31 .iadd 1 32 := ⟨by decide +kernel, rfl⟩
theorem k107_32 : en_d 107 32 (.iconst 1) 1 33 := ⟨by decide +kernel, rfl⟩
theorem k107_33 : en_d 107 33 .isub 1 34 := ⟨by decide +kernel, rfl⟩
theorem k107_34 : en_d 107 34 .iaload 1 35 := ⟨by decide +kernel, rfl⟩
theorem k107_35 : en_d 107 35 .iaload 1 36 := ⟨by decide +kernel, rfl⟩
theorem k107_36 : en_d 107 36 .ireturn 1 37 := ⟨by decide +kernel, rfl⟩
/-! 108: EndorsedLedgerModel.newer(II)Z -/
theorem k108_0 : en_d 108 0 (.aload_n 0) 1 1 := ⟨by decide +kernel, rfl⟩
theorem k108_1 : en_d 108 1 (.iload_n 1) 1 2 := ⟨by decide +kernel, rfl⟩
theorem k108_2 : en_dv 108 2 107 false 5 := ⟨191, by decide +kernel, by decide +kernel, rfl, by decide +kernel, by decide +kernel⟩
theorem k108_5 : en_d 108 5 (.aload_n 0) 1 6 := ⟨by decide +kernel, rfl⟩
theorem k108_6 : en_d 108 6 (.iload_n 2) 1 7 := ⟨by decide +kernel, rfl⟩
theorem k108_7 : en_dv 108 7 107 false 10 := ⟨191, by decide +kernel, by decide +kernel, rfl, by decide +kernel, by decide +kernel⟩
theorem k108_10 : en_j 108 10 (.if_icmp .gt) 13 41 := ⟨31, by decide +kernel, by decide, rfl⟩
theorem k108_13 : en_d 108 13 (.aload_n 0) 1 14 := ⟨by decide +kernel, rfl⟩
theorem k108_14 : en_d 108 14 (.iload_n 1) 1 15 := ⟨by decide +kernel, rfl⟩
theorem k108_15 : en_dv 108 15 107 false 18 := ⟨191, by decide +kernel, by decide +kernel, rfl, by decide +kernel, by decide +kernel⟩
theorem k108_18 : en_d 108 18 (.aload_n 0) 1 19 := ⟨by decide +kernel, rfl⟩
theorem k108_19 : en_d 108 19 (.iload_n 2) 1 20 := ⟨by decide +kernel, rfl⟩
theorem k108_20 : en_dv 108 20 107 false 23 := ⟨191, by decide +kernel, by decide +kernel, rfl, by decide +kernel, by decide +kernel⟩
theorem k108_23 : en_j 108 23 (.if_icmp .ne) 26 45 := ⟨22, by decide +kernel, by decide, rfl⟩
theorem k108_26 : en_d 108 26 (.aload_n 0) 1 27 := ⟨by decide +kernel, rfl⟩
theorem k108_27 : en_df 108 27 10 33 false true 30 := ⟨95, by decide +kernel, by decide +kernel, by decide +kernel, rfl⟩
theorem k108_30 : en_d 108 30 (.iload_n 1) 1 31 := ⟨by decide +kernel, rfl⟩
theorem k108_31 : en_d 108 31 .iaload 1 32 := ⟨by decide +kernel, rfl⟩
theorem k108_32 : en_d 108 32 (.aload_n 0) 1 33 := ⟨by decide +kernel, rfl⟩
theorem k108_33 : en_df 108 33 10 33 false true 36 := ⟨95, by decide +kernel, by decide +kernel, by decide +kernel, rfl⟩
theorem k108_36 : en_d 108 36 (.iload_n 2) 1 37 := ⟨by decide +kernel, rfl⟩
theorem k108_37 : en_d 108 37 .iaload 1 38 := ⟨by decide +kernel, rfl⟩
theorem k108_38 : en_j 108 38 (.if_icmp .le) 41 45 := ⟨7, by decide +kernel, by decide, rfl⟩
theorem k108_41 : en_d 108 41 (.iconst 1) 1 42 := ⟨by decide +kernel, rfl⟩
theorem k108_42 : en_j 108 42 .goto 45 46 := ⟨4, by decide +kernel, by decide, rfl⟩
theorem k108_45 : en_d 108 45 (.iconst 0) 1 46 := ⟨by decide +kernel, rfl⟩
theorem k108_46 : en_d 108 46 .ireturn 1 47 := ⟨by decide +kernel, rfl⟩
/-! 109: EndorsedLedgerModel.elect(I)I -/
theorem k109_0 : en_d 109 0 (.aload_n 0) 1 1 := ⟨by decide +kernel, rfl⟩
theorem k109_1 : en_d 109 1 (.iload_n 1) 1 2 := ⟨by decide +kernel, rfl⟩
theorem k109_2 : en_dv 109 2 106 false 5 := ⟨194, by decide +kernel, by decide +kernel, rfl, by decide +kernel, by decide +kernel⟩
theorem k109_5 : en_j 109 5 (.ifCond .eq) 8 17 := ⟨12, by decide +kernel, by decide, rfl⟩
theorem k109_8 : en_d 109 8 (.aload_n 0) 1 9 := ⟨by decide +kernel, rfl⟩
theorem k109_9 : en_df 109 9 10 30 false true 12 := ⟨86, by decide +kernel, by decide +kernel, by decide +kernel, rfl⟩
theorem k109_12 : en_d 109 12 (.iload_n 1) 1 13 := ⟨by decide +kernel, rfl⟩
theorem k109_13 : en_d 109 13 .baload 1 14 := ⟨by decide +kernel, rfl⟩
theorem k109_14 : en_j 109 14 (.ifCond .eq) 17 19 := ⟨5, by decide +kernel, by decide, rfl⟩
theorem k109_17 : en_d 109 17 (.iconst (-1)) 1 18 := ⟨by decide +kernel, rfl⟩
theorem k109_18 : en_d 109 18 .ireturn 1 19 := ⟨by decide +kernel, rfl⟩
theorem k109_19 : en_d 109 19 (.iconst 0) 1 20 := ⟨by decide +kernel, rfl⟩
theorem k109_20 : en_d 109 20 (.istore_n 2) 1 21 := ⟨by decide +kernel, rfl⟩
theorem k109_21 : en_d 109 21 (.iconst 0) 1 22 := ⟨by decide +kernel, rfl⟩
theorem k109_22 : en_d 109 22 (.istore_n 3) 1 23 := ⟨by decide +kernel, rfl⟩
theorem k109_23 : en_d 109 23 (.iconst 0) 1 24 := ⟨by decide +kernel, rfl⟩
theorem k109_24 : en_d 109 24 (.istore 4) 2 26 := ⟨by decide +kernel, rfl⟩
theorem k109_26 : en_d 109 26 (.iload 4) 2 28 := ⟨by decide +kernel, rfl⟩
theorem k109_28 : en_d 109 28 (.iconst 3) 1 29 := ⟨by decide +kernel, rfl⟩
theorem k109_29 : en_j 109 29 (.if_icmp .ge) 32 99 := ⟨70, by decide +kernel, by decide, rfl⟩
theorem k109_32 : en_d 109 32 (.iload_n 2) 1 33 := ⟨by decide +kernel, rfl⟩
theorem k109_33 : en_d 109 33 (.aload_n 0) 1 34 := ⟨by decide +kernel, rfl⟩
theorem k109_34 : en_df 109 34 10 30 false true 37 := ⟨86, by decide +kernel, by decide +kernel, by decide +kernel, rfl⟩
theorem k109_37 : en_d 109 37 (.iload 4) 2 39 := ⟨by decide +kernel, rfl⟩
theorem k109_39 : en_d 109 39 .baload 1 40 := ⟨by decide +kernel, rfl⟩
theorem k109_40 : en_j 109 40 (.ifCond .ne) 43 57 := ⟨17, by decide +kernel, by decide, rfl⟩
theorem k109_43 : en_d 109 43 (.aload_n 0) 1 44 := ⟨by decide +kernel, rfl⟩
theorem k109_44 : en_d 109 44 (.iload 4) 2 46 := ⟨by decide +kernel, rfl⟩
theorem k109_46 : en_d 109 46 (.iload_n 1) 1 47 := ⟨by decide +kernel, rfl⟩
theorem k109_47 : en_dv 109 47 108 false 50 := ⟨197, by decide +kernel, by decide +kernel, rfl, by decide +kernel, by decide +kernel⟩
theorem k109_50 : en_j 109 50 (.ifCond .ne) 53 57 := ⟨7, by decide +kernel, by decide, rfl⟩
theorem k109_53 : en_d 109 53 (.iconst 1) 1 54 := ⟨by decide +kernel, rfl⟩
theorem k109_54 : en_j 109 54 .goto 57 58 := ⟨4, by decide +kernel, by decide, rfl⟩
theorem k109_57 : en_d 109 57 (.iconst 0) 1 58 := ⟨by decide +kernel, rfl⟩
theorem k109_58 : en_d 109 58 .iadd 1 59 := ⟨by decide +kernel, rfl⟩
theorem k109_59 : en_d 109 59 (.istore_n 2) 1 60 := ⟨by decide +kernel, rfl⟩
theorem k109_60 : en_d 109 60 (.aload_n 0) 1 61 := ⟨by decide +kernel, rfl⟩
theorem k109_61 : en_df 109 61 10 30 false true 64 := ⟨86, by decide +kernel, by decide +kernel, by decide +kernel, rfl⟩
theorem k109_64 : en_d 109 64 (.iload 4) 2 66 := ⟨by decide +kernel, rfl⟩
theorem k109_66 : en_d 109 66 .baload 1 67 := ⟨by decide +kernel, rfl⟩
theorem k109_67 : en_j 109 67 (.ifCond .ne) 70 91 := ⟨24, by decide +kernel, by decide, rfl⟩
theorem k109_70 : en_d 109 70 (.aload_n 0) 1 71 := ⟨by decide +kernel, rfl⟩
theorem k109_71 : en_df 109 71 10 31 false true 74 := ⟨89, by decide +kernel, by decide +kernel, by decide +kernel, rfl⟩
theorem k109_74 : en_d 109 74 (.iload 4) 2 76 := ⟨by decide +kernel, rfl⟩
theorem k109_76 : en_d 109 76 .iaload 1 77 := ⟨by decide +kernel, rfl⟩
theorem k109_77 : en_d 109 77 (.iload_n 3) 1 78 := ⟨by decide +kernel, rfl⟩
theorem k109_78 : en_j 109 78 (.if_icmp .le) 81 91 := ⟨13, by decide +kernel, by decide, rfl⟩
theorem k109_81 : en_d 109 81 (.aload_n 0) 1 82 := ⟨by decide +kernel, rfl⟩
theorem k109_82 : en_df 109 82 10 31 false true 85 := ⟨89, by decide +kernel, by decide +kernel, by decide +kernel, rfl⟩
theorem k109_85 : en_d 109 85 (.iload 4) 2 87 := ⟨by decide +kernel, rfl⟩
theorem k109_87 : en_d 109 87 .iaload 1 88 := ⟨by decide +kernel, rfl⟩
theorem k109_88 : en_j 109 88 .goto 91 92 := ⟨4, by decide +kernel, by decide, rfl⟩
theorem k109_91 : en_d 109 91 (.iload_n 3) 1 92 := ⟨by decide +kernel, rfl⟩
theorem k109_92 : en_d 109 92 (.istore_n 3) 1 93 := ⟨by decide +kernel, rfl⟩
theorem k109_93 : en_d 109 93 (.iinc 4 1) 3 96 := ⟨by decide +kernel, rfl⟩
theorem k109_96 : en_j 109 96 .goto 99 26 := ⟨(-70), by decide +kernel, by decide, rfl⟩
theorem k109_99 : en_d 109 99 (.iload_n 2) 1 100 := ⟨by decide +kernel, rfl⟩
theorem k109_100 : en_d 109 100 (.iconst 2) 1 101 := ⟨by decide +kernel, rfl⟩
theorem k109_101 : en_j 109 101 (.if_icmp .ge) 104 106 := ⟨5, by decide +kernel, by decide, rfl⟩
theorem k109_104 : en_d 109 104 (.iconst (-1)) 1 105 := ⟨by decide +kernel, rfl⟩
theorem k109_105 : en_d 109 105 .ireturn 1 106 := ⟨by decide +kernel, rfl⟩
theorem k109_106 : en_d 109 106 (.aload_n 0) 1 107 := ⟨by decide +kernel, rfl⟩
theorem k109_107 : en_d 109 107 (.iload_n 1) 1 108 := ⟨by decide +kernel, rfl⟩
theorem k109_108 : en_dp 109 108 10 34 false .int 111 := ⟨98, by decide +kernel, by decide +kernel, by decide +kernel, rfl⟩
theorem k109_111 : en_d 109 111 (.iconst 0) 1 112 := ⟨by decide +kernel, rfl⟩
theorem k109_112 : en_d 109 112 (.istore 4) 2 114 := ⟨by decide +kernel, rfl⟩
theorem k109_114 : en_d 109 114 (.iload 4) 2 116 := ⟨by decide +kernel, rfl⟩
theorem k109_116 : en_d 109 116 (.iconst 3) 1 117 := ⟨by decide +kernel, rfl⟩
theorem k109_117 : en_j 109 117 (.if_icmp .ge) 120 156 := ⟨39, by decide +kernel, by decide, rfl⟩
theorem k109_120 : en_d 109 120 (.aload_n 0) 1 121 := ⟨by decide +kernel, rfl⟩
theorem k109_121 : en_df 109 121 10 31 false true 124 := ⟨89, by decide +kernel, by decide +kernel, by decide +kernel, rfl⟩
theorem k109_124 : en_d 109 124 (.iload 4) 2 126 := ⟨by decide +kernel, rfl⟩
theorem k109_126 : en_d 109 126 (.aload_n 0) 1 127 := ⟨by decide +kernel, rfl⟩
theorem k109_127 : en_df 109 127 10 30 false true 130 := ⟨86, by decide +kernel, by decide +kernel, by decide +kernel, rfl⟩
theorem k109_130 : en_d 109 130 (.iload 4) 2 132 := ⟨by decide +kernel, rfl⟩
theorem k109_132 : en_d 109 132 .baload 1 133 := ⟨by decide +kernel, rfl⟩
theorem k109_133 : en_j 109 133 (.ifCond .eq) 136 146 := ⟨13, by decide +kernel, by decide, rfl⟩
theorem k109_136 : en_d 109 136 (.aload_n 0) 1 137 := ⟨by decide +kernel, rfl⟩
theorem k109_137 : en_df 109 137 10 31 false true 140 := ⟨89, by decide +kernel, by decide +kernel, by decide +kernel, rfl⟩
theorem k109_140 : en_d 109 140 (.iload 4) 2 142 := ⟨by decide +kernel, rfl⟩
theorem k109_142 : en_d 109 142 .iaload 1 143 := ⟨by decide +kernel, rfl⟩
theorem k109_143 : en_j 109 143 .goto 146 149 := ⟨6, by decide +kernel, by decide, rfl⟩
theorem k109_146 : en_d 109 146 (.iload_n 3) 1 147 := ⟨by decide +kernel, rfl⟩
theorem k109_147 : en_d 109 147 (.iconst 1) 1 148 := ⟨by decide +kernel, rfl⟩
theorem k109_148 : en_d 109 148 .iadd 1 149 := ⟨by decide +kernel, rfl⟩
theorem k109_149 : en_d 109 149 .iastore 1 150 := ⟨by decide +kernel, rfl⟩
theorem k109_150 : en_d 109 150 (.iinc 4 1) 3 153 := ⟨by decide +kernel, rfl⟩
theorem k109_153 : en_j 109 153 .goto 156 114 := ⟨(-39), by decide +kernel, by decide, rfl⟩
theorem k109_156 : en_d 109 156 (.iload_n 3) 1 157 := ⟨by decide +kernel, rfl⟩
theorem k109_157 : en_d 109 157 (.iconst 1) 1 158 := ⟨by decide +kernel, rfl⟩
theorem k109_158 : en_d 109 158 .iadd 1 159 := ⟨by decide +kernel, rfl⟩
theorem k109_159 : en_d 109 159 .ireturn 1 160 := ⟨by decide +kernel, rfl⟩
/-! 110: EndorsedLedgerModel.cut(I)I -/
theorem k110_0 : en_d 110 0 (.aload_n 0) 1 1 := ⟨by decide +kernel, rfl⟩
theorem k110_1 : en_d 110 1 (.iload_n 1) 1 2 := ⟨by decide +kernel, rfl⟩
theorem k110_2 : en_dv 110 2 106 false 5 := ⟨194, by decide +kernel, by decide +kernel, rfl, by decide +kernel, by decide +kernel⟩
theorem k110_5 : en_j 110 5 (.ifCond .eq) 8 43 := ⟨38, by decide +kernel, by decide, rfl⟩
theorem k110_8 : en_d 110 8 (.iload_n 1) 1 9 := ⟨by decide +kernel, rfl⟩
theorem k110_9 : en_d 110 9 (.aload_n 0) 1 10 := ⟨by decide +kernel, rfl⟩
theorem k110_10 : en_df 110 10 10 34 false false 13 := ⟨98, by decide +kernel, by decide +kernel, by decide +kernel, rfl⟩
theorem k110_13 : en_j 110 13 (.if_icmp .ne) 16 43 := ⟨30, by decide +kernel, by decide, rfl⟩
theorem k110_16 : en_d 110 16 (.aload_n 0) 1 17 := ⟨by decide +kernel, rfl⟩
theorem k110_17 : en_df 110 17 10 25 false false 20 := ⟨188, by decide +kernel, by decide +kernel, by decide +kernel, rfl⟩
theorem k110_20 : en_j 110 20 (.ifCond .eq) 23 43 := ⟨23, by decide +kernel, by decide, rfl⟩
theorem k110_23 : en_d 110 23 (.aload_n 0) 1 24 := ⟨by decide +kernel, rfl⟩
theorem k110_24 : en_df 110 24 10 33 false true 27 := ⟨95, by decide +kernel, by decide +kernel, by decide +kernel, rfl⟩
theorem k110_27 : en_d 110 27 (.iload_n 1) 1 28 := ⟨by decide +kernel, rfl⟩
theorem k110_28 : en_d 110 28 .iaload 1 29 := ⟨by decide +kernel, rfl⟩
theorem k110_29 : en_d 110 29 (.bipush 40) 2 31 := ⟨by decide +kernel, rfl⟩
theorem k110_31 : en_j 110 31 (.if_icmp .eq) 34 43 := ⟨12, by decide +kernel, by decide, rfl⟩
theorem k110_34 : en_d 110 34 (.aload_n 0) 1 35 := ⟨by decide +kernel, rfl⟩
theorem k110_35 : en_df 110 35 10 26 false false 38 := ⟨200, by decide +kernel, by decide +kernel, by decide +kernel, rfl⟩
theorem k110_38 : en_d 110 38 (.bipush 60) 2 40 := ⟨by decide +kernel, rfl⟩
theorem k110_40 : en_j 110 40 (.if_icmp .ne) 43 45 := ⟨5, by decide +kernel, by decide, rfl⟩
theorem k110_43 : en_d 110 43 (.iconst (-1)) 1 44 := ⟨by decide +kernel, rfl⟩
theorem k110_44 : en_d 110 44 .ireturn 1 45 := ⟨by decide +kernel, rfl⟩
theorem k110_45 : en_d 110 45 (.aload_n 0) 1 46 := ⟨by decide +kernel, rfl⟩
theorem k110_46 : en_df 110 46 10 25 false false 49 := ⟨188, by decide +kernel, by decide +kernel, by decide +kernel, rfl⟩
theorem k110_49 : en_d 110 49 (.iconst 4) 1 50 := ⟨by decide +kernel, rfl⟩
theorem k110_50 : en_j 110 50 (.if_icmp .ge) 53 60 := ⟨10, by decide +kernel, by decide, rfl⟩
theorem k110_53 : en_d 110 53 (.aload_n 0) 1 54 := ⟨by decide +kernel, rfl⟩
theorem k110_54 : en_df 110 54 10 25 false false 57 := ⟨188, by decide +kernel, by decide +kernel, by decide +kernel, rfl⟩
theorem k110_57 : en_j 110 57 .goto 60 61 := ⟨4, by decide +kernel, by decide, rfl⟩
theorem k110_60 : en_d 110 60 (.iconst 4) 1 61 := ⟨by decide +kernel, rfl⟩
theorem k110_61 : en_d 110 61 (.istore_n 2) 1 62 := ⟨by decide +kernel, rfl⟩
theorem k110_62 : en_d 110 62 (.iconst 0) 1 63 := ⟨by decide +kernel, rfl⟩
theorem k110_63 : en_d 110 63 (.istore_n 3) 1 64 := ⟨by decide +kernel, rfl⟩
theorem k110_64 : en_d 110 64 (.iload_n 3) 1 65 := ⟨by decide +kernel, rfl⟩
theorem k110_65 : en_d 110 65 (.iload_n 2) 1 66 := ⟨by decide +kernel, rfl⟩
theorem k110_66 : en_j 110 66 (.if_icmp .ge) 69 94 := ⟨28, by decide +kernel, by decide, rfl⟩
theorem k110_69 : en_d 110 69 (.aload_n 0) 1 70 := ⟨by decide +kernel, rfl⟩
theorem k110_70 : en_df 110 70 10 27 false true 73 := ⟨77, by decide +kernel, by decide +kernel, by decide +kernel, rfl⟩
theorem k110_73 : en_d 110 73 (.iconst 4) 1 74 := ⟨by decide +kernel, rfl⟩
theorem k110_74 : en_d 110 74 (.aload_n 0) 1 75 := ⟨by decide +kernel, rfl⟩
theorem k110_75 : en_df 110 75 10 26 false false 78 := ⟨200, by decide +kernel, by decide +kernel, by decide +kernel, rfl⟩
theorem k110_78 : en_d 110 78 .imul 1 79 := ⟨by decide +kernel, rfl⟩
theorem k110_79 : en_d 110 79 (.iload_n 3) 1 80 := ⟨by decide +kernel, rfl⟩
theorem k110_80 : en_d 110 80 .iadd 1 81 := ⟨by decide +kernel, rfl⟩
theorem k110_81 : en_d 110 81 (.aload_n 0) 1 82 := ⟨by decide +kernel, rfl⟩
theorem k110_82 : en_df 110 82 10 24 false true 85 := ⟨74, by decide +kernel, by decide +kernel, by decide +kernel, rfl⟩
theorem k110_85 : en_d 110 85 (.iload_n 3) 1 86 := ⟨by decide +kernel, rfl⟩
theorem k110_86 : en_d 110 86 .iaload 1 87 := ⟨by decide +kernel, rfl⟩
theorem k110_87 : en_d 110 87 .iastore 1 88 := ⟨by decide +kernel, rfl⟩
theorem k110_88 : en_d 110 88 (.iinc 3 1) 3 91 := ⟨by decide +kernel, rfl⟩
theorem k110_91 : en_j 110 91 .goto 94 64 := ⟨(-27), by decide +kernel, by decide, rfl⟩
theorem k110_94 : en_d 110 94 (.iload_n 2) 1 95 := ⟨by decide +kernel, rfl⟩
theorem k110_95 : en_d 110 95 (.istore_n 3) 1 96 := ⟨by decide +kernel, rfl⟩
theorem k110_96 : en_d 110 96 (.iload_n 3) 1 97 := ⟨by decide +kernel, rfl⟩
theorem k110_97 : en_d 110 97 (.aload_n 0) 1 98 := ⟨by decide +kernel, rfl⟩
theorem k110_98 : en_df 110 98 10 25 false false 101 := ⟨188, by decide +kernel, by decide +kernel, by decide +kernel, rfl⟩
theorem k110_101 : en_j 110 101 (.if_icmp .ge) 104 124 := ⟨23, by decide +kernel, by decide, rfl⟩
theorem k110_104 : en_d 110 104 (.aload_n 0) 1 105 := ⟨by decide +kernel, rfl⟩
theorem k110_105 : en_df 110 105 10 24 false true 108 := ⟨74, by decide +kernel, by decide +kernel, by decide +kernel, rfl⟩
theorem k110_108 : en_d 110 108 (.iload_n 3) 1 109 := ⟨by decide +kernel, rfl⟩
theorem k110_109 : en_d 110 109 (.iload_n 2) 1 110 := ⟨by decide +kernel, rfl⟩
theorem k110_110 : en_d 110 110 .isub 1 111 := ⟨by decide +kernel, rfl⟩
theorem k110_111 : en_d 110 111 (.aload_n 0) 1 112 := ⟨by decide +kernel, rfl⟩
theorem k110_112 : en_df 110 112 10 24 false true 115 := ⟨74, by decide +kernel, by decide +kernel, by decide +kernel, rfl⟩
theorem k110_115 : en_d 110 115 (.iload_n 3) 1 116 := ⟨by decide +kernel, rfl⟩
theorem k110_116 : en_d 110 116 .iaload 1 117 := ⟨by decide +kernel, rfl⟩
theorem k110_117 : en_d 110 117 .iastore 1 118 := ⟨by decide +kernel, rfl⟩
theorem k110_118 : en_d 110 118 (.iinc 3 1) 3 121 := ⟨by decide +kernel, rfl⟩
theorem k110_121 : en_j 110 121 .goto 124 96 := ⟨(-25), by decide +kernel, by decide, rfl⟩
theorem k110_124 : en_d 110 124 (.aload_n 0) 1 125 := ⟨by decide +kernel, rfl⟩
theorem k110_125 : en_d 110 125 .dup 1 126 := ⟨by decide +kernel, rfl⟩
theorem k110_126 : en_df 110 126 10 25 false false 129 := ⟨188, by decide +kernel, by decide +kernel, by decide +kernel, rfl⟩
theorem k110_129 : en_d 110 129 (.iload_n 2) 1 130 := ⟨by decide +kernel, rfl⟩
theorem k110_130 : en_d 110 130 .isub 1 131 := ⟨by decide +kernel, rfl⟩
theorem k110_131 : en_dp 110 131 10 25 false .int 134 := ⟨188, by decide +kernel, by decide +kernel, by decide +kernel, rfl⟩
theorem k110_134 : en_d 110 134 (.aload_n 0) 1 135 := ⟨by decide +kernel, rfl⟩
theorem k110_135 : en_df 110 135 10 28 false true 138 := ⟨80, by decide +kernel, by decide +kernel, by decide +kernel, rfl⟩
theorem k110_138 : en_d 110 138 (.aload_n 0) 1 139 := ⟨by decide +kernel, rfl⟩
theorem k110_139 : en_df 110 139 10 26 false false 142 := ⟨200, by decide +kernel, by decide +kernel, by decide +kernel, rfl⟩
theorem k110_142 : en_d 110 142 (.iload_n 2) 1 143 := ⟨by decide +kernel, rfl⟩
theorem k110_143 : en_d 110 143 .iastore 1 144 := ⟨by decide +kernel, rfl⟩
theorem k110_144 : en_d 110 144 (.aload_n 0) 1 145 := ⟨by decide +kernel, rfl⟩
theorem k110_145 : en_df 110 145 10 29 false true 148 := ⟨83, by decide +kernel, by decide +kernel, by decide +kernel, rfl⟩
theorem k110_148 : en_d 110 148 (.aload_n 0) 1 149 := ⟨by decide +kernel, rfl⟩
theorem k110_149 : en_df 110 149 10 26 false false 152 := ⟨200, by decide +kernel, by decide +kernel, by decide +kernel, rfl⟩
theorem k110_152 : en_d 110 152 (.aload_n 0) 1 153 := ⟨by decide +kernel, rfl⟩
theorem k110_153 : en_df 110 153 10 31 false true 156 := ⟨89, by decide +kernel, by decide +kernel, by decide +kernel, rfl⟩
theorem k110_156 : en_d 110 156 (.iload_n 1) 1 157 := ⟨by decide +kernel, rfl⟩
theorem k110_157 : en_d 110 157 .iaload 1 158 := ⟨by decide +kernel, rfl⟩
theorem k110_158 : en_d 110 158 .iastore 1 159 := ⟨by decide +kernel, rfl⟩
theorem k110_159 : en_d 110 159 (.aload_n 0) 1 160 := ⟨by decide +kernel, rfl⟩
theorem k110_160 : en_df 110 160 10 32 false true 163 := ⟨92, by decide +kernel, by decide +kernel, by decide +kernel, rfl⟩
theorem k110_163 : en_d 110 163 (.bipush 40) 2 165 := ⟨by decide +kernel, rfl⟩
theorem k110_165 : en_d 110 165 (.iload_n 1) 1 166 := ⟨by decide +kernel, rfl⟩
theorem k110_166 : en_d 110 166 .imul 1 167 := ⟨by decide +kernel, rfl⟩
theorem k110_167 : en_d 110 167 (.aload_n 0) 1 168 := ⟨by decide +kernel, rfl⟩
theorem k110_168 : en_df 110 168 10 33 false true 171 := ⟨95, by decide +kernel, by decide +kernel, by decide +kernel, rfl⟩
theorem k110_171 : en_d 110 171 (.iload_n 1) 1 172 := ⟨by decide +kernel, rfl⟩
theorem k110_172 : en_d 110 172 .iaload 1 173 := ⟨by decide +kernel, rfl⟩
theorem k110_173 : en_d 110 173 .iadd 1 174 := ⟨by decide +kernel, rfl⟩
theorem k110_174 : en_d 110 174 (.aload_n 0) 1 175 := ⟨by decide +kernel, rfl⟩
theorem k110_175 : en_df 110 175 10 26 false false 178 := ⟨200, by decide +kernel, by decide +kernel, by decide +kernel, rfl⟩
theorem k110_178 : en_d 110 178 .iastore 1 179 := ⟨by decide +kernel, rfl⟩
theorem k110_179 : en_d 110 179 (.aload_n 0) 1 180 := ⟨by decide +kernel, rfl⟩
theorem k110_180 : en_df 110 180 10 33 false true 183 := ⟨95, by decide +kernel, by decide +kernel, by decide +kernel, rfl⟩
theorem k110_183 : en_d 110 183 (.iload_n 1) 1 184 := ⟨by decide +kernel, rfl⟩
theorem k110_184 : en_d 110 184 .dup2 1 185 := ⟨by decide +kernel, rfl⟩
theorem k110_185 : en_d 110 185 .iaload 1 186 := ⟨by decide +kernel, rfl⟩
theorem k110_186 : en_d 110 186 (.iconst 1) 1 187 := ⟨by decide +kernel, rfl⟩
theorem k110_187 : en_d 110 187 .iadd 1 188 := ⟨by decide +kernel, rfl⟩
theorem k110_188 : en_d 110 188 .iastore 1 189 := ⟨by decide +kernel, rfl⟩
theorem k110_189 : en_d 110 189 (.aload_n 0) 1 190 := ⟨by decide +kernel, rfl⟩
theorem k110_190 : en_d 110 190 .dup 1 191 := ⟨by decide +kernel, rfl⟩
theorem k110_191 : en_df 110 191 10 26 false false 194 := ⟨200, by decide +kernel, by decide +kernel, by decide +kernel, rfl⟩
theorem k110_194 : en_d 110 194 (.iconst 1) 1 195 := ⟨by decide +kernel, rfl⟩
theorem k110_195 : en_d 110 195 .iadd 1 196 := ⟨by decide +kernel, rfl⟩
theorem k110_196 : en_dp 110 196 10 26 false .int 199 := ⟨200, by decide +kernel, by decide +kernel, by decide +kernel, rfl⟩
theorem k110_199 : en_d 110 199 (.iload_n 2) 1 200 := ⟨by decide +kernel, rfl⟩
theorem k110_200 : en_d 110 200 .ireturn 1 201 := ⟨by decide +kernel, rfl⟩
/-! 111: EndorsedLedgerModel.copy(II)I -/
theorem k111_0 : en_d 111 0 (.aload_n 0) 1 1 := ⟨by decide +kernel, rfl⟩
theorem k111_1 : en_d 111 1 (.iload_n 1) 1 2 := ⟨by decide +kernel, rfl⟩
theorem k111_2 : en_dv 111 2 106 false 5 := ⟨194, by decide +kernel, by decide +kernel, rfl, by decide +kernel, by decide +kernel⟩
theorem k111_5 : en_j 111 5 (.ifCond .eq) 8 38 := ⟨33, by decide +kernel, by decide, rfl⟩
theorem k111_8 : en_d 111 8 (.aload_n 0) 1 9 := ⟨by decide +kernel, rfl⟩
theorem k111_9 : en_d 111 9 (.iload_n 2) 1 10 := ⟨by decide +kernel, rfl⟩
theorem k111_10 : en_dv 111 10 106 false 13 := ⟨194, by decide +kernel, by decide +kernel, rfl, by decide +kernel, by decide +kernel⟩
theorem k111_13 : en_j 111 13 (.ifCond .eq) 16 38 := ⟨25, by decide +kernel, by decide, rfl⟩
theorem k111_16 : en_d 111 16 (.iload_n 1) 1 17 := ⟨by decide +kernel, rfl⟩
theorem k111_17 : en_d 111 17 (.iload_n 2) 1 18 := ⟨by decide +kernel, rfl⟩
theorem k111_18 : en_j 111 18 (.if_icmp .eq) 21 38 := ⟨20, by decide +kernel, by decide, rfl⟩
theorem k111_21 : en_d 111 21 (.iload_n 1) 1 22 := ⟨by decide +kernel, rfl⟩
theorem k111_22 : en_d 111 22 (.aload_n 0) 1 23 := ⟨by decide +kernel, rfl⟩
theorem k111_23 : en_df 111 23 10 34 false false 26 := ⟨98, by decide +kernel, by decide +kernel, by decide +kernel, rfl⟩
theorem k111_26 : en_j 111 26 (.if_icmp .ne) 29 38 := ⟨12, by decide +kernel, by decide, rfl⟩
theorem k111_29 : en_d 111 29 (.aload_n 0) 1 30 := ⟨by decide +kernel, rfl⟩
theorem k111_30 : en_df 111 30 10 30 false true 33 := ⟨86, by decide +kernel, by decide +kernel, by decide +kernel, rfl⟩
theorem k111_33 : en_d 111 33 (.iload_n 2) 1 34 := ⟨by decide +kernel, rfl⟩
theorem k111_34 : en_d 111 34 .baload 1 35 := ⟨by decide +kernel, rfl⟩
theorem k111_35 : en_j 111 35 (.ifCond .eq) 38 40 := ⟨5, by decide +kernel, by decide, rfl⟩
theorem k111_38 : en_d 111 38 (.iconst (-1)) 1 39 := ⟨by decide +kernel, rfl⟩
theorem k111_39 : en_d 111 39 .ireturn 1 40 := ⟨by decide +kernel, rfl⟩
theorem k111_40 : en_d 111 40 (.iconst 0) 1 41 := ⟨by decide +kernel, rfl⟩
theorem k111_41 : en_d 111 41 (.istore_n 3) 1 42 := ⟨by decide +kernel, rfl⟩
theorem k111_42 : en_d 111 42 (.iload_n 3) 1 43 := ⟨by decide +kernel, rfl⟩
theorem k111_43 : en_d 111 43 (.aload_n 0) 1 44 := ⟨by decide +kernel, rfl⟩
theorem k111_44 : en_df 111 44 10 33 false true 47 := ⟨95, by decide +kernel, by decide +kernel, by decide +kernel, rfl⟩
theorem k111_47 : en_d 111 47 (.iload_n 1) 1 48 := ⟨by decide +kernel, rfl⟩
theorem k111_48 : en_d 111 48 .iaload 1 49 := ⟨by decide +kernel, rfl⟩
theorem k111_49 : en_j 111 49 (.if_icmp .ge) 52 93 := ⟨44, by decide +kernel, by decide, rfl⟩
theorem k111_52 : en_d 111 52 (.iload_n 3) 1 53 := ⟨by decide +kernel, rfl⟩
theorem k111_53 : en_d 111 53 (.aload_n 0) 1 54 := ⟨by decide +kernel, rfl⟩
theorem k111_54 : en_df 111 54 10 33 false true 57 := ⟨95, by decide +kernel, by decide +kernel, by decide +kernel, rfl⟩
theorem k111_57 : en_d 111 57 (.iload_n 2) 1 58 := ⟨by decide +kernel, rfl⟩
theorem k111_58 : en_d 111 58 .iaload 1 59 := ⟨by decide +kernel, rfl⟩
theorem k111_59 : en_j 111 59 (.if_icmp .ge) 62 93 := ⟨34, by decide +kernel, by decide, rfl⟩
theorem k111_62 : en_d 111 62 (.aload_n 0) 1 63 := ⟨by decide +kernel, rfl⟩
theorem k111_63 : en_df 111 63 10 32 false true 66 := ⟨92, by decide +kernel, by decide +kernel, by decide +kernel, rfl⟩
theorem k111_66 : en_d 111 66 (.bipush 40) 2 68 := ⟨by decide +kernel, rfl⟩
theorem k111_68 : en_d 111 68 (.iload_n 1) 1 69 := ⟨by decide +kernel, rfl⟩
theorem k111_69 : en_d 111 69 .imul 1 70 := ⟨by decide +kernel, rfl⟩
theorem k111_70 : en_d 111 70 (.iload_n 3) 1 71 := ⟨by decide +kernel, rfl⟩
theorem k111_71 : en_d 111 71 .iadd 1 72 := ⟨by decide +kernel, rfl⟩
theorem k111_72 : en_d 111 72 .iaload 1 73 := ⟨by decide +kernel, rfl⟩
theorem k111_73 : en_d 111 73 (.aload_n 0) 1 74 := ⟨by decide +kernel, rfl⟩
theorem k111_74 : en_df 111 74 10 32 false true 77 := ⟨92, by decide +kernel, by decide +kernel, by decide +kernel, rfl⟩
theorem k111_77 : en_d 111 77 (.bipush 40) 2 79 := ⟨by decide +kernel, rfl⟩
theorem k111_79 : en_d 111 79 (.iload_n 2) 1 80 := ⟨by decide +kernel, rfl⟩
theorem k111_80 : en_d 111 80 .imul 1 81 := ⟨by decide +kernel, rfl⟩
theorem k111_81 : en_d 111 81 (.iload_n 3) 1 82 := ⟨by decide +kernel, rfl⟩
theorem k111_82 : en_d 111 82 .iadd 1 83 := ⟨by decide +kernel, rfl⟩
theorem k111_83 : en_d 111 83 .iaload 1 84 := ⟨by decide +kernel, rfl⟩
theorem k111_84 : en_j 111 84 (.if_icmp .ne) 87 93 := ⟨9, by decide +kernel, by decide, rfl⟩
theorem k111_87 : en_d 111 87 (.iinc 3 1) 3 90 := ⟨by decide +kernel, rfl⟩
theorem k111_90 : en_j 111 90 .goto 93 42 := ⟨(-48), by decide +kernel, by decide, rfl⟩
theorem k111_93 : en_d 111 93 (.aload_n 0) 1 94 := ⟨by decide +kernel, rfl⟩
theorem k111_94 : en_df 111 94 10 33 false true 97 := ⟨95, by decide +kernel, by decide +kernel, by decide +kernel, rfl⟩
theorem k111_97 : en_d 111 97 (.iload_n 1) 1 98 := ⟨by decide +kernel, rfl⟩
theorem k111_98 : en_d 111 98 .iaload 1 99 := ⟨by decide +kernel, rfl⟩
theorem k111_99 : en_d 111 99 (.iload_n 3) 1 100 := ⟨by decide +kernel, rfl⟩
theorem k111_100 : en_j 111 100 (.if_icmp .le) 103 107 := ⟨7, by decide +kernel, by decide, rfl⟩
theorem k111_103 : en_d 111 103 (.iconst 1) 1 104 := ⟨by decide +kernel, rfl⟩
theorem k111_104 : en_j 111 104 .goto 107 108 := ⟨4, by decide +kernel, by decide, rfl⟩
theorem k111_107 : en_d 111 107 (.iconst 0) 1 108 := ⟨by decide +kernel, rfl⟩
theorem k111_108 : en_d 111 108 (.istore 4) 2 110 := ⟨by decide +kernel, rfl⟩
theorem k111_110 : en_d 111 110 (.iload 4) 2 112 := ⟨by decide +kernel, rfl⟩
theorem k111_112 : en_d 111 112 (.iconst 1) 1 113 := ⟨by decide +kernel, rfl⟩
theorem k111_113 : en_j 111 113 (.if_icmp .ne) 116 147 := ⟨34, by decide +kernel, by decide, rfl⟩
theorem k111_116 : en_d 111 116 (.aload_n 0) 1 117 := ⟨by decide +kernel, rfl⟩
theorem k111_117 : en_df 111 117 10 32 false true 120 := ⟨92, by decide +kernel, by decide +kernel, by decide +kernel, rfl⟩
theorem k111_120 : en_d 111 120 (.bipush 40) 2 122 := ⟨by decide +kernel, rfl⟩
theorem k111_122 : en_d 111 122 (.iload_n 2) 1 123 := ⟨by decide +kernel, rfl⟩
theorem k111_123 : en_d 111 123 .imul 1 124 := ⟨by decide +kernel, rfl⟩
theorem k111_124 : en_d 111 124 (.iload_n 3) 1 125 := ⟨by decide +kernel, rfl⟩
theorem k111_125 : en_d 111 125 .iadd 1 126 := ⟨by decide +kernel, rfl⟩
theorem k111_126 : en_d 111 126 (.aload_n 0) 1 127 := ⟨by decide +kernel, rfl⟩
theorem k111_127 : en_df 111 127 10 32 false true 130 := ⟨92, by decide +kernel, by decide +kernel, by decide +kernel, rfl⟩
theorem k111_130 : en_d 111 130 (.bipush 40) 2 132 := ⟨by decide +kernel, rfl⟩
theorem k111_132 : en_d 111 132 (.iload_n 1) 1 133 := ⟨by decide +kernel, rfl⟩
theorem k111_133 : en_d 111 133 .imul 1 134 := ⟨by decide +kernel, rfl⟩
theorem k111_134 : en_d 111 134 (.iload_n 3) 1 135 := ⟨by decide +kernel, rfl⟩
theorem k111_135 : en_d 111 135 .iadd 1 136 := ⟨by decide +kernel, rfl⟩
theorem k111_136 : en_d 111 136 .iaload 1 137 := ⟨by decide +kernel, rfl⟩
theorem k111_137 : en_d 111 137 .iastore 1 138 := ⟨by decide +kernel, rfl⟩
theorem k111_138 : en_d 111 138 (.aload_n 0) 1 139 := ⟨by decide +kernel, rfl⟩
theorem k111_139 : en_df 111 139 10 33 false true 142 := ⟨95, by decide +kernel, by decide +kernel, by decide +kernel, rfl⟩
theorem k111_142 : en_d 111 142 (.iload_n 2) 1 143 := ⟨by decide +kernel, rfl⟩
theorem k111_143 : en_d 111 143 (.iload_n 3) 1 144 := ⟨by decide +kernel, rfl⟩
theorem k111_144 : en_d 111 144 (.iconst 1) 1 145 := ⟨by decide +kernel, rfl⟩
theorem k111_145 : en_d 111 145 .iadd 1 146 := ⟨by decide +kernel, rfl⟩
theorem k111_146 : en_d 111 146 .iastore 1 147 := ⟨by decide +kernel, rfl⟩
theorem k111_147 : en_d 111 147 (.aload_n 0) 1 148 := ⟨by decide +kernel, rfl⟩
theorem k111_148 : en_df 111 148 10 31 false true 151 := ⟨89, by decide +kernel, by decide +kernel, by decide +kernel, rfl⟩
theorem k111_151 : en_d 111 151 (.iload_n 2) 1 152 := ⟨by decide +kernel, rfl⟩
theorem k111_152 : en_d 111 152 (.aload_n 0) 1 153 := ⟨by decide +kernel, rfl⟩
theorem k111_153 : en_df 111 153 10 31 false true 156 := ⟨89, by decide +kernel, by decide +kernel, by decide +kernel, rfl⟩
theorem k111_156 : en_d 111 156 (.iload_n 1) 1 157 := ⟨by decide +kernel, rfl⟩
theorem k111_157 : en_d 111 157 .iaload 1 158 := ⟨by decide +kernel, rfl⟩
theorem k111_158 : en_d 111 158 .iastore 1 159 := ⟨by decide +kernel, rfl⟩
theorem k111_159 : en_d 111 159 (.iconst 0) 1 160 := ⟨by decide +kernel, rfl⟩
theorem k111_160 : en_d 111 160 (.istore 5) 2 162 := ⟨by decide +kernel, rfl⟩
theorem k111_162 : en_d 111 162 (.iconst 0) 1 163 := ⟨by decide +kernel, rfl⟩
theorem k111_163 : en_d 111 163 (.istore 6) 2 165 := ⟨by decide +kernel, rfl⟩
theorem k111_165 : en_d 111 165 (.iload 6) 2 167 := ⟨by decide +kernel, rfl⟩
theorem k111_167 : en_d 111 167 (.aload_n 0) 1 168 := ⟨by decide +kernel, rfl⟩
theorem k111_168 : en_df 111 168 10 33 false true 171 := ⟨95, by decide +kernel, by decide +kernel, by decide +kernel, rfl⟩
theorem k111_171 : en_d 111 171 (.iload_n 1) 1 172 := ⟨by decide +kernel, rfl⟩
theorem k111_172 : en_d 111 172 .iaload 1 173 := ⟨by decide +kernel, rfl⟩
theorem k111_173 : en_j 111 173 (.if_icmp .ge) 176 300 := ⟨127, by decide +kernel, by decide, rfl⟩
theorem k111_176 : en_d 111 176 (.iconst 0) 1 177 := ⟨by decide +kernel, rfl⟩
theorem k111_177 : en_d 111 177 (.istore 7) 2 179 := ⟨by decide +kernel, rfl⟩
theorem k111_179 : en_d 111 179 (.iconst 0) 1 180 := ⟨by decide +kernel, rfl⟩
theorem k111_180 : en_d 111 180 (.istore 8) 2 182 := ⟨by decide +kernel, rfl⟩
theorem k111_182 : en_d 111 182 (.iload 8) 2 184 := ⟨by decide +kernel, rfl⟩
theorem k111_184 : en_d 111 184 (.iconst 3) 1 185 := ⟨by decide +kernel, rfl⟩
theorem k111_185 : en_j 111 185 (.if_icmp .ge) 188 252 := ⟨67, by decide +kernel, by decide, rfl⟩
theorem k111_188 : en_d 111 188 (.iload 7) 2 190 := ⟨by decide +kernel, rfl⟩
theorem k111_190 : en_j 111 190 (.ifCond .ne) 193 239 := ⟨49, by decide +kernel, by decide, rfl⟩
theorem k111_193 : en_d 111 193 (.iload 8) 2 195 := ⟨by decide +kernel, rfl⟩
theorem k111_195 : en_d 111 195 (.iload_n 1) 1 196 := ⟨by decide +kernel, rfl⟩
theorem k111_196 : en_j 111 196 (.if_icmp .eq) 199 243 := ⟨47, by decide +kernel, by decide, rfl⟩
theorem k111_199 : en_d 111 199 (.iload 6) 2 201 := ⟨by decide +kernel, rfl⟩
theorem k111_201 : en_d 111 201 (.aload_n 0) 1 202 := ⟨by decide +kernel, rfl⟩
theorem k111_202 : en_df 111 202 10 33 false true 205 := ⟨95, by decide +kernel, by decide +kernel, by decide +kernel, rfl⟩
theorem k111_205 : en_d 111 205 (.iload 8) 2 207 := ⟨by decide +kernel, rfl⟩
theorem k111_207 : en_d 111 207 .iaload 1 208 := ⟨by decide +kernel, rfl⟩
theorem k111_208 : en_j 111 208 (.if_icmp .ge) 211 243 := ⟨35, by decide +kernel, by decide, rfl⟩
theorem k111_211 : en_d 111 211 (.aload_n 0) 1 212 := ⟨by decide +kernel, rfl⟩
theorem k111_212 : en_df 111 212 10 32 false true 215 := ⟨92, by decide +kernel, by decide +kernel, by decide +kernel, rfl⟩
theorem k111_215 : en_d 111 215 (.bipush 40) 2 217 := ⟨by decide +kernel, rfl⟩
theorem k111_217 : en_d 111 217 (.iload 8) 2 219 := ⟨by decide +kernel, rfl⟩
theorem k111_219 : en_d 111 219 .imul 1 220 := ⟨by decide +kernel, rfl⟩
theorem k111_220 : en_d 111 220 (.iload 6) 2 222 := ⟨by decide +kernel, rfl⟩
theorem k111_222 : en_d 111 222 .iadd 1 223 := ⟨by decide +kernel, rfl⟩
theorem k111_223 : en_d 111 223 .iaload 1 224 := ⟨by decide +kernel, rfl⟩
theorem k111_224 : en_d 111 224 (.aload_n 0) 1 225 := ⟨by decide +kernel, rfl⟩
theorem k111_225 : en_df 111 225 10 32 false true 228 := ⟨92, by decide +kernel, by decide +kernel, by decide +kernel, rfl⟩
theorem k111_228 : en_d 111 228 (.bipush 40) 2 230 := ⟨by decide +kernel, rfl⟩
theorem k111_230 : en_d 111 230 (.iload_n 1) 1 231 := ⟨by decide +kernel, rfl⟩
theorem k111_231 : en_d 111 231 .imul 1 232 := ⟨by decide +kernel, rfl⟩
theorem k111_232 : en_d 111 232 (.iload 6) 2 234 := ⟨by decide +kernel, rfl⟩
theorem k111_234 : en_d 111 234 .iadd 1 235 := ⟨by decide +kernel, rfl⟩
theorem k111_235 : en_d 111 235 .iaload 1 236 := ⟨by decide +kernel, rfl⟩
theorem k111_236 : en_j 111 236 (.if_icmp .ne) 239 243 := ⟨7, by decide +kernel, by decide, rfl⟩
theorem k111_239 : en_d 111 239 (.iconst 1) 1 240 := ⟨by decide +kernel, rfl⟩
theorem k111_240 : en_j 111 240 .goto 243 244 := ⟨4, by decide +kernel, by decide, rfl⟩
theorem k111_243 : en_d 111 243 (.iconst 0) 1 244 := ⟨by decide +kernel, rfl⟩
theorem k111_244 : en_d 111 244 (.istore 7) 2 246 := ⟨by decide +kernel, rfl⟩
theorem k111_246 : en_d 111 246 (.iinc 8 1) 3 249 := ⟨by decide +kernel, rfl⟩
theorem k111_249 : en_j 111 249 .goto 252 182 := ⟨(-67), by decide +kernel, by decide, rfl⟩
theorem k111_252 : en_d 111 252 (.iload 7) 2 254 := ⟨by decide +kernel, rfl⟩
theorem k111_254 : en_j 111 254 (.ifCond .eq) 257 290 := ⟨36, by decide +kernel, by decide, rfl⟩
theorem k111_257 : en_d 111 257 (.aload_n 0) 1 258 := ⟨by decide +kernel, rfl⟩
theorem k111_258 : en_df 111 258 10 29 false true 261 := ⟨83, by decide +kernel, by decide +kernel, by decide +kernel, rfl⟩
theorem k111_261 : en_d 111 261 (.aload_n 0) 1 262 := ⟨by decide +kernel, rfl⟩
theorem k111_262 : en_df 111 262 10 32 false true 265 := ⟨92, by decide +kernel, by decide +kernel, by decide +kernel, rfl⟩
theorem k111_265 : en_d 111 265 (.bipush 40) 2 267 := ⟨by decide +kernel, rfl⟩
theorem k111_267 : en_d 111 267 (.iload_n 1) 1 268 := ⟨by decide +kernel, rfl⟩
theorem k111_268 : en_d 111 268 .imul 1 269 := ⟨by decide +kernel, rfl⟩
theorem k111_269 : en_d 111 269 (.iload 6) 2 271 := ⟨by decide +kernel, rfl⟩
theorem k111_271 : en_d 111 271 .iadd 1 272 := ⟨by decide +kernel, rfl⟩
theorem k111_272 : en_d 111 272 .iaload 1 273 := ⟨by decide +kernel, rfl⟩
theorem k111_273 : en_d 111 273 .iaload 1 274 := ⟨by decide +kernel, rfl⟩
theorem k111_274 : en_d 111 274 (.aload_n 0) 1 275 := ⟨by decide +kernel, rfl⟩
theorem k111_275 : en_df 111 275 10 31 false true 278 := ⟨89, by decide +kernel, by decide +kernel, by decide +kernel, rfl⟩
theorem k111_278 : en_d 111 278 (.iload_n 1) 1 279 := ⟨by decide +kernel, rfl⟩
theorem k111_279 : en_d 111 279 .iaload 1 280 := ⟨by decide +kernel, rfl⟩
theorem k111_280 : en_j 111 280 (.if_icmp .ne) 283 290 := ⟨10, by decide +kernel, by decide, rfl⟩
theorem k111_283 : en_d 111 283 (.iload 6) 2 285 := ⟨by decide +kernel, rfl⟩
theorem k111_285 : en_d 111 285 (.iconst 1) 1 286 := ⟨by decide +kernel, rfl⟩
theorem k111_286 : en_d 111 286 .iadd 1 287 := ⟨by decide +kernel, rfl⟩
theorem k111_287 : en_j 111 287 .goto 290 292 := ⟨5, by decide +kernel, by decide, rfl⟩
theorem k111_290 : en_d 111 290 (.iload 5) 2 292 := ⟨by decide +kernel, rfl⟩
theorem k111_292 : en_d 111 292 (.istore 5) 2 294 := ⟨by decide +kernel, rfl⟩
theorem k111_294 : en_d 111 294 (.iinc 6 1) 3 297 := ⟨by decide +kernel, rfl⟩
theorem k111_297 : en_j 111 297 .goto 300 165 := ⟨(-132), by decide +kernel, by decide, rfl⟩
theorem k111_300 : en_d 111 300 (.iconst 0) 1 301 := ⟨by decide +kernel, rfl⟩
theorem k111_301 : en_d 111 301 (.istore 6) 2 303 := ⟨by decide +kernel, rfl⟩
theorem k111_303 : en_d 111 303 (.iload 6) 2 305 := ⟨by decide +kernel, rfl⟩
theorem k111_305 : en_d 111 305 (.iload 5) 2 307 := ⟨by decide +kernel, rfl⟩
theorem k111_307 : en_j 111 307 (.if_icmp .ge) 310 344 := ⟨37, by decide +kernel, by decide, rfl⟩
theorem k111_310 : en_d 111 310 (.iload 5) 2 312 := ⟨by decide +kernel, rfl⟩
theorem k111_312 : en_d 111 312 (.aload_n 0) 1 313 := ⟨by decide +kernel, rfl⟩
theorem k111_313 : en_df 111 313 10 36 false false 316 := ⟨203, by decide +kernel, by decide +kernel, by decide +kernel, rfl⟩
theorem k111_316 : en_j 111 316 (.if_icmp .le) 319 344 := ⟨28, by decide +kernel, by decide, rfl⟩
theorem k111_319 : en_d 111 319 (.aload_n 0) 1 320 := ⟨by decide +kernel, rfl⟩
theorem k111_320 : en_df 111 320 10 35 false true 323 := ⟨102, by decide +kernel, by decide +kernel, by decide +kernel, rfl⟩
theorem k111_323 : en_d 111 323 (.iload 6) 2 325 := ⟨by decide +kernel, rfl⟩
theorem k111_325 : en_d 111 325 (.aload_n 0) 1 326 := ⟨by decide +kernel, rfl⟩
theorem k111_326 : en_df 111 326 10 32 false true 329 := ⟨92, by decide +kernel, by decide +kernel, by decide +kernel, rfl⟩
theorem k111_329 : en_d 111 329 (.bipush 40) 2 331 := ⟨by decide +kernel, rfl⟩
theorem k111_331 : en_d 111 331 (.iload_n 1) 1 332 := ⟨by decide +kernel, rfl⟩
theorem k111_332 : en_d 111 332 .imul 1 333 := ⟨by decide +kernel, rfl⟩
theorem k111_333 : en_d 111 333 (.iload 6) 2 335 := ⟨by decide +kernel, rfl⟩
theorem k111_335 : en_d 111 335 .iadd 1 336 := ⟨by decide +kernel, rfl⟩
theorem k111_336 : en_d 111 336 .iaload 1 337 := ⟨by decide +kernel, rfl⟩
theorem k111_337 : en_d 111 337 .iastore 1 338 := ⟨by decide +kernel, rfl⟩
theorem k111_338 : en_d 111 338 (.iinc 6 1) 3 341 := ⟨by decide +kernel, rfl⟩
theorem k111_341 : en_j 111 341 .goto 344 303 := ⟨(-38), by decide +kernel, by decide, rfl⟩
theorem k111_344 : en_d 111 344 (.aload_n 0) 1 345 := ⟨by decide +kernel, rfl⟩
theorem k111_345 : en_d 111 345 (.iload 5) 2 347 := ⟨by decide +kernel, rfl⟩
theorem k111_347 : en_d 111 347 (.aload_n 0) 1 348 := ⟨by decide +kernel, rfl⟩
theorem k111_348 : en_df 111 348 10 36 false false 351 := ⟨203, by decide +kernel, by decide +kernel, by decide +kernel, rfl⟩
theorem k111_351 : en_j 111 351 (.if_icmp .le) 354 359 := ⟨8, by decide +kernel, by decide, rfl⟩
theorem k111_354 : en_d 111 354 (.iload 5) 2 356 := ⟨by decide +kernel, rfl⟩
theorem k111_356 : en_j 111 356 .goto 359 363 := ⟨7, by decide +kernel, by decide, rfl⟩
theorem k111_359 : en_d 111 359 (.aload_n 0) 1 360 := ⟨by decide +kernel, rfl⟩
theorem k111_360 : en_df 111 360 10 36 false false 363 := ⟨203, by decide +kernel, by decide +kernel, by decide +kernel, rfl⟩
theorem k111_363 : en_dp 111 363 10 36 false .int 366 := ⟨203, by decide +kernel, by decide +kernel, by decide +kernel, rfl⟩
theorem k111_366 : en_d 111 366 (.iload 4) 2 368 := ⟨by decide +kernel, rfl⟩
theorem k111_368 : en_d 111 368 .ireturn 1 369 := ⟨by decide +kernel, rfl⟩
/-! 112: EndorsedLedgerModel.power(IZ)I -/
theorem k112_0 : en_d 112 0 (.iload_n 1) 1 1 := ⟨by decide +kernel, rfl⟩
theorem k112_1 : en_d 112 1 (.iconst 0) 1 2 := ⟨by decide +kernel, rfl⟩
theorem k112_2 : en_d 112 2 (.bipush 6) 2 4 := ⟨by decide +kernel, rfl⟩
theorem k112_4 : en_dS 112 4 87 false 7 := ⟨129, by decide +kernel, by decide +kernel, rfl, by decide +kernel, by decide +kernel⟩
theorem k112_7 : en_j 112 7 (.ifCond .eq) 10 40 := ⟨33, by decide +kernel, by decide, rfl⟩
theorem k112_10 : en_d 112 10 (.iload_n 1) 1 11 := ⟨by decide +kernel, rfl⟩
theorem k112_11 : en_d 112 11 (.iconst 3) 1 12 := ⟨by decide +kernel, rfl⟩
theorem k112_12 : en_j 112 12 (.if_icmp .ge) 15 28 := ⟨16, by decide +kernel, by decide, rfl⟩
theorem k112_15 : en_d 112 15 (.aload_n 0) 1 16 := ⟨by decide +kernel, rfl⟩
theorem k112_16 : en_df 112 16 10 30 false true 19 := ⟨86, by decide +kernel, by decide +kernel, by decide +kernel, rfl⟩
theorem k112_19 : en_d 112 19 (.iload_n 1) 1 20 := ⟨by decide +kernel, rfl⟩
theorem k112_20 : en_d 112 20 .baload 1 21 := ⟨by decide +kernel, rfl⟩
theorem k112_21 : en_d 112 21 (.iload_n 2) 1 22 := ⟨by decide +kernel, rfl⟩
theorem k112_22 : en_j 112 22 (.if_icmp .eq) 25 42 := ⟨20, by decide +kernel, by decide, rfl⟩
theorem k112_25 : en_j 112 25 .goto 28 40 := ⟨15, by decide +kernel, by decide, rfl⟩
theorem k112_28 : en_d 112 28 (.aload_n 0) 1 29 := ⟨by decide +kernel, rfl⟩
theorem k112_29 : en_df 112 29 10 37 false true 32 := ⟨105, by decide +kernel, by decide +kernel, by decide +kernel, rfl⟩
theorem k112_32 : en_d 112 32 (.iload_n 1) 1 33 := ⟨by decide +kernel, rfl⟩
theorem k112_33 : en_d 112 33 (.iconst 3) 1 34 := ⟨by decide +kernel, rfl⟩
theorem k112_34 : en_d 112 34 .isub 1 35 := ⟨by decide +kernel, rfl⟩
theorem k112_35 : en_d 112 35 .baload 1 36 := ⟨by decide +kernel, rfl⟩
theorem k112_36 : en_d 112 36 (.iload_n 2) 1 37 := ⟨by decide +kernel, rfl⟩
theorem k112_37 : en_j 112 37 (.if_icmp .eq) 40 42 := ⟨5, by decide +kernel, by decide, rfl⟩
theorem k112_40 : en_d 112 40 (.iconst (-1)) 1 41 := ⟨by decide +kernel, rfl⟩
theorem k112_41 : en_d 112 41 .ireturn 1 42 := ⟨by decide +kernel, rfl⟩
theorem k112_42 : en_d 112 42 (.iload_n 1) 1 43 := ⟨by decide +kernel, rfl⟩
theorem k112_43 : en_d 112 43 (.iconst 3) 1 44 := ⟨by decide +kernel, rfl⟩
theorem k112_44 : en_j 112 44 (.if_icmp .ge) 47 88 := ⟨44, by decide +kernel, by decide, rfl⟩
theorem k112_47 : en_d 112 47 (.aload_n 0) 1 48 := ⟨by decide +kernel, rfl⟩
theorem k112_48 : en_df 112 48 10 30 false true 51 := ⟨86, by decide +kernel, by decide +kernel, by decide +kernel, rfl⟩
theorem k112_51 : en_d 112 51 (.iload_n 1) 1 52 := ⟨by decide +kernel, rfl⟩
theorem k112_52 : en_d 112 52 (.iload_n 2) 1 53 := ⟨by decide +kernel, rfl⟩
theorem k112_53 : en_j 112 53 (.ifCond .ne) 56 60 := ⟨7, by decide +kernel, by decide, rfl⟩
theorem k112_56 : en_d 112 56 (.iconst 1) 1 57 := ⟨by decide +kernel, rfl⟩
theorem k112_57 : en_j 112 57 .goto 60 61 := ⟨4, by decide +kernel, by decide, rfl⟩
theorem k112_60 : en_d 112 60 (.iconst 0) 1 61 := ⟨by decide +kernel, rfl⟩
theorem k112_61 : en_d 112 61 .bastore 1 62 := ⟨by decide +kernel, rfl⟩
theorem k112_62 : en_d 112 62 (.aload_n 0) 1 63 := ⟨by decide +kernel, rfl⟩
theorem k112_63 : en_d 112 63 (.iload_n 2) 1 64 := ⟨by decide +kernel, rfl⟩
theorem k112_64 : en_j 112 64 (.ifCond .ne) 67 79 := ⟨15, by decide +kernel, by decide, rfl⟩
theorem k112_67 : en_d 112 67 (.aload_n 0) 1 68 := ⟨by decide +kernel, rfl⟩
theorem k112_68 : en_df 112 68 10 34 false false 71 := ⟨98, by decide +kernel, by decide +kernel, by decide +kernel, rfl⟩
theorem k112_71 : en_d 112 71 (.iload_n 1) 1 72 := ⟨by decide +kernel, rfl⟩
theorem k112_72 : en_j 112 72 (.if_icmp .ne) 75 79 := ⟨7, by decide +kernel, by decide, rfl⟩
theorem k112_75 : en_d 112 75 (.iconst (-1)) 1 76 := ⟨by decide +kernel, rfl⟩
theorem k112_76 : en_j 112 76 .goto 79 83 := ⟨7, by decide +kernel, by decide, rfl⟩
theorem k112_79 : en_d 112 79 (.aload_n 0) 1 80 := ⟨by decide +kernel, rfl⟩
theorem k112_80 : en_df 112 80 10 34 false false 83 := ⟨98, by decide +kernel, by decide +kernel, by decide +kernel, rfl⟩
theorem k112_83 : en_dp 112 83 10 34 false .int 86 := ⟨98, by decide +kernel, by decide +kernel, by decide +kernel, rfl⟩
theorem k112_86 : en_d 112 86 (.iconst 0) 1 87 := ⟨by decide +kernel, rfl⟩
theorem k112_87 : en_d 112 87 .ireturn 1 88 := ⟨by decide +kernel, rfl⟩
theorem k112_88 : en_d 112 88 (.iload_n 1) 1 89 := ⟨by decide +kernel, rfl⟩
theorem k112_89 : en_d 112 89 (.iconst 3) 1 90 := ⟨by decide +kernel, rfl⟩
theorem k112_90 : en_d 112 90 .isub 1 91 := ⟨by decide +kernel, rfl⟩
theorem k112_91 : en_d 112 91 (.istore_n 3) 1 92 := ⟨by decide +kernel, rfl⟩
theorem k112_92 : en_d 112 92 (.aload_n 0) 1 93 := ⟨by decide +kernel, rfl⟩
theorem k112_93 : en_df 112 93 10 37 false true 96 := ⟨105, by decide +kernel, by decide +kernel, by decide +kernel, rfl⟩
theorem k112_96 : en_d 112 96 (.iload_n 3) 1 97 := ⟨by decide +kernel, rfl⟩
theorem k112_97 : en_d 112 97 (.iload_n 2) 1 98 := ⟨by decide +kernel, rfl⟩
theorem k112_98 : en_j 112 98 (.ifCond .ne) 101 105 := ⟨7, by decide +kernel, by decide, rfl⟩
theorem k112_101 : en_d 112 101 (.iconst 1) 1 102 := ⟨by decide +kernel, rfl⟩
theorem k112_102 : en_j 112 102 .goto 105 106 := ⟨4, by decide +kernel, by decide, rfl⟩
theorem k112_105 : en_d 112 105 (.iconst 0) 1 106 := ⟨by decide +kernel, rfl⟩
theorem k112_106 : en_d 112 106 .bastore 1 107 := ⟨by decide +kernel, rfl⟩
theorem k112_107 : en_d 112 107 (.iload_n 2) 1 108 := ⟨by decide +kernel, rfl⟩
theorem k112_108 : en_j 112 108 (.ifCond .eq) 111 127 := ⟨19, by decide +kernel, by decide, rfl⟩
theorem k112_111 : en_d 112 111 (.aload_n 0) 1 112 := ⟨by decide +kernel, rfl⟩
theorem k112_112 : en_df 112 112 10 38 false true 115 := ⟨108, by decide +kernel, by decide +kernel, by decide +kernel, rfl⟩
theorem k112_115 : en_d 112 115 (.iload_n 3) 1 116 := ⟨by decide +kernel, rfl⟩
theorem k112_116 : en_d 112 116 .iaload 1 117 := ⟨by decide +kernel, rfl⟩
theorem k112_117 : en_d 112 117 (.aload_n 0) 1 118 := ⟨by decide +kernel, rfl⟩
theorem k112_118 : en_df 112 118 10 39 false true 121 := ⟨111, by decide +kernel, by decide +kernel, by decide +kernel, rfl⟩
theorem k112_121 : en_d 112 121 (.iload_n 3) 1 122 := ⟨by decide +kernel, rfl⟩
theorem k112_122 : en_d 112 122 .iaload 1 123 := ⟨by decide +kernel, rfl⟩
theorem k112_123 : en_d 112 123 .isub 1 124 := ⟨by decide +kernel, rfl⟩
theorem k112_124 : en_j 112 124 .goto 127 128 := ⟨4, by decide +kernel, by decide, rfl⟩
theorem k112_127 : en_d 112 127 (.iconst 0) 1 128 := ⟨by decide +kernel, rfl⟩
theorem k112_128 : en_d 112 128 (.istore 4) 2 130 := ⟨by decide +kernel, rfl⟩
theorem k112_130 : en_d 112 130 (.aload_n 0) 1 131 := ⟨by decide +kernel, rfl⟩
theorem k112_131 : en_df 112 131 10 39 false true 134 := ⟨111, by decide +kernel, by decide +kernel, by decide +kernel, rfl⟩
theorem k112_134 : en_d 112 134 (.iload_n 3) 1 135 := ⟨by decide +kernel, rfl⟩
theorem k112_135 : en_d 112 135 (.iload_n 2) 1 136 := ⟨by decide +kernel, rfl⟩
theorem k112_136 : en_j 112 136 (.ifCond .eq) 139 152 := ⟨16, by decide +kernel, by decide, rfl⟩
theorem k112_139 : en_d 112 139 (.aload_n 0) 1 140 := ⟨by decide +kernel, rfl⟩
theorem k112_140 : en_df 112 140 10 38 false true 143 := ⟨108, by decide +kernel, by decide +kernel, by decide +kernel, rfl⟩
theorem k112_143 : en_d 112 143 (.iload_n 3) 1 144 := ⟨by decide +kernel, rfl⟩
theorem k112_144 : en_d 112 144 .iaload 1 145 := ⟨by decide +kernel, rfl⟩
theorem k112_145 : en_d 112 145 (.iconst 4) 1 146 := ⟨by decide +kernel, rfl⟩
theorem k112_146 : en_d 112 146 .idiv 1 147 := ⟨by decide +kernel, rfl⟩
theorem k112_147 : en_d 112 147 (.iconst 4) 1 148 := ⟨by decide +kernel, rfl⟩
theorem k112_148 : en_d 112 148 .imul 1 149 := ⟨by decide +kernel, rfl⟩
theorem k112_149 : en_j 112 149 .goto 152 158 := ⟨9, by decide +kernel, by decide, rfl⟩
theorem k112_152 : en_d 112 152 (.aload_n 0) 1 153 := ⟨by decide +kernel, rfl⟩
theorem k112_153 : en_df 112 153 10 39 false true 156 := ⟨111, by decide +kernel, by decide +kernel, by decide +kernel, rfl⟩
theorem k112_156 : en_d 112 156 (.iload_n 3) 1 157 := ⟨by decide +kernel, rfl⟩
theorem k112_157 : en_d 112 157 .iaload 1 158 := ⟨by decide +kernel, rfl⟩
theorem k112_158 : en_d 112 158 .iastore 1 159 := ⟨by decide +kernel, rfl⟩
theorem k112_159 : en_d 112 159 (.iload 4) 2 161 := ⟨by decide +kernel, rfl⟩
theorem k112_161 : en_d 112 161 .ireturn 1 162 := ⟨by decide +kernel, rfl⟩
/-! 113: EndorsedLedgerModel.deliver(I)I -/
theorem k113_0 : en_d 113 0 (.aload_n 0) 1 1 := ⟨by decide +kernel, rfl⟩
theorem k113_1 : en_d 113 1 (.iload_n 1) 1 2 := ⟨by decide +kernel, rfl⟩
theorem k113_2 : en_dv 113 2 102 false 5 := ⟨173, by decide +kernel, by decide +kernel, rfl, by decide +kernel, by decide +kernel⟩
theorem k113_5 : en_j 113 5 (.ifCond .eq) 8 21 := ⟨16, by decide +kernel, by decide, rfl⟩
theorem k113_8 : en_d 113 8 (.aload_n 0) 1 9 := ⟨by decide +kernel, rfl⟩
theorem k113_9 : en_df 113 9 10 38 false true 12 := ⟨108, by decide +kernel, by decide +kernel, by decide +kernel, rfl⟩
theorem k113_12 : en_d 113 12 (.iload_n 1) 1 13 := ⟨by decide +kernel, rfl⟩
theorem k113_13 : en_d 113 13 .iaload 1 14 := ⟨by decide +kernel, rfl⟩
theorem k113_14 : en_d 113 14 (.aload_n 0) 1 15 := ⟨by decide +kernel, rfl⟩
theorem k113_15 : en_df 113 15 10 36 false false 18 := ⟨203, by decide +kernel, by decide +kernel, by decide +kernel, rfl⟩
theorem k113_18 : en_j 113 18 (.if_icmp .ne) 21 23 := ⟨5, by decide +kernel, by decide, rfl⟩
theorem k113_21 : en_d 113 21 (.iconst (-1)) 1 22 := ⟨by decide +kernel, rfl⟩
theorem k113_22 : en_d 113 22 .ireturn 1 23 := ⟨by decide +kernel, rfl⟩
theorem k113_23 : en_d 113 23 (.aload_n 0) 1 24 := ⟨by decide +kernel, rfl⟩
theorem k113_24 : en_df 113 24 10 38 false true 27 := ⟨108, by decide +kernel, by decide +kernel, by decide +kernel, rfl⟩
theorem k113_27 : en_d 113 27 (.iload_n 1) 1 28 := ⟨by decide +kernel, rfl⟩
theorem k113_28 : en_d 113 28 .dup2 1 29 := ⟨by decide +kernel, rfl⟩
theorem k113_29 : en_d 113 29 .iaload 1 30 := ⟨by decide +kernel, rfl⟩
theorem k113_30 : en_d 113 30 (.iconst 1) 1 31 := ⟨by decide +kernel, rfl⟩
theorem k113_31 : en_d 113 31 .iadd 1 32 := ⟨by decide +kernel, rfl⟩
theorem k113_32 : en_d 113 32 .iastore 1 33 := ⟨by decide +kernel, rfl⟩
theorem k113_33 : en_d 113 33 (.aload_n 0) 1 34 := ⟨by decide +kernel, rfl⟩
theorem k113_34 : en_df 113 34 10 39 false true 37 := ⟨111, by decide +kernel, by decide +kernel, by decide +kernel, rfl⟩
theorem k113_37 : en_d 113 37 (.iload_n 1) 1 38 := ⟨by decide +kernel, rfl⟩
theorem k113_38 : en_d 113 38 (.aload_n 0) 1 39 := ⟨by decide +kernel, rfl⟩
theorem k113_39 : en_df 113 39 10 38 false true 42 := ⟨108, by decide +kernel, by decide +kernel, by decide +kernel, rfl⟩
theorem k113_42 : en_d 113 42 (.iload_n 1) 1 43 := ⟨by decide +kernel, rfl⟩
theorem k113_43 : en_d 113 43 .iaload 1 44 := ⟨by decide +kernel, rfl⟩
theorem k113_44 : en_d 113 44 (.iconst 4) 1 45 := ⟨by decide +kernel, rfl⟩
theorem k113_45 : en_d 113 45 .idiv 1 46 := ⟨by decide +kernel, rfl⟩
theorem k113_46 : en_d 113 46 (.iconst 4) 1 47 := ⟨by decide +kernel, rfl⟩
theorem k113_47 : en_d 113 47 .imul 1 48 := ⟨by decide +kernel, rfl⟩
theorem k113_48 : en_d 113 48 .iastore 1 49 := ⟨by decide +kernel, rfl⟩
theorem k113_49 : en_d 113 49 (.aload_n 0) 1 50 := ⟨by decide +kernel, rfl⟩
theorem k113_50 : en_d 113 50 (.aload_n 0) 1 51 := ⟨by decide +kernel, rfl⟩
theorem k113_51 : en_df 113 51 10 38 false true 54 := ⟨108, by decide +kernel, by decide +kernel, by decide +kernel, rfl⟩
theorem k113_54 : en_d 113 54 (.iload_n 1) 1 55 := ⟨by decide +kernel, rfl⟩
theorem k113_55 : en_d 113 55 .iaload 1 56 := ⟨by decide +kernel, rfl⟩
theorem k113_56 : en_dv 113 56 91 false 59 := ⟨176, by decide +kernel, by decide +kernel, rfl, by decide +kernel, by decide +kernel⟩
theorem k113_59 : en_d 113 59 (.iconst 0) 1 60 := ⟨by decide +kernel, rfl⟩
theorem k113_60 : en_d 113 60 (.istore_n 2) 1 61 := ⟨by decide +kernel, rfl⟩
theorem k113_61 : en_d 113 61 (.iconst 0) 1 62 := ⟨by decide +kernel, rfl⟩
theorem k113_62 : en_d 113 62 (.istore_n 3) 1 63 := ⟨by decide +kernel, rfl⟩
theorem k113_63 : en_d 113 63 (.iload_n 3) 1 64 := ⟨by decide +kernel, rfl⟩
theorem k113_64 : en_d 113 64 (.aload_n 0) 1 65 := ⟨by decide +kernel, rfl⟩
theorem k113_65 : en_df 113 65 10 28 false true 68 := ⟨80, by decide +kernel, by decide +kernel, by decide +kernel, rfl⟩
theorem k113_68 : en_d 113 68 (.aload_n 0) 1 69 := ⟨by decide +kernel, rfl⟩
theorem k113_69 : en_df 113 69 10 35 false true 72 := ⟨102, by decide +kernel, by decide +kernel, by decide +kernel, rfl⟩
theorem k113_72 : en_d 113 72 (.aload_n 0) 1 73 := ⟨by decide +kernel, rfl⟩
theorem k113_73 : en_df 113 73 10 38 false true 76 := ⟨108, by decide +kernel, by decide +kernel, by decide +kernel, rfl⟩
theorem k113_76 : en_d 113 76 (.iload_n 1) 1 77 := ⟨by decide +kernel, rfl⟩
theorem k113_77 : en_d 113 77 .iaload 1 78 := ⟨by decide +kernel, rfl⟩
theorem k113_78 : en_d 113 78 (.iconst 1) 1 79 := ⟨by decide +kernel, rfl⟩
theorem k113_79 : en_d 113 79 .isub 1 80 := ⟨by decide +kernel, rfl⟩
theorem k113_80 : en_d 113 80 .iaload 1 81 := ⟨by decide +kernel, rfl⟩
theorem k113_81 : en_d 113 81 .iaload 1 82 := ⟨by decide +kernel, rfl⟩
theorem k113_82 : en_j 113 82 (.if_icmp .ge) 85 108 := ⟨26, by decide +kernel, by decide, rfl⟩
theorem k113_85 : en_d 113 85 (.iload_n 2) 1 86 := ⟨by decide +kernel, rfl⟩
theorem k113_86 : en_d 113 86 (.aload_n 0) 1 87 := ⟨by decide +kernel, rfl⟩
theorem k113_87 : en_df 113 87 10 42 false true 90 := ⟨120, by decide +kernel, by decide +kernel, by decide +kernel, rfl⟩
theorem k113_90 : en_d 113 90 (.iload_n 3) 1 91 := ⟨by decide +kernel, rfl⟩
theorem k113_91 : en_d 113 91 .iaload 1 92 := ⟨by decide +kernel, rfl⟩
theorem k113_92 : en_j 113 92 (.ifCond .ne) 95 99 := ⟨7, by decide +kernel, by decide, rfl⟩
theorem k113_95 : en_d 113 95 (.iconst 1) 1 96 := ⟨by decide +kernel, rfl⟩
theorem k113_96 : en_j 113 96 .goto 99 100 := ⟨4, by decide +kernel, by decide, rfl⟩
theorem k113_99 : en_d 113 99 (.iconst 0) 1 100 := ⟨by decide +kernel, rfl⟩
theorem k113_100 : en_d 113 100 .iadd 1 101 := ⟨by decide +kernel, rfl⟩
theorem k113_101 : en_d 113 101 (.istore_n 2) 1 102 := ⟨by decide +kernel, rfl⟩
theorem k113_102 : en_d 113 102 (.iinc 3 1) 3 105 := ⟨by decide +kernel, rfl⟩
theorem k113_105 : en_j 113 105 .goto 108 63 := ⟨(-42), by decide +kernel, by decide, rfl⟩
theorem k113_108 : en_d 113 108 (.iload_n 2) 1 109 := ⟨by decide +kernel, rfl⟩
theorem k113_109 : en_d 113 109 .ireturn 1 110 := ⟨by decide +kernel, rfl⟩
/-! 114: EndorsedLedgerModel.tear(I)Z -/
theorem k114_0 : en_d 114 0 (.aload_n 0) 1 1 := ⟨by decide +kernel, rfl⟩
theorem k114_1 : en_d 114 1 (.iload_n 1) 1 2 := ⟨by decide +kernel, rfl⟩
theorem k114_2 : en_dv 114 2 102 false 5 := ⟨173, by decide +kernel, by decide +kernel, rfl, by decide +kernel, by decide +kernel⟩
theorem k114_5 : en_j 114 5 (.ifCond .eq) 8 21 := ⟨16, by decide +kernel, by decide, rfl⟩
theorem k114_8 : en_d 114 8 (.aload_n 0) 1 9 := ⟨by decide +kernel, rfl⟩
theorem k114_9 : en_df 114 9 10 38 false true 12 := ⟨108, by decide +kernel, by decide +kernel, by decide +kernel, rfl⟩
theorem k114_12 : en_d 114 12 (.iload_n 1) 1 13 := ⟨by decide +kernel, rfl⟩
theorem k114_13 : en_d 114 13 .iaload 1 14 := ⟨by decide +kernel, rfl⟩
theorem k114_14 : en_d 114 14 (.aload_n 0) 1 15 := ⟨by decide +kernel, rfl⟩
theorem k114_15 : en_df 114 15 10 36 false false 18 := ⟨203, by decide +kernel, by decide +kernel, by decide +kernel, rfl⟩
theorem k114_18 : en_j 114 18 (.if_icmp .ne) 21 23 := ⟨5, by decide +kernel, by decide, rfl⟩
theorem k114_21 : en_d 114 21 (.iconst 0) 1 22 := ⟨by decide +kernel, rfl⟩
theorem k114_22 : en_d 114 22 .ireturn 1 23 := ⟨by decide +kernel, rfl⟩
theorem k114_23 : en_d 114 23 (.aload_n 0) 1 24 := ⟨by decide +kernel, rfl⟩
theorem k114_24 : en_df 114 24 10 38 false true 27 := ⟨108, by decide +kernel, by decide +kernel, by decide +kernel, rfl⟩
theorem k114_27 : en_d 114 27 (.iload_n 1) 1 28 := ⟨by decide +kernel, rfl⟩
theorem k114_28 : en_d 114 28 .dup2 1 29 := ⟨by decide +kernel, rfl⟩
theorem k114_29 : en_d 114 29 .iaload 1 30 := ⟨by decide +kernel, rfl⟩
theorem k114_30 : en_d 114 30 (.iconst 1) 1 31 := ⟨by decide +kernel, rfl⟩
theorem k114_31 : en_d 114 31 .iadd 1 32 := ⟨by decide +kernel, rfl⟩
theorem k114_32 : en_d 114 32 .iastore 1 33 := ⟨by decide +kernel, rfl⟩
theorem k114_33 : en_d 114 33 (.aload_n 0) 1 34 := ⟨by decide +kernel, rfl⟩
theorem k114_34 : en_df 114 34 10 37 false true 37 := ⟨105, by decide +kernel, by decide +kernel, by decide +kernel, rfl⟩
theorem k114_37 : en_d 114 37 (.iload_n 1) 1 38 := ⟨by decide +kernel, rfl⟩
theorem k114_38 : en_d 114 38 (.iconst 1) 1 39 := ⟨by decide +kernel, rfl⟩
theorem k114_39 : en_d 114 39 .bastore 1 40 := ⟨by decide +kernel, rfl⟩
theorem k114_40 : en_d 114 40 (.iconst 1) 1 41 := ⟨by decide +kernel, rfl⟩
theorem k114_41 : en_d 114 41 .ireturn 1 42 := ⟨by decide +kernel, rfl⟩
/-! 115: EndorsedLedgerModel.transaction(II)I -/
theorem k115_0 : en_d 115 0 (.aload_n 0) 1 1 := ⟨by decide +kernel, rfl⟩
theorem k115_1 : en_d 115 1 (.iload_n 1) 1 2 := ⟨by decide +kernel, rfl⟩
theorem k115_2 : en_dv 115 2 101 false 5 := ⟨169, by decide +kernel, by decide +kernel, rfl, by decide +kernel, by decide +kernel⟩
theorem k115_5 : en_j 115 5 (.ifCond .eq) 8 18 := ⟨13, by decide +kernel, by decide, rfl⟩
theorem k115_8 : en_d 115 8 (.iload_n 2) 1 9 := ⟨by decide +kernel, rfl⟩
theorem k115_9 : en_d 115 9 (.iconst 0) 1 10 := ⟨by decide +kernel, rfl⟩
theorem k115_10 : en_d 115 10 (.bipush 6) 2 12 := ⟨by decide +kernel, rfl⟩
theorem k115_12 : en_dS 115 12 87 false 15 := ⟨129, by decide +kernel, by decide +kernel, rfl, by decide +kernel, by decide +kernel⟩
theorem k115_15 : en_j 115 15 (.ifCond .ne) 18 20 := ⟨5, by decide +kernel, by decide, rfl⟩
theorem k115_18 : en_d 115 18 (.iconst (-1)) 1 19 := ⟨by decide +kernel, rfl⟩
theorem k115_19 : en_d 115 19 .ireturn 1 20 := ⟨by decide +kernel, rfl⟩
theorem k115_20 : en_d 115 20 (.iconst 0) 1 21 := ⟨by decide +kernel, rfl⟩
theorem k115_21 : en_d 115 21 (.istore_n 3) 1 22 := ⟨by decide +kernel, rfl⟩
theorem k115_22 : en_d 115 22 (.iconst 0) 1 23 := ⟨by decide +kernel, rfl⟩
theorem k115_23 : en_d 115 23 (.istore 4) 2 25 := ⟨by decide +kernel, rfl⟩
theorem k115_25 : en_d 115 25 (.iconst 0) 1 26 := ⟨by decide +kernel, rfl⟩
theorem k115_26 : en_d 115 26 (.istore 5) 2 28 := ⟨by decide +kernel, rfl⟩
theorem k115_28 : en_d 115 28 (.iload 5) 2 30 := ⟨by decide +kernel, rfl⟩
theorem k115_30 : en_d 115 30 (.bipush 16) 2 32 := ⟨by decide +kernel, rfl⟩
theorem k115_32 : en_j 115 32 (.if_icmp .ge) 35 98 := ⟨66, by decide +kernel, by decide, rfl⟩
theorem k115_35 : en_d 115 35 (.aload_n 0) 1 36 := ⟨by decide +kernel, rfl⟩
theorem k115_36 : en_df 115 36 10 12 false true 39 := ⟨43, by decide +kernel, by decide +kernel, by decide +kernel, rfl⟩
theorem k115_39 : en_d 115 39 (.iload_n 1) 1 40 := ⟨by decide +kernel, rfl⟩
theorem k115_40 : en_d 115 40 .iaload 1 41 := ⟨by decide +kernel, rfl⟩
theorem k115_41 : en_j 115 41 (.ifCond .eq) 44 98 := ⟨57, by decide +kernel, by decide, rfl⟩
theorem k115_44 : en_d 115 44 (.iload_n 3) 1 45 := ⟨by decide +kernel, rfl⟩
theorem k115_45 : en_d 115 45 (.aload_n 0) 1 46 := ⟨by decide +kernel, rfl⟩
theorem k115_46 : en_df 115 46 10 14 false true 49 := ⟨50, by decide +kernel, by decide +kernel, by decide +kernel, rfl⟩
theorem k115_49 : en_d 115 49 (.bipush 16) 2 51 := ⟨by decide +kernel, rfl⟩
theorem k115_51 : en_d 115 51 (.iload_n 1) 1 52 := ⟨by decide +kernel, rfl⟩
theorem k115_52 : en_d 115 52 .imul 1 53 := ⟨by decide +kernel, rfl⟩
theorem k115_53 : en_d 115 53 (.iload 5) 2 55 := ⟨by decide +kernel, rfl⟩
theorem k115_55 : en_d 115 55 .iadd 1 56 := ⟨by decide +kernel, rfl⟩
theorem k115_56 : en_d 115 56 .iaload 1 57 := ⟨by decide +kernel, rfl⟩
theorem k115_57 : en_j 115 57 (.ifCond .lt) 60 64 := ⟨7, by decide +kernel, by decide, rfl⟩
theorem k115_60 : en_d 115 60 (.iconst 1) 1 61 := ⟨by decide +kernel, rfl⟩
theorem k115_61 : en_j 115 61 .goto 64 65 := ⟨4, by decide +kernel, by decide, rfl⟩
theorem k115_64 : en_d 115 64 (.iconst 0) 1 65 := ⟨by decide +kernel, rfl⟩
theorem k115_65 : en_d 115 65 .iadd 1 66 := ⟨by decide +kernel, rfl⟩
theorem k115_66 : en_d 115 66 (.istore_n 3) 1 67 := ⟨by decide +kernel, rfl⟩
theorem k115_67 : en_d 115 67 (.iload 4) 2 69 := ⟨by decide +kernel, rfl⟩
theorem k115_69 : en_d 115 69 (.aload_n 0) 1 70 := ⟨by decide +kernel, rfl⟩
theorem k115_70 : en_df 115 70 10 15 false true 73 := ⟨53, by decide +kernel, by decide +kernel, by decide +kernel, rfl⟩
theorem k115_73 : en_d 115 73 (.bipush 16) 2 75 := ⟨by decide +kernel, rfl⟩
theorem k115_75 : en_d 115 75 (.iload_n 1) 1 76 := ⟨by decide +kernel, rfl⟩
theorem k115_76 : en_d 115 76 .imul 1 77 := ⟨by decide +kernel, rfl⟩
theorem k115_77 : en_d 115 77 (.iload 5) 2 79 := ⟨by decide +kernel, rfl⟩
theorem k115_79 : en_d 115 79 .iadd 1 80 := ⟨by decide +kernel, rfl⟩
theorem k115_80 : en_d 115 80 .iaload 1 81 := ⟨by decide +kernel, rfl⟩
theorem k115_81 : en_j 115 81 (.ifCond .le) 84 88 := ⟨7, by decide +kernel, by decide, rfl⟩
theorem k115_84 : en_d 115 84 (.iconst 1) 1 85 := ⟨by decide +kernel, rfl⟩
theorem k115_85 : en_j 115 85 .goto 88 89 := ⟨4, by decide +kernel, by decide, rfl⟩
theorem k115_88 : en_d 115 88 (.iconst 0) 1 89 := ⟨by decide +kernel, rfl⟩
theorem k115_89 : en_d 115 89 .iadd 1 90 := ⟨by decide +kernel, rfl⟩
theorem k115_90 : en_d 115 90 (.istore 4) 2 92 := ⟨by decide +kernel, rfl⟩
theorem k115_92 : en_d 115 92 (.iinc 5 1) 3 95 := ⟨by decide +kernel, rfl⟩
theorem k115_95 : en_j 115 95 .goto 98 28 := ⟨(-67), by decide +kernel, by decide, rfl⟩
theorem k115_98 : en_d 115 98 (.iload_n 2) 1 99 := ⟨by decide +kernel, rfl⟩
theorem k115_99 : en_d 115 99 (.iconst 3) 1 100 := ⟨by decide +kernel, rfl⟩
theorem k115_100 : en_j 115 100 (.if_icmp .ge) 103 137 := ⟨37, by decide +kernel, by decide, rfl⟩
theorem k115_103 : en_d 115 103 (.iload_n 2) 1 104 := ⟨by decide +kernel, rfl⟩
theorem k115_104 : en_j 115 104 (.ifCond .ne) 107 116 := ⟨12, by decide +kernel, by decide, rfl⟩
theorem k115_107 : en_d 115 107 (.aload_n 0) 1 108 := ⟨by decide +kernel, rfl⟩
theorem k115_108 : en_df 115 108 10 10 false true 111 := ⟨37, by decide +kernel, by decide +kernel, by decide +kernel, rfl⟩
theorem k115_111 : en_d 115 111 (.iload_n 1) 1 112 := ⟨by decide +kernel, rfl⟩
theorem k115_112 : en_d 115 112 .iaload 1 113 := ⟨by decide +kernel, rfl⟩
theorem k115_113 : en_j 115 113 .goto 116 136 := ⟨23, by decide +kernel, by decide, rfl⟩
theorem k115_116 : en_d 115 116 (.iload_n 2) 1 117 := ⟨by decide +kernel, rfl⟩
theorem k115_117 : en_d 115 117 (.iconst 1) 1 118 := ⟨by decide +kernel, rfl⟩
theorem k115_118 : en_j 115 118 (.if_icmp .ne) 121 130 := ⟨12, by decide +kernel, by decide, rfl⟩
theorem k115_121 : en_d 115 121 (.aload_n 0) 1 122 := ⟨by decide +kernel, rfl⟩
theorem k115_122 : en_df 115 122 10 11 false true 125 := ⟨40, by decide +kernel, by decide +kernel, by decide +kernel, rfl⟩
theorem k115_125 : en_d 115 125 (.iload_n 1) 1 126 := ⟨by decide +kernel, rfl⟩
theorem k115_126 : en_d 115 126 .iaload 1 127 := ⟨by decide +kernel, rfl⟩
theorem k115_127 : en_j 115 127 .goto 130 136 := ⟨9, by decide +kernel, by decide, rfl⟩
theorem k115_130 : en_d 115 130 (.aload_n 0) 1 131 := ⟨by decide +kernel, rfl⟩
theorem k115_131 : en_df 115 131 10 12 false true 134 := ⟨43, by decide +kernel, by decide +kernel, by decide +kernel, rfl⟩
theorem k115_134 : en_d 115 134 (.iload_n 1) 1 135 := ⟨by decide +kernel, rfl⟩
theorem k115_135 : en_d 115 135 .iaload 1 136 := ⟨by decide +kernel, rfl⟩
theorem k115_136 : en_d 115 136 .ireturn 1 137 := ⟨by decide +kernel, rfl⟩
theorem k115_137 : en_d 115 137 (.iload_n 2) 1 138 := ⟨by decide +kernel, rfl⟩
theorem k115_138 : en_d 115 138 (.iconst 3) 1 139 := ⟨by decide +kernel, rfl⟩
theorem k115_139 : en_j 115 139 (.if_icmp .ne) 142 146 := ⟨7, by decide +kernel, by decide, rfl⟩
theorem k115_142 : en_d 115 142 (.iload_n 3) 1 143 := ⟨by decide +kernel, rfl⟩
theorem k115_143 : en_j 115 143 .goto 146 184 := ⟨41, by decide +kernel, by decide, rfl⟩
theorem k115_146 : en_d 115 146 (.iload_n 2) 1 147 := ⟨by decide +kernel, rfl⟩
theorem k115_147 : en_d 115 147 (.iconst 4) 1 148 := ⟨by decide +kernel, rfl⟩
theorem k115_148 : en_j 115 148 (.if_icmp .ne) 151 160 := ⟨12, by decide +kernel, by decide, rfl⟩
theorem k115_151 : en_d 115 151 (.aload_n 0) 1 152 := ⟨by decide +kernel, rfl⟩
theorem k115_152 : en_df 115 152 10 17 false true 155 := ⟨59, by decide +kernel, by decide +kernel, by decide +kernel, rfl⟩
theorem k115_155 : en_d 115 155 (.iload_n 1) 1 156 := ⟨by decide +kernel, rfl⟩
theorem k115_156 : en_d 115 156 .iaload 1 157 := ⟨by decide +kernel, rfl⟩
theorem k115_157 : en_j 115 157 .goto 160 184 := ⟨27, by decide +kernel, by decide, rfl⟩
theorem k115_160 : en_d 115 160 (.iload_n 2) 1 161 := ⟨by decide +kernel, rfl⟩
theorem k115_161 : en_d 115 161 (.iconst 5) 1 162 := ⟨by decide +kernel, rfl⟩
theorem k115_162 : en_j 115 162 (.if_icmp .ne) 165 170 := ⟨8, by decide +kernel, by decide, rfl⟩
theorem k115_165 : en_d 115 165 (.iload 4) 2 167 := ⟨by decide +kernel, rfl⟩
theorem k115_167 : en_j 115 167 .goto 170 184 := ⟨17, by decide +kernel, by decide, rfl⟩
theorem k115_170 : en_d 115 170 (.aload_n 0) 1 171 := ⟨by decide +kernel, rfl⟩
theorem k115_171 : en_df 115 171 10 13 false true 174 := ⟨46, by decide +kernel, by decide +kernel, by decide +kernel, rfl⟩
theorem k115_174 : en_d 115 174 (.iload_n 1) 1 175 := ⟨by decide +kernel, rfl⟩
theorem k115_175 : en_d 115 175 .baload 1 176 := ⟨by decide +kernel, rfl⟩
theorem k115_176 : en_j 115 176 (.ifCond .eq) 179 183 := ⟨7, by decide +kernel, by decide, rfl⟩
theorem k115_179 : en_d 115 179 (.iconst 1) 1 180 := ⟨by decide +kernel, rfl⟩
theorem k115_180 : en_j 115 180 .goto 183 184 := ⟨4, by decide +kernel, by decide, rfl⟩
theorem k115_183 : en_d 115 183 (.iconst 0) 1 184 := ⟨by decide +kernel, rfl⟩
theorem k115_184 : en_d 115 184 .ireturn 1 185 := ⟨by decide +kernel, rfl⟩
/-! 116: EndorsedLedgerModel.access(III)I -/
theorem k116_0 : en_d 116 0 (.aload_n 0) 1 1 := ⟨by decide +kernel, rfl⟩
theorem k116_1 : en_d 116 1 (.iload_n 1) 1 2 := ⟨by decide +kernel, rfl⟩
theorem k116_2 : en_dv 116 2 101 false 5 := ⟨169, by decide +kernel, by decide +kernel, rfl, by decide +kernel, by decide +kernel⟩
theorem k116_5 : en_j 116 5 (.ifCond .eq) 8 36 := ⟨31, by decide +kernel, by decide, rfl⟩
theorem k116_8 : en_d 116 8 (.iload_n 2) 1 9 := ⟨by decide +kernel, rfl⟩
theorem k116_9 : en_d 116 9 (.iconst 0) 1 10 := ⟨by decide +kernel, rfl⟩
theorem k116_10 : en_d 116 10 (.bipush 15) 2 12 := ⟨by decide +kernel, rfl⟩
theorem k116_12 : en_dS 116 12 87 false 15 := ⟨129, by decide +kernel, by decide +kernel, rfl, by decide +kernel, by decide +kernel⟩
theorem k116_15 : en_j 116 15 (.ifCond .eq) 18 36 := ⟨21, by decide +kernel, by decide, rfl⟩
theorem k116_18 : en_d 116 18 (.iload_n 3) 1 19 := ⟨by decide +kernel, rfl⟩
theorem k116_19 : en_d 116 19 (.iconst 0) 1 20 := ⟨by decide +kernel, rfl⟩
theorem k116_20 : en_d 116 20 (.iconst 4) 1 21 := ⟨by decide +kernel, rfl⟩
theorem k116_21 : en_dS 116 21 87 false 24 := ⟨129, by decide +kernel, by decide +kernel, rfl, by decide +kernel, by decide +kernel⟩
theorem k116_24 : en_j 116 24 (.ifCond .eq) 27 36 := ⟨12, by decide +kernel, by decide, rfl⟩
theorem k116_27 : en_d 116 27 (.aload_n 0) 1 28 := ⟨by decide +kernel, rfl⟩
theorem k116_28 : en_df 116 28 10 12 false true 31 := ⟨43, by decide +kernel, by decide +kernel, by decide +kernel, rfl⟩
theorem k116_31 : en_d 116 31 (.iload_n 1) 1 32 := ⟨by decide +kernel, rfl⟩
theorem k116_32 : en_d 116 32 .iaload 1 33 := ⟨by decide +kernel, rfl⟩
theorem k116_33 : en_j 116 33 (.ifCond .ne) 36 38 := ⟨5, by decide +kernel, by decide, rfl⟩
theorem k116_36 : en_d 116 36 (.iconst (-1)) 1 37 := ⟨by decide +kernel, rfl⟩
theorem k116_37 : en_d 116 37 .ireturn 1 38 := ⟨by decide +kernel, rfl⟩
theorem k116_38 : en_d 116 38 (.iload_n 3) 1 39 := ⟨by decide +kernel, rfl⟩
theorem k116_39 : en_j 116 39 (.ifCond .ne) 42 54 := ⟨15, by decide +kernel, by decide, rfl⟩
theorem k116_42 : en_d 116 42 (.aload_n 0) 1 43 := ⟨by decide +kernel, rfl⟩
theorem k116_43 : en_df 116 43 10 14 false true 46 := ⟨50, by decide +kernel, by decide +kernel, by decide +kernel, rfl⟩
theorem k116_46 : en_d 116 46 (.bipush 16) 2 48 := ⟨by decide +kernel, rfl⟩
theorem k116_48 : en_d 116 48 (.iload_n 1) 1 49 := ⟨by decide +kernel, rfl⟩
theorem k116_49 : en_d 116 49 .imul 1 50 := ⟨by decide +kernel, rfl⟩
theorem k116_50 : en_d 116 50 (.iload_n 2) 1 51 := ⟨by decide +kernel, rfl⟩
theorem k116_51 : en_d 116 51 .iadd 1 52 := ⟨by decide +kernel, rfl⟩
theorem k116_52 : en_d 116 52 .iaload 1 53 := ⟨by decide +kernel, rfl⟩
theorem k116_53 : en_d 116 53 .ireturn 1 54 := ⟨by decide +kernel, rfl⟩
theorem k116_54 : en_d 116 54 (.iload_n 3) 1 55 := ⟨by decide +kernel, rfl⟩
theorem k116_55 : en_d 116 55 (.iconst 2) 1 56 := ⟨by decide +kernel, rfl⟩
theorem k116_56 : en_j 116 56 (.if_icmp .le) 59 90 := ⟨34, by decide +kernel, by decide, rfl⟩
theorem k116_59 : en_d 116 59 (.iload_n 3) 1 60 := ⟨by decide +kernel, rfl⟩
theorem k116_60 : en_d 116 60 (.iconst 3) 1 61 := ⟨by decide +kernel, rfl⟩
theorem k116_61 : en_j 116 61 (.if_icmp .ne) 64 78 := ⟨17, by decide +kernel, by decide, rfl⟩
theorem k116_64 : en_d 116 64 (.aload_n 0) 1 65 := ⟨by decide +kernel, rfl⟩
theorem k116_65 : en_df 116 65 10 15 false true 68 := ⟨53, by decide +kernel, by decide +kernel, by decide +kernel, rfl⟩
theorem k116_68 : en_d 116 68 (.bipush 16) 2 70 := ⟨by decide +kernel, rfl⟩
theorem k116_70 : en_d 116 70 (.iload_n 1) 1 71 := ⟨by decide +kernel, rfl⟩
theorem k116_71 : en_d 116 71 .imul 1 72 := ⟨by decide +kernel, rfl⟩
theorem k116_72 : en_d 116 72 (.iload_n 2) 1 73 := ⟨by decide +kernel, rfl⟩
theorem k116_73 : en_d 116 73 .iadd 1 74 := ⟨by decide +kernel, rfl⟩
theorem k116_74 : en_d 116 74 .iaload 1 75 := ⟨by decide +kernel, rfl⟩
theorem k116_75 : en_j 116 75 .goto 78 89 := ⟨14, by decide +kernel, by decide, rfl⟩
theorem k116_78 : en_d 116 78 (.aload_n 0) 1 79 := ⟨by decide +kernel, rfl⟩
theorem k116_79 : en_df 116 79 10 16 false true 82 := ⟨56, by decide +kernel, by decide +kernel, by decide +kernel, rfl⟩
theorem k116_82 : en_d 116 82 (.bipush 16) 2 84 := ⟨by decide +kernel, rfl⟩
theorem k116_84 : en_d 116 84 (.iload_n 1) 1 85 := ⟨by decide +kernel, rfl⟩
theorem k116_85 : en_d 116 85 .imul 1 86 := ⟨by decide +kernel, rfl⟩
theorem k116_86 : en_d 116 86 (.iload_n 2) 1 87 := ⟨by decide +kernel, rfl⟩
theorem k116_87 : en_d 116 87 .iadd 1 88 := ⟨by decide +kernel, rfl⟩
theorem k116_88 : en_d 116 88 .iaload 1 89 := ⟨by decide +kernel, rfl⟩
theorem k116_89 : en_d 116 89 .ireturn 1 90 := ⟨by decide +kernel, rfl⟩
theorem k116_90 : en_d 116 90 (.iconst 2) 1 91 := ⟨by decide +kernel, rfl⟩
theorem k116_91 : en_d 116 91 (.iload_n 1) 1 92 := ⟨by decide +kernel, rfl⟩
theorem k116_92 : en_d 116 92 .imul 1 93 := ⟨by decide +kernel, rfl⟩
theorem k116_93 : en_d 116 93 (.iload_n 3) 1 94 := ⟨by decide +kernel, rfl⟩
theorem k116_94 : en_d 116 94 .iadd 1 95 := ⟨by decide +kernel, rfl⟩
theorem k116_95 : en_d 116 95 (.iconst 1) 1 96 := ⟨by decide +kernel, rfl⟩
theorem k116_96 : en_d 116 96 .isub 1 97 := ⟨by decide +kernel, rfl⟩
theorem k116_97 : en_d 116 97 (.istore 4) 2 99 := ⟨by decide +kernel, rfl⟩
theorem k116_99 : en_d 116 99 (.iload_n 3) 1 100 := ⟨by decide +kernel, rfl⟩
theorem k116_100 : en_d 116 100 (.aload_n 0) 1 101 := ⟨by decide +kernel, rfl⟩
theorem k116_101 : en_df 116 101 10 17 false true 104 := ⟨59, by decide +kernel, by decide +kernel, by decide +kernel, rfl⟩
theorem k116_104 : en_d 116 104 (.iload_n 1) 1 105 := ⟨by decide +kernel, rfl⟩
theorem k116_105 : en_d 116 105 .iaload 1 106 := ⟨by decide +kernel, rfl⟩
theorem k116_106 : en_j 116 106 (.if_icmp .gt) 109 131 := ⟨25, by decide +kernel, by decide, rfl⟩
theorem k116_109 : en_d 116 109 (.iload_n 2) 1 110 := ⟨by decide +kernel, rfl⟩
theorem k116_110 : en_d 116 110 (.aload_n 0) 1 111 := ⟨by decide +kernel, rfl⟩
theorem k116_111 : en_df 116 111 10 18 false true 114 := ⟨62, by decide +kernel, by decide +kernel, by decide +kernel, rfl⟩
theorem k116_114 : en_d 116 114 (.iload 4) 2 116 := ⟨by decide +kernel, rfl⟩
theorem k116_116 : en_d 116 116 .iaload 1 117 := ⟨by decide +kernel, rfl⟩
theorem k116_117 : en_j 116 117 (.if_icmp .lt) 120 131 := ⟨14, by decide +kernel, by decide, rfl⟩
theorem k116_120 : en_d 116 120 (.iload_n 2) 1 121 := ⟨by decide +kernel, rfl⟩
theorem k116_121 : en_d 116 121 (.aload_n 0) 1 122 := ⟨by decide +kernel, rfl⟩
theorem k116_122 : en_df 116 122 10 19 false true 125 := ⟨65, by decide +kernel, by decide +kernel, by decide +kernel, rfl⟩
theorem k116_125 : en_d 116 125 (.iload 4) 2 127 := ⟨by decide +kernel, rfl⟩
theorem k116_127 : en_d 116 127 .iaload 1 128 := ⟨by decide +kernel, rfl⟩
theorem k116_128 : en_j 116 128 (.if_icmp .le) 131 135 := ⟨7, by decide +kernel, by decide, rfl⟩
theorem k116_131 : en_d 116 131 (.iconst (-1)) 1 132 := ⟨by decide +kernel, rfl⟩
theorem k116_132 : en_j 116 132 .goto 135 147 := ⟨15, by decide +kernel, by decide, rfl⟩
theorem k116_135 : en_d 116 135 (.aload_n 0) 1 136 := ⟨by decide +kernel, rfl⟩
theorem k116_136 : en_df 116 136 10 20 false true 139 := ⟨68, by decide +kernel, by decide +kernel, by decide +kernel, rfl⟩
theorem k116_139 : en_d 116 139 (.bipush 16) 2 141 := ⟨by decide +kernel, rfl⟩
theorem k116_141 : en_d 116 141 (.iload 4) 2 143 := ⟨by decide +kernel, rfl⟩
theorem k116_143 : en_d 116 143 .imul 1 144 := ⟨by decide +kernel, rfl⟩
theorem k116_144 : en_d 116 144 (.iload_n 2) 1 145 := ⟨by decide +kernel, rfl⟩
theorem k116_145 : en_d 116 145 .iadd 1 146 := ⟨by decide +kernel, rfl⟩
theorem k116_146 : en_d 116 146 .iaload 1 147 := ⟨by decide +kernel, rfl⟩
theorem k116_147 : en_d 116 147 .ireturn 1 148 := ⟨by decide +kernel, rfl⟩
/-! 117: EndorsedLedgerModel.state(III)I -/
theorem k117_0 : en_d 117 0 (.aload_n 0) 1 1 := ⟨by decide +kernel, rfl⟩
theorem k117_1 : en_d 117 1 (.iload_n 1) 1 2 := ⟨by decide +kernel, rfl⟩
theorem k117_2 : en_dv 117 2 102 false 5 := ⟨173, by decide +kernel, by decide +kernel, rfl, by decide +kernel, by decide +kernel⟩
theorem k117_5 : en_j 117 5 (.ifCond .eq) 8 27 := ⟨22, by decide +kernel, by decide, rfl⟩
theorem k117_8 : en_d 117 8 (.iload_n 2) 1 9 := ⟨by decide +kernel, rfl⟩
theorem k117_9 : en_d 117 9 (.iconst 0) 1 10 := ⟨by decide +kernel, rfl⟩
theorem k117_10 : en_d 117 10 (.bipush 15) 2 12 := ⟨by decide +kernel, rfl⟩
theorem k117_12 : en_dS 117 12 87 false 15 := ⟨129, by decide +kernel, by decide +kernel, rfl, by decide +kernel, by decide +kernel⟩
theorem k117_15 : en_j 117 15 (.ifCond .eq) 18 27 := ⟨12, by decide +kernel, by decide, rfl⟩
theorem k117_18 : en_d 117 18 (.iload_n 3) 1 19 := ⟨by decide +kernel, rfl⟩
theorem k117_19 : en_d 117 19 (.iconst 0) 1 20 := ⟨by decide +kernel, rfl⟩
theorem k117_20 : en_d 117 20 (.iconst 1) 1 21 := ⟨by decide +kernel, rfl⟩
theorem k117_21 : en_dS 117 21 87 false 24 := ⟨129, by decide +kernel, by decide +kernel, rfl, by decide +kernel, by decide +kernel⟩
theorem k117_24 : en_j 117 24 (.ifCond .ne) 27 29 := ⟨5, by decide +kernel, by decide, rfl⟩
theorem k117_27 : en_d 117 27 (.iconst (-1)) 1 28 := ⟨by decide +kernel, rfl⟩
theorem k117_28 : en_d 117 28 .ireturn 1 29 := ⟨by decide +kernel, rfl⟩
theorem k117_29 : en_d 117 29 (.aload_n 0) 1 30 := ⟨by decide +kernel, rfl⟩
theorem k117_30 : en_d 117 30 (.aload_n 0) 1 31 := ⟨by decide +kernel, rfl⟩
theorem k117_31 : en_df 117 31 10 38 false true 34 := ⟨108, by decide +kernel, by decide +kernel, by decide +kernel, rfl⟩
theorem k117_34 : en_d 117 34 (.iload_n 1) 1 35 := ⟨by decide +kernel, rfl⟩
theorem k117_35 : en_d 117 35 .iaload 1 36 := ⟨by decide +kernel, rfl⟩
theorem k117_36 : en_dv 117 36 91 false 39 := ⟨176, by decide +kernel, by decide +kernel, rfl, by decide +kernel, by decide +kernel⟩
theorem k117_39 : en_d 117 39 (.iload_n 3) 1 40 := ⟨by decide +kernel, rfl⟩
theorem k117_40 : en_j 117 40 (.ifCond .ne) 43 52 := ⟨12, by decide +kernel, by decide, rfl⟩
theorem k117_43 : en_d 117 43 (.aload_n 0) 1 44 := ⟨by decide +kernel, rfl⟩
theorem k117_44 : en_df 117 44 10 41 false true 47 := ⟨117, by decide +kernel, by decide +kernel, by decide +kernel, rfl⟩
theorem k117_47 : en_d 117 47 (.iload_n 2) 1 48 := ⟨by decide +kernel, rfl⟩
theorem k117_48 : en_d 117 48 .iaload 1 49 := ⟨by decide +kernel, rfl⟩
theorem k117_49 : en_j 117 49 .goto 52 58 := ⟨9, by decide +kernel, by decide, rfl⟩
theorem k117_52 : en_d 117 52 (.aload_n 0) 1 53 := ⟨by decide +kernel, rfl⟩
theorem k117_53 : en_df 117 53 10 40 false true 56 := ⟨114, by decide +kernel, by decide +kernel, by decide +kernel, rfl⟩
theorem k117_56 : en_d 117 56 (.iload_n 2) 1 57 := ⟨by decide +kernel, rfl⟩
theorem k117_57 : en_d 117 57 .iaload 1 58 := ⟨by decide +kernel, rfl⟩
theorem k117_58 : en_d 117 58 .ireturn 1 59 := ⟨by decide +kernel, rfl⟩
/-! 118: EndorsedLedgerModel.flag(III)I -/
theorem k118_0 : en_d 118 0 (.aload_n 0) 1 1 := ⟨by decide +kernel, rfl⟩
theorem k118_1 : en_d 118 1 (.iload_n 1) 1 2 := ⟨by decide +kernel, rfl⟩
theorem k118_2 : en_dv 118 2 102 false 5 := ⟨173, by decide +kernel, by decide +kernel, rfl, by decide +kernel, by decide +kernel⟩
theorem k118_5 : en_j 118 5 (.ifCond .eq) 8 41 := ⟨36, by decide +kernel, by decide, rfl⟩
theorem k118_8 : en_d 118 8 (.iload_n 2) 1 9 := ⟨by decide +kernel, rfl⟩
theorem k118_9 : en_j 118 9 (.ifCond .lt) 12 41 := ⟨32, by decide +kernel, by decide, rfl⟩
theorem k118_12 : en_d 118 12 (.iload_n 2) 1 13 := ⟨by decide +kernel, rfl⟩
theorem k118_13 : en_d 118 13 (.aload_n 0) 1 14 := ⟨by decide +kernel, rfl⟩
theorem k118_14 : en_df 118 14 10 38 false true 17 := ⟨108, by decide +kernel, by decide +kernel, by decide +kernel, rfl⟩
theorem k118_17 : en_d 118 17 (.iload_n 1) 1 18 := ⟨by decide +kernel, rfl⟩
theorem k118_18 : en_d 118 18 .iaload 1 19 := ⟨by decide +kernel, rfl⟩
theorem k118_19 : en_j 118 19 (.if_icmp .ge) 22 41 := ⟨22, by decide +kernel, by decide, rfl⟩
theorem k118_22 : en_d 118 22 (.iload_n 3) 1 23 := ⟨by decide +kernel, rfl⟩
theorem k118_23 : en_j 118 23 (.ifCond .lt) 26 41 := ⟨18, by decide +kernel, by decide, rfl⟩
theorem k118_26 : en_d 118 26 (.iload_n 3) 1 27 := ⟨by decide +kernel, rfl⟩
theorem k118_27 : en_d 118 27 (.aload_n 0) 1 28 := ⟨by decide +kernel, rfl⟩
theorem k118_28 : en_df 118 28 10 28 false true 31 := ⟨80, by decide +kernel, by decide +kernel, by decide +kernel, rfl⟩
theorem k118_31 : en_d 118 31 (.aload_n 0) 1 32 := ⟨by decide +kernel, rfl⟩
theorem k118_32 : en_df 118 32 10 35 false true 35 := ⟨102, by decide +kernel, by decide +kernel, by decide +kernel, rfl⟩
theorem k118_35 : en_d 118 35 (.iload_n 2) 1 36 := ⟨by decide +kernel, rfl⟩
theorem k118_36 : en_d 118 36 .iaload 1 37 := ⟨by decide +kernel, rfl⟩
theorem k118_37 : en_d 118 37 .iaload 1 38 := ⟨by decide +kernel, rfl⟩
theorem k118_38 : en_j 118 38 (.if_icmp .lt) 41 43 := ⟨5, by decide +kernel, by decide, rfl⟩
theorem k118_41 : en_d 118 41 (.iconst (-1)) 1 42 := ⟨by decide +kernel, rfl⟩
theorem k118_42 : en_d 118 42 .ireturn 1 43 := ⟨by decide +kernel, rfl⟩
theorem k118_43 : en_d 118 43 (.aload_n 0) 1 44 := ⟨by decide +kernel, rfl⟩
theorem k118_44 : en_d 118 44 (.iload_n 2) 1 45 := ⟨by decide +kernel, rfl⟩
theorem k118_45 : en_d 118 45 (.iconst 1) 1 46 := ⟨by decide +kernel, rfl⟩
theorem k118_46 : en_d 118 46 .iadd 1 47 := ⟨by decide +kernel, rfl⟩
theorem k118_47 : en_dv 118 47 91 false 50 := ⟨176, by decide +kernel, by decide +kernel, rfl, by decide +kernel, by decide +kernel⟩
theorem k118_50 : en_d 118 50 (.aload_n 0) 1 51 := ⟨by decide +kernel, rfl⟩
theorem k118_51 : en_df 118 51 10 42 false true 54 := ⟨120, by decide +kernel, by decide +kernel, by decide +kernel, rfl⟩
theorem k118_54 : en_d 118 54 (.iload_n 3) 1 55 := ⟨by decide +kernel, rfl⟩
theorem k118_55 : en_d 118 55 .iaload 1 56 := ⟨by decide +kernel, rfl⟩
theorem k118_56 : en_d 118 56 .ireturn 1 57 := ⟨by decide +kernel, rfl⟩
/-! 119: EndorsedLedgerModel.at(II)I -/
theorem k119_0 : en_d 119 0 (.iload_n 2) 1 1 := ⟨by decide +kernel, rfl⟩
theorem k119_1 : en_j 119 1 (.ifCond .lt) 4 14 := ⟨13, by decide +kernel, by decide, rfl⟩
theorem k119_4 : en_d 119 4 (.iload_n 2) 1 5 := ⟨by decide +kernel, rfl⟩
theorem k119_5 : en_d 119 5 (.aload_n 0) 1 6 := ⟨by decide +kernel, rfl⟩
theorem k119_6 : en_df 119 6 10 28 false true 9 := ⟨80, by decide +kernel, by decide +kernel, by decide +kernel, rfl⟩
theorem k119_9 : en_d 119 9 (.iload_n 1) 1 10 := ⟨by decide +kernel, rfl⟩
theorem k119_10 : en_d 119 10 .iaload 1 11 := ⟨by decide +kernel, rfl⟩
theorem k119_11 : en_j 119 11 (.if_icmp .lt) 14 18 := ⟨7, by decide +kernel, by decide, rfl⟩
theorem k119_14 : en_d 119 14 (.iconst (-1)) 1 15 := ⟨by decide +kernel, rfl⟩
theorem k119_15 : en_j 119 15 .goto 18 28 := ⟨13, by decide +kernel, by decide, rfl⟩
theorem k119_18 : en_d 119 18 (.aload_n 0) 1 19 := ⟨by decide +kernel, rfl⟩
theorem k119_19 : en_df 119 19 10 27 false true 22 := ⟨77, by decide +kernel, by decide +kernel, by decide +kernel, rfl⟩
theorem k119_22 : en_d 119 22 (.iconst 4) 1 23 := ⟨by decide +kernel, rfl⟩
theorem k119_23 : en_d 119 23 (.iload_n 1) 1 24 := ⟨by decide +kernel, rfl⟩
theorem k119_24 : en_d 119 24 .imul 1 25 := ⟨by decide +kernel, rfl⟩
theorem k119_25 : en_d 119 25 (.iload_n 2) 1 26 := ⟨by decide +kernel, rfl⟩
theorem k119_26 : en_d 119 26 .iadd 1 27 := ⟨by decide +kernel, rfl⟩
theorem k119_27 : en_d 119 27 .iaload 1 28 := ⟨by decide +kernel, rfl⟩
theorem k119_28 : en_d 119 28 .ireturn 1 29 := ⟨by decide +kernel, rfl⟩
/-! 120: EndorsedLedgerModel.chain(II)I -/
theorem k120_0 : en_d 120 0 (.iload_n 1) 1 1 := ⟨by decide +kernel, rfl⟩
theorem k120_1 : en_j 120 1 (.ifCond .lt) 4 12 := ⟨11, by decide +kernel, by decide, rfl⟩
theorem k120_4 : en_d 120 4 (.iload_n 1) 1 5 := ⟨by decide +kernel, rfl⟩
theorem k120_5 : en_d 120 5 (.aload_n 0) 1 6 := ⟨by decide +kernel, rfl⟩
theorem k120_6 : en_df 120 6 10 36 false false 9 := ⟨203, by decide +kernel, by decide +kernel, by decide +kernel, rfl⟩
theorem k120_9 : en_j 120 9 (.if_icmp .lt) 12 14 := ⟨5, by decide +kernel, by decide, rfl⟩
theorem k120_12 : en_d 120 12 (.iconst (-1)) 1 13 := ⟨by decide +kernel, rfl⟩
theorem k120_13 : en_d 120 13 .ireturn 1 14 := ⟨by decide +kernel, rfl⟩
theorem k120_14 : en_d 120 14 (.iload_n 2) 1 15 := ⟨by decide +kernel, rfl⟩
theorem k120_15 : en_d 120 15 (.iconst (-1)) 1 16 := ⟨by decide +kernel, rfl⟩
theorem k120_16 : en_j 120 16 (.if_icmp .ne) 19 33 := ⟨17, by decide +kernel, by decide, rfl⟩
theorem k120_19 : en_d 120 19 (.aload_n 0) 1 20 := ⟨by decide +kernel, rfl⟩
theorem k120_20 : en_df 120 20 10 28 false true 23 := ⟨80, by decide +kernel, by decide +kernel, by decide +kernel, rfl⟩
theorem k120_23 : en_d 120 23 (.aload_n 0) 1 24 := ⟨by decide +kernel, rfl⟩
theorem k120_24 : en_df 120 24 10 35 false true 27 := ⟨102, by decide +kernel, by decide +kernel, by decide +kernel, rfl⟩
theorem k120_27 : en_d 120 27 (.iload_n 1) 1 28 := ⟨by decide +kernel, rfl⟩
theorem k120_28 : en_d 120 28 .iaload 1 29 := ⟨by decide +kernel, rfl⟩
theorem k120_29 : en_d 120 29 .iaload 1 30 := ⟨by decide +kernel, rfl⟩
theorem k120_30 : en_j 120 30 .goto 33 44 := ⟨14, by decide +kernel, by decide, rfl⟩
theorem k120_33 : en_d 120 33 (.aload_n 0) 1 34 := ⟨by decide +kernel, rfl⟩
theorem k120_34 : en_d 120 34 (.aload_n 0) 1 35 := ⟨by decide +kernel, rfl⟩
theorem k120_35 : en_df 120 35 10 35 false true 38 := ⟨102, by decide +kernel, by decide +kernel, by decide +kernel, rfl⟩
theorem k120_38 : en_d 120 38 (.iload_n 1) 1 39 := ⟨by decide +kernel, rfl⟩
theorem k120_39 : en_d 120 39 .iaload 1 40 := ⟨by decide +kernel, rfl⟩
theorem k120_40 : en_d 120 40 (.iload_n 2) 1 41 := ⟨by decide +kernel, rfl⟩
theorem k120_41 : en_dv 120 41 119 false 44 := ⟨206, by decide +kernel, by decide +kernel, rfl, by decide +kernel, by decide +kernel⟩
theorem k120_44 : en_d 120 44 .ireturn 1 45 := ⟨by decide +kernel, rfl⟩
/-! 121: EndorsedLedgerModel.log(III)I -/
theorem k121_0 : en_d 121 0 (.aload_n 0) 1 1 := ⟨by decide +kernel, rfl⟩
theorem k121_1 : en_d 121 1 (.iload_n 1) 1 2 := ⟨by decide +kernel, rfl⟩
theorem k121_2 : en_dv 121 2 106 false 5 := ⟨194, by decide +kernel, by decide +kernel, rfl, by decide +kernel, by decide +kernel⟩
theorem k121_5 : en_j 121 5 (.ifCond .eq) 8 22 := ⟨17, by decide +kernel, by decide, rfl⟩
theorem k121_8 : en_d 121 8 (.iload_n 2) 1 9 := ⟨by decide +kernel, rfl⟩
theorem k121_9 : en_j 121 9 (.ifCond .lt) 12 22 := ⟨13, by decide +kernel, by decide, rfl⟩
theorem k121_12 : en_d 121 12 (.iload_n 2) 1 13 := ⟨by decide +kernel, rfl⟩
theorem k121_13 : en_d 121 13 (.aload_n 0) 1 14 := ⟨by decide +kernel, rfl⟩
theorem k121_14 : en_df 121 14 10 33 false true 17 := ⟨95, by decide +kernel, by decide +kernel, by decide +kernel, rfl⟩
theorem k121_17 : en_d 121 17 (.iload_n 1) 1 18 := ⟨by decide +kernel, rfl⟩
theorem k121_18 : en_d 121 18 .iaload 1 19 := ⟨by decide +kernel, rfl⟩
theorem k121_19 : en_j 121 19 (.if_icmp .lt) 22 24 := ⟨5, by decide +kernel, by decide, rfl⟩
theorem k121_22 : en_d 121 22 (.iconst (-1)) 1 23 := ⟨by decide +kernel, rfl⟩
theorem k121_23 : en_d 121 23 .ireturn 1 24 := ⟨by decide +kernel, rfl⟩
theorem k121_24 : en_d 121 24 (.aload_n 0) 1 25 := ⟨by decide +kernel, rfl⟩
theorem k121_25 : en_df 121 25 10 32 false true 28 := ⟨92, by decide +kernel, by decide +kernel, by decide +kernel, rfl⟩
theorem k121_28 : en_d 121 28 (.bipush 40) 2 30 := ⟨by decide +kernel, rfl⟩
theorem k121_30 : en_d 121 30 (.iload_n 1) 1 31 := ⟨by decide +kernel, rfl⟩
theorem k121_31 : en_d 121 31 .imul 1 32 := ⟨by decide +kernel, rfl⟩
theorem k121_32 : en_d 121 32 (.iload_n 2) 1 33 := ⟨by decide +kernel, rfl⟩
theorem k121_33 : en_d 121 33 .iadd 1 34 := ⟨by decide +kernel, rfl⟩
theorem k121_34 : en_d 121 34 .iaload 1 35 := ⟨by decide +kernel, rfl⟩
theorem k121_35 : en_d 121 35 (.istore 4) 2 37 := ⟨by decide +kernel, rfl⟩
theorem k121_37 : en_d 121 37 (.iload_n 3) 1 38 := ⟨by decide +kernel, rfl⟩
theorem k121_38 : en_d 121 38 (.iconst (-1)) 1 39 := ⟨by decide +kernel, rfl⟩
theorem k121_39 : en_j 121 39 (.if_icmp .ne) 42 52 := ⟨13, by decide +kernel, by decide, rfl⟩
theorem k121_42 : en_d 121 42 (.aload_n 0) 1 43 := ⟨by decide +kernel, rfl⟩
theorem k121_43 : en_df 121 43 10 29 false true 46 := ⟨83, by decide +kernel, by decide +kernel, by decide +kernel, rfl⟩
theorem k121_46 : en_d 121 46 (.iload 4) 2 48 := ⟨by decide +kernel, rfl⟩
theorem k121_48 : en_d 121 48 .iaload 1 49 := ⟨by decide +kernel, rfl⟩
theorem k121_49 : en_j 121 49 .goto 52 59 := ⟨10, by decide +kernel, by decide, rfl⟩
theorem k121_52 : en_d 121 52 (.aload_n 0) 1 53 := ⟨by decide +kernel, rfl⟩
theorem k121_53 : en_d 121 53 (.iload 4) 2 55 := ⟨by decide +kernel, rfl⟩
theorem k121_55 : en_d 121 55 (.iload_n 3) 1 56 := ⟨by decide +kernel, rfl⟩
theorem k121_56 : en_dv 121 56 119 false 59 := ⟨206, by decide +kernel, by decide +kernel, rfl, by decide +kernel, by decide +kernel⟩
theorem k121_59 : en_d 121 59 .ireturn 1 60 := ⟨by decide +kernel, rfl⟩
/-! 122: EndorsedLedgerModel.about(I)I -/
theorem k122_0 : en_d 122 0 (.iload_n 1) 1 1 := ⟨by decide +kernel, rfl⟩
theorem k122_1 : en_d 122 1 (.iconst 0) 1 2 := ⟨by decide +kernel, rfl⟩
theorem k122_2 : en_d 122 2 (.bipush 18) 2 4 := ⟨by decide +kernel, rfl⟩
theorem k122_4 : en_dS 122 4 87 false 7 := ⟨129, by decide +kernel, by decide +kernel, rfl, by decide +kernel, by decide +kernel⟩
theorem k122_7 : en_j 122 7 (.ifCond .ne) 10 12 := ⟨5, by decide +kernel, by decide, rfl⟩
theorem k122_10 : en_d 122 10 (.iconst (-1)) 1 11 := ⟨by decide +kernel, rfl⟩
theorem k122_11 : en_d 122 11 .ireturn 1 12 := ⟨by decide +kernel, rfl⟩
theorem k122_12 : en_d 122 12 (.iload_n 1) 1 13 := ⟨by decide +kernel, rfl⟩
theorem k122_13 : en_d 122 13 (.bipush 6) 2 15 := ⟨by decide +kernel, rfl⟩
theorem k122_15 : en_j 122 15 (.if_icmp .ge) 18 41 := ⟨26, by decide +kernel, by decide, rfl⟩
theorem k122_18 : en_d 122 18 (.iload_n 1) 1 19 := ⟨by decide +kernel, rfl⟩
theorem k122_19 : en_d 122 19 (.iconst 3) 1 20 := ⟨by decide +kernel, rfl⟩
theorem k122_20 : en_j 122 20 (.if_icmp .ge) 23 32 := ⟨12, by decide +kernel, by decide, rfl⟩
theorem k122_23 : en_d 122 23 (.aload_n 0) 1 24 := ⟨by decide +kernel, rfl⟩
theorem k122_24 : en_df 122 24 10 31 false true 27 := ⟨89, by decide +kernel, by decide +kernel, by decide +kernel, rfl⟩
theorem k122_27 : en_d 122 27 (.iload_n 1) 1 28 := ⟨by decide +kernel, rfl⟩
theorem k122_28 : en_d 122 28 .iaload 1 29 := ⟨by decide +kernel, rfl⟩
theorem k122_29 : en_j 122 29 .goto 32 40 := ⟨11, by decide +kernel, by decide, rfl⟩
theorem k122_32 : en_d 122 32 (.aload_n 0) 1 33 := ⟨by decide +kernel, rfl⟩
theorem k122_33 : en_df 122 33 10 33 false true 36 := ⟨95, by decide +kernel, by decide +kernel, by decide +kernel, rfl⟩
theorem k122_36 : en_d 122 36 (.iload_n 1) 1 37 := ⟨by decide +kernel, rfl⟩
theorem k122_37 : en_d 122 37 (.iconst 3) 1 38 := ⟨by decide +kernel, rfl⟩
theorem k122_38 : en_d 122 38 .isub 1 39 := ⟨by decide +kernel, rfl⟩
theorem k122_39 : en_d 122 39 .iaload 1 40 := ⟨by decide +kernel, rfl⟩
theorem k122_40 : en_d 122 40 .ireturn 1 41 := ⟨by decide +kernel, rfl⟩
theorem k122_41 : en_d 122 41 (.iload_n 1) 1 42 := ⟨by decide +kernel, rfl⟩
theorem k122_42 : en_d 122 42 (.bipush 10) 2 44 := ⟨by decide +kernel, rfl⟩
theorem k122_44 : en_j 122 44 (.if_icmp .ge) 47 91 := ⟨47, by decide +kernel, by decide, rfl⟩
theorem k122_47 : en_d 122 47 (.iload_n 1) 1 48 := ⟨by decide +kernel, rfl⟩
theorem k122_48 : en_d 122 48 (.bipush 6) 2 50 := ⟨by decide +kernel, rfl⟩
theorem k122_50 : en_j 122 50 (.if_icmp .ne) 53 60 := ⟨10, by decide +kernel, by decide, rfl⟩
theorem k122_53 : en_d 122 53 (.aload_n 0) 1 54 := ⟨by decide +kernel, rfl⟩
theorem k122_54 : en_df 122 54 10 34 false false 57 := ⟨98, by decide +kernel, by decide +kernel, by decide +kernel, rfl⟩
theorem k122_57 : en_j 122 57 .goto 60 90 := ⟨33, by decide +kernel, by decide, rfl⟩
theorem k122_60 : en_d 122 60 (.iload_n 1) 1 61 := ⟨by decide +kernel, rfl⟩
theorem k122_61 : en_d 122 61 (.bipush 7) 2 63 := ⟨by decide +kernel, rfl⟩
theorem k122_63 : en_j 122 63 (.if_icmp .ne) 66 73 := ⟨10, by decide +kernel, by decide, rfl⟩
theorem k122_66 : en_d 122 66 (.aload_n 0) 1 67 := ⟨by decide +kernel, rfl⟩
theorem k122_67 : en_df 122 67 10 36 false false 70 := ⟨203, by decide +kernel, by decide +kernel, by decide +kernel, rfl⟩
theorem k122_70 : en_j 122 70 .goto 73 90 := ⟨20, by decide +kernel, by decide, rfl⟩
theorem k122_73 : en_d 122 73 (.iload_n 1) 1 74 := ⟨by decide +kernel, rfl⟩
theorem k122_74 : en_d 122 74 (.bipush 8) 2 76 := ⟨by decide +kernel, rfl⟩
theorem k122_76 : en_j 122 76 (.if_icmp .ne) 79 86 := ⟨10, by decide +kernel, by decide, rfl⟩
theorem k122_79 : en_d 122 79 (.aload_n 0) 1 80 := ⟨by decide +kernel, rfl⟩
theorem k122_80 : en_df 122 80 10 25 false false 83 := ⟨188, by decide +kernel, by decide +kernel, by decide +kernel, rfl⟩
theorem k122_83 : en_j 122 83 .goto 86 90 := ⟨7, by decide +kernel, by decide, rfl⟩
theorem k122_86 : en_d 122 86 (.aload_n 0) 1 87 := ⟨by decide +kernel, rfl⟩
theorem k122_87 : en_df 122 87 10 9 false false 90 := ⟨133, by decide +kernel, by decide +kernel, by decide +kernel, rfl⟩
theorem k122_90 : en_d 122 90 .ireturn 1 91 := ⟨by decide +kernel, rfl⟩
theorem k122_91 : en_d 122 91 (.iload_n 1) 1 92 := ⟨by decide +kernel, rfl⟩
theorem k122_92 : en_d 122 92 (.bipush 18) 2 94 := ⟨by decide +kernel, rfl⟩
theorem k122_94 : en_j 122 94 (.if_icmp .ge) 97 125 := ⟨31, by decide +kernel, by decide, rfl⟩
theorem k122_97 : en_d 122 97 (.iload_n 1) 1 98 := ⟨by decide +kernel, rfl⟩
theorem k122_98 : en_d 122 98 (.bipush 14) 2 100 := ⟨by decide +kernel, rfl⟩
theorem k122_100 : en_j 122 100 (.if_icmp .ge) 103 115 := ⟨15, by decide +kernel, by decide, rfl⟩
theorem k122_103 : en_d 122 103 (.aload_n 0) 1 104 := ⟨by decide +kernel, rfl⟩
theorem k122_104 : en_df 122 104 10 38 false true 107 := ⟨108, by decide +kernel, by decide +kernel, by decide +kernel, rfl⟩
theorem k122_107 : en_d 122 107 (.iload_n 1) 1 108 := ⟨by decide +kernel, rfl⟩
theorem k122_108 : en_d 122 108 (.bipush 10) 2 110 := ⟨by decide +kernel, rfl⟩
theorem k122_110 : en_d 122 110 .isub 1 111 := ⟨by decide +kernel, rfl⟩
theorem k122_111 : en_d 122 111 .iaload 1 112 := ⟨by decide +kernel, rfl⟩
theorem k122_112 : en_j 122 112 .goto 115 124 := ⟨12, by decide +kernel, by decide, rfl⟩
theorem k122_115 : en_d 122 115 (.aload_n 0) 1 116 := ⟨by decide +kernel, rfl⟩
theorem k122_116 : en_df 122 116 10 39 false true 119 := ⟨111, by decide +kernel, by decide +kernel, by decide +kernel, rfl⟩
theorem k122_119 : en_d 122 119 (.iload_n 1) 1 120 := ⟨by decide +kernel, rfl⟩
theorem k122_120 : en_d 122 120 (.bipush 14) 2 122 := ⟨by decide +kernel, rfl⟩
theorem k122_122 : en_d 122 122 .isub 1 123 := ⟨by decide +kernel, rfl⟩
theorem k122_123 : en_d 122 123 .iaload 1 124 := ⟨by decide +kernel, rfl⟩
theorem k122_124 : en_d 122 124 .ireturn 1 125 := ⟨by decide +kernel, rfl⟩
theorem k122_125 : en_d 122 125 (.iconst 0) 1 126 := ⟨by decide +kernel, rfl⟩
theorem k122_126 : en_d 122 126 (.istore_n 2) 1 127 := ⟨by decide +kernel, rfl⟩
theorem k122_127 : en_d 122 127 (.iconst 0) 1 128 := ⟨by decide +kernel, rfl⟩
theorem k122_128 : en_d 122 128 (.istore_n 3) 1 129 := ⟨by decide +kernel, rfl⟩
theorem k122_129 : en_d 122 129 (.iload_n 3) 1 130 := ⟨by decide +kernel, rfl⟩
theorem k122_130 : en_d 122 130 (.bipush 7) 2 132 := ⟨by decide +kernel, rfl⟩
theorem k122_132 : en_j 122 132 (.if_icmp .ge) 135 196 := ⟨64, by decide +kernel, by decide, rfl⟩
theorem k122_135 : en_d 122 135 (.iload_n 3) 1 136 := ⟨by decide +kernel, rfl⟩
theorem k122_136 : en_d 122 136 (.iconst 3) 1 137 := ⟨by decide +kernel, rfl⟩
theorem k122_137 : en_j 122 137 (.if_icmp .ge) 140 157 := ⟨20, by decide +kernel, by decide, rfl⟩
theorem k122_140 : en_d 122 140 (.aload_n 0) 1 141 := ⟨by decide +kernel, rfl⟩
theorem k122_141 : en_df 122 141 10 30 false true 144 := ⟨86, by decide +kernel, by decide +kernel, by decide +kernel, rfl⟩
theorem k122_144 : en_d 122 144 (.iload_n 3) 1 145 := ⟨by decide +kernel, rfl⟩
theorem k122_145 : en_d 122 145 .baload 1 146 := ⟨by decide +kernel, rfl⟩
theorem k122_146 : en_j 122 146 (.ifCond .ne) 149 153 := ⟨7, by decide +kernel, by decide, rfl⟩
theorem k122_149 : en_d 122 149 (.iconst 1) 1 150 := ⟨by decide +kernel, rfl⟩
theorem k122_150 : en_j 122 150 .goto 153 173 := ⟨23, by decide +kernel, by decide, rfl⟩
theorem k122_153 : en_d 122 153 (.iconst 0) 1 154 := ⟨by decide +kernel, rfl⟩
theorem k122_154 : en_j 122 154 .goto 157 173 := ⟨19, by decide +kernel, by decide, rfl⟩
theorem k122_157 : en_d 122 157 (.aload_n 0) 1 158 := ⟨by decide +kernel, rfl⟩
theorem k122_158 : en_df 122 158 10 37 false true 161 := ⟨105, by decide +kernel, by decide +kernel, by decide +kernel, rfl⟩
theorem k122_161 : en_d 122 161 (.iload_n 3) 1 162 := ⟨by decide +kernel, rfl⟩
theorem k122_162 : en_d 122 162 (.iconst 3) 1 163 := ⟨by decide +kernel, rfl⟩
theorem k122_163 : en_d 122 163 .isub 1 164 := ⟨by decide +kernel, rfl⟩
theorem k122_164 : en_d 122 164 .baload 1 165 := ⟨by decide +kernel, rfl⟩
theorem k122_165 : en_j 122 165 (.ifCond .ne) 168 172 := ⟨7, by decide +kernel, by decide, rfl⟩
theorem k122_168 : en_d 122 168 (.iconst 1) 1 169 := ⟨by decide +kernel, rfl⟩
theorem k122_169 : en_j 122 169 .goto 172 173 := ⟨4, by decide +kernel, by decide, rfl⟩
theorem k122_172 : en_d 122 172 (.iconst 0) 1 173 := ⟨by decide +kernel, rfl⟩
theorem k122_173 : en_d 122 173 (.istore 4) 2 175 := ⟨by decide +kernel, rfl⟩
theorem k122_175 : en_d 122 175 (.iload_n 2) 1 176 := ⟨by decide +kernel, rfl⟩
theorem k122_176 : en_d 122 176 (.iload 4) 2 178 := ⟨by decide +kernel, rfl⟩
theorem k122_178 : en_j 122 178 (.ifCond .eq) 181 187 := ⟨9, by decide +kernel, by decide, rfl⟩
theorem k122_181 : en_d 122 181 (.iconst 1) 1 182 := ⟨by decide +kernel, rfl⟩
theorem k122_182 : en_d 122 182 (.iload_n 3) 1 183 := ⟨by decide +kernel, rfl⟩
theorem k122_183 : en_d 122 183 .ishl 1 184 := ⟨by decide +kernel, rfl⟩
theorem k122_184 : en_j 122 184 .goto 187 188 := ⟨4, by decide +kernel, by decide, rfl⟩
theorem k122_187 : en_d 122 187 (.iconst 0) 1 188 := ⟨by decide +kernel, rfl⟩
theorem k122_188 : en_d 122 188 .iadd 1 189 := ⟨by decide +kernel, rfl⟩
theorem k122_189 : en_d 122 189 (.istore_n 2) 1 190 := ⟨by decide +kernel, rfl⟩
theorem k122_190 : en_d 122 190 (.iinc 3 1) 3 193 := ⟨by decide +kernel, rfl⟩
theorem k122_193 : en_j 122 193 .goto 196 129 := ⟨(-64), by decide +kernel, by decide, rfl⟩
theorem k122_196 : en_d 122 196 (.iload_n 2) 1 197 := ⟨by decide +kernel, rfl⟩
theorem k122_197 : en_d 122 197 .ireturn 1 198 := ⟨by decide +kernel, rfl⟩
end
section
/-! 123: EndorsedLedgerLaw.law([I)Z -/
theorem k123_0 : en_dw 123 0 0 3 := ⟨7, by decide +kernel, by decide +kernel, rfl⟩
theorem k123_3 : en_d 123 3 .dup 1 4 := ⟨by decide +kernel, rfl⟩
theorem k123_4 : en_dI 123 4 0 false 7 := ⟨9, by decide +kernel, by decide +kernel, rfl, by decide +kernel, by decide +kernel⟩
theorem k123_7 : en_d 123 7 (.astore_n 1) 1 8 := ⟨by decide +kernel, rfl⟩
theorem k123_8 : en_dw 123 8 10 11 := ⟨10, by decide +kernel, by decide +kernel, rfl⟩
theorem k123_11 : en_d 123 11 .dup 1 12 := ⟨by decide +kernel, rfl⟩
theorem k123_12 : en_dI 123 12 86 false 15 := ⟨12, by decide +kernel, by decide +kernel, rfl, by decide +kernel, by decide +kernel⟩
theorem k123_15 : en_d 123 15 (.astore_n 2) 1 16 := ⟨by decide +kernel, rfl⟩
theorem k123_16 : en_d 123 16 (.iconst 0) 1 17 := ⟨by decide +kernel, rfl⟩
theorem k123_17 : en_d 123 17 (.istore_n 3) 1 18 := ⟨by decide +kernel, rfl⟩
theorem k123_18 : en_d 123 18 (.iload_n 3) 1 19 := ⟨by decide +kernel, rfl⟩
theorem k123_19 : en_d 123 19 (.aload_n 0) 1 20 := ⟨by decide +kernel, rfl⟩
theorem k123_20 : en_d 123 20 .arraylength 1 21 := ⟨by decide +kernel, rfl⟩
theorem k123_21 : en_d 123 21 (.iconst 4) 1 22 := ⟨by decide +kernel, rfl⟩
theorem k123_22 : en_d 123 22 .isub 1 23 := ⟨by decide +kernel, rfl⟩
theorem k123_23 : en_j 123 23 (.if_icmp .gt) 26 736 := ⟨713, by decide +kernel, by decide, rfl⟩
theorem k123_26 : en_d 123 26 (.aload_n 0) 1 27 := ⟨by decide +kernel, rfl⟩
theorem k123_27 : en_d 123 27 (.iload_n 3) 1 28 := ⟨by decide +kernel, rfl⟩
theorem k123_28 : en_d 123 28 .iaload 1 29 := ⟨by decide +kernel, rfl⟩
theorem k123_29 : en_d 123 29 (.bipush 31) 2 31 := ⟨by decide +kernel, rfl⟩
theorem k123_31 : en_d 123 31 .iand 1 32 := ⟨by decide +kernel, rfl⟩
theorem k123_32 : decode (mB 123) 32 = .ok (.tableswitch 698 0 17 #[88, 131, 174, 207, 240, 263, 286, 309, 342, 391, 414, 437, 470, 513, 556, 599, 632, 675], 88) := by decide +kernel
theorem k123_120 : en_d 123 120 (.aload_n 1) 1 121 := ⟨by decide +kernel, rfl⟩
theorem k123_121 : en_d 123 121 (.aload_n 0) 1 122 := ⟨by decide +kernel, rfl⟩
theorem k123_122 : en_d 123 122 (.iload_n 3) 1 123 := ⟨by decide +kernel, rfl⟩
theorem k123_123 : en_d 123 123 (.iconst 1) 1 124 := ⟨by decide +kernel, rfl⟩
theorem k123_124 : en_d 123 124 .iadd 1 125 := ⟨by decide +kernel, rfl⟩
theorem k123_125 : en_d 123 125 .iaload 1 126 := ⟨by decide +kernel, rfl⟩
theorem k123_126 : en_d 123 126 (.aload_n 0) 1 127 := ⟨by decide +kernel, rfl⟩
theorem k123_127 : en_d 123 127 (.iload_n 3) 1 128 := ⟨by decide +kernel, rfl⟩
theorem k123_128 : en_d 123 128 (.iconst 2) 1 129 := ⟨by decide +kernel, rfl⟩
theorem k123_129 : en_d 123 129 .iadd 1 130 := ⟨by decide +kernel, rfl⟩
theorem k123_130 : en_d 123 130 .iaload 1 131 := ⟨by decide +kernel, rfl⟩
theorem k123_131 : en_d 123 131 (.aload_n 0) 1 132 := ⟨by decide +kernel, rfl⟩
theorem k123_132 : en_d 123 132 (.iload_n 3) 1 133 := ⟨by decide +kernel, rfl⟩
theorem k123_133 : en_d 123 133 (.iconst 3) 1 134 := ⟨by decide +kernel, rfl⟩
theorem k123_134 : en_d 123 134 .iadd 1 135 := ⟨by decide +kernel, rfl⟩
theorem k123_135 : en_d 123 135 .iaload 1 136 := ⟨by decide +kernel, rfl⟩
theorem k123_136 : en_dv 123 136 1 false 139 := ⟨13, by decide +kernel, by decide +kernel, rfl, by decide +kernel, by decide +kernel⟩
theorem k123_139 : en_d 123 139 (.aload_n 2) 1 140 := ⟨by decide +kernel, rfl⟩
theorem k123_140 : en_d 123 140 (.aload_n 0) 1 141 := ⟨by decide +kernel, rfl⟩
theorem k123_141 : en_d 123 141 (.iload_n 3) 1 142 := ⟨by decide +kernel, rfl⟩
theorem k123_142 : en_d 123 142 (.iconst 1) 1 143 := ⟨by decide +kernel, rfl⟩
theorem k123_143 : en_d 123 143 .iadd 1 144 := ⟨by decide +kernel, rfl⟩
theorem k123_144 : en_d 123 144 .iaload 1 145 := ⟨by decide +kernel, rfl⟩
theorem k123_145 : en_d 123 145 (.aload_n 0) 1 146 := ⟨by decide +kernel, rfl⟩
theorem k123_146 : en_d 123 146 (.iload_n 3) 1 147 := ⟨by decide +kernel, rfl⟩
theorem k123_147 : en_d 123 147 (.iconst 2) 1 148 := ⟨by decide +kernel, rfl⟩
theorem k123_148 : en_d 123 148 .iadd 1 149 := ⟨by decide +kernel, rfl⟩
theorem k123_149 : en_d 123 149 .iaload 1 150 := ⟨by decide +kernel, rfl⟩
theorem k123_150 : en_d 123 150 (.aload_n 0) 1 151 := ⟨by decide +kernel, rfl⟩
theorem k123_151 : en_d 123 151 (.iload_n 3) 1 152 := ⟨by decide +kernel, rfl⟩
theorem k123_152 : en_d 123 152 (.iconst 3) 1 153 := ⟨by decide +kernel, rfl⟩
theorem k123_153 : en_d 123 153 .iadd 1 154 := ⟨by decide +kernel, rfl⟩
theorem k123_154 : en_d 123 154 .iaload 1 155 := ⟨by decide +kernel, rfl⟩
theorem k123_155 : en_dv 123 155 88 false 158 := ⟨17, by decide +kernel, by decide +kernel, rfl, by decide +kernel, by decide +kernel⟩
theorem k123_158 : en_j 123 158 (.if_icmp .eq) 161 730 := ⟨572, by decide +kernel, by decide, rfl⟩
theorem k123_161 : en_d 123 161 (.iconst 0) 1 162 := ⟨by decide +kernel, rfl⟩
theorem k123_162 : en_d 123 162 .ireturn 1 163 := ⟨by decide +kernel, rfl⟩
theorem k123_163 : en_d 123 163 (.aload_n 1) 1 164 := ⟨by decide +kernel, rfl⟩
theorem k123_164 : en_d 123 164 (.aload_n 0) 1 165 := ⟨by decide +kernel, rfl⟩
theorem k123_165 : en_d 123 165 (.iload_n 3) 1 166 := ⟨by decide +kernel, rfl⟩
theorem k123_166 : en_d 123 166 (.iconst 1) 1 167 := ⟨by decide +kernel, rfl⟩
theorem k123_167 : en_d 123 167 .iadd 1 168 := ⟨by decide +kernel, rfl⟩
theorem k123_168 : en_d 123 168 .iaload 1 169 := ⟨by decide +kernel, rfl⟩
theorem k123_169 : en_d 123 169 (.aload_n 0) 1 170 := ⟨by decide +kernel, rfl⟩
theorem k123_170 : en_d 123 170 (.iload_n 3) 1 171 := ⟨by decide +kernel, rfl⟩
theorem k123_171 : en_d 123 171 (.iconst 2) 1 172 := ⟨by decide +kernel, rfl⟩
theorem k123_172 : en_d 123 172 .iadd 1 173 := ⟨by decide +kernel, rfl⟩
theorem k123_173 : en_d 123 173 .iaload 1 174 := ⟨by decide +kernel, rfl⟩
theorem k123_174 : en_d 123 174 (.aload_n 0) 1 175 := ⟨by decide +kernel, rfl⟩
theorem k123_175 : en_d 123 175 (.iload_n 3) 1 176 := ⟨by decide +kernel, rfl⟩
theorem k123_176 : en_d 123 176 (.iconst 3) 1 177 := ⟨by decide +kernel, rfl⟩
theorem k123_177 : en_d 123 177 .iadd 1 178 := ⟨by decide +kernel, rfl⟩
theorem k123_178 : en_d 123 178 .iaload 1 179 := ⟨by decide +kernel, rfl⟩
theorem k123_179 : en_dv 123 179 2 false 182 := ⟨18, by decide +kernel, by decide +kernel, rfl, by decide +kernel, by decide +kernel⟩
theorem k123_182 : en_d 123 182 (.aload_n 2) 1 183 := ⟨by decide +kernel, rfl⟩
theorem k123_183 : en_d 123 183 (.aload_n 0) 1 184 := ⟨by decide +kernel, rfl⟩
theorem k123_184 : en_d 123 184 (.iload_n 3) 1 185 := ⟨by decide +kernel, rfl⟩
theorem k123_185 : en_d 123 185 (.iconst 1) 1 186 := ⟨by decide +kernel, rfl⟩
theorem k123_186 : en_d 123 186 .iadd 1 187 := ⟨by decide +kernel, rfl⟩
theorem k123_187 : en_d 123 187 .iaload 1 188 := ⟨by decide +kernel, rfl⟩
theorem k123_188 : en_d 123 188 (.aload_n 0) 1 189 := ⟨by decide +kernel, rfl⟩
theorem k123_189 : en_d 123 189 (.iload_n 3) 1 190 := ⟨by decide +kernel, rfl⟩
theorem k123_190 : en_d 123 190 (.iconst 2) 1 191 := ⟨by decide +kernel, rfl⟩
theorem k123_191 : en_d 123 191 .iadd 1 192 := ⟨by decide +kernel, rfl⟩
theorem k123_192 : en_d 123 192 .iaload 1 193 := ⟨by decide +kernel, rfl⟩
theorem k123_193 : en_d 123 193 (.aload_n 0) 1 194 := ⟨by decide +kernel, rfl⟩
theorem k123_194 : en_d 123 194 (.iload_n 3) 1 195 := ⟨by decide +kernel, rfl⟩
theorem k123_195 : en_d 123 195 (.iconst 3) 1 196 := ⟨by decide +kernel, rfl⟩
theorem k123_196 : en_d 123 196 .iadd 1 197 := ⟨by decide +kernel, rfl⟩
theorem k123_197 : en_d 123 197 .iaload 1 198 := ⟨by decide +kernel, rfl⟩
theorem k123_198 : en_dv 123 198 89 false 201 := ⟨21, by decide +kernel, by decide +kernel, rfl, by decide +kernel, by decide +kernel⟩
theorem k123_201 : en_j 123 201 (.if_icmp .eq) 204 730 := ⟨529, by decide +kernel, by decide, rfl⟩
theorem k123_204 : en_d 123 204 (.iconst 0) 1 205 := ⟨by decide +kernel, rfl⟩
theorem k123_205 : en_d 123 205 .ireturn 1 206 := ⟨by decide +kernel, rfl⟩
theorem k123_206 : en_d 123 206 (.aload_n 1) 1 207 := ⟨by decide +kernel, rfl⟩
theorem k123_207 : en_d 123 207 (.aload_n 0) 1 208 := ⟨by decide +kernel, rfl⟩
theorem k123_208 : en_d 123 208 (.iload_n 3) 1 209 := ⟨by decide +kernel, rfl⟩
theorem k123_209 : en_d 123 209 (.iconst 1) 1 210 := ⟨by decide +kernel, rfl⟩
theorem k123_210 : en_d 123 210 .iadd 1 211 := ⟨by decide +kernel, rfl⟩
theorem k123_211 : en_d 123 211 .iaload 1 212 := ⟨by decide +kernel, rfl⟩
theorem k123_212 : en_d 123 212 (.aload_n 0) 1 213 := ⟨by decide +kernel, rfl⟩
theorem k123_213 : en_d 123 213 (.iload_n 3) 1 214 := ⟨by decide +kernel, rfl⟩
theorem k123_214 : en_d 123 214 (.iconst 2) 1 215 := ⟨by decide +kernel, rfl⟩
theorem k123_215 : en_d 123 215 .iadd 1 216 := ⟨by decide +kernel, rfl⟩
theorem k123_216 : en_d 123 216 .iaload 1 217 := ⟨by decide +kernel, rfl⟩
theorem k123_217 : en_dv 123 217 3 false 220 := ⟨22, by decide +kernel, by decide +kernel, rfl, by decide +kernel, by decide +kernel⟩
theorem k123_220 : en_d 123 220 (.aload_n 2) 1 221 := ⟨by decide +kernel, rfl⟩
theorem k123_221 : en_d 123 221 (.aload_n 0) 1 222 := ⟨by decide +kernel, rfl⟩
theorem k123_222 : en_d 123 222 (.iload_n 3) 1 223 := ⟨by decide +kernel, rfl⟩
theorem k123_223 : en_d 123 223 (.iconst 1) 1 224 := ⟨by decide +kernel, rfl⟩
theorem k123_224 : en_d 123 224 .iadd 1 225 := ⟨by decide +kernel, rfl⟩
theorem k123_225 : en_d 123 225 .iaload 1 226 := ⟨by decide +kernel, rfl⟩
theorem k123_226 : en_d 123 226 (.aload_n 0) 1 227 := ⟨by decide +kernel, rfl⟩
theorem k123_227 : en_d 123 227 (.iload_n 3) 1 228 := ⟨by decide +kernel, rfl⟩
theorem k123_228 : en_d 123 228 (.iconst 2) 1 229 := ⟨by decide +kernel, rfl⟩
theorem k123_229 : en_d 123 229 .iadd 1 230 := ⟨by decide +kernel, rfl⟩
theorem k123_230 : en_d 123 230 .iaload 1 231 := ⟨by decide +kernel, rfl⟩
theorem k123_231 : en_dv 123 231 103 false 234 := ⟨26, by decide +kernel, by decide +kernel, rfl, by decide +kernel, by decide +kernel⟩
theorem k123_234 : en_j 123 234 (.if_icmp .eq) 237 730 := ⟨496, by decide +kernel, by decide, rfl⟩
theorem k123_237 : en_d 123 237 (.iconst 0) 1 238 := ⟨by decide +kernel, rfl⟩
theorem k123_238 : en_d 123 238 .ireturn 1 239 := ⟨by decide +kernel, rfl⟩
theorem k123_239 : en_d 123 239 (.aload_n 1) 1 240 := ⟨by decide +kernel, rfl⟩
theorem k123_240 : en_d 123 240 (.aload_n 0) 1 241 := ⟨by decide +kernel, rfl⟩
theorem k123_241 : en_d 123 241 (.iload_n 3) 1 242 := ⟨by decide +kernel, rfl⟩
theorem k123_242 : en_d 123 242 (.iconst 1) 1 243 := ⟨by decide +kernel, rfl⟩
theorem k123_243 : en_d 123 243 .iadd 1 244 := ⟨by decide +kernel, rfl⟩
theorem k123_244 : en_d 123 244 .iaload 1 245 := ⟨by decide +kernel, rfl⟩
theorem k123_245 : en_d 123 245 (.aload_n 0) 1 246 := ⟨by decide +kernel, rfl⟩
theorem k123_246 : en_d 123 246 (.iload_n 3) 1 247 := ⟨by decide +kernel, rfl⟩
theorem k123_247 : en_d 123 247 (.iconst 2) 1 248 := ⟨by decide +kernel, rfl⟩
theorem k123_248 : en_d 123 248 .iadd 1 249 := ⟨by decide +kernel, rfl⟩
theorem k123_249 : en_d 123 249 .iaload 1 250 := ⟨by decide +kernel, rfl⟩
theorem k123_250 : en_dv 123 250 4 false 253 := ⟨27, by decide +kernel, by decide +kernel, rfl, by decide +kernel, by decide +kernel⟩
theorem k123_253 : en_d 123 253 (.aload_n 2) 1 254 := ⟨by decide +kernel, rfl⟩
theorem k123_254 : en_d 123 254 (.aload_n 0) 1 255 := ⟨by decide +kernel, rfl⟩
theorem k123_255 : en_d 123 255 (.iload_n 3) 1 256 := ⟨by decide +kernel, rfl⟩
theorem k123_256 : en_d 123 256 (.iconst 1) 1 257 := ⟨by decide +kernel, rfl⟩
theorem k123_257 : en_d 123 257 .iadd 1 258 := ⟨by decide +kernel, rfl⟩
theorem k123_258 : en_d 123 258 .iaload 1 259 := ⟨by decide +kernel, rfl⟩
theorem k123_259 : en_d 123 259 (.aload_n 0) 1 260 := ⟨by decide +kernel, rfl⟩
theorem k123_260 : en_d 123 260 (.iload_n 3) 1 261 := ⟨by decide +kernel, rfl⟩
theorem k123_261 : en_d 123 261 (.iconst 2) 1 262 := ⟨by decide +kernel, rfl⟩
theorem k123_262 : en_d 123 262 .iadd 1 263 := ⟨by decide +kernel, rfl⟩
theorem k123_263 : en_d 123 263 .iaload 1 264 := ⟨by decide +kernel, rfl⟩
theorem k123_264 : en_dv 123 264 104 false 267 := ⟨30, by decide +kernel, by decide +kernel, rfl, by decide +kernel, by decide +kernel⟩
theorem k123_267 : en_j 123 267 (.if_icmp .eq) 270 730 := ⟨463, by decide +kernel, by decide, rfl⟩
theorem k123_270 : en_d 123 270 (.iconst 0) 1 271 := ⟨by decide +kernel, rfl⟩
theorem k123_271 : en_d 123 271 .ireturn 1 272 := ⟨by decide +kernel, rfl⟩
theorem k123_272 : en_d 123 272 (.aload_n 1) 1 273 := ⟨by decide +kernel, rfl⟩
theorem k123_273 : en_d 123 273 (.aload_n 0) 1 274 := ⟨by decide +kernel, rfl⟩
theorem k123_274 : en_d 123 274 (.iload_n 3) 1 275 := ⟨by decide +kernel, rfl⟩
theorem k123_275 : en_d 123 275 (.iconst 1) 1 276 := ⟨by decide +kernel, rfl⟩
theorem k123_276 : en_d 123 276 .iadd 1 277 := ⟨by decide +kernel, rfl⟩
theorem k123_277 : en_d 123 277 .iaload 1 278 := ⟨by decide +kernel, rfl⟩
theorem k123_278 : en_dv 123 278 5 false 281 := ⟨31, by decide +kernel, by decide +kernel, rfl, by decide +kernel, by decide +kernel⟩
theorem k123_281 : en_d 123 281 (.aload_n 2) 1 282 := ⟨by decide +kernel, rfl⟩
theorem k123_282 : en_d 123 282 (.aload_n 0) 1 283 := ⟨by decide +kernel, rfl⟩
theorem k123_283 : en_d 123 283 (.iload_n 3) 1 284 := ⟨by decide +kernel, rfl⟩
theorem k123_284 : en_d 123 284 (.iconst 1) 1 285 := ⟨by decide +kernel, rfl⟩
theorem k123_285 : en_d 123 285 .iadd 1 286 := ⟨by decide +kernel, rfl⟩
theorem k123_286 : en_d 123 286 .iaload 1 287 := ⟨by decide +kernel, rfl⟩
theorem k123_287 : en_dv 123 287 105 false 290 := ⟨35, by decide +kernel, by decide +kernel, rfl, by decide +kernel, by decide +kernel⟩
theorem k123_290 : en_j 123 290 (.if_icmp .eq) 293 730 := ⟨440, by decide +kernel, by decide, rfl⟩
theorem k123_293 : en_d 123 293 (.iconst 0) 1 294 := ⟨by decide +kernel, rfl⟩
theorem k123_294 : en_d 123 294 .ireturn 1 295 := ⟨by decide +kernel, rfl⟩
theorem k123_295 : en_d 123 295 (.aload_n 1) 1 296 := ⟨by decide +kernel, rfl⟩
theorem k123_296 : en_d 123 296 (.aload_n 0) 1 297 := ⟨by decide +kernel, rfl⟩
theorem k123_297 : en_d 123 297 (.iload_n 3) 1 298 := ⟨by decide +kernel, rfl⟩
theorem k123_298 : en_d 123 298 (.iconst 1) 1 299 := ⟨by decide +kernel, rfl⟩
theorem k123_299 : en_d 123 299 .iadd 1 300 := ⟨by decide +kernel, rfl⟩
theorem k123_300 : en_d 123 300 .iaload 1 301 := ⟨by decide +kernel, rfl⟩
theorem k123_301 : en_dv 123 301 6 false 304 := ⟨36, by decide +kernel, by decide +kernel, rfl, by decide +kernel, by decide +kernel⟩
theorem k123_304 : en_d 123 304 (.aload_n 2) 1 305 := ⟨by decide +kernel, rfl⟩
theorem k123_305 : en_d 123 305 (.aload_n 0) 1 306 := ⟨by decide +kernel, rfl⟩
theorem k123_306 : en_d 123 306 (.iload_n 3) 1 307 := ⟨by decide +kernel, rfl⟩
theorem k123_307 : en_d 123 307 (.iconst 1) 1 308 := ⟨by decide +kernel, rfl⟩
theorem k123_308 : en_d 123 308 .iadd 1 309 := ⟨by decide +kernel, rfl⟩
theorem k123_309 : en_d 123 309 .iaload 1 310 := ⟨by decide +kernel, rfl⟩
theorem k123_310 : en_dv 123 310 109 false 313 := ⟨40, by decide +kernel, by decide +kernel, rfl, by decide +kernel, by decide +kernel⟩
theorem k123_313 : en_j 123 313 (.if_icmp .eq) 316 730 := ⟨417, by decide +kernel, by decide, rfl⟩
theorem k123_316 : en_d 123 316 (.iconst 0) 1 317 := ⟨by decide +kernel, rfl⟩
theorem k123_317 : en_d 123 317 .ireturn 1 318 := ⟨by decide +kernel, rfl⟩
theorem k123_318 : en_d 123 318 (.aload_n 1) 1 319 := ⟨by decide +kernel, rfl⟩
theorem k123_319 : en_d 123 319 (.aload_n 0) 1 320 := ⟨by decide +kernel, rfl⟩
theorem k123_320 : en_d 123 320 (.iload_n 3) 1 321 := ⟨by decide +kernel, rfl⟩
theorem k123_321 : en_d 123 321 (.iconst 1) 1 322 := ⟨by decide +kernel, rfl⟩
theorem k123_322 : en_d 123 322 .iadd 1 323 := ⟨by decide +kernel, rfl⟩
theorem k123_323 : en_d 123 323 .iaload 1 324 := ⟨by decide +kernel, rfl⟩
theorem k123_324 : en_dv 123 324 7 false 327 := ⟨41, by decide +kernel, by decide +kernel, rfl, by decide +kernel, by decide +kernel⟩
theorem k123_327 : en_d 123 327 (.aload_n 2) 1 328 := ⟨by decide +kernel, rfl⟩
theorem k123_328 : en_d 123 328 (.aload_n 0) 1 329 := ⟨by decide +kernel, rfl⟩
theorem k123_329 : en_d 123 329 (.iload_n 3) 1 330 := ⟨by decide +kernel, rfl⟩
theorem k123_330 : en_d 123 330 (.iconst 1) 1 331 := ⟨by decide +kernel, rfl⟩
theorem k123_331 : en_d 123 331 .iadd 1 332 := ⟨by decide +kernel, rfl⟩
theorem k123_332 : en_d 123 332 .iaload 1 333 := ⟨by decide +kernel, rfl⟩
theorem k123_333 : en_dv 123 333 110 false 336 := ⟨44, by decide +kernel, by decide +kernel, rfl, by decide +kernel, by decide +kernel⟩
theorem k123_336 : en_j 123 336 (.if_icmp .eq) 339 730 := ⟨394, by decide +kernel, by decide, rfl⟩
theorem k123_339 : en_d 123 339 (.iconst 0) 1 340 := ⟨by decide +kernel, rfl⟩
theorem k123_340 : en_d 123 340 .ireturn 1 341 := ⟨by decide +kernel, rfl⟩
theorem k123_341 : en_d 123 341 (.aload_n 1) 1 342 := ⟨by decide +kernel, rfl⟩
theorem k123_342 : en_d 123 342 (.aload_n 0) 1 343 := ⟨by decide +kernel, rfl⟩
theorem k123_343 : en_d 123 343 (.iload_n 3) 1 344 := ⟨by decide +kernel, rfl⟩
theorem k123_344 : en_d 123 344 (.iconst 1) 1 345 := ⟨by decide +kernel, rfl⟩
theorem k123_345 : en_d 123 345 .iadd 1 346 := ⟨by decide +kernel, rfl⟩
theorem k123_346 : en_d 123 346 .iaload 1 347 := ⟨by decide +kernel, rfl⟩
theorem k123_347 : en_d 123 347 (.aload_n 0) 1 348 := ⟨by decide +kernel, rfl⟩
theorem k123_348 : en_d 123 348 (.iload_n 3) 1 349 := ⟨by decide +kernel, rfl⟩
theorem k123_349 : en_d 123 349 (.iconst 2) 1 350 := ⟨by decide +kernel, rfl⟩
theorem k123_350 : en_d 123 350 .iadd 1 351 := ⟨by decide +kernel, rfl⟩
theorem k123_351 : en_d 123 351 .iaload 1 352 := ⟨by decide +kernel, rfl⟩
theorem k123_352 : en_dv 123 352 8 false 355 := ⟨45, by decide +kernel, by decide +kernel, rfl, by decide +kernel, by decide +kernel⟩
theorem k123_355 : en_d 123 355 (.aload_n 2) 1 356 := ⟨by decide +kernel, rfl⟩
theorem k123_356 : en_d 123 356 (.aload_n 0) 1 357 := ⟨by decide +kernel, rfl⟩
theorem k123_357 : en_d 123 357 (.iload_n 3) 1 358 := ⟨by decide +kernel, rfl⟩
theorem k123_358 : en_d 123 358 (.iconst 1) 1 359 := ⟨by decide +kernel, rfl⟩
theorem k123_359 : en_d 123 359 .iadd 1 360 := ⟨by decide +kernel, rfl⟩
theorem k123_360 : en_d 123 360 .iaload 1 361 := ⟨by decide +kernel, rfl⟩
theorem k123_361 : en_d 123 361 (.aload_n 0) 1 362 := ⟨by decide +kernel, rfl⟩
theorem k123_362 : en_d 123 362 (.iload_n 3) 1 363 := ⟨by decide +kernel, rfl⟩
theorem k123_363 : en_d 123 363 (.iconst 2) 1 364 := ⟨by decide +kernel, rfl⟩
theorem k123_364 : en_d 123 364 .iadd 1 365 := ⟨by decide +kernel, rfl⟩
theorem k123_365 : en_d 123 365 .iaload 1 366 := ⟨by decide +kernel, rfl⟩
theorem k123_366 : en_dv 123 366 111 false 369 := ⟨48, by decide +kernel, by decide +kernel, rfl, by decide +kernel, by decide +kernel⟩
theorem k123_369 : en_j 123 369 (.if_icmp .eq) 372 730 := ⟨361, by decide +kernel, by decide, rfl⟩
theorem k123_372 : en_d 123 372 (.iconst 0) 1 373 := ⟨by decide +kernel, rfl⟩
theorem k123_373 : en_d 123 373 .ireturn 1 374 := ⟨by decide +kernel, rfl⟩
theorem k123_374 : en_d 123 374 (.aload_n 1) 1 375 := ⟨by decide +kernel, rfl⟩
theorem k123_375 : en_d 123 375 (.aload_n 0) 1 376 := ⟨by decide +kernel, rfl⟩
theorem k123_376 : en_d 123 376 (.iload_n 3) 1 377 := ⟨by decide +kernel, rfl⟩
theorem k123_377 : en_d 123 377 (.iconst 1) 1 378 := ⟨by decide +kernel, rfl⟩
theorem k123_378 : en_d 123 378 .iadd 1 379 := ⟨by decide +kernel, rfl⟩
theorem k123_379 : en_d 123 379 .iaload 1 380 := ⟨by decide +kernel, rfl⟩
theorem k123_380 : en_d 123 380 (.aload_n 0) 1 381 := ⟨by decide +kernel, rfl⟩
theorem k123_381 : en_d 123 381 (.iload_n 3) 1 382 := ⟨by decide +kernel, rfl⟩
theorem k123_382 : en_d 123 382 (.iconst 2) 1 383 := ⟨by decide +kernel, rfl⟩
theorem k123_383 : en_d 123 383 .iadd 1 384 := ⟨by decide +kernel, rfl⟩
theorem k123_384 : en_d 123 384 .iaload 1 385 := ⟨by decide +kernel, rfl⟩
theorem k123_385 : en_j 123 385 (.ifCond .eq) 388 392 := ⟨7, by decide +kernel, by decide, rfl⟩
theorem k123_388 : en_d 123 388 (.iconst 1) 1 389 := ⟨by decide +kernel, rfl⟩
theorem k123_389 : en_j 123 389 .goto 392 393 := ⟨4, by decide +kernel, by decide, rfl⟩
theorem k123_392 : en_d 123 392 (.iconst 0) 1 393 := ⟨by decide +kernel, rfl⟩
theorem k123_393 : en_dv 123 393 9 false 396 := ⟨49, by decide +kernel, by decide +kernel, rfl, by decide +kernel, by decide +kernel⟩
theorem k123_396 : en_d 123 396 (.aload_n 2) 1 397 := ⟨by decide +kernel, rfl⟩
theorem k123_397 : en_d 123 397 (.aload_n 0) 1 398 := ⟨by decide +kernel, rfl⟩
theorem k123_398 : en_d 123 398 (.iload_n 3) 1 399 := ⟨by decide +kernel, rfl⟩
theorem k123_399 : en_d 123 399 (.iconst 1) 1 400 := ⟨by decide +kernel, rfl⟩
theorem k123_400 : en_d 123 400 .iadd 1 401 := ⟨by decide +kernel, rfl⟩
theorem k123_401 : en_d 123 401 .iaload 1 402 := ⟨by decide +kernel, rfl⟩
theorem k123_402 : en_d 123 402 (.aload_n 0) 1 403 := ⟨by decide +kernel, rfl⟩
theorem k123_403 : en_d 123 403 (.iload_n 3) 1 404 := ⟨by decide +kernel, rfl⟩
theorem k123_404 : en_d 123 404 (.iconst 2) 1 405 := ⟨by decide +kernel, rfl⟩
theorem k123_405 : en_d 123 405 .iadd 1 406 := ⟨by decide +kernel, rfl⟩
theorem k123_406 : en_d 123 406 .iaload 1 407 := ⟨by decide +kernel, rfl⟩
theorem k123_407 : en_j 123 407 (.ifCond .eq) 410 414 := ⟨7, by decide +kernel, by decide, rfl⟩
theorem k123_410 : en_d 123 410 (.iconst 1) 1 411 := ⟨by decide +kernel, rfl⟩
theorem k123_411 : en_j 123 411 .goto 414 415 := ⟨4, by decide +kernel, by decide, rfl⟩
theorem k123_414 : en_d 123 414 (.iconst 0) 1 415 := ⟨by decide +kernel, rfl⟩
theorem k123_415 : en_dv 123 415 112 false 418 := ⟨53, by decide +kernel, by decide +kernel, rfl, by decide +kernel, by decide +kernel⟩
theorem k123_418 : en_j 123 418 (.if_icmp .eq) 421 730 := ⟨312, by decide +kernel, by decide, rfl⟩
theorem k123_421 : en_d 123 421 (.iconst 0) 1 422 := ⟨by decide +kernel, rfl⟩
theorem k123_422 : en_d 123 422 .ireturn 1 423 := ⟨by decide +kernel, rfl⟩
theorem k123_423 : en_d 123 423 (.aload_n 1) 1 424 := ⟨by decide +kernel, rfl⟩
theorem k123_424 : en_d 123 424 (.aload_n 0) 1 425 := ⟨by decide +kernel, rfl⟩
theorem k123_425 : en_d 123 425 (.iload_n 3) 1 426 := ⟨by decide +kernel, rfl⟩
theorem k123_426 : en_d 123 426 (.iconst 1) 1 427 := ⟨by decide +kernel, rfl⟩
theorem k123_427 : en_d 123 427 .iadd 1 428 := ⟨by decide +kernel, rfl⟩
theorem k123_428 : en_d 123 428 .iaload 1 429 := ⟨by decide +kernel, rfl⟩
theorem k123_429 : en_dv 123 429 10 false 432 := ⟨54, by decide +kernel, by decide +kernel, rfl, by decide +kernel, by decide +kernel⟩
theorem k123_432 : en_d 123 432 (.aload_n 2) 1 433 := ⟨by decide +kernel, rfl⟩
theorem k123_433 : en_d 123 433 (.aload_n 0) 1 434 := ⟨by decide +kernel, rfl⟩
theorem k123_434 : en_d 123 434 (.iload_n 3) 1 435 := ⟨by decide +kernel, rfl⟩
theorem k123_435 : en_d 123 435 (.iconst 1) 1 436 := ⟨by decide +kernel, rfl⟩
theorem k123_436 : en_d 123 436 .iadd 1 437 := ⟨by decide +kernel, rfl⟩
theorem k123_437 : en_d 123 437 .iaload 1 438 := ⟨by decide +kernel, rfl⟩
theorem k123_438 : en_dv 123 438 113 false 441 := ⟨57, by decide +kernel, by decide +kernel, rfl, by decide +kernel, by decide +kernel⟩
theorem k123_441 : en_j 123 441 (.if_icmp .eq) 444 730 := ⟨289, by decide +kernel, by decide, rfl⟩
theorem k123_444 : en_d 123 444 (.iconst 0) 1 445 := ⟨by decide +kernel, rfl⟩
theorem k123_445 : en_d 123 445 .ireturn 1 446 := ⟨by decide +kernel, rfl⟩
theorem k123_446 : en_d 123 446 (.aload_n 1) 1 447 := ⟨by decide +kernel, rfl⟩
theorem k123_447 : en_d 123 447 (.aload_n 0) 1 448 := ⟨by decide +kernel, rfl⟩
theorem k123_448 : en_d 123 448 (.iload_n 3) 1 449 := ⟨by decide +kernel, rfl⟩
theorem k123_449 : en_d 123 449 (.iconst 1) 1 450 := ⟨by decide +kernel, rfl⟩
theorem k123_450 : en_d 123 450 .iadd 1 451 := ⟨by decide +kernel, rfl⟩
theorem k123_451 : en_d 123 451 .iaload 1 452 := ⟨by decide +kernel, rfl⟩
theorem k123_452 : en_dv 123 452 11 false 455 := ⟨58, by decide +kernel, by decide +kernel, rfl, by decide +kernel, by decide +kernel⟩
theorem k123_455 : en_d 123 455 (.aload_n 2) 1 456 := ⟨by decide +kernel, rfl⟩
theorem k123_456 : en_d 123 456 (.aload_n 0) 1 457 := ⟨by decide +kernel, rfl⟩
theorem k123_457 : en_d 123 457 (.iload_n 3) 1 458 := ⟨by decide +kernel, rfl⟩
theorem k123_458 : en_d 123 458 (.iconst 1) 1 459 := ⟨by decide +kernel, rfl⟩
theorem k123_459 : en_d 123 459 .iadd 1 460 := ⟨by decide +kernel, rfl⟩
theorem k123_460 : en_d 123 460 .iaload 1 461 := ⟨by decide +kernel, rfl⟩
theorem k123_461 : en_dv 123 461 114 false 464 := ⟨61, by decide +kernel, by decide +kernel, rfl, by decide +kernel, by decide +kernel⟩
theorem k123_464 : en_j 123 464 (.if_icmp .eq) 467 730 := ⟨266, by decide +kernel, by decide, rfl⟩
theorem k123_467 : en_d 123 467 (.iconst 0) 1 468 := ⟨by decide +kernel, rfl⟩
theorem k123_468 : en_d 123 468 .ireturn 1 469 := ⟨by decide +kernel, rfl⟩
theorem k123_469 : en_d 123 469 (.aload_n 1) 1 470 := ⟨by decide +kernel, rfl⟩
theorem k123_470 : en_d 123 470 (.aload_n 0) 1 471 := ⟨by decide +kernel, rfl⟩
theorem k123_471 : en_d 123 471 (.iload_n 3) 1 472 := ⟨by decide +kernel, rfl⟩
theorem k123_472 : en_d 123 472 (.iconst 1) 1 473 := ⟨by decide +kernel, rfl⟩
theorem k123_473 : en_d 123 473 .iadd 1 474 := ⟨by decide +kernel, rfl⟩
theorem k123_474 : en_d 123 474 .iaload 1 475 := ⟨by decide +kernel, rfl⟩
theorem k123_475 : en_d 123 475 (.aload_n 0) 1 476 := ⟨by decide +kernel, rfl⟩
theorem k123_476 : en_d 123 476 (.iload_n 3) 1 477 := ⟨by decide +kernel, rfl⟩
theorem k123_477 : en_d 123 477 (.iconst 2) 1 478 := ⟨by decide +kernel, rfl⟩
theorem k123_478 : en_d 123 478 .iadd 1 479 := ⟨by decide +kernel, rfl⟩
theorem k123_479 : en_d 123 479 .iaload 1 480 := ⟨by decide +kernel, rfl⟩
theorem k123_480 : en_dv 123 480 12 false 483 := ⟨62, by decide +kernel, by decide +kernel, rfl, by decide +kernel, by decide +kernel⟩
theorem k123_483 : en_d 123 483 (.aload_n 2) 1 484 := ⟨by decide +kernel, rfl⟩
theorem k123_484 : en_d 123 484 (.aload_n 0) 1 485 := ⟨by decide +kernel, rfl⟩
theorem k123_485 : en_d 123 485 (.iload_n 3) 1 486 := ⟨by decide +kernel, rfl⟩
theorem k123_486 : en_d 123 486 (.iconst 1) 1 487 := ⟨by decide +kernel, rfl⟩
theorem k123_487 : en_d 123 487 .iadd 1 488 := ⟨by decide +kernel, rfl⟩
theorem k123_488 : en_d 123 488 .iaload 1 489 := ⟨by decide +kernel, rfl⟩
theorem k123_489 : en_d 123 489 (.aload_n 0) 1 490 := ⟨by decide +kernel, rfl⟩
theorem k123_490 : en_d 123 490 (.iload_n 3) 1 491 := ⟨by decide +kernel, rfl⟩
theorem k123_491 : en_d 123 491 (.iconst 2) 1 492 := ⟨by decide +kernel, rfl⟩
theorem k123_492 : en_d 123 492 .iadd 1 493 := ⟨by decide +kernel, rfl⟩
theorem k123_493 : en_d 123 493 .iaload 1 494 := ⟨by decide +kernel, rfl⟩
theorem k123_494 : en_dv 123 494 115 false 497 := ⟨65, by decide +kernel, by decide +kernel, rfl, by decide +kernel, by decide +kernel⟩
theorem k123_497 : en_j 123 497 (.if_icmp .eq) 500 730 := ⟨233, by decide +kernel, by decide, rfl⟩
theorem k123_500 : en_d 123 500 (.iconst 0) 1 501 := ⟨by decide +kernel, rfl⟩
theorem k123_501 : en_d 123 501 .ireturn 1 502 := ⟨by decide +kernel, rfl⟩
theorem k123_502 : en_d 123 502 (.aload_n 1) 1 503 := ⟨by decide +kernel, rfl⟩
theorem k123_503 : en_d 123 503 (.aload_n 0) 1 504 := ⟨by decide +kernel, rfl⟩
theorem k123_504 : en_d 123 504 (.iload_n 3) 1 505 := ⟨by decide +kernel, rfl⟩
theorem k123_505 : en_d 123 505 (.iconst 1) 1 506 := ⟨by decide +kernel, rfl⟩
theorem k123_506 : en_d 123 506 .iadd 1 507 := ⟨by decide +kernel, rfl⟩
theorem k123_507 : en_d 123 507 .iaload 1 508 := ⟨by decide +kernel, rfl⟩
theorem k123_508 : en_d 123 508 (.aload_n 0) 1 509 := ⟨by decide +kernel, rfl⟩
theorem k123_509 : en_d 123 509 (.iload_n 3) 1 510 := ⟨by decide +kernel, rfl⟩
theorem k123_510 : en_d 123 510 (.iconst 2) 1 511 := ⟨by decide +kernel, rfl⟩
theorem k123_511 : en_d 123 511 .iadd 1 512 := ⟨by decide +kernel, rfl⟩
theorem k123_512 : en_d 123 512 .iaload 1 513 := ⟨by decide +kernel, rfl⟩
theorem k123_513 : en_d 123 513 (.aload_n 0) 1 514 := ⟨by decide +kernel, rfl⟩
theorem k123_514 : en_d 123 514 (.iload_n 3) 1 515 := ⟨by decide +kernel, rfl⟩
theorem k123_515 : en_d 123 515 (.iconst 3) 1 516 := ⟨by decide +kernel, rfl⟩
theorem k123_516 : en_d 123 516 .iadd 1 517 := ⟨by decide +kernel, rfl⟩
theorem k123_517 : en_d 123 517 .iaload 1 518 := ⟨by decide +kernel, rfl⟩
theorem k123_518 : en_dv 123 518 13 false 521 := ⟨66, by decide +kernel, by decide +kernel, rfl, by decide +kernel, by decide +kernel⟩
theorem k123_521 : en_d 123 521 (.aload_n 2) 1 522 := ⟨by decide +kernel, rfl⟩
theorem k123_522 : en_d 123 522 (.aload_n 0) 1 523 := ⟨by decide +kernel, rfl⟩
theorem k123_523 : en_d 123 523 (.iload_n 3) 1 524 := ⟨by decide +kernel, rfl⟩
theorem k123_524 : en_d 123 524 (.iconst 1) 1 525 := ⟨by decide +kernel, rfl⟩
theorem k123_525 : en_d 123 525 .iadd 1 526 := ⟨by decide +kernel, rfl⟩
theorem k123_526 : en_d 123 526 .iaload 1 527 := ⟨by decide +kernel, rfl⟩
theorem k123_527 : en_d 123 527 (.aload_n 0) 1 528 := ⟨by decide +kernel, rfl⟩
theorem k123_528 : en_d 123 528 (.iload_n 3) 1 529 := ⟨by decide +kernel, rfl⟩
theorem k123_529 : en_d 123 529 (.iconst 2) 1 530 := ⟨by decide +kernel, rfl⟩
theorem k123_530 : en_d 123 530 .iadd 1 531 := ⟨by decide +kernel, rfl⟩
theorem k123_531 : en_d 123 531 .iaload 1 532 := ⟨by decide +kernel, rfl⟩
theorem k123_532 : en_d 123 532 (.aload_n 0) 1 533 := ⟨by decide +kernel, rfl⟩
theorem k123_533 : en_d 123 533 (.iload_n 3) 1 534 := ⟨by decide +kernel, rfl⟩
theorem k123_534 : en_d 123 534 (.iconst 3) 1 535 := ⟨by decide +kernel, rfl⟩
theorem k123_535 : en_d 123 535 .iadd 1 536 := ⟨by decide +kernel, rfl⟩
theorem k123_536 : en_d 123 536 .iaload 1 537 := ⟨by decide +kernel, rfl⟩
theorem k123_537 : en_dv 123 537 116 false 540 := ⟨70, by decide +kernel, by decide +kernel, rfl, by decide +kernel, by decide +kernel⟩
theorem k123_540 : en_j 123 540 (.if_icmp .eq) 543 730 := ⟨190, by decide +kernel, by decide, rfl⟩
theorem k123_543 : en_d 123 543 (.iconst 0) 1 544 := ⟨by decide +kernel, rfl⟩
theorem k123_544 : en_d 123 544 .ireturn 1 545 := ⟨by decide +kernel, rfl⟩
theorem k123_545 : en_d 123 545 (.aload_n 1) 1 546 := ⟨by decide +kernel, rfl⟩
theorem k123_546 : en_d 123 546 (.aload_n 0) 1 547 := ⟨by decide +kernel, rfl⟩
theorem k123_547 : en_d 123 547 (.iload_n 3) 1 548 := ⟨by decide +kernel, rfl⟩
theorem k123_548 : en_d 123 548 (.iconst 1) 1 549 := ⟨by decide +kernel, rfl⟩
theorem k123_549 : en_d 123 549 .iadd 1 550 := ⟨by decide +kernel, rfl⟩
theorem k123_550 : en_d 123 550 .iaload 1 551 := ⟨by decide +kernel, rfl⟩
theorem k123_551 : en_d 123 551 (.aload_n 0) 1 552 := ⟨by decide +kernel, rfl⟩
theorem k123_552 : en_d 123 552 (.iload_n 3) 1 553 := ⟨by decide +kernel, rfl⟩
theorem k123_553 : en_d 123 553 (.iconst 2) 1 554 := ⟨by decide +kernel, rfl⟩
theorem k123_554 : en_d 123 554 .iadd 1 555 := ⟨by decide +kernel, rfl⟩
theorem k123_555 : en_d 123 555 .iaload 1 556 := ⟨by decide +kernel, rfl⟩
theorem k123_556 : en_d 123 556 (.aload_n 0) 1 557 := ⟨by decide +kernel, rfl⟩
theorem k123_557 : en_d 123 557 (.iload_n 3) 1 558 := ⟨by decide +kernel, rfl⟩
theorem k123_558 : en_d 123 558 (.iconst 3) 1 559 := ⟨by decide +kernel, rfl⟩
theorem k123_559 : en_d 123 559 .iadd 1 560 := ⟨by decide +kernel, rfl⟩
theorem k123_560 : en_d 123 560 .iaload 1 561 := ⟨by decide +kernel, rfl⟩
theorem k123_561 : en_dv 123 561 14 false 564 := ⟨71, by decide +kernel, by decide +kernel, rfl, by decide +kernel, by decide +kernel⟩
theorem k123_564 : en_d 123 564 (.aload_n 2) 1 565 := ⟨by decide +kernel, rfl⟩
theorem k123_565 : en_d 123 565 (.aload_n 0) 1 566 := ⟨by decide +kernel, rfl⟩
theorem k123_566 : en_d 123 566 (.iload_n 3) 1 567 := ⟨by decide +kernel, rfl⟩
theorem k123_567 : en_d 123 567 (.iconst 1) 1 568 := ⟨by decide +kernel, rfl⟩
theorem k123_568 : en_d 123 568 .iadd 1 569 := ⟨by decide +kernel, rfl⟩
theorem k123_569 : en_d 123 569 .iaload 1 570 := ⟨by decide +kernel, rfl⟩
theorem k123_570 : en_d 123 570 (.aload_n 0) 1 571 := ⟨by decide +kernel, rfl⟩
theorem k123_571 : en_d 123 571 (.iload_n 3) 1 572 := ⟨by decide +kernel, rfl⟩
theorem k123_572 : en_d 123 572 (.iconst 2) 1 573 := ⟨by decide +kernel, rfl⟩
theorem k123_573 : en_d 123 573 .iadd 1 574 := ⟨by decide +kernel, rfl⟩
theorem k123_574 : en_d 123 574 .iaload 1 575 := ⟨by decide +kernel, rfl⟩
theorem k123_575 : en_d 123 575 (.aload_n 0) 1 576 := ⟨by decide +kernel, rfl⟩
theorem k123_576 : en_d 123 576 (.iload_n 3) 1 577 := ⟨by decide +kernel, rfl⟩
theorem k123_577 : en_d 123 577 (.iconst 3) 1 578 := ⟨by decide +kernel, rfl⟩
theorem k123_578 : en_d 123 578 .iadd 1 579 := ⟨by decide +kernel, rfl⟩
theorem k123_579 : en_d 123 579 .iaload 1 580 := ⟨by decide +kernel, rfl⟩
theorem k123_580 : en_dv 123 580 117 false 583 := ⟨74, by decide +kernel, by decide +kernel, rfl, by decide +kernel, by decide +kernel⟩
theorem k123_583 : en_j 123 583 (.if_icmp .eq) 586 730 := ⟨147, by decide +kernel, by decide, rfl⟩
theorem k123_586 : en_d 123 586 (.iconst 0) 1 587 := ⟨by decide +kernel, rfl⟩
theorem k123_587 : en_d 123 587 .ireturn 1 588 := ⟨by decide +kernel, rfl⟩
theorem k123_588 : en_d 123 588 (.aload_n 1) 1 589 := ⟨by decide +kernel, rfl⟩
theorem k123_589 : en_d 123 589 (.aload_n 0) 1 590 := ⟨by decide +kernel, rfl⟩
theorem k123_590 : en_d 123 590 (.iload_n 3) 1 591 := ⟨by decide +kernel, rfl⟩
theorem k123_591 : en_d 123 591 (.iconst 1) 1 592 := ⟨by decide +kernel, rfl⟩
theorem k123_592 : en_d 123 592 .iadd 1 593 := ⟨by decide +kernel, rfl⟩
theorem k123_593 : en_d 123 593 .iaload 1 594 := ⟨by decide +kernel, rfl⟩
theorem k123_594 : en_d 123 594 (.aload_n 0) 1 595 := ⟨by decide +kernel, rfl⟩
theorem k123_595 : en_d 123 595 (.iload_n 3) 1 596 := ⟨by decide +kernel, rfl⟩
theorem k123_596 : en_d 123 596 (.iconst 2) 1 597 := ⟨by decide +kernel, rfl⟩
theorem k123_597 : en_d 123 597 .iadd 1 598 := ⟨by decide +kernel, rfl⟩
theorem k123_598 : en_d 123 598 .iaload 1 599 := ⟨by decide +kernel, rfl⟩
theorem k123_599 : en_d 123 599 (.aload_n 0) 1 600 := ⟨by decide +kernel, rfl⟩
theorem k123_600 : en_d 123 600 (.iload_n 3) 1 601 := ⟨by decide +kernel, rfl⟩
theorem k123_601 : en_d 123 601 (.iconst 3) 1 602 := ⟨by decide +kernel, rfl⟩
theorem k123_602 : en_d 123 602 .iadd 1 603 := ⟨by decide +kernel, rfl⟩
theorem k123_603 : en_d 123 603 .iaload 1 604 := ⟨by decide +kernel, rfl⟩
theorem k123_604 : en_dv 123 604 15 false 607 := ⟨75, by decide +kernel, by decide +kernel, rfl, by decide +kernel, by decide +kernel⟩
theorem k123_607 : en_d 123 607 (.aload_n 2) 1 608 := ⟨by decide +kernel, rfl⟩
theorem k123_608 : en_d 123 608 (.aload_n 0) 1 609 := ⟨by decide +kernel, rfl⟩
theorem k123_609 : en_d 123 609 (.iload_n 3) 1 610 := ⟨by decide +kernel, rfl⟩
theorem k123_610 : en_d 123 610 (.iconst 1) 1 611 := ⟨by decide +kernel, rfl⟩
theorem k123_611 : en_d 123 611 .iadd 1 612 := ⟨by decide +kernel, rfl⟩
theorem k123_612 : en_d 123 612 .iaload 1 613 := ⟨by decide +kernel, rfl⟩
theorem k123_613 : en_d 123 613 (.aload_n 0) 1 614 := ⟨by decide +kernel, rfl⟩
theorem k123_614 : en_d 123 614 (.iload_n 3) 1 615 := ⟨by decide +kernel, rfl⟩
theorem k123_615 : en_d 123 615 (.iconst 2) 1 616 := ⟨by decide +kernel, rfl⟩
theorem k123_616 : en_d 123 616 .iadd 1 617 := ⟨by decide +kernel, rfl⟩
theorem k123_617 : en_d 123 617 .iaload 1 618 := ⟨by decide +kernel, rfl⟩
theorem k123_618 : en_d 123 618 (.aload_n 0) 1 619 := ⟨by decide +kernel, rfl⟩
theorem k123_619 : en_d 123 619 (.iload_n 3) 1 620 := ⟨by decide +kernel, rfl⟩
theorem k123_620 : en_d 123 620 (.iconst 3) 1 621 := ⟨by decide +kernel, rfl⟩
theorem k123_621 : en_d 123 621 .iadd 1 622 := ⟨by decide +kernel, rfl⟩
theorem k123_622 : en_d 123 622 .iaload 1 623 := ⟨by decide +kernel, rfl⟩
theorem k123_623 : en_dv 123 623 118 false 626 := ⟨78, by decide +kernel, by decide +kernel, rfl, by decide +kernel, by decide +kernel⟩
theorem k123_626 : en_j 123 626 (.if_icmp .eq) 629 730 := ⟨104, by decide +kernel, by decide, rfl⟩
theorem k123_629 : en_d 123 629 (.iconst 0) 1 630 := ⟨by decide +kernel, rfl⟩
theorem k123_630 : en_d 123 630 .ireturn 1 631 := ⟨by decide +kernel, rfl⟩
theorem k123_631 : en_d 123 631 (.aload_n 1) 1 632 := ⟨by decide +kernel, rfl⟩
theorem k123_632 : en_d 123 632 (.aload_n 0) 1 633 := ⟨by decide +kernel, rfl⟩
theorem k123_633 : en_d 123 633 (.iload_n 3) 1 634 := ⟨by decide +kernel, rfl⟩
theorem k123_634 : en_d 123 634 (.iconst 1) 1 635 := ⟨by decide +kernel, rfl⟩
theorem k123_635 : en_d 123 635 .iadd 1 636 := ⟨by decide +kernel, rfl⟩
theorem k123_636 : en_d 123 636 .iaload 1 637 := ⟨by decide +kernel, rfl⟩
theorem k123_637 : en_d 123 637 (.aload_n 0) 1 638 := ⟨by decide +kernel, rfl⟩
theorem k123_638 : en_d 123 638 (.iload_n 3) 1 639 := ⟨by decide +kernel, rfl⟩
theorem k123_639 : en_d 123 639 (.iconst 2) 1 640 := ⟨by decide +kernel, rfl⟩
theorem k123_640 : en_d 123 640 .iadd 1 641 := ⟨by decide +kernel, rfl⟩
theorem k123_641 : en_d 123 641 .iaload 1 642 := ⟨by decide +kernel, rfl⟩
theorem k123_642 : en_dv 123 642 16 false 645 := ⟨79, by decide +kernel, by decide +kernel, rfl, by decide +kernel, by decide +kernel⟩
theorem k123_645 : en_d 123 645 (.aload_n 2) 1 646 := ⟨by decide +kernel, rfl⟩
theorem k123_646 : en_d 123 646 (.aload_n 0) 1 647 := ⟨by decide +kernel, rfl⟩
theorem k123_647 : en_d 123 647 (.iload_n 3) 1 648 := ⟨by decide +kernel, rfl⟩
theorem k123_648 : en_d 123 648 (.iconst 1) 1 649 := ⟨by decide +kernel, rfl⟩
theorem k123_649 : en_d 123 649 .iadd 1 650 := ⟨by decide +kernel, rfl⟩
theorem k123_650 : en_d 123 650 .iaload 1 651 := ⟨by decide +kernel, rfl⟩
theorem k123_651 : en_d 123 651 (.aload_n 0) 1 652 := ⟨by decide +kernel, rfl⟩
theorem k123_652 : en_d 123 652 (.iload_n 3) 1 653 := ⟨by decide +kernel, rfl⟩
theorem k123_653 : en_d 123 653 (.iconst 2) 1 654 := ⟨by decide +kernel, rfl⟩
theorem k123_654 : en_d 123 654 .iadd 1 655 := ⟨by decide +kernel, rfl⟩
theorem k123_655 : en_d 123 655 .iaload 1 656 := ⟨by decide +kernel, rfl⟩
theorem k123_656 : en_dv 123 656 120 false 659 := ⟨82, by decide +kernel, by decide +kernel, rfl, by decide +kernel, by decide +kernel⟩
theorem k123_659 : en_j 123 659 (.if_icmp .eq) 662 730 := ⟨71, by decide +kernel, by decide, rfl⟩
theorem k123_662 : en_d 123 662 (.iconst 0) 1 663 := ⟨by decide +kernel, rfl⟩
theorem k123_663 : en_d 123 663 .ireturn 1 664 := ⟨by decide +kernel, rfl⟩
theorem k123_664 : en_d 123 664 (.aload_n 1) 1 665 := ⟨by decide +kernel, rfl⟩
theorem k123_665 : en_d 123 665 (.aload_n 0) 1 666 := ⟨by decide +kernel, rfl⟩
theorem k123_666 : en_d 123 666 (.iload_n 3) 1 667 := ⟨by decide +kernel, rfl⟩
theorem k123_667 : en_d 123 667 (.iconst 1) 1 668 := ⟨by decide +kernel, rfl⟩
theorem k123_668 : en_d 123 668 .iadd 1 669 := ⟨by decide +kernel, rfl⟩
theorem k123_669 : en_d 123 669 .iaload 1 670 := ⟨by decide +kernel, rfl⟩
theorem k123_670 : en_d 123 670 (.aload_n 0) 1 671 := ⟨by decide +kernel, rfl⟩
theorem k123_671 : en_d 123 671 (.iload_n 3) 1 672 := ⟨by decide +kernel, rfl⟩
theorem k123_672 : en_d 123 672 (.iconst 2) 1 673 := ⟨by decide +kernel, rfl⟩
theorem k123_673 : en_d 123 673 .iadd 1 674 := ⟨by decide +kernel, rfl⟩
theorem k123_674 : en_d 123 674 .iaload 1 675 := ⟨by decide +kernel, rfl⟩
theorem k123_675 : en_d 123 675 (.aload_n 0) 1 676 := ⟨by decide +kernel, rfl⟩
theorem k123_676 : en_d 123 676 (.iload_n 3) 1 677 := ⟨by decide +kernel, rfl⟩
theorem k123_677 : en_d 123 677 (.iconst 3) 1 678 := ⟨by decide +kernel, rfl⟩
theorem k123_678 : en_d 123 678 .iadd 1 679 := ⟨by decide +kernel, rfl⟩
theorem k123_679 : en_d 123 679 .iaload 1 680 := ⟨by decide +kernel, rfl⟩
theorem k123_680 : en_dv 123 680 17 false 683 := ⟨83, by decide +kernel, by decide +kernel, rfl, by decide +kernel, by decide +kernel⟩
theorem k123_683 : en_d 123 683 (.aload_n 2) 1 684 := ⟨by decide +kernel, rfl⟩
theorem k123_684 : en_d 123 684 (.aload_n 0) 1 685 := ⟨by decide +kernel, rfl⟩
theorem k123_685 : en_d 123 685 (.iload_n 3) 1 686 := ⟨by decide +kernel, rfl⟩
theorem k123_686 : en_d 123 686 (.iconst 1) 1 687 := ⟨by decide +kernel, rfl⟩
theorem k123_687 : en_d 123 687 .iadd 1 688 := ⟨by decide +kernel, rfl⟩
theorem k123_688 : en_d 123 688 .iaload 1 689 := ⟨by decide +kernel, rfl⟩
theorem k123_689 : en_d 123 689 (.aload_n 0) 1 690 := ⟨by decide +kernel, rfl⟩
theorem k123_690 : en_d 123 690 (.iload_n 3) 1 691 := ⟨by decide +kernel, rfl⟩
theorem k123_691 : en_d 123 691 (.iconst 2) 1 692 := ⟨by decide +kernel, rfl⟩
theorem k123_692 : en_d 123 692 .iadd 1 693 := ⟨by decide +kernel, rfl⟩
theorem k123_693 : en_d 123 693 .iaload 1 694 := ⟨by decide +kernel, rfl⟩
theorem k123_694 : en_d 123 694 (.aload_n 0) 1 695 := ⟨by decide +kernel, rfl⟩
theorem k123_695 : en_d 123 695 (.iload_n 3) 1 696 := ⟨by decide +kernel, rfl⟩
theorem k123_696 : en_d 123 696 (.iconst 3) 1 697 := ⟨by decide +kernel, rfl⟩
theorem k123_697 : en_d 123 697 .iadd 1 698 := ⟨by decide +kernel, rfl⟩
theorem k123_698 : en_d 123 698 .iaload 1 699 := ⟨by decide +kernel, rfl⟩
theorem k123_699 : en_dv 123 699 121 false 702 := ⟨86, by decide +kernel, by decide +kernel, rfl, by decide +kernel, by decide +kernel⟩
theorem k123_702 : en_j 123 702 (.if_icmp .eq) 705 730 := ⟨28, by decide +kernel, by decide, rfl⟩
theorem k123_705 : en_d 123 705 (.iconst 0) 1 706 := ⟨by decide +kernel, rfl⟩
theorem k123_706 : en_d 123 706 .ireturn 1 707 := ⟨by decide +kernel, rfl⟩
theorem k123_707 : en_d 123 707 (.aload_n 1) 1 708 := ⟨by decide +kernel, rfl⟩
theorem k123_708 : en_d 123 708 (.aload_n 0) 1 709 := ⟨by decide +kernel, rfl⟩
theorem k123_709 : en_d 123 709 (.iload_n 3) 1 710 := ⟨by decide +kernel, rfl⟩
theorem k123_710 : en_d 123 710 (.iconst 1) 1 711 := ⟨by decide +kernel, rfl⟩
theorem k123_711 : en_d 123 711 .iadd 1 712 := ⟨by decide +kernel, rfl⟩
theorem k123_712 : en_d 123 712 .iaload 1 713 := ⟨by decide +kernel, rfl⟩
theorem k123_713 : en_dv 123 713 18 false 716 := ⟨87, by decide +kernel, by decide +kernel, rfl, by decide +kernel, by decide +kernel⟩
theorem k123_716 : en_d 123 716 (.aload_n 2) 1 717 := ⟨by decide +kernel, rfl⟩
theorem k123_717 : en_d 123 717 (.aload_n 0) 1 718 := ⟨by decide +kernel, rfl⟩
theorem k123_718 : en_d 123 718 (.iload_n 3) 1 719 := ⟨by decide +kernel, rfl⟩
theorem k123_719 : en_d 123 719 (.iconst 1) 1 720 := ⟨by decide +kernel, rfl⟩
theorem k123_720 : en_d 123 720 .iadd 1 721 := ⟨by decide +kernel, rfl⟩
theorem k123_721 : en_d 123 721 .iaload 1 722 := ⟨by decide +kernel, rfl⟩
theorem k123_722 : en_dv 123 722 122 false 725 := ⟨90, by decide +kernel, by decide +kernel, rfl, by decide +kernel, by decide +kernel⟩
theorem k123_725 : en_j 123 725 (.if_icmp .eq) 728 730 := ⟨5, by decide +kernel, by decide, rfl⟩
theorem k123_728 : en_d 123 728 (.iconst 0) 1 729 := ⟨by decide +kernel, rfl⟩
theorem k123_729 : en_d 123 729 .ireturn 1 730 := ⟨by decide +kernel, rfl⟩
theorem k123_730 : en_d 123 730 (.iinc 3 4) 3 733 := ⟨by decide +kernel, rfl⟩
theorem k123_733 : en_j 123 733 .goto 736 18 := ⟨(-715), by decide +kernel, by decide, rfl⟩
theorem k123_736 : en_d 123 736 (.iconst 1) 1 737 := ⟨by decide +kernel, rfl⟩
theorem k123_737 : en_d 123 737 .ireturn 1 738 := ⟨by decide +kernel, rfl⟩
end
section
section GM2
variable {LS : Nat} {rm : Nat → Nat → Option Nat} {i j pc pc' tgt : Nat} {L L' st rest : List Value} {im : Nat → Nat → Int32} {P : Option Value → (Nat → Nat → Int32) → Prop} {a ci k n : Nat} {nb : Bool}
theorem g_iincv {j : Nat} {n : Int} {x y : Int32} (hd : en_d i pc (.iinc j n) 3 pc') (hg : L[j]? = some (.int x)) (hn : j < mL i) (hy : x + Int32.ofInt n = y) (hl : L.set j (.int y) = L') (kk : Gm LS rm i pc' L' st im P) : Gm LS rm i pc L st im P := by
  subst hy
  exact g_iinc hd hg hn hl kk
theorem g_L (h : L = L') (kk : Gm LS rm i pc L' st im P) : Gm LS rm i pc L st im P := h ▸ kk
theorem inc_1 (n : Nat) : nI n + Int32.ofInt 1 = nI (n + 1) := nI_1 n
theorem inc_m1 {n : Nat} (h : 0 < n) : nI n + Int32.ofInt (-1) = nI (n - 1) := by
  obtain ⟨m, rfl⟩ : ∃ m, n = m + 1 := ⟨n - 1, by omega⟩
  rw [show Int32.ofInt (-1) = -1 from by decide, pk_m1]
  rfl
/-- copying ints among arrays, by natural numbers -/
theorem g_copyn {a a1 n0 n1 sp dp x : Nat} (hd : en_dn i pc 9 pc') (hrest : (rest.map fun v => v.category).sum ≤ 8) (hs0 : (SH LS)[a]? = some (100, n0)) (hs1 : (SH LS)[a1]? = some (100, n1)) (h0 : n0 < 100000) (h1 : n1 < 100000) (q4 : sp + x ≤ n0) (q5 : dp + x ≤ n1)
    (kk : Gm LS rm i pc' L rest (en_ur im a1 (va_cpy (im a) (im a1) sp dp x)) P) : Gm LS rm i pc L (.int (nI x) :: .int (nI dp) :: .ref a1 :: .int (nI sp) :: .ref a :: rest) im P := by
  have e1 : (nI sp).toNatClampNeg = sp := nI_clamp (by omega)
  have e2 : (nI dp).toNatClampNeg = dp := nI_clamp (by omega)
  have e3 : (nI x).toNatClampNeg = x := nI_clamp (by omega)
  refine g_copy hd hrest hs0 hs1 (nI_pos (by omega)) (nI_pos (by omega)) (nI_pos (by omega)) (by rw [e1, e3]; exact q4) (by rw [e2, e3]; exact q5) ?_
  rw [e1, e2, e3]
  exact kk
end GM2
end
section
/-! THE AGREEMENT OF THE THREE ORDERERS, purely: n o is the length of o's log, g o i its block's number at i, T x the term of block x, tm o a term, ld the leader (3: none), the chain is c of length cn, nb blocks are cut, G is the greatest term -/
def ag_p (n : Nat → Nat) (g : Nat → Nat → Nat) (cn : Nat) (c : Nat → Nat) (o : Nat) : Prop := cn ≤ n o ∧ ∀ i, i < cn → g o i = c i
def ag_I (n : Nat → Nat) (g : Nat → Nat → Nat) (T tm : Nat → Nat) (up : Nat → Bool) (ld cn : Nat) (c : Nat → Nat) (nb G : Nat) : Prop :=
  ((∃ a b, a < 3 ∧ b < 3 ∧ a ≠ b ∧ tm a = G ∧ tm b = G) ∧ ∀ o, o < 3 → tm o ≤ G) ∧
  (ld < 3 → up ld = true ∧ tm ld = G) ∧
  (∀ o i, o < 3 → i < n o → T (g o i) ≤ G ∧ g o i < nb) ∧
  (∀ q r i j, q < 3 → r < 3 → i < n q → i < n r → g q i = g r i → j ≤ i → g q j = g r j) ∧
  (∀ o i j, o < 3 → i ≤ j → j < n o → T (g o i) ≤ T (g o j)) ∧
  (∀ q r i j, q < 3 → r < 3 → i ≤ j → i < n q → j < n r → T (g q i) = T (g r j) → g r i = g q i) ∧
  (ld < 3 → ∀ q i, q < 3 → i < n q → T (g q i) = G → i < n ld ∧ g ld i = g q i) ∧
  (∃ a b, a < 3 ∧ b < 3 ∧ a ≠ b ∧ ag_p n g cn c a ∧ ag_p n g cn c b) ∧
  (ld < 3 → ag_p n g cn c ld) ∧
  (∀ o i, o < 3 → i < n o → 0 < cn → T (c (cn - 1)) < T (g o i) → ag_p n g cn c o)
theorem ag_0 {n T tm : Nat → Nat} {g : Nat → Nat → Nat} {c : Nat → Nat} {up : Nat → Bool} (hn : ∀ o, o < 3 → n o = 0) (ht : ∀ o, o < 3 → tm o = 0) : ag_I n g T tm up 3 0 c 0 0 := by
  have pz : ∀ o, ag_p n g 0 c o := fun o => ⟨Nat.zero_le _, fun i h => absurd h (Nat.not_lt_zero i)⟩
  refine ⟨⟨⟨0, 1, by omega, by omega, by omega, ht 0 (by omega), ht 1 (by omega)⟩, fun o ho => Nat.le_of_eq (ht o ho)⟩, fun h => by omega, fun o i ho h => ?_, fun q r i j hq hr h => ?_, fun o i j ho hij h => ?_, fun q r i j hq hr hij h => ?_, fun h => by omega, ⟨0, 1, by omega, by omega, by omega, pz 0, pz 1⟩, fun h => by omega, fun o i ho h => ?_⟩
  · rw [hn o ho] at h; omega
  · rw [hn q hq] at h; omega
  · rw [hn o ho] at h; omega
  · rw [hn q hq] at h; omega
  · exact fun _ _ => pz o
section AG
variable {n : Nat → Nat} {g : Nat → Nat → Nat} {T tm : Nat → Nat} {up : Nat → Bool} {ld cn nb G : Nat} {c : Nat → Nat}
/-- two of three and two of three have one in common -/
theorem ag_meet {a b x y : Nat} (ha : a < 3) (hb : b < 3) (hab : a ≠ b) (hx : x < 3) (hy : y < 3) (hxy : x ≠ y) : a = x ∨ a = y ∨ b = x ∨ b = y := by omega
/-- what 'not newer' is: s's log is not newer than o's -/
def ag_lt (n : Nat → Nat) (g : Nat → Nat → Nat) (T : Nat → Nat) (o : Nat) : Nat := if n o = 0 then 0 else T (g o (n o - 1))
def ag_nn (n : Nat → Nat) (g : Nat → Nat → Nat) (T : Nat → Nat) (s o : Nat) : Prop := ¬ (ag_lt n g T o < ag_lt n g T s ∨ (ag_lt n g T s = ag_lt n g T o ∧ n o < n s))
/-- the greatest term of those that are up is G, where two are up -/
theorem ag_top (h : ag_I n g T tm up ld cn c nb G) {o s : Nat} (ho : o < 3) (hs : s < 3) (hos : o ≠ s) : tm o = G ∨ tm s = G := by
  obtain ⟨⟨⟨a, b, ha, hb, hab, h1, h2⟩, -⟩, -⟩ := h
  rcases ag_meet ha hb hab ho hs hos with rfl | rfl | rfl | rfl
  · exact Or.inl h1
  · exact Or.inr h1
  · exact Or.inl h2
  · exact Or.inr h2
theorem ag_win (h : ag_I n g T tm up ld cn c nb G) {o s : Nat} (ho : o < 3) (hs : s < 3) (hos : o ≠ s) (hn : ag_nn n g T s o) : ag_p n g cn c o := by
  obtain ⟨-, -, A3, B1, B2, B3, -, ⟨a, b, ha, hb, hab, h1, h2⟩, -, C3⟩ := h
  by_cases hcn : cn = 0
  · subst hcn
    exact ⟨Nat.zero_le _, fun _ h => by omega⟩
  have key : ag_p n g cn c s → ag_p n g cn c o := by
    intro hp
    have hsn : n s ≠ 0 := by have := hp.1; omega
    have hlast : g s (cn - 1) = c (cn - 1) := hp.2 _ (by omega)
    have hTs : T (c (cn - 1)) ≤ T (g s (n s - 1)) := by
      rw [← hlast]
      exact B2 s _ _ hs (by have := hp.1; omega) (by omega)
    unfold ag_nn ag_lt at hn
    rw [if_neg hsn] at hn
    by_cases hon : n o = 0
    · rw [if_pos hon] at hn
      exfalso
      apply hn
      by_cases hz : T (g s (n s - 1)) = 0
      · exact Or.inr ⟨hz, by omega⟩
      · exact Or.inl (by omega)
    · rw [if_neg hon] at hn
      by_cases hgt : T (c (cn - 1)) < T (g o (n o - 1))
      · exact C3 o _ ho (by omega) (by omega) hgt
      · have e1 : T (g s (n s - 1)) = T (g o (n o - 1)) := by
          by_cases hz : T (g o (n o - 1)) < T (g s (n s - 1))
          · exact absurd (Or.inl hz) hn
          · omega
        have e2 : n s ≤ n o := by
          by_cases hz : n o < n s
          · exact absurd (Or.inr ⟨e1, hz⟩) hn
          · omega
        have e3 : g o (cn - 1) = g s (cn - 1) := B3 s o (cn - 1) (n o - 1) hs ho (by have := hp.1; omega) (by have := hp.1; omega) (by omega) (by rw [hlast]; omega)
        refine ⟨by have := hp.1; omega, fun i hi => ?_⟩
        have := B1 o s (cn - 1) i ho hs (by have := hp.1; omega) (by have := hp.1; omega) e3 (by omega)
        rw [this]
        exact hp.2 i hi
  rcases ag_meet ha hb hab ho hs hos with rfl | rfl | rfl | rfl
  · exact h1
  · exact key h1
  · exact h2
  · exact key h2
/-- an election -/
theorem ag_elect (h : ag_I n g T tm up ld cn c nb G) {o s : Nat} (ho : o < 3) (hs : s < 3) (hos : o ≠ s) (huo : up o = true) (hus : up s = true) (hn : ag_nn n g T s o) {tm' : Nat → Nat} (ht : ∀ q, q < 3 → tm' q = if up q = true then G + 1 else tm q) : ag_I n g T tm' up o cn c nb (G + 1) := by
  have hw := ag_win h ho hs hos hn
  obtain ⟨⟨-, A1b⟩, -, A3, B1, B2, B3, -, C1, -, C3⟩ := h
  refine ⟨⟨⟨o, s, ho, hs, hos, by rw [ht o ho, if_pos huo], by rw [ht s hs, if_pos hus]⟩, fun q hq => ?_⟩, fun _ => ⟨huo, by rw [ht o ho, if_pos huo]⟩, fun q i hq hi => ⟨Nat.le_trans (A3 q i hq hi).1 (Nat.le_succ _), (A3 q i hq hi).2⟩, B1, B2, B3, fun _ q i hq hi he => ?_, C1, fun _ => hw, C3⟩
  · rw [ht q hq]
    split
    · exact Nat.le_refl _
    · exact Nat.le_trans (A1b q hq) (Nat.le_succ _)
  · have := (A3 q i hq hi).1
    omega
/-- power: only who is up changes; a leader that goes down is none -/
theorem ag_power (h : ag_I n g T tm up ld cn c nb G) {up' : Nat → Bool} {ld' : Nat} (hl : ld' < 3 → ld' = ld ∧ up' ld = true) : ag_I n g T tm up' ld' cn c nb G := by
  obtain ⟨A1, A2, A3, B1, B2, B3, B4, C1, C2, C3⟩ := h
  refine ⟨A1, fun h => ?_, A3, B1, B2, B3, fun h => ?_, C1, fun h => ?_, C3⟩
  · obtain ⟨e, hu⟩ := hl h
    subst e
    exact ⟨hu, (A2 h).2⟩
  · obtain ⟨e, hu⟩ := hl h
    subst e
    exact B4 h
  · obtain ⟨e, hu⟩ := hl h
    subst e
    exact C2 h
/-- a cut by the leader: block nb of term G stands at the end of its log -/
theorem ag_cut (h : ag_I n g T tm up ld cn c nb G) (hl : ld < 3) {n' : Nat → Nat} {g' : Nat → Nat → Nat} {T' : Nat → Nat} (hn1 : n' ld = n ld + 1) (hn2 : ∀ q, q < 3 → q ≠ ld → n' q = n q) (hg1 : g' ld (n ld) = nb) (hg2 : ∀ q i, q < 3 → i < n q → g' q i = g q i) (hT1 : T' nb = G) (hT2 : ∀ x, x < nb → T' x = T x) (hcb : ∀ i, i < cn → c i < nb) : ag_I n' g' T' tm up ld cn c (nb + 1) G := by
  obtain ⟨A1, A2, A3, B1, B2, B3, B4, ⟨a, b, ha, hb, hab, h1, h2⟩, C2, C3⟩ := h
  have B4 := B4 hl
  -- a place of a log now: an old one, or the new one
  have old : ∀ q i, q < 3 → i < n' q → (i < n q ∧ g' q i = g q i ∧ T' (g' q i) = T (g q i)) ∨ (q = ld ∧ i = n ld ∧ g' q i = nb ∧ T' (g' q i) = G) := by
    intro q i hq hi
    by_cases hql : q = ld
    · subst hql
      rw [hn1] at hi
      by_cases hin : i = n q
      · subst hin
        exact Or.inr ⟨rfl, rfl, hg1, by rw [hg1]; exact hT1⟩
      · have hlt : i < n q := by omega
        exact Or.inl ⟨hlt, hg2 q i hq hlt, by rw [hg2 q i hq hlt]; exact hT2 _ (A3 q i hq hlt).2⟩
    · rw [hn2 q hq hql] at hi
      exact Or.inl ⟨hi, hg2 q i hq hi, by rw [hg2 q i hq hi]; exact hT2 _ (A3 q i hq hi).2⟩
  have lt' : ∀ q i, q < 3 → i < n q → i < n' q := by
    intro q i hq hi
    by_cases hql : q = ld
    · subst hql; omega
    · rw [hn2 q hq hql]; exact hi
  have pre' : ∀ q, q < 3 → ag_p n g cn c q → ag_p n' g' cn c q := by
    intro q hq hp
    refine ⟨?_, fun i hi => ?_⟩
    · by_cases hql : q = ld
      · subst hql; have := hp.1; omega
      · rw [hn2 q hq hql]; exact hp.1
    · rw [hg2 q i hq (by have := hp.1; omega)]
      exact hp.2 i hi
  refine ⟨A1, A2, ?_, ?_, ?_, ?_, ?_, ⟨a, b, ha, hb, hab, pre' a ha h1, pre' b hb h2⟩, fun _ => pre' ld hl (C2 hl), ?_⟩
  · intro q i hq hi
    rcases old q i hq hi with ⟨e1, e2, e3⟩ | ⟨-, -, e2, e3⟩
    · rw [e3, e2]
      exact ⟨(A3 q i hq e1).1, Nat.lt_succ_of_lt (A3 q i hq e1).2⟩
    · rw [e3, e2]
      exact ⟨Nat.le_refl _, Nat.lt_succ_self _⟩
  · intro q r i j hq hr hi hi2 he hj
    rcases old q i hq hi with ⟨e1, e2, -⟩ | ⟨e0, e1, e2, -⟩ <;> rcases old r i hr hi2 with ⟨f1, f2, -⟩ | ⟨f0, f1, f2, -⟩
    · rw [hg2 q j hq (by omega), hg2 r j hr (by omega)]
      exact B1 q r i j hq hr e1 f1 (by rw [← e2, ← f2]; exact he) hj
    · exfalso
      have := (A3 q i hq e1).2
      rw [e2, f2] at he
      omega
    · exfalso
      have := (A3 r i hr f1).2
      rw [e2, f2] at he
      omega
    · rw [e0, f0]
  · intro q i j hq hij hj
    have hi : i < n' q := by omega
    rcases old q j hq hj with ⟨e1, -, e3⟩ | ⟨e0, e1, -, e3⟩
    · rcases old q i hq hi with ⟨f1, -, f3⟩ | ⟨f0, f1, -, f3⟩
      · rw [e3, f3]
        exact B2 q i j hq hij e1
      · subst f0
        omega
    · rw [e3]
      rcases old q i hq hi with ⟨f1, -, f3⟩ | ⟨f0, f1, -, f3⟩
      · rw [f3]
        exact (A3 q i hq f1).1
      · rw [f3]
        exact Nat.le_refl _
  · intro q r i j hq hr hij hi hj he
    rcases old q i hq hi with ⟨e1, e2, e3⟩ | ⟨e0, e1, e2, e3⟩ <;> rcases old r j hr hj with ⟨f1, f2, f3⟩ | ⟨f0, f1, f2, f3⟩
    · rw [hg2 r i hr (by omega), e2]
      exact B3 q r i j hq hr hij e1 f1 (by rw [← e3, ← f3]; exact he)
    · -- the new block is r's at j; q's at i is of term G: the leader has it there
      subst f0
      have hq4 := B4 q i hq e1 (by rw [← e3, he, f3])
      rw [hg2 r i hr hq4.1, e2]
      exact hq4.2
    · -- the new block is q's at i; r's at j ≥ i of term G stands in the leader's old log: no
      exfalso
      subst e0
      have hr4 := B4 r j hr f1 (by rw [← f3, ← he, e3])
      omega
    · subst e0
      rw [f0, e1, hg1]
  · intro _ q i hq hi he
    rcases old q i hq hi with ⟨e1, e2, e3⟩ | ⟨e0, e1, e2, e3⟩
    · have h4 := B4 q i hq e1 (by rw [← e3]; exact he)
      exact ⟨lt' ld i hl h4.1, by rw [hg2 ld i hl h4.1, e2]; exact h4.2⟩
    · subst e0
      exact ⟨hi, rfl⟩
  · intro q i hq hi hc hT
    rcases old q i hq hi with ⟨e1, e2, e3⟩ | ⟨e0, e1, e2, e3⟩
    · refine pre' q hq (C3 q i hq e1 hc ?_)
      rw [e3, hT2 _ (hcb _ (by omega))] at hT
      exact hT
    · subst e0
      exact pre' q hq (C2 hq)
/-- a copy by the leader a to b: the log of b is as it was, or the beginning of a's, one longer than what is the same -/
theorem ag_copy (h : ag_I n g T tm up ld cn c nb G) {b same : Nat} (hl : ld < 3) (hb : b < 3) (hbl : b ≠ ld) (hsa : same ≤ n ld) (hsb : same ≤ n b) (hse : ∀ i, i < same → g ld i = g b i) (hsd : same < n ld → same < n b → g ld same ≠ g b same)
    {n' : Nat → Nat} {g' : Nat → Nat → Nat} {tm' : Nat → Nat} (hq : ∀ q, q < 3 → q ≠ b → n' q = n q ∧ ∀ i, i < n q → g' q i = g q i) (hb1 : same < n ld → n' b = same + 1 ∧ ∀ i, i ≤ same → g' b i = g ld i) (hb2 : ¬ same < n ld → n' b = n b ∧ ∀ i, i < n b → g' b i = g b i) (ht1 : tm' b = tm ld) (ht2 : ∀ q, q < 3 → q ≠ b → tm' q = tm q) : ag_I n' g' T tm' up ld cn c nb G := by
  obtain ⟨⟨A1, A1b⟩, A2, A3, B1, B2, B3, B4, ⟨x, y, hx, hy, hxy, h1, h2⟩, C2, C3⟩ := h
  have B4 := B4 hl
  have C2 := C2 hl
  have A2 := A2 hl
  have hld := hq ld hl (fun z => hbl z.symm)
  -- a place of a log now: of the same log before, or (b's) of the leader's
  have src : ∀ q i, q < 3 → i < n' q → ∃ q0, q0 < 3 ∧ i < n q0 ∧ (∀ j, j ≤ i → g' q j = g q0 j) ∧ (q0 = q ∨ (q = b ∧ q0 = ld)) := by
    intro q i hq3 hi
    by_cases hqb : q = b
    · subst hqb
      by_cases hs : same < n ld
      · obtain ⟨e1, e2⟩ := hb1 hs
        exact ⟨ld, hl, by omega, fun j hj => e2 j (by omega), Or.inr ⟨rfl, rfl⟩⟩
      · obtain ⟨e1, e2⟩ := hb2 hs
        exact ⟨q, hb, by omega, fun j hj => e2 j (by omega), Or.inl rfl⟩
    · obtain ⟨e1, e2⟩ := hq q hq3 hqb
      exact ⟨q, hq3, by omega, fun j hj => e2 j (by omega), Or.inl rfl⟩
  have preb : ag_p n g cn c b → ag_p n' g' cn c b := by
    intro hp
    by_cases hs : same < n ld
    · obtain ⟨e1, e2⟩ := hb1 hs
      have hcs : cn ≤ same := by
        by_cases hz : cn ≤ same
        · exact hz
        · exfalso
          have a1 := C2.2 same (by omega)
          have a2 := hp.2 same (by omega)
          exact hsd hs (by have := hp.1; omega) (a1.trans a2.symm)
      refine ⟨by omega, fun i hi => ?_⟩
      rw [e2 i (by omega)]
      exact C2.2 i hi
    · obtain ⟨e1, e2⟩ := hb2 hs
      refine ⟨by have := hp.1; omega, fun i hi => ?_⟩
      rw [e2 i (by have := hp.1; omega)]
      exact hp.2 i hi
  have pre' : ∀ q, q < 3 → ag_p n g cn c q → ag_p n' g' cn c q := by
    intro q hq3 hp
    by_cases hqb : q = b
    · subst hqb
      exact preb hp
    · obtain ⟨e1, e2⟩ := hq q hq3 hqb
      refine ⟨by have := hp.1; omega, fun i hi => ?_⟩
      rw [e2 i (by have := hp.1; omega)]
      exact hp.2 i hi
  refine ⟨⟨⟨ld, b, hl, hb, fun z => hbl z.symm, by rw [ht2 ld hl (fun z => hbl z.symm)]; exact A2.2, by rw [ht1]; exact A2.2⟩, fun q hq3 => ?_⟩, fun _ => ⟨A2.1, by rw [ht2 ld hl (fun z => hbl z.symm)]; exact A2.2⟩, ?_, ?_, ?_, ?_, ?_, ⟨x, y, hx, hy, hxy, pre' x hx h1, pre' y hy h2⟩, fun _ => pre' ld hl C2, ?_⟩
  · by_cases hqb : q = b
    · rw [hqb, ht1]
      exact Nat.le_of_eq A2.2
    · rw [ht2 q hq3 hqb]
      exact A1b q hq3
  · intro q i hq3 hi
    obtain ⟨q0, h0, h1, h2, -⟩ := src q i hq3 hi
    rw [h2 i (Nat.le_refl _)]
    exact A3 q0 i h0 h1
  · intro q r i j hq3 hr3 hi hi2 he hj
    obtain ⟨q0, a0, a1, a2, -⟩ := src q i hq3 hi
    obtain ⟨r0, b0, b1, b2, -⟩ := src r i hr3 hi2
    rw [a2 j hj, b2 j hj]
    exact B1 q0 r0 i j a0 b0 a1 b1 (by rw [← a2 i (Nat.le_refl _), ← b2 i (Nat.le_refl _)]; exact he) hj
  · intro q i j hq3 hij hj
    obtain ⟨q0, a0, a1, a2, -⟩ := src q j hq3 hj
    rw [a2 i hij, a2 j (Nat.le_refl _)]
    exact B2 q0 i j a0 hij a1
  · intro q r i j hq3 hr3 hij hi hj he
    obtain ⟨q0, a0, a1, a2, -⟩ := src q i hq3 hi
    obtain ⟨r0, b0, b1, b2, -⟩ := src r j hr3 hj
    rw [b2 i hij, a2 i (Nat.le_refl _)]
    exact B3 q0 r0 i j a0 b0 hij a1 b1 (by rw [← a2 i (Nat.le_refl _), ← b2 j (Nat.le_refl _)]; exact he)
  · intro _ q i hq3 hi he
    obtain ⟨q0, a0, a1, a2, -⟩ := src q i hq3 hi
    have h4 := B4 q0 i a0 a1 (by rw [← a2 i (Nat.le_refl _)]; exact he)
    refine ⟨by rw [hld.1]; exact h4.1, ?_⟩
    rw [hld.2 i h4.1, a2 i (Nat.le_refl _)]
    exact h4.2
  · intro q i hq3 hi hc hT
    obtain ⟨q0, a0, a1, a2, hor⟩ := src q i hq3 hi
    have hp := C3 q0 i a0 a1 hc (by rw [← a2 i (Nat.le_refl _)]; exact hT)
    rcases hor with e | ⟨e1, e2⟩
    · subst e
      exact pre' q0 hq3 hp
    · subst e1; subst e2
      -- the place i is behind the chain's last
      have hlt : cn ≤ i := by
        by_cases hz : cn ≤ i
        · exact hz
        · exfalso
          have a3 := B2 q0 i (cn - 1) a0 (by omega) (by have := hp.1; omega)
          rw [hp.2 (cn - 1) (by omega), ← a2 i (Nat.le_refl _)] at a3
          omega
      refine ⟨by omega, fun k hk => ?_⟩
      rw [a2 k (by omega)]
      exact hp.2 k hk
/-- the chain becomes the first N of the leader's log, where the block at N - 1 is of the leader's term and stands there in another's log too: it only grows -/
theorem ag_chain (h : ag_I n g T tm up ld cn c nb G) {N q : Nat} {c' : Nat → Nat} (hl : ld < 3) (hq : q < 3) (hql : q ≠ ld) (hN : cn < N) (hNl : N ≤ n ld) (hNq : N ≤ n q) (he : g q (N - 1) = g ld (N - 1)) (hT : T (g ld (N - 1)) = G) (hc : ∀ i, i < N → c' i = g ld i) : ag_I n g T tm up ld N c' nb G ∧ ∀ i, i < cn → c' i = c i := by
  obtain ⟨A1, A2, A3, B1, B2, B3, B4, C1, C2, C3⟩ := h
  have C2 := C2 hl
  have pl : ag_p n g N c' ld := ⟨hNl, fun i hi => (hc i hi).symm⟩
  have pq : ag_p n g N c' q := ⟨hNq, fun i hi => by
    rw [hc i hi]
    exact B1 q ld (N - 1) i hq hl (by omega) (by omega) he (by omega)⟩
  refine ⟨⟨A1, A2, A3, B1, B2, B3, B4, ⟨ld, q, hl, hq, fun z => hql z.symm, pl, pq⟩, fun _ => pl, fun o i ho hi _ hlt => ?_⟩, fun i hi => ?_⟩
  · exfalso
    rw [hc (N - 1) (by omega), hT] at hlt
    have := (A3 o i ho hi).1
    omega
  · rw [hc i (by omega)]
    exact C2.2 i hi
/-- the chain's numbers are of blocks that are cut -/
theorem ag_cb (h : ag_I n g T tm up ld cn c nb G) : ∀ i, i < cn → c i < nb := by
  obtain ⟨-, -, A3, -, -, -, -, ⟨a, -, ha, -, -, h1, -⟩, -⟩ := h
  intro i hi
  rw [← h1.2 i hi]
  exact (A3 a i ha (by have := h1.1; omega)).2
end AG
end
section
/-! WHAT AN OBJECT IS: its shape, its references, its arrays -/
def isBL (LS : Nat) (rm : Nat → Nat → Option Nat) (a : Nat) : Prop := (SH LS)[a]? = some (6, 2) ∧ rm a 0 = some (a + 1) ∧ (SH LS)[a + 1]? = some (100, 40)
def isRs (LS : Nat) (rm : Nat → Nat → Option Nat) (a : Nat) : Prop := (SH LS)[a]? = some (3, 2) ∧ rm a 0 = some (a + 1) ∧ (SH LS)[a + 1]? = some (100, 80)
def isPr (LS : Nat) (rm : Nat → Nat → Option Nat) (a : Nat) : Prop := (SH LS)[a]? = some (1, 6) ∧ rm a 0 = some (a + 1) ∧ rm a 1 = some (a + 2) ∧ rm a 3 = some (a + 3) ∧ (SH LS)[a + 1]? = some (100, 12) ∧ (SH LS)[a + 2]? = some (100, 12) ∧ (SH LS)[a + 3]? = some (100, 9)
def isRn (LS : Nat) (rm : Nat → Nat → Option Nat) (a : Nat) : Prop := (SH LS)[a]? = some (2, 5) ∧ rm a 0 = some (a + 1) ∧ rm a 1 = some (a + 2) ∧ (SH LS)[a + 1]? = some (100, 8) ∧ isRs LS rm (a + 2)
def isTx (LS : Nat) (rm : Nat → Nat → Option Nat) (a : Nat) : Prop := (SH LS)[a]? = some (4, 5) ∧ rm a 4 = some (a + 1) ∧ isRs LS rm (a + 1)
def isBk (LS : Nat) (rm : Nat → Nat → Option Nat) (a : Nat) : Prop := (SH LS)[a]? = some (5, 3) ∧ rm a 0 = some (a + 1) ∧ (SH LS)[a + 1]? = some (100, 4)
def isOr (LS : Nat) (rm : Nat → Nat → Option Nat) (a : Nat) : Prop := (SH LS)[a]? = some (7, 3) ∧ rm a 2 = some (a + 1) ∧ isBL LS rm (a + 1)
def isWS (LS : Nat) (rm : Nat → Nat → Option Nat) (a : Nat) : Prop := (SH LS)[a]? = some (8, 3) ∧ rm a 0 = some (a + 1) ∧ rm a 1 = some (a + 2) ∧ (SH LS)[a + 1]? = some (100, 16) ∧ (SH LS)[a + 2]? = some (100, 16)
def isPe (LS : Nat) (rm : Nat → Nat → Option Nat) (a : Nat) : Prop := (SH LS)[a]? = some (9, 5) ∧ rm a 2 = some (a + 1) ∧ rm a 3 = some (a + 4) ∧ rm a 4 = some (a + 7) ∧ isWS LS rm (a + 1) ∧ isWS LS rm (a + 4) ∧ (SH LS)[a + 7]? = some (100, 160)
theorem ic_m1 : Int32.ofInt (-1) = -1 := by decide
theorem ic_0 : Int32.ofInt (0) = 0 := by decide
theorem ic_1 : Int32.ofInt (1) = 1 := by decide
theorem ic_2 : Int32.ofInt (2) = 2 := by decide
theorem ic_3 : Int32.ofInt (3) = 3 := by decide
theorem ic_4 : Int32.ofInt (4) = 4 := by decide
theorem ic_5 : Int32.ofInt (5) = 5 := by decide
theorem bp_6 : (Int8.ofInt 6).toInt32 = 6 := by decide
theorem bp_7 : (Int8.ofInt 7).toInt32 = 7 := by decide
theorem bp_8 : (Int8.ofInt 8).toInt32 = 8 := by decide
theorem bp_9 : (Int8.ofInt 9).toInt32 = 9 := by decide
theorem bp_10 : (Int8.ofInt 10).toInt32 = 10 := by decide
theorem bp_11 : (Int8.ofInt 11).toInt32 = 11 := by decide
theorem bp_12 : (Int8.ofInt 12).toInt32 = 12 := by decide
theorem bp_13 : (Int8.ofInt 13).toInt32 = 13 := by decide
theorem bp_14 : (Int8.ofInt 14).toInt32 = 14 := by decide
theorem bp_15 : (Int8.ofInt 15).toInt32 = 15 := by decide
theorem bp_16 : (Int8.ofInt 16).toInt32 = 16 := by decide
theorem bp_18 : (Int8.ofInt 18).toInt32 = 18 := by decide
theorem bp_20 : (Int8.ofInt 20).toInt32 = 20 := by decide
theorem bp_31 : (Int8.ofInt 31).toInt32 = 31 := by decide
theorem bp_36 : (Int8.ofInt 36).toInt32 = 36 := by decide
theorem bp_40 : (Int8.ofInt 40).toInt32 = 40 := by decide
theorem bp_48 : (Int8.ofInt 48).toInt32 = 48 := by decide
theorem bp_60 : (Int8.ofInt 60).toInt32 = 60 := by decide
theorem bp_61 : (Int8.ofInt 61).toInt32 = 61 := by decide
theorem bp_64 : (Int8.ofInt 64).toInt32 = 64 := by decide
theorem bp_80 : (Int8.ofInt 80).toInt32 = 80 := by decide
theorem bp_120 : (Int8.ofInt 120).toInt32 = 120 := by decide
theorem bp_122 : (Int8.ofInt 122).toInt32 = 122 := by decide
theorem sp_144 : (Int16.ofInt 144).toInt32 = 144 := by decide
theorem sp_160 : (Int16.ofInt 160).toInt32 = 160 := by decide
theorem sp_240 : (Int16.ofInt 240).toInt32 = 240 := by decide
theorem sp_960 : (Int16.ofInt 960).toInt32 = 960 := by decide
theorem sp_976 : (Int16.ofInt 976).toInt32 = 976 := by decide
theorem sp_1952 : (Int16.ofInt 1952).toInt32 = 1952 := by decide
set_option maxRecDepth 20000 in
set_option maxHeartbeats 4000000 in
theorem c19 {LS : Nat} {rm : Nat → Nat → Option Nat} {im : Nat → Nat → Int32} {P : Option Value → (Nat → Nat → Int32) → Prop} {x n : Int32} (h1 : 0 ≤ x → x < n → P (some (.int 1)) im) (h0 : (x < 0 ∨ n ≤ x) → P (some (.int 0)) im) : Gm LS rm 19 0 (en_in 19 [.int x, .int n]) [] im P := by
  show Gm LS rm 19 0 [.int (x), .int (n)] [] im P
  refine g_iload_n k19_0 rfl ?_
  refine g_if_lt k19_1 (fun h => ?_) (fun h => ?_)
  · refine g_iconst (v := 0) k19_13 ic_0 ?_
    exact g_retz k19_14 rfl (by decide) (h0 (Or.inl h))
  · refine g_iload_n k19_4 rfl ?_
    refine g_iload_n k19_5 rfl ?_
    refine g_icmp_ge k19_6 (fun g => ?_) (fun g => ?_)
    · refine g_iconst (v := 0) k19_13 ic_0 ?_
      exact g_retz k19_14 rfl (by decide) (h0 (Or.inr g))
    · refine g_iconst (v := 1) k19_9 ic_1 ?_
      refine g_goto k19_10 ?_
      exact g_retz k19_14 rfl (by decide) (h1 (Int32.not_lt.mp h) (Int32.not_le.mp g))

theorem w_in {n : Nat} (hn : n < 2 ^ 31) {x : Int32} (h0 : 0 ≤ x) (h1 : x < nI n) : ∃ q, q < n ∧ x = nI q := by
  rcases pk_ix x hn with h | h | h
  · exact absurd h0 (Int32.not_le.mpr h)
  · exact absurd h1 (Int32.not_lt.mpr h)
  · exact h
/-- within, by cases: in range as a natural number, or not -/
theorem c19n {LS : Nat} {rm : Nat → Nat → Option Nat} {im : Nat → Nat → Int32} {P : Option Value → (Nat → Nat → Int32) → Prop} {x : Int32} (n : Nat) (hn : n < 2 ^ 31) (h1 : ∀ q, q < n → x = nI q → P (some (.int 1)) im) (h0 : (x < 0 ∨ nI n ≤ x) → P (some (.int 0)) im) : Gm LS rm 19 0 (en_in 19 [.int x, .int (nI n)]) [] im P :=
  c19 (fun a b => by obtain ⟨q, hq, e⟩ := w_in hn a b; exact h1 q hq e) h0

theorem u2_ne {α : Type} {f : Nat → Nat → α} {a k b j : Nat} {x : α} (h : b ≠ a ∨ j ≠ k) : en_u2 f a k x b j = f b j := by
  unfold en_u2
  by_cases h1 : b = a
  · rw [if_pos h1]
    by_cases h2 : j = k
    · rcases h with h | h
      · exact absurd h1 h
      · exact absurd h2 h
    · rw [if_neg h2]
  · rw [if_neg h1]
theorem u2_eq {α : Type} {f : Nat → Nat → α} {a k : Nat} {x : α} : en_u2 f a k x a k = x := by simp [en_u2]
theorem nI_i (n : Nat) : nI n + 1 = nI (n + 1) := nI_1 n
theorem nI_m1 {n : Nat} (h : 0 < n) : nI n - 1 = nI (n - 1) := by
  obtain ⟨m, rfl⟩ : ∃ m, n = m + 1 := ⟨n - 1, by omega⟩
  rw [nI_pred]
  rfl

set_option maxRecDepth 20000 in
set_option maxHeartbeats 4000000 in
theorem c40 {LS : Nat} {rm : Nat → Nat → Option Nat} {im : Nat → Nat → Int32} {P : Option Value → (Nat → Nat → Int32) → Prop} {a len : Nat} {op x : Int32} (hA : isPr LS rm a) (hl : im a 2 = nI len) (hb : len ≤ 12) (h0 : len = 12 → P (some (.int 0)) im) (h1 : len < 12 → P (some (.int 1)) (en_u2 (en_u2 (en_u2 im (a + 1) len op) (a + 2) len x) a 2 (nI (len + 1))))  : Gm LS rm 40 0 (en_in 40 [.ref a, .int op, .int x]) [] im P := by
  show Gm LS rm 40 0 [.ref (a), .int (op), .int (x)] [] im P
  refine g_aload_n k40_0 rfl ?_
  refine g_getv (v := nI len) k40_1 (hA.1) (by decide) (hl) ?_
  refine g_bipush (v := 12) k40_4 bp_12 ?_
  refine g_icmp_lt k40_6 (fun h => ?_) (fun h => ?_)
  · have hlt : len < 12 := (nI_ltI (by omega) (by decide)).mp h
    refine g_aload_n k40_11 rfl ?_
    refine g_getr k40_12 (hA.1) (by decide) (hA.2.1) ?_
    refine g_aload_n k40_15 rfl ?_
    refine g_getv (v := nI len) k40_16 (hA.1) (by decide) (hl) ?_
    refine g_iload_n k40_19 rfl ?_
    refine g_iasv k40_20 (hA.2.2.2.2.1) (hlt) (by decide) ?_
    refine g_aload_n k40_21 rfl ?_
    refine g_getr k40_22 (hA.1) (by decide) (hA.2.2.1) ?_
    refine g_aload_n k40_25 rfl ?_
    refine g_getv (v := nI len) k40_26 (hA.1) (by decide) (by simp [en_u2, hl]) ?_
    refine g_iload_n k40_29 rfl ?_
    refine g_iasv k40_30 (hA.2.2.2.2.2.1) (hlt) (by decide) ?_
    refine g_aload_n k40_31 rfl ?_
    refine g_dup k40_32 rfl ?_
    refine g_getv (v := nI len) k40_33 (hA.1) (by decide) (by simp [en_u2, hl]) ?_
    refine g_iconst (v := 1) k40_36 ic_1 ?_
    refine g_iadd k40_37 ?_
    refine g_top (y := nI (len + 1)) (nI_1 len) ?_
    refine g_puti k40_38 (by decide) (hA.1) (by decide) ?_
    refine g_iconst (v := 1) k40_41 ic_1 ?_
    exact g_retz k40_42 rfl (by decide) (h1 hlt)
  · refine g_iconst (v := 0) k40_9 ic_0 ?_
    exact g_retz k40_10 rfl (by decide) (h0 (by have : ¬ len < 12 := fun z => h ((nI_ltI (b := 12) (by omega) (by decide)).mpr z); omega))

set_option maxRecDepth 20000 in
set_option maxHeartbeats 4000000 in
theorem c44 {LS : Nat} {rm : Nat → Nat → Option Nat} {im : Nat → Nat → Int32} {P : Option Value → (Nat → Nat → Int32) → Prop} {a h r : Nat} {x : Int32} (hA : isPr LS rm a) (hh : im a 4 = nI h) (hr : im a 5 = nI r) (hb : h < 9) (h1 : P none (en_u2 (en_u2 (en_u2 im (a + 3) h x) a 4 (nI (h + 1))) a 5 (nI (r + 1)))) : Gm LS rm 44 0 (en_in 44 [.ref a, .int x]) [] im P := by
  show Gm LS rm 44 0 [.ref (a), .int (x)] [] im P
  refine g_aload_n k44_0 rfl ?_
  refine g_getr k44_1 (hA.1) (by decide) (hA.2.2.2.1) ?_
  refine g_aload_n k44_4 rfl ?_
  refine g_getv (v := nI h) k44_5 (hA.1) (by decide) (hh) ?_
  refine g_iload_n k44_8 rfl ?_
  refine g_iasv k44_9 (hA.2.2.2.2.2.2) (hb) (by decide) ?_
  refine g_aload_n k44_10 rfl ?_
  refine g_dup k44_11 rfl ?_
  refine g_getv (v := nI h) k44_12 (hA.1) (by decide) (by simp [en_u2, hh]) ?_
  refine g_iconst (v := 1) k44_15 ic_1 ?_
  refine g_iadd k44_16 ?_
  refine g_top (y := nI (h + 1)) (nI_1 h) ?_
  refine g_puti k44_17 (by decide) (hA.1) (by decide) ?_
  refine g_aload_n k44_20 rfl ?_
  refine g_dup k44_21 rfl ?_
  refine g_getv (v := nI r) k44_22 (hA.1) (by decide) (by simp [en_u2, hr]) ?_
  refine g_iconst (v := 1) k44_25 ic_1 ?_
  refine g_iadd k44_26 ?_
  refine g_top (y := nI (r + 1)) (nI_1 r) ?_
  refine g_puti k44_27 (by decide) (hA.1) (by decide) ?_
  exact g_retv k44_30 rfl (h1)

set_option maxRecDepth 20000 in
set_option maxHeartbeats 4000000 in
theorem c45 {LS : Nat} {rm : Nat → Nat → Option Nat} {im : Nat → Nat → Int32} {P : Option Value → (Nat → Nat → Int32) → Prop} {a h : Nat} {x : Int32} (hA : isPr LS rm a) (hh : im a 4 = nI h) (hb : h ≤ 9) (h0 : h = 0 → P (some (.int 0)) im) (h1 : 0 < h → P (some (.int (if (im (a + 3) (h - 1) >>> (x &&& 31)) &&& 1 = 1 then 1 else 0))) im) : Gm LS rm 45 0 (en_in 45 [.ref a, .int x]) [] im P := by
  show Gm LS rm 45 0 [.ref (a), .int (x)] [] im P
  refine g_aload_n k45_0 rfl ?_
  refine g_getv (v := nI h) k45_1 (hA.1) (by decide) (hh) ?_
  refine g_if_le k45_4 (fun g => ?_) (fun g => ?_)
  · have hz : h = 0 := by
      have : ¬ 0 < h := fun z => nI_nle (n := h) z (by omega) g
      omega
    refine g_iconst (v := 0) k45_30 ic_0 ?_
    exact g_retz k45_31 rfl (by decide) (h0 hz)
  · have hz : 0 < h := by
      apply Nat.pos_of_ne_zero
      intro z
      subst z
      exact g (by decide)
    refine g_aload_n k45_7 rfl ?_
    refine g_getr k45_8 (hA.1) (by decide) (hA.2.2.2.1) ?_
    refine g_aload_n k45_11 rfl ?_
    refine g_getv (v := nI h) k45_12 (hA.1) (by decide) (hh) ?_
    refine g_iconst (v := 1) k45_15 ic_1 ?_
    refine g_isub k45_16 ?_
    refine g_top (y := nI (h - 1)) (nI_m1 hz) ?_
    refine g_ialv k45_17 (hA.2.2.2.2.2.2) (by omega) (by decide) (rfl) ?_
    refine g_iload_n k45_18 rfl ?_
    refine g_ishr k45_19 ?_
    refine g_iconst (v := 1) k45_20 ic_1 ?_
    refine g_iand k45_21 ?_
    refine g_iconst (v := 1) k45_22 ic_1 ?_
    have h1 := h1 hz
    refine g_icmp_ne k45_23 (fun e => ?_) (fun e => ?_)
    · rw [if_neg e] at h1
      refine g_iconst (v := 0) k45_30 ic_0 ?_
      exact g_retz k45_31 rfl (by decide) (h1)
    · rw [if_pos e] at h1
      refine g_iconst (v := 1) k45_26 ic_1 ?_
      refine g_goto k45_27 ?_
      exact g_retz k45_31 rfl (by decide) (h1)

set_option maxRecDepth 20000 in
set_option maxHeartbeats 4000000 in
theorem c54 {LS : Nat} {rm : Nat → Nat → Option Nat} {im : Nat → Nat → Int32} {P : Option Value → (Nat → Nat → Int32) → Prop} {a d : Nat} {x : Int32} (hA : isRn LS rm a) (hd : im a 2 = nI d) (hb : d ≤ 8) (h0 : d = 8 → P none (en_u2 im a 4 1)) (h1 : d < 8 → P none (en_u2 (en_u2 im (a + 1) d x) a 2 (nI (d + 1)))) : Gm LS rm 54 0 (en_in 54 [.ref a, .int x]) [] im P := by
  show Gm LS rm 54 0 [.ref (a), .int (x)] [] im P
  refine g_aload_n k54_0 rfl ?_
  refine g_getv (v := nI d) k54_1 (hA.1) (by decide) (hd) ?_
  refine g_bipush (v := 8) k54_4 bp_8 ?_
  refine g_icmp_lt k54_6 (fun h => ?_) (fun h => ?_)
  · have hlt : d < 8 := (nI_ltI (by omega) (by decide)).mp h
    refine g_aload_n k54_15 rfl ?_
    refine g_getr k54_16 (hA.1) (by decide) (hA.2.1) ?_
    refine g_aload_n k54_19 rfl ?_
    refine g_getv (v := nI d) k54_20 (hA.1) (by decide) (hd) ?_
    refine g_iload_n k54_23 rfl ?_
    refine g_iasv k54_24 (hA.2.2.2.1) (hlt) (by decide) ?_
    refine g_aload_n k54_25 rfl ?_
    refine g_dup k54_26 rfl ?_
    refine g_getv (v := nI d) k54_27 (hA.1) (by decide) (by simp [en_u2, hd]) ?_
    refine g_iconst (v := 1) k54_30 ic_1 ?_
    refine g_iadd k54_31 ?_
    refine g_top (y := nI (d + 1)) (nI_1 d) ?_
    refine g_puti k54_32 (by decide) (hA.1) (by decide) ?_
    exact g_retv k54_35 rfl (h1 hlt)
  · refine g_aload_n k54_9 rfl ?_
    refine g_iconst (v := 1) k54_10 ic_1 ?_
    refine g_putz k54_11 (by decide) (hA.1) (by decide) (by decide) ?_
    exact g_retv k54_14 rfl (h0 (by have : ¬ d < 8 := fun z => h ((nI_ltI (b := 8) (by omega) (by decide)).mpr z); omega))

set_option maxRecDepth 20000 in
set_option maxHeartbeats 4000000 in
theorem c55 {LS : Nat} {rm : Nat → Nat → Option Nat} {im : Nat → Nat → Int32} {P : Option Value → (Nat → Nat → Int32) → Prop} {a d : Nat} (hA : isRn LS rm a) (hd : im a 2 = nI d) (hb : d ≤ 8) (h0 : d = 0 → P (some (.int 0)) (en_u2 im a 4 1)) (h1 : 0 < d → P (some (.int (im (a + 1) (d - 1)))) (en_u2 im a 2 (nI (d - 1)))) : Gm LS rm 55 0 (en_in 55 [.ref a]) [] im P := by
  show Gm LS rm 55 0 [.ref (a)] [] im P
  refine g_aload_n k55_0 rfl ?_
  refine g_getv (v := nI d) k55_1 (hA.1) (by decide) (hd) ?_
  refine g_if_gt k55_4 (fun h => ?_) (fun h => ?_)
  · have hlt : 0 < d := by
      apply Nat.pos_of_ne_zero
      intro z
      subst z
      exact absurd h (by decide)
    refine g_aload_n k55_14 rfl ?_
    refine g_dup k55_15 rfl ?_
    refine g_getv (v := nI d) k55_16 (hA.1) (by decide) (hd) ?_
    refine g_iconst (v := 1) k55_19 ic_1 ?_
    refine g_isub k55_20 ?_
    refine g_top (y := nI (d - 1)) (nI_m1 hlt) ?_
    refine g_puti k55_21 (by decide) (hA.1) (by decide) ?_
    refine g_aload_n k55_24 rfl ?_
    refine g_getr k55_25 (hA.1) (by decide) (hA.2.1) ?_
    refine g_aload_n k55_28 rfl ?_
    refine g_getv (v := nI (d - 1)) k55_29 (hA.1) (by decide) (u2_eq) ?_
    refine g_ialv (v := im (a + 1) (d - 1)) k55_32 (hA.2.2.2.1) (by omega) (by decide) (by simp [en_u2]) ?_
    exact g_reti k55_33 rfl (h1 hlt)
  · refine g_aload_n k55_7 rfl ?_
    refine g_iconst (v := 1) k55_8 ic_1 ?_
    refine g_putz k55_9 (by decide) (hA.1) (by decide) (by decide) ?_
    refine g_iconst (v := 0) k55_12 ic_0 ?_
    exact g_reti k55_13 rfl (h0 (by apply Decidable.byContradiction; intro z; exact h (nI_lt (a := 0) (b := d) (by omega) (by omega))))

set_option maxRecDepth 20000 in
set_option maxHeartbeats 4000000 in
theorem c61 {LS : Nat} {rm : Nat → Nat → Option Nat} {im : Nat → Nat → Int32} {P : Option Value → (Nat → Nat → Int32) → Prop} {a r k : Nat} {v : Int32} (hA : isRs LS rm a) (hb : 16 * r + k < 80) (h1 : P none (en_u2 im (a + 1) (16 * r + k) v)) : Gm LS rm 61 0 (en_in 61 [.ref a, .int (nI r), .int (nI k), .int v]) [] im P := by
  show Gm LS rm 61 0 [.ref (a), .int (nI r), .int (nI k), .int (v)] [] im P
  refine g_aload_n k61_0 rfl ?_
  refine g_getr k61_1 (hA.1) (by decide) (hA.2.1) ?_
  refine g_iload_n k61_4 rfl ?_
  refine g_bipush (v := 16) k61_5 bp_16 ?_
  refine g_imul k61_7 ?_
  refine g_iload_n k61_8 rfl ?_
  refine g_iadd k61_9 ?_
  refine g_top (y := nI (16 * r + k)) (by rw [show (16 : Int32) = nI 16 from rfl, pk_mul, nI_add, Nat.mul_comm]) ?_
  refine g_iload_n k61_10 rfl ?_
  refine g_iasv k61_11 (hA.2.2) (hb) (by decide) ?_
  exact g_retv k61_12 rfl (h1)

set_option maxRecDepth 20000 in
set_option maxHeartbeats 4000000 in
theorem c62 {LS : Nat} {rm : Nat → Nat → Option Nat} {im : Nat → Nat → Int32} {P : Option Value → (Nat → Nat → Int32) → Prop} {a k : Nat} {v w : Int32} (hA : isRs LS rm a) (hb : k < 16) (h1 : P none (en_u2 (en_u2 im (a + 1) (48 + k) v) (a + 1) (64 + k) w)) : Gm LS rm 62 0 (en_in 62 [.ref a, .int (nI k), .int v, .int w]) [] im P := by
  show Gm LS rm 62 0 [.ref (a), .int (nI k), .int (v), .int (w)] [] im P
  refine g_aload_n k62_0 rfl ?_
  refine g_getr k62_1 (hA.1) (by decide) (hA.2.1) ?_
  refine g_bipush (v := 48) k62_4 bp_48 ?_
  refine g_iload_n k62_6 rfl ?_
  refine g_iadd k62_7 ?_
  refine g_top (y := nI (48 + k)) (by rw [show (48 : Int32) = nI 48 from rfl, nI_add]) ?_
  refine g_iload_n k62_8 rfl ?_
  refine g_iasv k62_9 (hA.2.2) (by omega) (by decide) ?_
  refine g_aload_n k62_10 rfl ?_
  refine g_getr k62_11 (hA.1) (by decide) (hA.2.1) ?_
  refine g_bipush (v := 64) k62_14 bp_64 ?_
  refine g_iload_n k62_16 rfl ?_
  refine g_iadd k62_17 ?_
  refine g_top (y := nI (64 + k)) (by rw [show (64 : Int32) = nI 64 from rfl, nI_add]) ?_
  refine g_iload_n k62_18 rfl ?_
  refine g_iasv k62_19 (hA.2.2) (by omega) (by decide) ?_
  exact g_retv k62_20 rfl (h1)

set_option maxRecDepth 20000 in
set_option maxHeartbeats 4000000 in
theorem c78 {LS : Nat} {rm : Nat → Nat → Option Nat} {im : Nat → Nat → Int32} {P : Option Value → (Nat → Nat → Int32) → Prop} {a n : Nat} {x : Int32} (hA : isBL LS rm a) (hn : im a 1 = nI n) (hb : n < 40) (h1 : P none (en_u2 (en_u2 im (a + 1) n x) a 1 (nI (n + 1)))) : Gm LS rm 78 0 (en_in 78 [.ref a, .int x]) [] im P := by
  show Gm LS rm 78 0 [.ref (a), .int (x)] [] im P
  refine g_aload_n k78_0 rfl ?_
  refine g_getv (v := nI n) k78_1 (hA.1) (by decide) (hn) ?_
  refine g_bipush (v := 40) k78_4 bp_40 ?_
  refine g_icmp_ge k78_6 (fun h => ?_) (fun h => ?_)
  · exact absurd h (nI_ge (b := 40) hb (by decide))
  · refine g_aload_n k78_9 rfl ?_
    refine g_getr k78_10 (hA.1) (by decide) (hA.2.1) ?_
    refine g_aload_n k78_13 rfl ?_
    refine g_getv (v := nI n) k78_14 (hA.1) (by decide) (hn) ?_
    refine g_iload_n k78_17 rfl ?_
    refine g_iasv k78_18 (hA.2.2) (hb) (by decide) ?_
    refine g_aload_n k78_19 rfl ?_
    refine g_dup k78_20 rfl ?_
    refine g_getv (v := nI n) k78_21 (hA.1) (by decide) (by simp [en_u2, hn]) ?_
    refine g_iconst (v := 1) k78_24 ic_1 ?_
    refine g_iadd k78_25 ?_
    refine g_top (y := nI (n + 1)) (nI_1 n) ?_
    refine g_puti k78_26 (by decide) (hA.1) (by decide) ?_
    exact g_retv k78_29 rfl (h1)

set_option maxRecDepth 20000 in
set_option maxHeartbeats 4000000 in
theorem c71 {LS : Nat} {rm : Nat → Nat → Option Nat} {im : Nat → Nat → Int32} {P : Option Value → (Nat → Nat → Int32) → Prop} {a : Nat} {x : Int32} (hA : isTx LS rm a) (h1 : P (some (.int (if (im a 2 >>> (x &&& 31)) &&& 1 = 1 then 1 else 0))) im) : Gm LS rm 71 0 (en_in 71 [.ref a, .int x]) [] im P := by
  show Gm LS rm 71 0 [.ref (a), .int (x)] [] im P
  refine g_aload_n k71_0 rfl ?_
  refine g_geti k71_1 (hA.1) (by decide) ?_
  refine g_iload_n k71_4 rfl ?_
  refine g_ishr k71_5 ?_
  refine g_iconst (v := 1) k71_6 ic_1 ?_
  refine g_iand k71_7 ?_
  refine g_iconst (v := 1) k71_8 ic_1 ?_
  refine g_icmp_ne k71_9 (fun e => ?_) (fun e => ?_)
  · rw [if_neg e] at h1
    refine g_iconst (v := 0) k71_16 ic_0 ?_
    exact g_retz k71_17 rfl (by decide) (h1)
  · rw [if_pos e] at h1
    refine g_iconst (v := 1) k71_12 ic_1 ?_
    refine g_goto k71_13 ?_
    exact g_retz k71_17 rfl (by decide) (h1)

set_option maxRecDepth 20000 in
set_option maxHeartbeats 4000000 in
theorem c72 {LS : Nat} {rm : Nat → Nat → Option Nat} {im : Nat → Nat → Int32} {P : Option Value → (Nat → Nat → Int32) → Prop} {a : Nat} (hA : isTx LS rm a) (h1 : P (some (.int (if im a 2 = 0 then 0 else 1))) im) : Gm LS rm 72 0 (en_in 72 [.ref a]) [] im P := by
  show Gm LS rm 72 0 [.ref (a)] [] im P
  refine g_aload_n k72_0 rfl ?_
  refine g_geti k72_1 (hA.1) (by decide) ?_
  refine g_if_eq k72_4 (fun e => ?_) (fun e => ?_)
  · rw [if_pos e] at h1
    refine g_iconst (v := 0) k72_11 ic_0 ?_
    exact g_retz k72_12 rfl (by decide) (h1)
  · rw [if_neg e] at h1
    refine g_iconst (v := 1) k72_7 ic_1 ?_
    refine g_goto k72_8 ?_
    exact g_retz k72_12 rfl (by decide) (h1)
end
section
theorem ur_u2 {α : Type} {f : Nat → Nat → α} {b i : Nat} {g : Nat → α} {v : α} : en_u2 (en_ur f b g) b i v = en_ur f b (fun k => if k = i then v else g k) := by
  funext c k
  by_cases h : c = b
  · subst h; simp [en_u2, en_ur]
  · simp [en_u2, en_ur, h]
theorem ur_self {α : Type} {f : Nat → Nat → α} {b : Nat} : en_ur f b (f b) = f := by
  funext c
  by_cases h : c = b
  · subst h; simp [en_ur]
  · simp [en_ur, h]
theorem ur_eq {α : Type} {f : Nat → Nat → α} {b : Nat} {g : Nat → α} : en_ur f b g b = g := by simp [en_ur]
theorem ur_ne {α : Type} {f : Nat → Nat → α} {b c : Nat} {g : Nat → α} (h : c ≠ b) : en_ur f b g c = f c := by simp [en_ur, h]
def rs_clr (i : Nat) (f : Nat → Int32) : Nat → Int32 := fun k => if k < i then (if k < 48 then -1 else 0) else f k
theorem rs_clr_0 {f : Nat → Int32} : rs_clr 0 f = f := by funext k; simp [rs_clr]
theorem rs_clr_s {i : Nat} {f : Nat → Int32} {v : Int32} (hv : v = if i < 48 then -1 else 0) : (fun k => if k = i then v else rs_clr i f k) = rs_clr (i + 1) f := by
  funext k
  unfold rs_clr
  by_cases h : k = i
  · subst h; simp [hv]
  · rw [if_neg h]
    by_cases h2 : k < i
    · rw [if_pos h2, if_pos (by omega : k < i + 1)]
    · rw [if_neg h2, if_neg (by omega : ¬ k < i + 1)]
set_option maxRecDepth 20000 in
set_option maxHeartbeats 4000000 in
theorem l58 {LS : Nat} {rm : Nat → Nat → Option Nat} {im : Nat → Nat → Int32} {P : Option Value → (Nat → Nat → Int32) → Prop} {a : Nat} (hA : isRs LS rm a) (h1 : P none (en_u2 (en_ur im (a + 1) (rs_clr 80 (im (a + 1)))) a 1 0)) : ∀ (n i : Nat), i + n = 80 → Gm LS rm 58 2 [.ref (a), .int (nI i)] [] (en_ur im (a + 1) (rs_clr i (im (a + 1)))) P := by
  intro n
  induction n with
  | zero =>
    intro i hi
    have hie : i = 80 := by omega
    subst hie
    refine g_iload_n k58_2 rfl ?_
    refine g_bipush (v := 80) k58_3 bp_80 ?_
    refine g_icmp_ge k58_5 (fun _ => ?_) (fun h => absurd (nI_le (Nat.le_refl _) (by decide)) h)
    refine g_aload_n k58_31 rfl ?_
    refine g_iconst (v := 0) k58_32 ic_0 ?_
    refine g_puti k58_33 (by decide) (hA.1) (by decide) ?_
    exact g_retv k58_36 rfl (h1)
  | succ n ih =>
    intro i hi
    have hlt : i < 80 := by omega
    refine g_iload_n k58_2 rfl ?_
    refine g_bipush (v := 80) k58_3 bp_80 ?_
    refine g_icmp_ge k58_5 (fun h => absurd h (nI_ge hlt (by decide))) (fun _ => ?_)
    refine g_aload_n k58_8 rfl ?_
    refine g_getr k58_9 (hA.1) (by decide) (hA.2.1) ?_
    refine g_iload_n k58_12 rfl ?_
    refine g_iload_n k58_13 rfl ?_
    refine g_bipush (v := 48) k58_14 bp_48 ?_
    refine g_icmp_ge k58_16 (fun h => ?_) (fun h => ?_)
    · have h48 : ¬ i < 48 := fun z => nI_ge z (by decide) h
      refine g_iconst (v := 0) k58_23 ic_0 ?_
      refine g_iasv k58_24 (hA.2.2) (hlt) (by decide) ?_
      rw [ur_u2, rs_clr_s (by rw [if_neg h48])]
      refine g_iincv (y := nI (i + 1)) k58_25 rfl (by decide) (inc_1 i) rfl ?_
      refine g_goto k58_28 ?_
      exact ih (i + 1) (by omega)
    · have h48 : i < 48 := Nat.not_le.mp (fun z => h (nI_le z (by omega)))
      refine g_iconst (v := -1) k58_19 ic_m1 ?_
      refine g_goto k58_20 ?_
      refine g_iasv k58_24 (hA.2.2) (hlt) (by decide) ?_
      rw [ur_u2, rs_clr_s (by rw [if_pos h48])]
      refine g_iincv (y := nI (i + 1)) k58_25 rfl (by decide) (inc_1 i) rfl ?_
      refine g_goto k58_28 ?_
      exact ih (i + 1) (by omega)

set_option maxRecDepth 20000 in
set_option maxHeartbeats 4000000 in
theorem c58 {LS : Nat} {rm : Nat → Nat → Option Nat} {im : Nat → Nat → Int32} {P : Option Value → (Nat → Nat → Int32) → Prop} {a : Nat} (hA : isRs LS rm a) (h1 : P none (en_u2 (en_ur im (a + 1) (rs_clr 80 (im (a + 1)))) a 1 0)) : Gm LS rm 58 0 (en_in 58 [.ref a]) [] im P := by
  show Gm LS rm 58 0 [.ref (a), .long 0] [] im P
  refine g_iconst (v := 0) k58_0 ic_0 ?_
  refine g_istore_n k58_1 (by decide) rfl ?_
  have := l58 hA h1 80 0 (by omega)
  rw [rs_clr_0, ur_self] at this
  exact this

set_option maxRecDepth 20000 in
set_option maxHeartbeats 4000000 in
theorem l60 {LS : Nat} {rm : Nat → Nat → Option Nat} {im : Nat → Nat → Int32} {P : Option Value → (Nat → Nat → Int32) → Prop} {a b : Nat} (hA : isRs LS rm a) (hB : isRs LS rm b) (h1 : ((∀ k, k < 80 → im (a + 1) k = im (b + 1) k) ∧ im a 1 = im b 1) → P (some (.int 1)) im) (h0 : ¬ ((∀ k, k < 80 → im (a + 1) k = im (b + 1) k) ∧ im a 1 = im b 1) → P (some (.int 0)) im) : ∀ (n i : Nat), i + n = 80 → (∀ k, k < i → im (a + 1) k = im (b + 1) k) → Gm LS rm 60 2 [.ref (a), .ref (b), .int (nI i)] [] (im) P := by
  intro n
  induction n with
  | zero =>
    intro i hi hp
    have hie : i = 80 := by omega
    subst hie
    refine g_iload_n k60_2 rfl ?_
    refine g_bipush (v := 80) k60_3 bp_80 ?_
    refine g_icmp_ge k60_5 (fun _ => ?_) (fun h => absurd (nI_le (Nat.le_refl _) (by decide)) h)
    refine g_aload_n k60_31 rfl ?_
    refine g_geti k60_32 (hA.1) (by decide) ?_
    refine g_aload_n k60_35 rfl ?_
    refine g_geti k60_36 (hB.1) (by decide) ?_
    refine g_icmp_ne k60_39 (fun h => ?_) (fun h => ?_)
    · refine g_iconst (v := 0) k60_46 ic_0 ?_
      exact g_retz k60_47 rfl (by decide) (h0 (fun z => h z.2))
    · refine g_iconst (v := 1) k60_42 ic_1 ?_
      refine g_goto k60_43 ?_
      exact g_retz k60_47 rfl (by decide) (h1 ⟨hp, h⟩)
  | succ n ih =>
    intro i hi hp
    have hlt : i < 80 := by omega
    refine g_iload_n k60_2 rfl ?_
    refine g_bipush (v := 80) k60_3 bp_80 ?_
    refine g_icmp_ge k60_5 (fun h => absurd h (nI_ge hlt (by decide))) (fun _ => ?_)
    refine g_aload_n k60_8 rfl ?_
    refine g_getr k60_9 (hA.1) (by decide) (hA.2.1) ?_
    refine g_iload_n k60_12 rfl ?_
    refine g_ialv k60_13 (hA.2.2) (hlt) (by decide) (rfl) ?_
    refine g_aload_n k60_14 rfl ?_
    refine g_getr k60_15 (hB.1) (by decide) (hB.2.1) ?_
    refine g_iload_n k60_18 rfl ?_
    refine g_ialv k60_19 (hB.2.2) (hlt) (by decide) (rfl) ?_
    refine g_icmp_eq k60_20 (fun h => ?_) (fun h => ?_)
    · refine g_iincv (y := nI (i + 1)) k60_25 rfl (by decide) (inc_1 i) rfl ?_
      refine g_goto k60_28 ?_
      exact ih (i + 1) (by omega) (fun k hk => by by_cases z : k = i; subst z; exact h; exact hp k (by omega))
    · refine g_iconst (v := 0) k60_23 ic_0 ?_
      exact g_retz k60_24 rfl (by decide) (h0 (fun z => h (z.1 i hlt)))

set_option maxRecDepth 20000 in
set_option maxHeartbeats 4000000 in
theorem c60 {LS : Nat} {rm : Nat → Nat → Option Nat} {im : Nat → Nat → Int32} {P : Option Value → (Nat → Nat → Int32) → Prop} {a b : Nat} (hA : isRs LS rm a) (hB : isRs LS rm b) (h1 : ((∀ k, k < 80 → im (a + 1) k = im (b + 1) k) ∧ im a 1 = im b 1) → P (some (.int 1)) im) (h0 : ¬ ((∀ k, k < 80 → im (a + 1) k = im (b + 1) k) ∧ im a 1 = im b 1) → P (some (.int 0)) im) : Gm LS rm 60 0 (en_in 60 [.ref a, .ref b]) [] im P := by
  show Gm LS rm 60 0 [.ref (a), .ref (b), .long 0] [] im P
  refine g_iconst (v := 0) k60_0 ic_0 ?_
  refine g_istore_n k60_1 (by decide) rfl ?_
  exact l60 hA hB h1 h0 80 0 (by omega) (fun k hk => absurd hk (Nat.not_lt_zero k))

def cntN (f : Nat → Int32) (e : Int32) : Nat → Nat
  | 0 => 0
  | n + 1 => cntN f e n + (if f n = e then 0 else 1)
theorem cntN_le (f : Nat → Int32) (e : Int32) : ∀ n, cntN f e n ≤ n := by
  intro n
  induction n with
  | zero => exact Nat.le_refl _
  | succ n ih =>
    unfold cntN
    split <;> omega
set_option maxRecDepth 20000 in
set_option maxHeartbeats 4000000 in
theorem l65 {LS : Nat} {rm : Nat → Nat → Option Nat} {im : Nat → Nat → Int32} {P : Option Value → (Nat → Nat → Int32) → Prop} {a r : Nat} {e : Int32} (hA : isRs LS rm a) (hr : r < 5) (h1 : P (some (.int (nI (cntN (fun k => im (a + 1) (16 * r + k)) e 16)))) im) : ∀ (n i : Nat), i + n = 16 → Gm LS rm 65 5 [.ref (a), .int (nI r), .int (e), .int (nI (cntN (fun k => im (a + 1) (16 * r + k)) e i)), .int (nI i)] [] (im) P := by
  intro n
  induction n with
  | zero =>
    intro i hi
    have hie : i = 16 := by omega
    subst hie
    refine g_iload k65_5 rfl ?_
    refine g_bipush (v := 16) k65_7 bp_16 ?_
    refine g_icmp_ge k65_9 (fun _ => ?_) (fun h => absurd (nI_le (Nat.le_refl _) (by decide)) h)
    refine g_iload_n k65_37 rfl ?_
    exact g_reti k65_38 rfl (h1)
  | succ n ih =>
    intro i hi
    have hlt : i < 16 := by omega
    refine g_iload k65_5 rfl ?_
    refine g_bipush (v := 16) k65_7 bp_16 ?_
    refine g_icmp_ge k65_9 (fun h => absurd h (nI_ge hlt (by decide))) (fun _ => ?_)
    refine g_aload_n k65_12 rfl ?_
    refine g_getr k65_13 (hA.1) (by decide) (hA.2.1) ?_
    refine g_iload_n k65_16 rfl ?_
    refine g_bipush (v := 16) k65_17 bp_16 ?_
    refine g_imul k65_19 ?_
    refine g_iload k65_20 rfl ?_
    refine g_iadd k65_22 ?_
    refine g_top (y := nI (16 * r + i)) (by rw [show (16 : Int32) = nI 16 from rfl, pk_mul, nI_add, Nat.mul_comm]) ?_
    refine g_ialv k65_23 (hA.2.2) (by omega) (by decide) (rfl) ?_
    refine g_iload_n k65_24 rfl ?_
    refine g_icmp_eq k65_25 (fun h => ?_) (fun h => ?_)
    · refine g_iincv (y := nI (i + 1)) k65_31 rfl (by decide) (inc_1 i) rfl ?_
      refine g_goto k65_34 ?_
      have e1 : cntN (fun k => im (a + 1) (16 * r + k)) e (i + 1) = cntN (fun k => im (a + 1) (16 * r + k)) e i := by
        show _ + (if im (a + 1) (16 * r + i) = e then 0 else 1) = _
        rw [if_pos h]
        rfl
      have := ih (i + 1) (by omega)
      rw [e1] at this
      exact this
    · refine g_iincv (y := nI (cntN (fun k => im (a + 1) (16 * r + k)) e i + 1)) k65_28 rfl (by decide) (inc_1 _) rfl ?_
      refine g_iincv (y := nI (i + 1)) k65_31 rfl (by decide) (inc_1 i) rfl ?_
      refine g_goto k65_34 ?_
      have e1 : cntN (fun k => im (a + 1) (16 * r + k)) e (i + 1) = cntN (fun k => im (a + 1) (16 * r + k)) e i + 1 := by
        show _ + (if im (a + 1) (16 * r + i) = e then 0 else 1) = _
        rw [if_neg h]
      have := ih (i + 1) (by omega)
      rw [e1] at this
      exact this

set_option maxRecDepth 20000 in
set_option maxHeartbeats 4000000 in
theorem c65 {LS : Nat} {rm : Nat → Nat → Option Nat} {im : Nat → Nat → Int32} {P : Option Value → (Nat → Nat → Int32) → Prop} {a r : Nat} {e : Int32} (hA : isRs LS rm a) (hr : r < 5) (h1 : P (some (.int (nI (cntN (fun k => im (a + 1) (16 * r + k)) e 16)))) im) : Gm LS rm 65 0 (en_in 65 [.ref a, .int (nI r), .int e]) [] im P := by
  show Gm LS rm 65 0 [.ref (a), .int (nI r), .int (e), .long 0, .long 0] [] im P
  refine g_iconst (v := 0) k65_0 ic_0 ?_
  refine g_istore_n k65_1 (by decide) rfl ?_
  refine g_iconst (v := 0) k65_2 ic_0 ?_
  refine g_istore k65_3 (by decide) rfl ?_
  exact l65 hA hr h1 16 0 (by omega)

set_option maxRecDepth 20000 in
set_option maxHeartbeats 4000000 in
theorem c63 {LS : Nat} {rm : Nat → Nat → Option Nat} {im : Nat → Nat → Int32} {P : Option Value → (Nat → Nat → Int32) → Prop} {a : Nat} (hA : isRs LS rm a) (h1 : P (some (.int (nI (cntN (fun k => im (a + 1) (16 * 0 + k)) (-1) 16)))) im) : Gm LS rm 63 0 (en_in 63 [.ref a]) [] im P := by
  show Gm LS rm 63 0 [.ref (a)] [] im P
  refine g_aload_n k63_0 rfl ?_
  refine g_iconst (v := 0) k63_1 ic_0 ?_
  refine g_iconst (v := -1) k63_2 ic_m1 ?_
  refine g_inv2 k63_3 (hA.1) rfl rfl (by decide) (Nat.le_of_ble_eq_true rfl) (c65 (r := 0) hA (by decide) ?_)
  exact g_reti k63_6 rfl (h1)

set_option maxRecDepth 20000 in
set_option maxHeartbeats 4000000 in
theorem c64 {LS : Nat} {rm : Nat → Nat → Option Nat} {im : Nat → Nat → Int32} {P : Option Value → (Nat → Nat → Int32) → Prop} {a : Nat} (hA : isRs LS rm a) (h1 : P (some (.int (nI (cntN (fun k => im (a + 1) (16 * 3 + k)) (0) 16)))) im) : Gm LS rm 64 0 (en_in 64 [.ref a]) [] im P := by
  show Gm LS rm 64 0 [.ref (a)] [] im P
  refine g_aload_n k64_0 rfl ?_
  refine g_iconst (v := 3) k64_1 ic_3 ?_
  refine g_iconst (v := 0) k64_2 ic_0 ?_
  refine g_inv2 k64_3 (hA.1) rfl rfl (by decide) (Nat.le_of_ble_eq_true rfl) (c65 (r := 3) hA (by decide) ?_)
  exact g_reti k64_6 rfl (h1)

set_option maxRecDepth 20000 in
set_option maxHeartbeats 4000000 in
theorem l68 {LS : Nat} {rm : Nat → Nat → Option Nat} {im : Nat → Nat → Int32} {P : Option Value → (Nat → Nat → Int32) → Prop} {a s r : Nat} (hA : isRs LS rm a) (hS : isWS LS rm s) (hr : r < 5) (h1 : (∀ k, k < 16 → im (a + 1) (16 * r + k) = -1 ∨ im (a + 1) (16 * r + k) = im (s + 1) k) → P (some (.int 1)) im) (h0 : ¬ (∀ k, k < 16 → im (a + 1) (16 * r + k) = -1 ∨ im (a + 1) (16 * r + k) = im (s + 1) k) → P (some (.int 0)) im) : ∀ (n i : Nat), i + n = 16 → ∀ (v : Value), (∀ k, k < i → im (a + 1) (16 * r + k) = -1 ∨ im (a + 1) (16 * r + k) = im (s + 1) k) → Gm LS rm 68 2 [.ref (a), .int (nI r), .ref (s), .int (nI i), v] [] (im) P := by
  intro n
  induction n with
  | zero =>
    intro i hi v hp
    have hie : i = 16 := by omega
    subst hie
    refine g_iload_n k68_2 rfl ?_
    refine g_bipush (v := 16) k68_3 bp_16 ?_
    refine g_icmp_ge k68_5 (fun _ => ?_) (fun h => absurd (nI_le (Nat.le_refl _) (by decide)) h)
    refine g_iconst (v := 1) k68_46 ic_1 ?_
    exact g_retz k68_47 rfl (by decide) (h1 hp)
  | succ n ih =>
    intro i hi v hp
    have hlt : i < 16 := by omega
    refine g_iload_n k68_2 rfl ?_
    refine g_bipush (v := 16) k68_3 bp_16 ?_
    refine g_icmp_ge k68_5 (fun h => absurd h (nI_ge hlt (by decide))) (fun _ => ?_)
    refine g_aload_n k68_8 rfl ?_
    refine g_getr k68_9 (hA.1) (by decide) (hA.2.1) ?_
    refine g_iload_n k68_12 rfl ?_
    refine g_bipush (v := 16) k68_13 bp_16 ?_
    refine g_imul k68_15 ?_
    refine g_iload_n k68_16 rfl ?_
    refine g_iadd k68_17 ?_
    refine g_top (y := nI (16 * r + i)) (by rw [show (16 : Int32) = nI 16 from rfl, pk_mul, nI_add, Nat.mul_comm]) ?_
    refine g_ialv k68_18 (hA.2.2) (by omega) (by decide) (rfl) ?_
    refine g_istore k68_19 (by decide) rfl ?_
    refine g_iload k68_21 rfl ?_
    refine g_iconst (v := -1) k68_23 ic_m1 ?_
    refine g_icmp_eq k68_24 (fun h => ?_) (fun h => ?_)
    · refine g_iincv (y := nI (i + 1)) k68_40 rfl (by decide) (inc_1 i) rfl ?_
      refine g_goto k68_43 ?_
      exact ih (i + 1) (by omega) _ (fun k hk => by by_cases z : k = i; subst z; exact Or.inl h; exact hp k (by omega))
    · refine g_iload k68_27 rfl ?_
      refine g_aload_n k68_29 rfl ?_
      refine g_getr k68_30 (hS.1) (by decide) (hS.2.1) ?_
      refine g_iload_n k68_33 rfl ?_
      refine g_ialv k68_34 (hS.2.2.2.1) (hlt) (by decide) (rfl) ?_
      refine g_icmp_eq k68_35 (fun g => ?_) (fun g => ?_)
      · refine g_iincv (y := nI (i + 1)) k68_40 rfl (by decide) (inc_1 i) rfl ?_
        refine g_goto k68_43 ?_
        exact ih (i + 1) (by omega) _ (fun k hk => by by_cases z : k = i; subst z; exact Or.inr g; exact hp k (by omega))
      · refine g_iconst (v := 0) k68_38 ic_0 ?_
        exact g_retz k68_39 rfl (by decide) (h0 (fun z => (z i hlt).elim h g))

set_option maxRecDepth 20000 in
set_option maxHeartbeats 4000000 in
theorem c68 {LS : Nat} {rm : Nat → Nat → Option Nat} {im : Nat → Nat → Int32} {P : Option Value → (Nat → Nat → Int32) → Prop} {a s r : Nat} (hA : isRs LS rm a) (hS : isWS LS rm s) (hr : r < 5) (h1 : (∀ k, k < 16 → im (a + 1) (16 * r + k) = -1 ∨ im (a + 1) (16 * r + k) = im (s + 1) k) → P (some (.int 1)) im) (h0 : ¬ (∀ k, k < 16 → im (a + 1) (16 * r + k) = -1 ∨ im (a + 1) (16 * r + k) = im (s + 1) k) → P (some (.int 0)) im) : Gm LS rm 68 0 (en_in 68 [.ref a, .int (nI r), .ref s]) [] im P := by
  show Gm LS rm 68 0 [.ref (a), .int (nI r), .ref (s), .long 0, .long 0] [] im P
  refine g_iconst (v := 0) k68_0 ic_0 ?_
  refine g_istore_n k68_1 (by decide) rfl ?_
  exact l68 hA hS hr h1 h0 16 0 (by omega) _ (fun k hk => absurd hk (Nat.not_lt_zero k))
end
section
def isL0 (LS : Nat) (rm : Nat → Nat → Option Nat) : Prop := (SH LS)[1]? = some (0, 12) ∧ rm 1 0 = some 2 ∧ rm 1 1 = some 3 ∧ rm 1 3 = some 4 ∧ rm 1 5 = some 5 ∧ rm 1 7 = some 6 ∧ rm 1 9 = some 7 ∧ rm 1 10 = some 9 ∧ rm 1 11 = some 10 ∧ (SH LS)[2]? = some (100 + (0 + 2), 4) ∧ (SH LS)[3]? = some (100 + (1 + 2), 60) ∧ (SH LS)[4]? = some (100, 20) ∧ (SH LS)[5]? = some (100 + (2 + 2), 60) ∧ (SH LS)[6]? = some (100 + (3 + 2), 3) ∧ isBL LS rm 7 ∧ (SH LS)[9]? = some (100 + (4 + 2), 4) ∧ isRn LS rm 10
def isLd (LS : Nat) (rm : Nat → Nat → Option Nat) : Prop := isL0 LS rm ∧ (∀ p, p < 4 → rm 2 p = some (4 * p + 14) ∧ isPr LS rm (4 * p + 14)) ∧ (∀ p, p < 60 → rm 3 p = some (3 * p + 30) ∧ isTx LS rm (3 * p + 30)) ∧ (∀ p, p < 60 → rm 5 p = some (2 * p + 210) ∧ isBk LS rm (2 * p + 210)) ∧ (∀ p, p < 3 → rm 6 p = some (3 * p + 330) ∧ isOr LS rm (3 * p + 330)) ∧ (∀ p, p < 4 → rm 9 p = some (8 * p + 339) ∧ isPe LS rm (8 * p + 339))
theorem w_out {n q : Nat} (hn : n < 2 ^ 31) (hq : q < n) {x : Int32} (h : x < 0 ∨ nI n ≤ x) : x ≠ nI q := by
  intro e
  subst e
  rcases h with h | h
  · exact nI_pos (by omega) h
  · exact nI_ge hq hn h
set_option maxRecDepth 20000 in
set_option maxHeartbeats 4000000 in
theorem c20 {LS : Nat} {rm : Nat → Nat → Option Nat} {im : Nat → Nat → Int32} {P : Option Value → (Nat → Nat → Int32) → Prop} {x : Int32} (hM : isLd LS rm) (h1 : ∀ p, p < 4 → x = nI p → im (8 * p + 339) 0 ≠ 0 → P (some (.int 1)) im) (h0 : (∀ p, p < 4 → x = nI p → im (8 * p + 339) 0 = 0) → P (some (.int 0)) im) : Gm LS rm 20 0 (en_in 20 [.ref 1, .int x]) [] im P := by
  show Gm LS rm 20 0 [.ref (1), .int (x)] [] im P
  refine g_iload_n k20_0 rfl ?_
  refine g_iconst (v := 4) k20_1 ic_4 ?_
  refine g_invS2 k20_2 rfl rfl (by decide) (Nat.le_of_ble_eq_true rfl) (c19n 4 (by decide) (fun q hq e => ?_) (fun h => ?_))
  · subst e
    refine g_if_eq k20_5 (fun h => absurd h (by decide)) (fun _ => ?_)
    refine g_aload_n k20_8 rfl ?_
    refine g_getr k20_9 (hM.1.1) (by decide) (hM.1.2.2.2.2.2.2.2.1) ?_
    refine g_iload_n k20_12 rfl ?_
    refine g_aalv (t := 4) k20_13 (hM.1.2.2.2.2.2.2.2.2.2.2.2.2.2.2.2.1) ⟨_, rfl⟩ (hq) (by decide) ((hM.2.2.2.2.2 q (hq)).1) ?_
    refine g_geti k20_14 ((hM.2.2.2.2.2 q (hq)).2.1) (by decide) ?_
    refine g_if_eq k20_17 (fun h => ?_) (fun h => ?_)
    · refine g_iconst (v := 0) k20_24 ic_0 ?_
      exact g_retz k20_25 rfl (by decide) (h0 (fun p hp e => by rw [← (nI_eq (by omega) (by omega)).mp e]; exact h))
    · refine g_iconst (v := 1) k20_20 ic_1 ?_
      refine g_goto k20_21 ?_
      exact g_retz k20_25 rfl (by decide) (h1 q hq rfl h)
  · refine g_if_eq k20_5 (fun _ => ?_) (fun h => absurd (by decide) h)
    refine g_iconst (v := 0) k20_24 ic_0 ?_
    exact g_retz k20_25 rfl (by decide) (h0 (fun p hp e => absurd e (w_out (by decide) hp h)))

set_option maxRecDepth 20000 in
set_option maxHeartbeats 4000000 in
theorem c21 {LS : Nat} {rm : Nat → Nat → Option Nat} {im : Nat → Nat → Int32} {P : Option Value → (Nat → Nat → Int32) → Prop} {x : Int32} (hM : isLd LS rm) (h1 : ∀ o, o < 3 → x = nI o → im 1 8 = nI o → P (some (.int 1)) im) (h0 : (∀ o, o < 3 → x = nI o → im 1 8 ≠ nI o) → P (some (.int 0)) im) : Gm LS rm 21 0 (en_in 21 [.ref 1, .int x]) [] im P := by
  show Gm LS rm 21 0 [.ref (1), .int (x)] [] im P
  refine g_iload_n k21_0 rfl ?_
  refine g_iconst (v := 3) k21_1 ic_3 ?_
  refine g_invS2 k21_2 rfl rfl (by decide) (Nat.le_of_ble_eq_true rfl) (c19n 3 (by decide) (fun q hq e => ?_) (fun h => ?_))
  · subst e
    refine g_if_eq k21_5 (fun h => absurd h (by decide)) (fun _ => ?_)
    refine g_iload_n k21_8 rfl ?_
    refine g_aload_n k21_9 rfl ?_
    refine g_geti k21_10 (hM.1.1) (by decide) ?_
    refine g_icmp_ne k21_13 (fun h => ?_) (fun h => ?_)
    · refine g_iconst (v := 0) k21_20 ic_0 ?_
      exact g_retz k21_21 rfl (by decide) (h0 (fun o ho e => by rw [← (nI_eq (by omega) (by omega)).mp e]; exact fun z => h z.symm))
    · refine g_iconst (v := 1) k21_16 ic_1 ?_
      refine g_goto k21_17 ?_
      exact g_retz k21_21 rfl (by decide) (h1 q hq rfl h.symm)
  · refine g_if_eq k21_5 (fun _ => ?_) (fun h => absurd (by decide) h)
    refine g_iconst (v := 0) k21_20 ic_0 ?_
    exact g_retz k21_21 rfl (by decide) (h0 (fun p hp e => absurd e (w_out (by decide) hp h)))

set_option maxRecDepth 20000 in
set_option maxHeartbeats 4000000 in
theorem c35 {LS : Nat} {rm : Nat → Nat → Option Nat} {im : Nat → Nat → Int32} {P : Option Value → (Nat → Nat → Int32) → Prop} {b m : Nat} (hM : isLd LS rm) (hb : b < 40) (hv : im 8 b = nI m) (hm : m < 60) (h1 : P (some (.ref (2 * m + 210))) im) : Gm LS rm 35 0 (en_in 35 [.ref 1, .int (nI b)]) [] im P := by
  show Gm LS rm 35 0 [.ref (1), .int (nI b)] [] im P
  refine g_aload_n k35_0 rfl ?_
  refine g_getr k35_1 (hM.1.1) (by decide) (hM.1.2.2.2.2.1) ?_
  refine g_aload_n k35_4 rfl ?_
  refine g_getr k35_5 (hM.1.1) (by decide) (hM.1.2.2.2.2.2.2.1) ?_
  refine g_getr k35_8 (hM.1.2.2.2.2.2.2.2.2.2.2.2.2.2.2.1.1) (by decide) (hM.1.2.2.2.2.2.2.2.2.2.2.2.2.2.2.1.2.1) ?_
  refine g_iload_n k35_11 rfl ?_
  refine g_ialv (v := nI m) k35_12 (hM.1.2.2.2.2.2.2.2.2.2.2.2.2.2.2.1.2.2) (hb) (by decide) (hv) ?_
  refine g_aalv (t := 2) k35_13 (hM.1.2.2.2.2.2.2.2.2.2.2.2.2.1) ⟨_, rfl⟩ (hm) (by decide) ((hM.2.2.2.1 m (hm)).1) ?_
  exact g_reta k35_14 ⟨_, rfl⟩ (h1)

set_option maxRecDepth 20000 in
set_option maxHeartbeats 4000000 in
theorem c75 {LS : Nat} {rm : Nat → Nat → Option Nat} {im : Nat → Nat → Int32} {P : Option Value → (Nat → Nat → Int32) → Prop} {a n : Nat} {x : Int32} (hA : isBk LS rm a) (hn : im a 1 = nI n) (hb : n ≤ 4) (h1 : ∀ q, q < n → x = nI q → P (some (.int (im (a + 1) q))) im) (h0 : (x < 0 ∨ nI n ≤ x) → P (some (.int (-1))) im) : Gm LS rm 75 0 (en_in 75 [.ref a, .int x]) [] im P := by
  show Gm LS rm 75 0 [.ref (a), .int (x)] [] im P
  refine g_iload_n k75_0 rfl ?_
  refine g_aload_n k75_1 rfl ?_
  refine g_getv (v := nI n) k75_2 (hA.1) (by decide) (hn) ?_
  refine g_invS2 k75_5 rfl rfl (by decide) (Nat.le_of_ble_eq_true rfl) (c19n n (by omega) (fun q hq e => ?_) (fun h => ?_))
  · subst e
    refine g_if_eq k75_8 (fun h => absurd h (by decide)) (fun _ => ?_)
    refine g_aload_n k75_11 rfl ?_
    refine g_getr k75_12 (hA.1) (by decide) (hA.2.1) ?_
    refine g_iload_n k75_15 rfl ?_
    refine g_ialv k75_16 (hA.2.2) (by omega) (by decide) (rfl) ?_
    refine g_goto k75_17 ?_
    exact g_reti k75_21 rfl (h1 q hq rfl)
  · refine g_if_eq k75_8 (fun _ => ?_) (fun h => absurd (by decide) h)
    refine g_iconst (v := -1) k75_20 ic_m1 ?_
    exact g_reti k75_21 rfl (h0 h)

set_option maxRecDepth 20000 in
set_option maxHeartbeats 4000000 in
theorem c25 {LS : Nat} {rm : Nat → Nat → Option Nat} {im : Nat → Nat → Int32} {P : Option Value → (Nat → Nat → Int32) → Prop} {a n m : Nat} (hM : isLd LS rm) (hA : isBL LS rm a) (hn : im a 1 = nI n) (hb : n ≤ 40) (hm : 0 < n → im (a + 1) (n - 1) = nI m ∧ m < 60) (h0 : n = 0 → P (some (.int 0)) im) (h1 : 0 < n → P (some (.int (im (2 * m + 210) 2))) im) : Gm LS rm 25 0 (en_in 25 [.ref 1, .ref a]) [] im P := by
  show Gm LS rm 25 0 [.ref (1), .ref (a)] [] im P
  refine g_aload_n k25_0 rfl ?_
  refine g_getv (v := nI n) k25_1 (hA.1) (by decide) (hn) ?_
  refine g_if_ne k25_4 (fun h => ?_) (fun h => ?_)
  · have hz : 0 < n := by apply Nat.pos_of_ne_zero; intro z; subst z; exact h rfl
    obtain ⟨hm1, hm2⟩ := hm hz
    refine g_aload_n k25_11 rfl ?_
    refine g_getr k25_12 (hM.1.1) (by decide) (hM.1.2.2.2.2.1) ?_
    refine g_aload_n k25_15 rfl ?_
    refine g_getr k25_16 (hA.1) (by decide) (hA.2.1) ?_
    refine g_aload_n k25_19 rfl ?_
    refine g_getv (v := nI n) k25_20 (hA.1) (by decide) (hn) ?_
    refine g_iconst (v := 1) k25_23 ic_1 ?_
    refine g_isub k25_24 ?_
    refine g_top (y := nI (n - 1)) (nI_m1 hz) ?_
    refine g_ialv (v := nI m) k25_25 (hA.2.2) (by omega) (by decide) (hm1) ?_
    refine g_aalv (t := 2) k25_26 (hM.1.2.2.2.2.2.2.2.2.2.2.2.2.1) ⟨_, rfl⟩ (hm2) (by decide) ((hM.2.2.2.1 m (hm2)).1) ?_
    refine g_geti k25_27 ((hM.2.2.2.1 m (hm2)).2.1) (by decide) ?_
    exact g_reti k25_30 rfl (h1 hz)
  · have hz : n = 0 := Decidable.byContradiction (fun z => nI_ne0 (Nat.pos_of_ne_zero z) (by omega) h)
    refine g_iconst (v := 0) k25_7 ic_0 ?_
    refine g_goto k25_8 ?_
    exact g_reti k25_30 rfl (h0 hz)

set_option maxRecDepth 20000 in
set_option maxHeartbeats 4000000 in
theorem c34 {LS : Nat} {rm : Nat → Nat → Option Nat} {im : Nat → Nat → Int32} {P : Option Value → (Nat → Nat → Int32) → Prop} {x : Int32} {c : Nat} (hM : isLd LS rm) (hc : im 7 1 = nI c) (h1 : ∀ p, p < 4 → x = nI p → im (8 * p + 339) 0 ≠ 0 → im (8 * p + 339) 1 < nI c → P (some (.int 1)) im) (h0 : (∀ p, p < 4 → x = nI p → im (8 * p + 339) 0 ≠ 0 → nI c ≤ im (8 * p + 339) 1) → P (some (.int 0)) im) : Gm LS rm 34 0 (en_in 34 [.ref 1, .int x]) [] im P := by
  show Gm LS rm 34 0 [.ref (1), .int (x)] [] im P
  refine g_aload_n k34_0 rfl ?_
  refine g_iload_n k34_1 rfl ?_
  refine g_inv1 k34_2 (hM.1.1) rfl (by decide) (Nat.le_of_ble_eq_true rfl) (c20 hM (fun p hp e hu => ?_) (fun h => ?_))
  · subst e
    refine g_if_eq k34_5 (fun h => absurd h (by decide)) (fun _ => ?_)
    refine g_aload_n k34_8 rfl ?_
    refine g_getr k34_9 (hM.1.1) (by decide) (hM.1.2.2.2.2.2.2.2.1) ?_
    refine g_iload_n k34_12 rfl ?_
    refine g_aalv (t := 4) k34_13 (hM.1.2.2.2.2.2.2.2.2.2.2.2.2.2.2.2.1) ⟨_, rfl⟩ (hp) (by decide) ((hM.2.2.2.2.2 p (hp)).1) ?_
    refine g_geti k34_14 ((hM.2.2.2.2.2 p (hp)).2.1) (by decide) ?_
    refine g_aload_n k34_17 rfl ?_
    refine g_getr k34_18 (hM.1.1) (by decide) (hM.1.2.2.2.2.2.2.1) ?_
    refine g_getv (v := nI c) k34_21 (hM.1.2.2.2.2.2.2.2.2.2.2.2.2.2.2.1.1) (by decide) (hc) ?_
    refine g_icmp_ge k34_24 (fun h => ?_) (fun h => ?_)
    · refine g_iconst (v := 0) k34_31 ic_0 ?_
      exact g_retz k34_32 rfl (by decide) (h0 (fun q hq e _ => by rw [← (nI_eq (by omega) (by omega)).mp e]; exact h))
    · refine g_iconst (v := 1) k34_27 ic_1 ?_
      refine g_goto k34_28 ?_
      exact g_retz k34_32 rfl (by decide) (h1 p hp rfl hu (Int32.not_le.mp h))
  · refine g_if_eq k34_5 (fun _ => ?_) (fun h => absurd (by decide) h)
    refine g_iconst (v := 0) k34_31 ic_0 ?_
    exact g_retz k34_32 rfl (by decide) (h0 (fun p hp e hu => absurd (h p hp e) hu))

set_option maxRecDepth 20000 in
set_option maxHeartbeats 4000000 in
theorem c31 {LS : Nat} {rm : Nat → Nat → Option Nat} {im : Nat → Nat → Int32} {P : Option Value → (Nat → Nat → Int32) → Prop} {o : Nat} {y : Int32} (hM : isLd LS rm) (ho : o < 3) (hy : y = 0 ∨ y = 1) (h0 : im (3 * o + 330) 0 = y → P (some (.int (-1))) im) (h1 : im (3 * o + 330) 0 ≠ y → im 1 8 ≠ nI o → P (some (.int 0)) (en_u2 im (3 * o + 330) 0 y)) (h2 : im (3 * o + 330) 0 ≠ y → im 1 8 = nI o → P (some (.int 0)) (en_u2 (en_u2 im (3 * o + 330) 0 y) 1 8 (-1))) : Gm LS rm 31 0 (en_in 31 [.ref 1, .int (nI o), .int y]) [] im P := by
  show Gm LS rm 31 0 [.ref (1), .int (nI o), .int (y)] [] im P
  refine g_aload_n k31_0 rfl ?_
  refine g_getr k31_1 (hM.1.1) (by decide) (hM.1.2.2.2.2.2.1) ?_
  refine g_iload_n k31_4 rfl ?_
  refine g_aalv (t := 3) k31_5 (hM.1.2.2.2.2.2.2.2.2.2.2.2.2.2.1) ⟨_, rfl⟩ (ho) (by decide) ((hM.2.2.2.2.1 o (ho)).1) ?_
  refine g_geti k31_6 ((hM.2.2.2.2.1 o (ho)).2.1) (by decide) ?_
  refine g_iload_n k31_9 rfl ?_
  refine g_icmp_ne k31_10 (fun h => ?_) (fun h => ?_)
  · refine g_aload_n k31_15 rfl ?_
    refine g_getr k31_16 (hM.1.1) (by decide) (hM.1.2.2.2.2.2.1) ?_
    refine g_iload_n k31_19 rfl ?_
    refine g_aalv (t := 3) k31_20 (hM.1.2.2.2.2.2.2.2.2.2.2.2.2.2.1) ⟨_, rfl⟩ (ho) (by decide) ((hM.2.2.2.2.1 o (ho)).1) ?_
    refine g_iload_n k31_21 rfl ?_
    refine g_putz k31_22 (by decide) ((hM.2.2.2.2.1 o (ho)).2.1) (by decide) (hy) ?_
    refine g_aload_n k31_25 rfl ?_
    refine g_getv (v := im 1 8) k31_26 (hM.1.1) (by decide) (by rw [u2_ne (by omega)]) ?_
    refine g_iload_n k31_29 rfl ?_
    refine g_icmp_ne k31_30 (fun g => ?_) (fun g => ?_)
    · refine g_iconst (v := 0) k31_38 ic_0 ?_
      exact g_reti k31_39 rfl (h1 h g)
    · refine g_aload_n k31_33 rfl ?_
      refine g_iconst (v := -1) k31_34 ic_m1 ?_
      refine g_puti k31_35 (by decide) (hM.1.1) (by decide) ?_
      refine g_iconst (v := 0) k31_38 ic_0 ?_
      exact g_reti k31_39 rfl (h2 h g)
  · refine g_iconst (v := -1) k31_13 ic_m1 ?_
    exact g_reti k31_14 rfl (h0 h)

set_option maxRecDepth 20000 in
set_option maxHeartbeats 4000000 in
theorem c80 {LS : Nat} {rm : Nat → Nat → Option Nat} {im : Nat → Nat → Int32} {P : Option Value → (Nat → Nat → Int32) → Prop} {a b n : Nat} (hA : isBL LS rm a) (hB : isBL LS rm b) (hn : n ≤ 40) (h1 : P none (en_u2 (en_ur im (a + 1) (va_cpy (im (b + 1)) (im (a + 1)) 0 0 n)) a 1 (nI n))) : Gm LS rm 80 0 (en_in 80 [.ref a, .ref b, .int (nI n)]) [] im P := by
  show Gm LS rm 80 0 [.ref (a), .ref (b), .int (nI n)] [] im P
  refine g_aload_n k80_0 rfl ?_
  refine g_getr k80_1 (hB.1) (by decide) (hB.2.1) ?_
  refine g_iconst (v := 0) k80_4 ic_0 ?_
  refine g_aload_n k80_5 rfl ?_
  refine g_getr k80_6 (hA.1) (by decide) (hA.2.1) ?_
  refine g_iconst (v := 0) k80_9 ic_0 ?_
  refine g_iload_n k80_10 rfl ?_
  refine g_copyn (sp := 0) (dp := 0) (x := n) k80_11 (Nat.le_of_ble_eq_true rfl) (hB.2.2) (hA.2.2) (by decide) (by decide) (by omega) (by omega) ?_
  refine g_aload_n k80_14 rfl ?_
  refine g_iload_n k80_15 rfl ?_
  refine g_puti k80_16 (by decide) (hA.1) (by decide) ?_
  exact g_retv k80_19 rfl (h1)

set_option maxRecDepth 20000 in
set_option maxHeartbeats 4000000 in
theorem c83 {LS : Nat} {rm : Nat → Nat → Option Nat} {im : Nat → Nat → Int32} {P : Option Value → (Nat → Nat → Int32) → Prop} {a b : Nat} (hA : isWS LS rm a) (hB : isWS LS rm b) (hd : b + 2 < a ∨ a + 2 < b) (h1 : P none (en_u2 (en_ur (en_ur im (a + 1) (va_cpy (im (b + 1)) (im (a + 1)) 0 0 16)) (a + 2) (va_cpy (im (b + 2)) (im (a + 2)) 0 0 16)) a 2 (im b 2))) : Gm LS rm 83 0 (en_in 83 [.ref a, .ref b]) [] im P := by
  show Gm LS rm 83 0 [.ref (a), .ref (b)] [] im P
  refine g_aload_n k83_0 rfl ?_
  refine g_getr k83_1 (hB.1) (by decide) (hB.2.1) ?_
  refine g_iconst (v := 0) k83_4 ic_0 ?_
  refine g_aload_n k83_5 rfl ?_
  refine g_getr k83_6 (hA.1) (by decide) (hA.2.1) ?_
  refine g_iconst (v := 0) k83_9 ic_0 ?_
  refine g_bipush (v := 16) k83_10 bp_16 ?_
  refine g_copyn (sp := 0) (dp := 0) (x := 16) k83_12 (Nat.le_of_ble_eq_true rfl) (hB.2.2.2.1) (hA.2.2.2.1) (by decide) (by decide) (by omega) (by omega) ?_
  refine g_aload_n k83_15 rfl ?_
  refine g_getr k83_16 (hB.1) (by decide) (hB.2.2.1) ?_
  refine g_iconst (v := 0) k83_19 ic_0 ?_
  refine g_aload_n k83_20 rfl ?_
  refine g_getr k83_21 (hA.1) (by decide) (hA.2.2.1) ?_
  refine g_iconst (v := 0) k83_24 ic_0 ?_
  refine g_bipush (v := 16) k83_25 bp_16 ?_
  refine g_copyn (sp := 0) (dp := 0) (x := 16) k83_27 (Nat.le_of_ble_eq_true rfl) (hB.2.2.2.2) (hA.2.2.2.2) (by decide) (by decide) (by omega) (by omega) ?_
  rw [ur_ne (b := a + 1) (c := b + 2) (by omega), ur_ne (b := a + 1) (c := a + 2) (by omega)]
  refine g_aload_n k83_30 rfl ?_
  refine g_aload_n k83_31 rfl ?_
  refine g_getv (v := im b 2) k83_32 (hB.1) (by decide) (by rw [ur_ne (by omega), ur_ne (by omega)]) ?_
  refine g_puti k83_35 (by decide) (hA.1) (by decide) ?_
  exact g_retv k83_38 rfl (h1)

set_option maxRecDepth 20000 in
set_option maxHeartbeats 4000000 in
theorem c59 {LS : Nat} {rm : Nat → Nat → Option Nat} {im : Nat → Nat → Int32} {P : Option Value → (Nat → Nat → Int32) → Prop} {a b : Nat} (hA : isRs LS rm a) (hB : isRs LS rm b) (hd : b + 1 < a ∨ a + 1 < b) (h1 : P none (en_u2 (en_ur im (a + 1) (va_cpy (im (b + 1)) (im (a + 1)) 0 0 80)) a 1 (im b 1))) : Gm LS rm 59 0 (en_in 59 [.ref a, .ref b]) [] im P := by
  show Gm LS rm 59 0 [.ref (a), .ref (b)] [] im P
  refine g_aload_n k59_0 rfl ?_
  refine g_getr k59_1 (hB.1) (by decide) (hB.2.1) ?_
  refine g_iconst (v := 0) k59_4 ic_0 ?_
  refine g_aload_n k59_5 rfl ?_
  refine g_getr k59_6 (hA.1) (by decide) (hA.2.1) ?_
  refine g_iconst (v := 0) k59_9 ic_0 ?_
  refine g_bipush (v := 80) k59_10 bp_80 ?_
  refine g_copyn (sp := 0) (dp := 0) (x := 80) k59_12 (Nat.le_of_ble_eq_true rfl) (hB.2.2) (hA.2.2) (by decide) (by decide) (by omega) (by omega) ?_
  refine g_aload_n k59_15 rfl ?_
  refine g_aload_n k59_16 rfl ?_
  refine g_getv (v := im b 1) k59_17 (hB.1) (by decide) (by rw [ur_ne (by omega)]) ?_
  refine g_puti k59_20 (by decide) (hA.1) (by decide) ?_
  exact g_retv k59_23 rfl (h1)

set_option maxRecDepth 20000 in
set_option maxHeartbeats 4000000 in
theorem c74 {LS : Nat} {rm : Nat → Nat → Option Nat} {im : Nat → Nat → Int32} {P : Option Value → (Nat → Nat → Int32) → Prop} {a b n nb : Nat} {t : Int32} (hA : isBk LS rm a) (hB : (SH LS)[b]? = some (100, nb)) (hnb : nb < 100000) (hn : n ≤ 4) (hn2 : n ≤ nb) (h1 : P none (en_u2 (en_u2 (en_ur im (a + 1) (va_cpy (im b) (im (a + 1)) 0 0 n)) a 1 (nI n)) a 2 t)) : Gm LS rm 74 0 (en_in 74 [.ref a, .ref b, .int (nI n), .int t]) [] im P := by
  show Gm LS rm 74 0 [.ref (a), .ref (b), .int (nI n), .int (t)] [] im P
  refine g_aload_n k74_0 rfl ?_
  refine g_iconst (v := 0) k74_1 ic_0 ?_
  refine g_aload_n k74_2 rfl ?_
  refine g_getr k74_3 (hA.1) (by decide) (hA.2.1) ?_
  refine g_iconst (v := 0) k74_6 ic_0 ?_
  refine g_iload_n k74_7 rfl ?_
  refine g_copyn (sp := 0) (dp := 0) k74_8 (Nat.le_of_ble_eq_true rfl) hB (hA.2.2) hnb (by decide) (by omega) (by omega) ?_
  refine g_aload_n k74_11 rfl ?_
  refine g_iload_n k74_12 rfl ?_
  refine g_puti k74_13 (by decide) (hA.1) (by decide) ?_
  refine g_aload_n k74_16 rfl ?_
  refine g_iload_n k74_17 rfl ?_
  refine g_puti k74_18 (by decide) (hA.1) (by decide) ?_
  exact g_retv k74_21 rfl (h1)

set_option maxRecDepth 20000 in
set_option maxHeartbeats 4000000 in
theorem c27 {LS : Nat} {rm : Nat → Nat → Option Nat} {im : Nat → Nat → Int32} {P : Option Value → (Nat → Nat → Int32) → Prop} {w n : Nat} (hM : isLd LS rm) (hw : im 1 4 = nI w) (hb : w ≤ 20) (hn : n ≤ w) (h1 : P none (en_u2 (en_ur im 4 (va_cpy (im 4) (im 4) n 0 (w - n))) 1 4 (nI (w - n)))) : Gm LS rm 27 0 (en_in 27 [.ref 1, .int (nI n)]) [] im P := by
  show Gm LS rm 27 0 [.ref (1), .int (nI n)] [] im P
  refine g_aload_n k27_0 rfl ?_
  refine g_getr k27_1 (hM.1.1) (by decide) (hM.1.2.2.2.1) ?_
  refine g_iload_n k27_4 rfl ?_
  refine g_aload_n k27_5 rfl ?_
  refine g_getr k27_6 (hM.1.1) (by decide) (hM.1.2.2.2.1) ?_
  refine g_iconst (v := 0) k27_9 ic_0 ?_
  refine g_aload_n k27_10 rfl ?_
  refine g_getv (v := nI w) k27_11 (hM.1.1) (by decide) (hw) ?_
  refine g_iload_n k27_14 rfl ?_
  refine g_isub k27_15 ?_
  refine g_top (y := nI (w - n)) (pk_sub hn) ?_
  refine g_copyn (sp := n) (dp := 0) (x := w - n) k27_16 (Nat.le_of_ble_eq_true rfl) (hM.1.2.2.2.2.2.2.2.2.2.2.2.1) (hM.1.2.2.2.2.2.2.2.2.2.2.2.1) (by decide) (by decide) (by omega) (by omega) ?_
  refine g_aload_n k27_19 rfl ?_
  refine g_dup k27_20 rfl ?_
  refine g_getv (v := nI w) k27_21 (hM.1.1) (by decide) (by rw [ur_ne (by decide)]; exact hw) ?_
  refine g_iload_n k27_24 rfl ?_
  refine g_isub k27_25 ?_
  refine g_top (y := nI (w - n)) (pk_sub hn) ?_
  refine g_puti k27_26 (by decide) (hM.1.1) (by decide) ?_
  exact g_retv k27_29 rfl (h1)
end
section
def ws_v (c : Nat → Int32) (v : Int32) (i : Nat) (f : Nat → Int32) : Nat → Int32 := fun k => if k < i ∧ c (48 + k) ≠ 0 then (if c (48 + k) = 2 then 0 else v) else f k
def ws_w (c : Nat → Int32) (i : Nat) (g : Nat → Int32) : Nat → Int32 := fun k => if k < i ∧ c (48 + k) ≠ 0 then c (64 + k) else g k
theorem ws_v_0 {c : Nat → Int32} {v : Int32} {f : Nat → Int32} : ws_v c v 0 f = f := by funext k; simp [ws_v]
theorem ws_w_0 {c f : Nat → Int32} : ws_w c 0 f = f := by funext k; simp [ws_w]
theorem ws_v_z {c : Nat → Int32} {v : Int32} {i : Nat} {f : Nat → Int32} (h : c (48 + i) = 0) : ws_v c v (i + 1) f = ws_v c v i f := by
  funext k
  unfold ws_v
  by_cases hk : k = i
  · subst hk; simp [h]
  · have : (k < i + 1) = (k < i) := by apply propext; omega
    simp [this]
theorem ws_w_z {c : Nat → Int32} {i : Nat} {f : Nat → Int32} (h : c (48 + i) = 0) : ws_w c (i + 1) f = ws_w c i f := by
  funext k
  unfold ws_w
  by_cases hk : k = i
  · subst hk; simp [h]
  · have : (k < i + 1) = (k < i) := by apply propext; omega
    simp [this]
theorem ws_v_s {c : Nat → Int32} {v w : Int32} {i : Nat} {f : Nat → Int32} (h : c (48 + i) ≠ 0) (hw : w = if c (48 + i) = 2 then 0 else v) : (fun k => if k = i then w else ws_v c v i f k) = ws_v c v (i + 1) f := by
  funext k
  unfold ws_v
  by_cases hk : k = i
  · subst hk; simp [h, hw]
  · have : (k < i + 1) = (k < i) := by apply propext; omega
    simp [this, hk]
theorem ws_w_s {c : Nat → Int32} {i : Nat} {f : Nat → Int32} (h : c (48 + i) ≠ 0) : (fun k => if k = i then c (64 + i) else ws_w c i f k) = ws_w c (i + 1) f := by
  funext k
  unfold ws_w
  by_cases hk : k = i
  · subst hk; simp [h]
  · have : (k < i + 1) = (k < i) := by apply propext; omega
    simp [this, hk]
theorem ur_comm {α : Type} {f : Nat → Nat → α} {a b : Nat} {g h : Nat → α} (hab : a ≠ b) : en_ur (en_ur f a g) b h = en_ur (en_ur f b h) a g := by
  funext c
  by_cases h1 : c = a
  · subst h1; simp [en_ur, hab]
  · by_cases h2 : c = b
    · subst h2; simp [en_ur, h1]
    · simp [en_ur, h1, h2]
theorem ur_ur {α : Type} {f : Nat → Nat → α} {a : Nat} {g h : Nat → α} : en_ur (en_ur f a g) a h = en_ur f a h := by
  funext c
  by_cases h1 : c = a
  · subst h1; simp [en_ur]
  · simp [en_ur, h1]
/-- two rows written, one place each -/
theorem wt_step {im : Nat → Nat → Int32} {s i : Nat} {f g : Nat → Int32} {v w : Int32} : en_u2 (en_u2 (en_ur (en_ur im (s + 1) f) (s + 2) g) (s + 1) i v) (s + 2) i w = en_ur (en_ur im (s + 1) (fun k => if k = i then v else f k)) (s + 2) (fun k => if k = i then w else g k) := by
  rw [ur_comm (show s + 1 ≠ s + 2 by omega), ur_u2, ur_comm (show s + 2 ≠ s + 1 by omega), ur_u2]
set_option maxRecDepth 20000 in
set_option maxHeartbeats 4000000 in
theorem l69 {LS : Nat} {rm : Nat → Nat → Option Nat} {im : Nat → Nat → Int32} {P : Option Value → (Nat → Nat → Int32) → Prop} {a s : Nat} {v : Int32} (hA : isRs LS rm a) (hS : isWS LS rm s) (hd : s + 2 < a ∨ a + 1 < s) (h1 : P none (en_ur (en_ur im (s + 1) (ws_v (im (a + 1)) v 16 (im (s + 1)))) (s + 2) (ws_w (im (a + 1)) 16 (im (s + 2))))) : ∀ (n i : Nat), i + n = 16 → ∀ (u : Value), Gm LS rm 69 2 [.ref (a), .ref (s), .int (v), .int (nI i), u] [] (en_ur (en_ur im (s + 1) (ws_v (im (a + 1)) v i (im (s + 1)))) (s + 2) (ws_w (im (a + 1)) i (im (s + 2)))) P := by
  intro n
  induction n with
  | zero =>
    intro i hi u
    have hie : i = 16 := by omega
    subst hie
    refine g_iload_n k69_2 rfl ?_
    refine g_bipush (v := 16) k69_3 bp_16 ?_
    refine g_icmp_ge k69_5 (fun _ => ?_) (fun h => absurd (nI_le (Nat.le_refl _) (by decide)) h)
    exact g_retv k69_62 rfl (h1)
  | succ n ih =>
    intro i hi u
    have hlt : i < 16 := by omega
    refine g_iload_n k69_2 rfl ?_
    refine g_bipush (v := 16) k69_3 bp_16 ?_
    refine g_icmp_ge k69_5 (fun h => absurd h (nI_ge hlt (by decide))) (fun _ => ?_)
    refine g_aload_n k69_8 rfl ?_
    refine g_getr k69_9 (hA.1) (by decide) (hA.2.1) ?_
    refine g_bipush (v := 48) k69_12 bp_48 ?_
    refine g_iload_n k69_14 rfl ?_
    refine g_iadd k69_15 ?_
    refine g_top (y := nI (48 + i)) (by rw [show (48 : Int32) = nI 48 from rfl, nI_add]) ?_
    refine g_ialv (v := im (a + 1) (48 + i)) k69_16 (hA.2.2) (by omega) (by decide) (by rw [ur_ne (by omega), ur_ne (by omega)]) ?_
    refine g_istore k69_17 (by decide) rfl ?_
    refine g_iload k69_19 rfl ?_
    refine g_if_eq k69_21 (fun h => ?_) (fun h => ?_)
    · refine g_iincv (y := nI (i + 1)) k69_56 rfl (by decide) (inc_1 i) rfl ?_
      refine g_goto k69_59 ?_
      have := ih (i + 1) (by omega) (.int (im (a + 1) (48 + i)))
      rw [ws_v_z h, ws_w_z h] at this
      exact this
    · refine g_aload_n k69_24 rfl ?_
      refine g_getr k69_25 (hS.1) (by decide) (hS.2.1) ?_
      refine g_iload_n k69_28 rfl ?_
      refine g_iload k69_29 rfl ?_
      refine g_iconst (v := 2) k69_31 ic_2 ?_
      refine g_icmp_ne k69_32 (fun g => ?_) (fun g => ?_)
      · refine g_iload_n k69_39 rfl ?_
        refine g_iasv k69_40 (hS.2.2.2.1) (hlt) (by decide) ?_
        refine g_aload_n k69_41 rfl ?_
        refine g_getr k69_42 (hS.1) (by decide) (hS.2.2.1) ?_
        refine g_iload_n k69_45 rfl ?_
        refine g_aload_n k69_46 rfl ?_
        refine g_getr k69_47 (hA.1) (by decide) (hA.2.1) ?_
        refine g_bipush (v := 64) k69_50 bp_64 ?_
        refine g_iload_n k69_52 rfl ?_
        refine g_iadd k69_53 ?_
        refine g_top (y := nI (64 + i)) (by rw [show (64 : Int32) = nI 64 from rfl, nI_add]) ?_
        refine g_ialv (v := im (a + 1) (64 + i)) k69_54 (hA.2.2) (by omega) (by decide) (by rw [u2_ne (by omega), ur_ne (by omega), ur_ne (by omega)]) ?_
        refine g_iasv k69_55 (hS.2.2.2.2) (hlt) (by decide) ?_
        rw [wt_step, ws_v_s h (by rw [if_neg g]), ws_w_s h]
        refine g_iincv (y := nI (i + 1)) k69_56 rfl (by decide) (inc_1 i) rfl ?_
        refine g_goto k69_59 ?_
        exact ih (i + 1) (by omega) _
      · refine g_iconst (v := 0) k69_35 ic_0 ?_
        refine g_goto k69_36 ?_
        refine g_iasv k69_40 (hS.2.2.2.1) (hlt) (by decide) ?_
        refine g_aload_n k69_41 rfl ?_
        refine g_getr k69_42 (hS.1) (by decide) (hS.2.2.1) ?_
        refine g_iload_n k69_45 rfl ?_
        refine g_aload_n k69_46 rfl ?_
        refine g_getr k69_47 (hA.1) (by decide) (hA.2.1) ?_
        refine g_bipush (v := 64) k69_50 bp_64 ?_
        refine g_iload_n k69_52 rfl ?_
        refine g_iadd k69_53 ?_
        refine g_top (y := nI (64 + i)) (by rw [show (64 : Int32) = nI 64 from rfl, nI_add]) ?_
        refine g_ialv (v := im (a + 1) (64 + i)) k69_54 (hA.2.2) (by omega) (by decide) (by rw [u2_ne (by omega), ur_ne (by omega), ur_ne (by omega)]) ?_
        refine g_iasv k69_55 (hS.2.2.2.2) (hlt) (by decide) ?_
        rw [wt_step, ws_v_s h (by rw [if_pos g]), ws_w_s h]
        refine g_iincv (y := nI (i + 1)) k69_56 rfl (by decide) (inc_1 i) rfl ?_
        refine g_goto k69_59 ?_
        exact ih (i + 1) (by omega) _

set_option maxRecDepth 20000 in
set_option maxHeartbeats 4000000 in
theorem c69 {LS : Nat} {rm : Nat → Nat → Option Nat} {im : Nat → Nat → Int32} {P : Option Value → (Nat → Nat → Int32) → Prop} {a s : Nat} {v : Int32} (hA : isRs LS rm a) (hS : isWS LS rm s) (hd : s + 2 < a ∨ a + 1 < s) (h1 : P none (en_ur (en_ur im (s + 1) (ws_v (im (a + 1)) v 16 (im (s + 1)))) (s + 2) (ws_w (im (a + 1)) 16 (im (s + 2))))) : Gm LS rm 69 0 (en_in 69 [.ref a, .ref s, .int v]) [] im P := by
  show Gm LS rm 69 0 [.ref (a), .ref (s), .int (v), .long 0, .long 0] [] im P
  refine g_iconst (v := 0) k69_0 ic_0 ?_
  refine g_istore_n k69_1 (by decide) rfl ?_
  have := l69 hA hS hd h1 16 0 (by omega) (.long 0)
  rw [ws_v_0, ws_w_0, ur_self, ur_self] at this
  exact this

set_option maxRecDepth 20000 in
set_option maxHeartbeats 4000000 in
theorem l76 {LS : Nat} {rm : Nat → Nat → Option Nat} {im : Nat → Nat → Int32} {P : Option Value → (Nat → Nat → Int32) → Prop} {a c : Nat} {t : Int32} (hA : isBk LS rm a) (hc : c ≤ 4) (h1 : ∀ i, i < c → im (a + 1) i = t → P (some (.int 1)) im) (h0 : (∀ i, i < c → im (a + 1) i ≠ t) → P (some (.int 0)) im) : ∀ (n i : Nat), i + n = c → (∀ k, k < i → im (a + 1) k ≠ t) → Gm LS rm 76 2 [.ref (a), .int (nI c), .int (t), .int (nI i)] [] (im) P := by
  intro n
  induction n with
  | zero =>
    intro i hi hp
    have hie : i = c := by omega
    subst hie
    refine g_iload_n k76_2 rfl ?_
    refine g_iload_n k76_3 rfl ?_
    refine g_icmp_ge k76_4 (fun _ => ?_) (fun h => absurd (nI_le (Nat.le_refl _) (by omega)) h)
    refine g_iconst (v := 0) k76_25 ic_0 ?_
    exact g_retz k76_26 rfl (by decide) (h0 hp)
  | succ n ih =>
    intro i hi hp
    have hlt : i < c := by omega
    refine g_iload_n k76_2 rfl ?_
    refine g_iload_n k76_3 rfl ?_
    refine g_icmp_ge k76_4 (fun h => absurd h (nI_ge hlt (by omega))) (fun _ => ?_)
    refine g_aload_n k76_7 rfl ?_
    refine g_getr k76_8 (hA.1) (by decide) (hA.2.1) ?_
    refine g_iload_n k76_11 rfl ?_
    refine g_ialv k76_12 (hA.2.2) (by omega) (by decide) (rfl) ?_
    refine g_iload_n k76_13 rfl ?_
    refine g_icmp_ne k76_14 (fun h => ?_) (fun h => ?_)
    · refine g_iincv (y := nI (i + 1)) k76_19 rfl (by decide) (inc_1 i) rfl ?_
      refine g_goto k76_22 ?_
      exact ih (i + 1) (by omega) (fun k hk => by by_cases z : k = i; subst z; exact h; exact hp k (by omega))
    · refine g_iconst (v := 1) k76_17 ic_1 ?_
      exact g_retz k76_18 rfl (by decide) (h1 i hlt h)

set_option maxRecDepth 20000 in
set_option maxHeartbeats 4000000 in
theorem c76 {LS : Nat} {rm : Nat → Nat → Option Nat} {im : Nat → Nat → Int32} {P : Option Value → (Nat → Nat → Int32) → Prop} {a c : Nat} {t : Int32} (hA : isBk LS rm a) (hc : c ≤ 4) (h1 : ∀ i, i < c → im (a + 1) i = t → P (some (.int 1)) im) (h0 : (∀ i, i < c → im (a + 1) i ≠ t) → P (some (.int 0)) im) : Gm LS rm 76 0 (en_in 76 [.ref a, .int (nI c), .int t]) [] im P := by
  show Gm LS rm 76 0 [.ref (a), .int (nI c), .int (t), .long 0] [] im P
  refine g_iconst (v := 0) k76_0 ic_0 ?_
  refine g_istore_n k76_1 (by decide) rfl ?_
  exact l76 hA hc h1 h0 c 0 (by omega) (fun k hk => absurd hk (Nat.not_lt_zero k))

set_option maxRecDepth 20000 in
set_option maxHeartbeats 4000000 in
theorem l79 {LS : Nat} {rm : Nat → Nat → Option Nat} {im : Nat → Nat → Int32} {P : Option Value → (Nat → Nat → Int32) → Prop} {a b na nb l : Nat} (hA : isBL LS rm a) (hB : isBL LS rm b) (hna : na ≤ 40) (hnb : nb ≤ 40) (hla : l ≤ na) (hlb : l ≤ nb) (hlm : ¬ (l < na ∧ l < nb)) (h1 : ∀ l, l ≤ na → l ≤ nb → (∀ k, k < l → im (a + 1) k = im (b + 1) k) → (l < na → l < nb → im (a + 1) l ≠ im (b + 1) l) → P (some (.int (nI l))) im) : ∀ (n i : Nat), i + n = l → (∀ k, k < i → im (a + 1) k = im (b + 1) k) → Gm LS rm 79 14 [.ref (a), .ref (b), .int (nI l), .int (nI i)] [] (im) P := by
  intro n
  induction n with
  | zero =>
    intro i hi hp
    have hie : l = i := by omega
    subst hie
    refine g_iload_n k79_14 rfl ?_
    refine g_iload_n k79_15 rfl ?_
    refine g_icmp_ge k79_16 (fun _ => ?_) (fun h => absurd (nI_le (Nat.le_refl _) (by omega)) h)
    refine g_iload_n k79_42 rfl ?_
    exact g_reti k79_43 rfl (h1 _ hla hlb hp (fun x y => absurd (hlm ⟨x, y⟩) (fun z => z)))
  | succ n ih =>
    intro i hi hp
    have hlt : i < l := by omega
    refine g_iload_n k79_14 rfl ?_
    refine g_iload_n k79_15 rfl ?_
    refine g_icmp_ge k79_16 (fun h => absurd h (nI_ge hlt (by omega))) (fun _ => ?_)
    refine g_aload_n k79_19 rfl ?_
    refine g_getr k79_20 (hA.1) (by decide) (hA.2.1) ?_
    refine g_iload_n k79_23 rfl ?_
    refine g_ialv k79_24 (hA.2.2) (by omega) (by decide) (rfl) ?_
    refine g_aload_n k79_25 rfl ?_
    refine g_getr k79_26 (hB.1) (by decide) (hB.2.1) ?_
    refine g_iload_n k79_29 rfl ?_
    refine g_ialv k79_30 (hB.2.2) (by omega) (by decide) (rfl) ?_
    refine g_icmp_eq k79_31 (fun h => ?_) (fun h => ?_)
    · refine g_iincv (y := nI (i + 1)) k79_36 rfl (by decide) (inc_1 i) rfl ?_
      refine g_goto k79_39 ?_
      exact ih (i + 1) (by omega) (fun k hk => by by_cases z : k = i; subst z; exact h; exact hp k (by omega))
    · refine g_iload_n k79_34 rfl ?_
      exact g_reti k79_35 rfl (h1 i (by omega) (by omega) hp (fun _ _ => h))

set_option maxRecDepth 20000 in
set_option maxHeartbeats 4000000 in
theorem c79 {LS : Nat} {rm : Nat → Nat → Option Nat} {im : Nat → Nat → Int32} {P : Option Value → (Nat → Nat → Int32) → Prop} {a b na nb : Nat} (hA : isBL LS rm a) (hB : isBL LS rm b) (ha : im a 1 = nI na) (hb : im b 1 = nI nb) (hna : na ≤ 40) (hnb : nb ≤ 40) (h1 : ∀ l, l ≤ na → l ≤ nb → (∀ k, k < l → im (a + 1) k = im (b + 1) k) → (l < na → l < nb → im (a + 1) l ≠ im (b + 1) l) → P (some (.int (nI l))) im) : Gm LS rm 79 0 (en_in 79 [.ref a, .ref b]) [] im P := by
  show Gm LS rm 79 0 [.ref (a), .ref (b), .long 0, .long 0] [] im P
  refine g_aload_n k79_0 rfl ?_
  refine g_getv (v := nI na) k79_1 (hA.1) (by decide) (ha) ?_
  refine g_aload_n k79_4 rfl ?_
  refine g_getv (v := nI nb) k79_5 (hB.1) (by decide) (hb) ?_
  refine g_min k79_8 (Nat.le_of_ble_eq_true rfl) ?_
  refine g_top (y := nI (min na nb)) (by rcases Nat.lt_or_ge nb na with h | h; rw [if_pos (nI_lt h (by omega)), Nat.min_eq_right (Nat.le_of_lt h)]; rw [if_neg (nI_nlt h (by omega)), Nat.min_eq_left h]) ?_
  refine g_istore_n k79_11 (by decide) rfl ?_
  refine g_iconst (v := 0) k79_12 ic_0 ?_
  refine g_istore_n k79_13 (by decide) rfl ?_
  exact l79 (l := min na nb) hA hB hna hnb (Nat.min_le_left _ _) (Nat.min_le_right _ _) (by omega) h1 (min na nb) 0 (by omega) (fun k hk => absurd hk (Nat.not_lt_zero k))

set_option maxRecDepth 20000 in
set_option maxHeartbeats 4000000 in
theorem c66 {LS : Nat} {rm : Nat → Nat → Option Nat} {im : Nat → Nat → Int32} {P : Option Value → (Nat → Nat → Int32) → Prop} {a s : Nat} (hA : isRs LS rm a) (hS : isWS LS rm s) (h1 : (∀ k, k < 16 → im (a + 1) (16 * 0 + k) = -1 ∨ im (a + 1) (16 * 0 + k) = im (s + 1) k) → P (some (.int 1)) im) (h0 : ¬ (∀ k, k < 16 → im (a + 1) (16 * 0 + k) = -1 ∨ im (a + 1) (16 * 0 + k) = im (s + 1) k) → P (some (.int 0)) im) : Gm LS rm 66 0 (en_in 66 [.ref a, .ref s]) [] im P := by
  show Gm LS rm 66 0 [.ref (a), .ref (s)] [] im P
  refine g_aload_n k66_0 rfl ?_
  refine g_iconst (v := 0) k66_1 ic_0 ?_
  refine g_aload_n k66_2 rfl ?_
  refine g_inv2 k66_3 (hA.1) rfl rfl (by decide) (Nat.le_of_ble_eq_true rfl) (c68 (r := 0) hA hS (by decide) (fun h => ?_) (fun h => ?_))
  · exact g_retz k66_6 rfl (by decide) (h1 h)
  · exact g_retz k66_6 rfl (by decide) (h0 h)

set_option maxRecDepth 20000 in
set_option maxHeartbeats 4000000 in
theorem c67 {LS : Nat} {rm : Nat → Nat → Option Nat} {im : Nat → Nat → Int32} {P : Option Value → (Nat → Nat → Int32) → Prop} {a s : Nat} (hA : isRs LS rm a) (hS : isWS LS rm s) (h1 : (∀ k, k < 16 → im (a + 1) (16 * 1 + k) = -1 ∨ im (a + 1) (16 * 1 + k) = im (s + 1) k) → (∀ k, k < 16 → im (a + 1) (16 * 2 + k) = -1 ∨ im (a + 1) (16 * 2 + k) = im (s + 1) k) → P (some (.int 1)) im) (h0 : ¬ ((∀ k, k < 16 → im (a + 1) (16 * 1 + k) = -1 ∨ im (a + 1) (16 * 1 + k) = im (s + 1) k) ∧ ∀ k, k < 16 → im (a + 1) (16 * 2 + k) = -1 ∨ im (a + 1) (16 * 2 + k) = im (s + 1) k) → P (some (.int 0)) im) : Gm LS rm 67 0 (en_in 67 [.ref a, .ref s]) [] im P := by
  show Gm LS rm 67 0 [.ref (a), .ref (s)] [] im P
  refine g_aload_n k67_0 rfl ?_
  refine g_iconst (v := 1) k67_1 ic_1 ?_
  refine g_aload_n k67_2 rfl ?_
  refine g_inv2 k67_3 (hA.1) rfl rfl (by decide) (Nat.le_of_ble_eq_true rfl) (c68 (r := 1) hA hS (by decide) (fun h => ?_) (fun h => ?_))
  · refine g_if_eq k67_6 (fun h => absurd h (by decide)) (fun _ => ?_)
    refine g_aload_n k67_9 rfl ?_
    refine g_iconst (v := 2) k67_10 ic_2 ?_
    refine g_aload_n k67_11 rfl ?_
    refine g_inv2 k67_12 (hA.1) rfl rfl (by decide) (Nat.le_of_ble_eq_true rfl) (c68 (r := 2) hA hS (by decide) (fun g => ?_) (fun g => ?_))
    · refine g_if_eq k67_15 (fun h => absurd h (by decide)) (fun _ => ?_)
      refine g_iconst (v := 1) k67_18 ic_1 ?_
      refine g_goto k67_19 ?_
      exact g_retz k67_23 rfl (by decide) (h1 h g)
    · refine g_if_eq k67_15 (fun _ => ?_) (fun h => absurd (by decide) h)
      refine g_iconst (v := 0) k67_22 ic_0 ?_
      exact g_retz k67_23 rfl (by decide) (h0 (fun z => g z.2))
  · refine g_if_eq k67_6 (fun _ => ?_) (fun h => absurd (by decide) h)
    refine g_iconst (v := 0) k67_22 ic_0 ?_
    exact g_retz k67_23 rfl (by decide) (h0 (fun z => h z.1))

set_option maxRecDepth 20000 in
set_option maxHeartbeats 4000000 in
theorem c85 {LS : Nat} {rm : Nat → Nat → Option Nat} {im : Nat → Nat → Int32} {P : Option Value → (Nat → Nat → Int32) → Prop} {a h : Nat} (hA : isPe LS rm a) (hh : im (a + 1) 2 = nI h) (hb : h < 40) (h0 : (h + 1) % 4 ≠ 0 → P none (en_u2 im (a + 1) 2 (nI (h + 1)))) (h1 : (h + 1) % 4 = 0 → P none (en_u2 (en_ur (en_ur (en_u2 im (a + 1) 2 (nI (h + 1))) (a + 5) (va_cpy (im (a + 2)) (im (a + 5)) 0 0 16)) (a + 6) (va_cpy (im (a + 3)) (im (a + 6)) 0 0 16)) (a + 4) 2 (nI (h + 1)))) : Gm LS rm 85 0 (en_in 85 [.ref a]) [] im P := by
  show Gm LS rm 85 0 [.ref (a)] [] im P
  refine g_aload_n k85_0 rfl ?_
  refine g_getr k85_1 (hA.1) (by decide) (hA.2.1) ?_
  refine g_dup k85_4 rfl ?_
  refine g_getv (v := nI h) k85_5 (hA.2.2.2.2.1.1) (by decide) (hh) ?_
  refine g_iconst (v := 1) k85_8 ic_1 ?_
  refine g_iadd k85_9 ?_
  refine g_top (y := nI (h + 1)) (nI_1 h) ?_
  refine g_puti k85_10 (by decide) (hA.2.2.2.2.1.1) (by decide) ?_
  refine g_aload_n k85_13 rfl ?_
  refine g_getr k85_14 (hA.1) (by decide) (hA.2.1) ?_
  refine g_getv (v := nI (h + 1)) k85_17 (hA.2.2.2.2.1.1) (by decide) (u2_eq) ?_
  refine g_iconst (v := 4) k85_20 ic_4 ?_
  refine g_irem k85_21 (by decide) ?_
  refine g_top (y := nI ((h + 1) % 4)) (pk_rem (d := 4) (by omega) (by decide) (by decide)) ?_
  refine g_if_ne k85_22 (fun g => ?_) (fun g => ?_)
  · exact g_retv k85_36 rfl (h0 (fun z => g (by rw [z]; rfl)))
  · have hz : (h + 1) % 4 = 0 := Decidable.byContradiction (fun z => nI_ne0 (Nat.pos_of_ne_zero z) (by omega) g)
    refine g_aload_n k85_25 rfl ?_
    refine g_getr k85_26 (hA.1) (by decide) (hA.2.2.1) ?_
    refine g_aload_n k85_29 rfl ?_
    refine g_getr k85_30 (hA.1) (by decide) (hA.2.1) ?_
    refine g_inv1 k85_33 (hA.2.2.2.2.2.1.1) rfl (by decide) (Nat.le_of_ble_eq_true rfl) (c83 (a := a + 4) (b := a + 1) (hA.2.2.2.2.2.1) (hA.2.2.2.2.1) (by omega) ?_)
    have h1 := h1 hz
    rw [show a + 4 + 1 = a + 5 from rfl, show a + 4 + 2 = a + 6 from rfl, show a + 1 + 1 = a + 2 from rfl, show a + 1 + 2 = a + 3 from rfl, en_u2_off (b := a + 2) (by omega), en_u2_off (b := a + 5) (by omega), en_u2_off (b := a + 3) (by omega), en_u2_off (b := a + 6) (by omega), u2_eq]
    exact g_retv k85_36 rfl (h1)
end
section
theorem and1 (x : Int32) : x &&& 1 = 0 ∨ x &&& 1 = 1 := by
  have h := pk_and x (m := 1) 1 (by decide)
  rcases Nat.mod_two_eq_zero_or_one x.toBitVec.toNat with e | e
  · left; rw [h, show (2 : Nat) ^ 1 = 2 from rfl, e]; rfl
  · right; rw [h, show (2 : Nat) ^ 1 = 2 from rfl, e]; rfl
/-- how many of the n from s on have the bit x -/
def cmN (f : Nat → Int32) (x : Int32) (s : Nat) : Nat → Nat
  | 0 => 0
  | n + 1 => cmN f x s n + (if (f (s + n) >>> (x &&& 31)) &&& 1 = 1 then 1 else 0)
theorem cmN_le (f : Nat → Int32) (x : Int32) (s : Nat) : ∀ n, cmN f x s n ≤ n := by
  intro n
  induction n with
  | zero => exact Nat.le_refl _
  | succ n ih =>
    unfold cmN
    split <;> omega
set_option maxRecDepth 20000 in
set_option maxHeartbeats 4000000 in
theorem l43 {LS : Nat} {rm : Nat → Nat → Option Nat} {im : Nat → Nat → Int32} {P : Option Value → (Nat → Nat → Int32) → Prop} {a h n : Nat} {x : Int32} (hA : isPr LS rm a) (hh : im a 4 = nI h) (hb : h ≤ 9) (hn : n ≤ h) (h1 : P (some (.int (nI (cmN (im (a + 3)) x (h - n) n)))) im) : ∀ (r i : Nat), i + r = n → Gm LS rm 43 10 [.ref a, .int (nI n), .int x, .int (nI (cmN (im (a + 3)) x (h - n) i)), .int (nI (h - n + i))] [] im P := by
  intro r
  induction r with
  | zero =>
    intro i hi
    have hie : n = i := by omega
    subst hie
    refine g_iload k43_10 rfl ?_
    refine g_aload_n k43_12 rfl ?_
    refine g_getv (v := nI h) k43_13 (hA.1) (by decide) (hh) ?_
    refine g_icmp_ge k43_16 (fun _ => ?_) (fun h => absurd (nI_le (by omega) (by omega)) h)
    refine g_iload_n k43_39 rfl ?_
    exact g_reti k43_40 rfl (h1)
  | succ r ih =>
    intro i hi
    refine g_iload k43_10 rfl ?_
    refine g_aload_n k43_12 rfl ?_
    refine g_getv (v := nI h) k43_13 (hA.1) (by decide) (hh) ?_
    refine g_icmp_ge k43_16 (fun h => absurd h (nI_ge (by omega) (by omega))) (fun _ => ?_)
    refine g_iload_n k43_19 rfl ?_
    refine g_aload_n k43_20 rfl ?_
    refine g_getr k43_21 (hA.1) (by decide) (hA.2.2.2.1) ?_
    refine g_iload k43_24 rfl ?_
    refine g_ialv k43_26 (hA.2.2.2.2.2.2) (by omega) (by decide) (rfl) ?_
    refine g_iload_n k43_27 rfl ?_
    refine g_ishr k43_28 ?_
    refine g_iconst (v := 1) k43_29 ic_1 ?_
    refine g_iand k43_30 ?_
    refine g_iadd k43_31 ?_
    have e1 : nI (cmN (im (a + 3)) x (h - n) i) + ((im (a + 3) (h - n + i) >>> (x &&& 31)) &&& 1) = nI (cmN (im (a + 3)) x (h - n) (i + 1)) := by
      rcases and1 (im (a + 3) (h - n + i) >>> (x &&& 31)) with e | e
      · rw [e]
        show _ = nI (cmN (im (a + 3)) x (h - n) i + (if (im (a + 3) (h - n + i) >>> (x &&& 31)) &&& 1 = 1 then 1 else 0))
        rw [e, if_neg (by decide), show (0 : Int32) = nI 0 from rfl, nI_add]
      · rw [e]
        show _ = nI (cmN (im (a + 3)) x (h - n) i + (if (im (a + 3) (h - n + i) >>> (x &&& 31)) &&& 1 = 1 then 1 else 0))
        rw [e, if_pos rfl]
        exact nI_1 _
    refine g_top e1 ?_
    refine g_istore_n k43_32 (by decide) rfl ?_
    refine g_iincv (y := nI (h - n + (i + 1))) k43_33 rfl (by decide) (inc_1 _) rfl ?_
    refine g_goto k43_36 ?_
    exact ih (i + 1) (by omega)

set_option maxRecDepth 20000 in
set_option maxHeartbeats 4000000 in
theorem c43 {LS : Nat} {rm : Nat → Nat → Option Nat} {im : Nat → Nat → Int32} {P : Option Value → (Nat → Nat → Int32) → Prop} {a h n : Nat} {x : Int32} (hA : isPr LS rm a) (hh : im a 4 = nI h) (hb : h ≤ 9) (hn : n ≤ h) (h1 : P (some (.int (nI (cmN (im (a + 3)) x (h - n) n)))) im) : Gm LS rm 43 0 (en_in 43 [.ref a, .int (nI n), .int x]) [] im P := by
  show Gm LS rm 43 0 [.ref (a), .int (nI n), .int (x), .long 0, .long 0] [] im P
  refine g_iconst (v := 0) k43_0 ic_0 ?_
  refine g_istore_n k43_1 (by decide) rfl ?_
  refine g_aload_n k43_2 rfl ?_
  refine g_getv (v := nI h) k43_3 (hA.1) (by decide) (hh) ?_
  refine g_iload_n k43_6 rfl ?_
  refine g_isub k43_7 ?_
  refine g_top (y := nI (h - n)) (pk_sub hn) ?_
  refine g_istore k43_8 (by decide) rfl ?_
  exact l43 hA hh hb hn h1 n 0 (by omega)

def lfN (q : Nat) : Nat → Int32
  | 0 => 0
  | i + 1 => lfN q i ||| ((((nI i) >>> ((nI q) &&& 31)) &&& 1) <<< ((nI i) &&& 31))
set_option maxRecDepth 20000 in
set_option maxHeartbeats 4000000 in
theorem l41 {LS : Nat} {rm : Nat → Nat → Option Nat} {im : Nat → Nat → Int32} {P : Option Value → (Nat → Nat → Int32) → Prop} {a q h r : Nat} (hA : isPr LS rm a) (hh : im a 4 = nI h) (hr : im a 5 = nI r) (hb : h ≤ r) (hr9 : r ≤ 9) (h0 : r = 9 → P (some (.int 0)) im) (h1 : r < 9 → P (some (.int 1)) (en_u2 (en_u2 (en_u2 im (a + 3) h (lfN q 16)) a 4 (nI (h + 1))) a 5 (nI (r + 1)))) (hlt : r < 9) : ∀ (n i : Nat), i + n = 16 → Gm LS rm 41 15 [.ref (a), .int (nI q), .int (lfN q i), .int (nI i)] [] (im) P := by
  intro n
  induction n with
  | zero =>
    intro i hi
    have hie : i = 16 := by omega
    subst hie
    refine g_iload_n k41_15 rfl ?_
    refine g_bipush (v := 16) k41_16 bp_16 ?_
    refine g_icmp_ge k41_18 (fun _ => ?_) (fun h => absurd (nI_le (Nat.le_refl _) (by decide)) h)
    refine g_aload_n k41_37 rfl ?_
    refine g_iload_n k41_38 rfl ?_
    refine g_inv1 k41_39 (hA.1) rfl (by decide) (Nat.le_of_ble_eq_true rfl) (c44 hA hh hr (by omega) ?_)
    refine g_iconst (v := 1) k41_42 ic_1 ?_
    exact g_retz k41_43 rfl (by decide) (h1 hlt)
  | succ n ih =>
    intro i hi
    have hlt2 : i < 16 := by omega
    refine g_iload_n k41_15 rfl ?_
    refine g_bipush (v := 16) k41_16 bp_16 ?_
    refine g_icmp_ge k41_18 (fun h => absurd h (nI_ge hlt2 (by decide))) (fun _ => ?_)
    refine g_iload_n k41_21 rfl ?_
    refine g_iload_n k41_22 rfl ?_
    refine g_iload_n k41_23 rfl ?_
    refine g_ishr k41_24 ?_
    refine g_iconst (v := 1) k41_25 ic_1 ?_
    refine g_iand k41_26 ?_
    refine g_iload_n k41_27 rfl ?_
    refine g_ishl k41_28 ?_
    refine g_ior k41_29 ?_
    refine g_istore_n k41_30 (by decide) rfl ?_
    refine g_iincv (y := nI (i + 1)) k41_31 rfl (by decide) (inc_1 i) rfl ?_
    refine g_goto k41_34 ?_
    exact ih (i + 1) (by omega)

set_option maxRecDepth 20000 in
set_option maxHeartbeats 4000000 in
theorem c41 {LS : Nat} {rm : Nat → Nat → Option Nat} {im : Nat → Nat → Int32} {P : Option Value → (Nat → Nat → Int32) → Prop} {a q h r : Nat} (hA : isPr LS rm a) (hh : im a 4 = nI h) (hr : im a 5 = nI r) (hb : h ≤ r) (hr9 : r ≤ 9) (h0 : r = 9 → P (some (.int 0)) im) (h1 : r < 9 → P (some (.int 1)) (en_u2 (en_u2 (en_u2 im (a + 3) h (lfN q 16)) a 4 (nI (h + 1))) a 5 (nI (r + 1)))) : Gm LS rm 41 0 (en_in 41 [.ref a, .int (nI q)]) [] im P := by
  show Gm LS rm 41 0 [.ref (a), .int (nI q), .long 0, .long 0] [] im P
  refine g_aload_n k41_0 rfl ?_
  refine g_getv (v := nI r) k41_1 (hA.1) (by decide) (hr) ?_
  refine g_bipush (v := 9) k41_4 bp_9 ?_
  refine g_icmp_lt k41_6 (fun h => ?_) (fun h => ?_)
  · have hlt : r < 9 := (nI_ltI (by omega) (by decide)).mp h
    refine g_iconst (v := 0) k41_11 ic_0 ?_
    refine g_istore_n k41_12 (by decide) rfl ?_
    refine g_iconst (v := 0) k41_13 ic_0 ?_
    refine g_istore_n k41_14 (by decide) rfl ?_
    exact l41 hA hh hr hb hr9 h0 h1 hlt 16 0 (by omega)
  · refine g_iconst (v := 0) k41_9 ic_0 ?_
    exact g_retz k41_10 rfl (by decide) (h0 (by have : ¬ r < 9 := fun z => h ((nI_ltI (b := 9) (by omega) (by decide)).mpr z); omega))

def jnN (f : Nat → Int32) (s n k : Nat) : Nat → Int32
  | 0 => 0
  | i + 1 => if k ≤ cmN f (nI i) s n then jnN f s n k i ||| ((1 : Int32) <<< ((nI i) &&& 31)) else jnN f s n k i
set_option maxRecDepth 20000 in
set_option maxHeartbeats 4000000 in
theorem l42 {LS : Nat} {rm : Nat → Nat → Option Nat} {im : Nat → Nat → Int32} {P : Option Value → (Nat → Nat → Int32) → Prop} {a kk n h r : Nat} (hA : isPr LS rm a) (hh : im a 4 = nI h) (hr : im a 5 = nI r) (hb : h ≤ r) (hr9 : r ≤ 9) (hn0 : 1 ≤ n) (hn : n ≤ 4) (hk : kk ≤ n) (h0 : (r = 9 ∨ h < n) → P (some (.int 0)) im) (h1 : r < 9 → n ≤ h → P (some (.int 1)) (en_u2 (en_u2 (en_u2 (en_u2 im a 4 (nI (h - n))) (a + 3) (h - n) (jnN (im (a + 3)) (h - n) n kk 16)) a 4 (nI (h - n + 1))) a 5 (nI (r + 1)))) (hlt : r < 9) (hnh : n ≤ h) : ∀ (rr i : Nat), i + rr = 16 → Gm LS rm 42 24 [.ref (a), .int (nI kk), .int (nI n), .int (jnN (im (a + 3)) (h - n) n kk i), .int (nI i)] [] (im) P := by
  intro rr
  induction rr with
  | zero =>
    intro i hi
    have hie : i = 16 := by omega
    subst hie
    refine g_iload k42_24 rfl ?_
    refine g_bipush (v := 16) k42_26 bp_16 ?_
    refine g_icmp_ge k42_28 (fun _ => ?_) (fun h => absurd (nI_le (Nat.le_refl _) (by decide)) h)
    refine g_aload_n k42_55 rfl ?_
    refine g_dup k42_56 rfl ?_
    refine g_getv (v := nI h) k42_57 (hA.1) (by decide) (hh) ?_
    refine g_iload_n k42_60 rfl ?_
    refine g_isub k42_61 ?_
    refine g_top (y := nI (h - n)) (pk_sub hnh) ?_
    refine g_puti k42_62 (by decide) (hA.1) (by decide) ?_
    refine g_aload_n k42_65 rfl ?_
    refine g_iload_n k42_66 rfl ?_
    refine g_inv1 k42_67 (hA.1) rfl (by decide) (Nat.le_of_ble_eq_true rfl) (c44 (h := h - n) (r := r) hA u2_eq (by rw [u2_ne (by omega)]; exact hr) (by omega) ?_)
    refine g_iconst (v := 1) k42_70 ic_1 ?_
    exact g_retz k42_71 rfl (by decide) (h1 hlt hnh)
  | succ rr ih =>
    intro i hi
    have hlt2 : i < 16 := by omega
    refine g_iload k42_24 rfl ?_
    refine g_bipush (v := 16) k42_26 bp_16 ?_
    refine g_icmp_ge k42_28 (fun h => absurd h (nI_ge hlt2 (by decide))) (fun _ => ?_)
    refine g_aload_n k42_31 rfl ?_
    refine g_iload_n k42_32 rfl ?_
    refine g_iload k42_33 rfl ?_
    refine g_inv2 k42_35 (hA.1) rfl rfl (by decide) (Nat.le_of_ble_eq_true rfl) (c43 (x := nI i) hA hh (by omega) hnh ?_)
    refine g_iload_n k42_38 rfl ?_
    refine g_icmp_lt k42_39 (fun g => ?_) (fun g => ?_)
    · have hlk : ¬ kk ≤ cmN (im (a + 3)) (nI i) (h - n) n := fun z => nI_nlt z (by have := cmN_le (im (a + 3)) (nI i) (h - n) n; omega) g
      refine g_iincv (y := nI (i + 1)) k42_49 rfl (by decide) (inc_1 i) rfl ?_
      refine g_goto k42_52 ?_
      have e1 : jnN (im (a + 3)) (h - n) n kk (i + 1) = jnN (im (a + 3)) (h - n) n kk i := if_neg hlk
      have := ih (i + 1) (by omega)
      rw [e1] at this
      exact this
    · have hlk : kk ≤ cmN (im (a + 3)) (nI i) (h - n) n := Nat.not_lt.mp (fun z => g (nI_lt z (by omega)))
      refine g_iload_n k42_42 rfl ?_
      refine g_iconst (v := 1) k42_43 ic_1 ?_
      refine g_iload k42_44 rfl ?_
      refine g_ishl k42_46 ?_
      refine g_ior k42_47 ?_
      refine g_istore_n k42_48 (by decide) rfl ?_
      refine g_iincv (y := nI (i + 1)) k42_49 rfl (by decide) (inc_1 i) rfl ?_
      refine g_goto k42_52 ?_
      have e1 : jnN (im (a + 3)) (h - n) n kk (i + 1) = jnN (im (a + 3)) (h - n) n kk i ||| ((1 : Int32) <<< ((nI i) &&& 31)) := if_pos hlk
      have := ih (i + 1) (by omega)
      rw [e1] at this
      exact this

set_option maxRecDepth 20000 in
set_option maxHeartbeats 4000000 in
theorem c42 {LS : Nat} {rm : Nat → Nat → Option Nat} {im : Nat → Nat → Int32} {P : Option Value → (Nat → Nat → Int32) → Prop} {a kk n h r : Nat} (hA : isPr LS rm a) (hh : im a 4 = nI h) (hr : im a 5 = nI r) (hb : h ≤ r) (hr9 : r ≤ 9) (hn0 : 1 ≤ n) (hn : n ≤ 4) (hk : kk ≤ n) (h0 : (r = 9 ∨ h < n) → P (some (.int 0)) im) (h1 : r < 9 → n ≤ h → P (some (.int 1)) (en_u2 (en_u2 (en_u2 (en_u2 im a 4 (nI (h - n))) (a + 3) (h - n) (jnN (im (a + 3)) (h - n) n kk 16)) a 4 (nI (h - n + 1))) a 5 (nI (r + 1)))) : Gm LS rm 42 0 (en_in 42 [.ref a, .int (nI kk), .int (nI n)]) [] im P := by
  show Gm LS rm 42 0 [.ref (a), .int (nI kk), .int (nI n), .long 0, .long 0] [] im P
  refine g_aload_n k42_0 rfl ?_
  refine g_getv (v := nI r) k42_1 (hA.1) (by decide) (hr) ?_
  refine g_bipush (v := 9) k42_4 bp_9 ?_
  refine g_icmp_ge k42_6 (fun g => ?_) (fun g => ?_)
  · refine g_iconst (v := 0) k42_17 ic_0 ?_
    exact g_retz k42_18 rfl (by decide) (h0 (Or.inl (by have : ¬ r < 9 := fun z => nI_ge z (by decide) g; omega)))
  · have hlt : r < 9 := Nat.not_le.mp (fun z => g (nI_le z (by omega)))
    refine g_aload_n k42_9 rfl ?_
    refine g_getv (v := nI h) k42_10 (hA.1) (by decide) (hh) ?_
    refine g_iload_n k42_13 rfl ?_
    refine g_icmp_ge k42_14 (fun e => ?_) (fun e => ?_)
    · have hnh : n ≤ h := (nI_leI (by omega) (by omega)).mp e
      refine g_iconst (v := 0) k42_19 ic_0 ?_
      refine g_istore_n k42_20 (by decide) rfl ?_
      refine g_iconst (v := 0) k42_21 ic_0 ?_
      refine g_istore k42_22 (by decide) rfl ?_
      exact l42 hA hh hr hb hr9 hn0 hn hk h0 h1 hlt hnh 16 0 (by omega)
    · refine g_iconst (v := 0) k42_17 ic_0 ?_
      exact g_retz k42_18 rfl (by decide) (h0 (Or.inr (Nat.not_le.mp (fun z => e (nI_le z (by omega))))))

def isLT (im : Nat → Nat → Int32) (a n t : Nat) : Prop := im a 1 = nI n ∧ n ≤ 40 ∧ t < 100000 ∧ ((n = 0 ∧ t = 0) ∨ (0 < n ∧ ∃ m, m < 60 ∧ im (a + 1) (n - 1) = nI m ∧ im (2 * m + 210) 2 = nI t))
theorem c25t {LS : Nat} {rm : Nat → Nat → Option Nat} {im : Nat → Nat → Int32} {P : Option Value → (Nat → Nat → Int32) → Prop} {a n t : Nat} (hM : isLd LS rm) (hA : isBL LS rm a) (hT : isLT im a n t) (h1 : P (some (.int (nI t))) im) : Gm LS rm 25 0 (en_in 25 [.ref 1, .ref a]) [] im P := by
  obtain ⟨hn, hb, -, h | ⟨h, m, hm, e1, e2⟩⟩ := hT
  · obtain ⟨rfl, rfl⟩ := h
    exact c25 (m := 0) hM hA hn hb (fun z => absurd z (by decide)) (fun _ => h1) (fun z => absurd z (by decide))
  · refine c25 (m := m) hM hA hn hb (fun _ => ⟨e1, hm⟩) (fun z => by omega) (fun _ => ?_)
    rw [e2]
    exact h1
set_option maxRecDepth 20000 in
set_option maxHeartbeats 4000000 in
theorem c24 {LS : Nat} {rm : Nat → Nat → Option Nat} {im : Nat → Nat → Int32} {P : Option Value → (Nat → Nat → Int32) → Prop} {a b n1 n2 t1 t2 : Nat} (hM : isLd LS rm) (hA : isBL LS rm a) (hB : isBL LS rm b) (hTa : isLT im a n1 t1) (hTb : isLT im b n2 t2) (h1 : (t2 < t1 ∨ (t1 = t2 ∧ n2 < n1)) → P (some (.int 1)) im) (h0 : ¬ (t2 < t1 ∨ (t1 = t2 ∧ n2 < n1)) → P (some (.int 0)) im) : Gm LS rm 24 0 (en_in 24 [.ref 1, .ref a, .ref b]) [] im P := by
  show Gm LS rm 24 0 [.ref (1), .ref (a), .ref (b), .long 0, .long 0] [] im P
  have x1 := hTa.2.2.1
  have x2 := hTb.2.2.1
  have x3 := hTa.2.1
  have x4 := hTb.2.1
  refine g_aload_n k24_0 rfl ?_
  refine g_aload_n k24_1 rfl ?_
  refine g_inv1 k24_2 (hM.1.1) rfl (by decide) (Nat.le_of_ble_eq_true rfl) (c25t hM hA hTa ?_)
  refine g_istore_n k24_5 (by decide) rfl ?_
  refine g_aload_n k24_6 rfl ?_
  refine g_aload_n k24_7 rfl ?_
  refine g_inv1 k24_8 (hM.1.1) rfl (by decide) (Nat.le_of_ble_eq_true rfl) (c25t hM hB hTb ?_)
  refine g_istore k24_11 (by decide) rfl ?_
  refine g_iload_n k24_13 rfl ?_
  refine g_iload k24_14 rfl ?_
  refine g_icmp_gt k24_16 (fun g => ?_) (fun g => ?_)
  · refine g_iconst (v := 1) k24_36 ic_1 ?_
    refine g_goto k24_37 ?_
    exact g_retz k24_41 rfl (by decide) (h1 (Or.inl ((nI_ltI (by omega) (by omega)).mp g)))
  · have g1 : ¬ t2 < t1 := fun z => g (nI_lt z (by omega))
    refine g_iload_n k24_19 rfl ?_
    refine g_iload k24_20 rfl ?_
    refine g_icmp_ne k24_22 (fun e => ?_) (fun e => ?_)
    · have g2 : t1 ≠ t2 := fun z => e (by rw [z])
      refine g_iconst (v := 0) k24_40 ic_0 ?_
      exact g_retz k24_41 rfl (by decide) (h0 (fun z => z.elim g1 (fun y => g2 y.1)))
    · have g2 : t1 = t2 := (nI_eq (by omega) (by omega)).mp e
      refine g_aload_n k24_25 rfl ?_
      refine g_getv (v := nI n1) k24_26 (hA.1) (by decide) (hTa.1) ?_
      refine g_aload_n k24_29 rfl ?_
      refine g_getv (v := nI n2) k24_30 (hB.1) (by decide) (hTb.1) ?_
      refine g_icmp_le k24_33 (fun d => ?_) (fun d => ?_)
      · refine g_iconst (v := 0) k24_40 ic_0 ?_
        exact g_retz k24_41 rfl (by decide) (h0 (fun z => z.elim g1 (fun y => nI_ge (a := n2) (b := n1) y.2 (by omega) d)))
      · refine g_iconst (v := 1) k24_36 ic_1 ?_
        refine g_goto k24_37 ?_
        exact g_retz k24_41 rfl (by decide) (h1 (Or.inr ⟨g2, Nat.not_le.mp (fun z => d (nI_le z (by omega)))⟩))

def cntB (p : Nat → Bool) : Nat → Nat
  | 0 => 0
  | n + 1 => cntB p n + (if p n = true then 1 else 0)
theorem cntB_le (p : Nat → Bool) : ∀ n, cntB p n ≤ n := by
  intro n
  induction n with
  | zero => exact Nat.le_refl _
  | succ n ih =>
    unfold cntB
    split <;> omega
def sup (im : Nat → Nat → Int32) (n t : Nat → Nat) (o i : Nat) : Bool := decide (im (3 * i + 330) 0 ≠ 0) && !decide (t o < t i ∨ (t i = t o ∧ n o < n i))
set_option maxRecDepth 20000 in
set_option maxHeartbeats 4000000 in
theorem l23 {LS : Nat} {rm : Nat → Nat → Option Nat} {im : Nat → Nat → Int32} {P : Option Value → (Nat → Nat → Int32) → Prop} {n t : Nat → Nat} {o : Nat} (hM : isLd LS rm) (ho : o < 3) (hT : ∀ i, i < 3 → isLT im (3 * i + 331) (n i) (t i)) (h1 : P (some (.int (nI (cntB (sup im n t o) 3)))) im) : ∀ (rr i : Nat), i + rr = 3 → Gm LS rm 23 4 [.ref (1), .int (nI o), .int (nI (cntB (sup im n t o) i)), .int (nI i)] [] (im) P := by
  intro rr
  induction rr with
  | zero =>
    intro i hi
    have hie : i = 3 := by omega
    subst hie
    refine g_iload_n k23_4 rfl ?_
    refine g_iconst (v := 3) k23_5 ic_3 ?_
    refine g_icmp_ge k23_6 (fun _ => ?_) (fun h => absurd (nI_le (Nat.le_refl _) (by decide)) h)
    refine g_iload_n k23_55 rfl ?_
    exact g_reti k23_56 rfl (h1)
  | succ rr ih =>
    intro i hi
    have hlt : i < 3 := by omega
    refine g_iload_n k23_4 rfl ?_
    refine g_iconst (v := 3) k23_5 ic_3 ?_
    refine g_icmp_ge k23_6 (fun h => absurd h (nI_ge hlt (by decide))) (fun _ => ?_)
    refine g_aload_n k23_9 rfl ?_
    refine g_getr k23_10 (hM.1.1) (by decide) (hM.1.2.2.2.2.2.1) ?_
    refine g_iload_n k23_13 rfl ?_
    refine g_aalv (t := 3) k23_14 (hM.1.2.2.2.2.2.2.2.2.2.2.2.2.2.1) ⟨_, rfl⟩ (hlt) (by decide) ((hM.2.2.2.2.1 i (hlt)).1) ?_
    refine g_geti k23_15 ((hM.2.2.2.2.1 i (hlt)).2.1) (by decide) ?_
    refine g_if_eq k23_18 (fun h => ?_) (fun h => ?_)
    · refine g_iincv (y := nI (i + 1)) k23_49 rfl (by decide) (inc_1 i) rfl ?_
      refine g_goto k23_52 ?_
      have e1 : cntB (sup im n t o) (i + 1) = cntB (sup im n t o) i := by
        show _ + (if sup im n t o i = true then 1 else 0) = _
        rw [if_neg (by simp [sup, h])]
        rfl
      have := ih (i + 1) (by omega)
      rw [e1] at this
      exact this
    · refine g_aload_n k23_21 rfl ?_
      refine g_aload_n k23_22 rfl ?_
      refine g_getr k23_23 (hM.1.1) (by decide) (hM.1.2.2.2.2.2.1) ?_
      refine g_iload_n k23_26 rfl ?_
      refine g_aalv (t := 3) k23_27 (hM.1.2.2.2.2.2.2.2.2.2.2.2.2.2.1) ⟨_, rfl⟩ (hlt) (by decide) ((hM.2.2.2.2.1 i (hlt)).1) ?_
      refine g_getr k23_28 ((hM.2.2.2.2.1 i (hlt)).2.1) (by decide) ((hM.2.2.2.2.1 i (hlt)).2.2.1) ?_
      refine g_aload_n k23_31 rfl ?_
      refine g_getr k23_32 (hM.1.1) (by decide) (hM.1.2.2.2.2.2.1) ?_
      refine g_iload_n k23_35 rfl ?_
      refine g_aalv (t := 3) k23_36 (hM.1.2.2.2.2.2.2.2.2.2.2.2.2.2.1) ⟨_, rfl⟩ (ho) (by decide) ((hM.2.2.2.2.1 o (ho)).1) ?_
      refine g_getr k23_37 ((hM.2.2.2.2.1 o (ho)).2.1) (by decide) ((hM.2.2.2.2.1 o (ho)).2.2.1) ?_
      refine g_inv2 k23_40 (hM.1.1) rfl rfl (by decide) (Nat.le_of_ble_eq_true rfl) (c24 hM (hM.2.2.2.2.1 i hlt).2.2.2 (hM.2.2.2.2.1 o ho).2.2.2 (hT i hlt) (hT o ho) (fun g => ?_) (fun g => ?_))
      · refine g_if_ne k23_43 (fun _ => ?_) (fun h => absurd h (by decide))
        refine g_iincv (y := nI (i + 1)) k23_49 rfl (by decide) (inc_1 i) rfl ?_
        refine g_goto k23_52 ?_
        have e1 : cntB (sup im n t o) (i + 1) = cntB (sup im n t o) i := by
          show _ + (if sup im n t o i = true then 1 else 0) = _
          rw [if_neg (by simp only [sup, g]; simp)]
          rfl
        have := ih (i + 1) (by omega)
        rw [e1] at this
        exact this
      · refine g_if_ne k23_43 (fun h => absurd (by decide) h) (fun _ => ?_)
        refine g_iincv (y := nI (cntB (sup im n t o) i + 1)) k23_46 rfl (by decide) (inc_1 _) rfl ?_
        refine g_iincv (y := nI (i + 1)) k23_49 rfl (by decide) (inc_1 i) rfl ?_
        refine g_goto k23_52 ?_
        have e1 : cntB (sup im n t o) (i + 1) = cntB (sup im n t o) i + 1 := by
          show _ + (if sup im n t o i = true then 1 else 0) = _
          rw [if_pos (by simp only [sup, g]; simp [h])]
          skip
        have := ih (i + 1) (by omega)
        rw [e1] at this
        exact this

set_option maxRecDepth 20000 in
set_option maxHeartbeats 4000000 in
theorem c23 {LS : Nat} {rm : Nat → Nat → Option Nat} {im : Nat → Nat → Int32} {P : Option Value → (Nat → Nat → Int32) → Prop} {n t : Nat → Nat} {o : Nat} (hM : isLd LS rm) (ho : o < 3) (hT : ∀ i, i < 3 → isLT im (3 * i + 331) (n i) (t i)) (h1 : P (some (.int (nI (cntB (sup im n t o) 3)))) im) : Gm LS rm 23 0 (en_in 23 [.ref 1, .int (nI o)]) [] im P := by
  show Gm LS rm 23 0 [.ref (1), .int (nI o), .long 0, .long 0] [] im P
  refine g_iconst (v := 0) k23_0 ic_0 ?_
  refine g_istore_n k23_1 (by decide) rfl ?_
  refine g_iconst (v := 0) k23_2 ic_0 ?_
  refine g_istore_n k23_3 (by decide) rfl ?_
  exact l23 hM ho hT h1 3 0 (by omega)

def gtN (u : Nat → Bool) (t : Nat → Nat) : Nat → Nat
  | 0 => 0
  | n + 1 => if u n = true then max (gtN u t n) (t n) else gtN u t n
theorem gtN_le {u : Nat → Bool} {t : Nat → Nat} {B : Nat} : ∀ n, (∀ i, i < n → t i ≤ B) → gtN u t n ≤ B := by
  intro n
  induction n with
  | zero => intro _; exact Nat.zero_le _
  | succ n ih =>
    intro h
    have h1 := ih (fun i hi => h i (by omega))
    have h2 := h n (by omega)
    unfold gtN
    split <;> omega
def upB (im : Nat → Nat → Int32) (i : Nat) : Bool := decide (im (3 * i + 330) 0 ≠ 0)
set_option maxRecDepth 20000 in
set_option maxHeartbeats 4000000 in
theorem l26 {LS : Nat} {rm : Nat → Nat → Option Nat} {im : Nat → Nat → Int32} {P : Option Value → (Nat → Nat → Int32) → Prop} {t : Nat → Nat} (hM : isLd LS rm) (hT : ∀ i, i < 3 → im (3 * i + 330) 1 = nI (t i) ∧ t i ≤ 100000) (h1 : P (some (.int (nI (gtN (upB im) t 3)))) im) : ∀ (n i : Nat), i + n = 3 → Gm LS rm 26 4 [.ref (1), .int (nI (gtN (upB im) t i)), .int (nI i)] [] (im) P := by
  intro n
  induction n with
  | zero =>
    intro i hi
    have hie : i = 3 := by omega
    subst hie
    refine g_iload_n k26_4 rfl ?_
    refine g_iconst (v := 3) k26_5 ic_3 ?_
    refine g_icmp_ge k26_6 (fun _ => ?_) (fun h => absurd (nI_le (Nat.le_refl _) (by decide)) h)
    refine g_iload_n k26_41 rfl ?_
    exact g_reti k26_42 rfl (h1)
  | succ n ih =>
    intro i hi
    have hlt : i < 3 := by omega
    refine g_iload_n k26_4 rfl ?_
    refine g_iconst (v := 3) k26_5 ic_3 ?_
    refine g_icmp_ge k26_6 (fun h => absurd h (nI_ge hlt (by decide))) (fun _ => ?_)
    refine g_aload_n k26_9 rfl ?_
    refine g_getr k26_10 (hM.1.1) (by decide) (hM.1.2.2.2.2.2.1) ?_
    refine g_iload_n k26_13 rfl ?_
    refine g_aalv (t := 3) k26_14 (hM.1.2.2.2.2.2.2.2.2.2.2.2.2.2.1) ⟨_, rfl⟩ (hlt) (by decide) ((hM.2.2.2.2.1 i (hlt)).1) ?_
    refine g_geti k26_15 ((hM.2.2.2.2.1 i (hlt)).2.1) (by decide) ?_
    refine g_if_eq k26_18 (fun h => ?_) (fun h => ?_)
    · refine g_iincv (y := nI (i + 1)) k26_35 rfl (by decide) (inc_1 i) rfl ?_
      refine g_goto k26_38 ?_
      have e1 : gtN (upB im) t (i + 1) = gtN (upB im) t i := if_neg (by simp [upB, h])
      have := ih (i + 1) (by omega)
      rw [e1] at this
      exact this
    · have hg : gtN (upB im) t i ≤ 100000 := gtN_le i (fun j hj => (hT j (by omega)).2)
      have ht := (hT i hlt).2
      refine g_iload_n k26_21 rfl ?_
      refine g_aload_n k26_22 rfl ?_
      refine g_getr k26_23 (hM.1.1) (by decide) (hM.1.2.2.2.2.2.1) ?_
      refine g_iload_n k26_26 rfl ?_
      refine g_aalv (t := 3) k26_27 (hM.1.2.2.2.2.2.2.2.2.2.2.2.2.2.1) ⟨_, rfl⟩ (hlt) (by decide) ((hM.2.2.2.2.1 i (hlt)).1) ?_
      refine g_getv (v := nI (t i)) k26_28 ((hM.2.2.2.2.1 i (hlt)).2.1) (by decide) ((hT i hlt).1) ?_
      refine g_max k26_31 (Nat.le_of_ble_eq_true rfl) ?_
      refine g_top (y := nI (max (gtN (upB im) t i) (t i))) (by rcases Nat.lt_or_ge (gtN (upB im) t i) (t i) with z | z; rw [if_pos (nI_lt z (by omega)), Nat.max_eq_right (Nat.le_of_lt z)]; rw [if_neg (nI_nlt z (by omega)), Nat.max_eq_left z]) ?_
      refine g_istore_n k26_34 (by decide) rfl ?_
      refine g_iincv (y := nI (i + 1)) k26_35 rfl (by decide) (inc_1 i) rfl ?_
      refine g_goto k26_38 ?_
      have e1 : gtN (upB im) t (i + 1) = max (gtN (upB im) t i) (t i) := if_pos (by simp [upB, h])
      have := ih (i + 1) (by omega)
      rw [e1] at this
      exact this

set_option maxRecDepth 20000 in
set_option maxHeartbeats 4000000 in
theorem c26 {LS : Nat} {rm : Nat → Nat → Option Nat} {im : Nat → Nat → Int32} {P : Option Value → (Nat → Nat → Int32) → Prop} {t : Nat → Nat} (hM : isLd LS rm) (hT : ∀ i, i < 3 → im (3 * i + 330) 1 = nI (t i) ∧ t i ≤ 100000) (h1 : P (some (.int (nI (gtN (upB im) t 3)))) im) : Gm LS rm 26 0 (en_in 26 [.ref 1]) [] im P := by
  show Gm LS rm 26 0 [.ref (1), .long 0, .long 0] [] im P
  refine g_iconst (v := 0) k26_0 ic_0 ?_
  refine g_istore_n k26_1 (by decide) rfl ?_
  refine g_iconst (v := 0) k26_2 ic_0 ?_
  refine g_istore_n k26_3 (by decide) rfl ?_
  exact l26 hM hT h1 3 0 (by omega)
end
section
def tn (x : Int32) : Nat := x.toNatClampNeg
def isN (x : Int32) (B : Nat) : Prop := x = nI (tn x) ∧ tn x < B
theorem tn_nI {n : Nat} (h : n < 2 ^ 31) : tn (nI n) = n := nI_clamp h
theorem isN_of {n B : Nat} (h : n < B) (hB : B ≤ 2 ^ 31) : isN (nI n) B := by
  unfold isN
  rw [tn_nI (by omega)]
  exact ⟨rfl, h⟩
def allN (p : Nat → Bool) : Nat → Bool
  | 0 => true
  | n + 1 => allN p n && p n
def anyN (p : Nat → Bool) : Nat → Bool
  | 0 => false
  | n + 1 => anyN p n || p n
theorem allN_iff {p : Nat → Bool} : ∀ {n : Nat}, allN p n = true ↔ ∀ k, k < n → p k = true := by
  intro n
  induction n with
  | zero => simp [allN]
  | succ n ih =>
    unfold allN
    rw [Bool.and_eq_true, ih]
    constructor
    · rintro ⟨h1, h2⟩ k hk
      by_cases hkn : k = n
      · rw [hkn]; exact h2
      · exact h1 k (by omega)
    · intro h
      exact ⟨fun k hk => h k (by omega), h n (by omega)⟩
theorem anyN_iff {p : Nat → Bool} : ∀ {n : Nat}, anyN p n = true ↔ ∃ k, k < n ∧ p k = true := by
  intro n
  induction n with
  | zero => simp [anyN]
  | succ n ih =>
    unfold anyN
    rw [Bool.or_eq_true, ih]
    constructor
    · rintro (⟨k, h1, h2⟩ | h)
      · exact ⟨k, by omega, h2⟩
      · exact ⟨n, by omega, h⟩
    · rintro ⟨k, h1, h2⟩
      by_cases hkn : k = n
      · right; rw [← hkn]; exact h2
      · left; exact ⟨k, by omega, h2⟩
theorem allN_congr {p q : Nat → Bool} : ∀ {n : Nat}, (∀ k, k < n → p k = q k) → allN p n = allN q n := by
  intro n
  induction n with
  | zero => intro _; rfl
  | succ n ih => intro h; unfold allN; rw [ih (fun k hk => h k (by omega)), h n (by omega)]
theorem anyN_congr {p q : Nat → Bool} : ∀ {n : Nat}, (∀ k, k < n → p k = q k) → anyN p n = anyN q n := by
  intro n
  induction n with
  | zero => intro _; rfl
  | succ n ih => intro h; unfold anyN; rw [ih (fun k hk => h k (by omega)), h n (by omega)]
/-! the chain, blocks, members, as numbers -/
def chv (im : Nat → Nat → Int32) (i : Nat) : Nat := tn (im 8 i)
def szv (im : Nat → Nat → Int32) (m : Nat) : Nat := tn (im (2 * m + 210) 1)
def mbv (im : Nat → Nat → Int32) (m j : Nat) : Nat := tn (im (2 * m + 211) j)
def prv (im : Nat → Nat → Int32) (t : Nat) : Nat := tn (im (3 * t + 30) 0)
def hgv (im : Nat → Nat → Int32) (p : Nat) : Nat := tn (im (4 * p + 14) 4)
def okC (im : Nat → Nat → Int32) (N : Nat) : Prop := ∀ i, i < N → isN (im 8 i) 60 ∧ isN (im (2 * chv im i + 210) 1) 5 ∧ ∀ j, j < szv im (chv im i) → isN (im (2 * chv im i + 211) j) 60 ∧ isN (im (3 * mbv im (chv im i) j + 30) 0) 4 ∧ isN (im (4 * prv im (mbv im (chv im i) j) + 14) 4) 10
/-- does t stand in the chain ahead of place j of its block b? -/
def earB (im : Nat → Nat → Int32) (t : Int32) (b place : Nat) : Bool := anyN (fun i => anyN (fun j => decide (im (2 * chv im i + 211) j = t)) (szv im (chv im i))) b || anyN (fun j => decide (im (2 * chv im b + 211) j = t)) place
def rowB (im : Nat → Nat → Int32) (a s r : Nat) : Bool := allN (fun k => decide (im (a + 1) (16 * r + k) = -1) || decide (im (a + 1) (16 * r + k) = im (s + 1) k)) 16
def metB (im : Nat → Nat → Int32) (p : Nat) (e : Int32) : Bool := decide (0 < hgv im p) && decide ((im (4 * p + 17) (hgv im p - 1) >>> (e &&& 31)) &&& 1 = 1)
def jdg (im : Nat → Nat → Int32) (s b place : Nat) : Int32 :=
  let t := mbv im (chv im b) place
  if earB im (nI t) b place = true then 4 else if metB im (prv im t) (im (3 * t + 30) 2) = false then 1 else if rowB im (3 * t + 31) s 0 = false then 2 else if rowB im (3 * t + 31) s 1 = true ∧ rowB im (3 * t + 31) s 2 = true then 0 else 3
theorem rowB_t {im : Nat → Nat → Int32} {a s r : Nat} (h : ∀ k, k < 16 → im (a + 1) (16 * r + k) = -1 ∨ im (a + 1) (16 * r + k) = im (s + 1) k) : rowB im a s r = true := allN_iff.mpr (fun k hk => by rcases h k hk with e | e <;> simp [e])
theorem rowB_f {im : Nat → Nat → Int32} {a s r : Nat} (h : ¬ ∀ k, k < 16 → im (a + 1) (16 * r + k) = -1 ∨ im (a + 1) (16 * r + k) = im (s + 1) k) : rowB im a s r = false := by
  cases hb : rowB im a s r with
  | false => rfl
  | true =>
    exfalso
    apply h
    intro k hk
    have := allN_iff.mp hb k hk
    simpa using this
set_option maxRecDepth 20000 in
set_option maxHeartbeats 4000000 in
theorem l38 {LS : Nat} {rm : Nat → Nat → Option Nat} {im : Nat → Nat → Int32} {P : Option Value → (Nat → Nat → Int32) → Prop} {t : Int32} {b pl : Nat} (hM : isLd LS rm) (hC : okC im (b + 1)) (hb : b < 40) (hp : pl ≤ 4) (h1 : earB im t b pl = true → P (some (.int 1)) im) (h0 : earB im t b pl = false → P (some (.int 0)) im) : ∀ (n i : Nat), i + n = b → ∀ (u : Value), (∀ k, k < i → ∀ j, j < szv im (chv im k) → im (2 * chv im k + 211) j ≠ t) → Gm LS rm 38 3 [.ref (1), .int (t), .int (nI b), .int (nI pl), .int (nI i), u] [] (im) P := by
  intro n
  induction n with
  | zero =>
    intro i hi u hq
    have hie : b = i := by omega
    subst hie
    refine g_iload k38_3 rfl ?_
    refine g_iload_n k38_5 rfl ?_
    refine g_icmp_ge k38_6 (fun _ => ?_) (fun h => absurd (nI_le (Nat.le_refl _) (by omega)) h)
    obtain ⟨⟨x1, x2⟩, -, -⟩ := hC b (by omega)
    refine g_aload_n k38_39 rfl ?_
    refine g_iload_n k38_40 rfl ?_
    refine g_inv1 k38_41 (hM.1.1) rfl (by decide) (Nat.le_of_ble_eq_true rfl) (c35 (m := chv im b) hM (by omega) x1 x2 ?_)
    refine g_iload_n k38_44 rfl ?_
    refine g_iload_n k38_45 rfl ?_
    refine g_inv2 k38_46 ((hM.2.2.2.1 (chv im b) x2).2.1) rfl rfl (by decide) (Nat.le_of_ble_eq_true rfl) (c76 (c := pl) (hM.2.2.2.1 (chv im b) x2).2 hp (fun j hj e => ?_) (fun hno => ?_))
    · exact g_retz k38_49 rfl (by decide) (h1 (by unfold earB; rw [Bool.or_eq_true]; exact Or.inr (anyN_iff.mpr ⟨j, hj, by simpa using e⟩)))
    · refine g_retz k38_49 rfl (by decide) (h0 ?_)
      cases hb0 : earB im t b pl with
      | false => rfl
      | true =>
        exfalso
        unfold earB at hb0
        rw [Bool.or_eq_true] at hb0
        rcases hb0 with z | z
        · obtain ⟨k, hk, z⟩ := anyN_iff.mp z
          obtain ⟨j, hj, z⟩ := anyN_iff.mp z
          exact hq k hk j hj (by simpa using z)
        · obtain ⟨j, hj, z⟩ := anyN_iff.mp z
          exact hno j hj (by simpa using z)
  | succ n ih =>
    intro i hi u hq
    have hlt : i < b := by omega
    refine g_iload k38_3 rfl ?_
    refine g_iload_n k38_5 rfl ?_
    refine g_icmp_ge k38_6 (fun h => absurd h (nI_ge hlt (by omega))) (fun _ => ?_)
    obtain ⟨⟨x1, x2⟩, ⟨x3, x4⟩, -⟩ := hC i (by omega)
    refine g_aload_n k38_9 rfl ?_
    refine g_iload k38_10 rfl ?_
    refine g_inv1 k38_12 (hM.1.1) rfl (by decide) (Nat.le_of_ble_eq_true rfl) (c35 (m := chv im i) hM (by omega) x1 x2 ?_)
    refine g_astore k38_15 (by decide) rfl ?_
    refine g_aload k38_17 rfl ?_
    refine g_aload k38_19 rfl ?_
    refine g_getv (v := nI (szv im (chv im i))) k38_21 ((hM.2.2.2.1 (chv im i) x2).2.1) (by decide) (x3) ?_
    refine g_iload_n k38_24 rfl ?_
    refine g_inv2 k38_25 ((hM.2.2.2.1 (chv im i) x2).2.1) rfl rfl (by decide) (Nat.le_of_ble_eq_true rfl) (c76 (c := szv im (chv im i)) (hM.2.2.2.1 (chv im i) x2).2 (by unfold szv; omega) (fun q hqq e => ?_) (fun hno => ?_))
    · refine g_if_eq k38_28 (fun h => absurd h (by decide)) (fun _ => ?_)
      refine g_iconst (v := 1) k38_31 ic_1 ?_
      exact g_retz k38_32 rfl (by decide) (h1 (by unfold earB; rw [Bool.or_eq_true]; exact Or.inl (anyN_iff.mpr ⟨i, hlt, anyN_iff.mpr ⟨q, hqq, by simpa using e⟩⟩)))
    · refine g_if_eq k38_28 (fun _ => ?_) (fun h => absurd (by decide) h)
      refine g_iincv (y := nI (i + 1)) k38_33 rfl (by decide) (inc_1 i) rfl ?_
      refine g_goto k38_36 ?_
      exact ih (i + 1) (by omega) _ (fun k hk => by by_cases z : k = i; subst z; exact hno; exact hq k (by omega))

set_option maxRecDepth 20000 in
set_option maxHeartbeats 4000000 in
theorem c38 {LS : Nat} {rm : Nat → Nat → Option Nat} {im : Nat → Nat → Int32} {P : Option Value → (Nat → Nat → Int32) → Prop} {t : Int32} {b pl : Nat} (hM : isLd LS rm) (hC : okC im (b + 1)) (hb : b < 40) (hp : pl ≤ 4) (h1 : earB im t b pl = true → P (some (.int 1)) im) (h0 : earB im t b pl = false → P (some (.int 0)) im) : Gm LS rm 38 0 (en_in 38 [.ref 1, .int t, .int (nI b), .int (nI pl)]) [] im P := by
  show Gm LS rm 38 0 [.ref (1), .int (t), .int (nI b), .int (nI pl), .long 0, .long 0] [] im P
  refine g_iconst (v := 0) k38_0 ic_0 ?_
  refine g_istore k38_1 (by decide) rfl ?_
  exact l38 hM hC hb hp h1 h0 b 0 (by omega) _ (fun k hk => absurd hk (Nat.not_lt_zero k))

set_option maxRecDepth 20000 in
set_option maxHeartbeats 4000000 in
theorem c37 {LS : Nat} {rm : Nat → Nat → Option Nat} {im : Nat → Nat → Int32} {P : Option Value → (Nat → Nat → Int32) → Prop} {s b pl : Nat} (hM : isLd LS rm) (hS : isWS LS rm s) (hC : okC im (b + 1)) (hb : b < 40) (hp : pl < szv im (chv im b)) (h1 : P (some (.int (jdg im s b pl))) im) : Gm LS rm 37 0 (en_in 37 [.ref 1, .ref s, .int (nI b), .int (nI pl)]) [] im P := by
  show Gm LS rm 37 0 [.ref (1), .ref (s), .int (nI b), .int (nI pl), .long 0, .long 0] [] im P
  obtain ⟨⟨x1, x2⟩, ⟨x3, x4⟩, x5⟩ := hC b (by omega)
  obtain ⟨⟨y1, y2⟩, ⟨z1, z2⟩, ⟨w1, w2⟩⟩ := x5 pl hp
  have hs4 : szv im (chv im b) ≤ 4 := by unfold szv; omega
  unfold jdg at h1
  generalize ht : mbv im (chv im b) pl = t at h1 y1 y2 z1 z2 w1 w2
  have y1 : im (2 * chv im b + 211) pl = nI t := by rw [y1]; unfold mbv at ht; rw [ht]
  have y2 : t < 60 := by unfold mbv at ht; rw [← ht]; exact y2
  dsimp only at h1
  refine g_aload_n k37_0 rfl ?_
  refine g_iload_n k37_1 rfl ?_
  refine g_inv1 k37_2 (hM.1.1) rfl (by decide) (Nat.le_of_ble_eq_true rfl) (c35 (m := chv im b) hM (by omega) x1 x2 ?_)
  refine g_getr k37_5 ((hM.2.2.2.1 (chv im b) x2).2.1) (by decide) ((hM.2.2.2.1 (chv im b) x2).2.2.1) ?_
  refine g_iload_n k37_8 rfl ?_
  refine g_ialv (v := nI t) k37_9 ((hM.2.2.2.1 (chv im b) x2).2.2.2) (by omega) (by decide) (y1) ?_
  refine g_istore k37_10 (by decide) rfl ?_
  refine g_aload_n k37_12 rfl ?_
  refine g_getr k37_13 (hM.1.1) (by decide) (hM.1.2.2.1) ?_
  refine g_iload k37_16 rfl ?_
  refine g_aalv (t := 1) k37_18 (hM.1.2.2.2.2.2.2.2.2.2.2.1) ⟨_, rfl⟩ (y2) (by decide) ((hM.2.2.1 t (y2)).1) ?_
  refine g_astore k37_19 (by decide) rfl ?_
  refine g_aload_n k37_21 rfl ?_
  refine g_iload k37_22 rfl ?_
  refine g_iload_n k37_24 rfl ?_
  refine g_iload_n k37_25 rfl ?_
  refine g_inv3 k37_26 (hM.1.1) rfl rfl rfl (by decide) (Nat.le_of_ble_eq_true rfl) (c38 hM hC hb (by omega) (fun he => ?_) (fun he => ?_))
  · rw [if_pos he] at h1
    refine g_if_eq k37_29 (fun h => absurd h (by decide)) (fun _ => ?_)
    refine g_iconst (v := 4) k37_32 ic_4 ?_
    exact g_reti k37_33 rfl (h1)
  · rw [if_neg (by rw [he]; decide)] at h1
    refine g_if_eq k37_29 (fun _ => ?_) (fun h => absurd (by decide) h)
    refine g_aload_n k37_34 rfl ?_
    refine g_getr k37_35 (hM.1.1) (by decide) (hM.1.2.1) ?_
    refine g_aload k37_38 rfl ?_
    refine g_getv (v := nI (prv im t)) k37_40 ((hM.2.2.1 t (y2)).2.1) (by decide) (z1) ?_
    refine g_aalv (t := 0) k37_43 (hM.1.2.2.2.2.2.2.2.2.2.1) ⟨_, rfl⟩ (z2) (by decide) ((hM.2.1 (prv im t) (z2)).1) ?_
    refine g_aload k37_44 rfl ?_
    refine g_geti k37_46 ((hM.2.2.1 t (y2)).2.1) (by decide) ?_
    refine g_inv1 k37_49 ((hM.2.1 (prv im t) (z2)).2.1) rfl (by decide) (Nat.le_of_ble_eq_true rfl) (c45 (h := hgv im (prv im t)) (hM.2.1 (prv im t) z2).2 w1 (by unfold hgv; omega) (fun hz => ?_) (fun hz => ?_))
    · have hmf : metB im (prv im t) (im (3 * t + 30) 2) = false := by unfold metB; rw [hz]; rfl
      rw [if_pos hmf] at h1
      refine g_if_ne k37_52 (fun h => absurd (by decide) h) (fun _ => ?_)
      refine g_iconst (v := 1) k37_55 ic_1 ?_
      exact g_reti k37_56 rfl (h1)
    · by_cases hbit : (im (4 * prv im t + 17) (hgv im (prv im t) - 1) >>> (im (3 * t + 30) 2 &&& 31)) &&& 1 = 1
      · have hmt : metB im (prv im t) (im (3 * t + 30) 2) = true := by unfold metB; rw [Bool.and_eq_true]; exact ⟨decide_eq_true hz, decide_eq_true hbit⟩
        rw [if_neg (by rw [hmt]; decide)] at h1
        show Gm LS rm 37 52 _ [.int (if (im (4 * prv im t + 17) (hgv im (prv im t) - 1) >>> (im (3 * t + 30) 2 &&& 31)) &&& 1 = 1 then 1 else 0)] im P
        rw [if_pos hbit]
        refine g_if_ne k37_52 (fun _ => ?_) (fun h => absurd h (by decide))
        refine g_aload k37_57 rfl ?_
        refine g_getr k37_59 ((hM.2.2.1 t (y2)).2.1) (by decide) ((hM.2.2.1 t (y2)).2.2.1) ?_
        refine g_aload_n k37_62 rfl ?_
        refine g_inv1 k37_63 ((hM.2.2.1 t (y2)).2.2.2.1) rfl (by decide) (Nat.le_of_ble_eq_true rfl) (c66 (hM.2.2.1 t y2).2.2.2 hS (fun hr => ?_) (fun hr => ?_))
        · rw [if_neg (by rw [rowB_t hr]; decide)] at h1
          refine g_if_ne k37_66 (fun _ => ?_) (fun h => absurd h (by decide))
          refine g_aload k37_71 rfl ?_
          refine g_getr k37_73 ((hM.2.2.1 t (y2)).2.1) (by decide) ((hM.2.2.1 t (y2)).2.2.1) ?_
          refine g_aload_n k37_76 rfl ?_
          refine g_inv1 k37_77 ((hM.2.2.1 t (y2)).2.2.2.1) rfl (by decide) (Nat.le_of_ble_eq_true rfl) (c67 (hM.2.2.1 t y2).2.2.2 hS (fun q1 q2 => ?_) (fun qn => ?_))
          · rw [if_pos ⟨rowB_t q1, rowB_t q2⟩] at h1
            refine g_if_eq k37_80 (fun h => absurd h (by decide)) (fun _ => ?_)
            refine g_iconst (v := 0) k37_83 ic_0 ?_
            refine g_goto k37_84 ?_
            exact g_reti k37_88 rfl (h1)
          · rw [if_neg (fun z => qn ⟨fun k hk => by simpa using allN_iff.mp z.1 k hk, fun k hk => by simpa using allN_iff.mp z.2 k hk⟩)] at h1
            refine g_if_eq k37_80 (fun _ => ?_) (fun h => absurd (by decide) h)
            refine g_iconst (v := 3) k37_87 ic_3 ?_
            exact g_reti k37_88 rfl (h1)
        · rw [if_pos (rowB_f hr)] at h1
          refine g_if_ne k37_66 (fun h => absurd (by decide) h) (fun _ => ?_)
          refine g_iconst (v := 2) k37_69 ic_2 ?_
          exact g_reti k37_70 rfl (h1)
      · have hmf : metB im (prv im t) (im (3 * t + 30) 2) = false := by unfold metB; simp [hbit]
        rw [if_pos hmf] at h1
        show Gm LS rm 37 52 _ [.int (if (im (4 * prv im t + 17) (hgv im (prv im t) - 1) >>> (im (3 * t + 30) 2 &&& 31)) &&& 1 = 1 then 1 else 0)] im P
        rw [if_neg hbit]
        refine g_if_ne k37_52 (fun h => absurd (by decide) h) (fun _ => ?_)
        refine g_iconst (v := 1) k37_55 ic_1 ?_
        exact g_reti k37_56 rfl (h1)
end
section
theorem okC_ag {im im' : Nat → Nat → Int32} {N : Nat} (h : ∀ c, c < 339 → im' c = im c) (hC : okC im N) : okC im' N := by
  intro i hi
  obtain ⟨⟨x1, x2⟩, ⟨x3, x4⟩, x5⟩ := hC i hi
  have e8 : chv im' i = chv im i := by unfold chv; rw [h 8 (by omega)]
  have hc : chv im i < 60 := x2
  have es : szv im' (chv im' i) = szv im (chv im i) := by rw [e8]; unfold szv; rw [h _ (by omega)]
  refine ⟨by rw [h 8 (by omega)]; exact ⟨x1, x2⟩, by rw [e8, h _ (by omega)]; exact ⟨x3, x4⟩, fun j hj => ?_⟩
  rw [es] at hj
  obtain ⟨⟨y1, y2⟩, ⟨z1, z2⟩, ⟨w1, w2⟩⟩ := x5 j hj
  have em : mbv im' (chv im' i) j = mbv im (chv im i) j := by rw [e8]; unfold mbv; rw [h _ (by omega)]
  have hm : mbv im (chv im i) j < 60 := y2
  have ep : prv im' (mbv im (chv im i) j) = prv im (mbv im (chv im i) j) := by unfold prv; rw [h _ (by omega)]
  have hpp : prv im (mbv im (chv im i) j) < 4 := z2
  rw [em, e8, ep, h _ (by omega), h _ (by omega), h _ (by omega)]
  exact ⟨⟨y1, y2⟩, ⟨z1, z2⟩, ⟨w1, w2⟩⟩
theorem chv_ag {im im' : Nat → Nat → Int32} (h : ∀ c, c < 339 → im' c = im c) (i : Nat) : chv im' i = chv im i := by unfold chv; rw [h 8 (by omega)]
theorem szv_ag {im im' : Nat → Nat → Int32} (h : ∀ c, c < 339 → im' c = im c) {m : Nat} (hm : m < 60) : szv im' m = szv im m := by unfold szv; rw [h _ (by omega)]
theorem mbv_ag {im im' : Nat → Nat → Int32} (h : ∀ c, c < 339 → im' c = im c) {m : Nat} (hm : m < 60) (j : Nat) : mbv im' m j = mbv im m j := by unfold mbv; rw [h _ (by omega)]
/-! a block applied by peer p: i of its places done *-/
def apW (p b i t : Nat) (m1 : Nat → Nat → Int32) : Nat → Nat → Int32 := en_ur (en_ur m1 (8 * p + 341) (ws_v (m1 (3 * t + 32)) (nI (1 + 4 * b + i)) 16 (m1 (8 * p + 341)))) (8 * p + 342) (ws_w (m1 (3 * t + 32)) 16 (m1 (8 * p + 342)))
def apS (p b : Nat) (im : Nat → Nat → Int32) : Nat → (Nat → Nat → Int32) × Nat
  | 0 => (im, 0)
  | i + 1 =>
    if jdg (apS p b im i).1 (8 * p + 340) b i = 0 then (apW p b i (mbv im (chv im b) i) (en_u2 (apS p b im i).1 (8 * p + 346) (4 * b + i) (jdg (apS p b im i).1 (8 * p + 340) b i)), (apS p b im i).2 + 1)
    else (en_u2 (apS p b im i).1 (8 * p + 346) (4 * b + i) (jdg (apS p b im i).1 (8 * p + 340) b i), (apS p b im i).2)
theorem apS_off {p b : Nat} {im : Nat → Nat → Int32} {c : Nat} (h1 : c ≠ 8 * p + 341) (h2 : c ≠ 8 * p + 342) (h3 : c ≠ 8 * p + 346) : ∀ i, (apS p b im i).1 c = im c := by
  intro i
  induction i with
  | zero => rfl
  | succ i ih =>
    unfold apS
    split
    · show apW p b i _ _ c = im c
      unfold apW
      rw [en_ur_off h2, en_ur_off h1, en_u2_off h3]
      exact ih
    · show en_u2 _ _ _ _ c = im c
      rw [en_u2_off h3]
      exact ih
theorem apS_le {p b : Nat} {im : Nat → Nat → Int32} : ∀ i, (apS p b im i).2 ≤ i := by
  intro i
  induction i with
  | zero => exact Nat.le_refl _
  | succ i ih =>
    unfold apS
    split
    · show _ + 1 ≤ i + 1
      omega
    · show _ ≤ i + 1
      omega
def apF (p b : Nat) (q : Nat → Nat → Int32) : Nat → Nat → Int32 :=
  if (b + 1) % 4 = 0 then en_u2 (en_ur (en_ur (en_u2 q (8 * p + 340) 2 (nI (b + 1))) (8 * p + 344) (va_cpy (q (8 * p + 341)) (q (8 * p + 344)) 0 0 16)) (8 * p + 345) (va_cpy (q (8 * p + 342)) (q (8 * p + 345)) 0 0 16)) (8 * p + 343) 2 (nI (b + 1))
  else en_u2 q (8 * p + 340) 2 (nI (b + 1))
def apN (p b : Nat) (im : Nat → Nat → Int32) : Nat → Nat → Int32 := apF p b (apS p b im (szv im (chv im b))).1
theorem apF_lt {p b : Nat} {q : Nat → Nat → Int32} {c : Nat} (h : c < 8 * p + 340 ∨ 8 * p + 346 ≤ c) : apF p b q c = q c := by
  unfold apF
  split
  · rw [en_u2_off (by omega), en_ur_off (by omega), en_ur_off (by omega), en_u2_off (by omega)]
  · rw [en_u2_off (by omega)]
theorem apF_h {p b : Nat} {q : Nat → Nat → Int32} : apF p b q (8 * p + 340) 2 = nI (b + 1) := by
  unfold apF
  split
  · rw [en_u2_off (by omega), en_ur_off (by omega), en_ur_off (by omega), u2_eq]
  · rw [u2_eq]
theorem apN_lt {p b : Nat} {im : Nat → Nat → Int32} {c : Nat} (h : c < 8 * p + 340 ∨ 8 * p + 347 ≤ c) : apN p b im c = im c := by
  unfold apN
  rw [apF_lt (by omega), apS_off (by omega) (by omega) (by omega)]
set_option maxRecDepth 20000 in
set_option maxHeartbeats 4000000 in
theorem l36 {LS : Nat} {rm : Nat → Nat → Option Nat} {im : Nat → Nat → Int32} {P : Option Value → (Nat → Nat → Int32) → Prop} {p b : Nat} (hM : isLd LS rm) (hp : p < 4) (hC : okC im (b + 1)) (hb : b < 40) (hh : im (8 * p + 340) 2 = nI b) (h1 : P (some (.int (nI (apS p b im (szv im (chv im b))).2))) (apN p b im)) : ∀ (n i : Nat), i + n = szv im (chv im b) → ∀ (u6 u7 : Value), Gm LS rm 36 20 [.ref (1), .ref (8 * p + 339), .int (nI b), .ref (2 * chv im b + 210), .int (nI (apS p b im i).2), .int (nI i), u6, u7] [] ((apS p b im i).1) P := by
  intro n
  induction n with
  | zero =>
    intro i hi u6 u7
    have hie : i = szv im (chv im b) := by omega
    subst hie
    refine g_iload k36_20 rfl ?_
    refine g_aload_n k36_22 rfl ?_
    refine g_getv (v := nI (szv im (chv im b))) k36_23 ((hM.2.2.2.1 (chv im b) (hC b (by omega)).1.2).2.1) (by decide) (by rw [apS_off (by have := hC b (by omega); have := this.1.2; unfold chv; omega) (by have := hC b (by omega); have := this.1.2; unfold chv; omega) (by have := hC b (by omega); have := this.1.2; unfold chv; omega)]; exact (hC b (by omega)).2.1.1) ?_
    refine g_icmp_ge k36_26 (fun _ => ?_) (fun h => absurd (nI_le (Nat.le_refl _) (by have := (hC b (by omega)).2.1.2; unfold szv; omega)) h)
    obtain ⟨⟨x1, x2⟩, -, -⟩ := hC b (by omega)
    refine g_aload_n k36_103 rfl ?_
    refine g_inv0 k36_104 ((hM.2.2.2.2.2 p hp).2.1) (by decide) (Nat.le_of_ble_eq_true rfl) (c85 (a := 8 * p + 339) (h := b) (hM.2.2.2.2.2 p hp).2 (by rw [show 8 * p + 339 + 1 = 8 * p + 340 from rfl, apS_off (by omega) (by omega) (by omega)]; exact hh) hb (fun z => ?_) (fun z => ?_))
    · refine g_iload k36_107 rfl ?_
      have e9 : apN p b im = en_u2 (apS p b im (szv im (chv im b))).1 (8 * p + 340) 2 (nI (b + 1)) := if_neg z
      rw [e9] at h1
      exact g_reti k36_109 rfl (h1)
    · refine g_iload k36_107 rfl ?_
      have e9 : apN p b im = en_u2 (en_ur (en_ur (en_u2 (apS p b im (szv im (chv im b))).1 (8 * p + 340) 2 (nI (b + 1))) (8 * p + 344) (va_cpy ((apS p b im (szv im (chv im b))).1 (8 * p + 341)) ((apS p b im (szv im (chv im b))).1 (8 * p + 344)) 0 0 16)) (8 * p + 345) (va_cpy ((apS p b im (szv im (chv im b))).1 (8 * p + 342)) ((apS p b im (szv im (chv im b))).1 (8 * p + 345)) 0 0 16)) (8 * p + 343) 2 (nI (b + 1)) := if_pos z
      rw [e9] at h1
      exact g_reti k36_109 rfl (h1)
  | succ n ih =>
    intro i hi u6 u7
    have hlt : i < szv im (chv im b) := by omega
    refine g_iload k36_20 rfl ?_
    refine g_aload_n k36_22 rfl ?_
    refine g_getv (v := nI (szv im (chv im b))) k36_23 ((hM.2.2.2.1 (chv im b) (hC b (by omega)).1.2).2.1) (by decide) (by rw [apS_off (by have := hC b (by omega); have := this.1.2; unfold chv; omega) (by have := hC b (by omega); have := this.1.2; unfold chv; omega) (by have := hC b (by omega); have := this.1.2; unfold chv; omega)]; exact (hC b (by omega)).2.1.1) ?_
    refine g_icmp_ge k36_26 (fun h => absurd h (nI_ge hlt (by have := (hC b (by omega)).2.1.2; unfold szv; omega))) (fun _ => ?_)
    obtain ⟨⟨x1, x2⟩, ⟨x3, x4⟩, x5⟩ := hC b (by omega)
    have hs4 : szv im (chv im b) ≤ 4 := by unfold szv; omega
    have hcb : chv im b < 60 := x2
    have hag : ∀ c, c < 339 → (apS p b im i).1 c = im c := fun c hc => apS_off (by omega) (by omega) (by omega) i
    have hCi := okC_ag hag hC
    obtain ⟨⟨y1, y2⟩, -, -⟩ := x5 i hlt
    have hm : mbv im (chv im b) i < 60 := y2
    refine g_aload_n k36_29 rfl ?_
    refine g_aload_n k36_30 rfl ?_
    refine g_getr k36_31 ((hM.2.2.2.2.2 p hp).2.1) (by decide) ((hM.2.2.2.2.2 p hp).2.2.1) ?_
    refine g_iload_n k36_34 rfl ?_
    refine g_iload k36_35 rfl ?_
    refine g_inv3 k36_37 (hM.1.1) rfl rfl rfl (by decide) (Nat.le_of_ble_eq_true rfl) (c37 hM (hM.2.2.2.2.2 p hp).2.2.2.2.2.1 hCi hb (by rw [chv_ag hag, szv_ag hag hcb]; exact hlt) ?_)
    refine g_istore k36_40 (by decide) rfl ?_
    refine g_aload_n k36_42 rfl ?_
    refine g_getr k36_43 ((hM.2.2.2.2.2 p hp).2.1) (by decide) ((hM.2.2.2.2.2 p hp).2.2.2.2.1) ?_
    refine g_iload_n k36_46 rfl ?_
    refine g_iconst (v := 4) k36_47 ic_4 ?_
    refine g_imul k36_48 ?_
    refine g_iload k36_49 rfl ?_
    refine g_iadd k36_51 ?_
    refine g_top (y := nI (4 * b + i)) (by rw [show (4 : Int32) = nI 4 from rfl, pk_mul, nI_add, Nat.mul_comm]) ?_
    refine g_iload k36_52 rfl ?_
    refine g_iasv k36_54 ((hM.2.2.2.2.2 p hp).2.2.2.2.2.2.2) (by omega) (by decide) ?_
    refine g_iload k36_55 rfl ?_
    refine g_if_ne k36_57 (fun g => ?_) (fun g => ?_)
    · have e1 : apS p b im (i + 1) = (en_u2 (apS p b im i).1 (8 * p + 346) (4 * b + i) (jdg (apS p b im i).1 (8 * p + 340) b i), (apS p b im i).2) := if_neg g
      have := ih (i + 1) (by omega) (.int (jdg (apS p b im i).1 (8 * p + 340) b i)) u7
      rw [e1] at this
      refine g_iincv (y := nI (i + 1)) k36_97 rfl (by decide) (inc_1 i) rfl ?_
      refine g_goto k36_100 ?_
      exact this
    · have e1 : apS p b im (i + 1) = (apW p b i (mbv im (chv im b) i) (en_u2 (apS p b im i).1 (8 * p + 346) (4 * b + i) (jdg (apS p b im i).1 (8 * p + 340) b i)), (apS p b im i).2 + 1) := if_pos g
      have := ih (i + 1) (by omega) (.int (jdg (apS p b im i).1 (8 * p + 340) b i)) (.int (nI (1 + 4 * b + i)))
      rw [e1] at this
      refine g_iconst (v := 1) k36_60 ic_1 ?_
      refine g_iconst (v := 4) k36_61 ic_4 ?_
      refine g_iload_n k36_62 rfl ?_
      refine g_imul k36_63 ?_
      refine g_iadd k36_64 ?_
      refine g_top (y := nI (1 + 4 * b)) (by rw [show (4 : Int32) = nI 4 from rfl, show (1 : Int32) = nI 1 from rfl, pk_mul, nI_add]) ?_
      refine g_iload k36_65 rfl ?_
      refine g_iadd k36_67 ?_
      refine g_top (y := nI (1 + 4 * b + i)) (nI_add _ _) ?_
      refine g_istore k36_68 (by decide) rfl ?_
      refine g_aload_n k36_70 rfl ?_
      refine g_getr k36_71 (hM.1.1) (by decide) (hM.1.2.2.1) ?_
      refine g_aload_n k36_74 rfl ?_
      refine g_getr k36_75 ((hM.2.2.2.1 (chv im b) x2).2.1) (by decide) ((hM.2.2.2.1 (chv im b) x2).2.2.1) ?_
      refine g_iload k36_78 rfl ?_
      refine g_ialv (v := nI (mbv im (chv im b) i)) k36_80 ((hM.2.2.2.1 (chv im b) x2).2.2.2) (by omega) (by decide) (by rw [en_u2_off (by omega), hag _ (by omega)]; exact y1) ?_
      refine g_aalv (t := 1) k36_81 (hM.1.2.2.2.2.2.2.2.2.2.2.1) ⟨_, rfl⟩ (hm) (by decide) ((hM.2.2.1 (mbv im (chv im b) i) (hm)).1) ?_
      refine g_getr k36_82 ((hM.2.2.1 (mbv im (chv im b) i) (hm)).2.1) (by decide) ((hM.2.2.1 (mbv im (chv im b) i) (hm)).2.2.1) ?_
      refine g_aload_n k36_85 rfl ?_
      refine g_getr k36_86 ((hM.2.2.2.2.2 p hp).2.1) (by decide) ((hM.2.2.2.2.2 p hp).2.2.1) ?_
      refine g_iload k36_89 rfl ?_
      refine g_inv2 k36_91 ((hM.2.2.1 (mbv im (chv im b) i) (hm)).2.2.2.1) rfl rfl (by decide) (Nat.le_of_ble_eq_true rfl) (c69 (a := 3 * mbv im (chv im b) i + 31) (s := 8 * p + 340) (hM.2.2.1 (mbv im (chv im b) i) hm).2.2.2 (hM.2.2.2.2.2 p hp).2.2.2.2.2.1 (by omega) ?_)
      refine g_iincv (y := nI ((apS p b im i).2 + 1)) k36_94 rfl (by decide) (inc_1 _) rfl ?_
      refine g_iincv (y := nI (i + 1)) k36_97 rfl (by decide) (inc_1 i) rfl ?_
      refine g_goto k36_100 ?_
      exact this

set_option maxRecDepth 20000 in
set_option maxHeartbeats 4000000 in
theorem c36 {LS : Nat} {rm : Nat → Nat → Option Nat} {im : Nat → Nat → Int32} {P : Option Value → (Nat → Nat → Int32) → Prop} {p b : Nat} (hM : isLd LS rm) (hp : p < 4) (hC : okC im (b + 1)) (hb : b < 40) (hh : im (8 * p + 340) 2 = nI b) (h1 : P (some (.int (nI (apS p b im (szv im (chv im b))).2))) (apN p b im)) : Gm LS rm 36 0 (en_in 36 [.ref 1, .ref (8 * p + 339)]) [] im P := by
  show Gm LS rm 36 0 [.ref (1), .ref (8 * p + 339), .long 0, .long 0, .long 0, .long 0, .long 0, .long 0] [] im P
  obtain ⟨⟨x1, x2⟩, -, -⟩ := hC b (by omega)
  refine g_aload_n k36_0 rfl ?_
  refine g_getr k36_1 ((hM.2.2.2.2.2 p hp).2.1) (by decide) ((hM.2.2.2.2.2 p hp).2.2.1) ?_
  refine g_getv (v := nI b) k36_4 ((hM.2.2.2.2.2 p hp).2.2.2.2.2.1.1) (by decide) (hh) ?_
  refine g_istore_n k36_7 (by decide) rfl ?_
  refine g_aload_n k36_8 rfl ?_
  refine g_iload_n k36_9 rfl ?_
  refine g_inv1 k36_10 (hM.1.1) rfl (by decide) (Nat.le_of_ble_eq_true rfl) (c35 (m := chv im b) hM (by omega) x1 x2 ?_)
  refine g_astore_n k36_13 (by decide) rfl ?_
  refine g_iconst (v := 0) k36_14 ic_0 ?_
  refine g_istore k36_15 (by decide) rfl ?_
  refine g_iconst (v := 0) k36_17 ic_0 ?_
  refine g_istore k36_18 (by decide) rfl ?_
  exact l36 hM hp hC hb hh h1 (szv im (chv im b)) 0 (by omega) _ _

def cb0 (p : Nat) (im : Nat → Nat → Int32) : Nat → Nat → Int32 := en_u2 (en_ur (en_ur im (8 * p + 341) (va_cpy (im (8 * p + 344)) (im (8 * p + 341)) 0 0 16)) (8 * p + 342) (va_cpy (im (8 * p + 345)) (im (8 * p + 342)) 0 0 16)) (8 * p + 340) 2 (im (8 * p + 343) 2)
def cbN (p v : Nat) (im : Nat → Nat → Int32) : Nat → (Nat → Nat → Int32)
  | 0 => cb0 p im
  | i + 1 => apN p (v + i) (cbN p v im i)
theorem cb0_lt {p : Nat} {im : Nat → Nat → Int32} {c : Nat} (h : c < 8 * p + 340 ∨ 8 * p + 343 ≤ c) : cb0 p im c = im c := by
  unfold cb0
  rw [en_u2_off (by omega), en_ur_off (by omega), en_ur_off (by omega)]
theorem cbN_lt {p v : Nat} {im : Nat → Nat → Int32} {c : Nat} (h : c < 8 * p + 340 ∨ 8 * p + 347 ≤ c) : ∀ i, cbN p v im i c = im c := by
  intro i
  induction i with
  | zero => exact cb0_lt (by omega)
  | succ i ih =>
    show apN p (v + i) (cbN p v im i) c = im c
    rw [apN_lt h]
    exact ih
theorem cbN_h {p v : Nat} {im : Nat → Nat → Int32} (hv : im (8 * p + 343) 2 = nI v) : ∀ i, cbN p v im i (8 * p + 340) 2 = nI (v + i) := by
  intro i
  cases i with
  | zero =>
    show cb0 p im (8 * p + 340) 2 = nI v
    unfold cb0
    rw [u2_eq]
    exact hv
  | succ i =>
    show apN p (v + i) (cbN p v im i) (8 * p + 340) 2 = nI (v + i + 1)
    unfold apN
    exact apF_h
set_option maxRecDepth 20000 in
set_option maxHeartbeats 4000000 in
theorem l33 {LS : Nat} {rm : Nat → Nat → Option Nat} {im : Nat → Nat → Int32} {P : Option Value → (Nat → Nat → Int32) → Prop} {p st v : Nat} (hM : isLd LS rm) (hp : p < 4) (hC : okC im st) (hst : st ≤ 40) (hvs : v ≤ st) (hs : im (8 * p + 339) 1 = nI st) (hv : im (8 * p + 343) 2 = nI v) (h1 : P (some (.int (nI (st - v)))) (cbN p v im (st - v))) : ∀ (n i : Nat), i + n = st - v → Gm LS rm 33 26 [.ref (1), .ref (8 * p + 339), .int (nI (st - v)), .int (nI i)] [] (cbN p v im i) P := by
  intro n
  induction n with
  | zero =>
    intro i hi
    have hie : i = st - v := by omega
    subst hie
    refine g_iload_n k33_26 rfl ?_
    refine g_iload_n k33_27 rfl ?_
    refine g_icmp_ge k33_28 (fun _ => ?_) (fun h => absurd (nI_le (Nat.le_refl _) (by omega)) h)
    refine g_iload_n k33_43 rfl ?_
    exact g_reti k33_44 rfl (h1)
  | succ n ih =>
    intro i hi
    have hlt : i < st - v := by omega
    refine g_iload_n k33_26 rfl ?_
    refine g_iload_n k33_27 rfl ?_
    refine g_icmp_ge k33_28 (fun h => absurd h (nI_ge hlt (by omega))) (fun _ => ?_)
    have hag : ∀ c, c < 339 → cbN p v im i c = im c := fun c hc => cbN_lt (by omega) i
    have hCi : okC (cbN p v im i) (v + i + 1) := fun j hj => okC_ag hag hC j (by omega)
    refine g_aload_n k33_31 rfl ?_
    refine g_aload_n k33_32 rfl ?_
    refine g_inv1 k33_33 (hM.1.1) rfl (by decide) (Nat.le_of_ble_eq_true rfl) (c36 (b := v + i) hM hp hCi (by omega) (cbN_h hv i) ?_)
    refine g_pop k33_36 rfl ?_
    refine g_iincv (y := nI (i + 1)) k33_37 rfl (by decide) (inc_1 i) rfl ?_
    refine g_goto k33_40 ?_
    exact ih (i + 1) (by omega)

set_option maxRecDepth 20000 in
set_option maxHeartbeats 4000000 in
theorem c33 {LS : Nat} {rm : Nat → Nat → Option Nat} {im : Nat → Nat → Int32} {P : Option Value → (Nat → Nat → Int32) → Prop} {p st v : Nat} (hM : isLd LS rm) (hp : p < 4) (hC : okC im st) (hst : st ≤ 40) (hvs : v ≤ st) (hs : im (8 * p + 339) 1 = nI st) (hv : im (8 * p + 343) 2 = nI v) (h1 : P (some (.int (nI (st - v)))) (cbN p v im (st - v))) : Gm LS rm 33 0 (en_in 33 [.ref 1, .ref (8 * p + 339)]) [] im P := by
  show Gm LS rm 33 0 [.ref (1), .ref (8 * p + 339), .long 0, .long 0] [] im P
  refine g_aload_n k33_0 rfl ?_
  refine g_getr k33_1 ((hM.2.2.2.2.2 p hp).2.1) (by decide) ((hM.2.2.2.2.2 p hp).2.2.1) ?_
  refine g_aload_n k33_4 rfl ?_
  refine g_getr k33_5 ((hM.2.2.2.2.2 p hp).2.1) (by decide) ((hM.2.2.2.2.2 p hp).2.2.2.1) ?_
  refine g_inv1 k33_8 ((hM.2.2.2.2.2 p hp).2.2.2.2.2.1.1) rfl (by decide) (Nat.le_of_ble_eq_true rfl) (c83 (a := 8 * p + 340) (b := 8 * p + 343) (hM.2.2.2.2.2 p hp).2.2.2.2.2.1 (hM.2.2.2.2.2 p hp).2.2.2.2.2.2.1 (by omega) ?_)
  show Gm LS rm 33 11 [.ref 1, .ref (8 * p + 339), .long 0, .long 0] [] (cb0 p im) P
  refine g_aload_n k33_11 rfl ?_
  refine g_getv (v := nI st) k33_12 ((hM.2.2.2.2.2 p hp).2.1) (by decide) (by rw [cb0_lt (by omega)]; exact hs) ?_
  refine g_aload_n k33_15 rfl ?_
  refine g_getr k33_16 ((hM.2.2.2.2.2 p hp).2.1) (by decide) ((hM.2.2.2.2.2 p hp).2.2.2.1) ?_
  refine g_getv (v := nI v) k33_19 ((hM.2.2.2.2.2 p hp).2.2.2.2.2.2.1.1) (by decide) (by rw [cb0_lt (by omega)]; exact hv) ?_
  refine g_isub k33_22 ?_
  refine g_top (y := nI (st - v)) (pk_sub hvs) ?_
  refine g_istore_n k33_23 (by decide) rfl ?_
  refine g_iconst (v := 0) k33_24 ic_0 ?_
  refine g_istore_n k33_25 (by decide) rfl ?_
  exact l33 hM hp hC hst hvs hs hv h1 (st - v) 0 (by omega)

set_option maxRecDepth 20000 in
set_option maxHeartbeats 4000000 in
theorem c32 {LS : Nat} {rm : Nat → Nat → Option Nat} {im : Nat → Nat → Int32} {P : Option Value → (Nat → Nat → Int32) → Prop} {p st v : Nat} {y : Int32} (hM : isLd LS rm) (hp : p < 4) (hy : y = 0 ∨ y = 1) (hC : okC im st) (hst : st ≤ 40) (hvs : v ≤ st) (hs : im (8 * p + 339) 1 = nI st) (hv : im (8 * p + 343) 2 = nI v) (h0 : im (8 * p + 339) 0 = y → P (some (.int (-1))) im) (h1 : im (8 * p + 339) 0 ≠ y → y = 0 → P (some (.int 0)) (en_u2 im (8 * p + 339) 0 y)) (h2 : im (8 * p + 339) 0 ≠ y → y ≠ 0 → P (some (.int (nI (st - v)))) (cbN p v (en_u2 im (8 * p + 339) 0 y) (st - v))) : Gm LS rm 32 0 (en_in 32 [.ref 1, .ref (8 * p + 339), .int y]) [] im P := by
  show Gm LS rm 32 0 [.ref (1), .ref (8 * p + 339), .int (y)] [] im P
  refine g_aload_n k32_0 rfl ?_
  refine g_geti k32_1 ((hM.2.2.2.2.2 p hp).2.1) (by decide) ?_
  refine g_iload_n k32_4 rfl ?_
  refine g_icmp_ne k32_5 (fun h => ?_) (fun h => ?_)
  · refine g_aload_n k32_10 rfl ?_
    refine g_iload_n k32_11 rfl ?_
    refine g_putz k32_12 (by decide) ((hM.2.2.2.2.2 p hp).2.1) (by decide) (hy) ?_
    refine g_iload_n k32_15 rfl ?_
    refine g_if_eq k32_16 (fun g => ?_) (fun g => ?_)
    · refine g_iconst (v := 0) k32_27 ic_0 ?_
      exact g_reti k32_28 rfl (h1 h g)
    · refine g_aload_n k32_19 rfl ?_
      refine g_aload_n k32_20 rfl ?_
      refine g_inv1 k32_21 (hM.1.1) rfl (by decide) (Nat.le_of_ble_eq_true rfl) (c33 (st := st) (v := v) hM hp (okC_ag (fun c hc => en_u2_off (by omega)) hC) hst hvs (by rw [u2_ne (by omega)]; exact hs) (by rw [u2_ne (by omega)]; exact hv) ?_)
      refine g_goto k32_24 ?_
      exact g_reti k32_28 rfl (h2 h g)
  · refine g_iconst (v := -1) k32_8 ic_m1 ?_
    exact g_reti k32_9 rfl (h0 h)
end
section
/-! THE STACK MACHINE, purely: d deep, S its places, c the 80 cells of the result, r its ranges; ver, val the state that it reads *-/
def sm (val : Nat → Int32) (lo : Nat) : Nat → Int32
  | 0 => 0
  | n + 1 => sm val lo n + val (lo + n)
def ad_c (ver c : Nat → Int32) (r lo n : Nat) : Nat → Int32 := fun k => if 16 * (1 + r) + lo ≤ k ∧ k < 16 * (1 + r) + lo + n then ver (k - 16 * (1 + r)) else c k
def kb (x : Int32) : Nat := tn (x &&& 15)
theorem kb_lt (x : Int32) : kb x < 16 := by
  obtain ⟨j, hj, e⟩ := pk_andE x (m := 15) 4 (by decide)
  unfold kb
  rw [e, tn_nI (by omega)]
  exact hj
theorem kb_eq (x : Int32) : x &&& 15 = nI (kb x) := by
  obtain ⟨j, hj, e⟩ := pk_andE x (m := 15) 4 (by decide)
  unfold kb
  rw [e, tn_nI (by omega)]
abbrev rnT : Type := (Nat × (Nat → Int32) × (Nat → Int32) × Nat) × Nat
def rn_step (o : Nat) (x arg : Int32) (ver val : Nat → Int32) (d : Nat) (S c : Nat → Int32) (r : Nat) : Option rnT :=
  if o = 0 then (if d < 8 then some ((d + 1, upd S d x, c, r), 0) else none)
  else if o = 1 then (if d < 8 then some ((d + 1, upd S d arg, c, r), 0) else none)
  else if o = 2 then (if 2 ≤ d then some ((d - 1, upd S (d - 2) (S (d - 2) + S (d - 1)), c, r), 0) else none)
  else if o = 3 then (if 2 ≤ d then some ((d - 1, upd S (d - 2) (S (d - 2) - S (d - 1)), c, r), 0) else none)
  else if o = 4 then (if 2 ≤ d then some ((d - 1, upd S (d - 2) (if S (d - 2) < S (d - 1) then 1 else 0), c, r), 0) else none)
  else if o = 5 then (if 1 ≤ d ∧ d < 8 then some ((d + 1, upd S d (S (d - 1)), c, r), 0) else none)
  else if o = 6 then (if 1 ≤ d then some ((d - 1, S, c, r), if S (d - 1) = 0 then tn x else 0) else none)
  else if o = 7 then (if 1 ≤ d then some ((d, upd S (d - 1) (val (kb (S (d - 1)))), upd c (kb (S (d - 1))) (ver (kb (S (d - 1)))), r), 0) else none)
  else if o = 8 then (if 2 ≤ d then some ((d - 2, S, upd (upd c (48 + kb (S (d - 2))) 1) (64 + kb (S (d - 2))) (S (d - 1)), r), 0) else none)
  else if o = 9 then (if 1 ≤ d then some ((d - 1, S, upd (upd c (48 + kb (S (d - 1))) 2) (64 + kb (S (d - 1))) 0, r), 0) else none)
  else (if 2 ≤ d ∧ r < 2 then some ((d - 1, upd S (d - 2) (sm val (kb (S (d - 2))) (kb (S (d - 1)) + 1 - kb (S (d - 2)))), ad_c ver c r (kb (S (d - 2))) (kb (S (d - 1)) + 1 - kb (S (d - 2))), r + 1), 0) else none)
/-- the class's machine holds it -/
def rnC (im : Nat → Nat → Int32) (d : Nat) (S c : Nat → Int32) (r : Nat) : Prop := im 10 2 = nI d ∧ d ≤ 8 ∧ (∀ i, i < d → im 11 i = S i) ∧ (∀ k, k < 80 → im 13 k = c k) ∧ im 12 1 = nI r ∧ r ≤ 2
def rnF (im im' : Nat → Nat → Int32) : Prop := ∀ c, c < 10 ∨ 13 < c → im' c = im c
set_option maxRecDepth 20000 in
set_option maxHeartbeats 4000000 in
theorem c56 {LS : Nat} {rm : Nat → Nat → Option Nat} {im : Nat → Nat → Int32} {P : Option Value → (Nat → Nat → Int32) → Prop} {d : Nat} (hR : isRn LS rm 10) (hd : im 10 2 = nI d) (hb : d ≤ 8) (h0 : d = 0 → P (some (.int (nI 0))) (en_u2 im 10 4 1)) (h1 : 0 < d → P (some (.int (nI (kb (im 11 (d - 1)))))) (en_u2 im 10 2 (nI (d - 1)))) : Gm LS rm 56 0 (en_in 56 [.ref 10]) [] im P := by
  show Gm LS rm 56 0 [.ref (10)] [] im P
  refine g_aload_n k56_0 rfl ?_
  refine g_inv0 k56_1 (hR.1) (by decide) (Nat.le_of_ble_eq_true rfl) (c55 hR hd hb (fun hz => ?_) (fun hz => ?_))
  · refine g_bipush (v := 15) k56_4 bp_15 ?_
    refine g_iand k56_6 ?_
    refine g_top (y := nI 0) (by decide) ?_
    exact g_reti k56_7 rfl (h0 hz)
  · refine g_bipush (v := 15) k56_4 bp_15 ?_
    refine g_iand k56_6 ?_
    refine g_top (y := nI (kb (im 11 (d - 1)))) (kb_eq _) ?_
    exact g_reti k56_7 rfl (h1 hz)

set_option maxRecDepth 20000 in
set_option maxHeartbeats 4000000 in
theorem c50 {LS : Nat} {rm : Nat → Nat → Option Nat} {im : Nat → Nat → Int32} {P : Option Value → (Nat → Nat → Int32) → Prop} {d : Nat} (hR : isRn LS rm 10) (hd : im 10 2 = nI d) (hb : d ≤ 8) (hF : ¬ (1 ≤ d ∧ d < 8) → ∀ im', rnF im im' → im' 10 4 = 1 → P none im') (h1 : 1 ≤ d → d < 8 → P none (en_u2 (en_u2 (en_u2 (en_u2 (en_u2 im 10 2 (nI (d - 1))) 11 (d - 1) (im 11 (d - 1))) 10 2 (nI (d - 1 + 1))) 11 (d - 1 + 1) (im 11 (d - 1))) 10 2 (nI (d - 1 + 1 + 1)))) : Gm LS rm 50 0 (en_in 50 [.ref 10]) [] im P := by
  show Gm LS rm 50 0 [.ref (10), .long 0] [] im P
  refine g_aload_n k50_0 rfl ?_
  refine g_inv0 k50_1 (hR.1) (by decide) (Nat.le_of_ble_eq_true rfl) (c55 hR hd hb (fun hz => ?_) (fun hz => ?_))
  · subst hz
    refine g_istore_n k50_4 (by decide) rfl ?_
    refine g_aload_n k50_5 rfl ?_
    refine g_iload_n k50_6 rfl ?_
    refine g_inv1 k50_7 (hR.1) rfl (by decide) (Nat.le_of_ble_eq_true rfl) (c54 (d := 0) hR (by simp [en_u2, hd]) (by decide) (fun z => absurd z (by decide)) (fun _ => ?_))
    refine g_aload_n k50_10 rfl ?_
    refine g_iload_n k50_11 rfl ?_
    refine g_inv1 k50_12 (hR.1) rfl (by decide) (Nat.le_of_ble_eq_true rfl) (c54 (d := 1) hR (by simp [en_u2]) (by decide) (fun z => absurd z (by decide)) (fun _ => ?_))
    exact g_retv k50_15 rfl (hF (by omega) _ (fun c hc => by funext k; simp [en_u2, en_ur, show c ≠ 10 by omega, show c ≠ 11 by omega, show c ≠ 12 by omega, show c ≠ 13 by omega]) (by simp [en_u2, en_ur]))
  · refine g_istore_n k50_4 (by decide) rfl ?_
    refine g_aload_n k50_5 rfl ?_
    refine g_iload_n k50_6 rfl ?_
    refine g_inv1 k50_7 (hR.1) rfl (by decide) (Nat.le_of_ble_eq_true rfl) (c54 (d := d - 1) hR (by simp [en_u2]) (by omega) (fun z => by omega) (fun _ => ?_))
    refine g_aload_n k50_10 rfl ?_
    refine g_iload_n k50_11 rfl ?_
    refine g_inv1 k50_12 (hR.1) rfl (by decide) (Nat.le_of_ble_eq_true rfl) (c54 (d := d - 1 + 1) hR (by simp [en_u2]) (by omega) (fun z => ?_) (fun _ => ?_))
    · exact g_retv k50_15 rfl (hF (by omega) _ (fun c hc => by funext k; simp [en_u2, en_ur, show c ≠ 10 by omega, show c ≠ 11 by omega, show c ≠ 12 by omega, show c ≠ 13 by omega]) (by simp [en_u2, en_ur]))
    · exact g_retv k50_15 rfl (h1 hz (by omega))

set_option maxRecDepth 20000 in
set_option maxHeartbeats 4000000 in
theorem c49 {LS : Nat} {rm : Nat → Nat → Option Nat} {im : Nat → Nat → Int32} {P : Option Value → (Nat → Nat → Int32) → Prop} {d o : Nat} (hR : isRn LS rm 10) (ho : 2 ≤ o) (ho4 : o ≤ 4) (hd : im 10 2 = nI d) (hb : d ≤ 8) (hF : ¬ (2 ≤ d) → ∀ im', rnF im im' → im' 10 4 = 1 → P none im') (h1 : 2 ≤ d → P none (en_u2 (en_u2 (en_u2 (en_u2 im 10 2 (nI (d - 1))) 10 2 (nI (d - 2))) 11 (d - 2) (if o = 2 then im 11 (d - 2) + im 11 (d - 1) else if o = 3 then im 11 (d - 2) - im 11 (d - 1) else if im 11 (d - 2) < im 11 (d - 1) then 1 else 0)) 10 2 (nI (d - 2 + 1)))) : Gm LS rm 49 0 (en_in 49 [.ref 10, .int (nI o)]) [] im P := by
  show Gm LS rm 49 0 [.ref (10), .int (nI o), .long 0, .long 0] [] im P
  refine g_aload_n k49_0 rfl ?_
  refine g_inv0 k49_1 (hR.1) (by decide) (Nat.le_of_ble_eq_true rfl) (c55 hR hd hb (fun hz => ?_) (fun hz => ?_))
  · subst hz
    refine g_istore_n k49_4 (by decide) rfl ?_
    refine g_aload_n k49_5 rfl ?_
    refine g_inv0 k49_6 (hR.1) (by decide) (Nat.le_of_ble_eq_true rfl) (c55 (d := 0) hR (by simp [en_u2, hd]) (by decide) (fun _ => ?_) (fun z => absurd z (by decide)))
    refine g_istore_n k49_9 (by decide) rfl ?_
    refine g_iload_n k49_10 rfl ?_
    refine g_iconst (v := 2) k49_11 ic_2 ?_
    refine g_icmp_ne k49_12 (fun e2 => ?_) (fun e2 => ?_)
    · have o2 : o ≠ 2 := fun z => e2 (by rw [z]; rfl)
      refine g_iload_n k49_25 rfl ?_
      refine g_iconst (v := 3) k49_26 ic_3 ?_
      refine g_icmp_ne k49_27 (fun e3 => ?_) (fun e3 => ?_)
      · have o3 : o ≠ 3 := fun z => e3 (by rw [z]; rfl)
        refine g_aload_n k49_40 rfl ?_
        refine g_iload_n k49_41 rfl ?_
        refine g_iload_n k49_42 rfl ?_
        refine g_icmp_ge k49_43 (fun e4 => ?_) (fun e4 => ?_)
        · refine g_iconst (v := 0) k49_50 ic_0 ?_
          refine g_inv1 k49_51 (hR.1) rfl (by decide) (Nat.le_of_ble_eq_true rfl) (c54 (d := 0) hR (by simp [en_u2, hd]) (by decide) (fun z => absurd z (by decide)) (fun _ => ?_))
          exact g_retv k49_54 rfl (hF (by omega) _ (fun c hc => by funext k; simp [en_u2, en_ur, show c ≠ 10 by omega, show c ≠ 11 by omega, show c ≠ 12 by omega, show c ≠ 13 by omega]) (by simp [en_u2, en_ur]))
        · refine g_iconst (v := 1) k49_46 ic_1 ?_
          refine g_goto k49_47 ?_
          refine g_inv1 k49_51 (hR.1) rfl (by decide) (Nat.le_of_ble_eq_true rfl) (c54 (d := 0) hR (by simp [en_u2, hd]) (by decide) (fun z => absurd z (by decide)) (fun _ => ?_))
          exact g_retv k49_54 rfl (hF (by omega) _ (fun c hc => by funext k; simp [en_u2, en_ur, show c ≠ 10 by omega, show c ≠ 11 by omega, show c ≠ 12 by omega, show c ≠ 13 by omega]) (by simp [en_u2, en_ur]))
      · have o3 : o = 3 := (nI_eq (by omega) (by decide)).mp e3
        refine g_aload_n k49_30 rfl ?_
        refine g_iload_n k49_31 rfl ?_
        refine g_iload_n k49_32 rfl ?_
        refine g_isub k49_33 ?_
        refine g_inv1 k49_34 (hR.1) rfl (by decide) (Nat.le_of_ble_eq_true rfl) (c54 (d := 0) hR (by simp [en_u2, hd]) (by decide) (fun z => absurd z (by decide)) (fun _ => ?_))
        refine g_goto k49_37 ?_
        exact g_retv k49_54 rfl (hF (by omega) _ (fun c hc => by funext k; simp [en_u2, en_ur, show c ≠ 10 by omega, show c ≠ 11 by omega, show c ≠ 12 by omega, show c ≠ 13 by omega]) (by simp [en_u2, en_ur]))
    · have o2 : o = 2 := (nI_eq (by omega) (by decide)).mp e2
      refine g_aload_n k49_15 rfl ?_
      refine g_iload_n k49_16 rfl ?_
      refine g_iload_n k49_17 rfl ?_
      refine g_iadd k49_18 ?_
      refine g_inv1 k49_19 (hR.1) rfl (by decide) (Nat.le_of_ble_eq_true rfl) (c54 (d := 0) hR (by simp [en_u2, hd]) (by decide) (fun z => absurd z (by decide)) (fun _ => ?_))
      refine g_goto k49_22 ?_
      exact g_retv k49_54 rfl (hF (by omega) _ (fun c hc => by funext k; simp [en_u2, en_ur, show c ≠ 10 by omega, show c ≠ 11 by omega, show c ≠ 12 by omega, show c ≠ 13 by omega]) (by simp [en_u2, en_ur]))
  · refine g_istore_n k49_4 (by decide) rfl ?_
    refine g_aload_n k49_5 rfl ?_
    refine g_inv0 k49_6 (hR.1) (by decide) (Nat.le_of_ble_eq_true rfl) (c55 (d := d - 1) hR (by simp [en_u2]) (by omega) (fun hy => ?_) (fun hy => ?_))
    · refine g_istore_n k49_9 (by decide) rfl ?_
      refine g_iload_n k49_10 rfl ?_
      refine g_iconst (v := 2) k49_11 ic_2 ?_
      refine g_icmp_ne k49_12 (fun e2 => ?_) (fun e2 => ?_)
      · have o2 : o ≠ 2 := fun z => e2 (by rw [z]; rfl)
        refine g_iload_n k49_25 rfl ?_
        refine g_iconst (v := 3) k49_26 ic_3 ?_
        refine g_icmp_ne k49_27 (fun e3 => ?_) (fun e3 => ?_)
        · have o3 : o ≠ 3 := fun z => e3 (by rw [z]; rfl)
          refine g_aload_n k49_40 rfl ?_
          refine g_iload_n k49_41 rfl ?_
          refine g_iload_n k49_42 rfl ?_
          refine g_icmp_ge k49_43 (fun e4 => ?_) (fun e4 => ?_)
          · refine g_iconst (v := 0) k49_50 ic_0 ?_
            refine g_inv1 k49_51 (hR.1) rfl (by decide) (Nat.le_of_ble_eq_true rfl) (c54 (d := d - 1) hR (by simp [en_u2]) (by omega) (fun z => by omega) (fun _ => ?_))
            exact g_retv k49_54 rfl (hF (by omega) _ (fun c hc => by funext k; simp [en_u2, en_ur, show c ≠ 10 by omega, show c ≠ 11 by omega, show c ≠ 12 by omega, show c ≠ 13 by omega]) (by simp [en_u2, en_ur]))
          · refine g_iconst (v := 1) k49_46 ic_1 ?_
            refine g_goto k49_47 ?_
            refine g_inv1 k49_51 (hR.1) rfl (by decide) (Nat.le_of_ble_eq_true rfl) (c54 (d := d - 1) hR (by simp [en_u2]) (by omega) (fun z => by omega) (fun _ => ?_))
            exact g_retv k49_54 rfl (hF (by omega) _ (fun c hc => by funext k; simp [en_u2, en_ur, show c ≠ 10 by omega, show c ≠ 11 by omega, show c ≠ 12 by omega, show c ≠ 13 by omega]) (by simp [en_u2, en_ur]))
        · have o3 : o = 3 := (nI_eq (by omega) (by decide)).mp e3
          refine g_aload_n k49_30 rfl ?_
          refine g_iload_n k49_31 rfl ?_
          refine g_iload_n k49_32 rfl ?_
          refine g_isub k49_33 ?_
          refine g_inv1 k49_34 (hR.1) rfl (by decide) (Nat.le_of_ble_eq_true rfl) (c54 (d := d - 1) hR (by simp [en_u2]) (by omega) (fun z => by omega) (fun _ => ?_))
          refine g_goto k49_37 ?_
          exact g_retv k49_54 rfl (hF (by omega) _ (fun c hc => by funext k; simp [en_u2, en_ur, show c ≠ 10 by omega, show c ≠ 11 by omega, show c ≠ 12 by omega, show c ≠ 13 by omega]) (by simp [en_u2, en_ur]))
      · have o2 : o = 2 := (nI_eq (by omega) (by decide)).mp e2
        refine g_aload_n k49_15 rfl ?_
        refine g_iload_n k49_16 rfl ?_
        refine g_iload_n k49_17 rfl ?_
        refine g_iadd k49_18 ?_
        refine g_inv1 k49_19 (hR.1) rfl (by decide) (Nat.le_of_ble_eq_true rfl) (c54 (d := d - 1) hR (by simp [en_u2]) (by omega) (fun z => by omega) (fun _ => ?_))
        refine g_goto k49_22 ?_
        exact g_retv k49_54 rfl (hF (by omega) _ (fun c hc => by funext k; simp [en_u2, en_ur, show c ≠ 10 by omega, show c ≠ 11 by omega, show c ≠ 12 by omega, show c ≠ 13 by omega]) (by simp [en_u2, en_ur]))
    · refine g_istore_n k49_9 (by decide) rfl ?_
      have h1 := h1 (by omega)
      have ed : d - 1 - 1 = d - 2 := by omega
      rw [ed]
      rw [u2_ne (by omega)]
      refine g_iload_n k49_10 rfl ?_
      refine g_iconst (v := 2) k49_11 ic_2 ?_
      refine g_icmp_ne k49_12 (fun e2 => ?_) (fun e2 => ?_)
      · have o2 : o ≠ 2 := fun z => e2 (by rw [z]; rfl)
        refine g_iload_n k49_25 rfl ?_
        refine g_iconst (v := 3) k49_26 ic_3 ?_
        refine g_icmp_ne k49_27 (fun e3 => ?_) (fun e3 => ?_)
        · have o3 : o ≠ 3 := fun z => e3 (by rw [z]; rfl)
          refine g_aload_n k49_40 rfl ?_
          refine g_iload_n k49_41 rfl ?_
          refine g_iload_n k49_42 rfl ?_
          refine g_icmp_ge k49_43 (fun e4 => ?_) (fun e4 => ?_)
          · refine g_iconst (v := 0) k49_50 ic_0 ?_
            refine g_inv1 k49_51 (hR.1) rfl (by decide) (Nat.le_of_ble_eq_true rfl) (c54 (d := d - 2) hR (by simp [en_u2]) (by omega) (fun z => by omega) (fun _ => ?_))
            rw [if_neg o2, if_neg o3, if_neg (Int32.not_lt.mpr e4)] at h1
            exact g_retv k49_54 rfl (h1)
          · refine g_iconst (v := 1) k49_46 ic_1 ?_
            refine g_goto k49_47 ?_
            refine g_inv1 k49_51 (hR.1) rfl (by decide) (Nat.le_of_ble_eq_true rfl) (c54 (d := d - 2) hR (by simp [en_u2]) (by omega) (fun z => by omega) (fun _ => ?_))
            rw [if_neg o2, if_neg o3, if_pos (Int32.not_le.mp e4)] at h1
            exact g_retv k49_54 rfl (h1)
        · have o3 : o = 3 := (nI_eq (by omega) (by decide)).mp e3
          refine g_aload_n k49_30 rfl ?_
          refine g_iload_n k49_31 rfl ?_
          refine g_iload_n k49_32 rfl ?_
          refine g_isub k49_33 ?_
          refine g_inv1 k49_34 (hR.1) rfl (by decide) (Nat.le_of_ble_eq_true rfl) (c54 (d := d - 2) hR (by simp [en_u2]) (by omega) (fun z => by omega) (fun _ => ?_))
          refine g_goto k49_37 ?_
          rw [if_neg o2, if_pos o3] at h1
          exact g_retv k49_54 rfl (h1)
      · have o2 : o = 2 := (nI_eq (by omega) (by decide)).mp e2
        refine g_aload_n k49_15 rfl ?_
        refine g_iload_n k49_16 rfl ?_
        refine g_iload_n k49_17 rfl ?_
        refine g_iadd k49_18 ?_
        refine g_inv1 k49_19 (hR.1) rfl (by decide) (Nat.le_of_ble_eq_true rfl) (c54 (d := d - 2) hR (by simp [en_u2]) (by omega) (fun z => by omega) (fun _ => ?_))
        refine g_goto k49_22 ?_
        rw [if_pos o2] at h1
        exact g_retv k49_54 rfl (h1)

set_option maxRecDepth 20000 in
set_option maxHeartbeats 4000000 in
theorem c52 {LS : Nat} {rm : Nat → Nat → Option Nat} {im : Nat → Nat → Int32} {P : Option Value → (Nat → Nat → Int32) → Prop} {d s : Nat} (hR : isRn LS rm 10) (hS : isWS LS rm s) (hs : 13 < s) (hd : im 10 2 = nI d) (hb : d ≤ 8) (hF : ¬ (1 ≤ d) → ∀ im', rnF im im' → im' 10 4 = 1 → P none im') (h1 : 1 ≤ d → P none (en_u2 (en_u2 (en_u2 (en_u2 im 10 2 (nI (d - 1))) 13 (kb (im 11 (d - 1))) (im (s + 1) (kb (im 11 (d - 1))))) 11 (d - 1) (im (s + 2) (kb (im 11 (d - 1))))) 10 2 (nI (d - 1 + 1)))) : Gm LS rm 52 0 (en_in 52 [.ref 10, .ref s]) [] im P := by
  show Gm LS rm 52 0 [.ref (10), .ref (s), .long 0] [] im P
  refine g_aload_n k52_0 rfl ?_
  refine g_inv0 k52_1 (hR.1) (by decide) (Nat.le_of_ble_eq_true rfl) (c56 hR hd hb (fun hz => ?_) (fun hz => ?_))
  · subst hz
    refine g_istore_n k52_4 (by decide) rfl ?_
    refine g_aload_n k52_5 rfl ?_
    refine g_getr k52_6 (hR.1) (by decide) (hR.2.2.1) ?_
    refine g_iconst (v := 0) k52_9 ic_0 ?_
    refine g_iload_n k52_10 rfl ?_
    refine g_aload_n k52_11 rfl ?_
    refine g_getr k52_12 (hS.1) (by decide) (hS.2.1) ?_
    refine g_iload_n k52_15 rfl ?_
    refine g_ialv k52_16 (hS.2.2.2.1) (by decide) (by decide) (rfl) ?_
    refine g_inv3 k52_17 (hR.2.2.2.2.1) rfl rfl rfl (by decide) (Nat.le_of_ble_eq_true rfl) (c61 (a := 12) (r := 0) (k := 0) hR.2.2.2.2 (by decide) ?_)
    refine g_aload_n k52_20 rfl ?_
    refine g_aload_n k52_21 rfl ?_
    refine g_getr k52_22 (hS.1) (by decide) (hS.2.2.1) ?_
    refine g_iload_n k52_25 rfl ?_
    refine g_ialv k52_26 (hS.2.2.2.2) (by decide) (by decide) (rfl) ?_
    refine g_inv1 k52_27 (hR.1) rfl (by decide) (Nat.le_of_ble_eq_true rfl) (c54 (d := 0) hR (by simp [en_u2, hd]) (by decide) (fun z => absurd z (by decide)) (fun _ => ?_))
    exact g_retv k52_30 rfl (hF (by omega) _ (fun c hc => by funext k; simp [en_u2, en_ur, show c ≠ 10 by omega, show c ≠ 11 by omega, show c ≠ 12 by omega, show c ≠ 13 by omega]) (by simp [en_u2, en_ur]))
  · have hk := kb_lt (im 11 (d - 1))
    refine g_istore_n k52_4 (by decide) rfl ?_
    refine g_aload_n k52_5 rfl ?_
    refine g_getr k52_6 (hR.1) (by decide) (hR.2.2.1) ?_
    refine g_iconst (v := 0) k52_9 ic_0 ?_
    refine g_iload_n k52_10 rfl ?_
    refine g_aload_n k52_11 rfl ?_
    refine g_getr k52_12 (hS.1) (by decide) (hS.2.1) ?_
    refine g_iload_n k52_15 rfl ?_
    refine g_ialv (v := im (s + 1) (kb (im 11 (d - 1)))) k52_16 (hS.2.2.2.1) (hk) (by decide) (by rw [u2_ne (by omega)]) ?_
    refine g_inv3 k52_17 (hR.2.2.2.2.1) rfl rfl rfl (by decide) (Nat.le_of_ble_eq_true rfl) (c61 (a := 12) (r := 0) (k := kb (im 11 (d - 1))) hR.2.2.2.2 (by omega) ?_)
    rw [show 16 * 0 + kb (im 11 (d - 1)) = kb (im 11 (d - 1)) by omega]
    refine g_aload_n k52_20 rfl ?_
    refine g_aload_n k52_21 rfl ?_
    refine g_getr k52_22 (hS.1) (by decide) (hS.2.2.1) ?_
    refine g_iload_n k52_25 rfl ?_
    refine g_ialv (v := im (s + 2) (kb (im 11 (d - 1)))) k52_26 (hS.2.2.2.2) (hk) (by decide) (by rw [u2_ne (by omega), u2_ne (by omega)]) ?_
    refine g_inv1 k52_27 (hR.1) rfl (by decide) (Nat.le_of_ble_eq_true rfl) (c54 (d := d - 1) hR (by simp [en_u2]) (by omega) (fun z => by omega) (fun _ => ?_))
    exact g_retv k52_30 rfl (h1 hz)
end
section
theorem ad_c_0 {ver c : Nat → Int32} {r lo : Nat} : ad_c ver c r lo 0 = c := by
  funext k
  unfold ad_c
  rw [if_neg (by omega)]
theorem ad_c_s {ver c : Nat → Int32} {r lo i : Nat} : (fun k => if k = 16 * (1 + r) + (lo + i) then ver (lo + i) else ad_c ver c r lo i k) = ad_c ver c r lo (i + 1) := by
  funext k
  unfold ad_c
  by_cases h : k = 16 * (1 + r) + (lo + i)
  · rw [if_pos h, if_pos (by omega)]
    congr 1
    omega
  · rw [if_neg h]
    by_cases h2 : 16 * (1 + r) + lo ≤ k ∧ k < 16 * (1 + r) + lo + i
    · rw [if_pos h2, if_pos (by omega)]
    · rw [if_neg h2, if_neg (by omega)]
set_option maxRecDepth 20000 in
set_option maxHeartbeats 4000000 in
theorem l53 {LS : Nat} {rm : Nat → Nat → Option Nat} {im : Nat → Nat → Int32} {P : Option Value → (Nat → Nat → Int32) → Prop} {s hi lo r d0 : Nat} (hR : isRn LS rm 10) (hS : isWS LS rm s) (hs : 13 < s) (hhi : hi < 16) (hlo : lo < 16) (hdd : im 10 2 = nI d0) (hd0 : d0 < 8) (hr : im 12 1 = nI r) (hr2 : r < 2) (h1 : P none (en_u2 (en_u2 (en_u2 (en_ur im 13 (ad_c (im (s + 1)) (im 13) r lo (hi + 1 - lo))) 12 1 (nI (r + 1))) 11 d0 (sm (im (s + 2)) lo (hi + 1 - lo))) 10 2 (nI (d0 + 1)))) : ∀ (n i : Nat), i + n = hi + 1 - lo → Gm LS rm 53 33 [.ref (10), .ref (s), .int (nI hi), .int (nI lo), .int (sm (im (s + 2)) lo (i)), .int (nI (lo + i))] [] (en_ur im 13 (ad_c (im (s + 1)) (im 13) r lo (i))) P := by
  intro n
  induction n with
  | zero =>
    intro i hii
    have hie : i = hi + 1 - lo := by omega
    subst hie
    refine g_iload k53_33 rfl ?_
    refine g_iload_n k53_35 rfl ?_
    refine g_icmp_gt k53_36 (fun _ => ?_) (fun h => absurd (nI_lt (by omega) (by omega)) h)
    refine g_aload_n k53_82 rfl ?_
    refine g_getr k53_83 (hR.1) (by decide) (hR.2.2.1) ?_
    refine g_dup k53_86 rfl ?_
    refine g_getv (v := nI r) k53_87 (hR.2.2.2.2.1) (by decide) (by rw [ur_ne (by omega)]; exact hr) ?_
    refine g_iconst (v := 1) k53_90 ic_1 ?_
    refine g_iadd k53_91 ?_
    refine g_top (y := nI (r + 1)) (nI_1 r) ?_
    refine g_puti k53_92 (by decide) (hR.2.2.2.2.1) (by decide) ?_
    refine g_aload_n k53_95 rfl ?_
    refine g_iload k53_96 rfl ?_
    refine g_inv1 k53_98 (hR.1) rfl (by decide) (Nat.le_of_ble_eq_true rfl) (c54 (d := d0) hR (by rw [u2_ne (by omega), ur_ne (by omega)]; exact hdd) (by omega) (fun z => by omega) (fun _ => ?_))
    exact g_retv k53_101 rfl (h1)
  | succ n ih =>
    intro i hii
    have hlt : i < hi + 1 - lo := by omega
    refine g_iload k53_33 rfl ?_
    refine g_iload_n k53_35 rfl ?_
    refine g_icmp_gt k53_36 (fun h => absurd h (nI_nlt (by omega) (by omega))) (fun _ => ?_)
    refine g_aload_n k53_39 rfl ?_
    refine g_getr k53_40 (hR.1) (by decide) (hR.2.2.1) ?_
    refine g_iconst (v := 1) k53_43 ic_1 ?_
    refine g_aload_n k53_44 rfl ?_
    refine g_getr k53_45 (hR.1) (by decide) (hR.2.2.1) ?_
    refine g_getv (v := nI r) k53_48 (hR.2.2.2.2.1) (by decide) (by rw [ur_ne (by omega)]; exact hr) ?_
    refine g_iadd k53_51 ?_
    refine g_top (y := nI (1 + r)) (by rw [show (1 : Int32) = nI 1 from rfl, nI_add]) ?_
    refine g_iload k53_52 rfl ?_
    refine g_aload_n k53_54 rfl ?_
    refine g_getr k53_55 (hS.1) (by decide) (hS.2.1) ?_
    refine g_iload k53_58 rfl ?_
    refine g_ialv (v := im (s + 1) (lo + i)) k53_60 (hS.2.2.2.1) (by omega) (by decide) (by rw [ur_ne (by omega)]) ?_
    refine g_inv3 k53_61 (hR.2.2.2.2.1) rfl rfl rfl (by decide) (Nat.le_of_ble_eq_true rfl) (c61 (a := 12) (r := 1 + r) (k := lo + i) hR.2.2.2.2 (by omega) ?_)
    rw [ur_u2, ad_c_s]
    refine g_iload k53_64 rfl ?_
    refine g_aload_n k53_66 rfl ?_
    refine g_getr k53_67 (hS.1) (by decide) (hS.2.2.1) ?_
    refine g_iload k53_70 rfl ?_
    refine g_ialv (v := im (s + 2) (lo + i)) k53_72 (hS.2.2.2.2) (by omega) (by decide) (by rw [ur_ne (by omega)]) ?_
    refine g_iadd k53_73 ?_
    refine g_istore k53_74 (by decide) rfl ?_
    refine g_iincv (y := nI (lo + (i + 1))) k53_76 rfl (by decide) (inc_1 _) rfl ?_
    refine g_goto k53_79 ?_
    exact ih (i + 1) (by omega)

set_option maxRecDepth 20000 in
set_option maxHeartbeats 4000000 in
theorem c53 {LS : Nat} {rm : Nat → Nat → Option Nat} {im : Nat → Nat → Int32} {P : Option Value → (Nat → Nat → Int32) → Prop} {d s r : Nat} (hR : isRn LS rm 10) (hS : isWS LS rm s) (hs : 13 < s) (hd : im 10 2 = nI d) (hb : d ≤ 8) (hr : im 12 1 = nI r) (hr2 : r ≤ 2) (hF : ¬ (2 ≤ d ∧ r < 2) → ∀ im', rnF im im' → im' 10 4 = 1 → P none im') (h1 : 2 ≤ d → r < 2 → P none (en_u2 (en_u2 (en_u2 (en_ur (en_u2 (en_u2 im 10 2 (nI (d - 1))) 10 2 (nI (d - 2))) 13 (ad_c (im (s + 1)) (im 13) r (kb (im 11 (d - 2))) (kb (im 11 (d - 1)) + 1 - kb (im 11 (d - 2))))) 12 1 (nI (r + 1))) 11 (d - 2) (sm (im (s + 2)) (kb (im 11 (d - 2))) (kb (im 11 (d - 1)) + 1 - kb (im 11 (d - 2))))) 10 2 (nI (d - 2 + 1)))) : Gm LS rm 53 0 (en_in 53 [.ref 10, .ref s]) [] im P := by
  show Gm LS rm 53 0 [.ref (10), .ref (s), .long 0, .long 0, .long 0, .long 0] [] im P
  refine g_aload_n k53_0 rfl ?_
  refine g_inv0 k53_1 (hR.1) (by decide) (Nat.le_of_ble_eq_true rfl) (c56 hR hd hb (fun hz => ?_) (fun hz => ?_))
  · subst hz
    refine g_istore_n k53_4 (by decide) rfl ?_
    refine g_aload_n k53_5 rfl ?_
    refine g_inv0 k53_6 (hR.1) (by decide) (Nat.le_of_ble_eq_true rfl) (c56 (d := 0) hR (by simp [en_u2, hd]) (by decide) (fun _ => ?_) (fun z => absurd z (by decide)))
    refine g_istore_n k53_9 (by decide) rfl ?_
    refine g_aload_n k53_10 rfl ?_
    refine g_getr k53_11 (hR.1) (by decide) (hR.2.2.1) ?_
    refine g_getv (v := nI r) k53_14 (hR.2.2.2.2.1) (by decide) (by simp [en_u2, hr]) ?_
    refine g_iconst (v := 2) k53_17 ic_2 ?_
    refine g_icmp_lt k53_18 (fun e => ?_) (fun e => ?_)
    · have hlt : r < 2 := (nI_ltI (by omega) (by decide)).mp e
      refine g_iconst (v := 0) k53_27 ic_0 ?_
      refine g_istore k53_28 (by decide) rfl ?_
      refine g_iload_n k53_30 rfl ?_
      refine g_istore k53_31 (by decide) rfl ?_
      have := l53 (im := en_u2 (en_u2 im 10 4 1) 10 4 1) (s := s) (hi := 0) (lo := 0) (r := r) (d0 := 0) (P := P) hR hS hs (by decide) (by decide) (by simp [en_u2, hd]) (by decide) (by simp [en_u2, hr]) hlt (hF (by omega) _ (fun c hc => by funext k; simp [en_u2, en_ur, show c ≠ 10 by omega, show c ≠ 11 by omega, show c ≠ 12 by omega, show c ≠ 13 by omega]) (by simp [en_u2, en_ur])) (0 + 1 - 0) 0 (by omega)
      rw [ad_c_0, ur_self] at this
      exact this
    · have hge : ¬ r < 2 := fun z => e (nI_lt (b := 2) z (by decide))
      refine g_aload_n k53_21 rfl ?_
      refine g_iconst (v := 1) k53_22 ic_1 ?_
      refine g_putz k53_23 (by decide) (hR.1) (by decide) (by decide) ?_
      exact g_retv k53_26 rfl (hF (by omega) _ (fun c hc => by funext k; simp [en_u2, en_ur, show c ≠ 10 by omega, show c ≠ 11 by omega, show c ≠ 12 by omega, show c ≠ 13 by omega]) (by simp [en_u2, en_ur]))
  · have hk := kb_lt (im 11 (d - 1))
    refine g_istore_n k53_4 (by decide) rfl ?_
    refine g_aload_n k53_5 rfl ?_
    refine g_inv0 k53_6 (hR.1) (by decide) (Nat.le_of_ble_eq_true rfl) (c56 (d := d - 1) hR (by simp [en_u2]) (by omega) (fun hy => ?_) (fun hy => ?_))
    · refine g_istore_n k53_9 (by decide) rfl ?_
      refine g_aload_n k53_10 rfl ?_
      refine g_getr k53_11 (hR.1) (by decide) (hR.2.2.1) ?_
      refine g_getv (v := nI r) k53_14 (hR.2.2.2.2.1) (by decide) (by simp [en_u2, hr]) ?_
      refine g_iconst (v := 2) k53_17 ic_2 ?_
      refine g_icmp_lt k53_18 (fun e => ?_) (fun e => ?_)
      · have hlt : r < 2 := (nI_ltI (by omega) (by decide)).mp e
        refine g_iconst (v := 0) k53_27 ic_0 ?_
        refine g_istore k53_28 (by decide) rfl ?_
        refine g_iload_n k53_30 rfl ?_
        refine g_istore k53_31 (by decide) rfl ?_
        have := l53 (im := en_u2 (en_u2 im 10 2 (nI (d - 1))) 10 4 1) (s := s) (hi := kb (im 11 (d - 1))) (lo := 0) (r := r) (d0 := d - 1) (P := P) hR hS hs hk (by decide) (by simp [en_u2]) (by omega) (by simp [en_u2, hr]) hlt (hF (by omega) _ (fun c hc => by funext k; simp [en_u2, en_ur, show c ≠ 10 by omega, show c ≠ 11 by omega, show c ≠ 12 by omega, show c ≠ 13 by omega]) (by simp [en_u2, en_ur])) (kb (im 11 (d - 1)) + 1 - 0) 0 (by omega)
        rw [ad_c_0, ur_self] at this
        exact this
      · have hge : ¬ r < 2 := fun z => e (nI_lt (b := 2) z (by decide))
        refine g_aload_n k53_21 rfl ?_
        refine g_iconst (v := 1) k53_22 ic_1 ?_
        refine g_putz k53_23 (by decide) (hR.1) (by decide) (by decide) ?_
        exact g_retv k53_26 rfl (hF (by omega) _ (fun c hc => by funext k; simp [en_u2, en_ur, show c ≠ 10 by omega, show c ≠ 11 by omega, show c ≠ 12 by omega, show c ≠ 13 by omega]) (by simp [en_u2, en_ur]))
    · refine g_istore_n k53_9 (by decide) rfl ?_
      have ed : d - 1 - 1 = d - 2 := by omega
      rw [ed]
      rw [u2_ne (by omega)]
      have hk2 := kb_lt (im 11 (d - 2))
      refine g_aload_n k53_10 rfl ?_
      refine g_getr k53_11 (hR.1) (by decide) (hR.2.2.1) ?_
      refine g_getv (v := nI r) k53_14 (hR.2.2.2.2.1) (by decide) (by simp [en_u2, hr]) ?_
      refine g_iconst (v := 2) k53_17 ic_2 ?_
      refine g_icmp_lt k53_18 (fun e => ?_) (fun e => ?_)
      · have hlt : r < 2 := (nI_ltI (by omega) (by decide)).mp e
        refine g_iconst (v := 0) k53_27 ic_0 ?_
        refine g_istore k53_28 (by decide) rfl ?_
        refine g_iload_n k53_30 rfl ?_
        refine g_istore k53_31 (by decide) rfl ?_
        have h1 := h1 (by omega) hlt
        have := l53 (im := en_u2 (en_u2 im 10 2 (nI (d - 1))) 10 2 (nI (d - 2))) (s := s) (hi := kb (im 11 (d - 1))) (lo := kb (im 11 (d - 2))) (r := r) (d0 := d - 2) (P := P) hR hS hs hk hk2 (by simp [en_u2]) (by omega) (by simp [en_u2, hr]) hlt (by
          rw [en_u2_off (b := s + 1) (by omega), en_u2_off (b := s + 1) (by omega), en_u2_off (b := s + 2) (by omega), en_u2_off (b := s + 2) (by omega), en_u2_off (b := 13) (by omega), en_u2_off (b := 13) (by omega)]
          exact h1) (kb (im 11 (d - 1)) + 1 - kb (im 11 (d - 2))) 0 (by omega)
        rw [ad_c_0, ur_self] at this
        exact this
      · have hge : ¬ r < 2 := fun z => e (nI_lt (b := 2) z (by decide))
        refine g_aload_n k53_21 rfl ?_
        refine g_iconst (v := 1) k53_22 ic_1 ?_
        refine g_putz k53_23 (by decide) (hR.1) (by decide) (by decide) ?_
        exact g_retv k53_26 rfl (hF (by omega) _ (fun c hc => by funext k; simp [en_u2, en_ur, show c ≠ 10 by omega, show c ≠ 11 by omega, show c ≠ 12 by omega, show c ≠ 13 by omega]) (by simp [en_u2, en_ur]))

set_option maxRecDepth 20000 in
set_option maxHeartbeats 4000000 in
theorem c51_7 {LS : Nat} {rm : Nat → Nat → Option Nat} {im : Nat → Nat → Int32} {P : Option Value → (Nat → Nat → Int32) → Prop} {d s r : Nat} (hR : isRn LS rm 10) (hS : isWS LS rm s) (hs : 13 < s) (hd : im 10 2 = nI d) (hb : d ≤ 8) (hr : im 12 1 = nI r) (hr2 : r ≤ 2) (hF : ¬ (1 ≤ d) → ∀ im', rnF im im' → im' 10 4 = 1 → P none im') (h1 : 1 ≤ d → P none (en_u2 (en_u2 (en_u2 (en_u2 im 10 2 (nI (d - 1))) 13 (kb (im 11 (d - 1))) (im (s + 1) (kb (im 11 (d - 1))))) 11 (d - 1) (im (s + 2) (kb (im 11 (d - 1))))) 10 2 (nI (d - 1 + 1)))) : Gm LS rm 51 0 (en_in 51 [.ref 10, .int (nI 7), .ref s]) [] im P := by
  show Gm LS rm 51 0 [.ref (10), .int (nI 7), .ref (s), .long 0] [] im P
  refine g_iload_n k51_0 rfl ?_
  refine g_tabI (tgt := 32) k51_1 (by decide) (by decide) rfl (by decide) ?_
  refine g_aload_n k51_32 rfl ?_
  refine g_aload_n k51_33 rfl ?_
  refine g_inv1 k51_34 (hR.1) rfl (by decide) (Nat.le_of_ble_eq_true rfl) (c52 hR hS hs hd hb (fun hn im' hf he => ?_) (fun hz => ?_))
  · refine g_goto k51_37 ?_
    exact g_retv k51_85 rfl (hF hn im' hf he)
  · refine g_goto k51_37 ?_
    exact g_retv k51_85 rfl (h1 hz)

set_option maxRecDepth 20000 in
set_option maxHeartbeats 4000000 in
theorem c51_10 {LS : Nat} {rm : Nat → Nat → Option Nat} {im : Nat → Nat → Int32} {P : Option Value → (Nat → Nat → Int32) → Prop} {d s r : Nat} (hR : isRn LS rm 10) (hS : isWS LS rm s) (hs : 13 < s) (hd : im 10 2 = nI d) (hb : d ≤ 8) (hr : im 12 1 = nI r) (hr2 : r ≤ 2) (hF : ¬ (2 ≤ d ∧ r < 2) → ∀ im', rnF im im' → im' 10 4 = 1 → P none im') (h1 : 2 ≤ d → r < 2 → P none (en_u2 (en_u2 (en_u2 (en_ur (en_u2 (en_u2 im 10 2 (nI (d - 1))) 10 2 (nI (d - 2))) 13 (ad_c (im (s + 1)) (im 13) r (kb (im 11 (d - 2))) (kb (im 11 (d - 1)) + 1 - kb (im 11 (d - 2))))) 12 1 (nI (r + 1))) 11 (d - 2) (sm (im (s + 2)) (kb (im 11 (d - 2))) (kb (im 11 (d - 1)) + 1 - kb (im 11 (d - 2))))) 10 2 (nI (d - 2 + 1)))) : Gm LS rm 51 0 (en_in 51 [.ref 10, .int (nI 10), .ref s]) [] im P := by
  show Gm LS rm 51 0 [.ref (10), .int (nI 10), .ref (s), .long 0] [] im P
  refine g_iload_n k51_0 rfl ?_
  refine g_tabI (tgt := 77) k51_1 (by decide) (by decide) rfl (by decide) ?_
  refine g_aload_n k51_77 rfl ?_
  refine g_aload_n k51_78 rfl ?_
  refine g_inv1 k51_79 (hR.1) rfl (by decide) (Nat.le_of_ble_eq_true rfl) (c53 hR hS hs hd hb hr hr2 (fun hn im' hf he => ?_) (fun hz hy => ?_))
  · refine g_goto k51_82 ?_
    exact g_retv k51_85 rfl (hF hn im' hf he)
  · refine g_goto k51_82 ?_
    exact g_retv k51_85 rfl (h1 hz hy)

set_option maxRecDepth 20000 in
set_option maxHeartbeats 4000000 in
theorem c51_9 {LS : Nat} {rm : Nat → Nat → Option Nat} {im : Nat → Nat → Int32} {P : Option Value → (Nat → Nat → Int32) → Prop} {d s r : Nat} (hR : isRn LS rm 10) (hS : isWS LS rm s) (hs : 13 < s) (hd : im 10 2 = nI d) (hb : d ≤ 8) (hr : im 12 1 = nI r) (hr2 : r ≤ 2) (hF : ¬ (1 ≤ d) → ∀ im', rnF im im' → im' 10 4 = 1 → P none im') (h1 : 1 ≤ d → P none (en_u2 (en_u2 (en_u2 im 10 2 (nI (d - 1))) 13 (48 + kb (im 11 (d - 1))) 2) 13 (64 + kb (im 11 (d - 1))) 0)) : Gm LS rm 51 0 (en_in 51 [.ref 10, .int (nI 9), .ref s]) [] im P := by
  show Gm LS rm 51 0 [.ref (10), .int (nI 9), .ref (s), .long 0] [] im P
  refine g_iload_n k51_0 rfl ?_
  refine g_tabI (tgt := 61) k51_1 (by decide) (by decide) rfl (by decide) ?_
  refine g_aload_n k51_61 rfl ?_
  refine g_getr k51_62 (hR.1) (by decide) (hR.2.2.1) ?_
  refine g_aload_n k51_65 rfl ?_
  refine g_inv0 k51_66 (hR.1) (by decide) (Nat.le_of_ble_eq_true rfl) (c56 hR hd hb (fun hz => ?_) (fun hz => ?_))
  · refine g_iconst (v := 2) k51_69 ic_2 ?_
    refine g_iconst (v := 0) k51_70 ic_0 ?_
    refine g_inv3 k51_71 (hR.2.2.2.2.1) rfl rfl rfl (by decide) (Nat.le_of_ble_eq_true rfl) (c62 (a := 12) (k := 0) hR.2.2.2.2 (by decide) ?_)
    refine g_goto k51_74 ?_
    exact g_retv k51_85 rfl (hF (by omega) _ (fun c hc => by funext k; simp [en_u2, en_ur, show c ≠ 10 by omega, show c ≠ 11 by omega, show c ≠ 12 by omega, show c ≠ 13 by omega]) (by simp [en_u2, en_ur]))
  · refine g_iconst (v := 2) k51_69 ic_2 ?_
    refine g_iconst (v := 0) k51_70 ic_0 ?_
    refine g_inv3 k51_71 (hR.2.2.2.2.1) rfl rfl rfl (by decide) (Nat.le_of_ble_eq_true rfl) (c62 (a := 12) (k := kb (im 11 (d - 1))) hR.2.2.2.2 (kb_lt _) ?_)
    refine g_goto k51_74 ?_
    exact g_retv k51_85 rfl (h1 hz)

set_option maxRecDepth 20000 in
set_option maxHeartbeats 4000000 in
theorem c51_8 {LS : Nat} {rm : Nat → Nat → Option Nat} {im : Nat → Nat → Int32} {P : Option Value → (Nat → Nat → Int32) → Prop} {d s r : Nat} (hR : isRn LS rm 10) (hS : isWS LS rm s) (hs : 13 < s) (hd : im 10 2 = nI d) (hb : d ≤ 8) (hr : im 12 1 = nI r) (hr2 : r ≤ 2) (hF : ¬ (2 ≤ d) → ∀ im', rnF im im' → im' 10 4 = 1 → P none im') (h1 : 2 ≤ d → P none (en_u2 (en_u2 (en_u2 (en_u2 im 10 2 (nI (d - 1))) 10 2 (nI (d - 2))) 13 (48 + kb (im 11 (d - 2))) 1) 13 (64 + kb (im 11 (d - 2))) (im 11 (d - 1)))) : Gm LS rm 51 0 (en_in 51 [.ref 10, .int (nI 8), .ref s]) [] im P := by
  show Gm LS rm 51 0 [.ref (10), .int (nI 8), .ref (s), .long 0] [] im P
  refine g_iload_n k51_0 rfl ?_
  refine g_tabI (tgt := 40) k51_1 (by decide) (by decide) rfl (by decide) ?_
  refine g_aload_n k51_40 rfl ?_
  refine g_inv0 k51_41 (hR.1) (by decide) (Nat.le_of_ble_eq_true rfl) (c55 hR hd hb (fun hz => ?_) (fun hz => ?_))
  · subst hz
    refine g_istore_n k51_44 (by decide) rfl ?_
    refine g_aload_n k51_45 rfl ?_
    refine g_getr k51_46 (hR.1) (by decide) (hR.2.2.1) ?_
    refine g_aload_n k51_49 rfl ?_
    refine g_inv0 k51_50 (hR.1) (by decide) (Nat.le_of_ble_eq_true rfl) (c56 (d := 0) hR (by simp [en_u2, hd]) (by decide) (fun _ => ?_) (fun z => absurd z (by decide)))
    refine g_iconst (v := 1) k51_53 ic_1 ?_
    refine g_iload_n k51_54 rfl ?_
    refine g_inv3 k51_55 (hR.2.2.2.2.1) rfl rfl rfl (by decide) (Nat.le_of_ble_eq_true rfl) (c62 (a := 12) (k := 0) hR.2.2.2.2 (by decide) ?_)
    refine g_goto k51_58 ?_
    exact g_retv k51_85 rfl (hF (by omega) _ (fun c hc => by funext k; simp [en_u2, en_ur, show c ≠ 10 by omega, show c ≠ 11 by omega, show c ≠ 12 by omega, show c ≠ 13 by omega]) (by simp [en_u2, en_ur]))
  · refine g_istore_n k51_44 (by decide) rfl ?_
    refine g_aload_n k51_45 rfl ?_
    refine g_getr k51_46 (hR.1) (by decide) (hR.2.2.1) ?_
    refine g_aload_n k51_49 rfl ?_
    refine g_inv0 k51_50 (hR.1) (by decide) (Nat.le_of_ble_eq_true rfl) (c56 (d := d - 1) hR (by simp [en_u2]) (by omega) (fun hy => ?_) (fun hy => ?_))
    · refine g_iconst (v := 1) k51_53 ic_1 ?_
      refine g_iload_n k51_54 rfl ?_
      refine g_inv3 k51_55 (hR.2.2.2.2.1) rfl rfl rfl (by decide) (Nat.le_of_ble_eq_true rfl) (c62 (a := 12) (k := 0) hR.2.2.2.2 (by decide) ?_)
      refine g_goto k51_58 ?_
      exact g_retv k51_85 rfl (hF (by omega) _ (fun c hc => by funext k; simp [en_u2, en_ur, show c ≠ 10 by omega, show c ≠ 11 by omega, show c ≠ 12 by omega, show c ≠ 13 by omega]) (by simp [en_u2, en_ur]))
    · have ed : d - 1 - 1 = d - 2 := by omega
      rw [ed]
      rw [u2_ne (by omega)]
      refine g_iconst (v := 1) k51_53 ic_1 ?_
      refine g_iload_n k51_54 rfl ?_
      refine g_inv3 k51_55 (hR.2.2.2.2.1) rfl rfl rfl (by decide) (Nat.le_of_ble_eq_true rfl) (c62 (a := 12) (k := kb (im 11 (d - 2))) hR.2.2.2.2 (kb_lt _) ?_)
      refine g_goto k51_58 ?_
      exact g_retv k51_85 rfl (h1 (by omega))
end
section
set_option maxRecDepth 20000 in
set_option maxHeartbeats 4000000 in
theorem c48 {LS : Nat} {rm : Nat → Nat → Option Nat} {im : Nat → Nat → Int32} {P : Option Value → (Nat → Nat → Int32) → Prop} {o d r s : Nat} {x arg : Int32} {S c : Nat → Int32} (hR : isRn LS rm 10) (hS : isWS LS rm s) (hs : 13 < s) (ho : o ≤ 10) (hx : o = 6 → x = nI (tn x)) (hC : rnC im d S c r) (hf0 : im 10 4 = 0) (hl0 : im 10 3 = 0) (h1 : ∀ d' S' c' r' l', rn_step o x arg (im (s + 1)) (im (s + 2)) d S c r = some ((d', S', c', r'), l') → ∀ im', rnF im im' → rnC im' d' S' c' r' → im' 10 4 = 0 → im' 10 3 = nI l' → P none im') (h0 : rn_step o x arg (im (s + 1)) (im (s + 2)) d S c r = none → ∀ im', rnF im im' → im' 10 4 = 1 → P none im') : Gm LS rm 48 0 (en_in 48 [.ref 10, .int (nI o), .int x, .int arg, .ref s]) [] im P := by
  show Gm LS rm 48 0 [.ref (10), .int (nI o), .int (x), .int (arg), .ref (s)] [] im P
  obtain ⟨hd, hb, hst, hcl, hr, hr2⟩ := hC
  refine g_iload_n k48_0 rfl ?_
  have hoo : o = 0 ∨ o = 1 ∨ o = 2 ∨ o = 3 ∨ o = 4 ∨ o = 5 ∨ o = 6 ∨ o = 7 ∨ o = 8 ∨ o = 9 ∨ o = 10 := by omega
  rcases hoo with rfl | rfl | rfl | rfl | rfl | rfl | rfl | rfl | rfl | rfl | rfl
  · refine g_tabI (tgt := 44) k48_1 (by decide) (by decide) rfl (by decide) ?_
    refine g_aload_n k48_44 rfl ?_
    refine g_iload_n k48_45 rfl ?_
    refine g_inv1 k48_46 (hR.1) rfl (by decide) (Nat.le_of_ble_eq_true rfl) (c54 hR hd hb (fun z => ?_) (fun z => ?_))
    · refine g_goto k48_49 ?_
      exact g_retv k48_101 rfl (h0 (by simp [rn_step, z]) _ (fun b hb9 => by funext k; simp [en_u2, en_ur, show b ≠ 10 by omega, show b ≠ 11 by omega, show b ≠ 12 by omega, show b ≠ 13 by omega]) (by simp [en_u2]))
    · refine g_goto k48_49 ?_
      exact g_retv k48_101 rfl ((h1 (d + 1) (upd S d x) (c) (r) (0) (by simp [rn_step, z]) _ (fun b hb9 => by funext k; simp [en_u2, en_ur, show b ≠ 10 by omega, show b ≠ 11 by omega, show b ≠ 12 by omega, show b ≠ 13 by omega]) ⟨by simp [en_u2, en_ur], by omega, (fun i hi => by simp only [en_u2, en_ur, upd]; by_cases z : i = d; simp [z]; simp [z]; exact hst i (by omega)), (fun k hk => by simp only [en_u2, en_ur]; simp; exact hcl k hk), by simp [en_u2, en_ur, hr], by omega⟩ (by simp [en_u2, en_ur, hf0]) (by simp [en_u2, en_ur, hl0]; rfl)))
  · refine g_tabI (tgt := 52) k48_1 (by decide) (by decide) rfl (by decide) ?_
    refine g_aload_n k48_52 rfl ?_
    refine g_iload_n k48_53 rfl ?_
    refine g_inv1 k48_54 (hR.1) rfl (by decide) (Nat.le_of_ble_eq_true rfl) (c54 hR hd hb (fun z => ?_) (fun z => ?_))
    · refine g_goto k48_57 ?_
      exact g_retv k48_101 rfl (h0 (by simp [rn_step, z]) _ (fun b hb9 => by funext k; simp [en_u2, en_ur, show b ≠ 10 by omega, show b ≠ 11 by omega, show b ≠ 12 by omega, show b ≠ 13 by omega]) (by simp [en_u2]))
    · refine g_goto k48_57 ?_
      exact g_retv k48_101 rfl ((h1 (d + 1) (upd S d arg) (c) (r) (0) (by simp [rn_step, z]) _ (fun b hb9 => by funext k; simp [en_u2, en_ur, show b ≠ 10 by omega, show b ≠ 11 by omega, show b ≠ 12 by omega, show b ≠ 13 by omega]) ⟨by simp [en_u2, en_ur], by omega, (fun i hi => by simp only [en_u2, en_ur, upd]; by_cases z : i = d; simp [z]; simp [z]; exact hst i (by omega)), (fun k hk => by simp only [en_u2, en_ur]; simp; exact hcl k hk), by simp [en_u2, en_ur, hr], by omega⟩ (by simp [en_u2, en_ur, hf0]) (by simp [en_u2, en_ur, hl0]; rfl)))
  · refine g_tabI (tgt := 60) k48_1 (by decide) (by decide) rfl (by decide) ?_
    refine g_aload_n k48_60 rfl ?_
    refine g_iload_n k48_61 rfl ?_
    refine g_inv1 k48_62 (hR.1) rfl (by decide) (Nat.le_of_ble_eq_true rfl) (c49 (o := 2) hR (by decide) (by decide) hd hb (fun hn im' hf he => ?_) (fun z => ?_))
    · refine g_goto k48_65 ?_
      exact g_retv k48_101 rfl (h0 (by simp only [rn_step]; simp [hn] <;> omega) im' hf he)
    · have e1 := hst (d - 1) (by omega)
      have e2 := hst (d - 2) (by omega)
      refine g_goto k48_65 ?_
      exact g_retv k48_101 rfl ((h1 (d - 1) (upd S (d - 2) (S (d - 2) + S (d - 1))) (c) (r) (0) (by simp [rn_step, z]) _ (fun b hb9 => by funext k; simp [en_u2, en_ur, show b ≠ 10 by omega, show b ≠ 11 by omega, show b ≠ 12 by omega, show b ≠ 13 by omega]) ⟨by rw [u2_eq, show d - 2 + 1 = d - 1 by omega], by omega, (fun i hi => by simp only [en_u2, en_ur, upd]; by_cases z : i = d - 2; simp [z, e1, e2]; simp [z]; exact hst i (by omega)), (fun k hk => by simp only [en_u2, en_ur]; simp; exact hcl k hk), by simp [en_u2, en_ur, hr], by omega⟩ (by simp [en_u2, en_ur, hf0]) (by simp [en_u2, en_ur, hl0]; rfl)))
  · refine g_tabI (tgt := 60) k48_1 (by decide) (by decide) rfl (by decide) ?_
    refine g_aload_n k48_60 rfl ?_
    refine g_iload_n k48_61 rfl ?_
    refine g_inv1 k48_62 (hR.1) rfl (by decide) (Nat.le_of_ble_eq_true rfl) (c49 (o := 3) hR (by decide) (by decide) hd hb (fun hn im' hf he => ?_) (fun z => ?_))
    · refine g_goto k48_65 ?_
      exact g_retv k48_101 rfl (h0 (by simp only [rn_step]; simp [hn] <;> omega) im' hf he)
    · have e1 := hst (d - 1) (by omega)
      have e2 := hst (d - 2) (by omega)
      refine g_goto k48_65 ?_
      exact g_retv k48_101 rfl ((h1 (d - 1) (upd S (d - 2) (S (d - 2) - S (d - 1))) (c) (r) (0) (by simp [rn_step, z]) _ (fun b hb9 => by funext k; simp [en_u2, en_ur, show b ≠ 10 by omega, show b ≠ 11 by omega, show b ≠ 12 by omega, show b ≠ 13 by omega]) ⟨by rw [u2_eq, show d - 2 + 1 = d - 1 by omega], by omega, (fun i hi => by simp only [en_u2, en_ur, upd]; by_cases z : i = d - 2; simp [z, e1, e2]; simp [z]; exact hst i (by omega)), (fun k hk => by simp only [en_u2, en_ur]; simp; exact hcl k hk), by simp [en_u2, en_ur, hr], by omega⟩ (by simp [en_u2, en_ur, hf0]) (by simp [en_u2, en_ur, hl0]; rfl)))
  · refine g_tabI (tgt := 60) k48_1 (by decide) (by decide) rfl (by decide) ?_
    refine g_aload_n k48_60 rfl ?_
    refine g_iload_n k48_61 rfl ?_
    refine g_inv1 k48_62 (hR.1) rfl (by decide) (Nat.le_of_ble_eq_true rfl) (c49 (o := 4) hR (by decide) (by decide) hd hb (fun hn im' hf he => ?_) (fun z => ?_))
    · refine g_goto k48_65 ?_
      exact g_retv k48_101 rfl (h0 (by simp only [rn_step]; simp [hn] <;> omega) im' hf he)
    · have e1 := hst (d - 1) (by omega)
      have e2 := hst (d - 2) (by omega)
      refine g_goto k48_65 ?_
      exact g_retv k48_101 rfl ((h1 (d - 1) (upd S (d - 2) (if S (d - 2) < S (d - 1) then 1 else 0)) (c) (r) (0) (by simp [rn_step, z]) _ (fun b hb9 => by funext k; simp [en_u2, en_ur, show b ≠ 10 by omega, show b ≠ 11 by omega, show b ≠ 12 by omega, show b ≠ 13 by omega]) ⟨by rw [u2_eq, show d - 2 + 1 = d - 1 by omega], by omega, (fun i hi => by simp only [en_u2, en_ur, upd]; by_cases z : i = d - 2; simp [z, e1, e2]; simp [z]; exact hst i (by omega)), (fun k hk => by simp only [en_u2, en_ur]; simp; exact hcl k hk), by simp [en_u2, en_ur, hr], by omega⟩ (by simp [en_u2, en_ur, hf0]) (by simp [en_u2, en_ur, hl0]; rfl)))
  · refine g_tabI (tgt := 68) k48_1 (by decide) (by decide) rfl (by decide) ?_
    refine g_aload_n k48_68 rfl ?_
    refine g_inv0 k48_69 (hR.1) (by decide) (Nat.le_of_ble_eq_true rfl) (c50 hR hd hb (fun hn im' hf he => ?_) (fun z y => ?_))
    · refine g_goto k48_72 ?_
      exact g_retv k48_101 rfl (h0 (by simp only [rn_step]; simp <;> omega) im' hf he)
    · have e1 := hst (d - 1) (by omega)
      refine g_goto k48_72 ?_
      exact g_retv k48_101 rfl ((h1 (d + 1) (upd S d (S (d - 1))) (c) (r) (0) (by simp [rn_step, z, y]) _ (fun b hb9 => by funext k; simp [en_u2, en_ur, show b ≠ 10 by omega, show b ≠ 11 by omega, show b ≠ 12 by omega, show b ≠ 13 by omega]) ⟨by rw [u2_eq, show d - 1 + 1 + 1 = d + 1 by omega], by omega, (fun i hi => by simp only [en_u2, en_ur, upd]; have q1 : d - 1 + 1 = d := (by omega); by_cases z9 : i = d; simp [z9, e1, q1]; have q2 : i ≠ d - 1 + 1 := (by omega); simp [z9, q2]; by_cases z8 : i = d - 1; simp [z8, e1]; simp [z8]; exact hst i (by omega)), (fun k hk => by simp only [en_u2, en_ur]; simp; exact hcl k hk), by simp [en_u2, en_ur, hr], by omega⟩ (by simp [en_u2, en_ur, hf0]) (by simp [en_u2, en_ur, hl0]; rfl)))
  · refine g_tabI (tgt := 75) k48_1 (by decide) (by decide) rfl (by decide) ?_
    have hx := hx rfl
    refine g_aload_n k48_75 rfl ?_
    refine g_aload_n k48_76 rfl ?_
    refine g_inv0 k48_77 (hR.1) (by decide) (Nat.le_of_ble_eq_true rfl) (c55 hR hd hb (fun z => ?_) (fun z => ?_))
    · refine g_if_ne k48_80 (fun h => absurd (by decide) h) (fun _ => ?_)
      refine g_iload_n k48_83 rfl ?_
      refine g_goto k48_84 ?_
      refine g_puti k48_88 (by decide) (hR.1) (by decide) ?_
      refine g_goto k48_91 ?_
      exact g_retv k48_101 rfl (h0 (by simp [rn_step, z]) _ (fun b hb9 => by funext k; simp [en_u2, en_ur, show b ≠ 10 by omega, show b ≠ 11 by omega, show b ≠ 12 by omega, show b ≠ 13 by omega]) (by simp [en_u2]))
    · have e1 := hst (d - 1) (by omega)
      refine g_if_ne k48_80 (fun g => ?_) (fun g => ?_)
      · refine g_iconst (v := 0) k48_87 ic_0 ?_
        refine g_puti k48_88 (by decide) (hR.1) (by decide) ?_
        refine g_goto k48_91 ?_
        exact g_retv k48_101 rfl ((h1 (d - 1) (S) (c) (r) (0) (by simp [rn_step, show 1 ≤ d by omega, show ¬ S (d - 1) = 0 from e1 ▸ g]) _ (fun b hb9 => by funext k; simp [en_u2, en_ur, show b ≠ 10 by omega, show b ≠ 11 by omega, show b ≠ 12 by omega, show b ≠ 13 by omega]) ⟨by simp [en_u2, en_ur], by omega, (fun i hi => by simp only [en_u2, en_ur]; simp; exact hst i (by omega)), (fun k hk => by simp only [en_u2, en_ur]; simp; exact hcl k hk), by simp [en_u2, en_ur, hr], by omega⟩ (by simp [en_u2, en_ur, hf0]) (by simp [en_u2]; rfl)))
      · refine g_iload_n k48_83 rfl ?_
        refine g_goto k48_84 ?_
        refine g_puti k48_88 (by decide) (hR.1) (by decide) ?_
        refine g_goto k48_91 ?_
        exact g_retv k48_101 rfl ((h1 (d - 1) (S) (c) (r) (tn x) (by simp [rn_step, show 1 ≤ d by omega, show S (d - 1) = 0 from e1 ▸ g]) _ (fun b hb9 => by funext k; simp [en_u2, en_ur, show b ≠ 10 by omega, show b ≠ 11 by omega, show b ≠ 12 by omega, show b ≠ 13 by omega]) ⟨by simp [en_u2, en_ur], by omega, (fun i hi => by simp only [en_u2, en_ur]; simp; exact hst i (by omega)), (fun k hk => by simp only [en_u2, en_ur]; simp; exact hcl k hk), by simp [en_u2, en_ur, hr], by omega⟩ (by simp [en_u2, en_ur, hf0]) (by rw [u2_eq]; exact hx)))
  · refine g_tabO (tgt := 94) k48_1 (by decide) (by decide) ?_
    refine g_aload_n k48_94 rfl ?_
    refine g_iload_n k48_95 rfl ?_
    refine g_aload k48_96 rfl ?_
    refine g_inv2 k48_98 (hR.1) rfl rfl (by decide) (Nat.le_of_ble_eq_true rfl) (c51_7 hR hS hs hd hb hr hr2 (fun hn im' hf he => ?_) (fun z => ?_))
    · exact g_retv k48_101 rfl (h0 (by simp only [rn_step]; simp <;> omega) im' hf he)
    · have e1 := hst (d - 1) (by omega)
      rw [e1]
      exact g_retv k48_101 rfl ((h1 (d) (upd S (d - 1) (im (s + 2) (kb (S (d - 1))))) (upd c (kb (S (d - 1))) (im (s + 1) (kb (S (d - 1))))) (r) (0) (by simp [rn_step, show 1 ≤ d by omega]) _ (fun b hb9 => by funext k; simp [en_u2, en_ur, show b ≠ 10 by omega, show b ≠ 11 by omega, show b ≠ 12 by omega, show b ≠ 13 by omega]) ⟨by rw [u2_eq, show d - 1 + 1 = d by omega], by omega, (fun i hi => by simp only [en_u2, en_ur, upd]; by_cases z : i = d - 1; simp [z]; simp [z]; exact hst i (by omega)), (fun k hk => by simp only [en_u2, en_ur, upd]; by_cases z : k = kb (S (d - 1)); simp [z]; simp [z]; exact hcl k hk), by simp [en_u2, en_ur, hr], by omega⟩ (by simp [en_u2, en_ur, hf0]) (by simp [en_u2, en_ur, hl0]; rfl)))
  · refine g_tabO (tgt := 94) k48_1 (by decide) (by decide) ?_
    refine g_aload_n k48_94 rfl ?_
    refine g_iload_n k48_95 rfl ?_
    refine g_aload k48_96 rfl ?_
    refine g_inv2 k48_98 (hR.1) rfl rfl (by decide) (Nat.le_of_ble_eq_true rfl) (c51_8 hR hS hs hd hb hr hr2 (fun hn im' hf he => ?_) (fun z => ?_))
    · exact g_retv k48_101 rfl (h0 (by simp only [rn_step]; simp <;> omega) im' hf he)
    · have e1 := hst (d - 1) (by omega)
      have e2 := hst (d - 2) (by omega)
      rw [e1, e2]
      exact g_retv k48_101 rfl ((h1 (d - 2) (S) (upd (upd c (48 + kb (S (d - 2))) 1) (64 + kb (S (d - 2))) (S (d - 1))) (r) (0) (by simp [rn_step, z]) _ (fun b hb9 => by funext k; simp [en_u2, en_ur, show b ≠ 10 by omega, show b ≠ 11 by omega, show b ≠ 12 by omega, show b ≠ 13 by omega]) ⟨by simp [en_u2, en_ur], by omega, (fun i hi => by simp only [en_u2, en_ur]; simp; exact hst i (by omega)), (fun k hk => by simp only [en_u2, en_ur, upd]; by_cases z9 : k = 64 + kb (S (d - 2)); simp [z9]; simp [z9]; by_cases z8 : k = 48 + kb (S (d - 2)); simp [z8]; simp [z8]; exact hcl k hk), by simp [en_u2, en_ur, hr], by omega⟩ (by simp [en_u2, en_ur, hf0]) (by simp [en_u2, en_ur, hl0]; rfl)))
  · refine g_tabO (tgt := 94) k48_1 (by decide) (by decide) ?_
    refine g_aload_n k48_94 rfl ?_
    refine g_iload_n k48_95 rfl ?_
    refine g_aload k48_96 rfl ?_
    refine g_inv2 k48_98 (hR.1) rfl rfl (by decide) (Nat.le_of_ble_eq_true rfl) (c51_9 hR hS hs hd hb hr hr2 (fun hn im' hf he => ?_) (fun z => ?_))
    · exact g_retv k48_101 rfl (h0 (by simp only [rn_step]; simp <;> omega) im' hf he)
    · have e1 := hst (d - 1) (by omega)
      rw [e1]
      exact g_retv k48_101 rfl ((h1 (d - 1) (S) (upd (upd c (48 + kb (S (d - 1))) 2) (64 + kb (S (d - 1))) 0) (r) (0) (by simp [rn_step, show 1 ≤ d by omega]) _ (fun b hb9 => by funext k; simp [en_u2, en_ur, show b ≠ 10 by omega, show b ≠ 11 by omega, show b ≠ 12 by omega, show b ≠ 13 by omega]) ⟨by simp [en_u2, en_ur], by omega, (fun i hi => by simp only [en_u2, en_ur]; simp; exact hst i (by omega)), (fun k hk => by simp only [en_u2, en_ur, upd]; by_cases z9 : k = 64 + kb (S (d - 1)); simp [z9]; simp [z9]; by_cases z8 : k = 48 + kb (S (d - 1)); simp [z8]; simp [z8]; exact hcl k hk), by simp [en_u2, en_ur, hr], by omega⟩ (by simp [en_u2, en_ur, hf0]) (by simp [en_u2, en_ur, hl0]; rfl)))
  · refine g_tabO (tgt := 94) k48_1 (by decide) (by decide) ?_
    refine g_aload_n k48_94 rfl ?_
    refine g_iload_n k48_95 rfl ?_
    refine g_aload k48_96 rfl ?_
    refine g_inv2 k48_98 (hR.1) rfl rfl (by decide) (Nat.le_of_ble_eq_true rfl) (c51_10 hR hS hs hd hb hr hr2 (fun hn im' hf he => ?_) (fun z y => ?_))
    · exact g_retv k48_101 rfl (h0 (by simp only [rn_step]; simp <;> omega) im' hf he)
    · have e1 := hst (d - 1) (by omega)
      have e2 := hst (d - 2) (by omega)
      rw [e1, e2]
      exact g_retv k48_101 rfl ((h1 (d - 1) (upd S (d - 2) (sm (im (s + 2)) (kb (S (d - 2))) (kb (S (d - 1)) + 1 - kb (S (d - 2))))) (ad_c (im (s + 1)) c r (kb (S (d - 2))) (kb (S (d - 1)) + 1 - kb (S (d - 2)))) (r + 1) (0) (by simp [rn_step, z, y]) _ (fun b hb9 => by funext k; simp [en_u2, en_ur, show b ≠ 10 by omega, show b ≠ 11 by omega, show b ≠ 12 by omega, show b ≠ 13 by omega]) ⟨by rw [u2_eq, show d - 2 + 1 = d - 1 by omega], by omega, (fun i hi => by simp only [en_u2, en_ur, upd]; by_cases z : i = d - 2; simp [z]; simp [z]; exact hst i (by omega)), (fun k hk => by simp only [en_u2, en_ur]; simp; unfold ad_c; split; rfl; exact hcl k hk), by simp [en_u2, en_ur], by omega⟩ (by simp [en_u2, en_ur, hf0]) (by simp [en_u2, en_ur, hl0]; rfl)))

/-! a whole run: n instructions done; none: it failed *-/
def rn_run (op : Nat → Nat) (opd : Nat → Int32) (arg : Int32) (ver val : Nat → Int32) : Nat → Option rnT
  | 0 => some ((0, (fun _ => 0), rs_clr 80 (fun _ => 0), 0), 0)
  | n + 1 => match rn_run op opd arg ver val n with
    | none => none
    | some q => if 0 < q.2 then some (q.1, q.2 - 1) else rn_step (op n) (opd n) arg ver val q.1.1 q.1.2.1 q.1.2.2.1 q.1.2.2.2
/-- a machine that has failed stays so *-/
theorem rn_none {op : Nat → Nat} {opd : Nat → Int32} {arg : Int32} {ver val : Nat → Int32} : ∀ (k n : Nat), rn_run op opd arg ver val n = none → rn_run op opd arg ver val (n + k) = none := by
  intro k
  induction k with
  | zero => intro n h; exact h
  | succ k ih =>
    intro n h
    show (match rn_run op opd arg ver val (n + k) with
      | none => none
      | some q => if 0 < q.2 then some (q.1, q.2 - 1) else rn_step (op (n + k)) (opd (n + k)) arg ver val q.1.1 q.1.2.1 q.1.2.2.1 q.1.2.2.2) = none
    rw [ih n h]
theorem rn_l {o : Nat} {x arg : Int32} {ver val : Nat → Int32} {d : Nat} {S c : Nat → Int32} {r : Nat} {p : Nat × (Nat → Int32) × (Nat → Int32) × Nat} {l : Nat} (h : rn_step o x arg ver val d S c r = some (p, l)) (hx : o = 6 → tn x ≤ 12) : l ≤ 12 := by
  have key : ∀ {c1 : Prop} [Decidable c1] {A B : Option rnT}, (c1 → A = some (p, l) → l ≤ 12) → (B = some (p, l) → l ≤ 12) → (if c1 then A else B) = some (p, l) → l ≤ 12 := by
    intro c1 _ A B hA hB h
    split at h
    · exact hA (by assumption) h
    · exact hB h
  have nn : (none : Option rnT) = some (p, l) → l ≤ 12 := fun h => by cases h
  have zz : ∀ (q : Nat × (Nat → Int32) × (Nat → Int32) × Nat) (y : Nat), y ≤ 12 → (some (q, y) : Option rnT) = some (p, l) → l ≤ 12 := fun q y hy h => by
    injection h with h
    injection h with h1 h2
    omega
  unfold rn_step at h
  revert h
  refine key (fun _ => key (fun _ => zz _ _ (by decide)) nn) (key (fun _ => key (fun _ => zz _ _ (by decide)) nn) (key (fun _ => key (fun _ => zz _ _ (by decide)) nn) (key (fun _ => key (fun _ => zz _ _ (by decide)) nn) (key (fun _ => key (fun _ => zz _ _ (by decide)) nn) (key (fun _ => key (fun _ => zz _ _ (by decide)) nn) (key (fun h6 => key (fun _ => zz _ _ ?_) nn) (key (fun _ => key (fun _ => zz _ _ (by decide)) nn) (key (fun _ => key (fun _ => zz _ _ (by decide)) nn) (key (fun _ => key (fun _ => zz _ _ (by decide)) nn) (key (fun _ => zz _ _ (by decide)) nn))))))))))
  split
  · exact hx h6
  · omega
set_option maxRecDepth 20000 in
set_option maxHeartbeats 4000000 in
theorem l47 {LS : Nat} {rm : Nat → Nat → Option Nat} {im : Nat → Nat → Int32} {P : Option Value → (Nat → Nat → Int32) → Prop} {pa s len : Nat} {op : Nat → Nat} {opd : Nat → Int32} {arg : Int32} (hR : isRn LS rm 10) (hA : isPr LS rm pa) (hpa : 13 < pa) (hS : isWS LS rm s) (hs : 13 < s) (hl : im pa 2 = nI len) (hl2 : len ≤ 12) (hop : ∀ i, i < len → im (pa + 1) i = nI (op i) ∧ op i ≤ 10) (hod : ∀ i, i < len → im (pa + 2) i = opd i ∧ (op i = 6 → opd i = nI (tn (opd i)) ∧ tn (opd i) ≤ 12)) (h0 : rn_run op opd arg (im (s + 1)) (im (s + 2)) len = none → ∀ im', rnF im im' → P (some (.int 0)) im') (h1 : ∀ q, rn_run op opd arg (im (s + 1)) (im (s + 2)) len = some q → ∀ im', rnF im im' → rnC im' q.1.1 q.1.2.1 q.1.2.2.1 q.1.2.2.2 → P (some (.int 1)) im') : ∀ (n i : Nat), i + n = len → ∀ (im2 : Nat → Nat → Int32), rnF im im2 → ∀ (q : rnT), rn_run op opd arg (im (s + 1)) (im (s + 2)) i = some q → q.2 ≤ 12 → rnC im2 q.1.1 q.1.2.1 q.1.2.2.1 q.1.2.2.2 → im2 10 4 = 0 → im2 10 3 = nI q.2 → Gm LS rm 47 25 [.ref 10, .ref pa, .int arg, .ref s, .int (nI i)] [] im2 P := by
  intro n
  induction n with
  | zero =>
    intro i hi im2 hf q hq hq2 hC hf0 hl0
    have hie : len = i := by omega
    subst hie
    have el : im2 pa 2 = nI len := by rw [hf pa (by omega)]; exact hl
    refine g_iload k47_25 rfl ?_
    refine g_aload_n k47_27 rfl ?_
    refine g_getv (v := nI len) k47_28 (hA.1) (by decide) (el) ?_
    refine g_icmp_ge k47_31 (fun _ => ?_) (fun h => absurd (nI_le (Nat.le_refl _) (by omega)) h)
    refine g_aload_n k47_87 rfl ?_
    refine g_getv (v := 0) k47_88 (hR.1) (by decide) (hf0) ?_
    refine g_if_ne k47_91 (fun h => absurd (rfl) h) (fun _ => ?_)
    refine g_iconst (v := 1) k47_94 ic_1 ?_
    refine g_goto k47_95 ?_
    exact g_retz k47_99 rfl (by decide) (h1 q hq im2 hf hC)
  | succ n ih =>
    intro i hi im2 hf q hq hq2 hC hf0 hl0
    have hlt : i < len := by omega
    have el : im2 pa 2 = nI len := by rw [hf pa (by omega)]; exact hl
    refine g_iload k47_25 rfl ?_
    refine g_aload_n k47_27 rfl ?_
    refine g_getv (v := nI len) k47_28 (hA.1) (by decide) (el) ?_
    refine g_icmp_ge k47_31 (fun h => absurd h (nI_ge hlt (by omega))) (fun _ => ?_)
    refine g_aload_n k47_34 rfl ?_
    refine g_getv (v := 0) k47_35 (hR.1) (by decide) (hf0) ?_
    refine g_if_ne k47_38 (fun h => absurd (rfl) h) (fun _ => ?_)
    refine g_aload_n k47_41 rfl ?_
    refine g_getv (v := nI q.2) k47_42 (hR.1) (by decide) (hl0) ?_
    refine g_if_le k47_45 (fun g => ?_) (fun g => ?_)
    · have hz : ¬ 0 < q.2 := fun z => nI_nle z (by omega) g
      have hz0 : q.2 = 0 := by omega
      have er : rn_run op opd arg (im (s + 1)) (im (s + 2)) (i + 1) = rn_step (op i) (opd i) arg (im (s + 1)) (im (s + 2)) q.1.1 q.1.2.1 q.1.2.2.1 q.1.2.2.2 := by
        show (match rn_run op opd arg (im (s + 1)) (im (s + 2)) i with
          | none => none
          | some q => if 0 < q.2 then some (q.1, q.2 - 1) else rn_step (op i) (opd i) arg (im (s + 1)) (im (s + 2)) q.1.1 q.1.2.1 q.1.2.2.1 q.1.2.2.2) = _
        rw [hq]
        exact if_neg hz
      have o1 := hop i hlt
      have o2 := hod i hlt
      refine g_aload_n k47_61 rfl ?_
      refine g_aload_n k47_62 rfl ?_
      refine g_getr k47_63 (hA.1) (by decide) (hA.2.1) ?_
      refine g_iload k47_66 rfl ?_
      refine g_ialv (v := nI (op i)) k47_68 (hA.2.2.2.2.1) (by omega) (by decide) (by rw [hf (pa + 1) (by omega)]; exact o1.1) ?_
      refine g_aload_n k47_69 rfl ?_
      refine g_getr k47_70 (hA.1) (by decide) (hA.2.2.1) ?_
      refine g_iload k47_73 rfl ?_
      refine g_ialv (v := opd i) k47_75 (hA.2.2.2.2.2.1) (by omega) (by decide) (by rw [hf (pa + 2) (by omega)]; exact o2.1) ?_
      refine g_iload_n k47_76 rfl ?_
      refine g_aload_n k47_77 rfl ?_
      refine g_inv4 k47_78 (hR.1) rfl rfl rfl rfl (by decide) (Nat.le_of_ble_eq_true rfl) (c48 (o := op i) hR hS hs o1.2 (fun z => (o2.2 z).1) hC hf0 (by rw [hl0, hz0]; rfl) (fun d' S' c' r' l' e im3 hf3 hC3 hff hll => ?_) (fun e im3 hf3 hff => ?_))
      · rw [hf (s + 1) (by omega), hf (s + 2) (by omega), ← er] at e
        refine g_iincv (y := nI (i + 1)) k47_81 rfl (by decide) (inc_1 i) rfl ?_
        refine g_goto k47_84 ?_
        refine ih (i + 1) (by omega) im3 (fun b hb => (hf3 b hb).trans (hf b hb)) ((d', S', c', r'), l') e ?_ hC3 hff hll
        show l' ≤ 12
        rw [er] at e
        exact rn_l e (fun z => (o2.2 z).2)
      · rw [hf (s + 1) (by omega), hf (s + 2) (by omega), ← er] at e
        have en : rn_run op opd arg (im (s + 1)) (im (s + 2)) len = none := by rw [show len = (i + 1) + n by omega]; exact rn_none n (i + 1) e
        have el3 : im3 pa 2 = nI len := by rw [hf3 pa (by omega)]; exact el
        refine g_iincv (y := nI (i + 1)) k47_81 rfl (by decide) (inc_1 i) rfl ?_
        refine g_goto k47_84 ?_
        refine g_iload k47_25 rfl ?_
        refine g_aload_n k47_27 rfl ?_
        refine g_getv (v := nI len) k47_28 (hA.1) (by decide) (el3) ?_
        refine g_icmp_ge k47_31 (fun w => ?_) (fun w => ?_)
        · refine g_aload_n k47_87 rfl ?_
          refine g_getv (v := 1) k47_88 (hR.1) (by decide) (hff) ?_
          refine g_if_ne k47_91 (fun _ => ?_) (fun h => absurd h (by decide))
          refine g_iconst (v := 0) k47_98 ic_0 ?_
          exact g_retz k47_99 rfl (by decide) (h0 en im3 (fun b hb => (hf3 b hb).trans (hf b hb)))
        · refine g_aload_n k47_34 rfl ?_
          refine g_getv (v := 1) k47_35 (hR.1) (by decide) (hff) ?_
          refine g_if_ne k47_38 (fun _ => ?_) (fun h => absurd h (by decide))
          refine g_aload_n k47_87 rfl ?_
          refine g_getv (v := 1) k47_88 (hR.1) (by decide) (hff) ?_
          refine g_if_ne k47_91 (fun _ => ?_) (fun h => absurd h (by decide))
          refine g_iconst (v := 0) k47_98 ic_0 ?_
          exact g_retz k47_99 rfl (by decide) (h0 en im3 (fun b hb => (hf3 b hb).trans (hf b hb)))
    · have hz : 0 < q.2 := Nat.pos_of_ne_zero (fun z => g (by rw [z]; decide))
      have er : rn_run op opd arg (im (s + 1)) (im (s + 2)) (i + 1) = some (q.1, q.2 - 1) := by
        show (match rn_run op opd arg (im (s + 1)) (im (s + 2)) i with
          | none => none
          | some q => if 0 < q.2 then some (q.1, q.2 - 1) else rn_step (op i) (opd i) arg (im (s + 1)) (im (s + 2)) q.1.1 q.1.2.1 q.1.2.2.1 q.1.2.2.2) = _
        rw [hq]
        exact if_pos hz
      refine g_aload_n k47_48 rfl ?_
      refine g_dup k47_49 rfl ?_
      refine g_getv (v := nI q.2) k47_50 (hR.1) (by decide) (hl0) ?_
      refine g_iconst (v := 1) k47_53 ic_1 ?_
      refine g_isub k47_54 ?_
      refine g_top (y := nI (q.2 - 1)) (nI_m1 hz) ?_
      refine g_puti k47_55 (by decide) (hR.1) (by decide) ?_
      refine g_goto k47_58 ?_
      refine g_iincv (y := nI (i + 1)) k47_81 rfl (by decide) (inc_1 i) rfl ?_
      refine g_goto k47_84 ?_
      refine ih (i + 1) (by omega) _ (fun b hb => ?_) (q.1, q.2 - 1) er (by show q.2 - 1 ≤ 12; omega) ?_ (by rw [u2_ne (by omega)]; exact hf0) u2_eq
      · rw [en_u2_off (by omega)]
        exact hf b hb
      · obtain ⟨a1, a2, a3, a4, a5, a6⟩ := hC
        exact ⟨by rw [u2_ne (by omega)]; exact a1, a2, fun k hk => by rw [u2_ne (by omega)]; exact a3 k hk, fun k hk => by rw [u2_ne (by omega)]; exact a4 k hk, by rw [u2_ne (by omega)]; exact a5, a6⟩

set_option maxRecDepth 20000 in
set_option maxHeartbeats 4000000 in
theorem c47 {LS : Nat} {rm : Nat → Nat → Option Nat} {im : Nat → Nat → Int32} {P : Option Value → (Nat → Nat → Int32) → Prop} {pa s len : Nat} {op : Nat → Nat} {opd : Nat → Int32} {arg : Int32} (hR : isRn LS rm 10) (hA : isPr LS rm pa) (hpa : 13 < pa) (hS : isWS LS rm s) (hs : 13 < s) (hl : im pa 2 = nI len) (hl2 : len ≤ 12) (hop : ∀ i, i < len → im (pa + 1) i = nI (op i) ∧ op i ≤ 10) (hod : ∀ i, i < len → im (pa + 2) i = opd i ∧ (op i = 6 → opd i = nI (tn (opd i)) ∧ tn (opd i) ≤ 12)) (h0 : rn_run op opd arg (im (s + 1)) (im (s + 2)) len = none → ∀ im', rnF im im' → P (some (.int 0)) im') (h1 : ∀ q, rn_run op opd arg (im (s + 1)) (im (s + 2)) len = some q → ∀ im', rnF im im' → rnC im' q.1.1 q.1.2.1 q.1.2.2.1 q.1.2.2.2 → P (some (.int 1)) im') : Gm LS rm 47 0 (en_in 47 [.ref 10, .ref pa, .int arg, .ref s]) [] im P := by
  show Gm LS rm 47 0 [.ref (10), .ref (pa), .int (arg), .ref (s), .long 0] [] im P
  refine g_aload_n k47_0 rfl ?_
  refine g_iconst (v := 0) k47_1 ic_0 ?_
  refine g_puti k47_2 (by decide) (hR.1) (by decide) ?_
  refine g_aload_n k47_5 rfl ?_
  refine g_iconst (v := 0) k47_6 ic_0 ?_
  refine g_puti k47_7 (by decide) (hR.1) (by decide) ?_
  refine g_aload_n k47_10 rfl ?_
  refine g_iconst (v := 0) k47_11 ic_0 ?_
  refine g_putz k47_12 (by decide) (hR.1) (by decide) (by decide) ?_
  refine g_aload_n k47_15 rfl ?_
  refine g_getr k47_16 (hR.1) (by decide) (hR.2.2.1) ?_
  refine g_inv0 k47_19 (hR.2.2.2.2.1) (by decide) (Nat.le_of_ble_eq_true rfl) (c58 (a := 12) hR.2.2.2.2 ?_)
  refine g_iconst (v := 0) k47_22 ic_0 ?_
  refine g_istore k47_23 (by decide) rfl ?_
  refine l47 hR hA hpa hS hs hl hl2 hop hod h0 h1 len 0 (by omega) _ (fun b hb => ?_) _ rfl (Nat.zero_le _) ⟨?_, Nat.zero_le _, fun k hk => absurd hk (Nat.not_lt_zero k), fun k hk => ?_, ?_, Nat.zero_le _⟩ ?_ ?_
  · rw [en_u2_off (by omega), en_ur_off (by omega), en_u2_off (by omega), en_u2_off (by omega), en_u2_off (by omega)]
  · simp [en_u2, en_ur]; rfl
  · simp [en_u2, en_ur]
    unfold rs_clr
    rw [if_pos hk, if_pos hk]
  · simp [en_u2]; rfl
  · simp [en_u2, en_ur]
  · simp [en_u2, en_ur]; rfl
end
section
set_option maxRecDepth 20000 in
set_option maxHeartbeats 4000000 in
theorem c28 {LS : Nat} {rm : Nat → Nat → Option Nat} {im : Nat → Nat → Int32} {P : Option Value → (Nat → Nat → Int32) → Prop} {a b na nb : Nat} (hA : isBL LS rm a) (hB : isBL LS rm b) (hab : a + 1 < b ∨ b + 1 < a) (ha : im a 1 = nI na) (hb : im b 1 = nI nb) (hna : na ≤ 40) (hnb : nb ≤ 40) (h0 : ∀ l, l ≤ na → l ≤ nb → (∀ k, k < l → im (a + 1) k = im (b + 1) k) → (l < na → l < nb → im (a + 1) l ≠ im (b + 1) l) → na ≤ l → P (some (.int 0)) im) (h1 : ∀ l, l ≤ na → l ≤ nb → (∀ k, k < l → im (a + 1) k = im (b + 1) k) → (l < na → l < nb → im (a + 1) l ≠ im (b + 1) l) → l < na → P (some (.int 1)) (en_u2 (en_u2 (en_u2 im b 1 (nI l)) (b + 1) l (im (a + 1) l)) b 1 (nI (l + 1)))) : Gm LS rm 28 0 (en_in 28 [.ref a, .ref b]) [] im P := by
  show Gm LS rm 28 0 [.ref (a), .ref (b), .long 0] [] im P
  refine g_aload_n k28_0 rfl ?_
  refine g_aload_n k28_1 rfl ?_
  refine g_inv1 k28_2 (hA.1) rfl (by decide) (Nat.le_of_ble_eq_true rfl) (c79 hA hB ha hb hna hnb (fun l q1 q2 q3 q4 => ?_))
  refine g_istore_n k28_5 (by decide) rfl ?_
  refine g_aload_n k28_6 rfl ?_
  refine g_getv (v := nI na) k28_7 (hA.1) (by decide) (ha) ?_
  refine g_iload_n k28_10 rfl ?_
  refine g_icmp_gt k28_11 (fun h => ?_) (fun h => ?_)
  · have hlt : l < na := (nI_ltI (by omega) (by omega)).mp h
    refine g_aload_n k28_16 rfl ?_
    refine g_iload_n k28_17 rfl ?_
    refine g_puti k28_18 (by decide) (hB.1) (by decide) ?_
    refine g_aload_n k28_21 rfl ?_
    refine g_aload_n k28_22 rfl ?_
    refine g_getr k28_23 (hA.1) (by decide) (hA.2.1) ?_
    refine g_iload_n k28_26 rfl ?_
    refine g_ialv (v := im (a + 1) l) k28_27 (hA.2.2) (by omega) (by decide) (by rw [u2_ne (by omega)]) ?_
    refine g_inv1 k28_28 (hB.1) rfl (by decide) (Nat.le_of_ble_eq_true rfl) (c78 (n := l) hB u2_eq (by omega) ?_)
    refine g_iconst (v := 1) k28_31 ic_1 ?_
    exact g_reti k28_32 rfl (h1 l q1 q2 q3 q4 hlt)
  · refine g_iconst (v := 0) k28_14 ic_0 ?_
    exact g_reti k28_15 rfl (h0 l q1 q2 q3 q4 (Nat.not_lt.mp (fun z => h (nI_lt z (by omega)))))

set_option maxRecDepth 20000 in
set_option maxHeartbeats 4000000 in
theorem l30 {LS : Nat} {rm : Nat → Nat → Option Nat} {im : Nat → Nat → Int32} {P : Option Value → (Nat → Nat → Int32) → Prop} {a idx : Nat} {n : Nat → Nat} {x : Int32} (hM : isLd LS rm) (ha : a < 3) (hidx : idx < 40) (hn : ∀ o, o < 3 → im (3 * o + 331) 1 = nI (n o) ∧ n o ≤ 40) (h1 : ∀ o, o < 3 → o ≠ a → idx < n o → im (3 * o + 332) idx = x → P (some (.int 1)) im) (h0 : (∀ o, o < 3 → o ≠ a → idx < n o → im (3 * o + 332) idx ≠ x) → P (some (.int 0)) im) : ∀ (rr i : Nat), i + rr = 3 → ∀ (u : Value), (∀ o, o < i → o ≠ a → idx < n o → im (3 * o + 332) idx ≠ x) → Gm LS rm 30 3 [.ref (1), .int (nI a), .int (x), .int (nI idx), .int (nI i), u] [] (im) P := by
  intro rr
  induction rr with
  | zero =>
    intro i hi u hp
    have hie : i = 3 := by omega
    subst hie
    refine g_iload k30_3 rfl ?_
    refine g_iconst (v := 3) k30_5 ic_3 ?_
    refine g_icmp_ge k30_6 (fun _ => ?_) (fun h => absurd (nI_le (Nat.le_refl _) (by decide)) h)
    refine g_iconst (v := 0) k30_55 ic_0 ?_
    exact g_retz k30_56 rfl (by decide) (h0 hp)
  | succ rr ih =>
    intro i hi u hp
    have hlt : i < 3 := by omega
    refine g_iload k30_3 rfl ?_
    refine g_iconst (v := 3) k30_5 ic_3 ?_
    refine g_icmp_ge k30_6 (fun h => absurd h (nI_ge hlt (by decide))) (fun _ => ?_)
    have hni := hn i hlt
    refine g_aload_n k30_9 rfl ?_
    refine g_getr k30_10 (hM.1.1) (by decide) (hM.1.2.2.2.2.2.1) ?_
    refine g_iload k30_13 rfl ?_
    refine g_aalv (t := 3) k30_15 (hM.1.2.2.2.2.2.2.2.2.2.2.2.2.2.1) ⟨_, rfl⟩ (hlt) (by decide) ((hM.2.2.2.2.1 i (hlt)).1) ?_
    refine g_getr k30_16 ((hM.2.2.2.2.1 i (hlt)).2.1) (by decide) ((hM.2.2.2.2.1 i (hlt)).2.2.1) ?_
    refine g_astore k30_19 (by decide) rfl ?_
    refine g_iload k30_21 rfl ?_
    refine g_iload_n k30_23 rfl ?_
    refine g_icmp_eq k30_24 (fun h => ?_) (fun h => ?_)
    · have e : i = a := (nI_eq (by omega) (by omega)).mp h
      refine g_iincv (y := nI (i + 1)) k30_49 rfl (by decide) (inc_1 i) rfl ?_
      refine g_goto k30_52 ?_
      exact ih (i + 1) (by omega) _ (fun o ho => by by_cases z : o = i; subst z; exact fun y => absurd e y; exact hp o (by omega))
    · have e : i ≠ a := fun z => h (by rw [z])
      refine g_iload_n k30_27 rfl ?_
      refine g_aload k30_28 rfl ?_
      refine g_getv (v := nI (n i)) k30_30 ((hM.2.2.2.2.1 i (hlt)).2.2.2.1) (by decide) (hni.1) ?_
      refine g_icmp_ge k30_33 (fun g => ?_) (fun g => ?_)
      · have e2 : ¬ idx < n i := fun z => nI_ge z (by omega) g
        refine g_iincv (y := nI (i + 1)) k30_49 rfl (by decide) (inc_1 i) rfl ?_
        refine g_goto k30_52 ?_
        exact ih (i + 1) (by omega) _ (fun o ho => by by_cases z : o = i; subst z; exact fun _ y => absurd y e2; exact hp o (by omega))
      · have e2 : idx < n i := Nat.not_le.mp (fun z => g (nI_le z (by omega)))
        refine g_aload k30_36 rfl ?_
        refine g_getr k30_38 ((hM.2.2.2.2.1 i (hlt)).2.2.2.1) (by decide) ((hM.2.2.2.2.1 i (hlt)).2.2.2.2.1) ?_
        refine g_iload_n k30_41 rfl ?_
        refine g_ialv k30_42 ((hM.2.2.2.2.1 i (hlt)).2.2.2.2.2) (hidx) (by decide) (rfl) ?_
        refine g_iload_n k30_43 rfl ?_
        refine g_icmp_ne k30_44 (fun d => ?_) (fun d => ?_)
        · refine g_iincv (y := nI (i + 1)) k30_49 rfl (by decide) (inc_1 i) rfl ?_
          refine g_goto k30_52 ?_
          exact ih (i + 1) (by omega) _ (fun o ho => by by_cases z : o = i; subst z; exact fun _ _ => d; exact hp o (by omega))
        · refine g_iconst (v := 1) k30_47 ic_1 ?_
          exact g_retz k30_48 rfl (by decide) (h1 i hlt e e2 d)

set_option maxRecDepth 20000 in
set_option maxHeartbeats 4000000 in
theorem c30 {LS : Nat} {rm : Nat → Nat → Option Nat} {im : Nat → Nat → Int32} {P : Option Value → (Nat → Nat → Int32) → Prop} {a idx : Nat} {n : Nat → Nat} {x : Int32} (hM : isLd LS rm) (ha : a < 3) (hidx : idx < 40) (hn : ∀ o, o < 3 → im (3 * o + 331) 1 = nI (n o) ∧ n o ≤ 40) (h1 : ∀ o, o < 3 → o ≠ a → idx < n o → im (3 * o + 332) idx = x → P (some (.int 1)) im) (h0 : (∀ o, o < 3 → o ≠ a → idx < n o → im (3 * o + 332) idx ≠ x) → P (some (.int 0)) im) : Gm LS rm 30 0 (en_in 30 [.ref 1, .int (nI a), .int x, .int (nI idx)]) [] im P := by
  show Gm LS rm 30 0 [.ref (1), .int (nI a), .int (x), .int (nI idx), .long 0, .long 0] [] im P
  refine g_iconst (v := 0) k30_0 ic_0 ?_
  refine g_istore k30_1 (by decide) rfl ?_
  exact l30 hM ha hidx hn h1 h0 3 0 (by omega) _ (fun o ho => absurd ho (Nat.not_lt_zero o))

def agQ (im : Nat → Nat → Int32) (n : Nat → Nat) (a c : Nat) : Prop := im (2 * tn (im (3 * a + 332) (c - 1)) + 210) 2 = im (3 * a + 330) 1 ∧ ∃ o, o < 3 ∧ o ≠ a ∧ c - 1 < n o ∧ im (3 * o + 332) (c - 1) = im (3 * a + 332) (c - 1)
set_option maxRecDepth 20000 in
set_option maxHeartbeats 4000000 in
theorem l29 {LS : Nat} {rm : Nat → Nat → Option Nat} {im : Nat → Nat → Int32} {P : Option Value → (Nat → Nat → Int32) → Prop} {a : Nat} {n : Nat → Nat} (hM : isLd LS rm) (ha : a < 3) (hn : ∀ o, o < 3 → im (3 * o + 331) 1 = nI (n o) ∧ n o ≤ 40) (hg : ∀ i, i < n a → isN (im (3 * a + 332) i) 60) (h1 : ∀ N, N ≤ n a → (N = 0 ∨ agQ im n a N) → (∀ c, N < c → c ≤ n a → ¬ agQ im n a c) → P (some (.int (nI N))) im) : ∀ (c : Nat), c ≤ n a → ∀ (u : Value), (∀ c2, c < c2 → c2 ≤ n a → ¬ agQ im n a c2) → Gm LS rm 29 15 [.ref 1, .int (nI a), .ref (3 * a + 331), .int (nI c), u] [] im P := by
  have hna := hn a ha
  intro c
  induction c with
  | zero =>
    intro hc u hno
    refine g_iload_n k29_15 rfl ?_
    refine g_if_le k29_16 (fun _ => ?_) (fun h => absurd (by decide) h)
    refine g_iconst (v := 0) k29_72 ic_0 ?_
    exact g_reti k29_73 rfl (h1 0 (Nat.zero_le _) (Or.inl rfl) hno)
  | succ c ih =>
    intro hc u hno
    obtain ⟨g1, g2⟩ := hg c (by omega)
    generalize hm : tn (im (3 * a + 332) c) = m at g1 g2
    refine g_iload_n k29_15 rfl ?_
    refine g_if_le k29_16 (fun h => absurd h (nI_nle (Nat.succ_pos c) (by omega))) (fun _ => ?_)
    refine g_aload_n k29_19 rfl ?_
    refine g_getr k29_20 ((hM.2.2.2.2.1 a ha).2.2.2.1) (by decide) ((hM.2.2.2.2.1 a ha).2.2.2.2.1) ?_
    refine g_iload_n k29_23 rfl ?_
    refine g_iconst (v := 1) k29_24 ic_1 ?_
    refine g_isub k29_25 ?_
    refine g_top (y := nI c) (nI_pred c) ?_
    refine g_ialv (v := nI m) k29_26 ((hM.2.2.2.2.1 a ha).2.2.2.2.2) (by omega) (by decide) (g1) ?_
    refine g_istore k29_27 (by decide) rfl ?_
    refine g_aload_n k29_29 rfl ?_
    refine g_getr k29_30 (hM.1.1) (by decide) (hM.1.2.2.2.2.1) ?_
    refine g_iload k29_33 rfl ?_
    refine g_aalv (t := 2) k29_35 (hM.1.2.2.2.2.2.2.2.2.2.2.2.2.1) ⟨_, rfl⟩ (g2) (by decide) ((hM.2.2.2.1 m (g2)).1) ?_
    refine g_geti k29_36 ((hM.2.2.2.1 m (g2)).2.1) (by decide) ?_
    refine g_aload_n k29_39 rfl ?_
    refine g_getr k29_40 (hM.1.1) (by decide) (hM.1.2.2.2.2.2.1) ?_
    refine g_iload_n k29_43 rfl ?_
    refine g_aalv (t := 3) k29_44 (hM.1.2.2.2.2.2.2.2.2.2.2.2.2.2.1) ⟨_, rfl⟩ (ha) (by decide) ((hM.2.2.2.2.1 a (ha)).1) ?_
    refine g_geti k29_45 ((hM.2.2.2.2.1 a (ha)).2.1) (by decide) ?_
    refine g_icmp_ne k29_48 (fun h => ?_) (fun h => ?_)
    · refine g_iincv (y := nI c) k29_66 rfl (by decide) (inc_m1 (Nat.succ_pos c)) rfl ?_
      refine g_goto k29_69 ?_
      refine ih (by omega) _ (fun c2 h1c h2c => ?_)
      by_cases z : c2 = c + 1
      · subst z
        intro hq
        unfold agQ at hq
        rw [Nat.add_sub_cancel, hm] at hq
        exact h hq.1
      · exact hno c2 (by omega) h2c
    · refine g_aload_n k29_51 rfl ?_
      refine g_iload_n k29_52 rfl ?_
      refine g_iload k29_53 rfl ?_
      refine g_iload_n k29_55 rfl ?_
      refine g_iconst (v := 1) k29_56 ic_1 ?_
      refine g_isub k29_57 ?_
      refine g_top (y := nI c) (nI_pred c) ?_
      refine g_inv3 k29_58 (hM.1.1) rfl rfl rfl (by decide) (Nat.le_of_ble_eq_true rfl) (c30 (n := n) hM ha (by omega) hn (fun o ho hoa hlt e => ?_) (fun hf => ?_))
      · refine g_if_eq k29_61 (fun h => absurd h (by decide)) (fun _ => ?_)
        refine g_iload_n k29_64 rfl ?_
        exact g_reti k29_65 rfl (h1 (c + 1) hc (Or.inr (by unfold agQ; rw [Nat.add_sub_cancel, hm]; exact ⟨h, o, ho, hoa, hlt, e.trans g1.symm⟩)) hno)
      · refine g_if_eq k29_61 (fun _ => ?_) (fun h => absurd (by decide) h)
        refine g_iincv (y := nI c) k29_66 rfl (by decide) (inc_m1 (Nat.succ_pos c)) rfl ?_
        refine g_goto k29_69 ?_
        refine ih (by omega) _ (fun c2 h1c h2c => ?_)
        by_cases z : c2 = c + 1
        · subst z
          intro hq
          unfold agQ at hq
          rw [Nat.add_sub_cancel, hm] at hq
          obtain ⟨-, o, ho, hoa, hlt, e⟩ := hq
          exact hf o ho hoa hlt (e.trans g1)
        · exact hno c2 (by omega) h2c

set_option maxRecDepth 20000 in
set_option maxHeartbeats 4000000 in
theorem c29 {LS : Nat} {rm : Nat → Nat → Option Nat} {im : Nat → Nat → Int32} {P : Option Value → (Nat → Nat → Int32) → Prop} {a : Nat} {n : Nat → Nat} (hM : isLd LS rm) (ha : a < 3) (hn : ∀ o, o < 3 → im (3 * o + 331) 1 = nI (n o) ∧ n o ≤ 40) (hg : ∀ i, i < n a → isN (im (3 * a + 332) i) 60) (h1 : ∀ N, N ≤ n a → (N = 0 ∨ agQ im n a N) → (∀ c, N < c → c ≤ n a → ¬ agQ im n a c) → P (some (.int (nI N))) im) : Gm LS rm 29 0 (en_in 29 [.ref 1, .int (nI a)]) [] im P := by
  show Gm LS rm 29 0 [.ref (1), .int (nI a), .long 0, .long 0, .long 0] [] im P
  have hna := hn a ha
  refine g_aload_n k29_0 rfl ?_
  refine g_getr k29_1 (hM.1.1) (by decide) (hM.1.2.2.2.2.2.1) ?_
  refine g_iload_n k29_4 rfl ?_
  refine g_aalv (t := 3) k29_5 (hM.1.2.2.2.2.2.2.2.2.2.2.2.2.2.1) ⟨_, rfl⟩ (ha) (by decide) ((hM.2.2.2.2.1 a (ha)).1) ?_
  refine g_getr k29_6 ((hM.2.2.2.2.1 a (ha)).2.1) (by decide) ((hM.2.2.2.2.1 a (ha)).2.2.1) ?_
  refine g_astore_n k29_9 (by decide) rfl ?_
  refine g_aload_n k29_10 rfl ?_
  refine g_getv (v := nI (n a)) k29_11 ((hM.2.2.2.2.1 a (ha)).2.2.2.1) (by decide) (hna.1) ?_
  refine g_istore_n k29_14 (by decide) rfl ?_
  exact l29 hM ha hn hg h1 (n a) (Nat.le_refl _) _ (fun c2 h1c h2c => by omega)

def kCode (ln : Nat → Nat) (m : Nat) (a1 a2 x : Int32) (p o : Nat) : Prop := p < 4 ∧ o < 11 ∧ a1 = nI p ∧ a2 = nI o ∧ m = 0 ∧ (o = 6 → ∃ y, y < 13 ∧ x = nI y) ∧ ln p < 12
theorem nI_inj {a b : Nat} (h : nI a = nI b) (ha : a < 1000) (hb : b < 1000) : a = b := (nI_eq (by omega) (by omega)).mp h
set_option maxRecDepth 20000 in
set_option maxHeartbeats 4000000 in
theorem x1 {LS : Nat} {rm : Nat → Nat → Option Nat} {im : Nat → Nat → Int32} {P : Option Value → (Nat → Nat → Int32) → Prop} {a1 a2 x : Int32} {ln : Nat → Nat} {m : Nat} (hM : isLd LS rm) (hm : im 1 2 = nI m) (hm2 : m ≤ 60) (hl : ∀ p, p < 4 → im (4 * p + 14) 2 = nI (ln p) ∧ ln p ≤ 12) (h1 : ∀ p o, kCode ln m a1 a2 x p o → P (some (.int 1)) (en_u2 (en_u2 (en_u2 im (4 * p + 15) (ln p) a2) (4 * p + 16) (ln p) x) (4 * p + 14) 2 (nI (ln p + 1)))) (h0 : (∀ p o, ¬ kCode ln m a1 a2 x p o) → P (some (.int 0)) im) : Gm LS rm 1 0 (en_in 1 [.ref 1, .int a1, .int a2, .int x]) [] im P := by
  show Gm LS rm 1 0 [.ref (1), .int (a1), .int (a2), .int (x)] [] im P
  refine g_iload_n k1_0 rfl ?_
  refine g_iconst (v := 4) k1_1 ic_4 ?_
  refine g_invS2 k1_2 rfl rfl (by decide) (Nat.le_of_ble_eq_true rfl) (c19n 4 (by decide) (fun p hp e => ?_) (fun h => ?_))
  · subst e
    refine g_if_eq k1_5 (fun h => absurd h (by decide)) (fun _ => ?_)
    refine g_iload_n k1_8 rfl ?_
    refine g_bipush (v := 11) k1_9 bp_11 ?_
    refine g_invS2 k1_11 rfl rfl (by decide) (Nat.le_of_ble_eq_true rfl) (c19n 11 (by decide) (fun o ho e2 => ?_) (fun h2 => ?_))
    · subst e2
      refine g_if_eq k1_14 (fun h => absurd h (by decide)) (fun _ => ?_)
      refine g_aload_n k1_17 rfl ?_
      refine g_getv (v := nI m) k1_18 (hM.1.1) (by decide) (hm) ?_
      refine g_if_le k1_21 (fun g => ?_) (fun g => ?_)
      · have hm0 : m = 0 := by
          have : ¬ 0 < m := fun y => nI_nle y (by omega) g
          omega
        have hlp := hl p hp
        refine g_iload_n k1_26 rfl ?_
        refine g_bipush (v := 6) k1_27 bp_6 ?_
        refine g_icmp_ne k1_29 (fun d => ?_) (fun d => ?_)
        · have o6 : o ≠ 6 := fun z => d (by rw [z]; rfl)
          refine g_aload_n k1_43 rfl ?_
          refine g_getr k1_44 (hM.1.1) (by decide) (hM.1.2.1) ?_
          refine g_iload_n k1_47 rfl ?_
          refine g_aalv (t := 0) k1_48 (hM.1.2.2.2.2.2.2.2.2.2.1) ⟨_, rfl⟩ (hp) (by decide) ((hM.2.1 p (hp)).1) ?_
          refine g_iload_n k1_49 rfl ?_
          refine g_iload_n k1_50 rfl ?_
          refine g_inv2 k1_51 ((hM.2.1 p (hp)).2.1) rfl rfl (by decide) (Nat.le_of_ble_eq_true rfl) (c40 (len := ln p) (hM.2.1 p hp).2 hlp.1 hlp.2 (fun z => ?_) (fun z => ?_))
          · exact g_retz k1_54 rfl (by decide) (h0 (fun p2 o2 k2 => by obtain ⟨q1, q2, q3, q4, q5, q6, q7⟩ := k2; have := nI_inj q3 (by omega) (by omega); subst this; omega))
          · exact g_retz k1_54 rfl (by decide) (h1 p o ⟨hp, ho, rfl, rfl, hm0, fun z => absurd z o6, z⟩)
        · have o6 : o = 6 := nI_inj d (by omega) (by decide)
          refine g_iload_n k1_32 rfl ?_
          refine g_bipush (v := 13) k1_33 bp_13 ?_
          refine g_invS2 k1_35 rfl rfl (by decide) (Nat.le_of_ble_eq_true rfl) (c19n 13 (by decide) (fun y hy ey => ?_) (fun hy0 => ?_))
          · refine g_if_ne k1_38 (fun _ => ?_) (fun h => absurd h (by decide))
            refine g_aload_n k1_43 rfl ?_
            refine g_getr k1_44 (hM.1.1) (by decide) (hM.1.2.1) ?_
            refine g_iload_n k1_47 rfl ?_
            refine g_aalv (t := 0) k1_48 (hM.1.2.2.2.2.2.2.2.2.2.1) ⟨_, rfl⟩ (hp) (by decide) ((hM.2.1 p (hp)).1) ?_
            refine g_iload_n k1_49 rfl ?_
            refine g_iload_n k1_50 rfl ?_
            refine g_inv2 k1_51 ((hM.2.1 p (hp)).2.1) rfl rfl (by decide) (Nat.le_of_ble_eq_true rfl) (c40 (len := ln p) (hM.2.1 p hp).2 hlp.1 hlp.2 (fun z => ?_) (fun z => ?_))
            · exact g_retz k1_54 rfl (by decide) (h0 (fun p2 o2 k2 => by obtain ⟨q1, q2, q3, q4, q5, q6, q7⟩ := k2; have := nI_inj q3 (by omega) (by omega); subst this; omega))
            · exact g_retz k1_54 rfl (by decide) (h1 p o ⟨hp, ho, rfl, rfl, hm0, fun _ => ⟨y, hy, ey⟩, z⟩)
          · refine g_if_ne k1_38 (fun h => absurd (by decide) h) (fun _ => ?_)
            refine g_iconst (v := 0) k1_41 ic_0 ?_
            exact g_retz k1_42 rfl (by decide) (h0 (fun p2 o2 k2 => by obtain ⟨q1, q2, q3, q4, q5, q6, q7⟩ := k2; have := nI_inj q4 (by omega) (by omega); subst this; obtain ⟨y, hy, ey⟩ := q6 o6; exact w_out (by decide) hy hy0 ey))
      · refine g_iconst (v := 0) k1_24 ic_0 ?_
        exact g_retz k1_25 rfl (by decide) (h0 (fun p2 o2 k2 => g (by rw [k2.2.2.2.2.1]; decide)))
    · refine g_if_eq k1_14 (fun _ => ?_) (fun h => absurd (by decide) h)
      refine g_iconst (v := 0) k1_24 ic_0 ?_
      exact g_retz k1_25 rfl (by decide) (h0 (fun p2 o2 k2 => w_out (by decide) k2.2.1 h2 k2.2.2.2.1))
  · refine g_if_eq k1_5 (fun _ => ?_) (fun h => absurd (by decide) h)
    refine g_iconst (v := 0) k1_24 ic_0 ?_
    exact g_retz k1_25 rfl (by decide) (h0 (fun p2 o2 k2 => w_out (by decide) k2.1 h k2.2.2.1))
end
section
def kLeaf (rr : Nat → Nat) (m : Nat) (a1 a2 a3 : Int32) (p q : Nat) : Prop := p < 4 ∧ q < 4 ∧ a1 = nI p ∧ a2 = nI q ∧ a3 = 0 ∧ m = 0 ∧ rr p < 9
def kJoin (hh rr : Nat → Nat) (m : Nat) (a1 a2 a3 : Int32) (p k n : Nat) : Prop := p < 4 ∧ a1 = nI p ∧ m = 0 ∧ 2 ≤ n ∧ n ≤ 4 ∧ a3 = nI n ∧ 1 ≤ k ∧ k ≤ n ∧ a2 = nI k ∧ rr p < 9 ∧ n ≤ hh p
theorem le_nI {x : Int32} {n : Nat} (hn : n < 1000) (h0 : 0 ≤ x) (h : x ≤ nI n) : ∃ q, q ≤ n ∧ x = nI q := by
  obtain ⟨q, hq, e⟩ := w_in (n := n + 1) (by omega) h0 (by
    apply Int32.lt_iff_toInt_lt.mpr
    have h1 := Int32.le_iff_toInt_le.mp h
    rw [nI_toInt (by omega)] at h1 ⊢
    omega)
  exact ⟨q, by omega, e⟩
set_option maxRecDepth 20000 in
set_option maxHeartbeats 4000000 in
theorem x2 {LS : Nat} {rm : Nat → Nat → Option Nat} {im : Nat → Nat → Int32} {P : Option Value → (Nat → Nat → Int32) → Prop} {a1 a2 a3 : Int32} {hh rr : Nat → Nat} {m : Nat} (hM : isLd LS rm) (hm : im 1 2 = nI m) (hm2 : m ≤ 60) (hl : ∀ p, p < 4 → im (4 * p + 14) 4 = nI (hh p) ∧ im (4 * p + 14) 5 = nI (rr p) ∧ hh p ≤ rr p ∧ rr p ≤ 9) (h1 : ∀ p q, kLeaf rr m a1 a2 a3 p q → P (some (.int 1)) (en_u2 (en_u2 (en_u2 im (4 * p + 17) (hh p) (lfN q 16)) (4 * p + 14) 4 (nI (hh p + 1))) (4 * p + 14) 5 (nI (rr p + 1)))) (h2 : ∀ p k n, kJoin hh rr m a1 a2 a3 p k n → P (some (.int 1)) (en_u2 (en_u2 (en_u2 (en_u2 im (4 * p + 14) 4 (nI (hh p - n))) (4 * p + 17) (hh p - n) (jnN (im (4 * p + 17)) (hh p - n) n k 16)) (4 * p + 14) 4 (nI (hh p - n + 1))) (4 * p + 14) 5 (nI (rr p + 1)))) (h0 : (∀ p q, ¬ kLeaf rr m a1 a2 a3 p q) → (∀ p k n, ¬ kJoin hh rr m a1 a2 a3 p k n) → P (some (.int 0)) im) : Gm LS rm 2 0 (en_in 2 [.ref 1, .int a1, .int a2, .int a3]) [] im P := by
  show Gm LS rm 2 0 [.ref (1), .int (a1), .int (a2), .int (a3)] [] im P
  refine g_iload_n k2_0 rfl ?_
  refine g_iconst (v := 4) k2_1 ic_4 ?_
  refine g_invS2 k2_2 rfl rfl (by decide) (Nat.le_of_ble_eq_true rfl) (c19n 4 (by decide) (fun p hp e => ?_) (fun h => ?_))
  · subst e
    refine g_if_eq k2_5 (fun h => absurd h (by decide)) (fun _ => ?_)
    refine g_aload_n k2_8 rfl ?_
    refine g_getv (v := nI m) k2_9 (hM.1.1) (by decide) (hm) ?_
    refine g_if_le k2_12 (fun g => ?_) (fun g => ?_)
    · have hm0 : m = 0 := by
        have : ¬ 0 < m := fun y => nI_nle y (by omega) g
        omega
      obtain ⟨l1, l2, l3, l4⟩ := hl p hp
      refine g_iload_n k2_17 rfl ?_
      refine g_if_ne k2_18 (fun z3 => ?_) (fun z3 => ?_)
      · refine g_iload_n k2_48 rfl ?_
        refine g_iconst (v := 2) k2_49 ic_2 ?_
        refine g_icmp_lt k2_50 (fun c1 => ?_) (fun c1 => ?_)
        · refine g_iconst (v := 0) k2_86 ic_0 ?_
          exact g_retz k2_87 rfl (by decide) (h0 (fun p2 q2 k2 => z3 k2.2.2.2.2.1) (fun p2 k2 n2 kk => by obtain ⟨j1, j2, j3, j4, j5, j6, j7, j8, j9, j10, j11⟩ := kk; rw [j6] at c1; exact nI_nlt (b := 2) j4 (by omega) c1))
        · refine g_iload_n k2_53 rfl ?_
          refine g_iconst (v := 4) k2_54 ic_4 ?_
          refine g_icmp_gt k2_55 (fun c2 => ?_) (fun c2 => ?_)
          · refine g_iconst (v := 0) k2_86 ic_0 ?_
            exact g_retz k2_87 rfl (by decide) (h0 (fun p2 q2 k2 => z3 k2.2.2.2.2.1) (fun p2 k2 n2 kk => by obtain ⟨j1, j2, j3, j4, j5, j6, j7, j8, j9, j10, j11⟩ := kk; rw [j6] at c2; exact nI_nlt (a := 4) j5 (by decide) c2))
          · obtain ⟨n, hn4, rfl⟩ := le_nI (n := 4) (by decide) (Int32.not_lt.mp (fun y => c1 (Int32.lt_trans y (by decide)))) (Int32.not_lt.mp c2)
            have hn2 : 2 ≤ n := Nat.not_lt.mp (fun y => c1 (nI_lt (b := 2) y (by decide)))
            refine g_iload_n k2_58 rfl ?_
            refine g_iconst (v := 1) k2_59 ic_1 ?_
            refine g_icmp_lt k2_60 (fun c3 => ?_) (fun c3 => ?_)
            · refine g_iconst (v := 0) k2_86 ic_0 ?_
              exact g_retz k2_87 rfl (by decide) (h0 (fun p2 q2 k2 => z3 k2.2.2.2.2.1) (fun p2 k2 n2 kk => by obtain ⟨j1, j2, j3, j4, j5, j6, j7, j8, j9, j10, j11⟩ := kk; rw [j9] at c3; exact nI_nlt (b := 1) j7 (by omega) c3))
            · refine g_iload_n k2_63 rfl ?_
              refine g_iload_n k2_64 rfl ?_
              refine g_icmp_gt k2_65 (fun c4 => ?_) (fun c4 => ?_)
              · refine g_iconst (v := 0) k2_86 ic_0 ?_
                exact g_retz k2_87 rfl (by decide) (h0 (fun p2 q2 k2 => z3 k2.2.2.2.2.1) (fun p2 k2 n2 kk => by obtain ⟨j1, j2, j3, j4, j5, j6, j7, j8, j9, j10, j11⟩ := kk; have := nI_inj j6 (by omega) (by omega); subst this; rw [j9] at c4; exact nI_nlt (a := n) j8 (by omega) c4))
              · obtain ⟨kk, hkn, rfl⟩ := le_nI (n := n) (by omega) (Int32.not_lt.mp (fun y => c3 (Int32.lt_trans y (by decide)))) (Int32.not_lt.mp c4)
                have hk1 : 1 ≤ kk := Nat.not_lt.mp (fun y => c3 (nI_lt (b := 1) y (by decide)))
                refine g_aload_n k2_68 rfl ?_
                refine g_getr k2_69 (hM.1.1) (by decide) (hM.1.2.1) ?_
                refine g_iload_n k2_72 rfl ?_
                refine g_aalv (t := 0) k2_73 (hM.1.2.2.2.2.2.2.2.2.2.1) ⟨_, rfl⟩ (hp) (by decide) ((hM.2.1 p (hp)).1) ?_
                refine g_iload_n k2_74 rfl ?_
                refine g_iload_n k2_75 rfl ?_
                refine g_inv2 k2_76 ((hM.2.1 p (hp)).2.1) rfl rfl (by decide) (Nat.le_of_ble_eq_true rfl) (c42 (kk := kk) (n := n) (h := hh p) (r := rr p) (hM.2.1 p hp).2 l1 l2 l3 l4 (by omega) hn4 hkn (fun y => ?_) (fun y1 y2 => ?_))
                · refine g_if_eq k2_79 (fun _ => ?_) (fun h => absurd (by decide) h)
                  refine g_iconst (v := 0) k2_86 ic_0 ?_
                  exact g_retz k2_87 rfl (by decide) (h0 (fun p2 q2 k2 => z3 k2.2.2.2.2.1) (fun p2 k2 n2 kk => by obtain ⟨j1, j2, j3, j4, j5, j6, j7, j8, j9, j10, j11⟩ := kk; have := nI_inj j6 (by omega) (by omega); subst this; have := nI_inj j2 (by omega) (by omega); subst this; omega))
                · refine g_if_eq k2_79 (fun h => absurd h (by decide)) (fun _ => ?_)
                  refine g_iconst (v := 1) k2_82 ic_1 ?_
                  refine g_goto k2_83 ?_
                  exact g_retz k2_87 rfl (by decide) (h2 p kk n ⟨hp, rfl, hm0, hn2, hn4, rfl, hk1, hkn, rfl, y1, y2⟩)
      · refine g_iload_n k2_21 rfl ?_
        refine g_iconst (v := 4) k2_22 ic_4 ?_
        refine g_invS2 k2_23 rfl rfl (by decide) (Nat.le_of_ble_eq_true rfl) (c19n 4 (by decide) (fun q hq e2 => ?_) (fun h3 => ?_))
        · subst e2
          refine g_if_eq k2_26 (fun h => absurd h (by decide)) (fun _ => ?_)
          refine g_aload_n k2_29 rfl ?_
          refine g_getr k2_30 (hM.1.1) (by decide) (hM.1.2.1) ?_
          refine g_iload_n k2_33 rfl ?_
          refine g_aalv (t := 0) k2_34 (hM.1.2.2.2.2.2.2.2.2.2.1) ⟨_, rfl⟩ (hp) (by decide) ((hM.2.1 p (hp)).1) ?_
          refine g_iload_n k2_35 rfl ?_
          refine g_inv1 k2_36 ((hM.2.1 p (hp)).2.1) rfl (by decide) (Nat.le_of_ble_eq_true rfl) (c41 (q := q) (h := hh p) (r := rr p) (hM.2.1 p hp).2 l1 l2 l3 l4 (fun y => ?_) (fun y => ?_))
          · refine g_if_eq k2_39 (fun _ => ?_) (fun h => absurd (by decide) h)
            refine g_iconst (v := 0) k2_46 ic_0 ?_
            exact g_retz k2_47 rfl (by decide) (h0 (fun p2 q2 k2 => by obtain ⟨j1, j2, j3, j4, j5, j6, j7⟩ := k2; have := nI_inj j3 (by omega) (by omega); subst this; omega) (fun p2 q2 n2 k2 => nI_ne0 (n := n2) (by have := k2.2.2.2.1; omega) (by have := k2.2.2.2.2.1; omega) (k2.2.2.2.2.2.1.symm.trans z3)))
          · refine g_if_eq k2_39 (fun h => absurd h (by decide)) (fun _ => ?_)
            refine g_iconst (v := 1) k2_42 ic_1 ?_
            refine g_goto k2_43 ?_
            exact g_retz k2_47 rfl (by decide) (h1 p q ⟨hp, hq, rfl, rfl, z3, hm0, y⟩)
        · refine g_if_eq k2_26 (fun _ => ?_) (fun h => absurd (by decide) h)
          refine g_iconst (v := 0) k2_46 ic_0 ?_
          exact g_retz k2_47 rfl (by decide) (h0 (fun p2 q2 k2 => w_out (by decide) k2.2.1 h3 k2.2.2.2.1) (fun p2 q2 n2 k2 => nI_ne0 (n := n2) (by have := k2.2.2.2.1; omega) (by have := k2.2.2.2.2.1; omega) (k2.2.2.2.2.2.1.symm.trans z3)))
    · refine g_iconst (v := 0) k2_15 ic_0 ?_
      exact g_retz k2_16 rfl (by decide) (h0 (fun p2 q2 k2 => g (by rw [k2.2.2.2.2.2.1]; decide)) (fun p2 q2 n2 k2 => g (by rw [k2.2.2.1]; decide)))
  · refine g_if_eq k2_5 (fun _ => ?_) (fun h => absurd (by decide) h)
    refine g_iconst (v := 0) k2_15 ic_0 ?_
    exact g_retz k2_16 rfl (by decide) (h0 (fun p2 q2 k2 => w_out (by decide) k2.1 h k2.2.2.1) (fun p2 q2 n2 k2 => w_out (by decide) k2.1 h k2.2.1))

set_option maxRecDepth 20000 in
set_option maxHeartbeats 4000000 in
theorem x3 {LS : Nat} {rm : Nat → Nat → Option Nat} {im : Nat → Nat → Int32} {P : Option Value → (Nat → Nat → Int32) → Prop} {a1 a2 : Int32} {m : Nat} (hM : isLd LS rm) (hm : im 1 2 = nI m) (hm2 : m ≤ 60) (h1 : ∀ p, p < 4 → a1 = nI p → m < 60 → P (some (.int (nI m))) (en_u2 (en_u2 (en_u2 im (3 * m + 30) 0 a1) (3 * m + 30) 1 a2) 1 2 (nI (m + 1)))) (h0 : (∀ p, ¬ (p < 4 ∧ a1 = nI p ∧ m < 60)) → P (some (.int (-1))) im) : Gm LS rm 3 0 (en_in 3 [.ref 1, .int a1, .int a2]) [] im P := by
  show Gm LS rm 3 0 [.ref (1), .int (a1), .int (a2)] [] im P
  refine g_iload_n k3_0 rfl ?_
  refine g_iconst (v := 4) k3_1 ic_4 ?_
  refine g_invS2 k3_2 rfl rfl (by decide) (Nat.le_of_ble_eq_true rfl) (c19n 4 (by decide) (fun p hp e => ?_) (fun h => ?_))
  · subst e
    refine g_if_eq k3_5 (fun h => absurd h (by decide)) (fun _ => ?_)
    refine g_aload_n k3_8 rfl ?_
    refine g_getv (v := nI m) k3_9 (hM.1.1) (by decide) (hm) ?_
    refine g_bipush (v := 60) k3_12 bp_60 ?_
    refine g_icmp_lt k3_14 (fun g => ?_) (fun g => ?_)
    · have hlt : m < 60 := (nI_ltI (by omega) (by decide)).mp g
      refine g_aload_n k3_19 rfl ?_
      refine g_getr k3_20 (hM.1.1) (by decide) (hM.1.2.2.1) ?_
      refine g_aload_n k3_23 rfl ?_
      refine g_getv (v := nI m) k3_24 (hM.1.1) (by decide) (hm) ?_
      refine g_aalv (t := 1) k3_27 (hM.1.2.2.2.2.2.2.2.2.2.2.1) ⟨_, rfl⟩ (hlt) (by decide) ((hM.2.2.1 m (hlt)).1) ?_
      refine g_iload_n k3_28 rfl ?_
      refine g_puti k3_29 (by decide) ((hM.2.2.1 m (hlt)).2.1) (by decide) ?_
      refine g_aload_n k3_32 rfl ?_
      refine g_getr k3_33 (hM.1.1) (by decide) (hM.1.2.2.1) ?_
      refine g_aload_n k3_36 rfl ?_
      refine g_getv (v := nI m) k3_37 (hM.1.1) (by decide) (by rw [u2_ne (by omega)]; exact hm) ?_
      refine g_aalv (t := 1) k3_40 (hM.1.2.2.2.2.2.2.2.2.2.2.1) ⟨_, rfl⟩ (hlt) (by decide) ((hM.2.2.1 m (hlt)).1) ?_
      refine g_iload_n k3_41 rfl ?_
      refine g_puti k3_42 (by decide) ((hM.2.2.1 m (hlt)).2.1) (by decide) ?_
      refine g_aload_n k3_45 rfl ?_
      refine g_dup k3_46 rfl ?_
      refine g_getv (v := nI m) k3_47 (hM.1.1) (by decide) (by rw [u2_ne (by omega), u2_ne (by omega)]; exact hm) ?_
      refine g_iconst (v := 1) k3_50 ic_1 ?_
      refine g_iadd k3_51 ?_
      refine g_top (y := nI (m + 1)) (nI_1 m) ?_
      refine g_puti k3_52 (by decide) (hM.1.1) (by decide) ?_
      refine g_aload_n k3_55 rfl ?_
      refine g_getv (v := nI (m + 1)) k3_56 (hM.1.1) (by decide) (u2_eq) ?_
      refine g_iconst (v := 1) k3_59 ic_1 ?_
      refine g_isub k3_60 ?_
      refine g_top (y := nI m) (nI_pred m) ?_
      exact g_reti k3_61 rfl (h1 p hp rfl hlt)
    · refine g_iconst (v := -1) k3_17 ic_m1 ?_
      exact g_reti k3_18 rfl (h0 (fun p2 k2 => g (nI_lt (b := 60) k2.2.2 (by decide))))
  · refine g_if_eq k3_5 (fun _ => ?_) (fun h => absurd (by decide) h)
    refine g_iconst (v := -1) k3_17 ic_m1 ?_
    exact g_reti k3_18 rfl (h0 (fun p2 k2 => w_out (by decide) k2.1 h k2.2.1))

set_option maxRecDepth 20000 in
set_option maxHeartbeats 4000000 in
theorem x5 {LS : Nat} {rm : Nat → Nat → Option Nat} {im : Nat → Nat → Int32} {P : Option Value → (Nat → Nat → Int32) → Prop} {a1 : Int32} {m w : Nat} (hM : isLd LS rm) (hm : im 1 2 = nI m) (hm2 : m ≤ 60) (hw : im 1 4 = nI w) (hw2 : w ≤ 20) (h1 : ∀ t, t < m → a1 = nI t → im (3 * t + 30) 2 ≠ 0 → w < 20 → P (some (.int 1)) (en_u2 (en_u2 (en_u2 im 4 w a1) 1 4 (nI (w + 1))) (3 * t + 30) 3 1)) (h0 : (∀ t, ¬ (t < m ∧ a1 = nI t ∧ im (3 * t + 30) 2 ≠ 0 ∧ w < 20)) → P (some (.int 0)) im) : Gm LS rm 5 0 (en_in 5 [.ref 1, .int a1]) [] im P := by
  show Gm LS rm 5 0 [.ref (1), .int (a1)] [] im P
  refine g_iload_n k5_0 rfl ?_
  refine g_aload_n k5_1 rfl ?_
  refine g_getv (v := nI m) k5_2 (hM.1.1) (by decide) (hm) ?_
  refine g_invS2 k5_5 rfl rfl (by decide) (Nat.le_of_ble_eq_true rfl) (c19n m (by omega) (fun t ht e => ?_) (fun h => ?_))
  · subst e
    refine g_if_eq k5_8 (fun h => absurd h (by decide)) (fun _ => ?_)
    refine g_aload_n k5_11 rfl ?_
    refine g_getr k5_12 (hM.1.1) (by decide) (hM.1.2.2.1) ?_
    refine g_iload_n k5_15 rfl ?_
    refine g_aalv (t := 1) k5_16 (hM.1.2.2.2.2.2.2.2.2.2.2.1) ⟨_, rfl⟩ (by omega) (by decide) ((hM.2.2.1 t (by omega)).1) ?_
    by_cases he : im (3 * t + 30) 2 = 0
    · refine g_inv0 k5_17 ((hM.2.2.1 t (by omega)).2.1) (by decide) (Nat.le_of_ble_eq_true rfl) (c72 (hM.2.2.1 t (by omega)).2 ?_)
      rw [if_pos he]
      refine g_if_eq k5_20 (fun _ => ?_) (fun h => absurd (rfl) h)
      refine g_iconst (v := 0) k5_32 ic_0 ?_
      exact g_retz k5_33 rfl (by decide) (h0 (fun t2 k2 => by obtain ⟨q1, q2, q3, q4⟩ := k2; have := nI_inj q2 (by omega) (by omega); subst this; exact q3 he))
    · refine g_inv0 k5_17 ((hM.2.2.1 t (by omega)).2.1) (by decide) (Nat.le_of_ble_eq_true rfl) (c72 (hM.2.2.1 t (by omega)).2 ?_)
      rw [if_neg he]
      refine g_if_eq k5_20 (fun h => absurd h (by decide)) (fun _ => ?_)
      refine g_aload_n k5_23 rfl ?_
      refine g_getv (v := nI w) k5_24 (hM.1.1) (by decide) (hw) ?_
      refine g_bipush (v := 20) k5_27 bp_20 ?_
      refine g_icmp_lt k5_29 (fun g => ?_) (fun g => ?_)
      · have hlt : w < 20 := (nI_ltI (by omega) (by decide)).mp g
        refine g_aload_n k5_34 rfl ?_
        refine g_getr k5_35 (hM.1.1) (by decide) (hM.1.2.2.2.1) ?_
        refine g_aload_n k5_38 rfl ?_
        refine g_getv (v := nI w) k5_39 (hM.1.1) (by decide) (hw) ?_
        refine g_iload_n k5_42 rfl ?_
        refine g_iasv k5_43 (hM.1.2.2.2.2.2.2.2.2.2.2.2.1) (hlt) (by decide) ?_
        refine g_aload_n k5_44 rfl ?_
        refine g_dup k5_45 rfl ?_
        refine g_getv (v := nI w) k5_46 (hM.1.1) (by decide) (by rw [u2_ne (by omega)]; exact hw) ?_
        refine g_iconst (v := 1) k5_49 ic_1 ?_
        refine g_iadd k5_50 ?_
        refine g_top (y := nI (w + 1)) (nI_1 w) ?_
        refine g_puti k5_51 (by decide) (hM.1.1) (by decide) ?_
        refine g_aload_n k5_54 rfl ?_
        refine g_getr k5_55 (hM.1.1) (by decide) (hM.1.2.2.1) ?_
        refine g_iload_n k5_58 rfl ?_
        refine g_aalv (t := 1) k5_59 (hM.1.2.2.2.2.2.2.2.2.2.2.1) ⟨_, rfl⟩ (by omega) (by decide) ((hM.2.2.1 t (by omega)).1) ?_
        refine g_iconst (v := 1) k5_60 ic_1 ?_
        refine g_putz k5_61 (by decide) ((hM.2.2.1 t (by omega)).2.1) (by decide) (by decide) ?_
        refine g_iconst (v := 1) k5_64 ic_1 ?_
        exact g_retz k5_65 rfl (by decide) (h1 t ht rfl he hlt)
      · refine g_iconst (v := 0) k5_32 ic_0 ?_
        exact g_retz k5_33 rfl (by decide) (h0 (fun t2 k2 => g (nI_lt (b := 20) k2.2.2.2 (by decide))))
  · refine g_if_eq k5_8 (fun _ => ?_) (fun h => absurd (by decide) h)
    refine g_iconst (v := 0) k5_32 ic_0 ?_
    exact g_retz k5_33 rfl (by decide) (h0 (fun p2 k2 => w_out (by omega) k2.1 h k2.2.1))
end
section
def elN (im : Nat → Nat → Int32) (v : Int32) : Nat → (Nat → Nat → Int32)
  | 0 => im
  | i + 1 => if im (3 * i + 330) 0 = 0 then elN im v i else en_u2 (elN im v i) (3 * i + 330) 1 v
theorem elN_k {im : Nat → Nat → Int32} {v : Int32} {c k : Nat} (h : k ≠ 1 ∨ c < 330 ∨ 338 < c) : ∀ i, i ≤ 3 → elN im v i c k = im c k := by
  intro i
  induction i with
  | zero => intro _; rfl
  | succ i ih =>
    intro hi
    unfold elN
    split
    · exact ih (by omega)
    · rw [u2_ne (by omega)]
      exact ih (by omega)
set_option maxRecDepth 20000 in
set_option maxHeartbeats 4000000 in
theorem l6 {LS : Nat} {rm : Nat → Nat → Option Nat} {im : Nat → Nat → Int32} {P : Option Value → (Nat → Nat → Int32) → Prop} {o : Nat} {v : Int32} (hM : isLd LS rm) (ho : o < 3) (h1 : P (some (.int v)) (en_u2 (elN im v 3) 1 8 (nI o))) : ∀ (n i : Nat), i + n = 3 → Gm LS rm 6 40 [.ref (1), .int (nI o), .int (v), .int (nI i)] [] (elN im v i) P := by
  intro n
  induction n with
  | zero =>
    intro i hi
    have hie : i = 3 := by omega
    subst hie
    refine g_iload_n k6_40 rfl ?_
    refine g_iconst (v := 3) k6_41 ic_3 ?_
    refine g_icmp_ge k6_42 (fun _ => ?_) (fun h => absurd (nI_le (Nat.le_refl _) (by decide)) h)
    refine g_aload_n k6_73 rfl ?_
    refine g_iload_n k6_74 rfl ?_
    refine g_puti k6_75 (by decide) (hM.1.1) (by decide) ?_
    refine g_iload_n k6_78 rfl ?_
    exact g_reti k6_79 rfl (h1)
  | succ n ih =>
    intro i hi
    have hlt : i < 3 := by omega
    refine g_iload_n k6_40 rfl ?_
    refine g_iconst (v := 3) k6_41 ic_3 ?_
    refine g_icmp_ge k6_42 (fun h => absurd h (nI_ge hlt (by decide))) (fun _ => ?_)
    refine g_aload_n k6_45 rfl ?_
    refine g_getr k6_46 (hM.1.1) (by decide) (hM.1.2.2.2.2.2.1) ?_
    refine g_iload_n k6_49 rfl ?_
    refine g_aalv (t := 3) k6_50 (hM.1.2.2.2.2.2.2.2.2.2.2.2.2.2.1) ⟨_, rfl⟩ (hlt) (by decide) ((hM.2.2.2.2.1 i (hlt)).1) ?_
    refine g_getv (v := im (3 * i + 330) 0) k6_51 ((hM.2.2.2.2.1 i (hlt)).2.1) (by decide) (elN_k (by omega) i (by omega)) ?_
    refine g_if_eq k6_54 (fun h => ?_) (fun h => ?_)
    · refine g_iincv (y := nI (i + 1)) k6_67 rfl (by decide) (inc_1 i) rfl ?_
      refine g_goto k6_70 ?_
      have e1 : elN im v (i + 1) = elN im v i := if_pos h
      have := ih (i + 1) (by omega)
      rw [e1] at this
      exact this
    · refine g_aload_n k6_57 rfl ?_
      refine g_getr k6_58 (hM.1.1) (by decide) (hM.1.2.2.2.2.2.1) ?_
      refine g_iload_n k6_61 rfl ?_
      refine g_aalv (t := 3) k6_62 (hM.1.2.2.2.2.2.2.2.2.2.2.2.2.2.1) ⟨_, rfl⟩ (hlt) (by decide) ((hM.2.2.2.2.1 i (hlt)).1) ?_
      refine g_iload_n k6_63 rfl ?_
      refine g_puti k6_64 (by decide) ((hM.2.2.2.2.1 i (hlt)).2.1) (by decide) ?_
      refine g_iincv (y := nI (i + 1)) k6_67 rfl (by decide) (inc_1 i) rfl ?_
      refine g_goto k6_70 ?_
      have e1 : elN im v (i + 1) = en_u2 (elN im v i) (3 * i + 330) 1 v := if_neg h
      have := ih (i + 1) (by omega)
      rw [e1] at this
      exact this

set_option maxRecDepth 20000 in
set_option maxHeartbeats 4000000 in
theorem x6 {LS : Nat} {rm : Nat → Nat → Option Nat} {im : Nat → Nat → Int32} {P : Option Value → (Nat → Nat → Int32) → Prop} {a1 : Int32} {n t tm : Nat → Nat} (hM : isLd LS rm) (hT : ∀ i, i < 3 → isLT im (3 * i + 331) (n i) (t i)) (hm : ∀ i, i < 3 → im (3 * i + 330) 1 = nI (tm i) ∧ tm i ≤ 100000) (h1 : ∀ o, o < 3 → a1 = nI o → im (3 * o + 330) 0 ≠ 0 → 2 ≤ cntB (sup im n t o) 3 → P (some (.int (nI (gtN (upB im) tm 3 + 1)))) (en_u2 (elN im (nI (gtN (upB im) tm 3 + 1)) 3) 1 8 (nI o))) (h0 : (∀ o, ¬ (o < 3 ∧ a1 = nI o ∧ im (3 * o + 330) 0 ≠ 0 ∧ 2 ≤ cntB (sup im n t o) 3)) → P (some (.int (-1))) im) : Gm LS rm 6 0 (en_in 6 [.ref 1, .int a1]) [] im P := by
  show Gm LS rm 6 0 [.ref (1), .int (a1), .long 0, .long 0] [] im P
  refine g_iload_n k6_0 rfl ?_
  refine g_iconst (v := 3) k6_1 ic_3 ?_
  refine g_invS2 k6_2 rfl rfl (by decide) (Nat.le_of_ble_eq_true rfl) (c19n 3 (by decide) (fun o ho e => ?_) (fun h => ?_))
  · subst e
    refine g_if_eq k6_5 (fun h => absurd h (by decide)) (fun _ => ?_)
    refine g_aload_n k6_8 rfl ?_
    refine g_getr k6_9 (hM.1.1) (by decide) (hM.1.2.2.2.2.2.1) ?_
    refine g_iload_n k6_12 rfl ?_
    refine g_aalv (t := 3) k6_13 (hM.1.2.2.2.2.2.2.2.2.2.2.2.2.2.1) ⟨_, rfl⟩ (ho) (by decide) ((hM.2.2.2.2.1 o (ho)).1) ?_
    refine g_geti k6_14 ((hM.2.2.2.2.1 o (ho)).2.1) (by decide) ?_
    refine g_if_eq k6_17 (fun g => ?_) (fun g => ?_)
    · refine g_iconst (v := -1) k6_29 ic_m1 ?_
      exact g_reti k6_30 rfl (h0 (fun t2 k2 => by obtain ⟨q1, q2, q3, q4⟩ := k2; have := nI_inj q2 (by omega) (by omega); subst this; exact q3 g))
    · refine g_aload_n k6_20 rfl ?_
      refine g_iload_n k6_21 rfl ?_
      refine g_inv1 k6_22 (hM.1.1) rfl (by decide) (Nat.le_of_ble_eq_true rfl) (c23 (n := n) (t := t) hM ho hT ?_)
      refine g_iconst (v := 2) k6_25 ic_2 ?_
      have hle := cntB_le (sup im n t o) 3
      refine g_icmp_ge k6_26 (fun d => ?_) (fun d => ?_)
      · have h2 : 2 ≤ cntB (sup im n t o) 3 := (nI_leI (a := 2) (by decide) (by omega)).mp d
        refine g_aload_n k6_31 rfl ?_
        refine g_inv0 k6_32 (hM.1.1) (by decide) (Nat.le_of_ble_eq_true rfl) (c26 (t := tm) hM hm ?_)
        refine g_iconst (v := 1) k6_35 ic_1 ?_
        refine g_iadd k6_36 ?_
        refine g_top (y := nI (gtN (upB im) tm 3 + 1)) (nI_1 _) ?_
        refine g_istore_n k6_37 (by decide) rfl ?_
        refine g_iconst (v := 0) k6_38 ic_0 ?_
        refine g_istore_n k6_39 (by decide) rfl ?_
        exact l6 hM ho (h1 o ho rfl g h2) 3 0 (by omega)
      · refine g_iconst (v := -1) k6_29 ic_m1 ?_
        exact g_reti k6_30 rfl (h0 (fun t2 k2 => by obtain ⟨q1, q2, q3, q4⟩ := k2; have := nI_inj q2 (by omega) (by omega); subst this; exact d (nI_le (a := 2) q4 (by omega))))
  · refine g_if_eq k6_5 (fun _ => ?_) (fun h => absurd (by decide) h)
    refine g_iconst (v := -1) k6_29 ic_m1 ?_
    exact g_reti k6_30 rfl (h0 (fun p2 k2 => w_out (by decide) k2.1 h k2.2.1))

def ct1 (im : Nat → Nat → Int32) (o c n : Nat) : Nat → Nat → Int32 := en_u2 (en_u2 (en_ur im (2 * c + 211) (va_cpy (im 4) (im (2 * c + 211)) 0 0 n)) (2 * c + 210) 1 (nI n)) (2 * c + 210) 2 (im (3 * o + 330) 1)
def ct2 (im : Nat → Nat → Int32) (o c n w : Nat) : Nat → Nat → Int32 := en_u2 (en_ur (ct1 im o c n) 4 (va_cpy (im 4) (im 4) n 0 (w - n))) 1 4 (nI (w - n))
def ct3 (im : Nat → Nat → Int32) (o c n w l : Nat) : Nat → Nat → Int32 := en_u2 (en_u2 (en_u2 (ct2 im o c n w) (3 * o + 332) l (nI c)) (3 * o + 331) 1 (nI (l + 1))) 1 6 (nI (c + 1))
set_option maxRecDepth 20000 in
set_option maxHeartbeats 4000000 in
theorem x7 {LS : Nat} {rm : Nat → Nat → Option Nat} {im : Nat → Nat → Int32} {P : Option Value → (Nat → Nat → Int32) → Prop} {a1 : Int32} {w c : Nat} {n : Nat → Nat} (hM : isLd LS rm) (hw : im 1 4 = nI w) (hw2 : w ≤ 20) (hc : im 1 6 = nI c) (hc2 : c ≤ 60) (hn : ∀ o, o < 3 → im (3 * o + 331) 1 = nI (n o) ∧ n o ≤ 40) (h1 : ∀ o, o < 3 → a1 = nI o → im 1 8 = nI o → 0 < w → c < 60 → n o < 40 → P (some (.int (nI (min w 4)))) (ct3 im o c (min w 4) w (n o))) (h0 : (∀ o, ¬ (o < 3 ∧ a1 = nI o ∧ im 1 8 = nI o ∧ 0 < w ∧ c < 60 ∧ n o < 40)) → P (some (.int (-1))) im) : Gm LS rm 7 0 (en_in 7 [.ref 1, .int a1]) [] im P := by
  show Gm LS rm 7 0 [.ref (1), .int (a1), .long 0, .long 0] [] im P
  refine g_aload_n k7_0 rfl ?_
  refine g_iload_n k7_1 rfl ?_
  refine g_inv1 k7_2 (hM.1.1) rfl (by decide) (Nat.le_of_ble_eq_true rfl) (c21 hM (fun o ho e hl => ?_) (fun h => ?_))
  · subst e
    refine g_if_eq k7_5 (fun h => absurd h (by decide)) (fun _ => ?_)
    refine g_aload_n k7_8 rfl ?_
    refine g_getv (v := nI w) k7_9 (hM.1.1) (by decide) (hw) ?_
    refine g_if_eq k7_12 (fun g => ?_) (fun g => ?_)
    · refine g_iconst (v := -1) k7_24 ic_m1 ?_
      exact g_reti k7_25 rfl (h0 (fun o2 k2 => nI_ne0 k2.2.2.2.1 (by omega) g))
    · have w0 : 0 < w := Nat.pos_of_ne_zero (fun z => g (by rw [z]; rfl))
      have hno := hn o ho
      refine g_aload_n k7_15 rfl ?_
      refine g_getv (v := nI c) k7_16 (hM.1.1) (by decide) (hc) ?_
      refine g_bipush (v := 60) k7_19 bp_60 ?_
      refine g_icmp_lt k7_21 (fun d => ?_) (fun d => ?_)
      · have hlt : c < 60 := (nI_ltI (by omega) (by decide)).mp d
        refine g_aload_n k7_26 rfl ?_
        refine g_getr k7_27 (hM.1.1) (by decide) (hM.1.2.2.2.2.2.1) ?_
        refine g_iload_n k7_30 rfl ?_
        refine g_aalv (t := 3) k7_31 (hM.1.2.2.2.2.2.2.2.2.2.2.2.2.2.1) ⟨_, rfl⟩ (ho) (by decide) ((hM.2.2.2.2.1 o (ho)).1) ?_
        refine g_astore_n k7_32 (by decide) rfl ?_
        refine g_aload_n k7_33 rfl ?_
        refine g_getr k7_34 ((hM.2.2.2.2.1 o (ho)).2.1) (by decide) ((hM.2.2.2.2.1 o (ho)).2.2.1) ?_
        refine g_getv (v := nI (n o)) k7_37 ((hM.2.2.2.2.1 o (ho)).2.2.2.1) (by decide) (hno.1) ?_
        refine g_bipush (v := 40) k7_40 bp_40 ?_
        refine g_icmp_lt k7_42 (fun f => ?_) (fun f => ?_)
        · have hll : n o < 40 := (nI_ltI (by omega) (by decide)).mp f
          refine g_aload_n k7_47 rfl ?_
          refine g_getv (v := nI w) k7_48 (hM.1.1) (by decide) (hw) ?_
          refine g_iconst (v := 4) k7_51 ic_4 ?_
          refine g_min k7_52 (Nat.le_of_ble_eq_true rfl) ?_
          refine g_top (y := nI (min w 4)) (by rcases Nat.lt_or_ge 4 w with h | h; rw [if_pos (show (4 : Int32) < nI w from nI_lt (a := 4) h (by omega)), Nat.min_eq_right (Nat.le_of_lt h)]; rfl; rw [if_neg (show ¬ (4 : Int32) < nI w from nI_nlt (a := 4) h (by decide)), Nat.min_eq_left h]) ?_
          refine g_istore_n k7_55 (by decide) rfl ?_
          refine g_aload_n k7_56 rfl ?_
          refine g_getr k7_57 (hM.1.1) (by decide) (hM.1.2.2.2.2.1) ?_
          refine g_aload_n k7_60 rfl ?_
          refine g_getv (v := nI c) k7_61 (hM.1.1) (by decide) (hc) ?_
          refine g_aalv (t := 2) k7_64 (hM.1.2.2.2.2.2.2.2.2.2.2.2.2.1) ⟨_, rfl⟩ (hlt) (by decide) ((hM.2.2.2.1 c (hlt)).1) ?_
          refine g_aload_n k7_65 rfl ?_
          refine g_getr k7_66 (hM.1.1) (by decide) (hM.1.2.2.2.1) ?_
          refine g_iload_n k7_69 rfl ?_
          refine g_aload_n k7_70 rfl ?_
          refine g_geti k7_71 ((hM.2.2.2.2.1 o (ho)).2.1) (by decide) ?_
          refine g_inv3 k7_74 ((hM.2.2.2.1 c (hlt)).2.1) rfl rfl rfl (by decide) (Nat.le_of_ble_eq_true rfl) (c74 (a := 2 * c + 210) (b := 4) (n := min w 4) (nb := 20) (hM.2.2.2.1 c hlt).2 hM.1.2.2.2.2.2.2.2.2.2.2.2.1 (by decide) (Nat.min_le_right _ _) (by omega) ?_)
          show Gm LS rm 7 77 _ [] (ct1 im o c (min w 4)) P
          have e4 : ct1 im o c (min w 4) 4 = im 4 := by unfold ct1; rw [en_u2_off (by omega), en_u2_off (by omega), en_ur_off (by omega)]
          have e14 : ct1 im o c (min w 4) 1 = im 1 := by unfold ct1; rw [en_u2_off (by omega), en_u2_off (by omega), en_ur_off (by omega)]
          refine g_aload_n k7_77 rfl ?_
          refine g_iload_n k7_78 rfl ?_
          refine g_inv1 k7_79 (hM.1.1) rfl (by decide) (Nat.le_of_ble_eq_true rfl) (c27 (w := w) (n := min w 4) hM (by rw [e14]; exact hw) hw2 (Nat.min_le_left _ _) ?_)
          rw [e4]
          show Gm LS rm 7 82 _ [] (ct2 im o c (min w 4) w) P
          have e16 : ct2 im o c (min w 4) w 1 6 = nI c := by unfold ct2; rw [u2_ne (by omega), en_ur_off (by omega), e14]; exact hc
          have e31 : ct2 im o c (min w 4) w (3 * o + 331) 1 = nI (n o) := by unfold ct2 ct1; rw [u2_ne (by omega), en_ur_off (by omega), u2_ne (by omega), u2_ne (by omega), en_ur_off (by omega)]; exact hno.1
          refine g_aload_n k7_82 rfl ?_
          refine g_getr k7_83 ((hM.2.2.2.2.1 o (ho)).2.1) (by decide) ((hM.2.2.2.2.1 o (ho)).2.2.1) ?_
          refine g_aload_n k7_86 rfl ?_
          refine g_getv (v := nI c) k7_87 (hM.1.1) (by decide) (e16) ?_
          refine g_inv1 k7_90 ((hM.2.2.2.2.1 o (ho)).2.2.2.1) rfl (by decide) (Nat.le_of_ble_eq_true rfl) (c78 (a := 3 * o + 331) (n := n o) (hM.2.2.2.2.1 o ho).2.2.2 e31 hll ?_)
          refine g_aload_n k7_93 rfl ?_
          refine g_dup k7_94 rfl ?_
          refine g_getv (v := nI c) k7_95 (hM.1.1) (by decide) (by rw [u2_ne (by omega), u2_ne (by omega)]; exact e16) ?_
          refine g_iconst (v := 1) k7_98 ic_1 ?_
          refine g_iadd k7_99 ?_
          refine g_top (y := nI (c + 1)) (nI_1 c) ?_
          refine g_puti k7_100 (by decide) (hM.1.1) (by decide) ?_
          refine g_iload_n k7_103 rfl ?_
          exact g_reti k7_104 rfl (h1 o ho rfl hl w0 hlt hll)
        · refine g_iconst (v := -1) k7_45 ic_m1 ?_
          exact g_reti k7_46 rfl (h0 (fun o2 k2 => by obtain ⟨q1, q2, q3, q4, q5, q6⟩ := k2; have := nI_inj q2 (by omega) (by omega); subst this; exact f (nI_lt (b := 40) q6 (by decide))))
      · refine g_iconst (v := -1) k7_24 ic_m1 ?_
        exact g_reti k7_25 rfl (h0 (fun o2 k2 => d (nI_lt (b := 60) k2.2.2.2.2.1 (by decide))))
  · refine g_if_eq k7_5 (fun _ => ?_) (fun h => absurd (by decide) h)
    refine g_iconst (v := -1) k7_24 ic_m1 ?_
    exact g_reti k7_25 rfl (h0 (fun o2 k2 => h o2 k2.1 k2.2.1 k2.2.2.1))

theorem sub_nI {x : Int32} {p c : Nat} (h : x - nI c = nI p) : x = nI (p + c) := by
  rw [← nI_add, ← h]
  exact (Int32.sub_add_cancel x (nI c)).symm
theorem nI_sub_out {x : Int32} {p c n : Nat} (hp : p < n) (hn : n < 1000) (h : x - nI c < 0 ∨ nI n ≤ x - nI c) : x ≠ nI (p + c) := by
  intro e
  subst e
  rw [pk_sub (Nat.le_add_left c p), Nat.add_sub_cancel] at h
  exact w_out (by omega) hp h rfl
set_option maxRecDepth 20000 in
set_option maxHeartbeats 4000000 in
theorem x9 {LS : Nat} {rm : Nat → Nat → Option Nat} {im : Nat → Nat → Int32} {P : Option Value → (Nat → Nat → Int32) → Prop} {a1 y : Int32} {st v : Nat → Nat} (hM : isLd LS rm) (hy : y = 0 ∨ y = 1) (hC : ∀ p, p < 4 → okC im (st p)) (hst : ∀ p, p < 4 → st p ≤ 40 ∧ v p ≤ st p ∧ im (8 * p + 339) 1 = nI (st p) ∧ im (8 * p + 343) 2 = nI (v p)) (h1 : ∀ o, o < 3 → a1 = nI o → im (3 * o + 330) 0 ≠ y → im 1 8 ≠ nI o → P (some (.int 0)) (en_u2 im (3 * o + 330) 0 y)) (h2 : ∀ o, o < 3 → a1 = nI o → im (3 * o + 330) 0 ≠ y → im 1 8 = nI o → P (some (.int 0)) (en_u2 (en_u2 im (3 * o + 330) 0 y) 1 8 (-1))) (h3 : ∀ p, p < 4 → a1 = nI (p + 3) → im (8 * p + 339) 0 ≠ y → y = 0 → P (some (.int 0)) (en_u2 im (8 * p + 339) 0 y)) (h4 : ∀ p, p < 4 → a1 = nI (p + 3) → im (8 * p + 339) 0 ≠ y → y ≠ 0 → P (some (.int (nI (st p - v p)))) (cbN p (v p) (en_u2 im (8 * p + 339) 0 y) (st p - v p))) (h0 : (∀ o, ¬ (o < 3 ∧ a1 = nI o ∧ im (3 * o + 330) 0 ≠ y)) → (∀ p, ¬ (p < 4 ∧ a1 = nI (p + 3) ∧ im (8 * p + 339) 0 ≠ y)) → P (some (.int (-1))) im) : Gm LS rm 9 0 (en_in 9 [.ref 1, .int a1, .int y]) [] im P := by
  show Gm LS rm 9 0 [.ref (1), .int (a1), .int (y)] [] im P
  refine g_iload_n k9_0 rfl ?_
  refine g_iconst (v := 3) k9_1 ic_3 ?_
  refine g_invS2 k9_2 rfl rfl (by decide) (Nat.le_of_ble_eq_true rfl) (c19n 3 (by decide) (fun o ho e => ?_) (fun h => ?_))
  · subst e
    refine g_if_eq k9_5 (fun h => absurd h (by decide)) (fun _ => ?_)
    refine g_aload_n k9_8 rfl ?_
    refine g_iload_n k9_9 rfl ?_
    refine g_iload_n k9_10 rfl ?_
    refine g_inv2 k9_11 (hM.1.1) rfl rfl (by decide) (Nat.le_of_ble_eq_true rfl) (c31 hM ho hy (fun z => ?_) (fun z1 z2 => ?_) (fun z1 z2 => ?_))
    · exact g_reti k9_14 rfl (h0 (fun o2 k2 => by obtain ⟨q1, q2, q3⟩ := k2; have := nI_inj q2 (by omega) (by omega); subst this; exact q3 z) (fun p2 k2 => by have := nI_inj k2.2.1 (by omega) (by omega); omega))
    · exact g_reti k9_14 rfl (h1 o ho rfl z1 z2)
    · exact g_reti k9_14 rfl (h2 o ho rfl z1 z2)
  · refine g_if_eq k9_5 (fun _ => ?_) (fun h => absurd (by decide) h)
    refine g_iload_n k9_15 rfl ?_
    refine g_iconst (v := 3) k9_16 ic_3 ?_
    refine g_isub k9_17 ?_
    refine g_iconst (v := 4) k9_18 ic_4 ?_
    refine g_invS2 k9_19 rfl rfl (by decide) (Nat.le_of_ble_eq_true rfl) (c19n 4 (by decide) (fun p hp e => ?_) (fun h9 => ?_))
    · have e3 := sub_nI (c := 3) e
      subst e3
      obtain ⟨s1, s2, s3, s4⟩ := hst p hp
      refine g_if_eq k9_22 (fun h => absurd h (by decide)) (fun _ => ?_)
      refine g_aload_n k9_25 rfl ?_
      refine g_aload_n k9_26 rfl ?_
      refine g_getr k9_27 (hM.1.1) (by decide) (hM.1.2.2.2.2.2.2.2.1) ?_
      refine g_iload_n k9_30 rfl ?_
      refine g_iconst (v := 3) k9_31 ic_3 ?_
      refine g_isub k9_32 ?_
      refine g_top (y := nI p) (by rw [show (3 : Int32) = nI 3 from rfl, pk_sub (Nat.le_add_left 3 p), Nat.add_sub_cancel]) ?_
      refine g_aalv (t := 4) k9_33 (hM.1.2.2.2.2.2.2.2.2.2.2.2.2.2.2.2.1) ⟨_, rfl⟩ (hp) (by decide) ((hM.2.2.2.2.2 p (hp)).1) ?_
      refine g_iload_n k9_34 rfl ?_
      refine g_inv2 k9_35 (hM.1.1) rfl rfl (by decide) (Nat.le_of_ble_eq_true rfl) (c32 (st := st p) (v := v p) hM hp hy (hC p hp) s1 s2 s3 s4 (fun z => ?_) (fun z1 z2 => ?_) (fun z1 z2 => ?_))
      · exact g_reti k9_38 rfl (h0 (fun o2 k2 => w_out (by decide) k2.1 h k2.2.1) (fun p2 k2 => by obtain ⟨q1, q2, q3⟩ := k2; have := nI_inj q2 (by omega) (by omega); have : p = p2 := (by omega); subst this; exact q3 z))
      · exact g_reti k9_38 rfl (h3 p hp rfl z1 z2)
      · exact g_reti k9_38 rfl (h4 p hp rfl z1 z2)
    · refine g_if_eq k9_22 (fun _ => ?_) (fun h => absurd (by decide) h)
      refine g_iconst (v := -1) k9_39 ic_m1 ?_
      exact g_reti k9_40 rfl (h0 (fun o2 k2 => w_out (by decide) k2.1 h k2.2.1) (fun p2 k2 => nI_sub_out (c := 3) (n := 4) k2.1 (by decide) h9 k2.2.1))

set_option maxRecDepth 20000 in
set_option maxHeartbeats 4000000 in
theorem x11 {LS : Nat} {rm : Nat → Nat → Option Nat} {im : Nat → Nat → Int32} {P : Option Value → (Nat → Nat → Int32) → Prop} {a1 : Int32} {c : Nat} {st : Nat → Nat} (hM : isLd LS rm) (hc : im 7 1 = nI c) (hc2 : c ≤ 40) (hst : ∀ p, p < 4 → im (8 * p + 339) 1 = nI (st p) ∧ st p ≤ 40) (h1 : ∀ p, p < 4 → a1 = nI p → im (8 * p + 339) 0 ≠ 0 → st p < c → P (some (.int 1)) (en_u2 (en_u2 im (8 * p + 339) 1 (nI (st p + 1))) (8 * p + 339) 0 0)) (h0 : (∀ p, ¬ (p < 4 ∧ a1 = nI p ∧ im (8 * p + 339) 0 ≠ 0 ∧ st p < c)) → P (some (.int 0)) im) : Gm LS rm 11 0 (en_in 11 [.ref 1, .int a1]) [] im P := by
  show Gm LS rm 11 0 [.ref (1), .int (a1)] [] im P
  refine g_aload_n k11_0 rfl ?_
  refine g_iload_n k11_1 rfl ?_
  refine g_inv1 k11_2 (hM.1.1) rfl (by decide) (Nat.le_of_ble_eq_true rfl) (c34 (c := c) hM hc (fun p hp e hu hlt => ?_) (fun h => ?_))
  · subst e
    have hs := hst p hp
    rw [hs.1] at hlt
    have hlt := (nI_ltI (by omega) (by omega)).mp hlt
    refine g_if_ne k11_5 (fun _ => ?_) (fun h => absurd h (by decide))
    refine g_aload_n k11_10 rfl ?_
    refine g_getr k11_11 (hM.1.1) (by decide) (hM.1.2.2.2.2.2.2.2.1) ?_
    refine g_iload_n k11_14 rfl ?_
    refine g_aalv (t := 4) k11_15 (hM.1.2.2.2.2.2.2.2.2.2.2.2.2.2.2.2.1) ⟨_, rfl⟩ (hp) (by decide) ((hM.2.2.2.2.2 p (hp)).1) ?_
    refine g_dup k11_16 rfl ?_
    refine g_getv (v := nI (st p)) k11_17 ((hM.2.2.2.2.2 p (hp)).2.1) (by decide) (hs.1) ?_
    refine g_iconst (v := 1) k11_20 ic_1 ?_
    refine g_iadd k11_21 ?_
    refine g_top (y := nI (st p + 1)) (nI_1 _) ?_
    refine g_puti k11_22 (by decide) ((hM.2.2.2.2.2 p (hp)).2.1) (by decide) ?_
    refine g_aload_n k11_25 rfl ?_
    refine g_getr k11_26 (hM.1.1) (by decide) (hM.1.2.2.2.2.2.2.2.1) ?_
    refine g_iload_n k11_29 rfl ?_
    refine g_aalv (t := 4) k11_30 (hM.1.2.2.2.2.2.2.2.2.2.2.2.2.2.2.2.1) ⟨_, rfl⟩ (hp) (by decide) ((hM.2.2.2.2.2 p (hp)).1) ?_
    refine g_iconst (v := 0) k11_31 ic_0 ?_
    refine g_putz k11_32 (by decide) ((hM.2.2.2.2.2 p (hp)).2.1) (by decide) (by decide) ?_
    refine g_iconst (v := 1) k11_35 ic_1 ?_
    exact g_retz k11_36 rfl (by decide) (h1 p hp rfl hu hlt)
  · refine g_if_ne k11_5 (fun h => absurd (by decide) h) (fun _ => ?_)
    refine g_iconst (v := 0) k11_8 ic_0 ?_
    exact g_retz k11_9 rfl (by decide) (h0 (fun p2 k2 => by obtain ⟨q1, q2, q3, q4⟩ := k2; have z := h p2 q1 q2 q3; rw [(hst p2 q1).1] at z; exact nI_ge q4 (by omega) z))

set_option maxRecDepth 20000 in
set_option maxHeartbeats 4000000 in
theorem x10 {LS : Nat} {rm : Nat → Nat → Option Nat} {im : Nat → Nat → Int32} {P : Option Value → (Nat → Nat → Int32) → Prop} {a1 : Int32} {c : Nat} {st : Nat → Nat} (hM : isLd LS rm) (hc : im 7 1 = nI c) (hc2 : c ≤ 40) (hst : ∀ p, p < 4 → im (8 * p + 339) 1 = nI (st p) ∧ st p ≤ 40) (hh : ∀ p, p < 4 → im (8 * p + 339) 0 ≠ 0 → im (8 * p + 340) 2 = nI (st p)) (hC : okC im c) (h1 : ∀ p, p < 4 → a1 = nI p → im (8 * p + 339) 0 ≠ 0 → st p < c → P (some (.int (nI (apS p (st p) (en_u2 im (8 * p + 339) 1 (nI (st p + 1))) (szv im (chv im (st p)))).2))) (apN p (st p) (en_u2 im (8 * p + 339) 1 (nI (st p + 1))))) (h0 : (∀ p, ¬ (p < 4 ∧ a1 = nI p ∧ im (8 * p + 339) 0 ≠ 0 ∧ st p < c)) → P (some (.int (-1))) im) : Gm LS rm 10 0 (en_in 10 [.ref 1, .int a1]) [] im P := by
  show Gm LS rm 10 0 [.ref (1), .int (a1)] [] im P
  refine g_aload_n k10_0 rfl ?_
  refine g_iload_n k10_1 rfl ?_
  refine g_inv1 k10_2 (hM.1.1) rfl (by decide) (Nat.le_of_ble_eq_true rfl) (c34 (c := c) hM hc (fun p hp e hu hlt => ?_) (fun h => ?_))
  · subst e
    have hs := hst p hp
    rw [hs.1] at hlt
    have hlt := (nI_ltI (by omega) (by omega)).mp hlt
    have hag : ∀ b, b < 339 → (en_u2 im (8 * p + 339) 1 (nI (st p + 1))) b = im b := fun b hb => en_u2_off (by omega)
    have hch : chv im (st p) < 60 := (hC (st p) hlt).1.2
    refine g_if_ne k10_5 (fun _ => ?_) (fun h => absurd h (by decide))
    refine g_aload_n k10_10 rfl ?_
    refine g_getr k10_11 (hM.1.1) (by decide) (hM.1.2.2.2.2.2.2.2.1) ?_
    refine g_iload_n k10_14 rfl ?_
    refine g_aalv (t := 4) k10_15 (hM.1.2.2.2.2.2.2.2.2.2.2.2.2.2.2.2.1) ⟨_, rfl⟩ (hp) (by decide) ((hM.2.2.2.2.2 p (hp)).1) ?_
    refine g_dup k10_16 rfl ?_
    refine g_getv (v := nI (st p)) k10_17 ((hM.2.2.2.2.2 p (hp)).2.1) (by decide) (hs.1) ?_
    refine g_iconst (v := 1) k10_20 ic_1 ?_
    refine g_iadd k10_21 ?_
    refine g_top (y := nI (st p + 1)) (nI_1 _) ?_
    refine g_puti k10_22 (by decide) ((hM.2.2.2.2.2 p (hp)).2.1) (by decide) ?_
    refine g_aload_n k10_25 rfl ?_
    refine g_aload_n k10_26 rfl ?_
    refine g_getr k10_27 (hM.1.1) (by decide) (hM.1.2.2.2.2.2.2.2.1) ?_
    refine g_iload_n k10_30 rfl ?_
    refine g_aalv (t := 4) k10_31 (hM.1.2.2.2.2.2.2.2.2.2.2.2.2.2.2.2.1) ⟨_, rfl⟩ (hp) (by decide) ((hM.2.2.2.2.2 p (hp)).1) ?_
    refine g_inv1 k10_32 (hM.1.1) rfl (by decide) (Nat.le_of_ble_eq_true rfl) (c36 (b := st p) hM hp (fun j hj => okC_ag hag hC j (by omega)) (by omega) (by rw [en_u2_off (by omega)]; exact hh p hp hu) ?_)
    rw [chv_ag hag, szv_ag hag hch]
    exact g_reti k10_35 rfl (h1 p hp rfl hu hlt)
  · refine g_if_ne k10_5 (fun h => absurd (by decide) h) (fun _ => ?_)
    refine g_iconst (v := -1) k10_8 ic_m1 ?_
    exact g_reti k10_9 rfl (h0 (fun p2 k2 => by obtain ⟨q1, q2, q3, q4⟩ := k2; have z := h p2 q1 q2 q3; rw [(hst p2 q1).1] at z; exact nI_ge q4 (by omega) z))
end
