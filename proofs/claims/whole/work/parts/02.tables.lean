/-! TABLES: my numbers of classes, fields, methods; what the pool links; written by wip/whole/draft/gen_tables.py out of the Statement and javap's listing -/
def ew : List Cond := lw_tbl.filter goodWord
theorem T_good : ∀ w ∈ ew, (w.onTables && w.keeps) = true ∨ ∃ ty, w = .arrayClass ty := fun w h => good_of_word (List.mem_filter.mp h).2
/-- a word by its place -/
def ew_is (ix : Nat) (w : Cond) : Bool := decide (lw_tbl[ix]? = some w) && goodWord w
theorem ew_in {ix : Nat} {w : Cond} (h : ew_is ix w = true) : w ∈ ew := by
  unfold ew_is at h
  simp only [Bool.and_eq_true, decide_eq_true_eq] at h
  exact List.mem_filter.mpr ⟨List.mem_of_getElem? h.1, h.2⟩
def oYl : List String := ["EndorsedLedger", "EndorsedLedger$Program", "EndorsedLedger$Run", "EndorsedLedger$Result", "EndorsedLedger$Transaction", "EndorsedLedger$Block", "EndorsedLedger$BlockList", "EndorsedLedger$Orderer", "EndorsedLedger$WorldState", "EndorsedLedger$Peer", "EndorsedLedgerModel", "EndorsedLedgerLaw"]
def oY (o : Nat) : String := oYl.getD o ""
def clFl : List (List (String × String × Bool × FieldType)) := [[("programs", "[LEndorsedLedger$Program;", true, .array (.object "EndorsedLedger$Program")), ("transactions", "[LEndorsedLedger$Transaction;", true, .array (.object "EndorsedLedger$Transaction")), ("proposed", "I", false, .int), ("waiting", "[I", true, .array (.int)), ("waitingCount", "I", false, .int), ("blocks", "[LEndorsedLedger$Block;", true, .array (.object "EndorsedLedger$Block")), ("cutCount", "I", false, .int), ("orderers", "[LEndorsedLedger$Orderer;", true, .array (.object "EndorsedLedger$Orderer")), ("leader", "I", false, .int), ("agreed", "LEndorsedLedger$BlockList;", true, .object "EndorsedLedger$BlockList"), ("peers", "[LEndorsedLedger$Peer;", true, .array (.object "EndorsedLedger$Peer")), ("run", "LEndorsedLedger$Run;", true, .object "EndorsedLedger$Run")],
  [("ops", "[I", true, .array (.int)), ("operands", "[I", true, .array (.int)), ("length", "I", false, .int), ("pile", "[I", true, .array (.int)), ("pileHeight", "I", false, .int), ("rulesMade", "I", false, .int)],
  [("stack", "[I", true, .array (.int)), ("result", "LEndorsedLedger$Result;", true, .object "EndorsedLedger$Result"), ("depth", "I", false, .int), ("leftOut", "I", false, .int), ("failed", "Z", false, .boolean)],
  [("cells", "[I", true, .array (.int)), ("ranges", "I", false, .int)],
  [("program", "I", false, .int), ("argument", "I", false, .int), ("endorsers", "I", false, .int), ("closed", "Z", false, .boolean), ("result", "LEndorsedLedger$Result;", true, .object "EndorsedLedger$Result")],
  [("members", "[I", true, .array (.int)), ("size", "I", false, .int), ("term", "I", false, .int)],
  [("numbers", "[I", true, .array (.int)), ("length", "I", false, .int)],
  [("up", "Z", false, .boolean), ("term", "I", false, .int), ("held", "LEndorsedLedger$BlockList;", true, .object "EndorsedLedger$BlockList")],
  [("versions", "[I", true, .array (.int)), ("values", "[I", true, .array (.int)), ("height", "I", false, .int)],
  [("up", "Z", false, .boolean), ("stored", "I", false, .int), ("current", "LEndorsedLedger$WorldState;", true, .object "EndorsedLedger$WorldState"), ("saved", "LEndorsedLedger$WorldState;", true, .object "EndorsedLedger$WorldState"), ("flags", "[I", true, .array (.int))],
  [("length", "[I", true, .array (.int)), ("op", "[I", true, .array (.int)), ("operand", "[I", true, .array (.int)), ("rules", "[I", true, .array (.int)), ("ruleK", "[I", true, .array (.int)), ("ruleN", "[I", true, .array (.int)), ("part", "[I", true, .array (.int)), ("pile", "[I", true, .array (.int)), ("high", "[I", true, .array (.int)), ("many", "I", false, .int), ("program", "[I", true, .array (.int)), ("argument", "[I", true, .array (.int)), ("endorsers", "[I", true, .array (.int)), ("closed", "[Z", true, .array (.boolean)), ("read", "[I", true, .array (.int)), ("wrote", "[I", true, .array (.int)), ("written", "[I", true, .array (.int)), ("ranges", "[I", true, .array (.int)), ("from", "[I", true, .array (.int)), ("to", "[I", true, .array (.int)), ("seen", "[I", true, .array (.int)), ("stack", "[I", true, .array (.int)), ("depth", "I", false, .int), ("failed", "Z", false, .boolean), ("queue", "[I", true, .array (.int)), ("waiting", "I", false, .int), ("blocks", "I", false, .int), ("block", "[I", true, .array (.int)), ("size", "[I", true, .array (.int)), ("cutIn", "[I", true, .array (.int)), ("off", "[Z", true, .array (.boolean)), ("term", "[I", true, .array (.int)), ("logs", "[I", true, .array (.int)), ("logged", "[I", true, .array (.int)), ("leader", "I", false, .int), ("chained", "[I", true, .array (.int)), ("chains", "I", false, .int), ("down", "[Z", true, .array (.boolean)), ("stored", "[I", true, .array (.int)), ("saved", "[I", true, .array (.int)), ("value", "[I", true, .array (.int)), ("version", "[I", true, .array (.int)), ("flags", "[I", true, .array (.int)), ("met", "[Z", true, .array (.boolean)), ("fulfilled", "[Z", true, .array (.boolean))]]
def clF (ci k : Nat) : String × String × Bool × FieldType := (clFl.getD ci []).getD k ("", "", false, .int)
def clT (ci : Nat) : u_T := fun k => (oY ci, (clF ci k).1, (clF ci k).2.1, (clF ci k).2.2.1)
def clN (ci : Nat) : Nat := (clFl.getD ci []).length
def xT (ci k : Nat) : FieldType := (clF ci k).2.2.2
def kI (ci k : Nat) : Bool := (clF ci k).2.2.1
def vwCl : List vw_C := (List.range 11).map (fun ci => (oY ci, clT ci, clN ci))
def xA : List FieldType := [.int, .boolean, .object "EndorsedLedger$Program", .object "EndorsedLedger$Transaction", .object "EndorsedLedger$Block", .object "EndorsedLedger$Orderer", .object "EndorsedLedger$Peer"]
def nA : List String := ["EndorsedLedger$Program", "EndorsedLedger$Transaction", "EndorsedLedger$Block", "EndorsedLedger$Orderer", "EndorsedLedger$Peer"]
def clLl : List (List Nat) := [[319, 321, 323, 325, 327, 329, 331, 333, 335, 337, 339, 341], [178, 180, 182, 184, 186, 188], [153, 155, 157, 159, 161], [142, 144], [208, 210, 212, 214, 216], [230, 232, 234], [113, 115], [250, 252, 254], [279, 281, 283], [296, 298, 300, 302, 304], [710, 712, 714, 716, 718, 720, 722, 724, 726, 728, 730, 732, 734, 736, 738, 740, 742, 744, 746, 748, 750, 752, 754, 756, 758, 760, 762, 764, 766, 768, 770, 772, 774, 776, 778, 780, 782, 784, 786, 788, 790, 792, 794, 796, 798]]
def clIl : List Nat := [88, 164, 122, 128, 191, 219, 104, 237, 263, 257, 660]
def clJl : List Nat := [74, 78, 76, 77, 79, 80, 75, 81, 83, 82, 84, 73]
def mYl : List MethodName := [⟨"EndorsedLedger", "<init>", "()V"⟩,
  ⟨"EndorsedLedger", "code", "(III)Z"⟩,
  ⟨"EndorsedLedger", "policy", "(III)Z"⟩,
  ⟨"EndorsedLedger", "propose", "(II)I"⟩,
  ⟨"EndorsedLedger", "endorse", "(II)I"⟩,
  ⟨"EndorsedLedger", "submit", "(I)Z"⟩,
  ⟨"EndorsedLedger", "elect", "(I)I"⟩,
  ⟨"EndorsedLedger", "cut", "(I)I"⟩,
  ⟨"EndorsedLedger", "copy", "(II)I"⟩,
  ⟨"EndorsedLedger", "power", "(IZ)I"⟩,
  ⟨"EndorsedLedger", "deliver", "(I)I"⟩,
  ⟨"EndorsedLedger", "tear", "(I)Z"⟩,
  ⟨"EndorsedLedger", "transaction", "(II)I"⟩,
  ⟨"EndorsedLedger", "access", "(III)I"⟩,
  ⟨"EndorsedLedger", "state", "(III)I"⟩,
  ⟨"EndorsedLedger", "flag", "(III)I"⟩,
  ⟨"EndorsedLedger", "chain", "(II)I"⟩,
  ⟨"EndorsedLedger", "log", "(III)I"⟩,
  ⟨"EndorsedLedger", "about", "(I)I"⟩,
  ⟨"EndorsedLedger", "within", "(II)Z"⟩,
  ⟨"EndorsedLedger", "isUpPeer", "(I)Z"⟩,
  ⟨"EndorsedLedger", "isLeader", "(I)Z"⟩,
  ⟨"EndorsedLedger", "nodesUp", "()I"⟩,
  ⟨"EndorsedLedger", "supporters", "(I)I"⟩,
  ⟨"EndorsedLedger", "isNewer", "(LEndorsedLedger$BlockList;LEndorsedLedger$BlockList;)Z"⟩,
  ⟨"EndorsedLedger", "lastTerm", "(LEndorsedLedger$BlockList;)I"⟩,
  ⟨"EndorsedLedger", "greatestTerm", "()I"⟩,
  ⟨"EndorsedLedger", "dropFirstWaiting", "(I)V"⟩,
  ⟨"EndorsedLedger", "bringNearer", "(LEndorsedLedger$BlockList;LEndorsedLedger$BlockList;)I"⟩,
  ⟨"EndorsedLedger", "agreedCount", "(I)I"⟩,
  ⟨"EndorsedLedger", "isHeldByAnother", "(III)Z"⟩,
  ⟨"EndorsedLedger", "powerOrderer", "(IZ)I"⟩,
  ⟨"EndorsedLedger", "powerPeer", "(LEndorsedLedger$Peer;Z)I"⟩,
  ⟨"EndorsedLedger", "comeBack", "(LEndorsedLedger$Peer;)I"⟩,
  ⟨"EndorsedLedger", "canStoreNext", "(I)Z"⟩,
  ⟨"EndorsedLedger", "agreedBlock", "(I)LEndorsedLedger$Block;"⟩,
  ⟨"EndorsedLedger", "applyNext", "(LEndorsedLedger$Peer;)I"⟩,
  ⟨"EndorsedLedger", "judge", "(LEndorsedLedger$WorldState;II)I"⟩,
  ⟨"EndorsedLedger", "standsEarlier", "(III)Z"⟩,
  ⟨"EndorsedLedger$Program", "<init>", "()V"⟩,
  ⟨"EndorsedLedger$Program", "addInstruction", "(II)Z"⟩,
  ⟨"EndorsedLedger$Program", "addLeaf", "(I)Z"⟩,
  ⟨"EndorsedLedger$Program", "joinRules", "(II)Z"⟩,
  ⟨"EndorsedLedger$Program", "countMetAmongTop", "(II)I"⟩,
  ⟨"EndorsedLedger$Program", "putOnTop", "(I)V"⟩,
  ⟨"EndorsedLedger$Program", "isMetBy", "(I)Z"⟩,
  ⟨"EndorsedLedger$Run", "<init>", "()V"⟩,
  ⟨"EndorsedLedger$Run", "succeeds", "(LEndorsedLedger$Program;ILEndorsedLedger$WorldState;)Z"⟩,
  ⟨"EndorsedLedger$Run", "step", "(IIILEndorsedLedger$WorldState;)V"⟩,
  ⟨"EndorsedLedger$Run", "calculate", "(I)V"⟩,
  ⟨"EndorsedLedger$Run", "duplicateTop", "()V"⟩,
  ⟨"EndorsedLedger$Run", "touchState", "(ILEndorsedLedger$WorldState;)V"⟩,
  ⟨"EndorsedLedger$Run", "readKey", "(LEndorsedLedger$WorldState;)V"⟩,
  ⟨"EndorsedLedger$Run", "addUp", "(LEndorsedLedger$WorldState;)V"⟩,
  ⟨"EndorsedLedger$Run", "push", "(I)V"⟩,
  ⟨"EndorsedLedger$Run", "pop", "()I"⟩,
  ⟨"EndorsedLedger$Run", "popKey", "()I"⟩,
  ⟨"EndorsedLedger$Result", "<init>", "()V"⟩,
  ⟨"EndorsedLedger$Result", "clear", "()V"⟩,
  ⟨"EndorsedLedger$Result", "become", "(LEndorsedLedger$Result;)V"⟩,
  ⟨"EndorsedLedger$Result", "isSame", "(LEndorsedLedger$Result;)Z"⟩,
  ⟨"EndorsedLedger$Result", "read", "(III)V"⟩,
  ⟨"EndorsedLedger$Result", "write", "(III)V"⟩,
  ⟨"EndorsedLedger$Result", "readCount", "()I"⟩,
  ⟨"EndorsedLedger$Result", "writtenCount", "()I"⟩,
  ⟨"EndorsedLedger$Result", "countOtherThan", "(II)I"⟩,
  ⟨"EndorsedLedger$Result", "readsHold", "(LEndorsedLedger$WorldState;)Z"⟩,
  ⟨"EndorsedLedger$Result", "rangesHold", "(LEndorsedLedger$WorldState;)Z"⟩,
  ⟨"EndorsedLedger$Result", "versionsHold", "(ILEndorsedLedger$WorldState;)Z"⟩,
  ⟨"EndorsedLedger$Result", "writeTo", "(LEndorsedLedger$WorldState;I)V"⟩,
  ⟨"EndorsedLedger$Transaction", "<init>", "()V"⟩,
  ⟨"EndorsedLedger$Transaction", "isEndorsedBy", "(I)Z"⟩,
  ⟨"EndorsedLedger$Transaction", "hasResult", "()Z"⟩,
  ⟨"EndorsedLedger$Block", "<init>", "()V"⟩,
  ⟨"EndorsedLedger$Block", "fill", "([III)V"⟩,
  ⟨"EndorsedLedger$Block", "transactionAt", "(I)I"⟩,
  ⟨"EndorsedLedger$Block", "hasAmongFirst", "(II)Z"⟩,
  ⟨"EndorsedLedger$BlockList", "<init>", "()V"⟩,
  ⟨"EndorsedLedger$BlockList", "add", "(I)V"⟩,
  ⟨"EndorsedLedger$BlockList", "sameAtBeginning", "(LEndorsedLedger$BlockList;)I"⟩,
  ⟨"EndorsedLedger$BlockList", "becomeFirst", "(LEndorsedLedger$BlockList;I)V"⟩,
  ⟨"EndorsedLedger$Orderer", "<init>", "()V"⟩,
  ⟨"EndorsedLedger$WorldState", "<init>", "()V"⟩,
  ⟨"EndorsedLedger$WorldState", "become", "(LEndorsedLedger$WorldState;)V"⟩,
  ⟨"EndorsedLedger$Peer", "<init>", "()V"⟩,
  ⟨"EndorsedLedger$Peer", "finishBlock", "()V"⟩,
  ⟨"EndorsedLedgerModel", "<init>", "()V"⟩,
  ⟨"EndorsedLedgerModel", "within", "(III)Z"⟩,
  ⟨"EndorsedLedgerModel", "code", "(III)Z"⟩,
  ⟨"EndorsedLedgerModel", "policy", "(III)Z"⟩,
  ⟨"EndorsedLedgerModel", "fulfils", "(II)Z"⟩,
  ⟨"EndorsedLedgerModel", "go", "(I)V"⟩,
  ⟨"EndorsedLedgerModel", "flagOf", "(I)I"⟩,
  ⟨"EndorsedLedgerModel", "pop", "()I"⟩,
  ⟨"EndorsedLedgerModel", "push", "(I)V"⟩,
  ⟨"EndorsedLedgerModel", "run", "(II)V"⟩,
  ⟨"EndorsedLedgerModel", "reckon", "(II)V"⟩,
  ⟨"EndorsedLedgerModel", "touch", "(I)V"⟩,
  ⟨"EndorsedLedgerModel", "range", "(II)V"⟩,
  ⟨"EndorsedLedgerModel", "agrees", "(I)Z"⟩,
  ⟨"EndorsedLedgerModel", "keep", "(I)V"⟩,
  ⟨"EndorsedLedgerModel", "there", "(I)Z"⟩,
  ⟨"EndorsedLedgerModel", "upright", "(I)Z"⟩,
  ⟨"EndorsedLedgerModel", "propose", "(II)I"⟩,
  ⟨"EndorsedLedgerModel", "endorse", "(II)I"⟩,
  ⟨"EndorsedLedgerModel", "submit", "(I)Z"⟩,
  ⟨"EndorsedLedgerModel", "orderer", "(I)Z"⟩,
  ⟨"EndorsedLedgerModel", "last", "(I)I"⟩,
  ⟨"EndorsedLedgerModel", "newer", "(II)Z"⟩,
  ⟨"EndorsedLedgerModel", "elect", "(I)I"⟩,
  ⟨"EndorsedLedgerModel", "cut", "(I)I"⟩,
  ⟨"EndorsedLedgerModel", "copy", "(II)I"⟩,
  ⟨"EndorsedLedgerModel", "power", "(IZ)I"⟩,
  ⟨"EndorsedLedgerModel", "deliver", "(I)I"⟩,
  ⟨"EndorsedLedgerModel", "tear", "(I)Z"⟩,
  ⟨"EndorsedLedgerModel", "transaction", "(II)I"⟩,
  ⟨"EndorsedLedgerModel", "access", "(III)I"⟩,
  ⟨"EndorsedLedgerModel", "state", "(III)I"⟩,
  ⟨"EndorsedLedgerModel", "flag", "(III)I"⟩,
  ⟨"EndorsedLedgerModel", "at", "(II)I"⟩,
  ⟨"EndorsedLedgerModel", "chain", "(II)I"⟩,
  ⟨"EndorsedLedgerModel", "log", "(III)I"⟩,
  ⟨"EndorsedLedgerModel", "about", "(I)I"⟩,
  ⟨"EndorsedLedgerLaw", "law", "([I)Z"⟩]
def mY (j : Nat) : MethodName := mYl.getD j ⟨"", "", ""⟩
def mBl : List ByteArray := [prog_1_method_1_code, prog_1_method_2_code, prog_1_method_3_code, prog_1_method_4_code, prog_1_method_5_code, prog_1_method_6_code, prog_1_method_7_code, prog_1_method_8_code, prog_1_method_9_code, prog_1_method_10_code, prog_1_method_11_code, prog_1_method_12_code, prog_1_method_13_code, prog_1_method_14_code, prog_1_method_15_code, prog_1_method_16_code, prog_1_method_17_code, prog_1_method_18_code, prog_1_method_19_code, prog_1_method_20_code, prog_1_method_21_code, prog_1_method_22_code, prog_1_method_23_code, prog_1_method_24_code, prog_1_method_25_code, prog_1_method_26_code, prog_1_method_27_code, prog_1_method_28_code, prog_1_method_29_code, prog_1_method_30_code, prog_1_method_31_code, prog_1_method_32_code, prog_1_method_33_code, prog_1_method_34_code, prog_1_method_35_code, prog_1_method_36_code, prog_1_method_37_code, prog_1_method_38_code, prog_1_method_39_code, prog_6_method_1_code, prog_6_method_2_code, prog_6_method_3_code, prog_6_method_4_code, prog_6_method_5_code, prog_6_method_6_code, prog_6_method_7_code, prog_8_method_1_code, prog_8_method_2_code, prog_8_method_3_code, prog_8_method_4_code, prog_8_method_5_code, prog_8_method_6_code, prog_8_method_7_code, prog_8_method_8_code, prog_8_method_9_code, prog_8_method_10_code, prog_8_method_11_code, prog_7_method_1_code, prog_7_method_2_code, prog_7_method_3_code, prog_7_method_4_code, prog_7_method_5_code, prog_7_method_6_code, prog_7_method_7_code, prog_7_method_8_code, prog_7_method_9_code, prog_7_method_10_code, prog_7_method_11_code, prog_7_method_12_code, prog_7_method_13_code, prog_9_method_1_code, prog_9_method_2_code, prog_9_method_3_code, prog_2_method_1_code, prog_2_method_2_code, prog_2_method_3_code, prog_2_method_4_code, prog_3_method_1_code, prog_3_method_2_code, prog_3_method_3_code, prog_3_method_4_code, prog_4_method_1_code, prog_10_method_1_code, prog_10_method_2_code, prog_5_method_1_code, prog_5_method_2_code, prog_12_method_1_code, prog_12_method_2_code, prog_12_method_3_code, prog_12_method_4_code, prog_12_method_5_code, prog_12_method_6_code, prog_12_method_7_code, prog_12_method_8_code, prog_12_method_9_code, prog_12_method_10_code, prog_12_method_11_code, prog_12_method_12_code, prog_12_method_13_code, prog_12_method_14_code, prog_12_method_15_code, prog_12_method_16_code, prog_12_method_17_code, prog_12_method_18_code, prog_12_method_19_code, prog_12_method_20_code, prog_12_method_21_code, prog_12_method_22_code, prog_12_method_23_code, prog_12_method_24_code, prog_12_method_25_code, prog_12_method_26_code, prog_12_method_27_code, prog_12_method_28_code, prog_12_method_29_code, prog_12_method_30_code, prog_12_method_31_code, prog_12_method_32_code, prog_12_method_33_code, prog_12_method_34_code, prog_12_method_35_code, prog_12_method_36_code, prog_12_method_37_code, code]
def mB (j : Nat) : ByteArray := mBl.getD j ⟨#[]⟩
def mLl : List Nat := [2, 4, 4, 3, 4, 2, 4, 4, 5, 3, 2, 2, 4, 5, 4, 4, 4, 5, 2, 2, 2, 2, 3, 4, 5, 2, 3, 2, 3, 5, 6, 3, 3, 4, 2, 2, 8, 6, 6, 1, 3, 4, 5, 5, 2, 2, 1, 5, 5, 4, 2, 4, 3, 6, 2, 1, 1, 1, 2, 2, 3, 4, 4, 1, 1, 5, 2, 2, 5, 5, 1, 2, 1, 1, 4, 2, 4, 1, 2, 4, 3, 1, 1, 2, 1, 1, 1, 3, 4, 7, 7, 7, 6, 1, 2, 7, 5, 5, 6, 5, 4, 2, 2, 3, 3, 2, 2, 2, 3, 5, 4, 9, 5, 4, 2, 6, 5, 4, 4, 3, 3, 5, 5, 4]
def mL (j : Nat) : Nat := mLl.getD j 0
def mRl : List (Option FieldType) := [none, (some FieldType.boolean), (some FieldType.boolean), (some FieldType.int), (some FieldType.int), (some FieldType.boolean), (some FieldType.int), (some FieldType.int), (some FieldType.int), (some FieldType.int), (some FieldType.int), (some FieldType.boolean), (some FieldType.int), (some FieldType.int), (some FieldType.int), (some FieldType.int), (some FieldType.int), (some FieldType.int), (some FieldType.int), (some FieldType.boolean), (some FieldType.boolean), (some FieldType.boolean), (some FieldType.int), (some FieldType.int), (some FieldType.boolean), (some FieldType.int), (some FieldType.int), none, (some FieldType.int), (some FieldType.int), (some FieldType.boolean), (some FieldType.int), (some FieldType.int), (some FieldType.int), (some FieldType.boolean), (some (FieldType.object "EndorsedLedger$Block")), (some FieldType.int), (some FieldType.int), (some FieldType.boolean), none, (some FieldType.boolean), (some FieldType.boolean), (some FieldType.boolean), (some FieldType.int), none, (some FieldType.boolean), none, (some FieldType.boolean), none, none, none, none, none, none, none, (some FieldType.int), (some FieldType.int), none, none, none, (some FieldType.boolean), none, none, (some FieldType.int), (some FieldType.int), (some FieldType.int), (some FieldType.boolean), (some FieldType.boolean), (some FieldType.boolean), none, none, (some FieldType.boolean), (some FieldType.boolean), none, none, (some FieldType.int), (some FieldType.boolean), none, none, (some FieldType.int), none, none, none, none, none, none, none, (some FieldType.boolean), (some FieldType.boolean), (some FieldType.boolean), (some FieldType.boolean), none, (some FieldType.int), (some FieldType.int), none, none, none, none, none, (some FieldType.boolean), none, (some FieldType.boolean), (some FieldType.boolean), (some FieldType.int), (some FieldType.int), (some FieldType.boolean), (some FieldType.boolean), (some FieldType.int), (some FieldType.boolean), (some FieldType.int), (some FieldType.int), (some FieldType.int), (some FieldType.int), (some FieldType.int), (some FieldType.boolean), (some FieldType.int), (some FieldType.int), (some FieldType.int), (some FieldType.int), (some FieldType.int), (some FieldType.int), (some FieldType.int), (some FieldType.int), some .boolean]
def mR (j : Nat) : Option FieldType := mRl.getD j none
def mKl : List Nat := [4, 2, 3, 2, 7, 2, 4, 3, 3, 7, 5, 4, 3, 2, 3, 3, 3, 3, 2, 1, 2, 2, 1, 3, 2, 1, 1, 1, 2, 2, 1, 1, 6, 5, 3, 1, 4, 3, 2, 1, 1, 2, 2, 1, 1, 1, 3, 6, 5, 2, 2, 4, 3, 3, 1, 1, 2, 2, 1, 1, 1, 1, 1, 2, 2, 1, 2, 2, 1, 1, 3, 1, 1, 1, 1, 2, 1, 1, 1, 1, 1, 2, 1, 1, 2, 2, 1, 1, 2, 2, 1, 3, 2, 1, 1, 4, 2, 3, 2, 1, 1, 1, 2, 2, 5, 2, 1, 1, 2, 3, 2, 2, 2, 4, 3, 2, 2, 4, 4, 1, 2, 2, 2, 8]
def mK (j : Nat) : Nat := mKl.getD j 0
def mQl : List Nat := [66, 22, 48, 21, 136, 21, 68, 49, 71, 145, 100, 63, 44, 21, 42, 42, 42, 42, 22, 0, 21, 21, 0, 45, 21, 0, 26, 26, 49, 25, 0, 0, 123, 100, 42, 0, 73, 48, 23, 26, 0, 21, 24, 0, 0, 0, 46, 112, 88, 21, 21, 65, 40, 40, 0, 0, 20, 26, 0, 26, 0, 0, 0, 24, 24, 0, 24, 24, 0, 0, 46, 0, 0, 26, 26, 21, 0, 26, 0, 26, 26, 46, 26, 26, 46, 47, 26, 0, 22, 22, 0, 51, 26, 0, 0, 70, 21, 46, 21, 0, 0, 0, 22, 22, 96, 21, 0, 0, 21, 43, 21, 21, 22, 77, 43, 22, 22, 77, 77, 0, 22, 22, 22, 167]
def mQ (j : Nat) : Nat := mQl.getD j 0
def mOl : List Nat := [0, 0, 0, 0, 0, 0, 0, 0, 0, 0, 0, 0, 0, 0, 0, 0, 0, 0, 0, 0, 0, 0, 0, 0, 0, 0, 0, 0, 0, 0, 0, 0, 0, 0, 0, 0, 0, 0, 0, 1, 1, 1, 1, 1, 1, 1, 2, 2, 2, 2, 2, 2, 2, 2, 2, 2, 2, 3, 3, 3, 3, 3, 3, 3, 3, 3, 3, 3, 3, 3, 4, 4, 4, 5, 5, 5, 5, 6, 6, 6, 6, 7, 8, 8, 9, 9, 10, 10, 10, 10, 10, 10, 10, 10, 10, 10, 10, 10, 10, 10, 10, 10, 10, 10, 10, 10, 10, 10, 10, 10, 10, 10, 10, 10, 10, 10, 10, 10, 10, 10, 10, 10, 10, 11]
def mO (j : Nat) : Nat := mOl.getD j 0
def mNl : List Nat := [0, 3, 3, 2, 2, 1, 1, 1, 2, 2, 1, 1, 2, 3, 3, 3, 2, 3, 1, 2, 1, 1, 0, 1, 2, 1, 0, 1, 2, 1, 3, 2, 2, 1, 1, 1, 1, 3, 3, 0, 2, 1, 2, 2, 1, 1, 0, 3, 4, 1, 0, 2, 1, 1, 1, 0, 0, 0, 0, 1, 1, 3, 3, 0, 0, 2, 1, 1, 2, 2, 0, 1, 0, 0, 3, 1, 2, 0, 1, 1, 2, 0, 0, 1, 0, 0, 0, 3, 3, 3, 2, 1, 1, 0, 1, 2, 2, 1, 2, 1, 1, 1, 1, 2, 2, 1, 1, 1, 2, 1, 1, 2, 2, 1, 1, 2, 3, 3, 3, 2, 2, 3, 1, 1]
def mN (j : Nat) : Nat := mNl.getD j 0
def mSl : List Bool := [false, false, false, false, false, false, false, false, false, false, false, false, false, false, false, false, false, false, false, true, false, false, false, false, false, false, false, false, true, false, false, false, false, false, false, false, false, false, false, false, false, false, false, false, false, false, false, false, false, false, false, false, false, false, false, false, false, false, false, false, false, false, false, false, false, false, false, false, false, false, false, false, false, false, false, false, false, false, false, false, false, false, false, false, false, false, false, true, false, false, false, false, false, false, false, false, false, false, false, false, false, false, false, false, false, false, false, false, false, false, false, false, false, false, false, false, false, false, false, false, false, false, false, true]
def mS (j : Nat) : Bool := mSl.getD j false
def nM : Nat := 123
def mCl : List Nat := [91, 347, 358, 378, 382, 458, 462, 485, 510, 535, 601, 609, 613, 629, 633, 637, 641, 650, 654, 350, 386, 489, 658, 466, 470, 474, 478, 501, 513, 522, 526, 539, 543, 547, 605, 560, 556, 564, 568, 167, 354, 362, 370, 374, 366, 576, 125, 394, 399, 407, 415, 419, 423, 439, 403, 411, 427, 131, 136, 451, 447, 431, 435, 617, 625, 621, 580, 588, 584, 592, 194, 390, 443, 222, 496, 645, 572, 107, 506, 517, 530, 240, 266, 551, 260, 596, 663, 808, 805, 812, 840, 832, 836, 856, 852, 844, 848, 860, 864, 868, 872, 824, 828, 816, 820, 876, 884, 892, 888, 880, 896, 900, 904, 908, 912, 916, 920, 924, 928, 936, 932, 940, 944]
/-- owner, index, class, field, nest mate?, the place of the word -/
def kFl : List (Nat × Nat × Nat × Nat × Bool × Nat) := [(6, 9, 6, 0, false, 109), (0, 241, 6, 0, true, 0), (6, 15, 6, 1, false, 111), (0, 155, 6, 1, true, 1), (3, 11, 3, 0, false, 137), (0, 214, 3, 0, true, 2), (3, 15, 3, 1, false, 139), (2, 94, 3, 1, true, 3), (0, 208, 3, 1, true, 4), (2, 9, 2, 0, false, 147), (2, 18, 2, 1, false, 148), (0, 121, 2, 1, true, 5), (2, 22, 2, 2, false, 150), (2, 26, 2, 3, false, 151), (2, 29, 2, 4, false, 152), (1, 9, 1, 0, false, 169), (2, 41, 1, 0, true, 6), (1, 15, 1, 1, false, 171), (2, 44, 1, 1, true, 7), (1, 18, 1, 2, false, 173), (2, 36, 1, 2, true, 8), (1, 22, 1, 3, false, 175), (1, 25, 1, 4, false, 176), (1, 28, 1, 5, false, 177), (4, 7, 4, 0, false, 198), (0, 89, 4, 0, true, 9), (4, 13, 4, 1, false, 200), (0, 92, 4, 1, true, 10), (4, 16, 4, 2, false, 202), (0, 132, 4, 2, true, 11), (4, 19, 4, 3, false, 204), (0, 98, 4, 3, true, 12), (4, 26, 4, 4, false, 206), (0, 117, 4, 4, true, 13), (5, 9, 5, 0, false, 224), (0, 285, 5, 0, true, 14), (5, 15, 5, 1, false, 226), (0, 232, 5, 1, true, 15), (5, 19, 5, 2, false, 228), (0, 244, 5, 2, true, 16), (7, 7, 7, 0, false, 244), (0, 135, 7, 0, true, 17), (7, 13, 7, 1, false, 246), (0, 146, 7, 1, true, 18), (7, 20, 7, 2, false, 248), (0, 152, 7, 2, true, 19), (8, 9, 8, 0, false, 268), (2, 83, 8, 0, true, 20), (3, 36, 8, 0, true, 21), (0, 217, 8, 0, true, 22), (8, 15, 8, 1, false, 272), (2, 91, 8, 1, true, 23), (3, 41, 8, 1, true, 24), (0, 222, 8, 1, true, 25), (8, 18, 8, 2, false, 276), (9, 33, 8, 2, true, 26), (0, 225, 8, 2, true, 27), (9, 9, 9, 0, false, 286), (0, 204, 9, 0, true, 28), (9, 15, 9, 1, false, 288), (0, 197, 9, 1, true, 29), (9, 22, 9, 2, false, 290), (0, 105, 9, 2, true, 30), (9, 26, 9, 3, false, 292), (0, 245, 9, 3, true, 31), (9, 29, 9, 4, false, 294), (0, 235, 9, 4, true, 32), (0, 11, 0, 0, false, 307), (0, 17, 0, 1, false, 308), (0, 21, 0, 2, false, 309), (0, 25, 0, 3, false, 310), (0, 29, 0, 4, false, 311), (0, 34, 0, 5, false, 312), (0, 38, 0, 6, false, 313), (0, 43, 0, 7, false, 314), (0, 47, 0, 8, false, 315), (0, 53, 0, 9, false, 316), (0, 59, 0, 10, false, 317), (0, 66, 0, 11, false, 318), (10, 7, 10, 0, false, 665), (10, 13, 10, 1, false, 666), (10, 16, 10, 2, false, 667), (10, 19, 10, 3, false, 668), (10, 22, 10, 4, false, 669), (10, 25, 10, 5, false, 670), (10, 28, 10, 6, false, 671), (10, 31, 10, 7, false, 672), (10, 34, 10, 8, false, 673), (10, 133, 10, 9, false, 674), (10, 37, 10, 10, false, 675), (10, 40, 10, 11, false, 676), (10, 43, 10, 12, false, 677), (10, 46, 10, 13, false, 678), (10, 50, 10, 14, false, 679), (10, 53, 10, 15, false, 680), (10, 56, 10, 16, false, 681), (10, 59, 10, 17, false, 682), (10, 62, 10, 18, false, 683), (10, 65, 10, 19, false, 684), (10, 68, 10, 20, false, 685), (10, 71, 10, 21, false, 686), (10, 144, 10, 22, false, 687), (10, 147, 10, 23, false, 688), (10, 74, 10, 24, false, 689), (10, 188, 10, 25, false, 690), (10, 200, 10, 26, false, 691), (10, 77, 10, 27, false, 692), (10, 80, 10, 28, false, 693), (10, 83, 10, 29, false, 694), (10, 86, 10, 30, false, 695), (10, 89, 10, 31, false, 696), (10, 92, 10, 32, false, 697), (10, 95, 10, 33, false, 698), (10, 98, 10, 34, false, 699), (10, 102, 10, 35, false, 700), (10, 203, 10, 36, false, 701), (10, 105, 10, 37, false, 702), (10, 108, 10, 38, false, 703), (10, 111, 10, 39, false, 704), (10, 114, 10, 40, false, 705), (10, 117, 10, 41, false, 706), (10, 120, 10, 42, false, 707), (10, 123, 10, 43, false, 708), (10, 126, 10, 44, false, 709)]
def kF (o idx : Nat) : Option (Nat × Nat × Bool) := (kFl.find? (fun q => q.1 == o && q.2.1 == idx)).map (fun q => (q.2.2.1, q.2.2.2.1, q.2.2.2.2.1))
def nWF : List (String × Nat × String × String × String × String) := [("EndorsedLedger", 241, "EndorsedLedger$BlockList", "numbers", "[I", "EndorsedLedger"), ("EndorsedLedger", 155, "EndorsedLedger$BlockList", "length", "I", "EndorsedLedger"), ("EndorsedLedger", 214, "EndorsedLedger$Result", "cells", "[I", "EndorsedLedger"), ("EndorsedLedger$Run", 94, "EndorsedLedger$Result", "ranges", "I", "EndorsedLedger"), ("EndorsedLedger", 208, "EndorsedLedger$Result", "ranges", "I", "EndorsedLedger"), ("EndorsedLedger", 121, "EndorsedLedger$Run", "result", "LEndorsedLedger$Result;", "EndorsedLedger"), ("EndorsedLedger$Run", 41, "EndorsedLedger$Program", "ops", "[I", "EndorsedLedger"), ("EndorsedLedger$Run", 44, "EndorsedLedger$Program", "operands", "[I", "EndorsedLedger"), ("EndorsedLedger$Run", 36, "EndorsedLedger$Program", "length", "I", "EndorsedLedger"), ("EndorsedLedger", 89, "EndorsedLedger$Transaction", "program", "I", "EndorsedLedger"), ("EndorsedLedger", 92, "EndorsedLedger$Transaction", "argument", "I", "EndorsedLedger"), ("EndorsedLedger", 132, "EndorsedLedger$Transaction", "endorsers", "I", "EndorsedLedger"), ("EndorsedLedger", 98, "EndorsedLedger$Transaction", "closed", "Z", "EndorsedLedger"), ("EndorsedLedger", 117, "EndorsedLedger$Transaction", "result", "LEndorsedLedger$Result;", "EndorsedLedger"), ("EndorsedLedger", 285, "EndorsedLedger$Block", "members", "[I", "EndorsedLedger"), ("EndorsedLedger", 232, "EndorsedLedger$Block", "size", "I", "EndorsedLedger"), ("EndorsedLedger", 244, "EndorsedLedger$Block", "term", "I", "EndorsedLedger"), ("EndorsedLedger", 135, "EndorsedLedger$Orderer", "up", "Z", "EndorsedLedger"), ("EndorsedLedger", 146, "EndorsedLedger$Orderer", "term", "I", "EndorsedLedger"), ("EndorsedLedger", 152, "EndorsedLedger$Orderer", "held", "LEndorsedLedger$BlockList;", "EndorsedLedger"), ("EndorsedLedger$Run", 83, "EndorsedLedger$WorldState", "versions", "[I", "EndorsedLedger"), ("EndorsedLedger$Result", 36, "EndorsedLedger$WorldState", "versions", "[I", "EndorsedLedger"), ("EndorsedLedger", 217, "EndorsedLedger$WorldState", "versions", "[I", "EndorsedLedger"), ("EndorsedLedger$Run", 91, "EndorsedLedger$WorldState", "values", "[I", "EndorsedLedger"), ("EndorsedLedger$Result", 41, "EndorsedLedger$WorldState", "values", "[I", "EndorsedLedger"), ("EndorsedLedger", 222, "EndorsedLedger$WorldState", "values", "[I", "EndorsedLedger"), ("EndorsedLedger$Peer", 33, "EndorsedLedger$WorldState", "height", "I", "EndorsedLedger"), ("EndorsedLedger", 225, "EndorsedLedger$WorldState", "height", "I", "EndorsedLedger"), ("EndorsedLedger", 204, "EndorsedLedger$Peer", "up", "Z", "EndorsedLedger"), ("EndorsedLedger", 197, "EndorsedLedger$Peer", "stored", "I", "EndorsedLedger"), ("EndorsedLedger", 105, "EndorsedLedger$Peer", "current", "LEndorsedLedger$WorldState;", "EndorsedLedger"), ("EndorsedLedger", 245, "EndorsedLedger$Peer", "saved", "LEndorsedLedger$WorldState;", "EndorsedLedger"), ("EndorsedLedger", 235, "EndorsedLedger$Peer", "flags", "[I", "EndorsedLedger")]
def nWFi : List Nat := [110, 112, 138, 140, 141, 149, 170, 172, 174, 199, 201, 203, 205, 207, 225, 227, 229, 245, 247, 249, 269, 270, 271, 273, 274, 275, 277, 278, 287, 289, 291, 293, 295]
/-- owner, index, method, how, the places of its words -/
def kMl : List (Nat × Nat × Nat × Nat × Nat × Nat × Nat) := [(0, 1, 0, 6, 92, 0, 0), (0, 52, 77, 5, 0, 106, 0), (0, 65, 46, 5, 1, 124, 0), (0, 70, 39, 5, 2, 166, 0), (0, 71, 70, 5, 3, 193, 0), (0, 72, 73, 5, 4, 221, 0), (0, 73, 81, 5, 5, 239, 0), (0, 74, 84, 5, 6, 259, 0), (0, 75, 19, 1, 348, 349, 0), (0, 79, 40, 3, 7, 353, 1), (0, 82, 41, 3, 8, 361, 2), (0, 86, 42, 3, 9, 369, 4), (0, 95, 20, 0, 383, 385, 6), (0, 102, 71, 3, 10, 389, 7), (0, 109, 47, 3, 11, 393, 8), (0, 113, 72, 3, 12, 442, 20), (0, 122, 60, 3, 13, 446, 21), (0, 128, 59, 3, 14, 450, 22), (0, 138, 23, 0, 463, 465, 23), (0, 142, 26, 0, 475, 477, 26), (0, 149, 21, 0, 486, 488, 27), (0, 158, 0, 8, 490, 0, 0), (0, 164, 74, 3, 15, 495, 28), (0, 168, 27, 0, 498, 500, 29), (0, 172, 78, 3, 16, 505, 30), (0, 175, 28, 1, 511, 512, 0), (0, 179, 29, 0, 519, 521, 32), (0, 182, 80, 3, 17, 529, 34), (0, 186, 31, 0, 536, 538, 35), (0, 190, 32, 0, 540, 542, 36), (0, 194, 34, 0, 602, 604, 50), (0, 200, 36, 0, 553, 555, 39), (0, 205, 63, 3, 18, 616, 51), (0, 211, 64, 3, 19, 624, 53), (0, 228, 35, 0, 557, 559, 40), (0, 238, 75, 3, 20, 644, 54), (0, 248, 22, 0, 655, 657, 55), (0, 251, 24, 0, 467, 469, 24), (0, 255, 25, 0, 471, 473, 25), (0, 259, 0, 7, 479, 0, 0), (0, 262, 0, 9, 502, 0, 0), (0, 268, 79, 3, 21, 516, 31), (0, 271, 30, 0, 523, 525, 33), (0, 275, 33, 0, 544, 546, 37), (0, 278, 83, 3, 22, 550, 38), (0, 281, 37, 0, 561, 563, 41), (0, 288, 69, 3, 23, 591, 48), (0, 292, 85, 3, 24, 595, 49), (0, 295, 38, 0, 565, 567, 42), (0, 298, 45, 3, 25, 575, 44), (0, 301, 66, 3, 26, 579, 45), (0, 305, 67, 3, 27, 587, 47), (0, 308, 76, 3, 28, 571, 43), (1, 3, 0, 6, 168, 0, 0), (1, 31, 44, 0, 363, 365, 3), (1, 35, 43, 0, 371, 373, 5), (2, 3, 0, 6, 126, 0, 0), (2, 17, 57, 5, 29, 130, 0), (2, 33, 58, 3, 30, 135, 0), (2, 47, 48, 0, 396, 398, 9), (2, 51, 54, 0, 400, 402, 10), (2, 55, 49, 0, 404, 406, 11), (2, 58, 50, 0, 412, 414, 13), (2, 61, 55, 0, 408, 410, 12), (2, 65, 51, 0, 416, 418, 14), (2, 69, 52, 0, 420, 422, 15), (2, 73, 56, 0, 424, 426, 16), (2, 76, 62, 3, 31, 434, 18), (2, 80, 53, 0, 436, 438, 19), (2, 88, 61, 3, 32, 430, 17), (3, 3, 0, 6, 132, 0, 0), (3, 19, 58, 0, 133, 135, 0), (3, 22, 0, 9, 452, 0, 0), (3, 28, 65, 0, 618, 620, 52), (3, 32, 68, 0, 581, 583, 46), (4, 1, 0, 6, 195, 0, 0), (4, 25, 57, 5, 33, 130, 0), (5, 3, 0, 6, 223, 0, 0), (5, 22, 0, 9, 497, 0, 0), (5, 28, 19, 4, 34, 349, 0), (6, 3, 0, 6, 108, 0, 0), (6, 19, 0, 8, 518, 0, 0), (6, 25, 0, 9, 531, 0, 0), (7, 1, 0, 6, 241, 0, 0), (7, 19, 77, 5, 35, 106, 0), (8, 3, 0, 6, 267, 0, 0), (8, 22, 0, 9, 552, 0, 0), (9, 3, 0, 6, 261, 0, 0), (9, 21, 82, 5, 36, 265, 0), (9, 36, 83, 3, 37, 550, 38), (10, 1, 0, 6, 664, 0, 0), (10, 129, 87, 1, 806, 807, 0), (10, 136, 92, 0, 833, 835, 59), (10, 140, 90, 0, 837, 839, 60), (10, 151, 96, 0, 845, 847, 62), (10, 155, 93, 0, 853, 855, 64), (10, 159, 97, 0, 857, 859, 65), (10, 163, 94, 0, 849, 851, 63), (10, 166, 98, 0, 861, 863, 66), (10, 169, 101, 0, 821, 823, 56), (10, 173, 102, 0, 825, 827, 57), (10, 176, 91, 0, 829, 831, 58), (10, 179, 95, 0, 841, 843, 61), (10, 182, 99, 0, 865, 867, 67), (10, 185, 100, 0, 869, 871, 68), (10, 191, 107, 0, 889, 891, 71), (10, 194, 106, 0, 881, 883, 69), (10, 197, 108, 0, 885, 887, 70), (10, 206, 119, 0, 933, 935, 72), (11, 9, 0, 2, 89, 90, 0), (11, 12, 86, 2, 661, 662, 0), (11, 13, 1, 0, 344, 345, 346), (11, 17, 88, 0, 802, 803, 804), (11, 18, 2, 0, 355, 356, 357), (11, 21, 89, 0, 809, 810, 811), (11, 22, 3, 0, 375, 376, 377), (11, 26, 103, 0, 813, 814, 815), (11, 27, 4, 0, 379, 380, 381), (11, 30, 104, 0, 817, 818, 819), (11, 31, 5, 0, 455, 456, 457), (11, 35, 105, 0, 873, 874, 875), (11, 36, 6, 0, 459, 460, 461), (11, 40, 109, 0, 877, 878, 879), (11, 41, 7, 0, 482, 483, 484), (11, 44, 110, 0, 893, 894, 895), (11, 45, 8, 0, 507, 508, 509), (11, 48, 111, 0, 897, 898, 899), (11, 49, 9, 0, 532, 533, 534), (11, 53, 112, 0, 901, 902, 903), (11, 54, 10, 0, 598, 599, 600), (11, 57, 113, 0, 905, 906, 907), (11, 58, 11, 0, 606, 607, 608), (11, 61, 114, 0, 909, 910, 911), (11, 62, 12, 0, 610, 611, 612), (11, 65, 115, 0, 913, 914, 915), (11, 66, 13, 0, 626, 627, 628), (11, 70, 116, 0, 917, 918, 919), (11, 71, 14, 0, 630, 631, 632), (11, 74, 117, 0, 921, 922, 923), (11, 75, 15, 0, 634, 635, 636), (11, 78, 118, 0, 925, 926, 927), (11, 79, 16, 0, 638, 639, 640), (11, 82, 120, 0, 929, 930, 931), (11, 83, 17, 0, 647, 648, 649), (11, 86, 121, 0, 937, 938, 939), (11, 87, 18, 0, 651, 652, 653), (11, 90, 122, 0, 941, 942, 943)]
def kM (o idx : Nat) : Option (Nat × Nat) := (kMl.find? (fun q => q.1 == o && q.2.1 == idx)).map (fun q => (q.2.2.1, q.2.2.2.1))
def nWM : List (String × Nat × MethodName × String) := [("EndorsedLedger", 52, ⟨"EndorsedLedger$BlockList", "<init>", "()V"⟩, "EndorsedLedger"), ("EndorsedLedger", 65, ⟨"EndorsedLedger$Run", "<init>", "()V"⟩, "EndorsedLedger"), ("EndorsedLedger", 70, ⟨"EndorsedLedger$Program", "<init>", "()V"⟩, "EndorsedLedger"), ("EndorsedLedger", 71, ⟨"EndorsedLedger$Transaction", "<init>", "()V"⟩, "EndorsedLedger"), ("EndorsedLedger", 72, ⟨"EndorsedLedger$Block", "<init>", "()V"⟩, "EndorsedLedger"), ("EndorsedLedger", 73, ⟨"EndorsedLedger$Orderer", "<init>", "()V"⟩, "EndorsedLedger"), ("EndorsedLedger", 74, ⟨"EndorsedLedger$Peer", "<init>", "()V"⟩, "EndorsedLedger"), ("EndorsedLedger", 79, ⟨"EndorsedLedger$Program", "addInstruction", "(II)Z"⟩, "EndorsedLedger"), ("EndorsedLedger", 82, ⟨"EndorsedLedger$Program", "addLeaf", "(I)Z"⟩, "EndorsedLedger"), ("EndorsedLedger", 86, ⟨"EndorsedLedger$Program", "joinRules", "(II)Z"⟩, "EndorsedLedger"), ("EndorsedLedger", 102, ⟨"EndorsedLedger$Transaction", "isEndorsedBy", "(I)Z"⟩, "EndorsedLedger"), ("EndorsedLedger", 109, ⟨"EndorsedLedger$Run", "succeeds", "(LEndorsedLedger$Program;ILEndorsedLedger$WorldState;)Z"⟩, "EndorsedLedger"), ("EndorsedLedger", 113, ⟨"EndorsedLedger$Transaction", "hasResult", "()Z"⟩, "EndorsedLedger"), ("EndorsedLedger", 122, ⟨"EndorsedLedger$Result", "isSame", "(LEndorsedLedger$Result;)Z"⟩, "EndorsedLedger"), ("EndorsedLedger", 128, ⟨"EndorsedLedger$Result", "become", "(LEndorsedLedger$Result;)V"⟩, "EndorsedLedger"), ("EndorsedLedger", 164, ⟨"EndorsedLedger$Block", "fill", "([III)V"⟩, "EndorsedLedger"), ("EndorsedLedger", 172, ⟨"EndorsedLedger$BlockList", "add", "(I)V"⟩, "EndorsedLedger"), ("EndorsedLedger", 182, ⟨"EndorsedLedger$BlockList", "becomeFirst", "(LEndorsedLedger$BlockList;I)V"⟩, "EndorsedLedger"), ("EndorsedLedger", 205, ⟨"EndorsedLedger$Result", "readCount", "()I"⟩, "EndorsedLedger"), ("EndorsedLedger", 211, ⟨"EndorsedLedger$Result", "writtenCount", "()I"⟩, "EndorsedLedger"), ("EndorsedLedger", 238, ⟨"EndorsedLedger$Block", "transactionAt", "(I)I"⟩, "EndorsedLedger"), ("EndorsedLedger", 268, ⟨"EndorsedLedger$BlockList", "sameAtBeginning", "(LEndorsedLedger$BlockList;)I"⟩, "EndorsedLedger"), ("EndorsedLedger", 278, ⟨"EndorsedLedger$WorldState", "become", "(LEndorsedLedger$WorldState;)V"⟩, "EndorsedLedger"), ("EndorsedLedger", 288, ⟨"EndorsedLedger$Result", "writeTo", "(LEndorsedLedger$WorldState;I)V"⟩, "EndorsedLedger"), ("EndorsedLedger", 292, ⟨"EndorsedLedger$Peer", "finishBlock", "()V"⟩, "EndorsedLedger"), ("EndorsedLedger", 298, ⟨"EndorsedLedger$Program", "isMetBy", "(I)Z"⟩, "EndorsedLedger"), ("EndorsedLedger", 301, ⟨"EndorsedLedger$Result", "readsHold", "(LEndorsedLedger$WorldState;)Z"⟩, "EndorsedLedger"), ("EndorsedLedger", 305, ⟨"EndorsedLedger$Result", "rangesHold", "(LEndorsedLedger$WorldState;)Z"⟩, "EndorsedLedger"), ("EndorsedLedger", 308, ⟨"EndorsedLedger$Block", "hasAmongFirst", "(II)Z"⟩, "EndorsedLedger"), ("EndorsedLedger$Run", 17, ⟨"EndorsedLedger$Result", "<init>", "()V"⟩, "EndorsedLedger"), ("EndorsedLedger$Run", 33, ⟨"EndorsedLedger$Result", "clear", "()V"⟩, "EndorsedLedger"), ("EndorsedLedger$Run", 76, ⟨"EndorsedLedger$Result", "write", "(III)V"⟩, "EndorsedLedger"), ("EndorsedLedger$Run", 88, ⟨"EndorsedLedger$Result", "read", "(III)V"⟩, "EndorsedLedger"), ("EndorsedLedger$Transaction", 25, ⟨"EndorsedLedger$Result", "<init>", "()V"⟩, "EndorsedLedger"), ("EndorsedLedger$Block", 28, ⟨"EndorsedLedger", "within", "(II)Z"⟩, "EndorsedLedger"), ("EndorsedLedger$Orderer", 19, ⟨"EndorsedLedger$BlockList", "<init>", "()V"⟩, "EndorsedLedger"), ("EndorsedLedger$Peer", 21, ⟨"EndorsedLedger$WorldState", "<init>", "()V"⟩, "EndorsedLedger"), ("EndorsedLedger$Peer", 36, ⟨"EndorsedLedger$WorldState", "become", "(LEndorsedLedger$WorldState;)V"⟩, "EndorsedLedger")]
def nWMi : List Nat := [105, 123, 165, 192, 220, 238, 258, 351, 359, 367, 387, 391, 440, 444, 448, 493, 503, 527, 614, 622, 642, 514, 548, 589, 593, 573, 577, 585, 569, 129, 395, 432, 428, 197, 646, 243, 264, 597]
def kCl : List (Nat × Nat × Nat × Nat) := [(0, 9, 1, 95), (0, 15, 4, 97), (0, 32, 5, 99), (0, 41, 7, 101), (0, 50, 6, 103), (0, 57, 9, 119), (0, 63, 2, 121), (2, 15, 3, 127), (4, 23, 3, 196), (7, 17, 6, 242), (9, 19, 8, 262), (11, 7, 0, 87), (11, 10, 10, 659)]
def kC (o idx : Nat) : Option Nat := (kCl.find? (fun q => q.1 == o && q.2.1 == idx)).map (fun q => q.2.2.1)
def kAl : List (Nat × Nat × Nat × Nat) := [(0, 9, 2, 95), (0, 15, 3, 97), (0, 32, 4, 99), (0, 41, 5, 101), (0, 57, 6, 119)]
def kA (o idx : Nat) : Option Nat := (kAl.find? (fun q => q.1 == o && q.2.1 == idx)).map (fun q => q.2.2.1)
def nAi : List Nat := [96, 98, 100, 102, 120]
