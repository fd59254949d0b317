/-! THE SHAPE of the memory behind both constructors: cell 0 is the script, 1 the ledger, 371 the reference. (kind, slots): kinds are the classes' numbers, 100 ints, 101 booleans, 102 .. arrays of references -/
def shPr : List (Nat × Nat) := [(1, 6), (100, 12), (100, 12), (100, 9)]
def shTx : List (Nat × Nat) := [(4, 5), (3, 2), (100, 80)]
def shBl : List (Nat × Nat) := [(5, 3), (100, 4)]
def shOr : List (Nat × Nat) := [(7, 3), (6, 2), (100, 40)]
def shPe : List (Nat × Nat) := [(9, 5), (8, 3), (100, 16), (100, 16), (8, 3), (100, 16), (100, 16), (100, 160)]
def shL0 : List (Nat × Nat) := [(0, 12), (102, 4), (103, 60), (100, 20), (104, 60), (105, 3), (6, 2), (100, 40), (106, 4), (2, 5), (100, 8), (3, 2), (100, 80)]
def shMo : List (Nat × Nat) := [(10, 45), (100, 4), (100, 48), (100, 48), (100, 4), (100, 36), (100, 36), (100, 144), (100, 36), (100, 4), (100, 61), (100, 61), (100, 61), (101, 61), (100, 976), (100, 976), (100, 976), (100, 61), (100, 122), (100, 122), (100, 1952), (100, 8), (100, 20), (100, 240), (100, 60), (100, 60), (101, 3), (100, 3), (100, 120), (100, 3), (100, 40), (101, 4), (100, 4), (100, 4), (100, 16), (100, 16), (100, 4), (101, 60), (101, 9)]
def shRep (n : Nat) (l : List (Nat × Nat)) : List (Nat × Nat) := (List.replicate n l).flatten
def SHt : List (Nat × Nat) := shL0 ++ (shRep 4 shPr ++ (shRep 60 shTx ++ (shRep 60 shBl ++ (shRep 3 shOr ++ (shRep 4 shPe ++ shMo)))))
def SH (LS : Nat) : List (Nat × Nat) := (99, LS) :: SHt
theorem SH_at {LS a : Nat} {q : Nat × Nat} (h : SHt[a]? = some q) : (SH LS)[a + 1]? = some q := h
