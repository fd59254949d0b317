section GM2
variable {LS : Nat} {rm : Nat → Nat → Option Nat} {i j pc pc' tgt : Nat} {L L' st rest : List Value} {im : Nat → Nat → Int32} {P : Option Value → (Nat → Nat → Int32) → Prop} {a ci k n : Nat} {nb : Bool}
theorem g_iincv {j : Nat} {n : Int} {x y : Int32} (hd : en_d i pc (.iinc j n) 3 pc') (hg : L[j]? = some (.int x)) (hn : j < mL i) (hy : x + Int32.ofInt n = y) (hl : L.set j (.int y) = L') (kk : Gm LS rm i pc' L' st im P) : Gm LS rm i pc L st im P := by
  subst hy
  exact g_iinc hd hg hn hl kk
theorem g_L (h : L = L') (kk : Gm LS rm i pc L' st im P) : Gm LS rm i pc L st im P := h ▸ kk
theorem inc_1 (n : Nat) : nI n + Int32.ofInt 1 = nI (n + 1) := nI_1 n
theorem inc_m1 {n : Nat} (h : 0 < n) : nI n + Int32.ofInt (-1) = nI (n - 1) := by
  obtain ⟨m, rfl⟩ : ∃ m, n = m + 1 := ⟨n - 1, by omega⟩
  rw [show Int32.ofInt (-1) = -1 from by decide, pk_m1]
  rfl
/-- copying ints among arrays, by natural numbers -/
theorem g_copyn {a a1 n0 n1 sp dp x : Nat} (hd : en_dn i pc 9 pc') (hrest : (rest.map fun v => v.category).sum ≤ 8) (hs0 : (SH LS)[a]? = some (100, n0)) (hs1 : (SH LS)[a1]? = some (100, n1)) (h0 : n0 < 100000) (h1 : n1 < 100000) (q4 : sp + x ≤ n0) (q5 : dp + x ≤ n1)
    (kk : Gm LS rm i pc' L rest (en_ur im a1 (va_cpy (im a) (im a1) sp dp x)) P) : Gm LS rm i pc L (.int (nI x) :: .int (nI dp) :: .ref a1 :: .int (nI sp) :: .ref a :: rest) im P := by
  have e1 : (nI sp).toNatClampNeg = sp := nI_clamp (by omega)
  have e2 : (nI dp).toNatClampNeg = dp := nI_clamp (by omega)
  have e3 : (nI x).toNatClampNeg = x := nI_clamp (by omega)
  refine g_copy hd hrest hs0 hs1 (nI_pos (by omega)) (nI_pos (by omega)) (nI_pos (by omega)) (by rw [e1, e3]; exact q4) (by rw [e2, e3]; exact q5) ?_
  rw [e1, e2, e3]
  exact kk
end GM2
