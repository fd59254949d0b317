/-! THE LAW, part 1: what the script is stands still *-/
theorem en_keep {nc ns i pc LS0 : Nat} {L st : List Value} {M : en_M} {P : Option Value → en_M → Prop} (hs : M.1[0]? = some (99, LS0)) (kk : en_Go nc ns i pc L st M (fun r M' => (∀ k, k < LS0 → M'.2.1 0 k = M.2.1 0 k) → P r M')) : en_Go nc ns i pc L st M P := by
  intro p l e R s m args below meth c Q D cA b0 bS LS z0 y0 xs ok hr H locs cells slots ls hat hL
  have hl : LS0 = LS := by
    have := hs.symm.trans hat.2.2.2.2.1
    simp only [Option.some.injEq, Prod.mk.injEq, true_and] at this
    exact this
  subst hl
  exact kk p l e R s m args below meth c Q D cA b0 bS LS0 z0 y0 xs ok (fun r M' pc' ls' H' locs' cells' slots' ins hP a1 a2 a3 a4 hat' => hr r M' pc' ls' H' locs' cells' slots' ins (hP (fun k hk => (hat'.2.2.2.2.2 k hk).trans (hat.2.2.2.2.2 k hk).symm)) a1 a2 a3 a4 hat') H locs cells slots ls hat hL
section KEEP
variable {LS : Nat} {rm : Nat → Nat → Option Nat} {i pc pc' : Nat} {L st : List Value} {im : Nat → Nat → Int32} {P : Option Value → (Nat → Nat → Int32) → Prop}
theorem g_keep (kk : Gm LS rm i pc L st im (fun r im' => (∀ k, k < LS → im' 0 k = im 0 k) → P r im')) : Gm LS rm i pc L st im P := by
  refine en_keep (LS0 := LS) rfl (en_mono (fun r M' hM => ?_) kk)
  obtain ⟨im', e, hp⟩ := hM
  intro hk
  subst e
  exact ⟨im', rfl, hp hk⟩
theorem g_sal {q : Nat} {v : Int32} (hd : en_d i pc .iaload 1 pc') (hq : q < LS) (hn : LS < 2 ^ 31) (hv : im 0 q = v) (kk : Gm LS rm i pc' L (.int v :: st) im P) : Gm LS rm i pc L (.int (nI q) :: .ref 0 :: st) im P := by
  refine en_sald (M := (SH LS, im, rm)) (n := LS) hd rfl (vp_in_nI hq hn) ?_
  rw [nI_clamp (by omega)]
  show Gm LS rm i pc' L (.int (im 0 q) :: st) im P
  rw [hv]
  exact kk
theorem g_slen (hd : en_d i pc .arraylength 1 pc') (kk : Gm LS rm i pc' L (.int (nI LS) :: st) im P) : Gm LS rm i pc L (.ref 0 :: st) im P := en_slen (M := (SH LS, im, rm)) (n := LS) hd rfl kk
end KEEP
