/-! CONSTRUCTORS: the rules where cells are made: the shape is the beginning of SH, b cells long; B cells stand when the method returns *-/
def sl (LS b : Nat) : Nat := (((SH LS).take b).map Prod.snd).sum
theorem SH_len {LS : Nat} : (SH LS).length = 410 := by
  show SHt.length + 1 = 410
  rw [show SHt.length = 409 by decide +kernel]
theorem tk_len {LS b : Nat} (h : b ≤ 410) : ((SH LS).take b).length = b := by
  rw [List.length_take, SH_len]
  omega
theorem tk_at {LS b c : Nat} (h : c < b) : ((SH LS).take b)[c]? = (SH LS)[c]? := by rw [List.getElem?_take, if_pos h]
theorem tk_s {LS b : Nat} {q : Nat × Nat} (h : (SH LS)[b]? = some q) : (SH LS).take b ++ [q] = (SH LS).take (b + 1) := by
  rw [List.take_succ, h]
  rfl
theorem tk_all {LS : Nat} : (SH LS).take 410 = SH LS := List.take_of_length_le (by rw [SH_len]; exact Nat.le_refl _)
theorem sl_s {LS b : Nat} {q : Nat × Nat} (h : (SH LS)[b]? = some q) : sl LS (b + 1) = sl LS b + q.2 := by
  unfold sl
  rw [← tk_s h]
  simp
theorem sl_1 {LS b : Nat} : sl LS b ≤ sl LS (b + 1) := by
  unfold sl
  rw [List.take_succ]
  simp
theorem sl_le {LS b c : Nat} (h : b ≤ c) : sl LS b ≤ sl LS c := by
  induction c with
  | zero =>
    have : b = 0 := by omega
    subst this
    exact Nat.le_refl _
  | succ c ih =>
    by_cases z : b = c + 1
    · subst z; exact Nat.le_refl _
    · exact Nat.le_trans (ih (by omega)) sl_1
def Cn (LS B i pc : Nat) (L st : List Value) (b : Nat) (im : Nat → Nat → Int32) (rm : Nat → Nat → Option Nat) (P : Option Value → (Nat → Nat → Int32) → (Nat → Nat → Option Nat) → Prop) : Prop :=
  en_Go B (sl LS B) i pc L st ((SH LS).take b, im, rm) (fun r M' => ∃ im' rm', M' = ((SH LS).take B, im', rm') ∧ P r im' rm')
section CN
variable {LS B i j pc pc' tgt b : Nat} {L L' st rest : List Value} {im : Nat → Nat → Int32} {rm : Nat → Nat → Option Nat} {P : Option Value → (Nat → Nat → Int32) → (Nat → Nat → Option Nat) → Prop} {a ci k n : Nat} {nb : Bool}
theorem c_iconst {n : Int} {v : Int32} (hd : en_d i pc (.iconst n) 1 pc') (hv : Int32.ofInt n = v) (kk : Cn LS B i pc' L (.int v :: st) b im rm P) : Cn LS B i pc L st b im rm P := en_iconst hd hv kk
theorem c_bipush {n : Int} {v : Int32} (hd : en_d i pc (.bipush n) 2 pc') (hv : (Int8.ofInt n).toInt32 = v) (kk : Cn LS B i pc' L (.int v :: st) b im rm P) : Cn LS B i pc L st b im rm P := en_bipush hd hv kk
theorem c_sipush {n : Int} {v : Int32} (hd : en_d i pc (.sipush n) 3 pc') (hv : (Int16.ofInt n).toInt32 = v) (kk : Cn LS B i pc' L (.int v :: st) b im rm P) : Cn LS B i pc L st b im rm P := en_sipush hd hv kk
theorem c_iload_n {j : Fin 4} {x : Int32} (hd : en_d i pc (.iload_n j) 1 pc') (hl : L[j.val]? = some (.int x)) (kk : Cn LS B i pc' L (.int x :: st) b im rm P) : Cn LS B i pc L st b im rm P := en_iload_n hd hl kk
theorem c_aload_n {j : Fin 4} {x : Nat} (hd : en_d i pc (.aload_n j) 1 pc') (hl : L[j.val]? = some (.ref x)) (kk : Cn LS B i pc' L (.ref x :: st) b im rm P) : Cn LS B i pc L st b im rm P := en_aload_n hd hl kk
theorem c_istore_n {j : Fin 4} {x : Int32} (hd : en_d i pc (.istore_n j) 1 pc') (hn : j.val < mL i) (hl : L.set j.val (.int x) = L') (kk : Cn LS B i pc' L' st b im rm P) : Cn LS B i pc L (.int x :: st) b im rm P := en_istore_n hd hn hl kk
theorem c_astore_n {j : Fin 4} {x : Nat} (hd : en_d i pc (.astore_n j) 1 pc') (hn : j.val < mL i) (hl : L.set j.val (.ref x) = L') (kk : Cn LS B i pc' L' st b im rm P) : Cn LS B i pc L (.ref x :: st) b im rm P := en_astore_n hd hn hl kk
theorem c_iincv {j : Nat} {n : Int} {x y : Int32} (hd : en_d i pc (.iinc j n) 3 pc') (hg : L[j]? = some (.int x)) (hn : j < mL i) (hy : x + Int32.ofInt n = y) (hl : L.set j (.int y) = L') (kk : Cn LS B i pc' L' st b im rm P) : Cn LS B i pc L st b im rm P := by
  subst hy
  exact en_iinc hd hg hn hl kk
theorem c_dup {v : Value} (hd : en_d i pc .dup 1 pc') (hc : v.category = 1) (kk : Cn LS B i pc' L (v :: v :: st) b im rm P) : Cn LS B i pc L (v :: st) b im rm P := en_dup hd hc kk
theorem c_goto (hd : en_j i pc .goto pc' tgt) (kk : Cn LS B i tgt L st b im rm P) : Cn LS B i pc L st b im rm P := en_goto hd kk
theorem c_icmp_ge {x y : Int32} (hd : en_j i pc (.if_icmp .ge) pc' tgt) (kt : y ≤ x → Cn LS B i tgt L st b im rm P) (kf : ¬ y ≤ x → Cn LS B i pc' L st b im rm P) : Cn LS B i pc L (.int y :: .int x :: st) b im rm P := en_icmp_ge hd kt kf
theorem c_retv (hd : en_d i pc .return_ 1 pc') (hR : mR i = none) (hb : b = B) (hB : B ≤ 410) (hP : P none im rm) : Cn LS B i pc L [] b im rm P := by
  subst hb
  exact en_retv hd hR (tk_len hB) rfl ⟨im, rm, rfl, hP⟩
theorem c_mono {P' : Option Value → (Nat → Nat → Int32) → (Nat → Nat → Option Nat) → Prop} (h : ∀ r im' rm', P' r im' rm' → P r im' rm') (kk : Cn LS B i pc L st b im rm P') : Cn LS B i pc L st b im rm P := en_mono (fun r M' hM => by obtain ⟨im', rm', e, hp⟩ := hM; exact ⟨im', rm', e, h r im' rm' hp⟩) kk
theorem c_getr {x : Nat} (hd : en_df i pc ci k nb true pc') (hs : (SH LS)[a]? = some (ci, n)) (ha : a < b) (hn : k < n) (hx : rm a k = some x) (kk : Cn LS B i pc' L (.ref x :: st) b im rm P) : Cn LS B i pc L (.ref a :: st) b im rm P := en_getr (M := ((SH LS).take b, im, rm)) hd ((tk_at ha).trans hs) hn hx kk
theorem c_puti {x : Int32} (hd : en_dp i pc ci k nb .int pc') (hini : kI ci k = true → nb = false ∧ (mY i).name = "<init>" ∧ mO i = ci) (hs : (SH LS)[a]? = some (ci, n)) (ha : a < b) (hn : k < n) (kk : Cn LS B i pc' L st b (en_u2 im a k x) rm P) : Cn LS B i pc L (.int x :: .ref a :: st) b im rm P := en_puti (M := ((SH LS).take b, im, rm)) hd hini ((tk_at ha).trans hs) hn kk
theorem c_putz {x : Int32} (hd : en_dp i pc ci k nb .boolean pc') (hini : kI ci k = true → nb = false ∧ (mY i).name = "<init>" ∧ mO i = ci) (hs : (SH LS)[a]? = some (ci, n)) (ha : a < b) (hn : k < n) (hx : x = 0 ∨ x = 1) (kk : Cn LS B i pc' L st b (en_u2 im a k x) rm P) : Cn LS B i pc L (.int x :: .ref a :: st) b im rm P := en_putz (M := ((SH LS).take b, im, rm)) hd hini ((tk_at ha).trans hs) hn hx kk
theorem c_putr {y : Nat} {ty : FieldType} (hd : en_dp i pc ci k nb ty pc') (hty : (∃ C, ty = .object C) ∨ ∃ t, ty = .array t) (hini : kI ci k = true → nb = false ∧ (mY i).name = "<init>" ∧ mO i = ci) (hs : (SH LS)[a]? = some (ci, n)) (ha : a < b) (hn : k < n) (kk : Cn LS B i pc' L st b im (en_u2 rm a k (some y)) P) : Cn LS B i pc L (.ref y :: .ref a :: st) b im rm P := en_putr (M := ((SH LS).take b, im, rm)) hd hty hini ((tk_at ha).trans hs) hn kk
theorem c_iasv {q : Nat} {v : Int32} (hd : en_d i pc .iastore 1 pc') (hs : (SH LS)[a]? = some (100, n)) (ha : a < b) (hq : q < n) (hn : n < 2 ^ 31) (kk : Cn LS B i pc' L st b (en_u2 im a q v) rm P) : Cn LS B i pc L (.int v :: .int (nI q) :: .ref a :: st) b im rm P := by
  refine en_iast (M := ((SH LS).take b, im, rm)) hd ((tk_at ha).trans hs) (vp_in_nI hq hn) ?_
  rw [nI_clamp (by omega)]
  exact kk
theorem c_aasv {q t y n' N : Nat} {C : String} {T : u_T} (hd : en_d i pc .aastore 1 pc') (hs : (SH LS)[a]? = some (100 + (t + 2), n)) (ha : a < b) (hy : (SH LS)[y]? = some (ci, n')) (hyb : y < b) (hc : vwCl[ci]? = some (C, T, N)) (ht : xA[t + 2]? = some (.object C)) (hq : q < n) (hn : n < 2 ^ 31) (kk : Cn LS B i pc' L st b im (en_u2 rm a q (some y)) P) : Cn LS B i pc L (.ref y :: .int (nI q) :: .ref a :: st) b im rm P := by
  refine en_aast (M := ((SH LS).take b, im, rm)) hd ((tk_at ha).trans hs) ((tk_at hyb).trans hy) hc ht (vp_in_nI hq hn) ?_
  rw [nI_clamp (by omega)]
  exact kk
theorem c_new {C : String} {T : u_T} {N : Nat} (hd : en_dw i pc ci pc') (hc : vwCl[ci]? = some (C, T, N)) (hs : (SH LS)[b]? = some (ci, N)) (hb : 1 ≤ b) (hB : b + 1 ≤ B) (hB2 : B ≤ 410) {b2 : Nat} (hnx : b + 1 = b2) (kk : Cn LS B i pc' L (.ref b :: st) b2 (en_ur im b (fun _ => 0)) (en_ur rm b (fun _ => none)) P) : Cn LS B i pc L st b im rm P := by
  subst hnx
  have hl : ((SH LS).take b).length = b := tk_len (by omega)
  refine en_new (M := ((SH LS).take b, im, rm)) hd hc (by rw [hl]; exact hb) (by rw [hl]; exact hB) ?_ ?_
  · have e1 := sl_s hs
    have e2 := sl_le (LS := LS) hB
    show sl LS b + N ≤ sl LS B
    simp only at e1
    omega
  · show en_Go B (sl LS B) i pc' L (.ref ((SH LS).take b).length :: st) ((SH LS).take b ++ [(ci, N)], en_ur im ((SH LS).take b).length (fun _ => 0), en_ur rm ((SH LS).take b).length (fun _ => none)) _
    rw [tk_s hs, hl]
    exact kk
theorem c_newi {x : Int32} (hd : en_d i pc (.newarray .int) 2 pc') (hx : x = nI n) (hs : (SH LS)[b]? = some (100, n)) (hn : n ≤ 100000) (hb : 1 ≤ b) (hB : b + 1 ≤ B) (hB2 : B ≤ 410) {b2 : Nat} (hnx : b + 1 = b2) (kk : Cn LS B i pc' L (.ref b :: st) b2 (en_ur im b (fun _ => 0)) (en_ur rm b (fun _ => none)) P) : Cn LS B i pc L (.int x :: st) b im rm P := by
  subst hx
  subst hnx
  have hl : ((SH LS).take b).length = b := tk_len (by omega)
  refine en_newi (M := ((SH LS).take b, im, rm)) hd (nI_pos (by omega)) (nI_clamp (by omega)) hn (by rw [hl]; exact hb) (by rw [hl]; exact hB) ?_ ?_
  · have e1 := sl_s hs
    have e2 := sl_le (LS := LS) hB
    show sl LS b + n ≤ sl LS B
    simp only at e1
    omega
  · show en_Go B (sl LS B) i pc' L (.ref ((SH LS).take b).length :: st) ((SH LS).take b ++ [(100, n)], en_ur im ((SH LS).take b).length (fun _ => 0), en_ur rm ((SH LS).take b).length (fun _ => none)) _
    rw [tk_s hs, hl]
    exact kk
theorem c_newz {x : Int32} (hd : en_d i pc (.newarray .boolean) 2 pc') (hx : x = nI n) (hs : (SH LS)[b]? = some (101, n)) (hn : n ≤ 100000) (hb : 1 ≤ b) (hB : b + 1 ≤ B) (hB2 : B ≤ 410) {b2 : Nat} (hnx : b + 1 = b2) (kk : Cn LS B i pc' L (.ref b :: st) b2 (en_ur im b (fun _ => 0)) (en_ur rm b (fun _ => none)) P) : Cn LS B i pc L (.int x :: st) b im rm P := by
  subst hx
  subst hnx
  have hl : ((SH LS).take b).length = b := tk_len (by omega)
  refine en_newz (M := ((SH LS).take b, im, rm)) hd (nI_pos (by omega)) (nI_clamp (by omega)) hn (by rw [hl]; exact hb) (by rw [hl]; exact hB) ?_ ?_
  · have e1 := sl_s hs
    have e2 := sl_le (LS := LS) hB
    show sl LS b + n ≤ sl LS B
    simp only at e1
    omega
  · show en_Go B (sl LS B) i pc' L (.ref ((SH LS).take b).length :: st) ((SH LS).take b ++ [(101, n)], en_ur im ((SH LS).take b).length (fun _ => 0), en_ur rm ((SH LS).take b).length (fun _ => none)) _
    rw [tk_s hs, hl]
    exact kk
theorem c_newq {x : Int32} {t : Nat} (hd : en_dq i pc (t + 2) pc') (hx : x = nI n) (hs : (SH LS)[b]? = some (100 + (t + 2), n)) (hn : n ≤ 100000) (hb : 1 ≤ b) (hB : b + 1 ≤ B) (hB2 : B ≤ 410) {b2 : Nat} (hnx : b + 1 = b2) (kk : Cn LS B i pc' L (.ref b :: st) b2 (en_ur im b (fun _ => 0)) (en_ur rm b (fun _ => none)) P) : Cn LS B i pc L (.int x :: st) b im rm P := by
  subst hx
  subst hnx
  have hl : ((SH LS).take b).length = b := tk_len (by omega)
  refine en_newq (M := ((SH LS).take b, im, rm)) hd (nI_pos (by omega)) (nI_clamp (by omega)) hn (by rw [hl]; exact hb) (by rw [hl]; exact hB) ?_ ?_
  · have e1 := sl_s hs
    have e2 := sl_le (LS := LS) hB
    show sl LS b + n ≤ sl LS B
    simp only at e1
    omega
  · show en_Go B (sl LS B) i pc' L (.ref ((SH LS).take b).length :: st) ((SH LS).take b ++ [(100 + (t + 2), n)], en_ur im ((SH LS).take b).length (fun _ => 0), en_ur rm ((SH LS).take b).length (fun _ => none)) _
    rw [tk_s hs, hl]
    exact kk
theorem c_obj (hd : en_dn i pc 6 pc') (ha : 0 < a) (hrest : (rest.map fun v => v.category).sum ≤ 8) (kk : Cn LS B i pc' L rest b im rm P) : Cn LS B i pc L (.ref a :: rest) b im rm P := en_obj hd ha hrest kk
theorem c_invI {B' : Nat} (hd : en_dI i pc j nb pc') (ha : 0 < a) (hlen : 0 = mN j) (hrest : (rest.map fun v => v.category).sum ≤ 8) (h1 : b ≤ B') (h2 : B' ≤ B) (h3 : B ≤ 410) (kk : Cn LS B' j 0 (en_in j [.ref a]) [] b im rm (fun r im' rm' => r = none ∧ Cn LS B i pc' L rest B' im' rm' P)) : Cn LS B i pc L (.ref a :: rest) b im rm P :=
  en_invI (M := ((SH LS).take b, im, rm)) (as := []) (rest := rest) hd ha (fun v hv => by cases hv) hlen hrest (by rw [tk_len (by omega)]; exact h1) h2 (sl_le h1) (sl_le h2) (en_mono (fun r M' hM => by obtain ⟨im', rm', e, hr, hp⟩ := hM; subst e; exact ⟨hr, hp⟩) kk)
theorem c_inv0 (hd : en_dv i pc j nb pc') (hs : (SH LS)[a]? = some (mO j, n)) (ha : a < b) (hlen : 0 = mN j) (hrest : (rest.map fun v => v.category).sum ≤ 8) (h1 : b ≤ B) (h3 : B ≤ 410) (kk : Cn LS b j 0 (en_in j [.ref a]) [] b im rm (fun r im' rm' => Cn LS B i pc' L (r.toList ++ rest) b im' rm' P)) : Cn LS B i pc L (.ref a :: rest) b im rm P :=
  en_inv (M := ((SH LS).take b, im, rm)) (as := []) (rest := rest) hd ((tk_at ha).trans hs) (fun v hv => by cases hv) hlen hrest (by rw [tk_len (by omega)]; exact Nat.le_refl _) h1 (Nat.le_refl _) (sl_le h1) (en_mono (fun r M' hM => by obtain ⟨im', rm', e, hp⟩ := hM; subst e; exact hp) kk)
end CN
