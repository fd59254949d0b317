/-! calls -/
/-- a call of another method of the class: which one, and how it is linked (0 virtual, 1 static, 2 init; 3, 4, 5 the same among nest mates) -/
def en_dv (i pc j : Nat) (nb : Bool) (pc' : Nat) : Prop := ∃ idx : Nat, decode (mB i) pc = .ok (.invokevirtual idx, 3) ∧ kM (mO i) idx = some (j, if nb then 3 else 0) ∧ pc + 3 = pc' ∧ mK j < mK i ∧ 19 + mL j + mQ j ≤ mQ i
def en_dS (i pc j : Nat) (nb : Bool) (pc' : Nat) : Prop := ∃ idx : Nat, decode (mB i) pc = .ok (.invokestatic idx, 3) ∧ kM (mO i) idx = some (j, if nb then 4 else 1) ∧ pc + 3 = pc' ∧ mK j < mK i ∧ 19 + mL j + mQ j ≤ mQ i
def en_dI (i pc j : Nat) (nb : Bool) (pc' : Nat) : Prop := ∃ idx : Nat, decode (mB i) pc = .ok (.invokespecial idx, 3) ∧ kM (mO i) idx = some (j, if nb then 5 else 2) ∧ pc + 3 = pc' ∧ mK j < mK i ∧ 19 + mL j + mQ j ≤ mQ i
/-- a native, by its number: 6 Object.<init>, 7 Math.max, 8 Math.min, 9 System.arraycopy -/
def en_dn (i pc n pc' : Nat) : Prop := ∃ idx : Nat, decode (mB i) pc = .ok (if n = 6 then .invokespecial idx else .invokestatic idx, 3) ∧ kM (mO i) idx = some (0, n) ∧ pc + 3 = pc' ∧ 1 ≤ mK i ∧ 26 ≤ mQ i
def en_room (j nc ns : Nat) (M : en_M) : Room := { frames := mK j, cells := nc - M.1.length, slots := ns - en_sl M, locals := mQ j }
def en_Pc (D : va_G) (cA : Nat → ClassId) (b0 bS LS : Nat) (xs : Nat → Int32) (as : List Value) (M : en_M) : Array Value → State → Prop := va_Pc (as.map (en_v b0 bS)) (fun U => U.heap.size + 1 = b0 + M.1.length ∧ va_P D vwCl (en_w b0 bS cA M) U.heap ∧ va_K D vwCl (en_ty cA) U ∧ en_N U ∧ va_X bS LS xs U U.heap)
def en_Qc (D : va_G) (cA : Nat → ClassId) (b0 bS LS nc ns : Nat) (xs : Nat → Int32) (P : Option Value → en_M → Prop) : Array Value → State → Outcome → State → Prop := fun _ st oc t =>
  (∃ (r : Option Value) (M' : en_M), P r M' ∧ (M'.1.length = nc ∧ en_sl M' = ns) ∧ M'.1[0]? = some (99, LS) ∧ (∀ k, k < LS → M'.2.1 0 k = xs k) ∧ oc = .returned (r.map (en_v b0 bS)) ∧ va_P D vwCl (en_w b0 bS cA M') t.heap) ∧ va_F (fun q => b0 ≤ q) st t
theorem en_Pc_blind {D : va_G} {cA : Nat → ClassId} {b0 bS LS : Nat} {xs : Nat → Int32} {as : List Value} {M : en_M} : FrameBlind (en_Pc D cA b0 bS LS xs as M) := by
  intro a U g mk h
  obtain ⟨h0, h1, h2, h3, h4, h5⟩ := h
  exact ⟨h0, h1, h2, va_K.moved (u := U) (U := U.calling g mk a) (Vm.Alike.refl U.vm) h3, en_N.same (s := U) (U := U.calling g mk a) rfl h4, va_X.moved (u := U) (U := U.calling g mk a) (Vm.Alike.refl U.vm) h5⟩
theorem en_good (j : Nat) (h : Cond.code (mY j) (mB j) (mL j) (mR j) ∈ ew) : GoodIn ew (Cond.code (mY j) (mB j) (mL j) (mR j) :: ew) := by
  intro w hw
  have h1 : w ∈ ew := by
    rcases List.mem_cons.mp hw with rfl | h2
    · exact h
    · exact h2
  exact ⟨h1, T_good w h1⟩
theorem en_met {l : Launch} {D : va_G} {cA : Nat → ClassId} {b0 bS LS nc ns j : Nat} {xs : Nat → Int32} {as : List Value} {M : en_M} {P : Option Value → en_M → Prop}
    (h : en_Go nc ns j 0 (en_in j as) [] M P) (hpl : plainName (mY j).cls = true) (hcat : ∀ v ∈ as, v.category = 1) (hlen : as.length ≤ mL j) (h0 : M.1[0]? = some (99, LS)) (hxs : ∀ k, k < LS → M.2.1 0 k = xs k) (hbS : bS < b0) (hnc : M.1.length ≤ nc) (hns : en_sl M ≤ ns) (hoY : oY (mO j) = (mY j).cls) :
    Met l (mY j) (Cond.code (mY j) (mB j) (mL j) (mR j) :: ew) (en_room j nc ns M) (en_Pc D cA b0 bS LS xs as M) (en_Qc D cA b0 bS LS nc ns xs P) (nc - M.1.length) (ns - en_sl M) (fun q => b0 ≤ q) := by
  refine Met.ofW (cc := mB j) (maxL := mL j) (ret := mR j) hpl rfl ?_
  intro p e s m args below meth c s₁ B hml hv
  obtain ⟨rfl, hsz, hP, hK, hN, hX⟩ := hv
  have hts := atoms_spec (ws := Cond.code (mY j) (mB j) (mL j) (mR j) :: ew) B.pre
  have hown : s.vm.findClass (mY j).cls = some m.cls := findClass_of_methodNamed B.named
  have hlocks := B.notSynchronized
  have hin : meth.name = (mY j).name := (name_of_methodNamed B.named B.method).1
  have hl1 : 1 ≤ M.1.length := (List.getElem?_eq_some_iff.mp h0).1
  rw [lg_entry_eq]
  refine h p l e _ s m _ below meth c _ D cA b0 bS LS M.1.length (en_sl M) xs ⟨B.exec, B.bytes, hml, by rw [hoY]; exact hown, fun w hw => hts w (List.mem_cons_of_mem _ hw), hN, hK, ⟨fun z => hin.trans z, B.returns, hlocks⟩, ⟨Nat.le_refl _, Nat.le_refl _⟩, hX, ⟨hbS, hsz, hl1⟩, by show nc ≤ M.1.length + (nc - M.1.length); omega, by show ns ≤ en_sl M + (ns - en_sl M); omega⟩ ?_ s.heap [] 0 0 _ ⟨hP, va_S.rf, ⟨Nat.zero_add _, Nat.zero_add _⟩, ⟨hnc, hns⟩, h0, hxs⟩ (en_L_entry hcat hlen)
  intro r M' pc' ls' H locs cells slots ins hPr hc hs hd hrt hat
  have ec : nc - M.1.length = cells := by have := hat.2.2.1.1; omega
  have es : ns - en_sl M = slots := by have := hat.2.2.1.2; omega
  rw [ec, es]
  have fin : ∀ t : State, t.heap = H → ∀ oc, oc = Outcome.returned (r.map (en_v b0 bS)) → en_Qc D cA b0 bS LS nc ns xs P (as.map (en_v b0 bS)).toArray s oc t := fun t ht oc ho =>
    ⟨⟨r, M', hPr, ⟨hc, hs⟩, hat.2.2.2.2.1, hat.2.2.2.2.2, ho, by rw [ht]; exact hat.1⟩, hat.2.1.F ht⟩
  rcases hrt with ⟨rfl, hR, x, rfl⟩ | ⟨rfl, hR, x, rfl, hx⟩ | ⟨rfl, hR, rfl⟩ | ⟨rfl, ⟨C, hR⟩, a, rfl⟩
  · exact W.iret (v := x) B.exec B.bytes (B.returns.trans hR) (fun t ht hW => fin t ht _ rfl) hat.2.1.2.2 hd
  · exact W.zret (v := x) (ty := .boolean) B.exec B.bytes (B.returns.trans hR) (by rcases hx with rfl | rfl <;> rfl) (fun t ht hW => fin t ht _ rfl) hat.2.1.2.2 hd
  · exact W.vret B.exec B.bytes (B.returns.trans hR) (fun t ht hW => fin t ht _ rfl) hat.2.1.2.2 hd
  · exact W.aret (v := .ref (en_ad b0 bS a)) (rt := .object C) B.exec B.bytes (B.returns.trans hR) (Or.inl ⟨C, rfl⟩) (Or.inr ⟨_, rfl⟩) (fun t ht hW => fin t ht _ rfl) hat.2.1.2.2 hd
section ENC
variable {p : Program} {l : Launch} {e : Env} {R : Room} {s : State} {m : MethodId} {args : Array Value} {below : List Frame} {meth : Method} {c : Code} {Q : State → Prop} {D : va_G} {cA : Nat → ClassId} {b0 bS LS z0 y0 nc ns nc' ns' : Nat} {xs : Nat → Int32} {i pc : Nat} {H : Heap} {locs : List Loc} {cells slots : Nat} {ls : Array Slot} {rest st0 : List Value} {M M' : en_M} {T : State} {P : Option Value → en_M → Prop} {a : Array Value}
theorem en_after (hr : va_Run p l e R s m args below meth c H locs cells slots (nc' - M.1.length) (ns' - en_sl M) (F0 m pc ls st0) rest (en_Qc D cA b0 bS LS nc' ns' xs P a) (fun q => b0 ≤ q))
    (hat : en_at s D cA b0 bS LS z0 y0 nc ns xs M H locs cells slots) (h1 : M.1.length ≤ nc') (h2 : nc' ≤ nc) (h3 : en_sl M ≤ ns') (h4 : ns' ≤ ns)
    (kk : ∀ (r : Option Value) (M' : en_M) (H1 : Heap) (locs1 : List Loc) (cells1 slots1 : Nat), P r M' → en_at s D cA b0 bS LS z0 y0 nc ns xs M' H1 locs1 cells1 slots1 → W p l e R s m args below meth c H1 locs1 cells1 slots1 Q (F0 m (pc + 3) ls (r.toList.map (en_v b0 bS) ++ rest))) : W p l e R s m args below meth c H locs cells slots Q (F0 m pc ls st0) := by
  intro T hT X
  obtain ⟨v, st₀, t, T', L, h0, X', hL, e1, e2, ⟨⟨r, M', hPr, ⟨hc, hs⟩, g0, gx, hv, hP⟩, hz, hk⟩, st⟩ := hr T hT X
  cases hv
  rw [h0] at hz hk
  have hS := hat.2.1
  have hS1 : va_S (fun q => b0 ≤ q) s.heap T'.heap (locs ++ L) := ⟨Nat.le_trans hS.1 (by rw [e1]; exact hz), fun q h1 h2 => by rw [e1, hk q (Nat.lt_of_lt_of_le h1 hS.1) h2]; exact hS.2.1 q h1 h2, fun q hq => by
      rcases List.mem_append.mp hq with h | h
      · exact hS.2.2 q h
      · exact hL q h⟩
  have a1 := hat.2.2.1
  have hat' : en_at s D cA b0 bS LS z0 y0 nc ns xs M' T'.heap (locs ++ L) (cells + (nc' - M.1.length)) (slots + (ns' - en_sl M)) := ⟨by rw [e1]; exact hP, hS1, ⟨by omega, by omega⟩, ⟨by omega, by omega⟩, g0, gx⟩
  obtain ⟨t2, b1, b2⟩ := kk r M' T'.heap (locs ++ L) _ _ hPr hat' T' rfl X'
  refine ⟨t2, st t2 ?_, b2⟩
  have : (r.map (en_v b0 bS)).toList = r.toList.map (en_v b0 bS) := by cases r <;> rfl
  rw [this]
  exact b1
theorem en_pre (ok : en_ok p R s m args meth c D cA b0 bS LS z0 y0 nc ns xs i) (hat : en_at s D cA b0 bS LS z0 y0 nc ns xs M H locs cells slots) (hsz : H.size + 1 = b0 + M.1.length) (as : List Value) : ∀ U : State, U.heap = H → s.WarmedH U.vm → en_Pc D cA b0 bS LS xs as M (as.map (en_v b0 bS)).toArray U := by
  intro U hU hW
  obtain ⟨hb1, hb2, hb3⟩ := ok.2.2.2.2.2.2.2.2.2.2.1
  have hX : va_X bS LS xs s H := va_X.kept ok.2.2.2.2.2.2.2.2.2.1 (hat.2.1.2.1 bS (by omega) (by show ¬ b0 ≤ bS; omega))
  exact ⟨rfl, by rw [hU]; exact hsz, by rw [hU]; exact hat.1, va_K.moved hW.alike ok.2.2.2.2.2.2.1, en_N.warm hW ok.2.2.2.2.2.1, by rw [hU]; exact va_X.moved hW.alike hX⟩
theorem en_cat (hr : (rest.map fun v => v.category).sum ≤ 8) : ((rest.map (en_v b0 bS)).map fun v => v.category).sum ≤ 8 := by
  rw [List.map_map]
  have : ((fun v : Value => v.category) ∘ en_v b0 bS) = fun v : Value => v.category := by
    funext v
    exact en_v_cat b0 bS v
  rw [this]
  exact hr
end ENC
section ENV
variable {nc ns nc' ns' i j pc pc' : Nat} {L as rest : List Value} {M : en_M} {P : Option Value → en_M → Prop} {a n : Nat} {nb : Bool}
theorem en_inv (hd : en_dv i pc j nb pc') (hs : M.1[a]? = some (mO j, n)) (hcat : ∀ v ∈ as, v.category = 1) (hlen : as.length = mN j) (hrest : (rest.map fun v => v.category).sum ≤ 8) (h1 : M.1.length ≤ nc') (h2 : nc' ≤ nc) (h3 : en_sl M ≤ ns') (h4 : ns' ≤ ns)
    (kk : en_Go nc' ns' j 0 (en_in j (.ref a :: as)) [] M (fun r M' => en_Go nc ns i pc' L (r.toList ++ rest) M' P)) : en_Go nc ns i pc L (as.reverse ++ .ref a :: rest) M P := by
  obtain ⟨idx, hd, hM, rfl, hK⟩ := hd
  have hjm : j < nM ∧ mS j = false := by
    cases nb with
    | false => exact ⟨(T_V hM).1, (T_V hM).2.1⟩
    | true => exact ⟨(T_VN hM).1, (T_VN hM).2.1⟩
  obtain ⟨hcode, hini, hy, hpar, hmL, hpl, hoY, hlenL, hcls⟩ := T_j hjm.1
  obtain ⟨C, T, N, hcl, hC⟩ := hcls hjm.2
  rw [hjm.2] at hlenL
  intro p l e R s m args below meth c Q D cA b0 bS LS z0 y0 xs ok hr H locs cells slots ls hat hL
  intro T0 hT X
  have hsz := en_size ok hat hT X
  obtain ⟨-, -, -, -, -, h99⟩ := T_cls hcl
  obtain ⟨a', rfl⟩ := en_pos hat hs (by show mO j ≠ 99; omega)
  have hrcv := va_recv ok.2.2.2.2.2.2.1 hat.1 hcl (q0 := a') (by rw [en_w_at hs]; unfold en_e; rw [if_pos h99])
  have hts := ok.2.2.2.2.1
  have hfr := ok.2.2.2.2.2.2.2.2.1
  have hb := ok.2.2.2.2.2.2.2.2.2.2.1
  have hbud := ok.2.2.2.2.2.2.2.2.2.2.2
  have a1 := hat.2.2.1
  have hmet := en_met (l := l) (D := D) (cA := cA) (b0 := b0) (bS := bS) (LS := LS) (xs := xs) kk hpl (fun v hv => by rcases List.mem_cons.mp hv with rfl | hv; rfl; exact hcat v hv) (by rw [List.length_cons, hlen]; exact hlenL) hat.2.2.2.2.1 hat.2.2.2.2.2 hb.1 h1 h3 hoY
  have hG := en_good j hcode
  have hR : (en_room j nc' ns' M).frames + 1 ≤ R.frames ∧ 8 + (mL j + 11) + (en_room j nc' ns' M).locals ≤ R.locals := by
    show mK j + 1 ≤ R.frames ∧ 8 + (mL j + 11) + mQ j ≤ R.locals
    omega
  have hpv : PreV s H C (b0 + a') (en_Pc D cA b0 bS LS xs (.ref (a' + 1) :: as) M) (as.map (en_v b0 bS)) := ⟨en_Pc_blind, hrcv, en_pre ok hat hsz (.ref (a' + 1) :: as)⟩
  have hCy : C = (mY j).cls := hC
  have hrun : va_Run p l e R s m args below meth c H locs cells slots (nc' - M.1.length) (ns' - en_sl M) (F0 m pc ls ((as.reverse ++ .ref (a' + 1) :: rest).map (en_v b0 bS))) (rest.map (en_v b0 bS)) (en_Qc D cA b0 bS LS nc' ns' xs (fun r M' => en_Go nc ns i (pc + 3) L (r.toList ++ rest) M' P) (Value.ref (b0 + a') :: as.map (en_v b0 bS)).toArray) (fun q => b0 ≤ q) := by
    have hstk : (as.reverse ++ .ref (a' + 1) :: rest).map (en_v b0 bS) = (as.map (en_v b0 bS)).reverse ++ .ref (b0 + a') :: rest.map (en_v b0 bS) := by
      rw [List.map_append, List.map_reverse, List.map_cons]
      rfl
    rw [hstk]
    cases nb with
    | false =>
      obtain ⟨-, -, g1, g2, g3⟩ := T_V hM
      exact va_runV (nL := mL i) ⟨ok.1, ok.2.1, ok.2.2.1, ok.2.2.2.1, hts⟩ hmet ⟨callB_of (mN j) hts hG rfl rfl rfl (hts _ hini) (hts _ g1) ⟨hy.1, hy.2, hpar⟩ hR, hts _ g2, by rw [hCy]; exact hts _ g3⟩ hpv rfl (by rw [List.length_map]; exact hlen) hL.2.1 rfl (lv_room (en_cat hrest)) hd ⟨by omega, by omega⟩
    | true =>
      obtain ⟨-, -, host, g1, g2, g3⟩ := T_VN hM
      exact va_runVN (nL := mL i) ⟨ok.1, ok.2.1, ok.2.2.1, ok.2.2.2.1, hts⟩ hmet ⟨va_cnB (mN j) hts hG rfl rfl rfl (ok.2.2.2.2.2.1.2.1 _ g1) (hts _ hini) ⟨hy.1, hy.2, hpar⟩ hR, hts _ g2, by rw [hCy]; exact hts _ g3⟩ hpv rfl (by rw [List.length_map]; exact hlen) hL.2.1 rfl (lv_room (en_cat hrest)) hd ⟨by omega, by omega⟩
  refine en_after hrun hat h1 h2 h3 h4 (fun r M' H1 locs1 cells1 slots1 hP hat1 => ?_) T0 hT X
  have := hP p l e R s m args below meth c Q D cA b0 bS LS z0 y0 xs ok hr H1 locs1 cells1 slots1 ls hat1 hL
  rw [List.map_append] at this
  exact this
theorem en_invS (hd : en_dS i pc j nb pc') (hcat : ∀ v ∈ as, v.category = 1) (hlen : as.length = mN j) (hrest : (rest.map fun v => v.category).sum ≤ 8) (h1 : M.1.length ≤ nc') (h2 : nc' ≤ nc) (h3 : en_sl M ≤ ns') (h4 : ns' ≤ ns)
    (kk : en_Go nc' ns' j 0 (en_in j as) [] M (fun r M' => en_Go nc ns i pc' L (r.toList ++ rest) M' P)) : en_Go nc ns i pc L (as.reverse ++ rest) M P := by
  obtain ⟨idx, hd, hM, rfl, hK⟩ := hd
  have hjm : j < nM ∧ mS j = true := by
    cases nb with
    | false => exact ⟨(T_S hM).1, (T_S hM).2.1⟩
    | true => exact ⟨(T_SN hM).1, (T_SN hM).2.1⟩
  obtain ⟨hcode, hini, hy, hpar, hmL, hpl, hoY, hlenL, -⟩ := T_j hjm.1
  rw [hjm.2] at hlenL
  intro p l e R s m args below meth c Q D cA b0 bS LS z0 y0 xs ok hr H locs cells slots ls hat hL
  intro T0 hT X
  have hsz := en_size ok hat hT X
  have hts := ok.2.2.2.2.1
  have hfr := ok.2.2.2.2.2.2.2.2.1
  have hb := ok.2.2.2.2.2.2.2.2.2.2.1
  have hbud := ok.2.2.2.2.2.2.2.2.2.2.2
  have a1 := hat.2.2.1
  have hmet := en_met (l := l) (D := D) (cA := cA) (b0 := b0) (bS := bS) (LS := LS) (xs := xs) kk hpl hcat (by rw [hlen]; exact hlenL) hat.2.2.2.2.1 hat.2.2.2.2.2 hb.1 h1 h3 hoY
  have hG := en_good j hcode
  have hR : (en_room j nc' ns' M).frames + 1 ≤ R.frames ∧ 8 + (mL j + 11) + (en_room j nc' ns' M).locals ≤ R.locals := by
    show mK j + 1 ≤ R.frames ∧ 8 + (mL j + 11) + mQ j ≤ R.locals
    omega
  have hpv : PreS s H (en_Pc D cA b0 bS LS xs as M) (as.map (en_v b0 bS)) := ⟨en_Pc_blind, en_pre ok hat hsz as⟩
  have hrun : va_Run p l e R s m args below meth c H locs cells slots (nc' - M.1.length) (ns' - en_sl M) (F0 m pc ls ((as.reverse ++ rest).map (en_v b0 bS))) (rest.map (en_v b0 bS)) (en_Qc D cA b0 bS LS nc' ns' xs (fun r M' => en_Go nc ns i (pc + 3) L (r.toList ++ rest) M' P) (as.map (en_v b0 bS)).toArray) (fun q => b0 ≤ q) := by
    have hstk : (as.reverse ++ rest).map (en_v b0 bS) = (as.map (en_v b0 bS)).reverse ++ rest.map (en_v b0 bS) := by
      rw [List.map_append, List.map_reverse]
    rw [hstk]
    cases nb with
    | false =>
      obtain ⟨-, -, g1, g2⟩ := T_S hM
      exact va_runS (nL := mL i) ⟨ok.1, ok.2.1, ok.2.2.1, ok.2.2.2.1, hts⟩ hmet ⟨callB_of (mN j) hts hG rfl rfl rfl (hts _ hini) (hts _ g1) ⟨hy.1, hy.2, hpar⟩ hR, hts _ g2⟩ hpv rfl (by rw [List.length_map]; exact hlen) hL.2.1 rfl (lv_room (en_cat hrest)) hd ⟨by omega, by omega⟩
    | true =>
      obtain ⟨-, -, host, g1, g2⟩ := T_SN hM
      exact va_runSN (nL := mL i) ⟨ok.1, ok.2.1, ok.2.2.1, ok.2.2.2.1, hts⟩ hmet ⟨va_cnB (mN j) hts hG rfl rfl rfl (ok.2.2.2.2.2.1.2.1 _ g1) (hts _ hini) ⟨hy.1, hy.2, hpar⟩ hR, hts _ g2, trivial⟩ hpv rfl (by rw [List.length_map]; exact hlen) hL.2.1 rfl (lv_room (en_cat hrest)) hd ⟨by omega, by omega⟩
  refine en_after hrun hat h1 h2 h3 h4 (fun r M' H1 locs1 cells1 slots1 hP hat1 => ?_) T0 hT X
  have := hP p l e R s m args below meth c Q D cA b0 bS LS z0 y0 xs ok hr H1 locs1 cells1 slots1 ls hat1 hL
  rw [List.map_append] at this
  exact this
theorem en_invI {a : Nat} (hd : en_dI i pc j nb pc') (ha : 0 < a) (hcat : ∀ v ∈ as, v.category = 1) (hlen : as.length = mN j) (hrest : (rest.map fun v => v.category).sum ≤ 8) (h1 : M.1.length ≤ nc') (h2 : nc' ≤ nc) (h3 : en_sl M ≤ ns') (h4 : ns' ≤ ns)
    (kk : en_Go nc' ns' j 0 (en_in j (.ref a :: as)) [] M (fun r M' => r = none ∧ en_Go nc ns i pc' L rest M' P)) : en_Go nc ns i pc L (as.reverse ++ .ref a :: rest) M P := by
  obtain ⟨a', rfl⟩ : ∃ a', a = a' + 1 := ⟨a - 1, by omega⟩
  obtain ⟨idx, hd, hM, rfl, hK⟩ := hd
  have hjm : j < nM ∧ mS j = false := by
    cases nb with
    | false => exact ⟨(T_I2 hM).1, (T_I2 hM).2.1⟩
    | true => exact ⟨(T_IN hM).1, (T_IN hM).2.1⟩
  obtain ⟨hcode, hini, hy, hpar, hmL, hpl, hoY, hlenL, -⟩ := T_j hjm.1
  rw [hjm.2] at hlenL
  intro p l e R s m args below meth c Q D cA b0 bS LS z0 y0 xs ok hr H locs cells slots ls hat hL
  intro T0 hT X
  have hsz := en_size ok hat hT X
  have hts := ok.2.2.2.2.1
  have hfr := ok.2.2.2.2.2.2.2.2.1
  have hb := ok.2.2.2.2.2.2.2.2.2.2.1
  have hbud := ok.2.2.2.2.2.2.2.2.2.2.2
  have a1 := hat.2.2.1
  have hmet := en_met (l := l) (D := D) (cA := cA) (b0 := b0) (bS := bS) (LS := LS) (xs := xs) kk hpl (fun v hv => by rcases List.mem_cons.mp hv with rfl | hv; rfl; exact hcat v hv) (by rw [List.length_cons, hlen]; exact hlenL) hat.2.2.2.2.1 hat.2.2.2.2.2 hb.1 h1 h3 hoY
  have hG := en_good j hcode
  have hR : (en_room j nc' ns' M).frames + 1 ≤ R.frames ∧ 8 + (mL j + 11) + (en_room j nc' ns' M).locals ≤ R.locals := by
    show mK j + 1 ≤ R.frames ∧ 8 + (mL j + 11) + mQ j ≤ R.locals
    omega
  have hpv : PreS s H (en_Pc D cA b0 bS LS xs (.ref (a' + 1) :: as) M) (.ref (b0 + a') :: as.map (en_v b0 bS)) := ⟨en_Pc_blind, en_pre ok hat hsz (.ref (a' + 1) :: as)⟩
  have hrun : va_Run p l e R s m args below meth c H locs cells slots (nc' - M.1.length) (ns' - en_sl M) (F0 m pc ls ((as.reverse ++ .ref (a' + 1) :: rest).map (en_v b0 bS))) (rest.map (en_v b0 bS)) (en_Qc D cA b0 bS LS nc' ns' xs (fun r M' => r = none ∧ en_Go nc ns i (pc + 3) L rest M' P) (Value.ref (b0 + a') :: as.map (en_v b0 bS)).toArray) (fun q => b0 ≤ q) := by
    have hstk : (as.reverse ++ .ref (a' + 1) :: rest).map (en_v b0 bS) = (as.map (en_v b0 bS)).reverse ++ .ref (b0 + a') :: rest.map (en_v b0 bS) := by
      rw [List.map_append, List.map_reverse, List.map_cons]
      rfl
    rw [hstk]
    cases nb with
    | false =>
      obtain ⟨-, -, g1, g2, g3, g4⟩ := T_I2 hM
      rw [g4] at hmet hG
      exact va_runI (nL := mL i) ⟨ok.1, ok.2.1, ok.2.2.1, ok.2.2.2.1, hts⟩ hmet ⟨callB_of (mN j) hts hG rfl rfl rfl (hts _ hini) (hts _ g1) ⟨hy.1, hy.2, hpar⟩ hR, g3, hts _ g2⟩ hpv rfl (by rw [List.length_map]; exact hlen) hL.2.1 rfl (lv_room (en_cat hrest)) hd ⟨by omega, by omega⟩
    | true =>
      obtain ⟨-, -, host, g1, g2, g3, g4⟩ := T_IN hM
      rw [g4] at hmet hG
      exact va_runIN (nL := mL i) ⟨ok.1, ok.2.1, ok.2.2.1, ok.2.2.2.1, hts⟩ hmet ⟨va_cnB (mN j) hts hG rfl rfl rfl (ok.2.2.2.2.2.1.2.1 _ g1) (hts _ hini) ⟨hy.1, hy.2, hpar⟩ hR, g3, hts _ g2⟩ hpv rfl (by rw [List.length_map]; exact hlen) hL.2.1 rfl (lv_room (en_cat hrest)) hd ⟨by omega, by omega⟩
  refine en_after hrun hat h1 h2 h3 h4 (fun r M' H1 locs1 cells1 slots1 hP hat1 => ?_) T0 hT X
  obtain ⟨rfl, hP⟩ := hP
  exact hP p l e R s m args below meth c Q D cA b0 bS LS z0 y0 xs ok hr H1 locs1 cells1 slots1 ls hat1 hL
/-! the JDK's own -/
theorem en_obj {a : Nat} (hd : en_dn i pc 6 pc') (ha : 0 < a) (hrest : (rest.map fun v => v.category).sum ≤ 8) (kk : en_Go nc ns i pc' L rest M P) : en_Go nc ns i pc L (.ref a :: rest) M P := by
  obtain ⟨a', rfl⟩ : ∃ a', a = a' + 1 := ⟨a - 1, by omega⟩
  obtain ⟨idx, hd, hM, rfl, hK⟩ := hd
  rw [if_pos rfl] at hd
  obtain ⟨g1, g2, g3⟩ := T_N6 hM
  intro p l e R s m args below meth c Q D cA b0 bS LS z0 y0 xs ok hr H locs cells slots ls hat hL
  have hts := ok.2.2.2.2.1
  have hfr := ok.2.2.2.2.2.2.2.2.1
  have hcat := en_cat (b0 := b0) (bS := bS) hrest
  have hroom := lv_room (m := m) (pc := pc) (ls := ls) (rest := (.ref (b0 + a') :: rest.map (en_v b0 bS))) hcat
  exact W.objInit (g := F0 m pc ls (.ref (b0 + a') :: rest.map (en_v b0 bS))) ok.1 ok.2.1 ok.2.2.2.1 (hts _ g1) (hts _ g2) (hts _ g3) rfl (by rw [ok.2.2.1]; exact hL.2.1) rfl hd (by omega) (by omega) (kk p l e R s m args below meth c Q D cA b0 bS LS z0 y0 xs ok hr H locs cells slots ls hat hL)
theorem en_max {x y : Int32} (hd : en_dn i pc 7 pc') (hrest : (rest.map fun v => v.category).sum ≤ 8) (kk : en_Go nc ns i pc' L (.int (if x < y then y else x) :: rest) M P) : en_Go nc ns i pc L (.int y :: .int x :: rest) M P := by
  obtain ⟨idx, hd, hM, rfl, hK⟩ := hd
  rw [if_neg (by decide)] at hd
  obtain ⟨g1, g2, g3, g4⟩ := T_N7 hM
  intro p l e R s m args below meth c Q D cA b0 bS LS z0 y0 xs ok hr H locs cells slots ls hat hL
  have hts := ok.2.2.2.2.1
  have hfr := ok.2.2.2.2.2.2.2.2.1
  have hcat := en_cat (b0 := b0) (bS := bS) hrest
  have a1 := hat.2.2.1
  have a2 := hat.2.2.2.1
  have hbud := ok.2.2.2.2.2.2.2.2.2.2.2
  exact va_mmax ok.1 ok.2.1 (by rw [ok.2.2.1]; exact hL.2.1.symm) ok.2.2.2.1 (hts _ g1) (hts _ g2) (hts _ g3) (hts _ g4) (by omega) (by omega) (by omega) (by omega) hd (kk p l e R s m args below meth c Q D cA b0 bS LS z0 y0 xs ok hr H locs cells slots ls hat hL)
theorem en_min {x y : Int32} (hd : en_dn i pc 8 pc') (hrest : (rest.map fun v => v.category).sum ≤ 8) (kk : en_Go nc ns i pc' L (.int (if y < x then y else x) :: rest) M P) : en_Go nc ns i pc L (.int y :: .int x :: rest) M P := by
  obtain ⟨idx, hd, hM, rfl, hK⟩ := hd
  rw [if_neg (by decide)] at hd
  obtain ⟨g1, g2, g3, g4⟩ := T_N8 hM
  intro p l e R s m args below meth c Q D cA b0 bS LS z0 y0 xs ok hr H locs cells slots ls hat hL
  have hts := ok.2.2.2.2.1
  have hfr := ok.2.2.2.2.2.2.2.2.1
  have hcat := en_cat (b0 := b0) (bS := bS) hrest
  have a1 := hat.2.2.1
  have a2 := hat.2.2.2.1
  have hbud := ok.2.2.2.2.2.2.2.2.2.2.2
  exact va_mmin ok.1 ok.2.1 (by rw [ok.2.2.1]; exact hL.2.1.symm) ok.2.2.2.1 (hts _ g1) (hts _ g2) (hts _ g3) (hts _ g4) (by omega) (by omega) (by omega) (by omega) hd (kk p l e R s m args below meth c Q D cA b0 bS LS z0 y0 xs ok hr H locs cells slots ls hat hL)
theorem en_copy {a a1 n0 n1 : Nat} {sp dp x : Int32} (hd : en_dn i pc 9 pc') (hrest : (rest.map fun v => v.category).sum ≤ 8) (hs0 : M.1[a]? = some (100, n0)) (hs1 : M.1[a1]? = some (100, n1)) (q1 : ¬ sp < 0) (q2 : ¬ dp < 0) (q3 : ¬ x < 0) (q4 : sp.toNatClampNeg + x.toNatClampNeg ≤ n0) (q5 : dp.toNatClampNeg + x.toNatClampNeg ≤ n1)
    (kk : en_Go nc ns i pc' L rest (M.1, en_ur M.2.1 a1 (va_cpy (M.2.1 a) (M.2.1 a1) sp.toNatClampNeg dp.toNatClampNeg x.toNatClampNeg), M.2.2) P) : en_Go nc ns i pc L (.int x :: .int dp :: .ref a1 :: .int sp :: .ref a :: rest) M P := by
  obtain ⟨idx, hd, hM, rfl, hK⟩ := hd
  rw [if_neg (by decide)] at hd
  obtain ⟨g1, g2, g3, g4⟩ := T_N9 hM
  intro p l e R s m args below meth c Q D cA b0 bS LS z0 y0 xs ok hr H locs cells slots ls hat hL
  have hts := ok.2.2.2.2.1
  have hfr := ok.2.2.2.2.2.2.2.2.1
  have hcat := en_cat (b0 := b0) (bS := bS) hrest
  obtain ⟨a', rfl⟩ := en_pos hat hs0 (by show (100 : Nat) ≠ 99; decide)
  obtain ⟨a1', rfl⟩ := en_pos hat hs1 (by show (100 : Nat) ≠ 99; decide)
  have he0 : (en_w b0 bS cA M)[a']? = some (b0 + a', .inl (cA 0, n0, .inl (M.2.1 (a' + 1)))) := by
    rw [en_w_at hs0]
    simp [en_e]
  have he1 : (en_w b0 bS cA M)[a1']? = some (b0 + a1', .inl (cA 0, n1, .inl (M.2.1 (a1' + 1)))) := by
    rw [en_w_at hs1]
    simp [en_e]
  have hnf : nativeFrameWords "java/lang/System" "arraycopy" 5 ≤ 7 := by decide
  exact va_copyi ok.1 ok.2.1 (by rw [ok.2.2.1]; exact hL.2.1.symm) ok.2.2.2.1 (hts _ g1) (hts _ g2) (hts _ g3) (hts _ g4) ok.2.2.2.2.2.2.1 hat.1 en_w_D hat.2.1 a' a1' 0 0 he0 he1 (en_ty_at T_A0) (en_ty_at T_A0) rfl q1 q2 q3 q4 q5 (fun _ _ => rfl) (by omega) (by omega) hd
    (fun H1 locs1 hP _ hS => kk p l e R s m args below meth c Q D cA b0 bS LS z0 y0 xs ok hr H1 locs1 cells slots ls
      (en_at_set (M' := (M.1, en_ur M.2.1 (a1' + 1) (va_cpy (M.2.1 (a' + 1)) (M.2.1 (a1' + 1)) sp.toNatClampNeg dp.toNatClampNeg x.toNatClampNeg), M.2.2)) hat hs1 rfl (fun b hb => en_ur_off hb) (fun b hb => rfl) (by simp [en_e, en_ur_row]) hP hS) hL)
end ENV
