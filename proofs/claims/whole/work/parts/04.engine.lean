/-! THE ENGINE: a memory of ints and references by abstract addresses; a judgement 'en_Go' (from this place of this method, with these locals, this stack, this memory: the method returns r with a memory M' such that P r M'); a rule an instruction; the rule of a call is nested. -/
abbrev en_M : Type := List (Nat × Nat) × (Nat → Nat → Int32) × (Nat → Nat → Option Nat)
def en_sl (M : en_M) : Nat := (M.1.map Prod.snd).sum
def en_u2 {α : Type} (f : Nat → Nat → α) (a k : Nat) (x : α) : Nat → Nat → α := fun b j => if b = a then (if j = k then x else f b j) else f b j
theorem en_u2_row {f : Nat → Nat → Int32} {a k : Nat} {x : Int32} : en_u2 f a k x a = upd (f a) k x := by
  funext j
  simp [en_u2, upd]
theorem en_u2_off {α : Type} {f : Nat → Nat → α} {a k b : Nat} {x : α} (h : b ≠ a) : en_u2 f a k x b = f b := by
  funext j
  simp [en_u2, h]
/-- a row of an array, whole -/
def en_ur {α : Type} (f : Nat → Nat → α) (a : Nat) (g : Nat → α) : Nat → Nat → α := fun b => if b = a then g else f b
theorem en_ur_row {α : Type} {f : Nat → Nat → α} {a : Nat} {g : Nat → α} : en_ur f a g a = g := by simp [en_ur]
theorem en_ur_off {α : Type} {f : Nat → Nat → α} {a b : Nat} {g : Nat → α} (h : b ≠ a) : en_ur f a g b = f b := by simp [en_ur, h]
def en_ad (b0 bS : Nat) (a : Nat) : Nat := match a with
  | 0 => bS
  | a + 1 => b0 + a
def en_v (b0 bS : Nat) (v : Value) : Value := match v with
  | .ref a => .ref (en_ad b0 bS a)
  | v => v
def en_xr (ci k : Nat) : Bool := match xT ci k with
  | .int => false
  | .boolean => false
  | _ => true
def en_f (b0 bS : Nat) (M : en_M) (ci a k : Nat) : Value := if en_xr ci k = true then va_rf ((M.2.2 a k).map (en_ad b0 bS)) else .int (M.2.1 a k)
def en_e (b0 bS : Nat) (cA : Nat → ClassId) (M : en_M) (a : Nat) (q : Nat × Nat) : va_E :=
  if q.1 < 99 then .inr (q.1, (List.range q.2).map (en_f b0 bS M q.1 a))
  else .inl (cA (q.1 - 100), q.2, if q.1 < 102 then .inl (M.2.1 a) else .inr (.inr (.inr (.inr (fun k => (M.2.2 a k).map (en_ad b0 bS))))))
def en_w (b0 bS : Nat) (cA : Nat → ClassId) (M : en_M) : va_W := (List.range (M.1.length - 1)).map (fun j => (b0 + j, en_e b0 bS cA M (j + 1) (M.1.getD (j + 1) (0, 0))))
def en_ty (cA : Nat → ClassId) : List (ClassId × FieldType) := (List.range xA.length).map (fun t => (cA t, xA.getD t .int))
theorem en_ty_at {cA : Nat → ClassId} {t : Nat} {ty : FieldType} (h : xA[t]? = some ty) : (en_ty cA)[t]? = some (cA t, ty) := by
  have hl : t < xA.length := (List.getElem?_eq_some_iff.mp h).1
  unfold en_ty
  rw [List.getElem?_map, List.getElem?_range hl]
  simp [List.getD_eq_getElem?_getD, h]
section ENW
variable {b0 bS : Nat} {cA : Nat → ClassId} {M M' : en_M} {a n : Nat} {q : Nat × Nat}
theorem en_w_len : (en_w b0 bS cA M).length = M.1.length - 1 := by simp [en_w]
theorem en_w_at (h : M.1[a + 1]? = some q) : (en_w b0 bS cA M)[a]? = some (b0 + a, en_e b0 bS cA M (a + 1) q) := by
  have hl : a + 1 < M.1.length := (List.getElem?_eq_some_iff.mp h).1
  unfold en_w
  rw [List.getElem?_map, List.getElem?_range (by omega)]
  simp [List.getD_eq_getElem?_getD, h]
theorem en_w_key {k : Nat} {x : Nat × va_E} (h : (en_w b0 bS cA M)[k]? = some x) : x.1 = b0 + k := by
  obtain ⟨hlt, he⟩ := List.getElem?_eq_some_iff.mp h
  rw [← he]
  simp [en_w]
theorem en_w_D : va_D (fun q => b0 ≤ q) (en_w b0 bS cA M) := by
  refine ⟨fun i j x y hi hj e => ?_, fun k x hk => ?_⟩
  · have h1 := en_w_key hi
    have h2 := en_w_key hj
    omega
  · have h1 := en_w_key hk
    show b0 ≤ x.1
    omega
theorem en_e_congr (h1 : M'.2.1 a = M.2.1 a) (h2 : M'.2.2 a = M.2.2 a) : en_e b0 bS cA M' a q = en_e b0 bS cA M a q := by
  have h3 : en_f b0 bS M' q.1 a = en_f b0 bS M q.1 a := by
    funext k
    simp only [en_f, h1, h2]
  unfold en_e
  rw [h3, h1, h2]
theorem en_w_set (h : M.1[a + 1]? = some q) (h1 : M'.1 = M.1) (h2 : ∀ b, b ≠ a + 1 → M'.2.1 b = M.2.1 b) (h3 : ∀ b, b ≠ a + 1 → M'.2.2 b = M.2.2 b) :
    en_w b0 bS cA M' = (en_w b0 bS cA M).set a (b0 + a, en_e b0 bS cA M' (a + 1) q) := by
  have hl : a + 1 < M.1.length := (List.getElem?_eq_some_iff.mp h).1
  apply List.ext_getElem?
  intro j
  rw [List.getElem?_set]
  by_cases hj : a = j
  · subst hj
    rw [if_pos rfl, if_pos (by rw [en_w_len]; omega)]
    exact en_w_at (by rw [h1]; exact h)
  · rw [if_neg hj]
    by_cases hjl : j + 1 < M.1.length
    · have e : M.1[j + 1]? = some (M.1[j + 1]) := List.getElem?_eq_getElem hjl
      rw [en_w_at (M := M') (by rw [h1]; exact e), en_w_at e, en_e_congr (h2 _ (by omega)) (h3 _ (by omega))]
    · rw [List.getElem?_eq_none (by rw [en_w_len, h1]; omega), List.getElem?_eq_none (by rw [en_w_len]; omega)]
theorem en_fs_set {ci k : Nat} {v : Value} (hk : k < n) (ho : ∀ j, j ≠ k → en_f b0 bS M' ci a j = en_f b0 bS M ci a j) (hv : en_f b0 bS M' ci a k = v) :
    ((List.range n).map (en_f b0 bS M ci a)).set k v = (List.range n).map (en_f b0 bS M' ci a) := by
  apply List.ext_getElem?
  intro j
  rw [List.getElem?_set]
  by_cases hj : k = j
  · subst hj
    rw [if_pos rfl, if_pos (by simpa using hk), List.getElem?_map, List.getElem?_range hk]
    simp [hv]
  · rw [if_neg hj]
    by_cases hjl : j < n
    · rw [List.getElem?_map, List.getElem?_map, List.getElem?_range hjl]
      simp [ho j (fun z => hj z.symm)]
    · rw [List.getElem?_eq_none (by simp; omega), List.getElem?_eq_none (by simp; omega)]
end ENW
/-! locals: a list as long as the frame's; what stands there as a long is not known -/
def en_l (b0 bS : Nat) (L : List Value) : List (Nat × Value) := (List.range L.length).filterMap (fun i => (L[i]?).bind (fun v => if v.category = 1 then some (i, en_v b0 bS v) else none))
theorem en_l_mem {b0 bS : Nat} {L : List Value} {q : Nat × Value} : q ∈ en_l b0 bS L ↔ ∃ v, L[q.1]? = some v ∧ v.category = 1 ∧ q.2 = en_v b0 bS v := by
  unfold en_l
  rw [List.mem_filterMap]
  constructor
  · rintro ⟨i, hi, h⟩
    cases hv : L[i]? with
    | none => rw [hv] at h; cases h
    | some v =>
      rw [hv] at h
      simp only [Option.bind_some] at h
      by_cases hc : v.category = 1
      · rw [if_pos hc] at h
        cases h
        exact ⟨v, hv, hc, rfl⟩
      · rw [if_neg hc] at h
        cases h
  · rintro ⟨v, hv, hc, he⟩
    have hl : q.1 < L.length := (List.getElem?_eq_some_iff.mp hv).1
    refine ⟨q.1, List.mem_range.mpr hl, ?_⟩
    rw [hv]
    simp only [Option.bind_some]
    rw [if_pos hc, ← he]
theorem en_v_cat (b0 bS : Nat) (v : Value) : (en_v b0 bS v).category = v.category := by cases v <;> rfl
def en_L (b0 bS : Nat) (ls : Array Slot) (nL : Nat) (L : List Value) : Prop := L.length = nL ∧ lv_has ls nL (en_l b0 bS L)
theorem en_L_at {b0 bS : Nat} {ls : Array Slot} {nL k : Nat} {L : List Value} {v : Value} (h : en_L b0 bS ls nL L) (hk : L[k]? = some v) (hc : v.category = 1) : ls[k]? = some (.val (en_v b0 bS v)) :=
  h.2.2.2 (k, en_v b0 bS v) (en_l_mem.mpr ⟨v, hk, hc, rfl⟩)
theorem en_L_set {b0 bS : Nat} {ls : Array Slot} {nL k : Nat} {L : List Value} {v : Value} (hl : L.length = nL)
    (h' : lv_has ls nL ((k, en_v b0 bS v) :: (en_l b0 bS L).filter (fun q => !(q.1 == k) && !(q.1 + 1 == k && q.2.category == 2)))) : en_L b0 bS ls nL (L.set k v) := by
  refine ⟨by rw [List.length_set]; exact hl, h'.1, h'.2.1, fun q hq => ?_⟩
  obtain ⟨w, hw, hwc, he⟩ := en_l_mem.mp hq
  rw [List.getElem?_set] at hw
  by_cases hk : k = q.1
  · rw [if_pos hk] at hw
    split at hw
    · cases hw
      have := h'.2.2 (k, en_v b0 bS v) List.mem_cons_self
      rw [he, ← hk]
      exact this
    · cases hw
  · rw [if_neg hk] at hw
    refine h'.2.2 q (List.mem_cons_of_mem _ (List.mem_filter.mpr ⟨en_l_mem.mpr ⟨w, hw, hwc, he⟩, ?_⟩))
    have h2 : q.2.category = 1 := by rw [he, en_v_cat]; exact hwc
    simp [h2]
    exact fun z => hk z.symm
/-- the locals with which method j begins -/
def en_in (j : Nat) (as : List Value) : List Value := as ++ List.replicate (mL j - as.length) (.long 0)
theorem en_args_mem : ∀ (vs : List Value) (k j : Nat) (v : Value), (∀ w ∈ vs, w.category = 1) → vs[j]? = some v → (k + j, v) ∈ lv_args k vs := by
  intro vs
  induction vs with
  | nil => intro k j v _ h; simp at h
  | cons a l ih =>
    intro k j v hc h
    have ha : a.category = 1 := hc a List.mem_cons_self
    unfold lv_args
    cases j with
    | zero =>
      simp at h
      subst h
      exact List.mem_cons_self
    | succ j =>
      refine List.mem_cons_of_mem _ ?_
      rw [if_neg (by omega)]
      have := ih (k + 1) j v (fun w hw => hc w (List.mem_cons_of_mem _ hw)) (by simpa using h)
      rw [show k + (j + 1) = k + 1 + j by omega]
      exact this
theorem en_sl_len : ∀ (vs : List Value), (∀ w ∈ vs, w.category = 1) → (lg_sl vs).length = vs.length := by
  intro vs
  induction vs with
  | nil => intro _; rfl
  | cons a l ih =>
    intro hc
    have ha : a.category = 1 := hc a List.mem_cons_self
    have h2 := ih (fun w hw => hc w (List.mem_cons_of_mem _ hw))
    unfold lg_sl at h2 ⊢
    rw [List.flatMap_cons, if_neg (by omega), List.length_append, h2]
    simp
    omega
theorem en_L_entry {b0 bS n : Nat} {as : List Value} (hc : ∀ v ∈ as, v.category = 1) (hn : as.length ≤ n) :
    en_L b0 bS ((lg_sl (as.map (en_v b0 bS)) ++ List.replicate (n - (lg_sl (as.map (en_v b0 bS))).length) Slot.unset).toArray) n (as ++ List.replicate (n - as.length) (.long 0)) := by
  have hcm : ∀ w ∈ as.map (en_v b0 bS), w.category = 1 := by
    intro w hw
    obtain ⟨v, hv, rfl⟩ := List.mem_map.mp hw
    rw [en_v_cat]
    exact hc v hv
  have hs := en_sl_len _ hcm
  rw [List.length_map] at hs
  have h := lv_entry (as.map (en_v b0 bS)) (n := n) (by rw [hs]; exact hn)
  refine ⟨by rw [List.length_append, List.length_replicate]; omega, h.1, h.2.1, fun q hq => ?_⟩
  obtain ⟨v, hv, hc', he⟩ := en_l_mem.mp hq
  by_cases hq1 : q.1 < as.length
  · rw [List.getElem?_append_left hq1] at hv
    refine h.2.2 q ?_
    have h3 := en_args_mem (as.map (en_v b0 bS)) 0 q.1 q.2 hcm (by rw [List.getElem?_map, hv, he]; rfl)
    rw [Nat.zero_add] at h3
    exact h3
  · rw [List.getElem?_append_right (by omega), List.getElem?_replicate] at hv
    split at hv
    · cases hv
      exact absurd hc' (by decide)
    · cases hv
/-! the context of a frame -/
def en_N (U : State) : Prop := (∀ q ∈ nWF, va_Nw (.fieldLinkNest q.1 q.2.1 q.2.2.1 q.2.2.2.1 q.2.2.2.2.1 q.2.2.2.2.2) U) ∧ (∀ q ∈ nWM, va_Nw (.methodLinkNest q.1 q.2.1 q.2.2.1 q.2.2.2) U) ∧ ∀ C ∈ nA, va_AO C U
theorem en_N.warm {s U : State} (hW : s.WarmedH U.vm) (h : en_N s) : en_N U := ⟨fun q hq => va_Nw.warmF hW (h.1 q hq), fun q hq => va_Nw.warmM hW (h.2.1 q hq), fun C hC => va_AO.moved hW.alike (h.2.2 C hC)⟩
theorem en_N.same {s U : State} (hvm : s.vm = U.vm) (h : en_N s) : en_N U := ⟨fun q hq => va_Nw.same rfl hvm (h.1 q hq), fun q hq => va_Nw.same rfl hvm (h.2.1 q hq), fun C hC => va_AO.moved (by rw [hvm]; exact Vm.Alike.refl _) (h.2.2 C hC)⟩
def en_rt (i : Nat) (ins : Instr) (r : Option Value) : Prop :=
  (ins = .ireturn ∧ mR i = some .int ∧ ∃ x, r = some (.int x)) ∨ (ins = .ireturn ∧ mR i = some .boolean ∧ ∃ x : Int32, r = some (.int x) ∧ (x = 0 ∨ x = 1)) ∨ (ins = .return_ ∧ mR i = none ∧ r = none) ∨ (ins = .areturn ∧ (∃ C, mR i = some (.object C)) ∧ ∃ a, r = some (.ref a))
def en_ok (p : Program) (R : Room) (s : State) (m : MethodId) (args : Array Value) (meth : Method) (c : Code) (D : va_G) (cA : Nat → ClassId) (b0 bS LS z0 y0 nc ns : Nat) (xs : Nat → Int32) (i : Nat) : Prop :=
  p.tables.exec = Jvm.exec ∧ c.code = mB i ∧ c.maxLocals = mL i ∧ s.vm.findClass (oY (mO i)) = some m.cls ∧ (∀ w ∈ ew, w.before args s = true) ∧ en_N s ∧ va_K D vwCl (en_ty cA) s ∧ (((mY i).name = "<init>" → meth.name = "<init>") ∧ meth.sig.returnType = mR i ∧ meth.locks = false) ∧ (mK i ≤ R.frames ∧ mQ i ≤ R.locals) ∧ va_X bS LS xs s s.heap ∧ (bS < b0 ∧ s.heap.size + 1 = b0 + z0 ∧ 1 ≤ z0) ∧ nc ≤ z0 + R.cells ∧ ns ≤ y0 + R.slots
def en_at (s : State) (D : va_G) (cA : Nat → ClassId) (b0 bS LS z0 y0 nc ns : Nat) (xs : Nat → Int32) (M : en_M) (H : Heap) (locs : List Loc) (cells slots : Nat) : Prop :=
  va_P D vwCl (en_w b0 bS cA M) H ∧ va_S (fun q => b0 ≤ q) s.heap H locs ∧ (cells + z0 = M.1.length ∧ slots + y0 = en_sl M) ∧ (M.1.length ≤ nc ∧ en_sl M ≤ ns) ∧ M.1[0]? = some (99, LS) ∧ ∀ k, k < LS → M.2.1 0 k = xs k
def en_Go (nc ns i pc : Nat) (L st : List Value) (M : en_M) (P : Option Value → en_M → Prop) : Prop :=
  ∀ (p : Program) (l : Launch) (e : Env) (R : Room) (s : State) (m : MethodId) (args : Array Value) (below : List Frame) (meth : Method) (c : Code) (Q : State → Prop) (D : va_G) (cA : Nat → ClassId) (b0 bS LS z0 y0 : Nat) (xs : Nat → Int32),
    en_ok p R s m args meth c D cA b0 bS LS z0 y0 nc ns xs i →
    (∀ (r : Option Value) (M' : en_M) (pc' : Nat) (ls' : Array Slot) (H : Heap) (locs : List Loc) (cells slots : Nat) (ins : Instr), P r M' → M'.1.length = nc → en_sl M' = ns → decode (mB i) pc' = .ok (ins, 1) → en_rt i ins r →
      en_at s D cA b0 bS LS z0 y0 nc ns xs M' H locs cells slots → W p l e R s m args below meth c H locs cells slots Q (F0 m pc' ls' (r.toList.map (en_v b0 bS)))) →
    ∀ (H : Heap) (locs : List Loc) (cells slots : Nat) (ls : Array Slot), en_at s D cA b0 bS LS z0 y0 nc ns xs M H locs cells slots → en_L b0 bS ls (mL i) L →
      W p l e R s m args below meth c H locs cells slots Q (F0 m pc ls (st.map (en_v b0 bS)))
/-! what an instruction is, with the next place -/
def en_d (i pc : Nat) (ins : Instr) (n pc' : Nat) : Prop := decode (mB i) pc = .ok (ins, n) ∧ pc + n = pc'
def en_j (i pc : Nat) (ins : Int → Instr) (pc' tgt : Nat) : Prop := ∃ off : Int, decode (mB i) pc = .ok (ins off, 3) ∧ (pc : Int) + off = (tgt : Int) ∧ pc + 3 = pc'
def en_df (i pc ci k : Nat) (nb rf : Bool) (pc' : Nat) : Prop := ∃ idx : Nat, decode (mB i) pc = .ok (.getfield idx, 3) ∧ kF (mO i) idx = some (ci, k, nb) ∧ en_xr ci k = rf ∧ pc + 3 = pc'
def en_dp (i pc ci k : Nat) (nb : Bool) (ty : FieldType) (pc' : Nat) : Prop := ∃ idx : Nat, decode (mB i) pc = .ok (.putfield idx, 3) ∧ kF (mO i) idx = some (ci, k, nb) ∧ xT ci k = ty ∧ pc + 3 = pc'
section ENR
variable {nc ns i pc pc' tgt : Nat} {L L' st : List Value} {M : en_M} {P : Option Value → en_M → Prop}
/-- a step that leaves memory and locals -/
theorem en_st {st' : List Value} (h : ∀ (p : Program) (l : Launch) (e : Env) (R : Room) (s : State) (m : MethodId) (args : Array Value) (below : List Frame) (meth : Method) (c : Code) (Q : State → Prop) (b0 bS : Nat) (H : Heap) (locs : List Loc) (cells slots : Nat) (ls : Array Slot),
      p.tables.exec = Jvm.exec → c.code = mB i → en_L b0 bS ls (mL i) L → W p l e R s m args below meth c H locs cells slots Q (F0 m pc' ls (st'.map (en_v b0 bS))) → W p l e R s m args below meth c H locs cells slots Q (F0 m pc ls (st.map (en_v b0 bS))))
    (k : en_Go nc ns i pc' L st' M P) : en_Go nc ns i pc L st M P := by
  intro p l e R s m args below meth c Q D cA b0 bS LS z0 y0 xs ok hr H locs cells slots ls hat hL
  exact h p l e R s m args below meth c Q b0 bS H locs cells slots ls ok.1 ok.2.1 hL (k p l e R s m args below meth c Q D cA b0 bS LS z0 y0 xs ok hr H locs cells slots ls hat hL)
theorem en_iconst {n : Int} {v : Int32} (hd : en_d i pc (.iconst n) 1 pc') (hv : Int32.ofInt n = v) (k : en_Go nc ns i pc' L (.int v :: st) M P) : en_Go nc ns i pc L st M P := by
  obtain ⟨hd, rfl⟩ := hd
  exact en_st (fun _ _ _ _ _ _ _ _ _ _ _ _ _ _ _ _ _ _ hx hb _ kk => lv_iconst hx hb hd hv kk) k
theorem en_bipush {n : Int} {v : Int32} (hd : en_d i pc (.bipush n) 2 pc') (hv : (Int8.ofInt n).toInt32 = v) (k : en_Go nc ns i pc' L (.int v :: st) M P) : en_Go nc ns i pc L st M P := by
  obtain ⟨hd, rfl⟩ := hd
  exact en_st (fun _ _ _ _ _ _ _ _ _ _ _ _ _ _ _ _ _ _ hx hb _ kk => lv_bipush hx hb hd hv kk) k
theorem en_sipush {n : Int} {v : Int32} (hd : en_d i pc (.sipush n) 3 pc') (hv : (Int16.ofInt n).toInt32 = v) (k : en_Go nc ns i pc' L (.int v :: st) M P) : en_Go nc ns i pc L st M P := by
  obtain ⟨hd, rfl⟩ := hd
  exact en_st (fun _ _ _ _ _ _ _ _ _ _ _ _ _ _ _ _ _ _ hx hb _ kk => lv_sipush hx hb hd hv kk) k
theorem en_iload_n {j : Fin 4} {x : Int32} (hd : en_d i pc (.iload_n j) 1 pc') (hl : L[j.val]? = some (.int x)) (k : en_Go nc ns i pc' L (.int x :: st) M P) : en_Go nc ns i pc L st M P := by
  obtain ⟨hd, rfl⟩ := hd
  exact en_st (fun _ _ _ _ _ _ _ _ _ _ _ b0 bS _ _ _ _ _ hx hb hL kk => lv_iload_n hx hb hd rfl (en_L_at hL hl rfl) kk) k
theorem en_iload {j : Nat} {x : Int32} (hd : en_d i pc (.iload j) 2 pc') (hl : L[j]? = some (.int x)) (k : en_Go nc ns i pc' L (.int x :: st) M P) : en_Go nc ns i pc L st M P := by
  obtain ⟨hd, rfl⟩ := hd
  exact en_st (fun _ _ _ _ _ _ _ _ _ _ _ b0 bS _ _ _ _ _ hx hb hL kk => lv_iload hx hb hd (en_L_at hL hl rfl) kk) k
theorem en_aload_n {j : Fin 4} {x : Nat} (hd : en_d i pc (.aload_n j) 1 pc') (hl : L[j.val]? = some (.ref x)) (k : en_Go nc ns i pc' L (.ref x :: st) M P) : en_Go nc ns i pc L st M P := by
  obtain ⟨hd, rfl⟩ := hd
  exact en_st (fun _ _ _ _ _ _ _ _ _ _ _ b0 bS _ _ _ _ _ hx hb hL kk => lv_aload_n hx hb hd rfl (en_L_at hL hl rfl) kk) k
theorem en_aload {j x : Nat} (hd : en_d i pc (.aload j) 2 pc') (hl : L[j]? = some (.ref x)) (k : en_Go nc ns i pc' L (.ref x :: st) M P) : en_Go nc ns i pc L st M P := by
  obtain ⟨hd, rfl⟩ := hd
  exact en_st (fun _ _ _ _ _ _ _ _ _ _ _ b0 bS _ _ _ _ _ hx hb hL kk => lv_aload hx hb hd (en_L_at hL hl rfl) kk) k
theorem en_istore_n {j : Fin 4} {x : Int32} (hd : en_d i pc (.istore_n j) 1 pc') (hn : j.val < mL i) (hl : L.set j.val (.int x) = L') (k : en_Go nc ns i pc' L' st M P) : en_Go nc ns i pc L (.int x :: st) M P := by
  obtain ⟨hd, rfl⟩ := hd
  subst hl
  intro p l e R s m args below meth c Q D cA b0 bS LS z0 y0 xs ok hr H locs cells slots ls hat hL
  exact lv_istore_n ok.1 ok.2.1 hd rfl hL.2 hn rfl (fun ls' h' => k p l e R s m args below meth c Q D cA b0 bS LS z0 y0 xs ok hr H locs cells slots ls' hat (en_L_set (v := .int x) hL.1 h'))
theorem en_istore {j : Nat} {x : Int32} (hd : en_d i pc (.istore j) 2 pc') (hn : j < mL i) (hl : L.set j (.int x) = L') (k : en_Go nc ns i pc' L' st M P) : en_Go nc ns i pc L (.int x :: st) M P := by
  obtain ⟨hd, rfl⟩ := hd
  subst hl
  intro p l e R s m args below meth c Q D cA b0 bS LS z0 y0 xs ok hr H locs cells slots ls hat hL
  exact lv_istore ok.1 ok.2.1 hd hL.2 hn rfl (fun ls' h' => k p l e R s m args below meth c Q D cA b0 bS LS z0 y0 xs ok hr H locs cells slots ls' hat (en_L_set (v := .int x) hL.1 h'))
theorem en_astore_n {j : Fin 4} {x : Nat} (hd : en_d i pc (.astore_n j) 1 pc') (hn : j.val < mL i) (hl : L.set j.val (.ref x) = L') (k : en_Go nc ns i pc' L' st M P) : en_Go nc ns i pc L (.ref x :: st) M P := by
  obtain ⟨hd, rfl⟩ := hd
  subst hl
  intro p l e R s m args below meth c Q D cA b0 bS LS z0 y0 xs ok hr H locs cells slots ls hat hL
  exact lv_astore_n ok.1 ok.2.1 hd rfl hL.2 hn rfl (fun ls' h' => k p l e R s m args below meth c Q D cA b0 bS LS z0 y0 xs ok hr H locs cells slots ls' hat (en_L_set (v := .ref x) hL.1 h'))
theorem en_astore {j x : Nat} (hd : en_d i pc (.astore j) 2 pc') (hn : j < mL i) (hl : L.set j (.ref x) = L') (k : en_Go nc ns i pc' L' st M P) : en_Go nc ns i pc L (.ref x :: st) M P := by
  obtain ⟨hd, rfl⟩ := hd
  subst hl
  intro p l e R s m args below meth c Q D cA b0 bS LS z0 y0 xs ok hr H locs cells slots ls hat hL
  exact lv_astore ok.1 ok.2.1 hd hL.2 hn rfl (fun ls' h' => k p l e R s m args below meth c Q D cA b0 bS LS z0 y0 xs ok hr H locs cells slots ls' hat (en_L_set (v := .ref x) hL.1 h'))
theorem en_iinc {j : Nat} {n : Int} {x : Int32} (hd : en_d i pc (.iinc j n) 3 pc') (hg : L[j]? = some (.int x)) (hn : j < mL i) (hl : L.set j (.int (x + Int32.ofInt n)) = L') (k : en_Go nc ns i pc' L' st M P) : en_Go nc ns i pc L st M P := by
  obtain ⟨hd, rfl⟩ := hd
  subst hl
  intro p l e R s m args below meth c Q D cA b0 bS LS z0 y0 xs ok hr H locs cells slots ls hat hL
  obtain ⟨kk, hkk⟩ := List.getElem?_of_mem (en_l_mem.mpr ⟨_, hg, rfl, rfl⟩ : (j, en_v b0 bS (.int x)) ∈ en_l b0 bS L)
  exact lv_iinc ok.1 ok.2.1 hd hL.2 (k := kk) hkk rfl hn rfl (fun ls' h' => k p l e R s m args below meth c Q D cA b0 bS LS z0 y0 xs ok hr H locs cells slots ls' hat (en_L_set (v := .int (x + Int32.ofInt n)) hL.1 h'))
theorem en_iadd {x y : Int32} (hd : en_d i pc .iadd 1 pc') (k : en_Go nc ns i pc' L (.int (x + y) :: st) M P) : en_Go nc ns i pc L (.int y :: .int x :: st) M P := by
  obtain ⟨hd, rfl⟩ := hd
  exact en_st (fun _ _ _ _ _ _ _ _ _ _ _ _ _ _ _ _ _ _ hx hb _ kk => lv_iadd hx hb hd kk) k
theorem en_isub {x y : Int32} (hd : en_d i pc .isub 1 pc') (k : en_Go nc ns i pc' L (.int (x - y) :: st) M P) : en_Go nc ns i pc L (.int y :: .int x :: st) M P := by
  obtain ⟨hd, rfl⟩ := hd
  exact en_st (fun _ _ _ _ _ _ _ _ _ _ _ _ _ _ _ _ _ _ hx hb _ kk => lv_isub hx hb hd kk) k
theorem en_imul {x y : Int32} (hd : en_d i pc .imul 1 pc') (k : en_Go nc ns i pc' L (.int (x * y) :: st) M P) : en_Go nc ns i pc L (.int y :: .int x :: st) M P := by
  obtain ⟨hd, rfl⟩ := hd
  exact en_st (fun _ _ _ _ _ _ _ _ _ _ _ _ _ _ _ _ _ _ hx hb _ kk => lv_imul hx hb hd kk) k
theorem en_iand {x y : Int32} (hd : en_d i pc .iand 1 pc') (k : en_Go nc ns i pc' L (.int (x &&& y) :: st) M P) : en_Go nc ns i pc L (.int y :: .int x :: st) M P := by
  obtain ⟨hd, rfl⟩ := hd
  exact en_st (fun _ _ _ _ _ _ _ _ _ _ _ _ _ _ _ _ _ _ hx hb _ kk => lv_iand hx hb hd kk) k
theorem en_ior {x y : Int32} (hd : en_d i pc .ior 1 pc') (k : en_Go nc ns i pc' L (.int (x ||| y) :: st) M P) : en_Go nc ns i pc L (.int y :: .int x :: st) M P := by
  obtain ⟨hd, rfl⟩ := hd
  exact en_st (fun _ _ _ _ _ _ _ _ _ _ _ _ _ _ _ _ _ _ hx hb _ kk => lv_ior hx hb hd kk) k
theorem en_ixor {x y : Int32} (hd : en_d i pc .ixor 1 pc') (k : en_Go nc ns i pc' L (.int (x ^^^ y) :: st) M P) : en_Go nc ns i pc L (.int y :: .int x :: st) M P := by
  obtain ⟨hd, rfl⟩ := hd
  exact en_st (fun _ _ _ _ _ _ _ _ _ _ _ _ _ _ _ _ _ _ hx hb _ kk => lv_ixor hx hb hd kk) k
theorem en_idiv {x y : Int32} (hd : en_d i pc .idiv 1 pc') (hne : ¬ y = 0) (k : en_Go nc ns i pc' L (.int (x / y) :: st) M P) : en_Go nc ns i pc L (.int y :: .int x :: st) M P := by
  obtain ⟨hd, rfl⟩ := hd
  exact en_st (fun _ _ _ _ _ _ _ _ _ _ _ _ _ _ _ _ _ _ hx hb _ kk => lv_idiv hx hb hd hne kk) k
theorem en_irem {x y : Int32} (hd : en_d i pc .irem 1 pc') (hne : ¬ y = 0) (k : en_Go nc ns i pc' L (.int (x - x / y * y) :: st) M P) : en_Go nc ns i pc L (.int y :: .int x :: st) M P := by
  obtain ⟨hd, rfl⟩ := hd
  exact en_st (fun _ _ _ _ _ _ _ _ _ _ _ _ _ _ _ _ _ _ hx hb _ kk => lv_irem hx hb hd hne kk) k
theorem en_ishl {x y : Int32} (hd : en_d i pc .ishl 1 pc') (k : en_Go nc ns i pc' L (.int (x <<< (y &&& 31)) :: st) M P) : en_Go nc ns i pc L (.int y :: .int x :: st) M P := by
  obtain ⟨hd, rfl⟩ := hd
  exact en_st (fun _ _ _ _ _ _ _ _ _ _ _ _ _ _ _ _ _ _ hx hb _ kk => lv_ishl hx hb hd kk) k
theorem en_ishr {x y : Int32} (hd : en_d i pc .ishr 1 pc') (k : en_Go nc ns i pc' L (.int (x >>> (y &&& 31)) :: st) M P) : en_Go nc ns i pc L (.int y :: .int x :: st) M P := by
  obtain ⟨hd, rfl⟩ := hd
  exact en_st (fun _ _ _ _ _ _ _ _ _ _ _ _ _ _ _ _ _ _ hx hb _ kk => lv_ishr hx hb hd kk) k
theorem en_iushr {x y : Int32} (hd : en_d i pc .iushr 1 pc') (k : en_Go nc ns i pc' L (.int ((x.toUInt32 >>> (y.toUInt32 &&& Int32.toUInt32 31)).toInt32) :: st) M P) : en_Go nc ns i pc L (.int y :: .int x :: st) M P := by
  obtain ⟨hd, rfl⟩ := hd
  exact en_st (fun _ _ _ _ _ _ _ _ _ _ _ _ _ _ _ _ _ _ hx hb _ kk => lv_iushr hx hb hd rfl kk) k
theorem en_ineg {x : Int32} (hd : en_d i pc .ineg 1 pc') (k : en_Go nc ns i pc' L (.int (-x) :: st) M P) : en_Go nc ns i pc L (.int x :: st) M P := by
  obtain ⟨hd, rfl⟩ := hd
  exact en_st (fun _ _ _ _ _ _ _ _ _ _ _ _ _ _ _ _ _ _ hx hb _ kk => lv_ineg hx hb hd kk) k
theorem en_dup {v : Value} (hd : en_d i pc .dup 1 pc') (hc : v.category = 1) (k : en_Go nc ns i pc' L (v :: v :: st) M P) : en_Go nc ns i pc L (v :: st) M P := by
  obtain ⟨hd, rfl⟩ := hd
  exact en_st (fun _ _ _ _ _ _ _ _ _ _ _ b0 bS _ _ _ _ _ hx hb _ kk => lv_dup hx hb hd ((en_v_cat b0 bS v).trans hc) kk) k
theorem en_pop {v : Value} (hd : en_d i pc .pop 1 pc') (hc : v.category = 1) (k : en_Go nc ns i pc' L st M P) : en_Go nc ns i pc L (v :: st) M P := by
  obtain ⟨hd, rfl⟩ := hd
  exact en_st (fun _ _ _ _ _ _ _ _ _ _ _ b0 bS _ _ _ _ _ hx hb _ kk => lv_pop hx hb hd ((en_v_cat b0 bS v).trans hc) kk) k
theorem en_dup_x1 {v w : Value} (hd : en_d i pc .dup_x1 1 pc') (hc : v.category = 1) (hw : w.category = 1) (k : en_Go nc ns i pc' L (v :: w :: v :: st) M P) : en_Go nc ns i pc L (v :: w :: st) M P := by
  obtain ⟨hd, rfl⟩ := hd
  exact en_st (fun _ _ _ _ _ _ _ _ _ _ _ b0 bS _ _ _ _ _ hx hb _ kk => lv_dup_x1 hx hb hd ((en_v_cat b0 bS v).trans hc) ((en_v_cat b0 bS w).trans hw) kk) k
theorem en_dup_x2 {v w u : Value} (hd : en_d i pc .dup_x2 1 pc') (hc : v.category = 1) (hw : w.category = 1) (hu : u.category = 1) (k : en_Go nc ns i pc' L (v :: w :: u :: v :: st) M P) : en_Go nc ns i pc L (v :: w :: u :: st) M P := by
  obtain ⟨hd, rfl⟩ := hd
  exact en_st (fun _ _ _ _ _ _ _ _ _ _ _ b0 bS _ _ _ _ _ hx hb _ kk => lv_dup_x2 hx hb hd ((en_v_cat b0 bS v).trans hc) ((en_v_cat b0 bS w).trans hw) ((en_v_cat b0 bS u).trans hu) kk) k
theorem en_dup2 {v w : Value} (hd : en_d i pc .dup2 1 pc') (hc : v.category = 1) (hw : w.category = 1) (k : en_Go nc ns i pc' L (v :: w :: v :: w :: st) M P) : en_Go nc ns i pc L (v :: w :: st) M P := by
  obtain ⟨hd, rfl⟩ := hd
  exact en_st (fun _ _ _ _ _ _ _ _ _ _ _ b0 bS _ _ _ _ _ hx hb _ kk => lv_dup2_11 hx hb hd ((en_v_cat b0 bS v).trans hc) ((en_v_cat b0 bS w).trans hw) kk) k
theorem en_goto (hd : en_j i pc .goto pc' tgt) (k : en_Go nc ns i tgt L st M P) : en_Go nc ns i pc L st M P := by
  obtain ⟨off, hd, ht, rfl⟩ := hd
  exact en_st (fun _ _ _ _ _ _ _ _ _ _ _ _ _ _ _ _ _ _ hx hb _ kk => lv_goto hx hb hd ht kk) k
theorem en_if_eq {x : Int32} (hd : en_j i pc (.ifCond .eq) pc' tgt) (kt : x = 0 → en_Go nc ns i tgt L st M P) (kf : ¬ x = 0 → en_Go nc ns i pc' L st M P) : en_Go nc ns i pc L (.int x :: st) M P := by
  obtain ⟨off, hd, ht, rfl⟩ := hd
  intro p l e R s m args below meth c Q D cA b0 bS LS z0 y0 xs ok hr H locs cells slots ls hat hL
  exact lv_if_eq ok.1 ok.2.1 hd ht (fun h => kt h p l e R s m args below meth c Q D cA b0 bS LS z0 y0 xs ok hr H locs cells slots ls hat hL) (fun h => kf h p l e R s m args below meth c Q D cA b0 bS LS z0 y0 xs ok hr H locs cells slots ls hat hL)
theorem en_if_ne {x : Int32} (hd : en_j i pc (.ifCond .ne) pc' tgt) (kt : ¬ x = 0 → en_Go nc ns i tgt L st M P) (kf : x = 0 → en_Go nc ns i pc' L st M P) : en_Go nc ns i pc L (.int x :: st) M P := by
  obtain ⟨off, hd, ht, rfl⟩ := hd
  intro p l e R s m args below meth c Q D cA b0 bS LS z0 y0 xs ok hr H locs cells slots ls hat hL
  exact lv_if_ne ok.1 ok.2.1 hd ht (fun h => kt h p l e R s m args below meth c Q D cA b0 bS LS z0 y0 xs ok hr H locs cells slots ls hat hL) (fun h => kf h p l e R s m args below meth c Q D cA b0 bS LS z0 y0 xs ok hr H locs cells slots ls hat hL)
theorem en_if_lt {x : Int32} (hd : en_j i pc (.ifCond .lt) pc' tgt) (kt : x < 0 → en_Go nc ns i tgt L st M P) (kf : ¬ x < 0 → en_Go nc ns i pc' L st M P) : en_Go nc ns i pc L (.int x :: st) M P := by
  obtain ⟨off, hd, ht, rfl⟩ := hd
  intro p l e R s m args below meth c Q D cA b0 bS LS z0 y0 xs ok hr H locs cells slots ls hat hL
  exact lv_if_lt ok.1 ok.2.1 hd ht (fun h => kt h p l e R s m args below meth c Q D cA b0 bS LS z0 y0 xs ok hr H locs cells slots ls hat hL) (fun h => kf h p l e R s m args below meth c Q D cA b0 bS LS z0 y0 xs ok hr H locs cells slots ls hat hL)
theorem en_if_ge {x : Int32} (hd : en_j i pc (.ifCond .ge) pc' tgt) (kt : 0 ≤ x → en_Go nc ns i tgt L st M P) (kf : ¬ 0 ≤ x → en_Go nc ns i pc' L st M P) : en_Go nc ns i pc L (.int x :: st) M P := by
  obtain ⟨off, hd, ht, rfl⟩ := hd
  intro p l e R s m args below meth c Q D cA b0 bS LS z0 y0 xs ok hr H locs cells slots ls hat hL
  exact lv_if_ge ok.1 ok.2.1 hd ht (fun h => kt h p l e R s m args below meth c Q D cA b0 bS LS z0 y0 xs ok hr H locs cells slots ls hat hL) (fun h => kf h p l e R s m args below meth c Q D cA b0 bS LS z0 y0 xs ok hr H locs cells slots ls hat hL)
theorem en_if_gt {x : Int32} (hd : en_j i pc (.ifCond .gt) pc' tgt) (kt : 0 < x → en_Go nc ns i tgt L st M P) (kf : ¬ 0 < x → en_Go nc ns i pc' L st M P) : en_Go nc ns i pc L (.int x :: st) M P := by
  obtain ⟨off, hd, ht, rfl⟩ := hd
  intro p l e R s m args below meth c Q D cA b0 bS LS z0 y0 xs ok hr H locs cells slots ls hat hL
  exact lv_if_gt ok.1 ok.2.1 hd ht (fun h => kt h p l e R s m args below meth c Q D cA b0 bS LS z0 y0 xs ok hr H locs cells slots ls hat hL) (fun h => kf h p l e R s m args below meth c Q D cA b0 bS LS z0 y0 xs ok hr H locs cells slots ls hat hL)
theorem en_if_le {x : Int32} (hd : en_j i pc (.ifCond .le) pc' tgt) (kt : x ≤ 0 → en_Go nc ns i tgt L st M P) (kf : ¬ x ≤ 0 → en_Go nc ns i pc' L st M P) : en_Go nc ns i pc L (.int x :: st) M P := by
  obtain ⟨off, hd, ht, rfl⟩ := hd
  intro p l e R s m args below meth c Q D cA b0 bS LS z0 y0 xs ok hr H locs cells slots ls hat hL
  exact lv_if_le ok.1 ok.2.1 hd ht (fun h => kt h p l e R s m args below meth c Q D cA b0 bS LS z0 y0 xs ok hr H locs cells slots ls hat hL) (fun h => kf h p l e R s m args below meth c Q D cA b0 bS LS z0 y0 xs ok hr H locs cells slots ls hat hL)
theorem en_icmp_eq {x y : Int32} (hd : en_j i pc (.if_icmp .eq) pc' tgt) (kt : x = y → en_Go nc ns i tgt L st M P) (kf : ¬ x = y → en_Go nc ns i pc' L st M P) : en_Go nc ns i pc L (.int y :: .int x :: st) M P := by
  obtain ⟨off, hd, ht, rfl⟩ := hd
  intro p l e R s m args below meth c Q D cA b0 bS LS z0 y0 xs ok hr H locs cells slots ls hat hL
  exact lv_icmp_eq ok.1 ok.2.1 hd ht (fun h => kt h p l e R s m args below meth c Q D cA b0 bS LS z0 y0 xs ok hr H locs cells slots ls hat hL) (fun h => kf h p l e R s m args below meth c Q D cA b0 bS LS z0 y0 xs ok hr H locs cells slots ls hat hL)
theorem en_icmp_ne {x y : Int32} (hd : en_j i pc (.if_icmp .ne) pc' tgt) (kt : ¬ x = y → en_Go nc ns i tgt L st M P) (kf : x = y → en_Go nc ns i pc' L st M P) : en_Go nc ns i pc L (.int y :: .int x :: st) M P := by
  obtain ⟨off, hd, ht, rfl⟩ := hd
  intro p l e R s m args below meth c Q D cA b0 bS LS z0 y0 xs ok hr H locs cells slots ls hat hL
  exact lv_icmp_ne ok.1 ok.2.1 hd ht (fun h => kt h p l e R s m args below meth c Q D cA b0 bS LS z0 y0 xs ok hr H locs cells slots ls hat hL) (fun h => kf h p l e R s m args below meth c Q D cA b0 bS LS z0 y0 xs ok hr H locs cells slots ls hat hL)
theorem en_icmp_lt {x y : Int32} (hd : en_j i pc (.if_icmp .lt) pc' tgt) (kt : x < y → en_Go nc ns i tgt L st M P) (kf : ¬ x < y → en_Go nc ns i pc' L st M P) : en_Go nc ns i pc L (.int y :: .int x :: st) M P := by
  obtain ⟨off, hd, ht, rfl⟩ := hd
  intro p l e R s m args below meth c Q D cA b0 bS LS z0 y0 xs ok hr H locs cells slots ls hat hL
  exact lv_icmp_lt ok.1 ok.2.1 hd ht (fun h => kt h p l e R s m args below meth c Q D cA b0 bS LS z0 y0 xs ok hr H locs cells slots ls hat hL) (fun h => kf h p l e R s m args below meth c Q D cA b0 bS LS z0 y0 xs ok hr H locs cells slots ls hat hL)
theorem en_icmp_ge {x y : Int32} (hd : en_j i pc (.if_icmp .ge) pc' tgt) (kt : y ≤ x → en_Go nc ns i tgt L st M P) (kf : ¬ y ≤ x → en_Go nc ns i pc' L st M P) : en_Go nc ns i pc L (.int y :: .int x :: st) M P := by
  obtain ⟨off, hd, ht, rfl⟩ := hd
  intro p l e R s m args below meth c Q D cA b0 bS LS z0 y0 xs ok hr H locs cells slots ls hat hL
  exact lv_icmp_ge ok.1 ok.2.1 hd ht (fun h => kt h p l e R s m args below meth c Q D cA b0 bS LS z0 y0 xs ok hr H locs cells slots ls hat hL) (fun h => kf h p l e R s m args below meth c Q D cA b0 bS LS z0 y0 xs ok hr H locs cells slots ls hat hL)
theorem en_icmp_gt {x y : Int32} (hd : en_j i pc (.if_icmp .gt) pc' tgt) (kt : y < x → en_Go nc ns i tgt L st M P) (kf : ¬ y < x → en_Go nc ns i pc' L st M P) : en_Go nc ns i pc L (.int y :: .int x :: st) M P := by
  obtain ⟨off, hd, ht, rfl⟩ := hd
  intro p l e R s m args below meth c Q D cA b0 bS LS z0 y0 xs ok hr H locs cells slots ls hat hL
  exact lv_icmp_gt ok.1 ok.2.1 hd ht (fun h => kt h p l e R s m args below meth c Q D cA b0 bS LS z0 y0 xs ok hr H locs cells slots ls hat hL) (fun h => kf h p l e R s m args below meth c Q D cA b0 bS LS z0 y0 xs ok hr H locs cells slots ls hat hL)
theorem en_icmp_le {x y : Int32} (hd : en_j i pc (.if_icmp .le) pc' tgt) (kt : x ≤ y → en_Go nc ns i tgt L st M P) (kf : ¬ x ≤ y → en_Go nc ns i pc' L st M P) : en_Go nc ns i pc L (.int y :: .int x :: st) M P := by
  obtain ⟨off, hd, ht, rfl⟩ := hd
  intro p l e R s m args below meth c Q D cA b0 bS LS z0 y0 xs ok hr H locs cells slots ls hat hL
  exact lv_icmp_le ok.1 ok.2.1 hd ht (fun h => kt h p l e R s m args below meth c Q D cA b0 bS LS z0 y0 xs ok hr H locs cells slots ls hat hL) (fun h => kf h p l e R s m args below meth c Q D cA b0 bS LS z0 y0 xs ok hr H locs cells slots ls hat hL)
theorem en_look {x : Int32} {dflt off : Int} {ps : Array (Int × Int)} {len : Nat} (hd : decode (mB i) pc = .ok (.lookupswitch dflt ps, len)) (hp : (ps.toList.zip (ps.toList.drop 1)).all (fun (a, next) => a.1 < next.1) = true) (ho : Op.lookupswitch.offset ps.toList dflt x.toInt = off) (ht : (pc : Int) + off = (tgt : Int)) (k : en_Go nc ns i tgt L st M P) : en_Go nc ns i pc L (.int x :: st) M P :=
  en_st (fun _ _ _ _ _ _ _ _ _ _ _ _ _ _ _ _ _ _ hx hb _ kk => lv_lookup hx hb hd hp ho ht kk) k
theorem en_tabO {x : Int32} {dflt lo hi : Int} {offs : Array Int} {len : Nat} (hd : decode (mB i) pc = .ok (.tableswitch dflt lo hi offs, len)) (h : x.toInt < lo ∨ hi < x.toInt) (ht : (pc : Int) + dflt = (tgt : Int)) (k : en_Go nc ns i tgt L st M P) : en_Go nc ns i pc L (.int x :: st) M P :=
  en_st (fun _ _ _ _ _ _ _ _ _ _ _ _ _ _ _ _ _ _ hx hb _ kk => lv_tableOut hx hb hd h ht kk) k
theorem en_tabI {x : Int32} {dflt lo hi off : Int} {offs : Array Int} {len : Nat} (hd : decode (mB i) pc = .ok (.tableswitch dflt lo hi offs, len)) (h1 : ¬ x.toInt < lo) (h2 : ¬ hi < x.toInt) (ho : offs[(x.toInt - lo).toNat]? = some off) (ht : (pc : Int) + off = (tgt : Int)) (k : en_Go nc ns i tgt L st M P) : en_Go nc ns i pc L (.int x :: st) M P :=
  en_st (fun _ _ _ _ _ _ _ _ _ _ _ _ _ _ _ _ _ _ hx hb _ kk => lv_tableIn hx hb hd h1 h2 ho ht kk) k
/-! returns -/
theorem en_reti {x : Int32} (hd : en_d i pc .ireturn 1 pc') (hR : mR i = some .int) (hc : M.1.length = nc) (hs : en_sl M = ns) (hP : P (some (.int x)) M) : en_Go nc ns i pc L [.int x] M P := by
  intro p l e R s m args below meth c Q D cA b0 bS LS z0 y0 xs ok hr H locs cells slots ls hat hL
  exact hr (some (.int x)) M pc ls H locs cells slots .ireturn hP hc hs hd.1 (Or.inl ⟨rfl, hR, x, rfl⟩) hat
theorem en_retz {x : Int32} (hd : en_d i pc .ireturn 1 pc') (hR : mR i = some .boolean) (hc : M.1.length = nc) (hs : en_sl M = ns) (hx : x = 0 ∨ x = 1) (hP : P (some (.int x)) M) : en_Go nc ns i pc L [.int x] M P := by
  intro p l e R s m args below meth c Q D cA b0 bS LS z0 y0 xs ok hr H locs cells slots ls hat hL
  exact hr (some (.int x)) M pc ls H locs cells slots .ireturn hP hc hs hd.1 (Or.inr (Or.inl ⟨rfl, hR, x, rfl, hx⟩)) hat
theorem en_retv (hd : en_d i pc .return_ 1 pc') (hR : mR i = none) (hc : M.1.length = nc) (hs : en_sl M = ns) (hP : P none M) : en_Go nc ns i pc L [] M P := by
  intro p l e R s m args below meth c Q D cA b0 bS LS z0 y0 xs ok hr H locs cells slots ls hat hL
  exact hr none M pc ls H locs cells slots .return_ hP hc hs hd.1 (Or.inr (Or.inr (Or.inl ⟨rfl, hR, rfl⟩))) hat
theorem en_reta {a : Nat} (hd : en_d i pc .areturn 1 pc') (hR : ∃ C, mR i = some (.object C)) (hc : M.1.length = nc) (hs : en_sl M = ns) (hP : P (some (.ref a)) M) : en_Go nc ns i pc L [.ref a] M P := by
  intro p l e R s m args below meth c Q D cA b0 bS LS z0 y0 xs ok hr H locs cells slots ls hat hL
  exact hr (some (.ref a)) M pc ls H locs cells slots .areturn hP hc hs hd.1 (Or.inr (Or.inr (Or.inr ⟨rfl, hR, a, rfl⟩))) hat
/-- the end may be weaker -/
theorem en_mono {P' : Option Value → en_M → Prop} (h : ∀ r M', P' r M' → P r M') (k : en_Go nc ns i pc L st M P') : en_Go nc ns i pc L st M P := by
  intro p l e R s m args below meth c Q D cA b0 bS LS z0 y0 xs ok hr H locs cells slots ls hat hL
  exact k p l e R s m args below meth c Q D cA b0 bS LS z0 y0 xs ok (fun r M' pc' ls' H locs cells slots ins hP => hr r M' pc' ls' H locs cells slots ins (h r M' hP)) H locs cells slots ls hat hL
end ENR
/-! fields -/
section ENF
variable {p : Program} {l : Launch} {e : Env} {R : Room} {s : State} {m : MethodId} {args : Array Value} {below : List Frame} {meth : Method} {c : Code} {Q : State → Prop} {D : va_G} {cA : Nat → ClassId} {b0 bS LS z0 y0 nc ns : Nat} {xs : Nat → Int32} {i pc : Nat} {H : Heap} {locs : List Loc} {cells slots : Nat} {ls : Array Slot} {rest : List Value} {M M' : en_M}
theorem en_pos {a : Nat} {q : Nat × Nat} (hat : en_at s D cA b0 bS LS z0 y0 nc ns xs M H locs cells slots) (hs : M.1[a]? = some q) (hq : q.1 ≠ 99) : ∃ a', a = a' + 1 := by
  cases a with
  | zero => exact absurd (by rw [hat.2.2.2.2.1] at hs; exact (congrArg Prod.fst (Option.some.inj hs)).symm) hq
  | succ a => exact ⟨a, rfl⟩
theorem en_getW {idx ci k a n : Nat} {nb : Bool} {v : Value} (ok : en_ok p R s m args meth c D cA b0 bS LS z0 y0 nc ns xs i) (hat : en_at s D cA b0 bS LS z0 y0 nc ns xs M H locs cells slots) (hF : kF (mO i) idx = some (ci, k, nb)) (hdg : decode (mB i) pc = .ok (.getfield idx, 3))
    (hs : M.1[a]? = some (ci, n)) (hn : k < n) (hv : en_f b0 bS M ci a k = v) (kk : W p l e R s m args below meth c H locs cells slots Q (F0 m (pc + 3) ls (v :: rest))) : W p l e R s m args below meth c H locs cells slots Q (F0 m pc ls (.ref (en_ad b0 bS a) :: rest)) := by
  obtain ⟨C, T, N, host, hc, hk, hC, hl0, hl1⟩ := T_F hF
  obtain ⟨hin, hty, hnm, -, -, h99⟩ := T_cls hc
  obtain ⟨a', rfl⟩ := en_pos hat hs (by show ci ≠ 99; omega)
  have he : (en_w b0 bS cA M)[a']? = some (b0 + a', .inr (ci, (List.range n).map (en_f b0 bS M ci (a' + 1)))) := by
    rw [en_w_at hs]
    simp [en_e, h99]
  have hv' : ((List.range n).map (en_f b0 bS M ci (a' + 1)))[k]? = some v := by
    rw [List.getElem?_map, List.getElem?_range hn]
    simp [hv]
  obtain ⟨hx, hb, hml, hown, hts, hN, hK, -⟩ := ok
  cases nb with
  | false => exact va_get hx hb hts hin hown hK hat.1 a' he hc k hk (hts _ (hl0 rfl)) (fun x h => by rw [hC] at h; exact h) hv' hdg kk
  | true => exact va_getN hx hb hts hin hown hK hat.1 a' he hc k hk (va_Nw.use rfl (hN.1 _ (hl1 rfl))) (fun x h => by rw [hC] at h; exact h) hv' hdg kk
/-- a write is done: the memory M' in the place of M -/
theorem en_at_set {a' : Nat} {q : Nat × Nat} {e' : va_E} {H1 : Heap} {locs1 : List Loc} (hat : en_at s D cA b0 bS LS z0 y0 nc ns xs M H locs cells slots) (hs : M.1[a' + 1]? = some q) (h1 : M'.1 = M.1) (h2 : ∀ b, b ≠ a' + 1 → M'.2.1 b = M.2.1 b) (h3 : ∀ b, b ≠ a' + 1 → M'.2.2 b = M.2.2 b) (he : en_e b0 bS cA M' (a' + 1) q = e')
    (hP : va_P D vwCl ((en_w b0 bS cA M).set a' (b0 + a', e')) H1) (hS : va_S (fun q => b0 ≤ q) s.heap H1 locs1) : en_at s D cA b0 bS LS z0 y0 nc ns xs M' H1 locs1 cells slots := by
  refine ⟨?_, hS, ?_, ?_, by rw [h1]; exact hat.2.2.2.2.1, fun k hk => ?_⟩
  · rw [en_w_set hs h1 h2 h3, he]
    exact hP
  · have := hat.2.2.1
    unfold en_sl at this ⊢
    rw [h1]
    exact this
  · have := hat.2.2.2.1
    unfold en_sl at this ⊢
    rw [h1]
    exact this
  · rw [h2 0 (by omega)]
    exact hat.2.2.2.2.2 k hk
theorem en_putW {idx ci k a n : Nat} {nb : Bool} {v : Value} (ok : en_ok p R s m args meth c D cA b0 bS LS z0 y0 nc ns xs i) (hat : en_at s D cA b0 bS LS z0 y0 nc ns xs M H locs cells slots) (hF : kF (mO i) idx = some (ci, k, nb)) (hdg : decode (mB i) pc = .ok (.putfield idx, 3))
    (hs : M.1[a]? = some (ci, n)) (hn : k < n) (hnw : narrow (xT ci k) v = v) (hft : fits (xT ci k) v = true) (hini : kI ci k = true → nb = false ∧ (mY i).name = "<init>" ∧ mO i = ci)
    (h1 : M'.1 = M.1) (h2 : ∀ b, b ≠ a → M'.2.1 b = M.2.1 b) (h3 : ∀ b, b ≠ a → M'.2.2 b = M.2.2 b) (ho : ∀ j, j ≠ k → en_f b0 bS M' ci a j = en_f b0 bS M ci a j) (hv : en_f b0 bS M' ci a k = v)
    (kk : ∀ (H1 : Heap) (locs1 : List Loc), en_at s D cA b0 bS LS z0 y0 nc ns xs M' H1 locs1 cells slots → W p l e R s m args below meth c H1 locs1 cells slots Q (F0 m (pc + 3) ls rest)) : W p l e R s m args below meth c H locs cells slots Q (F0 m pc ls (v :: .ref (en_ad b0 bS a) :: rest)) := by
  obtain ⟨C, T, N, host, hc, hk, hC, hl0, hl1⟩ := T_F hF
  obtain ⟨hin, hty, hnm, -, -, h99⟩ := T_cls hc
  obtain ⟨a', rfl⟩ := en_pos hat hs (by show ci ≠ 99; omega)
  have he : (en_w b0 bS cA M)[a']? = some (b0 + a', .inr (ci, (List.range n).map (en_f b0 bS M ci (a' + 1)))) := by
    rw [en_w_at hs]
    simp [en_e, h99]
  have he' : en_e b0 bS cA M' (a' + 1) (ci, n) = .inr (ci, ((List.range n).map (en_f b0 bS M ci (a' + 1))).set k v) := by
    rw [en_fs_set hn ho hv]
    simp [en_e, h99]
  have hlen : k < ((List.range n).map (en_f b0 bS M ci (a' + 1))).length := by simpa using hn
  have hfl := T_I hc hk
  obtain ⟨hx, hb, hml, hown, hts, hN, hK, ⟨hmn, -⟩, -⟩ := ok
  have go : ∀ (H1 : Heap) (locs1 : List Loc), va_P D vwCl ((en_w b0 bS cA M).set a' (b0 + a', .inr (ci, ((List.range n).map (en_f b0 bS M ci (a' + 1))).set k v))) H1 → va_D (fun q => b0 ≤ q) ((en_w b0 bS cA M).set a' (b0 + a', .inr (ci, ((List.range n).map (en_f b0 bS M ci (a' + 1))).set k v))) → va_S (fun q => b0 ≤ q) s.heap H1 locs1 → W p l e R s m args below meth c H1 locs1 cells slots Q (F0 m (pc + 3) ls rest) :=
    fun H1 locs1 hP _ hS => kk H1 locs1 (en_at_set hat hs h1 h2 h3 he' hP hS)
  cases hfin : (T k).2.2.2 with
  | true =>
    obtain ⟨e1, e2, e3⟩ := hini (hfl.trans hfin)
    subst e1
    exact va_putF hx hb hts hin (xT ci) hty hnm hown hK hat.1 en_w_D hat.2.1 a' he hc k hk (hts _ (hl0 rfl)) (fun x h => by rw [hC] at h; exact h) hfin (hmn e2) (by rw [hC, e3]; exact T_oY hc) (hty k hk) hnw hft hlen hdg go
  | false =>
    cases nb with
    | false => exact va_put hx hb hts hin (xT ci) hty hnm hown hK hat.1 en_w_D hat.2.1 a' he hc k hk (hts _ (hl0 rfl)) (fun x h => by rw [hC] at h; exact h) hfin (hty k hk) hnw hft hlen hdg go
    | true => exact va_putN hx hb hts hin (xT ci) hty hnm hown hK hat.1 en_w_D hat.2.1 a' he hc k hk (va_Nw.use rfl (hN.1 _ (hl1 rfl))) (fun x h => by rw [hC] at h; exact h) hfin (hty k hk) hnw hft hlen hdg go
end ENF
section ENG
variable {nc ns i pc pc' tgt : Nat} {L L' st : List Value} {M : en_M} {P : Option Value → en_M → Prop} {a ci k n : Nat} {nb : Bool}
theorem en_geti (hd : en_df i pc ci k nb false pc') (hs : M.1[a]? = some (ci, n)) (hn : k < n) (kk : en_Go nc ns i pc' L (.int (M.2.1 a k) :: st) M P) : en_Go nc ns i pc L (.ref a :: st) M P := by
  obtain ⟨idx, hd, hF, hx, rfl⟩ := hd
  intro p l e R s m args below meth c Q D cA b0 bS LS z0 y0 xs ok hr H locs cells slots ls hat hL
  exact en_getW ok hat hF hd hs hn (v := .int (M.2.1 a k)) (by simp [en_f, hx]) (kk p l e R s m args below meth c Q D cA b0 bS LS z0 y0 xs ok hr H locs cells slots ls hat hL)
theorem en_getr {b : Nat} (hd : en_df i pc ci k nb true pc') (hs : M.1[a]? = some (ci, n)) (hn : k < n) (hb : M.2.2 a k = some b) (kk : en_Go nc ns i pc' L (.ref b :: st) M P) : en_Go nc ns i pc L (.ref a :: st) M P := by
  obtain ⟨idx, hd, hF, hx, rfl⟩ := hd
  intro p l e R s m args below meth c Q D cA b0 bS LS z0 y0 xs ok hr H locs cells slots ls hat hL
  exact en_getW ok hat hF hd hs hn (v := .ref (en_ad b0 bS b)) (by simp [en_f, hx, hb, va_rf]) (kk p l e R s m args below meth c Q D cA b0 bS LS z0 y0 xs ok hr H locs cells slots ls hat hL)
theorem en_puti {x : Int32} (hd : en_dp i pc ci k nb .int pc') (hini : kI ci k = true → nb = false ∧ (mY i).name = "<init>" ∧ mO i = ci) (hs : M.1[a]? = some (ci, n)) (hn : k < n) (kk : en_Go nc ns i pc' L st (M.1, en_u2 M.2.1 a k x, M.2.2) P) : en_Go nc ns i pc L (.int x :: .ref a :: st) M P := by
  obtain ⟨idx, hd, hF, hx, rfl⟩ := hd
  intro p l e R s m args below meth c Q D cA b0 bS LS z0 y0 xs ok hr H locs cells slots ls hat hL
  exact en_putW (M' := (M.1, en_u2 M.2.1 a k x, M.2.2)) (v := .int x) ok hat hF hd hs hn (by rw [hx]; rfl) (by rw [hx]; rfl) hini rfl (fun b hb => en_u2_off hb) (fun b hb => rfl)
    (fun j hj => by simp [en_f, en_u2, hj]) (by simp [en_f, en_u2, en_xr, hx])
    (fun H1 locs1 hat1 => kk p l e R s m args below meth c Q D cA b0 bS LS z0 y0 xs ok hr H1 locs1 cells slots ls hat1 hL)
theorem en_putz {x : Int32} (hd : en_dp i pc ci k nb .boolean pc') (hini : kI ci k = true → nb = false ∧ (mY i).name = "<init>" ∧ mO i = ci) (hs : M.1[a]? = some (ci, n)) (hn : k < n) (hx1 : x = 0 ∨ x = 1) (kk : en_Go nc ns i pc' L st (M.1, en_u2 M.2.1 a k x, M.2.2) P) : en_Go nc ns i pc L (.int x :: .ref a :: st) M P := by
  obtain ⟨idx, hd, hF, hx, rfl⟩ := hd
  intro p l e R s m args below meth c Q D cA b0 bS LS z0 y0 xs ok hr H locs cells slots ls hat hL
  exact en_putW (M' := (M.1, en_u2 M.2.1 a k x, M.2.2)) (v := .int x) ok hat hF hd hs hn (by rw [hx]; rcases hx1 with rfl | rfl <;> rfl) (by rw [hx]; rcases hx1 with rfl | rfl <;> rfl) hini rfl (fun b hb => en_u2_off hb) (fun b hb => rfl)
    (fun j hj => by simp [en_f, en_u2, hj]) (by simp [en_f, en_u2, en_xr, hx])
    (fun H1 locs1 hat1 => kk p l e R s m args below meth c Q D cA b0 bS LS z0 y0 xs ok hr H1 locs1 cells slots ls hat1 hL)
theorem en_putr {b : Nat} {ty : FieldType} (hd : en_dp i pc ci k nb ty pc') (hty : (∃ C, ty = .object C) ∨ ∃ t, ty = .array t) (hini : kI ci k = true → nb = false ∧ (mY i).name = "<init>" ∧ mO i = ci) (hs : M.1[a]? = some (ci, n)) (hn : k < n) (kk : en_Go nc ns i pc' L st (M.1, M.2.1, en_u2 M.2.2 a k (some b)) P) : en_Go nc ns i pc L (.ref b :: .ref a :: st) M P := by
  obtain ⟨idx, hd, hF, hx, rfl⟩ := hd
  have hxr : en_xr ci k = true := by unfold en_xr; rcases hty with ⟨C, rfl⟩ | ⟨t, rfl⟩ <;> rw [hx]
  intro p l e R s m args below meth c Q D cA b0 bS LS z0 y0 xs ok hr H locs cells slots ls hat hL
  exact en_putW (M' := (M.1, M.2.1, en_u2 M.2.2 a k (some b))) (v := .ref (en_ad b0 bS b)) ok hat hF hd hs hn (by rcases hty with ⟨C, rfl⟩ | ⟨t, rfl⟩ <;> rw [hx] <;> rfl) (by rcases hty with ⟨C, rfl⟩ | ⟨t, rfl⟩ <;> rw [hx] <;> rfl) hini rfl (fun b hb => rfl) (fun b hb => en_u2_off hb)
    (fun j hj => by simp [en_f, en_u2, hj]) (by simp [en_f, en_u2, hxr, va_rf])
    (fun H1 locs1 hat1 => kk p l e R s m args below meth c Q D cA b0 bS LS z0 y0 xs ok hr H1 locs1 cells slots ls hat1 hL)
/-! arrays; 99 is the script, 100 ints, 101 booleans, others references -/
theorem en_iald {x : Int32} (hd : en_d i pc .iaload 1 pc') (hs : M.1[a]? = some (100, n)) (hin : vp_in x n) (kk : en_Go nc ns i pc' L (.int (M.2.1 a x.toNatClampNeg) :: st) M P) : en_Go nc ns i pc L (.int x :: .ref a :: st) M P := by
  obtain ⟨hd, rfl⟩ := hd
  intro p l e R s m args below meth c Q D cA b0 bS LS z0 y0 xs ok hr H locs cells slots ls hat hL
  obtain ⟨a', rfl⟩ := en_pos hat hs (by show (100 : Nat) ≠ 99; decide)
  have he : (en_w b0 bS cA M)[a']? = some (b0 + a', .inl (cA 0, n, .inl (M.2.1 (a' + 1)))) := by
    rw [en_w_at hs]
    simp [en_e]
  exact va_iald ok.1 ok.2.1 ok.2.2.2.2.2.2.1 hat.1 a' 0 he (en_ty_at T_A0) hin hd (kk p l e R s m args below meth c Q D cA b0 bS LS z0 y0 xs ok hr H locs cells slots ls hat hL)
theorem en_zald {x : Int32} (hd : en_d i pc .baload 1 pc') (hs : M.1[a]? = some (101, n)) (hin : vp_in x n) (kk : en_Go nc ns i pc' L (.int (M.2.1 a x.toNatClampNeg) :: st) M P) : en_Go nc ns i pc L (.int x :: .ref a :: st) M P := by
  obtain ⟨hd, rfl⟩ := hd
  intro p l e R s m args below meth c Q D cA b0 bS LS z0 y0 xs ok hr H locs cells slots ls hat hL
  obtain ⟨a', rfl⟩ := en_pos hat hs (by show (101 : Nat) ≠ 99; decide)
  have he : (en_w b0 bS cA M)[a']? = some (b0 + a', .inl (cA 1, n, .inl (M.2.1 (a' + 1)))) := by
    rw [en_w_at hs]
    simp [en_e]
  exact va_zald ok.1 ok.2.1 ok.2.2.2.2.2.2.1 hat.1 a' 1 he (en_ty_at T_A1) hin hd (kk p l e R s m args below meth c Q D cA b0 bS LS z0 y0 xs ok hr H locs cells slots ls hat hL)
theorem en_aald {x : Int32} {t b : Nat} (hd : en_d i pc .aaload 1 pc') (hs : M.1[a]? = some (100 + (t + 2), n)) (ht : ∃ C, xA[t + 2]? = some (.object C)) (hin : vp_in x n) (hb : M.2.2 a x.toNatClampNeg = some b) (kk : en_Go nc ns i pc' L (.ref b :: st) M P) : en_Go nc ns i pc L (.int x :: .ref a :: st) M P := by
  obtain ⟨hd, rfl⟩ := hd
  obtain ⟨C, ht⟩ := ht
  intro p l e R s m args below meth c Q D cA b0 bS LS z0 y0 xs ok hr H locs cells slots ls hat hL
  obtain ⟨a', rfl⟩ := en_pos hat hs (by show 100 + (t + 2) ≠ 99; omega)
  have he : (en_w b0 bS cA M)[a']? = some (b0 + a', .inl (cA (t + 2), n, .inr (.inr (.inr (.inr (fun k => (M.2.2 (a' + 1) k).map (en_ad b0 bS))))))) := by
    rw [en_w_at hs]
    unfold en_e
    rw [if_neg (by show ¬ 100 + (t + 2) < 99; omega), if_neg (by show ¬ 100 + (t + 2) < 102; omega)]
    rw [show (100 + (t + 2), n).1 - 100 = t + 2 from Nat.add_sub_cancel_left 100 (t + 2)]
  refine va_aldq ok.1 ok.2.1 ok.2.2.2.2.2.2.1 hat.1 a' (t + 2) he (en_ty_at ht) hin hd ?_
  rw [hb]
  exact kk p l e R s m args below meth c Q D cA b0 bS LS z0 y0 xs ok hr H locs cells slots ls hat hL
theorem en_sald {x : Int32} (hd : en_d i pc .iaload 1 pc') (hs : M.1[0]? = some (99, n)) (hin : vp_in x n) (kk : en_Go nc ns i pc' L (.int (M.2.1 0 x.toNatClampNeg) :: st) M P) : en_Go nc ns i pc L (.int x :: .ref 0 :: st) M P := by
  obtain ⟨hd, rfl⟩ := hd
  intro p l e R s m args below meth c Q D cA b0 bS LS z0 y0 xs ok hr H locs cells slots ls hat hL
  have hn : LS = n := by
    have := hat.2.2.2.2.1.symm.trans hs
    exact congrArg Prod.snd (Option.some.inj this)
  subst hn
  have hlt : x.toNatClampNeg < LS := Nat.not_le.mp fun q => hin (Or.inr q)
  obtain ⟨hb1, hb2, hb3⟩ := ok.2.2.2.2.2.2.2.2.2.2.1
  refine va_sld (b := bS) (A := fun q => b0 ≤ q) ok.1 ok.2.1 ok.2.2.2.2.2.2.2.2.2.1 (by omega) (by show ¬ b0 ≤ bS; omega) hat.2.1 hin hd ?_
  rw [← hat.2.2.2.2.2 _ hlt]
  exact kk p l e R s m args below meth c Q D cA b0 bS LS z0 y0 xs ok hr H locs cells slots ls hat hL
theorem en_slen (hd : en_d i pc .arraylength 1 pc') (hs : M.1[0]? = some (99, n)) (kk : en_Go nc ns i pc' L (.int (Int32.ofNat n) :: st) M P) : en_Go nc ns i pc L (.ref 0 :: st) M P := by
  obtain ⟨hd, rfl⟩ := hd
  intro p l e R s m args below meth c Q D cA b0 bS LS z0 y0 xs ok hr H locs cells slots ls hat hL
  have hn : LS = n := by
    have := hat.2.2.2.2.1.symm.trans hs
    exact congrArg Prod.snd (Option.some.inj this)
  subst hn
  obtain ⟨hb1, hb2, hb3⟩ := ok.2.2.2.2.2.2.2.2.2.2.1
  exact va_slen (b := bS) (A := fun q => b0 ≤ q) ok.1 ok.2.1 ok.2.2.2.2.2.2.2.2.2.1 (by omega) (by show ¬ b0 ≤ bS; omega) hat.2.1 hd (kk p l e R s m args below meth c Q D cA b0 bS LS z0 y0 xs ok hr H locs cells slots ls hat hL)
theorem en_iast {x v : Int32} (hd : en_d i pc .iastore 1 pc') (hs : M.1[a]? = some (100, n)) (hin : vp_in x n) (kk : en_Go nc ns i pc' L st (M.1, en_u2 M.2.1 a x.toNatClampNeg v, M.2.2) P) : en_Go nc ns i pc L (.int v :: .int x :: .ref a :: st) M P := by
  obtain ⟨hd, rfl⟩ := hd
  intro p l e R s m args below meth c Q D cA b0 bS LS z0 y0 xs ok hr H locs cells slots ls hat hL
  obtain ⟨a', rfl⟩ := en_pos hat hs (by show (100 : Nat) ≠ 99; decide)
  have he : (en_w b0 bS cA M)[a']? = some (b0 + a', .inl (cA 0, n, .inl (M.2.1 (a' + 1)))) := by
    rw [en_w_at hs]
    simp [en_e]
  exact va_iast ok.1 ok.2.1 ok.2.2.2.2.2.2.1 hat.1 en_w_D hat.2.1 a' 0 he (en_ty_at T_A0) hin hd (fun H1 locs1 hP _ hS => kk p l e R s m args below meth c Q D cA b0 bS LS z0 y0 xs ok hr H1 locs1 cells slots ls
    (en_at_set (M' := (M.1, en_u2 M.2.1 (a' + 1) x.toNatClampNeg v, M.2.2)) hat hs rfl (fun b hb => en_u2_off hb) (fun b hb => rfl) (by simp [en_e, en_u2_row]) hP hS) hL)
theorem en_zast {x v : Int32} (hd : en_d i pc .bastore 1 pc') (hs : M.1[a]? = some (101, n)) (hin : vp_in x n) (hv : v = 0 ∨ v = 1) (kk : en_Go nc ns i pc' L st (M.1, en_u2 M.2.1 a x.toNatClampNeg v, M.2.2) P) : en_Go nc ns i pc L (.int v :: .int x :: .ref a :: st) M P := by
  obtain ⟨hd, rfl⟩ := hd
  intro p l e R s m args below meth c Q D cA b0 bS LS z0 y0 xs ok hr H locs cells slots ls hat hL
  obtain ⟨a', rfl⟩ := en_pos hat hs (by show (101 : Nat) ≠ 99; decide)
  have he : (en_w b0 bS cA M)[a']? = some (b0 + a', .inl (cA 1, n, .inl (M.2.1 (a' + 1)))) := by
    rw [en_w_at hs]
    simp [en_e]
  have hvn : vp_nar .boolean v = v := by rcases hv with rfl | rfl <;> rfl
  exact va_zast ok.1 ok.2.1 ok.2.2.2.2.2.2.1 hat.1 en_w_D hat.2.1 a' 1 he (en_ty_at T_A1) hin hd (fun H1 locs1 hP _ hS => kk p l e R s m args below meth c Q D cA b0 bS LS z0 y0 xs ok hr H1 locs1 cells slots ls
    (en_at_set (M' := (M.1, en_u2 M.2.1 (a' + 1) x.toNatClampNeg v, M.2.2)) hat hs rfl (fun b hb => en_u2_off hb) (fun b hb => rfl) (by simp [en_e, en_u2_row, hvn]) hP hS) hL)
theorem en_aast {x : Int32} {t b n' N : Nat} {C : String} {T : u_T} (hd : en_d i pc .aastore 1 pc') (hs : M.1[a]? = some (100 + (t + 2), n)) (hb : M.1[b]? = some (ci, n')) (hc : vwCl[ci]? = some (C, T, N)) (ht : xA[t + 2]? = some (.object C)) (hin : vp_in x n) (kk : en_Go nc ns i pc' L st (M.1, M.2.1, en_u2 M.2.2 a x.toNatClampNeg (some b)) P) : en_Go nc ns i pc L (.ref b :: .int x :: .ref a :: st) M P := by
  obtain ⟨hd, rfl⟩ := hd
  obtain ⟨-, -, -, -, -, h99⟩ := T_cls hc
  intro p l e R s m args below meth c Q D cA b0 bS LS z0 y0 xs ok hr H locs cells slots ls hat hL
  obtain ⟨a', rfl⟩ := en_pos hat hs (by show 100 + (t + 2) ≠ 99; omega)
  obtain ⟨b', rfl⟩ := en_pos hat hb (by show ci ≠ 99; omega)
  have he : (en_w b0 bS cA M)[a']? = some (b0 + a', .inl (cA (t + 2), n, .inr (.inr (.inr (.inr (fun k => (M.2.2 (a' + 1) k).map (en_ad b0 bS))))))) := by
    rw [en_w_at hs]
    unfold en_e
    rw [if_neg (by show ¬ 100 + (t + 2) < 99; omega), if_neg (by show ¬ 100 + (t + 2) < 102; omega)]
    rw [show (100 + (t + 2), n).1 - 100 = t + 2 from Nat.add_sub_cancel_left 100 (t + 2)]
  have hev : (en_w b0 bS cA M)[b']? = some (b0 + b', .inr (ci, (List.range n').map (en_f b0 bS M ci (b' + 1)))) := by
    rw [en_w_at hb]
    simp [en_e, h99]
  refine va_astq ok.1 ok.2.1 ok.2.2.2.2.2.2.1 hat.1 en_w_D hat.2.1 a' (t + 2) b' ci he (en_ty_at ht) hev hc hin hd (fun H1 locs1 hP _ hS => kk p l e R s m args below meth c Q D cA b0 bS LS z0 y0 xs ok hr H1 locs1 cells slots ls
    (en_at_set (M' := (M.1, M.2.1, en_u2 M.2.2 (a' + 1) x.toNatClampNeg (some (b' + 1)))) hat hs rfl (fun b hb => rfl) (fun b hb => en_u2_off hb) ?_ hP hS) hL)
  unfold en_e
  rw [if_neg (by show ¬ 100 + (t + 2) < 99; omega), if_neg (by show ¬ 100 + (t + 2) < 102; omega)]
  rw [show (100 + (t + 2), n).1 - 100 = t + 2 from Nat.add_sub_cancel_left 100 (t + 2)]
  have hf : (fun k => (en_u2 M.2.2 (a' + 1) x.toNatClampNeg (some (b' + 1)) (a' + 1) k).map (en_ad b0 bS)) = va_up (fun k => (M.2.2 (a' + 1) k).map (en_ad b0 bS)) x.toNatClampNeg (some (b0 + b')) := by
    funext k
    by_cases hk : k = x.toNatClampNeg
    · simp [en_u2, va_up, hk, en_ad]
    · simp [en_u2, va_up, hk]
  show (Sum.inl (cA (t + 2), n, Sum.inr (Sum.inr (Sum.inr (Sum.inr (fun k => (en_u2 M.2.2 (a' + 1) x.toNatClampNeg (some (b' + 1)) (a' + 1) k).map (en_ad b0 bS)))))) : va_E) = _
  rw [hf]
end ENG
/-! new cells -/
section ENN
variable {p : Program} {l : Launch} {e : Env} {R : Room} {s : State} {m : MethodId} {args : Array Value} {below : List Frame} {meth : Method} {c : Code} {Q : State → Prop} {D : va_G} {cA : Nat → ClassId} {b0 bS LS z0 y0 nc ns : Nat} {xs : Nat → Int32} {i pc : Nat} {H : Heap} {locs : List Loc} {cells slots : Nat} {ls : Array Slot} {rest : List Value} {M M' : en_M} {T : State}
theorem en_size (ok : en_ok p R s m args meth c D cA b0 bS LS z0 y0 nc ns xs i) (hat : en_at s D cA b0 bS LS z0 y0 nc ns xs M H locs cells slots) (hT : T.heap = H) (X : Stand p l e R s m args below meth c T locs cells slots) : H.size + 1 = b0 + M.1.length := by
  have h1 : (T.setVm s.vm).heap.size ≤ s.heap.size + cells := X.same.2.2.1
  have h2 : (T.setVm s.vm).heap.size = H.size := by rw [← hT]; rfl
  obtain ⟨hb1, hb2, hb3⟩ := ok.2.2.2.2.2.2.2.2.2.2.1
  have h3 := hat.2.2.1.1
  have h4 := hat.2.1.1
  by_cases hl : M.1.length = z0
  · omega
  · have hlt : (M.1.length - 2) + 1 < M.1.length := by omega
    have he := en_w_at (b0 := b0) (bS := bS) (cA := cA) (List.getElem?_eq_getElem hlt)
    have h5 := (hat.1 _ _ he).lt
    have h6 : b0 + (M.1.length - 2) < H.size := h5
    omega
theorem en_w_push {q : Nat × Nat} (hl : 1 ≤ M.1.length) (h1 : M'.1 = M.1 ++ [q]) (h2 : ∀ b, b < M.1.length → M'.2.1 b = M.2.1 b) (h3 : ∀ b, b < M.1.length → M'.2.2 b = M.2.2 b) :
    en_w b0 bS cA M' = en_w b0 bS cA M ++ [(b0 + (M.1.length - 1), en_e b0 bS cA M' M.1.length q)] := by
  have hlen : M'.1.length = M.1.length + 1 := by rw [h1]; simp
  apply List.ext_getElem?
  intro j
  by_cases hj : j < M.1.length - 1
  · have e1 : M.1[j + 1]? = some (M.1[j + 1]) := List.getElem?_eq_getElem (by omega)
    have e2 : M'.1[j + 1]? = some (M.1[j + 1]) := by rw [h1, List.getElem?_append_left (by omega)]; exact e1
    rw [List.getElem?_append_left (by rw [en_w_len]; exact hj), en_w_at e2, en_w_at e1, en_e_congr (h2 _ (by omega)) (h3 _ (by omega))]
  · by_cases hj2 : j = M.1.length - 1
    · subst hj2
      have e2 : M'.1[M.1.length - 1 + 1]? = some q := by
        rw [h1, show M.1.length - 1 + 1 = M.1.length by omega, List.getElem?_append_right (Nat.le_refl _)]
        simp
      rw [en_w_at e2, List.getElem?_append_right (by rw [en_w_len]; exact Nat.le_refl _), en_w_len, Nat.sub_self]
      rw [show M.1.length - 1 + 1 = M.1.length by omega]
      rfl
    · rw [List.getElem?_eq_none (by rw [en_w_len]; omega), List.getElem?_eq_none (by rw [List.length_append, en_w_len]; simp; omega)]
theorem en_fresh {q : Nat} {x : va_E} {H1 : Heap} (hl : 1 ≤ M.1.length) (hP : va_P D vwCl (en_w b0 bS cA M ++ [(q, x)]) H1) (hD : va_D (fun q => b0 ≤ q) (en_w b0 bS cA M ++ [(q, x)])) (hsz : H1.size ≤ b0 + M.1.length) : q = b0 + (M.1.length - 1) := by
  have hlast : (en_w b0 bS cA M ++ [(q, x)])[M.1.length - 1]? = some (q, x) := by
    rw [List.getElem?_append_right (by rw [en_w_len]; exact Nat.le_refl _), en_w_len, Nat.sub_self]
    rfl
  have h1 : q < H1.size := (hP _ _ hlast).lt
  have h2 : b0 ≤ q := hD.2 _ _ hlast
  by_cases h : q = b0 + (M.1.length - 1)
  · exact h
  · exfalso
    have hj : (q - b0) + 1 < M.1.length := by omega
    have e1 : (en_w b0 bS cA M)[q - b0]? = _ := en_w_at (List.getElem?_eq_getElem hj)
    have e2 : (en_w b0 bS cA M ++ [(q, x)])[q - b0]? = some (b0 + (q - b0), en_e b0 bS cA M (q - b0 + 1) (M.1[q - b0 + 1])) := by
      rw [List.getElem?_append_left (by rw [en_w_len]; omega)]
      exact e1
    have := hD.1 _ _ _ _ e2 hlast (by show b0 + (q - b0) = q; omega)
    omega
theorem en_at_push {q : Nat × Nat} {H1 : Heap} {locs1 : List Loc} (hat : en_at s D cA b0 bS LS z0 y0 nc ns xs M H locs cells slots) (hl : 1 ≤ M.1.length) (h1 : M'.1 = M.1 ++ [q]) (h2 : ∀ b, b < M.1.length → M'.2.1 b = M.2.1 b) (h3 : ∀ b, b < M.1.length → M'.2.2 b = M.2.2 b) (hnc : M.1.length + 1 ≤ nc) (hns : en_sl M + q.2 ≤ ns)
    (hP : va_P D vwCl (en_w b0 bS cA M ++ [(b0 + (M.1.length - 1), en_e b0 bS cA M' M.1.length q)]) H1) (hS : va_S (fun q => b0 ≤ q) s.heap H1 locs1) : en_at s D cA b0 bS LS z0 y0 nc ns xs M' H1 locs1 (cells + 1) (slots + q.2) := by
  have hsl : en_sl M' = en_sl M + q.2 := by unfold en_sl; rw [h1]; simp
  have hlen : M'.1.length = M.1.length + 1 := by rw [h1]; simp
  have a1 := hat.2.2.1
  refine ⟨?_, hS, ?_, ?_, ?_, fun k hk => ?_⟩
  · rw [en_w_push hl h1 h2 h3]
    exact hP
  · rw [hlen, hsl]
    omega
  · rw [hlen, hsl]
    omega
  · rw [h1, List.getElem?_append_left (by omega)]
    exact hat.2.2.2.2.1
  · rw [h2 0 (by omega)]
    exact hat.2.2.2.2.2 k hk
end ENN
def en_nw (M : en_M) (kd n : Nat) : en_M := (M.1 ++ [(kd, n)], en_ur M.2.1 M.1.length (fun _ => 0), en_ur M.2.2 M.1.length (fun _ => none))
def en_dw (i pc ci pc' : Nat) : Prop := ∃ idx : Nat, decode (mB i) pc = .ok (.new idx, 3) ∧ kC (mO i) idx = some ci ∧ pc + 3 = pc'
def en_dq (i pc t pc' : Nat) : Prop := ∃ idx : Nat, decode (mB i) pc = .ok (.anewarray idx, 3) ∧ kA (mO i) idx = some t ∧ pc + 3 = pc'
section ENK
variable {nc ns i pc pc' tgt : Nat} {L L' st : List Value} {M : en_M} {P : Option Value → en_M → Prop} {a ci k n : Nat} {nb : Bool}
theorem en_new {C : String} {T : u_T} {N : Nat} (hd : en_dw i pc ci pc') (hc : vwCl[ci]? = some (C, T, N)) (hl : 1 ≤ M.1.length) (hnc : M.1.length + 1 ≤ nc) (hns : en_sl M + N ≤ ns) (kk : en_Go nc ns i pc' L (.ref M.1.length :: st) (en_nw M ci N) P) : en_Go nc ns i pc L st M P := by
  obtain ⟨idx, hd, hC, rfl⟩ := hd
  obtain ⟨hin, hty, hnm, hins, hini, h99⟩ := T_cls hc
  intro p l e R s m args below meth c Q D cA b0 bS LS z0 y0 xs ok hr H locs cells slots ls hat hL
  have a1 := hat.2.2.1
  have a2 := ok.2.2.2.2.2.2.2.2.2.2.2
  have hts := ok.2.2.2.2.1
  have hfs : ∀ j, j < N → defaultValue (xT ci j) = vp_V ((List.range N).map (en_f b0 bS (en_nw M ci N) ci M.1.length)) j := by
    intro j hj
    have e1 : vp_V ((List.range N).map (en_f b0 bS (en_nw M ci N) ci M.1.length)) j = en_f b0 bS (en_nw M ci N) ci M.1.length j := by
      unfold vp_V
      rw [List.getD_eq_getElem?_getD, List.getElem?_map, List.getElem?_range hj]
      rfl
    rw [e1]
    have r1 : (en_nw M ci N).2.1 M.1.length = fun _ => 0 := en_ur_row
    have r2 : (en_nw M ci N).2.2 M.1.length = fun _ => none := en_ur_row
    unfold en_f
    rw [r1, r2]
    rcases T_ty hc hj with h | h | ⟨C, h⟩ | ⟨t, h⟩ <;> simp [en_xr, h, defaultValue, va_rf]
  refine va_new (ci := ci) ok.1 ok.2.1 hts hin (xT ci) hty ok.2.2.2.1 (hts _ (T_C hC hc)) (hts _ hins) (hts _ hini) ok.2.2.2.2.2.2.1 hat.1 en_w_D hat.2.1 (fun q hq => by have := ok.2.2.2.2.2.2.2.2.2.2.1; show b0 ≤ q; omega) hc hfs (by omega) (by omega) hd (fun q H1 hP hD hS => ?_)
  intro T hT X
  have h1 : (T.setVm s.vm).heap.size ≤ s.heap.size + (cells + 1) := X.same.2.2.1
  have h2 : (T.setVm s.vm).heap.size = H1.size := by rw [← hT]; rfl
  have h3 := ok.2.2.2.2.2.2.2.2.2.2.1
  have hq := en_fresh hl hP hD (by omega)
  subst hq
  have hP' : va_P D vwCl (en_w b0 bS cA M ++ [(b0 + (M.1.length - 1), en_e b0 bS cA (en_nw M ci N) M.1.length (ci, N))]) H1 := by
    have : en_e b0 bS cA (en_nw M ci N) M.1.length (ci, N) = .inr (ci, (List.range N).map (en_f b0 bS (en_nw M ci N) ci M.1.length)) := by simp [en_e, h99]
    rw [this]
    exact hP
  have hat' := en_at_push (M' := en_nw M ci N) (q := (ci, N)) hat hl rfl (fun b hb => en_ur_off (by omega)) (fun b hb => en_ur_off (by omega)) hnc hns hP' hS
  have := kk p l e R s m args below meth c Q D cA b0 bS LS z0 y0 xs ok hr H1 locs (cells + 1) (slots + N) ls hat' hL T hT X
  obtain ⟨ll, hll⟩ : ∃ ll, M.1.length = ll + 1 := ⟨M.1.length - 1, by omega⟩
  rw [List.map_cons, hll] at this
  rw [hll]
  exact this
theorem en_newi {x : Int32} (hd : en_d i pc (.newarray .int) 2 pc') (hx : ¬ x < 0) (hN : x.toNatClampNeg = n) (hn : n ≤ 100000) (hl : 1 ≤ M.1.length) (hnc : M.1.length + 1 ≤ nc) (hns : en_sl M + n ≤ ns) (kk : en_Go nc ns i pc' L (.ref M.1.length :: st) (en_nw M 100 n) P) : en_Go nc ns i pc L (.int x :: st) M P := by
  obtain ⟨hd, rfl⟩ := hd
  intro p l e R s m args below meth c Q D cA b0 bS LS z0 y0 xs ok hr H locs cells slots ls hat hL
  have a1 := hat.2.2.1
  have a2 := ok.2.2.2.2.2.2.2.2.2.2.2
  have hts := ok.2.2.2.2.1
  have hK := ok.2.2.2.2.2.2.1
  refine va_newa (ty := .int) (a0 := (n, .inl (fun _ => 0))) ok.1 ok.2.1 (hts _ T_AI) rfl hK hat.1 en_w_D hat.2.1 (fun q hq => by have := ok.2.2.2.2.2.2.2.2.2.2.1; show b0 ≤ q; omega) (fun _ => rfl) hx hN (Nat.le_trans (Nat.mul_le_mul_right _ hn) (by decide)) (by omega) (by omega) hd (fun q cA' H1 hK' hP hD hS => ?_)
  intro T hT X
  have h1 : (T.setVm s.vm).heap.size ≤ s.heap.size + (cells + 1) := X.same.2.2.1
  have h2 : (T.setVm s.vm).heap.size = H1.size := by rw [← hT]; rfl
  have h3 := ok.2.2.2.2.2.2.2.2.2.2.1
  have hq := en_fresh hl hP hD (by omega)
  subst hq
  have hcA : cA' = cA 0 := by
    have e1 : va_RA s cA' .int := (hK'.2 (en_ty cA).length (cA', .int) (by rw [List.getElem?_append_right (Nat.le_refl _), Nat.sub_self]; rfl)).2
    have e2 : va_RA s (cA 0) .int := (hK.2 0 _ (en_ty_at T_A0)).2
    exact Option.some.inj (e1.symm.trans e2)
  subst hcA
  have hP' : va_P D vwCl (en_w b0 bS cA M ++ [(b0 + (M.1.length - 1), en_e b0 bS cA (en_nw M 100 n) M.1.length (100, n))]) H1 := by
    have : en_e b0 bS cA (en_nw M 100 n) M.1.length (100, n) = .inl (cA 0, n, .inl (fun _ => 0)) := by simp [en_e, en_nw, en_ur_row]
    rw [this]
    exact hP
  have hat' := en_at_push (M' := en_nw M 100 n) (q := (100, n)) hat hl rfl (fun b hb => en_ur_off (by omega)) (fun b hb => en_ur_off (by omega)) hnc hns hP' hS
  have := kk p l e R s m args below meth c Q D cA b0 bS LS z0 y0 xs ok hr H1 locs (cells + 1) (slots + n) ls hat' hL T hT X
  obtain ⟨ll, hll⟩ : ∃ ll, M.1.length = ll + 1 := ⟨M.1.length - 1, by omega⟩
  rw [List.map_cons, hll] at this
  rw [hll]
  exact this
theorem en_newz {x : Int32} (hd : en_d i pc (.newarray .boolean) 2 pc') (hx : ¬ x < 0) (hN : x.toNatClampNeg = n) (hn : n ≤ 100000) (hl : 1 ≤ M.1.length) (hnc : M.1.length + 1 ≤ nc) (hns : en_sl M + n ≤ ns) (kk : en_Go nc ns i pc' L (.ref M.1.length :: st) (en_nw M 101 n) P) : en_Go nc ns i pc L (.int x :: st) M P := by
  obtain ⟨hd, rfl⟩ := hd
  intro p l e R s m args below meth c Q D cA b0 bS LS z0 y0 xs ok hr H locs cells slots ls hat hL
  have a1 := hat.2.2.1
  have a2 := ok.2.2.2.2.2.2.2.2.2.2.2
  have hts := ok.2.2.2.2.1
  have hK := ok.2.2.2.2.2.2.1
  refine va_newa (ty := .boolean) (a0 := (n, .inl (fun _ => 0))) ok.1 ok.2.1 (hts _ T_AZ) rfl hK hat.1 en_w_D hat.2.1 (fun q hq => by have := ok.2.2.2.2.2.2.2.2.2.2.1; show b0 ≤ q; omega) (fun _ => rfl) hx hN (Nat.le_trans (Nat.mul_le_mul_right _ hn) (by decide)) (by omega) (by omega) hd (fun q cA' H1 hK' hP hD hS => ?_)
  intro T hT X
  have h1 : (T.setVm s.vm).heap.size ≤ s.heap.size + (cells + 1) := X.same.2.2.1
  have h2 : (T.setVm s.vm).heap.size = H1.size := by rw [← hT]; rfl
  have h3 := ok.2.2.2.2.2.2.2.2.2.2.1
  have hq := en_fresh hl hP hD (by omega)
  subst hq
  have hcA : cA' = cA 1 := by
    have e1 : va_RA s cA' .boolean := (hK'.2 (en_ty cA).length (cA', .boolean) (by rw [List.getElem?_append_right (Nat.le_refl _), Nat.sub_self]; rfl)).2
    have e2 : va_RA s (cA 1) .boolean := (hK.2 1 _ (en_ty_at T_A1)).2
    exact Option.some.inj (e1.symm.trans e2)
  subst hcA
  have hP' : va_P D vwCl (en_w b0 bS cA M ++ [(b0 + (M.1.length - 1), en_e b0 bS cA (en_nw M 101 n) M.1.length (101, n))]) H1 := by
    have : en_e b0 bS cA (en_nw M 101 n) M.1.length (101, n) = .inl (cA 1, n, .inl (fun _ => 0)) := by simp [en_e, en_nw, en_ur_row]
    rw [this]
    exact hP
  have hat' := en_at_push (M' := en_nw M 101 n) (q := (101, n)) hat hl rfl (fun b hb => en_ur_off (by omega)) (fun b hb => en_ur_off (by omega)) hnc hns hP' hS
  have := kk p l e R s m args below meth c Q D cA b0 bS LS z0 y0 xs ok hr H1 locs (cells + 1) (slots + n) ls hat' hL T hT X
  obtain ⟨ll, hll⟩ : ∃ ll, M.1.length = ll + 1 := ⟨M.1.length - 1, by omega⟩
  rw [List.map_cons, hll] at this
  rw [hll]
  exact this
theorem en_newq {x : Int32} {t : Nat} (hd : en_dq i pc (t + 2) pc') (hx : ¬ x < 0) (hN : x.toNatClampNeg = n) (hn : n ≤ 100000) (hl : 1 ≤ M.1.length) (hnc : M.1.length + 1 ≤ nc) (hns : en_sl M + n ≤ ns) (kk : en_Go nc ns i pc' L (.ref M.1.length :: st) (en_nw M (100 + (t + 2)) n) P) : en_Go nc ns i pc L (.int x :: st) M P := by
  obtain ⟨idx, hd, hA, rfl⟩ := hd
  obtain ⟨C, hxA, hlk, hCn⟩ := T_A hA
  intro p l e R s m args below meth c Q D cA b0 bS LS z0 y0 xs ok hr H locs cells slots ls hat hL
  have a1 := hat.2.2.1
  have a2 := ok.2.2.2.2.2.2.2.2.2.2.2
  have hts := ok.2.2.2.2.1
  have hK := ok.2.2.2.2.2.2.1
  have hN' := ok.2.2.2.2.2.1
  refine va_newq ok.1 ok.2.1 ok.2.2.2.1 (hts _ hlk) (hN'.2.2 _ hCn) hK hat.1 en_w_D hat.2.1 (fun q hq => by have := ok.2.2.2.2.2.2.2.2.2.2.1; show b0 ≤ q; omega) hx hN (by omega) (by omega) (by omega) hd (fun q cA' H1 hK' hP hD hS => ?_)
  intro T hT X
  have h1 : (T.setVm s.vm).heap.size ≤ s.heap.size + (cells + 1) := X.same.2.2.1
  have h2 : (T.setVm s.vm).heap.size = H1.size := by rw [← hT]; rfl
  have h3 := ok.2.2.2.2.2.2.2.2.2.2.1
  have hq := en_fresh hl hP hD (by omega)
  subst hq
  have hcA : cA' = cA (t + 2) := by
    have e1 : va_RA s cA' (.object C) := (hK'.2 (en_ty cA).length (cA', .object C) (by rw [List.getElem?_append_right (Nat.le_refl _), Nat.sub_self]; rfl)).2
    have e2 : va_RA s (cA (t + 2)) (.object C) := (hK.2 (t + 2) _ (en_ty_at hxA)).2
    obtain ⟨_, _, _, _, _, f1⟩ := e1
    obtain ⟨_, _, _, _, _, f2⟩ := e2
    exact Option.some.inj (f1.symm.trans f2)
  subst hcA
  have hP' : va_P D vwCl (en_w b0 bS cA M ++ [(b0 + (M.1.length - 1), en_e b0 bS cA (en_nw M (100 + (t + 2)) n) M.1.length (100 + (t + 2), n))]) H1 := by
    have : en_e b0 bS cA (en_nw M (100 + (t + 2)) n) M.1.length (100 + (t + 2), n) = .inl (cA (t + 2), n, .inr (.inr (.inr (.inr (fun _ => none))))) := by
      unfold en_e
      rw [if_neg (by show ¬ 100 + (t + 2) < 99; omega), if_neg (by show ¬ 100 + (t + 2) < 102; omega)]
      rw [show (100 + (t + 2), n).1 - 100 = t + 2 from Nat.add_sub_cancel_left 100 (t + 2)]
      simp [en_nw, en_ur_row]
    rw [this]
    exact hP
  have hat' := en_at_push (M' := en_nw M (100 + (t + 2)) n) (q := (100 + (t + 2), n)) hat hl rfl (fun b hb => en_ur_off (by omega)) (fun b hb => en_ur_off (by omega)) hnc hns hP' hS
  have := kk p l e R s m args below meth c Q D cA b0 bS LS z0 y0 xs ok hr H1 locs (cells + 1) (slots + n) ls hat' hL T hT X
  obtain ⟨ll, hll⟩ : ∃ ll, M.1.length = ll + 1 := ⟨M.1.length - 1, by omega⟩
  rw [List.map_cons, hll] at this
  rw [hll]
  exact this
end ENK
