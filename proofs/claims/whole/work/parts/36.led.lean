theorem okC_ag {im im' : Nat → Nat → Int32} {N : Nat} (h : ∀ c, c < 339 → im' c = im c) (hC : okC im N) : okC im' N := by
  intro i hi
  obtain ⟨⟨x1, x2⟩, ⟨x3, x4⟩, x5⟩ := hC i hi
  have e8 : chv im' i = chv im i := by unfold chv; rw [h 8 (by omega)]
  have hc : chv im i < 60 := x2
  have es : szv im' (chv im' i) = szv im (chv im i) := by rw [e8]; unfold szv; rw [h _ (by omega)]
  refine ⟨by rw [h 8 (by omega)]; exact ⟨x1, x2⟩, by rw [e8, h _ (by omega)]; exact ⟨x3, x4⟩, fun j hj => ?_⟩
  rw [es] at hj
  obtain ⟨⟨y1, y2⟩, ⟨z1, z2⟩, ⟨w1, w2⟩⟩ := x5 j hj
  have em : mbv im' (chv im' i) j = mbv im (chv im i) j := by rw [e8]; unfold mbv; rw [h _ (by omega)]
  have hm : mbv im (chv im i) j < 60 := y2
  have ep : prv im' (mbv im (chv im i) j) = prv im (mbv im (chv im i) j) := by unfold prv; rw [h _ (by omega)]
  have hpp : prv im (mbv im (chv im i) j) < 4 := z2
  rw [em, e8, ep, h _ (by omega), h _ (by omega), h _ (by omega)]
  exact ⟨⟨y1, y2⟩, ⟨z1, z2⟩, ⟨w1, w2⟩⟩
theorem chv_ag {im im' : Nat → Nat → Int32} (h : ∀ c, c < 339 → im' c = im c) (i : Nat) : chv im' i = chv im i := by unfold chv; rw [h 8 (by omega)]
theorem szv_ag {im im' : Nat → Nat → Int32} (h : ∀ c, c < 339 → im' c = im c) {m : Nat} (hm : m < 60) : szv im' m = szv im m := by unfold szv; rw [h _ (by omega)]
theorem mbv_ag {im im' : Nat → Nat → Int32} (h : ∀ c, c < 339 → im' c = im c) {m : Nat} (hm : m < 60) (j : Nat) : mbv im' m j = mbv im m j := by unfold mbv; rw [h _ (by omega)]
/-! a block applied by peer p: i of its places done *-/
def apW (p b i t : Nat) (m1 : Nat → Nat → Int32) : Nat → Nat → Int32 := en_ur (en_ur m1 (8 * p + 341) (ws_v (m1 (3 * t + 32)) (nI (1 + 4 * b + i)) 16 (m1 (8 * p + 341)))) (8 * p + 342) (ws_w (m1 (3 * t + 32)) 16 (m1 (8 * p + 342)))
def apS (p b : Nat) (im : Nat → Nat → Int32) : Nat → (Nat → Nat → Int32) × Nat
  | 0 => (im, 0)
  | i + 1 =>
    if jdg (apS p b im i).1 (8 * p + 340) b i = 0 then (apW p b i (mbv im (chv im b) i) (en_u2 (apS p b im i).1 (8 * p + 346) (4 * b + i) (jdg (apS p b im i).1 (8 * p + 340) b i)), (apS p b im i).2 + 1)
    else (en_u2 (apS p b im i).1 (8 * p + 346) (4 * b + i) (jdg (apS p b im i).1 (8 * p + 340) b i), (apS p b im i).2)
theorem apS_off {p b : Nat} {im : Nat → Nat → Int32} {c : Nat} (h1 : c ≠ 8 * p + 341) (h2 : c ≠ 8 * p + 342) (h3 : c ≠ 8 * p + 346) : ∀ i, (apS p b im i).1 c = im c := by
  intro i
  induction i with
  | zero => rfl
  | succ i ih =>
    unfold apS
    split
    · show apW p b i _ _ c = im c
      unfold apW
      rw [en_ur_off h2, en_ur_off h1, en_u2_off h3]
      exact ih
    · show en_u2 _ _ _ _ c = im c
      rw [en_u2_off h3]
      exact ih
theorem apS_le {p b : Nat} {im : Nat → Nat → Int32} : ∀ i, (apS p b im i).2 ≤ i := by
  intro i
  induction i with
  | zero => exact Nat.le_refl _
  | succ i ih =>
    unfold apS
    split
    · show _ + 1 ≤ i + 1
      omega
    · show _ ≤ i + 1
      omega
def apF (p b : Nat) (q : Nat → Nat → Int32) : Nat → Nat → Int32 :=
  if (b + 1) % 4 = 0 then en_u2 (en_ur (en_ur (en_u2 q (8 * p + 340) 2 (nI (b + 1))) (8 * p + 344) (va_cpy (q (8 * p + 341)) (q (8 * p + 344)) 0 0 16)) (8 * p + 345) (va_cpy (q (8 * p + 342)) (q (8 * p + 345)) 0 0 16)) (8 * p + 343) 2 (nI (b + 1))
  else en_u2 q (8 * p + 340) 2 (nI (b + 1))
def apN (p b : Nat) (im : Nat → Nat → Int32) : Nat → Nat → Int32 := apF p b (apS p b im (szv im (chv im b))).1
theorem apF_lt {p b : Nat} {q : Nat → Nat → Int32} {c : Nat} (h : c < 8 * p + 340 ∨ 8 * p + 346 ≤ c) : apF p b q c = q c := by
  unfold apF
  split
  · rw [en_u2_off (by omega), en_ur_off (by omega), en_ur_off (by omega), en_u2_off (by omega)]
  · rw [en_u2_off (by omega)]
theorem apF_h {p b : Nat} {q : Nat → Nat → Int32} : apF p b q (8 * p + 340) 2 = nI (b + 1) := by
  unfold apF
  split
  · rw [en_u2_off (by omega), en_ur_off (by omega), en_ur_off (by omega), u2_eq]
  · rw [u2_eq]
theorem apN_lt {p b : Nat} {im : Nat → Nat → Int32} {c : Nat} (h : c < 8 * p + 340 ∨ 8 * p + 347 ≤ c) : apN p b im c = im c := by
  unfold apN
  rw [apF_lt (by omega), apS_off (by omega) (by omega) (by omega)]
set_option maxRecDepth 20000 in
set_option maxHeartbeats 4000000 in
theorem l36 {LS : Nat} {rm : Nat → Nat → Option Nat} {im : Nat → Nat → Int32} {P : Option Value → (Nat → Nat → Int32) → Prop} {p b : Nat} (hM : isLd LS rm) (hp : p < 4) (hC : okC im (b + 1)) (hb : b < 40) (hh : im (8 * p + 340) 2 = nI b) (h1 : P (some (.int (nI (apS p b im (szv im (chv im b))).2))) (apN p b im)) : ∀ (n i : Nat), i + n = szv im (chv im b) → ∀ (u6 u7 : Value), Gm LS rm 36 20 [.ref (1), .ref (8 * p + 339), .int (nI b), .ref (2 * chv im b + 210), .int (nI (apS p b im i).2), .int (nI i), u6, u7] [] ((apS p b im i).1) P := by
  intro n
  induction n with
  | zero =>
    intro i hi u6 u7
    have hie : i = szv im (chv im b) := by omega
    subst hie
    refine g_iload k36_20 rfl ?_
    refine g_aload_n k36_22 rfl ?_
    refine g_getv (v := nI (szv im (chv im b))) k36_23 ((hM.2.2.2.1 (chv im b) (hC b (by omega)).1.2).2.1) (by decide) (by rw [apS_off (by have := hC b (by omega); have := this.1.2; unfold chv; omega) (by have := hC b (by omega); have := this.1.2; unfold chv; omega) (by have := hC b (by omega); have := this.1.2; unfold chv; omega)]; exact (hC b (by omega)).2.1.1) ?_
    refine g_icmp_ge k36_26 (fun _ => ?_) (fun h => absurd (nI_le (Nat.le_refl _) (by have := (hC b (by omega)).2.1.2; unfold szv; omega)) h)
    obtain ⟨⟨x1, x2⟩, -, -⟩ := hC b (by omega)
    refine g_aload_n k36_103 rfl ?_
    refine g_inv0 k36_104 ((hM.2.2.2.2.2 p hp).2.1) (by decide) (Nat.le_of_ble_eq_true rfl) (c85 (a := 8 * p + 339) (h := b) (hM.2.2.2.2.2 p hp).2 (by rw [show 8 * p + 339 + 1 = 8 * p + 340 from rfl, apS_off (by omega) (by omega) (by omega)]; exact hh) hb (fun z => ?_) (fun z => ?_))
    · refine g_iload k36_107 rfl ?_
      have e9 : apN p b im = en_u2 (apS p b im (szv im (chv im b))).1 (8 * p + 340) 2 (nI (b + 1)) := if_neg z
      rw [e9] at h1
      exact g_reti k36_109 rfl (h1)
    · refine g_iload k36_107 rfl ?_
      have e9 : apN p b im = en_u2 (en_ur (en_ur (en_u2 (apS p b im (szv im (chv im b))).1 (8 * p + 340) 2 (nI (b + 1))) (8 * p + 344) (va_cpy ((apS p b im (szv im (chv im b))).1 (8 * p + 341)) ((apS p b im (szv im (chv im b))).1 (8 * p + 344)) 0 0 16)) (8 * p + 345) (va_cpy ((apS p b im (szv im (chv im b))).1 (8 * p + 342)) ((apS p b im (szv im (chv im b))).1 (8 * p + 345)) 0 0 16)) (8 * p + 343) 2 (nI (b + 1)) := if_pos z
      rw [e9] at h1
      exact g_reti k36_109 rfl (h1)
  | succ n ih =>
    intro i hi u6 u7
    have hlt : i < szv im (chv im b) := by omega
    refine g_iload k36_20 rfl ?_
    refine g_aload_n k36_22 rfl ?_
    refine g_getv (v := nI (szv im (chv im b))) k36_23 ((hM.2.2.2.1 (chv im b) (hC b (by omega)).1.2).2.1) (by decide) (by rw [apS_off (by have := hC b (by omega); have := this.1.2; unfold chv; omega) (by have := hC b (by omega); have := this.1.2; unfold chv; omega) (by have := hC b (by omega); have := this.1.2; unfold chv; omega)]; exact (hC b (by omega)).2.1.1) ?_
    refine g_icmp_ge k36_26 (fun h => absurd h (nI_ge hlt (by have := (hC b (by omega)).2.1.2; unfold szv; omega))) (fun _ => ?_)
    obtain ⟨⟨x1, x2⟩, ⟨x3, x4⟩, x5⟩ := hC b (by omega)
    have hs4 : szv im (chv im b) ≤ 4 := by unfold szv; omega
    have hcb : chv im b < 60 := x2
    have hag : ∀ c, c < 339 → (apS p b im i).1 c = im c := fun c hc => apS_off (by omega) (by omega) (by omega) i
    have hCi := okC_ag hag hC
    obtain ⟨⟨y1, y2⟩, -, -⟩ := x5 i hlt
    have hm : mbv im (chv im b) i < 60 := y2
    refine g_aload_n k36_29 rfl ?_
    refine g_aload_n k36_30 rfl ?_
    refine g_getr k36_31 ((hM.2.2.2.2.2 p hp).2.1) (by decide) ((hM.2.2.2.2.2 p hp).2.2.1) ?_
    refine g_iload_n k36_34 rfl ?_
    refine g_iload k36_35 rfl ?_
    refine g_inv3 k36_37 (hM.1.1) rfl rfl rfl (by decide) (Nat.le_of_ble_eq_true rfl) (c37 hM (hM.2.2.2.2.2 p hp).2.2.2.2.2.1 hCi hb (by rw [chv_ag hag, szv_ag hag hcb]; exact hlt) ?_)
    refine g_istore k36_40 (by decide) rfl ?_
    refine g_aload_n k36_42 rfl ?_
    refine g_getr k36_43 ((hM.2.2.2.2.2 p hp).2.1) (by decide) ((hM.2.2.2.2.2 p hp).2.2.2.2.1) ?_
    refine g_iload_n k36_46 rfl ?_
    refine g_iconst (v := 4) k36_47 ic_4 ?_
    refine g_imul k36_48 ?_
    refine g_iload k36_49 rfl ?_
    refine g_iadd k36_51 ?_
    refine g_top (y := nI (4 * b + i)) (by rw [show (4 : Int32) = nI 4 from rfl, pk_mul, nI_add, Nat.mul_comm]) ?_
    refine g_iload k36_52 rfl ?_
    refine g_iasv k36_54 ((hM.2.2.2.2.2 p hp).2.2.2.2.2.2.2) (by omega) (by decide) ?_
    refine g_iload k36_55 rfl ?_
    refine g_if_ne k36_57 (fun g => ?_) (fun g => ?_)
    · have e1 : apS p b im (i + 1) = (en_u2 (apS p b im i).1 (8 * p + 346) (4 * b + i) (jdg (apS p b im i).1 (8 * p + 340) b i), (apS p b im i).2) := if_neg g
      have := ih (i + 1) (by omega) (.int (jdg (apS p b im i).1 (8 * p + 340) b i)) u7
      rw [e1] at this
      refine g_iincv (y := nI (i + 1)) k36_97 rfl (by decide) (inc_1 i) rfl ?_
      refine g_goto k36_100 ?_
      exact this
    · have e1 : apS p b im (i + 1) = (apW p b i (mbv im (chv im b) i) (en_u2 (apS p b im i).1 (8 * p + 346) (4 * b + i) (jdg (apS p b im i).1 (8 * p + 340) b i)), (apS p b im i).2 + 1) := if_pos g
      have := ih (i + 1) (by omega) (.int (jdg (apS p b im i).1 (8 * p + 340) b i)) (.int (nI (1 + 4 * b + i)))
      rw [e1] at this
      refine g_iconst (v := 1) k36_60 ic_1 ?_
      refine g_iconst (v := 4) k36_61 ic_4 ?_
      refine g_iload_n k36_62 rfl ?_
      refine g_imul k36_63 ?_
      refine g_iadd k36_64 ?_
      refine g_top (y := nI (1 + 4 * b)) (by rw [show (4 : Int32) = nI 4 from rfl, show (1 : Int32) = nI 1 from rfl, pk_mul, nI_add]) ?_
      refine g_iload k36_65 rfl ?_
      refine g_iadd k36_67 ?_
      refine g_top (y := nI (1 + 4 * b + i)) (nI_add _ _) ?_
      refine g_istore k36_68 (by decide) rfl ?_
      refine g_aload_n k36_70 rfl ?_
      refine g_getr k36_71 (hM.1.1) (by decide) (hM.1.2.2.1) ?_
      refine g_aload_n k36_74 rfl ?_
      refine g_getr k36_75 ((hM.2.2.2.1 (chv im b) x2).2.1) (by decide) ((hM.2.2.2.1 (chv im b) x2).2.2.1) ?_
      refine g_iload k36_78 rfl ?_
      refine g_ialv (v := nI (mbv im (chv im b) i)) k36_80 ((hM.2.2.2.1 (chv im b) x2).2.2.2) (by omega) (by decide) (by rw [en_u2_off (by omega), hag _ (by omega)]; exact y1) ?_
      refine g_aalv (t := 1) k36_81 (hM.1.2.2.2.2.2.2.2.2.2.2.1) ⟨_, rfl⟩ (hm) (by decide) ((hM.2.2.1 (mbv im (chv im b) i) (hm)).1) ?_
      refine g_getr k36_82 ((hM.2.2.1 (mbv im (chv im b) i) (hm)).2.1) (by decide) ((hM.2.2.1 (mbv im (chv im b) i) (hm)).2.2.1) ?_
      refine g_aload_n k36_85 rfl ?_
      refine g_getr k36_86 ((hM.2.2.2.2.2 p hp).2.1) (by decide) ((hM.2.2.2.2.2 p hp).2.2.1) ?_
      refine g_iload k36_89 rfl ?_
      refine g_inv2 k36_91 ((hM.2.2.1 (mbv im (chv im b) i) (hm)).2.2.2.1) rfl rfl (by decide) (Nat.le_of_ble_eq_true rfl) (c69 (a := 3 * mbv im (chv im b) i + 31) (s := 8 * p + 340) (hM.2.2.1 (mbv im (chv im b) i) hm).2.2.2 (hM.2.2.2.2.2 p hp).2.2.2.2.2.1 (by omega) ?_)
      refine g_iincv (y := nI ((apS p b im i).2 + 1)) k36_94 rfl (by decide) (inc_1 _) rfl ?_
      refine g_iincv (y := nI (i + 1)) k36_97 rfl (by decide) (inc_1 i) rfl ?_
      refine g_goto k36_100 ?_
      exact this

set_option maxRecDepth 20000 in
set_option maxHeartbeats 4000000 in
theorem c36 {LS : Nat} {rm : Nat → Nat → Option Nat} {im : Nat → Nat → Int32} {P : Option Value → (Nat → Nat → Int32) → Prop} {p b : Nat} (hM : isLd LS rm) (hp : p < 4) (hC : okC im (b + 1)) (hb : b < 40) (hh : im (8 * p + 340) 2 = nI b) (h1 : P (some (.int (nI (apS p b im (szv im (chv im b))).2))) (apN p b im)) : Gm LS rm 36 0 (en_in 36 [.ref 1, .ref (8 * p + 339)]) [] im P := by
  show Gm LS rm 36 0 [.ref (1), .ref (8 * p + 339), .long 0, .long 0, .long 0, .long 0, .long 0, .long 0] [] im P
  obtain ⟨⟨x1, x2⟩, -, -⟩ := hC b (by omega)
  refine g_aload_n k36_0 rfl ?_
  refine g_getr k36_1 ((hM.2.2.2.2.2 p hp).2.1) (by decide) ((hM.2.2.2.2.2 p hp).2.2.1) ?_
  refine g_getv (v := nI b) k36_4 ((hM.2.2.2.2.2 p hp).2.2.2.2.2.1.1) (by decide) (hh) ?_
  refine g_istore_n k36_7 (by decide) rfl ?_
  refine g_aload_n k36_8 rfl ?_
  refine g_iload_n k36_9 rfl ?_
  refine g_inv1 k36_10 (hM.1.1) rfl (by decide) (Nat.le_of_ble_eq_true rfl) (c35 (m := chv im b) hM (by omega) x1 x2 ?_)
  refine g_astore_n k36_13 (by decide) rfl ?_
  refine g_iconst (v := 0) k36_14 ic_0 ?_
  refine g_istore k36_15 (by decide) rfl ?_
  refine g_iconst (v := 0) k36_17 ic_0 ?_
  refine g_istore k36_18 (by decide) rfl ?_
  exact l36 hM hp hC hb hh h1 (szv im (chv im b)) 0 (by omega) _ _

def cb0 (p : Nat) (im : Nat → Nat → Int32) : Nat → Nat → Int32 := en_u2 (en_ur (en_ur im (8 * p + 341) (va_cpy (im (8 * p + 344)) (im (8 * p + 341)) 0 0 16)) (8 * p + 342) (va_cpy (im (8 * p + 345)) (im (8 * p + 342)) 0 0 16)) (8 * p + 340) 2 (im (8 * p + 343) 2)
def cbN (p v : Nat) (im : Nat → Nat → Int32) : Nat → (Nat → Nat → Int32)
  | 0 => cb0 p im
  | i + 1 => apN p (v + i) (cbN p v im i)
theorem cb0_lt {p : Nat} {im : Nat → Nat → Int32} {c : Nat} (h : c < 8 * p + 340 ∨ 8 * p + 343 ≤ c) : cb0 p im c = im c := by
  unfold cb0
  rw [en_u2_off (by omega), en_ur_off (by omega), en_ur_off (by omega)]
theorem cbN_lt {p v : Nat} {im : Nat → Nat → Int32} {c : Nat} (h : c < 8 * p + 340 ∨ 8 * p + 347 ≤ c) : ∀ i, cbN p v im i c = im c := by
  intro i
  induction i with
  | zero => exact cb0_lt (by omega)
  | succ i ih =>
    show apN p (v + i) (cbN p v im i) c = im c
    rw [apN_lt h]
    exact ih
theorem cbN_h {p v : Nat} {im : Nat → Nat → Int32} (hv : im (8 * p + 343) 2 = nI v) : ∀ i, cbN p v im i (8 * p + 340) 2 = nI (v + i) := by
  intro i
  cases i with
  | zero =>
    show cb0 p im (8 * p + 340) 2 = nI v
    unfold cb0
    rw [u2_eq]
    exact hv
  | succ i =>
    show apN p (v + i) (cbN p v im i) (8 * p + 340) 2 = nI (v + i + 1)
    unfold apN
    exact apF_h
set_option maxRecDepth 20000 in
set_option maxHeartbeats 4000000 in
theorem l33 {LS : Nat} {rm : Nat → Nat → Option Nat} {im : Nat → Nat → Int32} {P : Option Value → (Nat → Nat → Int32) → Prop} {p st v : Nat} (hM : isLd LS rm) (hp : p < 4) (hC : okC im st) (hst : st ≤ 40) (hvs : v ≤ st) (hs : im (8 * p + 339) 1 = nI st) (hv : im (8 * p + 343) 2 = nI v) (h1 : P (some (.int (nI (st - v)))) (cbN p v im (st - v))) : ∀ (n i : Nat), i + n = st - v → Gm LS rm 33 26 [.ref (1), .ref (8 * p + 339), .int (nI (st - v)), .int (nI i)] [] (cbN p v im i) P := by
  intro n
  induction n with
  | zero =>
    intro i hi
    have hie : i = st - v := by omega
    subst hie
    refine g_iload_n k33_26 rfl ?_
    refine g_iload_n k33_27 rfl ?_
    refine g_icmp_ge k33_28 (fun _ => ?_) (fun h => absurd (nI_le (Nat.le_refl _) (by omega)) h)
    refine g_iload_n k33_43 rfl ?_
    exact g_reti k33_44 rfl (h1)
  | succ n ih =>
    intro i hi
    have hlt : i < st - v := by omega
    refine g_iload_n k33_26 rfl ?_
    refine g_iload_n k33_27 rfl ?_
    refine g_icmp_ge k33_28 (fun h => absurd h (nI_ge hlt (by omega))) (fun _ => ?_)
    have hag : ∀ c, c < 339 → cbN p v im i c = im c := fun c hc => cbN_lt (by omega) i
    have hCi : okC (cbN p v im i) (v + i + 1) := fun j hj => okC_ag hag hC j (by omega)
    refine g_aload_n k33_31 rfl ?_
    refine g_aload_n k33_32 rfl ?_
    refine g_inv1 k33_33 (hM.1.1) rfl (by decide) (Nat.le_of_ble_eq_true rfl) (c36 (b := v + i) hM hp hCi (by omega) (cbN_h hv i) ?_)
    refine g_pop k33_36 rfl ?_
    refine g_iincv (y := nI (i + 1)) k33_37 rfl (by decide) (inc_1 i) rfl ?_
    refine g_goto k33_40 ?_
    exact ih (i + 1) (by omega)

set_option maxRecDepth 20000 in
set_option maxHeartbeats 4000000 in
theorem c33 {LS : Nat} {rm : Nat → Nat → Option Nat} {im : Nat → Nat → Int32} {P : Option Value → (Nat → Nat → Int32) → Prop} {p st v : Nat} (hM : isLd LS rm) (hp : p < 4) (hC : okC im st) (hst : st ≤ 40) (hvs : v ≤ st) (hs : im (8 * p + 339) 1 = nI st) (hv : im (8 * p + 343) 2 = nI v) (h1 : P (some (.int (nI (st - v)))) (cbN p v im (st - v))) : Gm LS rm 33 0 (en_in 33 [.ref 1, .ref (8 * p + 339)]) [] im P := by
  show Gm LS rm 33 0 [.ref (1), .ref (8 * p + 339), .long 0, .long 0] [] im P
  refine g_aload_n k33_0 rfl ?_
  refine g_getr k33_1 ((hM.2.2.2.2.2 p hp).2.1) (by decide) ((hM.2.2.2.2.2 p hp).2.2.1) ?_
  refine g_aload_n k33_4 rfl ?_
  refine g_getr k33_5 ((hM.2.2.2.2.2 p hp).2.1) (by decide) ((hM.2.2.2.2.2 p hp).2.2.2.1) ?_
  refine g_inv1 k33_8 ((hM.2.2.2.2.2 p hp).2.2.2.2.2.1.1) rfl (by decide) (Nat.le_of_ble_eq_true rfl) (c83 (a := 8 * p + 340) (b := 8 * p + 343) (hM.2.2.2.2.2 p hp).2.2.2.2.2.1 (hM.2.2.2.2.2 p hp).2.2.2.2.2.2.1 (by omega) ?_)
  show Gm LS rm 33 11 [.ref 1, .ref (8 * p + 339), .long 0, .long 0] [] (cb0 p im) P
  refine g_aload_n k33_11 rfl ?_
  refine g_getv (v := nI st) k33_12 ((hM.2.2.2.2.2 p hp).2.1) (by decide) (by rw [cb0_lt (by omega)]; exact hs) ?_
  refine g_aload_n k33_15 rfl ?_
  refine g_getr k33_16 ((hM.2.2.2.2.2 p hp).2.1) (by decide) ((hM.2.2.2.2.2 p hp).2.2.2.1) ?_
  refine g_getv (v := nI v) k33_19 ((hM.2.2.2.2.2 p hp).2.2.2.2.2.2.1.1) (by decide) (by rw [cb0_lt (by omega)]; exact hv) ?_
  refine g_isub k33_22 ?_
  refine g_top (y := nI (st - v)) (pk_sub hvs) ?_
  refine g_istore_n k33_23 (by decide) rfl ?_
  refine g_iconst (v := 0) k33_24 ic_0 ?_
  refine g_istore_n k33_25 (by decide) rfl ?_
  exact l33 hM hp hC hst hvs hs hv h1 (st - v) 0 (by omega)

set_option maxRecDepth 20000 in
set_option maxHeartbeats 4000000 in
theorem c32 {LS : Nat} {rm : Nat → Nat → Option Nat} {im : Nat → Nat → Int32} {P : Option Value → (Nat → Nat → Int32) → Prop} {p st v : Nat} {y : Int32} (hM : isLd LS rm) (hp : p < 4) (hy : y = 0 ∨ y = 1) (hC : okC im st) (hst : st ≤ 40) (hvs : v ≤ st) (hs : im (8 * p + 339) 1 = nI st) (hv : im (8 * p + 343) 2 = nI v) (h0 : im (8 * p + 339) 0 = y → P (some (.int (-1))) im) (h1 : im (8 * p + 339) 0 ≠ y → y = 0 → P (some (.int 0)) (en_u2 im (8 * p + 339) 0 y)) (h2 : im (8 * p + 339) 0 ≠ y → y ≠ 0 → P (some (.int (nI (st - v)))) (cbN p v (en_u2 im (8 * p + 339) 0 y) (st - v))) : Gm LS rm 32 0 (en_in 32 [.ref 1, .ref (8 * p + 339), .int y]) [] im P := by
  show Gm LS rm 32 0 [.ref (1), .ref (8 * p + 339), .int (y)] [] im P
  refine g_aload_n k32_0 rfl ?_
  refine g_geti k32_1 ((hM.2.2.2.2.2 p hp).2.1) (by decide) ?_
  refine g_iload_n k32_4 rfl ?_
  refine g_icmp_ne k32_5 (fun h => ?_) (fun h => ?_)
  · refine g_aload_n k32_10 rfl ?_
    refine g_iload_n k32_11 rfl ?_
    refine g_putz k32_12 (by decide) ((hM.2.2.2.2.2 p hp).2.1) (by decide) (hy) ?_
    refine g_iload_n k32_15 rfl ?_
    refine g_if_eq k32_16 (fun g => ?_) (fun g => ?_)
    · refine g_iconst (v := 0) k32_27 ic_0 ?_
      exact g_reti k32_28 rfl (h1 h g)
    · refine g_aload_n k32_19 rfl ?_
      refine g_aload_n k32_20 rfl ?_
      refine g_inv1 k32_21 (hM.1.1) rfl (by decide) (Nat.le_of_ble_eq_true rfl) (c33 (st := st) (v := v) hM hp (okC_ag (fun c hc => en_u2_off (by omega)) hC) hst hvs (by rw [u2_ne (by omega)]; exact hs) (by rw [u2_ne (by omega)]; exact hv) ?_)
      refine g_goto k32_24 ?_
      exact g_reti k32_28 rfl (h2 h g)
  · refine g_iconst (v := -1) k32_8 ic_m1 ?_
    exact g_reti k32_9 rfl (h0 h)

