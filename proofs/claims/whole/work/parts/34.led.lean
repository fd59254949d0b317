theorem and1 (x : Int32) : x &&& 1 = 0 ∨ x &&& 1 = 1 := by
  have h := pk_and x (m := 1) 1 (by decide)
  rcases Nat.mod_two_eq_zero_or_one x.toBitVec.toNat with e | e
  · left; rw [h, show (2 : Nat) ^ 1 = 2 from rfl, e]; rfl
  · right; rw [h, show (2 : Nat) ^ 1 = 2 from rfl, e]; rfl
/-- how many of the n from s on have the bit x -/
def cmN (f : Nat → Int32) (x : Int32) (s : Nat) : Nat → Nat
  | 0 => 0
  | n + 1 => cmN f x s n + (if (f (s + n) >>> (x &&& 31)) &&& 1 = 1 then 1 else 0)
theorem cmN_le (f : Nat → Int32) (x : Int32) (s : Nat) : ∀ n, cmN f x s n ≤ n := by
  intro n
  induction n with
  | zero => exact Nat.le_refl _
  | succ n ih =>
    unfold cmN
    split <;> omega
set_option maxRecDepth 20000 in
set_option maxHeartbeats 4000000 in
theorem l43 {LS : Nat} {rm : Nat → Nat → Option Nat} {im : Nat → Nat → Int32} {P : Option Value → (Nat → Nat → Int32) → Prop} {a h n : Nat} {x : Int32} (hA : isPr LS rm a) (hh : im a 4 = nI h) (hb : h ≤ 9) (hn : n ≤ h) (h1 : P (some (.int (nI (cmN (im (a + 3)) x (h - n) n)))) im) : ∀ (r i : Nat), i + r = n → Gm LS rm 43 10 [.ref a, .int (nI n), .int x, .int (nI (cmN (im (a + 3)) x (h - n) i)), .int (nI (h - n + i))] [] im P := by
  intro r
  induction r with
  | zero =>
    intro i hi
    have hie : n = i := by omega
    subst hie
    refine g_iload k43_10 rfl ?_
    refine g_aload_n k43_12 rfl ?_
    refine g_getv (v := nI h) k43_13 (hA.1) (by decide) (hh) ?_
    refine g_icmp_ge k43_16 (fun _ => ?_) (fun h => absurd (nI_le (by omega) (by omega)) h)
    refine g_iload_n k43_39 rfl ?_
    exact g_reti k43_40 rfl (h1)
  | succ r ih =>
    intro i hi
    refine g_iload k43_10 rfl ?_
    refine g_aload_n k43_12 rfl ?_
    refine g_getv (v := nI h) k43_13 (hA.1) (by decide) (hh) ?_
    refine g_icmp_ge k43_16 (fun h => absurd h (nI_ge (by omega) (by omega))) (fun _ => ?_)
    refine g_iload_n k43_19 rfl ?_
    refine g_aload_n k43_20 rfl ?_
    refine g_getr k43_21 (hA.1) (by decide) (hA.2.2.2.1) ?_
    refine g_iload k43_24 rfl ?_
    refine g_ialv k43_26 (hA.2.2.2.2.2.2) (by omega) (by decide) (rfl) ?_
    refine g_iload_n k43_27 rfl ?_
    refine g_ishr k43_28 ?_
    refine g_iconst (v := 1) k43_29 ic_1 ?_
    refine g_iand k43_30 ?_
    refine g_iadd k43_31 ?_
    have e1 : nI (cmN (im (a + 3)) x (h - n) i) + ((im (a + 3) (h - n + i) >>> (x &&& 31)) &&& 1) = nI (cmN (im (a + 3)) x (h - n) (i + 1)) := by
      rcases and1 (im (a + 3) (h - n + i) >>> (x &&& 31)) with e | e
      · rw [e]
        show _ = nI (cmN (im (a + 3)) x (h - n) i + (if (im (a + 3) (h - n + i) >>> (x &&& 31)) &&& 1 = 1 then 1 else 0))
        rw [e, if_neg (by decide), show (0 : Int32) = nI 0 from rfl, nI_add]
      · rw [e]
        show _ = nI (cmN (im (a + 3)) x (h - n) i + (if (im (a + 3) (h - n + i) >>> (x &&& 31)) &&& 1 = 1 then 1 else 0))
        rw [e, if_pos rfl]
        exact nI_1 _
    refine g_top e1 ?_
    refine g_istore_n k43_32 (by decide) rfl ?_
    refine g_iincv (y := nI (h - n + (i + 1))) k43_33 rfl (by decide) (inc_1 _) rfl ?_
    refine g_goto k43_36 ?_
    exact ih (i + 1) (by omega)

set_option maxRecDepth 20000 in
set_option maxHeartbeats 4000000 in
theorem c43 {LS : Nat} {rm : Nat → Nat → Option Nat} {im : Nat → Nat → Int32} {P : Option Value → (Nat → Nat → Int32) → Prop} {a h n : Nat} {x : Int32} (hA : isPr LS rm a) (hh : im a 4 = nI h) (hb : h ≤ 9) (hn : n ≤ h) (h1 : P (some (.int (nI (cmN (im (a + 3)) x (h - n) n)))) im) : Gm LS rm 43 0 (en_in 43 [.ref a, .int (nI n), .int x]) [] im P := by
  show Gm LS rm 43 0 [.ref (a), .int (nI n), .int (x), .long 0, .long 0] [] im P
  refine g_iconst (v := 0) k43_0 ic_0 ?_
  refine g_istore_n k43_1 (by decide) rfl ?_
  refine g_aload_n k43_2 rfl ?_
  refine g_getv (v := nI h) k43_3 (hA.1) (by decide) (hh) ?_
  refine g_iload_n k43_6 rfl ?_
  refine g_isub k43_7 ?_
  refine g_top (y := nI (h - n)) (pk_sub hn) ?_
  refine g_istore k43_8 (by decide) rfl ?_
  exact l43 hA hh hb hn h1 n 0 (by omega)

def lfN (q : Nat) : Nat → Int32
  | 0 => 0
  | i + 1 => lfN q i ||| ((((nI i) >>> ((nI q) &&& 31)) &&& 1) <<< ((nI i) &&& 31))
set_option maxRecDepth 20000 in
set_option maxHeartbeats 4000000 in
theorem l41 {LS : Nat} {rm : Nat → Nat → Option Nat} {im : Nat → Nat → Int32} {P : Option Value → (Nat → Nat → Int32) → Prop} {a q h r : Nat} (hA : isPr LS rm a) (hh : im a 4 = nI h) (hr : im a 5 = nI r) (hb : h ≤ r) (hr9 : r ≤ 9) (h0 : r = 9 → P (some (.int 0)) im) (h1 : r < 9 → P (some (.int 1)) (en_u2 (en_u2 (en_u2 im (a + 3) h (lfN q 16)) a 4 (nI (h + 1))) a 5 (nI (r + 1)))) (hlt : r < 9) : ∀ (n i : Nat), i + n = 16 → Gm LS rm 41 15 [.ref (a), .int (nI q), .int (lfN q i), .int (nI i)] [] (im) P := by
  intro n
  induction n with
  | zero =>
    intro i hi
    have hie : i = 16 := by omega
    subst hie
    refine g_iload_n k41_15 rfl ?_
    refine g_bipush (v := 16) k41_16 bp_16 ?_
    refine g_icmp_ge k41_18 (fun _ => ?_) (fun h => absurd (nI_le (Nat.le_refl _) (by decide)) h)
    refine g_aload_n k41_37 rfl ?_
    refine g_iload_n k41_38 rfl ?_
    refine g_inv1 k41_39 (hA.1) rfl (by decide) (Nat.le_of_ble_eq_true rfl) (c44 hA hh hr (by omega) ?_)
    refine g_iconst (v := 1) k41_42 ic_1 ?_
    exact g_retz k41_43 rfl (by decide) (h1 hlt)
  | succ n ih =>
    intro i hi
    have hlt2 : i < 16 := by omega
    refine g_iload_n k41_15 rfl ?_
    refine g_bipush (v := 16) k41_16 bp_16 ?_
    refine g_icmp_ge k41_18 (fun h => absurd h (nI_ge hlt2 (by decide))) (fun _ => ?_)
    refine g_iload_n k41_21 rfl ?_
    refine g_iload_n k41_22 rfl ?_
    refine g_iload_n k41_23 rfl ?_
    refine g_ishr k41_24 ?_
    refine g_iconst (v := 1) k41_25 ic_1 ?_
    refine g_iand k41_26 ?_
    refine g_iload_n k41_27 rfl ?_
    refine g_ishl k41_28 ?_
    refine g_ior k41_29 ?_
    refine g_istore_n k41_30 (by decide) rfl ?_
    refine g_iincv (y := nI (i + 1)) k41_31 rfl (by decide) (inc_1 i) rfl ?_
    refine g_goto k41_34 ?_
    exact ih (i + 1) (by omega)

set_option maxRecDepth 20000 in
set_option maxHeartbeats 4000000 in
theorem c41 {LS : Nat} {rm : Nat → Nat → Option Nat} {im : Nat → Nat → Int32} {P : Option Value → (Nat → Nat → Int32) → Prop} {a q h r : Nat} (hA : isPr LS rm a) (hh : im a 4 = nI h) (hr : im a 5 = nI r) (hb : h ≤ r) (hr9 : r ≤ 9) (h0 : r = 9 → P (some (.int 0)) im) (h1 : r < 9 → P (some (.int 1)) (en_u2 (en_u2 (en_u2 im (a + 3) h (lfN q 16)) a 4 (nI (h + 1))) a 5 (nI (r + 1)))) : Gm LS rm 41 0 (en_in 41 [.ref a, .int (nI q)]) [] im P := by
  show Gm LS rm 41 0 [.ref (a), .int (nI q), .long 0, .long 0] [] im P
  refine g_aload_n k41_0 rfl ?_
  refine g_getv (v := nI r) k41_1 (hA.1) (by decide) (hr) ?_
  refine g_bipush (v := 9) k41_4 bp_9 ?_
  refine g_icmp_lt k41_6 (fun h => ?_) (fun h => ?_)
  · have hlt : r < 9 := (nI_ltI (by omega) (by decide)).mp h
    refine g_iconst (v := 0) k41_11 ic_0 ?_
    refine g_istore_n k41_12 (by decide) rfl ?_
    refine g_iconst (v := 0) k41_13 ic_0 ?_
    refine g_istore_n k41_14 (by decide) rfl ?_
    exact l41 hA hh hr hb hr9 h0 h1 hlt 16 0 (by omega)
  · refine g_iconst (v := 0) k41_9 ic_0 ?_
    exact g_retz k41_10 rfl (by decide) (h0 (by have : ¬ r < 9 := fun z => h ((nI_ltI (b := 9) (by omega) (by decide)).mpr z); omega))

def jnN (f : Nat → Int32) (s n k : Nat) : Nat → Int32
  | 0 => 0
  | i + 1 => if k ≤ cmN f (nI i) s n then jnN f s n k i ||| ((1 : Int32) <<< ((nI i) &&& 31)) else jnN f s n k i
set_option maxRecDepth 20000 in
set_option maxHeartbeats 4000000 in
theorem l42 {LS : Nat} {rm : Nat → Nat → Option Nat} {im : Nat → Nat → Int32} {P : Option Value → (Nat → Nat → Int32) → Prop} {a kk n h r : Nat} (hA : isPr LS rm a) (hh : im a 4 = nI h) (hr : im a 5 = nI r) (hb : h ≤ r) (hr9 : r ≤ 9) (hn0 : 1 ≤ n) (hn : n ≤ 4) (hk : kk ≤ n) (h0 : (r = 9 ∨ h < n) → P (some (.int 0)) im) (h1 : r < 9 → n ≤ h → P (some (.int 1)) (en_u2 (en_u2 (en_u2 (en_u2 im a 4 (nI (h - n))) (a + 3) (h - n) (jnN (im (a + 3)) (h - n) n kk 16)) a 4 (nI (h - n + 1))) a 5 (nI (r + 1)))) (hlt : r < 9) (hnh : n ≤ h) : ∀ (rr i : Nat), i + rr = 16 → Gm LS rm 42 24 [.ref (a), .int (nI kk), .int (nI n), .int (jnN (im (a + 3)) (h - n) n kk i), .int (nI i)] [] (im) P := by
  intro rr
  induction rr with
  | zero =>
    intro i hi
    have hie : i = 16 := by omega
    subst hie
    refine g_iload k42_24 rfl ?_
    refine g_bipush (v := 16) k42_26 bp_16 ?_
    refine g_icmp_ge k42_28 (fun _ => ?_) (fun h => absurd (nI_le (Nat.le_refl _) (by decide)) h)
    refine g_aload_n k42_55 rfl ?_
    refine g_dup k42_56 rfl ?_
    refine g_getv (v := nI h) k42_57 (hA.1) (by decide) (hh) ?_
    refine g_iload_n k42_60 rfl ?_
    refine g_isub k42_61 ?_
    refine g_top (y := nI (h - n)) (pk_sub hnh) ?_
    refine g_puti k42_62 (by decide) (hA.1) (by decide) ?_
    refine g_aload_n k42_65 rfl ?_
    refine g_iload_n k42_66 rfl ?_
    refine g_inv1 k42_67 (hA.1) rfl (by decide) (Nat.le_of_ble_eq_true rfl) (c44 (h := h - n) (r := r) hA u2_eq (by rw [u2_ne (by omega)]; exact hr) (by omega) ?_)
    refine g_iconst (v := 1) k42_70 ic_1 ?_
    exact g_retz k42_71 rfl (by decide) (h1 hlt hnh)
  | succ rr ih =>
    intro i hi
    have hlt2 : i < 16 := by omega
    refine g_iload k42_24 rfl ?_
    refine g_bipush (v := 16) k42_26 bp_16 ?_
    refine g_icmp_ge k42_28 (fun h => absurd h (nI_ge hlt2 (by decide))) (fun _ => ?_)
    refine g_aload_n k42_31 rfl ?_
    refine g_iload_n k42_32 rfl ?_
    refine g_iload k42_33 rfl ?_
    refine g_inv2 k42_35 (hA.1) rfl rfl (by decide) (Nat.le_of_ble_eq_true rfl) (c43 (x := nI i) hA hh (by omega) hnh ?_)
    refine g_iload_n k42_38 rfl ?_
    refine g_icmp_lt k42_39 (fun g => ?_) (fun g => ?_)
    · have hlk : ¬ kk ≤ cmN (im (a + 3)) (nI i) (h - n) n := fun z => nI_nlt z (by have := cmN_le (im (a + 3)) (nI i) (h - n) n; omega) g
      refine g_iincv (y := nI (i + 1)) k42_49 rfl (by decide) (inc_1 i) rfl ?_
      refine g_goto k42_52 ?_
      have e1 : jnN (im (a + 3)) (h - n) n kk (i + 1) = jnN (im (a + 3)) (h - n) n kk i := if_neg hlk
      have := ih (i + 1) (by omega)
      rw [e1] at this
      exact this
    · have hlk : kk ≤ cmN (im (a + 3)) (nI i) (h - n) n := Nat.not_lt.mp (fun z => g (nI_lt z (by omega)))
      refine g_iload_n k42_42 rfl ?_
      refine g_iconst (v := 1) k42_43 ic_1 ?_
      refine g_iload k42_44 rfl ?_
      refine g_ishl k42_46 ?_
      refine g_ior k42_47 ?_
      refine g_istore_n k42_48 (by decide) rfl ?_
      refine g_iincv (y := nI (i + 1)) k42_49 rfl (by decide) (inc_1 i) rfl ?_
      refine g_goto k42_52 ?_
      have e1 : jnN (im (a + 3)) (h - n) n kk (i + 1) = jnN (im (a + 3)) (h - n) n kk i ||| ((1 : Int32) <<< ((nI i) &&& 31)) := if_pos hlk
      have := ih (i + 1) (by omega)
      rw [e1] at this
      exact this

set_option maxRecDepth 20000 in
set_option maxHeartbeats 4000000 in
theorem c42 {LS : Nat} {rm : Nat → Nat → Option Nat} {im : Nat → Nat → Int32} {P : Option Value → (Nat → Nat → Int32) → Prop} {a kk n h r : Nat} (hA : isPr LS rm a) (hh : im a 4 = nI h) (hr : im a 5 = nI r) (hb : h ≤ r) (hr9 : r ≤ 9) (hn0 : 1 ≤ n) (hn : n ≤ 4) (hk : kk ≤ n) (h0 : (r = 9 ∨ h < n) → P (some (.int 0)) im) (h1 : r < 9 → n ≤ h → P (some (.int 1)) (en_u2 (en_u2 (en_u2 (en_u2 im a 4 (nI (h - n))) (a + 3) (h - n) (jnN (im (a + 3)) (h - n) n kk 16)) a 4 (nI (h - n + 1))) a 5 (nI (r + 1)))) : Gm LS rm 42 0 (en_in 42 [.ref a, .int (nI kk), .int (nI n)]) [] im P := by
  show Gm LS rm 42 0 [.ref (a), .int (nI kk), .int (nI n), .long 0, .long 0] [] im P
  refine g_aload_n k42_0 rfl ?_
  refine g_getv (v := nI r) k42_1 (hA.1) (by decide) (hr) ?_
  refine g_bipush (v := 9) k42_4 bp_9 ?_
  refine g_icmp_ge k42_6 (fun g => ?_) (fun g => ?_)
  · refine g_iconst (v := 0) k42_17 ic_0 ?_
    exact g_retz k42_18 rfl (by decide) (h0 (Or.inl (by have : ¬ r < 9 := fun z => nI_ge z (by decide) g; omega)))
  · have hlt : r < 9 := Nat.not_le.mp (fun z => g (nI_le z (by omega)))
    refine g_aload_n k42_9 rfl ?_
    refine g_getv (v := nI h) k42_10 (hA.1) (by decide) (hh) ?_
    refine g_iload_n k42_13 rfl ?_
    refine g_icmp_ge k42_14 (fun e => ?_) (fun e => ?_)
    · have hnh : n ≤ h := (nI_leI (by omega) (by omega)).mp e
      refine g_iconst (v := 0) k42_19 ic_0 ?_
      refine g_istore_n k42_20 (by decide) rfl ?_
      refine g_iconst (v := 0) k42_21 ic_0 ?_
      refine g_istore k42_22 (by decide) rfl ?_
      exact l42 hA hh hr hb hr9 hn0 hn hk h0 h1 hlt hnh 16 0 (by omega)
    · refine g_iconst (v := 0) k42_17 ic_0 ?_
      exact g_retz k42_18 rfl (by decide) (h0 (Or.inr (Nat.not_le.mp (fun z => e (nI_le z (by omega))))))

def isLT (im : Nat → Nat → Int32) (a n t : Nat) : Prop := im a 1 = nI n ∧ n ≤ 40 ∧ t < 100000 ∧ ((n = 0 ∧ t = 0) ∨ (0 < n ∧ ∃ m, m < 60 ∧ im (a + 1) (n - 1) = nI m ∧ im (2 * m + 210) 2 = nI t))
theorem c25t {LS : Nat} {rm : Nat → Nat → Option Nat} {im : Nat → Nat → Int32} {P : Option Value → (Nat → Nat → Int32) → Prop} {a n t : Nat} (hM : isLd LS rm) (hA : isBL LS rm a) (hT : isLT im a n t) (h1 : P (some (.int (nI t))) im) : Gm LS rm 25 0 (en_in 25 [.ref 1, .ref a]) [] im P := by
  obtain ⟨hn, hb, -, h | ⟨h, m, hm, e1, e2⟩⟩ := hT
  · obtain ⟨rfl, rfl⟩ := h
    exact c25 (m := 0) hM hA hn hb (fun z => absurd z (by decide)) (fun _ => h1) (fun z => absurd z (by decide))
  · refine c25 (m := m) hM hA hn hb (fun _ => ⟨e1, hm⟩) (fun z => by omega) (fun _ => ?_)
    rw [e2]
    exact h1
set_option maxRecDepth 20000 in
set_option maxHeartbeats 4000000 in
theorem c24 {LS : Nat} {rm : Nat → Nat → Option Nat} {im : Nat → Nat → Int32} {P : Option Value → (Nat → Nat → Int32) → Prop} {a b n1 n2 t1 t2 : Nat} (hM : isLd LS rm) (hA : isBL LS rm a) (hB : isBL LS rm b) (hTa : isLT im a n1 t1) (hTb : isLT im b n2 t2) (h1 : (t2 < t1 ∨ (t1 = t2 ∧ n2 < n1)) → P (some (.int 1)) im) (h0 : ¬ (t2 < t1 ∨ (t1 = t2 ∧ n2 < n1)) → P (some (.int 0)) im) : Gm LS rm 24 0 (en_in 24 [.ref 1, .ref a, .ref b]) [] im P := by
  show Gm LS rm 24 0 [.ref (1), .ref (a), .ref (b), .long 0, .long 0] [] im P
  have x1 := hTa.2.2.1
  have x2 := hTb.2.2.1
  have x3 := hTa.2.1
  have x4 := hTb.2.1
  refine g_aload_n k24_0 rfl ?_
  refine g_aload_n k24_1 rfl ?_
  refine g_inv1 k24_2 (hM.1.1) rfl (by decide) (Nat.le_of_ble_eq_true rfl) (c25t hM hA hTa ?_)
  refine g_istore_n k24_5 (by decide) rfl ?_
  refine g_aload_n k24_6 rfl ?_
  refine g_aload_n k24_7 rfl ?_
  refine g_inv1 k24_8 (hM.1.1) rfl (by decide) (Nat.le_of_ble_eq_true rfl) (c25t hM hB hTb ?_)
  refine g_istore k24_11 (by decide) rfl ?_
  refine g_iload_n k24_13 rfl ?_
  refine g_iload k24_14 rfl ?_
  refine g_icmp_gt k24_16 (fun g => ?_) (fun g => ?_)
  · refine g_iconst (v := 1) k24_36 ic_1 ?_
    refine g_goto k24_37 ?_
    exact g_retz k24_41 rfl (by decide) (h1 (Or.inl ((nI_ltI (by omega) (by omega)).mp g)))
  · have g1 : ¬ t2 < t1 := fun z => g (nI_lt z (by omega))
    refine g_iload_n k24_19 rfl ?_
    refine g_iload k24_20 rfl ?_
    refine g_icmp_ne k24_22 (fun e => ?_) (fun e => ?_)
    · have g2 : t1 ≠ t2 := fun z => e (by rw [z])
      refine g_iconst (v := 0) k24_40 ic_0 ?_
      exact g_retz k24_41 rfl (by decide) (h0 (fun z => z.elim g1 (fun y => g2 y.1)))
    · have g2 : t1 = t2 := (nI_eq (by omega) (by omega)).mp e
      refine g_aload_n k24_25 rfl ?_
      refine g_getv (v := nI n1) k24_26 (hA.1) (by decide) (hTa.1) ?_
      refine g_aload_n k24_29 rfl ?_
      refine g_getv (v := nI n2) k24_30 (hB.1) (by decide) (hTb.1) ?_
      refine g_icmp_le k24_33 (fun d => ?_) (fun d => ?_)
      · refine g_iconst (v := 0) k24_40 ic_0 ?_
        exact g_retz k24_41 rfl (by decide) (h0 (fun z => z.elim g1 (fun y => nI_ge (a := n2) (b := n1) y.2 (by omega) d)))
      · refine g_iconst (v := 1) k24_36 ic_1 ?_
        refine g_goto k24_37 ?_
        exact g_retz k24_41 rfl (by decide) (h1 (Or.inr ⟨g2, Nat.not_le.mp (fun z => d (nI_le z (by omega)))⟩))

def cntB (p : Nat → Bool) : Nat → Nat
  | 0 => 0
  | n + 1 => cntB p n + (if p n = true then 1 else 0)
theorem cntB_le (p : Nat → Bool) : ∀ n, cntB p n ≤ n := by
  intro n
  induction n with
  | zero => exact Nat.le_refl _
  | succ n ih =>
    unfold cntB
    split <;> omega
def sup (im : Nat → Nat → Int32) (n t : Nat → Nat) (o i : Nat) : Bool := decide (im (3 * i + 330) 0 ≠ 0) && !decide (t o < t i ∨ (t i = t o ∧ n o < n i))
set_option maxRecDepth 20000 in
set_option maxHeartbeats 4000000 in
theorem l23 {LS : Nat} {rm : Nat → Nat → Option Nat} {im : Nat → Nat → Int32} {P : Option Value → (Nat → Nat → Int32) → Prop} {n t : Nat → Nat} {o : Nat} (hM : isLd LS rm) (ho : o < 3) (hT : ∀ i, i < 3 → isLT im (3 * i + 331) (n i) (t i)) (h1 : P (some (.int (nI (cntB (sup im n t o) 3)))) im) : ∀ (rr i : Nat), i + rr = 3 → Gm LS rm 23 4 [.ref (1), .int (nI o), .int (nI (cntB (sup im n t o) i)), .int (nI i)] [] (im) P := by
  intro rr
  induction rr with
  | zero =>
    intro i hi
    have hie : i = 3 := by omega
    subst hie
    refine g_iload_n k23_4 rfl ?_
    refine g_iconst (v := 3) k23_5 ic_3 ?_
    refine g_icmp_ge k23_6 (fun _ => ?_) (fun h => absurd (nI_le (Nat.le_refl _) (by decide)) h)
    refine g_iload_n k23_55 rfl ?_
    exact g_reti k23_56 rfl (h1)
  | succ rr ih =>
    intro i hi
    have hlt : i < 3 := by omega
    refine g_iload_n k23_4 rfl ?_
    refine g_iconst (v := 3) k23_5 ic_3 ?_
    refine g_icmp_ge k23_6 (fun h => absurd h (nI_ge hlt (by decide))) (fun _ => ?_)
    refine g_aload_n k23_9 rfl ?_
    refine g_getr k23_10 (hM.1.1) (by decide) (hM.1.2.2.2.2.2.1) ?_
    refine g_iload_n k23_13 rfl ?_
    refine g_aalv (t := 3) k23_14 (hM.1.2.2.2.2.2.2.2.2.2.2.2.2.2.1) ⟨_, rfl⟩ (hlt) (by decide) ((hM.2.2.2.2.1 i (hlt)).1) ?_
    refine g_geti k23_15 ((hM.2.2.2.2.1 i (hlt)).2.1) (by decide) ?_
    refine g_if_eq k23_18 (fun h => ?_) (fun h => ?_)
    · refine g_iincv (y := nI (i + 1)) k23_49 rfl (by decide) (inc_1 i) rfl ?_
      refine g_goto k23_52 ?_
      have e1 : cntB (sup im n t o) (i + 1) = cntB (sup im n t o) i := by
        show _ + (if sup im n t o i = true then 1 else 0) = _
        rw [if_neg (by simp [sup, h])]
        rfl
      have := ih (i + 1) (by omega)
      rw [e1] at this
      exact this
    · refine g_aload_n k23_21 rfl ?_
      refine g_aload_n k23_22 rfl ?_
      refine g_getr k23_23 (hM.1.1) (by decide) (hM.1.2.2.2.2.2.1) ?_
      refine g_iload_n k23_26 rfl ?_
      refine g_aalv (t := 3) k23_27 (hM.1.2.2.2.2.2.2.2.2.2.2.2.2.2.1) ⟨_, rfl⟩ (hlt) (by decide) ((hM.2.2.2.2.1 i (hlt)).1) ?_
      refine g_getr k23_28 ((hM.2.2.2.2.1 i (hlt)).2.1) (by decide) ((hM.2.2.2.2.1 i (hlt)).2.2.1) ?_
      refine g_aload_n k23_31 rfl ?_
      refine g_getr k23_32 (hM.1.1) (by decide) (hM.1.2.2.2.2.2.1) ?_
      refine g_iload_n k23_35 rfl ?_
      refine g_aalv (t := 3) k23_36 (hM.1.2.2.2.2.2.2.2.2.2.2.2.2.2.1) ⟨_, rfl⟩ (ho) (by decide) ((hM.2.2.2.2.1 o (ho)).1) ?_
      refine g_getr k23_37 ((hM.2.2.2.2.1 o (ho)).2.1) (by decide) ((hM.2.2.2.2.1 o (ho)).2.2.1) ?_
      refine g_inv2 k23_40 (hM.1.1) rfl rfl (by decide) (Nat.le_of_ble_eq_true rfl) (c24 hM (hM.2.2.2.2.1 i hlt).2.2.2 (hM.2.2.2.2.1 o ho).2.2.2 (hT i hlt) (hT o ho) (fun g => ?_) (fun g => ?_))
      · refine g_if_ne k23_43 (fun _ => ?_) (fun h => absurd h (by decide))
        refine g_iincv (y := nI (i + 1)) k23_49 rfl (by decide) (inc_1 i) rfl ?_
        refine g_goto k23_52 ?_
        have e1 : cntB (sup im n t o) (i + 1) = cntB (sup im n t o) i := by
          show _ + (if sup im n t o i = true then 1 else 0) = _
          rw [if_neg (by simp only [sup, g]; simp)]
          rfl
        have := ih (i + 1) (by omega)
        rw [e1] at this
        exact this
      · refine g_if_ne k23_43 (fun h => absurd (by decide) h) (fun _ => ?_)
        refine g_iincv (y := nI (cntB (sup im n t o) i + 1)) k23_46 rfl (by decide) (inc_1 _) rfl ?_
        refine g_iincv (y := nI (i + 1)) k23_49 rfl (by decide) (inc_1 i) rfl ?_
        refine g_goto k23_52 ?_
        have e1 : cntB (sup im n t o) (i + 1) = cntB (sup im n t o) i + 1 := by
          show _ + (if sup im n t o i = true then 1 else 0) = _
          rw [if_pos (by simp only [sup, g]; simp [h])]
          skip
        have := ih (i + 1) (by omega)
        rw [e1] at this
        exact this

set_option maxRecDepth 20000 in
set_option maxHeartbeats 4000000 in
theorem c23 {LS : Nat} {rm : Nat → Nat → Option Nat} {im : Nat → Nat → Int32} {P : Option Value → (Nat → Nat → Int32) → Prop} {n t : Nat → Nat} {o : Nat} (hM : isLd LS rm) (ho : o < 3) (hT : ∀ i, i < 3 → isLT im (3 * i + 331) (n i) (t i)) (h1 : P (some (.int (nI (cntB (sup im n t o) 3)))) im) : Gm LS rm 23 0 (en_in 23 [.ref 1, .int (nI o)]) [] im P := by
  show Gm LS rm 23 0 [.ref (1), .int (nI o), .long 0, .long 0] [] im P
  refine g_iconst (v := 0) k23_0 ic_0 ?_
  refine g_istore_n k23_1 (by decide) rfl ?_
  refine g_iconst (v := 0) k23_2 ic_0 ?_
  refine g_istore_n k23_3 (by decide) rfl ?_
  exact l23 hM ho hT h1 3 0 (by omega)

def gtN (u : Nat → Bool) (t : Nat → Nat) : Nat → Nat
  | 0 => 0
  | n + 1 => if u n = true then max (gtN u t n) (t n) else gtN u t n
theorem gtN_le {u : Nat → Bool} {t : Nat → Nat} {B : Nat} : ∀ n, (∀ i, i < n → t i ≤ B) → gtN u t n ≤ B := by
  intro n
  induction n with
  | zero => intro _; exact Nat.zero_le _
  | succ n ih =>
    intro h
    have h1 := ih (fun i hi => h i (by omega))
    have h2 := h n (by omega)
    unfold gtN
    split <;> omega
def upB (im : Nat → Nat → Int32) (i : Nat) : Bool := decide (im (3 * i + 330) 0 ≠ 0)
set_option maxRecDepth 20000 in
set_option maxHeartbeats 4000000 in
theorem l26 {LS : Nat} {rm : Nat → Nat → Option Nat} {im : Nat → Nat → Int32} {P : Option Value → (Nat → Nat → Int32) → Prop} {t : Nat → Nat} (hM : isLd LS rm) (hT : ∀ i, i < 3 → im (3 * i + 330) 1 = nI (t i) ∧ t i ≤ 100000) (h1 : P (some (.int (nI (gtN (upB im) t 3)))) im) : ∀ (n i : Nat), i + n = 3 → Gm LS rm 26 4 [.ref (1), .int (nI (gtN (upB im) t i)), .int (nI i)] [] (im) P := by
  intro n
  induction n with
  | zero =>
    intro i hi
    have hie : i = 3 := by omega
    subst hie
    refine g_iload_n k26_4 rfl ?_
    refine g_iconst (v := 3) k26_5 ic_3 ?_
    refine g_icmp_ge k26_6 (fun _ => ?_) (fun h => absurd (nI_le (Nat.le_refl _) (by decide)) h)
    refine g_iload_n k26_41 rfl ?_
    exact g_reti k26_42 rfl (h1)
  | succ n ih =>
    intro i hi
    have hlt : i < 3 := by omega
    refine g_iload_n k26_4 rfl ?_
    refine g_iconst (v := 3) k26_5 ic_3 ?_
    refine g_icmp_ge k26_6 (fun h => absurd h (nI_ge hlt (by decide))) (fun _ => ?_)
    refine g_aload_n k26_9 rfl ?_
    refine g_getr k26_10 (hM.1.1) (by decide) (hM.1.2.2.2.2.2.1) ?_
    refine g_iload_n k26_13 rfl ?_
    refine g_aalv (t := 3) k26_14 (hM.1.2.2.2.2.2.2.2.2.2.2.2.2.2.1) ⟨_, rfl⟩ (hlt) (by decide) ((hM.2.2.2.2.1 i (hlt)).1) ?_
    refine g_geti k26_15 ((hM.2.2.2.2.1 i (hlt)).2.1) (by decide) ?_
    refine g_if_eq k26_18 (fun h => ?_) (fun h => ?_)
    · refine g_iincv (y := nI (i + 1)) k26_35 rfl (by decide) (inc_1 i) rfl ?_
      refine g_goto k26_38 ?_
      have e1 : gtN (upB im) t (i + 1) = gtN (upB im) t i := if_neg (by simp [upB, h])
      have := ih (i + 1) (by omega)
      rw [e1] at this
      exact this
    · have hg : gtN (upB im) t i ≤ 100000 := gtN_le i (fun j hj => (hT j (by omega)).2)
      have ht := (hT i hlt).2
      refine g_iload_n k26_21 rfl ?_
      refine g_aload_n k26_22 rfl ?_
      refine g_getr k26_23 (hM.1.1) (by decide) (hM.1.2.2.2.2.2.1) ?_
      refine g_iload_n k26_26 rfl ?_
      refine g_aalv (t := 3) k26_27 (hM.1.2.2.2.2.2.2.2.2.2.2.2.2.2.1) ⟨_, rfl⟩ (hlt) (by decide) ((hM.2.2.2.2.1 i (hlt)).1) ?_
      refine g_getv (v := nI (t i)) k26_28 ((hM.2.2.2.2.1 i (hlt)).2.1) (by decide) ((hT i hlt).1) ?_
      refine g_max k26_31 (Nat.le_of_ble_eq_true rfl) ?_
      refine g_top (y := nI (max (gtN (upB im) t i) (t i))) (by rcases Nat.lt_or_ge (gtN (upB im) t i) (t i) with z | z; rw [if_pos (nI_lt z (by omega)), Nat.max_eq_right (Nat.le_of_lt z)]; rw [if_neg (nI_nlt z (by omega)), Nat.max_eq_left z]) ?_
      refine g_istore_n k26_34 (by decide) rfl ?_
      refine g_iincv (y := nI (i + 1)) k26_35 rfl (by decide) (inc_1 i) rfl ?_
      refine g_goto k26_38 ?_
      have e1 : gtN (upB im) t (i + 1) = max (gtN (upB im) t i) (t i) := if_pos (by simp [upB, h])
      have := ih (i + 1) (by omega)
      rw [e1] at this
      exact this

set_option maxRecDepth 20000 in
set_option maxHeartbeats 4000000 in
theorem c26 {LS : Nat} {rm : Nat → Nat → Option Nat} {im : Nat → Nat → Int32} {P : Option Value → (Nat → Nat → Int32) → Prop} {t : Nat → Nat} (hM : isLd LS rm) (hT : ∀ i, i < 3 → im (3 * i + 330) 1 = nI (t i) ∧ t i ≤ 100000) (h1 : P (some (.int (nI (gtN (upB im) t 3)))) im) : Gm LS rm 26 0 (en_in 26 [.ref 1]) [] im P := by
  show Gm LS rm 26 0 [.ref (1), .long 0, .long 0] [] im P
  refine g_iconst (v := 0) k26_0 ic_0 ?_
  refine g_istore_n k26_1 (by decide) rfl ?_
  refine g_iconst (v := 0) k26_2 ic_0 ?_
  refine g_istore_n k26_3 (by decide) rfl ?_
  exact l26 hM hT h1 3 0 (by omega)

