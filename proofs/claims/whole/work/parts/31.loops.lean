theorem ur_u2 {α : Type} {f : Nat → Nat → α} {b i : Nat} {g : Nat → α} {v : α} : en_u2 (en_ur f b g) b i v = en_ur f b (fun k => if k = i then v else g k) := by
  funext c k
  by_cases h : c = b
  · subst h; simp [en_u2, en_ur]
  · simp [en_u2, en_ur, h]
theorem ur_self {α : Type} {f : Nat → Nat → α} {b : Nat} : en_ur f b (f b) = f := by
  funext c
  by_cases h : c = b
  · subst h; simp [en_ur]
  · simp [en_ur, h]
theorem ur_eq {α : Type} {f : Nat → Nat → α} {b : Nat} {g : Nat → α} : en_ur f b g b = g := by simp [en_ur]
theorem ur_ne {α : Type} {f : Nat → Nat → α} {b c : Nat} {g : Nat → α} (h : c ≠ b) : en_ur f b g c = f c := by simp [en_ur, h]
def rs_clr (i : Nat) (f : Nat → Int32) : Nat → Int32 := fun k => if k < i then (if k < 48 then -1 else 0) else f k
theorem rs_clr_0 {f : Nat → Int32} : rs_clr 0 f = f := by funext k; simp [rs_clr]
theorem rs_clr_s {i : Nat} {f : Nat → Int32} {v : Int32} (hv : v = if i < 48 then -1 else 0) : (fun k => if k = i then v else rs_clr i f k) = rs_clr (i + 1) f := by
  funext k
  unfold rs_clr
  by_cases h : k = i
  · subst h; simp [hv]
  · rw [if_neg h]
    by_cases h2 : k < i
    · rw [if_pos h2, if_pos (by omega : k < i + 1)]
    · rw [if_neg h2, if_neg (by omega : ¬ k < i + 1)]
set_option maxRecDepth 20000 in
set_option maxHeartbeats 4000000 in
theorem l58 {LS : Nat} {rm : Nat → Nat → Option Nat} {im : Nat → Nat → Int32} {P : Option Value → (Nat → Nat → Int32) → Prop} {a : Nat} (hA : isRs LS rm a) (h1 : P none (en_u2 (en_ur im (a + 1) (rs_clr 80 (im (a + 1)))) a 1 0)) : ∀ (n i : Nat), i + n = 80 → Gm LS rm 58 2 [.ref (a), .int (nI i)] [] (en_ur im (a + 1) (rs_clr i (im (a + 1)))) P := by
  intro n
  induction n with
  | zero =>
    intro i hi
    have hie : i = 80 := by omega
    subst hie
    refine g_iload_n k58_2 rfl ?_
    refine g_bipush (v := 80) k58_3 bp_80 ?_
    refine g_icmp_ge k58_5 (fun _ => ?_) (fun h => absurd (nI_le (Nat.le_refl _) (by decide)) h)
    refine g_aload_n k58_31 rfl ?_
    refine g_iconst (v := 0) k58_32 ic_0 ?_
    refine g_puti k58_33 (by decide) (hA.1) (by decide) ?_
    exact g_retv k58_36 rfl (h1)
  | succ n ih =>
    intro i hi
    have hlt : i < 80 := by omega
    refine g_iload_n k58_2 rfl ?_
    refine g_bipush (v := 80) k58_3 bp_80 ?_
    refine g_icmp_ge k58_5 (fun h => absurd h (nI_ge hlt (by decide))) (fun _ => ?_)
    refine g_aload_n k58_8 rfl ?_
    refine g_getr k58_9 (hA.1) (by decide) (hA.2.1) ?_
    refine g_iload_n k58_12 rfl ?_
    refine g_iload_n k58_13 rfl ?_
    refine g_bipush (v := 48) k58_14 bp_48 ?_
    refine g_icmp_ge k58_16 (fun h => ?_) (fun h => ?_)
    · have h48 : ¬ i < 48 := fun z => nI_ge z (by decide) h
      refine g_iconst (v := 0) k58_23 ic_0 ?_
      refine g_iasv k58_24 (hA.2.2) (hlt) (by decide) ?_
      rw [ur_u2, rs_clr_s (by rw [if_neg h48])]
      refine g_iincv (y := nI (i + 1)) k58_25 rfl (by decide) (inc_1 i) rfl ?_
      refine g_goto k58_28 ?_
      exact ih (i + 1) (by omega)
    · have h48 : i < 48 := Nat.not_le.mp (fun z => h (nI_le z (by omega)))
      refine g_iconst (v := -1) k58_19 ic_m1 ?_
      refine g_goto k58_20 ?_
      refine g_iasv k58_24 (hA.2.2) (hlt) (by decide) ?_
      rw [ur_u2, rs_clr_s (by rw [if_pos h48])]
      refine g_iincv (y := nI (i + 1)) k58_25 rfl (by decide) (inc_1 i) rfl ?_
      refine g_goto k58_28 ?_
      exact ih (i + 1) (by omega)

set_option maxRecDepth 20000 in
set_option maxHeartbeats 4000000 in
theorem c58 {LS : Nat} {rm : Nat → Nat → Option Nat} {im : Nat → Nat → Int32} {P : Option Value → (Nat → Nat → Int32) → Prop} {a : Nat} (hA : isRs LS rm a) (h1 : P none (en_u2 (en_ur im (a + 1) (rs_clr 80 (im (a + 1)))) a 1 0)) : Gm LS rm 58 0 (en_in 58 [.ref a]) [] im P := by
  show Gm LS rm 58 0 [.ref (a), .long 0] [] im P
  refine g_iconst (v := 0) k58_0 ic_0 ?_
  refine g_istore_n k58_1 (by decide) rfl ?_
  have := l58 hA h1 80 0 (by omega)
  rw [rs_clr_0, ur_self] at this
  exact this

set_option maxRecDepth 20000 in
set_option maxHeartbeats 4000000 in
theorem l60 {LS : Nat} {rm : Nat → Nat → Option Nat} {im : Nat → Nat → Int32} {P : Option Value → (Nat → Nat → Int32) → Prop} {a b : Nat} (hA : isRs LS rm a) (hB : isRs LS rm b) (h1 : ((∀ k, k < 80 → im (a + 1) k = im (b + 1) k) ∧ im a 1 = im b 1) → P (some (.int 1)) im) (h0 : ¬ ((∀ k, k < 80 → im (a + 1) k = im (b + 1) k) ∧ im a 1 = im b 1) → P (some (.int 0)) im) : ∀ (n i : Nat), i + n = 80 → (∀ k, k < i → im (a + 1) k = im (b + 1) k) → Gm LS rm 60 2 [.ref (a), .ref (b), .int (nI i)] [] (im) P := by
  intro n
  induction n with
  | zero =>
    intro i hi hp
    have hie : i = 80 := by omega
    subst hie
    refine g_iload_n k60_2 rfl ?_
    refine g_bipush (v := 80) k60_3 bp_80 ?_
    refine g_icmp_ge k60_5 (fun _ => ?_) (fun h => absurd (nI_le (Nat.le_refl _) (by decide)) h)
    refine g_aload_n k60_31 rfl ?_
    refine g_geti k60_32 (hA.1) (by decide) ?_
    refine g_aload_n k60_35 rfl ?_
    refine g_geti k60_36 (hB.1) (by decide) ?_
    refine g_icmp_ne k60_39 (fun h => ?_) (fun h => ?_)
    · refine g_iconst (v := 0) k60_46 ic_0 ?_
      exact g_retz k60_47 rfl (by decide) (h0 (fun z => h z.2))
    · refine g_iconst (v := 1) k60_42 ic_1 ?_
      refine g_goto k60_43 ?_
      exact g_retz k60_47 rfl (by decide) (h1 ⟨hp, h⟩)
  | succ n ih =>
    intro i hi hp
    have hlt : i < 80 := by omega
    refine g_iload_n k60_2 rfl ?_
    refine g_bipush (v := 80) k60_3 bp_80 ?_
    refine g_icmp_ge k60_5 (fun h => absurd h (nI_ge hlt (by decide))) (fun _ => ?_)
    refine g_aload_n k60_8 rfl ?_
    refine g_getr k60_9 (hA.1) (by decide) (hA.2.1) ?_
    refine g_iload_n k60_12 rfl ?_
    refine g_ialv k60_13 (hA.2.2) (hlt) (by decide) (rfl) ?_
    refine g_aload_n k60_14 rfl ?_
    refine g_getr k60_15 (hB.1) (by decide) (hB.2.1) ?_
    refine g_iload_n k60_18 rfl ?_
    refine g_ialv k60_19 (hB.2.2) (hlt) (by decide) (rfl) ?_
    refine g_icmp_eq k60_20 (fun h => ?_) (fun h => ?_)
    · refine g_iincv (y := nI (i + 1)) k60_25 rfl (by decide) (inc_1 i) rfl ?_
      refine g_goto k60_28 ?_
      exact ih (i + 1) (by omega) (fun k hk => by by_cases z : k = i; subst z; exact h; exact hp k (by omega))
    · refine g_iconst (v := 0) k60_23 ic_0 ?_
      exact g_retz k60_24 rfl (by decide) (h0 (fun z => h (z.1 i hlt)))

set_option maxRecDepth 20000 in
set_option maxHeartbeats 4000000 in
theorem c60 {LS : Nat} {rm : Nat → Nat → Option Nat} {im : Nat → Nat → Int32} {P : Option Value → (Nat → Nat → Int32) → Prop} {a b : Nat} (hA : isRs LS rm a) (hB : isRs LS rm b) (h1 : ((∀ k, k < 80 → im (a + 1) k = im (b + 1) k) ∧ im a 1 = im b 1) → P (some (.int 1)) im) (h0 : ¬ ((∀ k, k < 80 → im (a + 1) k = im (b + 1) k) ∧ im a 1 = im b 1) → P (some (.int 0)) im) : Gm LS rm 60 0 (en_in 60 [.ref a, .ref b]) [] im P := by
  show Gm LS rm 60 0 [.ref (a), .ref (b), .long 0] [] im P
  refine g_iconst (v := 0) k60_0 ic_0 ?_
  refine g_istore_n k60_1 (by decide) rfl ?_
  exact l60 hA hB h1 h0 80 0 (by omega) (fun k hk => absurd hk (Nat.not_lt_zero k))

def cntN (f : Nat → Int32) (e : Int32) : Nat → Nat
  | 0 => 0
  | n + 1 => cntN f e n + (if f n = e then 0 else 1)
theorem cntN_le (f : Nat → Int32) (e : Int32) : ∀ n, cntN f e n ≤ n := by
  intro n
  induction n with
  | zero => exact Nat.le_refl _
  | succ n ih =>
    unfold cntN
    split <;> omega
set_option maxRecDepth 20000 in
set_option maxHeartbeats 4000000 in
theorem l65 {LS : Nat} {rm : Nat → Nat → Option Nat} {im : Nat → Nat → Int32} {P : Option Value → (Nat → Nat → Int32) → Prop} {a r : Nat} {e : Int32} (hA : isRs LS rm a) (hr : r < 5) (h1 : P (some (.int (nI (cntN (fun k => im (a + 1) (16 * r + k)) e 16)))) im) : ∀ (n i : Nat), i + n = 16 → Gm LS rm 65 5 [.ref (a), .int (nI r), .int (e), .int (nI (cntN (fun k => im (a + 1) (16 * r + k)) e i)), .int (nI i)] [] (im) P := by
  intro n
  induction n with
  | zero =>
    intro i hi
    have hie : i = 16 := by omega
    subst hie
    refine g_iload k65_5 rfl ?_
    refine g_bipush (v := 16) k65_7 bp_16 ?_
    refine g_icmp_ge k65_9 (fun _ => ?_) (fun h => absurd (nI_le (Nat.le_refl _) (by decide)) h)
    refine g_iload_n k65_37 rfl ?_
    exact g_reti k65_38 rfl (h1)
  | succ n ih =>
    intro i hi
    have hlt : i < 16 := by omega
    refine g_iload k65_5 rfl ?_
    refine g_bipush (v := 16) k65_7 bp_16 ?_
    refine g_icmp_ge k65_9 (fun h => absurd h (nI_ge hlt (by decide))) (fun _ => ?_)
    refine g_aload_n k65_12 rfl ?_
    refine g_getr k65_13 (hA.1) (by decide) (hA.2.1) ?_
    refine g_iload_n k65_16 rfl ?_
    refine g_bipush (v := 16) k65_17 bp_16 ?_
    refine g_imul k65_19 ?_
    refine g_iload k65_20 rfl ?_
    refine g_iadd k65_22 ?_
    refine g_top (y := nI (16 * r + i)) (by rw [show (16 : Int32) = nI 16 from rfl, pk_mul, nI_add, Nat.mul_comm]) ?_
    refine g_ialv k65_23 (hA.2.2) (by omega) (by decide) (rfl) ?_
    refine g_iload_n k65_24 rfl ?_
    refine g_icmp_eq k65_25 (fun h => ?_) (fun h => ?_)
    · refine g_iincv (y := nI (i + 1)) k65_31 rfl (by decide) (inc_1 i) rfl ?_
      refine g_goto k65_34 ?_
      have e1 : cntN (fun k => im (a + 1) (16 * r + k)) e (i + 1) = cntN (fun k => im (a + 1) (16 * r + k)) e i := by
        show _ + (if im (a + 1) (16 * r + i) = e then 0 else 1) = _
        rw [if_pos h]
        rfl
      have := ih (i + 1) (by omega)
      rw [e1] at this
      exact this
    · refine g_iincv (y := nI (cntN (fun k => im (a + 1) (16 * r + k)) e i + 1)) k65_28 rfl (by decide) (inc_1 _) rfl ?_
      refine g_iincv (y := nI (i + 1)) k65_31 rfl (by decide) (inc_1 i) rfl ?_
      refine g_goto k65_34 ?_
      have e1 : cntN (fun k => im (a + 1) (16 * r + k)) e (i + 1) = cntN (fun k => im (a + 1) (16 * r + k)) e i + 1 := by
        show _ + (if im (a + 1) (16 * r + i) = e then 0 else 1) = _
        rw [if_neg h]
      have := ih (i + 1) (by omega)
      rw [e1] at this
      exact this

set_option maxRecDepth 20000 in
set_option maxHeartbeats 4000000 in
theorem c65 {LS : Nat} {rm : Nat → Nat → Option Nat} {im : Nat → Nat → Int32} {P : Option Value → (Nat → Nat → Int32) → Prop} {a r : Nat} {e : Int32} (hA : isRs LS rm a) (hr : r < 5) (h1 : P (some (.int (nI (cntN (fun k => im (a + 1) (16 * r + k)) e 16)))) im) : Gm LS rm 65 0 (en_in 65 [.ref a, .int (nI r), .int e]) [] im P := by
  show Gm LS rm 65 0 [.ref (a), .int (nI r), .int (e), .long 0, .long 0] [] im P
  refine g_iconst (v := 0) k65_0 ic_0 ?_
  refine g_istore_n k65_1 (by decide) rfl ?_
  refine g_iconst (v := 0) k65_2 ic_0 ?_
  refine g_istore k65_3 (by decide) rfl ?_
  exact l65 hA hr h1 16 0 (by omega)

set_option maxRecDepth 20000 in
set_option maxHeartbeats 4000000 in
theorem c63 {LS : Nat} {rm : Nat → Nat → Option Nat} {im : Nat → Nat → Int32} {P : Option Value → (Nat → Nat → Int32) → Prop} {a : Nat} (hA : isRs LS rm a) (h1 : P (some (.int (nI (cntN (fun k => im (a + 1) (16 * 0 + k)) (-1) 16)))) im) : Gm LS rm 63 0 (en_in 63 [.ref a]) [] im P := by
  show Gm LS rm 63 0 [.ref (a)] [] im P
  refine g_aload_n k63_0 rfl ?_
  refine g_iconst (v := 0) k63_1 ic_0 ?_
  refine g_iconst (v := -1) k63_2 ic_m1 ?_
  refine g_inv2 k63_3 (hA.1) rfl rfl (by decide) (Nat.le_of_ble_eq_true rfl) (c65 (r := 0) hA (by decide) ?_)
  exact g_reti k63_6 rfl (h1)

set_option maxRecDepth 20000 in
set_option maxHeartbeats 4000000 in
theorem c64 {LS : Nat} {rm : Nat → Nat → Option Nat} {im : Nat → Nat → Int32} {P : Option Value → (Nat → Nat → Int32) → Prop} {a : Nat} (hA : isRs LS rm a) (h1 : P (some (.int (nI (cntN (fun k => im (a + 1) (16 * 3 + k)) (0) 16)))) im) : Gm LS rm 64 0 (en_in 64 [.ref a]) [] im P := by
  show Gm LS rm 64 0 [.ref (a)] [] im P
  refine g_aload_n k64_0 rfl ?_
  refine g_iconst (v := 3) k64_1 ic_3 ?_
  refine g_iconst (v := 0) k64_2 ic_0 ?_
  refine g_inv2 k64_3 (hA.1) rfl rfl (by decide) (Nat.le_of_ble_eq_true rfl) (c65 (r := 3) hA (by decide) ?_)
  exact g_reti k64_6 rfl (h1)

set_option maxRecDepth 20000 in
set_option maxHeartbeats 4000000 in
theorem l68 {LS : Nat} {rm : Nat → Nat → Option Nat} {im : Nat → Nat → Int32} {P : Option Value → (Nat → Nat → Int32) → Prop} {a s r : Nat} (hA : isRs LS rm a) (hS : isWS LS rm s) (hr : r < 5) (h1 : (∀ k, k < 16 → im (a + 1) (16 * r + k) = -1 ∨ im (a + 1) (16 * r + k) = im (s + 1) k) → P (some (.int 1)) im) (h0 : ¬ (∀ k, k < 16 → im (a + 1) (16 * r + k) = -1 ∨ im (a + 1) (16 * r + k) = im (s + 1) k) → P (some (.int 0)) im) : ∀ (n i : Nat), i + n = 16 → ∀ (v : Value), (∀ k, k < i → im (a + 1) (16 * r + k) = -1 ∨ im (a + 1) (16 * r + k) = im (s + 1) k) → Gm LS rm 68 2 [.ref (a), .int (nI r), .ref (s), .int (nI i), v] [] (im) P := by
  intro n
  induction n with
  | zero =>
    intro i hi v hp
    have hie : i = 16 := by omega
    subst hie
    refine g_iload_n k68_2 rfl ?_
    refine g_bipush (v := 16) k68_3 bp_16 ?_
    refine g_icmp_ge k68_5 (fun _ => ?_) (fun h => absurd (nI_le (Nat.le_refl _) (by decide)) h)
    refine g_iconst (v := 1) k68_46 ic_1 ?_
    exact g_retz k68_47 rfl (by decide) (h1 hp)
  | succ n ih =>
    intro i hi v hp
    have hlt : i < 16 := by omega
    refine g_iload_n k68_2 rfl ?_
    refine g_bipush (v := 16) k68_3 bp_16 ?_
    refine g_icmp_ge k68_5 (fun h => absurd h (nI_ge hlt (by decide))) (fun _ => ?_)
    refine g_aload_n k68_8 rfl ?_
    refine g_getr k68_9 (hA.1) (by decide) (hA.2.1) ?_
    refine g_iload_n k68_12 rfl ?_
    refine g_bipush (v := 16) k68_13 bp_16 ?_
    refine g_imul k68_15 ?_
    refine g_iload_n k68_16 rfl ?_
    refine g_iadd k68_17 ?_
    refine g_top (y := nI (16 * r + i)) (by rw [show (16 : Int32) = nI 16 from rfl, pk_mul, nI_add, Nat.mul_comm]) ?_
    refine g_ialv k68_18 (hA.2.2) (by omega) (by decide) (rfl) ?_
    refine g_istore k68_19 (by decide) rfl ?_
    refine g_iload k68_21 rfl ?_
    refine g_iconst (v := -1) k68_23 ic_m1 ?_
    refine g_icmp_eq k68_24 (fun h => ?_) (fun h => ?_)
    · refine g_iincv (y := nI (i + 1)) k68_40 rfl (by decide) (inc_1 i) rfl ?_
      refine g_goto k68_43 ?_
      exact ih (i + 1) (by omega) _ (fun k hk => by by_cases z : k = i; subst z; exact Or.inl h; exact hp k (by omega))
    · refine g_iload k68_27 rfl ?_
      refine g_aload_n k68_29 rfl ?_
      refine g_getr k68_30 (hS.1) (by decide) (hS.2.1) ?_
      refine g_iload_n k68_33 rfl ?_
      refine g_ialv k68_34 (hS.2.2.2.1) (hlt) (by decide) (rfl) ?_
      refine g_icmp_eq k68_35 (fun g => ?_) (fun g => ?_)
      · refine g_iincv (y := nI (i + 1)) k68_40 rfl (by decide) (inc_1 i) rfl ?_
        refine g_goto k68_43 ?_
        exact ih (i + 1) (by omega) _ (fun k hk => by by_cases z : k = i; subst z; exact Or.inr g; exact hp k (by omega))
      · refine g_iconst (v := 0) k68_38 ic_0 ?_
        exact g_retz k68_39 rfl (by decide) (h0 (fun z => (z i hlt).elim h g))

set_option maxRecDepth 20000 in
set_option maxHeartbeats 4000000 in
theorem c68 {LS : Nat} {rm : Nat → Nat → Option Nat} {im : Nat → Nat → Int32} {P : Option Value → (Nat → Nat → Int32) → Prop} {a s r : Nat} (hA : isRs LS rm a) (hS : isWS LS rm s) (hr : r < 5) (h1 : (∀ k, k < 16 → im (a + 1) (16 * r + k) = -1 ∨ im (a + 1) (16 * r + k) = im (s + 1) k) → P (some (.int 1)) im) (h0 : ¬ (∀ k, k < 16 → im (a + 1) (16 * r + k) = -1 ∨ im (a + 1) (16 * r + k) = im (s + 1) k) → P (some (.int 0)) im) : Gm LS rm 68 0 (en_in 68 [.ref a, .int (nI r), .ref s]) [] im P := by
  show Gm LS rm 68 0 [.ref (a), .int (nI r), .ref (s), .long 0, .long 0] [] im P
  refine g_iconst (v := 0) k68_0 ic_0 ?_
  refine g_istore_n k68_1 (by decide) rfl ?_
  exact l68 hA hS hr h1 h0 16 0 (by omega) _ (fun k hk => absurd hk (Nat.not_lt_zero k))

