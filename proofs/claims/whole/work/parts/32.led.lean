def isL0 (LS : Nat) (rm : Nat → Nat → Option Nat) : Prop := (SH LS)[1]? = some (0, 12) ∧ rm 1 0 = some 2 ∧ rm 1 1 = some 3 ∧ rm 1 3 = some 4 ∧ rm 1 5 = some 5 ∧ rm 1 7 = some 6 ∧ rm 1 9 = some 7 ∧ rm 1 10 = some 9 ∧ rm 1 11 = some 10 ∧ (SH LS)[2]? = some (100 + (0 + 2), 4) ∧ (SH LS)[3]? = some (100 + (1 + 2), 60) ∧ (SH LS)[4]? = some (100, 20) ∧ (SH LS)[5]? = some (100 + (2 + 2), 60) ∧ (SH LS)[6]? = some (100 + (3 + 2), 3) ∧ isBL LS rm 7 ∧ (SH LS)[9]? = some (100 + (4 + 2), 4) ∧ isRn LS rm 10
def isLd (LS : Nat) (rm : Nat → Nat → Option Nat) : Prop := isL0 LS rm ∧ (∀ p, p < 4 → rm 2 p = some (4 * p + 14) ∧ isPr LS rm (4 * p + 14)) ∧ (∀ p, p < 60 → rm 3 p = some (3 * p + 30) ∧ isTx LS rm (3 * p + 30)) ∧ (∀ p, p < 60 → rm 5 p = some (2 * p + 210) ∧ isBk LS rm (2 * p + 210)) ∧ (∀ p, p < 3 → rm 6 p = some (3 * p + 330) ∧ isOr LS rm (3 * p + 330)) ∧ (∀ p, p < 4 → rm 9 p = some (8 * p + 339) ∧ isPe LS rm (8 * p + 339))
theorem w_out {n q : Nat} (hn : n < 2 ^ 31) (hq : q < n) {x : Int32} (h : x < 0 ∨ nI n ≤ x) : x ≠ nI q := by
  intro e
  subst e
  rcases h with h | h
  · exact nI_pos (by omega) h
  · exact nI_ge hq hn h
set_option maxRecDepth 20000 in
set_option maxHeartbeats 4000000 in
theorem c20 {LS : Nat} {rm : Nat → Nat → Option Nat} {im : Nat → Nat → Int32} {P : Option Value → (Nat → Nat → Int32) → Prop} {x : Int32} (hM : isLd LS rm) (h1 : ∀ p, p < 4 → x = nI p → im (8 * p + 339) 0 ≠ 0 → P (some (.int 1)) im) (h0 : (∀ p, p < 4 → x = nI p → im (8 * p + 339) 0 = 0) → P (some (.int 0)) im) : Gm LS rm 20 0 (en_in 20 [.ref 1, .int x]) [] im P := by
  show Gm LS rm 20 0 [.ref (1), .int (x)] [] im P
  refine g_iload_n k20_0 rfl ?_
  refine g_iconst (v := 4) k20_1 ic_4 ?_
  refine g_invS2 k20_2 rfl rfl (by decide) (Nat.le_of_ble_eq_true rfl) (c19n 4 (by decide) (fun q hq e => ?_) (fun h => ?_))
  · subst e
    refine g_if_eq k20_5 (fun h => absurd h (by decide)) (fun _ => ?_)
    refine g_aload_n k20_8 rfl ?_
    refine g_getr k20_9 (hM.1.1) (by decide) (hM.1.2.2.2.2.2.2.2.1) ?_
    refine g_iload_n k20_12 rfl ?_
    refine g_aalv (t := 4) k20_13 (hM.1.2.2.2.2.2.2.2.2.2.2.2.2.2.2.2.1) ⟨_, rfl⟩ (hq) (by decide) ((hM.2.2.2.2.2 q (hq)).1) ?_
    refine g_geti k20_14 ((hM.2.2.2.2.2 q (hq)).2.1) (by decide) ?_
    refine g_if_eq k20_17 (fun h => ?_) (fun h => ?_)
    · refine g_iconst (v := 0) k20_24 ic_0 ?_
      exact g_retz k20_25 rfl (by decide) (h0 (fun p hp e => by rw [← (nI_eq (by omega) (by omega)).mp e]; exact h))
    · refine g_iconst (v := 1) k20_20 ic_1 ?_
      refine g_goto k20_21 ?_
      exact g_retz k20_25 rfl (by decide) (h1 q hq rfl h)
  · refine g_if_eq k20_5 (fun _ => ?_) (fun h => absurd (by decide) h)
    refine g_iconst (v := 0) k20_24 ic_0 ?_
    exact g_retz k20_25 rfl (by decide) (h0 (fun p hp e => absurd e (w_out (by decide) hp h)))

set_option maxRecDepth 20000 in
set_option maxHeartbeats 4000000 in
theorem c21 {LS : Nat} {rm : Nat → Nat → Option Nat} {im : Nat → Nat → Int32} {P : Option Value → (Nat → Nat → Int32) → Prop} {x : Int32} (hM : isLd LS rm) (h1 : ∀ o, o < 3 → x = nI o → im 1 8 = nI o → P (some (.int 1)) im) (h0 : (∀ o, o < 3 → x = nI o → im 1 8 ≠ nI o) → P (some (.int 0)) im) : Gm LS rm 21 0 (en_in 21 [.ref 1, .int x]) [] im P := by
  show Gm LS rm 21 0 [.ref (1), .int (x)] [] im P
  refine g_iload_n k21_0 rfl ?_
  refine g_iconst (v := 3) k21_1 ic_3 ?_
  refine g_invS2 k21_2 rfl rfl (by decide) (Nat.le_of_ble_eq_true rfl) (c19n 3 (by decide) (fun q hq e => ?_) (fun h => ?_))
  · subst e
    refine g_if_eq k21_5 (fun h => absurd h (by decide)) (fun _ => ?_)
    refine g_iload_n k21_8 rfl ?_
    refine g_aload_n k21_9 rfl ?_
    refine g_geti k21_10 (hM.1.1) (by decide) ?_
    refine g_icmp_ne k21_13 (fun h => ?_) (fun h => ?_)
    · refine g_iconst (v := 0) k21_20 ic_0 ?_
      exact g_retz k21_21 rfl (by decide) (h0 (fun o ho e => by rw [← (nI_eq (by omega) (by omega)).mp e]; exact fun z => h z.symm))
    · refine g_iconst (v := 1) k21_16 ic_1 ?_
      refine g_goto k21_17 ?_
      exact g_retz k21_21 rfl (by decide) (h1 q hq rfl h.symm)
  · refine g_if_eq k21_5 (fun _ => ?_) (fun h => absurd (by decide) h)
    refine g_iconst (v := 0) k21_20 ic_0 ?_
    exact g_retz k21_21 rfl (by decide) (h0 (fun p hp e => absurd e (w_out (by decide) hp h)))

set_option maxRecDepth 20000 in
set_option maxHeartbeats 4000000 in
theorem c35 {LS : Nat} {rm : Nat → Nat → Option Nat} {im : Nat → Nat → Int32} {P : Option Value → (Nat → Nat → Int32) → Prop} {b m : Nat} (hM : isLd LS rm) (hb : b < 40) (hv : im 8 b = nI m) (hm : m < 60) (h1 : P (some (.ref (2 * m + 210))) im) : Gm LS rm 35 0 (en_in 35 [.ref 1, .int (nI b)]) [] im P := by
  show Gm LS rm 35 0 [.ref (1), .int (nI b)] [] im P
  refine g_aload_n k35_0 rfl ?_
  refine g_getr k35_1 (hM.1.1) (by decide) (hM.1.2.2.2.2.1) ?_
  refine g_aload_n k35_4 rfl ?_
  refine g_getr k35_5 (hM.1.1) (by decide) (hM.1.2.2.2.2.2.2.1) ?_
  refine g_getr k35_8 (hM.1.2.2.2.2.2.2.2.2.2.2.2.2.2.2.1.1) (by decide) (hM.1.2.2.2.2.2.2.2.2.2.2.2.2.2.2.1.2.1) ?_
  refine g_iload_n k35_11 rfl ?_
  refine g_ialv (v := nI m) k35_12 (hM.1.2.2.2.2.2.2.2.2.2.2.2.2.2.2.1.2.2) (hb) (by decide) (hv) ?_
  refine g_aalv (t := 2) k35_13 (hM.1.2.2.2.2.2.2.2.2.2.2.2.2.1) ⟨_, rfl⟩ (hm) (by decide) ((hM.2.2.2.1 m (hm)).1) ?_
  exact g_reta k35_14 ⟨_, rfl⟩ (h1)

set_option maxRecDepth 20000 in
set_option maxHeartbeats 4000000 in
theorem c75 {LS : Nat} {rm : Nat → Nat → Option Nat} {im : Nat → Nat → Int32} {P : Option Value → (Nat → Nat → Int32) → Prop} {a n : Nat} {x : Int32} (hA : isBk LS rm a) (hn : im a 1 = nI n) (hb : n ≤ 4) (h1 : ∀ q, q < n → x = nI q → P (some (.int (im (a + 1) q))) im) (h0 : (x < 0 ∨ nI n ≤ x) → P (some (.int (-1))) im) : Gm LS rm 75 0 (en_in 75 [.ref a, .int x]) [] im P := by
  show Gm LS rm 75 0 [.ref (a), .int (x)] [] im P
  refine g_iload_n k75_0 rfl ?_
  refine g_aload_n k75_1 rfl ?_
  refine g_getv (v := nI n) k75_2 (hA.1) (by decide) (hn) ?_
  refine g_invS2 k75_5 rfl rfl (by decide) (Nat.le_of_ble_eq_true rfl) (c19n n (by omega) (fun q hq e => ?_) (fun h => ?_))
  · subst e
    refine g_if_eq k75_8 (fun h => absurd h (by decide)) (fun _ => ?_)
    refine g_aload_n k75_11 rfl ?_
    refine g_getr k75_12 (hA.1) (by decide) (hA.2.1) ?_
    refine g_iload_n k75_15 rfl ?_
    refine g_ialv k75_16 (hA.2.2) (by omega) (by decide) (rfl) ?_
    refine g_goto k75_17 ?_
    exact g_reti k75_21 rfl (h1 q hq rfl)
  · refine g_if_eq k75_8 (fun _ => ?_) (fun h => absurd (by decide) h)
    refine g_iconst (v := -1) k75_20 ic_m1 ?_
    exact g_reti k75_21 rfl (h0 h)

set_option maxRecDepth 20000 in
set_option maxHeartbeats 4000000 in
theorem c25 {LS : Nat} {rm : Nat → Nat → Option Nat} {im : Nat → Nat → Int32} {P : Option Value → (Nat → Nat → Int32) → Prop} {a n m : Nat} (hM : isLd LS rm) (hA : isBL LS rm a) (hn : im a 1 = nI n) (hb : n ≤ 40) (hm : 0 < n → im (a + 1) (n - 1) = nI m ∧ m < 60) (h0 : n = 0 → P (some (.int 0)) im) (h1 : 0 < n → P (some (.int (im (2 * m + 210) 2))) im) : Gm LS rm 25 0 (en_in 25 [.ref 1, .ref a]) [] im P := by
  show Gm LS rm 25 0 [.ref (1), .ref (a)] [] im P
  refine g_aload_n k25_0 rfl ?_
  refine g_getv (v := nI n) k25_1 (hA.1) (by decide) (hn) ?_
  refine g_if_ne k25_4 (fun h => ?_) (fun h => ?_)
  · have hz : 0 < n := by apply Nat.pos_of_ne_zero; intro z; subst z; exact h rfl
    obtain ⟨hm1, hm2⟩ := hm hz
    refine g_aload_n k25_11 rfl ?_
    refine g_getr k25_12 (hM.1.1) (by decide) (hM.1.2.2.2.2.1) ?_
    refine g_aload_n k25_15 rfl ?_
    refine g_getr k25_16 (hA.1) (by decide) (hA.2.1) ?_
    refine g_aload_n k25_19 rfl ?_
    refine g_getv (v := nI n) k25_20 (hA.1) (by decide) (hn) ?_
    refine g_iconst (v := 1) k25_23 ic_1 ?_
    refine g_isub k25_24 ?_
    refine g_top (y := nI (n - 1)) (nI_m1 hz) ?_
    refine g_ialv (v := nI m) k25_25 (hA.2.2) (by omega) (by decide) (hm1) ?_
    refine g_aalv (t := 2) k25_26 (hM.1.2.2.2.2.2.2.2.2.2.2.2.2.1) ⟨_, rfl⟩ (hm2) (by decide) ((hM.2.2.2.1 m (hm2)).1) ?_
    refine g_geti k25_27 ((hM.2.2.2.1 m (hm2)).2.1) (by decide) ?_
    exact g_reti k25_30 rfl (h1 hz)
  · have hz : n = 0 := Decidable.byContradiction (fun z => nI_ne0 (Nat.pos_of_ne_zero z) (by omega) h)
    refine g_iconst (v := 0) k25_7 ic_0 ?_
    refine g_goto k25_8 ?_
    exact g_reti k25_30 rfl (h0 hz)

set_option maxRecDepth 20000 in
set_option maxHeartbeats 4000000 in
theorem c34 {LS : Nat} {rm : Nat → Nat → Option Nat} {im : Nat → Nat → Int32} {P : Option Value → (Nat → Nat → Int32) → Prop} {x : Int32} {c : Nat} (hM : isLd LS rm) (hc : im 7 1 = nI c) (h1 : ∀ p, p < 4 → x = nI p → im (8 * p + 339) 0 ≠ 0 → im (8 * p + 339) 1 < nI c → P (some (.int 1)) im) (h0 : (∀ p, p < 4 → x = nI p → im (8 * p + 339) 0 ≠ 0 → nI c ≤ im (8 * p + 339) 1) → P (some (.int 0)) im) : Gm LS rm 34 0 (en_in 34 [.ref 1, .int x]) [] im P := by
  show Gm LS rm 34 0 [.ref (1), .int (x)] [] im P
  refine g_aload_n k34_0 rfl ?_
  refine g_iload_n k34_1 rfl ?_
  refine g_inv1 k34_2 (hM.1.1) rfl (by decide) (Nat.le_of_ble_eq_true rfl) (c20 hM (fun p hp e hu => ?_) (fun h => ?_))
  · subst e
    refine g_if_eq k34_5 (fun h => absurd h (by decide)) (fun _ => ?_)
    refine g_aload_n k34_8 rfl ?_
    refine g_getr k34_9 (hM.1.1) (by decide) (hM.1.2.2.2.2.2.2.2.1) ?_
    refine g_iload_n k34_12 rfl ?_
    refine g_aalv (t := 4) k34_13 (hM.1.2.2.2.2.2.2.2.2.2.2.2.2.2.2.2.1) ⟨_, rfl⟩ (hp) (by decide) ((hM.2.2.2.2.2 p (hp)).1) ?_
    refine g_geti k34_14 ((hM.2.2.2.2.2 p (hp)).2.1) (by decide) ?_
    refine g_aload_n k34_17 rfl ?_
    refine g_getr k34_18 (hM.1.1) (by decide) (hM.1.2.2.2.2.2.2.1) ?_
    refine g_getv (v := nI c) k34_21 (hM.1.2.2.2.2.2.2.2.2.2.2.2.2.2.2.1.1) (by decide) (hc) ?_
    refine g_icmp_ge k34_24 (fun h => ?_) (fun h => ?_)
    · refine g_iconst (v := 0) k34_31 ic_0 ?_
      exact g_retz k34_32 rfl (by decide) (h0 (fun q hq e _ => by rw [← (nI_eq (by omega) (by omega)).mp e]; exact h))
    · refine g_iconst (v := 1) k34_27 ic_1 ?_
      refine g_goto k34_28 ?_
      exact g_retz k34_32 rfl (by decide) (h1 p hp rfl hu (Int32.not_le.mp h))
  · refine g_if_eq k34_5 (fun _ => ?_) (fun h => absurd (by decide) h)
    refine g_iconst (v := 0) k34_31 ic_0 ?_
    exact g_retz k34_32 rfl (by decide) (h0 (fun p hp e hu => absurd (h p hp e) hu))

set_option maxRecDepth 20000 in
set_option maxHeartbeats 4000000 in
theorem c31 {LS : Nat} {rm : Nat → Nat → Option Nat} {im : Nat → Nat → Int32} {P : Option Value → (Nat → Nat → Int32) → Prop} {o : Nat} {y : Int32} (hM : isLd LS rm) (ho : o < 3) (hy : y = 0 ∨ y = 1) (h0 : im (3 * o + 330) 0 = y → P (some (.int (-1))) im) (h1 : im (3 * o + 330) 0 ≠ y → im 1 8 ≠ nI o → P (some (.int 0)) (en_u2 im (3 * o + 330) 0 y)) (h2 : im (3 * o + 330) 0 ≠ y → im 1 8 = nI o → P (some (.int 0)) (en_u2 (en_u2 im (3 * o + 330) 0 y) 1 8 (-1))) : Gm LS rm 31 0 (en_in 31 [.ref 1, .int (nI o), .int y]) [] im P := by
  show Gm LS rm 31 0 [.ref (1), .int (nI o), .int (y)] [] im P
  refine g_aload_n k31_0 rfl ?_
  refine g_getr k31_1 (hM.1.1) (by decide) (hM.1.2.2.2.2.2.1) ?_
  refine g_iload_n k31_4 rfl ?_
  refine g_aalv (t := 3) k31_5 (hM.1.2.2.2.2.2.2.2.2.2.2.2.2.2.1) ⟨_, rfl⟩ (ho) (by decide) ((hM.2.2.2.2.1 o (ho)).1) ?_
  refine g_geti k31_6 ((hM.2.2.2.2.1 o (ho)).2.1) (by decide) ?_
  refine g_iload_n k31_9 rfl ?_
  refine g_icmp_ne k31_10 (fun h => ?_) (fun h => ?_)
  · refine g_aload_n k31_15 rfl ?_
    refine g_getr k31_16 (hM.1.1) (by decide) (hM.1.2.2.2.2.2.1) ?_
    refine g_iload_n k31_19 rfl ?_
    refine g_aalv (t := 3) k31_20 (hM.1.2.2.2.2.2.2.2.2.2.2.2.2.2.1) ⟨_, rfl⟩ (ho) (by decide) ((hM.2.2.2.2.1 o (ho)).1) ?_
    refine g_iload_n k31_21 rfl ?_
    refine g_putz k31_22 (by decide) ((hM.2.2.2.2.1 o (ho)).2.1) (by decide) (hy) ?_
    refine g_aload_n k31_25 rfl ?_
    refine g_getv (v := im 1 8) k31_26 (hM.1.1) (by decide) (by rw [u2_ne (by omega)]) ?_
    refine g_iload_n k31_29 rfl ?_
    refine g_icmp_ne k31_30 (fun g => ?_) (fun g => ?_)
    · refine g_iconst (v := 0) k31_38 ic_0 ?_
      exact g_reti k31_39 rfl (h1 h g)
    · refine g_aload_n k31_33 rfl ?_
      refine g_iconst (v := -1) k31_34 ic_m1 ?_
      refine g_puti k31_35 (by decide) (hM.1.1) (by decide) ?_
      refine g_iconst (v := 0) k31_38 ic_0 ?_
      exact g_reti k31_39 rfl (h2 h g)
  · refine g_iconst (v := -1) k31_13 ic_m1 ?_
    exact g_reti k31_14 rfl (h0 h)

set_option maxRecDepth 20000 in
set_option maxHeartbeats 4000000 in
theorem c80 {LS : Nat} {rm : Nat → Nat → Option Nat} {im : Nat → Nat → Int32} {P : Option Value → (Nat → Nat → Int32) → Prop} {a b n : Nat} (hA : isBL LS rm a) (hB : isBL LS rm b) (hn : n ≤ 40) (h1 : P none (en_u2 (en_ur im (a + 1) (va_cpy (im (b + 1)) (im (a + 1)) 0 0 n)) a 1 (nI n))) : Gm LS rm 80 0 (en_in 80 [.ref a, .ref b, .int (nI n)]) [] im P := by
  show Gm LS rm 80 0 [.ref (a), .ref (b), .int (nI n)] [] im P
  refine g_aload_n k80_0 rfl ?_
  refine g_getr k80_1 (hB.1) (by decide) (hB.2.1) ?_
  refine g_iconst (v := 0) k80_4 ic_0 ?_
  refine g_aload_n k80_5 rfl ?_
  refine g_getr k80_6 (hA.1) (by decide) (hA.2.1) ?_
  refine g_iconst (v := 0) k80_9 ic_0 ?_
  refine g_iload_n k80_10 rfl ?_
  refine g_copyn (sp := 0) (dp := 0) (x := n) k80_11 (Nat.le_of_ble_eq_true rfl) (hB.2.2) (hA.2.2) (by decide) (by decide) (by omega) (by omega) ?_
  refine g_aload_n k80_14 rfl ?_
  refine g_iload_n k80_15 rfl ?_
  refine g_puti k80_16 (by decide) (hA.1) (by decide) ?_
  exact g_retv k80_19 rfl (h1)

set_option maxRecDepth 20000 in
set_option maxHeartbeats 4000000 in
theorem c83 {LS : Nat} {rm : Nat → Nat → Option Nat} {im : Nat → Nat → Int32} {P : Option Value → (Nat → Nat → Int32) → Prop} {a b : Nat} (hA : isWS LS rm a) (hB : isWS LS rm b) (hd : b + 2 < a ∨ a + 2 < b) (h1 : P none (en_u2 (en_ur (en_ur im (a + 1) (va_cpy (im (b + 1)) (im (a + 1)) 0 0 16)) (a + 2) (va_cpy (im (b + 2)) (im (a + 2)) 0 0 16)) a 2 (im b 2))) : Gm LS rm 83 0 (en_in 83 [.ref a, .ref b]) [] im P := by
  show Gm LS rm 83 0 [.ref (a), .ref (b)] [] im P
  refine g_aload_n k83_0 rfl ?_
  refine g_getr k83_1 (hB.1) (by decide) (hB.2.1) ?_
  refine g_iconst (v := 0) k83_4 ic_0 ?_
  refine g_aload_n k83_5 rfl ?_
  refine g_getr k83_6 (hA.1) (by decide) (hA.2.1) ?_
  refine g_iconst (v := 0) k83_9 ic_0 ?_
  refine g_bipush (v := 16) k83_10 bp_16 ?_
  refine g_copyn (sp := 0) (dp := 0) (x := 16) k83_12 (Nat.le_of_ble_eq_true rfl) (hB.2.2.2.1) (hA.2.2.2.1) (by decide) (by decide) (by omega) (by omega) ?_
  refine g_aload_n k83_15 rfl ?_
  refine g_getr k83_16 (hB.1) (by decide) (hB.2.2.1) ?_
  refine g_iconst (v := 0) k83_19 ic_0 ?_
  refine g_aload_n k83_20 rfl ?_
  refine g_getr k83_21 (hA.1) (by decide) (hA.2.2.1) ?_
  refine g_iconst (v := 0) k83_24 ic_0 ?_
  refine g_bipush (v := 16) k83_25 bp_16 ?_
  refine g_copyn (sp := 0) (dp := 0) (x := 16) k83_27 (Nat.le_of_ble_eq_true rfl) (hB.2.2.2.2) (hA.2.2.2.2) (by decide) (by decide) (by omega) (by omega) ?_
  rw [ur_ne (b := a + 1) (c := b + 2) (by omega), ur_ne (b := a + 1) (c := a + 2) (by omega)]
  refine g_aload_n k83_30 rfl ?_
  refine g_aload_n k83_31 rfl ?_
  refine g_getv (v := im b 2) k83_32 (hB.1) (by decide) (by rw [ur_ne (by omega), ur_ne (by omega)]) ?_
  refine g_puti k83_35 (by decide) (hA.1) (by decide) ?_
  exact g_retv k83_38 rfl (h1)

set_option maxRecDepth 20000 in
set_option maxHeartbeats 4000000 in
theorem c59 {LS : Nat} {rm : Nat → Nat → Option Nat} {im : Nat → Nat → Int32} {P : Option Value → (Nat → Nat → Int32) → Prop} {a b : Nat} (hA : isRs LS rm a) (hB : isRs LS rm b) (hd : b + 1 < a ∨ a + 1 < b) (h1 : P none (en_u2 (en_ur im (a + 1) (va_cpy (im (b + 1)) (im (a + 1)) 0 0 80)) a 1 (im b 1))) : Gm LS rm 59 0 (en_in 59 [.ref a, .ref b]) [] im P := by
  show Gm LS rm 59 0 [.ref (a), .ref (b)] [] im P
  refine g_aload_n k59_0 rfl ?_
  refine g_getr k59_1 (hB.1) (by decide) (hB.2.1) ?_
  refine g_iconst (v := 0) k59_4 ic_0 ?_
  refine g_aload_n k59_5 rfl ?_
  refine g_getr k59_6 (hA.1) (by decide) (hA.2.1) ?_
  refine g_iconst (v := 0) k59_9 ic_0 ?_
  refine g_bipush (v := 80) k59_10 bp_80 ?_
  refine g_copyn (sp := 0) (dp := 0) (x := 80) k59_12 (Nat.le_of_ble_eq_true rfl) (hB.2.2) (hA.2.2) (by decide) (by decide) (by omega) (by omega) ?_
  refine g_aload_n k59_15 rfl ?_
  refine g_aload_n k59_16 rfl ?_
  refine g_getv (v := im b 1) k59_17 (hB.1) (by decide) (by rw [ur_ne (by omega)]) ?_
  refine g_puti k59_20 (by decide) (hA.1) (by decide) ?_
  exact g_retv k59_23 rfl (h1)

set_option maxRecDepth 20000 in
set_option maxHeartbeats 4000000 in
theorem c74 {LS : Nat} {rm : Nat → Nat → Option Nat} {im : Nat → Nat → Int32} {P : Option Value → (Nat → Nat → Int32) → Prop} {a b n nb : Nat} {t : Int32} (hA : isBk LS rm a) (hB : (SH LS)[b]? = some (100, nb)) (hnb : nb < 100000) (hn : n ≤ 4) (hn2 : n ≤ nb) (h1 : P none (en_u2 (en_u2 (en_ur im (a + 1) (va_cpy (im b) (im (a + 1)) 0 0 n)) a 1 (nI n)) a 2 t)) : Gm LS rm 74 0 (en_in 74 [.ref a, .ref b, .int (nI n), .int t]) [] im P := by
  show Gm LS rm 74 0 [.ref (a), .ref (b), .int (nI n), .int (t)] [] im P
  refine g_aload_n k74_0 rfl ?_
  refine g_iconst (v := 0) k74_1 ic_0 ?_
  refine g_aload_n k74_2 rfl ?_
  refine g_getr k74_3 (hA.1) (by decide) (hA.2.1) ?_
  refine g_iconst (v := 0) k74_6 ic_0 ?_
  refine g_iload_n k74_7 rfl ?_
  refine g_copyn (sp := 0) (dp := 0) k74_8 (Nat.le_of_ble_eq_true rfl) hB (hA.2.2) hnb (by decide) (by omega) (by omega) ?_
  refine g_aload_n k74_11 rfl ?_
  refine g_iload_n k74_12 rfl ?_
  refine g_puti k74_13 (by decide) (hA.1) (by decide) ?_
  refine g_aload_n k74_16 rfl ?_
  refine g_iload_n k74_17 rfl ?_
  refine g_puti k74_18 (by decide) (hA.1) (by decide) ?_
  exact g_retv k74_21 rfl (h1)

set_option maxRecDepth 20000 in
set_option maxHeartbeats 4000000 in
theorem c27 {LS : Nat} {rm : Nat → Nat → Option Nat} {im : Nat → Nat → Int32} {P : Option Value → (Nat → Nat → Int32) → Prop} {w n : Nat} (hM : isLd LS rm) (hw : im 1 4 = nI w) (hb : w ≤ 20) (hn : n ≤ w) (h1 : P none (en_u2 (en_ur im 4 (va_cpy (im 4) (im 4) n 0 (w - n))) 1 4 (nI (w - n)))) : Gm LS rm 27 0 (en_in 27 [.ref 1, .int (nI n)]) [] im P := by
  show Gm LS rm 27 0 [.ref (1), .int (nI n)] [] im P
  refine g_aload_n k27_0 rfl ?_
  refine g_getr k27_1 (hM.1.1) (by decide) (hM.1.2.2.2.1) ?_
  refine g_iload_n k27_4 rfl ?_
  refine g_aload_n k27_5 rfl ?_
  refine g_getr k27_6 (hM.1.1) (by decide) (hM.1.2.2.2.1) ?_
  refine g_iconst (v := 0) k27_9 ic_0 ?_
  refine g_aload_n k27_10 rfl ?_
  refine g_getv (v := nI w) k27_11 (hM.1.1) (by decide) (hw) ?_
  refine g_iload_n k27_14 rfl ?_
  refine g_isub k27_15 ?_
  refine g_top (y := nI (w - n)) (pk_sub hn) ?_
  refine g_copyn (sp := n) (dp := 0) (x := w - n) k27_16 (Nat.le_of_ble_eq_true rfl) (hM.1.2.2.2.2.2.2.2.2.2.2.2.1) (hM.1.2.2.2.2.2.2.2.2.2.2.2.1) (by decide) (by decide) (by omega) (by omega) ?_
  refine g_aload_n k27_19 rfl ?_
  refine g_dup k27_20 rfl ?_
  refine g_getv (v := nI w) k27_21 (hM.1.1) (by decide) (by rw [ur_ne (by decide)]; exact hw) ?_
  refine g_iload_n k27_24 rfl ?_
  refine g_isub k27_25 ?_
  refine g_top (y := nI (w - n)) (pk_sub hn) ?_
  refine g_puti k27_26 (by decide) (hM.1.1) (by decide) ?_
  exact g_retv k27_29 rfl (h1)

