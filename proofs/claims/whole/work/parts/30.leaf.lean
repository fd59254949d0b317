/-! WHAT AN OBJECT IS: its shape, its references, its arrays -/
def isBL (LS : Nat) (rm : Nat → Nat → Option Nat) (a : Nat) : Prop := (SH LS)[a]? = some (6, 2) ∧ rm a 0 = some (a + 1) ∧ (SH LS)[a + 1]? = some (100, 40)
def isRs (LS : Nat) (rm : Nat → Nat → Option Nat) (a : Nat) : Prop := (SH LS)[a]? = some (3, 2) ∧ rm a 0 = some (a + 1) ∧ (SH LS)[a + 1]? = some (100, 80)
def isPr (LS : Nat) (rm : Nat → Nat → Option Nat) (a : Nat) : Prop := (SH LS)[a]? = some (1, 6) ∧ rm a 0 = some (a + 1) ∧ rm a 1 = some (a + 2) ∧ rm a 3 = some (a + 3) ∧ (SH LS)[a + 1]? = some (100, 12) ∧ (SH LS)[a + 2]? = some (100, 12) ∧ (SH LS)[a + 3]? = some (100, 9)
def isRn (LS : Nat) (rm : Nat → Nat → Option Nat) (a : Nat) : Prop := (SH LS)[a]? = some (2, 5) ∧ rm a 0 = some (a + 1) ∧ rm a 1 = some (a + 2) ∧ (SH LS)[a + 1]? = some (100, 8) ∧ isRs LS rm (a + 2)
def isTx (LS : Nat) (rm : Nat → Nat → Option Nat) (a : Nat) : Prop := (SH LS)[a]? = some (4, 5) ∧ rm a 4 = some (a + 1) ∧ isRs LS rm (a + 1)
def isBk (LS : Nat) (rm : Nat → Nat → Option Nat) (a : Nat) : Prop := (SH LS)[a]? = some (5, 3) ∧ rm a 0 = some (a + 1) ∧ (SH LS)[a + 1]? = some (100, 4)
def isOr (LS : Nat) (rm : Nat → Nat → Option Nat) (a : Nat) : Prop := (SH LS)[a]? = some (7, 3) ∧ rm a 2 = some (a + 1) ∧ isBL LS rm (a + 1)
def isWS (LS : Nat) (rm : Nat → Nat → Option Nat) (a : Nat) : Prop := (SH LS)[a]? = some (8, 3) ∧ rm a 0 = some (a + 1) ∧ rm a 1 = some (a + 2) ∧ (SH LS)[a + 1]? = some (100, 16) ∧ (SH LS)[a + 2]? = some (100, 16)
def isPe (LS : Nat) (rm : Nat → Nat → Option Nat) (a : Nat) : Prop := (SH LS)[a]? = some (9, 5) ∧ rm a 2 = some (a + 1) ∧ rm a 3 = some (a + 4) ∧ rm a 4 = some (a + 7) ∧ isWS LS rm (a + 1) ∧ isWS LS rm (a + 4) ∧ (SH LS)[a + 7]? = some (100, 160)
theorem ic_m1 : Int32.ofInt (-1) = -1 := by decide
theorem ic_0 : Int32.ofInt (0) = 0 := by decide
theorem ic_1 : Int32.ofInt (1) = 1 := by decide
theorem ic_2 : Int32.ofInt (2) = 2 := by decide
theorem ic_3 : Int32.ofInt (3) = 3 := by decide
theorem ic_4 : Int32.ofInt (4) = 4 := by decide
theorem ic_5 : Int32.ofInt (5) = 5 := by decide
theorem bp_6 : (Int8.ofInt 6).toInt32 = 6 := by decide
theorem bp_7 : (Int8.ofInt 7).toInt32 = 7 := by decide
theorem bp_8 : (Int8.ofInt 8).toInt32 = 8 := by decide
theorem bp_9 : (Int8.ofInt 9).toInt32 = 9 := by decide
theorem bp_10 : (Int8.ofInt 10).toInt32 = 10 := by decide
theorem bp_11 : (Int8.ofInt 11).toInt32 = 11 := by decide
theorem bp_12 : (Int8.ofInt 12).toInt32 = 12 := by decide
theorem bp_13 : (Int8.ofInt 13).toInt32 = 13 := by decide
theorem bp_14 : (Int8.ofInt 14).toInt32 = 14 := by decide
theorem bp_15 : (Int8.ofInt 15).toInt32 = 15 := by decide
theorem bp_16 : (Int8.ofInt 16).toInt32 = 16 := by decide
theorem bp_18 : (Int8.ofInt 18).toInt32 = 18 := by decide
theorem bp_20 : (Int8.ofInt 20).toInt32 = 20 := by decide
theorem bp_31 : (Int8.ofInt 31).toInt32 = 31 := by decide
theorem bp_36 : (Int8.ofInt 36).toInt32 = 36 := by decide
theorem bp_40 : (Int8.ofInt 40).toInt32 = 40 := by decide
theorem bp_48 : (Int8.ofInt 48).toInt32 = 48 := by decide
theorem bp_60 : (Int8.ofInt 60).toInt32 = 60 := by decide
theorem bp_61 : (Int8.ofInt 61).toInt32 = 61 := by decide
theorem bp_64 : (Int8.ofInt 64).toInt32 = 64 := by decide
theorem bp_80 : (Int8.ofInt 80).toInt32 = 80 := by decide
theorem bp_120 : (Int8.ofInt 120).toInt32 = 120 := by decide
theorem bp_122 : (Int8.ofInt 122).toInt32 = 122 := by decide
theorem sp_144 : (Int16.ofInt 144).toInt32 = 144 := by decide
theorem sp_160 : (Int16.ofInt 160).toInt32 = 160 := by decide
theorem sp_240 : (Int16.ofInt 240).toInt32 = 240 := by decide
theorem sp_960 : (Int16.ofInt 960).toInt32 = 960 := by decide
theorem sp_976 : (Int16.ofInt 976).toInt32 = 976 := by decide
theorem sp_1952 : (Int16.ofInt 1952).toInt32 = 1952 := by decide
set_option maxRecDepth 20000 in
set_option maxHeartbeats 4000000 in
theorem c19 {LS : Nat} {rm : Nat → Nat → Option Nat} {im : Nat → Nat → Int32} {P : Option Value → (Nat → Nat → Int32) → Prop} {x n : Int32} (h1 : 0 ≤ x → x < n → P (some (.int 1)) im) (h0 : (x < 0 ∨ n ≤ x) → P (some (.int 0)) im) : Gm LS rm 19 0 (en_in 19 [.int x, .int n]) [] im P := by
  show Gm LS rm 19 0 [.int (x), .int (n)] [] im P
  refine g_iload_n k19_0 rfl ?_
  refine g_if_lt k19_1 (fun h => ?_) (fun h => ?_)
  · refine g_iconst (v := 0) k19_13 ic_0 ?_
    exact g_retz k19_14 rfl (by decide) (h0 (Or.inl h))
  · refine g_iload_n k19_4 rfl ?_
    refine g_iload_n k19_5 rfl ?_
    refine g_icmp_ge k19_6 (fun g => ?_) (fun g => ?_)
    · refine g_iconst (v := 0) k19_13 ic_0 ?_
      exact g_retz k19_14 rfl (by decide) (h0 (Or.inr g))
    · refine g_iconst (v := 1) k19_9 ic_1 ?_
      refine g_goto k19_10 ?_
      exact g_retz k19_14 rfl (by decide) (h1 (Int32.not_lt.mp h) (Int32.not_le.mp g))

theorem w_in {n : Nat} (hn : n < 2 ^ 31) {x : Int32} (h0 : 0 ≤ x) (h1 : x < nI n) : ∃ q, q < n ∧ x = nI q := by
  rcases pk_ix x hn with h | h | h
  · exact absurd h0 (Int32.not_le.mpr h)
  · exact absurd h1 (Int32.not_lt.mpr h)
  · exact h
/-- within, by cases: in range as a natural number, or not -/
theorem c19n {LS : Nat} {rm : Nat → Nat → Option Nat} {im : Nat → Nat → Int32} {P : Option Value → (Nat → Nat → Int32) → Prop} {x : Int32} (n : Nat) (hn : n < 2 ^ 31) (h1 : ∀ q, q < n → x = nI q → P (some (.int 1)) im) (h0 : (x < 0 ∨ nI n ≤ x) → P (some (.int 0)) im) : Gm LS rm 19 0 (en_in 19 [.int x, .int (nI n)]) [] im P :=
  c19 (fun a b => by obtain ⟨q, hq, e⟩ := w_in hn a b; exact h1 q hq e) h0

theorem u2_ne {α : Type} {f : Nat → Nat → α} {a k b j : Nat} {x : α} (h : b ≠ a ∨ j ≠ k) : en_u2 f a k x b j = f b j := by
  unfold en_u2
  by_cases h1 : b = a
  · rw [if_pos h1]
    by_cases h2 : j = k
    · rcases h with h | h
      · exact absurd h1 h
      · exact absurd h2 h
    · rw [if_neg h2]
  · rw [if_neg h1]
theorem u2_eq {α : Type} {f : Nat → Nat → α} {a k : Nat} {x : α} : en_u2 f a k x a k = x := by simp [en_u2]
theorem nI_i (n : Nat) : nI n + 1 = nI (n + 1) := nI_1 n
theorem nI_m1 {n : Nat} (h : 0 < n) : nI n - 1 = nI (n - 1) := by
  obtain ⟨m, rfl⟩ : ∃ m, n = m + 1 := ⟨n - 1, by omega⟩
  rw [nI_pred]
  rfl

set_option maxRecDepth 20000 in
set_option maxHeartbeats 4000000 in
theorem c40 {LS : Nat} {rm : Nat → Nat → Option Nat} {im : Nat → Nat → Int32} {P : Option Value → (Nat → Nat → Int32) → Prop} {a len : Nat} {op x : Int32} (hA : isPr LS rm a) (hl : im a 2 = nI len) (hb : len ≤ 12) (h0 : len = 12 → P (some (.int 0)) im) (h1 : len < 12 → P (some (.int 1)) (en_u2 (en_u2 (en_u2 im (a + 1) len op) (a + 2) len x) a 2 (nI (len + 1))))  : Gm LS rm 40 0 (en_in 40 [.ref a, .int op, .int x]) [] im P := by
  show Gm LS rm 40 0 [.ref (a), .int (op), .int (x)] [] im P
  refine g_aload_n k40_0 rfl ?_
  refine g_getv (v := nI len) k40_1 (hA.1) (by decide) (hl) ?_
  refine g_bipush (v := 12) k40_4 bp_12 ?_
  refine g_icmp_lt k40_6 (fun h => ?_) (fun h => ?_)
  · have hlt : len < 12 := (nI_ltI (by omega) (by decide)).mp h
    refine g_aload_n k40_11 rfl ?_
    refine g_getr k40_12 (hA.1) (by decide) (hA.2.1) ?_
    refine g_aload_n k40_15 rfl ?_
    refine g_getv (v := nI len) k40_16 (hA.1) (by decide) (hl) ?_
    refine g_iload_n k40_19 rfl ?_
    refine g_iasv k40_20 (hA.2.2.2.2.1) (hlt) (by decide) ?_
    refine g_aload_n k40_21 rfl ?_
    refine g_getr k40_22 (hA.1) (by decide) (hA.2.2.1) ?_
    refine g_aload_n k40_25 rfl ?_
    refine g_getv (v := nI len) k40_26 (hA.1) (by decide) (by simp [en_u2, hl]) ?_
    refine g_iload_n k40_29 rfl ?_
    refine g_iasv k40_30 (hA.2.2.2.2.2.1) (hlt) (by decide) ?_
    refine g_aload_n k40_31 rfl ?_
    refine g_dup k40_32 rfl ?_
    refine g_getv (v := nI len) k40_33 (hA.1) (by decide) (by simp [en_u2, hl]) ?_
    refine g_iconst (v := 1) k40_36 ic_1 ?_
    refine g_iadd k40_37 ?_
    refine g_top (y := nI (len + 1)) (nI_1 len) ?_
    refine g_puti k40_38 (by decide) (hA.1) (by decide) ?_
    refine g_iconst (v := 1) k40_41 ic_1 ?_
    exact g_retz k40_42 rfl (by decide) (h1 hlt)
  · refine g_iconst (v := 0) k40_9 ic_0 ?_
    exact g_retz k40_10 rfl (by decide) (h0 (by have : ¬ len < 12 := fun z => h ((nI_ltI (b := 12) (by omega) (by decide)).mpr z); omega))

set_option maxRecDepth 20000 in
set_option maxHeartbeats 4000000 in
theorem c44 {LS : Nat} {rm : Nat → Nat → Option Nat} {im : Nat → Nat → Int32} {P : Option Value → (Nat → Nat → Int32) → Prop} {a h r : Nat} {x : Int32} (hA : isPr LS rm a) (hh : im a 4 = nI h) (hr : im a 5 = nI r) (hb : h < 9) (h1 : P none (en_u2 (en_u2 (en_u2 im (a + 3) h x) a 4 (nI (h + 1))) a 5 (nI (r + 1)))) : Gm LS rm 44 0 (en_in 44 [.ref a, .int x]) [] im P := by
  show Gm LS rm 44 0 [.ref (a), .int (x)] [] im P
  refine g_aload_n k44_0 rfl ?_
  refine g_getr k44_1 (hA.1) (by decide) (hA.2.2.2.1) ?_
  refine g_aload_n k44_4 rfl ?_
  refine g_getv (v := nI h) k44_5 (hA.1) (by decide) (hh) ?_
  refine g_iload_n k44_8 rfl ?_
  refine g_iasv k44_9 (hA.2.2.2.2.2.2) (hb) (by decide) ?_
  refine g_aload_n k44_10 rfl ?_
  refine g_dup k44_11 rfl ?_
  refine g_getv (v := nI h) k44_12 (hA.1) (by decide) (by simp [en_u2, hh]) ?_
  refine g_iconst (v := 1) k44_15 ic_1 ?_
  refine g_iadd k44_16 ?_
  refine g_top (y := nI (h + 1)) (nI_1 h) ?_
  refine g_puti k44_17 (by decide) (hA.1) (by decide) ?_
  refine g_aload_n k44_20 rfl ?_
  refine g_dup k44_21 rfl ?_
  refine g_getv (v := nI r) k44_22 (hA.1) (by decide) (by simp [en_u2, hr]) ?_
  refine g_iconst (v := 1) k44_25 ic_1 ?_
  refine g_iadd k44_26 ?_
  refine g_top (y := nI (r + 1)) (nI_1 r) ?_
  refine g_puti k44_27 (by decide) (hA.1) (by decide) ?_
  exact g_retv k44_30 rfl (h1)

set_option maxRecDepth 20000 in
set_option maxHeartbeats 4000000 in
theorem c45 {LS : Nat} {rm : Nat → Nat → Option Nat} {im : Nat → Nat → Int32} {P : Option Value → (Nat → Nat → Int32) → Prop} {a h : Nat} {x : Int32} (hA : isPr LS rm a) (hh : im a 4 = nI h) (hb : h ≤ 9) (h0 : h = 0 → P (some (.int 0)) im) (h1 : 0 < h → P (some (.int (if (im (a + 3) (h - 1) >>> (x &&& 31)) &&& 1 = 1 then 1 else 0))) im) : Gm LS rm 45 0 (en_in 45 [.ref a, .int x]) [] im P := by
  show Gm LS rm 45 0 [.ref (a), .int (x)] [] im P
  refine g_aload_n k45_0 rfl ?_
  refine g_getv (v := nI h) k45_1 (hA.1) (by decide) (hh) ?_
  refine g_if_le k45_4 (fun g => ?_) (fun g => ?_)
  · have hz : h = 0 := by
      have : ¬ 0 < h := fun z => nI_nle (n := h) z (by omega) g
      omega
    refine g_iconst (v := 0) k45_30 ic_0 ?_
    exact g_retz k45_31 rfl (by decide) (h0 hz)
  · have hz : 0 < h := by
      apply Nat.pos_of_ne_zero
      intro z
      subst z
      exact g (by decide)
    refine g_aload_n k45_7 rfl ?_
    refine g_getr k45_8 (hA.1) (by decide) (hA.2.2.2.1) ?_
    refine g_aload_n k45_11 rfl ?_
    refine g_getv (v := nI h) k45_12 (hA.1) (by decide) (hh) ?_
    refine g_iconst (v := 1) k45_15 ic_1 ?_
    refine g_isub k45_16 ?_
    refine g_top (y := nI (h - 1)) (nI_m1 hz) ?_
    refine g_ialv k45_17 (hA.2.2.2.2.2.2) (by omega) (by decide) (rfl) ?_
    refine g_iload_n k45_18 rfl ?_
    refine g_ishr k45_19 ?_
    refine g_iconst (v := 1) k45_20 ic_1 ?_
    refine g_iand k45_21 ?_
    refine g_iconst (v := 1) k45_22 ic_1 ?_
    have h1 := h1 hz
    refine g_icmp_ne k45_23 (fun e => ?_) (fun e => ?_)
    · rw [if_neg e] at h1
      refine g_iconst (v := 0) k45_30 ic_0 ?_
      exact g_retz k45_31 rfl (by decide) (h1)
    · rw [if_pos e] at h1
      refine g_iconst (v := 1) k45_26 ic_1 ?_
      refine g_goto k45_27 ?_
      exact g_retz k45_31 rfl (by decide) (h1)

set_option maxRecDepth 20000 in
set_option maxHeartbeats 4000000 in
theorem c54 {LS : Nat} {rm : Nat → Nat → Option Nat} {im : Nat → Nat → Int32} {P : Option Value → (Nat → Nat → Int32) → Prop} {a d : Nat} {x : Int32} (hA : isRn LS rm a) (hd : im a 2 = nI d) (hb : d ≤ 8) (h0 : d = 8 → P none (en_u2 im a 4 1)) (h1 : d < 8 → P none (en_u2 (en_u2 im (a + 1) d x) a 2 (nI (d + 1)))) : Gm LS rm 54 0 (en_in 54 [.ref a, .int x]) [] im P := by
  show Gm LS rm 54 0 [.ref (a), .int (x)] [] im P
  refine g_aload_n k54_0 rfl ?_
  refine g_getv (v := nI d) k54_1 (hA.1) (by decide) (hd) ?_
  refine g_bipush (v := 8) k54_4 bp_8 ?_
  refine g_icmp_lt k54_6 (fun h => ?_) (fun h => ?_)
  · have hlt : d < 8 := (nI_ltI (by omega) (by decide)).mp h
    refine g_aload_n k54_15 rfl ?_
    refine g_getr k54_16 (hA.1) (by decide) (hA.2.1) ?_
    refine g_aload_n k54_19 rfl ?_
    refine g_getv (v := nI d) k54_20 (hA.1) (by decide) (hd) ?_
    refine g_iload_n k54_23 rfl ?_
    refine g_iasv k54_24 (hA.2.2.2.1) (hlt) (by decide) ?_
    refine g_aload_n k54_25 rfl ?_
    refine g_dup k54_26 rfl ?_
    refine g_getv (v := nI d) k54_27 (hA.1) (by decide) (by simp [en_u2, hd]) ?_
    refine g_iconst (v := 1) k54_30 ic_1 ?_
    refine g_iadd k54_31 ?_
    refine g_top (y := nI (d + 1)) (nI_1 d) ?_
    refine g_puti k54_32 (by decide) (hA.1) (by decide) ?_
    exact g_retv k54_35 rfl (h1 hlt)
  · refine g_aload_n k54_9 rfl ?_
    refine g_iconst (v := 1) k54_10 ic_1 ?_
    refine g_putz k54_11 (by decide) (hA.1) (by decide) (by decide) ?_
    exact g_retv k54_14 rfl (h0 (by have : ¬ d < 8 := fun z => h ((nI_ltI (b := 8) (by omega) (by decide)).mpr z); omega))

set_option maxRecDepth 20000 in
set_option maxHeartbeats 4000000 in
theorem c55 {LS : Nat} {rm : Nat → Nat → Option Nat} {im : Nat → Nat → Int32} {P : Option Value → (Nat → Nat → Int32) → Prop} {a d : Nat} (hA : isRn LS rm a) (hd : im a 2 = nI d) (hb : d ≤ 8) (h0 : d = 0 → P (some (.int 0)) (en_u2 im a 4 1)) (h1 : 0 < d → P (some (.int (im (a + 1) (d - 1)))) (en_u2 im a 2 (nI (d - 1)))) : Gm LS rm 55 0 (en_in 55 [.ref a]) [] im P := by
  show Gm LS rm 55 0 [.ref (a)] [] im P
  refine g_aload_n k55_0 rfl ?_
  refine g_getv (v := nI d) k55_1 (hA.1) (by decide) (hd) ?_
  refine g_if_gt k55_4 (fun h => ?_) (fun h => ?_)
  · have hlt : 0 < d := by
      apply Nat.pos_of_ne_zero
      intro z
      subst z
      exact absurd h (by decide)
    refine g_aload_n k55_14 rfl ?_
    refine g_dup k55_15 rfl ?_
    refine g_getv (v := nI d) k55_16 (hA.1) (by decide) (hd) ?_
    refine g_iconst (v := 1) k55_19 ic_1 ?_
    refine g_isub k55_20 ?_
    refine g_top (y := nI (d - 1)) (nI_m1 hlt) ?_
    refine g_puti k55_21 (by decide) (hA.1) (by decide) ?_
    refine g_aload_n k55_24 rfl ?_
    refine g_getr k55_25 (hA.1) (by decide) (hA.2.1) ?_
    refine g_aload_n k55_28 rfl ?_
    refine g_getv (v := nI (d - 1)) k55_29 (hA.1) (by decide) (u2_eq) ?_
    refine g_ialv (v := im (a + 1) (d - 1)) k55_32 (hA.2.2.2.1) (by omega) (by decide) (by simp [en_u2]) ?_
    exact g_reti k55_33 rfl (h1 hlt)
  · refine g_aload_n k55_7 rfl ?_
    refine g_iconst (v := 1) k55_8 ic_1 ?_
    refine g_putz k55_9 (by decide) (hA.1) (by decide) (by decide) ?_
    refine g_iconst (v := 0) k55_12 ic_0 ?_
    exact g_reti k55_13 rfl (h0 (by apply Decidable.byContradiction; intro z; exact h (nI_lt (a := 0) (b := d) (by omega) (by omega))))

set_option maxRecDepth 20000 in
set_option maxHeartbeats 4000000 in
theorem c61 {LS : Nat} {rm : Nat → Nat → Option Nat} {im : Nat → Nat → Int32} {P : Option Value → (Nat → Nat → Int32) → Prop} {a r k : Nat} {v : Int32} (hA : isRs LS rm a) (hb : 16 * r + k < 80) (h1 : P none (en_u2 im (a + 1) (16 * r + k) v)) : Gm LS rm 61 0 (en_in 61 [.ref a, .int (nI r), .int (nI k), .int v]) [] im P := by
  show Gm LS rm 61 0 [.ref (a), .int (nI r), .int (nI k), .int (v)] [] im P
  refine g_aload_n k61_0 rfl ?_
  refine g_getr k61_1 (hA.1) (by decide) (hA.2.1) ?_
  refine g_iload_n k61_4 rfl ?_
  refine g_bipush (v := 16) k61_5 bp_16 ?_
  refine g_imul k61_7 ?_
  refine g_iload_n k61_8 rfl ?_
  refine g_iadd k61_9 ?_
  refine g_top (y := nI (16 * r + k)) (by rw [show (16 : Int32) = nI 16 from rfl, pk_mul, nI_add, Nat.mul_comm]) ?_
  refine g_iload_n k61_10 rfl ?_
  refine g_iasv k61_11 (hA.2.2) (hb) (by decide) ?_
  exact g_retv k61_12 rfl (h1)

set_option maxRecDepth 20000 in
set_option maxHeartbeats 4000000 in
theorem c62 {LS : Nat} {rm : Nat → Nat → Option Nat} {im : Nat → Nat → Int32} {P : Option Value → (Nat → Nat → Int32) → Prop} {a k : Nat} {v w : Int32} (hA : isRs LS rm a) (hb : k < 16) (h1 : P none (en_u2 (en_u2 im (a + 1) (48 + k) v) (a + 1) (64 + k) w)) : Gm LS rm 62 0 (en_in 62 [.ref a, .int (nI k), .int v, .int w]) [] im P := by
  show Gm LS rm 62 0 [.ref (a), .int (nI k), .int (v), .int (w)] [] im P
  refine g_aload_n k62_0 rfl ?_
  refine g_getr k62_1 (hA.1) (by decide) (hA.2.1) ?_
  refine g_bipush (v := 48) k62_4 bp_48 ?_
  refine g_iload_n k62_6 rfl ?_
  refine g_iadd k62_7 ?_
  refine g_top (y := nI (48 + k)) (by rw [show (48 : Int32) = nI 48 from rfl, nI_add]) ?_
  refine g_iload_n k62_8 rfl ?_
  refine g_iasv k62_9 (hA.2.2) (by omega) (by decide) ?_
  refine g_aload_n k62_10 rfl ?_
  refine g_getr k62_11 (hA.1) (by decide) (hA.2.1) ?_
  refine g_bipush (v := 64) k62_14 bp_64 ?_
  refine g_iload_n k62_16 rfl ?_
  refine g_iadd k62_17 ?_
  refine g_top (y := nI (64 + k)) (by rw [show (64 : Int32) = nI 64 from rfl, nI_add]) ?_
  refine g_iload_n k62_18 rfl ?_
  refine g_iasv k62_19 (hA.2.2) (by omega) (by decide) ?_
  exact g_retv k62_20 rfl (h1)

set_option maxRecDepth 20000 in
set_option maxHeartbeats 4000000 in
theorem c78 {LS : Nat} {rm : Nat → Nat → Option Nat} {im : Nat → Nat → Int32} {P : Option Value → (Nat → Nat → Int32) → Prop} {a n : Nat} {x : Int32} (hA : isBL LS rm a) (hn : im a 1 = nI n) (hb : n < 40) (h1 : P none (en_u2 (en_u2 im (a + 1) n x) a 1 (nI (n + 1)))) : Gm LS rm 78 0 (en_in 78 [.ref a, .int x]) [] im P := by
  show Gm LS rm 78 0 [.ref (a), .int (x)] [] im P
  refine g_aload_n k78_0 rfl ?_
  refine g_getv (v := nI n) k78_1 (hA.1) (by decide) (hn) ?_
  refine g_bipush (v := 40) k78_4 bp_40 ?_
  refine g_icmp_ge k78_6 (fun h => ?_) (fun h => ?_)
  · exact absurd h (nI_ge (b := 40) hb (by decide))
  · refine g_aload_n k78_9 rfl ?_
    refine g_getr k78_10 (hA.1) (by decide) (hA.2.1) ?_
    refine g_aload_n k78_13 rfl ?_
    refine g_getv (v := nI n) k78_14 (hA.1) (by decide) (hn) ?_
    refine g_iload_n k78_17 rfl ?_
    refine g_iasv k78_18 (hA.2.2) (hb) (by decide) ?_
    refine g_aload_n k78_19 rfl ?_
    refine g_dup k78_20 rfl ?_
    refine g_getv (v := nI n) k78_21 (hA.1) (by decide) (by simp [en_u2, hn]) ?_
    refine g_iconst (v := 1) k78_24 ic_1 ?_
    refine g_iadd k78_25 ?_
    refine g_top (y := nI (n + 1)) (nI_1 n) ?_
    refine g_puti k78_26 (by decide) (hA.1) (by decide) ?_
    exact g_retv k78_29 rfl (h1)

set_option maxRecDepth 20000 in
set_option maxHeartbeats 4000000 in
theorem c71 {LS : Nat} {rm : Nat → Nat → Option Nat} {im : Nat → Nat → Int32} {P : Option Value → (Nat → Nat → Int32) → Prop} {a : Nat} {x : Int32} (hA : isTx LS rm a) (h1 : P (some (.int (if (im a 2 >>> (x &&& 31)) &&& 1 = 1 then 1 else 0))) im) : Gm LS rm 71 0 (en_in 71 [.ref a, .int x]) [] im P := by
  show Gm LS rm 71 0 [.ref (a), .int (x)] [] im P
  refine g_aload_n k71_0 rfl ?_
  refine g_geti k71_1 (hA.1) (by decide) ?_
  refine g_iload_n k71_4 rfl ?_
  refine g_ishr k71_5 ?_
  refine g_iconst (v := 1) k71_6 ic_1 ?_
  refine g_iand k71_7 ?_
  refine g_iconst (v := 1) k71_8 ic_1 ?_
  refine g_icmp_ne k71_9 (fun e => ?_) (fun e => ?_)
  · rw [if_neg e] at h1
    refine g_iconst (v := 0) k71_16 ic_0 ?_
    exact g_retz k71_17 rfl (by decide) (h1)
  · rw [if_pos e] at h1
    refine g_iconst (v := 1) k71_12 ic_1 ?_
    refine g_goto k71_13 ?_
    exact g_retz k71_17 rfl (by decide) (h1)

set_option maxRecDepth 20000 in
set_option maxHeartbeats 4000000 in
theorem c72 {LS : Nat} {rm : Nat → Nat → Option Nat} {im : Nat → Nat → Int32} {P : Option Value → (Nat → Nat → Int32) → Prop} {a : Nat} (hA : isTx LS rm a) (h1 : P (some (.int (if im a 2 = 0 then 0 else 1))) im) : Gm LS rm 72 0 (en_in 72 [.ref a]) [] im P := by
  show Gm LS rm 72 0 [.ref (a)] [] im P
  refine g_aload_n k72_0 rfl ?_
  refine g_geti k72_1 (hA.1) (by decide) ?_
  refine g_if_eq k72_4 (fun e => ?_) (fun e => ?_)
  · rw [if_pos e] at h1
    refine g_iconst (v := 0) k72_11 ic_0 ?_
    exact g_retz k72_12 rfl (by decide) (h1)
  · rw [if_neg e] at h1
    refine g_iconst (v := 1) k72_7 ic_1 ?_
    refine g_goto k72_8 ?_
    exact g_retz k72_12 rfl (by decide) (h1)

