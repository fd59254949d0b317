set_option maxRecDepth 20000 in
set_option maxHeartbeats 4000000 in
theorem c28 {LS : Nat} {rm : Nat → Nat → Option Nat} {im : Nat → Nat → Int32} {P : Option Value → (Nat → Nat → Int32) → Prop} {a b na nb : Nat} (hA : isBL LS rm a) (hB : isBL LS rm b) (hab : a + 1 < b ∨ b + 1 < a) (ha : im a 1 = nI na) (hb : im b 1 = nI nb) (hna : na ≤ 40) (hnb : nb ≤ 40) (h0 : ∀ l, l ≤ na → l ≤ nb → (∀ k, k < l → im (a + 1) k = im (b + 1) k) → (l < na → l < nb → im (a + 1) l ≠ im (b + 1) l) → na ≤ l → P (some (.int 0)) im) (h1 : ∀ l, l ≤ na → l ≤ nb → (∀ k, k < l → im (a + 1) k = im (b + 1) k) → (l < na → l < nb → im (a + 1) l ≠ im (b + 1) l) → l < na → P (some (.int 1)) (en_u2 (en_u2 (en_u2 im b 1 (nI l)) (b + 1) l (im (a + 1) l)) b 1 (nI (l + 1)))) : Gm LS rm 28 0 (en_in 28 [.ref a, .ref b]) [] im P := by
  show Gm LS rm 28 0 [.ref (a), .ref (b), .long 0] [] im P
  refine g_aload_n k28_0 rfl ?_
  refine g_aload_n k28_1 rfl ?_
  refine g_inv1 k28_2 (hA.1) rfl (by decide) (Nat.le_of_ble_eq_true rfl) (c79 hA hB ha hb hna hnb (fun l q1 q2 q3 q4 => ?_))
  refine g_istore_n k28_5 (by decide) rfl ?_
  refine g_aload_n k28_6 rfl ?_
  refine g_getv (v := nI na) k28_7 (hA.1) (by decide) (ha) ?_
  refine g_iload_n k28_10 rfl ?_
  refine g_icmp_gt k28_11 (fun h => ?_) (fun h => ?_)
  · have hlt : l < na := (nI_ltI (by omega) (by omega)).mp h
    refine g_aload_n k28_16 rfl ?_
    refine g_iload_n k28_17 rfl ?_
    refine g_puti k28_18 (by decide) (hB.1) (by decide) ?_
    refine g_aload_n k28_21 rfl ?_
    refine g_aload_n k28_22 rfl ?_
    refine g_getr k28_23 (hA.1) (by decide) (hA.2.1) ?_
    refine g_iload_n k28_26 rfl ?_
    refine g_ialv (v := im (a + 1) l) k28_27 (hA.2.2) (by omega) (by decide) (by rw [u2_ne (by omega)]) ?_
    refine g_inv1 k28_28 (hB.1) rfl (by decide) (Nat.le_of_ble_eq_true rfl) (c78 (n := l) hB u2_eq (by omega) ?_)
    refine g_iconst (v := 1) k28_31 ic_1 ?_
    exact g_reti k28_32 rfl (h1 l q1 q2 q3 q4 hlt)
  · refine g_iconst (v := 0) k28_14 ic_0 ?_
    exact g_reti k28_15 rfl (h0 l q1 q2 q3 q4 (Nat.not_lt.mp (fun z => h (nI_lt z (by omega)))))

set_option maxRecDepth 20000 in
set_option maxHeartbeats 4000000 in
theorem l30 {LS : Nat} {rm : Nat → Nat → Option Nat} {im : Nat → Nat → Int32} {P : Option Value → (Nat → Nat → Int32) → Prop} {a idx : Nat} {n : Nat → Nat} {x : Int32} (hM : isLd LS rm) (ha : a < 3) (hidx : idx < 40) (hn : ∀ o, o < 3 → im (3 * o + 331) 1 = nI (n o) ∧ n o ≤ 40) (h1 : ∀ o, o < 3 → o ≠ a → idx < n o → im (3 * o + 332) idx = x → P (some (.int 1)) im) (h0 : (∀ o, o < 3 → o ≠ a → idx < n o → im (3 * o + 332) idx ≠ x) → P (some (.int 0)) im) : ∀ (rr i : Nat), i + rr = 3 → ∀ (u : Value), (∀ o, o < i → o ≠ a → idx < n o → im (3 * o + 332) idx ≠ x) → Gm LS rm 30 3 [.ref (1), .int (nI a), .int (x), .int (nI idx), .int (nI i), u] [] (im) P := by
  intro rr
  induction rr with
  | zero =>
    intro i hi u hp
    have hie : i = 3 := by omega
    subst hie
    refine g_iload k30_3 rfl ?_
    refine g_iconst (v := 3) k30_5 ic_3 ?_
    refine g_icmp_ge k30_6 (fun _ => ?_) (fun h => absurd (nI_le (Nat.le_refl _) (by decide)) h)
    refine g_iconst (v := 0) k30_55 ic_0 ?_
    exact g_retz k30_56 rfl (by decide) (h0 hp)
  | succ rr ih =>
    intro i hi u hp
    have hlt : i < 3 := by omega
    refine g_iload k30_3 rfl ?_
    refine g_iconst (v := 3) k30_5 ic_3 ?_
    refine g_icmp_ge k30_6 (fun h => absurd h (nI_ge hlt (by decide))) (fun _ => ?_)
    have hni := hn i hlt
    refine g_aload_n k30_9 rfl ?_
    refine g_getr k30_10 (hM.1.1) (by decide) (hM.1.2.2.2.2.2.1) ?_
    refine g_iload k30_13 rfl ?_
    refine g_aalv (t := 3) k30_15 (hM.1.2.2.2.2.2.2.2.2.2.2.2.2.2.1) ⟨_, rfl⟩ (hlt) (by decide) ((hM.2.2.2.2.1 i (hlt)).1) ?_
    refine g_getr k30_16 ((hM.2.2.2.2.1 i (hlt)).2.1) (by decide) ((hM.2.2.2.2.1 i (hlt)).2.2.1) ?_
    refine g_astore k30_19 (by decide) rfl ?_
    refine g_iload k30_21 rfl ?_
    refine g_iload_n k30_23 rfl ?_
    refine g_icmp_eq k30_24 (fun h => ?_) (fun h => ?_)
    · have e : i = a := (nI_eq (by omega) (by omega)).mp h
      refine g_iincv (y := nI (i + 1)) k30_49 rfl (by decide) (inc_1 i) rfl ?_
      refine g_goto k30_52 ?_
      exact ih (i + 1) (by omega) _ (fun o ho => by by_cases z : o = i; subst z; exact fun y => absurd e y; exact hp o (by omega))
    · have e : i ≠ a := fun z => h (by rw [z])
      refine g_iload_n k30_27 rfl ?_
      refine g_aload k30_28 rfl ?_
      refine g_getv (v := nI (n i)) k30_30 ((hM.2.2.2.2.1 i (hlt)).2.2.2.1) (by decide) (hni.1) ?_
      refine g_icmp_ge k30_33 (fun g => ?_) (fun g => ?_)
      · have e2 : ¬ idx < n i := fun z => nI_ge z (by omega) g
        refine g_iincv (y := nI (i + 1)) k30_49 rfl (by decide) (inc_1 i) rfl ?_
        refine g_goto k30_52 ?_
        exact ih (i + 1) (by omega) _ (fun o ho => by by_cases z : o = i; subst z; exact fun _ y => absurd y e2; exact hp o (by omega))
      · have e2 : idx < n i := Nat.not_le.mp (fun z => g (nI_le z (by omega)))
        refine g_aload k30_36 rfl ?_
        refine g_getr k30_38 ((hM.2.2.2.2.1 i (hlt)).2.2.2.1) (by decide) ((hM.2.2.2.2.1 i (hlt)).2.2.2.2.1) ?_
        refine g_iload_n k30_41 rfl ?_
        refine g_ialv k30_42 ((hM.2.2.2.2.1 i (hlt)).2.2.2.2.2) (hidx) (by decide) (rfl) ?_
        refine g_iload_n k30_43 rfl ?_
        refine g_icmp_ne k30_44 (fun d => ?_) (fun d => ?_)
        · refine g_iincv (y := nI (i + 1)) k30_49 rfl (by decide) (inc_1 i) rfl ?_
          refine g_goto k30_52 ?_
          exact ih (i + 1) (by omega) _ (fun o ho => by by_cases z : o = i; subst z; exact fun _ _ => d; exact hp o (by omega))
        · refine g_iconst (v := 1) k30_47 ic_1 ?_
          exact g_retz k30_48 rfl (by decide) (h1 i hlt e e2 d)

set_option maxRecDepth 20000 in
set_option maxHeartbeats 4000000 in
theorem c30 {LS : Nat} {rm : Nat → Nat → Option Nat} {im : Nat → Nat → Int32} {P : Option Value → (Nat → Nat → Int32) → Prop} {a idx : Nat} {n : Nat → Nat} {x : Int32} (hM : isLd LS rm) (ha : a < 3) (hidx : idx < 40) (hn : ∀ o, o < 3 → im (3 * o + 331) 1 = nI (n o) ∧ n o ≤ 40) (h1 : ∀ o, o < 3 → o ≠ a → idx < n o → im (3 * o + 332) idx = x → P (some (.int 1)) im) (h0 : (∀ o, o < 3 → o ≠ a → idx < n o → im (3 * o + 332) idx ≠ x) → P (some (.int 0)) im) : Gm LS rm 30 0 (en_in 30 [.ref 1, .int (nI a), .int x, .int (nI idx)]) [] im P := by
  show Gm LS rm 30 0 [.ref (1), .int (nI a), .int (x), .int (nI idx), .long 0, .long 0] [] im P
  refine g_iconst (v := 0) k30_0 ic_0 ?_
  refine g_istore k30_1 (by decide) rfl ?_
  exact l30 hM ha hidx hn h1 h0 3 0 (by omega) _ (fun o ho => absurd ho (Nat.not_lt_zero o))

def agQ (im : Nat → Nat → Int32) (n : Nat → Nat) (a c : Nat) : Prop := im (2 * tn (im (3 * a + 332) (c - 1)) + 210) 2 = im (3 * a + 330) 1 ∧ ∃ o, o < 3 ∧ o ≠ a ∧ c - 1 < n o ∧ im (3 * o + 332) (c - 1) = im (3 * a + 332) (c - 1)
set_option maxRecDepth 20000 in
set_option maxHeartbeats 4000000 in
theorem l29 {LS : Nat} {rm : Nat → Nat → Option Nat} {im : Nat → Nat → Int32} {P : Option Value → (Nat → Nat → Int32) → Prop} {a : Nat} {n : Nat → Nat} (hM : isLd LS rm) (ha : a < 3) (hn : ∀ o, o < 3 → im (3 * o + 331) 1 = nI (n o) ∧ n o ≤ 40) (hg : ∀ i, i < n a → isN (im (3 * a + 332) i) 60) (h1 : ∀ N, N ≤ n a → (N = 0 ∨ agQ im n a N) → (∀ c, N < c → c ≤ n a → ¬ agQ im n a c) → P (some (.int (nI N))) im) : ∀ (c : Nat), c ≤ n a → ∀ (u : Value), (∀ c2, c < c2 → c2 ≤ n a → ¬ agQ im n a c2) → Gm LS rm 29 15 [.ref 1, .int (nI a), .ref (3 * a + 331), .int (nI c), u] [] im P := by
  have hna := hn a ha
  intro c
  induction c with
  | zero =>
    intro hc u hno
    refine g_iload_n k29_15 rfl ?_
    refine g_if_le k29_16 (fun _ => ?_) (fun h => absurd (by decide) h)
    refine g_iconst (v := 0) k29_72 ic_0 ?_
    exact g_reti k29_73 rfl (h1 0 (Nat.zero_le _) (Or.inl rfl) hno)
  | succ c ih =>
    intro hc u hno
    obtain ⟨g1, g2⟩ := hg c (by omega)
    generalize hm : tn (im (3 * a + 332) c) = m at g1 g2
    refine g_iload_n k29_15 rfl ?_
    refine g_if_le k29_16 (fun h => absurd h (nI_nle (Nat.succ_pos c) (by omega))) (fun _ => ?_)
    refine g_aload_n k29_19 rfl ?_
    refine g_getr k29_20 ((hM.2.2.2.2.1 a ha).2.2.2.1) (by decide) ((hM.2.2.2.2.1 a ha).2.2.2.2.1) ?_
    refine g_iload_n k29_23 rfl ?_
    refine g_iconst (v := 1) k29_24 ic_1 ?_
    refine g_isub k29_25 ?_
    refine g_top (y := nI c) (nI_pred c) ?_
    refine g_ialv (v := nI m) k29_26 ((hM.2.2.2.2.1 a ha).2.2.2.2.2) (by omega) (by decide) (g1) ?_
    refine g_istore k29_27 (by decide) rfl ?_
    refine g_aload_n k29_29 rfl ?_
    refine g_getr k29_30 (hM.1.1) (by decide) (hM.1.2.2.2.2.1) ?_
    refine g_iload k29_33 rfl ?_
    refine g_aalv (t := 2) k29_35 (hM.1.2.2.2.2.2.2.2.2.2.2.2.2.1) ⟨_, rfl⟩ (g2) (by decide) ((hM.2.2.2.1 m (g2)).1) ?_
    refine g_geti k29_36 ((hM.2.2.2.1 m (g2)).2.1) (by decide) ?_
    refine g_aload_n k29_39 rfl ?_
    refine g_getr k29_40 (hM.1.1) (by decide) (hM.1.2.2.2.2.2.1) ?_
    refine g_iload_n k29_43 rfl ?_
    refine g_aalv (t := 3) k29_44 (hM.1.2.2.2.2.2.2.2.2.2.2.2.2.2.1) ⟨_, rfl⟩ (ha) (by decide) ((hM.2.2.2.2.1 a (ha)).1) ?_
    refine g_geti k29_45 ((hM.2.2.2.2.1 a (ha)).2.1) (by decide) ?_
    refine g_icmp_ne k29_48 (fun h => ?_) (fun h => ?_)
    · refine g_iincv (y := nI c) k29_66 rfl (by decide) (inc_m1 (Nat.succ_pos c)) rfl ?_
      refine g_goto k29_69 ?_
      refine ih (by omega) _ (fun c2 h1c h2c => ?_)
      by_cases z : c2 = c + 1
      · subst z
        intro hq
        unfold agQ at hq
        rw [Nat.add_sub_cancel, hm] at hq
        exact h hq.1
      · exact hno c2 (by omega) h2c
    · refine g_aload_n k29_51 rfl ?_
      refine g_iload_n k29_52 rfl ?_
      refine g_iload k29_53 rfl ?_
      refine g_iload_n k29_55 rfl ?_
      refine g_iconst (v := 1) k29_56 ic_1 ?_
      refine g_isub k29_57 ?_
      refine g_top (y := nI c) (nI_pred c) ?_
      refine g_inv3 k29_58 (hM.1.1) rfl rfl rfl (by decide) (Nat.le_of_ble_eq_true rfl) (c30 (n := n) hM ha (by omega) hn (fun o ho hoa hlt e => ?_) (fun hf => ?_))
      · refine g_if_eq k29_61 (fun h => absurd h (by decide)) (fun _ => ?_)
        refine g_iload_n k29_64 rfl ?_
        exact g_reti k29_65 rfl (h1 (c + 1) hc (Or.inr (by unfold agQ; rw [Nat.add_sub_cancel, hm]; exact ⟨h, o, ho, hoa, hlt, e.trans g1.symm⟩)) hno)
      · refine g_if_eq k29_61 (fun _ => ?_) (fun h => absurd (by decide) h)
        refine g_iincv (y := nI c) k29_66 rfl (by decide) (inc_m1 (Nat.succ_pos c)) rfl ?_
        refine g_goto k29_69 ?_
        refine ih (by omega) _ (fun c2 h1c h2c => ?_)
        by_cases z : c2 = c + 1
        · subst z
          intro hq
          unfold agQ at hq
          rw [Nat.add_sub_cancel, hm] at hq
          obtain ⟨-, o, ho, hoa, hlt, e⟩ := hq
          exact hf o ho hoa hlt (e.trans g1)
        · exact hno c2 (by omega) h2c

set_option maxRecDepth 20000 in
set_option maxHeartbeats 4000000 in
theorem c29 {LS : Nat} {rm : Nat → Nat → Option Nat} {im : Nat → Nat → Int32} {P : Option Value → (Nat → Nat → Int32) → Prop} {a : Nat} {n : Nat → Nat} (hM : isLd LS rm) (ha : a < 3) (hn : ∀ o, o < 3 → im (3 * o + 331) 1 = nI (n o) ∧ n o ≤ 40) (hg : ∀ i, i < n a → isN (im (3 * a + 332) i) 60) (h1 : ∀ N, N ≤ n a → (N = 0 ∨ agQ im n a N) → (∀ c, N < c → c ≤ n a → ¬ agQ im n a c) → P (some (.int (nI N))) im) : Gm LS rm 29 0 (en_in 29 [.ref 1, .int (nI a)]) [] im P := by
  show Gm LS rm 29 0 [.ref (1), .int (nI a), .long 0, .long 0, .long 0] [] im P
  have hna := hn a ha
  refine g_aload_n k29_0 rfl ?_
  refine g_getr k29_1 (hM.1.1) (by decide) (hM.1.2.2.2.2.2.1) ?_
  refine g_iload_n k29_4 rfl ?_
  refine g_aalv (t := 3) k29_5 (hM.1.2.2.2.2.2.2.2.2.2.2.2.2.2.1) ⟨_, rfl⟩ (ha) (by decide) ((hM.2.2.2.2.1 a (ha)).1) ?_
  refine g_getr k29_6 ((hM.2.2.2.2.1 a (ha)).2.1) (by decide) ((hM.2.2.2.2.1 a (ha)).2.2.1) ?_
  refine g_astore_n k29_9 (by decide) rfl ?_
  refine g_aload_n k29_10 rfl ?_
  refine g_getv (v := nI (n a)) k29_11 ((hM.2.2.2.2.1 a (ha)).2.2.2.1) (by decide) (hna.1) ?_
  refine g_istore_n k29_14 (by decide) rfl ?_
  exact l29 hM ha hn hg h1 (n a) (Nat.le_refl _) _ (fun c2 h1c h2c => by omega)

def kCode (ln : Nat → Nat) (m : Nat) (a1 a2 x : Int32) (p o : Nat) : Prop := p < 4 ∧ o < 11 ∧ a1 = nI p ∧ a2 = nI o ∧ m = 0 ∧ (o = 6 → ∃ y, y < 13 ∧ x = nI y) ∧ ln p < 12
theorem nI_inj {a b : Nat} (h : nI a = nI b) (ha : a < 1000) (hb : b < 1000) : a = b := (nI_eq (by omega) (by omega)).mp h
set_option maxRecDepth 20000 in
set_option maxHeartbeats 4000000 in
theorem x1 {LS : Nat} {rm : Nat → Nat → Option Nat} {im : Nat → Nat → Int32} {P : Option Value → (Nat → Nat → Int32) → Prop} {a1 a2 x : Int32} {ln : Nat → Nat} {m : Nat} (hM : isLd LS rm) (hm : im 1 2 = nI m) (hm2 : m ≤ 60) (hl : ∀ p, p < 4 → im (4 * p + 14) 2 = nI (ln p) ∧ ln p ≤ 12) (h1 : ∀ p o, kCode ln m a1 a2 x p o → P (some (.int 1)) (en_u2 (en_u2 (en_u2 im (4 * p + 15) (ln p) a2) (4 * p + 16) (ln p) x) (4 * p + 14) 2 (nI (ln p + 1)))) (h0 : (∀ p o, ¬ kCode ln m a1 a2 x p o) → P (some (.int 0)) im) : Gm LS rm 1 0 (en_in 1 [.ref 1, .int a1, .int a2, .int x]) [] im P := by
  show Gm LS rm 1 0 [.ref (1), .int (a1), .int (a2), .int (x)] [] im P
  refine g_iload_n k1_0 rfl ?_
  refine g_iconst (v := 4) k1_1 ic_4 ?_
  refine g_invS2 k1_2 rfl rfl (by decide) (Nat.le_of_ble_eq_true rfl) (c19n 4 (by decide) (fun p hp e => ?_) (fun h => ?_))
  · subst e
    refine g_if_eq k1_5 (fun h => absurd h (by decide)) (fun _ => ?_)
    refine g_iload_n k1_8 rfl ?_
    refine g_bipush (v := 11) k1_9 bp_11 ?_
    refine g_invS2 k1_11 rfl rfl (by decide) (Nat.le_of_ble_eq_true rfl) (c19n 11 (by decide) (fun o ho e2 => ?_) (fun h2 => ?_))
    · subst e2
      refine g_if_eq k1_14 (fun h => absurd h (by decide)) (fun _ => ?_)
      refine g_aload_n k1_17 rfl ?_
      refine g_getv (v := nI m) k1_18 (hM.1.1) (by decide) (hm) ?_
      refine g_if_le k1_21 (fun g => ?_) (fun g => ?_)
      · have hm0 : m = 0 := by
          have : ¬ 0 < m := fun y => nI_nle y (by omega) g
          omega
        have hlp := hl p hp
        refine g_iload_n k1_26 rfl ?_
        refine g_bipush (v := 6) k1_27 bp_6 ?_
        refine g_icmp_ne k1_29 (fun d => ?_) (fun d => ?_)
        · have o6 : o ≠ 6 := fun z => d (by rw [z]; rfl)
          refine g_aload_n k1_43 rfl ?_
          refine g_getr k1_44 (hM.1.1) (by decide) (hM.1.2.1) ?_
          refine g_iload_n k1_47 rfl ?_
          refine g_aalv (t := 0) k1_48 (hM.1.2.2.2.2.2.2.2.2.2.1) ⟨_, rfl⟩ (hp) (by decide) ((hM.2.1 p (hp)).1) ?_
          refine g_iload_n k1_49 rfl ?_
          refine g_iload_n k1_50 rfl ?_
          refine g_inv2 k1_51 ((hM.2.1 p (hp)).2.1) rfl rfl (by decide) (Nat.le_of_ble_eq_true rfl) (c40 (len := ln p) (hM.2.1 p hp).2 hlp.1 hlp.2 (fun z => ?_) (fun z => ?_))
          · exact g_retz k1_54 rfl (by decide) (h0 (fun p2 o2 k2 => by obtain ⟨q1, q2, q3, q4, q5, q6, q7⟩ := k2; have := nI_inj q3 (by omega) (by omega); subst this; omega))
          · exact g_retz k1_54 rfl (by decide) (h1 p o ⟨hp, ho, rfl, rfl, hm0, fun z => absurd z o6, z⟩)
        · have o6 : o = 6 := nI_inj d (by omega) (by decide)
          refine g_iload_n k1_32 rfl ?_
          refine g_bipush (v := 13) k1_33 bp_13 ?_
          refine g_invS2 k1_35 rfl rfl (by decide) (Nat.le_of_ble_eq_true rfl) (c19n 13 (by decide) (fun y hy ey => ?_) (fun hy0 => ?_))
          · refine g_if_ne k1_38 (fun _ => ?_) (fun h => absurd h (by decide))
            refine g_aload_n k1_43 rfl ?_
            refine g_getr k1_44 (hM.1.1) (by decide) (hM.1.2.1) ?_
            refine g_iload_n k1_47 rfl ?_
            refine g_aalv (t := 0) k1_48 (hM.1.2.2.2.2.2.2.2.2.2.1) ⟨_, rfl⟩ (hp) (by decide) ((hM.2.1 p (hp)).1) ?_
            refine g_iload_n k1_49 rfl ?_
            refine g_iload_n k1_50 rfl ?_
            refine g_inv2 k1_51 ((hM.2.1 p (hp)).2.1) rfl rfl (by decide) (Nat.le_of_ble_eq_true rfl) (c40 (len := ln p) (hM.2.1 p hp).2 hlp.1 hlp.2 (fun z => ?_) (fun z => ?_))
            · exact g_retz k1_54 rfl (by decide) (h0 (fun p2 o2 k2 => by obtain ⟨q1, q2, q3, q4, q5, q6, q7⟩ := k2; have := nI_inj q3 (by omega) (by omega); subst this; omega))
            · exact g_retz k1_54 rfl (by decide) (h1 p o ⟨hp, ho, rfl, rfl, hm0, fun _ => ⟨y, hy, ey⟩, z⟩)
          · refine g_if_ne k1_38 (fun h => absurd (by decide) h) (fun _ => ?_)
            refine g_iconst (v := 0) k1_41 ic_0 ?_
            exact g_retz k1_42 rfl (by decide) (h0 (fun p2 o2 k2 => by obtain ⟨q1, q2, q3, q4, q5, q6, q7⟩ := k2; have := nI_inj q4 (by omega) (by omega); subst this; obtain ⟨y, hy, ey⟩ := q6 o6; exact w_out (by decide) hy hy0 ey))
      · refine g_iconst (v := 0) k1_24 ic_0 ?_
        exact g_retz k1_25 rfl (by decide) (h0 (fun p2 o2 k2 => g (by rw [k2.2.2.2.2.1]; decide)))
    · refine g_if_eq k1_14 (fun _ => ?_) (fun h => absurd (by decide) h)
      refine g_iconst (v := 0) k1_24 ic_0 ?_
      exact g_retz k1_25 rfl (by decide) (h0 (fun p2 o2 k2 => w_out (by decide) k2.2.1 h2 k2.2.2.2.1))
  · refine g_if_eq k1_5 (fun _ => ?_) (fun h => absurd (by decide) h)
    refine g_iconst (v := 0) k1_24 ic_0 ?_
    exact g_retz k1_25 rfl (by decide) (h0 (fun p2 o2 k2 => w_out (by decide) k2.1 h k2.2.2.1))

