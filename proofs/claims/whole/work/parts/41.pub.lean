def kLeaf (rr : Nat → Nat) (m : Nat) (a1 a2 a3 : Int32) (p q : Nat) : Prop := p < 4 ∧ q < 4 ∧ a1 = nI p ∧ a2 = nI q ∧ a3 = 0 ∧ m = 0 ∧ rr p < 9
def kJoin (hh rr : Nat → Nat) (m : Nat) (a1 a2 a3 : Int32) (p k n : Nat) : Prop := p < 4 ∧ a1 = nI p ∧ m = 0 ∧ 2 ≤ n ∧ n ≤ 4 ∧ a3 = nI n ∧ 1 ≤ k ∧ k ≤ n ∧ a2 = nI k ∧ rr p < 9 ∧ n ≤ hh p
theorem le_nI {x : Int32} {n : Nat} (hn : n < 1000) (h0 : 0 ≤ x) (h : x ≤ nI n) : ∃ q, q ≤ n ∧ x = nI q := by
  obtain ⟨q, hq, e⟩ := w_in (n := n + 1) (by omega) h0 (by
    apply Int32.lt_iff_toInt_lt.mpr
    have h1 := Int32.le_iff_toInt_le.mp h
    rw [nI_toInt (by omega)] at h1 ⊢
    omega)
  exact ⟨q, by omega, e⟩
set_option maxRecDepth 20000 in
set_option maxHeartbeats 4000000 in
theorem x2 {LS : Nat} {rm : Nat → Nat → Option Nat} {im : Nat → Nat → Int32} {P : Option Value → (Nat → Nat → Int32) → Prop} {a1 a2 a3 : Int32} {hh rr : Nat → Nat} {m : Nat} (hM : isLd LS rm) (hm : im 1 2 = nI m) (hm2 : m ≤ 60) (hl : ∀ p, p < 4 → im (4 * p + 14) 4 = nI (hh p) ∧ im (4 * p + 14) 5 = nI (rr p) ∧ hh p ≤ rr p ∧ rr p ≤ 9) (h1 : ∀ p q, kLeaf rr m a1 a2 a3 p q → P (some (.int 1)) (en_u2 (en_u2 (en_u2 im (4 * p + 17) (hh p) (lfN q 16)) (4 * p + 14) 4 (nI (hh p + 1))) (4 * p + 14) 5 (nI (rr p + 1)))) (h2 : ∀ p k n, kJoin hh rr m a1 a2 a3 p k n → P (some (.int 1)) (en_u2 (en_u2 (en_u2 (en_u2 im (4 * p + 14) 4 (nI (hh p - n))) (4 * p + 17) (hh p - n) (jnN (im (4 * p + 17)) (hh p - n) n k 16)) (4 * p + 14) 4 (nI (hh p - n + 1))) (4 * p + 14) 5 (nI (rr p + 1)))) (h0 : (∀ p q, ¬ kLeaf rr m a1 a2 a3 p q) → (∀ p k n, ¬ kJoin hh rr m a1 a2 a3 p k n) → P (some (.int 0)) im) : Gm LS rm 2 0 (en_in 2 [.ref 1, .int a1, .int a2, .int a3]) [] im P := by
  show Gm LS rm 2 0 [.ref (1), .int (a1), .int (a2), .int (a3)] [] im P
  refine g_iload_n k2_0 rfl ?_
  refine g_iconst (v := 4) k2_1 ic_4 ?_
  refine g_invS2 k2_2 rfl rfl (by decide) (Nat.le_of_ble_eq_true rfl) (c19n 4 (by decide) (fun p hp e => ?_) (fun h => ?_))
  · subst e
    refine g_if_eq k2_5 (fun h => absurd h (by decide)) (fun _ => ?_)
    refine g_aload_n k2_8 rfl ?_
    refine g_getv (v := nI m) k2_9 (hM.1.1) (by decide) (hm) ?_
    refine g_if_le k2_12 (fun g => ?_) (fun g => ?_)
    · have hm0 : m = 0 := by
        have : ¬ 0 < m := fun y => nI_nle y (by omega) g
        omega
      obtain ⟨l1, l2, l3, l4⟩ := hl p hp
      refine g_iload_n k2_17 rfl ?_
      refine g_if_ne k2_18 (fun z3 => ?_) (fun z3 => ?_)
      · refine g_iload_n k2_48 rfl ?_
        refine g_iconst (v := 2) k2_49 ic_2 ?_
        refine g_icmp_lt k2_50 (fun c1 => ?_) (fun c1 => ?_)
        · refine g_iconst (v := 0) k2_86 ic_0 ?_
          exact g_retz k2_87 rfl (by decide) (h0 (fun p2 q2 k2 => z3 k2.2.2.2.2.1) (fun p2 k2 n2 kk => by obtain ⟨j1, j2, j3, j4, j5, j6, j7, j8, j9, j10, j11⟩ := kk; rw [j6] at c1; exact nI_nlt (b := 2) j4 (by omega) c1))
        · refine g_iload_n k2_53 rfl ?_
          refine g_iconst (v := 4) k2_54 ic_4 ?_
          refine g_icmp_gt k2_55 (fun c2 => ?_) (fun c2 => ?_)
          · refine g_iconst (v := 0) k2_86 ic_0 ?_
            exact g_retz k2_87 rfl (by decide) (h0 (fun p2 q2 k2 => z3 k2.2.2.2.2.1) (fun p2 k2 n2 kk => by obtain ⟨j1, j2, j3, j4, j5, j6, j7, j8, j9, j10, j11⟩ := kk; rw [j6] at c2; exact nI_nlt (a := 4) j5 (by decide) c2))
          · obtain ⟨n, hn4, rfl⟩ := le_nI (n := 4) (by decide) (Int32.not_lt.mp (fun y => c1 (Int32.lt_trans y (by decide)))) (Int32.not_lt.mp c2)
            have hn2 : 2 ≤ n := Nat.not_lt.mp (fun y => c1 (nI_lt (b := 2) y (by decide)))
            refine g_iload_n k2_58 rfl ?_
            refine g_iconst (v := 1) k2_59 ic_1 ?_
            refine g_icmp_lt k2_60 (fun c3 => ?_) (fun c3 => ?_)
            · refine g_iconst (v := 0) k2_86 ic_0 ?_
              exact g_retz k2_87 rfl (by decide) (h0 (fun p2 q2 k2 => z3 k2.2.2.2.2.1) (fun p2 k2 n2 kk => by obtain ⟨j1, j2, j3, j4, j5, j6, j7, j8, j9, j10, j11⟩ := kk; rw [j9] at c3; exact nI_nlt (b := 1) j7 (by omega) c3))
            · refine g_iload_n k2_63 rfl ?_
              refine g_iload_n k2_64 rfl ?_
              refine g_icmp_gt k2_65 (fun c4 => ?_) (fun c4 => ?_)
              · refine g_iconst (v := 0) k2_86 ic_0 ?_
                exact g_retz k2_87 rfl (by decide) (h0 (fun p2 q2 k2 => z3 k2.2.2.2.2.1) (fun p2 k2 n2 kk => by obtain ⟨j1, j2, j3, j4, j5, j6, j7, j8, j9, j10, j11⟩ := kk; have := nI_inj j6 (by omega) (by omega); subst this; rw [j9] at c4; exact nI_nlt (a := n) j8 (by omega) c4))
              · obtain ⟨kk, hkn, rfl⟩ := le_nI (n := n) (by omega) (Int32.not_lt.mp (fun y => c3 (Int32.lt_trans y (by decide)))) (Int32.not_lt.mp c4)
                have hk1 : 1 ≤ kk := Nat.not_lt.mp (fun y => c3 (nI_lt (b := 1) y (by decide)))
                refine g_aload_n k2_68 rfl ?_
                refine g_getr k2_69 (hM.1.1) (by decide) (hM.1.2.1) ?_
                refine g_iload_n k2_72 rfl ?_
                refine g_aalv (t := 0) k2_73 (hM.1.2.2.2.2.2.2.2.2.2.1) ⟨_, rfl⟩ (hp) (by decide) ((hM.2.1 p (hp)).1) ?_
                refine g_iload_n k2_74 rfl ?_
                refine g_iload_n k2_75 rfl ?_
                refine g_inv2 k2_76 ((hM.2.1 p (hp)).2.1) rfl rfl (by decide) (Nat.le_of_ble_eq_true rfl) (c42 (kk := kk) (n := n) (h := hh p) (r := rr p) (hM.2.1 p hp).2 l1 l2 l3 l4 (by omega) hn4 hkn (fun y => ?_) (fun y1 y2 => ?_))
                · refine g_if_eq k2_79 (fun _ => ?_) (fun h => absurd (by decide) h)
                  refine g_iconst (v := 0) k2_86 ic_0 ?_
                  exact g_retz k2_87 rfl (by decide) (h0 (fun p2 q2 k2 => z3 k2.2.2.2.2.1) (fun p2 k2 n2 kk => by obtain ⟨j1, j2, j3, j4, j5, j6, j7, j8, j9, j10, j11⟩ := kk; have := nI_inj j6 (by omega) (by omega); subst this; have := nI_inj j2 (by omega) (by omega); subst this; omega))
                · refine g_if_eq k2_79 (fun h => absurd h (by decide)) (fun _ => ?_)
                  refine g_iconst (v := 1) k2_82 ic_1 ?_
                  refine g_goto k2_83 ?_
                  exact g_retz k2_87 rfl (by decide) (h2 p kk n ⟨hp, rfl, hm0, hn2, hn4, rfl, hk1, hkn, rfl, y1, y2⟩)
      · refine g_iload_n k2_21 rfl ?_
        refine g_iconst (v := 4) k2_22 ic_4 ?_
        refine g_invS2 k2_23 rfl rfl (by decide) (Nat.le_of_ble_eq_true rfl) (c19n 4 (by decide) (fun q hq e2 => ?_) (fun h3 => ?_))
        · subst e2
          refine g_if_eq k2_26 (fun h => absurd h (by decide)) (fun _ => ?_)
          refine g_aload_n k2_29 rfl ?_
          refine g_getr k2_30 (hM.1.1) (by decide) (hM.1.2.1) ?_
          refine g_iload_n k2_33 rfl ?_
          refine g_aalv (t := 0) k2_34 (hM.1.2.2.2.2.2.2.2.2.2.1) ⟨_, rfl⟩ (hp) (by decide) ((hM.2.1 p (hp)).1) ?_
          refine g_iload_n k2_35 rfl ?_
          refine g_inv1 k2_36 ((hM.2.1 p (hp)).2.1) rfl (by decide) (Nat.le_of_ble_eq_true rfl) (c41 (q := q) (h := hh p) (r := rr p) (hM.2.1 p hp).2 l1 l2 l3 l4 (fun y => ?_) (fun y => ?_))
          · refine g_if_eq k2_39 (fun _ => ?_) (fun h => absurd (by decide) h)
            refine g_iconst (v := 0) k2_46 ic_0 ?_
            exact g_retz k2_47 rfl (by decide) (h0 (fun p2 q2 k2 => by obtain ⟨j1, j2, j3, j4, j5, j6, j7⟩ := k2; have := nI_inj j3 (by omega) (by omega); subst this; omega) (fun p2 q2 n2 k2 => nI_ne0 (n := n2) (by have := k2.2.2.2.1; omega) (by have := k2.2.2.2.2.1; omega) (k2.2.2.2.2.2.1.symm.trans z3)))
          · refine g_if_eq k2_39 (fun h => absurd h (by decide)) (fun _ => ?_)
            refine g_iconst (v := 1) k2_42 ic_1 ?_
            refine g_goto k2_43 ?_
            exact g_retz k2_47 rfl (by decide) (h1 p q ⟨hp, hq, rfl, rfl, z3, hm0, y⟩)
        · refine g_if_eq k2_26 (fun _ => ?_) (fun h => absurd (by decide) h)
          refine g_iconst (v := 0) k2_46 ic_0 ?_
          exact g_retz k2_47 rfl (by decide) (h0 (fun p2 q2 k2 => w_out (by decide) k2.2.1 h3 k2.2.2.2.1) (fun p2 q2 n2 k2 => nI_ne0 (n := n2) (by have := k2.2.2.2.1; omega) (by have := k2.2.2.2.2.1; omega) (k2.2.2.2.2.2.1.symm.trans z3)))
    · refine g_iconst (v := 0) k2_15 ic_0 ?_
      exact g_retz k2_16 rfl (by decide) (h0 (fun p2 q2 k2 => g (by rw [k2.2.2.2.2.2.1]; decide)) (fun p2 q2 n2 k2 => g (by rw [k2.2.2.1]; decide)))
  · refine g_if_eq k2_5 (fun _ => ?_) (fun h => absurd (by decide) h)
    refine g_iconst (v := 0) k2_15 ic_0 ?_
    exact g_retz k2_16 rfl (by decide) (h0 (fun p2 q2 k2 => w_out (by decide) k2.1 h k2.2.2.1) (fun p2 q2 n2 k2 => w_out (by decide) k2.1 h k2.2.1))

set_option maxRecDepth 20000 in
set_option maxHeartbeats 4000000 in
theorem x3 {LS : Nat} {rm : Nat → Nat → Option Nat} {im : Nat → Nat → Int32} {P : Option Value → (Nat → Nat → Int32) → Prop} {a1 a2 : Int32} {m : Nat} (hM : isLd LS rm) (hm : im 1 2 = nI m) (hm2 : m ≤ 60) (h1 : ∀ p, p < 4 → a1 = nI p → m < 60 → P (some (.int (nI m))) (en_u2 (en_u2 (en_u2 im (3 * m + 30) 0 a1) (3 * m + 30) 1 a2) 1 2 (nI (m + 1)))) (h0 : (∀ p, ¬ (p < 4 ∧ a1 = nI p ∧ m < 60)) → P (some (.int (-1))) im) : Gm LS rm 3 0 (en_in 3 [.ref 1, .int a1, .int a2]) [] im P := by
  show Gm LS rm 3 0 [.ref (1), .int (a1), .int (a2)] [] im P
  refine g_iload_n k3_0 rfl ?_
  refine g_iconst (v := 4) k3_1 ic_4 ?_
  refine g_invS2 k3_2 rfl rfl (by decide) (Nat.le_of_ble_eq_true rfl) (c19n 4 (by decide) (fun p hp e => ?_) (fun h => ?_))
  · subst e
    refine g_if_eq k3_5 (fun h => absurd h (by decide)) (fun _ => ?_)
    refine g_aload_n k3_8 rfl ?_
    refine g_getv (v := nI m) k3_9 (hM.1.1) (by decide) (hm) ?_
    refine g_bipush (v := 60) k3_12 bp_60 ?_
    refine g_icmp_lt k3_14 (fun g => ?_) (fun g => ?_)
    · have hlt : m < 60 := (nI_ltI (by omega) (by decide)).mp g
      refine g_aload_n k3_19 rfl ?_
      refine g_getr k3_20 (hM.1.1) (by decide) (hM.1.2.2.1) ?_
      refine g_aload_n k3_23 rfl ?_
      refine g_getv (v := nI m) k3_24 (hM.1.1) (by decide) (hm) ?_
      refine g_aalv (t := 1) k3_27 (hM.1.2.2.2.2.2.2.2.2.2.2.1) ⟨_, rfl⟩ (hlt) (by decide) ((hM.2.2.1 m (hlt)).1) ?_
      refine g_iload_n k3_28 rfl ?_
      refine g_puti k3_29 (by decide) ((hM.2.2.1 m (hlt)).2.1) (by decide) ?_
      refine g_aload_n k3_32 rfl ?_
      refine g_getr k3_33 (hM.1.1) (by decide) (hM.1.2.2.1) ?_
      refine g_aload_n k3_36 rfl ?_
      refine g_getv (v := nI m) k3_37 (hM.1.1) (by decide) (by rw [u2_ne (by omega)]; exact hm) ?_
      refine g_aalv (t := 1) k3_40 (hM.1.2.2.2.2.2.2.2.2.2.2.1) ⟨_, rfl⟩ (hlt) (by decide) ((hM.2.2.1 m (hlt)).1) ?_
      refine g_iload_n k3_41 rfl ?_
      refine g_puti k3_42 (by decide) ((hM.2.2.1 m (hlt)).2.1) (by decide) ?_
      refine g_aload_n k3_45 rfl ?_
      refine g_dup k3_46 rfl ?_
      refine g_getv (v := nI m) k3_47 (hM.1.1) (by decide) (by rw [u2_ne (by omega), u2_ne (by omega)]; exact hm) ?_
      refine g_iconst (v := 1) k3_50 ic_1 ?_
      refine g_iadd k3_51 ?_
      refine g_top (y := nI (m + 1)) (nI_1 m) ?_
      refine g_puti k3_52 (by decide) (hM.1.1) (by decide) ?_
      refine g_aload_n k3_55 rfl ?_
      refine g_getv (v := nI (m + 1)) k3_56 (hM.1.1) (by decide) (u2_eq) ?_
      refine g_iconst (v := 1) k3_59 ic_1 ?_
      refine g_isub k3_60 ?_
      refine g_top (y := nI m) (nI_pred m) ?_
      exact g_reti k3_61 rfl (h1 p hp rfl hlt)
    · refine g_iconst (v := -1) k3_17 ic_m1 ?_
      exact g_reti k3_18 rfl (h0 (fun p2 k2 => g (nI_lt (b := 60) k2.2.2 (by decide))))
  · refine g_if_eq k3_5 (fun _ => ?_) (fun h => absurd (by decide) h)
    refine g_iconst (v := -1) k3_17 ic_m1 ?_
    exact g_reti k3_18 rfl (h0 (fun p2 k2 => w_out (by decide) k2.1 h k2.2.1))

set_option maxRecDepth 20000 in
set_option maxHeartbeats 4000000 in
theorem x5 {LS : Nat} {rm : Nat → Nat → Option Nat} {im : Nat → Nat → Int32} {P : Option Value → (Nat → Nat → Int32) → Prop} {a1 : Int32} {m w : Nat} (hM : isLd LS rm) (hm : im 1 2 = nI m) (hm2 : m ≤ 60) (hw : im 1 4 = nI w) (hw2 : w ≤ 20) (h1 : ∀ t, t < m → a1 = nI t → im (3 * t + 30) 2 ≠ 0 → w < 20 → P (some (.int 1)) (en_u2 (en_u2 (en_u2 im 4 w a1) 1 4 (nI (w + 1))) (3 * t + 30) 3 1)) (h0 : (∀ t, ¬ (t < m ∧ a1 = nI t ∧ im (3 * t + 30) 2 ≠ 0 ∧ w < 20)) → P (some (.int 0)) im) : Gm LS rm 5 0 (en_in 5 [.ref 1, .int a1]) [] im P := by
  show Gm LS rm 5 0 [.ref (1), .int (a1)] [] im P
  refine g_iload_n k5_0 rfl ?_
  refine g_aload_n k5_1 rfl ?_
  refine g_getv (v := nI m) k5_2 (hM.1.1) (by decide) (hm) ?_
  refine g_invS2 k5_5 rfl rfl (by decide) (Nat.le_of_ble_eq_true rfl) (c19n m (by omega) (fun t ht e => ?_) (fun h => ?_))
  · subst e
    refine g_if_eq k5_8 (fun h => absurd h (by decide)) (fun _ => ?_)
    refine g_aload_n k5_11 rfl ?_
    refine g_getr k5_12 (hM.1.1) (by decide) (hM.1.2.2.1) ?_
    refine g_iload_n k5_15 rfl ?_
    refine g_aalv (t := 1) k5_16 (hM.1.2.2.2.2.2.2.2.2.2.2.1) ⟨_, rfl⟩ (by omega) (by decide) ((hM.2.2.1 t (by omega)).1) ?_
    by_cases he : im (3 * t + 30) 2 = 0
    · refine g_inv0 k5_17 ((hM.2.2.1 t (by omega)).2.1) (by decide) (Nat.le_of_ble_eq_true rfl) (c72 (hM.2.2.1 t (by omega)).2 ?_)
      rw [if_pos he]
      refine g_if_eq k5_20 (fun _ => ?_) (fun h => absurd (rfl) h)
      refine g_iconst (v := 0) k5_32 ic_0 ?_
      exact g_retz k5_33 rfl (by decide) (h0 (fun t2 k2 => by obtain ⟨q1, q2, q3, q4⟩ := k2; have := nI_inj q2 (by omega) (by omega); subst this; exact q3 he))
    · refine g_inv0 k5_17 ((hM.2.2.1 t (by omega)).2.1) (by decide) (Nat.le_of_ble_eq_true rfl) (c72 (hM.2.2.1 t (by omega)).2 ?_)
      rw [if_neg he]
      refine g_if_eq k5_20 (fun h => absurd h (by decide)) (fun _ => ?_)
      refine g_aload_n k5_23 rfl ?_
      refine g_getv (v := nI w) k5_24 (hM.1.1) (by decide) (hw) ?_
      refine g_bipush (v := 20) k5_27 bp_20 ?_
      refine g_icmp_lt k5_29 (fun g => ?_) (fun g => ?_)
      · have hlt : w < 20 := (nI_ltI (by omega) (by decide)).mp g
        refine g_aload_n k5_34 rfl ?_
        refine g_getr k5_35 (hM.1.1) (by decide) (hM.1.2.2.2.1) ?_
        refine g_aload_n k5_38 rfl ?_
        refine g_getv (v := nI w) k5_39 (hM.1.1) (by decide) (hw) ?_
        refine g_iload_n k5_42 rfl ?_
        refine g_iasv k5_43 (hM.1.2.2.2.2.2.2.2.2.2.2.2.1) (hlt) (by decide) ?_
        refine g_aload_n k5_44 rfl ?_
        refine g_dup k5_45 rfl ?_
        refine g_getv (v := nI w) k5_46 (hM.1.1) (by decide) (by rw [u2_ne (by omega)]; exact hw) ?_
        refine g_iconst (v := 1) k5_49 ic_1 ?_
        refine g_iadd k5_50 ?_
        refine g_top (y := nI (w + 1)) (nI_1 w) ?_
        refine g_puti k5_51 (by decide) (hM.1.1) (by decide) ?_
        refine g_aload_n k5_54 rfl ?_
        refine g_getr k5_55 (hM.1.1) (by decide) (hM.1.2.2.1) ?_
        refine g_iload_n k5_58 rfl ?_
        refine g_aalv (t := 1) k5_59 (hM.1.2.2.2.2.2.2.2.2.2.2.1) ⟨_, rfl⟩ (by omega) (by decide) ((hM.2.2.1 t (by omega)).1) ?_
        refine g_iconst (v := 1) k5_60 ic_1 ?_
        refine g_putz k5_61 (by decide) ((hM.2.2.1 t (by omega)).2.1) (by decide) (by decide) ?_
        refine g_iconst (v := 1) k5_64 ic_1 ?_
        exact g_retz k5_65 rfl (by decide) (h1 t ht rfl he hlt)
      · refine g_iconst (v := 0) k5_32 ic_0 ?_
        exact g_retz k5_33 rfl (by decide) (h0 (fun t2 k2 => g (nI_lt (b := 20) k2.2.2.2 (by decide))))
  · refine g_if_eq k5_8 (fun _ => ?_) (fun h => absurd (by decide) h)
    refine g_iconst (v := 0) k5_32 ic_0 ?_
    exact g_retz k5_33 rfl (by decide) (h0 (fun p2 k2 => w_out (by omega) k2.1 h k2.2.1))

