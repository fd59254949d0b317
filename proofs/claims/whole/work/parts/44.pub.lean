set_option maxRecDepth 20000 in
set_option maxHeartbeats 4000000 in
theorem x14 {LS : Nat} {rm : Nat → Nat → Option Nat} {im : Nat → Nat → Int32} {P : Option Value → (Nat → Nat → Int32) → Prop} {a1 a2 a3 : Int32} (hM : isLd LS rm) (h1 : ∀ p k, p < 4 → k < 16 → a1 = nI p → a2 = nI k → im (8 * p + 339) 0 ≠ 0 → a3 = 0 → P (some (.int (im (8 * p + 341) k))) im) (h2 : ∀ p k, p < 4 → k < 16 → a1 = nI p → a2 = nI k → im (8 * p + 339) 0 ≠ 0 → a3 = 1 → P (some (.int (im (8 * p + 342) k))) im) (h0 : (∀ p k, ¬ (p < 4 ∧ k < 16 ∧ a1 = nI p ∧ a2 = nI k ∧ im (8 * p + 339) 0 ≠ 0 ∧ (a3 = 0 ∨ a3 = 1))) → P (some (.int (-1))) im) : Gm LS rm 14 0 (en_in 14 [.ref 1, .int a1, .int a2, .int a3]) [] im P := by
  show Gm LS rm 14 0 [.ref (1), .int (a1), .int (a2), .int (a3)] [] im P
  refine g_aload_n k14_0 rfl ?_
  refine g_iload_n k14_1 rfl ?_
  refine g_inv1 k14_2 (hM.1.1) rfl (by decide) (Nat.le_of_ble_eq_true rfl) (c20 hM (fun p hp e hu => ?_) (fun h => ?_))
  · subst e
    refine g_if_eq k14_5 (fun h => absurd h (by decide)) (fun _ => ?_)
    refine g_iload_n k14_8 rfl ?_
    refine g_bipush (v := 16) k14_9 bp_16 ?_
    refine g_invS2 k14_11 rfl rfl (by decide) (Nat.le_of_ble_eq_true rfl) (c19n 16 (by decide) (fun k hk e2 => ?_) (fun h => ?_))
    · subst e2
      refine g_if_ne k14_14 (fun _ => ?_) (fun h => absurd h (by decide))
      refine g_iload_n k14_19 rfl ?_
      by_cases z0 : a3 = 0
      · subst z0
        refine g_look (tgt := 48) k14_20 (by decide) rfl (by decide) ?_
        refine g_aload_n k14_48 rfl ?_
        refine g_getr k14_49 (hM.1.1) (by decide) (hM.1.2.2.2.2.2.2.2.1) ?_
        refine g_iload_n k14_52 rfl ?_
        refine g_aalv (t := 4) k14_53 (hM.1.2.2.2.2.2.2.2.2.2.2.2.2.2.2.2.1) ⟨_, rfl⟩ (hp) (by decide) ((hM.2.2.2.2.2 p (hp)).1) ?_
        refine g_getr k14_54 ((hM.2.2.2.2.2 p (hp)).2.1) (by decide) ((hM.2.2.2.2.2 p (hp)).2.2.1) ?_
        refine g_getr k14_57 ((hM.2.2.2.2.2 p (hp)).2.2.2.2.2.1.1) (by decide) ((hM.2.2.2.2.2 p (hp)).2.2.2.2.2.1.2.1) ?_
        refine g_iload_n k14_60 rfl ?_
        refine g_ialv k14_61 ((hM.2.2.2.2.2 p (hp)).2.2.2.2.2.1.2.2.2.1) (hk) (by decide) (rfl) ?_
        exact g_reti k14_62 rfl (h1 p k hp hk rfl rfl hu rfl)
      · by_cases z1 : a3 = 1
        · subst z1
          refine g_look (tgt := 63) k14_20 (by decide) rfl (by decide) ?_
          refine g_aload_n k14_63 rfl ?_
          refine g_getr k14_64 (hM.1.1) (by decide) (hM.1.2.2.2.2.2.2.2.1) ?_
          refine g_iload_n k14_67 rfl ?_
          refine g_aalv (t := 4) k14_68 (hM.1.2.2.2.2.2.2.2.2.2.2.2.2.2.2.2.1) ⟨_, rfl⟩ (hp) (by decide) ((hM.2.2.2.2.2 p (hp)).1) ?_
          refine g_getr k14_69 ((hM.2.2.2.2.2 p (hp)).2.1) (by decide) ((hM.2.2.2.2.2 p (hp)).2.2.1) ?_
          refine g_getr k14_72 ((hM.2.2.2.2.2 p (hp)).2.2.2.2.2.1.1) (by decide) ((hM.2.2.2.2.2 p (hp)).2.2.2.2.2.1.2.2.1) ?_
          refine g_iload_n k14_75 rfl ?_
          refine g_ialv k14_76 ((hM.2.2.2.2.2 p (hp)).2.2.2.2.2.1.2.2.2.2) (hk) (by decide) (rfl) ?_
          exact g_reti k14_77 rfl (h2 p k hp hk rfl rfl hu rfl)
        · refine g_look (tgt := 78) (off := 58) k14_20 (by decide) ((lv_osw (k := 0) z0 (by decide)).trans ((lv_osw (k := 1) z1 (by decide)).trans rfl)) (by decide) ?_
          refine g_iconst (v := -1) k14_78 ic_m1 ?_
          exact g_reti k14_79 rfl (h0 (fun p2 k2 kk => kk.2.2.2.2.2.elim z0 z1))
    · refine g_if_ne k14_14 (fun h => absurd (by decide) h) (fun _ => ?_)
      refine g_iconst (v := -1) k14_17 ic_m1 ?_
      exact g_reti k14_18 rfl (h0 (fun p2 k2 kk => w_out (by decide) kk.2.1 h kk.2.2.2.1))
  · refine g_if_eq k14_5 (fun _ => ?_) (fun h => absurd (by decide) h)
    refine g_iconst (v := -1) k14_17 ic_m1 ?_
    exact g_reti k14_18 rfl (h0 (fun p2 k2 kk => kk.2.2.2.2.1 (h p2 kk.1 kk.2.2.1)))

set_option maxRecDepth 20000 in
set_option maxHeartbeats 4000000 in
theorem x15 {LS : Nat} {rm : Nat → Nat → Option Nat} {im : Nat → Nat → Int32} {P : Option Value → (Nat → Nat → Int32) → Prop} {a1 a2 a3 : Int32} {hg : Nat → Nat} (hM : isLd LS rm) (hh : ∀ p, p < 4 → im (8 * p + 340) 2 = nI (hg p) ∧ hg p ≤ 40) (hC : ∀ p, p < 4 → im (8 * p + 339) 0 ≠ 0 → okC im (hg p)) (h1 : ∀ p b j, p < 4 → b < hg p → j < szv im (chv im b) → a1 = nI p → a2 = nI b → a3 = nI j → im (8 * p + 339) 0 ≠ 0 → P (some (.int (im (8 * p + 346) (4 * b + j)))) im) (h0 : (∀ p b j, ¬ (p < 4 ∧ b < hg p ∧ j < szv im (chv im b) ∧ a1 = nI p ∧ a2 = nI b ∧ a3 = nI j ∧ im (8 * p + 339) 0 ≠ 0)) → P (some (.int (-1))) im) : Gm LS rm 15 0 (en_in 15 [.ref 1, .int a1, .int a2, .int a3]) [] im P := by
  show Gm LS rm 15 0 [.ref (1), .int (a1), .int (a2), .int (a3)] [] im P
  refine g_aload_n k15_0 rfl ?_
  refine g_iload_n k15_1 rfl ?_
  refine g_inv1 k15_2 (hM.1.1) rfl (by decide) (Nat.le_of_ble_eq_true rfl) (c20 hM (fun p hp e hu => ?_) (fun h => ?_))
  · subst e
    obtain ⟨y1, y2⟩ := hh p hp
    refine g_if_eq k15_5 (fun h => absurd h (by decide)) (fun _ => ?_)
    refine g_iload_n k15_8 rfl ?_
    refine g_aload_n k15_9 rfl ?_
    refine g_getr k15_10 (hM.1.1) (by decide) (hM.1.2.2.2.2.2.2.2.1) ?_
    refine g_iload_n k15_13 rfl ?_
    refine g_aalv (t := 4) k15_14 (hM.1.2.2.2.2.2.2.2.2.2.2.2.2.2.2.2.1) ⟨_, rfl⟩ (hp) (by decide) ((hM.2.2.2.2.2 p (hp)).1) ?_
    refine g_getr k15_15 ((hM.2.2.2.2.2 p (hp)).2.1) (by decide) ((hM.2.2.2.2.2 p (hp)).2.2.1) ?_
    refine g_getv (v := nI (hg p)) k15_18 ((hM.2.2.2.2.2 p (hp)).2.2.2.2.2.1.1) (by decide) (y1) ?_
    refine g_invS2 k15_21 rfl rfl (by decide) (Nat.le_of_ble_eq_true rfl) (c19n (hg p) (by omega) (fun b hb e2 => ?_) (fun h => ?_))
    · subst e2
      obtain ⟨⟨x1, x2⟩, ⟨x3, x4⟩, -⟩ := hC p hp hu b hb
      have hs4 : szv im (chv im b) ≤ 4 := by unfold szv; omega
      refine g_if_ne k15_24 (fun _ => ?_) (fun h => absurd h (by decide))
      refine g_iload_n k15_29 rfl ?_
      refine g_aload_n k15_30 rfl ?_
      refine g_iload_n k15_31 rfl ?_
      refine g_inv1 k15_32 (hM.1.1) rfl (by decide) (Nat.le_of_ble_eq_true rfl) (c35 (m := chv im b) hM (by omega) x1 x2 ?_)
      refine g_getv (v := nI (szv im (chv im b))) k15_35 ((hM.2.2.2.1 (chv im b) x2).2.1) (by decide) (x3) ?_
      refine g_invS2 k15_38 rfl rfl (by decide) (Nat.le_of_ble_eq_true rfl) (c19n (szv im (chv im b)) (by omega) (fun j hj e3 => ?_) (fun h => ?_))
      · subst e3
        refine g_if_ne k15_41 (fun _ => ?_) (fun h => absurd h (by decide))
        refine g_aload_n k15_46 rfl ?_
        refine g_getr k15_47 (hM.1.1) (by decide) (hM.1.2.2.2.2.2.2.2.1) ?_
        refine g_iload_n k15_50 rfl ?_
        refine g_aalv (t := 4) k15_51 (hM.1.2.2.2.2.2.2.2.2.2.2.2.2.2.2.2.1) ⟨_, rfl⟩ (hp) (by decide) ((hM.2.2.2.2.2 p (hp)).1) ?_
        refine g_getr k15_52 ((hM.2.2.2.2.2 p (hp)).2.1) (by decide) ((hM.2.2.2.2.2 p (hp)).2.2.2.2.1) ?_
        refine g_iload_n k15_55 rfl ?_
        refine g_iconst (v := 4) k15_56 ic_4 ?_
        refine g_imul k15_57 ?_
        refine g_iload_n k15_58 rfl ?_
        refine g_iadd k15_59 ?_
        refine g_top (y := nI (4 * b + j)) (by rw [show (4 : Int32) = nI 4 from rfl, pk_mul, nI_add, Nat.mul_comm]) ?_
        refine g_ialv k15_60 ((hM.2.2.2.2.2 p (hp)).2.2.2.2.2.2.2) (by omega) (by decide) (rfl) ?_
        exact g_reti k15_61 rfl (h1 p b j hp hb hj rfl rfl rfl hu)
      · refine g_if_ne k15_41 (fun h => absurd (by decide) h) (fun _ => ?_)
        refine g_iconst (v := -1) k15_44 ic_m1 ?_
        exact g_reti k15_45 rfl (h0 (fun p2 b2 j2 kk => by obtain ⟨q1, q2, q3, q4, q5, q6, q7⟩ := kk; have z1 := nI_inj q4 (by omega) (by omega); subst z1; have z2 := nI_inj q5 (by omega) (by omega); subst z2; exact w_out (by omega) q3 h q6))
    · refine g_if_ne k15_24 (fun h => absurd (by decide) h) (fun _ => ?_)
      refine g_iconst (v := -1) k15_27 ic_m1 ?_
      exact g_reti k15_28 rfl (h0 (fun p2 b2 j2 kk => by obtain ⟨q1, q2, q3, q4, q5, q6, q7⟩ := kk; have z1 := nI_inj q4 (by omega) (by omega); subst z1; exact w_out (by omega) q2 h q5))
  · refine g_if_eq k15_5 (fun _ => ?_) (fun h => absurd (by decide) h)
    refine g_iconst (v := -1) k15_27 ic_m1 ?_
    exact g_reti k15_28 rfl (h0 (fun p2 b2 j2 kk => kk.2.2.2.2.2.2 (h p2 kk.1 kk.2.2.2.1)))

/-- a block's member at x, its size or term where x is -1 *-/
def bkAt (im : Nat → Nat → Int32) (m : Nat) (w x : Int32) : Int32 := if x = -1 then w else if x < 0 ∨ nI (szv im m) ≤ x then -1 else im (2 * m + 211) (tn x)
theorem bkAt_in {im : Nat → Nat → Int32} {m q : Nat} {w : Int32} (hs : szv im m ≤ 4) (hq : q < szv im m) : bkAt im m w (nI q) = im (2 * m + 211) q := by
  unfold bkAt
  rw [if_neg (fun e => by have h := nI_pos (n := q) (by omega); rw [e] at h; exact h (by decide)), if_neg (fun z => w_out (by omega) hq z rfl), tn_nI (by omega)]
theorem bkAt_out {im : Nat → Nat → Int32} {m : Nat} {w x : Int32} (hx : ¬ x = -1) (h : x < 0 ∨ nI (szv im m) ≤ x) : bkAt im m w x = -1 := by
  unfold bkAt
  rw [if_neg hx, if_pos h]
set_option maxRecDepth 20000 in
set_option maxHeartbeats 4000000 in
theorem x16 {LS : Nat} {rm : Nat → Nat → Option Nat} {im : Nat → Nat → Int32} {P : Option Value → (Nat → Nat → Int32) → Prop} {a1 a2 : Int32} {c : Nat} (hM : isLd LS rm) (hc : im 7 1 = nI c) (hc2 : c ≤ 40) (hC : okC im c) (h1 : ∀ b, b < c → a1 = nI b → P (some (.int (bkAt im (chv im b) (im (2 * chv im b + 210) 1) a2))) im) (h0 : (∀ b, ¬ (b < c ∧ a1 = nI b)) → P (some (.int (-1))) im) : Gm LS rm 16 0 (en_in 16 [.ref 1, .int a1, .int a2]) [] im P := by
  show Gm LS rm 16 0 [.ref (1), .int (a1), .int (a2), .long 0] [] im P
  refine g_iload_n k16_0 rfl ?_
  refine g_aload_n k16_1 rfl ?_
  refine g_getr k16_2 (hM.1.1) (by decide) (hM.1.2.2.2.2.2.2.1) ?_
  refine g_getv (v := nI c) k16_5 (hM.1.2.2.2.2.2.2.2.2.2.2.2.2.2.2.1.1) (by decide) (hc) ?_
  refine g_invS2 k16_8 rfl rfl (by decide) (Nat.le_of_ble_eq_true rfl) (c19n c (by omega) (fun b hb e => ?_) (fun h => ?_))
  · subst e
    obtain ⟨⟨x1, x2⟩, ⟨x3, x4⟩, -⟩ := hC b hb
    have hs4 : szv im (chv im b) ≤ 4 := by unfold szv; omega
    have h1 := h1 b hb rfl
    refine g_if_ne k16_11 (fun _ => ?_) (fun h => absurd h (by decide))
    refine g_aload_n k16_16 rfl ?_
    refine g_iload_n k16_17 rfl ?_
    refine g_inv1 k16_18 (hM.1.1) rfl (by decide) (Nat.le_of_ble_eq_true rfl) (c35 (m := chv im b) hM (by omega) x1 x2 ?_)
    refine g_astore_n k16_21 (by decide) rfl ?_
    refine g_iload_n k16_22 rfl ?_
    refine g_iconst (v := -1) k16_23 ic_m1 ?_
    refine g_icmp_ne k16_24 (fun g => ?_) (fun g => ?_)
    · refine g_aload_n k16_34 rfl ?_
      refine g_iload_n k16_35 rfl ?_
      refine g_inv1 k16_36 ((hM.2.2.2.1 (chv im b) x2).2.1) rfl (by decide) (Nat.le_of_ble_eq_true rfl) (c75 (n := szv im (chv im b)) (hM.2.2.2.1 (chv im b) x2).2 x3 hs4 (fun q hq e2 => ?_) (fun h => ?_))
      · subst e2
        rw [bkAt_in hs4 hq] at h1
        exact g_reti k16_39 rfl (h1)
      · rw [bkAt_out g h] at h1
        exact g_reti k16_39 rfl (h1)
    · have e9 : bkAt im (chv im b) (im (2 * chv im b + 210) 1) a2 = im (2 * chv im b + 210) 1 := if_pos g
      rw [e9] at h1
      refine g_aload_n k16_27 rfl ?_
      refine g_geti k16_28 ((hM.2.2.2.1 (chv im b) x2).2.1) (by decide) ?_
      refine g_goto k16_31 ?_
      exact g_reti k16_39 rfl (h1)
  · refine g_if_ne k16_11 (fun h => absurd (by decide) h) (fun _ => ?_)
    refine g_iconst (v := -1) k16_14 ic_m1 ?_
    exact g_reti k16_15 rfl (h0 (fun b2 k2 => w_out (by omega) k2.1 h k2.2))

def lgv (im : Nat → Nat → Int32) (o i : Nat) : Nat := tn (im (3 * o + 332) i)
set_option maxRecDepth 20000 in
set_option maxHeartbeats 4000000 in
theorem x17 {LS : Nat} {rm : Nat → Nat → Option Nat} {im : Nat → Nat → Int32} {P : Option Value → (Nat → Nat → Int32) → Prop} {a1 a2 a3 : Int32} {n : Nat → Nat} (hM : isLd LS rm) (hn : ∀ o, o < 3 → im (3 * o + 331) 1 = nI (n o) ∧ n o ≤ 40) (hg : ∀ o, o < 3 → ∀ i, i < n o → isN (im (3 * o + 332) i) 60 ∧ isN (im (2 * lgv im o i + 210) 1) 5) (h1 : ∀ o b, o < 3 → b < n o → a1 = nI o → a2 = nI b → P (some (.int (bkAt im (lgv im o b) (im (2 * lgv im o b + 210) 2) a3))) im) (h0 : (∀ o b, ¬ (o < 3 ∧ b < n o ∧ a1 = nI o ∧ a2 = nI b)) → P (some (.int (-1))) im) : Gm LS rm 17 0 (en_in 17 [.ref 1, .int a1, .int a2, .int a3]) [] im P := by
  show Gm LS rm 17 0 [.ref (1), .int (a1), .int (a2), .int (a3), .long 0] [] im P
  refine g_iload_n k17_0 rfl ?_
  refine g_iconst (v := 3) k17_1 ic_3 ?_
  refine g_invS2 k17_2 rfl rfl (by decide) (Nat.le_of_ble_eq_true rfl) (c19n 3 (by decide) (fun o ho e => ?_) (fun h => ?_))
  · subst e
    obtain ⟨y1, y2⟩ := hn o ho
    refine g_if_eq k17_5 (fun h => absurd h (by decide)) (fun _ => ?_)
    refine g_iload_n k17_8 rfl ?_
    refine g_aload_n k17_9 rfl ?_
    refine g_getr k17_10 (hM.1.1) (by decide) (hM.1.2.2.2.2.2.1) ?_
    refine g_iload_n k17_13 rfl ?_
    refine g_aalv (t := 3) k17_14 (hM.1.2.2.2.2.2.2.2.2.2.2.2.2.2.1) ⟨_, rfl⟩ (ho) (by decide) ((hM.2.2.2.2.1 o (ho)).1) ?_
    refine g_getr k17_15 ((hM.2.2.2.2.1 o (ho)).2.1) (by decide) ((hM.2.2.2.2.1 o (ho)).2.2.1) ?_
    refine g_getv (v := nI (n o)) k17_18 ((hM.2.2.2.2.1 o (ho)).2.2.2.1) (by decide) (y1) ?_
    refine g_invS2 k17_21 rfl rfl (by decide) (Nat.le_of_ble_eq_true rfl) (c19n (n o) (by omega) (fun b hb e2 => ?_) (fun h => ?_))
    · subst e2
      obtain ⟨⟨x1, x2⟩, ⟨x3, x4⟩⟩ := hg o ho b hb
      have hs4 : szv im (lgv im o b) ≤ 4 := by unfold szv; omega
      have h1 := h1 o b ho hb rfl rfl
      refine g_if_ne k17_24 (fun _ => ?_) (fun h => absurd h (by decide))
      refine g_aload_n k17_29 rfl ?_
      refine g_getr k17_30 (hM.1.1) (by decide) (hM.1.2.2.2.2.1) ?_
      refine g_aload_n k17_33 rfl ?_
      refine g_getr k17_34 (hM.1.1) (by decide) (hM.1.2.2.2.2.2.1) ?_
      refine g_iload_n k17_37 rfl ?_
      refine g_aalv (t := 3) k17_38 (hM.1.2.2.2.2.2.2.2.2.2.2.2.2.2.1) ⟨_, rfl⟩ (ho) (by decide) ((hM.2.2.2.2.1 o (ho)).1) ?_
      refine g_getr k17_39 ((hM.2.2.2.2.1 o (ho)).2.1) (by decide) ((hM.2.2.2.2.1 o (ho)).2.2.1) ?_
      refine g_getr k17_42 ((hM.2.2.2.2.1 o (ho)).2.2.2.1) (by decide) ((hM.2.2.2.2.1 o (ho)).2.2.2.2.1) ?_
      refine g_iload_n k17_45 rfl ?_
      refine g_ialv (v := nI (lgv im o b)) k17_46 ((hM.2.2.2.2.1 o (ho)).2.2.2.2.2) (by omega) (by decide) (x1) ?_
      refine g_aalv (t := 2) k17_47 (hM.1.2.2.2.2.2.2.2.2.2.2.2.2.1) ⟨_, rfl⟩ (x2) (by decide) ((hM.2.2.2.1 (lgv im o b) (x2)).1) ?_
      refine g_astore k17_48 (by decide) rfl ?_
      refine g_iload_n k17_50 rfl ?_
      refine g_iconst (v := -1) k17_51 ic_m1 ?_
      refine g_icmp_ne k17_52 (fun g => ?_) (fun g => ?_)
      · refine g_aload k17_63 rfl ?_
        refine g_iload_n k17_65 rfl ?_
        refine g_inv1 k17_66 ((hM.2.2.2.1 (lgv im o b) x2).2.1) rfl (by decide) (Nat.le_of_ble_eq_true rfl) (c75 (n := szv im (lgv im o b)) (hM.2.2.2.1 (lgv im o b) x2).2 x3 hs4 (fun q hq e2 => ?_) (fun h => ?_))
        · subst e2
          rw [bkAt_in hs4 hq] at h1
          exact g_reti k17_69 rfl (h1)
        · rw [bkAt_out g h] at h1
          exact g_reti k17_69 rfl (h1)
      · have e9 : bkAt im (lgv im o b) (im (2 * lgv im o b + 210) 2) a3 = im (2 * lgv im o b + 210) 2 := if_pos g
        rw [e9] at h1
        refine g_aload k17_55 rfl ?_
        refine g_geti k17_57 ((hM.2.2.2.1 (lgv im o b) x2).2.1) (by decide) ?_
        refine g_goto k17_60 ?_
        exact g_reti k17_69 rfl (h1)
    · refine g_if_ne k17_24 (fun h => absurd (by decide) h) (fun _ => ?_)
      refine g_iconst (v := -1) k17_27 ic_m1 ?_
      exact g_reti k17_28 rfl (h0 (fun o2 b2 k2 => by obtain ⟨q1, q2, q3, q4⟩ := k2; have z1 := nI_inj q3 (by omega) (by omega); subst z1; exact w_out (by omega) q2 h q4))
  · refine g_if_eq k17_5 (fun _ => ?_) (fun h => absurd (by decide) h)
    refine g_iconst (v := -1) k17_27 ic_m1 ?_
    exact g_reti k17_28 rfl (h0 (fun o2 b2 k2 => w_out (by decide) k2.1 h k2.2.2.1))

def nuO (im : Nat → Nat → Int32) : Nat → Int32
  | 0 => 0
  | i + 1 => nuO im i + (if im (3 * i + 330) 0 = 0 then (0 : Int32) else (1 : Int32) <<< (nI i &&& 31))
def nuP (im : Nat → Nat → Int32) : Nat → Int32
  | 0 => nuO im 3
  | i + 1 => nuP im i + (if im (8 * i + 339) 0 = 0 then (0 : Int32) else (1 : Int32) <<< ((3 + nI i) &&& 31))
set_option maxRecDepth 20000 in
set_option maxHeartbeats 4000000 in
theorem l22b {LS : Nat} {rm : Nat → Nat → Option Nat} {im : Nat → Nat → Int32} {P : Option Value → (Nat → Nat → Int32) → Prop} (hM : isLd LS rm) (h1 : P (some (.int (nuP im 4))) im) : ∀ (n i : Nat), i + n = 4 → Gm LS rm 22 39 [.ref (1), .int (nuP im i), .int (nI i)] [] (im) P := by
  intro n
  induction n with
  | zero =>
    intro i hi
    have hie : i = 4 := by omega
    subst hie
    refine g_iload_n k22_39 rfl ?_
    refine g_iconst (v := 4) k22_40 ic_4 ?_
    refine g_icmp_ge k22_41 (fun _ => ?_) (fun h => absurd (nI_le (Nat.le_refl _) (by decide)) h)
    refine g_iload_n k22_74 rfl ?_
    exact g_reti k22_75 rfl (h1)
  | succ n ih =>
    intro i hi
    have hlt : i < 4 := by omega
    refine g_iload_n k22_39 rfl ?_
    refine g_iconst (v := 4) k22_40 ic_4 ?_
    refine g_icmp_ge k22_41 (fun h => absurd h (nI_ge hlt (by decide))) (fun _ => ?_)
    refine g_iload_n k22_44 rfl ?_
    refine g_aload_n k22_45 rfl ?_
    refine g_getr k22_46 (hM.1.1) (by decide) (hM.1.2.2.2.2.2.2.2.1) ?_
    refine g_iload_n k22_49 rfl ?_
    refine g_aalv (t := 4) k22_50 (hM.1.2.2.2.2.2.2.2.2.2.2.2.2.2.2.2.1) ⟨_, rfl⟩ (hlt) (by decide) ((hM.2.2.2.2.2 i (hlt)).1) ?_
    refine g_geti k22_51 ((hM.2.2.2.2.2 i (hlt)).2.1) (by decide) ?_
    refine g_if_eq k22_54 (fun h => ?_) (fun h => ?_)
    · refine g_iconst (v := 0) k22_65 ic_0 ?_
      refine g_iadd k22_66 ?_
      refine g_istore_n k22_67 (by decide) rfl ?_
      refine g_iincv (y := nI (i + 1)) k22_68 rfl (by decide) (inc_1 i) rfl ?_
      refine g_goto k22_71 ?_
      have e1 : nuP im (i + 1) = nuP im i + 0 := congrArg (fun z => nuP im i + z) (if_pos h)
      have := ih (i + 1) (by omega)
      rw [e1] at this
      exact this
    · refine g_iconst (v := 1) k22_57 ic_1 ?_
      refine g_iconst (v := 3) k22_58 ic_3 ?_
      refine g_iload_n k22_59 rfl ?_
      refine g_iadd k22_60 ?_
      refine g_ishl k22_61 ?_
      refine g_goto k22_62 ?_
      refine g_iadd k22_66 ?_
      refine g_istore_n k22_67 (by decide) rfl ?_
      refine g_iincv (y := nI (i + 1)) k22_68 rfl (by decide) (inc_1 i) rfl ?_
      refine g_goto k22_71 ?_
      have e1 : nuP im (i + 1) = nuP im i + ((1 : Int32) <<< ((3 + nI i) &&& 31)) := congrArg (fun z => nuP im i + z) (if_neg h)
      have := ih (i + 1) (by omega)
      rw [e1] at this
      exact this

set_option maxRecDepth 20000 in
set_option maxHeartbeats 4000000 in
theorem l22a {LS : Nat} {rm : Nat → Nat → Option Nat} {im : Nat → Nat → Int32} {P : Option Value → (Nat → Nat → Int32) → Prop} (hM : isLd LS rm) (h1 : P (some (.int (nuP im 4))) im) : ∀ (n i : Nat), i + n = 3 → Gm LS rm 22 4 [.ref (1), .int (nuO im i), .int (nI i)] [] (im) P := by
  intro n
  induction n with
  | zero =>
    intro i hi
    have hie : i = 3 := by omega
    subst hie
    refine g_iload_n k22_4 rfl ?_
    refine g_iconst (v := 3) k22_5 ic_3 ?_
    refine g_icmp_ge k22_6 (fun _ => ?_) (fun h => absurd (nI_le (Nat.le_refl _) (by decide)) h)
    refine g_iconst (v := 0) k22_37 ic_0 ?_
    refine g_istore_n k22_38 (by decide) rfl ?_
    exact l22b hM h1 4 0 (by omega)
  | succ n ih =>
    intro i hi
    have hlt : i < 3 := by omega
    refine g_iload_n k22_4 rfl ?_
    refine g_iconst (v := 3) k22_5 ic_3 ?_
    refine g_icmp_ge k22_6 (fun h => absurd h (nI_ge hlt (by decide))) (fun _ => ?_)
    refine g_iload_n k22_9 rfl ?_
    refine g_aload_n k22_10 rfl ?_
    refine g_getr k22_11 (hM.1.1) (by decide) (hM.1.2.2.2.2.2.1) ?_
    refine g_iload_n k22_14 rfl ?_
    refine g_aalv (t := 3) k22_15 (hM.1.2.2.2.2.2.2.2.2.2.2.2.2.2.1) ⟨_, rfl⟩ (hlt) (by decide) ((hM.2.2.2.2.1 i (hlt)).1) ?_
    refine g_geti k22_16 ((hM.2.2.2.2.1 i (hlt)).2.1) (by decide) ?_
    refine g_if_eq k22_19 (fun h => ?_) (fun h => ?_)
    · refine g_iconst (v := 0) k22_28 ic_0 ?_
      refine g_iadd k22_29 ?_
      refine g_istore_n k22_30 (by decide) rfl ?_
      refine g_iincv (y := nI (i + 1)) k22_31 rfl (by decide) (inc_1 i) rfl ?_
      refine g_goto k22_34 ?_
      have e1 : nuO im (i + 1) = nuO im i + 0 := congrArg (fun z => nuO im i + z) (if_pos h)
      have := ih (i + 1) (by omega)
      rw [e1] at this
      exact this
    · refine g_iconst (v := 1) k22_22 ic_1 ?_
      refine g_iload_n k22_23 rfl ?_
      refine g_ishl k22_24 ?_
      refine g_goto k22_25 ?_
      refine g_iadd k22_29 ?_
      refine g_istore_n k22_30 (by decide) rfl ?_
      refine g_iincv (y := nI (i + 1)) k22_31 rfl (by decide) (inc_1 i) rfl ?_
      refine g_goto k22_34 ?_
      have e1 : nuO im (i + 1) = nuO im i + ((1 : Int32) <<< (nI i &&& 31)) := congrArg (fun z => nuO im i + z) (if_neg h)
      have := ih (i + 1) (by omega)
      rw [e1] at this
      exact this

set_option maxRecDepth 20000 in
set_option maxHeartbeats 4000000 in
theorem c22 {LS : Nat} {rm : Nat → Nat → Option Nat} {im : Nat → Nat → Int32} {P : Option Value → (Nat → Nat → Int32) → Prop} (hM : isLd LS rm) (h1 : P (some (.int (nuP im 4))) im) : Gm LS rm 22 0 (en_in 22 [.ref 1]) [] im P := by
  show Gm LS rm 22 0 [.ref (1), .long 0, .long 0] [] im P
  refine g_iconst (v := 0) k22_0 ic_0 ?_
  refine g_istore_n k22_1 (by decide) rfl ?_
  refine g_iconst (v := 0) k22_2 ic_0 ?_
  refine g_istore_n k22_3 (by decide) rfl ?_
  exact l22a hM h1 3 0 (by omega)

def abF (im : Nat → Nat → Int32) (q : Nat) : Int32 :=
  if q < 3 then im (3 * q + 330) 1 else if q < 6 then im (3 * (q - 3) + 331) 1 else if q = 6 then im 1 8 else if q = 7 then im 7 1 else if q = 8 then im 1 4 else if q = 9 then im 1 2 else if q < 14 then im (8 * (q - 10) + 339) 1 else if q < 18 then im (8 * (q - 14) + 343) 2 else nuP im 4
set_option maxRecDepth 20000 in
set_option maxHeartbeats 4000000 in
theorem x18 {LS : Nat} {rm : Nat → Nat → Option Nat} {im : Nat → Nat → Int32} {P : Option Value → (Nat → Nat → Int32) → Prop} {a1 : Int32} (hM : isLd LS rm) (h1 : ∀ q, q < 19 → a1 = nI q → P (some (.int (abF im q))) im) (h0 : (∀ q, ¬ (q < 19 ∧ a1 = nI q)) → P (some (.int (-1))) im) : Gm LS rm 18 0 (en_in 18 [.ref 1, .int a1]) [] im P := by
  show Gm LS rm 18 0 [.ref (1), .int (a1)] [] im P
  refine g_iload_n k18_0 rfl ?_
  refine g_iconst (v := 3) k18_1 ic_3 ?_
  refine g_invS2 k18_2 rfl rfl (by decide) (Nat.le_of_ble_eq_true rfl) (c19n 3 (by decide) (fun q hq e => ?_) (fun hh1 => ?_))
  · subst e
    have h1 := h1 q (by omega) rfl
    have e9 : abF im q = im (3 * q + 330) 1 := by unfold abF; rw [if_pos hq]
    rw [e9] at h1
    refine g_if_eq k18_5 (fun h => absurd h (by decide)) (fun _ => ?_)
    refine g_aload_n k18_8 rfl ?_
    refine g_getr k18_9 (hM.1.1) (by decide) (hM.1.2.2.2.2.2.1) ?_
    refine g_iload_n k18_12 rfl ?_
    refine g_aalv (t := 3) k18_13 (hM.1.2.2.2.2.2.2.2.2.2.2.2.2.2.1) ⟨_, rfl⟩ (hq) (by decide) ((hM.2.2.2.2.1 q (hq)).1) ?_
    refine g_geti k18_14 ((hM.2.2.2.2.1 q (hq)).2.1) (by decide) ?_
    exact g_reti k18_17 rfl (h1)
  · refine g_if_eq k18_5 (fun _ => ?_) (fun h => absurd (by decide) h)
    refine g_iload_n k18_18 rfl ?_
    refine g_iconst (v := 3) k18_19 ic_3 ?_
    refine g_isub k18_20 ?_
    refine g_iconst (v := 3) k18_21 ic_3 ?_
    refine g_invS2 k18_22 rfl rfl (by decide) (Nat.le_of_ble_eq_true rfl) (c19n 3 (by decide) (fun q hq e => ?_) (fun hh2 => ?_))
    · have e3 := sub_nI (c := 3) e
      subst e3
      have h1 := h1 (q + 3) (by omega) rfl
      have e9 : abF im (q + 3) = im (3 * q + 331) 1 := by unfold abF; rw [if_neg (by omega), if_pos (by omega), Nat.add_sub_cancel]
      rw [e9] at h1
      refine g_if_eq k18_25 (fun h => absurd h (by decide)) (fun _ => ?_)
      refine g_aload_n k18_28 rfl ?_
      refine g_getr k18_29 (hM.1.1) (by decide) (hM.1.2.2.2.2.2.1) ?_
      refine g_iload_n k18_32 rfl ?_
      refine g_iconst (v := 3) k18_33 ic_3 ?_
      refine g_isub k18_34 ?_
      refine g_top (y := nI q) (by rw [show (3 : Int32) = nI 3 from rfl, pk_sub (Nat.le_add_left 3 q), Nat.add_sub_cancel]) ?_
      refine g_aalv (t := 3) k18_35 (hM.1.2.2.2.2.2.2.2.2.2.2.2.2.2.1) ⟨_, rfl⟩ (hq) (by decide) ((hM.2.2.2.2.1 q (hq)).1) ?_
      refine g_getr k18_36 ((hM.2.2.2.2.1 q (hq)).2.1) (by decide) ((hM.2.2.2.2.1 q (hq)).2.2.1) ?_
      refine g_geti k18_39 ((hM.2.2.2.2.1 q (hq)).2.2.2.1) (by decide) ?_
      exact g_reti k18_42 rfl (h1)
    · refine g_if_eq k18_25 (fun _ => ?_) (fun h => absurd (by decide) h)
      refine g_iload_n k18_43 rfl ?_
      refine g_bipush (v := 10) k18_44 bp_10 ?_
      refine g_isub k18_46 ?_
      refine g_iconst (v := 4) k18_47 ic_4 ?_
      refine g_invS2 k18_48 rfl rfl (by decide) (Nat.le_of_ble_eq_true rfl) (c19n 4 (by decide) (fun q hq e => ?_) (fun hh3 => ?_))
      · have e3 := sub_nI (c := 10) e
        subst e3
        have h1 := h1 (q + 10) (by omega) rfl
        have e9 : abF im (q + 10) = im (8 * q + 339) 1 := by unfold abF; rw [if_neg (by omega), if_neg (by omega), if_neg (by omega), if_neg (by omega), if_neg (by omega), if_neg (by omega), if_pos (by omega), Nat.add_sub_cancel]
        rw [e9] at h1
        refine g_if_eq k18_51 (fun h => absurd h (by decide)) (fun _ => ?_)
        refine g_aload_n k18_54 rfl ?_
        refine g_getr k18_55 (hM.1.1) (by decide) (hM.1.2.2.2.2.2.2.2.1) ?_
        refine g_iload_n k18_58 rfl ?_
        refine g_bipush (v := 10) k18_59 bp_10 ?_
        refine g_isub k18_61 ?_
        refine g_top (y := nI q) (by rw [show (10 : Int32) = nI 10 from rfl, pk_sub (Nat.le_add_left 10 q), Nat.add_sub_cancel]) ?_
        refine g_aalv (t := 4) k18_62 (hM.1.2.2.2.2.2.2.2.2.2.2.2.2.2.2.2.1) ⟨_, rfl⟩ (hq) (by decide) ((hM.2.2.2.2.2 q (hq)).1) ?_
        refine g_geti k18_63 ((hM.2.2.2.2.2 q (hq)).2.1) (by decide) ?_
        exact g_reti k18_66 rfl (h1)
      · refine g_if_eq k18_51 (fun _ => ?_) (fun h => absurd (by decide) h)
        refine g_iload_n k18_67 rfl ?_
        refine g_bipush (v := 14) k18_68 bp_14 ?_
        refine g_isub k18_70 ?_
        refine g_iconst (v := 4) k18_71 ic_4 ?_
        refine g_invS2 k18_72 rfl rfl (by decide) (Nat.le_of_ble_eq_true rfl) (c19n 4 (by decide) (fun q hq e => ?_) (fun hh4 => ?_))
        · have e3 := sub_nI (c := 14) e
          subst e3
          have h1 := h1 (q + 14) (by omega) rfl
          have e9 : abF im (q + 14) = im (8 * q + 343) 2 := by unfold abF; rw [if_neg (by omega), if_neg (by omega), if_neg (by omega), if_neg (by omega), if_neg (by omega), if_neg (by omega), if_neg (by omega), if_pos (by omega), Nat.add_sub_cancel]
          rw [e9] at h1
          refine g_if_eq k18_75 (fun h => absurd h (by decide)) (fun _ => ?_)
          refine g_aload_n k18_78 rfl ?_
          refine g_getr k18_79 (hM.1.1) (by decide) (hM.1.2.2.2.2.2.2.2.1) ?_
          refine g_iload_n k18_82 rfl ?_
          refine g_bipush (v := 14) k18_83 bp_14 ?_
          refine g_isub k18_85 ?_
          refine g_top (y := nI q) (by rw [show (14 : Int32) = nI 14 from rfl, pk_sub (Nat.le_add_left 14 q), Nat.add_sub_cancel]) ?_
          refine g_aalv (t := 4) k18_86 (hM.1.2.2.2.2.2.2.2.2.2.2.2.2.2.2.2.1) ⟨_, rfl⟩ (hq) (by decide) ((hM.2.2.2.2.2 q (hq)).1) ?_
          refine g_getr k18_87 ((hM.2.2.2.2.2 q (hq)).2.1) (by decide) ((hM.2.2.2.2.2 q (hq)).2.2.2.1) ?_
          refine g_geti k18_90 ((hM.2.2.2.2.2 q (hq)).2.2.2.2.2.2.1.1) (by decide) ?_
          exact g_reti k18_93 rfl (h1)
        · refine g_if_eq k18_75 (fun _ => ?_) (fun h => absurd (by decide) h)
          refine g_iload_n k18_94 rfl ?_
          have nq : ∀ q, a1 = nI q → q < 19 → q = 6 ∨ q = 7 ∨ q = 8 ∨ q = 9 ∨ q = 18 := by
            intro q eq hq
            subst eq
            have g0 : ¬ q < 3 := fun z => w_out (by decide) z hh1 rfl
            have g1 : ∀ p, p < 3 → q ≠ p + 3 := fun p hp z => nI_sub_out (c := 3) (n := 3) hp (by decide) hh2 (by rw [z])
            have g2 : ∀ p, p < 4 → q ≠ p + 10 := fun p hp z => nI_sub_out (c := 10) (n := 4) hp (by decide) hh3 (by rw [z])
            have g3 : ∀ p, p < 4 → q ≠ p + 14 := fun p hp z => nI_sub_out (c := 14) (n := 4) hp (by decide) hh4 (by rw [z])
            have k0 := g1 0 (by decide)
            have k1 := g1 1 (by decide)
            have k2 := g1 2 (by decide)
            have k3 := g2 0 (by decide)
            have k4 := g2 1 (by decide)
            have k5 := g2 2 (by decide)
            have k6 := g2 3 (by decide)
            have k7 := g3 0 (by decide)
            have k8 := g3 1 (by decide)
            have k9 := g3 2 (by decide)
            have k10 := g3 3 (by decide)
            omega
          have ho : (a1 < 0 ∨ nI 19 ≤ a1) ∨ ∃ q, q < 19 ∧ a1 = nI q := by
            rcases pk_ix a1 (n := 19) (by decide) with h | h | h
            · exact Or.inl (Or.inl h)
            · exact Or.inl (Or.inr h)
            · exact Or.inr h
          rcases ho with h | ⟨q, hq, rfl⟩
          · refine g_tabO (tgt := 188) k18_95 (by rcases tab_out (n := 19) (by decide) h with z | z; exact Or.inl (by omega); exact Or.inr (by omega)) (by decide) ?_
            refine g_iconst (v := -1) k18_188 ic_m1 ?_
            exact g_reti k18_189 rfl (h0 (fun q2 k2 => w_out (by decide) k2.1 h k2.2))
          · have h1 := h1 q hq rfl
            rcases nq q rfl hq with rfl | rfl | rfl | rfl | rfl
            · refine g_tabI (tgt := 160) k18_95 (by decide) (by decide) rfl (by decide) ?_
              refine g_aload_n k18_160 rfl ?_
              refine g_geti k18_161 (hM.1.1) (by decide) ?_
              exact g_reti k18_164 rfl (h1)
            · refine g_tabI (tgt := 165) k18_95 (by decide) (by decide) rfl (by decide) ?_
              refine g_aload_n k18_165 rfl ?_
              refine g_getr k18_166 (hM.1.1) (by decide) (hM.1.2.2.2.2.2.2.1) ?_
              refine g_geti k18_169 (hM.1.2.2.2.2.2.2.2.2.2.2.2.2.2.2.1.1) (by decide) ?_
              exact g_reti k18_172 rfl (h1)
            · refine g_tabI (tgt := 173) k18_95 (by decide) (by decide) rfl (by decide) ?_
              refine g_aload_n k18_173 rfl ?_
              refine g_geti k18_174 (hM.1.1) (by decide) ?_
              exact g_reti k18_177 rfl (h1)
            · refine g_tabI (tgt := 178) k18_95 (by decide) (by decide) rfl (by decide) ?_
              refine g_aload_n k18_178 rfl ?_
              refine g_geti k18_179 (hM.1.1) (by decide) ?_
              exact g_reti k18_182 rfl (h1)
            · refine g_tabI (tgt := 183) k18_95 (by decide) (by decide) rfl (by decide) ?_
              refine g_aload_n k18_183 rfl ?_
              refine g_inv0 k18_184 (hM.1.1) (by decide) (Nat.le_of_ble_eq_true rfl) (c22 hM ?_)
              exact g_reti k18_187 rfl (h1)

set_option maxRecDepth 20000 in
set_option maxHeartbeats 4000000 in
theorem x4 {LS : Nat} {rm : Nat → Nat → Option Nat} {im : Nat → Nat → Int32} {P : Option Value → (Nat → Nat → Int32) → Prop} {a1 a2 : Int32} {m : Nat} {pr len : Nat → Nat} {op : Nat → Nat → Nat} {opd : Nat → Nat → Int32} (hM : isLd LS rm) (hm : im 1 2 = nI m) (hm2 : m ≤ 60) (hpr : ∀ t, t < m → im (3 * t + 30) 0 = nI (pr t) ∧ pr t < 4) (hl : ∀ p, p < 4 → im (4 * p + 14) 2 = nI (len p) ∧ len p ≤ 12) (hop : ∀ p, p < 4 → ∀ i, i < len p → im (4 * p + 15) i = nI (op p i) ∧ op p i ≤ 10) (hod : ∀ p, p < 4 → ∀ i, i < len p → im (4 * p + 16) i = opd p i ∧ (op p i = 6 → opd p i = nI (tn (opd p i)) ∧ tn (opd p i) ≤ 12)) (h0 : (∀ t p, ¬ (t < m ∧ p < 4 ∧ a1 = nI t ∧ a2 = nI p ∧ im (8 * p + 339) 0 ≠ 0 ∧ im (3 * t + 30) 3 = 0 ∧ ¬ (im (3 * t + 30) 2 >>> (nI p &&& 31)) &&& 1 = 1)) → P (some (.int (-1))) im) (h1 : ∀ t p, t < m → p < 4 → a1 = nI t → a2 = nI p → im (8 * p + 339) 0 ≠ 0 → im (3 * t + 30) 3 = 0 → ¬ (im (3 * t + 30) 2 >>> (nI p &&& 31)) &&& 1 = 1 → rn_run (op (pr t)) (opd (pr t)) (im (3 * t + 30) 1) (im (8 * p + 341)) (im (8 * p + 342)) (len (pr t)) = none → ∀ im', rnF im im' → P (some (.int 1)) im') (h2 : ∀ t p, t < m → p < 4 → a1 = nI t → a2 = nI p → im (8 * p + 339) 0 ≠ 0 → im (3 * t + 30) 3 = 0 → ¬ (im (3 * t + 30) 2 >>> (nI p &&& 31)) &&& 1 = 1 → ∀ q, rn_run (op (pr t)) (opd (pr t)) (im (3 * t + 30) 1) (im (8 * p + 341)) (im (8 * p + 342)) (len (pr t)) = some q → ∀ im', rnF im im' → rnC im' q.1.1 q.1.2.1 q.1.2.2.1 q.1.2.2.2 → ((im (3 * t + 30) 2 ≠ 0 ∧ ¬ ((∀ k, k < 80 → im' (3 * t + 32) k = im' 13 k) ∧ im' (3 * t + 31) 1 = im' 12 1)) → P (some (.int 2)) im') ∧ (¬ (im (3 * t + 30) 2 ≠ 0 ∧ ¬ ((∀ k, k < 80 → im' (3 * t + 32) k = im' 13 k) ∧ im' (3 * t + 31) 1 = im' 12 1)) → P (some (.int 0)) (en_u2 (en_u2 (en_ur im' (3 * t + 32) (va_cpy (im' 13) (im' (3 * t + 32)) 0 0 80)) (3 * t + 31) 1 (im' 12 1)) (3 * t + 30) 2 (im (3 * t + 30) 2 ||| (1 <<< (nI p &&& 31)))))) : Gm LS rm 4 0 (en_in 4 [.ref 1, .int a1, .int a2]) [] im P := by
  show Gm LS rm 4 0 [.ref (1), .int (a1), .int (a2), .long 0] [] im P
  refine g_iload_n k4_0 rfl ?_
  refine g_aload_n k4_1 rfl ?_
  refine g_getv (v := nI m) k4_2 (hM.1.1) (by decide) (hm) ?_
  refine g_invS2 k4_5 rfl rfl (by decide) (Nat.le_of_ble_eq_true rfl) (c19n m (by omega) (fun t ht e => ?_) (fun h => ?_))
  · subst e
    refine g_if_eq k4_8 (fun h => absurd h (by decide)) (fun _ => ?_)
    refine g_aload_n k4_11 rfl ?_
    refine g_iload_n k4_12 rfl ?_
    refine g_inv1 k4_13 (hM.1.1) rfl (by decide) (Nat.le_of_ble_eq_true rfl) (c20 hM (fun p hp e2 hu => ?_) (fun h => ?_))
    · subst e2
      obtain ⟨r1, r2⟩ := hpr t ht
      have t60 : t < 60 := by omega
      refine g_if_ne k4_16 (fun _ => ?_) (fun h => absurd h (by decide))
      refine g_aload_n k4_21 rfl ?_
      refine g_getr k4_22 (hM.1.1) (by decide) (hM.1.2.2.1) ?_
      refine g_iload_n k4_25 rfl ?_
      refine g_aalv (t := 1) k4_26 (hM.1.2.2.2.2.2.2.2.2.2.2.1) ⟨_, rfl⟩ (t60) (by decide) ((hM.2.2.1 t (t60)).1) ?_
      refine g_astore_n k4_27 (by decide) rfl ?_
      refine g_aload_n k4_28 rfl ?_
      refine g_geti k4_29 ((hM.2.2.1 t (t60)).2.1) (by decide) ?_
      refine g_if_ne k4_32 (fun g => ?_) (fun g => ?_)
      · refine g_iconst (v := -1) k4_43 ic_m1 ?_
        exact g_reti k4_44 rfl (h0 (fun t2 p2 k2 => by obtain ⟨q1, q2, q3, q4, q5, q6, q7⟩ := k2; have z1 := nI_inj q3 (by omega) (by omega); subst z1; exact g q6))
      · refine g_aload_n k4_35 rfl ?_
        refine g_iload_n k4_36 rfl ?_
        by_cases hb : (im (3 * t + 30) 2 >>> (nI p &&& 31)) &&& 1 = 1
        · refine g_inv1 k4_37 ((hM.2.2.1 t (t60)).2.1) rfl (by decide) (Nat.le_of_ble_eq_true rfl) (c71 (hM.2.2.1 t t60).2 ?_)
          rw [if_pos hb]
          refine g_if_eq k4_40 (fun h => absurd h (by decide)) (fun _ => ?_)
          refine g_iconst (v := -1) k4_43 ic_m1 ?_
          exact g_reti k4_44 rfl (h0 (fun t2 p2 k2 => by obtain ⟨q1, q2, q3, q4, q5, q6, q7⟩ := k2; have z1 := nI_inj q3 (by omega) (by omega); subst z1; have z2 := nI_inj q4 (by omega) (by omega); subst z2; exact q7 hb))
        · refine g_inv1 k4_37 ((hM.2.2.1 t (t60)).2.1) rfl (by decide) (Nat.le_of_ble_eq_true rfl) (c71 (hM.2.2.1 t t60).2 ?_)
          rw [if_neg hb]
          refine g_if_eq k4_40 (fun _ => ?_) (fun h => absurd (rfl) h)
          refine g_aload_n k4_45 rfl ?_
          refine g_getr k4_46 (hM.1.1) (by decide) (hM.1.2.2.2.2.2.2.2.2.1) ?_
          refine g_aload_n k4_49 rfl ?_
          refine g_getr k4_50 (hM.1.1) (by decide) (hM.1.2.1) ?_
          refine g_aload_n k4_53 rfl ?_
          refine g_getv (v := nI (pr t)) k4_54 ((hM.2.2.1 t (t60)).2.1) (by decide) (r1) ?_
          refine g_aalv (t := 0) k4_57 (hM.1.2.2.2.2.2.2.2.2.2.1) ⟨_, rfl⟩ (r2) (by decide) ((hM.2.1 (pr t) (r2)).1) ?_
          refine g_aload_n k4_58 rfl ?_
          refine g_geti k4_59 ((hM.2.2.1 t (t60)).2.1) (by decide) ?_
          refine g_aload_n k4_62 rfl ?_
          refine g_getr k4_63 (hM.1.1) (by decide) (hM.1.2.2.2.2.2.2.2.1) ?_
          refine g_iload_n k4_66 rfl ?_
          refine g_aalv (t := 4) k4_67 (hM.1.2.2.2.2.2.2.2.2.2.2.2.2.2.2.2.1) ⟨_, rfl⟩ (hp) (by decide) ((hM.2.2.2.2.2 p (hp)).1) ?_
          refine g_getr k4_68 ((hM.2.2.2.2.2 p (hp)).2.1) (by decide) ((hM.2.2.2.2.2 p (hp)).2.2.1) ?_
          refine g_inv3 k4_71 (hM.1.2.2.2.2.2.2.2.2.2.2.2.2.2.2.2.2.1) rfl rfl rfl (by decide) (Nat.le_of_ble_eq_true rfl) (c47 (pa := 4 * pr t + 14) (s := 8 * p + 340) (len := len (pr t)) (op := op (pr t)) (opd := opd (pr t)) hM.1.2.2.2.2.2.2.2.2.2.2.2.2.2.2.2.2 (hM.2.1 (pr t) r2).2 (by omega) (hM.2.2.2.2.2 p hp).2.2.2.2.2.1 (by omega) (hl (pr t) r2).1 (hl (pr t) r2).2 (hop (pr t) r2) (hod (pr t) r2) (fun hn im' hf => ?_) (fun q hq im' hf hC => ?_))
          · refine g_if_ne k4_74 (fun h => absurd (by decide) h) (fun _ => ?_)
            refine g_iconst (v := 1) k4_77 ic_1 ?_
            exact g_reti k4_78 rfl (h1 t p ht hp rfl rfl hu g hb hn im' hf)
          · refine g_if_ne k4_74 (fun _ => ?_) (fun h => absurd h (by decide))
            have hfin := h2 t p ht hp rfl rfl hu g hb q hq im' hf hC
            have hte : im' (3 * t + 30) = im (3 * t + 30) := hf _ (by omega)
            refine g_aload_n k4_79 rfl ?_
            by_cases he : im (3 * t + 30) 2 = 0
            · refine g_inv0 k4_80 ((hM.2.2.1 t (t60)).2.1) (by decide) (Nat.le_of_ble_eq_true rfl) (c72 (hM.2.2.1 t t60).2 ?_)
              rw [hte, if_pos he]
              refine g_if_eq k4_83 (fun _ => ?_) (fun h => absurd (rfl) h)
              refine g_aload_n k4_105 rfl ?_
              refine g_getr k4_106 ((hM.2.2.1 t (t60)).2.1) (by decide) ((hM.2.2.1 t (t60)).2.2.1) ?_
              refine g_aload_n k4_109 rfl ?_
              refine g_getr k4_110 (hM.1.1) (by decide) (hM.1.2.2.2.2.2.2.2.2.1) ?_
              refine g_getr k4_113 (hM.1.2.2.2.2.2.2.2.2.2.2.2.2.2.2.2.2.1) (by decide) (hM.1.2.2.2.2.2.2.2.2.2.2.2.2.2.2.2.2.2.2.1) ?_
              refine g_inv1 k4_116 ((hM.2.2.1 t (t60)).2.2.2.1) rfl (by decide) (Nat.le_of_ble_eq_true rfl) (c59 (a := 3 * t + 31) (b := 12) (hM.2.2.1 t t60).2.2.2 hM.1.2.2.2.2.2.2.2.2.2.2.2.2.2.2.2.2.2.2.2.2 (by omega) ?_)
              have hfin := hfin.2 (fun z => z.1 he)
              refine g_aload_n k4_119 rfl ?_
              refine g_dup k4_120 rfl ?_
              refine g_getv (v := im (3 * t + 30) 2) k4_121 ((hM.2.2.1 t (t60)).2.1) (by decide) (by rw [u2_ne (by omega), ur_ne (by omega), hte]) ?_
              refine g_iconst (v := 1) k4_124 ic_1 ?_
              refine g_iload_n k4_125 rfl ?_
              refine g_ishl k4_126 ?_
              refine g_ior k4_127 ?_
              refine g_puti k4_128 (by decide) ((hM.2.2.1 t (t60)).2.1) (by decide) ?_
              refine g_iconst (v := 0) k4_131 ic_0 ?_
              exact g_reti k4_132 rfl (hfin)
            · refine g_inv0 k4_80 ((hM.2.2.1 t (t60)).2.1) (by decide) (Nat.le_of_ble_eq_true rfl) (c72 (hM.2.2.1 t t60).2 ?_)
              rw [hte, if_neg he]
              refine g_if_eq k4_83 (fun h => absurd h (by decide)) (fun _ => ?_)
              refine g_aload_n k4_86 rfl ?_
              refine g_getr k4_87 ((hM.2.2.1 t (t60)).2.1) (by decide) ((hM.2.2.1 t (t60)).2.2.1) ?_
              refine g_aload_n k4_90 rfl ?_
              refine g_getr k4_91 (hM.1.1) (by decide) (hM.1.2.2.2.2.2.2.2.2.1) ?_
              refine g_getr k4_94 (hM.1.2.2.2.2.2.2.2.2.2.2.2.2.2.2.2.2.1) (by decide) (hM.1.2.2.2.2.2.2.2.2.2.2.2.2.2.2.2.2.2.2.1) ?_
              refine g_inv1 k4_97 ((hM.2.2.1 t (t60)).2.2.2.1) rfl (by decide) (Nat.le_of_ble_eq_true rfl) (c60 (a := 3 * t + 31) (b := 12) (hM.2.2.1 t t60).2.2.2 hM.1.2.2.2.2.2.2.2.2.2.2.2.2.2.2.2.2.2.2.2.2 (fun hs => ?_) (fun hs => ?_))
              · refine g_if_ne k4_100 (fun _ => ?_) (fun h => absurd h (by decide))
                refine g_aload_n k4_105 rfl ?_
                refine g_getr k4_106 ((hM.2.2.1 t (t60)).2.1) (by decide) ((hM.2.2.1 t (t60)).2.2.1) ?_
                refine g_aload_n k4_109 rfl ?_
                refine g_getr k4_110 (hM.1.1) (by decide) (hM.1.2.2.2.2.2.2.2.2.1) ?_
                refine g_getr k4_113 (hM.1.2.2.2.2.2.2.2.2.2.2.2.2.2.2.2.2.1) (by decide) (hM.1.2.2.2.2.2.2.2.2.2.2.2.2.2.2.2.2.2.2.1) ?_
                refine g_inv1 k4_116 ((hM.2.2.1 t (t60)).2.2.2.1) rfl (by decide) (Nat.le_of_ble_eq_true rfl) (c59 (a := 3 * t + 31) (b := 12) (hM.2.2.1 t t60).2.2.2 hM.1.2.2.2.2.2.2.2.2.2.2.2.2.2.2.2.2.2.2.2.2 (by omega) ?_)
                have hfin := hfin.2 (fun z => z.2 hs)
                refine g_aload_n k4_119 rfl ?_
                refine g_dup k4_120 rfl ?_
                refine g_getv (v := im (3 * t + 30) 2) k4_121 ((hM.2.2.1 t (t60)).2.1) (by decide) (by rw [u2_ne (by omega), ur_ne (by omega), hte]) ?_
                refine g_iconst (v := 1) k4_124 ic_1 ?_
                refine g_iload_n k4_125 rfl ?_
                refine g_ishl k4_126 ?_
                refine g_ior k4_127 ?_
                refine g_puti k4_128 (by decide) ((hM.2.2.1 t (t60)).2.1) (by decide) ?_
                refine g_iconst (v := 0) k4_131 ic_0 ?_
                exact g_reti k4_132 rfl (hfin)
              · refine g_if_ne k4_100 (fun h => absurd (by decide) h) (fun _ => ?_)
                refine g_iconst (v := 2) k4_103 ic_2 ?_
                exact g_reti k4_104 rfl (hfin.1 ⟨he, hs⟩)
    · refine g_if_ne k4_16 (fun h => absurd (by decide) h) (fun _ => ?_)
      refine g_iconst (v := -1) k4_19 ic_m1 ?_
      exact g_reti k4_20 rfl (h0 (fun t2 p2 k2 => k2.2.2.2.2.1 (h p2 k2.2.1 k2.2.2.2.1)))
  · refine g_if_eq k4_8 (fun _ => ?_) (fun h => absurd (by decide) h)
    refine g_iconst (v := -1) k4_19 ic_m1 ?_
    exact g_reti k4_20 rfl (h0 (fun t2 p2 k2 => w_out (by omega) k2.1 h k2.2.2.1))

