def elN (im : Nat → Nat → Int32) (v : Int32) : Nat → (Nat → Nat → Int32)
  | 0 => im
  | i + 1 => if im (3 * i + 330) 0 = 0 then elN im v i else en_u2 (elN im v i) (3 * i + 330) 1 v
theorem elN_k {im : Nat → Nat → Int32} {v : Int32} {c k : Nat} (h : k ≠ 1 ∨ c < 330 ∨ 338 < c) : ∀ i, i ≤ 3 → elN im v i c k = im c k := by
  intro i
  induction i with
  | zero => intro _; rfl
  | succ i ih =>
    intro hi
    unfold elN
    split
    · exact ih (by omega)
    · rw [u2_ne (by omega)]
      exact ih (by omega)
set_option maxRecDepth 20000 in
set_option maxHeartbeats 4000000 in
theorem l6 {LS : Nat} {rm : Nat → Nat → Option Nat} {im : Nat → Nat → Int32} {P : Option Value → (Nat → Nat → Int32) → Prop} {o : Nat} {v : Int32} (hM : isLd LS rm) (ho : o < 3) (h1 : P (some (.int v)) (en_u2 (elN im v 3) 1 8 (nI o))) : ∀ (n i : Nat), i + n = 3 → Gm LS rm 6 40 [.ref (1), .int (nI o), .int (v), .int (nI i)] [] (elN im v i) P := by
  intro n
  induction n with
  | zero =>
    intro i hi
    have hie : i = 3 := by omega
    subst hie
    refine g_iload_n k6_40 rfl ?_
    refine g_iconst (v := 3) k6_41 ic_3 ?_
    refine g_icmp_ge k6_42 (fun _ => ?_) (fun h => absurd (nI_le (Nat.le_refl _) (by decide)) h)
    refine g_aload_n k6_73 rfl ?_
    refine g_iload_n k6_74 rfl ?_
    refine g_puti k6_75 (by decide) (hM.1.1) (by decide) ?_
    refine g_iload_n k6_78 rfl ?_
    exact g_reti k6_79 rfl (h1)
  | succ n ih =>
    intro i hi
    have hlt : i < 3 := by omega
    refine g_iload_n k6_40 rfl ?_
    refine g_iconst (v := 3) k6_41 ic_3 ?_
    refine g_icmp_ge k6_42 (fun h => absurd h (nI_ge hlt (by decide))) (fun _ => ?_)
    refine g_aload_n k6_45 rfl ?_
    refine g_getr k6_46 (hM.1.1) (by decide) (hM.1.2.2.2.2.2.1) ?_
    refine g_iload_n k6_49 rfl ?_
    refine g_aalv (t := 3) k6_50 (hM.1.2.2.2.2.2.2.2.2.2.2.2.2.2.1) ⟨_, rfl⟩ (hlt) (by decide) ((hM.2.2.2.2.1 i (hlt)).1) ?_
    refine g_getv (v := im (3 * i + 330) 0) k6_51 ((hM.2.2.2.2.1 i (hlt)).2.1) (by decide) (elN_k (by omega) i (by omega)) ?_
    refine g_if_eq k6_54 (fun h => ?_) (fun h => ?_)
    · refine g_iincv (y := nI (i + 1)) k6_67 rfl (by decide) (inc_1 i) rfl ?_
      refine g_goto k6_70 ?_
      have e1 : elN im v (i + 1) = elN im v i := if_pos h
      have := ih (i + 1) (by omega)
      rw [e1] at this
      exact this
    · refine g_aload_n k6_57 rfl ?_
      refine g_getr k6_58 (hM.1.1) (by decide) (hM.1.2.2.2.2.2.1) ?_
      refine g_iload_n k6_61 rfl ?_
      refine g_aalv (t := 3) k6_62 (hM.1.2.2.2.2.2.2.2.2.2.2.2.2.2.1) ⟨_, rfl⟩ (hlt) (by decide) ((hM.2.2.2.2.1 i (hlt)).1) ?_
      refine g_iload_n k6_63 rfl ?_
      refine g_puti k6_64 (by decide) ((hM.2.2.2.2.1 i (hlt)).2.1) (by decide) ?_
      refine g_iincv (y := nI (i + 1)) k6_67 rfl (by decide) (inc_1 i) rfl ?_
      refine g_goto k6_70 ?_
      have e1 : elN im v (i + 1) = en_u2 (elN im v i) (3 * i + 330) 1 v := if_neg h
      have := ih (i + 1) (by omega)
      rw [e1] at this
      exact this

set_option maxRecDepth 20000 in
set_option maxHeartbeats 4000000 in
theorem x6 {LS : Nat} {rm : Nat → Nat → Option Nat} {im : Nat → Nat → Int32} {P : Option Value → (Nat → Nat → Int32) → Prop} {a1 : Int32} {n t tm : Nat → Nat} (hM : isLd LS rm) (hT : ∀ i, i < 3 → isLT im (3 * i + 331) (n i) (t i)) (hm : ∀ i, i < 3 → im (3 * i + 330) 1 = nI (tm i) ∧ tm i ≤ 100000) (h1 : ∀ o, o < 3 → a1 = nI o → im (3 * o + 330) 0 ≠ 0 → 2 ≤ cntB (sup im n t o) 3 → P (some (.int (nI (gtN (upB im) tm 3 + 1)))) (en_u2 (elN im (nI (gtN (upB im) tm 3 + 1)) 3) 1 8 (nI o))) (h0 : (∀ o, ¬ (o < 3 ∧ a1 = nI o ∧ im (3 * o + 330) 0 ≠ 0 ∧ 2 ≤ cntB (sup im n t o) 3)) → P (some (.int (-1))) im) : Gm LS rm 6 0 (en_in 6 [.ref 1, .int a1]) [] im P := by
  show Gm LS rm 6 0 [.ref (1), .int (a1), .long 0, .long 0] [] im P
  refine g_iload_n k6_0 rfl ?_
  refine g_iconst (v := 3) k6_1 ic_3 ?_
  refine g_invS2 k6_2 rfl rfl (by decide) (Nat.le_of_ble_eq_true rfl) (c19n 3 (by decide) (fun o ho e => ?_) (fun h => ?_))
  · subst e
    refine g_if_eq k6_5 (fun h => absurd h (by decide)) (fun _ => ?_)
    refine g_aload_n k6_8 rfl ?_
    refine g_getr k6_9 (hM.1.1) (by decide) (hM.1.2.2.2.2.2.1) ?_
    refine g_iload_n k6_12 rfl ?_
    refine g_aalv (t := 3) k6_13 (hM.1.2.2.2.2.2.2.2.2.2.2.2.2.2.1) ⟨_, rfl⟩ (ho) (by decide) ((hM.2.2.2.2.1 o (ho)).1) ?_
    refine g_geti k6_14 ((hM.2.2.2.2.1 o (ho)).2.1) (by decide) ?_
    refine g_if_eq k6_17 (fun g => ?_) (fun g => ?_)
    · refine g_iconst (v := -1) k6_29 ic_m1 ?_
      exact g_reti k6_30 rfl (h0 (fun t2 k2 => by obtain ⟨q1, q2, q3, q4⟩ := k2; have := nI_inj q2 (by omega) (by omega); subst this; exact q3 g))
    · refine g_aload_n k6_20 rfl ?_
      refine g_iload_n k6_21 rfl ?_
      refine g_inv1 k6_22 (hM.1.1) rfl (by decide) (Nat.le_of_ble_eq_true rfl) (c23 (n := n) (t := t) hM ho hT ?_)
      refine g_iconst (v := 2) k6_25 ic_2 ?_
      have hle := cntB_le (sup im n t o) 3
      refine g_icmp_ge k6_26 (fun d => ?_) (fun d => ?_)
      · have h2 : 2 ≤ cntB (sup im n t o) 3 := (nI_leI (a := 2) (by decide) (by omega)).mp d
        refine g_aload_n k6_31 rfl ?_
        refine g_inv0 k6_32 (hM.1.1) (by decide) (Nat.le_of_ble_eq_true rfl) (c26 (t := tm) hM hm ?_)
        refine g_iconst (v := 1) k6_35 ic_1 ?_
        refine g_iadd k6_36 ?_
        refine g_top (y := nI (gtN (upB im) tm 3 + 1)) (nI_1 _) ?_
        refine g_istore_n k6_37 (by decide) rfl ?_
        refine g_iconst (v := 0) k6_38 ic_0 ?_
        refine g_istore_n k6_39 (by decide) rfl ?_
        exact l6 hM ho (h1 o ho rfl g h2) 3 0 (by omega)
      · refine g_iconst (v := -1) k6_29 ic_m1 ?_
        exact g_reti k6_30 rfl (h0 (fun t2 k2 => by obtain ⟨q1, q2, q3, q4⟩ := k2; have := nI_inj q2 (by omega) (by omega); subst this; exact d (nI_le (a := 2) q4 (by omega))))
  · refine g_if_eq k6_5 (fun _ => ?_) (fun h => absurd (by decide) h)
    refine g_iconst (v := -1) k6_29 ic_m1 ?_
    exact g_reti k6_30 rfl (h0 (fun p2 k2 => w_out (by decide) k2.1 h k2.2.1))

def ct1 (im : Nat → Nat → Int32) (o c n : Nat) : Nat → Nat → Int32 := en_u2 (en_u2 (en_ur im (2 * c + 211) (va_cpy (im 4) (im (2 * c + 211)) 0 0 n)) (2 * c + 210) 1 (nI n)) (2 * c + 210) 2 (im (3 * o + 330) 1)
def ct2 (im : Nat → Nat → Int32) (o c n w : Nat) : Nat → Nat → Int32 := en_u2 (en_ur (ct1 im o c n) 4 (va_cpy (im 4) (im 4) n 0 (w - n))) 1 4 (nI (w - n))
def ct3 (im : Nat → Nat → Int32) (o c n w l : Nat) : Nat → Nat → Int32 := en_u2 (en_u2 (en_u2 (ct2 im o c n w) (3 * o + 332) l (nI c)) (3 * o + 331) 1 (nI (l + 1))) 1 6 (nI (c + 1))
set_option maxRecDepth 20000 in
set_option maxHeartbeats 4000000 in
theorem x7 {LS : Nat} {rm : Nat → Nat → Option Nat} {im : Nat → Nat → Int32} {P : Option Value → (Nat → Nat → Int32) → Prop} {a1 : Int32} {w c : Nat} {n : Nat → Nat} (hM : isLd LS rm) (hw : im 1 4 = nI w) (hw2 : w ≤ 20) (hc : im 1 6 = nI c) (hc2 : c ≤ 60) (hn : ∀ o, o < 3 → im (3 * o + 331) 1 = nI (n o) ∧ n o ≤ 40) (h1 : ∀ o, o < 3 → a1 = nI o → im 1 8 = nI o → 0 < w → c < 60 → n o < 40 → P (some (.int (nI (min w 4)))) (ct3 im o c (min w 4) w (n o))) (h0 : (∀ o, ¬ (o < 3 ∧ a1 = nI o ∧ im 1 8 = nI o ∧ 0 < w ∧ c < 60 ∧ n o < 40)) → P (some (.int (-1))) im) : Gm LS rm 7 0 (en_in 7 [.ref 1, .int a1]) [] im P := by
  show Gm LS rm 7 0 [.ref (1), .int (a1), .long 0, .long 0] [] im P
  refine g_aload_n k7_0 rfl ?_
  refine g_iload_n k7_1 rfl ?_
  refine g_inv1 k7_2 (hM.1.1) rfl (by decide) (Nat.le_of_ble_eq_true rfl) (c21 hM (fun o ho e hl => ?_) (fun h => ?_))
  · subst e
    refine g_if_eq k7_5 (fun h => absurd h (by decide)) (fun _ => ?_)
    refine g_aload_n k7_8 rfl ?_
    refine g_getv (v := nI w) k7_9 (hM.1.1) (by decide) (hw) ?_
    refine g_if_eq k7_12 (fun g => ?_) (fun g => ?_)
    · refine g_iconst (v := -1) k7_24 ic_m1 ?_
      exact g_reti k7_25 rfl (h0 (fun o2 k2 => nI_ne0 k2.2.2.2.1 (by omega) g))
    · have w0 : 0 < w := Nat.pos_of_ne_zero (fun z => g (by rw [z]; rfl))
      have hno := hn o ho
      refine g_aload_n k7_15 rfl ?_
      refine g_getv (v := nI c) k7_16 (hM.1.1) (by decide) (hc) ?_
      refine g_bipush (v := 60) k7_19 bp_60 ?_
      refine g_icmp_lt k7_21 (fun d => ?_) (fun d => ?_)
      · have hlt : c < 60 := (nI_ltI (by omega) (by decide)).mp d
        refine g_aload_n k7_26 rfl ?_
        refine g_getr k7_27 (hM.1.1) (by decide) (hM.1.2.2.2.2.2.1) ?_
        refine g_iload_n k7_30 rfl ?_
        refine g_aalv (t := 3) k7_31 (hM.1.2.2.2.2.2.2.2.2.2.2.2.2.2.1) ⟨_, rfl⟩ (ho) (by decide) ((hM.2.2.2.2.1 o (ho)).1) ?_
        refine g_astore_n k7_32 (by decide) rfl ?_
        refine g_aload_n k7_33 rfl ?_
        refine g_getr k7_34 ((hM.2.2.2.2.1 o (ho)).2.1) (by decide) ((hM.2.2.2.2.1 o (ho)).2.2.1) ?_
        refine g_getv (v := nI (n o)) k7_37 ((hM.2.2.2.2.1 o (ho)).2.2.2.1) (by decide) (hno.1) ?_
        refine g_bipush (v := 40) k7_40 bp_40 ?_
        refine g_icmp_lt k7_42 (fun f => ?_) (fun f => ?_)
        · have hll : n o < 40 := (nI_ltI (by omega) (by decide)).mp f
          refine g_aload_n k7_47 rfl ?_
          refine g_getv (v := nI w) k7_48 (hM.1.1) (by decide) (hw) ?_
          refine g_iconst (v := 4) k7_51 ic_4 ?_
          refine g_min k7_52 (Nat.le_of_ble_eq_true rfl) ?_
          refine g_top (y := nI (min w 4)) (by rcases Nat.lt_or_ge 4 w with h | h; rw [if_pos (show (4 : Int32) < nI w from nI_lt (a := 4) h (by omega)), Nat.min_eq_right (Nat.le_of_lt h)]; rfl; rw [if_neg (show ¬ (4 : Int32) < nI w from nI_nlt (a := 4) h (by decide)), Nat.min_eq_left h]) ?_
          refine g_istore_n k7_55 (by decide) rfl ?_
          refine g_aload_n k7_56 rfl ?_
          refine g_getr k7_57 (hM.1.1) (by decide) (hM.1.2.2.2.2.1) ?_
          refine g_aload_n k7_60 rfl ?_
          refine g_getv (v := nI c) k7_61 (hM.1.1) (by decide) (hc) ?_
          refine g_aalv (t := 2) k7_64 (hM.1.2.2.2.2.2.2.2.2.2.2.2.2.1) ⟨_, rfl⟩ (hlt) (by decide) ((hM.2.2.2.1 c (hlt)).1) ?_
          refine g_aload_n k7_65 rfl ?_
          refine g_getr k7_66 (hM.1.1) (by decide) (hM.1.2.2.2.1) ?_
          refine g_iload_n k7_69 rfl ?_
          refine g_aload_n k7_70 rfl ?_
          refine g_geti k7_71 ((hM.2.2.2.2.1 o (ho)).2.1) (by decide) ?_
          refine g_inv3 k7_74 ((hM.2.2.2.1 c (hlt)).2.1) rfl rfl rfl (by decide) (Nat.le_of_ble_eq_true rfl) (c74 (a := 2 * c + 210) (b := 4) (n := min w 4) (nb := 20) (hM.2.2.2.1 c hlt).2 hM.1.2.2.2.2.2.2.2.2.2.2.2.1 (by decide) (Nat.min_le_right _ _) (by omega) ?_)
          show Gm LS rm 7 77 _ [] (ct1 im o c (min w 4)) P
          have e4 : ct1 im o c (min w 4) 4 = im 4 := by unfold ct1; rw [en_u2_off (by omega), en_u2_off (by omega), en_ur_off (by omega)]
          have e14 : ct1 im o c (min w 4) 1 = im 1 := by unfold ct1; rw [en_u2_off (by omega), en_u2_off (by omega), en_ur_off (by omega)]
          refine g_aload_n k7_77 rfl ?_
          refine g_iload_n k7_78 rfl ?_
          refine g_inv1 k7_79 (hM.1.1) rfl (by decide) (Nat.le_of_ble_eq_true rfl) (c27 (w := w) (n := min w 4) hM (by rw [e14]; exact hw) hw2 (Nat.min_le_left _ _) ?_)
          rw [e4]
          show Gm LS rm 7 82 _ [] (ct2 im o c (min w 4) w) P
          have e16 : ct2 im o c (min w 4) w 1 6 = nI c := by unfold ct2; rw [u2_ne (by omega), en_ur_off (by omega), e14]; exact hc
          have e31 : ct2 im o c (min w 4) w (3 * o + 331) 1 = nI (n o) := by unfold ct2 ct1; rw [u2_ne (by omega), en_ur_off (by omega), u2_ne (by omega), u2_ne (by omega), en_ur_off (by omega)]; exact hno.1
          refine g_aload_n k7_82 rfl ?_
          refine g_getr k7_83 ((hM.2.2.2.2.1 o (ho)).2.1) (by decide) ((hM.2.2.2.2.1 o (ho)).2.2.1) ?_
          refine g_aload_n k7_86 rfl ?_
          refine g_getv (v := nI c) k7_87 (hM.1.1) (by decide) (e16) ?_
          refine g_inv1 k7_90 ((hM.2.2.2.2.1 o (ho)).2.2.2.1) rfl (by decide) (Nat.le_of_ble_eq_true rfl) (c78 (a := 3 * o + 331) (n := n o) (hM.2.2.2.2.1 o ho).2.2.2 e31 hll ?_)
          refine g_aload_n k7_93 rfl ?_
          refine g_dup k7_94 rfl ?_
          refine g_getv (v := nI c) k7_95 (hM.1.1) (by decide) (by rw [u2_ne (by omega), u2_ne (by omega)]; exact e16) ?_
          refine g_iconst (v := 1) k7_98 ic_1 ?_
          refine g_iadd k7_99 ?_
          refine g_top (y := nI (c + 1)) (nI_1 c) ?_
          refine g_puti k7_100 (by decide) (hM.1.1) (by decide) ?_
          refine g_iload_n k7_103 rfl ?_
          exact g_reti k7_104 rfl (h1 o ho rfl hl w0 hlt hll)
        · refine g_iconst (v := -1) k7_45 ic_m1 ?_
          exact g_reti k7_46 rfl (h0 (fun o2 k2 => by obtain ⟨q1, q2, q3, q4, q5, q6⟩ := k2; have := nI_inj q2 (by omega) (by omega); subst this; exact f (nI_lt (b := 40) q6 (by decide))))
      · refine g_iconst (v := -1) k7_24 ic_m1 ?_
        exact g_reti k7_25 rfl (h0 (fun o2 k2 => d (nI_lt (b := 60) k2.2.2.2.2.1 (by decide))))
  · refine g_if_eq k7_5 (fun _ => ?_) (fun h => absurd (by decide) h)
    refine g_iconst (v := -1) k7_24 ic_m1 ?_
    exact g_reti k7_25 rfl (h0 (fun o2 k2 => h o2 k2.1 k2.2.1 k2.2.2.1))

theorem sub_nI {x : Int32} {p c : Nat} (h : x - nI c = nI p) : x = nI (p + c) := by
  rw [← nI_add, ← h]
  exact (Int32.sub_add_cancel x (nI c)).symm
theorem nI_sub_out {x : Int32} {p c n : Nat} (hp : p < n) (hn : n < 1000) (h : x - nI c < 0 ∨ nI n ≤ x - nI c) : x ≠ nI (p + c) := by
  intro e
  subst e
  rw [pk_sub (Nat.le_add_left c p), Nat.add_sub_cancel] at h
  exact w_out (by omega) hp h rfl
set_option maxRecDepth 20000 in
set_option maxHeartbeats 4000000 in
theorem x9 {LS : Nat} {rm : Nat → Nat → Option Nat} {im : Nat → Nat → Int32} {P : Option Value → (Nat → Nat → Int32) → Prop} {a1 y : Int32} {st v : Nat → Nat} (hM : isLd LS rm) (hy : y = 0 ∨ y = 1) (hC : ∀ p, p < 4 → okC im (st p)) (hst : ∀ p, p < 4 → st p ≤ 40 ∧ v p ≤ st p ∧ im (8 * p + 339) 1 = nI (st p) ∧ im (8 * p + 343) 2 = nI (v p)) (h1 : ∀ o, o < 3 → a1 = nI o → im (3 * o + 330) 0 ≠ y → im 1 8 ≠ nI o → P (some (.int 0)) (en_u2 im (3 * o + 330) 0 y)) (h2 : ∀ o, o < 3 → a1 = nI o → im (3 * o + 330) 0 ≠ y → im 1 8 = nI o → P (some (.int 0)) (en_u2 (en_u2 im (3 * o + 330) 0 y) 1 8 (-1))) (h3 : ∀ p, p < 4 → a1 = nI (p + 3) → im (8 * p + 339) 0 ≠ y → y = 0 → P (some (.int 0)) (en_u2 im (8 * p + 339) 0 y)) (h4 : ∀ p, p < 4 → a1 = nI (p + 3) → im (8 * p + 339) 0 ≠ y → y ≠ 0 → P (some (.int (nI (st p - v p)))) (cbN p (v p) (en_u2 im (8 * p + 339) 0 y) (st p - v p))) (h0 : (∀ o, ¬ (o < 3 ∧ a1 = nI o ∧ im (3 * o + 330) 0 ≠ y)) → (∀ p, ¬ (p < 4 ∧ a1 = nI (p + 3) ∧ im (8 * p + 339) 0 ≠ y)) → P (some (.int (-1))) im) : Gm LS rm 9 0 (en_in 9 [.ref 1, .int a1, .int y]) [] im P := by
  show Gm LS rm 9 0 [.ref (1), .int (a1), .int (y)] [] im P
  refine g_iload_n k9_0 rfl ?_
  refine g_iconst (v := 3) k9_1 ic_3 ?_
  refine g_invS2 k9_2 rfl rfl (by decide) (Nat.le_of_ble_eq_true rfl) (c19n 3 (by decide) (fun o ho e => ?_) (fun h => ?_))
  · subst e
    refine g_if_eq k9_5 (fun h => absurd h (by decide)) (fun _ => ?_)
    refine g_aload_n k9_8 rfl ?_
    refine g_iload_n k9_9 rfl ?_
    refine g_iload_n k9_10 rfl ?_
    refine g_inv2 k9_11 (hM.1.1) rfl rfl (by decide) (Nat.le_of_ble_eq_true rfl) (c31 hM ho hy (fun z => ?_) (fun z1 z2 => ?_) (fun z1 z2 => ?_))
    · exact g_reti k9_14 rfl (h0 (fun o2 k2 => by obtain ⟨q1, q2, q3⟩ := k2; have := nI_inj q2 (by omega) (by omega); subst this; exact q3 z) (fun p2 k2 => by have := nI_inj k2.2.1 (by omega) (by omega); omega))
    · exact g_reti k9_14 rfl (h1 o ho rfl z1 z2)
    · exact g_reti k9_14 rfl (h2 o ho rfl z1 z2)
  · refine g_if_eq k9_5 (fun _ => ?_) (fun h => absurd (by decide) h)
    refine g_iload_n k9_15 rfl ?_
    refine g_iconst (v := 3) k9_16 ic_3 ?_
    refine g_isub k9_17 ?_
    refine g_iconst (v := 4) k9_18 ic_4 ?_
    refine g_invS2 k9_19 rfl rfl (by decide) (Nat.le_of_ble_eq_true rfl) (c19n 4 (by decide) (fun p hp e => ?_) (fun h9 => ?_))
    · have e3 := sub_nI (c := 3) e
      subst e3
      obtain ⟨s1, s2, s3, s4⟩ := hst p hp
      refine g_if_eq k9_22 (fun h => absurd h (by decide)) (fun _ => ?_)
      refine g_aload_n k9_25 rfl ?_
      refine g_aload_n k9_26 rfl ?_
      refine g_getr k9_27 (hM.1.1) (by decide) (hM.1.2.2.2.2.2.2.2.1) ?_
      refine g_iload_n k9_30 rfl ?_
      refine g_iconst (v := 3) k9_31 ic_3 ?_
      refine g_isub k9_32 ?_
      refine g_top (y := nI p) (by rw [show (3 : Int32) = nI 3 from rfl, pk_sub (Nat.le_add_left 3 p), Nat.add_sub_cancel]) ?_
      refine g_aalv (t := 4) k9_33 (hM.1.2.2.2.2.2.2.2.2.2.2.2.2.2.2.2.1) ⟨_, rfl⟩ (hp) (by decide) ((hM.2.2.2.2.2 p (hp)).1) ?_
      refine g_iload_n k9_34 rfl ?_
      refine g_inv2 k9_35 (hM.1.1) rfl rfl (by decide) (Nat.le_of_ble_eq_true rfl) (c32 (st := st p) (v := v p) hM hp hy (hC p hp) s1 s2 s3 s4 (fun z => ?_) (fun z1 z2 => ?_) (fun z1 z2 => ?_))
      · exact g_reti k9_38 rfl (h0 (fun o2 k2 => w_out (by decide) k2.1 h k2.2.1) (fun p2 k2 => by obtain ⟨q1, q2, q3⟩ := k2; have := nI_inj q2 (by omega) (by omega); have : p = p2 := (by omega); subst this; exact q3 z))
      · exact g_reti k9_38 rfl (h3 p hp rfl z1 z2)
      · exact g_reti k9_38 rfl (h4 p hp rfl z1 z2)
    · refine g_if_eq k9_22 (fun _ => ?_) (fun h => absurd (by decide) h)
      refine g_iconst (v := -1) k9_39 ic_m1 ?_
      exact g_reti k9_40 rfl (h0 (fun o2 k2 => w_out (by decide) k2.1 h k2.2.1) (fun p2 k2 => nI_sub_out (c := 3) (n := 4) k2.1 (by decide) h9 k2.2.1))

set_option maxRecDepth 20000 in
set_option maxHeartbeats 4000000 in
theorem x11 {LS : Nat} {rm : Nat → Nat → Option Nat} {im : Nat → Nat → Int32} {P : Option Value → (Nat → Nat → Int32) → Prop} {a1 : Int32} {c : Nat} {st : Nat → Nat} (hM : isLd LS rm) (hc : im 7 1 = nI c) (hc2 : c ≤ 40) (hst : ∀ p, p < 4 → im (8 * p + 339) 1 = nI (st p) ∧ st p ≤ 40) (h1 : ∀ p, p < 4 → a1 = nI p → im (8 * p + 339) 0 ≠ 0 → st p < c → P (some (.int 1)) (en_u2 (en_u2 im (8 * p + 339) 1 (nI (st p + 1))) (8 * p + 339) 0 0)) (h0 : (∀ p, ¬ (p < 4 ∧ a1 = nI p ∧ im (8 * p + 339) 0 ≠ 0 ∧ st p < c)) → P (some (.int 0)) im) : Gm LS rm 11 0 (en_in 11 [.ref 1, .int a1]) [] im P := by
  show Gm LS rm 11 0 [.ref (1), .int (a1)] [] im P
  refine g_aload_n k11_0 rfl ?_
  refine g_iload_n k11_1 rfl ?_
  refine g_inv1 k11_2 (hM.1.1) rfl (by decide) (Nat.le_of_ble_eq_true rfl) (c34 (c := c) hM hc (fun p hp e hu hlt => ?_) (fun h => ?_))
  · subst e
    have hs := hst p hp
    rw [hs.1] at hlt
    have hlt := (nI_ltI (by omega) (by omega)).mp hlt
    refine g_if_ne k11_5 (fun _ => ?_) (fun h => absurd h (by decide))
    refine g_aload_n k11_10 rfl ?_
    refine g_getr k11_11 (hM.1.1) (by decide) (hM.1.2.2.2.2.2.2.2.1) ?_
    refine g_iload_n k11_14 rfl ?_
    refine g_aalv (t := 4) k11_15 (hM.1.2.2.2.2.2.2.2.2.2.2.2.2.2.2.2.1) ⟨_, rfl⟩ (hp) (by decide) ((hM.2.2.2.2.2 p (hp)).1) ?_
    refine g_dup k11_16 rfl ?_
    refine g_getv (v := nI (st p)) k11_17 ((hM.2.2.2.2.2 p (hp)).2.1) (by decide) (hs.1) ?_
    refine g_iconst (v := 1) k11_20 ic_1 ?_
    refine g_iadd k11_21 ?_
    refine g_top (y := nI (st p + 1)) (nI_1 _) ?_
    refine g_puti k11_22 (by decide) ((hM.2.2.2.2.2 p (hp)).2.1) (by decide) ?_
    refine g_aload_n k11_25 rfl ?_
    refine g_getr k11_26 (hM.1.1) (by decide) (hM.1.2.2.2.2.2.2.2.1) ?_
    refine g_iload_n k11_29 rfl ?_
    refine g_aalv (t := 4) k11_30 (hM.1.2.2.2.2.2.2.2.2.2.2.2.2.2.2.2.1) ⟨_, rfl⟩ (hp) (by decide) ((hM.2.2.2.2.2 p (hp)).1) ?_
    refine g_iconst (v := 0) k11_31 ic_0 ?_
    refine g_putz k11_32 (by decide) ((hM.2.2.2.2.2 p (hp)).2.1) (by decide) (by decide) ?_
    refine g_iconst (v := 1) k11_35 ic_1 ?_
    exact g_retz k11_36 rfl (by decide) (h1 p hp rfl hu hlt)
  · refine g_if_ne k11_5 (fun h => absurd (by decide) h) (fun _ => ?_)
    refine g_iconst (v := 0) k11_8 ic_0 ?_
    exact g_retz k11_9 rfl (by decide) (h0 (fun p2 k2 => by obtain ⟨q1, q2, q3, q4⟩ := k2; have z := h p2 q1 q2 q3; rw [(hst p2 q1).1] at z; exact nI_ge q4 (by omega) z))

set_option maxRecDepth 20000 in
set_option maxHeartbeats 4000000 in
theorem x10 {LS : Nat} {rm : Nat → Nat → Option Nat} {im : Nat → Nat → Int32} {P : Option Value → (Nat → Nat → Int32) → Prop} {a1 : Int32} {c : Nat} {st : Nat → Nat} (hM : isLd LS rm) (hc : im 7 1 = nI c) (hc2 : c ≤ 40) (hst : ∀ p, p < 4 → im (8 * p + 339) 1 = nI (st p) ∧ st p ≤ 40) (hh : ∀ p, p < 4 → im (8 * p + 339) 0 ≠ 0 → im (8 * p + 340) 2 = nI (st p)) (hC : okC im c) (h1 : ∀ p, p < 4 → a1 = nI p → im (8 * p + 339) 0 ≠ 0 → st p < c → P (some (.int (nI (apS p (st p) (en_u2 im (8 * p + 339) 1 (nI (st p + 1))) (szv im (chv im (st p)))).2))) (apN p (st p) (en_u2 im (8 * p + 339) 1 (nI (st p + 1))))) (h0 : (∀ p, ¬ (p < 4 ∧ a1 = nI p ∧ im (8 * p + 339) 0 ≠ 0 ∧ st p < c)) → P (some (.int (-1))) im) : Gm LS rm 10 0 (en_in 10 [.ref 1, .int a1]) [] im P := by
  show Gm LS rm 10 0 [.ref (1), .int (a1)] [] im P
  refine g_aload_n k10_0 rfl ?_
  refine g_iload_n k10_1 rfl ?_
  refine g_inv1 k10_2 (hM.1.1) rfl (by decide) (Nat.le_of_ble_eq_true rfl) (c34 (c := c) hM hc (fun p hp e hu hlt => ?_) (fun h => ?_))
  · subst e
    have hs := hst p hp
    rw [hs.1] at hlt
    have hlt := (nI_ltI (by omega) (by omega)).mp hlt
    have hag : ∀ b, b < 339 → (en_u2 im (8 * p + 339) 1 (nI (st p + 1))) b = im b := fun b hb => en_u2_off (by omega)
    have hch : chv im (st p) < 60 := (hC (st p) hlt).1.2
    refine g_if_ne k10_5 (fun _ => ?_) (fun h => absurd h (by decide))
    refine g_aload_n k10_10 rfl ?_
    refine g_getr k10_11 (hM.1.1) (by decide) (hM.1.2.2.2.2.2.2.2.1) ?_
    refine g_iload_n k10_14 rfl ?_
    refine g_aalv (t := 4) k10_15 (hM.1.2.2.2.2.2.2.2.2.2.2.2.2.2.2.2.1) ⟨_, rfl⟩ (hp) (by decide) ((hM.2.2.2.2.2 p (hp)).1) ?_
    refine g_dup k10_16 rfl ?_
    refine g_getv (v := nI (st p)) k10_17 ((hM.2.2.2.2.2 p (hp)).2.1) (by decide) (hs.1) ?_
    refine g_iconst (v := 1) k10_20 ic_1 ?_
    refine g_iadd k10_21 ?_
    refine g_top (y := nI (st p + 1)) (nI_1 _) ?_
    refine g_puti k10_22 (by decide) ((hM.2.2.2.2.2 p (hp)).2.1) (by decide) ?_
    refine g_aload_n k10_25 rfl ?_
    refine g_aload_n k10_26 rfl ?_
    refine g_getr k10_27 (hM.1.1) (by decide) (hM.1.2.2.2.2.2.2.2.1) ?_
    refine g_iload_n k10_30 rfl ?_
    refine g_aalv (t := 4) k10_31 (hM.1.2.2.2.2.2.2.2.2.2.2.2.2.2.2.2.1) ⟨_, rfl⟩ (hp) (by decide) ((hM.2.2.2.2.2 p (hp)).1) ?_
    refine g_inv1 k10_32 (hM.1.1) rfl (by decide) (Nat.le_of_ble_eq_true rfl) (c36 (b := st p) hM hp (fun j hj => okC_ag hag hC j (by omega)) (by omega) (by rw [en_u2_off (by omega)]; exact hh p hp hu) ?_)
    rw [chv_ag hag, szv_ag hag hch]
    exact g_reti k10_35 rfl (h1 p hp rfl hu hlt)
  · refine g_if_ne k10_5 (fun h => absurd (by decide) h) (fun _ => ?_)
    refine g_iconst (v := -1) k10_8 ic_m1 ?_
    exact g_reti k10_9 rfl (h0 (fun p2 k2 => by obtain ⟨q1, q2, q3, q4⟩ := k2; have z := h p2 q1 q2 q3; rw [(hst p2 q1).1] at z; exact nI_ge q4 (by omega) z))

