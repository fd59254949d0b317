def cp1 (im : Nat → Nat → Int32) (a b l : Nat) (mv : Prop) [Decidable mv] : Nat → Nat → Int32 := if mv then en_u2 (en_u2 (en_u2 im (3 * b + 331) 1 (nI l)) (3 * b + 332) l (im (3 * a + 332) l)) (3 * b + 331) 1 (nI (l + 1)) else im
def cp2 (im : Nat → Nat → Int32) (a b l : Nat) (mv : Prop) [Decidable mv] : Nat → Nat → Int32 := en_u2 (cp1 im a b l mv) (3 * b + 330) 1 (im (3 * a + 330) 1)
def cpn (n : Nat → Nat) (b l : Nat) (mv : Prop) [Decidable mv] : Nat → Nat := fun o => if o = b ∧ mv then l + 1 else n o
def cp3 (im : Nat → Nat → Int32) (a c N : Nat) : Nat → Nat → Int32 := if c < N then en_u2 (en_ur im 8 (va_cpy (im (3 * a + 332)) (im 8) 0 0 N)) 7 1 (nI N) else im
theorem cp2_at {im : Nat → Nat → Int32} {a b l : Nat} {mv : Prop} [Decidable mv] {c : Nat} (h : c < 330 ∨ 338 < c ∨ ((c = 3 * a + 330 ∨ c = 3 * a + 331 ∨ c = 3 * a + 332) ∧ a ≠ b)) (hb : b < 3) : cp2 im a b l mv c = im c := by
  unfold cp2 cp1
  rw [en_u2_off (by omega)]
  split
  · rw [en_u2_off (by omega), en_u2_off (by omega), en_u2_off (by omega)]
  · rfl
theorem cp2_n {im : Nat → Nat → Int32} {n : Nat → Nat} {a b l : Nat} {mv : Prop} [Decidable mv] (hb : b < 3) (hl : l < 40 ∨ ¬ mv) (hn : ∀ o, o < 3 → im (3 * o + 331) 1 = nI (n o) ∧ n o ≤ 40) : ∀ o, o < 3 → cp2 im a b l mv (3 * o + 331) 1 = nI (cpn n b l mv o) ∧ cpn n b l mv o ≤ 40 := by
  intro o ho
  have h1 := hn o ho
  unfold cp2 cp1 cpn
  rw [u2_ne (by omega)]
  by_cases hm : mv
  · rw [if_pos hm]
    by_cases hob : o = b
    · subst hob
      rw [if_pos ⟨rfl, hm⟩, u2_eq]
      exact ⟨rfl, by rcases hl with z | z; omega; exact absurd hm z⟩
    · rw [if_neg (fun z => hob z.1), u2_ne (by omega), u2_ne (by omega), u2_ne (by omega)]
      exact h1
  · rw [if_neg hm, if_neg (fun z => hm z.2)]
    exact h1
set_option maxRecDepth 20000 in
set_option maxHeartbeats 4000000 in
theorem x8 {LS : Nat} {rm : Nat → Nat → Option Nat} {im : Nat → Nat → Int32} {P : Option Value → (Nat → Nat → Int32) → Prop} {a1 a2 : Int32} {c : Nat} {n : Nat → Nat} (hM : isLd LS rm) (hc : im 7 1 = nI c) (hc2 : c ≤ 40) (hn : ∀ o, o < 3 → im (3 * o + 331) 1 = nI (n o) ∧ n o ≤ 40) (hg : ∀ o, o < 3 → ∀ i, i < n o → isN (im (3 * o + 332) i) 60) (h1 : ∀ a b, a < 3 → b < 3 → a1 = nI a → a2 = nI b → im 1 8 = nI a → a ≠ b → im (3 * b + 330) 0 ≠ 0 → ∀ l, l ≤ n a → l ≤ n b → (∀ k, k < l → im (3 * a + 332) k = im (3 * b + 332) k) → (l < n a → l < n b → im (3 * a + 332) l ≠ im (3 * b + 332) l) → ∀ N, N ≤ n a → (N = 0 ∨ agQ (cp2 im a b l (l < n a)) (cpn n b l (l < n a)) a N) → (∀ c, N < c → c ≤ n a → ¬ agQ (cp2 im a b l (l < n a)) (cpn n b l (l < n a)) a c) → P (some (.int (if l < n a then 1 else 0))) (cp3 (cp2 im a b l (l < n a)) a c N)) (h0 : (∀ a b, ¬ (a < 3 ∧ b < 3 ∧ a1 = nI a ∧ a2 = nI b ∧ im 1 8 = nI a ∧ a ≠ b ∧ im (3 * b + 330) 0 ≠ 0)) → P (some (.int (-1))) im) : Gm LS rm 8 0 (en_in 8 [.ref 1, .int a1, .int a2]) [] im P := by
  show Gm LS rm 8 0 [.ref (1), .int (a1), .int (a2), .long 0, .long 0] [] im P
  refine g_aload_n k8_0 rfl ?_
  refine g_iload_n k8_1 rfl ?_
  refine g_inv1 k8_2 (hM.1.1) rfl (by decide) (Nat.le_of_ble_eq_true rfl) (c21 hM (fun a ha e hl => ?_) (fun h => ?_))
  · subst e
    refine g_if_eq k8_5 (fun h => absurd h (by decide)) (fun _ => ?_)
    refine g_iload_n k8_8 rfl ?_
    refine g_iconst (v := 3) k8_9 ic_3 ?_
    refine g_invS2 k8_10 rfl rfl (by decide) (Nat.le_of_ble_eq_true rfl) (c19n 3 (by decide) (fun b hb e2 => ?_) (fun h => ?_))
    · subst e2
      refine g_if_eq k8_13 (fun h => absurd h (by decide)) (fun _ => ?_)
      refine g_iload_n k8_16 rfl ?_
      refine g_iload_n k8_17 rfl ?_
      refine g_icmp_eq k8_18 (fun g => ?_) (fun g => ?_)
      · refine g_iconst (v := -1) k8_33 ic_m1 ?_
        exact g_reti k8_34 rfl (h0 (fun o2 b2 k2 => by obtain ⟨q1, q2, q3, q4, q5, q6, q7⟩ := k2; have z1 := nI_inj q3 (by omega) (by omega); have z2 := nI_inj q4 (by omega) (by omega); have z3 := nI_inj g (by omega) (by omega); omega))
      · have hab : a ≠ b := fun z => g (by rw [z])
        refine g_aload_n k8_21 rfl ?_
        refine g_getr k8_22 (hM.1.1) (by decide) (hM.1.2.2.2.2.2.1) ?_
        refine g_iload_n k8_25 rfl ?_
        refine g_aalv (t := 3) k8_26 (hM.1.2.2.2.2.2.2.2.2.2.2.2.2.2.1) ⟨_, rfl⟩ (hb) (by decide) ((hM.2.2.2.2.1 b (hb)).1) ?_
        refine g_geti k8_27 ((hM.2.2.2.2.1 b (hb)).2.1) (by decide) ?_
        refine g_if_ne k8_30 (fun d => ?_) (fun d => ?_)
        · have hna := hn a ha
          have hnb := hn b hb
          refine g_aload_n k8_35 rfl ?_
          refine g_getr k8_36 (hM.1.1) (by decide) (hM.1.2.2.2.2.2.1) ?_
          refine g_iload_n k8_39 rfl ?_
          refine g_aalv (t := 3) k8_40 (hM.1.2.2.2.2.2.2.2.2.2.2.2.2.2.1) ⟨_, rfl⟩ (ha) (by decide) ((hM.2.2.2.2.1 a (ha)).1) ?_
          refine g_getr k8_41 ((hM.2.2.2.2.1 a (ha)).2.1) (by decide) ((hM.2.2.2.2.1 a (ha)).2.2.1) ?_
          refine g_aload_n k8_44 rfl ?_
          refine g_getr k8_45 (hM.1.1) (by decide) (hM.1.2.2.2.2.2.1) ?_
          refine g_iload_n k8_48 rfl ?_
          refine g_aalv (t := 3) k8_49 (hM.1.2.2.2.2.2.2.2.2.2.2.2.2.2.1) ⟨_, rfl⟩ (hb) (by decide) ((hM.2.2.2.2.1 b (hb)).1) ?_
          refine g_getr k8_50 ((hM.2.2.2.2.1 b (hb)).2.1) (by decide) ((hM.2.2.2.2.1 b (hb)).2.2.1) ?_
          refine g_invS2 k8_53 rfl rfl (by decide) (Nat.le_of_ble_eq_true rfl) (c28 (a := 3 * a + 331) (b := 3 * b + 331) (na := n a) (nb := n b) (hM.2.2.2.2.1 a ha).2.2.2 (hM.2.2.2.2.1 b hb).2.2.2 (by omega) hna.1 hnb.1 hna.2 hnb.2 (fun l q1 q2 q3 q4 hge => ?_) (fun l q1 q2 q3 q4 hm => ?_))
          · have hm : ¬ l < n a := by omega
            refine g_istore_n k8_56 (by decide) rfl ?_
            have hcp : cp1 im a b l (l < n a) = im := if_neg hm
            refine g_aload_n k8_57 rfl ?_
            refine g_getr k8_58 (hM.1.1) (by decide) (hM.1.2.2.2.2.2.1) ?_
            refine g_iload_n k8_61 rfl ?_
            refine g_aalv (t := 3) k8_62 (hM.1.2.2.2.2.2.2.2.2.2.2.2.2.2.1) ⟨_, rfl⟩ (hb) (by decide) ((hM.2.2.2.2.1 b (hb)).1) ?_
            refine g_aload_n k8_63 rfl ?_
            refine g_getr k8_64 (hM.1.1) (by decide) (hM.1.2.2.2.2.2.1) ?_
            refine g_iload_n k8_67 rfl ?_
            refine g_aalv (t := 3) k8_68 (hM.1.2.2.2.2.2.2.2.2.2.2.2.2.2.1) ⟨_, rfl⟩ (ha) (by decide) ((hM.2.2.2.2.1 a (ha)).1) ?_
            refine g_getv (v := im (3 * a + 330) 1) k8_69 ((hM.2.2.2.2.1 a (ha)).2.1) (by decide) (by rfl) ?_
            refine g_puti k8_72 (by decide) ((hM.2.2.2.2.1 b (hb)).2.1) (by decide) ?_
            have hc2m : en_u2 im (3 * b + 330) 1 (im (3 * a + 330) 1) = cp2 im a b l (l < n a) := by unfold cp2; rw [hcp]
            rw [hc2m]
            have hmemo := @cp2_at im a b l (l < n a) _
            have hnn := cp2_n (im := im) (n := n) (a := a) (b := b) (l := l) (mv := l < n a) hb (by omega) hn
            have hna2 : cpn n b l (l < n a) a = n a := if_neg (fun z => hab z.1)
            refine g_aload_n k8_75 rfl ?_
            refine g_iload_n k8_76 rfl ?_
            refine g_inv1 k8_77 (hM.1.1) rfl (by decide) (Nat.le_of_ble_eq_true rfl) (c29 (a := a) (n := cpn n b l (l < n a)) hM ha hnn (fun i hi => by rw [hna2] at hi; rw [hmemo (Or.inr (Or.inr ⟨Or.inr (Or.inr rfl), hab⟩)) hb]; exact hg a ha i hi) (fun N w1 w2 w3 => ?_))
            rw [hna2] at w1 w3
            have hfin := h1 a b ha hb rfl rfl hl hab d l q1 q2 q3 q4 N w1 w2 w3
            rw [if_neg hm] at hfin
            refine g_istore k8_80 (by decide) rfl ?_
            refine g_iload k8_82 rfl ?_
            refine g_aload_n k8_84 rfl ?_
            refine g_getr k8_85 (hM.1.1) (by decide) (hM.1.2.2.2.2.2.2.1) ?_
            refine g_getv (v := nI c) k8_88 (hM.1.2.2.2.2.2.2.2.2.2.2.2.2.2.2.1.1) (by decide) (by rw [hmemo (by omega) hb]; exact hc) ?_
            refine g_icmp_le k8_91 (fun j => ?_) (fun j => ?_)
            · have hcn : ¬ c < N := fun z => nI_ge z (by omega) j
              have e3 : cp3 (cp2 im a b l (l < n a)) a c N = cp2 im a b l (l < n a) := if_neg hcn
              rw [e3] at hfin
              refine g_iload_n k8_112 rfl ?_
              exact g_reti k8_113 rfl (hfin)
            · have hcn : c < N := Nat.not_le.mp (fun z => j (nI_le z (by omega)))
              have e3 : cp3 (cp2 im a b l (l < n a)) a c N = en_u2 (en_ur (cp2 im a b l (l < n a)) 8 (va_cpy (cp2 im a b l (l < n a) (3 * a + 332)) (cp2 im a b l (l < n a) 8) 0 0 N)) 7 1 (nI N) := if_pos hcn
              rw [e3] at hfin
              refine g_aload_n k8_94 rfl ?_
              refine g_getr k8_95 (hM.1.1) (by decide) (hM.1.2.2.2.2.2.2.1) ?_
              refine g_aload_n k8_98 rfl ?_
              refine g_getr k8_99 (hM.1.1) (by decide) (hM.1.2.2.2.2.2.1) ?_
              refine g_iload_n k8_102 rfl ?_
              refine g_aalv (t := 3) k8_103 (hM.1.2.2.2.2.2.2.2.2.2.2.2.2.2.1) ⟨_, rfl⟩ (ha) (by decide) ((hM.2.2.2.2.1 a (ha)).1) ?_
              refine g_getr k8_104 ((hM.2.2.2.2.1 a (ha)).2.1) (by decide) ((hM.2.2.2.2.1 a (ha)).2.2.1) ?_
              refine g_iload k8_107 rfl ?_
              refine g_inv2 k8_109 (hM.1.2.2.2.2.2.2.2.2.2.2.2.2.2.2.1.1) rfl rfl (by decide) (Nat.le_of_ble_eq_true rfl) (c80 (a := 7) (b := 3 * a + 331) (n := N) hM.1.2.2.2.2.2.2.2.2.2.2.2.2.2.2.1 (hM.2.2.2.2.1 a ha).2.2.2 (by omega) ?_)
              refine g_iload_n k8_112 rfl ?_
              exact g_reti k8_113 rfl (hfin)
          · refine g_istore_n k8_56 (by decide) rfl ?_
            have hcp : cp1 im a b l (l < n a) = en_u2 (en_u2 (en_u2 im (3 * b + 331) 1 (nI l)) (3 * b + 332) l (im (3 * a + 332) l)) (3 * b + 331) 1 (nI (l + 1)) := if_pos hm
            refine g_aload_n k8_57 rfl ?_
            refine g_getr k8_58 (hM.1.1) (by decide) (hM.1.2.2.2.2.2.1) ?_
            refine g_iload_n k8_61 rfl ?_
            refine g_aalv (t := 3) k8_62 (hM.1.2.2.2.2.2.2.2.2.2.2.2.2.2.1) ⟨_, rfl⟩ (hb) (by decide) ((hM.2.2.2.2.1 b (hb)).1) ?_
            refine g_aload_n k8_63 rfl ?_
            refine g_getr k8_64 (hM.1.1) (by decide) (hM.1.2.2.2.2.2.1) ?_
            refine g_iload_n k8_67 rfl ?_
            refine g_aalv (t := 3) k8_68 (hM.1.2.2.2.2.2.2.2.2.2.2.2.2.2.1) ⟨_, rfl⟩ (ha) (by decide) ((hM.2.2.2.2.1 a (ha)).1) ?_
            refine g_getv (v := im (3 * a + 330) 1) k8_69 ((hM.2.2.2.2.1 a (ha)).2.1) (by decide) (by rw [u2_ne (by omega), u2_ne (by omega), u2_ne (by omega)]) ?_
            refine g_puti k8_72 (by decide) ((hM.2.2.2.2.1 b (hb)).2.1) (by decide) ?_
            have hc2m : en_u2 (en_u2 (en_u2 (en_u2 im (3 * b + 331) 1 (nI l)) (3 * b + 332) l (im (3 * a + 332) l)) (3 * b + 331) 1 (nI (l + 1))) (3 * b + 330) 1 (im (3 * a + 330) 1) = cp2 im a b l (l < n a) := by unfold cp2; rw [hcp]
            rw [hc2m]
            have hmemo := @cp2_at im a b l (l < n a) _
            have hnn := cp2_n (im := im) (n := n) (a := a) (b := b) (l := l) (mv := l < n a) hb (by omega) hn
            have hna2 : cpn n b l (l < n a) a = n a := if_neg (fun z => hab z.1)
            refine g_aload_n k8_75 rfl ?_
            refine g_iload_n k8_76 rfl ?_
            refine g_inv1 k8_77 (hM.1.1) rfl (by decide) (Nat.le_of_ble_eq_true rfl) (c29 (a := a) (n := cpn n b l (l < n a)) hM ha hnn (fun i hi => by rw [hna2] at hi; rw [hmemo (Or.inr (Or.inr ⟨Or.inr (Or.inr rfl), hab⟩)) hb]; exact hg a ha i hi) (fun N w1 w2 w3 => ?_))
            rw [hna2] at w1 w3
            have hfin := h1 a b ha hb rfl rfl hl hab d l q1 q2 q3 q4 N w1 w2 w3
            rw [if_pos hm] at hfin
            refine g_istore k8_80 (by decide) rfl ?_
            refine g_iload k8_82 rfl ?_
            refine g_aload_n k8_84 rfl ?_
            refine g_getr k8_85 (hM.1.1) (by decide) (hM.1.2.2.2.2.2.2.1) ?_
            refine g_getv (v := nI c) k8_88 (hM.1.2.2.2.2.2.2.2.2.2.2.2.2.2.2.1.1) (by decide) (by rw [hmemo (by omega) hb]; exact hc) ?_
            refine g_icmp_le k8_91 (fun j => ?_) (fun j => ?_)
            · have hcn : ¬ c < N := fun z => nI_ge z (by omega) j
              have e3 : cp3 (cp2 im a b l (l < n a)) a c N = cp2 im a b l (l < n a) := if_neg hcn
              rw [e3] at hfin
              refine g_iload_n k8_112 rfl ?_
              exact g_reti k8_113 rfl (hfin)
            · have hcn : c < N := Nat.not_le.mp (fun z => j (nI_le z (by omega)))
              have e3 : cp3 (cp2 im a b l (l < n a)) a c N = en_u2 (en_ur (cp2 im a b l (l < n a)) 8 (va_cpy (cp2 im a b l (l < n a) (3 * a + 332)) (cp2 im a b l (l < n a) 8) 0 0 N)) 7 1 (nI N) := if_pos hcn
              rw [e3] at hfin
              refine g_aload_n k8_94 rfl ?_
              refine g_getr k8_95 (hM.1.1) (by decide) (hM.1.2.2.2.2.2.2.1) ?_
              refine g_aload_n k8_98 rfl ?_
              refine g_getr k8_99 (hM.1.1) (by decide) (hM.1.2.2.2.2.2.1) ?_
              refine g_iload_n k8_102 rfl ?_
              refine g_aalv (t := 3) k8_103 (hM.1.2.2.2.2.2.2.2.2.2.2.2.2.2.1) ⟨_, rfl⟩ (ha) (by decide) ((hM.2.2.2.2.1 a (ha)).1) ?_
              refine g_getr k8_104 ((hM.2.2.2.2.1 a (ha)).2.1) (by decide) ((hM.2.2.2.2.1 a (ha)).2.2.1) ?_
              refine g_iload k8_107 rfl ?_
              refine g_inv2 k8_109 (hM.1.2.2.2.2.2.2.2.2.2.2.2.2.2.2.1.1) rfl rfl (by decide) (Nat.le_of_ble_eq_true rfl) (c80 (a := 7) (b := 3 * a + 331) (n := N) hM.1.2.2.2.2.2.2.2.2.2.2.2.2.2.2.1 (hM.2.2.2.2.1 a ha).2.2.2 (by omega) ?_)
              refine g_iload_n k8_112 rfl ?_
              exact g_reti k8_113 rfl (hfin)
        · refine g_iconst (v := -1) k8_33 ic_m1 ?_
          exact g_reti k8_34 rfl (h0 (fun o2 b2 k2 => by obtain ⟨q1, q2, q3, q4, q5, q6, q7⟩ := k2; have := nI_inj q4 (by omega) (by omega); subst this; exact q7 d))
    · refine g_if_eq k8_13 (fun _ => ?_) (fun h => absurd (by decide) h)
      refine g_iconst (v := -1) k8_33 ic_m1 ?_
      exact g_reti k8_34 rfl (h0 (fun o2 b2 k2 => w_out (by decide) k2.2.1 h k2.2.2.2.1))
  · refine g_if_eq k8_5 (fun _ => ?_) (fun h => absurd (by decide) h)
    refine g_iconst (v := -1) k8_33 ic_m1 ?_
    exact g_reti k8_34 rfl (h0 (fun o2 b2 k2 => h o2 k2.1 k2.2.2.1 k2.2.2.2.2.1))

set_option maxRecDepth 20000 in
set_option maxHeartbeats 4000000 in
theorem x13 {LS : Nat} {rm : Nat → Nat → Option Nat} {im : Nat → Nat → Int32} {P : Option Value → (Nat → Nat → Int32) → Prop} {a1 a2 a3 : Int32} {m : Nat} (hM : isLd LS rm) (hm : im 1 2 = nI m) (hm2 : m ≤ 60) (h1 : ∀ t k r, t < m → k < 16 → r < 5 → a1 = nI t → a2 = nI k → a3 = nI r → im (3 * t + 30) 2 ≠ 0 → P (some (.int (im (3 * t + 32) (16 * r + k)))) im) (h0 : (∀ t k r, ¬ (t < m ∧ k < 16 ∧ r < 5 ∧ a1 = nI t ∧ a2 = nI k ∧ a3 = nI r ∧ im (3 * t + 30) 2 ≠ 0)) → P (some (.int (-1))) im) : Gm LS rm 13 0 (en_in 13 [.ref 1, .int a1, .int a2, .int a3]) [] im P := by
  show Gm LS rm 13 0 [.ref (1), .int (a1), .int (a2), .int (a3), .long 0] [] im P
  refine g_iload_n k13_0 rfl ?_
  refine g_aload_n k13_1 rfl ?_
  refine g_getv (v := nI m) k13_2 (hM.1.1) (by decide) (hm) ?_
  refine g_invS2 k13_5 rfl rfl (by decide) (Nat.le_of_ble_eq_true rfl) (c19n m (by omega) (fun t ht e => ?_) (fun h => ?_))
  · subst e
    refine g_if_eq k13_8 (fun h => absurd h (by decide)) (fun _ => ?_)
    refine g_iload_n k13_11 rfl ?_
    refine g_bipush (v := 16) k13_12 bp_16 ?_
    refine g_invS2 k13_14 rfl rfl (by decide) (Nat.le_of_ble_eq_true rfl) (c19n 16 (by decide) (fun k hk e2 => ?_) (fun h => ?_))
    · subst e2
      refine g_if_eq k13_17 (fun h => absurd h (by decide)) (fun _ => ?_)
      refine g_iload_n k13_20 rfl ?_
      refine g_iconst (v := 5) k13_21 ic_5 ?_
      refine g_invS2 k13_22 rfl rfl (by decide) (Nat.le_of_ble_eq_true rfl) (c19n 5 (by decide) (fun r hr e3 => ?_) (fun h => ?_))
      · subst e3
        refine g_if_ne k13_25 (fun _ => ?_) (fun h => absurd h (by decide))
        refine g_aload_n k13_30 rfl ?_
        refine g_getr k13_31 (hM.1.1) (by decide) (hM.1.2.2.1) ?_
        refine g_iload_n k13_34 rfl ?_
        refine g_aalv (t := 1) k13_35 (hM.1.2.2.2.2.2.2.2.2.2.2.1) ⟨_, rfl⟩ (by omega) (by decide) ((hM.2.2.1 t (by omega)).1) ?_
        refine g_astore k13_36 (by decide) rfl ?_
        refine g_aload k13_38 rfl ?_
        by_cases he : im (3 * t + 30) 2 = 0
        · refine g_inv0 k13_40 ((hM.2.2.1 t (by omega)).2.1) (by decide) (Nat.le_of_ble_eq_true rfl) (c72 (hM.2.2.1 t (by omega)).2 ?_)
          rw [if_pos he]
          refine g_if_eq k13_43 (fun _ => ?_) (fun h => absurd (rfl) h)
          refine g_iconst (v := -1) k13_64 ic_m1 ?_
          exact g_reti k13_65 rfl (h0 (fun t2 k2 r2 kk => by obtain ⟨q1, q2, q3, q4, q5, q6, q7⟩ := kk; have := nI_inj q4 (by omega) (by omega); subst this; exact q7 he))
        · refine g_inv0 k13_40 ((hM.2.2.1 t (by omega)).2.1) (by decide) (Nat.le_of_ble_eq_true rfl) (c72 (hM.2.2.1 t (by omega)).2 ?_)
          rw [if_neg he]
          refine g_if_eq k13_43 (fun h => absurd h (by decide)) (fun _ => ?_)
          refine g_aload k13_46 rfl ?_
          refine g_getr k13_48 ((hM.2.2.1 t (by omega)).2.1) (by decide) ((hM.2.2.1 t (by omega)).2.2.1) ?_
          refine g_getr k13_51 ((hM.2.2.1 t (by omega)).2.2.2.1) (by decide) ((hM.2.2.1 t (by omega)).2.2.2.2.1) ?_
          refine g_iload_n k13_54 rfl ?_
          refine g_bipush (v := 16) k13_55 bp_16 ?_
          refine g_imul k13_57 ?_
          refine g_iload_n k13_58 rfl ?_
          refine g_iadd k13_59 ?_
          refine g_top (y := nI (16 * r + k)) (by rw [show (16 : Int32) = nI 16 from rfl, pk_mul, nI_add, Nat.mul_comm]) ?_
          refine g_ialv k13_60 ((hM.2.2.1 t (by omega)).2.2.2.2.2) (by omega) (by decide) (rfl) ?_
          refine g_goto k13_61 ?_
          exact g_reti k13_65 rfl (h1 t k r ht hk hr rfl rfl rfl he)
      · refine g_if_ne k13_25 (fun h => absurd (by decide) h) (fun _ => ?_)
        refine g_iconst (v := -1) k13_28 ic_m1 ?_
        exact g_reti k13_29 rfl (h0 (fun t2 k2 r2 kk => w_out (by decide) kk.2.2.1 h kk.2.2.2.2.2.1))
    · refine g_if_eq k13_17 (fun _ => ?_) (fun h => absurd (by decide) h)
      refine g_iconst (v := -1) k13_28 ic_m1 ?_
      exact g_reti k13_29 rfl (h0 (fun t2 k2 r2 kk => w_out (by decide) kk.2.1 h kk.2.2.2.2.1))
  · refine g_if_eq k13_8 (fun _ => ?_) (fun h => absurd (by decide) h)
    refine g_iconst (v := -1) k13_28 ic_m1 ?_
    exact g_reti k13_29 rfl (h0 (fun t2 k2 r2 kk => w_out (by omega) kk.1 h kk.2.2.2.1))

theorem tab_out {x : Int32} {n : Nat} (hn : n < 2 ^ 31) (h : x < 0 ∨ nI n ≤ x) : x.toInt < 0 ∨ (n : Int) - 1 < x.toInt := by
  rcases h with h | h
  · exact Or.inl (by simpa using Int32.lt_iff_toInt_lt.mp h)
  · right
    have := Int32.le_iff_toInt_le.mp h
    rw [nI_toInt hn] at this
    omega
set_option maxRecDepth 20000 in
set_option maxHeartbeats 4000000 in
theorem x12 {LS : Nat} {rm : Nat → Nat → Option Nat} {im : Nat → Nat → Int32} {P : Option Value → (Nat → Nat → Int32) → Prop} {a1 a2 : Int32} {m : Nat} (hM : isLd LS rm) (hm : im 1 2 = nI m) (hm2 : m ≤ 60) (h1 : ∀ t q, t < m → q < 7 → a1 = nI t → a2 = nI q → P (some (.int (if q = 0 then im (3 * t + 30) 0 else if q = 1 then im (3 * t + 30) 1 else if q = 2 then im (3 * t + 30) 2 else if q = 3 then nI (cntN (fun k => im (3 * t + 32) (16 * 0 + k)) (-1) 16) else if q = 4 then im (3 * t + 31) 1 else if q = 5 then nI (cntN (fun k => im (3 * t + 32) (16 * 3 + k)) 0 16) else if im (3 * t + 30) 3 = 0 then 0 else 1))) im) (h0 : (∀ t q, ¬ (t < m ∧ q < 7 ∧ a1 = nI t ∧ a2 = nI q)) → P (some (.int (-1))) im) : Gm LS rm 12 0 (en_in 12 [.ref 1, .int a1, .int a2]) [] im P := by
  show Gm LS rm 12 0 [.ref (1), .int (a1), .int (a2), .long 0] [] im P
  refine g_iload_n k12_0 rfl ?_
  refine g_aload_n k12_1 rfl ?_
  refine g_getv (v := nI m) k12_2 (hM.1.1) (by decide) (hm) ?_
  refine g_invS2 k12_5 rfl rfl (by decide) (Nat.le_of_ble_eq_true rfl) (c19n m (by omega) (fun t ht e => ?_) (fun h => ?_))
  · subst e
    refine g_if_ne k12_8 (fun _ => ?_) (fun h => absurd h (by decide))
    refine g_aload_n k12_13 rfl ?_
    refine g_getr k12_14 (hM.1.1) (by decide) (hM.1.2.2.1) ?_
    refine g_iload_n k12_17 rfl ?_
    refine g_aalv (t := 1) k12_18 (hM.1.2.2.2.2.2.2.2.2.2.2.1) ⟨_, rfl⟩ (by omega) (by decide) ((hM.2.2.1 t (by omega)).1) ?_
    refine g_astore_n k12_19 (by decide) rfl ?_
    refine g_iload_n k12_20 rfl ?_
    have ho : (a2 < 0 ∨ nI 7 ≤ a2) ∨ ∃ q, q < 7 ∧ a2 = nI q := by
      rcases pk_ix a2 (n := 7) (by decide) with h | h | h
      · exact Or.inl (Or.inl h)
      · exact Or.inl (Or.inr h)
      · exact Or.inr h
    rcases ho with h | ⟨q, hq, rfl⟩
    · refine g_tabO (tgt := 116) k12_21 (tab_out (n := 7) (by decide) h) (by decide) ?_
      refine g_iconst (v := -1) k12_116 ic_m1 ?_
      exact g_reti k12_117 rfl (h0 (fun t2 q2 k2 => w_out (by decide) k2.2.1 h k2.2.2.2))
    · have h1 := fun z => h1 t z ht
      have hoo : q = 0 ∨ q = 1 ∨ q = 2 ∨ q = 3 ∨ q = 4 ∨ q = 5 ∨ q = 6 := by omega
      rcases hoo with rfl | rfl | rfl | rfl | rfl | rfl | rfl
      · have h1 := h1 0 (by decide) rfl rfl
        simp only [Nat.reduceEqDiff, if_true, if_false, ite_true, ite_false, reduceIte] at h1
        refine g_tabI (tgt := 64) k12_21 (by decide) (by decide) rfl (by decide) ?_
        refine g_aload_n k12_64 rfl ?_
        refine g_geti k12_65 ((hM.2.2.1 t (by omega)).2.1) (by decide) ?_
        exact g_reti k12_68 rfl (h1)
      · have h1 := h1 1 (by decide) rfl rfl
        simp only [Nat.reduceEqDiff, if_true, if_false, ite_true, ite_false, reduceIte] at h1
        refine g_tabI (tgt := 69) k12_21 (by decide) (by decide) rfl (by decide) ?_
        refine g_aload_n k12_69 rfl ?_
        refine g_geti k12_70 ((hM.2.2.1 t (by omega)).2.1) (by decide) ?_
        exact g_reti k12_73 rfl (h1)
      · have h1 := h1 2 (by decide) rfl rfl
        simp only [Nat.reduceEqDiff, if_true, if_false, ite_true, ite_false, reduceIte] at h1
        refine g_tabI (tgt := 74) k12_21 (by decide) (by decide) rfl (by decide) ?_
        refine g_aload_n k12_74 rfl ?_
        refine g_geti k12_75 ((hM.2.2.1 t (by omega)).2.1) (by decide) ?_
        exact g_reti k12_78 rfl (h1)
      · have h1 := h1 3 (by decide) rfl rfl
        simp only [Nat.reduceEqDiff, if_true, if_false, ite_true, ite_false, reduceIte] at h1
        refine g_tabI (tgt := 79) k12_21 (by decide) (by decide) rfl (by decide) ?_
        refine g_aload_n k12_79 rfl ?_
        refine g_getr k12_80 ((hM.2.2.1 t (by omega)).2.1) (by decide) ((hM.2.2.1 t (by omega)).2.2.1) ?_
        refine g_inv0 k12_83 ((hM.2.2.1 t (by omega)).2.2.2.1) (by decide) (Nat.le_of_ble_eq_true rfl) (c63 (hM.2.2.1 t (by omega)).2.2.2 ?_)
        exact g_reti k12_86 rfl (h1)
      · have h1 := h1 4 (by decide) rfl rfl
        simp only [Nat.reduceEqDiff, if_true, if_false, ite_true, ite_false, reduceIte] at h1
        refine g_tabI (tgt := 87) k12_21 (by decide) (by decide) rfl (by decide) ?_
        refine g_aload_n k12_87 rfl ?_
        refine g_getr k12_88 ((hM.2.2.1 t (by omega)).2.1) (by decide) ((hM.2.2.1 t (by omega)).2.2.1) ?_
        refine g_geti k12_91 ((hM.2.2.1 t (by omega)).2.2.2.1) (by decide) ?_
        exact g_reti k12_94 rfl (h1)
      · have h1 := h1 5 (by decide) rfl rfl
        simp only [Nat.reduceEqDiff, if_true, if_false, ite_true, ite_false, reduceIte] at h1
        refine g_tabI (tgt := 95) k12_21 (by decide) (by decide) rfl (by decide) ?_
        refine g_aload_n k12_95 rfl ?_
        refine g_getr k12_96 ((hM.2.2.1 t (by omega)).2.1) (by decide) ((hM.2.2.1 t (by omega)).2.2.1) ?_
        refine g_inv0 k12_99 ((hM.2.2.1 t (by omega)).2.2.2.1) (by decide) (Nat.le_of_ble_eq_true rfl) (c64 (hM.2.2.1 t (by omega)).2.2.2 ?_)
        exact g_reti k12_102 rfl (h1)
      · have h1 := h1 6 (by decide) rfl rfl
        simp only [Nat.reduceEqDiff, if_true, if_false, ite_true, ite_false, reduceIte] at h1
        refine g_tabI (tgt := 103) k12_21 (by decide) (by decide) rfl (by decide) ?_
        refine g_aload_n k12_103 rfl ?_
        refine g_geti k12_104 ((hM.2.2.1 t (by omega)).2.1) (by decide) ?_
        refine g_if_eq k12_107 (fun g => ?_) (fun g => ?_)
        · rw [if_pos g] at h1
          refine g_iconst (v := 0) k12_114 ic_0 ?_
          exact g_reti k12_115 rfl (h1)
        · rw [if_neg g] at h1
          refine g_iconst (v := 1) k12_110 ic_1 ?_
          refine g_goto k12_111 ?_
          exact g_reti k12_115 rfl (h1)
  · refine g_if_ne k12_8 (fun h => absurd (by decide) h) (fun _ => ?_)
    refine g_iconst (v := -1) k12_11 ic_m1 ?_
    exact g_reti k12_12 rfl (h0 (fun t2 q2 k2 => w_out (by omega) k2.1 h k2.2.2.1))

