theorem ad_c_0 {ver c : Nat → Int32} {r lo : Nat} : ad_c ver c r lo 0 = c := by
  funext k
  unfold ad_c
  rw [if_neg (by omega)]
theorem ad_c_s {ver c : Nat → Int32} {r lo i : Nat} : (fun k => if k = 16 * (1 + r) + (lo + i) then ver (lo + i) else ad_c ver c r lo i k) = ad_c ver c r lo (i + 1) := by
  funext k
  unfold ad_c
  by_cases h : k = 16 * (1 + r) + (lo + i)
  · rw [if_pos h, if_pos (by omega)]
    congr 1
    omega
  · rw [if_neg h]
    by_cases h2 : 16 * (1 + r) + lo ≤ k ∧ k < 16 * (1 + r) + lo + i
    · rw [if_pos h2, if_pos (by omega)]
    · rw [if_neg h2, if_neg (by omega)]
set_option maxRecDepth 20000 in
set_option maxHeartbeats 4000000 in
theorem l53 {LS : Nat} {rm : Nat → Nat → Option Nat} {im : Nat → Nat → Int32} {P : Option Value → (Nat → Nat → Int32) → Prop} {s hi lo r d0 : Nat} (hR : isRn LS rm 10) (hS : isWS LS rm s) (hs : 13 < s) (hhi : hi < 16) (hlo : lo < 16) (hdd : im 10 2 = nI d0) (hd0 : d0 < 8) (hr : im 12 1 = nI r) (hr2 : r < 2) (h1 : P none (en_u2 (en_u2 (en_u2 (en_ur im 13 (ad_c (im (s + 1)) (im 13) r lo (hi + 1 - lo))) 12 1 (nI (r + 1))) 11 d0 (sm (im (s + 2)) lo (hi + 1 - lo))) 10 2 (nI (d0 + 1)))) : ∀ (n i : Nat), i + n = hi + 1 - lo → Gm LS rm 53 33 [.ref (10), .ref (s), .int (nI hi), .int (nI lo), .int (sm (im (s + 2)) lo (i)), .int (nI (lo + i))] [] (en_ur im 13 (ad_c (im (s + 1)) (im 13) r lo (i))) P := by
  intro n
  induction n with
  | zero =>
    intro i hii
    have hie : i = hi + 1 - lo := by omega
    subst hie
    refine g_iload k53_33 rfl ?_
    refine g_iload_n k53_35 rfl ?_
    refine g_icmp_gt k53_36 (fun _ => ?_) (fun h => absurd (nI_lt (by omega) (by omega)) h)
    refine g_aload_n k53_82 rfl ?_
    refine g_getr k53_83 (hR.1) (by decide) (hR.2.2.1) ?_
    refine g_dup k53_86 rfl ?_
    refine g_getv (v := nI r) k53_87 (hR.2.2.2.2.1) (by decide) (by rw [ur_ne (by omega)]; exact hr) ?_
    refine g_iconst (v := 1) k53_90 ic_1 ?_
    refine g_iadd k53_91 ?_
    refine g_top (y := nI (r + 1)) (nI_1 r) ?_
    refine g_puti k53_92 (by decide) (hR.2.2.2.2.1) (by decide) ?_
    refine g_aload_n k53_95 rfl ?_
    refine g_iload k53_96 rfl ?_
    refine g_inv1 k53_98 (hR.1) rfl (by decide) (Nat.le_of_ble_eq_true rfl) (c54 (d := d0) hR (by rw [u2_ne (by omega), ur_ne (by omega)]; exact hdd) (by omega) (fun z => by omega) (fun _ => ?_))
    exact g_retv k53_101 rfl (h1)
  | succ n ih =>
    intro i hii
    have hlt : i < hi + 1 - lo := by omega
    refine g_iload k53_33 rfl ?_
    refine g_iload_n k53_35 rfl ?_
    refine g_icmp_gt k53_36 (fun h => absurd h (nI_nlt (by omega) (by omega))) (fun _ => ?_)
    refine g_aload_n k53_39 rfl ?_
    refine g_getr k53_40 (hR.1) (by decide) (hR.2.2.1) ?_
    refine g_iconst (v := 1) k53_43 ic_1 ?_
    refine g_aload_n k53_44 rfl ?_
    refine g_getr k53_45 (hR.1) (by decide) (hR.2.2.1) ?_
    refine g_getv (v := nI r) k53_48 (hR.2.2.2.2.1) (by decide) (by rw [ur_ne (by omega)]; exact hr) ?_
    refine g_iadd k53_51 ?_
    refine g_top (y := nI (1 + r)) (by rw [show (1 : Int32) = nI 1 from rfl, nI_add]) ?_
    refine g_iload k53_52 rfl ?_
    refine g_aload_n k53_54 rfl ?_
    refine g_getr k53_55 (hS.1) (by decide) (hS.2.1) ?_
    refine g_iload k53_58 rfl ?_
    refine g_ialv (v := im (s + 1) (lo + i)) k53_60 (hS.2.2.2.1) (by omega) (by decide) (by rw [ur_ne (by omega)]) ?_
    refine g_inv3 k53_61 (hR.2.2.2.2.1) rfl rfl rfl (by decide) (Nat.le_of_ble_eq_true rfl) (c61 (a := 12) (r := 1 + r) (k := lo + i) hR.2.2.2.2 (by omega) ?_)
    rw [ur_u2, ad_c_s]
    refine g_iload k53_64 rfl ?_
    refine g_aload_n k53_66 rfl ?_
    refine g_getr k53_67 (hS.1) (by decide) (hS.2.2.1) ?_
    refine g_iload k53_70 rfl ?_
    refine g_ialv (v := im (s + 2) (lo + i)) k53_72 (hS.2.2.2.2) (by omega) (by decide) (by rw [ur_ne (by omega)]) ?_
    refine g_iadd k53_73 ?_
    refine g_istore k53_74 (by decide) rfl ?_
    refine g_iincv (y := nI (lo + (i + 1))) k53_76 rfl (by decide) (inc_1 _) rfl ?_
    refine g_goto k53_79 ?_
    exact ih (i + 1) (by omega)

set_option maxRecDepth 20000 in
set_option maxHeartbeats 4000000 in
theorem c53 {LS : Nat} {rm : Nat → Nat → Option Nat} {im : Nat → Nat → Int32} {P : Option Value → (Nat → Nat → Int32) → Prop} {d s r : Nat} (hR : isRn LS rm 10) (hS : isWS LS rm s) (hs : 13 < s) (hd : im 10 2 = nI d) (hb : d ≤ 8) (hr : im 12 1 = nI r) (hr2 : r ≤ 2) (hF : ¬ (2 ≤ d ∧ r < 2) → ∀ im', rnF im im' → im' 10 4 = 1 → P none im') (h1 : 2 ≤ d → r < 2 → P none (en_u2 (en_u2 (en_u2 (en_ur (en_u2 (en_u2 im 10 2 (nI (d - 1))) 10 2 (nI (d - 2))) 13 (ad_c (im (s + 1)) (im 13) r (kb (im 11 (d - 2))) (kb (im 11 (d - 1)) + 1 - kb (im 11 (d - 2))))) 12 1 (nI (r + 1))) 11 (d - 2) (sm (im (s + 2)) (kb (im 11 (d - 2))) (kb (im 11 (d - 1)) + 1 - kb (im 11 (d - 2))))) 10 2 (nI (d - 2 + 1)))) : Gm LS rm 53 0 (en_in 53 [.ref 10, .ref s]) [] im P := by
  show Gm LS rm 53 0 [.ref (10), .ref (s), .long 0, .long 0, .long 0, .long 0] [] im P
  refine g_aload_n k53_0 rfl ?_
  refine g_inv0 k53_1 (hR.1) (by decide) (Nat.le_of_ble_eq_true rfl) (c56 hR hd hb (fun hz => ?_) (fun hz => ?_))
  · subst hz
    refine g_istore_n k53_4 (by decide) rfl ?_
    refine g_aload_n k53_5 rfl ?_
    refine g_inv0 k53_6 (hR.1) (by decide) (Nat.le_of_ble_eq_true rfl) (c56 (d := 0) hR (by simp [en_u2, hd]) (by decide) (fun _ => ?_) (fun z => absurd z (by decide)))
    refine g_istore_n k53_9 (by decide) rfl ?_
    refine g_aload_n k53_10 rfl ?_
    refine g_getr k53_11 (hR.1) (by decide) (hR.2.2.1) ?_
    refine g_getv (v := nI r) k53_14 (hR.2.2.2.2.1) (by decide) (by simp [en_u2, hr]) ?_
    refine g_iconst (v := 2) k53_17 ic_2 ?_
    refine g_icmp_lt k53_18 (fun e => ?_) (fun e => ?_)
    · have hlt : r < 2 := (nI_ltI (by omega) (by decide)).mp e
      refine g_iconst (v := 0) k53_27 ic_0 ?_
      refine g_istore k53_28 (by decide) rfl ?_
      refine g_iload_n k53_30 rfl ?_
      refine g_istore k53_31 (by decide) rfl ?_
      have := l53 (im := en_u2 (en_u2 im 10 4 1) 10 4 1) (s := s) (hi := 0) (lo := 0) (r := r) (d0 := 0) (P := P) hR hS hs (by decide) (by decide) (by simp [en_u2, hd]) (by decide) (by simp [en_u2, hr]) hlt (hF (by omega) _ (fun c hc => by funext k; simp [en_u2, en_ur, show c ≠ 10 by omega, show c ≠ 11 by omega, show c ≠ 12 by omega, show c ≠ 13 by omega]) (by simp [en_u2, en_ur])) (0 + 1 - 0) 0 (by omega)
      rw [ad_c_0, ur_self] at this
      exact this
    · have hge : ¬ r < 2 := fun z => e (nI_lt (b := 2) z (by decide))
      refine g_aload_n k53_21 rfl ?_
      refine g_iconst (v := 1) k53_22 ic_1 ?_
      refine g_putz k53_23 (by decide) (hR.1) (by decide) (by decide) ?_
      exact g_retv k53_26 rfl (hF (by omega) _ (fun c hc => by funext k; simp [en_u2, en_ur, show c ≠ 10 by omega, show c ≠ 11 by omega, show c ≠ 12 by omega, show c ≠ 13 by omega]) (by simp [en_u2, en_ur]))
  · have hk := kb_lt (im 11 (d - 1))
    refine g_istore_n k53_4 (by decide) rfl ?_
    refine g_aload_n k53_5 rfl ?_
    refine g_inv0 k53_6 (hR.1) (by decide) (Nat.le_of_ble_eq_true rfl) (c56 (d := d - 1) hR (by simp [en_u2]) (by omega) (fun hy => ?_) (fun hy => ?_))
    · refine g_istore_n k53_9 (by decide) rfl ?_
      refine g_aload_n k53_10 rfl ?_
      refine g_getr k53_11 (hR.1) (by decide) (hR.2.2.1) ?_
      refine g_getv (v := nI r) k53_14 (hR.2.2.2.2.1) (by decide) (by simp [en_u2, hr]) ?_
      refine g_iconst (v := 2) k53_17 ic_2 ?_
      refine g_icmp_lt k53_18 (fun e => ?_) (fun e => ?_)
      · have hlt : r < 2 := (nI_ltI (by omega) (by decide)).mp e
        refine g_iconst (v := 0) k53_27 ic_0 ?_
        refine g_istore k53_28 (by decide) rfl ?_
        refine g_iload_n k53_30 rfl ?_
        refine g_istore k53_31 (by decide) rfl ?_
        have := l53 (im := en_u2 (en_u2 im 10 2 (nI (d - 1))) 10 4 1) (s := s) (hi := kb (im 11 (d - 1))) (lo := 0) (r := r) (d0 := d - 1) (P := P) hR hS hs hk (by decide) (by simp [en_u2]) (by omega) (by simp [en_u2, hr]) hlt (hF (by omega) _ (fun c hc => by funext k; simp [en_u2, en_ur, show c ≠ 10 by omega, show c ≠ 11 by omega, show c ≠ 12 by omega, show c ≠ 13 by omega]) (by simp [en_u2, en_ur])) (kb (im 11 (d - 1)) + 1 - 0) 0 (by omega)
        rw [ad_c_0, ur_self] at this
        exact this
      · have hge : ¬ r < 2 := fun z => e (nI_lt (b := 2) z (by decide))
        refine g_aload_n k53_21 rfl ?_
        refine g_iconst (v := 1) k53_22 ic_1 ?_
        refine g_putz k53_23 (by decide) (hR.1) (by decide) (by decide) ?_
        exact g_retv k53_26 rfl (hF (by omega) _ (fun c hc => by funext k; simp [en_u2, en_ur, show c ≠ 10 by omega, show c ≠ 11 by omega, show c ≠ 12 by omega, show c ≠ 13 by omega]) (by simp [en_u2, en_ur]))
    · refine g_istore_n k53_9 (by decide) rfl ?_
      have ed : d - 1 - 1 = d - 2 := by omega
      rw [ed]
      rw [u2_ne (by omega)]
      have hk2 := kb_lt (im 11 (d - 2))
      refine g_aload_n k53_10 rfl ?_
      refine g_getr k53_11 (hR.1) (by decide) (hR.2.2.1) ?_
      refine g_getv (v := nI r) k53_14 (hR.2.2.2.2.1) (by decide) (by simp [en_u2, hr]) ?_
      refine g_iconst (v := 2) k53_17 ic_2 ?_
      refine g_icmp_lt k53_18 (fun e => ?_) (fun e => ?_)
      · have hlt : r < 2 := (nI_ltI (by omega) (by decide)).mp e
        refine g_iconst (v := 0) k53_27 ic_0 ?_
        refine g_istore k53_28 (by decide) rfl ?_
        refine g_iload_n k53_30 rfl ?_
        refine g_istore k53_31 (by decide) rfl ?_
        have h1 := h1 (by omega) hlt
        have := l53 (im := en_u2 (en_u2 im 10 2 (nI (d - 1))) 10 2 (nI (d - 2))) (s := s) (hi := kb (im 11 (d - 1))) (lo := kb (im 11 (d - 2))) (r := r) (d0 := d - 2) (P := P) hR hS hs hk hk2 (by simp [en_u2]) (by omega) (by simp [en_u2, hr]) hlt (by
          rw [en_u2_off (b := s + 1) (by omega), en_u2_off (b := s + 1) (by omega), en_u2_off (b := s + 2) (by omega), en_u2_off (b := s + 2) (by omega), en_u2_off (b := 13) (by omega), en_u2_off (b := 13) (by omega)]
          exact h1) (kb (im 11 (d - 1)) + 1 - kb (im 11 (d - 2))) 0 (by omega)
        rw [ad_c_0, ur_self] at this
        exact this
      · have hge : ¬ r < 2 := fun z => e (nI_lt (b := 2) z (by decide))
        refine g_aload_n k53_21 rfl ?_
        refine g_iconst (v := 1) k53_22 ic_1 ?_
        refine g_putz k53_23 (by decide) (hR.1) (by decide) (by decide) ?_
        exact g_retv k53_26 rfl (hF (by omega) _ (fun c hc => by funext k; simp [en_u2, en_ur, show c ≠ 10 by omega, show c ≠ 11 by omega, show c ≠ 12 by omega, show c ≠ 13 by omega]) (by simp [en_u2, en_ur]))

set_option maxRecDepth 20000 in
set_option maxHeartbeats 4000000 in
theorem c51_7 {LS : Nat} {rm : Nat → Nat → Option Nat} {im : Nat → Nat → Int32} {P : Option Value → (Nat → Nat → Int32) → Prop} {d s r : Nat} (hR : isRn LS rm 10) (hS : isWS LS rm s) (hs : 13 < s) (hd : im 10 2 = nI d) (hb : d ≤ 8) (hr : im 12 1 = nI r) (hr2 : r ≤ 2) (hF : ¬ (1 ≤ d) → ∀ im', rnF im im' → im' 10 4 = 1 → P none im') (h1 : 1 ≤ d → P none (en_u2 (en_u2 (en_u2 (en_u2 im 10 2 (nI (d - 1))) 13 (kb (im 11 (d - 1))) (im (s + 1) (kb (im 11 (d - 1))))) 11 (d - 1) (im (s + 2) (kb (im 11 (d - 1))))) 10 2 (nI (d - 1 + 1)))) : Gm LS rm 51 0 (en_in 51 [.ref 10, .int (nI 7), .ref s]) [] im P := by
  show Gm LS rm 51 0 [.ref (10), .int (nI 7), .ref (s), .long 0] [] im P
  refine g_iload_n k51_0 rfl ?_
  refine g_tabI (tgt := 32) k51_1 (by decide) (by decide) rfl (by decide) ?_
  refine g_aload_n k51_32 rfl ?_
  refine g_aload_n k51_33 rfl ?_
  refine g_inv1 k51_34 (hR.1) rfl (by decide) (Nat.le_of_ble_eq_true rfl) (c52 hR hS hs hd hb (fun hn im' hf he => ?_) (fun hz => ?_))
  · refine g_goto k51_37 ?_
    exact g_retv k51_85 rfl (hF hn im' hf he)
  · refine g_goto k51_37 ?_
    exact g_retv k51_85 rfl (h1 hz)

set_option maxRecDepth 20000 in
set_option maxHeartbeats 4000000 in
theorem c51_10 {LS : Nat} {rm : Nat → Nat → Option Nat} {im : Nat → Nat → Int32} {P : Option Value → (Nat → Nat → Int32) → Prop} {d s r : Nat} (hR : isRn LS rm 10) (hS : isWS LS rm s) (hs : 13 < s) (hd : im 10 2 = nI d) (hb : d ≤ 8) (hr : im 12 1 = nI r) (hr2 : r ≤ 2) (hF : ¬ (2 ≤ d ∧ r < 2) → ∀ im', rnF im im' → im' 10 4 = 1 → P none im') (h1 : 2 ≤ d → r < 2 → P none (en_u2 (en_u2 (en_u2 (en_ur (en_u2 (en_u2 im 10 2 (nI (d - 1))) 10 2 (nI (d - 2))) 13 (ad_c (im (s + 1)) (im 13) r (kb (im 11 (d - 2))) (kb (im 11 (d - 1)) + 1 - kb (im 11 (d - 2))))) 12 1 (nI (r + 1))) 11 (d - 2) (sm (im (s + 2)) (kb (im 11 (d - 2))) (kb (im 11 (d - 1)) + 1 - kb (im 11 (d - 2))))) 10 2 (nI (d - 2 + 1)))) : Gm LS rm 51 0 (en_in 51 [.ref 10, .int (nI 10), .ref s]) [] im P := by
  show Gm LS rm 51 0 [.ref (10), .int (nI 10), .ref (s), .long 0] [] im P
  refine g_iload_n k51_0 rfl ?_
  refine g_tabI (tgt := 77) k51_1 (by decide) (by decide) rfl (by decide) ?_
  refine g_aload_n k51_77 rfl ?_
  refine g_aload_n k51_78 rfl ?_
  refine g_inv1 k51_79 (hR.1) rfl (by decide) (Nat.le_of_ble_eq_true rfl) (c53 hR hS hs hd hb hr hr2 (fun hn im' hf he => ?_) (fun hz hy => ?_))
  · refine g_goto k51_82 ?_
    exact g_retv k51_85 rfl (hF hn im' hf he)
  · refine g_goto k51_82 ?_
    exact g_retv k51_85 rfl (h1 hz hy)

set_option maxRecDepth 20000 in
set_option maxHeartbeats 4000000 in
theorem c51_9 {LS : Nat} {rm : Nat → Nat → Option Nat} {im : Nat → Nat → Int32} {P : Option Value → (Nat → Nat → Int32) → Prop} {d s r : Nat} (hR : isRn LS rm 10) (hS : isWS LS rm s) (hs : 13 < s) (hd : im 10 2 = nI d) (hb : d ≤ 8) (hr : im 12 1 = nI r) (hr2 : r ≤ 2) (hF : ¬ (1 ≤ d) → ∀ im', rnF im im' → im' 10 4 = 1 → P none im') (h1 : 1 ≤ d → P none (en_u2 (en_u2 (en_u2 im 10 2 (nI (d - 1))) 13 (48 + kb (im 11 (d - 1))) 2) 13 (64 + kb (im 11 (d - 1))) 0)) : Gm LS rm 51 0 (en_in 51 [.ref 10, .int (nI 9), .ref s]) [] im P := by
  show Gm LS rm 51 0 [.ref (10), .int (nI 9), .ref (s), .long 0] [] im P
  refine g_iload_n k51_0 rfl ?_
  refine g_tabI (tgt := 61) k51_1 (by decide) (by decide) rfl (by decide) ?_
  refine g_aload_n k51_61 rfl ?_
  refine g_getr k51_62 (hR.1) (by decide) (hR.2.2.1) ?_
  refine g_aload_n k51_65 rfl ?_
  refine g_inv0 k51_66 (hR.1) (by decide) (Nat.le_of_ble_eq_true rfl) (c56 hR hd hb (fun hz => ?_) (fun hz => ?_))
  · refine g_iconst (v := 2) k51_69 ic_2 ?_
    refine g_iconst (v := 0) k51_70 ic_0 ?_
    refine g_inv3 k51_71 (hR.2.2.2.2.1) rfl rfl rfl (by decide) (Nat.le_of_ble_eq_true rfl) (c62 (a := 12) (k := 0) hR.2.2.2.2 (by decide) ?_)
    refine g_goto k51_74 ?_
    exact g_retv k51_85 rfl (hF (by omega) _ (fun c hc => by funext k; simp [en_u2, en_ur, show c ≠ 10 by omega, show c ≠ 11 by omega, show c ≠ 12 by omega, show c ≠ 13 by omega]) (by simp [en_u2, en_ur]))
  · refine g_iconst (v := 2) k51_69 ic_2 ?_
    refine g_iconst (v := 0) k51_70 ic_0 ?_
    refine g_inv3 k51_71 (hR.2.2.2.2.1) rfl rfl rfl (by decide) (Nat.le_of_ble_eq_true rfl) (c62 (a := 12) (k := kb (im 11 (d - 1))) hR.2.2.2.2 (kb_lt _) ?_)
    refine g_goto k51_74 ?_
    exact g_retv k51_85 rfl (h1 hz)

set_option maxRecDepth 20000 in
set_option maxHeartbeats 4000000 in
theorem c51_8 {LS : Nat} {rm : Nat → Nat → Option Nat} {im : Nat → Nat → Int32} {P : Option Value → (Nat → Nat → Int32) → Prop} {d s r : Nat} (hR : isRn LS rm 10) (hS : isWS LS rm s) (hs : 13 < s) (hd : im 10 2 = nI d) (hb : d ≤ 8) (hr : im 12 1 = nI r) (hr2 : r ≤ 2) (hF : ¬ (2 ≤ d) → ∀ im', rnF im im' → im' 10 4 = 1 → P none im') (h1 : 2 ≤ d → P none (en_u2 (en_u2 (en_u2 (en_u2 im 10 2 (nI (d - 1))) 10 2 (nI (d - 2))) 13 (48 + kb (im 11 (d - 2))) 1) 13 (64 + kb (im 11 (d - 2))) (im 11 (d - 1)))) : Gm LS rm 51 0 (en_in 51 [.ref 10, .int (nI 8), .ref s]) [] im P := by
  show Gm LS rm 51 0 [.ref (10), .int (nI 8), .ref (s), .long 0] [] im P
  refine g_iload_n k51_0 rfl ?_
  refine g_tabI (tgt := 40) k51_1 (by decide) (by decide) rfl (by decide) ?_
  refine g_aload_n k51_40 rfl ?_
  refine g_inv0 k51_41 (hR.1) (by decide) (Nat.le_of_ble_eq_true rfl) (c55 hR hd hb (fun hz => ?_) (fun hz => ?_))
  · subst hz
    refine g_istore_n k51_44 (by decide) rfl ?_
    refine g_aload_n k51_45 rfl ?_
    refine g_getr k51_46 (hR.1) (by decide) (hR.2.2.1) ?_
    refine g_aload_n k51_49 rfl ?_
    refine g_inv0 k51_50 (hR.1) (by decide) (Nat.le_of_ble_eq_true rfl) (c56 (d := 0) hR (by simp [en_u2, hd]) (by decide) (fun _ => ?_) (fun z => absurd z (by decide)))
    refine g_iconst (v := 1) k51_53 ic_1 ?_
    refine g_iload_n k51_54 rfl ?_
    refine g_inv3 k51_55 (hR.2.2.2.2.1) rfl rfl rfl (by decide) (Nat.le_of_ble_eq_true rfl) (c62 (a := 12) (k := 0) hR.2.2.2.2 (by decide) ?_)
    refine g_goto k51_58 ?_
    exact g_retv k51_85 rfl (hF (by omega) _ (fun c hc => by funext k; simp [en_u2, en_ur, show c ≠ 10 by omega, show c ≠ 11 by omega, show c ≠ 12 by omega, show c ≠ 13 by omega]) (by simp [en_u2, en_ur]))
  · refine g_istore_n k51_44 (by decide) rfl ?_
    refine g_aload_n k51_45 rfl ?_
    refine g_getr k51_46 (hR.1) (by decide) (hR.2.2.1) ?_
    refine g_aload_n k51_49 rfl ?_
    refine g_inv0 k51_50 (hR.1) (by decide) (Nat.le_of_ble_eq_true rfl) (c56 (d := d - 1) hR (by simp [en_u2]) (by omega) (fun hy => ?_) (fun hy => ?_))
    · refine g_iconst (v := 1) k51_53 ic_1 ?_
      refine g_iload_n k51_54 rfl ?_
      refine g_inv3 k51_55 (hR.2.2.2.2.1) rfl rfl rfl (by decide) (Nat.le_of_ble_eq_true rfl) (c62 (a := 12) (k := 0) hR.2.2.2.2 (by decide) ?_)
      refine g_goto k51_58 ?_
      exact g_retv k51_85 rfl (hF (by omega) _ (fun c hc => by funext k; simp [en_u2, en_ur, show c ≠ 10 by omega, show c ≠ 11 by omega, show c ≠ 12 by omega, show c ≠ 13 by omega]) (by simp [en_u2, en_ur]))
    · have ed : d - 1 - 1 = d - 2 := by omega
      rw [ed]
      rw [u2_ne (by omega)]
      refine g_iconst (v := 1) k51_53 ic_1 ?_
      refine g_iload_n k51_54 rfl ?_
      refine g_inv3 k51_55 (hR.2.2.2.2.1) rfl rfl rfl (by decide) (Nat.le_of_ble_eq_true rfl) (c62 (a := 12) (k := kb (im 11 (d - 2))) hR.2.2.2.2 (kb_lt _) ?_)
      refine g_goto k51_58 ?_
      exact g_retv k51_85 rfl (h1 (by omega))

