set_option maxRecDepth 20000 in
set_option maxHeartbeats 4000000 in
theorem y9 {LS : Nat} {rm : Nat → Nat → Option Nat} {im : Nat → Nat → Int32} {P : Option Value → (Nat → Nat → Int32) → Prop} {a1 y : Int32} {st sv : Nat → Nat} (hO : isMo LS rm) (hy : y = 0 ∨ y = 1) (hst : ∀ p, p < 4 → im 403 p = nI (st p) ∧ im 404 p = nI (sv p) ∧ sv p ≤ st p ∧ st p ≤ 40) (h1 : ∀ o, o < 3 → a1 = nI o → im 397 o = y → P (some (.int 0)) (en_u2 (en_u2 im 397 o (if y = 0 then 1 else 0)) 371 34 (if y = 0 ∧ im 371 34 = nI o then -1 else im 371 34))) (h2 : ∀ p, p < 4 → a1 = nI (p + 3) → im 402 p = y → P (some (.int (nI (if y = 0 then 0 else st p - sv p)))) (en_u2 (en_u2 im 402 p (if y = 0 then 1 else 0)) 404 p (nI (if y = 0 then sv p else st p / 4 * 4)))) (h0 : (∀ o, ¬ (o < 3 ∧ a1 = nI o ∧ im 397 o = y)) → (∀ p, ¬ (p < 4 ∧ a1 = nI (p + 3) ∧ im 402 p = y)) → P (some (.int (-1))) im) : Gm LS rm 112 0 (en_in 112 [.ref 371, .int a1, .int y]) [] im P := by
  show Gm LS rm 112 0 [.ref (371), .int (a1), .int (y), .long 0, .long 0] [] im P
  refine g_iload_n k112_0 rfl ?_
  refine g_iconst (v := 0) k112_1 ic_0 ?_
  refine g_bipush (v := 6) k112_2 bp_6 ?_
  refine g_invS3 k112_4 rfl rfl rfl (by decide) (Nat.le_of_ble_eq_true rfl) (c87n 6 (by decide) (fun q hq e => ?_) (fun h => ?_))
  · subst e
    refine g_if_eq k112_7 (fun h9 => absurd h9 (by decide)) (fun _ => ?_)
    refine g_iload_n k112_10 rfl ?_
    refine g_iconst (v := 3) k112_11 ic_3 ?_
    refine g_icmp_ge k112_12 (fun g => ?_) (fun g => ?_)
    · have h3 : 3 ≤ q := (nI_leI (a := 3) (by decide) (by omega)).mp g
      obtain ⟨p, rfl⟩ : ∃ p, q = p + 3 := ⟨q - 3, by omega⟩
      have hp : p < 4 := by omega
      obtain ⟨s1, s2, s3, s4⟩ := hst p hp
      refine g_aload_n k112_28 rfl ?_
      refine g_getr k112_29 (sM371) (by decide) (mo_down hO) ?_
      refine g_iload_n k112_32 rfl ?_
      refine g_iconst (v := 3) k112_33 ic_3 ?_
      refine g_isub k112_34 ?_
      refine g_top (y := nI p) (by rw [show (3 : Int32) = nI 3 from rfl, pk_sub (Nat.le_add_left 3 p), Nat.add_sub_cancel]) ?_
      refine g_zalv k112_35 (sM402) (hp) (by decide) (rfl) ?_
      refine g_iload_n k112_36 rfl ?_
      refine g_icmp_eq k112_37 (fun d => ?_) (fun d => ?_)
      · have h2 := h2 p hp rfl d
        refine g_iload_n k112_42 rfl ?_
        refine g_iconst (v := 3) k112_43 ic_3 ?_
        refine g_icmp_ge k112_44 (fun _ => ?_) (fun h9 => absurd (g) h9)
        rcases hy with rfl | rfl
        · simp only [if_true, ite_true, reduceIte] at h2
          refine g_iload_n k112_88 rfl ?_
          refine g_iconst (v := 3) k112_89 ic_3 ?_
          refine g_isub k112_90 ?_
          refine g_top (y := nI p) (by rw [show (3 : Int32) = nI 3 from rfl, pk_sub (Nat.le_add_left 3 p), Nat.add_sub_cancel]) ?_
          refine g_istore_n k112_91 (by decide) rfl ?_
          refine g_aload_n k112_92 rfl ?_
          refine g_getr k112_93 (sM371) (by decide) (mo_down hO) ?_
          refine g_iload_n k112_96 rfl ?_
          refine g_iload_n k112_97 rfl ?_
          refine g_if_ne k112_98 (fun h9 => absurd (rfl) h9) (fun _ => ?_)
          refine g_iconst (v := 1) k112_101 ic_1 ?_
          refine g_goto k112_102 ?_
          refine g_zasv k112_106 (sM402) (hp) (by decide) (by decide) ?_
          refine g_iload_n k112_107 rfl ?_
          refine g_if_eq k112_108 (fun _ => ?_) (fun h9 => absurd (rfl) h9)
          refine g_iconst (v := 0) k112_127 ic_0 ?_
          refine g_istore k112_128 (by decide) rfl ?_
          refine g_aload_n k112_130 rfl ?_
          refine g_getr k112_131 (sM371) (by decide) (mo_saved hO) ?_
          refine g_iload_n k112_134 rfl ?_
          refine g_iload_n k112_135 rfl ?_
          refine g_if_eq k112_136 (fun _ => ?_) (fun h9 => absurd (rfl) h9)
          refine g_aload_n k112_152 rfl ?_
          refine g_getr k112_153 (sM371) (by decide) (mo_saved hO) ?_
          refine g_iload_n k112_156 rfl ?_
          refine g_ialv (v := nI (sv p)) k112_157 (sM404) (hp) (by decide) (by rw [u2_ne (by omega)]; exact s2) ?_
          refine g_iasv k112_158 (sM404) (hp) (by decide) ?_
          refine g_iload k112_159 rfl ?_
          exact g_reti k112_161 rfl (h2)
        · simp only [show ¬ ((1 : Int32) = 0) by decide, if_false, ite_false, reduceIte] at h2
          refine g_iload_n k112_88 rfl ?_
          refine g_iconst (v := 3) k112_89 ic_3 ?_
          refine g_isub k112_90 ?_
          refine g_top (y := nI p) (by rw [show (3 : Int32) = nI 3 from rfl, pk_sub (Nat.le_add_left 3 p), Nat.add_sub_cancel]) ?_
          refine g_istore_n k112_91 (by decide) rfl ?_
          refine g_aload_n k112_92 rfl ?_
          refine g_getr k112_93 (sM371) (by decide) (mo_down hO) ?_
          refine g_iload_n k112_96 rfl ?_
          refine g_iload_n k112_97 rfl ?_
          refine g_if_ne k112_98 (fun _ => ?_) (fun h9 => absurd h9 (by decide))
          refine g_iconst (v := 0) k112_105 ic_0 ?_
          refine g_zasv k112_106 (sM402) (hp) (by decide) (by decide) ?_
          refine g_iload_n k112_107 rfl ?_
          refine g_if_eq k112_108 (fun h9 => absurd h9 (by decide)) (fun _ => ?_)
          refine g_aload_n k112_111 rfl ?_
          refine g_getr k112_112 (sM371) (by decide) (mo_stored hO) ?_
          refine g_iload_n k112_115 rfl ?_
          refine g_ialv (v := nI (st p)) k112_116 (sM403) (hp) (by decide) (by rw [u2_ne (by omega)]; exact s1) ?_
          refine g_aload_n k112_117 rfl ?_
          refine g_getr k112_118 (sM371) (by decide) (mo_saved hO) ?_
          refine g_iload_n k112_121 rfl ?_
          refine g_ialv (v := nI (sv p)) k112_122 (sM404) (hp) (by decide) (by rw [u2_ne (by omega)]; exact s2) ?_
          refine g_isub k112_123 ?_
          refine g_top (y := nI (st p - sv p)) (pk_sub s3) ?_
          refine g_goto k112_124 ?_
          refine g_istore k112_128 (by decide) rfl ?_
          refine g_aload_n k112_130 rfl ?_
          refine g_getr k112_131 (sM371) (by decide) (mo_saved hO) ?_
          refine g_iload_n k112_134 rfl ?_
          refine g_iload_n k112_135 rfl ?_
          refine g_if_eq k112_136 (fun h9 => absurd h9 (by decide)) (fun _ => ?_)
          refine g_aload_n k112_139 rfl ?_
          refine g_getr k112_140 (sM371) (by decide) (mo_stored hO) ?_
          refine g_iload_n k112_143 rfl ?_
          refine g_ialv (v := nI (st p)) k112_144 (sM403) (hp) (by decide) (by rw [u2_ne (by omega)]; exact s1) ?_
          refine g_iconst (v := 4) k112_145 ic_4 ?_
          refine g_idiv k112_146 (by decide) ?_
          refine g_top (y := nI (st p / 4)) (pk_div (d := 4) (by omega) (by decide) (by decide)) ?_
          refine g_iconst (v := 4) k112_147 ic_4 ?_
          refine g_imul k112_148 ?_
          refine g_top (y := nI (st p / 4 * 4)) (pk_mul _ 4) ?_
          refine g_goto k112_149 ?_
          refine g_iasv k112_158 (sM404) (hp) (by decide) ?_
          refine g_iload k112_159 rfl ?_
          exact g_reti k112_161 rfl (h2)
      · refine g_iconst (v := -1) k112_40 ic_m1 ?_
        exact g_reti k112_41 rfl (h0 (fun o2 k2 => by have := nI_inj k2.2.1 (by omega) (by omega); omega) (fun p2 k2 => by have z := nI_inj k2.2.1 (by omega) (by omega); have z2 : p = p2 := (by omega); subst z2; exact d k2.2.2))
    · have h3 : q < 3 := Nat.not_le.mp (fun z => g (nI_le (a := 3) z (by omega)))
      refine g_aload_n k112_15 rfl ?_
      refine g_getr k112_16 (sM371) (by decide) (mo_off hO) ?_
      refine g_iload_n k112_19 rfl ?_
      refine g_zalv k112_20 (sM397) (h3) (by decide) (rfl) ?_
      refine g_iload_n k112_21 rfl ?_
      refine g_icmp_eq k112_22 (fun d => ?_) (fun d => ?_)
      · have h1 := h1 q h3 rfl d
        refine g_iload_n k112_42 rfl ?_
        refine g_iconst (v := 3) k112_43 ic_3 ?_
        refine g_icmp_ge k112_44 (fun h9 => absurd h9 (g)) (fun _ => ?_)
        rcases hy with rfl | rfl
        · refine g_aload_n k112_47 rfl ?_
          refine g_getr k112_48 (sM371) (by decide) (mo_off hO) ?_
          refine g_iload_n k112_51 rfl ?_
          refine g_iload_n k112_52 rfl ?_
          refine g_if_ne k112_53 (fun h9 => absurd (rfl) h9) (fun _ => ?_)
          refine g_iconst (v := 1) k112_56 ic_1 ?_
          refine g_goto k112_57 ?_
          refine g_zasv k112_61 (sM397) (h3) (by decide) (by decide) ?_
          refine g_aload_n k112_62 rfl ?_
          refine g_iload_n k112_63 rfl ?_
          refine g_if_ne k112_64 (fun h9 => absurd (rfl) h9) (fun _ => ?_)
          refine g_aload_n k112_67 rfl ?_
          refine g_getv (v := im 371 34) k112_68 (sM371) (by decide) (by rw [u2_ne (by omega)]) ?_
          refine g_iload_n k112_71 rfl ?_
          refine g_icmp_ne k112_72 (fun k => ?_) (fun k => ?_)
          · rw [if_pos rfl, if_neg (fun y => k y.2)] at h1
            refine g_aload_n k112_79 rfl ?_
            refine g_getv (v := im 371 34) k112_80 (sM371) (by decide) (by rw [u2_ne (by omega)]) ?_
            refine g_puti k112_83 (by decide) (sM371) (by decide) ?_
            refine g_iconst (v := 0) k112_86 ic_0 ?_
            exact g_reti k112_87 rfl (h1)
          · rw [if_pos rfl, if_pos ⟨rfl, k⟩] at h1
            refine g_iconst (v := -1) k112_75 ic_m1 ?_
            refine g_goto k112_76 ?_
            refine g_puti k112_83 (by decide) (sM371) (by decide) ?_
            refine g_iconst (v := 0) k112_86 ic_0 ?_
            exact g_reti k112_87 rfl (h1)
        · refine g_aload_n k112_47 rfl ?_
          refine g_getr k112_48 (sM371) (by decide) (mo_off hO) ?_
          refine g_iload_n k112_51 rfl ?_
          refine g_iload_n k112_52 rfl ?_
          refine g_if_ne k112_53 (fun _ => ?_) (fun h9 => absurd h9 (by decide))
          refine g_iconst (v := 0) k112_60 ic_0 ?_
          refine g_zasv k112_61 (sM397) (h3) (by decide) (by decide) ?_
          refine g_aload_n k112_62 rfl ?_
          refine g_iload_n k112_63 rfl ?_
          refine g_if_ne k112_64 (fun _ => ?_) (fun h9 => absurd h9 (by decide))
          rw [if_neg (by decide), if_neg (fun y => absurd y.1 (by decide))] at h1
          refine g_aload_n k112_79 rfl ?_
          refine g_getv (v := im 371 34) k112_80 (sM371) (by decide) (by rw [u2_ne (by omega)]) ?_
          refine g_puti k112_83 (by decide) (sM371) (by decide) ?_
          refine g_iconst (v := 0) k112_86 ic_0 ?_
          exact g_reti k112_87 rfl (h1)
      · refine g_goto k112_25 ?_
        refine g_iconst (v := -1) k112_40 ic_m1 ?_
        exact g_reti k112_41 rfl (h0 (fun o2 k2 => by have z := nI_inj k2.2.1 (by omega) (by omega); subst z; exact d k2.2.2) (fun p2 k2 => by have := nI_inj k2.2.1 (by omega) (by omega); omega))
  · refine g_if_eq k112_7 (fun _ => ?_) (fun h9 => absurd (by decide) h9)
    refine g_iconst (v := -1) k112_40 ic_m1 ?_
    exact g_reti k112_41 rfl (h0 (fun o2 k2 => w_out (by decide) (show o2 < 6 + 1 by have := k2.1; omega) h k2.2.1) (fun p2 k2 => w_out (by decide) (show p2 + 3 < 6 + 1 by have := k2.1; omega) h k2.2.1))

def acR (im : Nat → Nat → Int32) (t k r : Nat) : Int32 :=
  if r = 0 then im 385 (16 * t + k) else if r = 3 then im 386 (16 * t + k) else if r = 4 then im 387 (16 * t + k) else if im 388 t < nI r ∨ nI k < im 389 (2 * t + (r - 1)) ∨ im 390 (2 * t + (r - 1)) < nI k then -1 else im 391 (16 * (2 * t + (r - 1)) + k)
set_option maxRecDepth 20000 in
set_option maxHeartbeats 4000000 in
theorem y13 {LS : Nat} {rm : Nat → Nat → Option Nat} {im : Nat → Nat → Int32} {P : Option Value → (Nat → Nat → Int32) → Prop} {a1 a2 a3 : Int32} {m : Nat} (hO : isMo LS rm) (hm : im 371 9 = nI m) (hm2 : m ≤ 60) (h1 : ∀ t k r, t < m → k < 16 → r < 5 → a1 = nI t → a2 = nI k → a3 = nI r → im 383 t ≠ 0 → P (some (.int (acR im t k r))) im) (h0 : (∀ t k r, ¬ (t < m ∧ k < 16 ∧ r < 5 ∧ a1 = nI t ∧ a2 = nI k ∧ a3 = nI r ∧ im 383 t ≠ 0)) → P (some (.int (-1))) im) : Gm LS rm 116 0 (en_in 116 [.ref 371, .int a1, .int a2, .int a3]) [] im P := by
  show Gm LS rm 116 0 [.ref (371), .int (a1), .int (a2), .int (a3), .long 0] [] im P
  refine g_aload_n k116_0 rfl ?_
  refine g_iload_n k116_1 rfl ?_
  refine g_inv1 k116_2 (sM371) rfl (by decide) (Nat.le_of_ble_eq_true rfl) (c101 hO hm hm2 (fun t ht e => ?_) (fun h => ?_))
  · subst e
    refine g_if_eq k116_5 (fun h9 => absurd h9 (by decide)) (fun _ => ?_)
    refine g_iload_n k116_8 rfl ?_
    refine g_iconst (v := 0) k116_9 ic_0 ?_
    refine g_bipush (v := 15) k116_10 bp_15 ?_
    refine g_invS3 k116_12 rfl rfl rfl (by decide) (Nat.le_of_ble_eq_true rfl) (c87n 15 (by decide) (fun k hk e2 => ?_) (fun h => ?_))
    · subst e2
      refine g_if_eq k116_15 (fun h9 => absurd h9 (by decide)) (fun _ => ?_)
      refine g_iload_n k116_18 rfl ?_
      refine g_iconst (v := 0) k116_19 ic_0 ?_
      refine g_iconst (v := 4) k116_20 ic_4 ?_
      refine g_invS3 k116_21 rfl rfl rfl (by decide) (Nat.le_of_ble_eq_true rfl) (c87n 4 (by decide) (fun r hr e3 => ?_) (fun h => ?_))
      · subst e3
        refine g_if_eq k116_24 (fun h9 => absurd h9 (by decide)) (fun _ => ?_)
        refine g_aload_n k116_27 rfl ?_
        refine g_getr k116_28 (sM371) (by decide) (mo_endorsers hO) ?_
        refine g_iload_n k116_31 rfl ?_
        refine g_ialv k116_32 (sM383) (by omega) (by decide) (rfl) ?_
        refine g_if_ne k116_33 (fun g => ?_) (fun g => ?_)
        · have h1 := h1 t k r ht hk hr rfl rfl rfl g
          refine g_iload_n k116_38 rfl ?_
          refine g_if_ne k116_39 (fun c => ?_) (fun c => ?_)
          · have r0 : r ≠ 0 := fun z => c (by rw [z]; rfl)
            refine g_iload_n k116_54 rfl ?_
            refine g_iconst (v := 2) k116_55 ic_2 ?_
            refine g_icmp_le k116_56 (fun d => ?_) (fun d => ?_)
            · have r2 : r ≤ 2 := (nI_leI (b := 2) (by omega) (by decide)).mp d
              unfold acR at h1
              rw [if_neg r0, if_neg (by omega), if_neg (by omega)] at h1
              refine g_iconst (v := 2) k116_90 ic_2 ?_
              refine g_iload_n k116_91 rfl ?_
              refine g_imul k116_92 ?_
              refine g_iload_n k116_93 rfl ?_
              refine g_iadd k116_94 ?_
              refine g_top (y := nI (2 * t + r)) (by rw [show (2 : Int32) = nI 2 from rfl, pk_mul, nI_add]) ?_
              refine g_iconst (v := 1) k116_95 ic_1 ?_
              refine g_isub k116_96 ?_
              refine g_top (y := nI (2 * t + (r - 1))) (by rw [nI_m1 (by omega), show 2 * t + r - 1 = 2 * t + (r - 1) by omega]) ?_
              refine g_istore k116_97 (by decide) rfl ?_
              refine g_iload_n k116_99 rfl ?_
              refine g_aload_n k116_100 rfl ?_
              refine g_getr k116_101 (sM371) (by decide) (mo_ranges hO) ?_
              refine g_iload_n k116_104 rfl ?_
              refine g_ialv k116_105 (sM388) (by omega) (by decide) (rfl) ?_
              refine g_icmp_gt k116_106 (fun j1 => ?_) (fun j1 => ?_)
              · refine g_iconst (v := -1) k116_131 ic_m1 ?_
                refine g_goto k116_132 ?_
                rw [if_pos (Or.inl j1)] at h1
                exact g_reti k116_147 rfl (h1)
              · refine g_iload_n k116_109 rfl ?_
                refine g_aload_n k116_110 rfl ?_
                refine g_getr k116_111 (sM371) (by decide) (mo_from hO) ?_
                refine g_iload k116_114 rfl ?_
                refine g_ialv k116_116 (sM389) (by omega) (by decide) (rfl) ?_
                refine g_icmp_lt k116_117 (fun j2 => ?_) (fun j2 => ?_)
                · refine g_iconst (v := -1) k116_131 ic_m1 ?_
                  refine g_goto k116_132 ?_
                  rw [if_pos (Or.inr (Or.inl j2))] at h1
                  exact g_reti k116_147 rfl (h1)
                · refine g_iload_n k116_120 rfl ?_
                  refine g_aload_n k116_121 rfl ?_
                  refine g_getr k116_122 (sM371) (by decide) (mo_to hO) ?_
                  refine g_iload k116_125 rfl ?_
                  refine g_ialv k116_127 (sM390) (by omega) (by decide) (rfl) ?_
                  refine g_icmp_le k116_128 (fun j3 => ?_) (fun j3 => ?_)
                  · rw [if_neg (fun z => z.elim j1 (fun z => z.elim j2 (fun z => absurd j3 (Int32.not_le.mpr z))))] at h1
                    refine g_aload_n k116_135 rfl ?_
                    refine g_getr k116_136 (sM371) (by decide) (mo_seen hO) ?_
                    refine g_bipush (v := 16) k116_139 bp_16 ?_
                    refine g_iload k116_141 rfl ?_
                    refine g_imul k116_143 ?_
                    refine g_iload_n k116_144 rfl ?_
                    refine g_iadd k116_145 ?_
                    refine g_top (y := nI (16 * (2 * t + (r - 1)) + k)) (by rw [show (16 : Int32) = nI 16 from rfl, pk_mul, nI_add]) ?_
                    refine g_ialv k116_146 (sM391) (by omega) (by decide) (rfl) ?_
                    exact g_reti k116_147 rfl (h1)
                  · rw [if_pos (Or.inr (Or.inr (Int32.not_le.mp j3)))] at h1
                    refine g_iconst (v := -1) k116_131 ic_m1 ?_
                    refine g_goto k116_132 ?_
                    exact g_reti k116_147 rfl (h1)
            · have r2 : 2 < r := Nat.not_le.mp (fun z => d (nI_le z (by decide)))
              refine g_iload_n k116_59 rfl ?_
              refine g_iconst (v := 3) k116_60 ic_3 ?_
              refine g_icmp_ne k116_61 (fun b => ?_) (fun b => ?_)
              · have r3 : r ≠ 3 := fun z => b (by rw [z]; rfl)
                have e9 : acR im t k r = im 387 (16 * t + k) := by unfold acR; rw [if_neg r0, if_neg r3, if_pos (by omega)]
                rw [e9] at h1
                refine g_aload_n k116_78 rfl ?_
                refine g_getr k116_79 (sM371) (by decide) (mo_written hO) ?_
                refine g_bipush (v := 16) k116_82 bp_16 ?_
                refine g_iload_n k116_84 rfl ?_
                refine g_imul k116_85 ?_
                refine g_iload_n k116_86 rfl ?_
                refine g_iadd k116_87 ?_
                refine g_top (y := nI (16 * t + k)) (by rw [show (16 : Int32) = nI 16 from rfl, pk_mul, nI_add]) ?_
                refine g_ialv k116_88 (sM387) (by omega) (by decide) (rfl) ?_
                exact g_reti k116_89 rfl (h1)
              · have r3 : r = 3 := nI_inj (b := 3) b (by omega) (by decide)
                have e9 : acR im t k r = im 386 (16 * t + k) := by unfold acR; rw [if_neg r0, if_pos r3]
                rw [e9] at h1
                refine g_aload_n k116_64 rfl ?_
                refine g_getr k116_65 (sM371) (by decide) (mo_wrote hO) ?_
                refine g_bipush (v := 16) k116_68 bp_16 ?_
                refine g_iload_n k116_70 rfl ?_
                refine g_imul k116_71 ?_
                refine g_iload_n k116_72 rfl ?_
                refine g_iadd k116_73 ?_
                refine g_top (y := nI (16 * t + k)) (by rw [show (16 : Int32) = nI 16 from rfl, pk_mul, nI_add]) ?_
                refine g_ialv k116_74 (sM386) (by omega) (by decide) (rfl) ?_
                refine g_goto k116_75 ?_
                exact g_reti k116_89 rfl (h1)
          · have r0 : r = 0 := nI_inj (b := 0) c (by omega) (by decide)
            have e9 : acR im t k r = im 385 (16 * t + k) := by unfold acR; rw [if_pos r0]
            rw [e9] at h1
            refine g_aload_n k116_42 rfl ?_
            refine g_getr k116_43 (sM371) (by decide) (mo_read hO) ?_
            refine g_bipush (v := 16) k116_46 bp_16 ?_
            refine g_iload_n k116_48 rfl ?_
            refine g_imul k116_49 ?_
            refine g_iload_n k116_50 rfl ?_
            refine g_iadd k116_51 ?_
            refine g_top (y := nI (16 * t + k)) (by rw [show (16 : Int32) = nI 16 from rfl, pk_mul, nI_add]) ?_
            refine g_ialv k116_52 (sM385) (by omega) (by decide) (rfl) ?_
            exact g_reti k116_53 rfl (h1)
        · refine g_iconst (v := -1) k116_36 ic_m1 ?_
          exact g_reti k116_37 rfl (h0 (fun t2 k2 r2 kk => by obtain ⟨q1, q2, q3, q4, q5, q6, q7⟩ := kk; have z := nI_inj q4 (by omega) (by omega); subst z; exact q7 g))
      · refine g_if_eq k116_24 (fun _ => ?_) (fun h9 => absurd (by decide) h9)
        refine g_iconst (v := -1) k116_36 ic_m1 ?_
        exact g_reti k116_37 rfl (h0 (fun t2 k2 r2 kk => w_out (by decide) kk.2.2.1 h kk.2.2.2.2.2.1))
    · refine g_if_eq k116_15 (fun _ => ?_) (fun h9 => absurd (by decide) h9)
      refine g_iconst (v := -1) k116_36 ic_m1 ?_
      exact g_reti k116_37 rfl (h0 (fun t2 k2 r2 kk => w_out (by decide) kk.2.1 h kk.2.2.2.2.1))
  · refine g_if_eq k116_5 (fun _ => ?_) (fun h9 => absurd (by decide) h9)
    refine g_iconst (v := -1) k116_36 ic_m1 ?_
    exact g_reti k116_37 rfl (h0 (fun t2 k2 r2 kk => w_out (by omega) kk.1 h kk.2.2.2.1))

def nuR (im : Nat → Nat → Int32) : Nat → Int32
  | 0 => 0
  | i + 1 => nuR im i + (if (if i < 3 then im 397 i else im 402 (i - 3)) = 0 then (1 : Int32) <<< (nI i &&& 31) else 0)
def abR (im : Nat → Nat → Int32) (q : Nat) : Int32 :=
  if q < 3 then im 398 q else if q < 6 then im 400 (q - 3) else if q = 6 then im 371 34 else if q = 7 then im 371 36 else if q = 8 then im 371 25 else if q = 9 then im 371 9 else if q < 14 then im 403 (q - 10) else if q < 18 then im 404 (q - 14) else nuR im 7
set_option maxRecDepth 20000 in
set_option maxHeartbeats 4000000 in
theorem l122 {LS : Nat} {rm : Nat → Nat → Option Nat} {im : Nat → Nat → Int32} {P : Option Value → (Nat → Nat → Int32) → Prop} {q : Nat} (hO : isMo LS rm) (h1 : P (some (.int (nuR im 7))) im) : ∀ (n i : Nat), i + n = 7 → ∀ (u : Value), Gm LS rm 122 129 [.ref (371), .int (nI q), .int (nuR im i), .int (nI i), u] [] (im) P := by
  intro n
  induction n with
  | zero =>
    intro i hi u
    have hie : i = 7 := by omega
    subst hie
    refine g_iload_n k122_129 rfl ?_
    refine g_bipush (v := 7) k122_130 bp_7 ?_
    refine g_icmp_ge k122_132 (fun _ => ?_) (fun h9 => absurd (nI_le (Nat.le_refl _) (by decide)) h9)
    refine g_iload_n k122_196 rfl ?_
    exact g_reti k122_197 rfl (h1)
  | succ n ih =>
    intro i hi u
    have hlt : i < 7 := by omega
    refine g_iload_n k122_129 rfl ?_
    refine g_bipush (v := 7) k122_130 bp_7 ?_
    refine g_icmp_ge k122_132 (fun h9 => absurd h9 (nI_ge hlt (by decide))) (fun _ => ?_)
    refine g_iload_n k122_135 rfl ?_
    refine g_iconst (v := 3) k122_136 ic_3 ?_
    refine g_icmp_ge k122_137 (fun g => ?_) (fun g => ?_)
    · have h3 : 3 ≤ i := (nI_leI (a := 3) (by decide) (by omega)).mp g
      refine g_aload_n k122_157 rfl ?_
      refine g_getr k122_158 (sM371) (by decide) (mo_down hO) ?_
      refine g_iload_n k122_161 rfl ?_
      refine g_iconst (v := 3) k122_162 ic_3 ?_
      refine g_isub k122_163 ?_
      refine g_top (y := nI (i - 3)) (by rw [show (3 : Int32) = nI 3 from rfl, pk_sub h3]) ?_
      refine g_zalv k122_164 (sM402) (by omega) (by decide) (rfl) ?_
      refine g_if_ne k122_165 (fun d => ?_) (fun d => ?_)
      · refine g_iconst (v := 0) k122_172 ic_0 ?_
        refine g_istore k122_173 (by decide) rfl ?_
        refine g_iload_n k122_175 rfl ?_
        refine g_iload k122_176 rfl ?_
        refine g_if_eq k122_178 (fun _ => ?_) (fun h9 => absurd (rfl) h9)
        refine g_iconst (v := 0) k122_187 ic_0 ?_
        refine g_iadd k122_188 ?_
        refine g_istore_n k122_189 (by decide) rfl ?_
        refine g_iincv (y := nI (i + 1)) k122_190 rfl (by decide) (inc_1 i) rfl ?_
        refine g_goto k122_193 ?_
        have e1 : nuR im (i + 1) = nuR im i + 0 := congrArg (fun z => nuR im i + z) (if_neg (by rw [if_neg (show ¬ i < 3 by omega)]; exact d))
        have := ih (i + 1) (by omega) (.int 0)
        rw [e1] at this
        exact this
      · refine g_iconst (v := 1) k122_168 ic_1 ?_
        refine g_goto k122_169 ?_
        refine g_istore k122_173 (by decide) rfl ?_
        refine g_iload_n k122_175 rfl ?_
        refine g_iload k122_176 rfl ?_
        refine g_if_eq k122_178 (fun h9 => absurd h9 (by decide)) (fun _ => ?_)
        refine g_iconst (v := 1) k122_181 ic_1 ?_
        refine g_iload_n k122_182 rfl ?_
        refine g_ishl k122_183 ?_
        refine g_goto k122_184 ?_
        refine g_iadd k122_188 ?_
        refine g_istore_n k122_189 (by decide) rfl ?_
        refine g_iincv (y := nI (i + 1)) k122_190 rfl (by decide) (inc_1 i) rfl ?_
        refine g_goto k122_193 ?_
        have e1 : nuR im (i + 1) = nuR im i + ((1 : Int32) <<< (nI i &&& 31)) := congrArg (fun z => nuR im i + z) (if_pos (by rw [if_neg (show ¬ i < 3 by omega)]; exact d))
        have := ih (i + 1) (by omega) (.int 1)
        rw [e1] at this
        exact this
    · have h3 : i < 3 := Nat.not_le.mp (fun z => g (nI_le (a := 3) z (by omega)))
      refine g_aload_n k122_140 rfl ?_
      refine g_getr k122_141 (sM371) (by decide) (mo_off hO) ?_
      refine g_iload_n k122_144 rfl ?_
      refine g_zalv k122_145 (sM397) (h3) (by decide) (rfl) ?_
      refine g_if_ne k122_146 (fun d => ?_) (fun d => ?_)
      · refine g_iconst (v := 0) k122_153 ic_0 ?_
        refine g_goto k122_154 ?_
        refine g_istore k122_173 (by decide) rfl ?_
        refine g_iload_n k122_175 rfl ?_
        refine g_iload k122_176 rfl ?_
        refine g_if_eq k122_178 (fun _ => ?_) (fun h9 => absurd (rfl) h9)
        refine g_iconst (v := 0) k122_187 ic_0 ?_
        refine g_iadd k122_188 ?_
        refine g_istore_n k122_189 (by decide) rfl ?_
        refine g_iincv (y := nI (i + 1)) k122_190 rfl (by decide) (inc_1 i) rfl ?_
        refine g_goto k122_193 ?_
        have e1 : nuR im (i + 1) = nuR im i + 0 := congrArg (fun z => nuR im i + z) (if_neg (by rw [if_pos h3]; exact d))
        have := ih (i + 1) (by omega) (.int 0)
        rw [e1] at this
        exact this
      · refine g_iconst (v := 1) k122_149 ic_1 ?_
        refine g_goto k122_150 ?_
        refine g_istore k122_173 (by decide) rfl ?_
        refine g_iload_n k122_175 rfl ?_
        refine g_iload k122_176 rfl ?_
        refine g_if_eq k122_178 (fun h9 => absurd h9 (by decide)) (fun _ => ?_)
        refine g_iconst (v := 1) k122_181 ic_1 ?_
        refine g_iload_n k122_182 rfl ?_
        refine g_ishl k122_183 ?_
        refine g_goto k122_184 ?_
        refine g_iadd k122_188 ?_
        refine g_istore_n k122_189 (by decide) rfl ?_
        refine g_iincv (y := nI (i + 1)) k122_190 rfl (by decide) (inc_1 i) rfl ?_
        refine g_goto k122_193 ?_
        have e1 : nuR im (i + 1) = nuR im i + ((1 : Int32) <<< (nI i &&& 31)) := congrArg (fun z => nuR im i + z) (if_pos (by rw [if_pos h3]; exact d))
        have := ih (i + 1) (by omega) (.int 1)
        rw [e1] at this
        exact this

set_option maxRecDepth 20000 in
set_option maxHeartbeats 4000000 in
theorem y18 {LS : Nat} {rm : Nat → Nat → Option Nat} {im : Nat → Nat → Int32} {P : Option Value → (Nat → Nat → Int32) → Prop} {a1 : Int32} (hO : isMo LS rm) (h1 : ∀ q, q < 19 → a1 = nI q → P (some (.int (abR im q))) im) (h0 : (∀ q, ¬ (q < 19 ∧ a1 = nI q)) → P (some (.int (-1))) im) : Gm LS rm 122 0 (en_in 122 [.ref 371, .int a1]) [] im P := by
  show Gm LS rm 122 0 [.ref (371), .int (a1), .long 0, .long 0, .long 0] [] im P
  refine g_iload_n k122_0 rfl ?_
  refine g_iconst (v := 0) k122_1 ic_0 ?_
  refine g_bipush (v := 18) k122_2 bp_18 ?_
  refine g_invS3 k122_4 rfl rfl rfl (by decide) (Nat.le_of_ble_eq_true rfl) (c87n 18 (by decide) (fun q hq e => ?_) (fun h => ?_))
  · subst e
    have h1 := h1 q hq rfl
    unfold abR at h1
    refine g_if_ne k122_7 (fun _ => ?_) (fun h9 => absurd h9 (by decide))
    refine g_iload_n k122_12 rfl ?_
    refine g_bipush (v := 6) k122_13 bp_6 ?_
    refine g_icmp_ge k122_15 (fun c6 => ?_) (fun c6 => ?_)
    · have b6 : 6 ≤ q := (nI_leI (a := 6) (by decide) (by omega)).mp c6
      rw [if_neg (by omega), if_neg (by omega)] at h1
      refine g_iload_n k122_41 rfl ?_
      refine g_bipush (v := 10) k122_42 bp_10 ?_
      refine g_icmp_ge k122_44 (fun c10 => ?_) (fun c10 => ?_)
      · have b10 : 10 ≤ q := (nI_leI (a := 10) (by decide) (by omega)).mp c10
        rw [if_neg (by omega), if_neg (by omega), if_neg (by omega), if_neg (by omega)] at h1
        refine g_iload_n k122_91 rfl ?_
        refine g_bipush (v := 18) k122_92 bp_18 ?_
        refine g_icmp_ge k122_94 (fun c18 => ?_) (fun c18 => ?_)
        · have b18 : 18 ≤ q := (nI_leI (a := 18) (by decide) (by omega)).mp c18
          rw [if_neg (by omega), if_neg (by omega)] at h1
          refine g_iconst (v := 0) k122_125 ic_0 ?_
          refine g_istore_n k122_126 (by decide) rfl ?_
          refine g_iconst (v := 0) k122_127 ic_0 ?_
          refine g_istore_n k122_128 (by decide) rfl ?_
          exact l122 hO h1 7 0 (by omega) _
        · have b18 : q < 18 := Nat.not_le.mp (fun z => c18 (nI_le (a := 18) z (by omega)))
          refine g_iload_n k122_97 rfl ?_
          refine g_bipush (v := 14) k122_98 bp_14 ?_
          refine g_icmp_ge k122_100 (fun c14 => ?_) (fun c14 => ?_)
          · have b14 : 14 ≤ q := (nI_leI (a := 14) (by decide) (by omega)).mp c14
            rw [if_neg (by omega), if_pos b18] at h1
            refine g_aload_n k122_115 rfl ?_
            refine g_getr k122_116 (sM371) (by decide) (mo_saved hO) ?_
            refine g_iload_n k122_119 rfl ?_
            refine g_bipush (v := 14) k122_120 bp_14 ?_
            refine g_isub k122_122 ?_
            refine g_top (y := nI (q - 14)) (by rw [show (14 : Int32) = nI 14 from rfl, pk_sub (by omega)]) ?_
            refine g_ialv k122_123 (sM404) (by omega) (by decide) (rfl) ?_
            exact g_reti k122_124 rfl (h1)
          · have b14 : q < 14 := Nat.not_le.mp (fun z => c14 (nI_le (a := 14) z (by omega)))
            rw [if_pos b14] at h1
            refine g_aload_n k122_103 rfl ?_
            refine g_getr k122_104 (sM371) (by decide) (mo_stored hO) ?_
            refine g_iload_n k122_107 rfl ?_
            refine g_bipush (v := 10) k122_108 bp_10 ?_
            refine g_isub k122_110 ?_
            refine g_top (y := nI (q - 10)) (by rw [show (10 : Int32) = nI 10 from rfl, pk_sub (by omega)]) ?_
            refine g_ialv k122_111 (sM403) (by omega) (by decide) (rfl) ?_
            refine g_goto k122_112 ?_
            exact g_reti k122_124 rfl (h1)
      · have b10 : q < 10 := Nat.not_le.mp (fun z => c10 (nI_le (a := 10) z (by omega)))
        refine g_iload_n k122_47 rfl ?_
        refine g_bipush (v := 6) k122_48 bp_6 ?_
        refine g_icmp_ne k122_50 (fun d6 => ?_) (fun d6 => ?_)
        · have z6 : q ≠ 6 := fun z => d6 (by rw [z]; rfl)
          rw [if_neg z6] at h1
          refine g_iload_n k122_60 rfl ?_
          refine g_bipush (v := 7) k122_61 bp_7 ?_
          refine g_icmp_ne k122_63 (fun d7 => ?_) (fun d7 => ?_)
          · have z7 : q ≠ 7 := fun z => d7 (by rw [z]; rfl)
            rw [if_neg z7] at h1
            refine g_iload_n k122_73 rfl ?_
            refine g_bipush (v := 8) k122_74 bp_8 ?_
            refine g_icmp_ne k122_76 (fun d8 => ?_) (fun d8 => ?_)
            · have z8 : q ≠ 8 := fun z => d8 (by rw [z]; rfl)
              rw [if_neg z8, if_pos (by omega)] at h1
              refine g_aload_n k122_86 rfl ?_
              refine g_geti k122_87 (sM371) (by decide) ?_
              exact g_reti k122_90 rfl (h1)
            · have z8 : q = 8 := nI_inj (b := 8) d8 (by omega) (by decide)
              rw [if_pos z8] at h1
              refine g_aload_n k122_79 rfl ?_
              refine g_geti k122_80 (sM371) (by decide) ?_
              refine g_goto k122_83 ?_
              exact g_reti k122_90 rfl (h1)
          · have z7 : q = 7 := nI_inj (b := 7) d7 (by omega) (by decide)
            rw [if_pos z7] at h1
            refine g_aload_n k122_66 rfl ?_
            refine g_geti k122_67 (sM371) (by decide) ?_
            refine g_goto k122_70 ?_
            exact g_reti k122_90 rfl (h1)
        · have z6 : q = 6 := nI_inj (b := 6) d6 (by omega) (by decide)
          rw [if_pos z6] at h1
          refine g_aload_n k122_53 rfl ?_
          refine g_geti k122_54 (sM371) (by decide) ?_
          refine g_goto k122_57 ?_
          exact g_reti k122_90 rfl (h1)
    · have b6 : q < 6 := Nat.not_le.mp (fun z => c6 (nI_le (a := 6) z (by omega)))
      refine g_iload_n k122_18 rfl ?_
      refine g_iconst (v := 3) k122_19 ic_3 ?_
      refine g_icmp_ge k122_20 (fun c3 => ?_) (fun c3 => ?_)
      · have b3 : 3 ≤ q := (nI_leI (a := 3) (by decide) (by omega)).mp c3
        rw [if_neg (by omega), if_pos b6] at h1
        refine g_aload_n k122_32 rfl ?_
        refine g_getr k122_33 (sM371) (by decide) (mo_logged hO) ?_
        refine g_iload_n k122_36 rfl ?_
        refine g_iconst (v := 3) k122_37 ic_3 ?_
        refine g_isub k122_38 ?_
        refine g_top (y := nI (q - 3)) (by rw [show (3 : Int32) = nI 3 from rfl, pk_sub (by omega)]) ?_
        refine g_ialv k122_39 (sM400) (by omega) (by decide) (rfl) ?_
        exact g_reti k122_40 rfl (h1)
      · have b3 : q < 3 := Nat.not_le.mp (fun z => c3 (nI_le (a := 3) z (by omega)))
        rw [if_pos b3] at h1
        refine g_aload_n k122_23 rfl ?_
        refine g_getr k122_24 (sM371) (by decide) (mo_term hO) ?_
        refine g_iload_n k122_27 rfl ?_
        refine g_ialv k122_28 (sM398) (b3) (by decide) (rfl) ?_
        refine g_goto k122_29 ?_
        exact g_reti k122_40 rfl (h1)
  · refine g_if_ne k122_7 (fun h9 => absurd (by decide) h9) (fun _ => ?_)
    refine g_iconst (v := -1) k122_10 ic_m1 ?_
    exact g_reti k122_11 rfl (h0 (fun q2 k2 => w_out (by decide) k2.1 h k2.2))

