/-! A RULE MORE: the reference's memory behind policy *-/
theorem u2_self {α : Type} {f : Nat → Nat → α} {a k : Nat} {x : α} (h : f a k = x) : en_u2 f a k x = f := by
  funext b j
  by_cases hb : b = a ∧ j = k
  · obtain ⟨rfl, rfl⟩ := hb; rw [u2_eq, h]
  · rw [u2_ne (by omega)]
theorem u2_u2 {α : Type} {f : Nat → Nat → α} {a k : Nat} {x y : α} : en_u2 (en_u2 f a k x) a k y = en_u2 f a k y := by
  funext b j
  by_cases hb : b = a ∧ j = k
  · obtain ⟨rfl, rfl⟩ := hb; rw [u2_eq, u2_eq]
  · rw [u2_ne (by omega), u2_ne (by omega), u2_ne (by omega)]
theorem u2_ur {α : Type} {f : Nat → Nat → α} {a b k : Nat} {x : α} {g : Nat → α} (h : a ≠ b) : en_u2 (en_ur f b g) a k x = en_ur (en_u2 f a k x) b g := by
  funext c j
  by_cases hb : c = b
  · subst hb; rw [ur_eq, en_u2_off (fun z => h z.symm), ur_eq]
  · rw [ur_ne hb]
    by_cases hc : c = a ∧ j = k
    · obtain ⟨rfl, rfl⟩ := hc; rw [u2_eq, u2_eq]
    · rw [u2_ne (by omega), u2_ne (by omega), ur_ne hb]
def pcA (im : Nat → Nat → Int32) (p r : Nat) (k : Int32) (n : Nat) : Nat → Nat → Int32 := en_u2 (en_u2 (en_u2 im 375 p (nI (r + 1))) 376 (9 * p + r) k) 377 (9 * p + r) (nI n)
def pcP (im : Nat → Nat → Int32) (p r h i : Nat) : Nat → Int32 := fun x => if 4 * (9 * p + r) ≤ x ∧ x < 4 * (9 * p + r) + i then im 379 (9 * p + (h - 1 - (x - 4 * (9 * p + r)))) else im 378 x
def pcI (im : Nat → Nat → Int32) (p r h : Nat) (k : Int32) (n i : Nat) : Nat → Nat → Int32 := en_u2 (en_ur (pcA im p r k n) 378 (pcP im p r h i)) 380 p (nI (h - i))
def pcR (im : Nat → Nat → Int32) (p r h : Nat) (k : Int32) (n : Nat) : Nat → Nat → Int32 := en_u2 (en_u2 (pcI im p r h k n n) 379 (9 * p + (h - n)) (nI (9 * p + r))) 380 p (nI (h - n + 1))
theorem pcP_0 {im : Nat → Nat → Int32} {p r h : Nat} : pcP im p r h 0 = im 378 := by
  funext x
  unfold pcP
  rw [if_neg (by omega)]
theorem pcP_s {im : Nat → Nat → Int32} {p r h i : Nat} (hi : i < h) : (fun x => if x = 4 * (9 * p + r) + i then im 379 (9 * p + (h - i - 1)) else pcP im p r h i x) = pcP im p r h (i + 1) := by
  funext x
  unfold pcP
  by_cases hx : x = 4 * (9 * p + r) + i
  · subst hx
    rw [if_pos rfl, if_pos ⟨by omega, by omega⟩, show h - 1 - (4 * (9 * p + r) + i - 4 * (9 * p + r)) = h - i - 1 by omega]
  · rw [if_neg hx]
    by_cases hy : 4 * (9 * p + r) ≤ x ∧ x < 4 * (9 * p + r) + i
    · rw [if_pos hy, if_pos ⟨hy.1, by omega⟩]
    · rw [if_neg hy, if_neg (by omega)]
theorem pcI_h {im : Nat → Nat → Int32} {p r h n i : Nat} {k : Int32} : pcI im p r h k n i 380 p = nI (h - i) := u2_eq
theorem pcI_off {im : Nat → Nat → Int32} {p r h n i : Nat} {k : Int32} {c : Nat} (h1 : c ≠ 380) (h2 : c ≠ 378) (h3 : c < 375 ∨ 377 < c) : pcI im p r h k n i c = im c := by
  unfold pcI pcA
  rw [en_u2_off h1, ur_ne h2, en_u2_off (by omega), en_u2_off (by omega), en_u2_off (by omega)]
theorem pcI_0 {im : Nat → Nat → Int32} {p r h n : Nat} {k : Int32} (hh : im 380 p = nI h) : pcI im p r h k n 0 = pcA im p r k n := by
  unfold pcI
  rw [pcP_0, show im 378 = pcA im p r k n 378 from by unfold pcA; rw [en_u2_off (by decide), en_u2_off (by decide), en_u2_off (by decide)], ur_self]
  exact u2_self (by unfold pcA; rw [en_u2_off (by decide), en_u2_off (by decide), en_u2_off (by decide)]; exact hh)
theorem pcI_s {im : Nat → Nat → Int32} {p r h n i : Nat} {k : Int32} (hi : i < h) : en_u2 (en_u2 (pcI im p r h k n i) 380 p (nI (h - i - 1))) 378 (4 * (9 * p + r) + i) (im 379 (9 * p + (h - i - 1))) = pcI im p r h k n (i + 1) := by
  unfold pcI
  rw [u2_u2, u2_ur (by decide), ur_u2, pcP_s hi, show h - (i + 1) = h - i - 1 by omega, u2_ur (by decide)]
set_option maxRecDepth 20000 in
set_option maxHeartbeats 4000000 in
theorem l89 {LS : Nat} {rm : Nat → Nat → Option Nat} {im : Nat → Nat → Int32} {P : Option Value → (Nat → Nat → Int32) → Prop} {p r h n : Nat} {k : Int32} (hO : isMo LS rm) (hp : p < 4) (hr : r < 9) (hh9 : h < 9) (hn4 : n ≤ 4) (hnh : n ≤ h) (h1 : P (some (.int 1)) (pcR im p r h k n)) : ∀ (z i : Nat), i + z = n → ∀ (u4 : Value), Gm LS rm 89 122 [.ref (371), .int (nI p), .int (k), .int (nI n), u4, .int (nI (9 * p + r)), .int (nI i)] [] (pcI im p r h k n i) P := by
  intro z
  induction z with
  | zero =>
    intro i hi u4
    have hie : n = i := by omega
    subst hie
    refine g_iload k89_122 rfl ?_
    refine g_iload_n k89_124 rfl ?_
    refine g_icmp_ge k89_125 (fun _ => ?_) (fun h9 => absurd (nI_le (Nat.le_refl _) (by omega)) h9)
    refine g_aload_n k89_172 rfl ?_
    refine g_getr k89_173 (sM371) (by decide) (mo_pile hO) ?_
    refine g_bipush (v := 9) k89_176 bp_9 ?_
    refine g_iload_n k89_178 rfl ?_
    refine g_imul k89_179 ?_
    refine g_top (y := nI (9 * p)) (by rw [show (9 : Int32) = nI 9 from rfl, pk_mul]) ?_
    refine g_aload_n k89_180 rfl ?_
    refine g_getr k89_181 (sM371) (by decide) (mo_high hO) ?_
    refine g_iload_n k89_184 rfl ?_
    refine g_ialv (v := nI (h - n)) k89_185 (sM380) (hp) (by decide) (pcI_h) ?_
    refine g_iadd k89_186 ?_
    refine g_top (y := nI (9 * p + (h - n))) (nI_add _ _) ?_
    refine g_iload k89_187 rfl ?_
    refine g_iasv k89_189 (sM379) (by omega) (by decide) ?_
    refine g_aload_n k89_190 rfl ?_
    refine g_getr k89_191 (sM371) (by decide) (mo_high hO) ?_
    refine g_iload_n k89_194 rfl ?_
    refine g_dup2 k89_195 rfl rfl ?_
    refine g_ialv (v := nI (h - n)) k89_196 (sM380) (hp) (by decide) (by rw [en_u2_off (by decide)]; exact pcI_h) ?_
    refine g_iconst (v := 1) k89_197 ic_1 ?_
    refine g_iadd k89_198 ?_
    refine g_top (y := nI (h - n + 1)) (nI_1 _) ?_
    refine g_iasv k89_199 (sM380) (hp) (by decide) ?_
    refine g_iconst (v := 1) k89_200 ic_1 ?_
    exact g_retz k89_201 rfl (by decide) (h1)
  | succ z ih =>
    intro i hi u4
    have hlt : i < n := by omega
    refine g_iload k89_122 rfl ?_
    refine g_iload_n k89_124 rfl ?_
    refine g_icmp_ge k89_125 (fun h9 => absurd h9 (nI_ge hlt (by omega))) (fun _ => ?_)
    refine g_aload_n k89_128 rfl ?_
    refine g_getr k89_129 (sM371) (by decide) (mo_high hO) ?_
    refine g_iload_n k89_132 rfl ?_
    refine g_dup2 k89_133 rfl rfl ?_
    refine g_ialv (v := nI (h - i)) k89_134 (sM380) (hp) (by decide) (pcI_h) ?_
    refine g_iconst (v := 1) k89_135 ic_1 ?_
    refine g_isub k89_136 ?_
    refine g_top (y := nI (h - i - 1)) (nI_m1 (by omega)) ?_
    refine g_iasv k89_137 (sM380) (hp) (by decide) ?_
    refine g_aload_n k89_138 rfl ?_
    refine g_getr k89_139 (sM371) (by decide) (mo_part hO) ?_
    refine g_iconst (v := 4) k89_142 ic_4 ?_
    refine g_iload k89_143 rfl ?_
    refine g_imul k89_145 ?_
    refine g_top (y := nI (4 * (9 * p + r))) (by rw [show (4 : Int32) = nI 4 from rfl, pk_mul]) ?_
    refine g_iload k89_146 rfl ?_
    refine g_iadd k89_148 ?_
    refine g_top (y := nI (4 * (9 * p + r) + i)) (nI_add _ _) ?_
    refine g_aload_n k89_149 rfl ?_
    refine g_getr k89_150 (sM371) (by decide) (mo_pile hO) ?_
    refine g_bipush (v := 9) k89_153 bp_9 ?_
    refine g_iload_n k89_155 rfl ?_
    refine g_imul k89_156 ?_
    refine g_top (y := nI (9 * p)) (by rw [show (9 : Int32) = nI 9 from rfl, pk_mul]) ?_
    refine g_aload_n k89_157 rfl ?_
    refine g_getr k89_158 (sM371) (by decide) (mo_high hO) ?_
    refine g_iload_n k89_161 rfl ?_
    refine g_ialv (v := nI (h - i - 1)) k89_162 (sM380) (hp) (by decide) (u2_eq) ?_
    refine g_iadd k89_163 ?_
    refine g_top (y := nI (9 * p + (h - i - 1))) (nI_add _ _) ?_
    refine g_ialv (v := im 379 (9 * p + (h - i - 1))) k89_164 (sM379) (by omega) (by decide) (by rw [en_u2_off (by decide), pcI_off (by decide) (by decide) (by decide)]) ?_
    refine g_iasv k89_165 (sM378) (by omega) (by decide) ?_
    refine g_im (pcI_s (by omega)) ?_
    refine g_iincv (y := nI (i + 1)) k89_166 rfl (by decide) (inc_1 i) rfl ?_
    refine g_goto k89_169 ?_
    exact ih (i + 1) (by omega) _

theorem nI_ge2 {a b : Nat} (h : a ≤ b) (hb : b < 1000) : ¬ nI b < nI a := fun z => by have := (nI_ltI (by omega) (by omega)).mp z; omega
set_option maxRecDepth 20000 in
set_option maxHeartbeats 4000000 in
theorem t89 {LS : Nat} {rm : Nat → Nat → Option Nat} {im : Nat → Nat → Int32} {P : Option Value → (Nat → Nat → Int32) → Prop} {p n : Nat} {k : Int32} {u5 u6 : Value} {h r : Nat} (hO : isMo LS rm) (hp : p < 4) (hn4 : n ≤ 4) (hh : im 380 p = nI h) (hr : im 375 p = nI r) (hhr : h ≤ r) (hr9 : r ≤ 9) (h1 : n ≤ h → r < 9 → P (some (.int 1)) (pcR im p r h k n)) (h0 : ¬ (n ≤ h ∧ r < 9) → P (some (.int 0)) im) : Gm LS rm 89 52 [.ref 371, .int (nI p), .int k, .int (nI n), .int 1, u5, u6] [] im P := by
  refine g_iload k89_52 rfl ?_
  refine g_if_eq k89_54 (fun h9 => absurd h9 (by decide)) (fun _ => ?_)
  refine g_aload_n k89_57 rfl ?_
  refine g_getr k89_58 (sM371) (by decide) (mo_high hO) ?_
  refine g_iload_n k89_61 rfl ?_
  refine g_ialv (v := nI h) k89_62 (sM380) (hp) (by decide) (hh) ?_
  refine g_iload_n k89_63 rfl ?_
  refine g_icmp_lt k89_64 (fun g => ?_) (fun g => ?_)
  · refine g_iconst (v := 0) k89_78 ic_0 ?_
    exact g_retz k89_79 rfl (by decide) (h0 (fun z => nI_ge2 z.1 (by omega) g))
  · have hnh : n ≤ h := Nat.not_lt.mp (fun z => g (nI_lt z (by omega)))
    refine g_aload_n k89_67 rfl ?_
    refine g_getr k89_68 (sM371) (by decide) (mo_rules hO) ?_
    refine g_iload_n k89_71 rfl ?_
    refine g_ialv (v := nI r) k89_72 (sM375) (hp) (by decide) (hr) ?_
    refine g_bipush (v := 9) k89_73 bp_9 ?_
    refine g_icmp_ne k89_75 (fun d => ?_) (fun d => ?_)
    · have hr8 : r < 9 := by have : r ≠ 9 := fun z => d (by rw [z]; rfl); omega
      refine g_bipush (v := 9) k89_80 bp_9 ?_
      refine g_iload_n k89_82 rfl ?_
      refine g_imul k89_83 ?_
      refine g_top (y := nI (9 * p)) (by rw [show (9 : Int32) = nI 9 from rfl, pk_mul]) ?_
      refine g_aload_n k89_84 rfl ?_
      refine g_getr k89_85 (sM371) (by decide) (mo_rules hO) ?_
      refine g_iload_n k89_88 rfl ?_
      refine g_ialv (v := nI r) k89_89 (sM375) (hp) (by decide) (hr) ?_
      refine g_iadd k89_90 ?_
      refine g_top (y := nI (9 * p + r)) (nI_add _ _) ?_
      refine g_istore k89_91 (by decide) rfl ?_
      refine g_aload_n k89_93 rfl ?_
      refine g_getr k89_94 (sM371) (by decide) (mo_rules hO) ?_
      refine g_iload_n k89_97 rfl ?_
      refine g_dup2 k89_98 rfl rfl ?_
      refine g_ialv (v := nI r) k89_99 (sM375) (hp) (by decide) (hr) ?_
      refine g_iconst (v := 1) k89_100 ic_1 ?_
      refine g_iadd k89_101 ?_
      refine g_top (y := nI (r + 1)) (nI_1 _) ?_
      refine g_iasv k89_102 (sM375) (hp) (by decide) ?_
      refine g_aload_n k89_103 rfl ?_
      refine g_getr k89_104 (sM371) (by decide) (mo_ruleK hO) ?_
      refine g_iload k89_107 rfl ?_
      refine g_iload_n k89_109 rfl ?_
      refine g_iasv k89_110 (sM376) (by omega) (by decide) ?_
      refine g_aload_n k89_111 rfl ?_
      refine g_getr k89_112 (sM371) (by decide) (mo_ruleN hO) ?_
      refine g_iload k89_115 rfl ?_
      refine g_iload_n k89_117 rfl ?_
      refine g_iasv k89_118 (sM377) (by omega) (by decide) ?_
      refine g_iconst (v := 0) k89_119 ic_0 ?_
      refine g_istore k89_120 (by decide) rfl ?_
      have := l89 (im := im) (k := k) (P := P) hO hp hr8 (by omega) hn4 hnh (h1 hnh hr8) n 0 (by omega) (.int 1)
      rw [pcI_0 hh] at this
      exact this
    · refine g_iconst (v := 0) k89_78 ic_0 ?_
      exact g_retz k89_79 rfl (by decide) (h0 (fun z => by have := nI_inj (b := 9) d (by omega) (by decide); omega))

set_option maxRecDepth 20000 in
set_option maxHeartbeats 4000000 in
theorem y2 {LS : Nat} {rm : Nat → Nat → Option Nat} {im : Nat → Nat → Int32} {P : Option Value → (Nat → Nat → Int32) → Prop} {a1 a2 a3 : Int32} {hh rr : Nat → Nat} {m : Nat} (hO : isMo LS rm) (hm : im 371 9 = nI m) (hm2 : m ≤ 60) (hl : ∀ p, p < 4 → im 380 p = nI (hh p) ∧ im 375 p = nI (rr p) ∧ hh p ≤ rr p ∧ rr p ≤ 9) (h1 : ∀ p q, kLeaf rr m a1 a2 a3 p q → P (some (.int 1)) (pcR im p (rr p) (hh p) a2 0)) (h2 : ∀ p k n, kJoin hh rr m a1 a2 a3 p k n → P (some (.int 1)) (pcR im p (rr p) (hh p) a2 n)) (h0 : (∀ p q, ¬ kLeaf rr m a1 a2 a3 p q) → (∀ p k n, ¬ kJoin hh rr m a1 a2 a3 p k n) → P (some (.int 0)) im) : Gm LS rm 89 0 (en_in 89 [.ref 371, .int a1, .int a2, .int a3]) [] im P := by
  show Gm LS rm 89 0 [.ref (371), .int (a1), .int (a2), .int (a3), .long 0, .long 0, .long 0] [] im P
  refine g_iload_n k89_0 rfl ?_
  refine g_iconst (v := 0) k89_1 ic_0 ?_
  refine g_iconst (v := 3) k89_2 ic_3 ?_
  refine g_invS3 k89_3 rfl rfl rfl (by decide) (Nat.le_of_ble_eq_true rfl) (c87n 3 (by decide) (fun p hp e => ?_) (fun h => ?_))
  · subst e
    obtain ⟨s1, s2, s3, s4⟩ := hl p hp
    refine g_if_eq k89_6 (fun h9 => absurd h9 (by decide)) (fun _ => ?_)
    refine g_iload_n k89_9 rfl ?_
    refine g_if_eq k89_10 (fun g => ?_) (fun g => ?_)
    · subst g
      refine g_aload_n k89_22 rfl ?_
      refine g_getv (v := nI m) k89_23 (sM371) (by decide) (hm) ?_
      refine g_if_le k89_26 (fun gm => ?_) (fun gm => ?_)
      · have hm0 : m = 0 := by have := (nI_leI (b := 0) (by omega) (by omega)).mp gm; omega
        refine g_iload_n k89_31 rfl ?_
        refine g_if_ne k89_32 (fun h9 => absurd (rfl) h9) (fun _ => ?_)
        refine g_iload_n k89_35 rfl ?_
        refine g_iconst (v := 0) k89_36 ic_0 ?_
        refine g_iconst (v := 3) k89_37 ic_3 ?_
        refine g_invS3 k89_38 rfl rfl rfl (by decide) (Nat.le_of_ble_eq_true rfl) (c87n 3 (by decide) (fun q hq e2 => ?_) (fun h3 => ?_))
        · subst e2
          refine g_goto k89_41 ?_
          refine g_istore k89_50 (by decide) rfl ?_
          refine t89 (n := 0) hO hp (by decide) s1 s2 s3 s4 (fun _ z => h1 p q ⟨hp, hq, rfl, rfl, rfl, hm0, z⟩) (fun z => h0 (fun p2 q2 k2 => ?_) (fun p2 q2 n2 k2 => ?_))
          · have := nI_inj k2.2.2.1 (by omega) (by have := k2.1; omega)
            subst this
            exact z ⟨Nat.zero_le _, k2.2.2.2.2.2.2⟩
          · have := nI_inj (a := 0) k2.2.2.2.2.2.1 (by omega) (by have := k2.2.2.2.2.1; omega)
            have := k2.2.2.2.1
            omega
        · refine g_goto k89_41 ?_
          refine g_istore k89_50 (by decide) rfl ?_
          refine g_iload k89_52 rfl ?_
          refine g_if_eq k89_54 (fun _ => ?_) (fun h9 => absurd (by decide) h9)
          refine g_iconst (v := 0) k89_78 ic_0 ?_
          exact g_retz k89_79 rfl (by decide) (h0 (fun p2 q2 k2 => w_out (by decide) k2.2.1 h3 k2.2.2.2.1) (fun p2 q2 n2 k2 => by have := nI_inj (a := 0) k2.2.2.2.2.2.1 (by omega) (by have := k2.2.2.2.2.1; omega); have := k2.2.2.2.1; omega))
      · refine g_iconst (v := 0) k89_29 ic_0 ?_
        exact g_retz k89_30 rfl (by decide) (h0 (fun p2 q2 k2 => gm (by rw [k2.2.2.2.2.2.1]; decide)) (fun p2 q2 n2 k2 => gm (by rw [k2.2.2.1]; decide)))
    · refine g_iload_n k89_13 rfl ?_
      refine g_iconst (v := 2) k89_14 ic_2 ?_
      refine g_iconst (v := 4) k89_15 ic_4 ?_
      refine g_invS3 k89_16 rfl rfl rfl (by decide) (Nat.le_of_ble_eq_true rfl) (c87 (fun b1 b2 => ?_) (fun b => ?_))
      · obtain ⟨n, hn4, e3⟩ := le_nI (n := 4) (by decide) (Int32.le_trans (by decide) b1) b2
        subst e3
        have hn2 : 2 ≤ n := (nI_leI (a := 2) (by omega) (by omega)).mp b1
        refine g_if_eq k89_19 (fun h9 => absurd h9 (by decide)) (fun _ => ?_)
        refine g_aload_n k89_22 rfl ?_
        refine g_getv (v := nI m) k89_23 (sM371) (by decide) (hm) ?_
        refine g_if_le k89_26 (fun gm => ?_) (fun gm => ?_)
        · have hm0 : m = 0 := by have := (nI_leI (b := 0) (by omega) (by omega)).mp gm; omega
          refine g_iload_n k89_31 rfl ?_
          refine g_if_ne k89_32 (fun _ => ?_) (fun h9 => absurd h9 (g))
          refine g_iload_n k89_44 rfl ?_
          refine g_iconst (v := 1) k89_45 ic_1 ?_
          refine g_iload_n k89_46 rfl ?_
          refine g_invS3 k89_47 rfl rfl rfl (by decide) (Nat.le_of_ble_eq_true rfl) (c87 (fun d1 d2 => ?_) (fun d => ?_))
          · obtain ⟨k, hkn, e4⟩ := le_nI (n := n) (by omega) (Int32.le_trans (by decide) d1) d2
            subst e4
            have hk1 : 1 ≤ k := (nI_leI (a := 1) (by omega) (by omega)).mp d1
            refine g_istore k89_50 (by decide) rfl ?_
            refine t89 (n := n) hO hp hn4 s1 s2 s3 s4 (fun y z => h2 p k n ⟨hp, rfl, hm0, hn2, hn4, rfl, hk1, hkn, rfl, z, y⟩) (fun z => h0 (fun p2 q2 k2 => g k2.2.2.2.2.1) (fun p2 q2 n2 k2 => ?_))
            obtain ⟨w1, w2, w3, w4, w5, w6, w7, w8, w9, w10, w11⟩ := k2
            have := nI_inj w2 (by omega) (by omega)
            subst this
            have := nI_inj w6 (by omega) (by omega)
            subst this
            exact z ⟨w11, w10⟩
          · refine g_istore k89_50 (by decide) rfl ?_
            refine g_iload k89_52 rfl ?_
            refine g_if_eq k89_54 (fun _ => ?_) (fun h9 => absurd (by decide) h9)
            refine g_iconst (v := 0) k89_78 ic_0 ?_
            refine g_retz k89_79 rfl (by decide) (h0 (fun p2 q2 k2 => g k2.2.2.2.2.1) (fun p2 q2 n2 k2 => ?_))
            obtain ⟨w1, w2, w3, w4, w5, w6, w7, w8, w9, w10, w11⟩ := k2
            have := nI_inj w6 (by omega) (by omega)
            subst this
            subst w9
            rcases d with d | d
            · exact absurd d (nI_ge2 (a := 1) w7 (by omega))
            · exact absurd d (nI_ge2 w8 (by omega))
        · refine g_iconst (v := 0) k89_29 ic_0 ?_
          exact g_retz k89_30 rfl (by decide) (h0 (fun p2 q2 k2 => gm (by rw [k2.2.2.2.2.2.1]; decide)) (fun p2 q2 n2 k2 => gm (by rw [k2.2.2.1]; decide)))
      · refine g_if_eq k89_19 (fun _ => ?_) (fun h9 => absurd (by decide) h9)
        refine g_iconst (v := 0) k89_29 ic_0 ?_
        refine g_retz k89_30 rfl (by decide) (h0 (fun p2 q2 k2 => g k2.2.2.2.2.1) (fun p2 q2 n2 k2 => ?_))
        obtain ⟨w1, w2, w3, w4, w5, w6, w7, w8, w9, w10, w11⟩ := k2
        subst w6
        rcases b with b | b
        · exact absurd b (nI_ge2 (a := 2) w4 (by omega))
        · exact absurd b (nI_ge2 (b := 4) w5 (by omega))
  · refine g_if_eq k89_6 (fun _ => ?_) (fun h9 => absurd (by decide) h9)
    refine g_iconst (v := 0) k89_29 ic_0 ?_
    exact g_retz k89_30 rfl (by decide) (h0 (fun p2 q2 k2 => w_out (by decide) k2.1 h k2.2.2.1) (fun p2 q2 n2 k2 => w_out (by decide) k2.1 h k2.2.1))

