/-! KEEPING a result: from the place 60 to the place t *-/
def kpX (t c x : Nat) : Prop := ((c = 385 ∨ c = 386 ∨ c = 387) ∧ 16 * t ≤ x ∧ x < 16 * t + 16) ∨ (c = 388 ∧ x = t) ∨ ((c = 389 ∨ c = 390) ∧ 2 * t ≤ x ∧ x < 2 * t + 2) ∨ (c = 391 ∧ 32 * t ≤ x ∧ x < 32 * t + 32)
def kpF (t : Nat) (im m : Nat → Nat → Int32) : Prop := ∀ c x, ¬ kpX t c x → m c x = im c x
theorem kpF_u {t : Nat} {im m : Nat → Nat → Int32} {c k : Nat} {v : Int32} (h : kpF t im m) (hs : kpX t c k) : kpF t im (en_u2 m c k v) := by
  intro b j hb
  by_cases z : b = c ∧ j = k
  · obtain ⟨rfl, rfl⟩ := z; exact absurd hs hb
  · rw [u2_ne (by omega)]; exact h b j hb
/-- rows done up to k3; of the ranges all of the keys below k, and of key k the first j *-/
def KP (t r : Nat) (im m : Nat → Nat → Int32) (k3 k j : Nat) : Prop := kpF t im m ∧ m 388 t = nI r ∧ (∀ x, x < k3 → m 385 (16 * t + x) = im 385 (960 + x) ∧ m 386 (16 * t + x) = im 386 (960 + x) ∧ m 387 (16 * t + x) = im 387 (960 + x)) ∧ ∀ y, y < r → ∀ x, (x < k ∨ (x = k ∧ y < j)) → m 389 (2 * t + y) = im 389 (120 + y) ∧ m 390 (2 * t + y) = im 390 (120 + y) ∧ m 391 (16 * (2 * t + y) + x) = im 391 (16 * (120 + y) + x)
theorem KP_row {t r : Nat} {im m : Nat → Nat → Int32} {k : Nat} (ht : t < 60) (hk : k < 16) (h : KP t r im m k k 0) : KP t r im (en_u2 (en_u2 (en_u2 m 385 (16 * t + k) (im 385 (960 + k))) 386 (16 * t + k) (im 386 (960 + k))) 387 (16 * t + k) (im 387 (960 + k))) (k + 1) k 0 := by
  obtain ⟨h1, h2, h3, h4⟩ := h
  refine ⟨kpF_u (kpF_u (kpF_u h1 (by unfold kpX; omega)) (by unfold kpX; omega)) (by unfold kpX; omega), by rw [en_u2_off (by decide), en_u2_off (by decide), en_u2_off (by decide)]; exact h2, fun x hx => ?_, fun y hy x hx => ?_⟩
  · rw [en_u2_off (b := 385) (by decide), en_u2_off (b := 385) (by decide), en_u2_off (b := 386) (by decide)]
    by_cases z : x = k
    · subst z; rw [u2_eq, u2_eq, u2_eq]; exact ⟨rfl, rfl, rfl⟩
    · rw [u2_ne (by omega), u2_ne (by omega), u2_ne (by omega), u2_ne (by omega), u2_ne (by omega), u2_ne (by omega)]; exact h3 x (by omega)
  · have := h4 y hy x hx
    rw [en_u2_off (b := 389) (by decide), en_u2_off (b := 389) (by decide), en_u2_off (b := 389) (by decide), en_u2_off (b := 390) (by decide), en_u2_off (b := 390) (by decide), en_u2_off (b := 390) (by decide), en_u2_off (b := 391) (by decide), en_u2_off (b := 391) (by decide), en_u2_off (b := 391) (by decide)]
    exact this
theorem KP_rng {t r : Nat} {im m : Nat → Nat → Int32} {k j : Nat} (ht : t < 60) (hk : k < 16) (hj : j < r) (hr2 : r ≤ 2) (h : KP t r im m (k + 1) k j) : KP t r im (en_u2 (en_u2 (en_u2 m 389 (2 * t + j) (im 389 (120 + j))) 390 (2 * t + j) (im 390 (120 + j))) 391 (16 * (2 * t + j) + k) (im 391 (16 * (120 + j) + k))) (k + 1) k (j + 1) := by
  obtain ⟨h1, h2, h3, h4⟩ := h
  refine ⟨kpF_u (kpF_u (kpF_u h1 (by unfold kpX; omega)) (by unfold kpX; omega)) (by unfold kpX; omega), by rw [en_u2_off (by decide), en_u2_off (by decide), en_u2_off (by decide)]; exact h2, fun x hx => ?_, fun y hy x hx => ?_⟩
  · have := h3 x hx
    rw [en_u2_off (b := 385) (by decide), en_u2_off (b := 385) (by decide), en_u2_off (b := 385) (by decide), en_u2_off (b := 386) (by decide), en_u2_off (b := 386) (by decide), en_u2_off (b := 386) (by decide), en_u2_off (b := 387) (by decide), en_u2_off (b := 387) (by decide), en_u2_off (b := 387) (by decide)]
    exact this
  · rw [en_u2_off (b := 389) (by decide), en_u2_off (b := 389) (by decide), en_u2_off (b := 390) (by decide)]
    by_cases z : y = j
    · subst z
      rw [u2_eq, u2_eq]
      refine ⟨rfl, rfl, ?_⟩
      by_cases w : x = k
      · subst w; rw [u2_eq]
      · rw [u2_ne (by omega), u2_ne (by omega), u2_ne (by omega)]; exact (h4 y hy x (by omega)).2.2
    · rw [u2_ne (by omega), u2_ne (by omega), u2_ne (by omega), u2_ne (by omega), u2_ne (by omega), u2_ne (by omega)]; exact h4 y hy x (by omega)
theorem KP_next {t r : Nat} {im m : Nat → Nat → Int32} {k : Nat} (h : KP t r im m (k + 1) k r) : KP t r im m (k + 1) (k + 1) 0 := by
  obtain ⟨h1, h2, h3, h4⟩ := h
  exact ⟨h1, h2, h3, fun y hy x hx => h4 y hy x (by omega)⟩
theorem KP_end {t r : Nat} {im m : Nat → Nat → Int32} {c : Nat → Int32} (h : KP t r im m 16 16 0) (hr : resR im 60 c r) : resR m t c r := by
  obtain ⟨h1, h2, h3, h4⟩ := h
  obtain ⟨a1, a2, a3, a4, a5⟩ := hr
  refine ⟨h2, a2, a3, fun k hk => ?_, fun j hj => ⟨fun w => ?_, (a5 j hj).2⟩⟩
  · obtain ⟨x1, x2, x3⟩ := h3 k hk
    rw [x1, x2, x3]
    exact a4 k hk
  · obtain ⟨lo, hi, e1, e2, e3, e4, e5, e6⟩ := (a5 j hj).1 w
    refine ⟨lo, hi, (h4 j w 0 (by omega)).1.trans e1, (h4 j w 0 (by omega)).2.1.trans e2, e3, e4, e5, fun k hk => ?_⟩
    have := (h4 j w k (by omega)).2.2
    simp only [this]
    exact e6 k hk
set_option maxRecDepth 20000 in
set_option maxHeartbeats 4000000 in
theorem l100i {LS : Nat} {rm : Nat → Nat → Option Nat} {im : Nat → Nat → Int32} {P : Option Value → (Nat → Nat → Int32) → Prop} {t r k : Nat} (hO : isMo LS rm) (ht : t < 60) (hr2 : r ≤ 2) (hk : k < 16) (kk : ∀ (m : Nat → Nat → Int32) (u : Value), KP t r im m (k + 1) k r → Gm LS rm 100 169 [.ref 371, .int (nI t), .int (nI k), u] [] m P) : ∀ (n j : Nat), j + n = r → ∀ (m : Nat → Nat → Int32), KP t r im m (k + 1) k j → Gm LS rm 100 86 [.ref 371, .int (nI t), .int (nI k), .int (nI j)] [] m P := by
  intro n
  induction n with
  | zero =>
    intro j hj m hK
    have hie : j = r := by omega
    subst hie
    refine g_iload_n k100_86 rfl ?_
    refine g_aload_n k100_87 rfl ?_
    refine g_getr k100_88 (sM371) (by decide) (mo_ranges hO) ?_
    refine g_iload_n k100_91 rfl ?_
    refine g_ialv (v := nI j) k100_92 (sM388) (by omega) (by decide) (hK.2.1) ?_
    refine g_icmp_ge k100_93 (fun _ => ?_) (fun h9 => absurd (nI_le (Nat.le_refl _) (by omega)) h9)
    exact kk m _ hK
  | succ n ih =>
    intro j hj m hK
    have hlt : j < r := by omega
    refine g_iload_n k100_86 rfl ?_
    refine g_aload_n k100_87 rfl ?_
    refine g_getr k100_88 (sM371) (by decide) (mo_ranges hO) ?_
    refine g_iload_n k100_91 rfl ?_
    refine g_ialv (v := nI r) k100_92 (sM388) (by omega) (by decide) (hK.2.1) ?_
    refine g_icmp_ge k100_93 (fun h9 => absurd h9 (nI_ge hlt (by omega))) (fun _ => ?_)
    refine g_aload_n k100_96 rfl ?_
    refine g_getr k100_97 (sM371) (by decide) (mo_from hO) ?_
    refine g_iconst (v := 2) k100_100 ic_2 ?_
    refine g_iload_n k100_101 rfl ?_
    refine g_imul k100_102 ?_
    refine g_iload_n k100_103 rfl ?_
    refine g_iadd k100_104 ?_
    refine g_top (y := nI (2 * t + j)) (by rw [show (2 : Int32) = nI 2 from rfl, pk_mul, nI_add]) ?_
    refine g_aload_n k100_105 rfl ?_
    refine g_getr k100_106 (sM371) (by decide) (mo_from hO) ?_
    refine g_bipush (v := 120) k100_109 bp_120 ?_
    refine g_iload_n k100_111 rfl ?_
    refine g_iadd k100_112 ?_
    refine g_top (y := nI (120 + j)) (nI_add 120 _) ?_
    refine g_ialv (v := im 389 (120 + j)) k100_113 (sM389) (by omega) (by decide) (hK.1 389 _ (by unfold kpX; omega)) ?_
    refine g_iasv k100_114 (sM389) (by omega) (by decide) ?_
    refine g_aload_n k100_115 rfl ?_
    refine g_getr k100_116 (sM371) (by decide) (mo_to hO) ?_
    refine g_iconst (v := 2) k100_119 ic_2 ?_
    refine g_iload_n k100_120 rfl ?_
    refine g_imul k100_121 ?_
    refine g_iload_n k100_122 rfl ?_
    refine g_iadd k100_123 ?_
    refine g_top (y := nI (2 * t + j)) (by rw [show (2 : Int32) = nI 2 from rfl, pk_mul, nI_add]) ?_
    refine g_aload_n k100_124 rfl ?_
    refine g_getr k100_125 (sM371) (by decide) (mo_to hO) ?_
    refine g_bipush (v := 120) k100_128 bp_120 ?_
    refine g_iload_n k100_130 rfl ?_
    refine g_iadd k100_131 ?_
    refine g_top (y := nI (120 + j)) (nI_add 120 _) ?_
    refine g_ialv (v := im 390 (120 + j)) k100_132 (sM390) (by omega) (by decide) (by rw [en_u2_off (by decide)]; exact hK.1 390 _ (by unfold kpX; omega)) ?_
    refine g_iasv k100_133 (sM390) (by omega) (by decide) ?_
    refine g_aload_n k100_134 rfl ?_
    refine g_getr k100_135 (sM371) (by decide) (mo_seen hO) ?_
    refine g_bipush (v := 16) k100_138 bp_16 ?_
    refine g_iconst (v := 2) k100_140 ic_2 ?_
    refine g_iload_n k100_141 rfl ?_
    refine g_imul k100_142 ?_
    refine g_iload_n k100_143 rfl ?_
    refine g_iadd k100_144 ?_
    refine g_top (y := nI (2 * t + j)) (by rw [show (2 : Int32) = nI 2 from rfl, pk_mul, nI_add]) ?_
    refine g_imul k100_145 ?_
    refine g_top (y := nI (16 * (2 * t + j))) (by rw [show (16 : Int32) = nI 16 from rfl, pk_mul]) ?_
    refine g_iload_n k100_146 rfl ?_
    refine g_iadd k100_147 ?_
    refine g_top (y := nI (16 * (2 * t + j) + k)) (nI_add _ _) ?_
    refine g_aload_n k100_148 rfl ?_
    refine g_getr k100_149 (sM371) (by decide) (mo_seen hO) ?_
    refine g_bipush (v := 16) k100_152 bp_16 ?_
    refine g_bipush (v := 120) k100_154 bp_120 ?_
    refine g_iload_n k100_156 rfl ?_
    refine g_iadd k100_157 ?_
    refine g_top (y := nI (120 + j)) (nI_add 120 _) ?_
    refine g_imul k100_158 ?_
    refine g_top (y := nI (16 * (120 + j))) (by rw [show (16 : Int32) = nI 16 from rfl, pk_mul]) ?_
    refine g_iload_n k100_159 rfl ?_
    refine g_iadd k100_160 ?_
    refine g_top (y := nI (16 * (120 + j) + k)) (nI_add _ _) ?_
    refine g_ialv (v := im 391 (16 * (120 + j) + k)) k100_161 (sM391) (by omega) (by decide) (by rw [en_u2_off (by decide), en_u2_off (by decide)]; exact hK.1 391 _ (by unfold kpX; omega)) ?_
    refine g_iasv k100_162 (sM391) (by omega) (by decide) ?_
    refine g_iincv (y := nI (j + 1)) k100_163 rfl (by decide) (inc_1 j) rfl ?_
    refine g_goto k100_166 ?_
    exact ih (j + 1) (by omega) _ (KP_rng ht hk hlt hr2 hK)

set_option maxRecDepth 20000 in
set_option maxHeartbeats 4000000 in
theorem l100 {LS : Nat} {rm : Nat → Nat → Option Nat} {im : Nat → Nat → Int32} {P : Option Value → (Nat → Nat → Int32) → Prop} {t r : Nat} (hO : isMo LS rm) (ht : t < 60) (hr2 : r ≤ 2) (h1 : ∀ m, KP t r im m 16 16 0 → P none m) : ∀ (n i : Nat), i + n = 16 → ∀ (m : Nat → Nat → Int32) (u : Value), KP t r im m i i 0 → Gm LS rm 100 15 [.ref 371, .int (nI t), .int (nI i), u] [] m P := by
  intro n
  induction n with
  | zero =>
    intro i hi m u hK
    have hie : i = 16 := by omega
    subst hie
    refine g_iload_n k100_15 rfl ?_
    refine g_bipush (v := 16) k100_16 bp_16 ?_
    refine g_icmp_ge k100_18 (fun _ => ?_) (fun h9 => absurd (nI_le (Nat.le_refl _) (by decide)) h9)
    exact g_retv k100_175 rfl (h1 m hK)
  | succ n ih =>
    intro i hi m u hK
    have hlt : i < 16 := by omega
    refine g_iload_n k100_15 rfl ?_
    refine g_bipush (v := 16) k100_16 bp_16 ?_
    refine g_icmp_ge k100_18 (fun h9 => absurd h9 (nI_ge hlt (by decide))) (fun _ => ?_)
    refine g_aload_n k100_21 rfl ?_
    refine g_getr k100_22 (sM371) (by decide) (mo_read hO) ?_
    refine g_bipush (v := 16) k100_25 bp_16 ?_
    refine g_iload_n k100_27 rfl ?_
    refine g_imul k100_28 ?_
    refine g_iload_n k100_29 rfl ?_
    refine g_iadd k100_30 ?_
    refine g_top (y := nI (16 * t + i)) (by rw [show (16 : Int32) = nI 16 from rfl, pk_mul, nI_add]) ?_
    refine g_aload_n k100_31 rfl ?_
    refine g_getr k100_32 (sM371) (by decide) (mo_read hO) ?_
    refine g_sipush (v := 960) k100_35 sp_960 ?_
    refine g_iload_n k100_38 rfl ?_
    refine g_iadd k100_39 ?_
    refine g_top (y := nI (960 + i)) (nI_add 960 _) ?_
    refine g_ialv (v := im 385 (960 + i)) k100_40 (sM385) (by omega) (by decide) (hK.1 385 _ (by unfold kpX; omega)) ?_
    refine g_iasv k100_41 (sM385) (by omega) (by decide) ?_
    refine g_aload_n k100_42 rfl ?_
    refine g_getr k100_43 (sM371) (by decide) (mo_wrote hO) ?_
    refine g_bipush (v := 16) k100_46 bp_16 ?_
    refine g_iload_n k100_48 rfl ?_
    refine g_imul k100_49 ?_
    refine g_iload_n k100_50 rfl ?_
    refine g_iadd k100_51 ?_
    refine g_top (y := nI (16 * t + i)) (by rw [show (16 : Int32) = nI 16 from rfl, pk_mul, nI_add]) ?_
    refine g_aload_n k100_52 rfl ?_
    refine g_getr k100_53 (sM371) (by decide) (mo_wrote hO) ?_
    refine g_sipush (v := 960) k100_56 sp_960 ?_
    refine g_iload_n k100_59 rfl ?_
    refine g_iadd k100_60 ?_
    refine g_top (y := nI (960 + i)) (nI_add 960 _) ?_
    refine g_ialv (v := im 386 (960 + i)) k100_61 (sM386) (by omega) (by decide) (by rw [en_u2_off (by decide)]; exact hK.1 386 _ (by unfold kpX; omega)) ?_
    refine g_iasv k100_62 (sM386) (by omega) (by decide) ?_
    refine g_aload_n k100_63 rfl ?_
    refine g_getr k100_64 (sM371) (by decide) (mo_written hO) ?_
    refine g_bipush (v := 16) k100_67 bp_16 ?_
    refine g_iload_n k100_69 rfl ?_
    refine g_imul k100_70 ?_
    refine g_iload_n k100_71 rfl ?_
    refine g_iadd k100_72 ?_
    refine g_top (y := nI (16 * t + i)) (by rw [show (16 : Int32) = nI 16 from rfl, pk_mul, nI_add]) ?_
    refine g_aload_n k100_73 rfl ?_
    refine g_getr k100_74 (sM371) (by decide) (mo_written hO) ?_
    refine g_sipush (v := 960) k100_77 sp_960 ?_
    refine g_iload_n k100_80 rfl ?_
    refine g_iadd k100_81 ?_
    refine g_top (y := nI (960 + i)) (nI_add 960 _) ?_
    refine g_ialv (v := im 387 (960 + i)) k100_82 (sM387) (by omega) (by decide) (by rw [en_u2_off (by decide), en_u2_off (by decide)]; exact hK.1 387 _ (by unfold kpX; omega)) ?_
    refine g_iasv k100_83 (sM387) (by omega) (by decide) ?_
    refine g_iconst (v := 0) k100_84 ic_0 ?_
    refine g_istore_n k100_85 (by decide) rfl ?_
    refine l100i (im := im) (k := i) hO ht hr2 hlt (fun m2 u2 hK2 => ?_) r 0 (by omega) _ (KP_row ht hlt hK)
    refine g_iincv (y := nI (i + 1)) k100_169 rfl (by decide) (inc_1 i) rfl ?_
    refine g_goto k100_172 ?_
    exact ih (i + 1) (by omega) m2 _ (KP_next hK2)

set_option maxRecDepth 20000 in
set_option maxHeartbeats 4000000 in
theorem c100 {LS : Nat} {rm : Nat → Nat → Option Nat} {im : Nat → Nat → Int32} {P : Option Value → (Nat → Nat → Int32) → Prop} {t r : Nat} {c : Nat → Int32} (hO : isMo LS rm) (ht : t < 60) (hr : resR im 60 c r) (h1 : ∀ m, kpF t im m → resR m t c r → P none m) : Gm LS rm 100 0 (en_in 100 [.ref 371, .int (nI t)]) [] im P := by
  show Gm LS rm 100 0 [.ref (371), .int (nI t), .long 0, .long 0] [] im P
  refine g_aload_n k100_0 rfl ?_
  refine g_getr k100_1 (sM371) (by decide) (mo_ranges hO) ?_
  refine g_iload_n k100_4 rfl ?_
  refine g_aload_n k100_5 rfl ?_
  refine g_getr k100_6 (sM371) (by decide) (mo_ranges hO) ?_
  refine g_bipush (v := nI 60) k100_9 bp_60 ?_
  refine g_ialv (v := nI r) k100_11 (sM388) (by decide) (by decide) (hr.1) ?_
  refine g_iasv k100_12 (sM388) (by omega) (by decide) ?_
  refine g_iconst (v := 0) k100_13 ic_0 ?_
  refine g_istore_n k100_14 (by decide) rfl ?_
  exact l100 (im := im) hO ht hr.2.1 (fun m hK => h1 m hK.1 (KP_end hK hr)) 16 0 (by omega) _ _ ⟨kpF_u (fun _ _ _ => rfl) (by unfold kpX; omega), u2_eq, fun x hx => absurd hx (by omega), fun y hy x hx => absurd hx (by omega)⟩

/-! endorse: what go and the machine leave alone *-/
def rgG (im im' : Nat → Nat → Int32) : Prop := ∀ c x, rgX c x → c < 405 ∨ 409 < c → im' c x = im c x
theorem rn_congr {op : Nat → Nat} {opd : Nat → Int32} {arg : Int32} {ver ver' val val' : Nat → Int32} (h1 : ∀ k, k < 16 → ver k = ver' k) (h2 : ∀ k, k < 16 → val k = val' k) : ∀ n, rn_run op opd arg ver val n = rn_run op opd arg ver' val' n := by
  have e1 : ∀ (c : Nat → Int32) (r lo hi : Nat), lo < 16 → hi < 16 → ad_c ver c r lo (hi + 1 - lo) = ad_c ver' c r lo (hi + 1 - lo) := by
    intro c r lo hi hl hh
    funext k
    unfold ad_c
    by_cases z : 16 * (1 + r) + lo ≤ k ∧ k < 16 * (1 + r) + lo + (hi + 1 - lo)
    · rw [if_pos z, if_pos z, h1 _ (by omega)]
    · rw [if_neg z, if_neg z]
  have e2 : ∀ (lo hi : Nat), lo < 16 → hi < 16 → sm val lo (hi + 1 - lo) = sm val' lo (hi + 1 - lo) := by
    intro lo hi hl hh
    have : ∀ n, lo + n ≤ hi + 1 → sm val lo n = sm val' lo n := by
      intro n
      induction n with
      | zero => intro _; rfl
      | succ n ih => intro h; show sm val lo n + val (lo + n) = sm val' lo n + val' (lo + n); rw [ih (by omega), h2 _ (by omega)]
    by_cases z : lo ≤ hi
    · exact this _ (by omega)
    · rw [show hi + 1 - lo = 0 by omega]; rfl
  have e3 : ∀ o x d S c r, rn_step o x arg ver val d S c r = rn_step o x arg ver' val' d S c r := by
    intro o x d S c r
    unfold rn_step
    rw [h1 _ (kb_lt _), h2 _ (kb_lt _), e1 _ _ _ _ (kb_lt _) (kb_lt _), e2 _ _ (kb_lt _) (kb_lt _)]
  intro n
  induction n with
  | zero => rfl
  | succ n ih =>
    show (match rn_run op opd arg ver val n with
      | none => none
      | some q => if 0 < q.2 then some (q.1, q.2 - 1) else rn_step (op n) (opd n) arg ver val q.1.1 q.1.2.1 q.1.2.2.1 q.1.2.2.2) = (match rn_run op opd arg ver' val' n with
      | none => none
      | some q => if 0 < q.2 then some (q.1, q.2 - 1) else rn_step (op n) (opd n) arg ver' val' q.1.1 q.1.2.1 q.1.2.2.1 q.1.2.2.2)
    rw [ih]
    cases rn_run op opd arg ver' val' n with
    | none => rfl
    | some q => show (if 0 < q.2 then some (q.1, q.2 - 1) else rn_step _ _ _ _ _ _ _ _ _) = (if 0 < q.2 then some (q.1, q.2 - 1) else rn_step _ _ _ _ _ _ _ _ _); rw [e3]
set_option maxRecDepth 20000 in
set_option maxHeartbeats 4000000 in
theorem y4 {LS : Nat} {rm : Nat → Nat → Option Nat} {im : Nat → Nat → Int32} {P : Option Value → (Nat → Nat → Int32) → Prop} {a1 a2 : Int32} {m : Nat} {st pr len : Nat → Nat} {op : Nat → Nat → Nat} {opd : Nat → Nat → Int32} (hO : isMo LS rm) (hm : im 371 9 = nI m) (hm2 : m ≤ 60) (hst : ∀ p, p < 4 → im 403 p = nI (st p) ∧ st p ≤ 40) (hG : ∀ p, p < 4 → okG im (st p)) (hver : ∀ p, p < 4 → ∀ k, k < 16 → 0 ≤ (gCh im (im 407) (st p)).1 k) (hpr : ∀ t, t < m → im 381 t = nI (pr t) ∧ pr t < 4) (hl : ∀ p, p < 4 → im 372 p = nI (len p) ∧ len p ≤ 12) (hop : ∀ p, p < 4 → ∀ i, i < len p → im 373 (12 * p + i) = nI (op p i) ∧ op p i ≤ 10) (hod : ∀ p, p < 4 → ∀ i, i < len p → im 374 (12 * p + i) = opd p i ∧ (op p i = 6 → opd p i = nI (tn (opd p i)) ∧ tn (opd p i) ≤ 12)) (h0 : (∀ t p, ¬ (t < m ∧ p < 4 ∧ a1 = nI t ∧ a2 = nI p ∧ im 402 p = 0 ∧ im 384 t = 0 ∧ ¬ (im 383 t >>> (nI p &&& 31)) &&& 1 = 1)) → P (some (.int (-1))) im) (h1 : ∀ t p, t < m → p < 4 → a1 = nI t → a2 = nI p → im 402 p = 0 → im 384 t = 0 → ¬ (im 383 t >>> (nI p &&& 31)) &&& 1 = 1 → rn_run (op (pr t)) (opd (pr t)) (im 382 t) (gCh im (im 407) (st p)).1 (gCh im (im 407) (st p)).2.1 (len (pr t)) = none → ∀ im', rgG im im' → P (some (.int 1)) im') (h2 : ∀ t p, t < m → p < 4 → a1 = nI t → a2 = nI p → im 402 p = 0 → im 384 t = 0 → ¬ (im 383 t >>> (nI p &&& 31)) &&& 1 = 1 → ∀ q, rn_run (op (pr t)) (opd (pr t)) (im 382 t) (gCh im (im 407) (st p)).1 (gCh im (im 407) (st p)).2.1 (len (pr t)) = some q → ∀ im', rgG im im' → resR im' 60 q.1.2.2.1 q.1.2.2.2 → ((im 383 t ≠ 0 ∧ agA im' t q.1.2.2.2 16 = false) → P (some (.int 2)) im') ∧ (¬ (im 383 t ≠ 0 ∧ agA im' t q.1.2.2.2 16 = false) → ∀ m', kpF t im' m' → resR m' t q.1.2.2.1 q.1.2.2.2 → P (some (.int 0)) (en_u2 m' 383 t (im 383 t + (1 <<< (nI p &&& 31)))))) : Gm LS rm 104 0 (en_in 104 [.ref 371, .int a1, .int a2]) [] im P := by
  show Gm LS rm 104 0 [.ref (371), .int (a1), .int (a2)] [] im P
  refine g_aload_n k104_0 rfl ?_
  refine g_iload_n k104_1 rfl ?_
  refine g_inv1 k104_2 (sM371) rfl (by decide) (Nat.le_of_ble_eq_true rfl) (c101 hO hm hm2 (fun t ht e => ?_) (fun h => ?_))
  · subst e
    refine g_if_eq k104_5 (fun h9 => absurd h9 (by decide)) (fun _ => ?_)
    refine g_aload_n k104_8 rfl ?_
    refine g_iload_n k104_9 rfl ?_
    refine g_inv1 k104_10 (sM371) rfl (by decide) (Nat.le_of_ble_eq_true rfl) (c102 hO (fun p hp e hu => ?_) (fun h => ?_))
    · subst e
      refine g_if_eq k104_13 (fun h9 => absurd h9 (by decide)) (fun _ => ?_)
      refine g_aload_n k104_16 rfl ?_
      refine g_getr k104_17 (sM371) (by decide) (mo_closed hO) ?_
      refine g_iload_n k104_20 rfl ?_
      refine g_zalv k104_21 (sM384) (by omega) (by decide) (rfl) ?_
      refine g_if_ne k104_22 (fun g => ?_) (fun g => ?_)
      · refine g_iconst (v := -1) k104_39 ic_m1 ?_
        exact g_reti k104_40 rfl (h0 (fun t2 p2 k2 => by obtain ⟨q1, q2, q3, q4, q5, q6, q7⟩ := k2; have z1 := nI_inj q3 (by omega) (by omega); have z2 := nI_inj q4 (by omega) (by omega); subst z1; subst z2; exact g q6))
      · refine g_aload_n k104_25 rfl ?_
        refine g_getr k104_26 (sM371) (by decide) (mo_endorsers hO) ?_
        refine g_iload_n k104_29 rfl ?_
        refine g_ialv k104_30 (sM383) (by omega) (by decide) (rfl) ?_
        refine g_iload_n k104_31 rfl ?_
        refine g_ishr k104_32 ?_
        refine g_iconst (v := 1) k104_33 ic_1 ?_
        refine g_iand k104_34 ?_
        refine g_iconst (v := 1) k104_35 ic_1 ?_
        refine g_icmp_ne k104_36 (fun gb => ?_) (fun gb => ?_)
        · obtain ⟨s1, s2⟩ := hst p hp
          obtain ⟨r1, r2⟩ := hpr t ht
          refine g_aload_n k104_41 rfl ?_
          refine g_aload_n k104_42 rfl ?_
          refine g_getr k104_43 (sM371) (by decide) (mo_stored hO) ?_
          refine g_iload_n k104_46 rfl ?_
          refine g_ialv (v := nI (st p)) k104_47 (sM403) (by omega) (by decide) (s1) ?_
          refine g_inv1 k104_48 (sM371) rfl (by decide) (Nat.le_of_ble_eq_true rfl) (c91 hO s2 (hG p hp) (fun mm hg => ?_))
          have g1 : ∀ c, c < 405 → mm c = im c := fun c hc => hg.1 c (Or.inl hc)
          obtain ⟨l1, l2⟩ := hl (pr t) r2
          have rc : rn_run (op (pr t)) (opd (pr t)) (im 382 t) (mm 406) (mm 405) (len (pr t)) = rn_run (op (pr t)) (opd (pr t)) (im 382 t) (gCh im (im 407) (st p)).1 (gCh im (im 407) (st p)).2.1 (len (pr t)) := rn_congr hg.2.1 hg.2.2.1 _
          refine g_aload_n k104_51 rfl ?_
          refine g_aload_n k104_52 rfl ?_
          refine g_getr k104_53 (sM371) (by decide) (mo_program hO) ?_
          refine g_iload_n k104_56 rfl ?_
          refine g_ialv (v := nI (pr t)) k104_57 (sM381) (by omega) (by decide) (by rw [g1 381 (by decide)]; exact r1) ?_
          refine g_aload_n k104_58 rfl ?_
          refine g_getr k104_59 (sM371) (by decide) (mo_argument hO) ?_
          refine g_iload_n k104_62 rfl ?_
          refine g_ialv (v := im 382 t) k104_63 (sM382) (by omega) (by decide) (by rw [g1 382 (by decide)]) ?_
          refine g_inv2 k104_64 (sM371) rfl rfl (by decide) (Nat.le_of_ble_eq_true rfl) (c95 (op := op (pr t)) (opd := opd (pr t)) (len := len (pr t)) hO r2 (by rw [g1 372 (by decide)]; exact l1) l2 (by rw [g1 373 (by decide)]; exact hop (pr t) r2) (by rw [g1 374 (by decide)]; exact hod (pr t) r2) (fun k hk => by rw [hg.2.1 k hk]; exact hver p hp k hk) (fun hq m2 hF2 hf2 => ?_) (fun q hq m2 hF2 hC2 hf2 => ?_))
          · refine g_aload_n k104_67 rfl ?_
            refine g_getv (v := 1) k104_68 (sM371) (by decide) (hf2) ?_
            refine g_if_eq k104_71 (fun h9 => absurd h9 (by decide)) (fun _ => ?_)
            refine g_iconst (v := 1) k104_74 ic_1 ?_
            exact g_reti k104_75 rfl (h1 t p ht hp rfl rfl hu g gb (rc.symm.trans hq) m2 (fun c x hx hc => (hF2 c x hx).trans (by rw [hg.1 c hc])))
          · refine g_aload_n k104_67 rfl ?_
            refine g_getv (v := 0) k104_68 (sM371) (by decide) (hf2) ?_
            refine g_if_eq k104_71 (fun _ => ?_) (fun h9 => absurd (rfl) h9)
            have hGG : rgG im m2 := fun c x hx hc => (hF2 c x hx).trans (by rw [hg.1 c hc])
            have he : m2 383 t = im 383 t := hGG 383 t (by unfold rgX; omega) (by decide)
            obtain ⟨h3, h4⟩ := h2 t p ht hp rfl rfl hu g gb q (rc.symm.trans hq) m2 hGG hC2.2.2.2
            refine g_aload_n k104_76 rfl ?_
            refine g_getr k104_77 (sM371) (by decide) (mo_endorsers hO) ?_
            refine g_iload_n k104_80 rfl ?_
            refine g_ialv (v := im 383 t) k104_81 (sM383) (by omega) (by decide) (he) ?_
            refine g_if_eq k104_82 (fun ge => ?_) (fun ge => ?_)
            · refine g_aload_n k104_95 rfl ?_
              refine g_iload_n k104_96 rfl ?_
              refine g_inv1 k104_97 (sM371) rfl (by decide) (Nat.le_of_ble_eq_true rfl) (c100 hO (by omega) hC2.2.2.2 (fun m3 hk3 hr3 => ?_))
              have he3 : m3 383 t = im 383 t := (hk3 383 t (by unfold kpX; omega)).trans he
              refine g_aload_n k104_100 rfl ?_
              refine g_getr k104_101 (sM371) (by decide) (mo_endorsers hO) ?_
              refine g_iload_n k104_104 rfl ?_
              refine g_dup2 k104_105 rfl rfl ?_
              refine g_ialv (v := im 383 t) k104_106 (sM383) (by omega) (by decide) (he3) ?_
              refine g_iconst (v := 1) k104_107 ic_1 ?_
              refine g_iload_n k104_108 rfl ?_
              refine g_ishl k104_109 ?_
              refine g_iadd k104_110 ?_
              refine g_iasv k104_111 (sM383) (by omega) (by decide) ?_
              refine g_iconst (v := 0) k104_112 ic_0 ?_
              exact g_reti k104_113 rfl (h4 (fun z => z.1 ge) m3 hk3 hr3)
            · refine g_aload_n k104_85 rfl ?_
              refine g_iload_n k104_86 rfl ?_
              refine g_inv1 k104_87 (sM371) rfl (by decide) (Nat.le_of_ble_eq_true rfl) (c99 hO (by omega) hC2.2.2.2.1 hC2.2.2.2.2.1 ?_)
              cases ha : agA m2 t q.1.2.2.2 16 with
              | true =>
                refine g_if_ne k104_90 (fun _ => ?_) (fun h9 => absurd h9 (by decide))
                refine g_aload_n k104_95 rfl ?_
                refine g_iload_n k104_96 rfl ?_
                refine g_inv1 k104_97 (sM371) rfl (by decide) (Nat.le_of_ble_eq_true rfl) (c100 hO (by omega) hC2.2.2.2 (fun m3 hk3 hr3 => ?_))
                have he3 : m3 383 t = im 383 t := (hk3 383 t (by unfold kpX; omega)).trans he
                refine g_aload_n k104_100 rfl ?_
                refine g_getr k104_101 (sM371) (by decide) (mo_endorsers hO) ?_
                refine g_iload_n k104_104 rfl ?_
                refine g_dup2 k104_105 rfl rfl ?_
                refine g_ialv (v := im 383 t) k104_106 (sM383) (by omega) (by decide) (he3) ?_
                refine g_iconst (v := 1) k104_107 ic_1 ?_
                refine g_iload_n k104_108 rfl ?_
                refine g_ishl k104_109 ?_
                refine g_iadd k104_110 ?_
                refine g_iasv k104_111 (sM383) (by omega) (by decide) ?_
                refine g_iconst (v := 0) k104_112 ic_0 ?_
                exact g_reti k104_113 rfl (h4 (fun z => by rw [ha] at z; exact absurd z.2 (by decide)) m3 hk3 hr3)
              | false =>
                refine g_if_ne k104_90 (fun h9 => absurd (rfl) h9) (fun _ => ?_)
                refine g_iconst (v := 2) k104_93 ic_2 ?_
                exact g_reti k104_94 rfl (h3 ⟨ge, ha⟩)
        · refine g_iconst (v := -1) k104_39 ic_m1 ?_
          exact g_reti k104_40 rfl (h0 (fun t2 p2 k2 => by obtain ⟨q1, q2, q3, q4, q5, q6, q7⟩ := k2; have z1 := nI_inj q3 (by omega) (by omega); have z2 := nI_inj q4 (by omega) (by omega); subst z1; subst z2; exact q7 gb))
    · refine g_if_eq k104_13 (fun _ => ?_) (fun h9 => absurd (by decide) h9)
      refine g_iconst (v := -1) k104_39 ic_m1 ?_
      exact g_reti k104_40 rfl (h0 (fun t2 p2 k2 => h p2 k2.2.1 k2.2.2.2.1 k2.2.2.2.2.1))
  · refine g_if_eq k104_5 (fun _ => ?_) (fun h9 => absurd (by decide) h9)
    refine g_iconst (v := -1) k104_39 ic_m1 ?_
    exact g_reti k104_40 rfl (h0 (fun t2 p2 k2 => w_out (by omega) k2.1 h k2.2.2.1))

