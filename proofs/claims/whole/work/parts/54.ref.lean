/-! RULES of the reference: the i-th rule of program p, with threshold K, nn parts pt, for the set e *-/
def flC (F : Nat → Int32) (pt : Nat → Nat) : Nat → Nat
  | 0 => 0
  | q + 1 => flC F pt q + (if F (pt q) = 0 then 0 else 1)
theorem flC_le (F : Nat → Int32) (pt : Nat → Nat) : ∀ n, flC F pt n ≤ n := by
  intro n
  induction n with
  | zero => exact Nat.le_refl _
  | succ n ih => unfold flC; split <;> omega
def flV (e K : Int32) (n cnt : Nat) : Int32 := if n = 0 then (if (e >>> (K &&& 31)) &&& 1 = 1 then 1 else 0) else if nI cnt < K then 0 else 1
def flF (e : Int32) (K : Nat → Int32) (nn : Nat → Nat) (pt : Nat → Nat → Nat) (F0 : Nat → Int32) : Nat → (Nat → Int32)
  | 0 => F0
  | i + 1 => fun k => if k = i then flV e (K i) (nn i) (flC (flF e K nn pt F0 i) (pt i) (nn i)) else flF e K nn pt F0 i k
theorem flV_b (e K : Int32) (n cnt : Nat) : flV e K n cnt = 0 ∨ flV e K n cnt = 1 := by
  unfold flV
  split
  · split
    · exact Or.inr rfl
    · exact Or.inl rfl
  · split
    · exact Or.inl rfl
    · exact Or.inr rfl
theorem flC_congr {F G : Nat → Int32} {pt : Nat → Nat} : ∀ n, (∀ q, q < n → F (pt q) = G (pt q)) → flC F pt n = flC G pt n := by
  intro n
  induction n with
  | zero => intro _; rfl
  | succ n ih => intro h; unfold flC; rw [ih (fun q hq => h q (by omega)), h n (by omega)]
/-- what is worked out does not hang on what stood there before *-/
theorem flF_ind {e : Int32} {K : Nat → Int32} {nn : Nat → Nat} {pt : Nat → Nat → Nat} {F0 G0 : Nat → Int32} : ∀ i, (∀ j, j < i → ∀ q, q < nn j → pt j q < j) → ∀ k, k < i → flF e K nn pt F0 i k = flF e K nn pt G0 i k := by
  intro i
  induction i with
  | zero => intro _ k hk; omega
  | succ i ih =>
    intro h k hk
    have ih := ih (fun j hj => h j (by omega))
    show (if k = i then _ else _) = (if k = i then _ else _)
    by_cases hki : k = i
    · rw [if_pos hki, if_pos hki, flC_congr (nn i) (fun q hq => ih _ (h i (by omega) q hq))]
    · rw [if_neg hki, if_neg hki]
      exact ih k (by omega)
/-! the same, read off the memory *-/
def rR (im : Nat → Nat → Int32) (p : Nat) : Nat := tn (im 375 p)
def rH (im : Nat → Nat → Int32) (p : Nat) : Nat := tn (im 380 p)
def rK (im : Nat → Nat → Int32) (p i : Nat) : Int32 := im 376 (9 * p + i)
def rN (im : Nat → Nat → Int32) (p i : Nat) : Nat := tn (im 377 (9 * p + i))
def rP (im : Nat → Nat → Int32) (p i q : Nat) : Nat := tn (im 378 (4 * (9 * p + i) + q)) - 9 * p
def rT (im : Nat → Nat → Int32) (p : Nat) : Nat := tn (im 379 (9 * p + (rH im p - 1))) - 9 * p
def okR (im : Nat → Nat → Int32) (p : Nat) : Prop := im 375 p = nI (rR im p) ∧ rR im p ≤ 9 ∧ im 380 p = nI (rH im p) ∧ rH im p ≤ 9 ∧ (∀ i, i < rR im p → im 377 (9 * p + i) = nI (rN im p i) ∧ rN im p i ≤ 4 ∧ ∀ q, q < rN im p i → im 378 (4 * (9 * p + i) + q) = nI (9 * p + rP im p i q) ∧ rP im p i q < i) ∧ (0 < rH im p → im 379 (9 * p + (rH im p - 1)) = nI (9 * p + rT im p) ∧ rT im p < rR im p)
def fulV (im : Nat → Nat → Int32) (p : Nat) (e : Int32) : Int32 := if rH im p = 0 then 0 else if flF e (rK im p) (rN im p) (rP im p) (fun _ => 0) (rR im p) (rT im p) = 0 then 0 else 1
def off9 (im im' : Nat → Nat → Int32) : Prop := ∀ c, c ≠ 409 → im' c = im c
set_option maxRecDepth 20000 in
set_option maxHeartbeats 4000000 in
theorem l90i {LS : Nat} {rm : Nat → Nat → Option Nat} {im : Nat → Nat → Int32} {P : Option Value → (Nat → Nat → Int32) → Prop} {p i : Nat} {e : Int32} {F : Nat → Int32} (hO : isMo LS rm) (hp : p < 4) (hR : okR im p) (hi9 : i < rR im p) (kk : Gm LS rm 90 79 [.ref 371, .int (nI p), .int e, .int (nI i), .int (nI (9 * p + i)), .int (nI (flC F (rP im p i) (rN im p i))), .int (nI (rN im p i))] [] (en_ur im 409 F) P) : ∀ (n j : Nat), j + n = rN im p i → Gm LS rm 90 26 [.ref (371), .int (nI p), .int (e), .int (nI i), .int (nI (9 * p + i)), .int (nI (flC F (rP im p i) j)), .int (nI j)] [] (en_ur im 409 F) P := by
  obtain ⟨x1, x2, x3, x4, x5, x6⟩ := hR
  have x7 := (x5 i hi9).2.1
  intro n
  induction n with
  | zero =>
    intro j hj
    have hie : j = rN im p i := by omega
    subst hie
    refine g_iload k90_26 rfl ?_
    refine g_aload_n k90_28 rfl ?_
    refine g_getr k90_29 (sM371) (by decide) (mo_ruleN hO) ?_
    refine g_iload k90_32 rfl ?_
    refine g_ialv (v := nI (rN im p i)) k90_34 (sM377) (by omega) (by decide) (by rw [ur_ne (by decide)]; exact (x5 i hi9).1) ?_
    refine g_icmp_ge k90_35 (fun _ => ?_) (fun h9 => absurd (nI_le (Nat.le_refl _) (by omega)) h9)
    exact kk
  | succ n ih =>
    intro j hj
    have hlt : j < rN im p i := by omega
    refine g_iload k90_26 rfl ?_
    refine g_aload_n k90_28 rfl ?_
    refine g_getr k90_29 (sM371) (by decide) (mo_ruleN hO) ?_
    refine g_iload k90_32 rfl ?_
    refine g_ialv (v := nI (rN im p i)) k90_34 (sM377) (by omega) (by decide) (by rw [ur_ne (by decide)]; exact (x5 i hi9).1) ?_
    refine g_icmp_ge k90_35 (fun h9 => absurd h9 (nI_ge hlt (by omega))) (fun _ => ?_)
    obtain ⟨q1, q2, q3⟩ := x5 i hi9
    obtain ⟨q4, q5⟩ := q3 j hlt
    refine g_iload k90_38 rfl ?_
    refine g_aload_n k90_40 rfl ?_
    refine g_getr k90_41 (sM371) (by decide) (mo_fulfilled hO) ?_
    refine g_aload_n k90_44 rfl ?_
    refine g_getr k90_45 (sM371) (by decide) (mo_part hO) ?_
    refine g_iconst (v := 4) k90_48 ic_4 ?_
    refine g_iload k90_49 rfl ?_
    refine g_imul k90_51 ?_
    refine g_iload k90_52 rfl ?_
    refine g_iadd k90_54 ?_
    refine g_top (y := nI (4 * (9 * p + i) + j)) (by rw [show (4 : Int32) = nI 4 from rfl, pk_mul, nI_add]) ?_
    refine g_ialv (v := nI (9 * p + rP im p i j)) k90_55 (sM378) (by omega) (by decide) (by rw [ur_ne (by decide)]; exact q4) ?_
    refine g_bipush (v := 9) k90_56 bp_9 ?_
    refine g_iload_n k90_58 rfl ?_
    refine g_imul k90_59 ?_
    refine g_isub k90_60 ?_
    refine g_top (y := nI (rP im p i j)) (by rw [show (9 : Int32) = nI 9 from rfl, pk_mul, pk_sub (Nat.le_add_right _ _), Nat.add_sub_cancel_left]) ?_
    refine g_zalv (v := F (rP im p i j)) k90_61 (sM409) (by omega) (by decide) (by rw [ur_eq]) ?_
    refine g_if_eq k90_62 (fun g => ?_) (fun g => ?_)
    · refine g_iconst (v := 0) k90_69 ic_0 ?_
      refine g_iadd k90_70 ?_
      refine g_top (y := nI (flC F (rP im p i) j)) (by rw [show (0 : Int32) = nI 0 from rfl, nI_add, Nat.add_zero]) ?_
      refine g_istore k90_71 (by decide) rfl ?_
      refine g_iincv (y := nI (j + 1)) k90_73 rfl (by decide) (inc_1 j) rfl ?_
      refine g_goto k90_76 ?_
      have e1 : flC F (rP im p i) (j + 1) = flC F (rP im p i) j := congrArg (fun z => flC F (rP im p i) j + z) (if_pos g)
      have := ih (j + 1) (by omega)
      rw [e1] at this
      exact this
    · refine g_iconst (v := 1) k90_65 ic_1 ?_
      refine g_goto k90_66 ?_
      refine g_iadd k90_70 ?_
      refine g_top (y := nI (flC F (rP im p i) j + 1)) (nI_1 _) ?_
      refine g_istore k90_71 (by decide) rfl ?_
      refine g_iincv (y := nI (j + 1)) k90_73 rfl (by decide) (inc_1 j) rfl ?_
      refine g_goto k90_76 ?_
      have e1 : flC F (rP im p i) (j + 1) = flC F (rP im p i) j + 1 := congrArg (fun z => flC F (rP im p i) j + z) (if_neg g)
      have := ih (j + 1) (by omega)
      rw [e1] at this
      exact this

set_option maxRecDepth 20000 in
set_option maxHeartbeats 4000000 in
theorem l90 {LS : Nat} {rm : Nat → Nat → Option Nat} {im : Nat → Nat → Int32} {P : Option Value → (Nat → Nat → Int32) → Prop} {p : Nat} {e : Int32} (hO : isMo LS rm) (hp : p < 4) (hR : okR im p) (h1 : ∀ im', off9 im im' → P (some (.int (fulV im p e))) im') : ∀ (n i : Nat), i + n = rR im p → ∀ (u4 u5 u6 : Value), Gm LS rm 90 2 [.ref (371), .int (nI p), .int (e), .int (nI i), u4, u5, u6] [] (en_ur im 409 (flF e (rK im p) (rN im p) (rP im p) (im 409) (i))) P := by
  obtain ⟨x1, x2, x3, x4, x5, x6⟩ := hR
  intro n
  induction n with
  | zero =>
    intro i hi u4 u5 u6
    have hie : i = rR im p := by omega
    subst hie
    refine g_iload_n k90_2 rfl ?_
    refine g_aload_n k90_3 rfl ?_
    refine g_getr k90_4 (sM371) (by decide) (mo_rules hO) ?_
    refine g_iload_n k90_7 rfl ?_
    refine g_ialv (v := nI (rR im p)) k90_8 (sM375) (hp) (by decide) (by rw [ur_ne (by decide)]; exact x1) ?_
    refine g_icmp_ge k90_9 (fun _ => ?_) (fun h9 => absurd (nI_le (Nat.le_refl _) (by omega)) h9)
    have ho : off9 im (en_ur im 409 (flF e (rK im p) (rN im p) (rP im p) (im 409) (rR im p))) := fun c hc => ur_ne hc
    have h1 := h1 _ ho
    unfold fulV at h1
    refine g_aload_n k90_141 rfl ?_
    refine g_getr k90_142 (sM371) (by decide) (mo_high hO) ?_
    refine g_iload_n k90_145 rfl ?_
    refine g_ialv (v := nI (rH im p)) k90_146 (sM380) (hp) (by decide) (by rw [ur_ne (by decide)]; exact x3) ?_
    refine g_if_le k90_147 (fun g => ?_) (fun g => ?_)
    · have hz : rH im p = 0 := by
        have : ¬ 0 < rH im p := fun z => nI_nle z (by omega) g
        omega
      rw [if_pos hz] at h1
      refine g_iconst (v := 0) k90_185 ic_0 ?_
      exact g_retz k90_186 rfl (by decide) (h1)
    · have hz : 0 < rH im p := Nat.pos_of_ne_zero (fun z => g (by rw [z]; decide))
      obtain ⟨t1, t2⟩ := x6 hz
      rw [if_neg (by omega)] at h1
      have hi9 := flF_ind (e := e) (K := rK im p) (nn := rN im p) (pt := rP im p) (F0 := im 409) (G0 := fun _ => 0) (rR im p) (fun j hj q hq => ((x5 j hj).2.2 q hq).2) (rT im p) t2
      refine g_aload_n k90_150 rfl ?_
      refine g_getr k90_151 (sM371) (by decide) (mo_fulfilled hO) ?_
      refine g_aload_n k90_154 rfl ?_
      refine g_getr k90_155 (sM371) (by decide) (mo_pile hO) ?_
      refine g_bipush (v := 9) k90_158 bp_9 ?_
      refine g_iload_n k90_160 rfl ?_
      refine g_imul k90_161 ?_
      refine g_aload_n k90_162 rfl ?_
      refine g_getr k90_163 (sM371) (by decide) (mo_high hO) ?_
      refine g_iload_n k90_166 rfl ?_
      refine g_ialv (v := nI (rH im p)) k90_167 (sM380) (hp) (by decide) (by rw [ur_ne (by decide)]; exact x3) ?_
      refine g_iadd k90_168 ?_
      refine g_top (y := nI (9 * p + rH im p)) (by rw [show (9 : Int32) = nI 9 from rfl, pk_mul, nI_add]) ?_
      refine g_iconst (v := 1) k90_169 ic_1 ?_
      refine g_isub k90_170 ?_
      refine g_top (y := nI (9 * p + (rH im p - 1))) (by rw [nI_m1 (by omega), show 9 * p + rH im p - 1 = 9 * p + (rH im p - 1) by omega]) ?_
      refine g_ialv (v := nI (9 * p + rT im p)) k90_171 (sM379) (by omega) (by decide) (by rw [ur_ne (by decide)]; exact t1) ?_
      refine g_bipush (v := 9) k90_172 bp_9 ?_
      refine g_iload_n k90_174 rfl ?_
      refine g_imul k90_175 ?_
      refine g_isub k90_176 ?_
      refine g_top (y := nI (rT im p)) (by rw [show (9 : Int32) = nI 9 from rfl, pk_mul, pk_sub (Nat.le_add_right _ _), Nat.add_sub_cancel_left]) ?_
      refine g_zalv (v := flF e (rK im p) (rN im p) (rP im p) (fun _ => 0) (rR im p) (rT im p)) k90_177 (sM409) (by omega) (by decide) (by rw [ur_eq]; exact hi9) ?_
      refine g_if_eq k90_178 (fun d => ?_) (fun d => ?_)
      · rw [if_pos d] at h1
        refine g_iconst (v := 0) k90_185 ic_0 ?_
        exact g_retz k90_186 rfl (by decide) (h1)
      · rw [if_neg d] at h1
        refine g_iconst (v := 1) k90_181 ic_1 ?_
        refine g_goto k90_182 ?_
        exact g_retz k90_186 rfl (by decide) (h1)
  | succ n ih =>
    intro i hi u4 u5 u6
    have hlt : i < rR im p := by omega
    refine g_iload_n k90_2 rfl ?_
    refine g_aload_n k90_3 rfl ?_
    refine g_getr k90_4 (sM371) (by decide) (mo_rules hO) ?_
    refine g_iload_n k90_7 rfl ?_
    refine g_ialv (v := nI (rR im p)) k90_8 (sM375) (hp) (by decide) (by rw [ur_ne (by decide)]; exact x1) ?_
    refine g_icmp_ge k90_9 (fun h9 => absurd h9 (nI_ge hlt (by omega))) (fun _ => ?_)
    obtain ⟨q1, q2, q3⟩ := x5 i hlt
    have hcl := flC_le (flF e (rK im p) (rN im p) (rP im p) (im 409) i) (rP im p i) (rN im p i)
    refine g_bipush (v := 9) k90_12 bp_9 ?_
    refine g_iload_n k90_14 rfl ?_
    refine g_imul k90_15 ?_
    refine g_iload_n k90_16 rfl ?_
    refine g_iadd k90_17 ?_
    refine g_top (y := nI (9 * p + i)) (by rw [show (9 : Int32) = nI 9 from rfl, pk_mul, nI_add]) ?_
    refine g_istore k90_18 (by decide) rfl ?_
    refine g_iconst (v := 0) k90_20 ic_0 ?_
    refine g_istore k90_21 (by decide) rfl ?_
    refine g_iconst (v := 0) k90_23 ic_0 ?_
    refine g_istore k90_24 (by decide) rfl ?_
    refine l90i hO hp ⟨x1, x2, x3, x4, x5, x6⟩ hlt ?_ (rN im p i) 0 (by omega)
    refine g_aload_n k90_79 rfl ?_
    refine g_getr k90_80 (sM371) (by decide) (mo_fulfilled hO) ?_
    refine g_iload_n k90_83 rfl ?_
    refine g_aload_n k90_84 rfl ?_
    refine g_getr k90_85 (sM371) (by decide) (mo_ruleN hO) ?_
    refine g_iload k90_88 rfl ?_
    refine g_ialv (v := nI (rN im p i)) k90_90 (sM377) (by omega) (by decide) (by rw [ur_ne (by decide)]; exact q1) ?_
    refine g_if_ne k90_91 (fun g => ?_) (fun g => ?_)
    · have n0 : rN im p i ≠ 0 := fun z => g (by rw [z]; rfl)
      refine g_iload k90_117 rfl ?_
      refine g_aload_n k90_119 rfl ?_
      refine g_getr k90_120 (sM371) (by decide) (mo_ruleK hO) ?_
      refine g_iload k90_123 rfl ?_
      refine g_ialv (v := rK im p i) k90_125 (sM376) (by omega) (by decide) (by rw [ur_ne (by decide)]; rfl) ?_
      refine g_icmp_lt k90_126 (fun d => ?_) (fun d => ?_)
      · have hv : flV e (rK im p i) (rN im p i) (flC (flF e (rK im p) (rN im p) (rP im p) (im 409) i) (rP im p i) (rN im p i)) = 0 := by unfold flV; rw [if_neg n0, if_pos d]
        refine g_iconst (v := 0) k90_133 ic_0 ?_
        refine g_zasv k90_134 (sM409) (by omega) (by decide) (by decide) ?_
        have e1 : (flF e (rK im p) (rN im p) (rP im p) (im 409) (i + 1)) = (fun k => if k = i then 0 else (flF e (rK im p) (rN im p) (rP im p) (im 409) i) k) := by
          show (fun k => if k = i then flV e (rK im p i) (rN im p i) (flC (flF e (rK im p) (rN im p) (rP im p) (im 409) i) (rP im p i) (rN im p i)) else (flF e (rK im p) (rN im p) (rP im p) (im 409) i) k) = _
          rw [hv]
        rw [ur_u2, ← e1]
        refine g_iincv (y := nI (i + 1)) k90_135 rfl (by decide) (inc_1 i) rfl ?_
        refine g_goto k90_138 ?_
        exact ih (i + 1) (by omega) _ _ _
      · have hv : flV e (rK im p i) (rN im p i) (flC (flF e (rK im p) (rN im p) (rP im p) (im 409) i) (rP im p i) (rN im p i)) = 1 := by unfold flV; rw [if_neg n0, if_neg d]
        refine g_iconst (v := 1) k90_129 ic_1 ?_
        refine g_goto k90_130 ?_
        refine g_zasv k90_134 (sM409) (by omega) (by decide) (by decide) ?_
        have e1 : (flF e (rK im p) (rN im p) (rP im p) (im 409) (i + 1)) = (fun k => if k = i then 1 else (flF e (rK im p) (rN im p) (rP im p) (im 409) i) k) := by
          show (fun k => if k = i then flV e (rK im p i) (rN im p i) (flC (flF e (rK im p) (rN im p) (rP im p) (im 409) i) (rP im p i) (rN im p i)) else (flF e (rK im p) (rN im p) (rP im p) (im 409) i) k) = _
          rw [hv]
        rw [ur_u2, ← e1]
        refine g_iincv (y := nI (i + 1)) k90_135 rfl (by decide) (inc_1 i) rfl ?_
        refine g_goto k90_138 ?_
        exact ih (i + 1) (by omega) _ _ _
    · have n0 : rN im p i = 0 := nI_inj (b := 0) g (by omega) (by decide)
      refine g_iload_n k90_94 rfl ?_
      refine g_aload_n k90_95 rfl ?_
      refine g_getr k90_96 (sM371) (by decide) (mo_ruleK hO) ?_
      refine g_iload k90_99 rfl ?_
      refine g_ialv (v := rK im p i) k90_101 (sM376) (by omega) (by decide) (by rw [ur_ne (by decide)]; rfl) ?_
      refine g_ishr k90_102 ?_
      refine g_iconst (v := 1) k90_103 ic_1 ?_
      refine g_iand k90_104 ?_
      refine g_iconst (v := 1) k90_105 ic_1 ?_
      refine g_icmp_ne k90_106 (fun d => ?_) (fun d => ?_)
      · have hv : flV e (rK im p i) (rN im p i) (flC (flF e (rK im p) (rN im p) (rP im p) (im 409) i) (rP im p i) (rN im p i)) = 0 := by unfold flV; rw [if_pos n0, if_neg d]
        refine g_iconst (v := 0) k90_113 ic_0 ?_
        refine g_goto k90_114 ?_
        refine g_zasv k90_134 (sM409) (by omega) (by decide) (by decide) ?_
        have e1 : (flF e (rK im p) (rN im p) (rP im p) (im 409) (i + 1)) = (fun k => if k = i then 0 else (flF e (rK im p) (rN im p) (rP im p) (im 409) i) k) := by
          show (fun k => if k = i then flV e (rK im p i) (rN im p i) (flC (flF e (rK im p) (rN im p) (rP im p) (im 409) i) (rP im p i) (rN im p i)) else (flF e (rK im p) (rN im p) (rP im p) (im 409) i) k) = _
          rw [hv]
        rw [ur_u2, ← e1]
        refine g_iincv (y := nI (i + 1)) k90_135 rfl (by decide) (inc_1 i) rfl ?_
        refine g_goto k90_138 ?_
        exact ih (i + 1) (by omega) _ _ _
      · have hv : flV e (rK im p i) (rN im p i) (flC (flF e (rK im p) (rN im p) (rP im p) (im 409) i) (rP im p i) (rN im p i)) = 1 := by unfold flV; rw [if_pos n0, if_pos d]
        refine g_iconst (v := 1) k90_109 ic_1 ?_
        refine g_goto k90_110 ?_
        refine g_zasv k90_134 (sM409) (by omega) (by decide) (by decide) ?_
        have e1 : (flF e (rK im p) (rN im p) (rP im p) (im 409) (i + 1)) = (fun k => if k = i then 1 else (flF e (rK im p) (rN im p) (rP im p) (im 409) i) k) := by
          show (fun k => if k = i then flV e (rK im p i) (rN im p i) (flC (flF e (rK im p) (rN im p) (rP im p) (im 409) i) (rP im p i) (rN im p i)) else (flF e (rK im p) (rN im p) (rP im p) (im 409) i) k) = _
          rw [hv]
        rw [ur_u2, ← e1]
        refine g_iincv (y := nI (i + 1)) k90_135 rfl (by decide) (inc_1 i) rfl ?_
        refine g_goto k90_138 ?_
        exact ih (i + 1) (by omega) _ _ _

set_option maxRecDepth 20000 in
set_option maxHeartbeats 4000000 in
theorem c90 {LS : Nat} {rm : Nat → Nat → Option Nat} {im : Nat → Nat → Int32} {P : Option Value → (Nat → Nat → Int32) → Prop} {p : Nat} {e : Int32} (hO : isMo LS rm) (hp : p < 4) (hR : okR im p) (h1 : ∀ im', off9 im im' → P (some (.int (fulV im p e))) im') : Gm LS rm 90 0 (en_in 90 [.ref 371, .int (nI p), .int e]) [] im P := by
  show Gm LS rm 90 0 [.ref (371), .int (nI p), .int (e), .long 0, .long 0, .long 0, .long 0] [] im P
  refine g_iconst (v := 0) k90_0 ic_0 ?_
  refine g_istore_n k90_1 (by decide) rfl ?_
  have := l90 hO hp hR h1 (rR im p) 0 (by omega) (.long 0) (.long 0) (.long 0)
  have e9 : en_ur im 409 (flF e (rK im p) (rN im p) (rP im p) (im 409) 0) = im := ur_self
  rw [e9] at this
  exact this

