/-! DO TWO RESULTS AGREE? *-/
def agK (im : Nat → Nat → Int32) (t k : Nat) : Bool := decide (im 385 (16 * t + k) = im 385 (960 + k)) && decide (im 386 (16 * t + k) = im 386 (960 + k)) && decide (im 387 (16 * t + k) = im 387 (960 + k))
def agJ (im : Nat → Nat → Int32) (t k j : Nat) : Bool := decide (im 389 (2 * t + j) = im 389 (120 + j)) && decide (im 390 (2 * t + j) = im 390 (120 + j)) && decide (im 391 (16 * (2 * t + j) + k) = im 391 (16 * (120 + j) + k))
def agA (im : Nat → Nat → Int32) (t r k : Nat) : Bool := decide (im 388 t = im 388 60) && allN (fun k => agK im t k && allN (agJ im t k) r) k
theorem allN_f {p : Nat → Bool} {b : Bool} {j n : Nat} (h : (b && allN p j) = false) (hj : j ≤ n) : (b && allN p n) = false := by
  cases b with
  | false => rfl
  | true =>
    show allN p n = false
    cases hb : allN p n with
    | false => rfl
    | true =>
      have h2 : allN p j = true := allN_iff.mpr (fun k hk => allN_iff.mp hb k (by omega))
      rw [h2] at h
      exact absurd h (by decide)
set_option maxRecDepth 20000 in
set_option maxHeartbeats 4000000 in
theorem l99i {LS : Nat} {rm : Nat → Nat → Option Nat} {im : Nat → Nat → Int32} {P : Option Value → (Nat → Nat → Int32) → Prop} {t k r : Nat} {B : Bool} (hO : isMo LS rm) (ht : t < 60) (hk : k < 16) (hr : im 388 60 = nI r) (hr2 : r ≤ 2) (kk : ∀ (u : Value), Gm LS rm 99 225 [.ref 371, .int (nI t), .int (bI (B && allN (agJ im t k) r)), .int (nI k), u] [] im P) : ∀ (n j : Nat), j + n = r → Gm LS rm 99 115 [.ref (371), .int (nI t), .int ((bI (B && allN (agJ im t k) j))), .int (nI k), .int (nI j)] [] (im) P := by
  intro n
  induction n with
  | zero =>
    intro j hj
    have hie : r = j := by omega
    subst hie
    refine g_iload k99_115 rfl ?_
    refine g_aload_n k99_117 rfl ?_
    refine g_getr k99_118 (sM371) (by decide) (mo_ranges hO) ?_
    refine g_bipush (v := nI 60) k99_121 bp_60 ?_
    refine g_ialv (v := nI r) k99_123 (sM388) (by decide) (by decide) (hr) ?_
    refine g_icmp_ge k99_124 (fun _ => ?_) (fun h9 => absurd (nI_le (Nat.le_refl _) (by omega)) h9)
    exact kk _
  | succ n ih =>
    intro j hj
    have hlt : j < r := by omega
    refine g_iload k99_115 rfl ?_
    refine g_aload_n k99_117 rfl ?_
    refine g_getr k99_118 (sM371) (by decide) (mo_ranges hO) ?_
    refine g_bipush (v := nI 60) k99_121 bp_60 ?_
    refine g_ialv (v := nI r) k99_123 (sM388) (by decide) (by decide) (hr) ?_
    refine g_icmp_ge k99_124 (fun h9 => absurd h9 (nI_ge (by omega) (by omega))) (fun _ => ?_)
    refine g_iload_n k99_127 rfl ?_
    refine g_if_eq k99_128 (fun g => ?_) (fun g => ?_)
    · have b0 := bI_0 g
      have b1 := allN_f b0 (show j ≤ r by omega)
      have := kk (.int (nI j))
      rw [b1] at this
      rw [b0]
      exact this
    · have b1 := bI_1 g
      refine g_aload_n k99_131 rfl ?_
      refine g_getr k99_132 (sM371) (by decide) (mo_from hO) ?_
      refine g_iconst (v := 2) k99_135 ic_2 ?_
      refine g_iload_n k99_136 rfl ?_
      refine g_imul k99_137 ?_
      refine g_iload k99_138 rfl ?_
      refine g_iadd k99_140 ?_
      refine g_top (y := nI (2 * t + j)) (by rw [show (2 : Int32) = nI 2 from rfl, pk_mul, nI_add]) ?_
      refine g_ialv k99_141 (sM389) (by omega) (by decide) (rfl) ?_
      refine g_aload_n k99_142 rfl ?_
      refine g_getr k99_143 (sM371) (by decide) (mo_from hO) ?_
      refine g_bipush (v := 120) k99_146 bp_120 ?_
      refine g_iload k99_148 rfl ?_
      refine g_iadd k99_150 ?_
      refine g_top (y := nI (120 + j)) (nI_add 120 _) ?_
      refine g_ialv k99_151 (sM389) (by omega) (by decide) (rfl) ?_
      refine g_icmp_ne k99_152 (fun d1 => ?_) (fun d1 => ?_)
      · refine g_iconst (v := 0) k99_217 ic_0 ?_
        refine g_istore_n k99_218 (by decide) rfl ?_
        refine g_iincv (y := nI (j + 1)) k99_219 rfl (by decide) (inc_1 _) rfl ?_
        refine g_goto k99_222 ?_
        have e1 : (B && allN (agJ im t k) (j + 1)) = false := by
          show (B && (allN (agJ im t k) j && agJ im t k j)) = _
          rw [← Bool.and_assoc, b1]
          show agJ im t k j = _
          simp [agJ, d1]
        have := ih (j + 1) (by omega)
        rw [e1] at this
        exact this
      · refine g_aload_n k99_155 rfl ?_
        refine g_getr k99_156 (sM371) (by decide) (mo_to hO) ?_
        refine g_iconst (v := 2) k99_159 ic_2 ?_
        refine g_iload_n k99_160 rfl ?_
        refine g_imul k99_161 ?_
        refine g_iload k99_162 rfl ?_
        refine g_iadd k99_164 ?_
        refine g_top (y := nI (2 * t + j)) (by rw [show (2 : Int32) = nI 2 from rfl, pk_mul, nI_add]) ?_
        refine g_ialv k99_165 (sM390) (by omega) (by decide) (rfl) ?_
        refine g_aload_n k99_166 rfl ?_
        refine g_getr k99_167 (sM371) (by decide) (mo_to hO) ?_
        refine g_bipush (v := 120) k99_170 bp_120 ?_
        refine g_iload k99_172 rfl ?_
        refine g_iadd k99_174 ?_
        refine g_top (y := nI (120 + j)) (nI_add 120 _) ?_
        refine g_ialv k99_175 (sM390) (by omega) (by decide) (rfl) ?_
        refine g_icmp_ne k99_176 (fun d2 => ?_) (fun d2 => ?_)
        · refine g_iconst (v := 0) k99_217 ic_0 ?_
          refine g_istore_n k99_218 (by decide) rfl ?_
          refine g_iincv (y := nI (j + 1)) k99_219 rfl (by decide) (inc_1 _) rfl ?_
          refine g_goto k99_222 ?_
          have e1 : (B && allN (agJ im t k) (j + 1)) = false := by
            show (B && (allN (agJ im t k) j && agJ im t k j)) = _
            rw [← Bool.and_assoc, b1]
            show agJ im t k j = _
            simp [agJ, d2]
          have := ih (j + 1) (by omega)
          rw [e1] at this
          exact this
        · refine g_aload_n k99_179 rfl ?_
          refine g_getr k99_180 (sM371) (by decide) (mo_seen hO) ?_
          refine g_bipush (v := 16) k99_183 bp_16 ?_
          refine g_iconst (v := 2) k99_185 ic_2 ?_
          refine g_iload_n k99_186 rfl ?_
          refine g_imul k99_187 ?_
          refine g_iload k99_188 rfl ?_
          refine g_iadd k99_190 ?_
          refine g_top (y := nI (2 * t + j)) (by rw [show (2 : Int32) = nI 2 from rfl, pk_mul, nI_add]) ?_
          refine g_imul k99_191 ?_
          refine g_top (y := nI (16 * (2 * t + j))) (by rw [show (16 : Int32) = nI 16 from rfl, pk_mul]) ?_
          refine g_iload_n k99_192 rfl ?_
          refine g_iadd k99_193 ?_
          refine g_top (y := nI (16 * (2 * t + j) + k)) (nI_add _ _) ?_
          refine g_ialv k99_194 (sM391) (by omega) (by decide) (rfl) ?_
          refine g_aload_n k99_195 rfl ?_
          refine g_getr k99_196 (sM371) (by decide) (mo_seen hO) ?_
          refine g_bipush (v := 16) k99_199 bp_16 ?_
          refine g_bipush (v := 120) k99_201 bp_120 ?_
          refine g_iload k99_203 rfl ?_
          refine g_iadd k99_205 ?_
          refine g_top (y := nI (120 + j)) (nI_add 120 _) ?_
          refine g_imul k99_206 ?_
          refine g_top (y := nI (16 * (120 + j))) (by rw [show (16 : Int32) = nI 16 from rfl, pk_mul]) ?_
          refine g_iload_n k99_207 rfl ?_
          refine g_iadd k99_208 ?_
          refine g_top (y := nI (16 * (120 + j) + k)) (nI_add _ _) ?_
          refine g_ialv k99_209 (sM391) (by omega) (by decide) (rfl) ?_
          refine g_icmp_ne k99_210 (fun d3 => ?_) (fun d3 => ?_)
          · refine g_iconst (v := 0) k99_217 ic_0 ?_
            refine g_istore_n k99_218 (by decide) rfl ?_
            refine g_iincv (y := nI (j + 1)) k99_219 rfl (by decide) (inc_1 _) rfl ?_
            refine g_goto k99_222 ?_
            have e1 : (B && allN (agJ im t k) (j + 1)) = false := by
              show (B && (allN (agJ im t k) j && agJ im t k j)) = _
              rw [← Bool.and_assoc, b1]
              show agJ im t k j = _
              simp [agJ, d3]
            have := ih (j + 1) (by omega)
            rw [e1] at this
            exact this
          · refine g_iconst (v := 1) k99_213 ic_1 ?_
            refine g_goto k99_214 ?_
            refine g_istore_n k99_218 (by decide) rfl ?_
            refine g_iincv (y := nI (j + 1)) k99_219 rfl (by decide) (inc_1 _) rfl ?_
            refine g_goto k99_222 ?_
            have e1 : (B && allN (agJ im t k) (j + 1)) = true := by
              show (B && (allN (agJ im t k) j && agJ im t k j)) = _
              rw [← Bool.and_assoc, b1]
              show agJ im t k j = _
              simp [agJ, d1, d2, d3]
            have := ih (j + 1) (by omega)
            rw [e1] at this
            exact this

set_option maxRecDepth 20000 in
set_option maxHeartbeats 4000000 in
theorem l99 {LS : Nat} {rm : Nat → Nat → Option Nat} {im : Nat → Nat → Int32} {P : Option Value → (Nat → Nat → Int32) → Prop} {t r : Nat} (hO : isMo LS rm) (ht : t < 60) (hr : im 388 60 = nI r) (hr2 : r ≤ 2) (h1 : P (some (.int (bI (agA im t r 16)))) im) : ∀ (n i : Nat), i + n = 16 → ∀ (u : Value), Gm LS rm 99 24 [.ref (371), .int (nI t), .int ((bI (agA im t r i))), .int (nI i), u] [] (im) P := by
  intro n
  induction n with
  | zero =>
    intro i hi u
    have hie : i = 16 := by omega
    subst hie
    refine g_iload_n k99_24 rfl ?_
    refine g_bipush (v := 16) k99_25 bp_16 ?_
    refine g_icmp_ge k99_27 (fun _ => ?_) (fun h9 => absurd (nI_le (Nat.le_refl _) (by decide)) h9)
    refine g_iload_n k99_231 rfl ?_
    exact g_retz k99_232 rfl (by cases agA im t r 16 <;> decide) (h1)
  | succ n ih =>
    intro i hi u
    have hlt : i < 16 := by omega
    refine g_iload_n k99_24 rfl ?_
    refine g_bipush (v := 16) k99_25 bp_16 ?_
    refine g_icmp_ge k99_27 (fun h9 => absurd h9 (nI_ge hlt (by decide))) (fun _ => ?_)
    refine g_iload_n k99_30 rfl ?_
    refine g_if_eq k99_31 (fun g => ?_) (fun g => ?_)
    · have b0 := bI_0 g
      refine g_iconst (v := 0) k99_110 ic_0 ?_
      refine g_istore_n k99_111 (by decide) rfl ?_
      refine g_iconst (v := 0) k99_112 ic_0 ?_
      refine g_istore k99_113 (by decide) rfl ?_
      have e1 : (agA im t r i && agK im t i) = false := by
        rw [b0]; rfl
      have e2 : (false && allN (agJ im t i) 0) = false := Bool.and_true _
      have e3 : agA im t r (i + 1) = (false && allN (agJ im t i) r) := by
        unfold agA at e1 ⊢
        show (decide (im 388 t = im 388 60) && (allN (fun k => agK im t k && allN (agJ im t k) r) i && (agK im t i && allN (agJ im t i) r))) = _
        rw [← Bool.and_assoc, ← Bool.and_assoc, e1]
      have hin := l99i (k := i) (B := false) (P := P) hO ht hlt hr hr2 (fun u => ?_) r 0 (by omega)
      · rw [e2] at hin
        exact hin
      · refine g_iincv (y := nI (i + 1)) k99_225 rfl (by decide) (inc_1 i) rfl ?_
        refine g_goto k99_228 ?_
        have := ih (i + 1) (by omega) u
        rw [e3] at this
        exact this
    · have b1 := bI_1 g
      refine g_aload_n k99_34 rfl ?_
      refine g_getr k99_35 (sM371) (by decide) (mo_read hO) ?_
      refine g_bipush (v := 16) k99_38 bp_16 ?_
      refine g_iload_n k99_40 rfl ?_
      refine g_imul k99_41 ?_
      refine g_iload_n k99_42 rfl ?_
      refine g_iadd k99_43 ?_
      refine g_top (y := nI (16 * t + i)) (by rw [show (16 : Int32) = nI 16 from rfl, pk_mul, nI_add]) ?_
      refine g_ialv k99_44 (sM385) (by omega) (by decide) (rfl) ?_
      refine g_aload_n k99_45 rfl ?_
      refine g_getr k99_46 (sM371) (by decide) (mo_read hO) ?_
      refine g_sipush (v := 960) k99_49 sp_960 ?_
      refine g_iload_n k99_52 rfl ?_
      refine g_iadd k99_53 ?_
      refine g_top (y := nI (960 + i)) (nI_add 960 _) ?_
      refine g_ialv k99_54 (sM385) (by omega) (by decide) (rfl) ?_
      refine g_icmp_ne k99_55 (fun d1 => ?_) (fun d1 => ?_)
      · refine g_iconst (v := 0) k99_110 ic_0 ?_
        refine g_istore_n k99_111 (by decide) rfl ?_
        refine g_iconst (v := 0) k99_112 ic_0 ?_
        refine g_istore k99_113 (by decide) rfl ?_
        have e1 : (agA im t r i && agK im t i) = false := by
          rw [b1]; show agK im t i = _; simp [agK, d1]
        have e2 : (false && allN (agJ im t i) 0) = false := Bool.and_true _
        have e3 : agA im t r (i + 1) = (false && allN (agJ im t i) r) := by
          unfold agA at e1 ⊢
          show (decide (im 388 t = im 388 60) && (allN (fun k => agK im t k && allN (agJ im t k) r) i && (agK im t i && allN (agJ im t i) r))) = _
          rw [← Bool.and_assoc, ← Bool.and_assoc, e1]
        have hin := l99i (k := i) (B := false) (P := P) hO ht hlt hr hr2 (fun u => ?_) r 0 (by omega)
        · rw [e2] at hin
          exact hin
        · refine g_iincv (y := nI (i + 1)) k99_225 rfl (by decide) (inc_1 i) rfl ?_
          refine g_goto k99_228 ?_
          have := ih (i + 1) (by omega) u
          rw [e3] at this
          exact this
      · refine g_aload_n k99_58 rfl ?_
        refine g_getr k99_59 (sM371) (by decide) (mo_wrote hO) ?_
        refine g_bipush (v := 16) k99_62 bp_16 ?_
        refine g_iload_n k99_64 rfl ?_
        refine g_imul k99_65 ?_
        refine g_iload_n k99_66 rfl ?_
        refine g_iadd k99_67 ?_
        refine g_top (y := nI (16 * t + i)) (by rw [show (16 : Int32) = nI 16 from rfl, pk_mul, nI_add]) ?_
        refine g_ialv k99_68 (sM386) (by omega) (by decide) (rfl) ?_
        refine g_aload_n k99_69 rfl ?_
        refine g_getr k99_70 (sM371) (by decide) (mo_wrote hO) ?_
        refine g_sipush (v := 960) k99_73 sp_960 ?_
        refine g_iload_n k99_76 rfl ?_
        refine g_iadd k99_77 ?_
        refine g_top (y := nI (960 + i)) (nI_add 960 _) ?_
        refine g_ialv k99_78 (sM386) (by omega) (by decide) (rfl) ?_
        refine g_icmp_ne k99_79 (fun d2 => ?_) (fun d2 => ?_)
        · refine g_iconst (v := 0) k99_110 ic_0 ?_
          refine g_istore_n k99_111 (by decide) rfl ?_
          refine g_iconst (v := 0) k99_112 ic_0 ?_
          refine g_istore k99_113 (by decide) rfl ?_
          have e1 : (agA im t r i && agK im t i) = false := by
            rw [b1]; show agK im t i = _; simp [agK, d2]
          have e2 : (false && allN (agJ im t i) 0) = false := Bool.and_true _
          have e3 : agA im t r (i + 1) = (false && allN (agJ im t i) r) := by
            unfold agA at e1 ⊢
            show (decide (im 388 t = im 388 60) && (allN (fun k => agK im t k && allN (agJ im t k) r) i && (agK im t i && allN (agJ im t i) r))) = _
            rw [← Bool.and_assoc, ← Bool.and_assoc, e1]
          have hin := l99i (k := i) (B := false) (P := P) hO ht hlt hr hr2 (fun u => ?_) r 0 (by omega)
          · rw [e2] at hin
            exact hin
          · refine g_iincv (y := nI (i + 1)) k99_225 rfl (by decide) (inc_1 i) rfl ?_
            refine g_goto k99_228 ?_
            have := ih (i + 1) (by omega) u
            rw [e3] at this
            exact this
        · refine g_aload_n k99_82 rfl ?_
          refine g_getr k99_83 (sM371) (by decide) (mo_written hO) ?_
          refine g_bipush (v := 16) k99_86 bp_16 ?_
          refine g_iload_n k99_88 rfl ?_
          refine g_imul k99_89 ?_
          refine g_iload_n k99_90 rfl ?_
          refine g_iadd k99_91 ?_
          refine g_top (y := nI (16 * t + i)) (by rw [show (16 : Int32) = nI 16 from rfl, pk_mul, nI_add]) ?_
          refine g_ialv k99_92 (sM387) (by omega) (by decide) (rfl) ?_
          refine g_aload_n k99_93 rfl ?_
          refine g_getr k99_94 (sM371) (by decide) (mo_written hO) ?_
          refine g_sipush (v := 960) k99_97 sp_960 ?_
          refine g_iload_n k99_100 rfl ?_
          refine g_iadd k99_101 ?_
          refine g_top (y := nI (960 + i)) (nI_add 960 _) ?_
          refine g_ialv k99_102 (sM387) (by omega) (by decide) (rfl) ?_
          refine g_icmp_ne k99_103 (fun d3 => ?_) (fun d3 => ?_)
          · refine g_iconst (v := 0) k99_110 ic_0 ?_
            refine g_istore_n k99_111 (by decide) rfl ?_
            refine g_iconst (v := 0) k99_112 ic_0 ?_
            refine g_istore k99_113 (by decide) rfl ?_
            have e1 : (agA im t r i && agK im t i) = false := by
              rw [b1]; show agK im t i = _; simp [agK, d3]
            have e2 : (false && allN (agJ im t i) 0) = false := Bool.and_true _
            have e3 : agA im t r (i + 1) = (false && allN (agJ im t i) r) := by
              unfold agA at e1 ⊢
              show (decide (im 388 t = im 388 60) && (allN (fun k => agK im t k && allN (agJ im t k) r) i && (agK im t i && allN (agJ im t i) r))) = _
              rw [← Bool.and_assoc, ← Bool.and_assoc, e1]
            have hin := l99i (k := i) (B := false) (P := P) hO ht hlt hr hr2 (fun u => ?_) r 0 (by omega)
            · rw [e2] at hin
              exact hin
            · refine g_iincv (y := nI (i + 1)) k99_225 rfl (by decide) (inc_1 i) rfl ?_
              refine g_goto k99_228 ?_
              have := ih (i + 1) (by omega) u
              rw [e3] at this
              exact this
          · refine g_iconst (v := 1) k99_106 ic_1 ?_
            refine g_goto k99_107 ?_
            refine g_istore_n k99_111 (by decide) rfl ?_
            refine g_iconst (v := 0) k99_112 ic_0 ?_
            refine g_istore k99_113 (by decide) rfl ?_
            have e1 : (agA im t r i && agK im t i) = true := by
              rw [b1]; show agK im t i = _; simp [agK, d1, d2, d3]
            have e2 : (true && allN (agJ im t i) 0) = true := Bool.and_true _
            have e3 : agA im t r (i + 1) = (true && allN (agJ im t i) r) := by
              unfold agA at e1 ⊢
              show (decide (im 388 t = im 388 60) && (allN (fun k => agK im t k && allN (agJ im t k) r) i && (agK im t i && allN (agJ im t i) r))) = _
              rw [← Bool.and_assoc, ← Bool.and_assoc, e1]
            have hin := l99i (k := i) (B := true) (P := P) hO ht hlt hr hr2 (fun u => ?_) r 0 (by omega)
            · rw [e2] at hin
              exact hin
            · refine g_iincv (y := nI (i + 1)) k99_225 rfl (by decide) (inc_1 i) rfl ?_
              refine g_goto k99_228 ?_
              have := ih (i + 1) (by omega) u
              rw [e3] at this
              exact this

set_option maxRecDepth 20000 in
set_option maxHeartbeats 4000000 in
theorem c99 {LS : Nat} {rm : Nat → Nat → Option Nat} {im : Nat → Nat → Int32} {P : Option Value → (Nat → Nat → Int32) → Prop} {t r : Nat} (hO : isMo LS rm) (ht : t < 60) (hr : im 388 60 = nI r) (hr2 : r ≤ 2) (h1 : P (some (.int (bI (agA im t r 16)))) im) : Gm LS rm 99 0 (en_in 99 [.ref 371, .int (nI t)]) [] im P := by
  show Gm LS rm 99 0 [.ref (371), .int (nI t), .long 0, .long 0, .long 0] [] im P
  refine g_aload_n k99_0 rfl ?_
  refine g_getr k99_1 (sM371) (by decide) (mo_ranges hO) ?_
  refine g_iload_n k99_4 rfl ?_
  refine g_ialv k99_5 (sM388) (by omega) (by decide) (rfl) ?_
  refine g_aload_n k99_6 rfl ?_
  refine g_getr k99_7 (sM371) (by decide) (mo_ranges hO) ?_
  refine g_bipush (v := nI 60) k99_10 bp_60 ?_
  refine g_ialv k99_12 (sM388) (by decide) (by decide) (rfl) ?_
  refine g_icmp_ne k99_13 (fun g => ?_) (fun g => ?_)
  · refine g_iconst (v := 0) k99_20 ic_0 ?_
    refine g_istore_n k99_21 (by decide) rfl ?_
    refine g_iconst (v := 0) k99_22 ic_0 ?_
    refine g_istore_n k99_23 (by decide) rfl ?_
    have e1 : agA im t r 0 = false := by unfold agA; simp [allN, g]
    have := l99 hO ht hr hr2 h1 16 0 (by omega) (.long 0)
    rw [e1] at this
    exact this
  · refine g_iconst (v := 1) k99_16 ic_1 ?_
    refine g_goto k99_17 ?_
    refine g_istore_n k99_21 (by decide) rfl ?_
    refine g_iconst (v := 0) k99_22 ic_0 ?_
    refine g_istore_n k99_23 (by decide) rfl ?_
    have e1 : agA im t r 0 = true := by unfold agA; simp [allN, g]
    have := l99 hO ht hr hr2 h1 16 0 (by omega) (.long 0)
    rw [e1] at this
    exact this

theorem rgR_eq {f o f2 o2 : Int32} {s s2 c c2 : Nat → Int32} (h : rgR f o s c) (h2 : rgR f2 o2 s2 c2) (hc : ∀ k, k < 16 → c k = c2 k) : f = f2 ∧ o = o2 ∧ ∀ k, k < 16 → s k = s2 k := by
  obtain ⟨lo, hi, e1, e2, e3, e4, e5, e6⟩ := h
  obtain ⟨lo2, hi2, g1, g2, g3, g4, g5, g6⟩ := h2
  have neg : ∀ {x : Int32}, 0 ≤ x → x ≠ -1 := fun h z => by rw [z] at h; exact absurd h (by decide)
  have key : ∀ k, k < 16 → ((lo ≤ k ∧ k ≤ hi) ↔ (lo2 ≤ k ∧ k ≤ hi2)) := by
    intro k hk
    constructor
    · intro w
      apply Decidable.byContradiction
      intro z
      have a1 := (e6 k hk).1 w
      have a2 := (g6 k hk).2 z
      rw [← hc k hk, a1.1] at a2
      exact neg a1.2 a2.1
    · intro w
      apply Decidable.byContradiction
      intro z
      have a1 := (g6 k hk).1 w
      have a2 := (e6 k hk).2 z
      rw [hc k hk, a1.1] at a2
      exact neg a1.2 a2.1
  have k1 := key lo e4
  have k2 := key hi e3
  have k3 := key lo2 g4
  have k4 := key hi2 g3
  have q1 : lo = lo2 := by omega
  have q2 : hi = hi2 := by omega
  subst q1
  subst q2
  refine ⟨by rw [e1, g1], by rw [e2, g2], fun k hk => ?_⟩
  by_cases w : lo ≤ k ∧ k ≤ hi
  · rw [← ((e6 k hk).1 w).1, ← ((g6 k hk).1 w).1, hc k hk]
  · rw [((e6 k hk).2 w).2, ((g6 k hk).2 w).2]
theorem rgR_fn {f o : Int32} {s s2 c c2 : Nat → Int32} (h : rgR f o s c) (h2 : rgR f o s2 c2) (hs : ∀ k, k < 16 → s k = s2 k) : ∀ k, k < 16 → c k = c2 k := by
  obtain ⟨lo, hi, e1, e2, e3, e4, e5, e6⟩ := h
  obtain ⟨lo2, hi2, g1, g2, g3, g4, g5, g6⟩ := h2
  have q1 : lo = lo2 := nI_inj (e1.symm.trans g1) (by omega) (by omega)
  have q2 : hi = hi2 := nI_inj (e2.symm.trans g2) (by omega) (by omega)
  subst q1
  subst q2
  intro k hk
  by_cases w : lo ≤ k ∧ k ≤ hi
  · rw [((e6 k hk).1 w).1, ((g6 k hk).1 w).1, hs k hk]
  · rw [((e6 k hk).2 w).1, ((g6 k hk).2 w).1]
theorem agA_iff {im : Nat → Nat → Int32} {t r r2 : Nat} {c c2 : Nat → Int32} (h : resR im t c r) (h2 : resR im 60 c2 r2) : agA im t r2 16 = true ↔ ((∀ k, k < 80 → c k = c2 k) ∧ r = r2) := by
  obtain ⟨a1, a2, -, a4, a5⟩ := h
  obtain ⟨b1, b2, -, b4, b5⟩ := h2
  have hall : agA im t r2 16 = true ↔ (im 388 t = im 388 60 ∧ ∀ k, k < 16 → (im 385 (16 * t + k) = im 385 (960 + k) ∧ im 386 (16 * t + k) = im 386 (960 + k) ∧ im 387 (16 * t + k) = im 387 (960 + k)) ∧ ∀ j, j < r2 → im 389 (2 * t + j) = im 389 (120 + j) ∧ im 390 (2 * t + j) = im 390 (120 + j) ∧ im 391 (16 * (2 * t + j) + k) = im 391 (16 * (120 + j) + k)) := by
    unfold agA
    rw [Bool.and_eq_true, allN_iff, decide_eq_true_iff]
    apply and_congr Iff.rfl
    apply forall_congr'
    intro k
    apply imp_congr Iff.rfl
    rw [Bool.and_eq_true, allN_iff]
    apply and_congr
    · unfold agK; simp [and_assoc]
    · apply forall_congr'
      intro j
      apply imp_congr Iff.rfl
      unfold agJ
      simp [and_assoc]
  rw [hall]
  constructor
  · rintro ⟨w1, w2⟩
    rw [a1, b1] at w1
    have hr : r = r2 := nI_inj w1 (by omega) (by omega)
    subst hr
    refine ⟨fun k hk => ?_, rfl⟩
    have low : ∀ k, k < 16 → c k = c2 k ∧ c (48 + k) = c2 (48 + k) ∧ c (64 + k) = c2 (64 + k) := by
      intro k hk
      obtain ⟨x1, x2, x3⟩ := a4 k hk
      obtain ⟨y1, y2, y3⟩ := b4 k hk
      obtain ⟨⟨z1, z2, z3⟩, -⟩ := w2 k hk
      rw [← x1, ← x2, ← x3, ← y1, ← y2, ← y3]
      exact ⟨z1, z2, z3⟩
    have row : ∀ j, j < 2 → ∀ k, k < 16 → c (16 * (1 + j) + k) = c2 (16 * (1 + j) + k) := by
      intro j hj k hk
      by_cases z : j < r
      · have e := (a5 j hj).1 z
        have f := (b5 j hj).1 z
        have q := (w2 k hk).2 j z
        rw [q.1, q.2.1] at e
        exact rgR_fn e f (fun k hk => ((w2 k hk).2 j z).2.2) k hk
      · rw [(a5 j hj).2 (by omega) k hk, (b5 j hj).2 (by omega) k hk]
    by_cases c1 : k < 16
    · exact (low k c1).1
    · by_cases c2' : k < 48
      · have := row (k / 16 - 1) (by omega) (k % 16) (by omega)
        rw [show 16 * (1 + (k / 16 - 1)) + k % 16 = k by omega] at this
        exact this
      · by_cases c3 : k < 64
        · have := (low (k - 48) (by omega)).2.1
          rw [show 48 + (k - 48) = k by omega] at this
          exact this
        · have := (low (k - 64) (by omega)).2.2
          rw [show 64 + (k - 64) = k by omega] at this
          exact this
  · rintro ⟨w1, w2⟩
    subst w2
    refine ⟨by rw [a1, b1], fun k hk => ⟨?_, fun j hj => ?_⟩⟩
    · obtain ⟨x1, x2, x3⟩ := a4 k hk
      obtain ⟨y1, y2, y3⟩ := b4 k hk
      refine ⟨x1.trans ((w1 k (by omega)).trans y1.symm), x2.trans ((w1 _ (by omega)).trans y2.symm), x3.trans ((w1 _ (by omega)).trans y3.symm)⟩
    · have q := rgR_eq ((a5 j (by omega)).1 hj) ((b5 j (by omega)).1 hj) (fun k hk => w1 _ (by omega))
      exact ⟨q.1, q.2.1, q.2.2 k hk⟩
